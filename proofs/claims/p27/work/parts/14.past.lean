/-! the past and the kept states: a pool of states above all else -/
def PaAt (σ : gS) (x : Nat) (P : Nat) (g : Nat → Option Nat) : Prop := σ x = gO 1 [.ref (x + 1), .int (nI P)] ∧ σ (x + 1) = gR 5 g
theorem PaAt.c0 {σ : gS} {x P : Nat} {g : Nat → Option Nat} (h : PaAt σ x P g) : σ x = gO 1 [.ref (x + 1), .int (nI P)] := h.1
theorem PaAt.c1 {σ : gS} {x P : Nat} {g : Nat → Option Nat} (h : PaAt σ x P g) : σ (x + 1) = gR 5 g := h.2
theorem PaAt.fr {σ τ : gS} {x P : Nat} {g : Nat → Option Nat} (h : PaAt σ x P g) (hq : ∀ q : Nat, x ≤ q → q < x + 2 → τ q = σ q) : PaAt τ x P g := ⟨(hq _ (by omega) (by omega)).trans h.1, (hq _ (by omega) (by omega)).trans h.2⟩
theorem PaAt.w1 {σ : gS} {x P : Nat} {g : Nat → Option Nat} (h : PaAt σ x P g) (g2 : Nat → Option Nat) : PaAt (gup σ (x + 1) (gR 5 g2)) x P g2 := ⟨by rw [gup_n (by omega)]; exact h.1, by rw [gup_s]⟩
theorem PaAt.p1 {σ : gS} {x P : Nat} {g : Nat → Option Nat} (h : PaAt σ x P g) (v : Nat) : PaAt (gup σ x (gO 1 [.ref (x + 1), .int (nI v)])) x v g := ⟨by rw [gup_s], by rw [gup_n (by omega)]; exact h.2⟩
/-- the pool's places: the five of the past, then the two kept ones -/
def pk (g sg : Nat → Option Nat) (k : Nat) : Option Nat := if k < 5 then g k else sg (k - 5)
theorem pk_g {g sg : Nat → Option Nat} {k : Nat} (h : k < 5) : pk g sg k = g k := if_pos h
theorem pk_s {g sg : Nat → Option Nat} {k : Nat} : pk g sg (k + 5) = sg k := by rw [pk, if_neg (by omega), Nat.add_sub_cancel]
def uS (C : Nat → sS) (k : Nat) (T : sS) : Nat → sS := fun j => if j = k then T else C j
theorem uS_s (C : Nat → sS) (k : Nat) (T : sS) : uS C k T k = T := if_pos rfl
theorem uS_n {C : Nat → sS} {k j : Nat} {T : sS} (h : j ≠ k) : uS C k T j = C j := if_neg h
theorem va_up_s {α : Type} (f : Nat → α) (k : Nat) (v : α) : va_up f k v k = v := if_pos rfl
theorem va_up_n {α : Type} {f : Nat → α} {k j : Nat} {v : α} (h : j ≠ k) : va_up f k v j = f j := if_neg h
def PlAt (σ : gS) (b : Nat) (g sg : Nat → Option Nat) (C : Nat → sS) (z : Nat) : Prop :=
  b ≤ z ∧ ∀ k y : Nat, k < 7 → pk g sg k = some y → b ≤ y ∧ y + 17 ≤ z ∧ StAt σ y (C k) ∧ ∀ j y2 : Nat, j < 7 → j ≠ k → pk g sg j = some y2 → y + 17 ≤ y2 ∨ y2 + 17 ≤ y
theorem PlAt.fr {σ τ : gS} {b z : Nat} {g sg : Nat → Option Nat} {C : Nat → sS} (h : PlAt σ b g sg C z) (hq : ∀ q : Nat, b ≤ q → q < z → τ q = σ q) : PlAt τ b g sg C z := ⟨h.1, fun k y hk e => by
  obtain ⟨h1, h2, h3, h4⟩ := h.2 k y hk e
  exact ⟨h1, h2, h3.fr (fun q a1 a2 => hq q (by omega) (by omega)), h4⟩⟩
theorem PlAt.g {σ : gS} {b z : Nat} {g sg : Nat → Option Nat} {C : Nat → sS} (h : PlAt σ b g sg C z) {k y : Nat} (hk : k < 5) (e : g k = some y) : b ≤ y ∧ y + 17 ≤ z ∧ StAt σ y (C k) := by
  obtain ⟨h1, h2, h3, -⟩ := h.2 k y (by omega) (by rw [pk_g hk]; exact e)
  exact ⟨h1, h2, h3⟩
theorem PlAt.s {σ : gS} {b z : Nat} {g sg : Nat → Option Nat} {C : Nat → sS} (h : PlAt σ b g sg C z) {k y : Nat} (hk : k < 2) (e : sg k = some y) : b ≤ y ∧ y + 17 ≤ z ∧ StAt σ y (C (k + 5)) := by
  obtain ⟨h1, h2, h3, -⟩ := h.2 (k + 5) y (by omega) (by rw [pk_s]; exact e)
  exact ⟨h1, h2, h3⟩
/-- one of the pool's states is written -/
theorem PlAt.set {σ τ : gS} {b z : Nat} {g sg : Nat → Option Nat} {C : Nat → sS} (h : PlAt σ b g sg C z) {k y : Nat} {T : sS} (hk : k < 7) (e : pk g sg k = some y) (hT : StAt τ y T) (ha : gAs (gZo y 17) σ τ) : PlAt τ b g sg (uS C k T) z := ⟨h.1, fun j y2 hj e2 => by
  obtain ⟨h1, h2, h3, h4⟩ := h.2 j y2 hj e2
  refine ⟨h1, h2, ?_, h4⟩
  by_cases c : j = k
  · subst c
    rw [e] at e2
    cases e2
    rw [uS_s]
    exact hT
  · rw [uS_n c]
    have h5 := h4 k y hk (Ne.symm c) e
    exact h3.fr (fun q a1 a2 => ha q (fun h6 => by have h7 := h6.1; have h8 := h6.2; omega))⟩
/-- a new state comes into the pool -/
theorem PlAt.new {σ : gS} {b z : Nat} {g sg g2 sg2 : Nat → Option Nat} {C : Nat → sS} (h : PlAt σ b g sg C z) {k : Nat} {T : sS} (hk : k < 7) (hs : pk g2 sg2 k = some z) (hn : ∀ j, j < 7 → j ≠ k → pk g2 sg2 j = pk g sg j) (hT : StAt σ z T) : PlAt σ b g2 sg2 (uS C k T) (z + 17) := ⟨Nat.le_add_right_of_le h.1, fun j y hj e => by
  by_cases c : j = k
  · subst c
    rw [hs] at e
    cases e
    refine ⟨h.1, Nat.le_refl _, by rw [uS_s]; exact hT, fun i y2 hi c e2 => ?_⟩
    rw [hn i hi c] at e2
    obtain ⟨h1, h2, -, -⟩ := h.2 i y2 hi e2
    exact Or.inr h2
  · rw [hn j hj c] at e
    obtain ⟨h1, h2, h3, h4⟩ := h.2 j y hj e
    refine ⟨h1, by omega, by rw [uS_n c]; exact h3, fun i y2 hi c2 e2 => ?_⟩
    by_cases c3 : i = k
    · subst c3
      rw [hs] at e2
      cases e2
      exact Or.inl h2
    · rw [hn i hi c3] at e2
      exact h4 i y2 hi c2 e2⟩
theorem PlAt.newg {σ : gS} {b z : Nat} {g sg : Nat → Option Nat} {C : Nat → sS} (h : PlAt σ b g sg C z) {k : Nat} {T : sS} (hk : k < 5) (hT : StAt σ z T) : PlAt σ b (va_up g k (some z)) sg (uS C k T) (z + 17) :=
  h.new (k := k) (by omega) (by rw [pk_g hk, va_up_s]) (fun j hj c => by simp only [pk]; rw [va_up_n c]) hT
theorem PlAt.news {σ : gS} {b z : Nat} {g sg : Nat → Option Nat} {C : Nat → sS} (h : PlAt σ b g sg C z) {k : Nat} {T : sS} (hk : k < 2) (hT : StAt σ z T) : PlAt σ b g (va_up sg k (some z)) (uS C (k + 5) T) (z + 17) :=
  h.new (k := k + 5) (by omega) (by rw [pk_s, va_up_s]) (fun j hj c => by
    simp only [pk]
    split
    · rfl
    · rw [va_up_n (by omega)]) hT
/-- the places change among themselves -/
theorem PlAt.perm {σ : gS} {b z : Nat} {g sg g2 sg2 : Nat → Option Nat} {C C2 : Nat → sS} (h : PlAt σ b g sg C z) (π : Nat → Nat) (hπ : ∀ k, k < 7 → π k < 7) (hi : ∀ j k, j < 7 → k < 7 → j ≠ k → π j ≠ π k) (hg : ∀ k, k < 7 → pk g2 sg2 k = pk g sg (π k)) (hC : ∀ k, k < 7 → C2 k = C (π k)) : PlAt σ b g2 sg2 C2 z := ⟨h.1, fun k y hk e => by
  rw [hg k hk] at e
  obtain ⟨h1, h2, h3, h4⟩ := h.2 (π k) y (hπ k hk) e
  exact ⟨h1, h2, by rw [hC k hk]; exact h3, fun j y2 hj c e2 => h4 (π j) y2 (hπ j hj) (hi j k hj hk c) (by rw [← hg j hj]; exact e2)⟩⟩
theorem PlAt.ext {σ : gS} {b z : Nat} {g sg : Nat → Option Nat} {C C2 : Nat → sS} (h : PlAt σ b g sg C z) (hC : ∀ k, k < 7 → pk g sg k ≠ none → C2 k = C k) : PlAt σ b g sg C2 z := ⟨h.1, fun k y hk e => by
  obtain ⟨h1, h2, h3, h4⟩ := h.2 k y hk e
  exact ⟨h1, h2, by rw [hC k hk (by rw [e]; exact fun q => by cases q)]; exact h3, h4⟩⟩
/-- the first n + 1 places turned by one -/
def rtF {α : Type} (f : Nat → α) (n : Nat) : Nat → α := fun k => if k < n then f (k + 1) else if k = n then f 0 else f k
theorem rot_0 {α : Type} (f : Nat → α) : rtF f 0 = f := by
  funext k
  simp only [rtF]
  rw [if_neg (by omega)]
  split
  · subst_vars; rfl
  · rfl
theorem rot_s {α : Type} (f : Nat → α) (n : Nat) : va_up (va_up (rtF f n) n (rtF f n (n + 1))) (n + 1) (rtF f n n) = rtF f (n + 1) := by
  funext k
  simp only [va_up, rtF]
  rcases Nat.lt_trichotomy k n with c | c | c
  · rw [if_neg (by omega), if_neg (by omega), if_pos c, if_pos (by omega)]
  · subst c
    rw [if_neg (by omega), if_pos rfl, if_neg (by omega), if_neg (by omega), if_pos (by omega)]
  · by_cases c2 : k = n + 1
    · subst c2
      simp
    · have a1 : ¬ k = n := by omega
      have a2 : ¬ k < n := by omega
      have a3 : ¬ k < n + 1 := by omega
      simp only [if_neg c2, if_neg a1, if_neg a2, if_neg a3]
def rotp (n : Nat) : Nat → Nat := rtF (fun k => k) n
theorem rot_p {α : Type} (f : Nat → α) (n k : Nat) : rtF f n k = f (rotp n k) := by
  simp only [rotp, rtF]
  split
  · rfl
  · split <;> rfl
theorem rotp_lt {n k m : Nat} (hn : n < m) (hk : k < m) : rotp n k < m := by
  simp only [rotp, rtF]
  by_cases c : k < n
  · rw [if_pos c]; omega
  · rw [if_neg c]
    by_cases c2 : k = n
    · rw [if_pos c2]; omega
    · rw [if_neg c2]; exact hk
theorem rotp_big {n k : Nat} (hk : n < k) : rotp n k = k := by
  simp only [rotp, rtF]
  rw [if_neg (by omega), if_neg (by omega)]
theorem rotp_inj {n j k : Nat} (c : j ≠ k) : rotp n j ≠ rotp n k := by
  intro h
  simp only [rotp, rtF] at h
  by_cases aj : j < n
  · rw [if_pos aj] at h
    by_cases ak : k < n
    · rw [if_pos ak] at h
      omega
    · rw [if_neg ak] at h
      by_cases bk : k = n
      · rw [if_pos bk] at h
        omega
      · rw [if_neg bk] at h
        omega
  · rw [if_neg aj] at h
    by_cases bj : j = n
    · rw [if_pos bj] at h
      by_cases ak : k < n
      · rw [if_pos ak] at h
        omega
      · rw [if_neg ak] at h
        by_cases bk : k = n
        · rw [if_pos bk] at h
          omega
        · rw [if_neg bk] at h
          omega
    · rw [if_neg bj] at h
      by_cases ak : k < n
      · rw [if_pos ak] at h
        omega
      · rw [if_neg ak] at h
        by_cases bk : k = n
        · rw [if_pos bk] at h
          omega
        · rw [if_neg bk] at h
          omega
theorem PlAt.rot {σ : gS} {b z : Nat} {g sg : Nat → Option Nat} {C : Nat → sS} (h : PlAt σ b g sg C z) {n : Nat} (hn : n < 5) : PlAt σ b (rtF g n) sg (rtF C n) z := by
  refine h.perm (rotp n) (fun k hk => ?_) (fun j k hj hk c => ?_) (fun k hk => ?_) (fun k hk => rot_p C n k)
  · exact rotp_lt (by omega) hk
  · exact rotp_inj c
  · simp only [pk]
    by_cases c : k < 5
    · rw [if_pos c, if_pos (rotp_lt hn c), rot_p]
    · rw [rotp_big (by omega), if_neg c, if_neg c]
/-- what is recorded: the states in their order -/
def recS (C : Nat → sS) (P : Nat) (S : sS) : Nat → sS := if P < 5 then uS C P S else uS (rtF C 4) 4 S
def recP (P : Nat) : Nat := if P < 5 then P + 1 else 5
theorem PaAt.of0 {σ : gS} {x : Nat} (h0 : σ x = gO 1 [.ref (x + 1), .int 0]) (h1 : σ (x + 1) = gR 5 (fun _ => none)) : PaAt σ x 0 (fun _ => none) := ⟨h0, h1⟩

theorem nX1_init_X1 : ∀ w ∈ wsX10, w ∈ wsX1_init := by decide +kernel
set_option maxHeartbeats 4000000 in
set_option maxRecDepth 100000 in
theorem c_X1_init (l : Launch) (pa : Nat) (σ : gS) (h0 : σ pa = gO 1 [.null, .int 0]) : gM l yX1_init wsX1_init ({ frames := 1, cells := 1, slots := 5, locals := 12 } : Room) 1 5 [.ref pa] σ (pa + 1) (gxv (fun τ n => n = pa + 2 ∧ PaAt τ pa 0 (fun _ => none) ∧ gAs (gZo pa 2) σ τ)) := by
  refine gM_of (cc := cX1_init) (maxL := 1) (ret := none) (by decide) rfl (Nat.le_of_ble_eq_true rfl) ?_
  intro D ka lo hL hlo p e s m below meth c hx hb hr hts hown hml hlk hnm hK H locs ls hz hP hS hl
  have hl : lv_has ls 1 [(0, .ref pa)] := hl
  have hown : s.vm.findClass RX1 = some m.cls := hown
  have hag : gAs (gZo pa 2) σ σ := gAs.rf
  refine lv_aload_n hx hb dX1_init_0 rfl (lv_at hl 0 rfl) ?_
  refine W.objInit hx hb hown (hts (.methodLink RX1 3 objectInit) (by decide +kernel)) (hts (.instanceMethod objectInit) (by decide +kernel)) (hts (.code objectInit ⟨#[0xb1]⟩ 1 none) (by decide +kernel)) rfl (by rw [hml]; exact hl.1) rfl dX1_init_1 (Nat.le_of_ble_eq_true rfl) (Nat.le_of_ble_eq_true rfl) ?_
  refine W.eq (g2 := F0 m 4 ls []) rfl ?_
  refine lv_aload_n hx hb dX1_init_4 rfl (lv_at hl 0 rfl) ?_
  refine lv_iconst (v := (nI 5)) hx hb dX1_init_5 (by decide) ?_
  refine g_anew hx hb hts hown hK hz hP hL hS hlo (by decide +kernel) (n := nI 5) (N := 5) rfl (by omega) (Nat.le_of_ble_eq_true rfl) (Nat.le_of_ble_eq_true rfl) dX1_init_6 (fun H hz hP hL hS => ?_)
  have hlo : lo ≤ (pa + 1) + 1 := Nat.le_succ_of_le hlo
  obtain ⟨σ1, e1⟩ : ∃ υ0 : gS, υ0 = gup σ (pa + 1) (gR 5 (fun _ => none)) := ⟨_, rfl⟩
  have hP : gH D ka σ1 H := by rw [e1]; exact hP
  have hL : gL lo σ1 := by rw [e1]; exact hL
  have hag := hag.upe e1 (zo_k (by decide))
  refine g_putF (C := RX1) (T := TX1) (N := 2) hx hb hts hown hK hP hL hS (gup_off e1 (ad_0 1 (by decide)) h0) nX1_init_X1 tyX1 tyX1_ok nmX1 rfl 0 (by decide) (by decide +kernel) rfl rfl hnm rfl (v := .ref (pa + 1)) rfl rfl (Nat.le_of_ble_eq_true rfl) dX1_init_9 (fun H locs hq hP hL hS => ?_)
  have hz := hq.trans hz
  obtain ⟨σ2, e2⟩ : ∃ υ0 : gS, υ0 = gup σ1 pa (gO 1 [.ref (pa + 1), .int (0)]) := ⟨_, rfl⟩
  have hP : gH D ka σ2 H := by rw [e2]; exact hP
  have hL : gL lo σ2 := by rw [e2]; exact hL
  have hag := hag.upe e2 (zo_0 (by decide))
  refine W.widen (k := 1) (n := 5) (Nat.le_of_ble_eq_true rfl) (Nat.le_of_ble_eq_true rfl) ?_
  exact g_vret (z := (pa + 2)) hx hb hr hlk hz hP hL hS dX1_init_12 (gxv_i ⟨rfl, PaAt.of0 (gup_here e2) (gup_off e2 (ad_1 1 (by decide)) (gup_here e1)), hag⟩)

theorem nX1_forgetOldest_X1 : ∀ w ∈ wsX10, w ∈ wsX1_forgetOldest := by decide +kernel
set_option maxHeartbeats 4000000 in
set_option maxRecDepth 100000 in
theorem c_X1_forgetOldest (l : Launch) (pa b P : Nat) (g sg : Nat → Option Nat) (C : Nat → sS) (σ : gS) (sz : Nat) (hPa : PaAt σ pa P g) (hPl : PlAt σ b g sg C sz) (hb0 : pa + 2 ≤ b) (hP5 : P = 5) (hall : ∀ k : Nat, k < 5 → ∃ y, g k = some y) : gM l yX1_forgetOldest wsX1_forgetOldest ({ frames := 0, cells := 0, slots := 0, locals := 0 } : Room) 0 0 [.ref pa] σ sz (gxv (fun τ n => n = sz ∧ PaAt τ pa (P - 1) (rtF g 4) ∧ PlAt τ b (rtF g 4) sg (rtF C 4) sz ∧ gAs (gZo pa 2) σ τ)) := by
  refine gM_of (cc := cX1_forgetOldest) (maxL := 3) (ret := none) (by decide) rfl (Nat.le_of_ble_eq_true rfl) ?_
  intro D ka lo hL hlo p e s m below meth c hx hb hr hts hown hml hlk hnm hK H locs ls hz hP hS hl
  have hl : lv_has ls 3 [(0, .ref pa)] := hl
  have hown : s.vm.findClass RX1 = some m.cls := hown
  have hag : gAs (gZo pa 2) σ σ := gAs.rf
  have hPl0 := hPl
  refine lv_iconst (v := (nI 1)) hx hb dX1_forgetOldest_0 (by decide) ?_
  refine lv_istore_n (lv' := [(1, .int (nI 1)), (0, .ref pa)]) hx hb dX1_forgetOldest_1 rfl hl (by decide) rfl (fun ls hl => ?_)
  have lp : ∀ (fu_lp : Nat) (n : Nat), (n ≤ 4) → (4 - n < fu_lp) → ∀ (υ : gS), (PaAt υ pa P (rtF g n)) → (PlAt υ b (rtF g n) sg (rtF C n) sz) → (gAs (gZo pa 2) σ υ) → gL lo υ → ∀ (H : Heap) (locs : List Loc) (ls : Array Slot), H.size = sz → gH D ka υ H → va_S (gA lo) s.heap H locs → lv_has ls 3 [(0, .ref pa), (1, .int (nI (n + 1)))] → W p l e ({ frames := 0, cells := 0, slots := 0, locals := 0 } : Room) s m ([.ref pa] : List Value).toArray below meth c H locs (0) (0) (MQ below (gQ D ka lo (gxv (fun τ n => n = sz ∧ PaAt τ pa (P - 1) (rtF g 4) ∧ PlAt τ b (rtF g 4) sg (rtF C 4) sz ∧ gAs (gZo pa 2) σ τ))) ([.ref pa] : List Value).toArray s 0 0 (gA lo)) (F0 m 2 ls []) := by
    intro fu_lp
    induction fu_lp with
    | zero => intro n hn hm_lp; exact absurd hm_lp (Nat.not_lt_zero _)
    | succ fu_lp ih_lp =>
      intro n hn hm_lp υ hPa hPl hag hL H locs ls hz hP hS hl
      refine lv_iload_n hx hb dX1_forgetOldest_2 rfl (lv_at hl 1 rfl) ?_
      refine lv_aload_n hx hb dX1_forgetOldest_3 rfl (lv_at hl 0 rfl) ?_
      refine g_get (C := RX1) (T := TX1) (N := 2) hx hb hts hown hK hP hPa.c0 nX1_forgetOldest_X1 rfl 0 (by decide) (by decide +kernel) rfl (v := .ref (pa + 1)) rfl dX1_forgetOldest_4 ?_
      refine g_aalen hx hb hK hP hPa.c1 dX1_forgetOldest_7 ?_
      refine g_icmp_ge (tgt := 47) (a := n + 1) (b := 5) hx hb (by omega) (by omega) dX1_forgetOldest_8 (by decide) (fun c8 => ?_) (fun c8 => ?_)
      · have e4 : n = 4 := by omega
        refine lv_aload_n hx hb dX1_forgetOldest_47 rfl (lv_at hl 0 rfl) ?_
        refine lv_dup hx hb dX1_forgetOldest_48 rfl ?_
        refine g_get (C := RX1) (T := TX1) (N := 2) hx hb hts hown hK hP hPa.c0 nX1_forgetOldest_X1 rfl 1 (by decide) (by decide +kernel) rfl (v := .int (nI P)) rfl dX1_forgetOldest_49 ?_
        refine lv_iconst (v := (nI 1)) hx hb dX1_forgetOldest_52 (by decide) ?_
        refine lv_isub hx hb dX1_forgetOldest_53 ?_
        refine g_top (pk_sub (by omega : 1 ≤ P)) ?_
        refine g_put (C := RX1) (T := TX1) (N := 2) hx hb hts hown hK hP hL hS hPa.c0 nX1_forgetOldest_X1 tyX1 tyX1_ok nmX1 rfl 1 (by decide) (by decide +kernel) rfl rfl (v := .int (nI (P - 1))) rfl rfl (Nat.le_of_ble_eq_true rfl) dX1_forgetOldest_54 (fun H locs hq hP hL hS => ?_)
        have hz := hq.trans hz
        obtain ⟨σ1, e1⟩ : ∃ υ0 : gS, υ0 = gup υ pa (gO 1 [.ref (pa + 1), .int (nI (P - 1))]) := ⟨_, rfl⟩
        have hP : gH D ka σ1 H := by rw [e1]; exact hP
        have hL : gL lo σ1 := by rw [e1]; exact hL
        have hPl := hPl.fr (τ := σ1) (fun q h1 h2 => gup_eq e1 (by omega))
        have hPa : PaAt σ1 pa (P - 1) (rtF g n) := by rw [e1]; exact hPa.p1 (P - 1)
        have hag := hag.upe e1 (zo_0 (by decide))
        exact g_vret (z := sz) hx hb hr hlk hz hP hL hS dX1_forgetOldest_57 (gxv_i ⟨rfl, (by rw [e4] at hPa; exact hPa), (by rw [e4] at hPl; exact hPl), hag⟩)
      · refine lv_aload_n hx hb dX1_forgetOldest_11 rfl (lv_at hl 0 rfl) ?_
        refine g_get (C := RX1) (T := TX1) (N := 2) hx hb hts hown hK hP hPa.c0 nX1_forgetOldest_X1 rfl 0 (by decide) (by decide +kernel) rfl (v := .ref (pa + 1)) rfl dX1_forgetOldest_12 ?_
        refine lv_iload_n hx hb dX1_forgetOldest_15 rfl (lv_at hl 1 rfl) ?_
        refine lv_iconst (v := (nI 1)) hx hb dX1_forgetOldest_16 (by decide) ?_
        refine lv_isub hx hb dX1_forgetOldest_17 ?_
        refine g_top (pk_sub (by omega : 1 ≤ n + 1)) ?_
        refine g_aald hx hb hK hP hPa.c1 (i := nI ((n + 1) - 1)) (vp_in_nI (by omega) (by omega)) dX1_forgetOldest_18 ?_
        rw [nI_clamp (n := (n + 1) - 1) (by omega)]
        obtain ⟨u, hu⟩ := hall (rotp n (n)) (rotp_lt (by omega) (by omega))
        have hu : rtF g n (n) = some u := by rw [rot_p]; exact hu
        obtain ⟨u1, u2, hSu⟩ := hPl.g (k := n) (by omega) hu
        rw [show (rtF g n) ((n + 1) - 1) = some u from hu]
        refine lv_astore_n (lv' := [(2, .ref u), (0, .ref pa), (1, .int (nI (n + 1)))]) hx hb dX1_forgetOldest_19 rfl hl (by decide) rfl (fun ls hl => ?_)
        refine lv_aload_n hx hb dX1_forgetOldest_20 rfl (lv_at hl 1 rfl) ?_
        refine g_get (C := RX1) (T := TX1) (N := 2) hx hb hts hown hK hP hPa.c0 nX1_forgetOldest_X1 rfl 0 (by decide) (by decide +kernel) rfl (v := .ref (pa + 1)) rfl dX1_forgetOldest_21 ?_
        refine lv_iload_n hx hb dX1_forgetOldest_24 rfl (lv_at hl 2 rfl) ?_
        refine lv_iconst (v := (nI 1)) hx hb dX1_forgetOldest_25 (by decide) ?_
        refine lv_isub hx hb dX1_forgetOldest_26 ?_
        refine g_top (pk_sub (by omega : 1 ≤ n + 1)) ?_
        refine lv_aload_n hx hb dX1_forgetOldest_27 rfl (lv_at hl 1 rfl) ?_
        refine g_get (C := RX1) (T := TX1) (N := 2) hx hb hts hown hK hP hPa.c0 nX1_forgetOldest_X1 rfl 0 (by decide) (by decide +kernel) rfl (v := .ref (pa + 1)) rfl dX1_forgetOldest_28 ?_
        refine lv_iload_n hx hb dX1_forgetOldest_31 rfl (lv_at hl 2 rfl) ?_
        refine g_aald hx hb hK hP hPa.c1 (i := nI (n + 1)) (vp_in_nI (by omega) (by omega)) dX1_forgetOldest_32 ?_
        rw [nI_clamp (n := n + 1) (by omega)]
        obtain ⟨v, hv⟩ := hall (rotp n (n + 1)) (rotp_lt (by omega) (by omega))
        have hv : rtF g n (n + 1) = some v := by rw [rot_p]; exact hv
        obtain ⟨v1, v2, hSv⟩ := hPl.g (k := n + 1) (by omega) hv
        rw [show (rtF g n) (n + 1) = some v from hv]
        refine g_aast hx hb hK hP hL hS hPa.c1 (i := nI ((n + 1) - 1)) hSv.c0 (vp_in_nI (by omega) (by omega)) dX1_forgetOldest_33 (fun H locs hq hP hL hS => ?_)
        rw [nI_clamp (n := (n + 1) - 1) (by omega)] at hP hL
        have hz := hq.trans hz
        obtain ⟨σ2, e2⟩ : ∃ υ0 : gS, υ0 = gup υ (pa + 1) (gR 5 (va_up (rtF g n) ((n + 1) - 1) (some v))) := ⟨_, rfl⟩
        have hP : gH D ka σ2 H := by rw [e2]; exact hP
        have hL : gL lo σ2 := by rw [e2]; exact hL
        have hPl := hPl.fr (τ := σ2) (fun q h1 h2 => gup_eq e2 (by omega))
        have hSu := hSu.fr (τ := σ2) (fun q h1 h2 => gup_eq e2 (by omega))
        have hSv := hSv.fr (τ := σ2) (fun q h1 h2 => gup_eq e2 (by omega))
        have hPa : PaAt σ2 pa P (va_up (rtF g n) ((n + 1) - 1) (some v)) := by rw [e2]; exact hPa.w1 (va_up (rtF g n) ((n + 1) - 1) (some v))
        have hag := hag.upe e2 (zo_k (by decide))
        refine lv_aload_n hx hb dX1_forgetOldest_34 rfl (lv_at hl 1 rfl) ?_
        refine g_get (C := RX1) (T := TX1) (N := 2) hx hb hts hown hK hP hPa.c0 nX1_forgetOldest_X1 rfl 0 (by decide) (by decide +kernel) rfl (v := .ref (pa + 1)) rfl dX1_forgetOldest_35 ?_
        refine lv_iload_n hx hb dX1_forgetOldest_38 rfl (lv_at hl 2 rfl) ?_
        refine lv_aload_n hx hb dX1_forgetOldest_39 rfl (lv_at hl 0 rfl) ?_
        refine g_aast hx hb hK hP hL hS hPa.c1 (i := nI (n + 1)) hSu.c0 (vp_in_nI (by omega) (by omega)) dX1_forgetOldest_40 (fun H locs hq hP hL hS => ?_)
        rw [nI_clamp (n := n + 1) (by omega)] at hP hL
        have hz := hq.trans hz
        obtain ⟨σ3, e3⟩ : ∃ υ0 : gS, υ0 = gup σ2 (pa + 1) (gR 5 (va_up (va_up (rtF g n) ((n + 1) - 1) (some v)) (n + 1) (some u))) := ⟨_, rfl⟩
        have hP : gH D ka σ3 H := by rw [e3]; exact hP
        have hL : gL lo σ3 := by rw [e3]; exact hL
        have hPl := hPl.fr (τ := σ3) (fun q h1 h2 => gup_eq e3 (by omega))
        have hSu := hSu.fr (τ := σ3) (fun q h1 h2 => gup_eq e3 (by omega))
        have hSv := hSv.fr (τ := σ3) (fun q h1 h2 => gup_eq e3 (by omega))
        have hPa : PaAt σ3 pa P (va_up (va_up (rtF g n) ((n + 1) - 1) (some v)) (n + 1) (some u)) := by rw [e3]; exact hPa.w1 (va_up (va_up (rtF g n) ((n + 1) - 1) (some v)) (n + 1) (some u))
        have hag := hag.upe e3 (zo_k (by decide))
        refine lv_iinc (v := (nI (n + 1 + 1))) (lv' := [(1, .int (nI (n + 1 + 1))), (2, .ref u), (0, .ref pa)]) hx hb dX1_forgetOldest_41 hl (k := 2) rfl (g_inc (n + 1) 1) (by decide) rfl (fun ls hl => ?_)
        refine lv_goto (tgt := 2) hx hb dX1_forgetOldest_44 (by decide) ?_
        exact ih_lp (n + 1) (by omega) (by omega) σ3 (by rw [← rot_s, hu, hv]; exact hPa) ((hPl0.rot (by omega)).fr (fun q h1 h2 => hag q (fun h => by have h3 := h.1; have h4 := h.2; omega))) hag hL H locs ls hz hP hS (lv_sub hl [2, 0] rfl)
  exact lp _ 0 (by omega) (Nat.lt_succ_self _) σ (by rw [rot_0]; exact hPa) (by rw [rot_0, rot_0]; exact hPl) hag hL H locs ls hz hP hS (lv_sub hl [1, 0] rfl)

theorem recP_t {P : Nat} (h : P < 5) : recP P = P + 1 := if_pos h
theorem recP_f {P : Nat} (h : 5 ≤ P) (h5 : P ≤ 5) : recP P = P - 1 + 1 := by
  rw [recP, if_neg (by omega)]; omega
theorem recS_t {P : Nat} (C : Nat → sS) (S : sS) (h : P < 5) : recS C P S = uS C P S := if_pos h
theorem recS_f {P : Nat} (C : Nat → sS) (S : sS) (h : 5 ≤ P) (h5 : P ≤ 5) : recS C P S = uS (rtF C 4) (P - 1) S := by
  rw [recS, if_neg (by omega), show P - 1 = 4 by omega]
def okS (S : sS) : Prop := sB S ≤ 96 ∧ sN S ≤ 12 ∧ sK S ≤ 8 ∧ sR S ≤ 8

theorem nX1_record_X1 : ∀ w ∈ wsX10, w ∈ wsX1_record := by decide +kernel
theorem nX1_record_X4 : ∀ w ∈ wsX40, w ∈ wsX1_record := by decide +kernel
set_option maxHeartbeats 4000000 in
set_option maxRecDepth 100000 in
theorem c_X1_record (l : Launch) (pa b x P : Nat) (g sg : Nat → Option Nat) (C : Nat → sS) (S : sS) (σ : gS) (sz : Nat) (hPa : PaAt σ pa P g) (hPl : PlAt σ b g sg C sz) (hb0 : pa + 2 ≤ b) (hSt : StAt σ x S) (hxb : x + 17 ≤ b) (hxp : x + 17 ≤ pa ∨ pa + 2 ≤ x) (hP5 : P ≤ 5) (hg : ∀ k : Nat, k < P → ∃ y, g k = some y) (hok : okS S) : gM l yX1_record wsX1_record ({ frames := 3, cells := 17, slots := 789, locals := 64 } : Room) 17 789 [.ref pa, .ref x] σ sz (gxv (fun τ n => ∃ g2 : Nat → Option Nat, sz ≤ n ∧ n ≤ sz + 17 ∧ PaAt τ pa (recP P) g2 ∧ PlAt τ b g2 sg (recS C P S) n ∧ (∀ k : Nat, k < recP P → ∃ y, g2 k = some y) ∧ StAt τ x S ∧ gAs (fun q => gZo pa 2 q ∨ b ≤ q) σ τ)) := by
  refine gM_of (cc := cX1_record) (maxL := 3) (ret := none) (by decide) rfl (Nat.le_of_ble_eq_true rfl) ?_
  intro D ka lo hL hlo p e s m below meth c hx hb hr hts hown hml hlk hnm hK H locs ls hz hP hS hl
  have hl : lv_has ls 3 [(0, .ref pa), (1, .ref x)] := hl
  have hown : s.vm.findClass RX1 = some m.cls := hown
  have hag : gAs (fun q => gZo pa 2 q ∨ b ≤ q) σ σ := gAs.rf
  have hbz := hPl.1
  obtain ⟨hB, hN, hKs, hRs⟩ := hok
  refine lv_aload_n hx hb dX1_record_0 rfl (lv_at hl 0 rfl) ?_
  refine g_get (C := RX1) (T := TX1) (N := 2) hx hb hts hown hK hP hPa.c0 nX1_record_X1 rfl 1 (by decide) (by decide +kernel) rfl (v := .int (nI P)) rfl dX1_record_1 ?_
  refine lv_aload_n hx hb dX1_record_4 rfl (lv_at hl 0 rfl) ?_
  refine g_get (C := RX1) (T := TX1) (N := 2) hx hb hts hown hK hP hPa.c0 nX1_record_X1 rfl 0 (by decide) (by decide +kernel) rfl (v := .ref (pa + 1)) rfl dX1_record_5 ?_
  refine g_aalen hx hb hK hP hPa.c1 dX1_record_8 ?_
  refine g_icmp_lt (tgt := 16) (a := P) (b := 5) hx hb (by omega) (by omega) dX1_record_9 (by decide) (fun c9 => ?_) (fun c9 => ?_)
  · refine lv_aload_n hx hb dX1_record_16 rfl (lv_at hl 0 rfl) ?_
    refine g_get (C := RX1) (T := TX1) (N := 2) hx hb hts hown hK hP hPa.c0 nX1_record_X1 rfl 1 (by decide) (by decide +kernel) rfl (v := .int (nI P)) rfl dX1_record_17 ?_
    refine g_if_lt hx hb (by omega) dX1_record_20 (tgt := 35) (by decide) ?_
    refine lv_aload_n hx hb dX1_record_23 rfl (lv_at hl 0 rfl) ?_
    refine g_get (C := RX1) (T := TX1) (N := 2) hx hb hts hown hK hP hPa.c0 nX1_record_X1 rfl 1 (by decide) (by decide +kernel) rfl (v := .int (nI P)) rfl dX1_record_24 ?_
    refine lv_aload_n hx hb dX1_record_27 rfl (lv_at hl 0 rfl) ?_
    refine g_get (C := RX1) (T := TX1) (N := 2) hx hb hts hown hK hP hPa.c0 nX1_record_X1 rfl 0 (by decide) (by decide +kernel) rfl (v := .ref (pa + 1)) rfl dX1_record_28 ?_
    refine g_aalen hx hb hK hP hPa.c1 dX1_record_31 ?_
    refine g_icmp_lt (tgt := 36) (a := P) (b := 5) hx hb (by omega) (by omega) dX1_record_32 (by decide) (fun c32 => ?_) (fun c32 => ?_)
    · refine lv_aload_n hx hb dX1_record_36 rfl (lv_at hl 0 rfl) ?_
      refine g_get (C := RX1) (T := TX1) (N := 2) hx hb hts hown hK hP hPa.c0 nX1_record_X1 rfl 0 (by decide) (by decide +kernel) rfl (v := .ref (pa + 1)) rfl dX1_record_37 ?_
      refine lv_aload_n hx hb dX1_record_40 rfl (lv_at hl 0 rfl) ?_
      refine g_get (C := RX1) (T := TX1) (N := 2) hx hb hts hown hK hP hPa.c0 nX1_record_X1 rfl 1 (by decide) (by decide +kernel) rfl (v := .int (nI P)) rfl dX1_record_41 ?_
      refine g_aald hx hb hK hP hPa.c1 (i := nI P) (vp_in_nI (by omega) (by omega)) dX1_record_44 ?_
      rw [nI_clamp (n := P) (by omega)]
      rcases hy_1 : g P with _ | y_1
      · skip
        refine lv_astore_nN (lv' := [(2, .null), (0, .ref pa), (1, .ref x)]) hx hb dX1_record_45 rfl hl (by decide) rfl (fun ls hl => ?_)
        refine lv_aload_nN hx hb dX1_record_46 rfl (lv_at hl 0 rfl) ?_
        refine lv_ifnonnullN hx hb dX1_record_47 ?_
        refine g_new (C := RX4) (T := TX4) (N := 13) (ci := 4) (fs := [.int (0), .int (0), .int (0), .int (0), .int (0), .null, .null, .null, .null, .null, .null, .null, .null]) hx hb hts hown hK hz hP hL hS hlo nX1_record_X4 tyX4 tyX4_ok rfl (by decide +kernel) (by decide +kernel) (by decide +kernel) rfl (Nat.le_of_ble_eq_true rfl) (Nat.le_of_ble_eq_true rfl) dX1_record_50 (fun H hz hP hL hS => ?_)
        have hlo : lo ≤ sz + 1 := Nat.le_succ_of_le hlo
        obtain ⟨σ2, e2⟩ : ∃ υ0 : gS, υ0 = gup σ sz (gO 4 [.int (0), .int (0), .int (0), .int (0), .int (0), .null, .null, .null, .null, .null, .null, .null, .null]) := ⟨_, rfl⟩
        have hP : gH D ka σ2 H := by rw [e2]; exact hP
        have hL : gL lo σ2 := by rw [e2]; exact hL
        have hPa := hPa.fr (τ := σ2) (fun q h1 h2 => gup_eq e2 (by omega))
        have hPl := hPl.fr (τ := σ2) (fun q h1 h2 => gup_eq e2 (by omega))
        have hSt := hSt.fr (τ := σ2) (fun q h1 h2 => gup_eq e2 (by omega))
        have hag := hag.upe e2 (.inr (by omega))
        refine lv_dup hx hb dX1_record_53 rfl ?_
        refine g_runI (b := sz) (As := []) (rest := [.ref sz]) (own := RX1) 0 hx hb hml hown hts hK hz hP hL hS hlo hl.1 (c_X4_init l sz σ2 (gup_here e2)) gX1_record_X4_init rfl rfl rfl (by decide +kernel) (by decide +kernel) (by decide +kernel) rfl (by decide +kernel) ⟨Nat.le_of_ble_eq_true rfl, Nat.le_of_ble_eq_true rfl⟩ rfl rfl (Nat.le_of_ble_eq_true rfl) dX1_record_54 ⟨Nat.le_of_ble_eq_true rfl, Nat.le_of_ble_eq_true rfl⟩ (g_kxv (fun τ_3 H locs z1 hz hp hP hL hS => ?_))
        obtain ⟨hz1, h_4n, h_4a⟩ := hp
        have hz := hz.trans hz1
        have hPa := hPa.fr (τ := τ_3) (fun q h1 h2 => h_4a q (fun h => by have h3 := h.1; have h4 := h.2; omega))
        have hPl := hPl.fr (τ := τ_3) (fun q h1 h2 => h_4a q (fun h => by have h3 := h.1; have h4 := h.2; omega))
        have hSt := hSt.fr (τ := τ_3) (fun q h1 h2 => h_4a q (fun h => by have h3 := h.1; have h4 := h.2; omega))
        have hSsz := h_4n
        have hag := hag.tr h_4a (fun q h => .inr (by have h1 := h.1; omega))
        have hlo : lo ≤ (sz + 17) := by omega
        refine lv_astore_n (lv' := [(2, .ref sz), (0, .ref pa), (1, .ref x)]) hx hb dX1_record_57 rfl hl (by decide) rfl (fun ls hl => ?_)
        refine lv_aload_n hx hb dX1_record_58 rfl (lv_at hl 1 rfl) ?_
        refine g_get (C := RX1) (T := TX1) (N := 2) hx hb hts hown hK hP hPa.c0 nX1_record_X1 rfl 0 (by decide) (by decide +kernel) rfl (v := .ref (pa + 1)) rfl dX1_record_59 ?_
        refine lv_aload_n hx hb dX1_record_62 rfl (lv_at hl 1 rfl) ?_
        refine g_get (C := RX1) (T := TX1) (N := 2) hx hb hts hown hK hP hPa.c0 nX1_record_X1 rfl 1 (by decide) (by decide +kernel) rfl (v := .int (nI P)) rfl dX1_record_63 ?_
        refine lv_aload_n hx hb dX1_record_66 rfl (lv_at hl 0 rfl) ?_
        refine g_aast hx hb hK hP hL hS hPa.c1 (i := nI P) hSsz.c0 (vp_in_nI (by omega) (by omega)) dX1_record_67 (fun H locs hq hP hL hS => ?_)
        rw [nI_clamp (n := P) (by omega)] at hP hL
        have hz := hq.trans hz
        obtain ⟨σ5, e5⟩ : ∃ υ0 : gS, υ0 = gup τ_3 (pa + 1) (gR 5 (va_up g P (some sz))) := ⟨_, rfl⟩
        have hP : gH D ka σ5 H := by rw [e5]; exact hP
        have hL : gL lo σ5 := by rw [e5]; exact hL
        have hPl := hPl.fr (τ := σ5) (fun q h1 h2 => gup_eq e5 (by omega))
        have hSt := hSt.fr (τ := σ5) (fun q h1 h2 => gup_eq e5 (by omega))
        have hSsz := hSsz.fr (τ := σ5) (fun q h1 h2 => gup_eq e5 (by omega))
        have hPa : PaAt σ5 pa P (va_up g P (some sz)) := by rw [e5]; exact hPa.w1 (va_up g P (some sz))
        have hag := hag.upe e5 (.inl (zo_k (by decide)))
        refine lv_aload_n hx hb dX1_record_68 rfl (lv_at hl 0 rfl) ?_
        refine lv_aload_n hx hb dX1_record_69 rfl (lv_at hl 2 rfl) ?_
        refine g_runV (As := [.ref x]) (rest := []) (own := RX1) (C := RX4) (T := TX4) (N := 13) 1 hx hb hml hown hts hK hz hP hL hS hlo hl.1 (c_X4_copyFrom l sz x s0S S σ5 ((sz + 17)) hSsz hSt (by omega) (by omega) (by omega) (by omega) (by omega)) gX1_record_X4_copyFrom rfl rfl rfl (by decide +kernel) ⟨Nat.le_of_ble_eq_true rfl, Nat.le_of_ble_eq_true rfl⟩ hSsz.c0 rfl rfl rfl (Nat.le_of_ble_eq_true rfl) dX1_record_70 ⟨Nat.le_of_ble_eq_true rfl, Nat.le_of_ble_eq_true rfl⟩ (g_kxv0 (fun τ_6 H locs z1 hz hp hP hL hS => ?_))
        obtain ⟨hz1, h_7n, h_7a⟩ := hp
        have hz := hz.trans hz1
        have hPa := hPa.fr (τ := τ_6) (fun q h1 h2 => h_7a q (fun h => by have h3 := h.1; have h4 := h.2; omega))
        have hPl := hPl.fr (τ := τ_6) (fun q h1 h2 => h_7a q (fun h => by have h3 := h.1; have h4 := h.2; omega))
        have hSt := hSt.fr (τ := τ_6) (fun q h1 h2 => h_7a q (fun h => by have h3 := h.1; have h4 := h.2; omega))
        have hSsz := h_7n
        have hag := hag.tr h_7a (fun q h => .inr (by have h1 := h.1; omega))
        have hPl := hPl.newg (k := P) (by omega) hSsz
        refine lv_aload_n hx hb dX1_record_73 rfl (lv_at hl 1 rfl) ?_
        refine lv_dup hx hb dX1_record_74 rfl ?_
        refine g_get (C := RX1) (T := TX1) (N := 2) hx hb hts hown hK hP hPa.c0 nX1_record_X1 rfl 1 (by decide) (by decide +kernel) rfl (v := .int (nI P)) rfl dX1_record_75 ?_
        refine lv_iconst (v := (nI 1)) hx hb dX1_record_78 (by decide) ?_
        refine lv_iadd hx hb dX1_record_79 ?_
        refine g_top (nI_add P 1) ?_
        refine g_put (C := RX1) (T := TX1) (N := 2) hx hb hts hown hK hP hL hS hPa.c0 nX1_record_X1 tyX1 tyX1_ok nmX1 rfl 1 (by decide) (by decide +kernel) rfl rfl (v := .int (nI (P + 1))) rfl rfl (Nat.le_of_ble_eq_true rfl) dX1_record_80 (fun H locs hq hP hL hS => ?_)
        have hz := hq.trans hz
        obtain ⟨σ8, e8⟩ : ∃ υ0 : gS, υ0 = gup τ_6 pa (gO 1 [.ref (pa + 1), .int (nI (P + 1))]) := ⟨_, rfl⟩
        have hP : gH D ka σ8 H := by rw [e8]; exact hP
        have hL : gL lo σ8 := by rw [e8]; exact hL
        have hPl := hPl.fr (τ := σ8) (fun q h1 h2 => gup_eq e8 (by omega))
        have hSt := hSt.fr (τ := σ8) (fun q h1 h2 => gup_eq e8 (by omega))
        have hPa : PaAt σ8 pa (P + 1) (va_up g P (some sz)) := by rw [e8]; exact hPa.p1 (P + 1)
        have hag := hag.upe e8 (.inl (zo_0 (by decide)))
        refine W.widen (k := 17) (n := 789) (Nat.le_of_ble_eq_true rfl) (Nat.le_of_ble_eq_true rfl) ?_
        exact g_vret (z := (sz + 17)) hx hb hr hlk hz hP hL hS dX1_record_83 (gxv_i ⟨_, by omega, Nat.le_refl _, (by rw [recP_t c9]; exact hPa), (by rw [recS_t _ _ c9]; exact hPl), (fun k hk => by rw [recP_t c9] at hk; by_cases c : k = P; exact ⟨sz, by rw [c, va_up_s]⟩; exact (by rw [va_up_n c]; exact hg k (by omega))), hSt, hag⟩)
      · skip
        obtain ⟨y_11, y_12, hSy_1⟩ := hPl.g (by omega) hy_1
        refine lv_astore_n (lv' := [(2, .ref y_1), (0, .ref pa), (1, .ref x)]) hx hb dX1_record_45 rfl hl (by decide) rfl (fun ls hl => ?_)
        refine lv_aload_n hx hb dX1_record_46 rfl (lv_at hl 0 rfl) ?_
        refine lv_ifnonnull (tgt := 68) hx hb dX1_record_47 (by decide) ?_
        refine lv_aload_n hx hb dX1_record_68 rfl (lv_at hl 0 rfl) ?_
        refine lv_aload_n hx hb dX1_record_69 rfl (lv_at hl 2 rfl) ?_
        refine g_runV (As := [.ref x]) (rest := []) (own := RX1) (C := RX4) (T := TX4) (N := 13) 1 hx hb hml hown hts hK hz hP hL hS hlo hl.1 (c_X4_copyFrom l y_1 x (C P) S σ sz hSy_1 hSt (by omega) (by omega) (by omega) (by omega) (by omega)) gX1_record_X4_copyFrom rfl rfl rfl (by decide +kernel) ⟨Nat.le_of_ble_eq_true rfl, Nat.le_of_ble_eq_true rfl⟩ hSy_1.c0 rfl rfl rfl (Nat.le_of_ble_eq_true rfl) dX1_record_70 ⟨Nat.le_of_ble_eq_true rfl, Nat.le_of_ble_eq_true rfl⟩ (g_kxv0 (fun τ_9 H locs z1 hz hp hP hL hS => ?_))
        obtain ⟨hz1, h_10n, h_10a⟩ := hp
        have hz := hz.trans hz1
        have hPa := hPa.fr (τ := τ_9) (fun q h1 h2 => h_10a q (fun h => by have h3 := h.1; have h4 := h.2; omega))
        have hSt := hSt.fr (τ := τ_9) (fun q h1 h2 => h_10a q (fun h => by have h3 := h.1; have h4 := h.2; omega))
        have hSy_1 := h_10n
        have hag := hag.tr h_10a (fun q h => .inr (by have h1 := h.1; omega))
        have hPl := hPl.set (k := P) (by omega) (by rw [pk_g (by omega)]; exact hy_1) hSy_1 h_10a
        refine lv_aload_n hx hb dX1_record_73 rfl (lv_at hl 1 rfl) ?_
        refine lv_dup hx hb dX1_record_74 rfl ?_
        refine g_get (C := RX1) (T := TX1) (N := 2) hx hb hts hown hK hP hPa.c0 nX1_record_X1 rfl 1 (by decide) (by decide +kernel) rfl (v := .int (nI P)) rfl dX1_record_75 ?_
        refine lv_iconst (v := (nI 1)) hx hb dX1_record_78 (by decide) ?_
        refine lv_iadd hx hb dX1_record_79 ?_
        refine g_top (nI_add P 1) ?_
        refine g_put (C := RX1) (T := TX1) (N := 2) hx hb hts hown hK hP hL hS hPa.c0 nX1_record_X1 tyX1 tyX1_ok nmX1 rfl 1 (by decide) (by decide +kernel) rfl rfl (v := .int (nI (P + 1))) rfl rfl (Nat.le_of_ble_eq_true rfl) dX1_record_80 (fun H locs hq hP hL hS => ?_)
        have hz := hq.trans hz
        obtain ⟨σ11, e11⟩ : ∃ υ0 : gS, υ0 = gup τ_9 pa (gO 1 [.ref (pa + 1), .int (nI (P + 1))]) := ⟨_, rfl⟩
        have hP : gH D ka σ11 H := by rw [e11]; exact hP
        have hL : gL lo σ11 := by rw [e11]; exact hL
        have hSt := hSt.fr (τ := σ11) (fun q h1 h2 => gup_eq e11 (by omega))
        have hPl := hPl.fr (τ := σ11) (fun q h1 h2 => gup_eq e11 (by omega))
        have hPa : PaAt σ11 pa (P + 1) g := by rw [e11]; exact hPa.p1 (P + 1)
        have hag := hag.upe e11 (.inl (zo_0 (by decide)))
        refine W.widen (k := 17) (n := 789) (Nat.le_of_ble_eq_true rfl) (Nat.le_of_ble_eq_true rfl) ?_
        exact g_vret (z := sz) hx hb hr hlk hz hP hL hS dX1_record_83 (gxv_i ⟨_, Nat.le_refl _, Nat.le_add_right _ _, (by rw [recP_t c9]; exact hPa), (by rw [recS_t _ _ c9]; exact hPl), (fun k hk => by rw [recP_t c9] at hk; by_cases c : k = P; exact ⟨y_1, by rw [c]; exact hy_1⟩; exact hg k (by omega)), hSt, hag⟩)
    · exact False.elim (by omega)
  · refine lv_aload_n hx hb dX1_record_12 rfl (lv_at hl 0 rfl) ?_
    refine g_runV (As := []) (rest := []) (own := RX1) (C := RX1) (T := TX1) (N := 2) 0 hx hb hml hown hts hK hz hP hL hS hlo hl.1 (c_X1_forgetOldest l pa b P g sg C σ sz hPa hPl (by omega) (by omega) (fun k hk => hg k (by omega))) gX1_record_X1_forgetOldest rfl rfl rfl (by decide +kernel) ⟨Nat.le_of_ble_eq_true rfl, Nat.le_of_ble_eq_true rfl⟩ hPa.c0 rfl rfl rfl (Nat.le_of_ble_eq_true rfl) dX1_record_13 ⟨Nat.le_of_ble_eq_true rfl, Nat.le_of_ble_eq_true rfl⟩ (g_kxv0 (fun τ_12 H locs z1 hz hp hP hL hS => ?_))
    obtain ⟨hz1, h_13n, h_13p, h_13a⟩ := hp
    have hz := hz.trans hz1
    have hSt := hSt.fr (τ := τ_12) (fun q h1 h2 => h_13a q (fun h => by have h3 := h.1; have h4 := h.2; omega))
    have hPa := h_13n
    have hag := hag.tr h_13a (fun q h => .inl h)
    have hPl := h_13p
    refine lv_aload_n hx hb dX1_record_16 rfl (lv_at hl 0 rfl) ?_
    refine g_get (C := RX1) (T := TX1) (N := 2) hx hb hts hown hK hP hPa.c0 nX1_record_X1 rfl 1 (by decide) (by decide +kernel) rfl (v := .int (nI (P - 1))) rfl dX1_record_17 ?_
    refine g_if_lt hx hb (by omega) dX1_record_20 (tgt := 35) (by decide) ?_
    refine lv_aload_n hx hb dX1_record_23 rfl (lv_at hl 0 rfl) ?_
    refine g_get (C := RX1) (T := TX1) (N := 2) hx hb hts hown hK hP hPa.c0 nX1_record_X1 rfl 1 (by decide) (by decide +kernel) rfl (v := .int (nI (P - 1))) rfl dX1_record_24 ?_
    refine lv_aload_n hx hb dX1_record_27 rfl (lv_at hl 0 rfl) ?_
    refine g_get (C := RX1) (T := TX1) (N := 2) hx hb hts hown hK hP hPa.c0 nX1_record_X1 rfl 0 (by decide) (by decide +kernel) rfl (v := .ref (pa + 1)) rfl dX1_record_28 ?_
    refine g_aalen hx hb hK hP hPa.c1 dX1_record_31 ?_
    refine g_icmp_lt (tgt := 36) (a := P - 1) (b := 5) hx hb (by omega) (by omega) dX1_record_32 (by decide) (fun c32 => ?_) (fun c32 => ?_)
    · refine lv_aload_n hx hb dX1_record_36 rfl (lv_at hl 0 rfl) ?_
      refine g_get (C := RX1) (T := TX1) (N := 2) hx hb hts hown hK hP hPa.c0 nX1_record_X1 rfl 0 (by decide) (by decide +kernel) rfl (v := .ref (pa + 1)) rfl dX1_record_37 ?_
      refine lv_aload_n hx hb dX1_record_40 rfl (lv_at hl 0 rfl) ?_
      refine g_get (C := RX1) (T := TX1) (N := 2) hx hb hts hown hK hP hPa.c0 nX1_record_X1 rfl 1 (by decide) (by decide +kernel) rfl (v := .int (nI (P - 1))) rfl dX1_record_41 ?_
      refine g_aald hx hb hK hP hPa.c1 (i := nI (P - 1)) (vp_in_nI (by omega) (by omega)) dX1_record_44 ?_
      rw [nI_clamp (n := P - 1) (by omega)]
      obtain ⟨y, hy0⟩ := hg 0 (by omega)
      have hy : rtF g 4 (P - 1) = some y := by rw [show P - 1 = 4 by omega]; exact hy0
      rw [hy]
      obtain ⟨y1, y2, hSy⟩ := hPl.g (by omega) hy
      refine lv_astore_n (lv' := [(2, .ref y), (0, .ref pa), (1, .ref x)]) hx hb dX1_record_45 rfl hl (by decide) rfl (fun ls hl => ?_)
      refine lv_aload_n hx hb dX1_record_46 rfl (lv_at hl 0 rfl) ?_
      refine lv_ifnonnull (tgt := 68) hx hb dX1_record_47 (by decide) ?_
      refine lv_aload_n hx hb dX1_record_68 rfl (lv_at hl 0 rfl) ?_
      refine lv_aload_n hx hb dX1_record_69 rfl (lv_at hl 2 rfl) ?_
      refine g_runV (As := [.ref x]) (rest := []) (own := RX1) (C := RX4) (T := TX4) (N := 13) 1 hx hb hml hown hts hK hz hP hL hS hlo hl.1 (c_X4_copyFrom l y x (rtF C 4 (P - 1)) S τ_12 sz hSy hSt (by omega) (by omega) (by omega) (by omega) (by omega)) gX1_record_X4_copyFrom rfl rfl rfl (by decide +kernel) ⟨Nat.le_of_ble_eq_true rfl, Nat.le_of_ble_eq_true rfl⟩ hSy.c0 rfl rfl rfl (Nat.le_of_ble_eq_true rfl) dX1_record_70 ⟨Nat.le_of_ble_eq_true rfl, Nat.le_of_ble_eq_true rfl⟩ (g_kxv0 (fun τ_14 H locs z1 hz hp hP hL hS => ?_))
      obtain ⟨hz1, h_15n, h_15a⟩ := hp
      have hz := hz.trans hz1
      have hPa := hPa.fr (τ := τ_14) (fun q h1 h2 => h_15a q (fun h => by have h3 := h.1; have h4 := h.2; omega))
      have hSt := hSt.fr (τ := τ_14) (fun q h1 h2 => h_15a q (fun h => by have h3 := h.1; have h4 := h.2; omega))
      have hSy := h_15n
      have hag := hag.tr h_15a (fun q h => .inr (by have h1 := h.1; omega))
      have hPl := hPl.set (k := P - 1) (by omega) (by rw [pk_g (by omega)]; exact hy) hSy h_15a
      refine lv_aload_n hx hb dX1_record_73 rfl (lv_at hl 1 rfl) ?_
      refine lv_dup hx hb dX1_record_74 rfl ?_
      refine g_get (C := RX1) (T := TX1) (N := 2) hx hb hts hown hK hP hPa.c0 nX1_record_X1 rfl 1 (by decide) (by decide +kernel) rfl (v := .int (nI (P - 1))) rfl dX1_record_75 ?_
      refine lv_iconst (v := (nI 1)) hx hb dX1_record_78 (by decide) ?_
      refine lv_iadd hx hb dX1_record_79 ?_
      refine g_top (nI_add (P - 1) 1) ?_
      refine g_put (C := RX1) (T := TX1) (N := 2) hx hb hts hown hK hP hL hS hPa.c0 nX1_record_X1 tyX1 tyX1_ok nmX1 rfl 1 (by decide) (by decide +kernel) rfl rfl (v := .int (nI ((P - 1) + 1))) rfl rfl (Nat.le_of_ble_eq_true rfl) dX1_record_80 (fun H locs hq hP hL hS => ?_)
      have hz := hq.trans hz
      obtain ⟨σ16, e16⟩ : ∃ υ0 : gS, υ0 = gup τ_14 pa (gO 1 [.ref (pa + 1), .int (nI ((P - 1) + 1))]) := ⟨_, rfl⟩
      have hP : gH D ka σ16 H := by rw [e16]; exact hP
      have hL : gL lo σ16 := by rw [e16]; exact hL
      have hSt := hSt.fr (τ := σ16) (fun q h1 h2 => gup_eq e16 (by omega))
      have hPl := hPl.fr (τ := σ16) (fun q h1 h2 => gup_eq e16 (by omega))
      have hPa : PaAt σ16 pa ((P - 1) + 1) (rtF g 4) := by rw [e16]; exact hPa.p1 ((P - 1) + 1)
      have hag := hag.upe e16 (.inl (zo_0 (by decide)))
      refine W.widen (k := 17) (n := 789) (Nat.le_of_ble_eq_true rfl) (Nat.le_of_ble_eq_true rfl) ?_
      exact g_vret (z := sz) hx hb hr hlk hz hP hL hS dX1_record_83 (gxv_i ⟨_, Nat.le_refl _, Nat.le_add_right _ _, (by rw [recP_f c9 hP5]; exact hPa), (by rw [recS_f _ _ c9 hP5]; exact hPl), (fun k hk => by rw [recP_f c9 hP5] at hk; rw [rot_p]; exact hg _ (Nat.lt_of_lt_of_le (rotp_lt (m := 5) (by omega) (by omega)) (by omega))), hSt, hag⟩)
    · exact False.elim (by omega)

theorem nX1_takeBack_X1 : ∀ w ∈ wsX10, w ∈ wsX1_takeBack := by decide +kernel
set_option maxHeartbeats 4000000 in
set_option maxRecDepth 100000 in
theorem c_X1_takeBack (l : Launch) (pa b x P : Nat) (g sg : Nat → Option Nat) (C : Nat → sS) (S : sS) (σ : gS) (sz : Nat) (hPa : PaAt σ pa P g) (hPl : PlAt σ b g sg C sz) (hb0 : pa + 2 ≤ b) (hSt : StAt σ x S) (hxb : x + 17 ≤ b) (hxp : x + 17 ≤ pa ∨ pa + 2 ≤ x) (hP5 : P ≤ 5) (hg : ∀ k : Nat, k < P → ∃ y, g k = some y) (hP0 : 0 < P) (hok : okS (C (P - 1))) : gM l yX1_takeBack wsX1_takeBack ({ frames := 3, cells := 0, slots := 0, locals := 64 } : Room) 0 0 [.ref pa, .ref x] σ sz (gxv (fun τ n => n = sz ∧ StAt τ x (C (P - 1)) ∧ PaAt τ pa (P - 1) g ∧ PlAt τ b g sg C sz ∧ gAs (fun q => gZo x 17 q ∨ gZo pa 2 q) σ τ)) := by
  refine gM_of (cc := cX1_takeBack) (maxL := 4) (ret := none) (by decide) rfl (Nat.le_of_ble_eq_true rfl) ?_
  intro D ka lo hL hlo p e s m below meth c hx hb hr hts hown hml hlk hnm hK H locs ls hz hP hS hl
  have hl : lv_has ls 4 [(0, .ref pa), (1, .ref x)] := hl
  have hown : s.vm.findClass RX1 = some m.cls := hown
  have hag : gAs (fun q => gZo x 17 q ∨ gZo pa 2 q) σ σ := gAs.rf
  have hbz := hPl.1
  obtain ⟨hB, hN, hKs, hRs⟩ := hok
  refine lv_aload_n hx hb dX1_takeBack_0 rfl (lv_at hl 0 rfl) ?_
  refine g_get (C := RX1) (T := TX1) (N := 2) hx hb hts hown hK hP hPa.c0 nX1_takeBack_X1 rfl 1 (by decide) (by decide +kernel) rfl (v := .int (nI P)) rfl dX1_takeBack_1 ?_
  refine lv_iconst (v := (nI 1)) hx hb dX1_takeBack_4 (by decide) ?_
  refine lv_isub hx hb dX1_takeBack_5 ?_
  refine g_top (pk_sub (by omega : 1 ≤ P)) ?_
  refine lv_istore_n (lv' := [(2, .int (nI (P - 1))), (0, .ref pa), (1, .ref x)]) hx hb dX1_takeBack_6 rfl hl (by decide) rfl (fun ls hl => ?_)
  refine lv_iload_n hx hb dX1_takeBack_7 rfl (lv_at hl 0 rfl) ?_
  refine g_if_lt hx hb (by omega) dX1_takeBack_8 (tgt := 20) (by decide) ?_
  refine lv_iload_n hx hb dX1_takeBack_11 rfl (lv_at hl 0 rfl) ?_
  refine lv_aload_n hx hb dX1_takeBack_12 rfl (lv_at hl 1 rfl) ?_
  refine g_get (C := RX1) (T := TX1) (N := 2) hx hb hts hown hK hP hPa.c0 nX1_takeBack_X1 rfl 0 (by decide) (by decide +kernel) rfl (v := .ref (pa + 1)) rfl dX1_takeBack_13 ?_
  refine g_aalen hx hb hK hP hPa.c1 dX1_takeBack_16 ?_
  refine g_icmp_lt (tgt := 21) (a := P - 1) (b := 5) hx hb (by omega) (by omega) dX1_takeBack_17 (by decide) (fun c17 => ?_) (fun c17 => ?_)
  · refine lv_aload_n hx hb dX1_takeBack_21 rfl (lv_at hl 1 rfl) ?_
    refine g_get (C := RX1) (T := TX1) (N := 2) hx hb hts hown hK hP hPa.c0 nX1_takeBack_X1 rfl 0 (by decide) (by decide +kernel) rfl (v := .ref (pa + 1)) rfl dX1_takeBack_22 ?_
    refine lv_iload_n hx hb dX1_takeBack_25 rfl (lv_at hl 0 rfl) ?_
    refine g_aald hx hb hK hP hPa.c1 (i := nI (P - 1)) (vp_in_nI (by omega) (by omega)) dX1_takeBack_26 ?_
    rw [nI_clamp (n := P - 1) (by omega)]
    obtain ⟨y, hy⟩ := hg (P - 1) (by omega)
    rw [hy]
    obtain ⟨y1, y2, hSy⟩ := hPl.g (by omega) hy
    refine lv_astore_n (lv' := [(3, .ref y), (2, .int (nI (P - 1))), (0, .ref pa), (1, .ref x)]) hx hb dX1_takeBack_27 rfl hl (by decide) rfl (fun ls hl => ?_)
    refine lv_aload_n hx hb dX1_takeBack_28 rfl (lv_at hl 0 rfl) ?_
    refine lv_ifnonnull (tgt := 33) hx hb dX1_takeBack_29 (by decide) ?_
    refine lv_aload_n hx hb dX1_takeBack_33 rfl (lv_at hl 3 rfl) ?_
    refine lv_aload_n hx hb dX1_takeBack_34 rfl (lv_at hl 0 rfl) ?_
    refine g_runV (As := [.ref y]) (rest := []) (own := RX1) (C := RX4) (T := TX4) (N := 13) 1 hx hb hml hown hts hK hz hP hL hS hlo hl.1 (c_X4_copyFrom l x y S (C (P - 1)) σ sz hSt hSy (by omega) (by omega) (by omega) (by omega) (by omega)) gX1_takeBack_X4_copyFrom rfl rfl rfl (by decide +kernel) ⟨Nat.le_of_ble_eq_true rfl, Nat.le_of_ble_eq_true rfl⟩ hSt.c0 rfl rfl rfl (Nat.le_of_ble_eq_true rfl) dX1_takeBack_35 ⟨Nat.le_of_ble_eq_true rfl, Nat.le_of_ble_eq_true rfl⟩ (g_kxv0 (fun τ_1 H locs z1 hz hp hP hL hS => ?_))
    obtain ⟨hz1, h_2n, h_2a⟩ := hp
    have hz := hz.trans hz1
    have hPa := hPa.fr (τ := τ_1) (fun q h1 h2 => h_2a q (fun h => by have h3 := h.1; have h4 := h.2; omega))
    have hPl := hPl.fr (τ := τ_1) (fun q h1 h2 => h_2a q (fun h => by have h3 := h.1; have h4 := h.2; omega))
    have hSy := hSy.fr (τ := τ_1) (fun q h1 h2 => h_2a q (fun h => by have h3 := h.1; have h4 := h.2; omega))
    have hSt := h_2n
    have hag := hag.tr h_2a (fun q h => .inl h)
    refine lv_aload_n hx hb dX1_takeBack_38 rfl (lv_at hl 2 rfl) ?_
    refine lv_iload_n hx hb dX1_takeBack_39 rfl (lv_at hl 1 rfl) ?_
    refine g_put (C := RX1) (T := TX1) (N := 2) hx hb hts hown hK hP hL hS hPa.c0 nX1_takeBack_X1 tyX1 tyX1_ok nmX1 rfl 1 (by decide) (by decide +kernel) rfl rfl (v := .int (nI (P - 1))) rfl rfl (Nat.le_of_ble_eq_true rfl) dX1_takeBack_40 (fun H locs hq hP hL hS => ?_)
    have hz := hq.trans hz
    obtain ⟨σ3, e3⟩ : ∃ υ0 : gS, υ0 = gup τ_1 pa (gO 1 [.ref (pa + 1), .int (nI (P - 1))]) := ⟨_, rfl⟩
    have hP : gH D ka σ3 H := by rw [e3]; exact hP
    have hL : gL lo σ3 := by rw [e3]; exact hL
    have hPl := hPl.fr (τ := σ3) (fun q h1 h2 => gup_eq e3 (by omega))
    have hSt := hSt.fr (τ := σ3) (fun q h1 h2 => gup_eq e3 (by omega))
    have hSy := hSy.fr (τ := σ3) (fun q h1 h2 => gup_eq e3 (by omega))
    have hPa : PaAt σ3 pa (P - 1) g := by rw [e3]; exact hPa.p1 (P - 1)
    have hag := hag.upe e3 (.inr (zo_0 (by decide)))
    exact g_vret (z := sz) hx hb hr hlk hz hP hL hS dX1_takeBack_43 (gxv_i ⟨rfl, hSt, hPa, hPl, hag⟩)
  · exact False.elim (by omega)
