/-! a plan by turns -/
def neF (S : sS) : Nat → Nat → Nat → Int32 → Int32
  | 0, _, _, ac => ac
  | n + 1, a, sm, ac => if sm < sR S then (if restB S a = true then neF S n (a + 1) sm ac else neF S n (a + 1) (sm + 1) (ac + S 1 a)) else ac
def needI (S : sS) (b : Nat) : Int32 := neF S (sB S - b) b 0 (nI 0)
theorem neF_e {S : sS} {a sm : Nat} {ac : Int32} (h : sB S ≤ a) : neF S (sB S - a) a sm ac = ac := by rw [show sB S - a = 0 by omega, neF]
theorem neF_f {S : sS} {a sm : Nat} {ac : Int32} (h : a < sB S) (h2 : sR S ≤ sm) : neF S (sB S - a) a sm ac = ac := by rw [show sB S - a = (sB S - (a + 1)) + 1 by omega, neF, if_neg (by omega)]
theorem neF_r {S : sS} {a sm : Nat} {ac : Int32} (h : a < sB S) (h2 : sm < sR S) (hr : restB S a = true) : neF S (sB S - (a + 1)) (a + 1) sm ac = neF S (sB S - a) a sm ac := by rw [show sB S - a = (sB S - (a + 1)) + 1 by omega, neF, if_pos h2, if_pos hr]
theorem neF_s {S : sS} {a sm : Nat} {ac : Int32} (h : a < sB S) (h2 : sm < sR S) (hr : restB S a = false) : neF S (sB S - (a + 1)) (a + 1) (sm + 1) (ac + S 1 a) = neF S (sB S - a) a sm ac := by rw [show sB S - a = (sB S - (a + 1)) + 1 by omega, neF, if_pos h2, if_neg (by rw [hr]; decide)]
def shP (S : sS) (lf : Nat → Int32) (ned g : Int32) : Nat → Option Nat × Int32
  | 0 => (none, ned)
  | n + 1 => if presB S n = true ∧ hasB g n = false ∧ lf n < (shP S lf ned g n).2 then (some n, lf n) else shP S lf ned g n
def nxtF (S : sS) (lf : Nat → Int32) (ned g : Int32) : Option Nat := (shP S lf ned g (sN S)).1
theorem shP_lt {S : sS} {lf : Nat → Int32} {ned g : Int32} : ∀ {n r : Nat}, (shP S lf ned g n).1 = some r → r < n
  | 0, r, h => by simp [shP] at h
  | n + 1, r, h => by
    rw [shP] at h
    split at h
    · cases h; omega
    · have := shP_lt h; omega
theorem shP_1 {S : sS} {lf : Nat → Int32} {ned g : Int32} {n : Nat} (h : presB S n = false) : shP S lf ned g n = shP S lf ned g (n + 1) := by rw [shP, if_neg (fun q => by rw [h] at q; cases q.1)]
theorem shP_2 {S : sS} {lf : Nat → Int32} {ned g : Int32} {n : Nat} (h : hasB g n = true) : shP S lf ned g n = shP S lf ned g (n + 1) := by rw [shP, if_neg (fun q => by rw [h] at q; cases q.2.1)]
theorem shP_3 {S : sS} {lf : Nat → Int32} {ned g : Int32} {n : Nat} (h : (shP S lf ned g n).2 ≤ lf n) : shP S lf ned g n = shP S lf ned g (n + 1) := by rw [shP, if_neg (fun q => absurd q.2.2 (Int32.not_lt.mpr h))]
theorem shP_4 {S : sS} {lf : Nat → Int32} {ned g : Int32} {n : Nat} (h1 : presB S n = true) (h2 : hasB g n = false) (h : ¬ (shP S lf ned g n).2 ≤ lf n) : (some n, lf n) = shP S lf ned g (n + 1) := by rw [shP, if_pos ⟨h1, h2, Int32.not_le.mp h⟩]
def canP (S : sS) (lf : Nat → Int32) (g : Int32) (b i : Nat) : Bool := presB S i && !hasB g i && decide (S 1 b ≤ lf i)
def canF (S : sS) (lf : Nat → Int32) (g : Int32) (b : Nat) : Bool := (firstK (canP S lf g b) (sN S) 0).isSome
theorem canP_1 {S : sS} {lf : Nat → Int32} {g : Int32} {b i : Nat} (h : presB S i = false) : canP S lf g b i = false := by rw [canP, h]; rfl
theorem canP_2 {S : sS} {lf : Nat → Int32} {g : Int32} {b i : Nat} (h : hasB g i = true) : canP S lf g b i = false := by rw [canP, h]; simp
theorem canP_3 {S : sS} {lf : Nat → Int32} {g : Int32} {b i : Nat} (h : lf i < S 1 b) : canP S lf g b i = false := by rw [canP, decide_eq_false (Int32.not_le.mpr h), Bool.and_false]
theorem canP_4 {S : sS} {lf : Nat → Int32} {g : Int32} {b i : Nat} (h1 : presB S i = true) (h2 : hasB g i = false) (h : ¬ lf i < S 1 b) : canP S lf g b i = true := by rw [canP, h1, h2, decide_eq_true (Int32.not_lt.mp h)]; rfl
def chzF (S : sS) (lf : Nat → Int32) (ned : Int32) (b : Nat) : Nat → Int32 → Int32
  | 0, g => g
  | t + 1, g => match nxtF S lf ned g with
    | none => g
    | some i => if canF S lf (g ||| bitI i) b = true then chzF S lf ned b t (g ||| bitI i) else g
def choF (S : sS) (lf : Nat → Int32) (b np : Nat) : Int32 := chzF S lf (needI S b) b (max 1 (np / 2)) (nI 0)
theorem chz_e {S : sS} {lf : Nat → Int32} {ned g : Int32} {b k t : Nat} (h : k ≤ t) : chzF S lf ned b (k - t) g = g := by rw [show k - t = 0 by omega, chzF]
theorem chz_n {S : sS} {lf : Nat → Int32} {ned g : Int32} {b k t : Nat} (h : t < k) (hn : nxtF S lf ned g = none) : chzF S lf ned b (k - t) g = g := by rw [show k - t = (k - (t + 1)) + 1 by omega, chzF, hn]
theorem chz_f {S : sS} {lf : Nat → Int32} {ned g : Int32} {b k t i : Nat} (h : t < k) (hn : nxtF S lf ned g = some i) (hc : canF S lf (g ||| bitI i) b = false) : chzF S lf ned b (k - t) g = g := by
  rw [show k - t = (k - (t + 1)) + 1 by omega, chzF, hn]
  exact if_neg (by rw [hc]; decide)
theorem chz_s {S : sS} {lf : Nat → Int32} {ned g : Int32} {b k t i : Nat} (h : t < k) (hn : nxtF S lf ned g = some i) (hc : canF S lf (g ||| bitI i) b = true) : chzF S lf ned b (k - (t + 1)) (g ||| bitI i) = chzF S lf ned b (k - t) g := by
  rw [show k - t = (k - (t + 1)) + 1 by omega, chzF, hn]
  exact (if_pos hc).symm
def gtF (S : sS) (b : Nat) (lf : Nat → Int32) (i : Nat) : Int32 := if doN S i b (lf i) = 0 then lf i - S 1 b else if lf i + S 4 i < S 3 i then lf i + S 4 i else S 3 i
theorem gtF_0 {S : sS} {b : Nat} {lf : Nat → Int32} {i : Nat} (h : doN S i b (lf i) = 0) : lf i - S 1 b = gtF S b lf i := (if_pos h).symm
theorem gtF_1 {S : sS} {b : Nat} {lf : Nat → Int32} {i : Nat} (h : 0 < doN S i b (lf i)) : (if lf i + S 4 i < S 3 i then lf i + S 4 i else S 3 i) = gtF S b lf i := (if_neg (by omega)).symm
theorem cpyF_at (f g : Nat → Int32) (k : Nat) : cpyF f g k k = f k := by simp [cpyF]
def plF (S : sS) (np : Nat) : Nat → (Nat → Int32) × (Nat → Int32)
  | 0 => (fun _ => 0, S 3)
  | n + 1 => (if restB S n = false ∧ soloF S n = none then upd (plF S np n).1 n (choF (sRow S 2 (plF S np n).1) (plF S np n).2 n np) else (plF S np n).1,
     cpyF (plF S np n).2 (gtF (sRow S 2 (if restB S n = false ∧ soloF S n = none then upd (plF S np n).1 n (choF (sRow S 2 (plF S np n).1) (plF S np n).2 n np) else (plF S np n).1)) n (plF S np n).2) (sN S))
theorem plM_1 {S : sS} {np k : Nat} (h : restB S k = true) : (plF S np (k + 1)).1 = (plF S np k).1 := by
  rw [plF]
  exact if_neg (fun q => by rw [h] at q; cases q.1)
theorem plM_2 {S : sS} {np k so : Nat} (h : soloF S k = some so) : (plF S np (k + 1)).1 = (plF S np k).1 := by
  rw [plF]
  exact if_neg (fun q => by rw [h] at q; cases q.2)
theorem plM_3 {S : sS} {np k : Nat} (h : restB S k = false) (h2 : soloF S k = none) : (plF S np (k + 1)).1 = upd (plF S np k).1 k (choF (sRow S 2 (plF S np k).1) (plF S np k).2 k np) := by
  rw [plF]
  exact if_pos ⟨h, h2⟩
theorem plL {S : sS} {np k : Nat} : (plF S np (k + 1)).2 = cpyF (plF S np k).2 (gtF (sRow S 2 (plF S np (k + 1)).1) k (plF S np k).2) (sN S) := by
  conv => lhs; rw [plF]
  conv => rhs; rw [plF]
theorem sRow_2 (S : sS) (j : Nat) (f g : Nat → Int32) : sRow (sRow S j f) j g = sRow S j g := by
  funext i
  simp only [sRow]
  split <;> rfl
theorem sRow_id (S : sS) (j : Nat) : sRow S j (S j) = S := by
  funext i
  simp only [sRow]
  split
  · subst_vars; rfl
  · rfl
def planS (S : sS) (np : Nat) : sS := sRow S 2 (plF S np (sB S)).1
theorem nX5_init_X2 : ∀ w ∈ wsX20, w ∈ wsX5_init := by decide +kernel
theorem nX5_init_X5 : ∀ w ∈ wsX50, w ∈ wsX5_init := by decide +kernel
set_option maxHeartbeats 4000000 in
set_option maxRecDepth 100000 in
theorem c_X5_init (l : Launch) (tu : Nat) (σ : gS) (h0 : σ tu = gO 5 [.null]) : gM l yX5_init wsX5_init ({ frames := 2, cells := 2, slots := 97, locals := 35 } : Room) 2 97 [.ref tu] σ (tu + 1) (gxv (fun τ n => n = tu + 3 ∧ TuAt τ tu (fun _ => 0) ∧ gAs (gZo tu 3) σ τ)) := by
  refine gM_of (cc := cX5_init) (maxL := 1) (ret := none) (by decide) rfl (Nat.le_of_ble_eq_true rfl) ?_
  intro D ka lo hL hlo p e s m below meth c hx hb hr hts hown hml hlk hnm hK H locs ls hz hP hS hl
  have hl : lv_has ls 1 [(0, .ref tu)] := hl
  have hown : s.vm.findClass RX5 = some m.cls := hown
  have hag : gAs (gZo tu 3) σ σ := gAs.rf
  refine lv_aload_n hx hb dX5_init_0 rfl (lv_at hl 0 rfl) ?_
  refine W.objInit hx hb hown (hts (.methodLink RX5 3 objectInit) (by decide +kernel)) (hts (.instanceMethod objectInit) (by decide +kernel)) (hts (.code objectInit ⟨#[0xb1]⟩ 1 none) (by decide +kernel)) rfl (by rw [hml]; exact hl.1) rfl dX5_init_1 (Nat.le_of_ble_eq_true rfl) (Nat.le_of_ble_eq_true rfl) ?_
  refine W.eq (g2 := F0 m 4 ls []) rfl ?_
  refine lv_aload_n hx hb dX5_init_4 rfl (lv_at hl 0 rfl) ?_
  refine g_new (C := RX2) (T := TX2) (N := 1) (ci := 2) (fs := [.null]) hx hb hts hown hK hz hP hL hS hlo nX5_init_X2 tyX2 tyX2_ok rfl (by decide +kernel) (by decide +kernel) (by decide +kernel) rfl (Nat.le_of_ble_eq_true rfl) (Nat.le_of_ble_eq_true rfl) dX5_init_5 (fun H hz hP hL hS => ?_)
  have hlo : lo ≤ (tu + 1) + 1 := Nat.le_succ_of_le hlo
  obtain ⟨σ1, e1⟩ : ∃ υ0 : gS, υ0 = gup σ (tu + 1) (gO 2 [.null]) := ⟨_, rfl⟩
  have hP : gH D ka σ1 H := by rw [e1]; exact hP
  have hL : gL lo σ1 := by rw [e1]; exact hL
  have hag := hag.upe e1 (zo_k (by decide))
  refine lv_dup hx hb dX5_init_8 rfl ?_
  refine lv_bipush (v := (nI 12)) hx hb dX5_init_9 (by decide) ?_
  refine g_runI (b := (tu + 1)) (As := [.int (nI 12)]) (rest := [.ref (tu + 1), .ref tu]) (own := RX5) 1 hx hb hml hown hts hK hz hP hL hS hlo hl.1 (c_X2_init l (tu + 1) 12 σ1 (gup_here e1) (by decide)) gX5_init_X2_init rfl rfl rfl (by decide +kernel) (by decide +kernel) (by decide +kernel) rfl (by decide +kernel) ⟨Nat.le_of_ble_eq_true rfl, Nat.le_of_ble_eq_true rfl⟩ rfl rfl (Nat.le_of_ble_eq_true rfl) dX5_init_11 ⟨Nat.le_of_ble_eq_true rfl, Nat.le_of_ble_eq_true rfl⟩ (g_kv (fun H locs hz hP hL hS => ?_))
  have hz : H.size = (tu + 3) := hz
  have hlo : lo ≤ (tu + 3) := Nat.le_succ_of_le hlo
  obtain ⟨σ2, e2⟩ : ∃ υ0 : gS, υ0 = gup σ1 (tu + 2) (gI 12 (fun _ => 0)) := ⟨_, rfl⟩
  have hag := hag.upe e2 (zo_k (by decide))
  obtain ⟨σ3, e3⟩ : ∃ υ0 : gS, υ0 = gup σ2 (tu + 1) (gO 2 [.ref (tu + 2)]) := ⟨_, rfl⟩
  have hag := hag.upe e3 (zo_k (by decide))
  have hP : gH D ka σ3 H := by rw [e3, e2]; exact hP
  have hL : gL lo σ3 := by rw [e3, e2]; exact hL
  refine g_putF (C := RX5) (T := TX5) (N := 1) hx hb hts hown hK hP hL hS (gup_off e3 (ad_0 1 (by decide)) (gup_off e2 (ad_0 2 (by decide)) (gup_off e1 (ad_0 1 (by decide)) h0))) nX5_init_X5 tyX5 tyX5_ok nmX5 rfl 0 (by decide) (by decide +kernel) rfl rfl hnm rfl (v := .ref (tu + 1)) rfl rfl (Nat.le_of_ble_eq_true rfl) dX5_init_14 (fun H locs hq hP hL hS => ?_)
  have hz := hq.trans hz
  obtain ⟨σ4, e4⟩ : ∃ υ0 : gS, υ0 = gup σ3 tu (gO 5 [.ref (tu + 1)]) := ⟨_, rfl⟩
  have hP : gH D ka σ4 H := by rw [e4]; exact hP
  have hL : gL lo σ4 := by rw [e4]; exact hL
  have hag := hag.upe e4 (zo_0 (by decide))
  refine W.widen (k := 2) (n := 97) (Nat.le_of_ble_eq_true rfl) (Nat.le_of_ble_eq_true rfl) ?_
  exact g_vret (z := (tu + 3)) hx hb hr hlk hz hP hL hS dX5_init_17 (gxv_i ⟨rfl, ⟨(gup_here e4), (gup_off e4 (ad_1 1 (by decide)) (gup_here e3)), (gup_off e4 (ad_1 2 (by decide)) (gup_off e3 (ad_2 (by decide : 2 ≠ 1)) (gup_here e2)))⟩, hag⟩)

theorem nX5_neededFrom_X4 : ∀ w ∈ wsX40, w ∈ wsX5_neededFrom := by decide +kernel
set_option maxHeartbeats 4000000 in
set_option maxRecDepth 100000 in
theorem c_X5_neededFrom (l : Launch) (tu x : Nat) (S : sS) (lf : Nat → Int32) (b : Nat) (σ : gS) (sz : Nat) (hTu : TuAt σ tu lf) (hSt : StAt σ x S) (hB : sB S ≤ 96) (hRs : sR S ≤ 8) (hb0 : b < sB S) : gM l yX5_neededFrom wsX5_neededFrom ({ frames := 2, cells := 0, slots := 0, locals := 42 } : Room) 0 0 [.ref tu, .ref x, .int (nI b)] σ sz (gi (needI S b) σ sz) := by
  refine gM_of (cc := cX5_neededFrom) (maxL := 6) (ret := (some .int)) (by decide) rfl (Nat.le_of_ble_eq_true rfl) ?_
  intro D ka lo hL hlo p e s m below meth c hx hb hr hts hown hml hlk hnm hK H locs ls hz hP hS hl
  have hl : lv_has ls 6 [(0, .ref tu), (1, .ref x), (2, .int (nI b))] := hl
  have hown : s.vm.findClass RX5 = some m.cls := hown
  refine lv_iconst (v := (nI 0)) hx hb dX5_neededFrom_0 (by decide) ?_
  refine lv_istore_n (lv' := [(3, .int (nI 0)), (0, .ref tu), (1, .ref x), (2, .int (nI b))]) hx hb dX5_neededFrom_1 rfl hl (by decide) rfl (fun ls hl => ?_)
  refine lv_iconst (v := (nI 0)) hx hb dX5_neededFrom_2 (by decide) ?_
  refine lv_istore (lv' := [(4, .int (nI 0)), (3, .int (nI 0)), (0, .ref tu), (1, .ref x), (2, .int (nI b))]) hx hb dX5_neededFrom_3 hl (by decide) rfl (fun ls hl => ?_)
  refine lv_iload_n hx hb dX5_neededFrom_5 rfl (lv_at hl 4 rfl) ?_
  refine lv_istore (lv' := [(5, .int (nI b)), (4, .int (nI 0)), (3, .int (nI 0)), (0, .ref tu), (1, .ref x), (2, .int (nI b))]) hx hb dX5_neededFrom_6 hl (by decide) rfl (fun ls hl => ?_)
  have lp : ∀ (fu_lp : Nat) (a : Nat) (sm : Nat) (ac : Int32), (a ≤ sB S) → (sm ≤ a) → (neF S (sB S - a) a sm ac = needI S b) → (sB S - a < fu_lp) → ∀ (H : Heap) (locs : List Loc) (ls : Array Slot), H.size = sz → gH D ka σ H → va_S (gA lo) s.heap H locs → lv_has ls 6 [(0, .ref tu), (1, .ref x), (2, .int (nI b)), (3, .int ac), (4, .int (nI sm)), (5, .int (nI a))] → W p l e ({ frames := 2, cells := 0, slots := 0, locals := 42 } : Room) s m ([.ref tu, .ref x, .int (nI b)] : List Value).toArray below meth c H locs (0) (0) (MQ below (gQ D ka lo (gi (needI S b) σ sz)) ([.ref tu, .ref x, .int (nI b)] : List Value).toArray s 0 0 (gA lo)) (F0 m 8 ls []) := by
    intro fu_lp
    induction fu_lp with
    | zero => intro a sm ac ha hsm hs hm_lp; exact absurd hm_lp (Nat.not_lt_zero _)
    | succ fu_lp ih_lp =>
      intro a sm ac ha hsm hs hm_lp H locs ls hz hP hS hl
      refine lv_iload hx hb dX5_neededFrom_8 (lv_at hl 5 rfl) ?_
      refine lv_aload_n hx hb dX5_neededFrom_10 rfl (lv_at hl 1 rfl) ?_
      refine g_get (C := RX4) (T := TX4) (N := 13) hx hb hts hown hK hP hSt.c0 nX5_neededFrom_X4 rfl 0 (by decide) (by decide +kernel) rfl (v := .int (nI (sB S))) rfl dX5_neededFrom_11 ?_
      refine g_icmp_ge (tgt := 56) (a := a) (b := sB S) hx hb (by omega) (by omega) dX5_neededFrom_14 (by decide) (fun c14 => ?_) (fun c14 => ?_)
      · refine lv_iload_n hx hb dX5_neededFrom_56 rfl (lv_at hl 3 rfl) ?_
        exact g_iret (z := sz) hx hb hr hlk hz hP hL hS dX5_neededFrom_57 (gi_i (by rw [← hs, neF_e (by omega)]) rfl)
      · refine lv_iload hx hb dX5_neededFrom_17 (lv_at hl 4 rfl) ?_
        refine lv_aload_n hx hb dX5_neededFrom_19 rfl (lv_at hl 1 rfl) ?_
        refine g_get (C := RX4) (T := TX4) (N := 13) hx hb hts hown hK hP hSt.c0 nX5_neededFrom_X4 rfl 4 (by decide) (by decide +kernel) rfl (v := .int (nI (sR S))) rfl dX5_neededFrom_20 ?_
        refine g_icmp_ge (tgt := 56) (a := sm) (b := sR S) hx hb (by omega) (by omega) dX5_neededFrom_23 (by decide) (fun c23 => ?_) (fun c23 => ?_)
        · refine lv_iload_n hx hb dX5_neededFrom_56 rfl (lv_at hl 3 rfl) ?_
          exact g_iret (z := sz) hx hb hr hlk hz hP hL hS dX5_neededFrom_57 (gi_i (by rw [← hs, neF_f (by omega) (by omega)]) rfl)
        · refine lv_aload_n hx hb dX5_neededFrom_26 rfl (lv_at hl 1 rfl) ?_
          refine lv_iload hx hb dX5_neededFrom_27 (lv_at hl 5 rfl) ?_
          refine g_runV (As := [.int (nI a)]) (rest := []) (own := RX5) (C := RX4) (T := TX4) (N := 13) 1 hx hb hml hown hts hK hz hP hL hS hlo hl.1 (c_X4_isRest l x S a σ sz hSt (by omega)) gX5_neededFrom_X4_isRest rfl rfl rfl (by decide +kernel) ⟨Nat.le_of_ble_eq_true rfl, Nat.le_of_ble_eq_true rfl⟩ hSt.c0 rfl rfl rfl (Nat.le_of_ble_eq_true rfl) dX5_neededFrom_29 ⟨Nat.le_of_ble_eq_true rfl, Nat.le_of_ble_eq_true rfl⟩ (g_ki0 (fun H locs hz hP hL hS => ?_))
          refine g_ifb_ne (tgt := 50) hx hb dX5_neededFrom_32 (by decide) (fun c32 => ?_) (fun c32 => ?_)
          · refine lv_iinc (v := (nI (a + 1))) (lv' := [(5, .int (nI (a + 1))), (0, .ref tu), (1, .ref x), (2, .int (nI b)), (3, .int ac), (4, .int (nI sm))]) hx hb dX5_neededFrom_50 hl (k := 5) rfl (g_inc a 1) (by decide) rfl (fun ls hl => ?_)
            refine lv_goto (tgt := 8) hx hb dX5_neededFrom_53 (by decide) ?_
            exact ih_lp (a + 1) sm ac (by omega) (by omega) ((neF_r (by omega) (by omega) c32).trans hs) (by omega) H locs ls hz hP hS (lv_sub hl [1, 2, 3, 4, 5, 0] rfl)
          · refine lv_iload_n hx hb dX5_neededFrom_35 rfl (lv_at hl 3 rfl) ?_
            refine lv_aload_n hx hb dX5_neededFrom_36 rfl (lv_at hl 1 rfl) ?_
            refine g_get (C := RX4) (T := TX4) (N := 13) hx hb hts hown hK hP hSt.c0 nX5_neededFrom_X4 rfl 6 (by decide) (by decide +kernel) rfl (v := .ref (x + 3)) rfl dX5_neededFrom_37 ?_
            refine lv_iload hx hb dX5_neededFrom_40 (lv_at hl 5 rfl) ?_
            refine g_runV (As := [.int (nI a)]) (rest := [.int ac]) (own := RX5) (C := RX2) (T := TX2) (N := 1) 1 hx hb hml hown hts hK hz hP hL hS hlo hl.1 (c_X2_at l (x + 3) 96 a (S 1) σ sz ⟨hSt.c3, hSt.c4⟩ (by omega) (by omega)) gX5_neededFrom_X2_at rfl rfl rfl (by decide +kernel) ⟨Nat.le_of_ble_eq_true rfl, Nat.le_of_ble_eq_true rfl⟩ hSt.c3 rfl rfl rfl (Nat.le_of_ble_eq_true rfl) dX5_neededFrom_42 ⟨Nat.le_of_ble_eq_true rfl, Nat.le_of_ble_eq_true rfl⟩ (g_ki0 (fun H locs hz hP hL hS => ?_))
            refine lv_iadd hx hb dX5_neededFrom_45 ?_
            refine lv_istore_n (lv' := [(3, .int (ac + ((S 1) a))), (0, .ref tu), (1, .ref x), (2, .int (nI b)), (4, .int (nI sm)), (5, .int (nI a))]) hx hb dX5_neededFrom_46 rfl hl (by decide) rfl (fun ls hl => ?_)
            refine lv_iinc (v := (nI (sm + 1))) (lv' := [(4, .int (nI (sm + 1))), (3, .int (ac + ((S 1) a))), (0, .ref tu), (1, .ref x), (2, .int (nI b)), (5, .int (nI a))]) hx hb dX5_neededFrom_47 hl (k := 4) rfl (g_inc sm 1) (by decide) rfl (fun ls hl => ?_)
            refine lv_iinc (v := (nI (a + 1))) (lv' := [(5, .int (nI (a + 1))), (4, .int (nI (sm + 1))), (3, .int (ac + ((S 1) a))), (0, .ref tu), (1, .ref x), (2, .int (nI b))]) hx hb dX5_neededFrom_50 hl (k := 5) rfl (g_inc a 1) (by decide) rfl (fun ls hl => ?_)
            refine lv_goto (tgt := 8) hx hb dX5_neededFrom_53 (by decide) ?_
            exact ih_lp (a + 1) (sm + 1) (ac + S 1 a) (by omega) (by omega) ((neF_s (by omega) (by omega) c32).trans hs) (by omega) H locs ls hz hP hS (lv_sub hl [3, 4, 5, 2, 1, 0] rfl)
  exact lp _ b 0 (nI 0) (by omega) (by omega) rfl (Nat.lt_succ_self _) H locs ls hz hP hS (lv_sub hl [3, 4, 5, 2, 1, 0] rfl)

theorem nX5_shortestOfBreath_X4 : ∀ w ∈ wsX40, w ∈ wsX5_shortestOfBreath := by decide +kernel
theorem nX5_shortestOfBreath_X5 : ∀ w ∈ wsX50, w ∈ wsX5_shortestOfBreath := by decide +kernel
set_option maxHeartbeats 4000000 in
set_option maxRecDepth 100000 in
theorem c_X5_shortestOfBreath (l : Launch) (tu x : Nat) (S : sS) (lf : Nat → Int32) (ned g : Int32) (σ : gS) (sz : Nat) (hTu : TuAt σ tu lf) (hSt : StAt σ x S) (hN : sN S ≤ 12) : gM l yX5_shortestOfBreath wsX5_shortestOfBreath ({ frames := 2, cells := 0, slots := 0, locals := 42 } : Room) 0 0 [.ref tu, .ref x, .int ned, .int g] σ sz (gi (oI (nxtF S lf ned g)) σ sz) := by
  refine gM_of (cc := cX5_shortestOfBreath) (maxL := 8) (ret := (some .int)) (by decide) rfl (Nat.le_of_ble_eq_true rfl) ?_
  intro D ka lo hL hlo p e s m below meth c hx hb hr hts hown hml hlk hnm hK H locs ls hz hP hS hl
  have hl : lv_has ls 8 [(0, .ref tu), (1, .ref x), (2, .int ned), (3, .int g)] := hl
  have hown : s.vm.findClass RX5 = some m.cls := hown
  refine lv_bipush (v := (-5)) hx hb dX5_shortestOfBreath_0 (by decide) ?_
  refine lv_istore (lv' := [(4, .int (-5)), (0, .ref tu), (1, .ref x), (2, .int ned), (3, .int g)]) hx hb dX5_shortestOfBreath_2 hl (by decide) rfl (fun ls hl => ?_)
  refine lv_iload_n hx hb dX5_shortestOfBreath_4 rfl (lv_at hl 3 rfl) ?_
  refine lv_istore (lv' := [(5, .int ned), (4, .int (-5)), (0, .ref tu), (1, .ref x), (2, .int ned), (3, .int g)]) hx hb dX5_shortestOfBreath_5 hl (by decide) rfl (fun ls hl => ?_)
  refine lv_iconst (v := (nI 0)) hx hb dX5_shortestOfBreath_7 (by decide) ?_
  refine lv_istore (lv' := [(6, .int (nI 0)), (5, .int ned), (4, .int (-5)), (0, .ref tu), (1, .ref x), (2, .int ned), (3, .int g)]) hx hb dX5_shortestOfBreath_8 hl (by decide) rfl (fun ls hl => ?_)
  have lp : ∀ (fu_lp : Nat) (i : Nat), (i ≤ sN S) → (sN S - i < fu_lp) → ∀ (H : Heap) (locs : List Loc) (ls : Array Slot), H.size = sz → gH D ka σ H → va_S (gA lo) s.heap H locs → lv_has ls 8 [(0, .ref tu), (1, .ref x), (2, .int ned), (3, .int g), (4, .int (oI (shP S lf ned g i).1)), (5, .int ((shP S lf ned g i).2)), (6, .int (nI i))] → W p l e ({ frames := 2, cells := 0, slots := 0, locals := 42 } : Room) s m ([.ref tu, .ref x, .int ned, .int g] : List Value).toArray below meth c H locs (0) (0) (MQ below (gQ D ka lo (gi (oI (nxtF S lf ned g)) σ sz)) ([.ref tu, .ref x, .int ned, .int g] : List Value).toArray s 0 0 (gA lo)) (F0 m 10 ls []) := by
    intro fu_lp
    induction fu_lp with
    | zero => intro i hi hm_lp; exact absurd hm_lp (Nat.not_lt_zero _)
    | succ fu_lp ih_lp =>
      intro i hi hm_lp H locs ls hz hP hS hl
      refine lv_iload hx hb dX5_shortestOfBreath_10 (lv_at hl 6 rfl) ?_
      refine lv_aload_n hx hb dX5_shortestOfBreath_12 rfl (lv_at hl 1 rfl) ?_
      refine g_get (C := RX4) (T := TX4) (N := 13) hx hb hts hown hK hP hSt.c0 nX5_shortestOfBreath_X4 rfl 1 (by decide) (by decide +kernel) rfl (v := .int (nI (sN S))) rfl dX5_shortestOfBreath_13 ?_
      refine g_icmp_ge (tgt := 84) (a := i) (b := sN S) hx hb (by omega) (by omega) dX5_shortestOfBreath_16 (by decide) (fun c16 => ?_) (fun c16 => ?_)
      · refine lv_iload hx hb dX5_shortestOfBreath_84 (lv_at hl 4 rfl) ?_
        exact g_iret (z := sz) hx hb hr hlk hz hP hL hS dX5_shortestOfBreath_86 (gi_i (by rw [show i = sN S by omega]; rfl) rfl)
      · refine lv_aload_n hx hb dX5_shortestOfBreath_19 rfl (lv_at hl 1 rfl) ?_
        refine lv_iload hx hb dX5_shortestOfBreath_20 (lv_at hl 6 rfl) ?_
        refine g_runV (As := [.int (nI i)]) (rest := []) (own := RX5) (C := RX4) (T := TX4) (N := 13) 1 hx hb hml hown hts hK hz hP hL hS hlo hl.1 (c_X4_isPresent l x S i σ sz hSt) gX5_shortestOfBreath_X4_isPresent rfl rfl rfl (by decide +kernel) ⟨Nat.le_of_ble_eq_true rfl, Nat.le_of_ble_eq_true rfl⟩ hSt.c0 rfl rfl rfl (Nat.le_of_ble_eq_true rfl) dX5_shortestOfBreath_22 ⟨Nat.le_of_ble_eq_true rfl, Nat.le_of_ble_eq_true rfl⟩ (g_ki0 (fun H locs hz hP hL hS => ?_))
        refine g_ifb_eq (tgt := 41) hx hb dX5_shortestOfBreath_25 (by decide) (fun c25 => ?_) (fun c25 => ?_)
        · refine lv_iconst (v := (nI 0)) hx hb dX5_shortestOfBreath_41 (by decide) ?_
          refine lv_istore (lv' := [(7, .int (nI 0)), (0, .ref tu), (1, .ref x), (2, .int ned), (3, .int g), (4, .int (oI (shP S lf ned g i).1)), (5, .int ((shP S lf ned g i).2)), (6, .int (nI i))]) hx hb dX5_shortestOfBreath_42 hl (by decide) rfl (fun ls hl => ?_)
          refine lv_iload hx hb dX5_shortestOfBreath_44 (lv_at hl 0 rfl) ?_
          refine g_if_eq (tgt := 78) (a := 0) hx hb (by decide) dX5_shortestOfBreath_46 (by decide) (fun c46 => ?_) (fun c46 => absurd c46 (by decide))
          refine lv_iinc (v := (nI (i + 1))) (lv' := [(6, .int (nI (i + 1))), (7, .int (nI 0)), (0, .ref tu), (1, .ref x), (2, .int ned), (3, .int g), (4, .int (oI (shP S lf ned g i).1)), (5, .int ((shP S lf ned g i).2))]) hx hb dX5_shortestOfBreath_78 hl (k := 7) rfl (g_inc i 1) (by decide) rfl (fun ls hl => ?_)
          refine lv_goto (tgt := 10) hx hb dX5_shortestOfBreath_81 (by decide) ?_
          have e_4 : (oI (shP S lf ned g i).1) = (oI (shP S lf ned g (i + 1)).1) := (by rw [← shP_1 c25])
          have e_5 : ((shP S lf ned g i).2) = ((shP S lf ned g (i + 1)).2) := (by rw [← shP_1 c25])
          have hl := lv_sub hl (l' := [(0, .ref tu), (1, .ref x), (2, .int ned), (3, .int g), (4, .int (oI (shP S lf ned g i).1)), (5, .int ((shP S lf ned g i).2)), (6, .int (nI (i + 1)))]) [2, 3, 4, 5, 6, 7, 0] rfl
          rw [e_4] at hl
          rw [e_5] at hl
          exact ih_lp (i + 1) (by omega) (by omega) H locs ls hz hP hS hl
        · refine lv_iload_n hx hb dX5_shortestOfBreath_28 rfl (lv_at hl 3 rfl) ?_
          refine lv_iload hx hb dX5_shortestOfBreath_29 (lv_at hl 6 rfl) ?_
          refine g_runSN (As := [.int g, .int (nI i)]) (rest := []) (own := RX5) 2 hx hb hml hown hts hK hz hP hL hS hlo hl.1 (c_X7_contains l g i σ sz) gX5_shortestOfBreath_X7_contains_n98 rfl rfl rfl (by decide +kernel) (by decide +kernel) (by decide +kernel) (by decide +kernel) ⟨Nat.le_of_ble_eq_true rfl, Nat.le_of_ble_eq_true rfl⟩ rfl rfl (Nat.le_of_ble_eq_true rfl) dX5_shortestOfBreath_31 ⟨Nat.le_of_ble_eq_true rfl, Nat.le_of_ble_eq_true rfl⟩ (g_ki0 (fun H locs hz hP hL hS => ?_))
          refine g_ifb_ne (tgt := 41) hx hb dX5_shortestOfBreath_34 (by decide) (fun c34 => ?_) (fun c34 => ?_)
          · refine lv_iconst (v := (nI 0)) hx hb dX5_shortestOfBreath_41 (by decide) ?_
            refine lv_istore (lv' := [(7, .int (nI 0)), (0, .ref tu), (1, .ref x), (2, .int ned), (3, .int g), (4, .int (oI (shP S lf ned g i).1)), (5, .int ((shP S lf ned g i).2)), (6, .int (nI i))]) hx hb dX5_shortestOfBreath_42 hl (by decide) rfl (fun ls hl => ?_)
            refine lv_iload hx hb dX5_shortestOfBreath_44 (lv_at hl 0 rfl) ?_
            refine g_if_eq (tgt := 78) (a := 0) hx hb (by decide) dX5_shortestOfBreath_46 (by decide) (fun c46 => ?_) (fun c46 => absurd c46 (by decide))
            refine lv_iinc (v := (nI (i + 1))) (lv' := [(6, .int (nI (i + 1))), (7, .int (nI 0)), (0, .ref tu), (1, .ref x), (2, .int ned), (3, .int g), (4, .int (oI (shP S lf ned g i).1)), (5, .int ((shP S lf ned g i).2))]) hx hb dX5_shortestOfBreath_78 hl (k := 7) rfl (g_inc i 1) (by decide) rfl (fun ls hl => ?_)
            refine lv_goto (tgt := 10) hx hb dX5_shortestOfBreath_81 (by decide) ?_
            have e_4 : (oI (shP S lf ned g i).1) = (oI (shP S lf ned g (i + 1)).1) := (by rw [← shP_2 c34])
            have e_5 : ((shP S lf ned g i).2) = ((shP S lf ned g (i + 1)).2) := (by rw [← shP_2 c34])
            have hl := lv_sub hl (l' := [(0, .ref tu), (1, .ref x), (2, .int ned), (3, .int g), (4, .int (oI (shP S lf ned g i).1)), (5, .int ((shP S lf ned g i).2)), (6, .int (nI (i + 1)))]) [2, 3, 4, 5, 6, 7, 0] rfl
            rw [e_4] at hl
            rw [e_5] at hl
            exact ih_lp (i + 1) (by omega) (by omega) H locs ls hz hP hS hl
          · refine lv_iconst (v := (nI 1)) hx hb dX5_shortestOfBreath_37 (by decide) ?_
            refine lv_goto (tgt := 42) hx hb dX5_shortestOfBreath_38 (by decide) ?_
            refine lv_istore (lv' := [(7, .int (nI 1)), (0, .ref tu), (1, .ref x), (2, .int ned), (3, .int g), (4, .int (oI (shP S lf ned g i).1)), (5, .int ((shP S lf ned g i).2)), (6, .int (nI i))]) hx hb dX5_shortestOfBreath_42 hl (by decide) rfl (fun ls hl => ?_)
            refine lv_iload hx hb dX5_shortestOfBreath_44 (lv_at hl 0 rfl) ?_
            refine g_if_eq (tgt := 78) (a := 1) hx hb (by decide) dX5_shortestOfBreath_46 (by decide) (fun c46 => absurd c46 (by decide)) (fun c46 => ?_)
            refine lv_aload_n hx hb dX5_shortestOfBreath_49 rfl (lv_at hl 1 rfl) ?_
            refine g_get (C := RX5) (T := TX5) (N := 1) hx hb hts hown hK hP hTu.c0 nX5_shortestOfBreath_X5 rfl 0 (by decide) (by decide +kernel) rfl (v := .ref (tu + 1)) rfl dX5_shortestOfBreath_50 ?_
            refine lv_iload hx hb dX5_shortestOfBreath_53 (lv_at hl 7 rfl) ?_
            refine g_runV (As := [.int (nI i)]) (rest := []) (own := RX5) (C := RX2) (T := TX2) (N := 1) 1 hx hb hml hown hts hK hz hP hL hS hlo hl.1 (c_X2_at l (tu + 1) 12 i lf σ sz ⟨hTu.c1, hTu.c2⟩ (by omega) (by omega)) gX5_shortestOfBreath_X2_at rfl rfl rfl (by decide +kernel) ⟨Nat.le_of_ble_eq_true rfl, Nat.le_of_ble_eq_true rfl⟩ hTu.c1 rfl rfl rfl (Nat.le_of_ble_eq_true rfl) dX5_shortestOfBreath_55 ⟨Nat.le_of_ble_eq_true rfl, Nat.le_of_ble_eq_true rfl⟩ (g_ki0 (fun H locs hz hP hL hS => ?_))
            refine lv_iload hx hb dX5_shortestOfBreath_58 (lv_at hl 6 rfl) ?_
            refine lv_icmp_ge (tgt := 78) hx hb dX5_shortestOfBreath_60 (by decide) (fun c60 => ?_) (fun c60 => ?_)
            · refine lv_iinc (v := (nI (i + 1))) (lv' := [(6, .int (nI (i + 1))), (7, .int (nI 1)), (0, .ref tu), (1, .ref x), (2, .int ned), (3, .int g), (4, .int (oI (shP S lf ned g i).1)), (5, .int ((shP S lf ned g i).2))]) hx hb dX5_shortestOfBreath_78 hl (k := 7) rfl (g_inc i 1) (by decide) rfl (fun ls hl => ?_)
              refine lv_goto (tgt := 10) hx hb dX5_shortestOfBreath_81 (by decide) ?_
              have e_4 : (oI (shP S lf ned g i).1) = (oI (shP S lf ned g (i + 1)).1) := (by rw [← shP_3 c60])
              have e_5 : ((shP S lf ned g i).2) = ((shP S lf ned g (i + 1)).2) := (by rw [← shP_3 c60])
              have hl := lv_sub hl (l' := [(0, .ref tu), (1, .ref x), (2, .int ned), (3, .int g), (4, .int (oI (shP S lf ned g i).1)), (5, .int ((shP S lf ned g i).2)), (6, .int (nI (i + 1)))]) [2, 3, 4, 5, 6, 7, 0] rfl
              rw [e_4] at hl
              rw [e_5] at hl
              exact ih_lp (i + 1) (by omega) (by omega) H locs ls hz hP hS hl
            · refine lv_iload hx hb dX5_shortestOfBreath_63 (lv_at hl 7 rfl) ?_
              refine lv_istore (lv' := [(4, .int (nI i)), (7, .int (nI 1)), (0, .ref tu), (1, .ref x), (2, .int ned), (3, .int g), (5, .int ((shP S lf ned g i).2)), (6, .int (nI i))]) hx hb dX5_shortestOfBreath_65 hl (by decide) rfl (fun ls hl => ?_)
              refine lv_aload_n hx hb dX5_shortestOfBreath_67 rfl (lv_at hl 2 rfl) ?_
              refine g_get (C := RX5) (T := TX5) (N := 1) hx hb hts hown hK hP hTu.c0 nX5_shortestOfBreath_X5 rfl 0 (by decide) (by decide +kernel) rfl (v := .ref (tu + 1)) rfl dX5_shortestOfBreath_68 ?_
              refine lv_iload hx hb dX5_shortestOfBreath_71 (lv_at hl 7 rfl) ?_
              refine g_runV (As := [.int (nI i)]) (rest := []) (own := RX5) (C := RX2) (T := TX2) (N := 1) 1 hx hb hml hown hts hK hz hP hL hS hlo hl.1 (c_X2_at l (tu + 1) 12 i lf σ sz ⟨hTu.c1, hTu.c2⟩ (by omega) (by omega)) gX5_shortestOfBreath_X2_at rfl rfl rfl (by decide +kernel) ⟨Nat.le_of_ble_eq_true rfl, Nat.le_of_ble_eq_true rfl⟩ hTu.c1 rfl rfl rfl (Nat.le_of_ble_eq_true rfl) dX5_shortestOfBreath_73 ⟨Nat.le_of_ble_eq_true rfl, Nat.le_of_ble_eq_true rfl⟩ (g_ki0 (fun H locs hz hP hL hS => ?_))
              refine lv_istore (lv' := [(5, .int (lf i)), (4, .int (nI i)), (7, .int (nI 1)), (0, .ref tu), (1, .ref x), (2, .int ned), (3, .int g), (6, .int (nI i))]) hx hb dX5_shortestOfBreath_76 hl (by decide) rfl (fun ls hl => ?_)
              refine lv_iinc (v := (nI (i + 1))) (lv' := [(6, .int (nI (i + 1))), (5, .int (lf i)), (4, .int (nI i)), (7, .int (nI 1)), (0, .ref tu), (1, .ref x), (2, .int ned), (3, .int g)]) hx hb dX5_shortestOfBreath_78 hl (k := 7) rfl (g_inc i 1) (by decide) rfl (fun ls hl => ?_)
              refine lv_goto (tgt := 10) hx hb dX5_shortestOfBreath_81 (by decide) ?_
              have e_4 : (nI i) = (oI (shP S lf ned g (i + 1)).1) := (by rw [← shP_4 c25 c34 c60]; rfl)
              have e_5 : (lf i) = ((shP S lf ned g (i + 1)).2) := (by rw [← shP_4 c25 c34 c60])
              have hl := lv_sub hl (l' := [(0, .ref tu), (1, .ref x), (2, .int ned), (3, .int g), (4, .int (nI i)), (5, .int (lf i)), (6, .int (nI (i + 1)))]) [4, 5, 6, 7, 2, 1, 0] rfl
              rw [e_4] at hl
              rw [e_5] at hl
              exact ih_lp (i + 1) (by omega) (by omega) H locs ls hz hP hS hl
  exact lp _ 0 (by omega) (Nat.lt_succ_self _) H locs ls hz hP hS (lv_sub hl [3, 4, 5, 6, 2, 1, 0] rfl)

theorem nX5_canBeSungWithout_X4 : ∀ w ∈ wsX40, w ∈ wsX5_canBeSungWithout := by decide +kernel
theorem nX5_canBeSungWithout_X5 : ∀ w ∈ wsX50, w ∈ wsX5_canBeSungWithout := by decide +kernel
set_option maxHeartbeats 4000000 in
set_option maxRecDepth 100000 in
theorem c_X5_canBeSungWithout (l : Launch) (tu x : Nat) (S : sS) (lf : Nat → Int32) (g : Int32) (b : Nat) (σ : gS) (sz : Nat) (hTu : TuAt σ tu lf) (hSt : StAt σ x S) (hN : sN S ≤ 12) (hb0 : b < 96) : gM l yX5_canBeSungWithout wsX5_canBeSungWithout ({ frames := 2, cells := 0, slots := 0, locals := 42 } : Room) 0 0 [.ref tu, .ref x, .int g, .int (nI b)] σ sz (gi (bI (canF S lf g b)) σ sz) := by
  refine gM_of (cc := cX5_canBeSungWithout) (maxL := 6) (ret := (some .boolean)) (by decide) rfl (Nat.le_of_ble_eq_true rfl) ?_
  intro D ka lo hL hlo p e s m below meth c hx hb hr hts hown hml hlk hnm hK H locs ls hz hP hS hl
  have hl : lv_has ls 6 [(0, .ref tu), (1, .ref x), (2, .int g), (3, .int (nI b))] := hl
  have hown : s.vm.findClass RX5 = some m.cls := hown
  refine lv_iconst (v := (nI 0)) hx hb dX5_canBeSungWithout_0 (by decide) ?_
  refine lv_istore (lv' := [(4, .int (nI 0)), (0, .ref tu), (1, .ref x), (2, .int g), (3, .int (nI b))]) hx hb dX5_canBeSungWithout_1 hl (by decide) rfl (fun ls hl => ?_)
  have lp : ∀ (fu_lp : Nat) (i : Nat), (i ≤ sN S) → (firstK (canP S lf g b) (sN S - i) i = firstK (canP S lf g b) (sN S) 0) → (sN S - i < fu_lp) → ∀ (H : Heap) (locs : List Loc) (ls : Array Slot), H.size = sz → gH D ka σ H → va_S (gA lo) s.heap H locs → lv_has ls 6 [(0, .ref tu), (1, .ref x), (2, .int g), (3, .int (nI b)), (4, .int (nI i))] → W p l e ({ frames := 2, cells := 0, slots := 0, locals := 42 } : Room) s m ([.ref tu, .ref x, .int g, .int (nI b)] : List Value).toArray below meth c H locs (0) (0) (MQ below (gQ D ka lo (gi (bI (canF S lf g b)) σ sz)) ([.ref tu, .ref x, .int g, .int (nI b)] : List Value).toArray s 0 0 (gA lo)) (F0 m 3 ls []) := by
    intro fu_lp
    induction fu_lp with
    | zero => intro i hi hs hm_lp; exact absurd hm_lp (Nat.not_lt_zero _)
    | succ fu_lp ih_lp =>
      intro i hi hs hm_lp H locs ls hz hP hS hl
      refine lv_iload hx hb dX5_canBeSungWithout_3 (lv_at hl 4 rfl) ?_
      refine lv_aload_n hx hb dX5_canBeSungWithout_5 rfl (lv_at hl 1 rfl) ?_
      refine g_get (C := RX4) (T := TX4) (N := 13) hx hb hts hown hK hP hSt.c0 nX5_canBeSungWithout_X4 rfl 1 (by decide) (by decide +kernel) rfl (v := .int (nI (sN S))) rfl dX5_canBeSungWithout_6 ?_
      refine g_icmp_ge (tgt := 70) (a := i) (b := sN S) hx hb (by omega) (by omega) dX5_canBeSungWithout_9 (by decide) (fun c9 => ?_) (fun c9 => ?_)
      · refine lv_iconst (v := (nI 0)) hx hb dX5_canBeSungWithout_70 (by decide) ?_
        exact g_zret (z := sz) hx hb hr hlk hz hP hL hS rfl dX5_canBeSungWithout_71 (gi_i (by rw [canF, ← hs, fK_e (by omega)]; rfl) rfl)
      · refine lv_aload_n hx hb dX5_canBeSungWithout_12 rfl (lv_at hl 1 rfl) ?_
        refine lv_iload hx hb dX5_canBeSungWithout_13 (lv_at hl 4 rfl) ?_
        refine g_runV (As := [.int (nI i)]) (rest := []) (own := RX5) (C := RX4) (T := TX4) (N := 13) 1 hx hb hml hown hts hK hz hP hL hS hlo hl.1 (c_X4_isPresent l x S i σ sz hSt) gX5_canBeSungWithout_X4_isPresent rfl rfl rfl (by decide +kernel) ⟨Nat.le_of_ble_eq_true rfl, Nat.le_of_ble_eq_true rfl⟩ hSt.c0 rfl rfl rfl (Nat.le_of_ble_eq_true rfl) dX5_canBeSungWithout_15 ⟨Nat.le_of_ble_eq_true rfl, Nat.le_of_ble_eq_true rfl⟩ (g_ki0 (fun H locs hz hP hL hS => ?_))
        refine g_ifb_eq (tgt := 34) hx hb dX5_canBeSungWithout_18 (by decide) (fun c18 => ?_) (fun c18 => ?_)
        · refine lv_iconst (v := (nI 0)) hx hb dX5_canBeSungWithout_34 (by decide) ?_
          refine lv_istore (lv' := [(5, .int (nI 0)), (0, .ref tu), (1, .ref x), (2, .int g), (3, .int (nI b)), (4, .int (nI i))]) hx hb dX5_canBeSungWithout_35 hl (by decide) rfl (fun ls hl => ?_)
          refine lv_iload hx hb dX5_canBeSungWithout_37 (lv_at hl 0 rfl) ?_
          refine g_if_eq (tgt := 64) (a := 0) hx hb (by decide) dX5_canBeSungWithout_39 (by decide) (fun c39 => ?_) (fun c39 => absurd c39 (by decide))
          refine lv_iinc (v := (nI (i + 1))) (lv' := [(4, .int (nI (i + 1))), (5, .int (nI 0)), (0, .ref tu), (1, .ref x), (2, .int g), (3, .int (nI b))]) hx hb dX5_canBeSungWithout_64 hl (k := 5) rfl (g_inc i 1) (by decide) rfl (fun ls hl => ?_)
          refine lv_goto (tgt := 3) hx hb dX5_canBeSungWithout_67 (by decide) ?_
          exact ih_lp (i + 1) (by omega) ((fK_s (p := canP S lf g b) (by omega) (canP_1 c18)).trans hs) (by omega) H locs ls hz hP hS (lv_sub hl [2, 3, 4, 5, 0] rfl)
        · refine lv_iload_n hx hb dX5_canBeSungWithout_21 rfl (lv_at hl 2 rfl) ?_
          refine lv_iload hx hb dX5_canBeSungWithout_22 (lv_at hl 4 rfl) ?_
          refine g_runSN (As := [.int g, .int (nI i)]) (rest := []) (own := RX5) 2 hx hb hml hown hts hK hz hP hL hS hlo hl.1 (c_X7_contains l g i σ sz) gX5_canBeSungWithout_X7_contains_n98 rfl rfl rfl (by decide +kernel) (by decide +kernel) (by decide +kernel) (by decide +kernel) ⟨Nat.le_of_ble_eq_true rfl, Nat.le_of_ble_eq_true rfl⟩ rfl rfl (Nat.le_of_ble_eq_true rfl) dX5_canBeSungWithout_24 ⟨Nat.le_of_ble_eq_true rfl, Nat.le_of_ble_eq_true rfl⟩ (g_ki0 (fun H locs hz hP hL hS => ?_))
          refine g_ifb_ne (tgt := 34) hx hb dX5_canBeSungWithout_27 (by decide) (fun c27 => ?_) (fun c27 => ?_)
          · refine lv_iconst (v := (nI 0)) hx hb dX5_canBeSungWithout_34 (by decide) ?_
            refine lv_istore (lv' := [(5, .int (nI 0)), (0, .ref tu), (1, .ref x), (2, .int g), (3, .int (nI b)), (4, .int (nI i))]) hx hb dX5_canBeSungWithout_35 hl (by decide) rfl (fun ls hl => ?_)
            refine lv_iload hx hb dX5_canBeSungWithout_37 (lv_at hl 0 rfl) ?_
            refine g_if_eq (tgt := 64) (a := 0) hx hb (by decide) dX5_canBeSungWithout_39 (by decide) (fun c39 => ?_) (fun c39 => absurd c39 (by decide))
            refine lv_iinc (v := (nI (i + 1))) (lv' := [(4, .int (nI (i + 1))), (5, .int (nI 0)), (0, .ref tu), (1, .ref x), (2, .int g), (3, .int (nI b))]) hx hb dX5_canBeSungWithout_64 hl (k := 5) rfl (g_inc i 1) (by decide) rfl (fun ls hl => ?_)
            refine lv_goto (tgt := 3) hx hb dX5_canBeSungWithout_67 (by decide) ?_
            exact ih_lp (i + 1) (by omega) ((fK_s (p := canP S lf g b) (by omega) (canP_2 c27)).trans hs) (by omega) H locs ls hz hP hS (lv_sub hl [2, 3, 4, 5, 0] rfl)
          · refine lv_iconst (v := (nI 1)) hx hb dX5_canBeSungWithout_30 (by decide) ?_
            refine lv_goto (tgt := 35) hx hb dX5_canBeSungWithout_31 (by decide) ?_
            refine lv_istore (lv' := [(5, .int (nI 1)), (0, .ref tu), (1, .ref x), (2, .int g), (3, .int (nI b)), (4, .int (nI i))]) hx hb dX5_canBeSungWithout_35 hl (by decide) rfl (fun ls hl => ?_)
            refine lv_iload hx hb dX5_canBeSungWithout_37 (lv_at hl 0 rfl) ?_
            refine g_if_eq (tgt := 64) (a := 1) hx hb (by decide) dX5_canBeSungWithout_39 (by decide) (fun c39 => absurd c39 (by decide)) (fun c39 => ?_)
            refine lv_aload_n hx hb dX5_canBeSungWithout_42 rfl (lv_at hl 1 rfl) ?_
            refine g_get (C := RX5) (T := TX5) (N := 1) hx hb hts hown hK hP hTu.c0 nX5_canBeSungWithout_X5 rfl 0 (by decide) (by decide +kernel) rfl (v := .ref (tu + 1)) rfl dX5_canBeSungWithout_43 ?_
            refine lv_iload hx hb dX5_canBeSungWithout_46 (lv_at hl 5 rfl) ?_
            refine g_runV (As := [.int (nI i)]) (rest := []) (own := RX5) (C := RX2) (T := TX2) (N := 1) 1 hx hb hml hown hts hK hz hP hL hS hlo hl.1 (c_X2_at l (tu + 1) 12 i lf σ sz ⟨hTu.c1, hTu.c2⟩ (by omega) (by omega)) gX5_canBeSungWithout_X2_at rfl rfl rfl (by decide +kernel) ⟨Nat.le_of_ble_eq_true rfl, Nat.le_of_ble_eq_true rfl⟩ hTu.c1 rfl rfl rfl (Nat.le_of_ble_eq_true rfl) dX5_canBeSungWithout_48 ⟨Nat.le_of_ble_eq_true rfl, Nat.le_of_ble_eq_true rfl⟩ (g_ki0 (fun H locs hz hP hL hS => ?_))
            refine lv_aload_n hx hb dX5_canBeSungWithout_51 rfl (lv_at hl 2 rfl) ?_
            refine g_get (C := RX4) (T := TX4) (N := 13) hx hb hts hown hK hP hSt.c0 nX5_canBeSungWithout_X4 rfl 6 (by decide) (by decide +kernel) rfl (v := .ref (x + 3)) rfl dX5_canBeSungWithout_52 ?_
            refine lv_iload_n hx hb dX5_canBeSungWithout_55 rfl (lv_at hl 4 rfl) ?_
            refine g_runV (As := [.int (nI b)]) (rest := [.int (lf i)]) (own := RX5) (C := RX2) (T := TX2) (N := 1) 1 hx hb hml hown hts hK hz hP hL hS hlo hl.1 (c_X2_at l (x + 3) 96 b (S 1) σ sz ⟨hSt.c3, hSt.c4⟩ (by omega) (by omega)) gX5_canBeSungWithout_X2_at rfl rfl rfl (by decide +kernel) ⟨Nat.le_of_ble_eq_true rfl, Nat.le_of_ble_eq_true rfl⟩ hSt.c3 rfl rfl rfl (Nat.le_of_ble_eq_true rfl) dX5_canBeSungWithout_56 ⟨Nat.le_of_ble_eq_true rfl, Nat.le_of_ble_eq_true rfl⟩ (g_ki0 (fun H locs hz hP hL hS => ?_))
            refine lv_icmp_lt (tgt := 64) hx hb dX5_canBeSungWithout_59 (by decide) (fun c59 => ?_) (fun c59 => ?_)
            · refine lv_iinc (v := (nI (i + 1))) (lv' := [(4, .int (nI (i + 1))), (5, .int (nI 1)), (0, .ref tu), (1, .ref x), (2, .int g), (3, .int (nI b))]) hx hb dX5_canBeSungWithout_64 hl (k := 5) rfl (g_inc i 1) (by decide) rfl (fun ls hl => ?_)
              refine lv_goto (tgt := 3) hx hb dX5_canBeSungWithout_67 (by decide) ?_
              exact ih_lp (i + 1) (by omega) ((fK_s (p := canP S lf g b) (by omega) (canP_3 c59)).trans hs) (by omega) H locs ls hz hP hS (lv_sub hl [2, 3, 4, 5, 0] rfl)
            · refine lv_iconst (v := (nI 1)) hx hb dX5_canBeSungWithout_62 (by decide) ?_
              exact g_zret (z := sz) hx hb hr hlk hz hP hL hS rfl dX5_canBeSungWithout_63 (gi_i (by rw [canF, ← hs, fK_y (by omega) (canP_4 c18 c27 c59)]; rfl) rfl)
  exact lp _ 0 (by omega) rfl (Nat.lt_succ_self _) H locs ls hz hP hS (lv_sub hl [1, 2, 3, 4, 0] rfl)

set_option maxHeartbeats 4000000 in
set_option maxRecDepth 100000 in
theorem c_X5_chooseFor (l : Launch) (tu x : Nat) (S : sS) (lf : Nat → Int32) (b np : Nat) (σ : gS) (sz : Nat) (hTu : TuAt σ tu lf) (hSt : StAt σ x S) (hB : sB S ≤ 96) (hN : sN S ≤ 12) (hRs : sR S ≤ 8) (hb0 : b < sB S) (hpr : bcI (S 8 2) = nI np) (hnp : np ≤ 12) : gM l yX5_chooseFor wsX5_chooseFor ({ frames := 3, cells := 0, slots := 0, locals := 69 } : Room) 0 0 [.ref tu, .ref x, .int (nI b)] σ sz (gi (choF S lf b np) σ sz) := by
  refine gM_of (cc := cX5_chooseFor) (maxL := 8) (ret := (some .int)) (by decide) rfl (Nat.le_of_ble_eq_true rfl) ?_
  intro D ka lo hL hlo p e s m below meth c hx hb hr hts hown hml hlk hnm hK H locs ls hz hP hS hl
  have hl : lv_has ls 8 [(0, .ref tu), (1, .ref x), (2, .int (nI b))] := hl
  have hown : s.vm.findClass RX5 = some m.cls := hown
  refine lv_aload_n hx hb dX5_chooseFor_0 rfl (lv_at hl 0 rfl) ?_
  refine lv_aload_n hx hb dX5_chooseFor_1 rfl (lv_at hl 1 rfl) ?_
  refine lv_iload_n hx hb dX5_chooseFor_2 rfl (lv_at hl 2 rfl) ?_
  refine g_runV (As := [.ref x, .int (nI b)]) (rest := []) (own := RX5) (C := RX5) (T := TX5) (N := 1) 2 hx hb hml hown hts hK hz hP hL hS hlo hl.1 (c_X5_neededFrom l tu x S lf b σ sz hTu hSt (by omega) (by omega) (by omega)) gX5_chooseFor_X5_neededFrom rfl rfl rfl (by decide +kernel) ⟨Nat.le_of_ble_eq_true rfl, Nat.le_of_ble_eq_true rfl⟩ hTu.c0 rfl rfl rfl (Nat.le_of_ble_eq_true rfl) dX5_chooseFor_3 ⟨Nat.le_of_ble_eq_true rfl, Nat.le_of_ble_eq_true rfl⟩ (g_ki0 (fun H locs hz hP hL hS => ?_))
  refine lv_istore_n (lv' := [(3, .int (needI S b)), (0, .ref tu), (1, .ref x), (2, .int (nI b))]) hx hb dX5_chooseFor_6 rfl hl (by decide) rfl (fun ls hl => ?_)
  refine lv_iconst (v := (nI 1)) hx hb dX5_chooseFor_7 (by decide) ?_
  refine lv_aload_n hx hb dX5_chooseFor_8 rfl (lv_at hl 2 rfl) ?_
  refine g_runV (As := []) (rest := [.int (nI 1)]) (own := RX5) (C := RX4) (T := TX4) (N := 13) 0 hx hb hml hown hts hK hz hP hL hS hlo hl.1 (c_X4_countPresent l x S  σ sz hSt) gX5_chooseFor_X4_countPresent rfl rfl rfl (by decide +kernel) ⟨Nat.le_of_ble_eq_true rfl, Nat.le_of_ble_eq_true rfl⟩ hSt.c0 rfl rfl rfl (Nat.le_of_ble_eq_true rfl) dX5_chooseFor_9 ⟨Nat.le_of_ble_eq_true rfl, Nat.le_of_ble_eq_true rfl⟩ (g_ki0 (fun H locs hz hP hL hS => ?_))
  refine g_top (y := (nI np)) hpr ?_
  refine lv_iconst (v := (nI 2)) hx hb dX5_chooseFor_12 (by decide) ?_
  refine lv_idiv hx hb dX5_chooseFor_13 (by decide) ?_
  refine g_top (pk_div (a := np) (d := 2) (by omega) (by omega) (by omega)) ?_
  refine va_mmax hx hb (hml.trans hl.1.symm) hown (hts (.methodLink RX5 66 Lib.Math.max.name) (by decide +kernel)) (hts (.static Lib.Math.max.name) (by decide +kernel)) (hts (.initialized "java/lang/Math") (by decide +kernel)) (hts (.code Lib.Math.max.name Lib.Math.max.code 2 (some .int)) (by decide +kernel)) (Nat.le_of_ble_eq_true rfl) (Nat.le_of_ble_eq_true rfl) (Nat.le_of_ble_eq_true rfl) (Nat.le_of_ble_eq_true rfl) dX5_chooseFor_14 ?_
  refine g_top (g_nmax (a := 1) (b := np / 2) (by omega) (by omega)) ?_
  refine lv_istore (lv' := [(4, .int (nI (max 1 (np / 2)))), (3, .int (needI S b)), (0, .ref tu), (1, .ref x), (2, .int (nI b))]) hx hb dX5_chooseFor_17 hl (by decide) rfl (fun ls hl => ?_)
  refine lv_iconst (v := (nI 0)) hx hb dX5_chooseFor_19 (by decide) ?_
  refine lv_istore (lv' := [(5, .int (nI 0)), (4, .int (nI (max 1 (np / 2)))), (3, .int (needI S b)), (0, .ref tu), (1, .ref x), (2, .int (nI b))]) hx hb dX5_chooseFor_20 hl (by decide) rfl (fun ls hl => ?_)
  refine lv_iconst (v := (nI 0)) hx hb dX5_chooseFor_22 (by decide) ?_
  refine lv_istore (lv' := [(6, .int (nI 0)), (5, .int (nI 0)), (4, .int (nI (max 1 (np / 2)))), (3, .int (needI S b)), (0, .ref tu), (1, .ref x), (2, .int (nI b))]) hx hb dX5_chooseFor_23 hl (by decide) rfl (fun ls hl => ?_)
  have lp : ∀ (fu_lp : Nat) (t : Nat) (g : Int32), (t ≤ max 1 (np / 2)) → (chzF S lf (needI S b) b (max 1 (np / 2) - t) g = choF S lf b np) → (max 1 (np / 2) - t < fu_lp) → ∀ (H : Heap) (locs : List Loc) (ls : Array Slot), H.size = sz → gH D ka σ H → va_S (gA lo) s.heap H locs → lv_has ls 8 [(0, .ref tu), (1, .ref x), (2, .int (nI b)), (3, .int (needI S b)), (4, .int (nI (max 1 (np / 2)))), (5, .int g), (6, .int (nI t))] → W p l e ({ frames := 3, cells := 0, slots := 0, locals := 69 } : Room) s m ([.ref tu, .ref x, .int (nI b)] : List Value).toArray below meth c H locs (0) (0) (MQ below (gQ D ka lo (gi (choF S lf b np) σ sz)) ([.ref tu, .ref x, .int (nI b)] : List Value).toArray s 0 0 (gA lo)) (F0 m 25 ls []) := by
    intro fu_lp
    induction fu_lp with
    | zero => intro t g ht hs hm_lp; exact absurd hm_lp (Nat.not_lt_zero _)
    | succ fu_lp ih_lp =>
      intro t g ht hs hm_lp H locs ls hz hP hS hl
      refine lv_iload hx hb dX5_chooseFor_25 (lv_at hl 6 rfl) ?_
      refine lv_iload hx hb dX5_chooseFor_27 (lv_at hl 4 rfl) ?_
      refine g_icmp_ge (tgt := 85) (a := t) (b := max 1 (np / 2)) hx hb (by omega) (by omega) dX5_chooseFor_29 (by decide) (fun c29 => ?_) (fun c29 => ?_)
      · refine lv_iload hx hb dX5_chooseFor_85 (lv_at hl 5 rfl) ?_
        exact g_iret (z := sz) hx hb hr hlk hz hP hL hS dX5_chooseFor_87 (gi_i (by rw [← hs, chz_e (by omega)]) rfl)
      · refine lv_aload_n hx hb dX5_chooseFor_32 rfl (lv_at hl 0 rfl) ?_
        refine lv_aload_n hx hb dX5_chooseFor_33 rfl (lv_at hl 1 rfl) ?_
        refine lv_iload_n hx hb dX5_chooseFor_34 rfl (lv_at hl 3 rfl) ?_
        refine lv_iload hx hb dX5_chooseFor_35 (lv_at hl 5 rfl) ?_
        refine g_runV (As := [.ref x, .int (needI S b), .int g]) (rest := []) (own := RX5) (C := RX5) (T := TX5) (N := 1) 3 hx hb hml hown hts hK hz hP hL hS hlo hl.1 (c_X5_shortestOfBreath l tu x S lf ((needI S b)) g σ sz hTu hSt (by omega)) gX5_chooseFor_X5_shortestOfBreath rfl rfl rfl (by decide +kernel) ⟨Nat.le_of_ble_eq_true rfl, Nat.le_of_ble_eq_true rfl⟩ hTu.c0 rfl rfl rfl (Nat.le_of_ble_eq_true rfl) dX5_chooseFor_37 ⟨Nat.le_of_ble_eq_true rfl, Nat.le_of_ble_eq_true rfl⟩ (g_ki0 (fun H locs hz hP hL hS => ?_))
        rcases hnx : nxtF S lf (needI S b) g with _ | ix
        · refine g_top (y := (-5)) rfl ?_
          refine lv_istore (lv' := [(7, .int (-5)), (0, .ref tu), (1, .ref x), (2, .int (nI b)), (3, .int (needI S b)), (4, .int (nI (max 1 (np / 2)))), (5, .int g), (6, .int (nI t))]) hx hb dX5_chooseFor_40 hl (by decide) rfl (fun ls hl => ?_)
          refine lv_iload hx hb dX5_chooseFor_42 (lv_at hl 0 rfl) ?_
          refine lv_bipush (v := (-5)) hx hb dX5_chooseFor_44 (by decide) ?_
          refine lv_icmp_eq (tgt := 66) hx hb dX5_chooseFor_46 (by decide) (fun c46 => ?_) (fun c46 => absurd rfl c46)
          refine lv_iload hx hb dX5_chooseFor_66 (lv_at hl 6 rfl) ?_
          exact g_iret (z := sz) hx hb hr hlk hz hP hL hS dX5_chooseFor_68 (gi_i (by rw [← hs, chz_n (by omega) hnx]) rfl)
        · refine g_top (y := (nI ix)) rfl ?_
          have hix := shP_lt hnx
          refine lv_istore (lv' := [(7, .int (nI ix)), (0, .ref tu), (1, .ref x), (2, .int (nI b)), (3, .int (needI S b)), (4, .int (nI (max 1 (np / 2)))), (5, .int g), (6, .int (nI t))]) hx hb dX5_chooseFor_40 hl (by decide) rfl (fun ls hl => ?_)
          refine lv_iload hx hb dX5_chooseFor_42 (lv_at hl 0 rfl) ?_
          refine lv_bipush (v := (-5)) hx hb dX5_chooseFor_44 (by decide) ?_
          refine lv_icmp_eq (tgt := 66) hx hb dX5_chooseFor_46 (by decide) (fun c46 => absurd c46 (g_ne5 (by omega))) (fun c46 => ?_)
          refine lv_aload_n hx hb dX5_chooseFor_49 rfl (lv_at hl 1 rfl) ?_
          refine lv_aload_n hx hb dX5_chooseFor_50 rfl (lv_at hl 2 rfl) ?_
          refine lv_iload hx hb dX5_chooseFor_51 (lv_at hl 6 rfl) ?_
          refine lv_iload hx hb dX5_chooseFor_53 (lv_at hl 0 rfl) ?_
          refine g_runSN (As := [.int (nI ix)]) (rest := [.int g, .ref x, .ref tu]) (own := RX5) 1 hx hb hml hown hts hK hz hP hL hS hlo hl.1 (c_X7_bit l ix σ sz) gX5_chooseFor_X7_bit_n76 rfl rfl rfl (by decide +kernel) (by decide +kernel) (by decide +kernel) (by decide +kernel) ⟨Nat.le_of_ble_eq_true rfl, Nat.le_of_ble_eq_true rfl⟩ rfl rfl (Nat.le_of_ble_eq_true rfl) dX5_chooseFor_55 ⟨Nat.le_of_ble_eq_true rfl, Nat.le_of_ble_eq_true rfl⟩ (g_ki0 (fun H locs hz hP hL hS => ?_))
          refine lv_ior hx hb dX5_chooseFor_58 ?_
          refine lv_iload_n hx hb dX5_chooseFor_59 rfl (lv_at hl 3 rfl) ?_
          refine g_runV (As := [.ref x, .int (g ||| (bitI ix)), .int (nI b)]) (rest := []) (own := RX5) (C := RX5) (T := TX5) (N := 1) 3 hx hb hml hown hts hK hz hP hL hS hlo hl.1 (c_X5_canBeSungWithout l tu x S lf ((g ||| (bitI ix))) b σ sz hTu hSt (by omega) (by omega)) gX5_chooseFor_X5_canBeSungWithout rfl rfl rfl (by decide +kernel) ⟨Nat.le_of_ble_eq_true rfl, Nat.le_of_ble_eq_true rfl⟩ hTu.c0 rfl rfl rfl (Nat.le_of_ble_eq_true rfl) dX5_chooseFor_60 ⟨Nat.le_of_ble_eq_true rfl, Nat.le_of_ble_eq_true rfl⟩ (g_ki0 (fun H locs hz hP hL hS => ?_))
          refine g_ifb_ne (tgt := 69) hx hb dX5_chooseFor_63 (by decide) (fun c63 => ?_) (fun c63 => ?_)
          · refine lv_iload hx hb dX5_chooseFor_69 (lv_at hl 6 rfl) ?_
            refine lv_iload hx hb dX5_chooseFor_71 (lv_at hl 0 rfl) ?_
            refine g_runSN (As := [.int (nI ix)]) (rest := [.int g]) (own := RX5) 1 hx hb hml hown hts hK hz hP hL hS hlo hl.1 (c_X7_bit l ix σ sz) gX5_chooseFor_X7_bit_n76 rfl rfl rfl (by decide +kernel) (by decide +kernel) (by decide +kernel) (by decide +kernel) ⟨Nat.le_of_ble_eq_true rfl, Nat.le_of_ble_eq_true rfl⟩ rfl rfl (Nat.le_of_ble_eq_true rfl) dX5_chooseFor_73 ⟨Nat.le_of_ble_eq_true rfl, Nat.le_of_ble_eq_true rfl⟩ (g_ki0 (fun H locs hz hP hL hS => ?_))
            refine lv_ior hx hb dX5_chooseFor_76 ?_
            refine lv_istore (lv' := [(5, .int (g ||| (bitI ix))), (7, .int (nI ix)), (0, .ref tu), (1, .ref x), (2, .int (nI b)), (3, .int (needI S b)), (4, .int (nI (max 1 (np / 2)))), (6, .int (nI t))]) hx hb dX5_chooseFor_77 hl (by decide) rfl (fun ls hl => ?_)
            refine lv_iinc (v := (nI (t + 1))) (lv' := [(6, .int (nI (t + 1))), (5, .int (g ||| (bitI ix))), (7, .int (nI ix)), (0, .ref tu), (1, .ref x), (2, .int (nI b)), (3, .int (needI S b)), (4, .int (nI (max 1 (np / 2))))]) hx hb dX5_chooseFor_79 hl (k := 7) rfl (g_inc t 1) (by decide) rfl (fun ls hl => ?_)
            refine lv_goto (tgt := 25) hx hb dX5_chooseFor_82 (by decide) ?_
            exact ih_lp (t + 1) (g ||| bitI ix) (by omega) ((chz_s (by omega) hnx c63).trans hs) (by omega) H locs ls hz hP hS (lv_sub hl [3, 4, 5, 6, 7, 1, 0] rfl)
          · refine lv_iload hx hb dX5_chooseFor_66 (lv_at hl 6 rfl) ?_
            exact g_iret (z := sz) hx hb hr hlk hz hP hL hS dX5_chooseFor_68 (gi_i (by rw [← hs, chz_f (by omega) hnx c63]) rfl)
  exact lp _ 0 (nI 0) (by omega) rfl (Nat.lt_succ_self _) H locs ls hz hP hS (lv_sub hl [4, 5, 6, 3, 2, 1, 0] rfl)

theorem nX5_goThrough_X4 : ∀ w ∈ wsX40, w ∈ wsX5_goThrough := by decide +kernel
theorem nX5_goThrough_X5 : ∀ w ∈ wsX50, w ∈ wsX5_goThrough := by decide +kernel
set_option maxHeartbeats 4000000 in
set_option maxRecDepth 100000 in
theorem c_X5_goThrough (l : Launch) (tu x : Nat) (S : sS) (lf : Nat → Int32) (b : Nat) (σ : gS) (sz : Nat) (hTu : TuAt σ tu lf) (hSt : StAt σ x S) (hxt : x + 17 ≤ tu ∨ tu + 3 ≤ x) (hB : sB S ≤ 96) (hN : sN S ≤ 12) (hKs : sK S ≤ 8) (hb0 : b < sB S) : gM l yX5_goThrough wsX5_goThrough ({ frames := 4, cells := 0, slots := 0, locals := 89 } : Room) 0 0 [.ref tu, .ref x, .int (nI b)] σ sz (gxv (fun τ n => n = sz ∧ TuAt τ tu (cpyF lf (gtF S b lf) (sN S)) ∧ gAs (gZo tu 3) σ τ)) := by
  refine gM_of (cc := cX5_goThrough) (maxL := 6) (ret := none) (by decide) rfl (Nat.le_of_ble_eq_true rfl) ?_
  intro D ka lo hL hlo p e s m below meth c hx hb hr hts hown hml hlk hnm hK H locs ls hz hP hS hl
  have hl : lv_has ls 6 [(0, .ref tu), (1, .ref x), (2, .int (nI b))] := hl
  have hown : s.vm.findClass RX5 = some m.cls := hown
  have hag : gAs (gZo tu 3) σ σ := gAs.rf
  refine lv_iconst (v := (nI 0)) hx hb dX5_goThrough_0 (by decide) ?_
  refine lv_istore_n (lv' := [(3, .int (nI 0)), (0, .ref tu), (1, .ref x), (2, .int (nI b))]) hx hb dX5_goThrough_1 rfl hl (by decide) rfl (fun ls hl => ?_)
  have lp : ∀ (fu_lp : Nat) (i : Nat), (i ≤ sN S) → (sN S - i < fu_lp) → ∀ (υ : gS), (TuAt υ tu (cpyF lf (gtF S b lf) i)) → (StAt υ x S) → (gAs (gZo tu 3) σ υ) → gL lo υ → ∀ (H : Heap) (locs : List Loc) (ls : Array Slot), H.size = sz → gH D ka υ H → va_S (gA lo) s.heap H locs → lv_has ls 6 [(0, .ref tu), (1, .ref x), (2, .int (nI b)), (3, .int (nI i))] → W p l e ({ frames := 4, cells := 0, slots := 0, locals := 89 } : Room) s m ([.ref tu, .ref x, .int (nI b)] : List Value).toArray below meth c H locs (0) (0) (MQ below (gQ D ka lo (gxv (fun τ n => n = sz ∧ TuAt τ tu (cpyF lf (gtF S b lf) (sN S)) ∧ gAs (gZo tu 3) σ τ))) ([.ref tu, .ref x, .int (nI b)] : List Value).toArray s 0 0 (gA lo)) (F0 m 2 ls []) := by
    intro fu_lp
    induction fu_lp with
    | zero => intro i hi hm_lp; exact absurd hm_lp (Nat.not_lt_zero _)
    | succ fu_lp ih_lp =>
      intro i hi hm_lp υ hTu hSt hag hL H locs ls hz hP hS hl
      refine lv_iload_n hx hb dX5_goThrough_2 rfl (lv_at hl 3 rfl) ?_
      refine lv_aload_n hx hb dX5_goThrough_3 rfl (lv_at hl 1 rfl) ?_
      refine g_get (C := RX4) (T := TX4) (N := 13) hx hb hts hown hK hP hSt.c0 nX5_goThrough_X4 rfl 1 (by decide) (by decide +kernel) rfl (v := .int (nI (sN S))) rfl dX5_goThrough_4 ?_
      refine g_icmp_ge (tgt := 93) (a := i) (b := sN S) hx hb (by omega) (by omega) dX5_goThrough_7 (by decide) (fun c7 => ?_) (fun c7 => ?_)
      · exact g_vret (z := sz) hx hb hr hlk hz hP hL hS dX5_goThrough_93 (gxv_i ⟨rfl, (show i = sN S by omega) ▸ hTu, hag⟩)
      · refine lv_aload_n hx hb dX5_goThrough_10 rfl (lv_at hl 0 rfl) ?_
        refine g_get (C := RX5) (T := TX5) (N := 1) hx hb hts hown hK hP hTu.c0 nX5_goThrough_X5 rfl 0 (by decide) (by decide +kernel) rfl (v := .ref (tu + 1)) rfl dX5_goThrough_11 ?_
        refine lv_iload_n hx hb dX5_goThrough_14 rfl (lv_at hl 3 rfl) ?_
        refine g_runV (As := [.int (nI i)]) (rest := []) (own := RX5) (C := RX2) (T := TX2) (N := 1) 1 hx hb hml hown hts hK hz hP hL hS hlo hl.1 (c_X2_at l (tu + 1) 12 i (cpyF lf (gtF S b lf) i) υ sz ⟨hTu.c1, hTu.c2⟩ (by omega) (by omega)) gX5_goThrough_X2_at rfl rfl rfl (by decide +kernel) ⟨Nat.le_of_ble_eq_true rfl, Nat.le_of_ble_eq_true rfl⟩ hTu.c1 rfl rfl rfl (Nat.le_of_ble_eq_true rfl) dX5_goThrough_15 ⟨Nat.le_of_ble_eq_true rfl, Nat.le_of_ble_eq_true rfl⟩ (g_ki0 (fun H locs hz hP hL hS => ?_))
        refine g_top (y := (lf i)) (cpyF_at lf (gtF S b lf) i) ?_
        refine lv_istore (lv' := [(4, .int (lf i)), (0, .ref tu), (1, .ref x), (2, .int (nI b)), (3, .int (nI i))]) hx hb dX5_goThrough_18 hl (by decide) rfl (fun ls hl => ?_)
        refine lv_aload_n hx hb dX5_goThrough_20 rfl (lv_at hl 2 rfl) ?_
        refine lv_iload_n hx hb dX5_goThrough_21 rfl (lv_at hl 4 rfl) ?_
        refine lv_iload_n hx hb dX5_goThrough_22 rfl (lv_at hl 3 rfl) ?_
        refine lv_iload hx hb dX5_goThrough_23 (lv_at hl 0 rfl) ?_
        refine g_runV (As := [.int (nI i), .int (nI b), .int (lf i)]) (rest := []) (own := RX5) (C := RX4) (T := TX4) (N := 13) 3 hx hb hml hown hts hK hz hP hL hS hlo hl.1 (c_X4_doing l x S i b ((lf i)) υ sz hSt (by omega) (by omega) (by omega)) gX5_goThrough_X4_doing rfl rfl rfl (by decide +kernel) ⟨Nat.le_of_ble_eq_true rfl, Nat.le_of_ble_eq_true rfl⟩ hSt.c0 rfl rfl rfl (Nat.le_of_ble_eq_true rfl) dX5_goThrough_25 ⟨Nat.le_of_ble_eq_true rfl, Nat.le_of_ble_eq_true rfl⟩ (g_ki0 (fun H locs hz hP hL hS => ?_))
        have hd4 := doN_lt S i b (lf i)
        refine g_if_ne (tgt := 53) hx hb (by omega) dX5_goThrough_28 (by decide) (fun c28 => ?_) (fun c28 => ?_)
        · refine lv_iload hx hb dX5_goThrough_53 (lv_at hl 0 rfl) ?_
          refine lv_aload_n hx hb dX5_goThrough_55 rfl (lv_at hl 2 rfl) ?_
          refine g_get (C := RX4) (T := TX4) (N := 13) hx hb hts hown hK hP hSt.c0 nX5_goThrough_X4 rfl 9 (by decide) (by decide +kernel) rfl (v := .ref (x + 9)) rfl dX5_goThrough_56 ?_
          refine lv_iload_n hx hb dX5_goThrough_59 rfl (lv_at hl 4 rfl) ?_
          refine g_runV (As := [.int (nI i)]) (rest := [.int (lf i)]) (own := RX5) (C := RX2) (T := TX2) (N := 1) 1 hx hb hml hown hts hK hz hP hL hS hlo hl.1 (c_X2_at l (x + 9) 12 i (S 4) υ sz ⟨hSt.c9, hSt.c10⟩ (by omega) (by omega)) gX5_goThrough_X2_at rfl rfl rfl (by decide +kernel) ⟨Nat.le_of_ble_eq_true rfl, Nat.le_of_ble_eq_true rfl⟩ hSt.c9 rfl rfl rfl (Nat.le_of_ble_eq_true rfl) dX5_goThrough_60 ⟨Nat.le_of_ble_eq_true rfl, Nat.le_of_ble_eq_true rfl⟩ (g_ki0 (fun H locs hz hP hL hS => ?_))
          refine lv_iadd hx hb dX5_goThrough_63 ?_
          refine lv_istore (lv' := [(5, .int ((lf i) + ((S 4) i))), (4, .int (lf i)), (0, .ref tu), (1, .ref x), (2, .int (nI b)), (3, .int (nI i))]) hx hb dX5_goThrough_64 hl (by decide) rfl (fun ls hl => ?_)
          refine lv_aload_n hx hb dX5_goThrough_66 rfl (lv_at hl 2 rfl) ?_
          refine g_get (C := RX5) (T := TX5) (N := 1) hx hb hts hown hK hP hTu.c0 nX5_goThrough_X5 rfl 0 (by decide) (by decide +kernel) rfl (v := .ref (tu + 1)) rfl dX5_goThrough_67 ?_
          refine lv_iload_n hx hb dX5_goThrough_70 rfl (lv_at hl 5 rfl) ?_
          refine lv_aload_n hx hb dX5_goThrough_71 rfl (lv_at hl 3 rfl) ?_
          refine g_get (C := RX4) (T := TX4) (N := 13) hx hb hts hown hK hP hSt.c0 nX5_goThrough_X4 rfl 8 (by decide) (by decide +kernel) rfl (v := .ref (x + 7)) rfl dX5_goThrough_72 ?_
          refine lv_iload_n hx hb dX5_goThrough_75 rfl (lv_at hl 5 rfl) ?_
          refine g_runV (As := [.int (nI i)]) (rest := [.int (nI i), .ref (tu + 1)]) (own := RX5) (C := RX2) (T := TX2) (N := 1) 1 hx hb hml hown hts hK hz hP hL hS hlo hl.1 (c_X2_at l (x + 7) 12 i (S 3) υ sz ⟨hSt.c7, hSt.c8⟩ (by omega) (by omega)) gX5_goThrough_X2_at rfl rfl rfl (by decide +kernel) ⟨Nat.le_of_ble_eq_true rfl, Nat.le_of_ble_eq_true rfl⟩ hSt.c7 rfl rfl rfl (Nat.le_of_ble_eq_true rfl) dX5_goThrough_76 ⟨Nat.le_of_ble_eq_true rfl, Nat.le_of_ble_eq_true rfl⟩ (g_ki0 (fun H locs hz hP hL hS => ?_))
          refine lv_iload hx hb dX5_goThrough_79 (lv_at hl 0 rfl) ?_
          refine va_mmin hx hb (hml.trans hl.1.symm) hown (hts (.methodLink RX5 109 Lib.Math.min.name) (by decide +kernel)) (hts (.static Lib.Math.min.name) (by decide +kernel)) (hts (.initialized "java/lang/Math") (by decide +kernel)) (hts (.code Lib.Math.min.name Lib.Math.min.code 2 (some .int)) (by decide +kernel)) (Nat.le_of_ble_eq_true rfl) (Nat.le_of_ble_eq_true rfl) (Nat.le_of_ble_eq_true rfl) (Nat.le_of_ble_eq_true rfl) dX5_goThrough_81 ?_
          refine g_top (y := (gtF S b lf i)) (gtF_1 c28) ?_
          refine g_runV (As := [.int (nI i), .int (gtF S b lf i)]) (rest := []) (own := RX5) (C := RX2) (T := TX2) (N := 1) 2 hx hb hml hown hts hK hz hP hL hS hlo hl.1 (c_X2_put l (tu + 1) 12 i (cpyF lf (gtF S b lf) i) ((gtF S b lf i)) υ sz ⟨hTu.c1, hTu.c2⟩ (by omega) (by omega)) gX5_goThrough_X2_put rfl rfl rfl (by decide +kernel) ⟨Nat.le_of_ble_eq_true rfl, Nat.le_of_ble_eq_true rfl⟩ hTu.c1 rfl rfl rfl (Nat.le_of_ble_eq_true rfl) dX5_goThrough_84 ⟨Nat.le_of_ble_eq_true rfl, Nat.le_of_ble_eq_true rfl⟩ (g_kv0 (fun H locs hz hP hL hS => ?_))
          obtain ⟨σ1, e1⟩ : ∃ υ0 : gS, υ0 = gup υ (tu + 2) (gI 12 (upd (cpyF lf (gtF S b lf) i) i ((gtF S b lf i)))) := ⟨_, rfl⟩
          have hP : gH D ka σ1 H := by rw [e1]; exact hP
          have hL : gL lo σ1 := by rw [e1]; exact hL
          have hSt := hSt.fr (τ := σ1) (fun q h1 h2 => gup_eq e1 (by omega))
          have hTu : TuAt σ1 tu (upd (cpyF lf (gtF S b lf) i) i ((gtF S b lf i))) := by rw [e1]; exact hTu.w2 (upd (cpyF lf (gtF S b lf) i) i ((gtF S b lf i)))
          have hag := hag.upe e1 (zo_k (by decide))
          refine lv_iinc (v := (nI (i + 1))) (lv' := [(3, .int (nI (i + 1))), (5, .int ((lf i) + ((S 4) i))), (4, .int (lf i)), (0, .ref tu), (1, .ref x), (2, .int (nI b))]) hx hb dX5_goThrough_87 hl (k := 5) rfl (g_inc i 1) (by decide) rfl (fun ls hl => ?_)
          refine lv_goto (tgt := 2) hx hb dX5_goThrough_90 (by decide) ?_
          exact ih_lp (i + 1) (by omega) (by omega) σ1 (by rw [← cpyF_s]; exact hTu) hSt hag hL H locs ls hz hP hS (lv_sub hl [3, 4, 5, 0] rfl)
        · refine lv_aload_n hx hb dX5_goThrough_31 rfl (lv_at hl 1 rfl) ?_
          refine g_get (C := RX5) (T := TX5) (N := 1) hx hb hts hown hK hP hTu.c0 nX5_goThrough_X5 rfl 0 (by decide) (by decide +kernel) rfl (v := .ref (tu + 1)) rfl dX5_goThrough_32 ?_
          refine lv_iload_n hx hb dX5_goThrough_35 rfl (lv_at hl 4 rfl) ?_
          refine lv_iload hx hb dX5_goThrough_36 (lv_at hl 0 rfl) ?_
          refine lv_aload_n hx hb dX5_goThrough_38 rfl (lv_at hl 2 rfl) ?_
          refine g_get (C := RX4) (T := TX4) (N := 13) hx hb hts hown hK hP hSt.c0 nX5_goThrough_X4 rfl 6 (by decide) (by decide +kernel) rfl (v := .ref (x + 3)) rfl dX5_goThrough_39 ?_
          refine lv_iload_n hx hb dX5_goThrough_42 rfl (lv_at hl 3 rfl) ?_
          refine g_runV (As := [.int (nI b)]) (rest := [.int (lf i), .int (nI i), .ref (tu + 1)]) (own := RX5) (C := RX2) (T := TX2) (N := 1) 1 hx hb hml hown hts hK hz hP hL hS hlo hl.1 (c_X2_at l (x + 3) 96 b (S 1) υ sz ⟨hSt.c3, hSt.c4⟩ (by omega) (by omega)) gX5_goThrough_X2_at rfl rfl rfl (by decide +kernel) ⟨Nat.le_of_ble_eq_true rfl, Nat.le_of_ble_eq_true rfl⟩ hSt.c3 rfl rfl rfl (Nat.le_of_ble_eq_true rfl) dX5_goThrough_43 ⟨Nat.le_of_ble_eq_true rfl, Nat.le_of_ble_eq_true rfl⟩ (g_ki0 (fun H locs hz hP hL hS => ?_))
          refine lv_isub hx hb dX5_goThrough_46 ?_
          refine g_top (y := (gtF S b lf i)) (gtF_0 c28) ?_
          refine g_runV (As := [.int (nI i), .int (gtF S b lf i)]) (rest := []) (own := RX5) (C := RX2) (T := TX2) (N := 1) 2 hx hb hml hown hts hK hz hP hL hS hlo hl.1 (c_X2_put l (tu + 1) 12 i (cpyF lf (gtF S b lf) i) ((gtF S b lf i)) υ sz ⟨hTu.c1, hTu.c2⟩ (by omega) (by omega)) gX5_goThrough_X2_put rfl rfl rfl (by decide +kernel) ⟨Nat.le_of_ble_eq_true rfl, Nat.le_of_ble_eq_true rfl⟩ hTu.c1 rfl rfl rfl (Nat.le_of_ble_eq_true rfl) dX5_goThrough_47 ⟨Nat.le_of_ble_eq_true rfl, Nat.le_of_ble_eq_true rfl⟩ (g_kv0 (fun H locs hz hP hL hS => ?_))
          obtain ⟨σ2, e2⟩ : ∃ υ0 : gS, υ0 = gup υ (tu + 2) (gI 12 (upd (cpyF lf (gtF S b lf) i) i ((gtF S b lf i)))) := ⟨_, rfl⟩
          have hP : gH D ka σ2 H := by rw [e2]; exact hP
          have hL : gL lo σ2 := by rw [e2]; exact hL
          have hSt := hSt.fr (τ := σ2) (fun q h1 h2 => gup_eq e2 (by omega))
          have hTu : TuAt σ2 tu (upd (cpyF lf (gtF S b lf) i) i ((gtF S b lf i))) := by rw [e2]; exact hTu.w2 (upd (cpyF lf (gtF S b lf) i) i ((gtF S b lf i)))
          have hag := hag.upe e2 (zo_k (by decide))
          refine lv_goto (tgt := 87) hx hb dX5_goThrough_50 (by decide) ?_
          refine lv_iinc (v := (nI (i + 1))) (lv' := [(3, .int (nI (i + 1))), (4, .int (lf i)), (0, .ref tu), (1, .ref x), (2, .int (nI b))]) hx hb dX5_goThrough_87 hl (k := 4) rfl (g_inc i 1) (by decide) rfl (fun ls hl => ?_)
          refine lv_goto (tgt := 2) hx hb dX5_goThrough_90 (by decide) ?_
          exact ih_lp (i + 1) (by omega) (by omega) σ2 (by rw [← cpyF_s]; exact hTu) hSt hag hL H locs ls hz hP hS (lv_sub hl [2, 3, 4, 0] rfl)
  exact lp _ 0 (by omega) (Nat.lt_succ_self _) σ (by rw [cpyF_0]; exact hTu) hSt hag hL H locs ls hz hP hS (lv_sub hl [1, 2, 3, 0] rfl)

theorem nX5_makePlan_X4 : ∀ w ∈ wsX40, w ∈ wsX5_makePlan := by decide +kernel
theorem nX5_makePlan_X5 : ∀ w ∈ wsX50, w ∈ wsX5_makePlan := by decide +kernel
set_option maxHeartbeats 4000000 in
set_option maxRecDepth 100000 in
theorem c_X5_makePlan (l : Launch) (tu x : Nat) (S : sS) (lf : Nat → Int32) (np : Nat) (σ : gS) (sz : Nat) (hTu : TuAt σ tu lf) (hSt : StAt σ x S) (hxt : x + 17 ≤ tu ∨ tu + 3 ≤ x) (hB : sB S ≤ 96) (hN : sN S ≤ 12) (hKs : sK S ≤ 8) (hRs : sR S ≤ 8) (hpr : bcI (S 8 2) = nI np) (hnp : np ≤ 12) : gM l yX5_makePlan wsX5_makePlan ({ frames := 5, cells := 0, slots := 0, locals := 114 } : Room) 0 0 [.ref tu, .ref x] σ sz (gxv (fun τ n => n = sz ∧ StAt τ x (planS S np) ∧ (∃ L : Nat → Int32, TuAt τ tu L) ∧ gAs (fun q => gZo x 17 q ∨ gZo tu 3 q) σ τ)) := by
  refine gM_of (cc := cX5_makePlan) (maxL := 3) (ret := none) (by decide) rfl (Nat.le_of_ble_eq_true rfl) ?_
  intro D ka lo hL hlo p e s m below meth c hx hb hr hts hown hml hlk hnm hK H locs ls hz hP hS hl
  have hl : lv_has ls 3 [(0, .ref tu), (1, .ref x)] := hl
  have hown : s.vm.findClass RX5 = some m.cls := hown
  have hag : gAs (fun q => gZo x 17 q ∨ gZo tu 3 q) σ σ := gAs.rf
  refine lv_aload_n hx hb dX5_makePlan_0 rfl (lv_at hl 1 rfl) ?_
  refine g_get (C := RX4) (T := TX4) (N := 13) hx hb hts hown hK hP hSt.c0 nX5_makePlan_X4 rfl 7 (by decide) (by decide +kernel) rfl (v := .ref (x + 5)) rfl dX5_makePlan_1 ?_
  refine g_runV (As := []) (rest := []) (own := RX5) (C := RX2) (T := TX2) (N := 1) 0 hx hb hml hown hts hK hz hP hL hS hlo hl.1 (c_X2_clear l (x + 5) 96 (S 2) σ sz ⟨hSt.c5, hSt.c6⟩ (by omega)) gX5_makePlan_X2_clear rfl rfl rfl (by decide +kernel) ⟨Nat.le_of_ble_eq_true rfl, Nat.le_of_ble_eq_true rfl⟩ hSt.c5 rfl rfl rfl (Nat.le_of_ble_eq_true rfl) dX5_makePlan_4 ⟨Nat.le_of_ble_eq_true rfl, Nat.le_of_ble_eq_true rfl⟩ (g_kv0 (fun H locs hz hP hL hS => ?_))
  obtain ⟨σ1, e1⟩ : ∃ υ0 : gS, υ0 = gup σ (x + 6) (gI 96 (fun _ => 0)) := ⟨_, rfl⟩
  have hP : gH D ka σ1 H := by rw [e1]; exact hP
  have hL : gL lo σ1 := by rw [e1]; exact hL
  have hTu := hTu.fr (τ := σ1) (fun q h1 h2 => gup_eq e1 (by omega))
  have hSt : StAt σ1 x (sRow S 2 (fun _ => 0)) := by rw [e1]; exact hSt.w6 (fun _ => 0)
  have hag := hag.upe e1 (.inl (zo_k (by decide)))
  refine lv_aload_n hx hb dX5_makePlan_7 rfl (lv_at hl 0 rfl) ?_
  refine g_get (C := RX5) (T := TX5) (N := 1) hx hb hts hown hK hP hTu.c0 nX5_makePlan_X5 rfl 0 (by decide) (by decide +kernel) rfl (v := .ref (tu + 1)) rfl dX5_makePlan_8 ?_
  refine lv_aload_n hx hb dX5_makePlan_11 rfl (lv_at hl 1 rfl) ?_
  refine g_get (C := RX4) (T := TX4) (N := 13) hx hb hts hown hK hP hSt.c0 nX5_makePlan_X4 rfl 8 (by decide) (by decide +kernel) rfl (v := .ref (x + 7)) rfl dX5_makePlan_12 ?_
  refine g_runV (As := [.ref (x + 7)]) (rest := []) (own := RX5) (C := RX2) (T := TX2) (N := 1) 1 hx hb hml hown hts hK hz hP hL hS hlo hl.1 (c_X2_copyFrom l (tu + 1) (x + 7) 12 lf ((sRow S 2 (fun _ => 0)) 3) σ1 sz ⟨hTu.c1, hTu.c2⟩ ⟨hSt.c7, hSt.c8⟩ (by omega) (by omega)) gX5_makePlan_X2_copyFrom rfl rfl rfl (by decide +kernel) ⟨Nat.le_of_ble_eq_true rfl, Nat.le_of_ble_eq_true rfl⟩ hTu.c1 rfl rfl rfl (Nat.le_of_ble_eq_true rfl) dX5_makePlan_15 ⟨Nat.le_of_ble_eq_true rfl, Nat.le_of_ble_eq_true rfl⟩ (g_kv0 (fun H locs hz hP hL hS => ?_))
  obtain ⟨σ2, e2⟩ : ∃ υ0 : gS, υ0 = gup σ1 (tu + 2) (gI 12 ((sRow S 2 (fun _ => 0)) 3)) := ⟨_, rfl⟩
  have hP : gH D ka σ2 H := by rw [e2]; exact hP
  have hL : gL lo σ2 := by rw [e2]; exact hL
  have hSt := hSt.fr (τ := σ2) (fun q h1 h2 => gup_eq e2 (by omega))
  have hTu : TuAt σ2 tu ((sRow S 2 (fun _ => 0)) 3) := by rw [e2]; exact hTu.w2 ((sRow S 2 (fun _ => 0)) 3)
  have hag := hag.upe e2 (.inr (zo_k (by decide)))
  refine lv_iconst (v := (nI 0)) hx hb dX5_makePlan_18 (by decide) ?_
  refine lv_istore_n (lv' := [(2, .int (nI 0)), (0, .ref tu), (1, .ref x)]) hx hb dX5_makePlan_19 rfl hl (by decide) rfl (fun ls hl => ?_)
  have lp : ∀ (fu_lp : Nat) (k : Nat), (k ≤ sB S) → (sB S - k < fu_lp) → ∀ (υ : gS), (StAt υ x (sRow S 2 (plF S np k).1)) → (TuAt υ tu (plF S np k).2) → (gAs (fun q => gZo x 17 q ∨ gZo tu 3 q) σ υ) → gL lo υ → ∀ (H : Heap) (locs : List Loc) (ls : Array Slot), H.size = sz → gH D ka υ H → va_S (gA lo) s.heap H locs → lv_has ls 3 [(0, .ref tu), (1, .ref x), (2, .int (nI k))] → W p l e ({ frames := 5, cells := 0, slots := 0, locals := 114 } : Room) s m ([.ref tu, .ref x] : List Value).toArray below meth c H locs (0) (0) (MQ below (gQ D ka lo (gxv (fun τ n => n = sz ∧ StAt τ x (planS S np) ∧ (∃ L : Nat → Int32, TuAt τ tu L) ∧ gAs (fun q => gZo x 17 q ∨ gZo tu 3 q) σ τ))) ([.ref tu, .ref x] : List Value).toArray s 0 0 (gA lo)) (F0 m 20 ls []) := by
    intro fu_lp
    induction fu_lp with
    | zero => intro k hk hm_lp; exact absurd hm_lp (Nat.not_lt_zero _)
    | succ fu_lp ih_lp =>
      intro k hk hm_lp υ hSt hTu hag hL H locs ls hz hP hS hl
      have hB2 : sB (sRow S 2 (plF S np k).1) ≤ 96 := hB
      have hN2 : sN (sRow S 2 (plF S np k).1) ≤ 12 := hN
      have hK2 : sK (sRow S 2 (plF S np k).1) ≤ 8 := hKs
      have hR2 : sR (sRow S 2 (plF S np k).1) ≤ 8 := hRs
      have hkB : k < sB (sRow S 2 (plF S np k).1) ∨ sB S ≤ k := Nat.lt_or_ge k (sB S)
      refine lv_iload_n hx hb dX5_makePlan_20 rfl (lv_at hl 2 rfl) ?_
      refine lv_aload_n hx hb dX5_makePlan_21 rfl (lv_at hl 1 rfl) ?_
      refine g_get (C := RX4) (T := TX4) (N := 13) hx hb hts hown hK hP hSt.c0 nX5_makePlan_X4 rfl 0 (by decide) (by decide +kernel) rfl (v := .int (nI (sB (sRow S 2 (plF S np k).1)))) rfl dX5_makePlan_22 ?_
      refine g_top (y := (nI (sB S))) rfl ?_
      refine g_icmp_ge (tgt := 72) (a := k) (b := sB S) hx hb (by omega) (by omega) dX5_makePlan_25 (by decide) (fun c25 => ?_) (fun c25 => ?_)
      · exact g_vret (z := sz) hx hb hr hlk hz hP hL hS dX5_makePlan_72 (gxv_i ⟨rfl, (by rw [show k = sB S by omega] at hSt; exact hSt), ⟨_, hTu⟩, hag⟩)
      · refine lv_aload_n hx hb dX5_makePlan_28 rfl (lv_at hl 1 rfl) ?_
        refine lv_iload_n hx hb dX5_makePlan_29 rfl (lv_at hl 2 rfl) ?_
        refine g_runV (As := [.int (nI k)]) (rest := []) (own := RX5) (C := RX4) (T := TX4) (N := 13) 1 hx hb hml hown hts hK hz hP hL hS hlo hl.1 (c_X4_isRest l x (sRow S 2 (plF S np k).1) k υ sz hSt (by omega)) gX5_makePlan_X4_isRest rfl rfl rfl (by decide +kernel) ⟨Nat.le_of_ble_eq_true rfl, Nat.le_of_ble_eq_true rfl⟩ hSt.c0 rfl rfl rfl (Nat.le_of_ble_eq_true rfl) dX5_makePlan_30 ⟨Nat.le_of_ble_eq_true rfl, Nat.le_of_ble_eq_true rfl⟩ (g_ki0 (fun H locs hz hP hL hS => ?_))
        refine g_ifb_ne (tgt := 60) hx hb dX5_makePlan_33 (by decide) (fun c33 => ?_) (fun c33 => ?_)
        · have hSt : StAt υ x (sRow S 2 (plF S np (k + 1)).1) := by rw [plM_1 (S := S) c33]; exact hSt
          have hB2 : sB (sRow S 2 (plF S np (k + 1)).1) ≤ 96 := hB
          have hN2 : sN (sRow S 2 (plF S np (k + 1)).1) ≤ 12 := hN
          have hK2 : sK (sRow S 2 (plF S np (k + 1)).1) ≤ 8 := hKs
          have hR2 : sR (sRow S 2 (plF S np (k + 1)).1) ≤ 8 := hRs
          have hkB : k < sB (sRow S 2 (plF S np (k + 1)).1) ∨ sB S ≤ k := Nat.lt_or_ge k (sB S)
          refine lv_aload_n hx hb dX5_makePlan_60 rfl (lv_at hl 0 rfl) ?_
          refine lv_aload_n hx hb dX5_makePlan_61 rfl (lv_at hl 1 rfl) ?_
          refine lv_iload_n hx hb dX5_makePlan_62 rfl (lv_at hl 2 rfl) ?_
          refine g_runV (As := [.ref x, .int (nI k)]) (rest := []) (own := RX5) (C := RX5) (T := TX5) (N := 1) 2 hx hb hml hown hts hK hz hP hL hS hlo hl.1 (c_X5_goThrough l tu x (sRow S 2 (plF S np (k + 1)).1) ((plF S np k).2) k υ sz hTu hSt (by omega) (by omega) (by omega) (by omega) (by omega)) gX5_makePlan_X5_goThrough rfl rfl rfl (by decide +kernel) ⟨Nat.le_of_ble_eq_true rfl, Nat.le_of_ble_eq_true rfl⟩ hTu.c0 rfl rfl rfl (Nat.le_of_ble_eq_true rfl) dX5_makePlan_63 ⟨Nat.le_of_ble_eq_true rfl, Nat.le_of_ble_eq_true rfl⟩ (g_kxv0 (fun τ_3 H locs z1 hz hp hP hL hS => ?_))
          obtain ⟨hz1, h_4n, h_4a⟩ := hp
          have hz := hz.trans hz1
          have hSt := hSt.fr (τ := τ_3) (fun q h1 h2 => h_4a q (fun h => by have h3 := h.1; have h4 := h.2; omega))
          have hTu := h_4n
          have hag := hag.tr h_4a (fun q h => .inr h)
          refine lv_iinc (v := (nI (k + 1))) (lv' := [(2, .int (nI (k + 1))), (0, .ref tu), (1, .ref x)]) hx hb dX5_makePlan_66 hl (k := 2) rfl (g_inc k 1) (by decide) rfl (fun ls hl => ?_)
          refine lv_goto (tgt := 20) hx hb dX5_makePlan_69 (by decide) ?_
          exact ih_lp (k + 1) (by omega) (by omega) τ_3 hSt (by rw [plL]; exact hTu) hag hL H locs ls hz hP hS (lv_sub hl [1, 2, 0] rfl)
        · refine lv_aload_n hx hb dX5_makePlan_36 rfl (lv_at hl 1 rfl) ?_
          refine lv_iload_n hx hb dX5_makePlan_37 rfl (lv_at hl 2 rfl) ?_
          refine g_runV (As := [.int (nI k)]) (rest := []) (own := RX5) (C := RX4) (T := TX4) (N := 13) 1 hx hb hml hown hts hK hz hP hL hS hlo hl.1 (c_X4_soloAt l x (sRow S 2 (plF S np k).1) k υ sz hSt (by omega)) gX5_makePlan_X4_soloAt rfl rfl rfl (by decide +kernel) ⟨Nat.le_of_ble_eq_true rfl, Nat.le_of_ble_eq_true rfl⟩ hSt.c0 rfl rfl rfl (Nat.le_of_ble_eq_true rfl) dX5_makePlan_38 ⟨Nat.le_of_ble_eq_true rfl, Nat.le_of_ble_eq_true rfl⟩ (g_ki0 (fun H locs hz hP hL hS => ?_))
          rcases hso : soloF (sRow S 2 (plF S np k).1) k with _ | so
          · refine g_top (y := (-5)) rfl ?_
            refine lv_bipush (v := (-5)) hx hb dX5_makePlan_41 (by decide) ?_
            refine lv_icmp_ne (tgt := 60) hx hb dX5_makePlan_43 (by decide) (fun c43 => absurd rfl c43) (fun c43 => ?_)
            refine lv_aload_n hx hb dX5_makePlan_46 rfl (lv_at hl 1 rfl) ?_
            refine g_get (C := RX4) (T := TX4) (N := 13) hx hb hts hown hK hP hSt.c0 nX5_makePlan_X4 rfl 7 (by decide) (by decide +kernel) rfl (v := .ref (x + 5)) rfl dX5_makePlan_47 ?_
            refine lv_iload_n hx hb dX5_makePlan_50 rfl (lv_at hl 2 rfl) ?_
            refine lv_aload_n hx hb dX5_makePlan_51 rfl (lv_at hl 0 rfl) ?_
            refine lv_aload_n hx hb dX5_makePlan_52 rfl (lv_at hl 1 rfl) ?_
            refine lv_iload_n hx hb dX5_makePlan_53 rfl (lv_at hl 2 rfl) ?_
            refine g_runV (As := [.ref x, .int (nI k)]) (rest := [.int (nI k), .ref (x + 5)]) (own := RX5) (C := RX5) (T := TX5) (N := 1) 2 hx hb hml hown hts hK hz hP hL hS hlo hl.1 (c_X5_chooseFor l tu x (sRow S 2 (plF S np k).1) ((plF S np k).2) k np υ sz hTu hSt (by omega) (by omega) (by omega) (by omega) hpr hnp) gX5_makePlan_X5_chooseFor rfl rfl rfl (by decide +kernel) ⟨Nat.le_of_ble_eq_true rfl, Nat.le_of_ble_eq_true rfl⟩ hTu.c0 rfl rfl rfl (Nat.le_of_ble_eq_true rfl) dX5_makePlan_54 ⟨Nat.le_of_ble_eq_true rfl, Nat.le_of_ble_eq_true rfl⟩ (g_ki0 (fun H locs hz hP hL hS => ?_))
            refine g_runV (As := [.int (nI k), .int (choF (sRow S 2 (plF S np k).1) ((plF S np k).2) k np)]) (rest := []) (own := RX5) (C := RX2) (T := TX2) (N := 1) 2 hx hb hml hown hts hK hz hP hL hS hlo hl.1 (c_X2_put l (x + 5) 96 k ((sRow S 2 (plF S np k).1) 2) ((choF (sRow S 2 (plF S np k).1) ((plF S np k).2) k np)) υ sz ⟨hSt.c5, hSt.c6⟩ (by omega) (by omega)) gX5_makePlan_X2_put rfl rfl rfl (by decide +kernel) ⟨Nat.le_of_ble_eq_true rfl, Nat.le_of_ble_eq_true rfl⟩ hSt.c5 rfl rfl rfl (Nat.le_of_ble_eq_true rfl) dX5_makePlan_57 ⟨Nat.le_of_ble_eq_true rfl, Nat.le_of_ble_eq_true rfl⟩ (g_kv0 (fun H locs hz hP hL hS => ?_))
            obtain ⟨σ5, e5⟩ : ∃ υ0 : gS, υ0 = gup υ (x + 6) (gI 96 (upd ((sRow S 2 (plF S np k).1) 2) k ((choF (sRow S 2 (plF S np k).1) ((plF S np k).2) k np)))) := ⟨_, rfl⟩
            have hP : gH D ka σ5 H := by rw [e5]; exact hP
            have hL : gL lo σ5 := by rw [e5]; exact hL
            have hTu := hTu.fr (τ := σ5) (fun q h1 h2 => gup_eq e5 (by omega))
            have hSt : StAt σ5 x (sRow (sRow S 2 (plF S np k).1) 2 (upd ((sRow S 2 (plF S np k).1) 2) k ((choF (sRow S 2 (plF S np k).1) ((plF S np k).2) k np)))) := by rw [e5]; exact hSt.w6 (upd ((sRow S 2 (plF S np k).1) 2) k ((choF (sRow S 2 (plF S np k).1) ((plF S np k).2) k np)))
            have hag := hag.upe e5 (.inl (zo_k (by decide)))
            have hSt : StAt σ5 x (sRow S 2 (plF S np (k + 1)).1) := by rw [plM_3 (S := S) c33 hso]; rw [sRow_2] at hSt; exact hSt
            have hB2 : sB (sRow S 2 (plF S np (k + 1)).1) ≤ 96 := hB
            have hN2 : sN (sRow S 2 (plF S np (k + 1)).1) ≤ 12 := hN
            have hK2 : sK (sRow S 2 (plF S np (k + 1)).1) ≤ 8 := hKs
            have hR2 : sR (sRow S 2 (plF S np (k + 1)).1) ≤ 8 := hRs
            have hkB : k < sB (sRow S 2 (plF S np (k + 1)).1) ∨ sB S ≤ k := Nat.lt_or_ge k (sB S)
            refine lv_aload_n hx hb dX5_makePlan_60 rfl (lv_at hl 0 rfl) ?_
            refine lv_aload_n hx hb dX5_makePlan_61 rfl (lv_at hl 1 rfl) ?_
            refine lv_iload_n hx hb dX5_makePlan_62 rfl (lv_at hl 2 rfl) ?_
            refine g_runV (As := [.ref x, .int (nI k)]) (rest := []) (own := RX5) (C := RX5) (T := TX5) (N := 1) 2 hx hb hml hown hts hK hz hP hL hS hlo hl.1 (c_X5_goThrough l tu x (sRow S 2 (plF S np (k + 1)).1) ((plF S np k).2) k σ5 sz hTu hSt (by omega) (by omega) (by omega) (by omega) (by omega)) gX5_makePlan_X5_goThrough rfl rfl rfl (by decide +kernel) ⟨Nat.le_of_ble_eq_true rfl, Nat.le_of_ble_eq_true rfl⟩ hTu.c0 rfl rfl rfl (Nat.le_of_ble_eq_true rfl) dX5_makePlan_63 ⟨Nat.le_of_ble_eq_true rfl, Nat.le_of_ble_eq_true rfl⟩ (g_kxv0 (fun τ_6 H locs z1 hz hp hP hL hS => ?_))
            obtain ⟨hz1, h_7n, h_7a⟩ := hp
            have hz := hz.trans hz1
            have hSt := hSt.fr (τ := τ_6) (fun q h1 h2 => h_7a q (fun h => by have h3 := h.1; have h4 := h.2; omega))
            have hTu := h_7n
            have hag := hag.tr h_7a (fun q h => .inr h)
            refine lv_iinc (v := (nI (k + 1))) (lv' := [(2, .int (nI (k + 1))), (0, .ref tu), (1, .ref x)]) hx hb dX5_makePlan_66 hl (k := 2) rfl (g_inc k 1) (by decide) rfl (fun ls hl => ?_)
            refine lv_goto (tgt := 20) hx hb dX5_makePlan_69 (by decide) ?_
            exact ih_lp (k + 1) (by omega) (by omega) τ_6 hSt (by rw [plL]; exact hTu) hag hL H locs ls hz hP hS (lv_sub hl [1, 2, 0] rfl)
          · refine g_top (y := (nI so)) rfl ?_
            have hso2 : so < sK S := soloF_lt hso
            refine lv_bipush (v := (-5)) hx hb dX5_makePlan_41 (by decide) ?_
            refine lv_icmp_ne (tgt := 60) hx hb dX5_makePlan_43 (by decide) (fun c43 => ?_) (fun c43 => absurd c43 (g_ne5 (by omega)))
            have hSt : StAt υ x (sRow S 2 (plF S np (k + 1)).1) := by rw [plM_2 (S := S) hso]; exact hSt
            have hB2 : sB (sRow S 2 (plF S np (k + 1)).1) ≤ 96 := hB
            have hN2 : sN (sRow S 2 (plF S np (k + 1)).1) ≤ 12 := hN
            have hK2 : sK (sRow S 2 (plF S np (k + 1)).1) ≤ 8 := hKs
            have hR2 : sR (sRow S 2 (plF S np (k + 1)).1) ≤ 8 := hRs
            have hkB : k < sB (sRow S 2 (plF S np (k + 1)).1) ∨ sB S ≤ k := Nat.lt_or_ge k (sB S)
            refine lv_aload_n hx hb dX5_makePlan_60 rfl (lv_at hl 0 rfl) ?_
            refine lv_aload_n hx hb dX5_makePlan_61 rfl (lv_at hl 1 rfl) ?_
            refine lv_iload_n hx hb dX5_makePlan_62 rfl (lv_at hl 2 rfl) ?_
            refine g_runV (As := [.ref x, .int (nI k)]) (rest := []) (own := RX5) (C := RX5) (T := TX5) (N := 1) 2 hx hb hml hown hts hK hz hP hL hS hlo hl.1 (c_X5_goThrough l tu x (sRow S 2 (plF S np (k + 1)).1) ((plF S np k).2) k υ sz hTu hSt (by omega) (by omega) (by omega) (by omega) (by omega)) gX5_makePlan_X5_goThrough rfl rfl rfl (by decide +kernel) ⟨Nat.le_of_ble_eq_true rfl, Nat.le_of_ble_eq_true rfl⟩ hTu.c0 rfl rfl rfl (Nat.le_of_ble_eq_true rfl) dX5_makePlan_63 ⟨Nat.le_of_ble_eq_true rfl, Nat.le_of_ble_eq_true rfl⟩ (g_kxv0 (fun τ_8 H locs z1 hz hp hP hL hS => ?_))
            obtain ⟨hz1, h_9n, h_9a⟩ := hp
            have hz := hz.trans hz1
            have hSt := hSt.fr (τ := τ_8) (fun q h1 h2 => h_9a q (fun h => by have h3 := h.1; have h4 := h.2; omega))
            have hTu := h_9n
            have hag := hag.tr h_9a (fun q h => .inr h)
            refine lv_iinc (v := (nI (k + 1))) (lv' := [(2, .int (nI (k + 1))), (0, .ref tu), (1, .ref x)]) hx hb dX5_makePlan_66 hl (k := 2) rfl (g_inc k 1) (by decide) rfl (fun ls hl => ?_)
            refine lv_goto (tgt := 20) hx hb dX5_makePlan_69 (by decide) ?_
            exact ih_lp (k + 1) (by omega) (by omega) τ_8 hSt (by rw [plL]; exact hTu) hag hL H locs ls hz hP hS (lv_sub hl [1, 2, 0] rfl)
  exact lp _ 0 (by omega) (Nat.lt_succ_self _) σ2 hSt hTu hag hL H locs ls hz hP hS (lv_sub hl [1, 2, 0] rfl)
