/-! reading a text -/
def oJ (o : Option Nat) : Int32 := match o with
  | none => -1
  | some k => nI k
def sgI (f : Nat → Int32) (n a : Nat) : Int32 := if a < n then f a else -1
def dgN (f : Nat → Int32) (n a : Nat) : Option Nat := if inB (sgI f n a) (nI 48) (nI 57) = true then some ((sgI f n a).toNatClampNeg - 48) else none
theorem inB_n {a b d : Nat} (ha : a < 2147483648) (hb : b < 2147483648) (hd : d < 2147483648) : inB (nI a) (nI b) (nI d) = (decide (b ≤ a) && decide (a ≤ d)) := by
  simp [inB, nI_leI hb ha, nI_leI ha hd]
theorem inB_of {x : Int32} {b d : Nat} (hb : b < 2147483648) (hd : d < 2147483648) (h : inB x (nI b) (nI d) = true) : ∃ k : Nat, b ≤ k ∧ k ≤ d ∧ x = nI k := by
  simp only [inB, Bool.and_eq_true, decide_eq_true_eq] at h
  have h0 : ¬ x < 0 := Int32.not_lt.mpr (Int32.le_trans (nI_pos' hb) h.1)
  obtain ⟨k, hk, rfl⟩ := nI_of h0
  exact ⟨k, (nI_leI hb hk).mp h.1, (nI_leI hk hd).mp h.2, rfl⟩
theorem dgN_t {f : Nat → Int32} {n a : Nat} (h : inB (sgI f n a) (nI 48) (nI 57) = true) : sgI f n a - nI 48 = oJ (dgN f n a) := by
  obtain ⟨k, h1, h2, e⟩ := inB_of (by decide) (by decide) h
  rw [dgN, if_pos h, e, nI_clamp (by omega), pk_sub h1]
  rfl
theorem dgN_f {f : Nat → Int32} {n a : Nat} (h : inB (sgI f n a) (nI 48) (nI 57) = false) : -1 = oJ (dgN f n a) := by
  rw [dgN, if_neg (by rw [h]; decide)]
  rfl
theorem dgN_le {f : Nat → Int32} {n a d : Nat} (h : dgN f n a = some d) : d ≤ 9 ∧ a < n ∧ f a = nI (48 + d) := by
  unfold dgN at h
  split at h
  · rename_i hb
    obtain ⟨k, h1, h2, e⟩ := inB_of (by decide) (by decide) hb
    rw [e, nI_clamp (by omega)] at h
    cases h
    have ha : a < n := by
      by_cases q : a < n
      · exact q
      · rw [sgI, if_neg q] at hb
        exact absurd hb (by decide)
    rw [sgI, if_pos ha] at e
    exact ⟨by omega, ha, by rw [e]; congr 1; omega⟩
  · cases h
def soI (y : Int32) : Int32 := if y = nI 45 then nI 1 else if y = nI 46 then nI 0 else if y = nI 111 then nI 2 else -1
/-- behind an x: whether it is well, the place then, how often -/
def tmF (f : Nat → Int32) (n a : Nat) : Bool × Nat × Nat := match dgN f n a with
  | none => (false, a, 0)
  | some d => if d < 1 then (false, a, 0) else match dgN f n (a + 1) with
    | none => (decide (d ≠ 1), a + 1, d)
    | some e => if 96 < d * 10 + e then (false, a + 1, 0) else (true, a + 2, d * 10 + e)
def loF (f : Nat → Int32) (n a : Nat) (so : Int32) : Int32 × Nat := if so = 0 then (nI 2, a) else match dgN f n a with
  | none => (nI 2, a)
  | some d => if inB (nI d) (nI 1) (nI 5) = true then (nI d, a + 1) else (nI 2, a)
/-- an item: whether it is well, the place then, sort, loudness, how often -/
def itF (f : Nat → Int32) (n a : Nat) : Bool × Nat × Int32 × Int32 × Nat :=
  if soI (sgI f n a) < 0 then (false, a, soI (sgI f n a), 0, 0) else
  if sgI f n (loF f n (a + 1) (soI (sgI f n a))).2 = nI 120 then
    ((tmF f n ((loF f n (a + 1) (soI (sgI f n a))).2 + 1)).1, (tmF f n ((loF f n (a + 1) (soI (sgI f n a))).2 + 1)).2.1, soI (sgI f n a), (loF f n (a + 1) (soI (sgI f n a))).1, (tmF f n ((loF f n (a + 1) (soI (sgI f n a))).2 + 1)).2.2)
  else (true, (loF f n (a + 1) (soI (sgI f n a))).2, soI (sgI f n a), (loF f n (a + 1) (soI (sgI f n a))).1, 1)
theorem tmF_t (f : Nat → Int32) (n a : Nat) : (tmF f n a).2.2 ≤ 96 := by
  unfold tmF
  split
  · exact Nat.zero_le _
  · rename_i d hd
    have := dgN_le hd
    split
    · exact Nat.zero_le _
    · split
      · show d ≤ 96; omega
      · split
        · exact Nat.zero_le _
        · show d * 10 + _ ≤ 96; omega
theorem tmF_a (f : Nat → Int32) (n a : Nat) : a ≤ (tmF f n a).2.1 ∧ (tmF f n a).2.1 ≤ a + 2 := by
  unfold tmF
  split
  · exact ⟨Nat.le_refl _, by show a ≤ a + 2; omega⟩
  · split
    · exact ⟨Nat.le_refl _, by show a ≤ a + 2; omega⟩
    · split
      · exact ⟨by show a ≤ a + 1; omega, by show a + 1 ≤ a + 2; omega⟩
      · split
        · exact ⟨by show a ≤ a + 1; omega, by show a + 1 ≤ a + 2; omega⟩
        · exact ⟨by show a ≤ a + 2; omega, Nat.le_refl _⟩
theorem loF_a (f : Nat → Int32) (n a : Nat) (so : Int32) : a ≤ (loF f n a so).2 ∧ (loF f n a so).2 ≤ a + 1 := by
  unfold loF
  split
  · exact ⟨Nat.le_refl _, Nat.le_succ _⟩
  · split
    · exact ⟨Nat.le_refl _, Nat.le_succ _⟩
    · split
      · exact ⟨Nat.le_succ _, Nat.le_refl _⟩
      · exact ⟨Nat.le_refl _, Nat.le_succ _⟩
theorem itF_t (f : Nat → Int32) (n a : Nat) : (itF f n a).2.2.2.2 ≤ 96 := by
  unfold itF
  split
  · exact Nat.zero_le _
  · split
    · exact tmF_t _ _ _
    · show 1 ≤ 96; decide
theorem itF_a {f : Nat → Int32} {n a : Nat} : a ≤ (itF f n a).2.1 ∧ (itF f n a).2.1 ≤ a + 5 := by
  have h1 := loF_a f n (a + 1) (soI (sgI f n a))
  have h2 := tmF_a f n ((loF f n (a + 1) (soI (sgI f n a))).2 + 1)
  unfold itF
  split
  · exact ⟨Nat.le_refl _, by show a ≤ a + 5; omega⟩
  · split
    · exact ⟨by show a ≤ (tmF f n _).2.1; omega, by show (tmF f n _).2.1 ≤ a + 5; omega⟩
    · exact ⟨by show a ≤ (loF f n (a + 1) _).2; omega, by show (loF f n (a + 1) _).2 ≤ a + 5; omega⟩
theorem itF_up {f : Nat → Int32} {n a : Nat} (h : (itF f n a).1 = true) : a < (itF f n a).2.1 := by
  have h1 := loF_a f n (a + 1) (soI (sgI f n a))
  have h2 := tmF_a f n ((loF f n (a + 1) (soI (sgI f n a))).2 + 1)
  unfold itF at h ⊢
  split at h
  · cases h
  · rename_i hc
    rw [if_neg hc]
    split
    · show a < (tmF f n _).2.1; omega
    · show a < (loF f n (a + 1) _).2; omega
/-- the fault of a text from a place on, with so many beats ahead of it and perhaps a first item too many -/
def paF (f : Nat → Int32) (n : Nat) : Nat → Nat → Nat → Option Nat → Int32
  | 0, _, _, tm => oJ tm
  | k + 1, a, su, tm => if a < n then (if (itF f n a).1 = true then paF f n k (itF f n a).2.1 (su + (itF f n a).2.2.2.2) (if 96 < su + (itF f n a).2.2.2.2 ∧ tm = none then some a else tm) else nI (itF f n a).2.1) else oJ tm
def ffI (f : Nat → Int32) (n : Nat) : Int32 := if n = 0 then nI 0 else paF f n 60 0 0 none
def wrF (f : Nat → Int32) (n : Nat) : Nat → Nat → sS → sS
  | 0, _, S => S
  | k + 1, a, S => if a < n then (if (itF f n a).1 = true then wrF f n k (itF f n a).2.1 (appF S (itF f n a).2.2.1 (itF f n a).2.2.2.1 (itF f n a).2.2.2.2) else S) else S
theorem paF_e {f : Nat → Int32} {n k a su : Nat} {tm : Option Nat} (h : 60 ≤ k ∨ n ≤ a) : paF f n (60 - k) a su tm = oJ tm := by
  by_cases hk : 60 ≤ k
  · rw [show 60 - k = 0 by omega, paF]
  · rw [show 60 - k = (59 - k) + 1 by omega, paF, if_neg (by omega)]
theorem paF_f {f : Nat → Int32} {n k a su : Nat} {tm : Option Nat} (hk : k < 60) (h : a < n) (hi : (itF f n a).1 = false) : paF f n (60 - k) a su tm = nI (itF f n a).2.1 := by
  rw [show 60 - k = (59 - k) + 1 by omega, paF, if_pos h, if_neg (by rw [hi]; decide)]
theorem paF_s {f : Nat → Int32} {n k a su : Nat} {tm : Option Nat} (hk : k < 60) (h : a < n) (hi : (itF f n a).1 = true) : paF f n (60 - (k + 1)) (itF f n a).2.1 (su + (itF f n a).2.2.2.2) (if 96 < su + (itF f n a).2.2.2.2 ∧ tm = none then some a else tm) = paF f n (60 - k) a su tm := by
  rw [show 60 - k = (60 - (k + 1)) + 1 by omega, paF, if_pos h, if_pos hi]
theorem wrF_e {f : Nat → Int32} {n k a : Nat} {S : sS} (h : 60 ≤ k ∨ n ≤ a) : wrF f n (60 - k) a S = S := by
  by_cases hk : 60 ≤ k
  · rw [show 60 - k = 0 by omega, wrF]
  · rw [show 60 - k = (59 - k) + 1 by omega, wrF, if_neg (by omega)]
theorem wrF_s {f : Nat → Int32} {n k a : Nat} {S : sS} (hk : k < 60) (h : a < n) (hi : (itF f n a).1 = true) : wrF f n (60 - (k + 1)) (itF f n a).2.1 (appF S (itF f n a).2.2.1 (itF f n a).2.2.2.1 (itF f n a).2.2.2.2) = wrF f n (60 - k) a S := by
  rw [show 60 - k = (60 - (k + 1)) + 1 by omega, wrF, if_pos h, if_pos hi]
theorem oJ_m1 {o : Option Nat} (h : ∀ k, o = some k → k < 2147483648) (h2 : oJ o = -1) : o = none := by
  cases o with
  | none => rfl
  | some k =>
    have h3 : nI k = -1 := h2
    have h1 := nI_pos' (h k rfl)
    rw [h3] at h1
    exact absurd h1 (by decide)
theorem paF_some {f : Nat → Int32} {n : Nat} (hn : n ≤ 60) : ∀ {k a su c : Nat}, a ≤ 70 → c < 70 → paF f n k a su (some c) ≠ -1
  | 0, a, su, c, ha, hc, h => by
    rw [paF] at h
    have := oJ_m1 (fun k e => by cases e; omega) h
    cases this
  | k + 1, a, su, c, ha, hc, h => by
    rw [paF] at h
    have h5 := itF_a (f := f) (n := n) (a := a)
    split at h
    · rename_i h1
      split at h
      · rw [if_neg (fun q => by cases q.2)] at h
        exact paF_some hn (by omega) hc h
      · have h1' := nI_pos' (n := (itF f n a).2.1) (by omega)
        rw [h] at h1'
        exact absurd h1' (by decide)
    · have := oJ_m1 (fun k e => by cases e; omega) h
      cases this
/-- no fault: the next item is well and there is room for its beats -/
theorem paF_ok {f : Nat → Int32} {n k a su : Nat} (hn : n ≤ 60) (hk : k < 60) (h : a < n) (hp : paF f n (60 - k) a su none = -1) : (itF f n a).1 = true ∧ su + (itF f n a).2.2.2.2 ≤ 96 ∧ paF f n (60 - (k + 1)) (itF f n a).2.1 (su + (itF f n a).2.2.2.2) none = -1 := by
  have h5 := itF_a (f := f) (n := n) (a := a)
  cases hi : (itF f n a).1 with
  | false =>
    rw [paF_f hk h hi] at hp
    have h1' := nI_pos' (n := (itF f n a).2.1) (by omega)
    rw [hp] at h1'
    exact absurd h1' (by decide)
  | true =>
    rw [← paF_s hk h hi] at hp
    by_cases h9 : 96 < su + (itF f n a).2.2.2.2
    · rw [if_pos ⟨h9, rfl⟩] at hp
      exact absurd hp (paF_some hn (by omega) (by omega))
    · rw [if_neg (fun q => h9 q.1)] at hp
      exact ⟨rfl, by omega, hp⟩
theorem nX3_init_X2 : ∀ w ∈ wsX20, w ∈ wsX3_init := by decide +kernel
theorem nX3_init_X3 : ∀ w ∈ wsX30, w ∈ wsX3_init := by decide +kernel
set_option maxHeartbeats 4000000 in
set_option maxRecDepth 100000 in
theorem c_X3_init (l : Launch) (t : Nat) (σ : gS) (h0 : σ t = gO 3 [.null, .int 0, .int 0, .int 0, .int 0, .int 0]) : gM l yX3_init wsX3_init ({ frames := 2, cells := 2, slots := 97, locals := 35 } : Room) 2 97 [.ref t] σ (t + 1) (gxv (fun τ n => n = t + 3 ∧ TxAt τ t (fun _ => 0) 0 0 0 0 0 ∧ gAs (gZo t 3) σ τ)) := by
  refine gM_of (cc := cX3_init) (maxL := 1) (ret := none) (by decide) rfl (Nat.le_of_ble_eq_true rfl) ?_
  intro D ka lo hL hlo p e s m below meth c hx hb hr hts hown hml hlk hnm hK H locs ls hz hP hS hl
  have hl : lv_has ls 1 [(0, .ref t)] := hl
  have hown : s.vm.findClass RX3 = some m.cls := hown
  have hag : gAs (gZo t 3) σ σ := gAs.rf
  refine lv_aload_n hx hb dX3_init_0 rfl (lv_at hl 0 rfl) ?_
  refine W.objInit hx hb hown (hts (.methodLink RX3 3 objectInit) (by decide +kernel)) (hts (.instanceMethod objectInit) (by decide +kernel)) (hts (.code objectInit ⟨#[0xb1]⟩ 1 none) (by decide +kernel)) rfl (by rw [hml]; exact hl.1) rfl dX3_init_1 (Nat.le_of_ble_eq_true rfl) (Nat.le_of_ble_eq_true rfl) ?_
  refine W.eq (g2 := F0 m 4 ls []) rfl ?_
  refine lv_aload_n hx hb dX3_init_4 rfl (lv_at hl 0 rfl) ?_
  refine g_new (C := RX2) (T := TX2) (N := 1) (ci := 2) (fs := [.null]) hx hb hts hown hK hz hP hL hS hlo nX3_init_X2 tyX2 tyX2_ok rfl (by decide +kernel) (by decide +kernel) (by decide +kernel) rfl (Nat.le_of_ble_eq_true rfl) (Nat.le_of_ble_eq_true rfl) dX3_init_5 (fun H hz hP hL hS => ?_)
  have hlo : lo ≤ (t + 1) + 1 := Nat.le_succ_of_le hlo
  obtain ⟨σ1, e1⟩ : ∃ υ0 : gS, υ0 = gup σ (t + 1) (gO 2 [.null]) := ⟨_, rfl⟩
  have hP : gH D ka σ1 H := by rw [e1]; exact hP
  have hL : gL lo σ1 := by rw [e1]; exact hL
  have hag := hag.upe e1 (zo_k (by decide))
  refine lv_dup hx hb dX3_init_8 rfl ?_
  refine lv_bipush (v := (nI 60)) hx hb dX3_init_9 (by decide) ?_
  refine g_runI (b := (t + 1)) (As := [.int (nI 60)]) (rest := [.ref (t + 1), .ref t]) (own := RX3) 1 hx hb hml hown hts hK hz hP hL hS hlo hl.1 (c_X2_init l (t + 1) 60 σ1 (gup_here e1) (by decide)) gX3_init_X2_init rfl rfl rfl (by decide +kernel) (by decide +kernel) (by decide +kernel) rfl (by decide +kernel) ⟨Nat.le_of_ble_eq_true rfl, Nat.le_of_ble_eq_true rfl⟩ rfl rfl (Nat.le_of_ble_eq_true rfl) dX3_init_11 ⟨Nat.le_of_ble_eq_true rfl, Nat.le_of_ble_eq_true rfl⟩ (g_kv (fun H locs hz hP hL hS => ?_))
  have hz : H.size = (t + 3) := hz
  have hlo : lo ≤ (t + 3) := Nat.le_succ_of_le hlo
  obtain ⟨σ2, e2⟩ : ∃ υ0 : gS, υ0 = gup σ1 (t + 2) (gI 60 (fun _ => 0)) := ⟨_, rfl⟩
  have hag := hag.upe e2 (zo_k (by decide))
  obtain ⟨σ3, e3⟩ : ∃ υ0 : gS, υ0 = gup σ2 (t + 1) (gO 2 [.ref (t + 2)]) := ⟨_, rfl⟩
  have hag := hag.upe e3 (zo_k (by decide))
  have hP : gH D ka σ3 H := by rw [e3, e2]; exact hP
  have hL : gL lo σ3 := by rw [e3, e2]; exact hL
  refine g_putF (C := RX3) (T := TX3) (N := 6) hx hb hts hown hK hP hL hS (gup_off e3 (ad_0 1 (by decide)) (gup_off e2 (ad_0 2 (by decide)) (gup_off e1 (ad_0 1 (by decide)) h0))) nX3_init_X3 tyX3 tyX3_ok nmX3 rfl 0 (by decide) (by decide +kernel) rfl rfl hnm rfl (v := .ref (t + 1)) rfl rfl (Nat.le_of_ble_eq_true rfl) dX3_init_14 (fun H locs hq hP hL hS => ?_)
  have hz := hq.trans hz
  obtain ⟨σ4, e4⟩ : ∃ υ0 : gS, υ0 = gup σ3 t (gO 3 [.ref (t + 1), .int (0), .int (0), .int (0), .int (0), .int (0)]) := ⟨_, rfl⟩
  have hP : gH D ka σ4 H := by rw [e4]; exact hP
  have hL : gL lo σ4 := by rw [e4]; exact hL
  have hag := hag.upe e4 (zo_0 (by decide))
  refine W.widen (k := 2) (n := 97) (Nat.le_of_ble_eq_true rfl) (Nat.le_of_ble_eq_true rfl) ?_
  exact g_vret (z := (t + 3)) hx hb hr hlk hz hP hL hS dX3_init_17 (gxv_i ⟨rfl, ⟨(by rw [nI_0]; exact (gup_here e4)), (gup_off e4 (ad_1 1 (by decide)) (gup_here e3)), (gup_off e4 (ad_1 2 (by decide)) (gup_off e3 (ad_2 (by decide : 2 ≠ 1)) (gup_here e2)))⟩, hag⟩)

theorem nX3_append_X3 : ∀ w ∈ wsX30, w ∈ wsX3_append := by decide +kernel
set_option maxHeartbeats 4000000 in
set_option maxRecDepth 100000 in
theorem c_X3_append (l : Launch) (t : Nat) (f : Nat → Int32) (n a : Nat) (so ld ti : Int32) (v0 : Int32) (σ : gS) (sz : Nat) (hTx : TxAt σ t f n a so ld ti) (hLn : n ≤ 60) : gM l yX3_append wsX3_append ({ frames := 1, cells := 0, slots := 0, locals := 22 } : Room) 0 0 [.ref t, .int v0] σ sz (gxi (fun r τ z => r = bI (decide (n < 60)) ∧ z = sz ∧ TxAt τ t (if n < 60 then upd f n v0 else f) (if n < 60 then n + 1 else n) a so ld ti ∧ gAs (gZo t 3) σ τ)) := by
  refine gM_of (cc := cX3_append) (maxL := 2) (ret := (some .boolean)) (by decide) rfl (Nat.le_of_ble_eq_true rfl) ?_
  intro D ka lo hL hlo p e s m below meth c hx hb hr hts hown hml hlk hnm hK H locs ls hz hP hS hl
  have hl : lv_has ls 2 [(0, .ref t), (1, .int v0)] := hl
  have hown : s.vm.findClass RX3 = some m.cls := hown
  have hag : gAs (gZo t 3) σ σ := gAs.rf
  refine lv_aload_n hx hb dX3_append_0 rfl (lv_at hl 0 rfl) ?_
  refine g_get (C := RX3) (T := TX3) (N := 6) hx hb hts hown hK hP hTx.c0 nX3_append_X3 rfl 1 (by decide) (by decide +kernel) rfl (v := .int (nI n)) rfl dX3_append_1 ?_
  refine lv_bipush (v := (nI 60)) hx hb dX3_append_4 (by decide) ?_
  refine g_icmp_lt (tgt := 11) (a := n) (b := 60) hx hb (by omega) (by omega) dX3_append_6 (by decide) (fun c6 => ?_) (fun c6 => ?_)
  · refine lv_aload_n hx hb dX3_append_11 rfl (lv_at hl 0 rfl) ?_
    refine g_get (C := RX3) (T := TX3) (N := 6) hx hb hts hown hK hP hTx.c0 nX3_append_X3 rfl 0 (by decide) (by decide +kernel) rfl (v := .ref (t + 1)) rfl dX3_append_12 ?_
    refine lv_aload_n hx hb dX3_append_15 rfl (lv_at hl 0 rfl) ?_
    refine g_get (C := RX3) (T := TX3) (N := 6) hx hb hts hown hK hP hTx.c0 nX3_append_X3 rfl 1 (by decide) (by decide +kernel) rfl (v := .int (nI n)) rfl dX3_append_16 ?_
    refine lv_iload_n hx hb dX3_append_19 rfl (lv_at hl 1 rfl) ?_
    refine g_runV (As := [.int (nI n), .int v0]) (rest := []) (own := RX3) (C := RX2) (T := TX2) (N := 1) 2 hx hb hml hown hts hK hz hP hL hS hlo hl.1 (c_X2_put l (t + 1) 60 n f v0 σ sz ⟨hTx.c1, hTx.c2⟩ (by omega) (by omega)) gX3_append_X2_put rfl rfl rfl (by decide +kernel) ⟨Nat.le_of_ble_eq_true rfl, Nat.le_of_ble_eq_true rfl⟩ hTx.c1 rfl rfl rfl (Nat.le_of_ble_eq_true rfl) dX3_append_20 ⟨Nat.le_of_ble_eq_true rfl, Nat.le_of_ble_eq_true rfl⟩ (g_kv0 (fun H locs hz hP hL hS => ?_))
    obtain ⟨σ1, e1⟩ : ∃ υ0 : gS, υ0 = gup σ (t + 2) (gI 60 (upd f n v0)) := ⟨_, rfl⟩
    have hP : gH D ka σ1 H := by rw [e1]; exact hP
    have hL : gL lo σ1 := by rw [e1]; exact hL
    have hTx : TxAt σ1 t (upd f n v0) n a so ld ti := by rw [e1]; exact hTx.w2 (upd f n v0)
    have hag := hag.upe e1 (zo_k (by decide))
    refine lv_aload_n hx hb dX3_append_23 rfl (lv_at hl 0 rfl) ?_
    refine lv_dup hx hb dX3_append_24 rfl ?_
    refine g_get (C := RX3) (T := TX3) (N := 6) hx hb hts hown hK hP hTx.c0 nX3_append_X3 rfl 1 (by decide) (by decide +kernel) rfl (v := .int (nI n)) rfl dX3_append_25 ?_
    refine lv_iconst (v := (nI 1)) hx hb dX3_append_28 (by decide) ?_
    refine lv_iadd hx hb dX3_append_29 ?_
    refine g_top (nI_add n 1) ?_
    refine g_put (C := RX3) (T := TX3) (N := 6) hx hb hts hown hK hP hL hS hTx.c0 nX3_append_X3 tyX3 tyX3_ok nmX3 rfl 1 (by decide) (by decide +kernel) rfl rfl (v := .int (nI (n + 1))) rfl rfl (Nat.le_of_ble_eq_true rfl) dX3_append_30 (fun H locs hq hP hL hS => ?_)
    have hz := hq.trans hz
    obtain ⟨σ2, e2⟩ : ∃ υ0 : gS, υ0 = gup σ1 t (gO 3 [.ref (t + 1), .int (nI (n + 1)), .int (nI a), .int so, .int ld, .int ti]) := ⟨_, rfl⟩
    have hP : gH D ka σ2 H := by rw [e2]; exact hP
    have hL : gL lo σ2 := by rw [e2]; exact hL
    have hTx : TxAt σ2 t (upd f n v0) (n + 1) a so ld ti := by rw [e2]; exact hTx.p1 (n + 1)
    have hag := hag.upe e2 (zo_0 (by decide))
    refine lv_iconst (v := (nI 1)) hx hb dX3_append_33 (by decide) ?_
    exact g_zret (z := sz) hx hb hr hlk hz hP hL hS rfl dX3_append_34 (gxi_i ⟨by rw [decide_eq_true c6]; rfl, rfl, by rw [if_pos c6, if_pos c6]; exact hTx, hag⟩)
  · refine lv_iconst (v := (nI 0)) hx hb dX3_append_9 (by decide) ?_
    exact g_zret (z := sz) hx hb hr hlk hz hP hL hS rfl dX3_append_10 (gxi_i ⟨by rw [decide_eq_false (by omega)]; rfl, rfl, by rw [if_neg (by omega), if_neg (by omega)]; exact hTx, hag⟩)

theorem nX3_signAt_X3 : ∀ w ∈ wsX30, w ∈ wsX3_signAt := by decide +kernel
set_option maxHeartbeats 4000000 in
set_option maxRecDepth 100000 in
theorem c_X3_signAt (l : Launch) (t : Nat) (f : Nat → Int32) (n a : Nat) (so ld ti : Int32) (u : Nat) (σ : gS) (sz : Nat) (hTx : TxAt σ t f n a so ld ti) (hLn : n ≤ 60) (hu : u < 2147483648) : gM l yX3_signAt wsX3_signAt ({ frames := 1, cells := 0, slots := 0, locals := 21 } : Room) 0 0 [.ref t, .int (nI u)] σ sz (gi (sgI f n u) σ sz) := by
  refine gM_of (cc := cX3_signAt) (maxL := 2) (ret := (some .int)) (by decide) rfl (Nat.le_of_ble_eq_true rfl) ?_
  intro D ka lo hL hlo p e s m below meth c hx hb hr hts hown hml hlk hnm hK H locs ls hz hP hS hl
  have hl : lv_has ls 2 [(0, .ref t), (1, .int (nI u))] := hl
  have hown : s.vm.findClass RX3 = some m.cls := hown
  refine lv_iload_n hx hb dX3_signAt_0 rfl (lv_at hl 1 rfl) ?_
  refine lv_aload_n hx hb dX3_signAt_1 rfl (lv_at hl 0 rfl) ?_
  refine g_get (C := RX3) (T := TX3) (N := 6) hx hb hts hown hK hP hTx.c0 nX3_signAt_X3 rfl 1 (by decide) (by decide +kernel) rfl (v := .int (nI n)) rfl dX3_signAt_2 ?_
  refine g_icmp_ge (tgt := 19) (a := u) (b := n) hx hb (by omega) (by omega) dX3_signAt_5 (by decide) (fun c5 => ?_) (fun c5 => ?_)
  · refine lv_iconst (v := (-1)) hx hb dX3_signAt_19 (by decide) ?_
    exact g_iret (z := sz) hx hb hr hlk hz hP hL hS dX3_signAt_20 (gi_i (by rw [sgI, if_neg (by omega)]) rfl)
  · refine lv_aload_n hx hb dX3_signAt_8 rfl (lv_at hl 0 rfl) ?_
    refine g_get (C := RX3) (T := TX3) (N := 6) hx hb hts hown hK hP hTx.c0 nX3_signAt_X3 rfl 0 (by decide) (by decide +kernel) rfl (v := .ref (t + 1)) rfl dX3_signAt_9 ?_
    refine lv_iload_n hx hb dX3_signAt_12 rfl (lv_at hl 1 rfl) ?_
    refine g_runV (As := [.int (nI u)]) (rest := []) (own := RX3) (C := RX2) (T := TX2) (N := 1) 1 hx hb hml hown hts hK hz hP hL hS hlo hl.1 (c_X2_at l (t + 1) 60 u f σ sz ⟨hTx.c1, hTx.c2⟩ (by omega) (by omega)) gX3_signAt_X2_at rfl rfl rfl (by decide +kernel) ⟨Nat.le_of_ble_eq_true rfl, Nat.le_of_ble_eq_true rfl⟩ hTx.c1 rfl rfl rfl (Nat.le_of_ble_eq_true rfl) dX3_signAt_13 ⟨Nat.le_of_ble_eq_true rfl, Nat.le_of_ble_eq_true rfl⟩ (g_ki0 (fun H locs hz hP hL hS => ?_))
    refine lv_goto (tgt := 20) hx hb dX3_signAt_16 (by decide) ?_
    exact g_iret (z := sz) hx hb hr hlk hz hP hL hS dX3_signAt_20 (gi_i (by rw [sgI, if_pos c5]) rfl)

set_option maxHeartbeats 4000000 in
set_option maxRecDepth 100000 in
theorem c_X3_digitAt (l : Launch) (t : Nat) (f : Nat → Int32) (n a : Nat) (so ld ti : Int32) (u : Nat) (σ : gS) (sz : Nat) (hTx : TxAt σ t f n a so ld ti) (hLn : n ≤ 60) (hu : u < 2147483648) : gM l yX3_digitAt wsX3_digitAt ({ frames := 2, cells := 0, slots := 0, locals := 42 } : Room) 0 0 [.ref t, .int (nI u)] σ sz (gi (oJ (dgN f n u)) σ sz) := by
  refine gM_of (cc := cX3_digitAt) (maxL := 3) (ret := (some .int)) (by decide) rfl (Nat.le_of_ble_eq_true rfl) ?_
  intro D ka lo hL hlo p e s m below meth c hx hb hr hts hown hml hlk hnm hK H locs ls hz hP hS hl
  have hl : lv_has ls 3 [(0, .ref t), (1, .int (nI u))] := hl
  have hown : s.vm.findClass RX3 = some m.cls := hown
  refine lv_aload_n hx hb dX3_digitAt_0 rfl (lv_at hl 0 rfl) ?_
  refine lv_iload_n hx hb dX3_digitAt_1 rfl (lv_at hl 1 rfl) ?_
  refine g_runV (As := [.int (nI u)]) (rest := []) (own := RX3) (C := RX3) (T := TX3) (N := 6) 1 hx hb hml hown hts hK hz hP hL hS hlo hl.1 (c_X3_signAt l t f n a so ld ti u σ sz hTx (by omega) (by omega)) gX3_digitAt_X3_signAt rfl rfl rfl (by decide +kernel) ⟨Nat.le_of_ble_eq_true rfl, Nat.le_of_ble_eq_true rfl⟩ hTx.c0 rfl rfl rfl (Nat.le_of_ble_eq_true rfl) dX3_digitAt_2 ⟨Nat.le_of_ble_eq_true rfl, Nat.le_of_ble_eq_true rfl⟩ (g_ki0 (fun H locs hz hP hL hS => ?_))
  refine lv_istore_n (lv' := [(2, .int (sgI f n u)), (0, .ref t), (1, .int (nI u))]) hx hb dX3_digitAt_5 rfl hl (by decide) rfl (fun ls hl => ?_)
  refine lv_iload_n hx hb dX3_digitAt_6 rfl (lv_at hl 0 rfl) ?_
  refine lv_bipush (v := (nI 48)) hx hb dX3_digitAt_7 (by decide) ?_
  refine lv_bipush (v := (nI 57)) hx hb dX3_digitAt_9 (by decide) ?_
  refine g_runSN (As := [.int (sgI f n u), .int (nI 48), .int (nI 57)]) (rest := []) (own := RX3) 3 hx hb hml hown hts hK hz hP hL hS hlo hl.1 (c_X7_isWithin l ((sgI f n u)) ((nI 48)) ((nI 57)) σ sz) gX3_digitAt_X7_isWithin_n60 rfl rfl rfl (by decide +kernel) (by decide +kernel) (by decide +kernel) (by decide +kernel) ⟨Nat.le_of_ble_eq_true rfl, Nat.le_of_ble_eq_true rfl⟩ rfl rfl (Nat.le_of_ble_eq_true rfl) dX3_digitAt_11 ⟨Nat.le_of_ble_eq_true rfl, Nat.le_of_ble_eq_true rfl⟩ (g_ki0 (fun H locs hz hP hL hS => ?_))
  refine g_ifb_eq (tgt := 24) hx hb dX3_digitAt_14 (by decide) (fun c14 => ?_) (fun c14 => ?_)
  · refine lv_iconst (v := (-1)) hx hb dX3_digitAt_24 (by decide) ?_
    exact g_iret (z := sz) hx hb hr hlk hz hP hL hS dX3_digitAt_25 (gi_i (dgN_f c14) rfl)
  · refine lv_iload_n hx hb dX3_digitAt_17 rfl (lv_at hl 0 rfl) ?_
    refine lv_bipush (v := (nI 48)) hx hb dX3_digitAt_18 (by decide) ?_
    refine lv_isub hx hb dX3_digitAt_20 ?_
    refine lv_goto (tgt := 25) hx hb dX3_digitAt_21 (by decide) ?_
    exact g_iret (z := sz) hx hb hr hlk hz hP hL hS dX3_digitAt_25 (gi_i (dgN_t c14) rfl)

set_option maxHeartbeats 4000000 in
set_option maxRecDepth 100000 in
theorem c_X3_sortOf (l : Launch) (y0 : Int32) (σ : gS) (sz : Nat)  : gM l yX3_sortOf wsX3_sortOf ({ frames := 0, cells := 0, slots := 0, locals := 0 } : Room) 0 0 [.int y0] σ sz (gi (soI y0) σ sz) := by
  refine gM_of (cc := cX3_sortOf) (maxL := 1) (ret := (some .int)) (by decide) rfl (Nat.le_of_ble_eq_true rfl) ?_
  intro D ka lo hL hlo p e s m below meth c hx hb hr hts hown hml hlk hnm hK H locs ls hz hP hS hl
  have hl : lv_has ls 1 [(0, .int y0)] := hl
  have hown : s.vm.findClass RX3 = some m.cls := hown
  refine lv_iload_n hx hb dX3_sortOf_0 rfl (lv_at hl 0 rfl) ?_
  rcases (Decidable.em (y0 = nI 45)) with hk45 | hk45
  · refine g_top (y := nI 45) hk45 ?_
    refine lv_lookup (tgt := 38) (off := 37) hx hb dX3_sortOf_1 (by decide) (by decide) (by decide) ?_
    refine lv_iconst (v := (nI 1)) hx hb dX3_sortOf_38 (by decide) ?_
    exact g_iret (z := sz) hx hb hr hlk hz hP hL hS dX3_sortOf_39 (gi_i (by rw [soI, if_pos hk45]) rfl)
  rcases (Decidable.em (y0 = nI 46)) with hk46 | hk46
  · refine g_top (y := nI 46) hk46 ?_
    refine lv_lookup (tgt := 36) (off := 35) hx hb dX3_sortOf_1 (by decide) (by decide) (by decide) ?_
    refine lv_iconst (v := (nI 0)) hx hb dX3_sortOf_36 (by decide) ?_
    exact g_iret (z := sz) hx hb hr hlk hz hP hL hS dX3_sortOf_37 (gi_i (by rw [soI, if_neg hk45, if_pos hk46]) rfl)
  rcases (Decidable.em (y0 = nI 111)) with hk111 | hk111
  · refine g_top (y := nI 111) hk111 ?_
    refine lv_lookup (tgt := 40) (off := 39) hx hb dX3_sortOf_1 (by decide) (by decide) (by decide) ?_
    refine lv_iconst (v := (nI 2)) hx hb dX3_sortOf_40 (by decide) ?_
    exact g_iret (z := sz) hx hb hr hlk hz hP hL hS dX3_sortOf_41 (gi_i (by rw [soI, if_neg hk45, if_neg hk46, if_pos hk111]) rfl)
  refine lv_lookup (tgt := 42) (off := 41) hx hb dX3_sortOf_1 (by decide) ((lv_osw (k := nI 45) hk45 (by decide)).trans ((lv_osw (k := nI 46) hk46 (by decide)).trans ((lv_osw (k := nI 111) hk111 (by decide)).trans (rfl)))) (by decide) ?_
  refine lv_iconst (v := (-1)) hx hb dX3_sortOf_42 (by decide) ?_
  exact g_iret (z := sz) hx hb hr hlk hz hP hL hS dX3_sortOf_43 (gi_i (by rw [soI, if_neg hk45, if_neg hk46, if_neg hk111]) rfl)

theorem nX3_readTimes_X3 : ∀ w ∈ wsX30, w ∈ wsX3_readTimes := by decide +kernel
set_option maxHeartbeats 4000000 in
set_option maxRecDepth 100000 in
theorem c_X3_readTimes (l : Launch) (t : Nat) (f : Nat → Int32) (n a : Nat) (so ld ti : Int32) (σ : gS) (sz : Nat) (hTx : TxAt σ t f n a so ld ti) (hLn : n ≤ 60) (ha : a < 100) : gM l yX3_readTimes wsX3_readTimes ({ frames := 3, cells := 0, slots := 0, locals := 64 } : Room) 0 0 [.ref t] σ sz (gxi (fun r τ z => r = bI (tmF f n a).1 ∧ z = sz ∧ ∃ ti2 : Int32, TxAt τ t f n (tmF f n a).2.1 so ld ti2 ∧ ((tmF f n a).1 = true → ti2 = nI (tmF f n a).2.2) ∧ gAs (gZo t 3) σ τ)) := by
  refine gM_of (cc := cX3_readTimes) (maxL := 3) (ret := (some .boolean)) (by decide) rfl (Nat.le_of_ble_eq_true rfl) ?_
  intro D ka lo hL hlo p e s m below meth c hx hb hr hts hown hml hlk hnm hK H locs ls hz hP hS hl
  have hl : lv_has ls 3 [(0, .ref t)] := hl
  have hown : s.vm.findClass RX3 = some m.cls := hown
  have hag : gAs (gZo t 3) σ σ := gAs.rf
  refine lv_aload_n hx hb dX3_readTimes_0 rfl (lv_at hl 0 rfl) ?_
  refine lv_aload_n hx hb dX3_readTimes_1 rfl (lv_at hl 0 rfl) ?_
  refine g_get (C := RX3) (T := TX3) (N := 6) hx hb hts hown hK hP hTx.c0 nX3_readTimes_X3 rfl 2 (by decide) (by decide +kernel) rfl (v := .int (nI a)) rfl dX3_readTimes_2 ?_
  refine g_runV (As := [.int (nI a)]) (rest := []) (own := RX3) (C := RX3) (T := TX3) (N := 6) 1 hx hb hml hown hts hK hz hP hL hS hlo hl.1 (c_X3_digitAt l t f n a so ld ti a σ sz hTx (by omega) (by omega)) gX3_readTimes_X3_digitAt rfl rfl rfl (by decide +kernel) ⟨Nat.le_of_ble_eq_true rfl, Nat.le_of_ble_eq_true rfl⟩ hTx.c0 rfl rfl rfl (Nat.le_of_ble_eq_true rfl) dX3_readTimes_5 ⟨Nat.le_of_ble_eq_true rfl, Nat.le_of_ble_eq_true rfl⟩ (g_ki0 (fun H locs hz hP hL hS => ?_))
  rcases hd : dgN f n a with _ | hd0
  · refine g_top (y := (-1)) rfl ?_
    refine lv_istore_n (lv' := [(1, .int (-1)), (0, .ref t)]) hx hb dX3_readTimes_8 rfl hl (by decide) rfl (fun ls hl => ?_)
    refine lv_iload_n hx hb dX3_readTimes_9 rfl (lv_at hl 0 rfl) ?_
    refine lv_iconst (v := (nI 1)) hx hb dX3_readTimes_10 (by decide) ?_
    refine lv_icmp_ge (tgt := 16) hx hb dX3_readTimes_11 (by decide) (fun c11 => absurd c11 (by decide)) (fun c11 => ?_)
    refine lv_iconst (v := (nI 0)) hx hb dX3_readTimes_14 (by decide) ?_
    exact g_zret (z := sz) hx hb hr hlk hz hP hL hS rfl dX3_readTimes_15 (gxi_i ⟨by simp [tmF, hd, bI, nI_0, show nI 1 = (1 : Int32) from rfl], rfl, _, (by simpa [tmF, hd] using hTx), by simp [tmF, hd], hag⟩)
  · refine g_top (y := (nI hd0)) rfl ?_
    have hd9 := (dgN_le hd).1
    refine lv_istore_n (lv' := [(1, .int (nI hd0)), (0, .ref t)]) hx hb dX3_readTimes_8 rfl hl (by decide) rfl (fun ls hl => ?_)
    refine lv_iload_n hx hb dX3_readTimes_9 rfl (lv_at hl 0 rfl) ?_
    refine lv_iconst (v := (nI 1)) hx hb dX3_readTimes_10 (by decide) ?_
    refine g_icmp_ge (tgt := 16) (a := hd0) (b := 1) hx hb (by omega) (by omega) dX3_readTimes_11 (by decide) (fun c11 => ?_) (fun c11 => ?_)
    · refine lv_aload_n hx hb dX3_readTimes_16 rfl (lv_at hl 1 rfl) ?_
      refine lv_iload_n hx hb dX3_readTimes_17 rfl (lv_at hl 0 rfl) ?_
      refine g_put (C := RX3) (T := TX3) (N := 6) hx hb hts hown hK hP hL hS hTx.c0 nX3_readTimes_X3 tyX3 tyX3_ok nmX3 rfl 5 (by decide) (by decide +kernel) rfl rfl (v := .int (nI hd0)) rfl rfl (Nat.le_of_ble_eq_true rfl) dX3_readTimes_18 (fun H locs hq hP hL hS => ?_)
      have hz := hq.trans hz
      obtain ⟨σ1, e1⟩ : ∃ υ0 : gS, υ0 = gup σ t (gO 3 [.ref (t + 1), .int (nI n), .int (nI a), .int so, .int ld, .int (nI hd0)]) := ⟨_, rfl⟩
      have hP : gH D ka σ1 H := by rw [e1]; exact hP
      have hL : gL lo σ1 := by rw [e1]; exact hL
      have hTx : TxAt σ1 t f n a so ld ((nI hd0)) := by rw [e1]; exact hTx.p5 ((nI hd0))
      have hag := hag.upe e1 (zo_0 (by decide))
      refine lv_aload_n hx hb dX3_readTimes_21 rfl (lv_at hl 1 rfl) ?_
      refine lv_dup hx hb dX3_readTimes_22 rfl ?_
      refine g_get (C := RX3) (T := TX3) (N := 6) hx hb hts hown hK hP hTx.c0 nX3_readTimes_X3 rfl 2 (by decide) (by decide +kernel) rfl (v := .int (nI a)) rfl dX3_readTimes_23 ?_
      refine lv_iconst (v := (nI 1)) hx hb dX3_readTimes_26 (by decide) ?_
      refine lv_iadd hx hb dX3_readTimes_27 ?_
      refine g_top (nI_add a 1) ?_
      refine g_put (C := RX3) (T := TX3) (N := 6) hx hb hts hown hK hP hL hS hTx.c0 nX3_readTimes_X3 tyX3 tyX3_ok nmX3 rfl 2 (by decide) (by decide +kernel) rfl rfl (v := .int (nI (a + 1))) rfl rfl (Nat.le_of_ble_eq_true rfl) dX3_readTimes_28 (fun H locs hq hP hL hS => ?_)
      have hz := hq.trans hz
      obtain ⟨σ2, e2⟩ : ∃ υ0 : gS, υ0 = gup σ1 t (gO 3 [.ref (t + 1), .int (nI n), .int (nI (a + 1)), .int so, .int ld, .int ((nI hd0))]) := ⟨_, rfl⟩
      have hP : gH D ka σ2 H := by rw [e2]; exact hP
      have hL : gL lo σ2 := by rw [e2]; exact hL
      have hTx : TxAt σ2 t f n (a + 1) so ld ((nI hd0)) := by rw [e2]; exact hTx.p2 (a + 1)
      have hag := hag.upe e2 (zo_0 (by decide))
      refine lv_aload_n hx hb dX3_readTimes_31 rfl (lv_at hl 1 rfl) ?_
      refine lv_aload_n hx hb dX3_readTimes_32 rfl (lv_at hl 1 rfl) ?_
      refine g_get (C := RX3) (T := TX3) (N := 6) hx hb hts hown hK hP hTx.c0 nX3_readTimes_X3 rfl 2 (by decide) (by decide +kernel) rfl (v := .int (nI (a + 1))) rfl dX3_readTimes_33 ?_
      refine g_runV (As := [.int (nI (a + 1))]) (rest := []) (own := RX3) (C := RX3) (T := TX3) (N := 6) 1 hx hb hml hown hts hK hz hP hL hS hlo hl.1 (c_X3_digitAt l t f n (a + 1) so ld ((nI hd0)) (a + 1) σ2 sz hTx (by omega) (by omega)) gX3_readTimes_X3_digitAt rfl rfl rfl (by decide +kernel) ⟨Nat.le_of_ble_eq_true rfl, Nat.le_of_ble_eq_true rfl⟩ hTx.c0 rfl rfl rfl (Nat.le_of_ble_eq_true rfl) dX3_readTimes_36 ⟨Nat.le_of_ble_eq_true rfl, Nat.le_of_ble_eq_true rfl⟩ (g_ki0 (fun H locs hz hP hL hS => ?_))
      rcases he : dgN f n (a + 1) with _ | he0
      · refine g_top (y := (-1)) rfl ?_
        refine lv_istore_n (lv' := [(2, .int (-1)), (1, .int (nI hd0)), (0, .ref t)]) hx hb dX3_readTimes_39 rfl hl (by decide) rfl (fun ls hl => ?_)
        refine lv_iload_n hx hb dX3_readTimes_40 rfl (lv_at hl 0 rfl) ?_
        refine lv_if_ge (tgt := 55) hx hb dX3_readTimes_41 (by decide) (fun c41 => absurd c41 (by decide)) (fun c41 => ?_)
        refine lv_iload_n hx hb dX3_readTimes_44 rfl (lv_at hl 1 rfl) ?_
        refine lv_iconst (v := (nI 1)) hx hb dX3_readTimes_45 (by decide) ?_
        refine g_icmp_eq (tgt := 53) (a := hd0) (b := 1) hx hb (by omega) (by omega) dX3_readTimes_46 (by decide) (fun c46 => ?_) (fun c46 => ?_)
        · refine lv_iconst (v := (nI 0)) hx hb dX3_readTimes_53 (by decide) ?_
          exact g_zret (z := sz) hx hb hr hlk hz hP hL hS rfl dX3_readTimes_54 (gxi_i ⟨by simp [tmF, hd, he, show ¬ hd0 < 1 by omega, c46, bI, nI_0, show nI 1 = (1 : Int32) from rfl], rfl, _, (by simpa [tmF, hd, he, show ¬ hd0 < 1 by omega, c46] using hTx), by simp [tmF, hd, he, show ¬ hd0 < 1 by omega, c46], hag⟩)
        · refine lv_iconst (v := (nI 1)) hx hb dX3_readTimes_49 (by decide) ?_
          refine lv_goto (tgt := 54) hx hb dX3_readTimes_50 (by decide) ?_
          exact g_zret (z := sz) hx hb hr hlk hz hP hL hS rfl dX3_readTimes_54 (gxi_i ⟨by simp [tmF, hd, he, show ¬ hd0 < 1 by omega, c46, bI, nI_0, show nI 1 = (1 : Int32) from rfl], rfl, _, (by simpa [tmF, hd, he, show ¬ hd0 < 1 by omega, c46] using hTx), by simp [tmF, hd, he, show ¬ hd0 < 1 by omega, c46], hag⟩)
      · refine g_top (y := (nI he0)) rfl ?_
        have he9 := (dgN_le he).1
        refine lv_istore_n (lv' := [(2, .int (nI he0)), (1, .int (nI hd0)), (0, .ref t)]) hx hb dX3_readTimes_39 rfl hl (by decide) rfl (fun ls hl => ?_)
        refine lv_iload_n hx hb dX3_readTimes_40 rfl (lv_at hl 0 rfl) ?_
        refine g_if_ge hx hb (by omega) dX3_readTimes_41 (tgt := 55) (by decide) ?_
        refine lv_aload_n hx hb dX3_readTimes_55 rfl (lv_at hl 2 rfl) ?_
        refine lv_iload_n hx hb dX3_readTimes_56 rfl (lv_at hl 1 rfl) ?_
        refine lv_bipush (v := (nI 10)) hx hb dX3_readTimes_57 (by decide) ?_
        refine lv_imul hx hb dX3_readTimes_59 ?_
        refine g_top (pk_mul hd0 10) ?_
        refine lv_iload_n hx hb dX3_readTimes_60 rfl (lv_at hl 0 rfl) ?_
        refine lv_iadd hx hb dX3_readTimes_61 ?_
        refine g_top (nI_add (hd0 * 10) he0) ?_
        refine g_put (C := RX3) (T := TX3) (N := 6) hx hb hts hown hK hP hL hS hTx.c0 nX3_readTimes_X3 tyX3 tyX3_ok nmX3 rfl 5 (by decide) (by decide +kernel) rfl rfl (v := .int (nI ((hd0 * 10) + he0))) rfl rfl (Nat.le_of_ble_eq_true rfl) dX3_readTimes_62 (fun H locs hq hP hL hS => ?_)
        have hz := hq.trans hz
        obtain ⟨σ3, e3⟩ : ∃ υ0 : gS, υ0 = gup σ2 t (gO 3 [.ref (t + 1), .int (nI n), .int (nI (a + 1)), .int so, .int ld, .int (nI ((hd0 * 10) + he0))]) := ⟨_, rfl⟩
        have hP : gH D ka σ3 H := by rw [e3]; exact hP
        have hL : gL lo σ3 := by rw [e3]; exact hL
        have hTx : TxAt σ3 t f n (a + 1) so ld ((nI ((hd0 * 10) + he0))) := by rw [e3]; exact hTx.p5 ((nI ((hd0 * 10) + he0)))
        have hag := hag.upe e3 (zo_0 (by decide))
        refine lv_aload_n hx hb dX3_readTimes_65 rfl (lv_at hl 2 rfl) ?_
        refine g_get (C := RX3) (T := TX3) (N := 6) hx hb hts hown hK hP hTx.c0 nX3_readTimes_X3 rfl 5 (by decide) (by decide +kernel) rfl (v := .int ((nI ((hd0 * 10) + he0)))) rfl dX3_readTimes_66 ?_
        refine g_top (y := (nI (hd0 * 10 + he0))) rfl ?_
        refine lv_bipush (v := (nI 96)) hx hb dX3_readTimes_69 (by decide) ?_
        refine g_icmp_le (tgt := 76) (a := hd0 * 10 + he0) (b := 96) hx hb (by omega) (by omega) dX3_readTimes_71 (by decide) (fun c71 => ?_) (fun c71 => ?_)
        · refine lv_aload_n hx hb dX3_readTimes_76 rfl (lv_at hl 2 rfl) ?_
          refine lv_dup hx hb dX3_readTimes_77 rfl ?_
          refine g_get (C := RX3) (T := TX3) (N := 6) hx hb hts hown hK hP hTx.c0 nX3_readTimes_X3 rfl 2 (by decide) (by decide +kernel) rfl (v := .int (nI (a + 1))) rfl dX3_readTimes_78 ?_
          refine lv_iconst (v := (nI 1)) hx hb dX3_readTimes_81 (by decide) ?_
          refine lv_iadd hx hb dX3_readTimes_82 ?_
          refine g_top (nI_add (a + 1) 1) ?_
          refine g_put (C := RX3) (T := TX3) (N := 6) hx hb hts hown hK hP hL hS hTx.c0 nX3_readTimes_X3 tyX3 tyX3_ok nmX3 rfl 2 (by decide) (by decide +kernel) rfl rfl (v := .int (nI ((a + 1) + 1))) rfl rfl (Nat.le_of_ble_eq_true rfl) dX3_readTimes_83 (fun H locs hq hP hL hS => ?_)
          have hz := hq.trans hz
          obtain ⟨σ4, e4⟩ : ∃ υ0 : gS, υ0 = gup σ3 t (gO 3 [.ref (t + 1), .int (nI n), .int (nI ((a + 1) + 1)), .int so, .int ld, .int ((nI ((hd0 * 10) + he0)))]) := ⟨_, rfl⟩
          have hP : gH D ka σ4 H := by rw [e4]; exact hP
          have hL : gL lo σ4 := by rw [e4]; exact hL
          have hTx : TxAt σ4 t f n ((a + 1) + 1) so ld ((nI ((hd0 * 10) + he0))) := by rw [e4]; exact hTx.p2 ((a + 1) + 1)
          have hag := hag.upe e4 (zo_0 (by decide))
          refine lv_iconst (v := (nI 1)) hx hb dX3_readTimes_86 (by decide) ?_
          exact g_zret (z := sz) hx hb hr hlk hz hP hL hS rfl dX3_readTimes_87 (gxi_i ⟨by simp [tmF, hd, he, show ¬ hd0 < 1 by omega, show ¬ 96 < hd0 * 10 + he0 by omega, bI, nI_0, show nI 1 = (1 : Int32) from rfl], rfl, _, (by simpa [tmF, hd, he, show ¬ hd0 < 1 by omega, show ¬ 96 < hd0 * 10 + he0 by omega] using hTx), by simp [tmF, hd, he, show ¬ hd0 < 1 by omega, show ¬ 96 < hd0 * 10 + he0 by omega], hag⟩)
        · refine lv_iconst (v := (nI 0)) hx hb dX3_readTimes_74 (by decide) ?_
          exact g_zret (z := sz) hx hb hr hlk hz hP hL hS rfl dX3_readTimes_75 (gxi_i ⟨by simp [tmF, hd, he, show ¬ hd0 < 1 by omega, show 96 < hd0 * 10 + he0 by omega, bI, nI_0, show nI 1 = (1 : Int32) from rfl], rfl, _, (by simpa [tmF, hd, he, show ¬ hd0 < 1 by omega, show 96 < hd0 * 10 + he0 by omega] using hTx), by simp [tmF, hd, he, show ¬ hd0 < 1 by omega, show 96 < hd0 * 10 + he0 by omega], hag⟩)
    · refine lv_iconst (v := (nI 0)) hx hb dX3_readTimes_14 (by decide) ?_
      exact g_zret (z := sz) hx hb hr hlk hz hP hL hS rfl dX3_readTimes_15 (gxi_i ⟨by simp [tmF, hd, show hd0 < 1 by omega, bI, nI_0, show nI 1 = (1 : Int32) from rfl], rfl, _, (by simpa [tmF, hd, show hd0 < 1 by omega] using hTx), by simp [tmF, hd, show hd0 < 1 by omega], hag⟩)

theorem nX3_readItem_X3 : ∀ w ∈ wsX30, w ∈ wsX3_readItem := by decide +kernel
set_option maxHeartbeats 4000000 in
set_option maxRecDepth 100000 in
theorem c_X3_readItem (l : Launch) (t : Nat) (f : Nat → Int32) (n a : Nat) (so ld ti : Int32) (σ : gS) (sz : Nat) (hTx : TxAt σ t f n a so ld ti) (hLn : n ≤ 60) (ha : a < 90) : gM l yX3_readItem wsX3_readItem ({ frames := 4, cells := 0, slots := 0, locals := 86 } : Room) 0 0 [.ref t] σ sz (gxi (fun r τ z => r = bI (itF f n a).1 ∧ z = sz ∧ ∃ (so2 ld2 ti2 : Int32), TxAt τ t f n (itF f n a).2.1 so2 ld2 ti2 ∧ ((itF f n a).1 = true → so2 = (itF f n a).2.2.1 ∧ ld2 = (itF f n a).2.2.2.1 ∧ ti2 = nI (itF f n a).2.2.2.2) ∧ gAs (gZo t 3) σ τ)) := by
  refine gM_of (cc := cX3_readItem) (maxL := 2) (ret := (some .boolean)) (by decide) rfl (Nat.le_of_ble_eq_true rfl) ?_
  intro D ka lo hL hlo p e s m below meth c hx hb hr hts hown hml hlk hnm hK H locs ls hz hP hS hl
  have hl : lv_has ls 2 [(0, .ref t)] := hl
  have hown : s.vm.findClass RX3 = some m.cls := hown
  have hag : gAs (gZo t 3) σ σ := gAs.rf
  refine lv_aload_n hx hb dX3_readItem_0 rfl (lv_at hl 0 rfl) ?_
  refine lv_aload_n hx hb dX3_readItem_1 rfl (lv_at hl 0 rfl) ?_
  refine lv_aload_n hx hb dX3_readItem_2 rfl (lv_at hl 0 rfl) ?_
  refine g_get (C := RX3) (T := TX3) (N := 6) hx hb hts hown hK hP hTx.c0 nX3_readItem_X3 rfl 2 (by decide) (by decide +kernel) rfl (v := .int (nI a)) rfl dX3_readItem_3 ?_
  refine g_runV (As := [.int (nI a)]) (rest := [.ref t]) (own := RX3) (C := RX3) (T := TX3) (N := 6) 1 hx hb hml hown hts hK hz hP hL hS hlo hl.1 (c_X3_signAt l t f n a so ld ti a σ sz hTx (by omega) (by omega)) gX3_readItem_X3_signAt rfl rfl rfl (by decide +kernel) ⟨Nat.le_of_ble_eq_true rfl, Nat.le_of_ble_eq_true rfl⟩ hTx.c0 rfl rfl rfl (Nat.le_of_ble_eq_true rfl) dX3_readItem_6 ⟨Nat.le_of_ble_eq_true rfl, Nat.le_of_ble_eq_true rfl⟩ (g_ki0 (fun H locs hz hP hL hS => ?_))
  refine g_runS (As := [.int (sgI f n a)]) (rest := [.ref t]) (own := RX3) 1 hx hb hml hown hts hK hz hP hL hS hlo hl.1 (c_X3_sortOf l ((sgI f n a)) σ sz) gX3_readItem_X3_sortOf rfl rfl rfl (by decide +kernel) ⟨Nat.le_of_ble_eq_true rfl, Nat.le_of_ble_eq_true rfl⟩ rfl rfl (Nat.le_of_ble_eq_true rfl) dX3_readItem_9 ⟨Nat.le_of_ble_eq_true rfl, Nat.le_of_ble_eq_true rfl⟩ (g_ki0 (fun H locs hz hP hL hS => ?_))
  refine g_put (C := RX3) (T := TX3) (N := 6) hx hb hts hown hK hP hL hS hTx.c0 nX3_readItem_X3 tyX3 tyX3_ok nmX3 rfl 3 (by decide) (by decide +kernel) rfl rfl (v := .int (soI ((sgI f n a)))) rfl rfl (Nat.le_of_ble_eq_true rfl) dX3_readItem_12 (fun H locs hq hP hL hS => ?_)
  have hz := hq.trans hz
  obtain ⟨σ1, e1⟩ : ∃ υ0 : gS, υ0 = gup σ t (gO 3 [.ref (t + 1), .int (nI n), .int (nI a), .int (soI ((sgI f n a))), .int ld, .int ti]) := ⟨_, rfl⟩
  have hP : gH D ka σ1 H := by rw [e1]; exact hP
  have hL : gL lo σ1 := by rw [e1]; exact hL
  have hTx : TxAt σ1 t f n a ((soI ((sgI f n a)))) ld ti := by rw [e1]; exact hTx.p3 ((soI ((sgI f n a))))
  have hag := hag.upe e1 (zo_0 (by decide))
  refine lv_aload_n hx hb dX3_readItem_15 rfl (lv_at hl 0 rfl) ?_
  refine g_get (C := RX3) (T := TX3) (N := 6) hx hb hts hown hK hP hTx.c0 nX3_readItem_X3 rfl 3 (by decide) (by decide +kernel) rfl (v := .int ((soI ((sgI f n a))))) rfl dX3_readItem_16 ?_
  refine lv_if_ge (tgt := 24) hx hb dX3_readItem_19 (by decide) (fun c19 => ?_) (fun c19 => ?_)
  · refine lv_aload_n hx hb dX3_readItem_24 rfl (lv_at hl 0 rfl) ?_
    refine lv_dup hx hb dX3_readItem_25 rfl ?_
    refine g_get (C := RX3) (T := TX3) (N := 6) hx hb hts hown hK hP hTx.c0 nX3_readItem_X3 rfl 2 (by decide) (by decide +kernel) rfl (v := .int (nI a)) rfl dX3_readItem_26 ?_
    refine lv_iconst (v := (nI 1)) hx hb dX3_readItem_29 (by decide) ?_
    refine lv_iadd hx hb dX3_readItem_30 ?_
    refine g_top (nI_add a 1) ?_
    refine g_put (C := RX3) (T := TX3) (N := 6) hx hb hts hown hK hP hL hS hTx.c0 nX3_readItem_X3 tyX3 tyX3_ok nmX3 rfl 2 (by decide) (by decide +kernel) rfl rfl (v := .int (nI (a + 1))) rfl rfl (Nat.le_of_ble_eq_true rfl) dX3_readItem_31 (fun H locs hq hP hL hS => ?_)
    have hz := hq.trans hz
    obtain ⟨σ2, e2⟩ : ∃ υ0 : gS, υ0 = gup σ1 t (gO 3 [.ref (t + 1), .int (nI n), .int (nI (a + 1)), .int ((soI ((sgI f n a)))), .int ld, .int ti]) := ⟨_, rfl⟩
    have hP : gH D ka σ2 H := by rw [e2]; exact hP
    have hL : gL lo σ2 := by rw [e2]; exact hL
    have hTx : TxAt σ2 t f n (a + 1) ((soI ((sgI f n a)))) ld ti := by rw [e2]; exact hTx.p2 (a + 1)
    have hag := hag.upe e2 (zo_0 (by decide))
    refine lv_aload_n hx hb dX3_readItem_34 rfl (lv_at hl 0 rfl) ?_
    refine lv_iconst (v := (nI 2)) hx hb dX3_readItem_35 (by decide) ?_
    refine g_put (C := RX3) (T := TX3) (N := 6) hx hb hts hown hK hP hL hS hTx.c0 nX3_readItem_X3 tyX3 tyX3_ok nmX3 rfl 4 (by decide) (by decide +kernel) rfl rfl (v := .int (nI 2)) rfl rfl (Nat.le_of_ble_eq_true rfl) dX3_readItem_36 (fun H locs hq hP hL hS => ?_)
    have hz := hq.trans hz
    obtain ⟨σ3, e3⟩ : ∃ υ0 : gS, υ0 = gup σ2 t (gO 3 [.ref (t + 1), .int (nI n), .int (nI (a + 1)), .int ((soI ((sgI f n a)))), .int (nI 2), .int ti]) := ⟨_, rfl⟩
    have hP : gH D ka σ3 H := by rw [e3]; exact hP
    have hL : gL lo σ3 := by rw [e3]; exact hL
    have hTx : TxAt σ3 t f n (a + 1) ((soI ((sgI f n a)))) ((nI 2)) ti := by rw [e3]; exact hTx.p4 ((nI 2))
    have hag := hag.upe e3 (zo_0 (by decide))
    refine lv_aload_n hx hb dX3_readItem_39 rfl (lv_at hl 0 rfl) ?_
    refine lv_aload_n hx hb dX3_readItem_40 rfl (lv_at hl 0 rfl) ?_
    refine g_get (C := RX3) (T := TX3) (N := 6) hx hb hts hown hK hP hTx.c0 nX3_readItem_X3 rfl 2 (by decide) (by decide +kernel) rfl (v := .int (nI (a + 1))) rfl dX3_readItem_41 ?_
    refine g_runV (As := [.int (nI (a + 1))]) (rest := []) (own := RX3) (C := RX3) (T := TX3) (N := 6) 1 hx hb hml hown hts hK hz hP hL hS hlo hl.1 (c_X3_digitAt l t f n (a + 1) ((soI ((sgI f n a)))) ((nI 2)) ti (a + 1) σ3 sz hTx (by omega) (by omega)) gX3_readItem_X3_digitAt rfl rfl rfl (by decide +kernel) ⟨Nat.le_of_ble_eq_true rfl, Nat.le_of_ble_eq_true rfl⟩ hTx.c0 rfl rfl rfl (Nat.le_of_ble_eq_true rfl) dX3_readItem_44 ⟨Nat.le_of_ble_eq_true rfl, Nat.le_of_ble_eq_true rfl⟩ (g_ki0 (fun H locs hz hP hL hS => ?_))
    rcases hd : dgN f n (a + 1) with _ | hd0
    · refine g_top (y := (-1)) rfl ?_
      refine lv_istore_n (lv' := [(1, .int (-1)), (0, .ref t)]) hx hb dX3_readItem_47 rfl hl (by decide) rfl (fun ls hl => ?_)
      refine lv_aload_n hx hb dX3_readItem_48 rfl (lv_at hl 1 rfl) ?_
      refine g_get (C := RX3) (T := TX3) (N := 6) hx hb hts hown hK hP hTx.c0 nX3_readItem_X3 rfl 3 (by decide) (by decide +kernel) rfl (v := .int ((soI ((sgI f n a))))) rfl dX3_readItem_49 ?_
      refine lv_if_eq (tgt := 79) hx hb dX3_readItem_52 (by decide) (fun c52 => ?_) (fun c52 => ?_)
      · have hso : ¬ soI (sgI f n a) < 0 := fun q => absurd c19 (Int32.not_le.mpr q)
        have hlf : loF f n (a + 1) (soI (sgI f n a)) = (nI 2, a + 1) := by rw [loF, if_pos c52]
        refine lv_aload_n hx hb dX3_readItem_79 rfl (lv_at hl 1 rfl) ?_
        refine lv_iconst (v := (nI 1)) hx hb dX3_readItem_80 (by decide) ?_
        refine g_put (C := RX3) (T := TX3) (N := 6) hx hb hts hown hK hP hL hS hTx.c0 nX3_readItem_X3 tyX3 tyX3_ok nmX3 rfl 5 (by decide) (by decide +kernel) rfl rfl (v := .int (nI 1)) rfl rfl (Nat.le_of_ble_eq_true rfl) dX3_readItem_81 (fun H locs hq hP hL hS => ?_)
        have hz := hq.trans hz
        obtain ⟨σ4, e4⟩ : ∃ υ0 : gS, υ0 = gup σ3 t (gO 3 [.ref (t + 1), .int (nI n), .int (nI (a + 1)), .int ((soI ((sgI f n a)))), .int ((nI 2)), .int (nI 1)]) := ⟨_, rfl⟩
        have hP : gH D ka σ4 H := by rw [e4]; exact hP
        have hL : gL lo σ4 := by rw [e4]; exact hL
        have hTx : TxAt σ4 t f n (a + 1) ((soI ((sgI f n a)))) ((nI 2)) ((nI 1)) := by rw [e4]; exact hTx.p5 ((nI 1))
        have hag := hag.upe e4 (zo_0 (by decide))
        refine lv_aload_n hx hb dX3_readItem_84 rfl (lv_at hl 1 rfl) ?_
        refine lv_aload_n hx hb dX3_readItem_85 rfl (lv_at hl 1 rfl) ?_
        refine g_get (C := RX3) (T := TX3) (N := 6) hx hb hts hown hK hP hTx.c0 nX3_readItem_X3 rfl 2 (by decide) (by decide +kernel) rfl (v := .int (nI (a + 1))) rfl dX3_readItem_86 ?_
        refine g_runV (As := [.int (nI (a + 1))]) (rest := []) (own := RX3) (C := RX3) (T := TX3) (N := 6) 1 hx hb hml hown hts hK hz hP hL hS hlo hl.1 (c_X3_signAt l t f n (a + 1) ((soI ((sgI f n a)))) ((nI 2)) ((nI 1)) (a + 1) σ4 sz hTx (by omega) (by omega)) gX3_readItem_X3_signAt rfl rfl rfl (by decide +kernel) ⟨Nat.le_of_ble_eq_true rfl, Nat.le_of_ble_eq_true rfl⟩ hTx.c0 rfl rfl rfl (Nat.le_of_ble_eq_true rfl) dX3_readItem_89 ⟨Nat.le_of_ble_eq_true rfl, Nat.le_of_ble_eq_true rfl⟩ (g_ki0 (fun H locs hz hP hL hS => ?_))
        refine lv_bipush (v := (nI 120)) hx hb dX3_readItem_92 (by decide) ?_
        refine lv_icmp_eq (tgt := 99) hx hb dX3_readItem_94 (by decide) (fun c94 => ?_) (fun c94 => ?_)
        · refine lv_aload_n hx hb dX3_readItem_99 rfl (lv_at hl 1 rfl) ?_
          refine lv_dup hx hb dX3_readItem_100 rfl ?_
          refine g_get (C := RX3) (T := TX3) (N := 6) hx hb hts hown hK hP hTx.c0 nX3_readItem_X3 rfl 2 (by decide) (by decide +kernel) rfl (v := .int (nI (a + 1))) rfl dX3_readItem_101 ?_
          refine lv_iconst (v := (nI 1)) hx hb dX3_readItem_104 (by decide) ?_
          refine lv_iadd hx hb dX3_readItem_105 ?_
          refine g_top (nI_add (a + 1) 1) ?_
          refine g_put (C := RX3) (T := TX3) (N := 6) hx hb hts hown hK hP hL hS hTx.c0 nX3_readItem_X3 tyX3 tyX3_ok nmX3 rfl 2 (by decide) (by decide +kernel) rfl rfl (v := .int (nI ((a + 1) + 1))) rfl rfl (Nat.le_of_ble_eq_true rfl) dX3_readItem_106 (fun H locs hq hP hL hS => ?_)
          have hz := hq.trans hz
          obtain ⟨σ5, e5⟩ : ∃ υ0 : gS, υ0 = gup σ4 t (gO 3 [.ref (t + 1), .int (nI n), .int (nI ((a + 1) + 1)), .int ((soI ((sgI f n a)))), .int ((nI 2)), .int ((nI 1))]) := ⟨_, rfl⟩
          have hP : gH D ka σ5 H := by rw [e5]; exact hP
          have hL : gL lo σ5 := by rw [e5]; exact hL
          have hTx : TxAt σ5 t f n ((a + 1) + 1) ((soI ((sgI f n a)))) ((nI 2)) ((nI 1)) := by rw [e5]; exact hTx.p2 ((a + 1) + 1)
          have hag := hag.upe e5 (zo_0 (by decide))
          refine lv_aload_n hx hb dX3_readItem_109 rfl (lv_at hl 1 rfl) ?_
          refine g_runV (As := []) (rest := []) (own := RX3) (C := RX3) (T := TX3) (N := 6) 0 hx hb hml hown hts hK hz hP hL hS hlo hl.1 (c_X3_readTimes l t f n ((a + 1) + 1) ((soI ((sgI f n a)))) ((nI 2)) ((nI 1)) σ5 sz hTx (by omega) (by omega)) gX3_readItem_X3_readTimes rfl rfl rfl (by decide +kernel) ⟨Nat.le_of_ble_eq_true rfl, Nat.le_of_ble_eq_true rfl⟩ hTx.c0 rfl rfl rfl (Nat.le_of_ble_eq_true rfl) dX3_readItem_110 ⟨Nat.le_of_ble_eq_true rfl, Nat.le_of_ble_eq_true rfl⟩ (g_kxi0 (fun r_6 τ_6 H locs z1 hz hp hP hL hS => ?_))
          obtain ⟨hr_6, hz1, ti_6, hn_6, ht_6, ha_6⟩ := hp
          have hz := hz.trans hz1
          have hTx := hn_6
          have hag := hag.tr ha_6 (fun q h => by have h1 := h.1; have h2 := h.2; exact ⟨by omega, by omega⟩)
          subst hr_6
          exact g_zret (z := sz) hx hb hr hlk hz hP hL hS (bI_n _) dX3_readItem_113 (gxi_i ⟨by rw [itF, if_neg hso, hlf, if_pos c94], rfl, _, _, _, (by rw [itF, if_neg hso, hlf, if_pos c94]; exact hTx), (fun q => by rw [itF, if_neg hso, hlf, if_pos c94] at q ⊢; exact ⟨rfl, rfl, ht_6 q⟩), hag⟩)
        · refine lv_iconst (v := (nI 1)) hx hb dX3_readItem_97 (by decide) ?_
          exact g_zret (z := sz) hx hb hr hlk hz hP hL hS rfl dX3_readItem_98 (gxi_i ⟨by rw [itF, if_neg hso, hlf, if_neg c94]; rfl, rfl, _, _, _, (by rw [itF, if_neg hso, hlf, if_neg c94]; exact hTx), (fun q => by rw [itF, if_neg hso, hlf, if_neg c94]; exact ⟨rfl, rfl, rfl⟩), hag⟩)
      · refine lv_iload_n hx hb dX3_readItem_55 rfl (lv_at hl 0 rfl) ?_
        refine lv_iconst (v := (nI 1)) hx hb dX3_readItem_56 (by decide) ?_
        refine lv_iconst (v := (nI 5)) hx hb dX3_readItem_57 (by decide) ?_
        refine g_runSN (As := [.int (-1), .int (nI 1), .int (nI 5)]) (rest := []) (own := RX3) 3 hx hb hml hown hts hK hz hP hL hS hlo hl.1 (c_X7_isWithin l ((-1)) ((nI 1)) ((nI 5)) σ3 sz) gX3_readItem_X7_isWithin_n60 rfl rfl rfl (by decide +kernel) (by decide +kernel) (by decide +kernel) (by decide +kernel) ⟨Nat.le_of_ble_eq_true rfl, Nat.le_of_ble_eq_true rfl⟩ rfl rfl (Nat.le_of_ble_eq_true rfl) dX3_readItem_58 ⟨Nat.le_of_ble_eq_true rfl, Nat.le_of_ble_eq_true rfl⟩ (g_ki0 (fun H locs hz hP hL hS => ?_))
        refine g_ifb_eq (tgt := 79) hx hb dX3_readItem_61 (by decide) (fun c61 => ?_) (fun c61 => ?_)
        · have hso : ¬ soI (sgI f n a) < 0 := fun q => absurd c19 (Int32.not_le.mpr q)
          have hlf : loF f n (a + 1) (soI (sgI f n a)) = (nI 2, a + 1) := by rw [loF, if_neg c52, hd]
          refine lv_aload_n hx hb dX3_readItem_79 rfl (lv_at hl 1 rfl) ?_
          refine lv_iconst (v := (nI 1)) hx hb dX3_readItem_80 (by decide) ?_
          refine g_put (C := RX3) (T := TX3) (N := 6) hx hb hts hown hK hP hL hS hTx.c0 nX3_readItem_X3 tyX3 tyX3_ok nmX3 rfl 5 (by decide) (by decide +kernel) rfl rfl (v := .int (nI 1)) rfl rfl (Nat.le_of_ble_eq_true rfl) dX3_readItem_81 (fun H locs hq hP hL hS => ?_)
          have hz := hq.trans hz
          obtain ⟨σ7, e7⟩ : ∃ υ0 : gS, υ0 = gup σ3 t (gO 3 [.ref (t + 1), .int (nI n), .int (nI (a + 1)), .int ((soI ((sgI f n a)))), .int ((nI 2)), .int (nI 1)]) := ⟨_, rfl⟩
          have hP : gH D ka σ7 H := by rw [e7]; exact hP
          have hL : gL lo σ7 := by rw [e7]; exact hL
          have hTx : TxAt σ7 t f n (a + 1) ((soI ((sgI f n a)))) ((nI 2)) ((nI 1)) := by rw [e7]; exact hTx.p5 ((nI 1))
          have hag := hag.upe e7 (zo_0 (by decide))
          refine lv_aload_n hx hb dX3_readItem_84 rfl (lv_at hl 1 rfl) ?_
          refine lv_aload_n hx hb dX3_readItem_85 rfl (lv_at hl 1 rfl) ?_
          refine g_get (C := RX3) (T := TX3) (N := 6) hx hb hts hown hK hP hTx.c0 nX3_readItem_X3 rfl 2 (by decide) (by decide +kernel) rfl (v := .int (nI (a + 1))) rfl dX3_readItem_86 ?_
          refine g_runV (As := [.int (nI (a + 1))]) (rest := []) (own := RX3) (C := RX3) (T := TX3) (N := 6) 1 hx hb hml hown hts hK hz hP hL hS hlo hl.1 (c_X3_signAt l t f n (a + 1) ((soI ((sgI f n a)))) ((nI 2)) ((nI 1)) (a + 1) σ7 sz hTx (by omega) (by omega)) gX3_readItem_X3_signAt rfl rfl rfl (by decide +kernel) ⟨Nat.le_of_ble_eq_true rfl, Nat.le_of_ble_eq_true rfl⟩ hTx.c0 rfl rfl rfl (Nat.le_of_ble_eq_true rfl) dX3_readItem_89 ⟨Nat.le_of_ble_eq_true rfl, Nat.le_of_ble_eq_true rfl⟩ (g_ki0 (fun H locs hz hP hL hS => ?_))
          refine lv_bipush (v := (nI 120)) hx hb dX3_readItem_92 (by decide) ?_
          refine lv_icmp_eq (tgt := 99) hx hb dX3_readItem_94 (by decide) (fun c94 => ?_) (fun c94 => ?_)
          · refine lv_aload_n hx hb dX3_readItem_99 rfl (lv_at hl 1 rfl) ?_
            refine lv_dup hx hb dX3_readItem_100 rfl ?_
            refine g_get (C := RX3) (T := TX3) (N := 6) hx hb hts hown hK hP hTx.c0 nX3_readItem_X3 rfl 2 (by decide) (by decide +kernel) rfl (v := .int (nI (a + 1))) rfl dX3_readItem_101 ?_
            refine lv_iconst (v := (nI 1)) hx hb dX3_readItem_104 (by decide) ?_
            refine lv_iadd hx hb dX3_readItem_105 ?_
            refine g_top (nI_add (a + 1) 1) ?_
            refine g_put (C := RX3) (T := TX3) (N := 6) hx hb hts hown hK hP hL hS hTx.c0 nX3_readItem_X3 tyX3 tyX3_ok nmX3 rfl 2 (by decide) (by decide +kernel) rfl rfl (v := .int (nI ((a + 1) + 1))) rfl rfl (Nat.le_of_ble_eq_true rfl) dX3_readItem_106 (fun H locs hq hP hL hS => ?_)
            have hz := hq.trans hz
            obtain ⟨σ8, e8⟩ : ∃ υ0 : gS, υ0 = gup σ7 t (gO 3 [.ref (t + 1), .int (nI n), .int (nI ((a + 1) + 1)), .int ((soI ((sgI f n a)))), .int ((nI 2)), .int ((nI 1))]) := ⟨_, rfl⟩
            have hP : gH D ka σ8 H := by rw [e8]; exact hP
            have hL : gL lo σ8 := by rw [e8]; exact hL
            have hTx : TxAt σ8 t f n ((a + 1) + 1) ((soI ((sgI f n a)))) ((nI 2)) ((nI 1)) := by rw [e8]; exact hTx.p2 ((a + 1) + 1)
            have hag := hag.upe e8 (zo_0 (by decide))
            refine lv_aload_n hx hb dX3_readItem_109 rfl (lv_at hl 1 rfl) ?_
            refine g_runV (As := []) (rest := []) (own := RX3) (C := RX3) (T := TX3) (N := 6) 0 hx hb hml hown hts hK hz hP hL hS hlo hl.1 (c_X3_readTimes l t f n ((a + 1) + 1) ((soI ((sgI f n a)))) ((nI 2)) ((nI 1)) σ8 sz hTx (by omega) (by omega)) gX3_readItem_X3_readTimes rfl rfl rfl (by decide +kernel) ⟨Nat.le_of_ble_eq_true rfl, Nat.le_of_ble_eq_true rfl⟩ hTx.c0 rfl rfl rfl (Nat.le_of_ble_eq_true rfl) dX3_readItem_110 ⟨Nat.le_of_ble_eq_true rfl, Nat.le_of_ble_eq_true rfl⟩ (g_kxi0 (fun r_9 τ_9 H locs z1 hz hp hP hL hS => ?_))
            obtain ⟨hr_9, hz1, ti_9, hn_9, ht_9, ha_9⟩ := hp
            have hz := hz.trans hz1
            have hTx := hn_9
            have hag := hag.tr ha_9 (fun q h => by have h1 := h.1; have h2 := h.2; exact ⟨by omega, by omega⟩)
            subst hr_9
            exact g_zret (z := sz) hx hb hr hlk hz hP hL hS (bI_n _) dX3_readItem_113 (gxi_i ⟨by rw [itF, if_neg hso, hlf, if_pos c94], rfl, _, _, _, (by rw [itF, if_neg hso, hlf, if_pos c94]; exact hTx), (fun q => by rw [itF, if_neg hso, hlf, if_pos c94] at q ⊢; exact ⟨rfl, rfl, ht_9 q⟩), hag⟩)
          · refine lv_iconst (v := (nI 1)) hx hb dX3_readItem_97 (by decide) ?_
            exact g_zret (z := sz) hx hb hr hlk hz hP hL hS rfl dX3_readItem_98 (gxi_i ⟨by rw [itF, if_neg hso, hlf, if_neg c94]; rfl, rfl, _, _, _, (by rw [itF, if_neg hso, hlf, if_neg c94]; exact hTx), (fun q => by rw [itF, if_neg hso, hlf, if_neg c94]; exact ⟨rfl, rfl, rfl⟩), hag⟩)
        · exact absurd c61 (by decide)
    · refine g_top (y := (nI hd0)) rfl ?_
      have hd9 := (dgN_le hd).1
      refine lv_istore_n (lv' := [(1, .int (nI hd0)), (0, .ref t)]) hx hb dX3_readItem_47 rfl hl (by decide) rfl (fun ls hl => ?_)
      refine lv_aload_n hx hb dX3_readItem_48 rfl (lv_at hl 1 rfl) ?_
      refine g_get (C := RX3) (T := TX3) (N := 6) hx hb hts hown hK hP hTx.c0 nX3_readItem_X3 rfl 3 (by decide) (by decide +kernel) rfl (v := .int ((soI ((sgI f n a))))) rfl dX3_readItem_49 ?_
      refine lv_if_eq (tgt := 79) hx hb dX3_readItem_52 (by decide) (fun c52 => ?_) (fun c52 => ?_)
      · have hso : ¬ soI (sgI f n a) < 0 := fun q => absurd c19 (Int32.not_le.mpr q)
        have hlf : loF f n (a + 1) (soI (sgI f n a)) = (nI 2, a + 1) := by rw [loF, if_pos c52]
        refine lv_aload_n hx hb dX3_readItem_79 rfl (lv_at hl 1 rfl) ?_
        refine lv_iconst (v := (nI 1)) hx hb dX3_readItem_80 (by decide) ?_
        refine g_put (C := RX3) (T := TX3) (N := 6) hx hb hts hown hK hP hL hS hTx.c0 nX3_readItem_X3 tyX3 tyX3_ok nmX3 rfl 5 (by decide) (by decide +kernel) rfl rfl (v := .int (nI 1)) rfl rfl (Nat.le_of_ble_eq_true rfl) dX3_readItem_81 (fun H locs hq hP hL hS => ?_)
        have hz := hq.trans hz
        obtain ⟨σ10, e10⟩ : ∃ υ0 : gS, υ0 = gup σ3 t (gO 3 [.ref (t + 1), .int (nI n), .int (nI (a + 1)), .int ((soI ((sgI f n a)))), .int ((nI 2)), .int (nI 1)]) := ⟨_, rfl⟩
        have hP : gH D ka σ10 H := by rw [e10]; exact hP
        have hL : gL lo σ10 := by rw [e10]; exact hL
        have hTx : TxAt σ10 t f n (a + 1) ((soI ((sgI f n a)))) ((nI 2)) ((nI 1)) := by rw [e10]; exact hTx.p5 ((nI 1))
        have hag := hag.upe e10 (zo_0 (by decide))
        refine lv_aload_n hx hb dX3_readItem_84 rfl (lv_at hl 1 rfl) ?_
        refine lv_aload_n hx hb dX3_readItem_85 rfl (lv_at hl 1 rfl) ?_
        refine g_get (C := RX3) (T := TX3) (N := 6) hx hb hts hown hK hP hTx.c0 nX3_readItem_X3 rfl 2 (by decide) (by decide +kernel) rfl (v := .int (nI (a + 1))) rfl dX3_readItem_86 ?_
        refine g_runV (As := [.int (nI (a + 1))]) (rest := []) (own := RX3) (C := RX3) (T := TX3) (N := 6) 1 hx hb hml hown hts hK hz hP hL hS hlo hl.1 (c_X3_signAt l t f n (a + 1) ((soI ((sgI f n a)))) ((nI 2)) ((nI 1)) (a + 1) σ10 sz hTx (by omega) (by omega)) gX3_readItem_X3_signAt rfl rfl rfl (by decide +kernel) ⟨Nat.le_of_ble_eq_true rfl, Nat.le_of_ble_eq_true rfl⟩ hTx.c0 rfl rfl rfl (Nat.le_of_ble_eq_true rfl) dX3_readItem_89 ⟨Nat.le_of_ble_eq_true rfl, Nat.le_of_ble_eq_true rfl⟩ (g_ki0 (fun H locs hz hP hL hS => ?_))
        refine lv_bipush (v := (nI 120)) hx hb dX3_readItem_92 (by decide) ?_
        refine lv_icmp_eq (tgt := 99) hx hb dX3_readItem_94 (by decide) (fun c94 => ?_) (fun c94 => ?_)
        · refine lv_aload_n hx hb dX3_readItem_99 rfl (lv_at hl 1 rfl) ?_
          refine lv_dup hx hb dX3_readItem_100 rfl ?_
          refine g_get (C := RX3) (T := TX3) (N := 6) hx hb hts hown hK hP hTx.c0 nX3_readItem_X3 rfl 2 (by decide) (by decide +kernel) rfl (v := .int (nI (a + 1))) rfl dX3_readItem_101 ?_
          refine lv_iconst (v := (nI 1)) hx hb dX3_readItem_104 (by decide) ?_
          refine lv_iadd hx hb dX3_readItem_105 ?_
          refine g_top (nI_add (a + 1) 1) ?_
          refine g_put (C := RX3) (T := TX3) (N := 6) hx hb hts hown hK hP hL hS hTx.c0 nX3_readItem_X3 tyX3 tyX3_ok nmX3 rfl 2 (by decide) (by decide +kernel) rfl rfl (v := .int (nI ((a + 1) + 1))) rfl rfl (Nat.le_of_ble_eq_true rfl) dX3_readItem_106 (fun H locs hq hP hL hS => ?_)
          have hz := hq.trans hz
          obtain ⟨σ11, e11⟩ : ∃ υ0 : gS, υ0 = gup σ10 t (gO 3 [.ref (t + 1), .int (nI n), .int (nI ((a + 1) + 1)), .int ((soI ((sgI f n a)))), .int ((nI 2)), .int ((nI 1))]) := ⟨_, rfl⟩
          have hP : gH D ka σ11 H := by rw [e11]; exact hP
          have hL : gL lo σ11 := by rw [e11]; exact hL
          have hTx : TxAt σ11 t f n ((a + 1) + 1) ((soI ((sgI f n a)))) ((nI 2)) ((nI 1)) := by rw [e11]; exact hTx.p2 ((a + 1) + 1)
          have hag := hag.upe e11 (zo_0 (by decide))
          refine lv_aload_n hx hb dX3_readItem_109 rfl (lv_at hl 1 rfl) ?_
          refine g_runV (As := []) (rest := []) (own := RX3) (C := RX3) (T := TX3) (N := 6) 0 hx hb hml hown hts hK hz hP hL hS hlo hl.1 (c_X3_readTimes l t f n ((a + 1) + 1) ((soI ((sgI f n a)))) ((nI 2)) ((nI 1)) σ11 sz hTx (by omega) (by omega)) gX3_readItem_X3_readTimes rfl rfl rfl (by decide +kernel) ⟨Nat.le_of_ble_eq_true rfl, Nat.le_of_ble_eq_true rfl⟩ hTx.c0 rfl rfl rfl (Nat.le_of_ble_eq_true rfl) dX3_readItem_110 ⟨Nat.le_of_ble_eq_true rfl, Nat.le_of_ble_eq_true rfl⟩ (g_kxi0 (fun r_12 τ_12 H locs z1 hz hp hP hL hS => ?_))
          obtain ⟨hr_12, hz1, ti_12, hn_12, ht_12, ha_12⟩ := hp
          have hz := hz.trans hz1
          have hTx := hn_12
          have hag := hag.tr ha_12 (fun q h => by have h1 := h.1; have h2 := h.2; exact ⟨by omega, by omega⟩)
          subst hr_12
          exact g_zret (z := sz) hx hb hr hlk hz hP hL hS (bI_n _) dX3_readItem_113 (gxi_i ⟨by rw [itF, if_neg hso, hlf, if_pos c94], rfl, _, _, _, (by rw [itF, if_neg hso, hlf, if_pos c94]; exact hTx), (fun q => by rw [itF, if_neg hso, hlf, if_pos c94] at q ⊢; exact ⟨rfl, rfl, ht_12 q⟩), hag⟩)
        · refine lv_iconst (v := (nI 1)) hx hb dX3_readItem_97 (by decide) ?_
          exact g_zret (z := sz) hx hb hr hlk hz hP hL hS rfl dX3_readItem_98 (gxi_i ⟨by rw [itF, if_neg hso, hlf, if_neg c94]; rfl, rfl, _, _, _, (by rw [itF, if_neg hso, hlf, if_neg c94]; exact hTx), (fun q => by rw [itF, if_neg hso, hlf, if_neg c94]; exact ⟨rfl, rfl, rfl⟩), hag⟩)
      · refine lv_iload_n hx hb dX3_readItem_55 rfl (lv_at hl 0 rfl) ?_
        refine lv_iconst (v := (nI 1)) hx hb dX3_readItem_56 (by decide) ?_
        refine lv_iconst (v := (nI 5)) hx hb dX3_readItem_57 (by decide) ?_
        refine g_runSN (As := [.int (nI hd0), .int (nI 1), .int (nI 5)]) (rest := []) (own := RX3) 3 hx hb hml hown hts hK hz hP hL hS hlo hl.1 (c_X7_isWithin l ((nI hd0)) ((nI 1)) ((nI 5)) σ3 sz) gX3_readItem_X7_isWithin_n60 rfl rfl rfl (by decide +kernel) (by decide +kernel) (by decide +kernel) (by decide +kernel) ⟨Nat.le_of_ble_eq_true rfl, Nat.le_of_ble_eq_true rfl⟩ rfl rfl (Nat.le_of_ble_eq_true rfl) dX3_readItem_58 ⟨Nat.le_of_ble_eq_true rfl, Nat.le_of_ble_eq_true rfl⟩ (g_ki0 (fun H locs hz hP hL hS => ?_))
        refine g_ifb_eq (tgt := 79) hx hb dX3_readItem_61 (by decide) (fun c61 => ?_) (fun c61 => ?_)
        · have hso : ¬ soI (sgI f n a) < 0 := fun q => absurd c19 (Int32.not_le.mpr q)
          have hlf : loF f n (a + 1) (soI (sgI f n a)) = (nI 2, a + 1) := by rw [loF, if_neg c52, hd]; exact if_neg (by rw [c61]; decide)
          refine lv_aload_n hx hb dX3_readItem_79 rfl (lv_at hl 1 rfl) ?_
          refine lv_iconst (v := (nI 1)) hx hb dX3_readItem_80 (by decide) ?_
          refine g_put (C := RX3) (T := TX3) (N := 6) hx hb hts hown hK hP hL hS hTx.c0 nX3_readItem_X3 tyX3 tyX3_ok nmX3 rfl 5 (by decide) (by decide +kernel) rfl rfl (v := .int (nI 1)) rfl rfl (Nat.le_of_ble_eq_true rfl) dX3_readItem_81 (fun H locs hq hP hL hS => ?_)
          have hz := hq.trans hz
          obtain ⟨σ13, e13⟩ : ∃ υ0 : gS, υ0 = gup σ3 t (gO 3 [.ref (t + 1), .int (nI n), .int (nI (a + 1)), .int ((soI ((sgI f n a)))), .int ((nI 2)), .int (nI 1)]) := ⟨_, rfl⟩
          have hP : gH D ka σ13 H := by rw [e13]; exact hP
          have hL : gL lo σ13 := by rw [e13]; exact hL
          have hTx : TxAt σ13 t f n (a + 1) ((soI ((sgI f n a)))) ((nI 2)) ((nI 1)) := by rw [e13]; exact hTx.p5 ((nI 1))
          have hag := hag.upe e13 (zo_0 (by decide))
          refine lv_aload_n hx hb dX3_readItem_84 rfl (lv_at hl 1 rfl) ?_
          refine lv_aload_n hx hb dX3_readItem_85 rfl (lv_at hl 1 rfl) ?_
          refine g_get (C := RX3) (T := TX3) (N := 6) hx hb hts hown hK hP hTx.c0 nX3_readItem_X3 rfl 2 (by decide) (by decide +kernel) rfl (v := .int (nI (a + 1))) rfl dX3_readItem_86 ?_
          refine g_runV (As := [.int (nI (a + 1))]) (rest := []) (own := RX3) (C := RX3) (T := TX3) (N := 6) 1 hx hb hml hown hts hK hz hP hL hS hlo hl.1 (c_X3_signAt l t f n (a + 1) ((soI ((sgI f n a)))) ((nI 2)) ((nI 1)) (a + 1) σ13 sz hTx (by omega) (by omega)) gX3_readItem_X3_signAt rfl rfl rfl (by decide +kernel) ⟨Nat.le_of_ble_eq_true rfl, Nat.le_of_ble_eq_true rfl⟩ hTx.c0 rfl rfl rfl (Nat.le_of_ble_eq_true rfl) dX3_readItem_89 ⟨Nat.le_of_ble_eq_true rfl, Nat.le_of_ble_eq_true rfl⟩ (g_ki0 (fun H locs hz hP hL hS => ?_))
          refine lv_bipush (v := (nI 120)) hx hb dX3_readItem_92 (by decide) ?_
          refine lv_icmp_eq (tgt := 99) hx hb dX3_readItem_94 (by decide) (fun c94 => ?_) (fun c94 => ?_)
          · refine lv_aload_n hx hb dX3_readItem_99 rfl (lv_at hl 1 rfl) ?_
            refine lv_dup hx hb dX3_readItem_100 rfl ?_
            refine g_get (C := RX3) (T := TX3) (N := 6) hx hb hts hown hK hP hTx.c0 nX3_readItem_X3 rfl 2 (by decide) (by decide +kernel) rfl (v := .int (nI (a + 1))) rfl dX3_readItem_101 ?_
            refine lv_iconst (v := (nI 1)) hx hb dX3_readItem_104 (by decide) ?_
            refine lv_iadd hx hb dX3_readItem_105 ?_
            refine g_top (nI_add (a + 1) 1) ?_
            refine g_put (C := RX3) (T := TX3) (N := 6) hx hb hts hown hK hP hL hS hTx.c0 nX3_readItem_X3 tyX3 tyX3_ok nmX3 rfl 2 (by decide) (by decide +kernel) rfl rfl (v := .int (nI ((a + 1) + 1))) rfl rfl (Nat.le_of_ble_eq_true rfl) dX3_readItem_106 (fun H locs hq hP hL hS => ?_)
            have hz := hq.trans hz
            obtain ⟨σ14, e14⟩ : ∃ υ0 : gS, υ0 = gup σ13 t (gO 3 [.ref (t + 1), .int (nI n), .int (nI ((a + 1) + 1)), .int ((soI ((sgI f n a)))), .int ((nI 2)), .int ((nI 1))]) := ⟨_, rfl⟩
            have hP : gH D ka σ14 H := by rw [e14]; exact hP
            have hL : gL lo σ14 := by rw [e14]; exact hL
            have hTx : TxAt σ14 t f n ((a + 1) + 1) ((soI ((sgI f n a)))) ((nI 2)) ((nI 1)) := by rw [e14]; exact hTx.p2 ((a + 1) + 1)
            have hag := hag.upe e14 (zo_0 (by decide))
            refine lv_aload_n hx hb dX3_readItem_109 rfl (lv_at hl 1 rfl) ?_
            refine g_runV (As := []) (rest := []) (own := RX3) (C := RX3) (T := TX3) (N := 6) 0 hx hb hml hown hts hK hz hP hL hS hlo hl.1 (c_X3_readTimes l t f n ((a + 1) + 1) ((soI ((sgI f n a)))) ((nI 2)) ((nI 1)) σ14 sz hTx (by omega) (by omega)) gX3_readItem_X3_readTimes rfl rfl rfl (by decide +kernel) ⟨Nat.le_of_ble_eq_true rfl, Nat.le_of_ble_eq_true rfl⟩ hTx.c0 rfl rfl rfl (Nat.le_of_ble_eq_true rfl) dX3_readItem_110 ⟨Nat.le_of_ble_eq_true rfl, Nat.le_of_ble_eq_true rfl⟩ (g_kxi0 (fun r_15 τ_15 H locs z1 hz hp hP hL hS => ?_))
            obtain ⟨hr_15, hz1, ti_15, hn_15, ht_15, ha_15⟩ := hp
            have hz := hz.trans hz1
            have hTx := hn_15
            have hag := hag.tr ha_15 (fun q h => by have h1 := h.1; have h2 := h.2; exact ⟨by omega, by omega⟩)
            subst hr_15
            exact g_zret (z := sz) hx hb hr hlk hz hP hL hS (bI_n _) dX3_readItem_113 (gxi_i ⟨by rw [itF, if_neg hso, hlf, if_pos c94], rfl, _, _, _, (by rw [itF, if_neg hso, hlf, if_pos c94]; exact hTx), (fun q => by rw [itF, if_neg hso, hlf, if_pos c94] at q ⊢; exact ⟨rfl, rfl, ht_15 q⟩), hag⟩)
          · refine lv_iconst (v := (nI 1)) hx hb dX3_readItem_97 (by decide) ?_
            exact g_zret (z := sz) hx hb hr hlk hz hP hL hS rfl dX3_readItem_98 (gxi_i ⟨by rw [itF, if_neg hso, hlf, if_neg c94]; rfl, rfl, _, _, _, (by rw [itF, if_neg hso, hlf, if_neg c94]; exact hTx), (fun q => by rw [itF, if_neg hso, hlf, if_neg c94]; exact ⟨rfl, rfl, rfl⟩), hag⟩)
        · refine lv_aload_n hx hb dX3_readItem_64 rfl (lv_at hl 1 rfl) ?_
          refine lv_iload_n hx hb dX3_readItem_65 rfl (lv_at hl 0 rfl) ?_
          refine g_put (C := RX3) (T := TX3) (N := 6) hx hb hts hown hK hP hL hS hTx.c0 nX3_readItem_X3 tyX3 tyX3_ok nmX3 rfl 4 (by decide) (by decide +kernel) rfl rfl (v := .int (nI hd0)) rfl rfl (Nat.le_of_ble_eq_true rfl) dX3_readItem_66 (fun H locs hq hP hL hS => ?_)
          have hz := hq.trans hz
          obtain ⟨σ16, e16⟩ : ∃ υ0 : gS, υ0 = gup σ3 t (gO 3 [.ref (t + 1), .int (nI n), .int (nI (a + 1)), .int ((soI ((sgI f n a)))), .int (nI hd0), .int ti]) := ⟨_, rfl⟩
          have hP : gH D ka σ16 H := by rw [e16]; exact hP
          have hL : gL lo σ16 := by rw [e16]; exact hL
          have hTx : TxAt σ16 t f n (a + 1) ((soI ((sgI f n a)))) ((nI hd0)) ti := by rw [e16]; exact hTx.p4 ((nI hd0))
          have hag := hag.upe e16 (zo_0 (by decide))
          refine lv_aload_n hx hb dX3_readItem_69 rfl (lv_at hl 1 rfl) ?_
          refine lv_dup hx hb dX3_readItem_70 rfl ?_
          refine g_get (C := RX3) (T := TX3) (N := 6) hx hb hts hown hK hP hTx.c0 nX3_readItem_X3 rfl 2 (by decide) (by decide +kernel) rfl (v := .int (nI (a + 1))) rfl dX3_readItem_71 ?_
          refine lv_iconst (v := (nI 1)) hx hb dX3_readItem_74 (by decide) ?_
          refine lv_iadd hx hb dX3_readItem_75 ?_
          refine g_top (nI_add (a + 1) 1) ?_
          refine g_put (C := RX3) (T := TX3) (N := 6) hx hb hts hown hK hP hL hS hTx.c0 nX3_readItem_X3 tyX3 tyX3_ok nmX3 rfl 2 (by decide) (by decide +kernel) rfl rfl (v := .int (nI ((a + 1) + 1))) rfl rfl (Nat.le_of_ble_eq_true rfl) dX3_readItem_76 (fun H locs hq hP hL hS => ?_)
          have hz := hq.trans hz
          obtain ⟨σ17, e17⟩ : ∃ υ0 : gS, υ0 = gup σ16 t (gO 3 [.ref (t + 1), .int (nI n), .int (nI ((a + 1) + 1)), .int ((soI ((sgI f n a)))), .int ((nI hd0)), .int ti]) := ⟨_, rfl⟩
          have hP : gH D ka σ17 H := by rw [e17]; exact hP
          have hL : gL lo σ17 := by rw [e17]; exact hL
          have hTx : TxAt σ17 t f n ((a + 1) + 1) ((soI ((sgI f n a)))) ((nI hd0)) ti := by rw [e17]; exact hTx.p2 ((a + 1) + 1)
          have hag := hag.upe e17 (zo_0 (by decide))
          have hso : ¬ soI (sgI f n a) < 0 := fun q => absurd c19 (Int32.not_le.mpr q)
          have hlf : loF f n (a + 1) (soI (sgI f n a)) = (nI hd0, a + 1 + 1) := by rw [loF, if_neg c52, hd]; exact if_pos c61
          refine lv_aload_n hx hb dX3_readItem_79 rfl (lv_at hl 1 rfl) ?_
          refine lv_iconst (v := (nI 1)) hx hb dX3_readItem_80 (by decide) ?_
          refine g_put (C := RX3) (T := TX3) (N := 6) hx hb hts hown hK hP hL hS hTx.c0 nX3_readItem_X3 tyX3 tyX3_ok nmX3 rfl 5 (by decide) (by decide +kernel) rfl rfl (v := .int (nI 1)) rfl rfl (Nat.le_of_ble_eq_true rfl) dX3_readItem_81 (fun H locs hq hP hL hS => ?_)
          have hz := hq.trans hz
          obtain ⟨σ18, e18⟩ : ∃ υ0 : gS, υ0 = gup σ17 t (gO 3 [.ref (t + 1), .int (nI n), .int (nI ((a + 1) + 1)), .int ((soI ((sgI f n a)))), .int ((nI hd0)), .int (nI 1)]) := ⟨_, rfl⟩
          have hP : gH D ka σ18 H := by rw [e18]; exact hP
          have hL : gL lo σ18 := by rw [e18]; exact hL
          have hTx : TxAt σ18 t f n ((a + 1) + 1) ((soI ((sgI f n a)))) ((nI hd0)) ((nI 1)) := by rw [e18]; exact hTx.p5 ((nI 1))
          have hag := hag.upe e18 (zo_0 (by decide))
          refine lv_aload_n hx hb dX3_readItem_84 rfl (lv_at hl 1 rfl) ?_
          refine lv_aload_n hx hb dX3_readItem_85 rfl (lv_at hl 1 rfl) ?_
          refine g_get (C := RX3) (T := TX3) (N := 6) hx hb hts hown hK hP hTx.c0 nX3_readItem_X3 rfl 2 (by decide) (by decide +kernel) rfl (v := .int (nI ((a + 1) + 1))) rfl dX3_readItem_86 ?_
          refine g_runV (As := [.int (nI ((a + 1) + 1))]) (rest := []) (own := RX3) (C := RX3) (T := TX3) (N := 6) 1 hx hb hml hown hts hK hz hP hL hS hlo hl.1 (c_X3_signAt l t f n ((a + 1) + 1) ((soI ((sgI f n a)))) ((nI hd0)) ((nI 1)) ((a + 1) + 1) σ18 sz hTx (by omega) (by omega)) gX3_readItem_X3_signAt rfl rfl rfl (by decide +kernel) ⟨Nat.le_of_ble_eq_true rfl, Nat.le_of_ble_eq_true rfl⟩ hTx.c0 rfl rfl rfl (Nat.le_of_ble_eq_true rfl) dX3_readItem_89 ⟨Nat.le_of_ble_eq_true rfl, Nat.le_of_ble_eq_true rfl⟩ (g_ki0 (fun H locs hz hP hL hS => ?_))
          refine lv_bipush (v := (nI 120)) hx hb dX3_readItem_92 (by decide) ?_
          refine lv_icmp_eq (tgt := 99) hx hb dX3_readItem_94 (by decide) (fun c94 => ?_) (fun c94 => ?_)
          · refine lv_aload_n hx hb dX3_readItem_99 rfl (lv_at hl 1 rfl) ?_
            refine lv_dup hx hb dX3_readItem_100 rfl ?_
            refine g_get (C := RX3) (T := TX3) (N := 6) hx hb hts hown hK hP hTx.c0 nX3_readItem_X3 rfl 2 (by decide) (by decide +kernel) rfl (v := .int (nI ((a + 1) + 1))) rfl dX3_readItem_101 ?_
            refine lv_iconst (v := (nI 1)) hx hb dX3_readItem_104 (by decide) ?_
            refine lv_iadd hx hb dX3_readItem_105 ?_
            refine g_top (nI_add ((a + 1) + 1) 1) ?_
            refine g_put (C := RX3) (T := TX3) (N := 6) hx hb hts hown hK hP hL hS hTx.c0 nX3_readItem_X3 tyX3 tyX3_ok nmX3 rfl 2 (by decide) (by decide +kernel) rfl rfl (v := .int (nI (((a + 1) + 1) + 1))) rfl rfl (Nat.le_of_ble_eq_true rfl) dX3_readItem_106 (fun H locs hq hP hL hS => ?_)
            have hz := hq.trans hz
            obtain ⟨σ19, e19⟩ : ∃ υ0 : gS, υ0 = gup σ18 t (gO 3 [.ref (t + 1), .int (nI n), .int (nI (((a + 1) + 1) + 1)), .int ((soI ((sgI f n a)))), .int ((nI hd0)), .int ((nI 1))]) := ⟨_, rfl⟩
            have hP : gH D ka σ19 H := by rw [e19]; exact hP
            have hL : gL lo σ19 := by rw [e19]; exact hL
            have hTx : TxAt σ19 t f n (((a + 1) + 1) + 1) ((soI ((sgI f n a)))) ((nI hd0)) ((nI 1)) := by rw [e19]; exact hTx.p2 (((a + 1) + 1) + 1)
            have hag := hag.upe e19 (zo_0 (by decide))
            refine lv_aload_n hx hb dX3_readItem_109 rfl (lv_at hl 1 rfl) ?_
            refine g_runV (As := []) (rest := []) (own := RX3) (C := RX3) (T := TX3) (N := 6) 0 hx hb hml hown hts hK hz hP hL hS hlo hl.1 (c_X3_readTimes l t f n (((a + 1) + 1) + 1) ((soI ((sgI f n a)))) ((nI hd0)) ((nI 1)) σ19 sz hTx (by omega) (by omega)) gX3_readItem_X3_readTimes rfl rfl rfl (by decide +kernel) ⟨Nat.le_of_ble_eq_true rfl, Nat.le_of_ble_eq_true rfl⟩ hTx.c0 rfl rfl rfl (Nat.le_of_ble_eq_true rfl) dX3_readItem_110 ⟨Nat.le_of_ble_eq_true rfl, Nat.le_of_ble_eq_true rfl⟩ (g_kxi0 (fun r_20 τ_20 H locs z1 hz hp hP hL hS => ?_))
            obtain ⟨hr_20, hz1, ti_20, hn_20, ht_20, ha_20⟩ := hp
            have hz := hz.trans hz1
            have hTx := hn_20
            have hag := hag.tr ha_20 (fun q h => by have h1 := h.1; have h2 := h.2; exact ⟨by omega, by omega⟩)
            subst hr_20
            exact g_zret (z := sz) hx hb hr hlk hz hP hL hS (bI_n _) dX3_readItem_113 (gxi_i ⟨by rw [itF, if_neg hso, hlf, if_pos c94], rfl, _, _, _, (by rw [itF, if_neg hso, hlf, if_pos c94]; exact hTx), (fun q => by rw [itF, if_neg hso, hlf, if_pos c94] at q ⊢; exact ⟨rfl, rfl, ht_20 q⟩), hag⟩)
          · refine lv_iconst (v := (nI 1)) hx hb dX3_readItem_97 (by decide) ?_
            exact g_zret (z := sz) hx hb hr hlk hz hP hL hS rfl dX3_readItem_98 (gxi_i ⟨by rw [itF, if_neg hso, hlf, if_neg c94]; rfl, rfl, _, _, _, (by rw [itF, if_neg hso, hlf, if_neg c94]; exact hTx), (fun q => by rw [itF, if_neg hso, hlf, if_neg c94]; exact ⟨rfl, rfl, rfl⟩), hag⟩)
  · refine lv_iconst (v := (nI 0)) hx hb dX3_readItem_22 (by decide) ?_
    exact g_zret (z := sz) hx hb hr hlk hz hP hL hS rfl dX3_readItem_23 (gxi_i ⟨by rw [itF, if_pos (Int32.not_le.mp c19)]; rfl, rfl, _, _, _, (by rw [itF, if_pos (Int32.not_le.mp c19)]; exact hTx), (fun q => by rw [itF, if_pos (Int32.not_le.mp c19)] at q; cases q), hag⟩)
