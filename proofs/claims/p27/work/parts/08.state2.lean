/-! what the writing methods of State make of it -/
def s0S : sS := fun j k => if j = 8 ∧ k = 4 then nI 2 else 0
theorem StAt.of0 {σ : gS} {x : Nat} {a : Nat → Int32} (h0 : σ x = gO 4 [.int 0, .int 0, .int 0, .int 0, .int (nI 2), .ref (x + 1), .ref (x + 3), .ref (x + 5), .ref (x + 7), .ref (x + 9), .ref (x + 11), .ref (x + 13), .ref (x + 15)]) (ha : a = fun _ => 0)
    (r1 : σ (x + 1) = gO 2 [.ref (x + 2)]) (a1 : σ (x + 2) = gI 96 a) (r2 : σ (x + 3) = gO 2 [.ref (x + 4)]) (a2 : σ (x + 4) = gI 96 a) (r3 : σ (x + 5) = gO 2 [.ref (x + 6)]) (a3 : σ (x + 6) = gI 96 a) (r4 : σ (x + 7) = gO 2 [.ref (x + 8)]) (a4 : σ (x + 8) = gI 12 a) (r5 : σ (x + 9) = gO 2 [.ref (x + 10)]) (a5 : σ (x + 10) = gI 12 a) (r6 : σ (x + 11) = gO 2 [.ref (x + 12)]) (a6 : σ (x + 12) = gI 8 a) (r7 : σ (x + 13) = gO 2 [.ref (x + 14)]) (a7 : σ (x + 14) = gI 8 a) (r8 : σ (x + 15) = gO 2 [.ref (x + 16)]) (a8 : σ (x + 16) = gI 8 a) : StAt σ x s0S := by
  subst ha
  have e : ∀ j, j < 8 → (fun _ => 0 : Nat → Int32) = s0S j := fun j hj => by
    funext k
    simp only [s0S]
    rw [if_neg (by omega)]
  have b0 : nI (sB s0S) = 0 := by decide
  have b1 : nI (sN s0S) = 0 := by decide
  have b2 : s0S 8 2 = 0 := by decide
  have b3 : nI (sK s0S) = 0 := by decide
  have b4 : nI (sR s0S) = nI 2 := by decide
  exact ⟨by rw [b0, b1, b2, b3, b4]; exact h0, r1, by rw [← e 0 (by decide)]; exact a1, r2, by rw [← e 1 (by decide)]; exact a2, r3, by rw [← e 2 (by decide)]; exact a3, r4, by rw [← e 3 (by decide)]; exact a4, r5, by rw [← e 4 (by decide)]; exact a5, r6, by rw [← e 5 (by decide)]; exact a6, r7, by rw [← e 6 (by decide)]; exact a7, r8, by rw [← e 7 (by decide)]; exact a8⟩
theorem StAt.congr {σ : gS} {x : Nat} {S S' : sS} (h : StAt σ x S) (hr : ∀ j, j < 8 → S j = S' j) (h0 : sB S = sB S') (h1 : sN S = sN S') (h2 : S 8 2 = S' 8 2) (h3 : sK S = sK S') (h4 : sR S = sR S') : StAt σ x S' :=
  ⟨by rw [← h0, ← h1, ← h2, ← h3, ← h4]; exact h.c0, h.c1, by rw [← hr 0 (by decide)]; exact h.c2, h.c3, by rw [← hr 1 (by decide)]; exact h.c4, h.c5, by rw [← hr 2 (by decide)]; exact h.c6, h.c7, by rw [← hr 3 (by decide)]; exact h.c8, h.c9, by rw [← hr 4 (by decide)]; exact h.c10, h.c11, by rw [← hr 5 (by decide)]; exact h.c12, h.c13, by rw [← hr 6 (by decide)]; exact h.c14, h.c15, by rw [← hr 7 (by decide)]; exact h.c16⟩
def clearS (S : sS) : sS := sRow (sPut (sPut S 8 0 (nI 0)) 8 3 (nI 0)) 2 (fun _ => 0)
def appF (S : sS) (so lo : Int32) : Nat → sS
  | 0 => S
  | t + 1 => sPut (sRow (sRow (appF S so lo t) 0 (upd (appF S so lo t 0) (sB (appF S so lo t)) so)) 1 (upd (appF S so lo t 1) (sB (appF S so lo t)) lo)) 8 0 (nI (sB (appF S so lo t) + 1))
theorem appF_B (S : sS) (so lo : Int32) : ∀ t, sB S + t < 2147483648 → sB (appF S so lo t) = sB S + t
  | 0, _ => rfl
  | t + 1, h => by
    rw [appF]
    have := appF_B S so lo t (by omega)
    show (sPut _ 8 0 (nI (sB (appF S so lo t) + 1)) 8 0).toNatClampNeg = _
    rw [sPut_s, nI_clamp (by omega)]
    omega
def addS (S : sS) (br rc : Int32) : sS := sPut (sPut (sRow (sRow S 3 (upd (S 3) (sN S) br)) 4 (upd (S 4) (sN S) rc)) 8 2 (S 8 2 ||| bitI (sN S))) 8 1 (nI (sN S + 1))
def mvS (S : sS) (a b : Nat) : sS := sRow (sRow (sRow S 5 (upd (S 5) b (S 5 a))) 6 (upd (S 6) b (S 6 a))) 7 (upd (S 7) b (S 7 a))
def drpF (S : sS) (k : Nat) : Nat → sS
  | 0 => S
  | n + 1 => mvS (drpF S k n) (k + n + 1) (k + n)
theorem drpF_8 (S : sS) (k : Nat) : ∀ n, drpF S k n 8 = S 8
  | 0 => rfl
  | n + 1 => drpF_8 S k n
def drpS (S : sS) (k : Nat) : sS := sPut (drpF S k (sK S - 1 - k)) 8 3 (nI (sK S - 1))
/-- where a solo comes among the solos: behind those that begin not later -/
def insP (S : sS) (fr : Nat) : Nat → Nat
  | 0 => 0
  | p + 1 => if nI fr < S 6 p then insP S fr p else p + 1
theorem insP_le (S : sS) (fr : Nat) : ∀ p, insP S fr p ≤ p
  | 0 => Nat.le_refl 0
  | p + 1 => by
    rw [insP]
    split
    · exact Nat.le_trans (insP_le S fr p) (Nat.le_succ p)
    · exact Nat.le_refl _
theorem insP_1 {S : sS} {fr u : Nat} (h0 : 0 < u) (c : S 6 (u - 1) ≤ nI fr) : insP S fr u = u := by
  obtain ⟨q, rfl⟩ : ∃ q, u = q + 1 := ⟨u - 1, by omega⟩
  rw [Nat.add_sub_cancel] at c
  rw [insP, if_neg (Int32.not_lt.mpr c)]
theorem insP_s {S : sS} {fr u : Nat} (h0 : 0 < u) (c : ¬ S 6 (u - 1) ≤ nI fr) : insP S fr (u - 1) = insP S fr u := by
  obtain ⟨q, rfl⟩ : ∃ q, u = q + 1 := ⟨u - 1, by omega⟩
  rw [Nat.add_sub_cancel] at c ⊢
  rw [insP, if_pos (Int32.not_le.mp c)]
def shf (f : Nat → Int32) (p n : Nat) : Nat → Int32 := fun j => if p < j ∧ j ≤ n then f (j - 1) else f j
def shS (S : sS) (p n : Nat) : sS := sRow (sRow (sRow S 5 (shf (S 5) p n)) 6 (shf (S 6) p n)) 7 (shf (S 7) p n)
theorem shf_0 (f : Nat → Int32) (n : Nat) : shf f n n = f := by
  funext j
  simp only [shf]
  rw [if_neg (by omega)]
theorem shf_at {f : Nat → Int32} {p n j : Nat} (h : j ≤ p) : shf f p n j = f j := by
  simp only [shf]
  rw [if_neg (by omega)]
theorem shf_s {f : Nat → Int32} {p n : Nat} (h0 : 0 < p) (hp : p ≤ n) : upd (shf f p n) p (shf f p n (p - 1)) = shf f (p - 1) n := by
  funext j
  rw [shf_at (by omega)]
  simp only [upd, shf]
  by_cases hj : j = p
  · subst hj
    rw [if_pos rfl, if_pos (by omega)]
  · rw [if_neg hj]
    by_cases h2 : p < j ∧ j ≤ n
    · rw [if_pos h2, if_pos (by omega)]
    · rw [if_neg h2, if_neg (by omega)]
theorem shS_0 (S : sS) (n : Nat) : shS S n n = S := by
  funext j
  simp only [shS, shf_0, sRow]
  split
  · subst_vars; rfl
  · split
    · subst_vars; rfl
    · split
      · subst_vars; rfl
      · rfl
theorem shS_s {S : sS} {p n : Nat} (h0 : 0 < p) (hp : p ≤ n) : mvS (shS S p n) (p - 1) p = shS S (p - 1) n := by
  funext j
  have e5 : shS S p n 5 = shf (S 5) p n := rfl
  have e6 : shS S p n 6 = shf (S 6) p n := rfl
  have e7 : shS S p n 7 = shf (S 7) p n := rfl
  unfold mvS
  rw [e5, e6, e7, shf_s h0 hp, shf_s h0 hp, shf_s h0 hp]
  simp only [shS, sRow]
  split
  · rfl
  · split
    · rfl
    · split <;> rfl
def insS (S : sS) (i fr to : Nat) : sS := sPut (sRow (sRow (sRow (shS S (insP S fr (sK S)) (sK S)) 5 (upd (shf (S 5) (insP S fr (sK S)) (sK S)) (insP S fr (sK S)) (nI i))) 6 (upd (shf (S 6) (insP S fr (sK S)) (sK S)) (insP S fr (sK S)) (nI fr))) 7 (upd (shf (S 7) (insP S fr (sK S)) (sK S)) (insP S fr (sK S)) (nI to))) 8 3 (nI (sK S + 1))
theorem nX2_init_X2 : ∀ w ∈ wsX20, w ∈ wsX2_init := by decide +kernel
set_option maxHeartbeats 4000000 in
set_option maxRecDepth 100000 in
theorem c_X2_init (l : Launch) (h n : Nat) (σ : gS) (h0 : σ h = gO 2 [.null]) (hn : n ≤ 96) : gM l yX2_init wsX2_init ({ frames := 1, cells := 1, slots := 96, locals := 14 } : Room) 1 96 [.ref h, .int (nI n)] σ (h + 1) (gv (gup (gup σ (h + 1) (gI n (fun _ => 0))) h (gO 2 [.ref (h + 1)])) (h + 2)) := by
  refine gM_of (cc := cX2_init) (maxL := 2) (ret := none) (by decide) rfl (Nat.le_of_ble_eq_true rfl) ?_
  intro D ka lo hL hlo p e s m below meth c hx hb hr hts hown hml hlk hnm hK H locs ls hz hP hS hl
  have hl : lv_has ls 2 [(0, .ref h), (1, .int (nI n))] := hl
  have hown : s.vm.findClass RX2 = some m.cls := hown
  refine lv_aload_n hx hb dX2_init_0 rfl (lv_at hl 0 rfl) ?_
  refine W.objInit hx hb hown (hts (.methodLink RX2 1 objectInit) (by decide +kernel)) (hts (.instanceMethod objectInit) (by decide +kernel)) (hts (.code objectInit ⟨#[0xb1]⟩ 1 none) (by decide +kernel)) rfl (by rw [hml]; exact hl.1) rfl dX2_init_1 (Nat.le_of_ble_eq_true rfl) (Nat.le_of_ble_eq_true rfl) ?_
  refine W.eq (g2 := F0 m 4 ls []) rfl ?_
  refine lv_aload_n hx hb dX2_init_4 rfl (lv_at hl 0 rfl) ?_
  refine lv_iconst (v := (nI 0)) hx hb dX2_init_5 (by decide) ?_
  refine lv_iload_n hx hb dX2_init_6 rfl (lv_at hl 1 rfl) ?_
  refine va_mmax hx hb (hml.trans hl.1.symm) hown (hts (.methodLink RX2 7 Lib.Math.max.name) (by decide +kernel)) (hts (.static Lib.Math.max.name) (by decide +kernel)) (hts (.initialized "java/lang/Math") (by decide +kernel)) (hts (.code Lib.Math.max.name Lib.Math.max.code 2 (some .int)) (by decide +kernel)) (Nat.le_of_ble_eq_true rfl) (Nat.le_of_ble_eq_true rfl) (Nat.le_of_ble_eq_true rfl) (Nat.le_of_ble_eq_true rfl) dX2_init_7 ?_
  refine g_top (g_nmax (a := 0) (b := n) (by omega) (by omega)) ?_
  refine g_top (y := (nI n)) (by rw [Nat.zero_max]) ?_
  refine g_newa hx hb hts hK hz hP hL hS hlo 0 .int (by decide) (by decide +kernel) (n := nI n) (N := n) rfl (by omega) (Nat.le_of_ble_eq_true rfl) (by show 0 + n ≤ 96; omega) dX2_init_10 (fun H hz hP hL hS => ?_)
  have hlo : lo ≤ (h + 1) + 1 := Nat.le_succ_of_le hlo
  have hP : gH D ka (gup σ (h + 1) (gI n (fun _ => 0))) H := hP
  have hL : gL lo (gup σ (h + 1) (gI n (fun _ => 0))) := hL
  refine g_putF (C := RX2) (T := TX2) (N := 1) hx hb hts hown hK hP hL hS ((gup_n (ad_0 1 (by decide))).trans h0) nX2_init_X2 tyX2 tyX2_ok nmX2 rfl 0 (by decide) (by decide +kernel) rfl rfl hnm rfl (v := .ref (h + 1)) rfl rfl (Nat.le_of_ble_eq_true rfl) dX2_init_12 (fun H locs hq hP hL hS => ?_)
  have hz := hq.trans hz
  have hP : gH D ka (gup ((gup σ (h + 1) (gI n (fun _ => 0)))) h (gO 2 [.ref (h + 1)])) H := hP
  have hL : gL lo (gup ((gup σ (h + 1) (gI n (fun _ => 0)))) h (gO 2 [.ref (h + 1)])) := hL
  refine W.widen (k := 1) (n := 96) (Nat.le_of_ble_eq_true rfl) (by show 0 + n ≤ 96; omega) ?_
  exact g_vret (z := (h + 2)) hx hb hr hlk hz hP hL hS dX2_init_15 (gv_i rfl)

theorem nX4_init_X2 : ∀ w ∈ wsX20, w ∈ wsX4_init := by decide +kernel
theorem nX4_init_X4 : ∀ w ∈ wsX40, w ∈ wsX4_init := by decide +kernel
set_option maxHeartbeats 4000000 in
set_option maxRecDepth 100000 in
theorem c_X4_init (l : Launch) (x : Nat) (σ : gS) (h0 : σ x = gO 4 [.int 0, .int 0, .int 0, .int 0, .int 0, .null, .null, .null, .null, .null, .null, .null, .null]) : gM l yX4_init wsX4_init ({ frames := 2, cells := 16, slots := 776, locals := 35 } : Room) 16 776 [.ref x] σ (x + 1) (gxv (fun τ n => n = x + 17 ∧ StAt τ x s0S ∧ gAs (gZo x 17) σ τ)) := by
  refine gM_of (cc := cX4_init) (maxL := 1) (ret := none) (by decide) rfl (Nat.le_of_ble_eq_true rfl) ?_
  intro D ka lo hL hlo p e s m below meth c hx hb hr hts hown hml hlk hnm hK H locs ls hz hP hS hl
  have hl : lv_has ls 1 [(0, .ref x)] := hl
  have hown : s.vm.findClass RX4 = some m.cls := hown
  have hag : gAs (gZo x 17) σ σ := gAs.rf
  refine lv_aload_n hx hb dX4_init_0 rfl (lv_at hl 0 rfl) ?_
  refine W.objInit hx hb hown (hts (.methodLink RX4 3 objectInit) (by decide +kernel)) (hts (.instanceMethod objectInit) (by decide +kernel)) (hts (.code objectInit ⟨#[0xb1]⟩ 1 none) (by decide +kernel)) rfl (by rw [hml]; exact hl.1) rfl dX4_init_1 (Nat.le_of_ble_eq_true rfl) (Nat.le_of_ble_eq_true rfl) ?_
  refine W.eq (g2 := F0 m 4 ls []) rfl ?_
  refine lv_aload_n hx hb dX4_init_4 rfl (lv_at hl 0 rfl) ?_
  refine g_new (C := RX2) (T := TX2) (N := 1) (ci := 2) (fs := [.null]) hx hb hts hown hK hz hP hL hS hlo nX4_init_X2 tyX2 tyX2_ok rfl (by decide +kernel) (by decide +kernel) (by decide +kernel) rfl (Nat.le_of_ble_eq_true rfl) (Nat.le_of_ble_eq_true rfl) dX4_init_5 (fun H hz hP hL hS => ?_)
  have hlo : lo ≤ (x + 1) + 1 := Nat.le_succ_of_le hlo
  obtain ⟨σ1, e1⟩ : ∃ υ0 : gS, υ0 = gup σ (x + 1) (gO 2 [.null]) := ⟨_, rfl⟩
  have hP : gH D ka σ1 H := by rw [e1]; exact hP
  have hL : gL lo σ1 := by rw [e1]; exact hL
  have hag := hag.upe e1 (zo_k (by decide))
  refine lv_dup hx hb dX4_init_8 rfl ?_
  refine lv_bipush (v := (nI 96)) hx hb dX4_init_9 (by decide) ?_
  refine g_runI (b := (x + 1)) (As := [.int (nI 96)]) (rest := [.ref (x + 1), .ref x]) (own := RX4) 1 hx hb hml hown hts hK hz hP hL hS hlo hl.1 (c_X2_init l (x + 1) 96 σ1 (gup_here e1) (by decide)) gX4_init_X2_init rfl rfl rfl (by decide +kernel) (by decide +kernel) (by decide +kernel) rfl (by decide +kernel) ⟨Nat.le_of_ble_eq_true rfl, Nat.le_of_ble_eq_true rfl⟩ rfl rfl (Nat.le_of_ble_eq_true rfl) dX4_init_11 ⟨Nat.le_of_ble_eq_true rfl, Nat.le_of_ble_eq_true rfl⟩ (g_kv (fun H locs hz hP hL hS => ?_))
  have hz : H.size = (x + 3) := hz
  have hlo : lo ≤ (x + 3) := Nat.le_succ_of_le hlo
  obtain ⟨σ2, e2⟩ : ∃ υ0 : gS, υ0 = gup σ1 (x + 2) (gI 96 (fun _ => 0)) := ⟨_, rfl⟩
  have hag := hag.upe e2 (zo_k (by decide))
  obtain ⟨σ3, e3⟩ : ∃ υ0 : gS, υ0 = gup σ2 (x + 1) (gO 2 [.ref (x + 2)]) := ⟨_, rfl⟩
  have hag := hag.upe e3 (zo_k (by decide))
  have hP : gH D ka σ3 H := by rw [e3, e2]; exact hP
  have hL : gL lo σ3 := by rw [e3, e2]; exact hL
  refine g_putF (C := RX4) (T := TX4) (N := 13) hx hb hts hown hK hP hL hS (gup_off e3 (ad_0 1 (by decide)) (gup_off e2 (ad_0 2 (by decide)) (gup_off e1 (ad_0 1 (by decide)) h0))) nX4_init_X4 tyX4 tyX4_ok nmX4 rfl 5 (by decide) (by decide +kernel) rfl rfl hnm rfl (v := .ref (x + 1)) rfl rfl (Nat.le_of_ble_eq_true rfl) dX4_init_14 (fun H locs hq hP hL hS => ?_)
  have hz := hq.trans hz
  obtain ⟨σ4, e4⟩ : ∃ υ0 : gS, υ0 = gup σ3 x (gO 4 [.int (0), .int (0), .int (0), .int (0), .int (0), .ref (x + 1), .null, .null, .null, .null, .null, .null, .null]) := ⟨_, rfl⟩
  have hP : gH D ka σ4 H := by rw [e4]; exact hP
  have hL : gL lo σ4 := by rw [e4]; exact hL
  have hag := hag.upe e4 (zo_0 (by decide))
  refine lv_aload_n hx hb dX4_init_17 rfl (lv_at hl 0 rfl) ?_
  refine g_new (C := RX2) (T := TX2) (N := 1) (ci := 2) (fs := [.null]) hx hb hts hown hK hz hP hL hS hlo nX4_init_X2 tyX2 tyX2_ok rfl (by decide +kernel) (by decide +kernel) (by decide +kernel) rfl (Nat.le_of_ble_eq_true rfl) (Nat.le_of_ble_eq_true rfl) dX4_init_18 (fun H hz hP hL hS => ?_)
  have hlo : lo ≤ (x + 3) + 1 := Nat.le_succ_of_le hlo
  obtain ⟨σ5, e5⟩ : ∃ υ0 : gS, υ0 = gup σ4 (x + 3) (gO 2 [.null]) := ⟨_, rfl⟩
  have hP : gH D ka σ5 H := by rw [e5]; exact hP
  have hL : gL lo σ5 := by rw [e5]; exact hL
  have hag := hag.upe e5 (zo_k (by decide))
  refine lv_dup hx hb dX4_init_21 rfl ?_
  refine lv_bipush (v := (nI 96)) hx hb dX4_init_22 (by decide) ?_
  refine g_runI (b := (x + 3)) (As := [.int (nI 96)]) (rest := [.ref (x + 3), .ref x]) (own := RX4) 1 hx hb hml hown hts hK hz hP hL hS hlo hl.1 (c_X2_init l (x + 3) 96 σ5 (gup_here e5) (by decide)) gX4_init_X2_init rfl rfl rfl (by decide +kernel) (by decide +kernel) (by decide +kernel) rfl (by decide +kernel) ⟨Nat.le_of_ble_eq_true rfl, Nat.le_of_ble_eq_true rfl⟩ rfl rfl (Nat.le_of_ble_eq_true rfl) dX4_init_24 ⟨Nat.le_of_ble_eq_true rfl, Nat.le_of_ble_eq_true rfl⟩ (g_kv (fun H locs hz hP hL hS => ?_))
  have hz : H.size = (x + 5) := hz
  have hlo : lo ≤ (x + 5) := Nat.le_succ_of_le hlo
  obtain ⟨σ6, e6⟩ : ∃ υ0 : gS, υ0 = gup σ5 (x + 4) (gI 96 (fun _ => 0)) := ⟨_, rfl⟩
  have hag := hag.upe e6 (zo_k (by decide))
  obtain ⟨σ7, e7⟩ : ∃ υ0 : gS, υ0 = gup σ6 (x + 3) (gO 2 [.ref (x + 4)]) := ⟨_, rfl⟩
  have hag := hag.upe e7 (zo_k (by decide))
  have hP : gH D ka σ7 H := by rw [e7, e6]; exact hP
  have hL : gL lo σ7 := by rw [e7, e6]; exact hL
  refine g_putF (C := RX4) (T := TX4) (N := 13) hx hb hts hown hK hP hL hS (gup_off e7 (ad_0 3 (by decide)) (gup_off e6 (ad_0 4 (by decide)) (gup_off e5 (ad_0 3 (by decide)) (gup_here e4)))) nX4_init_X4 tyX4 tyX4_ok nmX4 rfl 6 (by decide) (by decide +kernel) rfl rfl hnm rfl (v := .ref (x + 3)) rfl rfl (Nat.le_of_ble_eq_true rfl) dX4_init_27 (fun H locs hq hP hL hS => ?_)
  have hz := hq.trans hz
  obtain ⟨σ8, e8⟩ : ∃ υ0 : gS, υ0 = gup σ7 x (gO 4 [.int (0), .int (0), .int (0), .int (0), .int (0), .ref (x + 1), .ref (x + 3), .null, .null, .null, .null, .null, .null]) := ⟨_, rfl⟩
  have hP : gH D ka σ8 H := by rw [e8]; exact hP
  have hL : gL lo σ8 := by rw [e8]; exact hL
  have hag := hag.upe e8 (zo_0 (by decide))
  refine lv_aload_n hx hb dX4_init_30 rfl (lv_at hl 0 rfl) ?_
  refine g_new (C := RX2) (T := TX2) (N := 1) (ci := 2) (fs := [.null]) hx hb hts hown hK hz hP hL hS hlo nX4_init_X2 tyX2 tyX2_ok rfl (by decide +kernel) (by decide +kernel) (by decide +kernel) rfl (Nat.le_of_ble_eq_true rfl) (Nat.le_of_ble_eq_true rfl) dX4_init_31 (fun H hz hP hL hS => ?_)
  have hlo : lo ≤ (x + 5) + 1 := Nat.le_succ_of_le hlo
  obtain ⟨σ9, e9⟩ : ∃ υ0 : gS, υ0 = gup σ8 (x + 5) (gO 2 [.null]) := ⟨_, rfl⟩
  have hP : gH D ka σ9 H := by rw [e9]; exact hP
  have hL : gL lo σ9 := by rw [e9]; exact hL
  have hag := hag.upe e9 (zo_k (by decide))
  refine lv_dup hx hb dX4_init_34 rfl ?_
  refine lv_bipush (v := (nI 96)) hx hb dX4_init_35 (by decide) ?_
  refine g_runI (b := (x + 5)) (As := [.int (nI 96)]) (rest := [.ref (x + 5), .ref x]) (own := RX4) 1 hx hb hml hown hts hK hz hP hL hS hlo hl.1 (c_X2_init l (x + 5) 96 σ9 (gup_here e9) (by decide)) gX4_init_X2_init rfl rfl rfl (by decide +kernel) (by decide +kernel) (by decide +kernel) rfl (by decide +kernel) ⟨Nat.le_of_ble_eq_true rfl, Nat.le_of_ble_eq_true rfl⟩ rfl rfl (Nat.le_of_ble_eq_true rfl) dX4_init_37 ⟨Nat.le_of_ble_eq_true rfl, Nat.le_of_ble_eq_true rfl⟩ (g_kv (fun H locs hz hP hL hS => ?_))
  have hz : H.size = (x + 7) := hz
  have hlo : lo ≤ (x + 7) := Nat.le_succ_of_le hlo
  obtain ⟨σ10, e10⟩ : ∃ υ0 : gS, υ0 = gup σ9 (x + 6) (gI 96 (fun _ => 0)) := ⟨_, rfl⟩
  have hag := hag.upe e10 (zo_k (by decide))
  obtain ⟨σ11, e11⟩ : ∃ υ0 : gS, υ0 = gup σ10 (x + 5) (gO 2 [.ref (x + 6)]) := ⟨_, rfl⟩
  have hag := hag.upe e11 (zo_k (by decide))
  have hP : gH D ka σ11 H := by rw [e11, e10]; exact hP
  have hL : gL lo σ11 := by rw [e11, e10]; exact hL
  refine g_putF (C := RX4) (T := TX4) (N := 13) hx hb hts hown hK hP hL hS (gup_off e11 (ad_0 5 (by decide)) (gup_off e10 (ad_0 6 (by decide)) (gup_off e9 (ad_0 5 (by decide)) (gup_here e8)))) nX4_init_X4 tyX4 tyX4_ok nmX4 rfl 7 (by decide) (by decide +kernel) rfl rfl hnm rfl (v := .ref (x + 5)) rfl rfl (Nat.le_of_ble_eq_true rfl) dX4_init_40 (fun H locs hq hP hL hS => ?_)
  have hz := hq.trans hz
  obtain ⟨σ12, e12⟩ : ∃ υ0 : gS, υ0 = gup σ11 x (gO 4 [.int (0), .int (0), .int (0), .int (0), .int (0), .ref (x + 1), .ref (x + 3), .ref (x + 5), .null, .null, .null, .null, .null]) := ⟨_, rfl⟩
  have hP : gH D ka σ12 H := by rw [e12]; exact hP
  have hL : gL lo σ12 := by rw [e12]; exact hL
  have hag := hag.upe e12 (zo_0 (by decide))
  refine lv_aload_n hx hb dX4_init_43 rfl (lv_at hl 0 rfl) ?_
  refine g_new (C := RX2) (T := TX2) (N := 1) (ci := 2) (fs := [.null]) hx hb hts hown hK hz hP hL hS hlo nX4_init_X2 tyX2 tyX2_ok rfl (by decide +kernel) (by decide +kernel) (by decide +kernel) rfl (Nat.le_of_ble_eq_true rfl) (Nat.le_of_ble_eq_true rfl) dX4_init_44 (fun H hz hP hL hS => ?_)
  have hlo : lo ≤ (x + 7) + 1 := Nat.le_succ_of_le hlo
  obtain ⟨σ13, e13⟩ : ∃ υ0 : gS, υ0 = gup σ12 (x + 7) (gO 2 [.null]) := ⟨_, rfl⟩
  have hP : gH D ka σ13 H := by rw [e13]; exact hP
  have hL : gL lo σ13 := by rw [e13]; exact hL
  have hag := hag.upe e13 (zo_k (by decide))
  refine lv_dup hx hb dX4_init_47 rfl ?_
  refine lv_bipush (v := (nI 12)) hx hb dX4_init_48 (by decide) ?_
  refine g_runI (b := (x + 7)) (As := [.int (nI 12)]) (rest := [.ref (x + 7), .ref x]) (own := RX4) 1 hx hb hml hown hts hK hz hP hL hS hlo hl.1 (c_X2_init l (x + 7) 12 σ13 (gup_here e13) (by decide)) gX4_init_X2_init rfl rfl rfl (by decide +kernel) (by decide +kernel) (by decide +kernel) rfl (by decide +kernel) ⟨Nat.le_of_ble_eq_true rfl, Nat.le_of_ble_eq_true rfl⟩ rfl rfl (Nat.le_of_ble_eq_true rfl) dX4_init_50 ⟨Nat.le_of_ble_eq_true rfl, Nat.le_of_ble_eq_true rfl⟩ (g_kv (fun H locs hz hP hL hS => ?_))
  have hz : H.size = (x + 9) := hz
  have hlo : lo ≤ (x + 9) := Nat.le_succ_of_le hlo
  obtain ⟨σ14, e14⟩ : ∃ υ0 : gS, υ0 = gup σ13 (x + 8) (gI 12 (fun _ => 0)) := ⟨_, rfl⟩
  have hag := hag.upe e14 (zo_k (by decide))
  obtain ⟨σ15, e15⟩ : ∃ υ0 : gS, υ0 = gup σ14 (x + 7) (gO 2 [.ref (x + 8)]) := ⟨_, rfl⟩
  have hag := hag.upe e15 (zo_k (by decide))
  have hP : gH D ka σ15 H := by rw [e15, e14]; exact hP
  have hL : gL lo σ15 := by rw [e15, e14]; exact hL
  refine g_putF (C := RX4) (T := TX4) (N := 13) hx hb hts hown hK hP hL hS (gup_off e15 (ad_0 7 (by decide)) (gup_off e14 (ad_0 8 (by decide)) (gup_off e13 (ad_0 7 (by decide)) (gup_here e12)))) nX4_init_X4 tyX4 tyX4_ok nmX4 rfl 8 (by decide) (by decide +kernel) rfl rfl hnm rfl (v := .ref (x + 7)) rfl rfl (Nat.le_of_ble_eq_true rfl) dX4_init_53 (fun H locs hq hP hL hS => ?_)
  have hz := hq.trans hz
  obtain ⟨σ16, e16⟩ : ∃ υ0 : gS, υ0 = gup σ15 x (gO 4 [.int (0), .int (0), .int (0), .int (0), .int (0), .ref (x + 1), .ref (x + 3), .ref (x + 5), .ref (x + 7), .null, .null, .null, .null]) := ⟨_, rfl⟩
  have hP : gH D ka σ16 H := by rw [e16]; exact hP
  have hL : gL lo σ16 := by rw [e16]; exact hL
  have hag := hag.upe e16 (zo_0 (by decide))
  refine lv_aload_n hx hb dX4_init_56 rfl (lv_at hl 0 rfl) ?_
  refine g_new (C := RX2) (T := TX2) (N := 1) (ci := 2) (fs := [.null]) hx hb hts hown hK hz hP hL hS hlo nX4_init_X2 tyX2 tyX2_ok rfl (by decide +kernel) (by decide +kernel) (by decide +kernel) rfl (Nat.le_of_ble_eq_true rfl) (Nat.le_of_ble_eq_true rfl) dX4_init_57 (fun H hz hP hL hS => ?_)
  have hlo : lo ≤ (x + 9) + 1 := Nat.le_succ_of_le hlo
  obtain ⟨σ17, e17⟩ : ∃ υ0 : gS, υ0 = gup σ16 (x + 9) (gO 2 [.null]) := ⟨_, rfl⟩
  have hP : gH D ka σ17 H := by rw [e17]; exact hP
  have hL : gL lo σ17 := by rw [e17]; exact hL
  have hag := hag.upe e17 (zo_k (by decide))
  refine lv_dup hx hb dX4_init_60 rfl ?_
  refine lv_bipush (v := (nI 12)) hx hb dX4_init_61 (by decide) ?_
  refine g_runI (b := (x + 9)) (As := [.int (nI 12)]) (rest := [.ref (x + 9), .ref x]) (own := RX4) 1 hx hb hml hown hts hK hz hP hL hS hlo hl.1 (c_X2_init l (x + 9) 12 σ17 (gup_here e17) (by decide)) gX4_init_X2_init rfl rfl rfl (by decide +kernel) (by decide +kernel) (by decide +kernel) rfl (by decide +kernel) ⟨Nat.le_of_ble_eq_true rfl, Nat.le_of_ble_eq_true rfl⟩ rfl rfl (Nat.le_of_ble_eq_true rfl) dX4_init_63 ⟨Nat.le_of_ble_eq_true rfl, Nat.le_of_ble_eq_true rfl⟩ (g_kv (fun H locs hz hP hL hS => ?_))
  have hz : H.size = (x + 11) := hz
  have hlo : lo ≤ (x + 11) := Nat.le_succ_of_le hlo
  obtain ⟨σ18, e18⟩ : ∃ υ0 : gS, υ0 = gup σ17 (x + 10) (gI 12 (fun _ => 0)) := ⟨_, rfl⟩
  have hag := hag.upe e18 (zo_k (by decide))
  obtain ⟨σ19, e19⟩ : ∃ υ0 : gS, υ0 = gup σ18 (x + 9) (gO 2 [.ref (x + 10)]) := ⟨_, rfl⟩
  have hag := hag.upe e19 (zo_k (by decide))
  have hP : gH D ka σ19 H := by rw [e19, e18]; exact hP
  have hL : gL lo σ19 := by rw [e19, e18]; exact hL
  refine g_putF (C := RX4) (T := TX4) (N := 13) hx hb hts hown hK hP hL hS (gup_off e19 (ad_0 9 (by decide)) (gup_off e18 (ad_0 10 (by decide)) (gup_off e17 (ad_0 9 (by decide)) (gup_here e16)))) nX4_init_X4 tyX4 tyX4_ok nmX4 rfl 9 (by decide) (by decide +kernel) rfl rfl hnm rfl (v := .ref (x + 9)) rfl rfl (Nat.le_of_ble_eq_true rfl) dX4_init_66 (fun H locs hq hP hL hS => ?_)
  have hz := hq.trans hz
  obtain ⟨σ20, e20⟩ : ∃ υ0 : gS, υ0 = gup σ19 x (gO 4 [.int (0), .int (0), .int (0), .int (0), .int (0), .ref (x + 1), .ref (x + 3), .ref (x + 5), .ref (x + 7), .ref (x + 9), .null, .null, .null]) := ⟨_, rfl⟩
  have hP : gH D ka σ20 H := by rw [e20]; exact hP
  have hL : gL lo σ20 := by rw [e20]; exact hL
  have hag := hag.upe e20 (zo_0 (by decide))
  refine lv_aload_n hx hb dX4_init_69 rfl (lv_at hl 0 rfl) ?_
  refine g_new (C := RX2) (T := TX2) (N := 1) (ci := 2) (fs := [.null]) hx hb hts hown hK hz hP hL hS hlo nX4_init_X2 tyX2 tyX2_ok rfl (by decide +kernel) (by decide +kernel) (by decide +kernel) rfl (Nat.le_of_ble_eq_true rfl) (Nat.le_of_ble_eq_true rfl) dX4_init_70 (fun H hz hP hL hS => ?_)
  have hlo : lo ≤ (x + 11) + 1 := Nat.le_succ_of_le hlo
  obtain ⟨σ21, e21⟩ : ∃ υ0 : gS, υ0 = gup σ20 (x + 11) (gO 2 [.null]) := ⟨_, rfl⟩
  have hP : gH D ka σ21 H := by rw [e21]; exact hP
  have hL : gL lo σ21 := by rw [e21]; exact hL
  have hag := hag.upe e21 (zo_k (by decide))
  refine lv_dup hx hb dX4_init_73 rfl ?_
  refine lv_bipush (v := (nI 8)) hx hb dX4_init_74 (by decide) ?_
  refine g_runI (b := (x + 11)) (As := [.int (nI 8)]) (rest := [.ref (x + 11), .ref x]) (own := RX4) 1 hx hb hml hown hts hK hz hP hL hS hlo hl.1 (c_X2_init l (x + 11) 8 σ21 (gup_here e21) (by decide)) gX4_init_X2_init rfl rfl rfl (by decide +kernel) (by decide +kernel) (by decide +kernel) rfl (by decide +kernel) ⟨Nat.le_of_ble_eq_true rfl, Nat.le_of_ble_eq_true rfl⟩ rfl rfl (Nat.le_of_ble_eq_true rfl) dX4_init_76 ⟨Nat.le_of_ble_eq_true rfl, Nat.le_of_ble_eq_true rfl⟩ (g_kv (fun H locs hz hP hL hS => ?_))
  have hz : H.size = (x + 13) := hz
  have hlo : lo ≤ (x + 13) := Nat.le_succ_of_le hlo
  obtain ⟨σ22, e22⟩ : ∃ υ0 : gS, υ0 = gup σ21 (x + 12) (gI 8 (fun _ => 0)) := ⟨_, rfl⟩
  have hag := hag.upe e22 (zo_k (by decide))
  obtain ⟨σ23, e23⟩ : ∃ υ0 : gS, υ0 = gup σ22 (x + 11) (gO 2 [.ref (x + 12)]) := ⟨_, rfl⟩
  have hag := hag.upe e23 (zo_k (by decide))
  have hP : gH D ka σ23 H := by rw [e23, e22]; exact hP
  have hL : gL lo σ23 := by rw [e23, e22]; exact hL
  refine g_putF (C := RX4) (T := TX4) (N := 13) hx hb hts hown hK hP hL hS (gup_off e23 (ad_0 11 (by decide)) (gup_off e22 (ad_0 12 (by decide)) (gup_off e21 (ad_0 11 (by decide)) (gup_here e20)))) nX4_init_X4 tyX4 tyX4_ok nmX4 rfl 10 (by decide) (by decide +kernel) rfl rfl hnm rfl (v := .ref (x + 11)) rfl rfl (Nat.le_of_ble_eq_true rfl) dX4_init_79 (fun H locs hq hP hL hS => ?_)
  have hz := hq.trans hz
  obtain ⟨σ24, e24⟩ : ∃ υ0 : gS, υ0 = gup σ23 x (gO 4 [.int (0), .int (0), .int (0), .int (0), .int (0), .ref (x + 1), .ref (x + 3), .ref (x + 5), .ref (x + 7), .ref (x + 9), .ref (x + 11), .null, .null]) := ⟨_, rfl⟩
  have hP : gH D ka σ24 H := by rw [e24]; exact hP
  have hL : gL lo σ24 := by rw [e24]; exact hL
  have hag := hag.upe e24 (zo_0 (by decide))
  refine lv_aload_n hx hb dX4_init_82 rfl (lv_at hl 0 rfl) ?_
  refine g_new (C := RX2) (T := TX2) (N := 1) (ci := 2) (fs := [.null]) hx hb hts hown hK hz hP hL hS hlo nX4_init_X2 tyX2 tyX2_ok rfl (by decide +kernel) (by decide +kernel) (by decide +kernel) rfl (Nat.le_of_ble_eq_true rfl) (Nat.le_of_ble_eq_true rfl) dX4_init_83 (fun H hz hP hL hS => ?_)
  have hlo : lo ≤ (x + 13) + 1 := Nat.le_succ_of_le hlo
  obtain ⟨σ25, e25⟩ : ∃ υ0 : gS, υ0 = gup σ24 (x + 13) (gO 2 [.null]) := ⟨_, rfl⟩
  have hP : gH D ka σ25 H := by rw [e25]; exact hP
  have hL : gL lo σ25 := by rw [e25]; exact hL
  have hag := hag.upe e25 (zo_k (by decide))
  refine lv_dup hx hb dX4_init_86 rfl ?_
  refine lv_bipush (v := (nI 8)) hx hb dX4_init_87 (by decide) ?_
  refine g_runI (b := (x + 13)) (As := [.int (nI 8)]) (rest := [.ref (x + 13), .ref x]) (own := RX4) 1 hx hb hml hown hts hK hz hP hL hS hlo hl.1 (c_X2_init l (x + 13) 8 σ25 (gup_here e25) (by decide)) gX4_init_X2_init rfl rfl rfl (by decide +kernel) (by decide +kernel) (by decide +kernel) rfl (by decide +kernel) ⟨Nat.le_of_ble_eq_true rfl, Nat.le_of_ble_eq_true rfl⟩ rfl rfl (Nat.le_of_ble_eq_true rfl) dX4_init_89 ⟨Nat.le_of_ble_eq_true rfl, Nat.le_of_ble_eq_true rfl⟩ (g_kv (fun H locs hz hP hL hS => ?_))
  have hz : H.size = (x + 15) := hz
  have hlo : lo ≤ (x + 15) := Nat.le_succ_of_le hlo
  obtain ⟨σ26, e26⟩ : ∃ υ0 : gS, υ0 = gup σ25 (x + 14) (gI 8 (fun _ => 0)) := ⟨_, rfl⟩
  have hag := hag.upe e26 (zo_k (by decide))
  obtain ⟨σ27, e27⟩ : ∃ υ0 : gS, υ0 = gup σ26 (x + 13) (gO 2 [.ref (x + 14)]) := ⟨_, rfl⟩
  have hag := hag.upe e27 (zo_k (by decide))
  have hP : gH D ka σ27 H := by rw [e27, e26]; exact hP
  have hL : gL lo σ27 := by rw [e27, e26]; exact hL
  refine g_putF (C := RX4) (T := TX4) (N := 13) hx hb hts hown hK hP hL hS (gup_off e27 (ad_0 13 (by decide)) (gup_off e26 (ad_0 14 (by decide)) (gup_off e25 (ad_0 13 (by decide)) (gup_here e24)))) nX4_init_X4 tyX4 tyX4_ok nmX4 rfl 11 (by decide) (by decide +kernel) rfl rfl hnm rfl (v := .ref (x + 13)) rfl rfl (Nat.le_of_ble_eq_true rfl) dX4_init_92 (fun H locs hq hP hL hS => ?_)
  have hz := hq.trans hz
  obtain ⟨σ28, e28⟩ : ∃ υ0 : gS, υ0 = gup σ27 x (gO 4 [.int (0), .int (0), .int (0), .int (0), .int (0), .ref (x + 1), .ref (x + 3), .ref (x + 5), .ref (x + 7), .ref (x + 9), .ref (x + 11), .ref (x + 13), .null]) := ⟨_, rfl⟩
  have hP : gH D ka σ28 H := by rw [e28]; exact hP
  have hL : gL lo σ28 := by rw [e28]; exact hL
  have hag := hag.upe e28 (zo_0 (by decide))
  refine lv_aload_n hx hb dX4_init_95 rfl (lv_at hl 0 rfl) ?_
  refine g_new (C := RX2) (T := TX2) (N := 1) (ci := 2) (fs := [.null]) hx hb hts hown hK hz hP hL hS hlo nX4_init_X2 tyX2 tyX2_ok rfl (by decide +kernel) (by decide +kernel) (by decide +kernel) rfl (Nat.le_of_ble_eq_true rfl) (Nat.le_of_ble_eq_true rfl) dX4_init_96 (fun H hz hP hL hS => ?_)
  have hlo : lo ≤ (x + 15) + 1 := Nat.le_succ_of_le hlo
  obtain ⟨σ29, e29⟩ : ∃ υ0 : gS, υ0 = gup σ28 (x + 15) (gO 2 [.null]) := ⟨_, rfl⟩
  have hP : gH D ka σ29 H := by rw [e29]; exact hP
  have hL : gL lo σ29 := by rw [e29]; exact hL
  have hag := hag.upe e29 (zo_k (by decide))
  refine lv_dup hx hb dX4_init_99 rfl ?_
  refine lv_bipush (v := (nI 8)) hx hb dX4_init_100 (by decide) ?_
  refine g_runI (b := (x + 15)) (As := [.int (nI 8)]) (rest := [.ref (x + 15), .ref x]) (own := RX4) 1 hx hb hml hown hts hK hz hP hL hS hlo hl.1 (c_X2_init l (x + 15) 8 σ29 (gup_here e29) (by decide)) gX4_init_X2_init rfl rfl rfl (by decide +kernel) (by decide +kernel) (by decide +kernel) rfl (by decide +kernel) ⟨Nat.le_of_ble_eq_true rfl, Nat.le_of_ble_eq_true rfl⟩ rfl rfl (Nat.le_of_ble_eq_true rfl) dX4_init_102 ⟨Nat.le_of_ble_eq_true rfl, Nat.le_of_ble_eq_true rfl⟩ (g_kv (fun H locs hz hP hL hS => ?_))
  have hz : H.size = (x + 17) := hz
  have hlo : lo ≤ (x + 17) := Nat.le_succ_of_le hlo
  obtain ⟨σ30, e30⟩ : ∃ υ0 : gS, υ0 = gup σ29 (x + 16) (gI 8 (fun _ => 0)) := ⟨_, rfl⟩
  have hag := hag.upe e30 (zo_k (by decide))
  obtain ⟨σ31, e31⟩ : ∃ υ0 : gS, υ0 = gup σ30 (x + 15) (gO 2 [.ref (x + 16)]) := ⟨_, rfl⟩
  have hag := hag.upe e31 (zo_k (by decide))
  have hP : gH D ka σ31 H := by rw [e31, e30]; exact hP
  have hL : gL lo σ31 := by rw [e31, e30]; exact hL
  refine g_putF (C := RX4) (T := TX4) (N := 13) hx hb hts hown hK hP hL hS (gup_off e31 (ad_0 15 (by decide)) (gup_off e30 (ad_0 16 (by decide)) (gup_off e29 (ad_0 15 (by decide)) (gup_here e28)))) nX4_init_X4 tyX4 tyX4_ok nmX4 rfl 12 (by decide) (by decide +kernel) rfl rfl hnm rfl (v := .ref (x + 15)) rfl rfl (Nat.le_of_ble_eq_true rfl) dX4_init_105 (fun H locs hq hP hL hS => ?_)
  have hz := hq.trans hz
  obtain ⟨σ32, e32⟩ : ∃ υ0 : gS, υ0 = gup σ31 x (gO 4 [.int (0), .int (0), .int (0), .int (0), .int (0), .ref (x + 1), .ref (x + 3), .ref (x + 5), .ref (x + 7), .ref (x + 9), .ref (x + 11), .ref (x + 13), .ref (x + 15)]) := ⟨_, rfl⟩
  have hP : gH D ka σ32 H := by rw [e32]; exact hP
  have hL : gL lo σ32 := by rw [e32]; exact hL
  have hag := hag.upe e32 (zo_0 (by decide))
  refine lv_aload_n hx hb dX4_init_108 rfl (lv_at hl 0 rfl) ?_
  refine lv_iconst (v := (nI 2)) hx hb dX4_init_109 (by decide) ?_
  refine g_put (C := RX4) (T := TX4) (N := 13) hx hb hts hown hK hP hL hS (gup_here e32) nX4_init_X4 tyX4 tyX4_ok nmX4 rfl 4 (by decide) (by decide +kernel) rfl rfl (v := .int (nI 2)) rfl rfl (Nat.le_of_ble_eq_true rfl) dX4_init_110 (fun H locs hq hP hL hS => ?_)
  have hz := hq.trans hz
  obtain ⟨σ33, e33⟩ : ∃ υ0 : gS, υ0 = gup σ32 x (gO 4 [.int (0), .int (0), .int (0), .int (0), .int (nI 2), .ref (x + 1), .ref (x + 3), .ref (x + 5), .ref (x + 7), .ref (x + 9), .ref (x + 11), .ref (x + 13), .ref (x + 15)]) := ⟨_, rfl⟩
  have hP : gH D ka σ33 H := by rw [e33]; exact hP
  have hL : gL lo σ33 := by rw [e33]; exact hL
  have hag := hag.upe e33 (zo_0 (by decide))
  refine W.widen (k := 16) (n := 776) (Nat.le_of_ble_eq_true rfl) (Nat.le_of_ble_eq_true rfl) ?_
  exact g_vret (z := (x + 17)) hx hb hr hlk hz hP hL hS dX4_init_113 (gxv_i ⟨rfl, StAt.of0 (a := fun _ => 0) (gup_here e33) rfl (gup_off e33 (ad_1 1 (by decide)) (gup_off e32 (ad_1 1 (by decide)) (gup_off e31 (ad_2 (by decide : 1 ≠ 15)) (gup_off e30 (ad_2 (by decide : 1 ≠ 16)) (gup_off e29 (ad_2 (by decide : 1 ≠ 15)) (gup_off e28 (ad_1 1 (by decide)) (gup_off e27 (ad_2 (by decide : 1 ≠ 13)) (gup_off e26 (ad_2 (by decide : 1 ≠ 14)) (gup_off e25 (ad_2 (by decide : 1 ≠ 13)) (gup_off e24 (ad_1 1 (by decide)) (gup_off e23 (ad_2 (by decide : 1 ≠ 11)) (gup_off e22 (ad_2 (by decide : 1 ≠ 12)) (gup_off e21 (ad_2 (by decide : 1 ≠ 11)) (gup_off e20 (ad_1 1 (by decide)) (gup_off e19 (ad_2 (by decide : 1 ≠ 9)) (gup_off e18 (ad_2 (by decide : 1 ≠ 10)) (gup_off e17 (ad_2 (by decide : 1 ≠ 9)) (gup_off e16 (ad_1 1 (by decide)) (gup_off e15 (ad_2 (by decide : 1 ≠ 7)) (gup_off e14 (ad_2 (by decide : 1 ≠ 8)) (gup_off e13 (ad_2 (by decide : 1 ≠ 7)) (gup_off e12 (ad_1 1 (by decide)) (gup_off e11 (ad_2 (by decide : 1 ≠ 5)) (gup_off e10 (ad_2 (by decide : 1 ≠ 6)) (gup_off e9 (ad_2 (by decide : 1 ≠ 5)) (gup_off e8 (ad_1 1 (by decide)) (gup_off e7 (ad_2 (by decide : 1 ≠ 3)) (gup_off e6 (ad_2 (by decide : 1 ≠ 4)) (gup_off e5 (ad_2 (by decide : 1 ≠ 3)) (gup_off e4 (ad_1 1 (by decide)) (gup_here e3))))))))))))))))))))))))))))))) (gup_off e33 (ad_1 2 (by decide)) (gup_off e32 (ad_1 2 (by decide)) (gup_off e31 (ad_2 (by decide : 2 ≠ 15)) (gup_off e30 (ad_2 (by decide : 2 ≠ 16)) (gup_off e29 (ad_2 (by decide : 2 ≠ 15)) (gup_off e28 (ad_1 2 (by decide)) (gup_off e27 (ad_2 (by decide : 2 ≠ 13)) (gup_off e26 (ad_2 (by decide : 2 ≠ 14)) (gup_off e25 (ad_2 (by decide : 2 ≠ 13)) (gup_off e24 (ad_1 2 (by decide)) (gup_off e23 (ad_2 (by decide : 2 ≠ 11)) (gup_off e22 (ad_2 (by decide : 2 ≠ 12)) (gup_off e21 (ad_2 (by decide : 2 ≠ 11)) (gup_off e20 (ad_1 2 (by decide)) (gup_off e19 (ad_2 (by decide : 2 ≠ 9)) (gup_off e18 (ad_2 (by decide : 2 ≠ 10)) (gup_off e17 (ad_2 (by decide : 2 ≠ 9)) (gup_off e16 (ad_1 2 (by decide)) (gup_off e15 (ad_2 (by decide : 2 ≠ 7)) (gup_off e14 (ad_2 (by decide : 2 ≠ 8)) (gup_off e13 (ad_2 (by decide : 2 ≠ 7)) (gup_off e12 (ad_1 2 (by decide)) (gup_off e11 (ad_2 (by decide : 2 ≠ 5)) (gup_off e10 (ad_2 (by decide : 2 ≠ 6)) (gup_off e9 (ad_2 (by decide : 2 ≠ 5)) (gup_off e8 (ad_1 2 (by decide)) (gup_off e7 (ad_2 (by decide : 2 ≠ 3)) (gup_off e6 (ad_2 (by decide : 2 ≠ 4)) (gup_off e5 (ad_2 (by decide : 2 ≠ 3)) (gup_off e4 (ad_1 2 (by decide)) (gup_off e3 (ad_2 (by decide : 2 ≠ 1)) (gup_here e2)))))))))))))))))))))))))))))))) (gup_off e33 (ad_1 3 (by decide)) (gup_off e32 (ad_1 3 (by decide)) (gup_off e31 (ad_2 (by decide : 3 ≠ 15)) (gup_off e30 (ad_2 (by decide : 3 ≠ 16)) (gup_off e29 (ad_2 (by decide : 3 ≠ 15)) (gup_off e28 (ad_1 3 (by decide)) (gup_off e27 (ad_2 (by decide : 3 ≠ 13)) (gup_off e26 (ad_2 (by decide : 3 ≠ 14)) (gup_off e25 (ad_2 (by decide : 3 ≠ 13)) (gup_off e24 (ad_1 3 (by decide)) (gup_off e23 (ad_2 (by decide : 3 ≠ 11)) (gup_off e22 (ad_2 (by decide : 3 ≠ 12)) (gup_off e21 (ad_2 (by decide : 3 ≠ 11)) (gup_off e20 (ad_1 3 (by decide)) (gup_off e19 (ad_2 (by decide : 3 ≠ 9)) (gup_off e18 (ad_2 (by decide : 3 ≠ 10)) (gup_off e17 (ad_2 (by decide : 3 ≠ 9)) (gup_off e16 (ad_1 3 (by decide)) (gup_off e15 (ad_2 (by decide : 3 ≠ 7)) (gup_off e14 (ad_2 (by decide : 3 ≠ 8)) (gup_off e13 (ad_2 (by decide : 3 ≠ 7)) (gup_off e12 (ad_1 3 (by decide)) (gup_off e11 (ad_2 (by decide : 3 ≠ 5)) (gup_off e10 (ad_2 (by decide : 3 ≠ 6)) (gup_off e9 (ad_2 (by decide : 3 ≠ 5)) (gup_off e8 (ad_1 3 (by decide)) (gup_here e7))))))))))))))))))))))))))) (gup_off e33 (ad_1 4 (by decide)) (gup_off e32 (ad_1 4 (by decide)) (gup_off e31 (ad_2 (by decide : 4 ≠ 15)) (gup_off e30 (ad_2 (by decide : 4 ≠ 16)) (gup_off e29 (ad_2 (by decide : 4 ≠ 15)) (gup_off e28 (ad_1 4 (by decide)) (gup_off e27 (ad_2 (by decide : 4 ≠ 13)) (gup_off e26 (ad_2 (by decide : 4 ≠ 14)) (gup_off e25 (ad_2 (by decide : 4 ≠ 13)) (gup_off e24 (ad_1 4 (by decide)) (gup_off e23 (ad_2 (by decide : 4 ≠ 11)) (gup_off e22 (ad_2 (by decide : 4 ≠ 12)) (gup_off e21 (ad_2 (by decide : 4 ≠ 11)) (gup_off e20 (ad_1 4 (by decide)) (gup_off e19 (ad_2 (by decide : 4 ≠ 9)) (gup_off e18 (ad_2 (by decide : 4 ≠ 10)) (gup_off e17 (ad_2 (by decide : 4 ≠ 9)) (gup_off e16 (ad_1 4 (by decide)) (gup_off e15 (ad_2 (by decide : 4 ≠ 7)) (gup_off e14 (ad_2 (by decide : 4 ≠ 8)) (gup_off e13 (ad_2 (by decide : 4 ≠ 7)) (gup_off e12 (ad_1 4 (by decide)) (gup_off e11 (ad_2 (by decide : 4 ≠ 5)) (gup_off e10 (ad_2 (by decide : 4 ≠ 6)) (gup_off e9 (ad_2 (by decide : 4 ≠ 5)) (gup_off e8 (ad_1 4 (by decide)) (gup_off e7 (ad_2 (by decide : 4 ≠ 3)) (gup_here e6)))))))))))))))))))))))))))) (gup_off e33 (ad_1 5 (by decide)) (gup_off e32 (ad_1 5 (by decide)) (gup_off e31 (ad_2 (by decide : 5 ≠ 15)) (gup_off e30 (ad_2 (by decide : 5 ≠ 16)) (gup_off e29 (ad_2 (by decide : 5 ≠ 15)) (gup_off e28 (ad_1 5 (by decide)) (gup_off e27 (ad_2 (by decide : 5 ≠ 13)) (gup_off e26 (ad_2 (by decide : 5 ≠ 14)) (gup_off e25 (ad_2 (by decide : 5 ≠ 13)) (gup_off e24 (ad_1 5 (by decide)) (gup_off e23 (ad_2 (by decide : 5 ≠ 11)) (gup_off e22 (ad_2 (by decide : 5 ≠ 12)) (gup_off e21 (ad_2 (by decide : 5 ≠ 11)) (gup_off e20 (ad_1 5 (by decide)) (gup_off e19 (ad_2 (by decide : 5 ≠ 9)) (gup_off e18 (ad_2 (by decide : 5 ≠ 10)) (gup_off e17 (ad_2 (by decide : 5 ≠ 9)) (gup_off e16 (ad_1 5 (by decide)) (gup_off e15 (ad_2 (by decide : 5 ≠ 7)) (gup_off e14 (ad_2 (by decide : 5 ≠ 8)) (gup_off e13 (ad_2 (by decide : 5 ≠ 7)) (gup_off e12 (ad_1 5 (by decide)) (gup_here e11))))))))))))))))))))))) (gup_off e33 (ad_1 6 (by decide)) (gup_off e32 (ad_1 6 (by decide)) (gup_off e31 (ad_2 (by decide : 6 ≠ 15)) (gup_off e30 (ad_2 (by decide : 6 ≠ 16)) (gup_off e29 (ad_2 (by decide : 6 ≠ 15)) (gup_off e28 (ad_1 6 (by decide)) (gup_off e27 (ad_2 (by decide : 6 ≠ 13)) (gup_off e26 (ad_2 (by decide : 6 ≠ 14)) (gup_off e25 (ad_2 (by decide : 6 ≠ 13)) (gup_off e24 (ad_1 6 (by decide)) (gup_off e23 (ad_2 (by decide : 6 ≠ 11)) (gup_off e22 (ad_2 (by decide : 6 ≠ 12)) (gup_off e21 (ad_2 (by decide : 6 ≠ 11)) (gup_off e20 (ad_1 6 (by decide)) (gup_off e19 (ad_2 (by decide : 6 ≠ 9)) (gup_off e18 (ad_2 (by decide : 6 ≠ 10)) (gup_off e17 (ad_2 (by decide : 6 ≠ 9)) (gup_off e16 (ad_1 6 (by decide)) (gup_off e15 (ad_2 (by decide : 6 ≠ 7)) (gup_off e14 (ad_2 (by decide : 6 ≠ 8)) (gup_off e13 (ad_2 (by decide : 6 ≠ 7)) (gup_off e12 (ad_1 6 (by decide)) (gup_off e11 (ad_2 (by decide : 6 ≠ 5)) (gup_here e10)))))))))))))))))))))))) (gup_off e33 (ad_1 7 (by decide)) (gup_off e32 (ad_1 7 (by decide)) (gup_off e31 (ad_2 (by decide : 7 ≠ 15)) (gup_off e30 (ad_2 (by decide : 7 ≠ 16)) (gup_off e29 (ad_2 (by decide : 7 ≠ 15)) (gup_off e28 (ad_1 7 (by decide)) (gup_off e27 (ad_2 (by decide : 7 ≠ 13)) (gup_off e26 (ad_2 (by decide : 7 ≠ 14)) (gup_off e25 (ad_2 (by decide : 7 ≠ 13)) (gup_off e24 (ad_1 7 (by decide)) (gup_off e23 (ad_2 (by decide : 7 ≠ 11)) (gup_off e22 (ad_2 (by decide : 7 ≠ 12)) (gup_off e21 (ad_2 (by decide : 7 ≠ 11)) (gup_off e20 (ad_1 7 (by decide)) (gup_off e19 (ad_2 (by decide : 7 ≠ 9)) (gup_off e18 (ad_2 (by decide : 7 ≠ 10)) (gup_off e17 (ad_2 (by decide : 7 ≠ 9)) (gup_off e16 (ad_1 7 (by decide)) (gup_here e15))))))))))))))))))) (gup_off e33 (ad_1 8 (by decide)) (gup_off e32 (ad_1 8 (by decide)) (gup_off e31 (ad_2 (by decide : 8 ≠ 15)) (gup_off e30 (ad_2 (by decide : 8 ≠ 16)) (gup_off e29 (ad_2 (by decide : 8 ≠ 15)) (gup_off e28 (ad_1 8 (by decide)) (gup_off e27 (ad_2 (by decide : 8 ≠ 13)) (gup_off e26 (ad_2 (by decide : 8 ≠ 14)) (gup_off e25 (ad_2 (by decide : 8 ≠ 13)) (gup_off e24 (ad_1 8 (by decide)) (gup_off e23 (ad_2 (by decide : 8 ≠ 11)) (gup_off e22 (ad_2 (by decide : 8 ≠ 12)) (gup_off e21 (ad_2 (by decide : 8 ≠ 11)) (gup_off e20 (ad_1 8 (by decide)) (gup_off e19 (ad_2 (by decide : 8 ≠ 9)) (gup_off e18 (ad_2 (by decide : 8 ≠ 10)) (gup_off e17 (ad_2 (by decide : 8 ≠ 9)) (gup_off e16 (ad_1 8 (by decide)) (gup_off e15 (ad_2 (by decide : 8 ≠ 7)) (gup_here e14)))))))))))))))))))) (gup_off e33 (ad_1 9 (by decide)) (gup_off e32 (ad_1 9 (by decide)) (gup_off e31 (ad_2 (by decide : 9 ≠ 15)) (gup_off e30 (ad_2 (by decide : 9 ≠ 16)) (gup_off e29 (ad_2 (by decide : 9 ≠ 15)) (gup_off e28 (ad_1 9 (by decide)) (gup_off e27 (ad_2 (by decide : 9 ≠ 13)) (gup_off e26 (ad_2 (by decide : 9 ≠ 14)) (gup_off e25 (ad_2 (by decide : 9 ≠ 13)) (gup_off e24 (ad_1 9 (by decide)) (gup_off e23 (ad_2 (by decide : 9 ≠ 11)) (gup_off e22 (ad_2 (by decide : 9 ≠ 12)) (gup_off e21 (ad_2 (by decide : 9 ≠ 11)) (gup_off e20 (ad_1 9 (by decide)) (gup_here e19))))))))))))))) (gup_off e33 (ad_1 10 (by decide)) (gup_off e32 (ad_1 10 (by decide)) (gup_off e31 (ad_2 (by decide : 10 ≠ 15)) (gup_off e30 (ad_2 (by decide : 10 ≠ 16)) (gup_off e29 (ad_2 (by decide : 10 ≠ 15)) (gup_off e28 (ad_1 10 (by decide)) (gup_off e27 (ad_2 (by decide : 10 ≠ 13)) (gup_off e26 (ad_2 (by decide : 10 ≠ 14)) (gup_off e25 (ad_2 (by decide : 10 ≠ 13)) (gup_off e24 (ad_1 10 (by decide)) (gup_off e23 (ad_2 (by decide : 10 ≠ 11)) (gup_off e22 (ad_2 (by decide : 10 ≠ 12)) (gup_off e21 (ad_2 (by decide : 10 ≠ 11)) (gup_off e20 (ad_1 10 (by decide)) (gup_off e19 (ad_2 (by decide : 10 ≠ 9)) (gup_here e18)))))))))))))))) (gup_off e33 (ad_1 11 (by decide)) (gup_off e32 (ad_1 11 (by decide)) (gup_off e31 (ad_2 (by decide : 11 ≠ 15)) (gup_off e30 (ad_2 (by decide : 11 ≠ 16)) (gup_off e29 (ad_2 (by decide : 11 ≠ 15)) (gup_off e28 (ad_1 11 (by decide)) (gup_off e27 (ad_2 (by decide : 11 ≠ 13)) (gup_off e26 (ad_2 (by decide : 11 ≠ 14)) (gup_off e25 (ad_2 (by decide : 11 ≠ 13)) (gup_off e24 (ad_1 11 (by decide)) (gup_here e23))))))))))) (gup_off e33 (ad_1 12 (by decide)) (gup_off e32 (ad_1 12 (by decide)) (gup_off e31 (ad_2 (by decide : 12 ≠ 15)) (gup_off e30 (ad_2 (by decide : 12 ≠ 16)) (gup_off e29 (ad_2 (by decide : 12 ≠ 15)) (gup_off e28 (ad_1 12 (by decide)) (gup_off e27 (ad_2 (by decide : 12 ≠ 13)) (gup_off e26 (ad_2 (by decide : 12 ≠ 14)) (gup_off e25 (ad_2 (by decide : 12 ≠ 13)) (gup_off e24 (ad_1 12 (by decide)) (gup_off e23 (ad_2 (by decide : 12 ≠ 11)) (gup_here e22)))))))))))) (gup_off e33 (ad_1 13 (by decide)) (gup_off e32 (ad_1 13 (by decide)) (gup_off e31 (ad_2 (by decide : 13 ≠ 15)) (gup_off e30 (ad_2 (by decide : 13 ≠ 16)) (gup_off e29 (ad_2 (by decide : 13 ≠ 15)) (gup_off e28 (ad_1 13 (by decide)) (gup_here e27))))))) (gup_off e33 (ad_1 14 (by decide)) (gup_off e32 (ad_1 14 (by decide)) (gup_off e31 (ad_2 (by decide : 14 ≠ 15)) (gup_off e30 (ad_2 (by decide : 14 ≠ 16)) (gup_off e29 (ad_2 (by decide : 14 ≠ 15)) (gup_off e28 (ad_1 14 (by decide)) (gup_off e27 (ad_2 (by decide : 14 ≠ 13)) (gup_here e26)))))))) (gup_off e33 (ad_1 15 (by decide)) (gup_off e32 (ad_1 15 (by decide)) (gup_here e31))) (gup_off e33 (ad_1 16 (by decide)) (gup_off e32 (ad_1 16 (by decide)) (gup_off e31 (ad_2 (by decide : 16 ≠ 15)) (gup_here e30)))), hag⟩)

theorem nX4_copyFrom_X4 : ∀ w ∈ wsX40, w ∈ wsX4_copyFrom := by decide +kernel
set_option maxHeartbeats 4000000 in
set_option maxRecDepth 100000 in
theorem c_X4_copyFrom (l : Launch) (x y : Nat) (S V : sS) (σ : gS) (sz : Nat) (hSt : StAt σ x S) (hSv : StAt σ y V) (hap : y + 17 ≤ x ∨ x + 17 ≤ y) (hB : sB V ≤ 96) (hN : sN V ≤ 12) (hKs : sK V ≤ 8) (hRs : sR V ≤ 8) : gM l yX4_copyFrom wsX4_copyFrom ({ frames := 2, cells := 0, slots := 0, locals := 43 } : Room) 0 0 [.ref x, .ref y] σ sz (gxv (fun τ n => n = sz ∧ StAt τ x (V) ∧ gAs (gZo x 17) σ τ)) := by
  refine gM_of (cc := cX4_copyFrom) (maxL := 2) (ret := none) (by decide) rfl (Nat.le_of_ble_eq_true rfl) ?_
  intro D ka lo hL hlo p e s m below meth c hx hb hr hts hown hml hlk hnm hK H locs ls hz hP hS hl
  have hl : lv_has ls 2 [(0, .ref x), (1, .ref y)] := hl
  have hown : s.vm.findClass RX4 = some m.cls := hown
  have hag : gAs (gZo x 17) σ σ := gAs.rf
  refine lv_aload_n hx hb dX4_copyFrom_0 rfl (lv_at hl 0 rfl) ?_
  refine lv_aload_n hx hb dX4_copyFrom_1 rfl (lv_at hl 1 rfl) ?_
  refine g_get (C := RX4) (T := TX4) (N := 13) hx hb hts hown hK hP hSv.c0 nX4_copyFrom_X4 rfl 0 (by decide) (by decide +kernel) rfl (v := .int (nI (sB V))) rfl dX4_copyFrom_2 ?_
  refine g_put (C := RX4) (T := TX4) (N := 13) hx hb hts hown hK hP hL hS hSt.c0 nX4_copyFrom_X4 tyX4 tyX4_ok nmX4 rfl 0 (by decide) (by decide +kernel) rfl rfl (v := .int (nI (sB V))) rfl rfl (Nat.le_of_ble_eq_true rfl) dX4_copyFrom_5 (fun H locs hq hP hL hS => ?_)
  have hz := hq.trans hz
  obtain ⟨σ1, e1⟩ : ∃ υ0 : gS, υ0 = gup σ x (gO 4 [.int (nI (sB V)), .int (nI (sN S)), .int (S 8 2), .int (nI (sK S)), .int (nI (sR S)), .ref (x + 1), .ref (x + 3), .ref (x + 5), .ref (x + 7), .ref (x + 9), .ref (x + 11), .ref (x + 13), .ref (x + 15)]) := ⟨_, rfl⟩
  have hP : gH D ka σ1 H := by rw [e1]; exact hP
  have hL : gL lo σ1 := by rw [e1]; exact hL
  have hSv := hSv.fr (τ := σ1) (fun q h1 h2 => gup_eq e1 (by omega))
  have hSt : StAt σ1 x (sPut S 8 0 (nI (sB V))) := by rw [e1]; exact hSt.p0 (sB V) (by omega)
  have hag := hag.upe e1 (zo_0 (by decide))
  refine lv_aload_n hx hb dX4_copyFrom_8 rfl (lv_at hl 0 rfl) ?_
  refine lv_aload_n hx hb dX4_copyFrom_9 rfl (lv_at hl 1 rfl) ?_
  refine g_get (C := RX4) (T := TX4) (N := 13) hx hb hts hown hK hP hSv.c0 nX4_copyFrom_X4 rfl 1 (by decide) (by decide +kernel) rfl (v := .int (nI (sN V))) rfl dX4_copyFrom_10 ?_
  refine g_put (C := RX4) (T := TX4) (N := 13) hx hb hts hown hK hP hL hS hSt.c0 nX4_copyFrom_X4 tyX4 tyX4_ok nmX4 rfl 1 (by decide) (by decide +kernel) rfl rfl (v := .int (nI (sN V))) rfl rfl (Nat.le_of_ble_eq_true rfl) dX4_copyFrom_13 (fun H locs hq hP hL hS => ?_)
  have hz := hq.trans hz
  obtain ⟨σ2, e2⟩ : ∃ υ0 : gS, υ0 = gup σ1 x (gO 4 [.int (nI (sB (sPut S 8 0 (nI (sB V))))), .int (nI (sN V)), .int ((sPut S 8 0 (nI (sB V))) 8 2), .int (nI (sK (sPut S 8 0 (nI (sB V))))), .int (nI (sR (sPut S 8 0 (nI (sB V))))), .ref (x + 1), .ref (x + 3), .ref (x + 5), .ref (x + 7), .ref (x + 9), .ref (x + 11), .ref (x + 13), .ref (x + 15)]) := ⟨_, rfl⟩
  have hP : gH D ka σ2 H := by rw [e2]; exact hP
  have hL : gL lo σ2 := by rw [e2]; exact hL
  have hSv := hSv.fr (τ := σ2) (fun q h1 h2 => gup_eq e2 (by omega))
  have hSt : StAt σ2 x (sPut (sPut S 8 0 (nI (sB V))) 8 1 (nI (sN V))) := by rw [e2]; exact hSt.p1 (sN V) (by omega)
  have hag := hag.upe e2 (zo_0 (by decide))
  refine lv_aload_n hx hb dX4_copyFrom_16 rfl (lv_at hl 0 rfl) ?_
  refine lv_aload_n hx hb dX4_copyFrom_17 rfl (lv_at hl 1 rfl) ?_
  refine g_get (C := RX4) (T := TX4) (N := 13) hx hb hts hown hK hP hSv.c0 nX4_copyFrom_X4 rfl 2 (by decide) (by decide +kernel) rfl (v := .int (V 8 2)) rfl dX4_copyFrom_18 ?_
  refine g_put (C := RX4) (T := TX4) (N := 13) hx hb hts hown hK hP hL hS hSt.c0 nX4_copyFrom_X4 tyX4 tyX4_ok nmX4 rfl 2 (by decide) (by decide +kernel) rfl rfl (v := .int (V 8 2)) rfl rfl (Nat.le_of_ble_eq_true rfl) dX4_copyFrom_21 (fun H locs hq hP hL hS => ?_)
  have hz := hq.trans hz
  obtain ⟨σ3, e3⟩ : ∃ υ0 : gS, υ0 = gup σ2 x (gO 4 [.int (nI (sB (sPut (sPut S 8 0 (nI (sB V))) 8 1 (nI (sN V))))), .int (nI (sN (sPut (sPut S 8 0 (nI (sB V))) 8 1 (nI (sN V))))), .int (V 8 2), .int (nI (sK (sPut (sPut S 8 0 (nI (sB V))) 8 1 (nI (sN V))))), .int (nI (sR (sPut (sPut S 8 0 (nI (sB V))) 8 1 (nI (sN V))))), .ref (x + 1), .ref (x + 3), .ref (x + 5), .ref (x + 7), .ref (x + 9), .ref (x + 11), .ref (x + 13), .ref (x + 15)]) := ⟨_, rfl⟩
  have hP : gH D ka σ3 H := by rw [e3]; exact hP
  have hL : gL lo σ3 := by rw [e3]; exact hL
  have hSv := hSv.fr (τ := σ3) (fun q h1 h2 => gup_eq e3 (by omega))
  have hSt : StAt σ3 x (sPut (sPut (sPut S 8 0 (nI (sB V))) 8 1 (nI (sN V))) 8 2 (V 8 2)) := by rw [e3]; exact hSt.p2 ((V 8 2))
  have hag := hag.upe e3 (zo_0 (by decide))
  refine lv_aload_n hx hb dX4_copyFrom_24 rfl (lv_at hl 0 rfl) ?_
  refine lv_aload_n hx hb dX4_copyFrom_25 rfl (lv_at hl 1 rfl) ?_
  refine g_get (C := RX4) (T := TX4) (N := 13) hx hb hts hown hK hP hSv.c0 nX4_copyFrom_X4 rfl 3 (by decide) (by decide +kernel) rfl (v := .int (nI (sK V))) rfl dX4_copyFrom_26 ?_
  refine g_put (C := RX4) (T := TX4) (N := 13) hx hb hts hown hK hP hL hS hSt.c0 nX4_copyFrom_X4 tyX4 tyX4_ok nmX4 rfl 3 (by decide) (by decide +kernel) rfl rfl (v := .int (nI (sK V))) rfl rfl (Nat.le_of_ble_eq_true rfl) dX4_copyFrom_29 (fun H locs hq hP hL hS => ?_)
  have hz := hq.trans hz
  obtain ⟨σ4, e4⟩ : ∃ υ0 : gS, υ0 = gup σ3 x (gO 4 [.int (nI (sB (sPut (sPut (sPut S 8 0 (nI (sB V))) 8 1 (nI (sN V))) 8 2 (V 8 2)))), .int (nI (sN (sPut (sPut (sPut S 8 0 (nI (sB V))) 8 1 (nI (sN V))) 8 2 (V 8 2)))), .int ((sPut (sPut (sPut S 8 0 (nI (sB V))) 8 1 (nI (sN V))) 8 2 (V 8 2)) 8 2), .int (nI (sK V)), .int (nI (sR (sPut (sPut (sPut S 8 0 (nI (sB V))) 8 1 (nI (sN V))) 8 2 (V 8 2)))), .ref (x + 1), .ref (x + 3), .ref (x + 5), .ref (x + 7), .ref (x + 9), .ref (x + 11), .ref (x + 13), .ref (x + 15)]) := ⟨_, rfl⟩
  have hP : gH D ka σ4 H := by rw [e4]; exact hP
  have hL : gL lo σ4 := by rw [e4]; exact hL
  have hSv := hSv.fr (τ := σ4) (fun q h1 h2 => gup_eq e4 (by omega))
  have hSt : StAt σ4 x (sPut (sPut (sPut (sPut S 8 0 (nI (sB V))) 8 1 (nI (sN V))) 8 2 (V 8 2)) 8 3 (nI (sK V))) := by rw [e4]; exact hSt.p3 (sK V) (by omega)
  have hag := hag.upe e4 (zo_0 (by decide))
  refine lv_aload_n hx hb dX4_copyFrom_32 rfl (lv_at hl 0 rfl) ?_
  refine lv_aload_n hx hb dX4_copyFrom_33 rfl (lv_at hl 1 rfl) ?_
  refine g_get (C := RX4) (T := TX4) (N := 13) hx hb hts hown hK hP hSv.c0 nX4_copyFrom_X4 rfl 4 (by decide) (by decide +kernel) rfl (v := .int (nI (sR V))) rfl dX4_copyFrom_34 ?_
  refine g_put (C := RX4) (T := TX4) (N := 13) hx hb hts hown hK hP hL hS hSt.c0 nX4_copyFrom_X4 tyX4 tyX4_ok nmX4 rfl 4 (by decide) (by decide +kernel) rfl rfl (v := .int (nI (sR V))) rfl rfl (Nat.le_of_ble_eq_true rfl) dX4_copyFrom_37 (fun H locs hq hP hL hS => ?_)
  have hz := hq.trans hz
  obtain ⟨σ5, e5⟩ : ∃ υ0 : gS, υ0 = gup σ4 x (gO 4 [.int (nI (sB (sPut (sPut (sPut (sPut S 8 0 (nI (sB V))) 8 1 (nI (sN V))) 8 2 (V 8 2)) 8 3 (nI (sK V))))), .int (nI (sN (sPut (sPut (sPut (sPut S 8 0 (nI (sB V))) 8 1 (nI (sN V))) 8 2 (V 8 2)) 8 3 (nI (sK V))))), .int ((sPut (sPut (sPut (sPut S 8 0 (nI (sB V))) 8 1 (nI (sN V))) 8 2 (V 8 2)) 8 3 (nI (sK V))) 8 2), .int (nI (sK (sPut (sPut (sPut (sPut S 8 0 (nI (sB V))) 8 1 (nI (sN V))) 8 2 (V 8 2)) 8 3 (nI (sK V))))), .int (nI (sR V)), .ref (x + 1), .ref (x + 3), .ref (x + 5), .ref (x + 7), .ref (x + 9), .ref (x + 11), .ref (x + 13), .ref (x + 15)]) := ⟨_, rfl⟩
  have hP : gH D ka σ5 H := by rw [e5]; exact hP
  have hL : gL lo σ5 := by rw [e5]; exact hL
  have hSv := hSv.fr (τ := σ5) (fun q h1 h2 => gup_eq e5 (by omega))
  have hSt : StAt σ5 x (sPut (sPut (sPut (sPut (sPut S 8 0 (nI (sB V))) 8 1 (nI (sN V))) 8 2 (V 8 2)) 8 3 (nI (sK V))) 8 4 (nI (sR V))) := by rw [e5]; exact hSt.p4 (sR V) (by omega)
  have hag := hag.upe e5 (zo_0 (by decide))
  refine lv_aload_n hx hb dX4_copyFrom_40 rfl (lv_at hl 0 rfl) ?_
  refine g_get (C := RX4) (T := TX4) (N := 13) hx hb hts hown hK hP hSt.c0 nX4_copyFrom_X4 rfl 5 (by decide) (by decide +kernel) rfl (v := .ref (x + 1)) rfl dX4_copyFrom_41 ?_
  refine lv_aload_n hx hb dX4_copyFrom_44 rfl (lv_at hl 1 rfl) ?_
  refine g_get (C := RX4) (T := TX4) (N := 13) hx hb hts hown hK hP hSv.c0 nX4_copyFrom_X4 rfl 5 (by decide) (by decide +kernel) rfl (v := .ref (y + 1)) rfl dX4_copyFrom_45 ?_
  refine g_runV (As := [.ref (y + 1)]) (rest := []) (own := RX4) (C := RX2) (T := TX2) (N := 1) 1 hx hb hml hown hts hK hz hP hL hS hlo hl.1 (c_X2_copyFrom l (x + 1) (y + 1) 96 ((sPut (sPut (sPut (sPut (sPut S 8 0 (nI (sB V))) 8 1 (nI (sN V))) 8 2 (V 8 2)) 8 3 (nI (sK V))) 8 4 (nI (sR V))) 0) (V 0) σ5 sz ⟨hSt.c1, hSt.c2⟩ ⟨hSv.c1, hSv.c2⟩ (by omega) (by omega)) gX4_copyFrom_X2_copyFrom rfl rfl rfl (by decide +kernel) ⟨Nat.le_of_ble_eq_true rfl, Nat.le_of_ble_eq_true rfl⟩ hSt.c1 rfl rfl rfl (Nat.le_of_ble_eq_true rfl) dX4_copyFrom_48 ⟨Nat.le_of_ble_eq_true rfl, Nat.le_of_ble_eq_true rfl⟩ (g_kv0 (fun H locs hz hP hL hS => ?_))
  obtain ⟨σ6, e6⟩ : ∃ υ0 : gS, υ0 = gup σ5 (x + 2) (gI 96 (V 0)) := ⟨_, rfl⟩
  have hP : gH D ka σ6 H := by rw [e6]; exact hP
  have hL : gL lo σ6 := by rw [e6]; exact hL
  have hSv := hSv.fr (τ := σ6) (fun q h1 h2 => gup_eq e6 (by omega))
  have hSt : StAt σ6 x (sRow (sPut (sPut (sPut (sPut (sPut S 8 0 (nI (sB V))) 8 1 (nI (sN V))) 8 2 (V 8 2)) 8 3 (nI (sK V))) 8 4 (nI (sR V))) 0 (V 0)) := by rw [e6]; exact hSt.w2 (V 0)
  have hag := hag.upe e6 (zo_k (by decide))
  refine lv_aload_n hx hb dX4_copyFrom_51 rfl (lv_at hl 0 rfl) ?_
  refine g_get (C := RX4) (T := TX4) (N := 13) hx hb hts hown hK hP hSt.c0 nX4_copyFrom_X4 rfl 6 (by decide) (by decide +kernel) rfl (v := .ref (x + 3)) rfl dX4_copyFrom_52 ?_
  refine lv_aload_n hx hb dX4_copyFrom_55 rfl (lv_at hl 1 rfl) ?_
  refine g_get (C := RX4) (T := TX4) (N := 13) hx hb hts hown hK hP hSv.c0 nX4_copyFrom_X4 rfl 6 (by decide) (by decide +kernel) rfl (v := .ref (y + 3)) rfl dX4_copyFrom_56 ?_
  refine g_runV (As := [.ref (y + 3)]) (rest := []) (own := RX4) (C := RX2) (T := TX2) (N := 1) 1 hx hb hml hown hts hK hz hP hL hS hlo hl.1 (c_X2_copyFrom l (x + 3) (y + 3) 96 ((sRow (sPut (sPut (sPut (sPut (sPut S 8 0 (nI (sB V))) 8 1 (nI (sN V))) 8 2 (V 8 2)) 8 3 (nI (sK V))) 8 4 (nI (sR V))) 0 (V 0)) 1) (V 1) σ6 sz ⟨hSt.c3, hSt.c4⟩ ⟨hSv.c3, hSv.c4⟩ (by omega) (by omega)) gX4_copyFrom_X2_copyFrom rfl rfl rfl (by decide +kernel) ⟨Nat.le_of_ble_eq_true rfl, Nat.le_of_ble_eq_true rfl⟩ hSt.c3 rfl rfl rfl (Nat.le_of_ble_eq_true rfl) dX4_copyFrom_59 ⟨Nat.le_of_ble_eq_true rfl, Nat.le_of_ble_eq_true rfl⟩ (g_kv0 (fun H locs hz hP hL hS => ?_))
  obtain ⟨σ7, e7⟩ : ∃ υ0 : gS, υ0 = gup σ6 (x + 4) (gI 96 (V 1)) := ⟨_, rfl⟩
  have hP : gH D ka σ7 H := by rw [e7]; exact hP
  have hL : gL lo σ7 := by rw [e7]; exact hL
  have hSv := hSv.fr (τ := σ7) (fun q h1 h2 => gup_eq e7 (by omega))
  have hSt : StAt σ7 x (sRow (sRow (sPut (sPut (sPut (sPut (sPut S 8 0 (nI (sB V))) 8 1 (nI (sN V))) 8 2 (V 8 2)) 8 3 (nI (sK V))) 8 4 (nI (sR V))) 0 (V 0)) 1 (V 1)) := by rw [e7]; exact hSt.w4 (V 1)
  have hag := hag.upe e7 (zo_k (by decide))
  refine lv_aload_n hx hb dX4_copyFrom_62 rfl (lv_at hl 0 rfl) ?_
  refine g_get (C := RX4) (T := TX4) (N := 13) hx hb hts hown hK hP hSt.c0 nX4_copyFrom_X4 rfl 7 (by decide) (by decide +kernel) rfl (v := .ref (x + 5)) rfl dX4_copyFrom_63 ?_
  refine lv_aload_n hx hb dX4_copyFrom_66 rfl (lv_at hl 1 rfl) ?_
  refine g_get (C := RX4) (T := TX4) (N := 13) hx hb hts hown hK hP hSv.c0 nX4_copyFrom_X4 rfl 7 (by decide) (by decide +kernel) rfl (v := .ref (y + 5)) rfl dX4_copyFrom_67 ?_
  refine g_runV (As := [.ref (y + 5)]) (rest := []) (own := RX4) (C := RX2) (T := TX2) (N := 1) 1 hx hb hml hown hts hK hz hP hL hS hlo hl.1 (c_X2_copyFrom l (x + 5) (y + 5) 96 ((sRow (sRow (sPut (sPut (sPut (sPut (sPut S 8 0 (nI (sB V))) 8 1 (nI (sN V))) 8 2 (V 8 2)) 8 3 (nI (sK V))) 8 4 (nI (sR V))) 0 (V 0)) 1 (V 1)) 2) (V 2) σ7 sz ⟨hSt.c5, hSt.c6⟩ ⟨hSv.c5, hSv.c6⟩ (by omega) (by omega)) gX4_copyFrom_X2_copyFrom rfl rfl rfl (by decide +kernel) ⟨Nat.le_of_ble_eq_true rfl, Nat.le_of_ble_eq_true rfl⟩ hSt.c5 rfl rfl rfl (Nat.le_of_ble_eq_true rfl) dX4_copyFrom_70 ⟨Nat.le_of_ble_eq_true rfl, Nat.le_of_ble_eq_true rfl⟩ (g_kv0 (fun H locs hz hP hL hS => ?_))
  obtain ⟨σ8, e8⟩ : ∃ υ0 : gS, υ0 = gup σ7 (x + 6) (gI 96 (V 2)) := ⟨_, rfl⟩
  have hP : gH D ka σ8 H := by rw [e8]; exact hP
  have hL : gL lo σ8 := by rw [e8]; exact hL
  have hSv := hSv.fr (τ := σ8) (fun q h1 h2 => gup_eq e8 (by omega))
  have hSt : StAt σ8 x (sRow (sRow (sRow (sPut (sPut (sPut (sPut (sPut S 8 0 (nI (sB V))) 8 1 (nI (sN V))) 8 2 (V 8 2)) 8 3 (nI (sK V))) 8 4 (nI (sR V))) 0 (V 0)) 1 (V 1)) 2 (V 2)) := by rw [e8]; exact hSt.w6 (V 2)
  have hag := hag.upe e8 (zo_k (by decide))
  refine lv_aload_n hx hb dX4_copyFrom_73 rfl (lv_at hl 0 rfl) ?_
  refine g_get (C := RX4) (T := TX4) (N := 13) hx hb hts hown hK hP hSt.c0 nX4_copyFrom_X4 rfl 8 (by decide) (by decide +kernel) rfl (v := .ref (x + 7)) rfl dX4_copyFrom_74 ?_
  refine lv_aload_n hx hb dX4_copyFrom_77 rfl (lv_at hl 1 rfl) ?_
  refine g_get (C := RX4) (T := TX4) (N := 13) hx hb hts hown hK hP hSv.c0 nX4_copyFrom_X4 rfl 8 (by decide) (by decide +kernel) rfl (v := .ref (y + 7)) rfl dX4_copyFrom_78 ?_
  refine g_runV (As := [.ref (y + 7)]) (rest := []) (own := RX4) (C := RX2) (T := TX2) (N := 1) 1 hx hb hml hown hts hK hz hP hL hS hlo hl.1 (c_X2_copyFrom l (x + 7) (y + 7) 12 ((sRow (sRow (sRow (sPut (sPut (sPut (sPut (sPut S 8 0 (nI (sB V))) 8 1 (nI (sN V))) 8 2 (V 8 2)) 8 3 (nI (sK V))) 8 4 (nI (sR V))) 0 (V 0)) 1 (V 1)) 2 (V 2)) 3) (V 3) σ8 sz ⟨hSt.c7, hSt.c8⟩ ⟨hSv.c7, hSv.c8⟩ (by omega) (by omega)) gX4_copyFrom_X2_copyFrom rfl rfl rfl (by decide +kernel) ⟨Nat.le_of_ble_eq_true rfl, Nat.le_of_ble_eq_true rfl⟩ hSt.c7 rfl rfl rfl (Nat.le_of_ble_eq_true rfl) dX4_copyFrom_81 ⟨Nat.le_of_ble_eq_true rfl, Nat.le_of_ble_eq_true rfl⟩ (g_kv0 (fun H locs hz hP hL hS => ?_))
  obtain ⟨σ9, e9⟩ : ∃ υ0 : gS, υ0 = gup σ8 (x + 8) (gI 12 (V 3)) := ⟨_, rfl⟩
  have hP : gH D ka σ9 H := by rw [e9]; exact hP
  have hL : gL lo σ9 := by rw [e9]; exact hL
  have hSv := hSv.fr (τ := σ9) (fun q h1 h2 => gup_eq e9 (by omega))
  have hSt : StAt σ9 x (sRow (sRow (sRow (sRow (sPut (sPut (sPut (sPut (sPut S 8 0 (nI (sB V))) 8 1 (nI (sN V))) 8 2 (V 8 2)) 8 3 (nI (sK V))) 8 4 (nI (sR V))) 0 (V 0)) 1 (V 1)) 2 (V 2)) 3 (V 3)) := by rw [e9]; exact hSt.w8 (V 3)
  have hag := hag.upe e9 (zo_k (by decide))
  refine lv_aload_n hx hb dX4_copyFrom_84 rfl (lv_at hl 0 rfl) ?_
  refine g_get (C := RX4) (T := TX4) (N := 13) hx hb hts hown hK hP hSt.c0 nX4_copyFrom_X4 rfl 9 (by decide) (by decide +kernel) rfl (v := .ref (x + 9)) rfl dX4_copyFrom_85 ?_
  refine lv_aload_n hx hb dX4_copyFrom_88 rfl (lv_at hl 1 rfl) ?_
  refine g_get (C := RX4) (T := TX4) (N := 13) hx hb hts hown hK hP hSv.c0 nX4_copyFrom_X4 rfl 9 (by decide) (by decide +kernel) rfl (v := .ref (y + 9)) rfl dX4_copyFrom_89 ?_
  refine g_runV (As := [.ref (y + 9)]) (rest := []) (own := RX4) (C := RX2) (T := TX2) (N := 1) 1 hx hb hml hown hts hK hz hP hL hS hlo hl.1 (c_X2_copyFrom l (x + 9) (y + 9) 12 ((sRow (sRow (sRow (sRow (sPut (sPut (sPut (sPut (sPut S 8 0 (nI (sB V))) 8 1 (nI (sN V))) 8 2 (V 8 2)) 8 3 (nI (sK V))) 8 4 (nI (sR V))) 0 (V 0)) 1 (V 1)) 2 (V 2)) 3 (V 3)) 4) (V 4) σ9 sz ⟨hSt.c9, hSt.c10⟩ ⟨hSv.c9, hSv.c10⟩ (by omega) (by omega)) gX4_copyFrom_X2_copyFrom rfl rfl rfl (by decide +kernel) ⟨Nat.le_of_ble_eq_true rfl, Nat.le_of_ble_eq_true rfl⟩ hSt.c9 rfl rfl rfl (Nat.le_of_ble_eq_true rfl) dX4_copyFrom_92 ⟨Nat.le_of_ble_eq_true rfl, Nat.le_of_ble_eq_true rfl⟩ (g_kv0 (fun H locs hz hP hL hS => ?_))
  obtain ⟨σ10, e10⟩ : ∃ υ0 : gS, υ0 = gup σ9 (x + 10) (gI 12 (V 4)) := ⟨_, rfl⟩
  have hP : gH D ka σ10 H := by rw [e10]; exact hP
  have hL : gL lo σ10 := by rw [e10]; exact hL
  have hSv := hSv.fr (τ := σ10) (fun q h1 h2 => gup_eq e10 (by omega))
  have hSt : StAt σ10 x (sRow (sRow (sRow (sRow (sRow (sPut (sPut (sPut (sPut (sPut S 8 0 (nI (sB V))) 8 1 (nI (sN V))) 8 2 (V 8 2)) 8 3 (nI (sK V))) 8 4 (nI (sR V))) 0 (V 0)) 1 (V 1)) 2 (V 2)) 3 (V 3)) 4 (V 4)) := by rw [e10]; exact hSt.w10 (V 4)
  have hag := hag.upe e10 (zo_k (by decide))
  refine lv_aload_n hx hb dX4_copyFrom_95 rfl (lv_at hl 0 rfl) ?_
  refine g_get (C := RX4) (T := TX4) (N := 13) hx hb hts hown hK hP hSt.c0 nX4_copyFrom_X4 rfl 10 (by decide) (by decide +kernel) rfl (v := .ref (x + 11)) rfl dX4_copyFrom_96 ?_
  refine lv_aload_n hx hb dX4_copyFrom_99 rfl (lv_at hl 1 rfl) ?_
  refine g_get (C := RX4) (T := TX4) (N := 13) hx hb hts hown hK hP hSv.c0 nX4_copyFrom_X4 rfl 10 (by decide) (by decide +kernel) rfl (v := .ref (y + 11)) rfl dX4_copyFrom_100 ?_
  refine g_runV (As := [.ref (y + 11)]) (rest := []) (own := RX4) (C := RX2) (T := TX2) (N := 1) 1 hx hb hml hown hts hK hz hP hL hS hlo hl.1 (c_X2_copyFrom l (x + 11) (y + 11) 8 ((sRow (sRow (sRow (sRow (sRow (sPut (sPut (sPut (sPut (sPut S 8 0 (nI (sB V))) 8 1 (nI (sN V))) 8 2 (V 8 2)) 8 3 (nI (sK V))) 8 4 (nI (sR V))) 0 (V 0)) 1 (V 1)) 2 (V 2)) 3 (V 3)) 4 (V 4)) 5) (V 5) σ10 sz ⟨hSt.c11, hSt.c12⟩ ⟨hSv.c11, hSv.c12⟩ (by omega) (by omega)) gX4_copyFrom_X2_copyFrom rfl rfl rfl (by decide +kernel) ⟨Nat.le_of_ble_eq_true rfl, Nat.le_of_ble_eq_true rfl⟩ hSt.c11 rfl rfl rfl (Nat.le_of_ble_eq_true rfl) dX4_copyFrom_103 ⟨Nat.le_of_ble_eq_true rfl, Nat.le_of_ble_eq_true rfl⟩ (g_kv0 (fun H locs hz hP hL hS => ?_))
  obtain ⟨σ11, e11⟩ : ∃ υ0 : gS, υ0 = gup σ10 (x + 12) (gI 8 (V 5)) := ⟨_, rfl⟩
  have hP : gH D ka σ11 H := by rw [e11]; exact hP
  have hL : gL lo σ11 := by rw [e11]; exact hL
  have hSv := hSv.fr (τ := σ11) (fun q h1 h2 => gup_eq e11 (by omega))
  have hSt : StAt σ11 x (sRow (sRow (sRow (sRow (sRow (sRow (sPut (sPut (sPut (sPut (sPut S 8 0 (nI (sB V))) 8 1 (nI (sN V))) 8 2 (V 8 2)) 8 3 (nI (sK V))) 8 4 (nI (sR V))) 0 (V 0)) 1 (V 1)) 2 (V 2)) 3 (V 3)) 4 (V 4)) 5 (V 5)) := by rw [e11]; exact hSt.w12 (V 5)
  have hag := hag.upe e11 (zo_k (by decide))
  refine lv_aload_n hx hb dX4_copyFrom_106 rfl (lv_at hl 0 rfl) ?_
  refine g_get (C := RX4) (T := TX4) (N := 13) hx hb hts hown hK hP hSt.c0 nX4_copyFrom_X4 rfl 11 (by decide) (by decide +kernel) rfl (v := .ref (x + 13)) rfl dX4_copyFrom_107 ?_
  refine lv_aload_n hx hb dX4_copyFrom_110 rfl (lv_at hl 1 rfl) ?_
  refine g_get (C := RX4) (T := TX4) (N := 13) hx hb hts hown hK hP hSv.c0 nX4_copyFrom_X4 rfl 11 (by decide) (by decide +kernel) rfl (v := .ref (y + 13)) rfl dX4_copyFrom_111 ?_
  refine g_runV (As := [.ref (y + 13)]) (rest := []) (own := RX4) (C := RX2) (T := TX2) (N := 1) 1 hx hb hml hown hts hK hz hP hL hS hlo hl.1 (c_X2_copyFrom l (x + 13) (y + 13) 8 ((sRow (sRow (sRow (sRow (sRow (sRow (sPut (sPut (sPut (sPut (sPut S 8 0 (nI (sB V))) 8 1 (nI (sN V))) 8 2 (V 8 2)) 8 3 (nI (sK V))) 8 4 (nI (sR V))) 0 (V 0)) 1 (V 1)) 2 (V 2)) 3 (V 3)) 4 (V 4)) 5 (V 5)) 6) (V 6) σ11 sz ⟨hSt.c13, hSt.c14⟩ ⟨hSv.c13, hSv.c14⟩ (by omega) (by omega)) gX4_copyFrom_X2_copyFrom rfl rfl rfl (by decide +kernel) ⟨Nat.le_of_ble_eq_true rfl, Nat.le_of_ble_eq_true rfl⟩ hSt.c13 rfl rfl rfl (Nat.le_of_ble_eq_true rfl) dX4_copyFrom_114 ⟨Nat.le_of_ble_eq_true rfl, Nat.le_of_ble_eq_true rfl⟩ (g_kv0 (fun H locs hz hP hL hS => ?_))
  obtain ⟨σ12, e12⟩ : ∃ υ0 : gS, υ0 = gup σ11 (x + 14) (gI 8 (V 6)) := ⟨_, rfl⟩
  have hP : gH D ka σ12 H := by rw [e12]; exact hP
  have hL : gL lo σ12 := by rw [e12]; exact hL
  have hSv := hSv.fr (τ := σ12) (fun q h1 h2 => gup_eq e12 (by omega))
  have hSt : StAt σ12 x (sRow (sRow (sRow (sRow (sRow (sRow (sRow (sPut (sPut (sPut (sPut (sPut S 8 0 (nI (sB V))) 8 1 (nI (sN V))) 8 2 (V 8 2)) 8 3 (nI (sK V))) 8 4 (nI (sR V))) 0 (V 0)) 1 (V 1)) 2 (V 2)) 3 (V 3)) 4 (V 4)) 5 (V 5)) 6 (V 6)) := by rw [e12]; exact hSt.w14 (V 6)
  have hag := hag.upe e12 (zo_k (by decide))
  refine lv_aload_n hx hb dX4_copyFrom_117 rfl (lv_at hl 0 rfl) ?_
  refine g_get (C := RX4) (T := TX4) (N := 13) hx hb hts hown hK hP hSt.c0 nX4_copyFrom_X4 rfl 12 (by decide) (by decide +kernel) rfl (v := .ref (x + 15)) rfl dX4_copyFrom_118 ?_
  refine lv_aload_n hx hb dX4_copyFrom_121 rfl (lv_at hl 1 rfl) ?_
  refine g_get (C := RX4) (T := TX4) (N := 13) hx hb hts hown hK hP hSv.c0 nX4_copyFrom_X4 rfl 12 (by decide) (by decide +kernel) rfl (v := .ref (y + 15)) rfl dX4_copyFrom_122 ?_
  refine g_runV (As := [.ref (y + 15)]) (rest := []) (own := RX4) (C := RX2) (T := TX2) (N := 1) 1 hx hb hml hown hts hK hz hP hL hS hlo hl.1 (c_X2_copyFrom l (x + 15) (y + 15) 8 ((sRow (sRow (sRow (sRow (sRow (sRow (sRow (sPut (sPut (sPut (sPut (sPut S 8 0 (nI (sB V))) 8 1 (nI (sN V))) 8 2 (V 8 2)) 8 3 (nI (sK V))) 8 4 (nI (sR V))) 0 (V 0)) 1 (V 1)) 2 (V 2)) 3 (V 3)) 4 (V 4)) 5 (V 5)) 6 (V 6)) 7) (V 7) σ12 sz ⟨hSt.c15, hSt.c16⟩ ⟨hSv.c15, hSv.c16⟩ (by omega) (by omega)) gX4_copyFrom_X2_copyFrom rfl rfl rfl (by decide +kernel) ⟨Nat.le_of_ble_eq_true rfl, Nat.le_of_ble_eq_true rfl⟩ hSt.c15 rfl rfl rfl (Nat.le_of_ble_eq_true rfl) dX4_copyFrom_125 ⟨Nat.le_of_ble_eq_true rfl, Nat.le_of_ble_eq_true rfl⟩ (g_kv0 (fun H locs hz hP hL hS => ?_))
  obtain ⟨σ13, e13⟩ : ∃ υ0 : gS, υ0 = gup σ12 (x + 16) (gI 8 (V 7)) := ⟨_, rfl⟩
  have hP : gH D ka σ13 H := by rw [e13]; exact hP
  have hL : gL lo σ13 := by rw [e13]; exact hL
  have hSv := hSv.fr (τ := σ13) (fun q h1 h2 => gup_eq e13 (by omega))
  have hSt : StAt σ13 x (sRow (sRow (sRow (sRow (sRow (sRow (sRow (sRow (sPut (sPut (sPut (sPut (sPut S 8 0 (nI (sB V))) 8 1 (nI (sN V))) 8 2 (V 8 2)) 8 3 (nI (sK V))) 8 4 (nI (sR V))) 0 (V 0)) 1 (V 1)) 2 (V 2)) 3 (V 3)) 4 (V 4)) 5 (V 5)) 6 (V 6)) 7 (V 7)) := by rw [e13]; exact hSt.w16 (V 7)
  have hag := hag.upe e13 (zo_k (by decide))
  exact g_vret (z := sz) hx hb hr hlk hz hP hL hS dX4_copyFrom_128 (gxv_i ⟨rfl, hSt.congr (fun j hj => by rcases (show j = 0 ∨ j = 1 ∨ j = 2 ∨ j = 3 ∨ j = 4 ∨ j = 5 ∨ j = 6 ∨ j = 7 by omega) with rfl | rfl | rfl | rfl | rfl | rfl | rfl | rfl <;> rfl) (nI_clamp (by omega)) (nI_clamp (by omega)) rfl (nI_clamp (by omega)) (nI_clamp (by omega)), hag⟩)

theorem nX4_clearScore_X4 : ∀ w ∈ wsX40, w ∈ wsX4_clearScore := by decide +kernel
set_option maxHeartbeats 4000000 in
set_option maxRecDepth 100000 in
theorem c_X4_clearScore (l : Launch) (x : Nat) (S : sS) (σ : gS) (sz : Nat) (hSt : StAt σ x S) : gM l yX4_clearScore wsX4_clearScore ({ frames := 1, cells := 0, slots := 0, locals := 21 } : Room) 0 0 [.ref x] σ sz (gxv (fun τ n => n = sz ∧ StAt τ x (clearS S) ∧ gAs (gZo x 17) σ τ)) := by
  refine gM_of (cc := cX4_clearScore) (maxL := 1) (ret := none) (by decide) rfl (Nat.le_of_ble_eq_true rfl) ?_
  intro D ka lo hL hlo p e s m below meth c hx hb hr hts hown hml hlk hnm hK H locs ls hz hP hS hl
  have hl : lv_has ls 1 [(0, .ref x)] := hl
  have hown : s.vm.findClass RX4 = some m.cls := hown
  have hag : gAs (gZo x 17) σ σ := gAs.rf
  refine lv_aload_n hx hb dX4_clearScore_0 rfl (lv_at hl 0 rfl) ?_
  refine lv_iconst (v := (nI 0)) hx hb dX4_clearScore_1 (by decide) ?_
  refine g_put (C := RX4) (T := TX4) (N := 13) hx hb hts hown hK hP hL hS hSt.c0 nX4_clearScore_X4 tyX4 tyX4_ok nmX4 rfl 0 (by decide) (by decide +kernel) rfl rfl (v := .int (nI 0)) rfl rfl (Nat.le_of_ble_eq_true rfl) dX4_clearScore_2 (fun H locs hq hP hL hS => ?_)
  have hz := hq.trans hz
  obtain ⟨σ1, e1⟩ : ∃ υ0 : gS, υ0 = gup σ x (gO 4 [.int (nI 0), .int (nI (sN S)), .int (S 8 2), .int (nI (sK S)), .int (nI (sR S)), .ref (x + 1), .ref (x + 3), .ref (x + 5), .ref (x + 7), .ref (x + 9), .ref (x + 11), .ref (x + 13), .ref (x + 15)]) := ⟨_, rfl⟩
  have hP : gH D ka σ1 H := by rw [e1]; exact hP
  have hL : gL lo σ1 := by rw [e1]; exact hL
  have hSt : StAt σ1 x (sPut S 8 0 (nI 0)) := by rw [e1]; exact hSt.p0 0 (by omega)
  have hag := hag.upe e1 (zo_0 (by decide))
  refine lv_aload_n hx hb dX4_clearScore_5 rfl (lv_at hl 0 rfl) ?_
  refine lv_iconst (v := (nI 0)) hx hb dX4_clearScore_6 (by decide) ?_
  refine g_put (C := RX4) (T := TX4) (N := 13) hx hb hts hown hK hP hL hS hSt.c0 nX4_clearScore_X4 tyX4 tyX4_ok nmX4 rfl 3 (by decide) (by decide +kernel) rfl rfl (v := .int (nI 0)) rfl rfl (Nat.le_of_ble_eq_true rfl) dX4_clearScore_7 (fun H locs hq hP hL hS => ?_)
  have hz := hq.trans hz
  obtain ⟨σ2, e2⟩ : ∃ υ0 : gS, υ0 = gup σ1 x (gO 4 [.int (nI (sB (sPut S 8 0 (nI 0)))), .int (nI (sN (sPut S 8 0 (nI 0)))), .int ((sPut S 8 0 (nI 0)) 8 2), .int (nI 0), .int (nI (sR (sPut S 8 0 (nI 0)))), .ref (x + 1), .ref (x + 3), .ref (x + 5), .ref (x + 7), .ref (x + 9), .ref (x + 11), .ref (x + 13), .ref (x + 15)]) := ⟨_, rfl⟩
  have hP : gH D ka σ2 H := by rw [e2]; exact hP
  have hL : gL lo σ2 := by rw [e2]; exact hL
  have hSt : StAt σ2 x (sPut (sPut S 8 0 (nI 0)) 8 3 (nI 0)) := by rw [e2]; exact hSt.p3 0 (by omega)
  have hag := hag.upe e2 (zo_0 (by decide))
  refine lv_aload_n hx hb dX4_clearScore_10 rfl (lv_at hl 0 rfl) ?_
  refine g_get (C := RX4) (T := TX4) (N := 13) hx hb hts hown hK hP hSt.c0 nX4_clearScore_X4 rfl 7 (by decide) (by decide +kernel) rfl (v := .ref (x + 5)) rfl dX4_clearScore_11 ?_
  refine g_runV (As := []) (rest := []) (own := RX4) (C := RX2) (T := TX2) (N := 1) 0 hx hb hml hown hts hK hz hP hL hS hlo hl.1 (c_X2_clear l (x + 5) 96 ((sPut (sPut S 8 0 (nI 0)) 8 3 (nI 0)) 2) σ2 sz ⟨hSt.c5, hSt.c6⟩ (by omega)) gX4_clearScore_X2_clear rfl rfl rfl (by decide +kernel) ⟨Nat.le_of_ble_eq_true rfl, Nat.le_of_ble_eq_true rfl⟩ hSt.c5 rfl rfl rfl (Nat.le_of_ble_eq_true rfl) dX4_clearScore_14 ⟨Nat.le_of_ble_eq_true rfl, Nat.le_of_ble_eq_true rfl⟩ (g_kv0 (fun H locs hz hP hL hS => ?_))
  obtain ⟨σ3, e3⟩ : ∃ υ0 : gS, υ0 = gup σ2 (x + 6) (gI 96 (fun _ => 0)) := ⟨_, rfl⟩
  have hP : gH D ka σ3 H := by rw [e3]; exact hP
  have hL : gL lo σ3 := by rw [e3]; exact hL
  have hSt : StAt σ3 x (sRow (sPut (sPut S 8 0 (nI 0)) 8 3 (nI 0)) 2 (fun _ => 0)) := by rw [e3]; exact hSt.w6 (fun _ => 0)
  have hag := hag.upe e3 (zo_k (by decide))
  exact g_vret (z := sz) hx hb hr hlk hz hP hL hS dX4_clearScore_17 (gxv_i ⟨rfl, hSt, hag⟩)

theorem nX4_appendBeats_X4 : ∀ w ∈ wsX40, w ∈ wsX4_appendBeats := by decide +kernel
set_option maxHeartbeats 4000000 in
set_option maxRecDepth 100000 in
theorem c_X4_appendBeats (l : Launch) (x : Nat) (S : sS) (so lo0 : Int32) (t : Nat) (σ : gS) (sz : Nat) (hSt : StAt σ x S) (hB : sB S + t ≤ 96) : gM l yX4_appendBeats wsX4_appendBeats ({ frames := 1, cells := 0, slots := 0, locals := 22 } : Room) 0 0 [.ref x, .int so, .int lo0, .int (nI t)] σ sz (gxv (fun τ n => n = sz ∧ StAt τ x (appF S so lo0 t) ∧ gAs (gZo x 17) σ τ)) := by
  refine gM_of (cc := cX4_appendBeats) (maxL := 5) (ret := none) (by decide) rfl (Nat.le_of_ble_eq_true rfl) ?_
  intro D ka lo hL hlo p e s m below meth c hx hb hr hts hown hml hlk hnm hK H locs ls hz hP hS hl
  have hl : lv_has ls 5 [(0, .ref x), (1, .int so), (2, .int lo0), (3, .int (nI t))] := hl
  have hown : s.vm.findClass RX4 = some m.cls := hown
  have hag : gAs (gZo x 17) σ σ := gAs.rf
  refine lv_iconst (v := (nI 0)) hx hb dX4_appendBeats_0 (by decide) ?_
  refine lv_istore (lv' := [(4, .int (nI 0)), (0, .ref x), (1, .int so), (2, .int lo0), (3, .int (nI t))]) hx hb dX4_appendBeats_1 hl (by decide) rfl (fun ls hl => ?_)
  have lp : ∀ (fu_lp : Nat) (k : Nat), (k ≤ t) → (t - k < fu_lp) → ∀ (υ : gS), (StAt υ x (appF S so lo0 k)) → (gAs (gZo x 17) σ υ) → gL lo υ → ∀ (H : Heap) (locs : List Loc) (ls : Array Slot), H.size = sz → gH D ka υ H → va_S (gA lo) s.heap H locs → lv_has ls 5 [(0, .ref x), (1, .int so), (2, .int lo0), (3, .int (nI t)), (4, .int (nI k))] → W p l e ({ frames := 1, cells := 0, slots := 0, locals := 22 } : Room) s m ([.ref x, .int so, .int lo0, .int (nI t)] : List Value).toArray below meth c H locs (0) (0) (MQ below (gQ D ka lo (gxv (fun τ n => n = sz ∧ StAt τ x (appF S so lo0 t) ∧ gAs (gZo x 17) σ τ))) ([.ref x, .int so, .int lo0, .int (nI t)] : List Value).toArray s 0 0 (gA lo)) (F0 m 3 ls []) := by
    intro fu_lp
    induction fu_lp with
    | zero => intro k hk hm_lp; exact absurd hm_lp (Nat.not_lt_zero _)
    | succ fu_lp ih_lp =>
      intro k hk hm_lp υ hSt hag hL H locs ls hz hP hS hl
      have hb2 := appF_B S so lo0 k (by omega)
      refine lv_iload hx hb dX4_appendBeats_3 (lv_at hl 4 rfl) ?_
      refine lv_iload_n hx hb dX4_appendBeats_5 rfl (lv_at hl 3 rfl) ?_
      refine g_icmp_ge (tgt := 58) (a := k) (b := t) hx hb (by omega) (by omega) dX4_appendBeats_6 (by decide) (fun c6 => ?_) (fun c6 => ?_)
      · exact g_vret (z := sz) hx hb hr hlk hz hP hL hS dX4_appendBeats_58 (gxv_i ⟨rfl, (show k = t by omega) ▸ hSt, hag⟩)
      · refine lv_aload_n hx hb dX4_appendBeats_9 rfl (lv_at hl 0 rfl) ?_
        refine g_get (C := RX4) (T := TX4) (N := 13) hx hb hts hown hK hP hSt.c0 nX4_appendBeats_X4 rfl 0 (by decide) (by decide +kernel) rfl (v := .int (nI (sB (appF S so lo0 k)))) rfl dX4_appendBeats_10 ?_
        refine g_top (y := (nI (sB S + k))) (congrArg nI hb2) ?_
        refine lv_bipush (v := (nI 96)) hx hb dX4_appendBeats_13 (by decide) ?_
        refine g_icmp_ge (tgt := 58) (a := sB S + k) (b := 96) hx hb (by omega) (by omega) dX4_appendBeats_15 (by decide) (fun c15 => ?_) (fun c15 => ?_)
        · exact False.elim (by omega)
        · refine lv_aload_n hx hb dX4_appendBeats_18 rfl (lv_at hl 0 rfl) ?_
          refine g_get (C := RX4) (T := TX4) (N := 13) hx hb hts hown hK hP hSt.c0 nX4_appendBeats_X4 rfl 5 (by decide) (by decide +kernel) rfl (v := .ref (x + 1)) rfl dX4_appendBeats_19 ?_
          refine lv_aload_n hx hb dX4_appendBeats_22 rfl (lv_at hl 0 rfl) ?_
          refine g_get (C := RX4) (T := TX4) (N := 13) hx hb hts hown hK hP hSt.c0 nX4_appendBeats_X4 rfl 0 (by decide) (by decide +kernel) rfl (v := .int (nI (sB (appF S so lo0 k)))) rfl dX4_appendBeats_23 ?_
          refine g_top (y := (nI (sB S + k))) (congrArg nI hb2) ?_
          refine lv_iload_n hx hb dX4_appendBeats_26 rfl (lv_at hl 1 rfl) ?_
          refine g_runV (As := [.int (nI (sB S + k)), .int so]) (rest := []) (own := RX4) (C := RX2) (T := TX2) (N := 1) 2 hx hb hml hown hts hK hz hP hL hS hlo hl.1 (c_X2_put l (x + 1) 96 (sB S + k) ((appF S so lo0 k) 0) so υ sz ⟨hSt.c1, hSt.c2⟩ (by omega) (by omega)) gX4_appendBeats_X2_put rfl rfl rfl (by decide +kernel) ⟨Nat.le_of_ble_eq_true rfl, Nat.le_of_ble_eq_true rfl⟩ hSt.c1 rfl rfl rfl (Nat.le_of_ble_eq_true rfl) dX4_appendBeats_27 ⟨Nat.le_of_ble_eq_true rfl, Nat.le_of_ble_eq_true rfl⟩ (g_kv0 (fun H locs hz hP hL hS => ?_))
          obtain ⟨σ1, e1⟩ : ∃ υ0 : gS, υ0 = gup υ (x + 2) (gI 96 (upd ((appF S so lo0 k) 0) (sB S + k) so)) := ⟨_, rfl⟩
          have hP : gH D ka σ1 H := by rw [e1]; exact hP
          have hL : gL lo σ1 := by rw [e1]; exact hL
          have hSt : StAt σ1 x (sRow (appF S so lo0 k) 0 (upd ((appF S so lo0 k) 0) (sB S + k) so)) := by rw [e1]; exact hSt.w2 (upd ((appF S so lo0 k) 0) (sB S + k) so)
          have hag := hag.upe e1 (zo_k (by decide))
          refine lv_aload_n hx hb dX4_appendBeats_30 rfl (lv_at hl 0 rfl) ?_
          refine g_get (C := RX4) (T := TX4) (N := 13) hx hb hts hown hK hP hSt.c0 nX4_appendBeats_X4 rfl 6 (by decide) (by decide +kernel) rfl (v := .ref (x + 3)) rfl dX4_appendBeats_31 ?_
          refine lv_aload_n hx hb dX4_appendBeats_34 rfl (lv_at hl 0 rfl) ?_
          refine g_get (C := RX4) (T := TX4) (N := 13) hx hb hts hown hK hP hSt.c0 nX4_appendBeats_X4 rfl 0 (by decide) (by decide +kernel) rfl (v := .int (nI (sB (sRow (appF S so lo0 k) 0 (upd ((appF S so lo0 k) 0) (sB S + k) so))))) rfl dX4_appendBeats_35 ?_
          refine g_top (y := (nI (sB S + k))) (congrArg nI hb2) ?_
          refine lv_iload_n hx hb dX4_appendBeats_38 rfl (lv_at hl 2 rfl) ?_
          refine g_runV (As := [.int (nI (sB S + k)), .int lo0]) (rest := []) (own := RX4) (C := RX2) (T := TX2) (N := 1) 2 hx hb hml hown hts hK hz hP hL hS hlo hl.1 (c_X2_put l (x + 3) 96 (sB S + k) ((sRow (appF S so lo0 k) 0 (upd ((appF S so lo0 k) 0) (sB S + k) so)) 1) lo0 σ1 sz ⟨hSt.c3, hSt.c4⟩ (by omega) (by omega)) gX4_appendBeats_X2_put rfl rfl rfl (by decide +kernel) ⟨Nat.le_of_ble_eq_true rfl, Nat.le_of_ble_eq_true rfl⟩ hSt.c3 rfl rfl rfl (Nat.le_of_ble_eq_true rfl) dX4_appendBeats_39 ⟨Nat.le_of_ble_eq_true rfl, Nat.le_of_ble_eq_true rfl⟩ (g_kv0 (fun H locs hz hP hL hS => ?_))
          obtain ⟨σ2, e2⟩ : ∃ υ0 : gS, υ0 = gup σ1 (x + 4) (gI 96 (upd ((sRow (appF S so lo0 k) 0 (upd ((appF S so lo0 k) 0) (sB S + k) so)) 1) (sB S + k) lo0)) := ⟨_, rfl⟩
          have hP : gH D ka σ2 H := by rw [e2]; exact hP
          have hL : gL lo σ2 := by rw [e2]; exact hL
          have hSt : StAt σ2 x (sRow (sRow (appF S so lo0 k) 0 (upd ((appF S so lo0 k) 0) (sB S + k) so)) 1 (upd ((sRow (appF S so lo0 k) 0 (upd ((appF S so lo0 k) 0) (sB S + k) so)) 1) (sB S + k) lo0)) := by rw [e2]; exact hSt.w4 (upd ((sRow (appF S so lo0 k) 0 (upd ((appF S so lo0 k) 0) (sB S + k) so)) 1) (sB S + k) lo0)
          have hag := hag.upe e2 (zo_k (by decide))
          refine lv_aload_n hx hb dX4_appendBeats_42 rfl (lv_at hl 0 rfl) ?_
          refine lv_dup hx hb dX4_appendBeats_43 rfl ?_
          refine g_get (C := RX4) (T := TX4) (N := 13) hx hb hts hown hK hP hSt.c0 nX4_appendBeats_X4 rfl 0 (by decide) (by decide +kernel) rfl (v := .int (nI (sB (sRow (sRow (appF S so lo0 k) 0 (upd ((appF S so lo0 k) 0) (sB S + k) so)) 1 (upd ((sRow (appF S so lo0 k) 0 (upd ((appF S so lo0 k) 0) (sB S + k) so)) 1) (sB S + k) lo0))))) rfl dX4_appendBeats_44 ?_
          refine g_top (y := (nI (sB S + k))) (congrArg nI hb2) ?_
          refine lv_iconst (v := (nI 1)) hx hb dX4_appendBeats_47 (by decide) ?_
          refine lv_iadd hx hb dX4_appendBeats_48 ?_
          refine g_top (nI_add (sB S + k) 1) ?_
          refine g_put (C := RX4) (T := TX4) (N := 13) hx hb hts hown hK hP hL hS hSt.c0 nX4_appendBeats_X4 tyX4 tyX4_ok nmX4 rfl 0 (by decide) (by decide +kernel) rfl rfl (v := .int (nI ((sB S + k) + 1))) rfl rfl (Nat.le_of_ble_eq_true rfl) dX4_appendBeats_49 (fun H locs hq hP hL hS => ?_)
          have hz := hq.trans hz
          obtain ⟨σ3, e3⟩ : ∃ υ0 : gS, υ0 = gup σ2 x (gO 4 [.int (nI ((sB S + k) + 1)), .int (nI (sN (sRow (sRow (appF S so lo0 k) 0 (upd ((appF S so lo0 k) 0) (sB S + k) so)) 1 (upd ((sRow (appF S so lo0 k) 0 (upd ((appF S so lo0 k) 0) (sB S + k) so)) 1) (sB S + k) lo0)))), .int ((sRow (sRow (appF S so lo0 k) 0 (upd ((appF S so lo0 k) 0) (sB S + k) so)) 1 (upd ((sRow (appF S so lo0 k) 0 (upd ((appF S so lo0 k) 0) (sB S + k) so)) 1) (sB S + k) lo0)) 8 2), .int (nI (sK (sRow (sRow (appF S so lo0 k) 0 (upd ((appF S so lo0 k) 0) (sB S + k) so)) 1 (upd ((sRow (appF S so lo0 k) 0 (upd ((appF S so lo0 k) 0) (sB S + k) so)) 1) (sB S + k) lo0)))), .int (nI (sR (sRow (sRow (appF S so lo0 k) 0 (upd ((appF S so lo0 k) 0) (sB S + k) so)) 1 (upd ((sRow (appF S so lo0 k) 0 (upd ((appF S so lo0 k) 0) (sB S + k) so)) 1) (sB S + k) lo0)))), .ref (x + 1), .ref (x + 3), .ref (x + 5), .ref (x + 7), .ref (x + 9), .ref (x + 11), .ref (x + 13), .ref (x + 15)]) := ⟨_, rfl⟩
          have hP : gH D ka σ3 H := by rw [e3]; exact hP
          have hL : gL lo σ3 := by rw [e3]; exact hL
          have hSt : StAt σ3 x (sPut (sRow (sRow (appF S so lo0 k) 0 (upd ((appF S so lo0 k) 0) (sB S + k) so)) 1 (upd ((sRow (appF S so lo0 k) 0 (upd ((appF S so lo0 k) 0) (sB S + k) so)) 1) (sB S + k) lo0)) 8 0 (nI ((sB S + k) + 1))) := by rw [e3]; exact hSt.p0 ((sB S + k) + 1) (by omega)
          have hag := hag.upe e3 (zo_0 (by decide))
          refine lv_iinc (v := (nI (k + 1))) (lv' := [(4, .int (nI (k + 1))), (0, .ref x), (1, .int so), (2, .int lo0), (3, .int (nI t))]) hx hb dX4_appendBeats_52 hl (k := 4) rfl (g_inc k 1) (by decide) rfl (fun ls hl => ?_)
          refine lv_goto (tgt := 3) hx hb dX4_appendBeats_55 (by decide) ?_
          exact ih_lp (k + 1) (by omega) (by omega) σ3 (by rw [appF, hb2]; exact hSt) hag hL H locs ls hz hP hS (lv_sub hl [1, 2, 3, 4, 0] rfl)
  exact lp _ 0 (by omega) (Nat.lt_succ_self _) σ hSt gAs.rf hL H locs ls hz hP hS (lv_sub hl [1, 2, 3, 4, 0] rfl)

theorem nX4_appendSinger_X4 : ∀ w ∈ wsX40, w ∈ wsX4_appendSinger := by decide +kernel
set_option maxHeartbeats 4000000 in
set_option maxRecDepth 100000 in
theorem c_X4_appendSinger (l : Launch) (x : Nat) (S : sS) (br rc : Int32) (σ : gS) (sz : Nat) (hSt : StAt σ x S) (hN : sN S < 12) : gM l yX4_appendSinger wsX4_appendSinger ({ frames := 1, cells := 0, slots := 0, locals := 22 } : Room) 0 0 [.ref x, .int br, .int rc] σ sz (gxi (fun r τ n => (r = nI (sN S)) ∧ n = sz ∧ StAt τ x (addS S br rc) ∧ gAs (gZo x 17) σ τ)) := by
  refine gM_of (cc := cX4_appendSinger) (maxL := 4) (ret := (some .int)) (by decide) rfl (Nat.le_of_ble_eq_true rfl) ?_
  intro D ka lo hL hlo p e s m below meth c hx hb hr hts hown hml hlk hnm hK H locs ls hz hP hS hl
  have hl : lv_has ls 4 [(0, .ref x), (1, .int br), (2, .int rc)] := hl
  have hown : s.vm.findClass RX4 = some m.cls := hown
  have hag : gAs (gZo x 17) σ σ := gAs.rf
  refine lv_aload_n hx hb dX4_appendSinger_0 rfl (lv_at hl 0 rfl) ?_
  refine g_get (C := RX4) (T := TX4) (N := 13) hx hb hts hown hK hP hSt.c0 nX4_appendSinger_X4 rfl 1 (by decide) (by decide +kernel) rfl (v := .int (nI (sN S))) rfl dX4_appendSinger_1 ?_
  refine lv_istore_n (lv' := [(3, .int (nI (sN S))), (0, .ref x), (1, .int br), (2, .int rc)]) hx hb dX4_appendSinger_4 rfl hl (by decide) rfl (fun ls hl => ?_)
  refine lv_aload_n hx hb dX4_appendSinger_5 rfl (lv_at hl 1 rfl) ?_
  refine g_get (C := RX4) (T := TX4) (N := 13) hx hb hts hown hK hP hSt.c0 nX4_appendSinger_X4 rfl 8 (by decide) (by decide +kernel) rfl (v := .ref (x + 7)) rfl dX4_appendSinger_6 ?_
  refine lv_iload_n hx hb dX4_appendSinger_9 rfl (lv_at hl 0 rfl) ?_
  refine lv_iload_n hx hb dX4_appendSinger_10 rfl (lv_at hl 2 rfl) ?_
  refine g_runV (As := [.int (nI (sN S)), .int br]) (rest := []) (own := RX4) (C := RX2) (T := TX2) (N := 1) 2 hx hb hml hown hts hK hz hP hL hS hlo hl.1 (c_X2_put l (x + 7) 12 (sN S) (S 3) br σ sz ⟨hSt.c7, hSt.c8⟩ (by omega) (by omega)) gX4_appendSinger_X2_put rfl rfl rfl (by decide +kernel) ⟨Nat.le_of_ble_eq_true rfl, Nat.le_of_ble_eq_true rfl⟩ hSt.c7 rfl rfl rfl (Nat.le_of_ble_eq_true rfl) dX4_appendSinger_11 ⟨Nat.le_of_ble_eq_true rfl, Nat.le_of_ble_eq_true rfl⟩ (g_kv0 (fun H locs hz hP hL hS => ?_))
  obtain ⟨σ1, e1⟩ : ∃ υ0 : gS, υ0 = gup σ (x + 8) (gI 12 (upd (S 3) (sN S) br)) := ⟨_, rfl⟩
  have hP : gH D ka σ1 H := by rw [e1]; exact hP
  have hL : gL lo σ1 := by rw [e1]; exact hL
  have hSt : StAt σ1 x (sRow S 3 (upd (S 3) (sN S) br)) := by rw [e1]; exact hSt.w8 (upd (S 3) (sN S) br)
  have hag := hag.upe e1 (zo_k (by decide))
  refine lv_aload_n hx hb dX4_appendSinger_14 rfl (lv_at hl 1 rfl) ?_
  refine g_get (C := RX4) (T := TX4) (N := 13) hx hb hts hown hK hP hSt.c0 nX4_appendSinger_X4 rfl 9 (by decide) (by decide +kernel) rfl (v := .ref (x + 9)) rfl dX4_appendSinger_15 ?_
  refine lv_iload_n hx hb dX4_appendSinger_18 rfl (lv_at hl 0 rfl) ?_
  refine lv_iload_n hx hb dX4_appendSinger_19 rfl (lv_at hl 3 rfl) ?_
  refine g_runV (As := [.int (nI (sN S)), .int rc]) (rest := []) (own := RX4) (C := RX2) (T := TX2) (N := 1) 2 hx hb hml hown hts hK hz hP hL hS hlo hl.1 (c_X2_put l (x + 9) 12 (sN S) ((sRow S 3 (upd (S 3) (sN S) br)) 4) rc σ1 sz ⟨hSt.c9, hSt.c10⟩ (by omega) (by omega)) gX4_appendSinger_X2_put rfl rfl rfl (by decide +kernel) ⟨Nat.le_of_ble_eq_true rfl, Nat.le_of_ble_eq_true rfl⟩ hSt.c9 rfl rfl rfl (Nat.le_of_ble_eq_true rfl) dX4_appendSinger_20 ⟨Nat.le_of_ble_eq_true rfl, Nat.le_of_ble_eq_true rfl⟩ (g_kv0 (fun H locs hz hP hL hS => ?_))
  obtain ⟨σ2, e2⟩ : ∃ υ0 : gS, υ0 = gup σ1 (x + 10) (gI 12 (upd ((sRow S 3 (upd (S 3) (sN S) br)) 4) (sN S) rc)) := ⟨_, rfl⟩
  have hP : gH D ka σ2 H := by rw [e2]; exact hP
  have hL : gL lo σ2 := by rw [e2]; exact hL
  have hSt : StAt σ2 x (sRow (sRow S 3 (upd (S 3) (sN S) br)) 4 (upd ((sRow S 3 (upd (S 3) (sN S) br)) 4) (sN S) rc)) := by rw [e2]; exact hSt.w10 (upd ((sRow S 3 (upd (S 3) (sN S) br)) 4) (sN S) rc)
  have hag := hag.upe e2 (zo_k (by decide))
  refine lv_aload_n hx hb dX4_appendSinger_23 rfl (lv_at hl 1 rfl) ?_
  refine lv_dup hx hb dX4_appendSinger_24 rfl ?_
  refine g_get (C := RX4) (T := TX4) (N := 13) hx hb hts hown hK hP hSt.c0 nX4_appendSinger_X4 rfl 2 (by decide) (by decide +kernel) rfl (v := .int ((sRow (sRow S 3 (upd (S 3) (sN S) br)) 4 (upd ((sRow S 3 (upd (S 3) (sN S) br)) 4) (sN S) rc)) 8 2)) rfl dX4_appendSinger_25 ?_
  refine lv_iload_n hx hb dX4_appendSinger_28 rfl (lv_at hl 0 rfl) ?_
  refine g_runSN (As := [.int (nI (sN S))]) (rest := [.int ((sRow (sRow S 3 (upd (S 3) (sN S) br)) 4 (upd ((sRow S 3 (upd (S 3) (sN S) br)) 4) (sN S) rc)) 8 2), .ref x]) (own := RX4) 1 hx hb hml hown hts hK hz hP hL hS hlo hl.1 (c_X7_bit l (sN S) σ2 sz) gX4_appendSinger_X7_bit_n85 rfl rfl rfl (by decide +kernel) (by decide +kernel) (by decide +kernel) (by decide +kernel) ⟨Nat.le_of_ble_eq_true rfl, Nat.le_of_ble_eq_true rfl⟩ rfl rfl (Nat.le_of_ble_eq_true rfl) dX4_appendSinger_29 ⟨Nat.le_of_ble_eq_true rfl, Nat.le_of_ble_eq_true rfl⟩ (g_ki0 (fun H locs hz hP hL hS => ?_))
  refine lv_ior hx hb dX4_appendSinger_32 ?_
  refine g_put (C := RX4) (T := TX4) (N := 13) hx hb hts hown hK hP hL hS hSt.c0 nX4_appendSinger_X4 tyX4 tyX4_ok nmX4 rfl 2 (by decide) (by decide +kernel) rfl rfl (v := .int (((sRow (sRow S 3 (upd (S 3) (sN S) br)) 4 (upd ((sRow S 3 (upd (S 3) (sN S) br)) 4) (sN S) rc)) 8 2) ||| (bitI (sN S)))) rfl rfl (Nat.le_of_ble_eq_true rfl) dX4_appendSinger_33 (fun H locs hq hP hL hS => ?_)
  have hz := hq.trans hz
  obtain ⟨σ3, e3⟩ : ∃ υ0 : gS, υ0 = gup σ2 x (gO 4 [.int (nI (sB (sRow (sRow S 3 (upd (S 3) (sN S) br)) 4 (upd ((sRow S 3 (upd (S 3) (sN S) br)) 4) (sN S) rc)))), .int (nI (sN (sRow (sRow S 3 (upd (S 3) (sN S) br)) 4 (upd ((sRow S 3 (upd (S 3) (sN S) br)) 4) (sN S) rc)))), .int (((sRow (sRow S 3 (upd (S 3) (sN S) br)) 4 (upd ((sRow S 3 (upd (S 3) (sN S) br)) 4) (sN S) rc)) 8 2) ||| (bitI (sN S))), .int (nI (sK (sRow (sRow S 3 (upd (S 3) (sN S) br)) 4 (upd ((sRow S 3 (upd (S 3) (sN S) br)) 4) (sN S) rc)))), .int (nI (sR (sRow (sRow S 3 (upd (S 3) (sN S) br)) 4 (upd ((sRow S 3 (upd (S 3) (sN S) br)) 4) (sN S) rc)))), .ref (x + 1), .ref (x + 3), .ref (x + 5), .ref (x + 7), .ref (x + 9), .ref (x + 11), .ref (x + 13), .ref (x + 15)]) := ⟨_, rfl⟩
  have hP : gH D ka σ3 H := by rw [e3]; exact hP
  have hL : gL lo σ3 := by rw [e3]; exact hL
  have hSt : StAt σ3 x (sPut (sRow (sRow S 3 (upd (S 3) (sN S) br)) 4 (upd ((sRow S 3 (upd (S 3) (sN S) br)) 4) (sN S) rc)) 8 2 (((sRow (sRow S 3 (upd (S 3) (sN S) br)) 4 (upd ((sRow S 3 (upd (S 3) (sN S) br)) 4) (sN S) rc)) 8 2) ||| (bitI (sN S)))) := by rw [e3]; exact hSt.p2 ((((sRow (sRow S 3 (upd (S 3) (sN S) br)) 4 (upd ((sRow S 3 (upd (S 3) (sN S) br)) 4) (sN S) rc)) 8 2) ||| (bitI (sN S))))
  have hag := hag.upe e3 (zo_0 (by decide))
  refine lv_aload_n hx hb dX4_appendSinger_36 rfl (lv_at hl 1 rfl) ?_
  refine lv_dup hx hb dX4_appendSinger_37 rfl ?_
  refine g_get (C := RX4) (T := TX4) (N := 13) hx hb hts hown hK hP hSt.c0 nX4_appendSinger_X4 rfl 1 (by decide) (by decide +kernel) rfl (v := .int (nI (sN (sPut (sRow (sRow S 3 (upd (S 3) (sN S) br)) 4 (upd ((sRow S 3 (upd (S 3) (sN S) br)) 4) (sN S) rc)) 8 2 (((sRow (sRow S 3 (upd (S 3) (sN S) br)) 4 (upd ((sRow S 3 (upd (S 3) (sN S) br)) 4) (sN S) rc)) 8 2) ||| (bitI (sN S))))))) rfl dX4_appendSinger_38 ?_
  refine g_top (y := (nI (sN S))) rfl ?_
  refine lv_iconst (v := (nI 1)) hx hb dX4_appendSinger_41 (by decide) ?_
  refine lv_iadd hx hb dX4_appendSinger_42 ?_
  refine g_top (nI_add (sN S) 1) ?_
  refine g_put (C := RX4) (T := TX4) (N := 13) hx hb hts hown hK hP hL hS hSt.c0 nX4_appendSinger_X4 tyX4 tyX4_ok nmX4 rfl 1 (by decide) (by decide +kernel) rfl rfl (v := .int (nI ((sN S) + 1))) rfl rfl (Nat.le_of_ble_eq_true rfl) dX4_appendSinger_43 (fun H locs hq hP hL hS => ?_)
  have hz := hq.trans hz
  obtain ⟨σ4, e4⟩ : ∃ υ0 : gS, υ0 = gup σ3 x (gO 4 [.int (nI (sB (sPut (sRow (sRow S 3 (upd (S 3) (sN S) br)) 4 (upd ((sRow S 3 (upd (S 3) (sN S) br)) 4) (sN S) rc)) 8 2 (((sRow (sRow S 3 (upd (S 3) (sN S) br)) 4 (upd ((sRow S 3 (upd (S 3) (sN S) br)) 4) (sN S) rc)) 8 2) ||| (bitI (sN S)))))), .int (nI ((sN S) + 1)), .int ((sPut (sRow (sRow S 3 (upd (S 3) (sN S) br)) 4 (upd ((sRow S 3 (upd (S 3) (sN S) br)) 4) (sN S) rc)) 8 2 (((sRow (sRow S 3 (upd (S 3) (sN S) br)) 4 (upd ((sRow S 3 (upd (S 3) (sN S) br)) 4) (sN S) rc)) 8 2) ||| (bitI (sN S)))) 8 2), .int (nI (sK (sPut (sRow (sRow S 3 (upd (S 3) (sN S) br)) 4 (upd ((sRow S 3 (upd (S 3) (sN S) br)) 4) (sN S) rc)) 8 2 (((sRow (sRow S 3 (upd (S 3) (sN S) br)) 4 (upd ((sRow S 3 (upd (S 3) (sN S) br)) 4) (sN S) rc)) 8 2) ||| (bitI (sN S)))))), .int (nI (sR (sPut (sRow (sRow S 3 (upd (S 3) (sN S) br)) 4 (upd ((sRow S 3 (upd (S 3) (sN S) br)) 4) (sN S) rc)) 8 2 (((sRow (sRow S 3 (upd (S 3) (sN S) br)) 4 (upd ((sRow S 3 (upd (S 3) (sN S) br)) 4) (sN S) rc)) 8 2) ||| (bitI (sN S)))))), .ref (x + 1), .ref (x + 3), .ref (x + 5), .ref (x + 7), .ref (x + 9), .ref (x + 11), .ref (x + 13), .ref (x + 15)]) := ⟨_, rfl⟩
  have hP : gH D ka σ4 H := by rw [e4]; exact hP
  have hL : gL lo σ4 := by rw [e4]; exact hL
  have hSt : StAt σ4 x (sPut (sPut (sRow (sRow S 3 (upd (S 3) (sN S) br)) 4 (upd ((sRow S 3 (upd (S 3) (sN S) br)) 4) (sN S) rc)) 8 2 (((sRow (sRow S 3 (upd (S 3) (sN S) br)) 4 (upd ((sRow S 3 (upd (S 3) (sN S) br)) 4) (sN S) rc)) 8 2) ||| (bitI (sN S)))) 8 1 (nI ((sN S) + 1))) := by rw [e4]; exact hSt.p1 ((sN S) + 1) (by omega)
  have hag := hag.upe e4 (zo_0 (by decide))
  refine lv_iload_n hx hb dX4_appendSinger_46 rfl (lv_at hl 0 rfl) ?_
  exact g_iret (z := sz) hx hb hr hlk hz hP hL hS dX4_appendSinger_47 (gxi_i ⟨rfl, rfl, hSt, hag⟩)

theorem nX4_moveSolo_X4 : ∀ w ∈ wsX40, w ∈ wsX4_moveSolo := by decide +kernel
set_option maxHeartbeats 4000000 in
set_option maxRecDepth 100000 in
theorem c_X4_moveSolo (l : Launch) (x : Nat) (S : sS) (a b : Nat) (σ : gS) (sz : Nat) (hSt : StAt σ x S) (ha : a < 8) (hb0 : b < 8) : gM l yX4_moveSolo wsX4_moveSolo ({ frames := 1, cells := 0, slots := 0, locals := 22 } : Room) 0 0 [.ref x, .int (nI a), .int (nI b)] σ sz (gxv (fun τ n => n = sz ∧ StAt τ x (mvS S a b) ∧ gAs (gZo x 17) σ τ)) := by
  refine gM_of (cc := cX4_moveSolo) (maxL := 3) (ret := none) (by decide) rfl (Nat.le_of_ble_eq_true rfl) ?_
  intro D ka lo hL hlo p e s m below meth c hx hb hr hts hown hml hlk hnm hK H locs ls hz hP hS hl
  have hl : lv_has ls 3 [(0, .ref x), (1, .int (nI a)), (2, .int (nI b))] := hl
  have hown : s.vm.findClass RX4 = some m.cls := hown
  have hag : gAs (gZo x 17) σ σ := gAs.rf
  refine lv_aload_n hx hb dX4_moveSolo_0 rfl (lv_at hl 0 rfl) ?_
  refine g_get (C := RX4) (T := TX4) (N := 13) hx hb hts hown hK hP hSt.c0 nX4_moveSolo_X4 rfl 10 (by decide) (by decide +kernel) rfl (v := .ref (x + 11)) rfl dX4_moveSolo_1 ?_
  refine lv_iload_n hx hb dX4_moveSolo_4 rfl (lv_at hl 2 rfl) ?_
  refine lv_aload_n hx hb dX4_moveSolo_5 rfl (lv_at hl 0 rfl) ?_
  refine g_get (C := RX4) (T := TX4) (N := 13) hx hb hts hown hK hP hSt.c0 nX4_moveSolo_X4 rfl 10 (by decide) (by decide +kernel) rfl (v := .ref (x + 11)) rfl dX4_moveSolo_6 ?_
  refine lv_iload_n hx hb dX4_moveSolo_9 rfl (lv_at hl 1 rfl) ?_
  refine g_runV (As := [.int (nI a)]) (rest := [.int (nI b), .ref (x + 11)]) (own := RX4) (C := RX2) (T := TX2) (N := 1) 1 hx hb hml hown hts hK hz hP hL hS hlo hl.1 (c_X2_at l (x + 11) 8 a (S 5) σ sz ⟨hSt.c11, hSt.c12⟩ (by omega) (by omega)) gX4_moveSolo_X2_at rfl rfl rfl (by decide +kernel) ⟨Nat.le_of_ble_eq_true rfl, Nat.le_of_ble_eq_true rfl⟩ hSt.c11 rfl rfl rfl (Nat.le_of_ble_eq_true rfl) dX4_moveSolo_10 ⟨Nat.le_of_ble_eq_true rfl, Nat.le_of_ble_eq_true rfl⟩ (g_ki0 (fun H locs hz hP hL hS => ?_))
  refine g_runV (As := [.int (nI b), .int ((S 5) a)]) (rest := []) (own := RX4) (C := RX2) (T := TX2) (N := 1) 2 hx hb hml hown hts hK hz hP hL hS hlo hl.1 (c_X2_put l (x + 11) 8 b (S 5) (((S 5) a)) σ sz ⟨hSt.c11, hSt.c12⟩ (by omega) (by omega)) gX4_moveSolo_X2_put rfl rfl rfl (by decide +kernel) ⟨Nat.le_of_ble_eq_true rfl, Nat.le_of_ble_eq_true rfl⟩ hSt.c11 rfl rfl rfl (Nat.le_of_ble_eq_true rfl) dX4_moveSolo_13 ⟨Nat.le_of_ble_eq_true rfl, Nat.le_of_ble_eq_true rfl⟩ (g_kv0 (fun H locs hz hP hL hS => ?_))
  obtain ⟨σ1, e1⟩ : ∃ υ0 : gS, υ0 = gup σ (x + 12) (gI 8 (upd (S 5) b (((S 5) a)))) := ⟨_, rfl⟩
  have hP : gH D ka σ1 H := by rw [e1]; exact hP
  have hL : gL lo σ1 := by rw [e1]; exact hL
  have hSt : StAt σ1 x (sRow S 5 (upd (S 5) b (((S 5) a)))) := by rw [e1]; exact hSt.w12 (upd (S 5) b (((S 5) a)))
  have hag := hag.upe e1 (zo_k (by decide))
  refine lv_aload_n hx hb dX4_moveSolo_16 rfl (lv_at hl 0 rfl) ?_
  refine g_get (C := RX4) (T := TX4) (N := 13) hx hb hts hown hK hP hSt.c0 nX4_moveSolo_X4 rfl 11 (by decide) (by decide +kernel) rfl (v := .ref (x + 13)) rfl dX4_moveSolo_17 ?_
  refine lv_iload_n hx hb dX4_moveSolo_20 rfl (lv_at hl 2 rfl) ?_
  refine lv_aload_n hx hb dX4_moveSolo_21 rfl (lv_at hl 0 rfl) ?_
  refine g_get (C := RX4) (T := TX4) (N := 13) hx hb hts hown hK hP hSt.c0 nX4_moveSolo_X4 rfl 11 (by decide) (by decide +kernel) rfl (v := .ref (x + 13)) rfl dX4_moveSolo_22 ?_
  refine lv_iload_n hx hb dX4_moveSolo_25 rfl (lv_at hl 1 rfl) ?_
  refine g_runV (As := [.int (nI a)]) (rest := [.int (nI b), .ref (x + 13)]) (own := RX4) (C := RX2) (T := TX2) (N := 1) 1 hx hb hml hown hts hK hz hP hL hS hlo hl.1 (c_X2_at l (x + 13) 8 a ((sRow S 5 (upd (S 5) b (((S 5) a)))) 6) σ1 sz ⟨hSt.c13, hSt.c14⟩ (by omega) (by omega)) gX4_moveSolo_X2_at rfl rfl rfl (by decide +kernel) ⟨Nat.le_of_ble_eq_true rfl, Nat.le_of_ble_eq_true rfl⟩ hSt.c13 rfl rfl rfl (Nat.le_of_ble_eq_true rfl) dX4_moveSolo_26 ⟨Nat.le_of_ble_eq_true rfl, Nat.le_of_ble_eq_true rfl⟩ (g_ki0 (fun H locs hz hP hL hS => ?_))
  refine g_runV (As := [.int (nI b), .int (((sRow S 5 (upd (S 5) b (((S 5) a)))) 6) a)]) (rest := []) (own := RX4) (C := RX2) (T := TX2) (N := 1) 2 hx hb hml hown hts hK hz hP hL hS hlo hl.1 (c_X2_put l (x + 13) 8 b ((sRow S 5 (upd (S 5) b (((S 5) a)))) 6) ((((sRow S 5 (upd (S 5) b (((S 5) a)))) 6) a)) σ1 sz ⟨hSt.c13, hSt.c14⟩ (by omega) (by omega)) gX4_moveSolo_X2_put rfl rfl rfl (by decide +kernel) ⟨Nat.le_of_ble_eq_true rfl, Nat.le_of_ble_eq_true rfl⟩ hSt.c13 rfl rfl rfl (Nat.le_of_ble_eq_true rfl) dX4_moveSolo_29 ⟨Nat.le_of_ble_eq_true rfl, Nat.le_of_ble_eq_true rfl⟩ (g_kv0 (fun H locs hz hP hL hS => ?_))
  obtain ⟨σ2, e2⟩ : ∃ υ0 : gS, υ0 = gup σ1 (x + 14) (gI 8 (upd ((sRow S 5 (upd (S 5) b (((S 5) a)))) 6) b ((((sRow S 5 (upd (S 5) b (((S 5) a)))) 6) a)))) := ⟨_, rfl⟩
  have hP : gH D ka σ2 H := by rw [e2]; exact hP
  have hL : gL lo σ2 := by rw [e2]; exact hL
  have hSt : StAt σ2 x (sRow (sRow S 5 (upd (S 5) b (((S 5) a)))) 6 (upd ((sRow S 5 (upd (S 5) b (((S 5) a)))) 6) b ((((sRow S 5 (upd (S 5) b (((S 5) a)))) 6) a)))) := by rw [e2]; exact hSt.w14 (upd ((sRow S 5 (upd (S 5) b (((S 5) a)))) 6) b ((((sRow S 5 (upd (S 5) b (((S 5) a)))) 6) a)))
  have hag := hag.upe e2 (zo_k (by decide))
  refine lv_aload_n hx hb dX4_moveSolo_32 rfl (lv_at hl 0 rfl) ?_
  refine g_get (C := RX4) (T := TX4) (N := 13) hx hb hts hown hK hP hSt.c0 nX4_moveSolo_X4 rfl 12 (by decide) (by decide +kernel) rfl (v := .ref (x + 15)) rfl dX4_moveSolo_33 ?_
  refine lv_iload_n hx hb dX4_moveSolo_36 rfl (lv_at hl 2 rfl) ?_
  refine lv_aload_n hx hb dX4_moveSolo_37 rfl (lv_at hl 0 rfl) ?_
  refine g_get (C := RX4) (T := TX4) (N := 13) hx hb hts hown hK hP hSt.c0 nX4_moveSolo_X4 rfl 12 (by decide) (by decide +kernel) rfl (v := .ref (x + 15)) rfl dX4_moveSolo_38 ?_
  refine lv_iload_n hx hb dX4_moveSolo_41 rfl (lv_at hl 1 rfl) ?_
  refine g_runV (As := [.int (nI a)]) (rest := [.int (nI b), .ref (x + 15)]) (own := RX4) (C := RX2) (T := TX2) (N := 1) 1 hx hb hml hown hts hK hz hP hL hS hlo hl.1 (c_X2_at l (x + 15) 8 a ((sRow (sRow S 5 (upd (S 5) b (((S 5) a)))) 6 (upd ((sRow S 5 (upd (S 5) b (((S 5) a)))) 6) b ((((sRow S 5 (upd (S 5) b (((S 5) a)))) 6) a)))) 7) σ2 sz ⟨hSt.c15, hSt.c16⟩ (by omega) (by omega)) gX4_moveSolo_X2_at rfl rfl rfl (by decide +kernel) ⟨Nat.le_of_ble_eq_true rfl, Nat.le_of_ble_eq_true rfl⟩ hSt.c15 rfl rfl rfl (Nat.le_of_ble_eq_true rfl) dX4_moveSolo_42 ⟨Nat.le_of_ble_eq_true rfl, Nat.le_of_ble_eq_true rfl⟩ (g_ki0 (fun H locs hz hP hL hS => ?_))
  refine g_runV (As := [.int (nI b), .int (((sRow (sRow S 5 (upd (S 5) b (((S 5) a)))) 6 (upd ((sRow S 5 (upd (S 5) b (((S 5) a)))) 6) b ((((sRow S 5 (upd (S 5) b (((S 5) a)))) 6) a)))) 7) a)]) (rest := []) (own := RX4) (C := RX2) (T := TX2) (N := 1) 2 hx hb hml hown hts hK hz hP hL hS hlo hl.1 (c_X2_put l (x + 15) 8 b ((sRow (sRow S 5 (upd (S 5) b (((S 5) a)))) 6 (upd ((sRow S 5 (upd (S 5) b (((S 5) a)))) 6) b ((((sRow S 5 (upd (S 5) b (((S 5) a)))) 6) a)))) 7) ((((sRow (sRow S 5 (upd (S 5) b (((S 5) a)))) 6 (upd ((sRow S 5 (upd (S 5) b (((S 5) a)))) 6) b ((((sRow S 5 (upd (S 5) b (((S 5) a)))) 6) a)))) 7) a)) σ2 sz ⟨hSt.c15, hSt.c16⟩ (by omega) (by omega)) gX4_moveSolo_X2_put rfl rfl rfl (by decide +kernel) ⟨Nat.le_of_ble_eq_true rfl, Nat.le_of_ble_eq_true rfl⟩ hSt.c15 rfl rfl rfl (Nat.le_of_ble_eq_true rfl) dX4_moveSolo_45 ⟨Nat.le_of_ble_eq_true rfl, Nat.le_of_ble_eq_true rfl⟩ (g_kv0 (fun H locs hz hP hL hS => ?_))
  obtain ⟨σ3, e3⟩ : ∃ υ0 : gS, υ0 = gup σ2 (x + 16) (gI 8 (upd ((sRow (sRow S 5 (upd (S 5) b (((S 5) a)))) 6 (upd ((sRow S 5 (upd (S 5) b (((S 5) a)))) 6) b ((((sRow S 5 (upd (S 5) b (((S 5) a)))) 6) a)))) 7) b ((((sRow (sRow S 5 (upd (S 5) b (((S 5) a)))) 6 (upd ((sRow S 5 (upd (S 5) b (((S 5) a)))) 6) b ((((sRow S 5 (upd (S 5) b (((S 5) a)))) 6) a)))) 7) a)))) := ⟨_, rfl⟩
  have hP : gH D ka σ3 H := by rw [e3]; exact hP
  have hL : gL lo σ3 := by rw [e3]; exact hL
  have hSt : StAt σ3 x (sRow (sRow (sRow S 5 (upd (S 5) b (((S 5) a)))) 6 (upd ((sRow S 5 (upd (S 5) b (((S 5) a)))) 6) b ((((sRow S 5 (upd (S 5) b (((S 5) a)))) 6) a)))) 7 (upd ((sRow (sRow S 5 (upd (S 5) b (((S 5) a)))) 6 (upd ((sRow S 5 (upd (S 5) b (((S 5) a)))) 6) b ((((sRow S 5 (upd (S 5) b (((S 5) a)))) 6) a)))) 7) b ((((sRow (sRow S 5 (upd (S 5) b (((S 5) a)))) 6 (upd ((sRow S 5 (upd (S 5) b (((S 5) a)))) 6) b ((((sRow S 5 (upd (S 5) b (((S 5) a)))) 6) a)))) 7) a)))) := by rw [e3]; exact hSt.w16 (upd ((sRow (sRow S 5 (upd (S 5) b (((S 5) a)))) 6 (upd ((sRow S 5 (upd (S 5) b (((S 5) a)))) 6) b ((((sRow S 5 (upd (S 5) b (((S 5) a)))) 6) a)))) 7) b ((((sRow (sRow S 5 (upd (S 5) b (((S 5) a)))) 6 (upd ((sRow S 5 (upd (S 5) b (((S 5) a)))) 6) b ((((sRow S 5 (upd (S 5) b (((S 5) a)))) 6) a)))) 7) a)))
  have hag := hag.upe e3 (zo_k (by decide))
  exact g_vret (z := sz) hx hb hr hlk hz hP hL hS dX4_moveSolo_48 (gxv_i ⟨rfl, hSt, hag⟩)

theorem nX4_dropSolo_X4 : ∀ w ∈ wsX40, w ∈ wsX4_dropSolo := by decide +kernel
set_option maxHeartbeats 4000000 in
set_option maxRecDepth 100000 in
theorem c_X4_dropSolo (l : Launch) (x : Nat) (S : sS) (k0 : Nat) (σ : gS) (sz : Nat) (hSt : StAt σ x S) (hk0 : k0 < sK S) (hKs : sK S ≤ 8) : gM l yX4_dropSolo wsX4_dropSolo ({ frames := 2, cells := 0, slots := 0, locals := 44 } : Room) 0 0 [.ref x, .int (nI k0)] σ sz (gxv (fun τ n => n = sz ∧ StAt τ x (drpS S k0) ∧ gAs (gZo x 17) σ τ)) := by
  refine gM_of (cc := cX4_dropSolo) (maxL := 3) (ret := none) (by decide) rfl (Nat.le_of_ble_eq_true rfl) ?_
  intro D ka lo hL hlo p e s m below meth c hx hb hr hts hown hml hlk hnm hK H locs ls hz hP hS hl
  have hl : lv_has ls 3 [(0, .ref x), (1, .int (nI k0))] := hl
  have hown : s.vm.findClass RX4 = some m.cls := hown
  have hag : gAs (gZo x 17) σ σ := gAs.rf
  refine lv_iload_n hx hb dX4_dropSolo_0 rfl (lv_at hl 1 rfl) ?_
  refine lv_istore_n (lv' := [(2, .int (nI k0)), (0, .ref x), (1, .int (nI k0))]) hx hb dX4_dropSolo_1 rfl hl (by decide) rfl (fun ls hl => ?_)
  have lp : ∀ (fu_lp : Nat) (k : Nat), (k0 + k + 1 ≤ sK S) → (sK S - k < fu_lp) → ∀ (υ : gS), (StAt υ x (drpF S k0 k)) → (gAs (gZo x 17) σ υ) → gL lo υ → ∀ (H : Heap) (locs : List Loc) (ls : Array Slot), H.size = sz → gH D ka υ H → va_S (gA lo) s.heap H locs → lv_has ls 3 [(0, .ref x), (1, .int (nI k0)), (2, .int (nI (k0 + k)))] → W p l e ({ frames := 2, cells := 0, slots := 0, locals := 44 } : Room) s m ([.ref x, .int (nI k0)] : List Value).toArray below meth c H locs (0) (0) (MQ below (gQ D ka lo (gxv (fun τ n => n = sz ∧ StAt τ x (drpS S k0) ∧ gAs (gZo x 17) σ τ))) ([.ref x, .int (nI k0)] : List Value).toArray s 0 0 (gA lo)) (F0 m 2 ls []) := by
    intro fu_lp
    induction fu_lp with
    | zero => intro k hk hm_lp; exact absurd hm_lp (Nat.not_lt_zero _)
    | succ fu_lp ih_lp =>
      intro k hk hm_lp υ hSt hag hL H locs ls hz hP hS hl
      have hk8 : sK (drpF S k0 k) = sK S := by show (drpF S k0 k 8 3).toNatClampNeg = _; rw [drpF_8]
      refine lv_iload_n hx hb dX4_dropSolo_2 rfl (lv_at hl 2 rfl) ?_
      refine lv_aload_n hx hb dX4_dropSolo_3 rfl (lv_at hl 0 rfl) ?_
      refine g_get (C := RX4) (T := TX4) (N := 13) hx hb hts hown hK hP hSt.c0 nX4_dropSolo_X4 rfl 3 (by decide) (by decide +kernel) rfl (v := .int (nI (sK (drpF S k0 k)))) rfl dX4_dropSolo_4 ?_
      refine g_top (y := (nI (sK S))) (congrArg nI hk8) ?_
      refine lv_iconst (v := (nI 1)) hx hb dX4_dropSolo_7 (by decide) ?_
      refine lv_isub hx hb dX4_dropSolo_8 ?_
      refine g_top (pk_sub (by omega : 1 ≤ sK S)) ?_
      refine g_icmp_ge (tgt := 26) (a := k0 + k) (b := (sK S) - 1) hx hb (by omega) (by omega) dX4_dropSolo_9 (by decide) (fun c9 => ?_) (fun c9 => ?_)
      · refine lv_aload_n hx hb dX4_dropSolo_26 rfl (lv_at hl 0 rfl) ?_
        refine lv_dup hx hb dX4_dropSolo_27 rfl ?_
        refine g_get (C := RX4) (T := TX4) (N := 13) hx hb hts hown hK hP hSt.c0 nX4_dropSolo_X4 rfl 3 (by decide) (by decide +kernel) rfl (v := .int (nI (sK (drpF S k0 k)))) rfl dX4_dropSolo_28 ?_
        refine g_top (y := (nI (sK S))) (congrArg nI hk8) ?_
        refine lv_iconst (v := (nI 1)) hx hb dX4_dropSolo_31 (by decide) ?_
        refine lv_isub hx hb dX4_dropSolo_32 ?_
        refine g_top (pk_sub (by omega : 1 ≤ sK S)) ?_
        refine g_put (C := RX4) (T := TX4) (N := 13) hx hb hts hown hK hP hL hS hSt.c0 nX4_dropSolo_X4 tyX4 tyX4_ok nmX4 rfl 3 (by decide) (by decide +kernel) rfl rfl (v := .int (nI ((sK S) - 1))) rfl rfl (Nat.le_of_ble_eq_true rfl) dX4_dropSolo_33 (fun H locs hq hP hL hS => ?_)
        have hz := hq.trans hz
        obtain ⟨σ1, e1⟩ : ∃ υ0 : gS, υ0 = gup υ x (gO 4 [.int (nI (sB (drpF S k0 k))), .int (nI (sN (drpF S k0 k))), .int ((drpF S k0 k) 8 2), .int (nI ((sK S) - 1)), .int (nI (sR (drpF S k0 k))), .ref (x + 1), .ref (x + 3), .ref (x + 5), .ref (x + 7), .ref (x + 9), .ref (x + 11), .ref (x + 13), .ref (x + 15)]) := ⟨_, rfl⟩
        have hP : gH D ka σ1 H := by rw [e1]; exact hP
        have hL : gL lo σ1 := by rw [e1]; exact hL
        have hSt : StAt σ1 x (sPut (drpF S k0 k) 8 3 (nI ((sK S) - 1))) := by rw [e1]; exact hSt.p3 ((sK S) - 1) (by omega)
        have hag := hag.upe e1 (zo_0 (by decide))
        exact g_vret (z := sz) hx hb hr hlk hz hP hL hS dX4_dropSolo_36 (gxv_i ⟨rfl, (by rw [show k = sK S - 1 - k0 by omega] at hSt; exact hSt), hag⟩)
      · refine lv_aload_n hx hb dX4_dropSolo_12 rfl (lv_at hl 0 rfl) ?_
        refine lv_iload_n hx hb dX4_dropSolo_13 rfl (lv_at hl 2 rfl) ?_
        refine lv_iconst (v := (nI 1)) hx hb dX4_dropSolo_14 (by decide) ?_
        refine lv_iadd hx hb dX4_dropSolo_15 ?_
        refine g_top (nI_add (k0 + k) 1) ?_
        refine lv_iload_n hx hb dX4_dropSolo_16 rfl (lv_at hl 2 rfl) ?_
        refine g_runV (As := [.int (nI ((k0 + k) + 1)), .int (nI (k0 + k))]) (rest := []) (own := RX4) (C := RX4) (T := TX4) (N := 13) 2 hx hb hml hown hts hK hz hP hL hS hlo hl.1 (c_X4_moveSolo l x (drpF S k0 k) ((k0 + k) + 1) (k0 + k) υ sz hSt (by omega) (by omega)) gX4_dropSolo_X4_moveSolo rfl rfl rfl (by decide +kernel) ⟨Nat.le_of_ble_eq_true rfl, Nat.le_of_ble_eq_true rfl⟩ hSt.c0 rfl rfl rfl (Nat.le_of_ble_eq_true rfl) dX4_dropSolo_17 ⟨Nat.le_of_ble_eq_true rfl, Nat.le_of_ble_eq_true rfl⟩ (g_kxv0 (fun τ_2 H locs z1 hz hp hP hL hS => ?_))
        obtain ⟨hz1, h_3n, h_3a⟩ := hp
        have hz := hz.trans hz1
        have hSt := h_3n
        have hag := hag.tr h_3a (fun q h => by have h1 := h.1; have h2 := h.2; exact ⟨by omega, by omega⟩)
        refine lv_iinc (v := (nI (k0 + k + 1))) (lv' := [(2, .int (nI (k0 + k + 1))), (0, .ref x), (1, .int (nI k0))]) hx hb dX4_dropSolo_20 hl (k := 2) rfl (g_inc (k0 + k) 1) (by decide) rfl (fun ls hl => ?_)
        refine lv_goto (tgt := 2) hx hb dX4_dropSolo_23 (by decide) ?_
        exact ih_lp (k + 1) (by omega) (by omega) τ_2 hSt hag hL H locs ls hz hP hS (lv_sub hl [1, 2, 0] rfl)
  exact lp _ 0 (by omega) (Nat.lt_succ_self _) σ hSt gAs.rf hL H locs ls hz hP hS (lv_sub hl [1, 2, 0] rfl)

theorem nX4_insertSolo_X4 : ∀ w ∈ wsX40, w ∈ wsX4_insertSolo := by decide +kernel
set_option maxHeartbeats 4000000 in
set_option maxRecDepth 100000 in
theorem c_X4_insertSolo (l : Launch) (x : Nat) (S : sS) (i fr to : Nat) (σ : gS) (sz : Nat) (hSt : StAt σ x S) (hKs : sK S < 8) : gM l yX4_insertSolo wsX4_insertSolo ({ frames := 2, cells := 0, slots := 0, locals := 44 } : Room) 0 0 [.ref x, .int (nI i), .int (nI fr), .int (nI to)] σ sz (gxi (fun r τ n => (r = nI (insP S fr (sK S))) ∧ n = sz ∧ StAt τ x (insS S i fr to) ∧ gAs (gZo x 17) σ τ)) := by
  refine gM_of (cc := cX4_insertSolo) (maxL := 5) (ret := (some .int)) (by decide) rfl (Nat.le_of_ble_eq_true rfl) ?_
  intro D ka lo hL hlo p e s m below meth c hx hb hr hts hown hml hlk hnm hK H locs ls hz hP hS hl
  have hl : lv_has ls 5 [(0, .ref x), (1, .int (nI i)), (2, .int (nI fr)), (3, .int (nI to))] := hl
  have hown : s.vm.findClass RX4 = some m.cls := hown
  have hag : gAs (gZo x 17) σ σ := gAs.rf
  refine lv_aload_n hx hb dX4_insertSolo_0 rfl (lv_at hl 0 rfl) ?_
  refine g_get (C := RX4) (T := TX4) (N := 13) hx hb hts hown hK hP hSt.c0 nX4_insertSolo_X4 rfl 3 (by decide) (by decide +kernel) rfl (v := .int (nI (sK S))) rfl dX4_insertSolo_1 ?_
  refine lv_istore (lv' := [(4, .int (nI (sK S))), (0, .ref x), (1, .int (nI i)), (2, .int (nI fr)), (3, .int (nI to))]) hx hb dX4_insertSolo_4 hl (by decide) rfl (fun ls hl => ?_)
  have lp : ∀ (fu_lp : Nat) (u : Nat), (u ≤ sK S) → (insP S fr u = insP S fr (sK S)) → (u < fu_lp) → ∀ (υ : gS), (StAt υ x (shS S u (sK S))) → (gAs (gZo x 17) σ υ) → gL lo υ → ∀ (H : Heap) (locs : List Loc) (ls : Array Slot), H.size = sz → gH D ka υ H → va_S (gA lo) s.heap H locs → lv_has ls 5 [(0, .ref x), (1, .int (nI i)), (2, .int (nI fr)), (3, .int (nI to)), (4, .int (nI u))] → W p l e ({ frames := 2, cells := 0, slots := 0, locals := 44 } : Room) s m ([.ref x, .int (nI i), .int (nI fr), .int (nI to)] : List Value).toArray below meth c H locs (0) (0) (MQ below (gQ D ka lo (gxi (fun r τ n => (r = nI (insP S fr (sK S))) ∧ n = sz ∧ StAt τ x (insS S i fr to) ∧ gAs (gZo x 17) σ τ))) ([.ref x, .int (nI i), .int (nI fr), .int (nI to)] : List Value).toArray s 0 0 (gA lo)) (F0 m 6 ls []) := by
    intro fu_lp
    induction fu_lp with
    | zero => intro u hp0 hs hm_lp; exact absurd hm_lp (Nat.not_lt_zero _)
    | succ fu_lp ih_lp =>
      intro u hp0 hs hm_lp υ hSt hag hL H locs ls hz hP hS hl
      refine lv_iload hx hb dX4_insertSolo_6 (lv_at hl 4 rfl) ?_
      refine g_if_le (tgt := 42) hx hb (by omega) dX4_insertSolo_8 (by decide) (fun c8 => ?_) (fun c8 => ?_)
      · have hip : u = insP S fr (sK S) := by subst c8; rw [← hs]; rfl
        refine lv_aload_n hx hb dX4_insertSolo_42 rfl (lv_at hl 0 rfl) ?_
        refine g_get (C := RX4) (T := TX4) (N := 13) hx hb hts hown hK hP hSt.c0 nX4_insertSolo_X4 rfl 10 (by decide) (by decide +kernel) rfl (v := .ref (x + 11)) rfl dX4_insertSolo_43 ?_
        refine lv_iload hx hb dX4_insertSolo_46 (lv_at hl 4 rfl) ?_
        refine lv_iload_n hx hb dX4_insertSolo_48 rfl (lv_at hl 1 rfl) ?_
        refine g_runV (As := [.int (nI u), .int (nI i)]) (rest := []) (own := RX4) (C := RX2) (T := TX2) (N := 1) 2 hx hb hml hown hts hK hz hP hL hS hlo hl.1 (c_X2_put l (x + 11) 8 u ((shS S u (sK S)) 5) ((nI i)) υ sz ⟨hSt.c11, hSt.c12⟩ (by omega) (by omega)) gX4_insertSolo_X2_put rfl rfl rfl (by decide +kernel) ⟨Nat.le_of_ble_eq_true rfl, Nat.le_of_ble_eq_true rfl⟩ hSt.c11 rfl rfl rfl (Nat.le_of_ble_eq_true rfl) dX4_insertSolo_49 ⟨Nat.le_of_ble_eq_true rfl, Nat.le_of_ble_eq_true rfl⟩ (g_kv0 (fun H locs hz hP hL hS => ?_))
        obtain ⟨σ1, e1⟩ : ∃ υ0 : gS, υ0 = gup υ (x + 12) (gI 8 (upd ((shS S u (sK S)) 5) u ((nI i)))) := ⟨_, rfl⟩
        have hP : gH D ka σ1 H := by rw [e1]; exact hP
        have hL : gL lo σ1 := by rw [e1]; exact hL
        have hSt : StAt σ1 x (sRow (shS S u (sK S)) 5 (upd ((shS S u (sK S)) 5) u ((nI i)))) := by rw [e1]; exact hSt.w12 (upd ((shS S u (sK S)) 5) u ((nI i)))
        have hag := hag.upe e1 (zo_k (by decide))
        refine lv_aload_n hx hb dX4_insertSolo_52 rfl (lv_at hl 0 rfl) ?_
        refine g_get (C := RX4) (T := TX4) (N := 13) hx hb hts hown hK hP hSt.c0 nX4_insertSolo_X4 rfl 11 (by decide) (by decide +kernel) rfl (v := .ref (x + 13)) rfl dX4_insertSolo_53 ?_
        refine lv_iload hx hb dX4_insertSolo_56 (lv_at hl 4 rfl) ?_
        refine lv_iload_n hx hb dX4_insertSolo_58 rfl (lv_at hl 2 rfl) ?_
        refine g_runV (As := [.int (nI u), .int (nI fr)]) (rest := []) (own := RX4) (C := RX2) (T := TX2) (N := 1) 2 hx hb hml hown hts hK hz hP hL hS hlo hl.1 (c_X2_put l (x + 13) 8 u ((sRow (shS S u (sK S)) 5 (upd ((shS S u (sK S)) 5) u ((nI i)))) 6) ((nI fr)) σ1 sz ⟨hSt.c13, hSt.c14⟩ (by omega) (by omega)) gX4_insertSolo_X2_put rfl rfl rfl (by decide +kernel) ⟨Nat.le_of_ble_eq_true rfl, Nat.le_of_ble_eq_true rfl⟩ hSt.c13 rfl rfl rfl (Nat.le_of_ble_eq_true rfl) dX4_insertSolo_59 ⟨Nat.le_of_ble_eq_true rfl, Nat.le_of_ble_eq_true rfl⟩ (g_kv0 (fun H locs hz hP hL hS => ?_))
        obtain ⟨σ2, e2⟩ : ∃ υ0 : gS, υ0 = gup σ1 (x + 14) (gI 8 (upd ((sRow (shS S u (sK S)) 5 (upd ((shS S u (sK S)) 5) u ((nI i)))) 6) u ((nI fr)))) := ⟨_, rfl⟩
        have hP : gH D ka σ2 H := by rw [e2]; exact hP
        have hL : gL lo σ2 := by rw [e2]; exact hL
        have hSt : StAt σ2 x (sRow (sRow (shS S u (sK S)) 5 (upd ((shS S u (sK S)) 5) u ((nI i)))) 6 (upd ((sRow (shS S u (sK S)) 5 (upd ((shS S u (sK S)) 5) u ((nI i)))) 6) u ((nI fr)))) := by rw [e2]; exact hSt.w14 (upd ((sRow (shS S u (sK S)) 5 (upd ((shS S u (sK S)) 5) u ((nI i)))) 6) u ((nI fr)))
        have hag := hag.upe e2 (zo_k (by decide))
        refine lv_aload_n hx hb dX4_insertSolo_62 rfl (lv_at hl 0 rfl) ?_
        refine g_get (C := RX4) (T := TX4) (N := 13) hx hb hts hown hK hP hSt.c0 nX4_insertSolo_X4 rfl 12 (by decide) (by decide +kernel) rfl (v := .ref (x + 15)) rfl dX4_insertSolo_63 ?_
        refine lv_iload hx hb dX4_insertSolo_66 (lv_at hl 4 rfl) ?_
        refine lv_iload_n hx hb dX4_insertSolo_68 rfl (lv_at hl 3 rfl) ?_
        refine g_runV (As := [.int (nI u), .int (nI to)]) (rest := []) (own := RX4) (C := RX2) (T := TX2) (N := 1) 2 hx hb hml hown hts hK hz hP hL hS hlo hl.1 (c_X2_put l (x + 15) 8 u ((sRow (sRow (shS S u (sK S)) 5 (upd ((shS S u (sK S)) 5) u ((nI i)))) 6 (upd ((sRow (shS S u (sK S)) 5 (upd ((shS S u (sK S)) 5) u ((nI i)))) 6) u ((nI fr)))) 7) ((nI to)) σ2 sz ⟨hSt.c15, hSt.c16⟩ (by omega) (by omega)) gX4_insertSolo_X2_put rfl rfl rfl (by decide +kernel) ⟨Nat.le_of_ble_eq_true rfl, Nat.le_of_ble_eq_true rfl⟩ hSt.c15 rfl rfl rfl (Nat.le_of_ble_eq_true rfl) dX4_insertSolo_69 ⟨Nat.le_of_ble_eq_true rfl, Nat.le_of_ble_eq_true rfl⟩ (g_kv0 (fun H locs hz hP hL hS => ?_))
        obtain ⟨σ3, e3⟩ : ∃ υ0 : gS, υ0 = gup σ2 (x + 16) (gI 8 (upd ((sRow (sRow (shS S u (sK S)) 5 (upd ((shS S u (sK S)) 5) u ((nI i)))) 6 (upd ((sRow (shS S u (sK S)) 5 (upd ((shS S u (sK S)) 5) u ((nI i)))) 6) u ((nI fr)))) 7) u ((nI to)))) := ⟨_, rfl⟩
        have hP : gH D ka σ3 H := by rw [e3]; exact hP
        have hL : gL lo σ3 := by rw [e3]; exact hL
        have hSt : StAt σ3 x (sRow (sRow (sRow (shS S u (sK S)) 5 (upd ((shS S u (sK S)) 5) u ((nI i)))) 6 (upd ((sRow (shS S u (sK S)) 5 (upd ((shS S u (sK S)) 5) u ((nI i)))) 6) u ((nI fr)))) 7 (upd ((sRow (sRow (shS S u (sK S)) 5 (upd ((shS S u (sK S)) 5) u ((nI i)))) 6 (upd ((sRow (shS S u (sK S)) 5 (upd ((shS S u (sK S)) 5) u ((nI i)))) 6) u ((nI fr)))) 7) u ((nI to)))) := by rw [e3]; exact hSt.w16 (upd ((sRow (sRow (shS S u (sK S)) 5 (upd ((shS S u (sK S)) 5) u ((nI i)))) 6 (upd ((sRow (shS S u (sK S)) 5 (upd ((shS S u (sK S)) 5) u ((nI i)))) 6) u ((nI fr)))) 7) u ((nI to)))
        have hag := hag.upe e3 (zo_k (by decide))
        refine lv_aload_n hx hb dX4_insertSolo_72 rfl (lv_at hl 0 rfl) ?_
        refine lv_dup hx hb dX4_insertSolo_73 rfl ?_
        refine g_get (C := RX4) (T := TX4) (N := 13) hx hb hts hown hK hP hSt.c0 nX4_insertSolo_X4 rfl 3 (by decide) (by decide +kernel) rfl (v := .int (nI (sK (sRow (sRow (sRow (shS S u (sK S)) 5 (upd ((shS S u (sK S)) 5) u ((nI i)))) 6 (upd ((sRow (shS S u (sK S)) 5 (upd ((shS S u (sK S)) 5) u ((nI i)))) 6) u ((nI fr)))) 7 (upd ((sRow (sRow (shS S u (sK S)) 5 (upd ((shS S u (sK S)) 5) u ((nI i)))) 6 (upd ((sRow (shS S u (sK S)) 5 (upd ((shS S u (sK S)) 5) u ((nI i)))) 6) u ((nI fr)))) 7) u ((nI to))))))) rfl dX4_insertSolo_74 ?_
        refine g_top (y := (nI (sK S))) rfl ?_
        refine lv_iconst (v := (nI 1)) hx hb dX4_insertSolo_77 (by decide) ?_
        refine lv_iadd hx hb dX4_insertSolo_78 ?_
        refine g_top (nI_add (sK S) 1) ?_
        refine g_put (C := RX4) (T := TX4) (N := 13) hx hb hts hown hK hP hL hS hSt.c0 nX4_insertSolo_X4 tyX4 tyX4_ok nmX4 rfl 3 (by decide) (by decide +kernel) rfl rfl (v := .int (nI ((sK S) + 1))) rfl rfl (Nat.le_of_ble_eq_true rfl) dX4_insertSolo_79 (fun H locs hq hP hL hS => ?_)
        have hz := hq.trans hz
        obtain ⟨σ4, e4⟩ : ∃ υ0 : gS, υ0 = gup σ3 x (gO 4 [.int (nI (sB (sRow (sRow (sRow (shS S u (sK S)) 5 (upd ((shS S u (sK S)) 5) u ((nI i)))) 6 (upd ((sRow (shS S u (sK S)) 5 (upd ((shS S u (sK S)) 5) u ((nI i)))) 6) u ((nI fr)))) 7 (upd ((sRow (sRow (shS S u (sK S)) 5 (upd ((shS S u (sK S)) 5) u ((nI i)))) 6 (upd ((sRow (shS S u (sK S)) 5 (upd ((shS S u (sK S)) 5) u ((nI i)))) 6) u ((nI fr)))) 7) u ((nI to)))))), .int (nI (sN (sRow (sRow (sRow (shS S u (sK S)) 5 (upd ((shS S u (sK S)) 5) u ((nI i)))) 6 (upd ((sRow (shS S u (sK S)) 5 (upd ((shS S u (sK S)) 5) u ((nI i)))) 6) u ((nI fr)))) 7 (upd ((sRow (sRow (shS S u (sK S)) 5 (upd ((shS S u (sK S)) 5) u ((nI i)))) 6 (upd ((sRow (shS S u (sK S)) 5 (upd ((shS S u (sK S)) 5) u ((nI i)))) 6) u ((nI fr)))) 7) u ((nI to)))))), .int ((sRow (sRow (sRow (shS S u (sK S)) 5 (upd ((shS S u (sK S)) 5) u ((nI i)))) 6 (upd ((sRow (shS S u (sK S)) 5 (upd ((shS S u (sK S)) 5) u ((nI i)))) 6) u ((nI fr)))) 7 (upd ((sRow (sRow (shS S u (sK S)) 5 (upd ((shS S u (sK S)) 5) u ((nI i)))) 6 (upd ((sRow (shS S u (sK S)) 5 (upd ((shS S u (sK S)) 5) u ((nI i)))) 6) u ((nI fr)))) 7) u ((nI to)))) 8 2), .int (nI ((sK S) + 1)), .int (nI (sR (sRow (sRow (sRow (shS S u (sK S)) 5 (upd ((shS S u (sK S)) 5) u ((nI i)))) 6 (upd ((sRow (shS S u (sK S)) 5 (upd ((shS S u (sK S)) 5) u ((nI i)))) 6) u ((nI fr)))) 7 (upd ((sRow (sRow (shS S u (sK S)) 5 (upd ((shS S u (sK S)) 5) u ((nI i)))) 6 (upd ((sRow (shS S u (sK S)) 5 (upd ((shS S u (sK S)) 5) u ((nI i)))) 6) u ((nI fr)))) 7) u ((nI to)))))), .ref (x + 1), .ref (x + 3), .ref (x + 5), .ref (x + 7), .ref (x + 9), .ref (x + 11), .ref (x + 13), .ref (x + 15)]) := ⟨_, rfl⟩
        have hP : gH D ka σ4 H := by rw [e4]; exact hP
        have hL : gL lo σ4 := by rw [e4]; exact hL
        have hSt : StAt σ4 x (sPut (sRow (sRow (sRow (shS S u (sK S)) 5 (upd ((shS S u (sK S)) 5) u ((nI i)))) 6 (upd ((sRow (shS S u (sK S)) 5 (upd ((shS S u (sK S)) 5) u ((nI i)))) 6) u ((nI fr)))) 7 (upd ((sRow (sRow (shS S u (sK S)) 5 (upd ((shS S u (sK S)) 5) u ((nI i)))) 6 (upd ((sRow (shS S u (sK S)) 5 (upd ((shS S u (sK S)) 5) u ((nI i)))) 6) u ((nI fr)))) 7) u ((nI to)))) 8 3 (nI ((sK S) + 1))) := by rw [e4]; exact hSt.p3 ((sK S) + 1) (by omega)
        have hag := hag.upe e4 (zo_0 (by decide))
        refine lv_iload hx hb dX4_insertSolo_82 (lv_at hl 4 rfl) ?_
        exact g_iret (z := sz) hx hb hr hlk hz hP hL hS dX4_insertSolo_84 (gxi_i ⟨by rw [← hip], rfl, (by rw [hip] at hSt; exact hSt), hag⟩)
      · refine lv_aload_n hx hb dX4_insertSolo_11 rfl (lv_at hl 0 rfl) ?_
        refine g_get (C := RX4) (T := TX4) (N := 13) hx hb hts hown hK hP hSt.c0 nX4_insertSolo_X4 rfl 11 (by decide) (by decide +kernel) rfl (v := .ref (x + 13)) rfl dX4_insertSolo_12 ?_
        refine lv_iload hx hb dX4_insertSolo_15 (lv_at hl 4 rfl) ?_
        refine lv_iconst (v := (nI 1)) hx hb dX4_insertSolo_17 (by decide) ?_
        refine lv_isub hx hb dX4_insertSolo_18 ?_
        refine g_top (pk_sub (by omega : 1 ≤ u)) ?_
        refine g_runV (As := [.int (nI (u - 1))]) (rest := []) (own := RX4) (C := RX2) (T := TX2) (N := 1) 1 hx hb hml hown hts hK hz hP hL hS hlo hl.1 (c_X2_at l (x + 13) 8 (u - 1) ((shS S u (sK S)) 6) υ sz ⟨hSt.c13, hSt.c14⟩ (by omega) (by omega)) gX4_insertSolo_X2_at rfl rfl rfl (by decide +kernel) ⟨Nat.le_of_ble_eq_true rfl, Nat.le_of_ble_eq_true rfl⟩ hSt.c13 rfl rfl rfl (Nat.le_of_ble_eq_true rfl) dX4_insertSolo_19 ⟨Nat.le_of_ble_eq_true rfl, Nat.le_of_ble_eq_true rfl⟩ (g_ki0 (fun H locs hz hP hL hS => ?_))
        refine g_top (y := (S 6 (u - 1))) (shf_at (f := S 6) (by omega)) ?_
        refine lv_iload_n hx hb dX4_insertSolo_22 rfl (lv_at hl 2 rfl) ?_
        refine lv_icmp_le (tgt := 42) hx hb dX4_insertSolo_23 (by decide) (fun c23 => ?_) (fun c23 => ?_)
        · have hip : u = insP S fr (sK S) := by rw [← hs, insP_1 c8 c23]
          refine lv_aload_n hx hb dX4_insertSolo_42 rfl (lv_at hl 0 rfl) ?_
          refine g_get (C := RX4) (T := TX4) (N := 13) hx hb hts hown hK hP hSt.c0 nX4_insertSolo_X4 rfl 10 (by decide) (by decide +kernel) rfl (v := .ref (x + 11)) rfl dX4_insertSolo_43 ?_
          refine lv_iload hx hb dX4_insertSolo_46 (lv_at hl 4 rfl) ?_
          refine lv_iload_n hx hb dX4_insertSolo_48 rfl (lv_at hl 1 rfl) ?_
          refine g_runV (As := [.int (nI u), .int (nI i)]) (rest := []) (own := RX4) (C := RX2) (T := TX2) (N := 1) 2 hx hb hml hown hts hK hz hP hL hS hlo hl.1 (c_X2_put l (x + 11) 8 u ((shS S u (sK S)) 5) ((nI i)) υ sz ⟨hSt.c11, hSt.c12⟩ (by omega) (by omega)) gX4_insertSolo_X2_put rfl rfl rfl (by decide +kernel) ⟨Nat.le_of_ble_eq_true rfl, Nat.le_of_ble_eq_true rfl⟩ hSt.c11 rfl rfl rfl (Nat.le_of_ble_eq_true rfl) dX4_insertSolo_49 ⟨Nat.le_of_ble_eq_true rfl, Nat.le_of_ble_eq_true rfl⟩ (g_kv0 (fun H locs hz hP hL hS => ?_))
          obtain ⟨σ5, e5⟩ : ∃ υ0 : gS, υ0 = gup υ (x + 12) (gI 8 (upd ((shS S u (sK S)) 5) u ((nI i)))) := ⟨_, rfl⟩
          have hP : gH D ka σ5 H := by rw [e5]; exact hP
          have hL : gL lo σ5 := by rw [e5]; exact hL
          have hSt : StAt σ5 x (sRow (shS S u (sK S)) 5 (upd ((shS S u (sK S)) 5) u ((nI i)))) := by rw [e5]; exact hSt.w12 (upd ((shS S u (sK S)) 5) u ((nI i)))
          have hag := hag.upe e5 (zo_k (by decide))
          refine lv_aload_n hx hb dX4_insertSolo_52 rfl (lv_at hl 0 rfl) ?_
          refine g_get (C := RX4) (T := TX4) (N := 13) hx hb hts hown hK hP hSt.c0 nX4_insertSolo_X4 rfl 11 (by decide) (by decide +kernel) rfl (v := .ref (x + 13)) rfl dX4_insertSolo_53 ?_
          refine lv_iload hx hb dX4_insertSolo_56 (lv_at hl 4 rfl) ?_
          refine lv_iload_n hx hb dX4_insertSolo_58 rfl (lv_at hl 2 rfl) ?_
          refine g_runV (As := [.int (nI u), .int (nI fr)]) (rest := []) (own := RX4) (C := RX2) (T := TX2) (N := 1) 2 hx hb hml hown hts hK hz hP hL hS hlo hl.1 (c_X2_put l (x + 13) 8 u ((sRow (shS S u (sK S)) 5 (upd ((shS S u (sK S)) 5) u ((nI i)))) 6) ((nI fr)) σ5 sz ⟨hSt.c13, hSt.c14⟩ (by omega) (by omega)) gX4_insertSolo_X2_put rfl rfl rfl (by decide +kernel) ⟨Nat.le_of_ble_eq_true rfl, Nat.le_of_ble_eq_true rfl⟩ hSt.c13 rfl rfl rfl (Nat.le_of_ble_eq_true rfl) dX4_insertSolo_59 ⟨Nat.le_of_ble_eq_true rfl, Nat.le_of_ble_eq_true rfl⟩ (g_kv0 (fun H locs hz hP hL hS => ?_))
          obtain ⟨σ6, e6⟩ : ∃ υ0 : gS, υ0 = gup σ5 (x + 14) (gI 8 (upd ((sRow (shS S u (sK S)) 5 (upd ((shS S u (sK S)) 5) u ((nI i)))) 6) u ((nI fr)))) := ⟨_, rfl⟩
          have hP : gH D ka σ6 H := by rw [e6]; exact hP
          have hL : gL lo σ6 := by rw [e6]; exact hL
          have hSt : StAt σ6 x (sRow (sRow (shS S u (sK S)) 5 (upd ((shS S u (sK S)) 5) u ((nI i)))) 6 (upd ((sRow (shS S u (sK S)) 5 (upd ((shS S u (sK S)) 5) u ((nI i)))) 6) u ((nI fr)))) := by rw [e6]; exact hSt.w14 (upd ((sRow (shS S u (sK S)) 5 (upd ((shS S u (sK S)) 5) u ((nI i)))) 6) u ((nI fr)))
          have hag := hag.upe e6 (zo_k (by decide))
          refine lv_aload_n hx hb dX4_insertSolo_62 rfl (lv_at hl 0 rfl) ?_
          refine g_get (C := RX4) (T := TX4) (N := 13) hx hb hts hown hK hP hSt.c0 nX4_insertSolo_X4 rfl 12 (by decide) (by decide +kernel) rfl (v := .ref (x + 15)) rfl dX4_insertSolo_63 ?_
          refine lv_iload hx hb dX4_insertSolo_66 (lv_at hl 4 rfl) ?_
          refine lv_iload_n hx hb dX4_insertSolo_68 rfl (lv_at hl 3 rfl) ?_
          refine g_runV (As := [.int (nI u), .int (nI to)]) (rest := []) (own := RX4) (C := RX2) (T := TX2) (N := 1) 2 hx hb hml hown hts hK hz hP hL hS hlo hl.1 (c_X2_put l (x + 15) 8 u ((sRow (sRow (shS S u (sK S)) 5 (upd ((shS S u (sK S)) 5) u ((nI i)))) 6 (upd ((sRow (shS S u (sK S)) 5 (upd ((shS S u (sK S)) 5) u ((nI i)))) 6) u ((nI fr)))) 7) ((nI to)) σ6 sz ⟨hSt.c15, hSt.c16⟩ (by omega) (by omega)) gX4_insertSolo_X2_put rfl rfl rfl (by decide +kernel) ⟨Nat.le_of_ble_eq_true rfl, Nat.le_of_ble_eq_true rfl⟩ hSt.c15 rfl rfl rfl (Nat.le_of_ble_eq_true rfl) dX4_insertSolo_69 ⟨Nat.le_of_ble_eq_true rfl, Nat.le_of_ble_eq_true rfl⟩ (g_kv0 (fun H locs hz hP hL hS => ?_))
          obtain ⟨σ7, e7⟩ : ∃ υ0 : gS, υ0 = gup σ6 (x + 16) (gI 8 (upd ((sRow (sRow (shS S u (sK S)) 5 (upd ((shS S u (sK S)) 5) u ((nI i)))) 6 (upd ((sRow (shS S u (sK S)) 5 (upd ((shS S u (sK S)) 5) u ((nI i)))) 6) u ((nI fr)))) 7) u ((nI to)))) := ⟨_, rfl⟩
          have hP : gH D ka σ7 H := by rw [e7]; exact hP
          have hL : gL lo σ7 := by rw [e7]; exact hL
          have hSt : StAt σ7 x (sRow (sRow (sRow (shS S u (sK S)) 5 (upd ((shS S u (sK S)) 5) u ((nI i)))) 6 (upd ((sRow (shS S u (sK S)) 5 (upd ((shS S u (sK S)) 5) u ((nI i)))) 6) u ((nI fr)))) 7 (upd ((sRow (sRow (shS S u (sK S)) 5 (upd ((shS S u (sK S)) 5) u ((nI i)))) 6 (upd ((sRow (shS S u (sK S)) 5 (upd ((shS S u (sK S)) 5) u ((nI i)))) 6) u ((nI fr)))) 7) u ((nI to)))) := by rw [e7]; exact hSt.w16 (upd ((sRow (sRow (shS S u (sK S)) 5 (upd ((shS S u (sK S)) 5) u ((nI i)))) 6 (upd ((sRow (shS S u (sK S)) 5 (upd ((shS S u (sK S)) 5) u ((nI i)))) 6) u ((nI fr)))) 7) u ((nI to)))
          have hag := hag.upe e7 (zo_k (by decide))
          refine lv_aload_n hx hb dX4_insertSolo_72 rfl (lv_at hl 0 rfl) ?_
          refine lv_dup hx hb dX4_insertSolo_73 rfl ?_
          refine g_get (C := RX4) (T := TX4) (N := 13) hx hb hts hown hK hP hSt.c0 nX4_insertSolo_X4 rfl 3 (by decide) (by decide +kernel) rfl (v := .int (nI (sK (sRow (sRow (sRow (shS S u (sK S)) 5 (upd ((shS S u (sK S)) 5) u ((nI i)))) 6 (upd ((sRow (shS S u (sK S)) 5 (upd ((shS S u (sK S)) 5) u ((nI i)))) 6) u ((nI fr)))) 7 (upd ((sRow (sRow (shS S u (sK S)) 5 (upd ((shS S u (sK S)) 5) u ((nI i)))) 6 (upd ((sRow (shS S u (sK S)) 5 (upd ((shS S u (sK S)) 5) u ((nI i)))) 6) u ((nI fr)))) 7) u ((nI to))))))) rfl dX4_insertSolo_74 ?_
          refine g_top (y := (nI (sK S))) rfl ?_
          refine lv_iconst (v := (nI 1)) hx hb dX4_insertSolo_77 (by decide) ?_
          refine lv_iadd hx hb dX4_insertSolo_78 ?_
          refine g_top (nI_add (sK S) 1) ?_
          refine g_put (C := RX4) (T := TX4) (N := 13) hx hb hts hown hK hP hL hS hSt.c0 nX4_insertSolo_X4 tyX4 tyX4_ok nmX4 rfl 3 (by decide) (by decide +kernel) rfl rfl (v := .int (nI ((sK S) + 1))) rfl rfl (Nat.le_of_ble_eq_true rfl) dX4_insertSolo_79 (fun H locs hq hP hL hS => ?_)
          have hz := hq.trans hz
          obtain ⟨σ8, e8⟩ : ∃ υ0 : gS, υ0 = gup σ7 x (gO 4 [.int (nI (sB (sRow (sRow (sRow (shS S u (sK S)) 5 (upd ((shS S u (sK S)) 5) u ((nI i)))) 6 (upd ((sRow (shS S u (sK S)) 5 (upd ((shS S u (sK S)) 5) u ((nI i)))) 6) u ((nI fr)))) 7 (upd ((sRow (sRow (shS S u (sK S)) 5 (upd ((shS S u (sK S)) 5) u ((nI i)))) 6 (upd ((sRow (shS S u (sK S)) 5 (upd ((shS S u (sK S)) 5) u ((nI i)))) 6) u ((nI fr)))) 7) u ((nI to)))))), .int (nI (sN (sRow (sRow (sRow (shS S u (sK S)) 5 (upd ((shS S u (sK S)) 5) u ((nI i)))) 6 (upd ((sRow (shS S u (sK S)) 5 (upd ((shS S u (sK S)) 5) u ((nI i)))) 6) u ((nI fr)))) 7 (upd ((sRow (sRow (shS S u (sK S)) 5 (upd ((shS S u (sK S)) 5) u ((nI i)))) 6 (upd ((sRow (shS S u (sK S)) 5 (upd ((shS S u (sK S)) 5) u ((nI i)))) 6) u ((nI fr)))) 7) u ((nI to)))))), .int ((sRow (sRow (sRow (shS S u (sK S)) 5 (upd ((shS S u (sK S)) 5) u ((nI i)))) 6 (upd ((sRow (shS S u (sK S)) 5 (upd ((shS S u (sK S)) 5) u ((nI i)))) 6) u ((nI fr)))) 7 (upd ((sRow (sRow (shS S u (sK S)) 5 (upd ((shS S u (sK S)) 5) u ((nI i)))) 6 (upd ((sRow (shS S u (sK S)) 5 (upd ((shS S u (sK S)) 5) u ((nI i)))) 6) u ((nI fr)))) 7) u ((nI to)))) 8 2), .int (nI ((sK S) + 1)), .int (nI (sR (sRow (sRow (sRow (shS S u (sK S)) 5 (upd ((shS S u (sK S)) 5) u ((nI i)))) 6 (upd ((sRow (shS S u (sK S)) 5 (upd ((shS S u (sK S)) 5) u ((nI i)))) 6) u ((nI fr)))) 7 (upd ((sRow (sRow (shS S u (sK S)) 5 (upd ((shS S u (sK S)) 5) u ((nI i)))) 6 (upd ((sRow (shS S u (sK S)) 5 (upd ((shS S u (sK S)) 5) u ((nI i)))) 6) u ((nI fr)))) 7) u ((nI to)))))), .ref (x + 1), .ref (x + 3), .ref (x + 5), .ref (x + 7), .ref (x + 9), .ref (x + 11), .ref (x + 13), .ref (x + 15)]) := ⟨_, rfl⟩
          have hP : gH D ka σ8 H := by rw [e8]; exact hP
          have hL : gL lo σ8 := by rw [e8]; exact hL
          have hSt : StAt σ8 x (sPut (sRow (sRow (sRow (shS S u (sK S)) 5 (upd ((shS S u (sK S)) 5) u ((nI i)))) 6 (upd ((sRow (shS S u (sK S)) 5 (upd ((shS S u (sK S)) 5) u ((nI i)))) 6) u ((nI fr)))) 7 (upd ((sRow (sRow (shS S u (sK S)) 5 (upd ((shS S u (sK S)) 5) u ((nI i)))) 6 (upd ((sRow (shS S u (sK S)) 5 (upd ((shS S u (sK S)) 5) u ((nI i)))) 6) u ((nI fr)))) 7) u ((nI to)))) 8 3 (nI ((sK S) + 1))) := by rw [e8]; exact hSt.p3 ((sK S) + 1) (by omega)
          have hag := hag.upe e8 (zo_0 (by decide))
          refine lv_iload hx hb dX4_insertSolo_82 (lv_at hl 4 rfl) ?_
          exact g_iret (z := sz) hx hb hr hlk hz hP hL hS dX4_insertSolo_84 (gxi_i ⟨by rw [← hip], rfl, (by rw [hip] at hSt; exact hSt), hag⟩)
        · refine lv_aload_n hx hb dX4_insertSolo_26 rfl (lv_at hl 0 rfl) ?_
          refine lv_iload hx hb dX4_insertSolo_27 (lv_at hl 4 rfl) ?_
          refine lv_iconst (v := (nI 1)) hx hb dX4_insertSolo_29 (by decide) ?_
          refine lv_isub hx hb dX4_insertSolo_30 ?_
          refine g_top (pk_sub (by omega : 1 ≤ u)) ?_
          refine lv_iload hx hb dX4_insertSolo_31 (lv_at hl 4 rfl) ?_
          refine g_runV (As := [.int (nI (u - 1)), .int (nI u)]) (rest := []) (own := RX4) (C := RX4) (T := TX4) (N := 13) 2 hx hb hml hown hts hK hz hP hL hS hlo hl.1 (c_X4_moveSolo l x (shS S u (sK S)) (u - 1) u υ sz hSt (by omega) (by omega)) gX4_insertSolo_X4_moveSolo rfl rfl rfl (by decide +kernel) ⟨Nat.le_of_ble_eq_true rfl, Nat.le_of_ble_eq_true rfl⟩ hSt.c0 rfl rfl rfl (Nat.le_of_ble_eq_true rfl) dX4_insertSolo_33 ⟨Nat.le_of_ble_eq_true rfl, Nat.le_of_ble_eq_true rfl⟩ (g_kxv0 (fun τ_9 H locs z1 hz hp hP hL hS => ?_))
          obtain ⟨hz1, h_10n, h_10a⟩ := hp
          have hz := hz.trans hz1
          have hSt := h_10n
          have hag := hag.tr h_10a (fun q h => by have h1 := h.1; have h2 := h.2; exact ⟨by omega, by omega⟩)
          refine lv_iinc (v := (nI (u - 1))) (lv' := [(4, .int (nI (u - 1))), (0, .ref x), (1, .int (nI i)), (2, .int (nI fr)), (3, .int (nI to))]) hx hb dX4_insertSolo_36 hl (k := 4) rfl (g_dec (by omega)) (by decide) rfl (fun ls hl => ?_)
          refine lv_goto (tgt := 6) hx hb dX4_insertSolo_39 (by decide) ?_
          exact ih_lp (u - 1) (by omega) ((insP_s c8 c23).trans hs) (by omega) τ_9 (by rw [← shS_s (by omega) hp0]; exact hSt) hag hL H locs ls hz hP hS (lv_sub hl [1, 2, 3, 4, 0] rfl)
  exact lp _ (sK S) (Nat.le_refl _) rfl (Nat.lt_succ_self _) σ (by rw [shS_0]; exact hSt) gAs.rf hL H locs ls hz hP hS (lv_sub hl [1, 2, 3, 4, 0] rfl)
