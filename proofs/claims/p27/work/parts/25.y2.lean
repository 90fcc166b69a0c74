/-! small steps of the law -/
def lowN (v : Int32) (n : Nat) : Nat := (v.toBitVec.toNat % 2 ^ 31) % n
theorem dosQ_lt (S : sS) (i j : Nat) : dosQ S i j < 4 := dosF_lt _ _ _ _
theorem cn_le (S : sS) (q j : Nat) : cnQ S q j ≤ sN S := cntF_le _ _
theorem dn_le (S : sS) (i q k : Nat) : dnQ S i q k ≤ k := cntF_le _ _
theorem lowN_lt (v : Int32) {n : Nat} (h : 0 < n) : lowN v n < n := Nat.mod_lt _ h
theorem i2c_n {a : Nat} (h : a < 65536) : ((nI a).toUInt32 % 65536).toInt32 = nI a :=
  (pk_char _).trans (by rw [pk_tn (by omega), Nat.mod_eq_of_lt h])
theorem nI_nz0 {n : Nat} (h : 0 < n) (h2 : n < 2147483648) : ¬ nI n = 0 := fun q => by
  have := (g_nz h2).mp q
  omega
/-- what the law asks of the object, at each of its steps -/
def okC (P : Nat) (C : Nat → sS) (kp : Nat → Bool) : Prop := (∀ k : Nat, k < P → okS (C k)) ∧ ∀ k : Nat, kp k = false
theorem okC.res {P : Nat} {C : Nat → sS} {kp : Nat → Bool} (h : okC P C kp) : ∀ k : Nat, k < 2 → kp k = true → okS (C (k + 5)) := fun k _ q => by
  rw [h.2 k] at q
  cases q
theorem okC.act {S : sS} {P : Nat} {C : Nat → sS} {kp : Nat → Bool} (h : okC P C kp) (hS : okS S) (hP : P ≤ 5) : okC (recP P) (recS C P S) kp := ⟨fun k hk => by
  by_cases c : P < 5
  · rw [recS_t C S c]
    rw [recP_t c] at hk
    by_cases c2 : k = P
    · rw [c2, uS_s]; exact hS
    · rw [uS_n c2]; exact h.1 k (by omega)
  · have hP5 : P = 5 := by omega
    subst hP5
    rw [recS_f C S (by omega) (by omega)]
    have hk5 : k < 5 := Nat.lt_of_lt_of_le hk (recP_le 5)
    by_cases c2 : k = 4
    · rw [c2, uS_s]; exact hS
    · rw [uS_n c2, rot_p]
      exact h.1 _ (rotp_lt (by omega) (by omega)), h.2⟩
theorem recP_pos {P : Nat} : 0 < recP P := by
  by_cases c : P < 5
  · rw [recP_t c]; omega
  · rw [recP, if_neg c]; omega
theorem rec_last {S : sS} {P : Nat} {C : Nat → sS} (hP : P ≤ 5) : recS C P S (recP P - 1) = S := by
  by_cases c : P < 5
  · rw [recS_t C S c, recP_t c, Nat.add_sub_cancel, uS_s]
  · rw [recS_f C S (by omega) hP, recP_f (by omega) hP, Nat.add_sub_cancel, uS_s]
theorem okC.pred {P : Nat} {C : Nat → sS} {kp : Nat → Bool} (h : okC P C kp) : okC (P - 1) C kp := ⟨fun k hk => h.1 k (by omega), h.2⟩
/-! the least breath that does without a gasp -/
theorem gas_own {S : sS} (h : okY S) {i : Nat} (hi : i < sN S) : gasB S i (tk (S 3 i)) = decide (dnQ S i 2 (sB S) = 0) := by
  rw [gasB, ← (h.br hi).1, cntF_c (p := fun j => decide (nI (dosF S i (S 3 i) j) = nI 2)) (q := fun b => decide (dosQ S i b = 2)) (fun j _ => by rw [decide_eq_decide]; exact nIq (dosF_lt _ _ _ _) (by decide))]
theorem fK_min {p : Nat → Bool} : ∀ {n k r : Nat}, firstK p n k = some r → ∀ j, k ≤ j → j < r → p j = false
  | 0, _, _, h => by simp [firstK] at h
  | n + 1, k, r, h => by
    intro j h1 h2
    rw [firstK] at h
    by_cases c : p k = true
    · rw [if_pos c] at h
      cases h
      omega
    · rw [if_neg c] at h
      by_cases c2 : j = k
      · rw [c2]; simpa using c
      · exact fK_min h j (by omega) h2
theorem br_none {S : sS} (h : okY S) {i : Nat} (hi : i < sN S) (e : firstK (gasB S i) 37 4 = none) : 0 < dnQ S i 2 (sB S) := by
  have hb := h.br hi
  have h1 := fK_none e (tk (S 3 i)) (by omega) (by omega)
  rw [gas_own h hi] at h1
  exact Nat.pos_of_ne_zero (of_decide_eq_false h1)
theorem br_some {S : sS} (h : okY S) {i k : Nat} (hi : i < sN S) (e : firstK (gasB S i) 37 4 = some k) : 4 ≤ k ∧ k ≤ 40 ∧ (0 < dnQ S i 2 (sB S) → k ≠ tk (S 3 i)) ∧ (dnQ S i 2 (sB S) = 0 → k ≤ tk (S 3 i)) := by
  have hb := h.br hi
  have h1 := fK_lt e
  refine ⟨h1.1, by omega, fun c q => ?_, fun c => ?_⟩
  · have h2 := h1.2.2
    rw [q, gas_own h hi] at h2
    have := of_decide_eq_true h2
    omega
  · refine Nat.not_lt.mp fun q => ?_
    have h2 := fK_min e (tk (S 3 i)) (by omega) q
    rw [gas_own h hi, decide_eq_true c] at h2
    cases h2
theorem ybr {S : sS} (h : okY S) {i : Nat} (hi : i < sN S) : t_breath S (nI i) = oI (firstK (gasB S i) 37 4) := by
  have hN := h.bnd
  rw [t_breath, if_pos (inN_nI hi (by omega)), tk_n (by omega)]
theorem ybr_out (S : sS) : t_breath S (-1) = -1 := by
  rw [t_breath, if_neg (nb (inN_f1 (by decide)))]
/-! without a singer -/
def swN (S : sS) (i : Nat) : Nat := cntF (silB S (chR S 0) i) (sB S)
theorem ysw {S : sS} (h : okY S) {i : Nat} (hi : i < sN S) : t_silent S (nI i) = nI (swN S i) := by
  have hN := h.bnd
  rw [t_silent, if_pos (inN_nI hi (by omega)), tk_n (by omega)]
  rfl
theorem ysw_out (S : sS) : t_silent S (nI (sN S)) = -1 := by
  rw [t_silent, if_neg (nb (inN_f2 (Int32.le_refl _)))]
theorem hb_and {x y : Int32} {s : Nat} (hs : s < 32) : hasB (x &&& y) s = (hasB x s && hasB y s) := by
  rw [hb_bit hs, hb_bit hs, hb_bit hs, Int32.toBitVec_and, BitVec.getLsbD_and]
theorem hb_m1 {s : Nat} (hs : s < 32) : hasB (-1) s = true := (by decide +kernel : ∀ s, s < 32 → hasB (-1) s = true) s hs
theorem hb_not {i s : Nat} (hi : i < 32) (hs : s < 32) : hasB (bitI i ^^^ -1) s = !decide (i = s) := by
  have e : bitI i ^^^ -1 = (-1 : Int32) ^^^ bitI i := Int32.xor_comm _ _
  rw [e, hb_xor hi hs, hb_m1 hs, Bool.true_xor]
/-- a beat is silent without singer i if nobody else sings in it -/
theorem sil_c {S : sS} {i j : Nat} (hj : j < sB S) (hN : sN S ≤ 12) (hi : i < sN S) : silB S (chR S 0) i j = (!restB S j && decide (∀ s, s < sN S → s ≠ i → dosQ S s j ≠ 0)) := by
  rw [silB]
  congr 1
  have e : chR S 0 j = grpI S 0 j (sN S) := if_pos hj
  rw [e, decide_eq_decide]
  constructor
  · intro h s hs hne hd
    have h1 : hasB (grpI S 0 j (sN S) &&& (bitI i ^^^ -1)) s = false := by rw [h]; exact hb_0 s
    rw [hb_and (by omega), hb_grp S 0 j (sN S) s hN (by omega), hb_not (by omega) (by omega), decide_eq_true hs, decide_eq_true hd, decide_eq_false (fun q => hne q.symm)] at h1
    cases h1
  · intro h
    apply hb_ext
    intro s hs
    rw [hb_0, hb_and hs, hb_grp S 0 j (sN S) s hN hs, hb_not (by omega) hs]
    by_cases c : s < sN S
    · by_cases c2 : i = s
      · rw [decide_eq_true c2]; simp
      · rw [decide_eq_false (h s c (fun q => c2 q.symm))]; simp
    · rw [decide_eq_false c]; rfl
/-- faults of nobody singing -/
theorem cq_0 {S : sS} : cqG (gF S) 0 (sB S) 0 0 = cntF (fun b => !restB S b && decide (cntF (fun i => decide (dosQ S i b = 0)) (sN S) = 0)) (sB S) := by
  have e : ∀ b, cnG (gF S) b 0 = if (!restB S b && decide (cntF (fun i => decide (dosQ S i b = 0)) (sN S) = 0)) = true then 1 else 0 := fun b => by
    have h0 : gF S b 0 0 = (!restB S b && decide (cntF (fun i => decide (dosQ S i b = 0)) (sN S) = 0)) := by
      rw [gF_0, decide_eq_true rfl, Bool.true_and]
    have hz : ∀ j, 1 ≤ j → j < 12 → gF S b 0 j = false := fun j h1 _ => by
      rw [gF_0, decide_eq_false (by omega), Bool.false_and]
    rw [cnG, cntF_z (n := 1) 12 (by omega) hz]
    show 0 + (if gF S b 0 0 = true then 1 else 0) = _
    rw [h0, Nat.zero_add]
  have e2 : cqG (gF S) 0 (sB S) 0 0 = suF (fun b => cnG (gF S) b 0) (sB S) := by
    rw [cqG, if_neg (Nat.not_lt_zero 0), if_pos rfl]
    rfl
  rw [e2, suF_c (fun b _ => e b), suF_if]
theorem sw_abs {S : sS} (h : okY S) {i : Nat} (hi : i < sN S) (hp : (presB S i).toNat = 0) : swN S i = cqG (gF S) 0 (sB S) 0 0 := by
  have hp : presB S i = false := by
    cases c : presB S i
    · rfl
    · rw [c] at hp; cases hp
  have hd : ∀ b, dosQ S i b ≠ 0 := fun b q => by
    have := (do_0.mp q).1
    rw [toSing, hp] at this
    simp at this
  rw [cq_0, swN]
  apply cntF_c
  intro j hj
  rw [sil_c hj h.bnd.2.1 hi]
  congr 1
  rw [decide_eq_decide, cntF_0]
  constructor
  · intro q s hs
    by_cases c : s = i
    · rw [c]; exact decide_eq_false (hd j)
    · exact decide_eq_false (q s hs c)
  · intro q s hs _
    exact of_decide_eq_false (q s hs)
theorem ts_prs {S : sS} {i s b : Nat} (hi : i < 32) (hs : s < 32) : toSing (prsS S i) s b = (!restB S b && (presB S s ^^ decide (i = s)) && soloOk S s b) := by
  have e : toSing (prsS S i) s b = (!restB S b && presB (prsS S i) s && soloOk S s b) := rfl
  rw [e, prsS_p hi hs]
theorem lf_prs {S : sS} {i s : Nat} (hi : i < 32) (hs : s < 32) (hne : s ≠ i) : ∀ b, leftF (prsS S i) s (S 3 s) b = leftF S s (S 3 s) b
  | 0 => rfl
  | b + 1 => by
    have e : ∀ lf, doN (prsS S i) s b lf = doN S s b lf := fun lf => by
      have e1 : toSing (prsS S i) s b = toSing S s b := by
        rw [ts_prs hi hs, decide_eq_false (fun q => hne q.symm), Bool.xor_false]; rfl
      rw [doN, e1]; rfl
    rw [leftF, leftF, lf_prs hi hs hne b, e]
    rfl
theorem do_prs {S : sS} {i s b : Nat} (hi : i < 32) (hs : s < 32) (hne : s ≠ i) : dosQ (prsS S i) s b = dosQ S s b := by
  have e : ∀ lf, doN (prsS S i) s b lf = doN S s b lf := fun lf => by
    have e1 : toSing (prsS S i) s b = toSing S s b := by
      rw [ts_prs hi hs, decide_eq_false (fun q => hne q.symm), Bool.xor_false]; rfl
    rw [doN, e1]; rfl
  show doN (prsS S i) s b (leftF (prsS S i) s (S 3 s) b) = doN S s b (leftF S s (S 3 s) b)
  rw [lf_prs hi hs hne, e]
theorem do_prs3 {S : sS} {i b : Nat} (hi : i < 32) (hp : presB S i = true) : dosQ (prsS S i) i b = 3 := by
  refine do_3.mpr ?_
  rw [ts_prs hi hi, hp, decide_eq_true rfl]
  simp
theorem sw_eq {S : sS} (h : okY S) {i : Nat} (hi : i < sN S) (hp : presB S i = true) : cqG (gF (prsS S i)) 0 (sB (prsS S i)) 0 0 = swN S i := by
  have hN := h.bnd.2.1
  rw [cq_0, swN]
  apply cntF_c
  intro j hj
  rw [sil_c (S := S) hj hN hi]
  show (!restB S j && _) = _
  congr 1
  rw [decide_eq_decide, cntF_0]
  show (∀ s, s < sN S → _) ↔ _
  constructor
  · intro q s hs hne
    have h1 := of_decide_eq_false (q s hs)
    rw [do_prs (by omega) (by omega) hne] at h1
    exact h1
  · intro q s hs
    refine decide_eq_false fun h1 => ?_
    by_cases c : s = i
    · rw [c, do_prs3 (by omega) hp] at h1; cases h1
    · rw [do_prs (by omega) (by omega) c] at h1
      exact q s hs c h1
theorem pres_t {x : Bool} (h : 0 < x.toNat) : x = true := by
  cases x
  · cases h
  · rfl
theorem okY.prs {S : sS} (h : okY S) {i : Nat} (hi : i < sN S) : okY (prsS S i) := ⟨h.1.setPres hi, h.2.1, h.2.2.1, h.2.2.2.1, h.2.2.2.2.1, h.2.2.2.2.2.1, h.2.2.2.2.2.2⟩
theorem sp_yes {S : sS} (h : okY S) {i : Nat} {a2 : Bool} (hi : i < sN S) (hp : presB S i ≠ a2) : o_setPresent S (nI i) a2 = (nI (cntF (presB (prsS S i)) (sN (prsS S i))), some (prsS S i)) := by
  have hN := h.bnd
  rw [o_setPresent, if_pos (inN_nI hi (by omega)), tk_n (by omega), if_pos hp, (h.prs hi).1.np]
theorem sp_no {S : sS} (h : okY S) {i : Nat} {a2 : Bool} (hi : i < sN S) (hp : presB S i = a2) : o_setPresent S (nI i) a2 = (-5, none) := by
  have hN := h.bnd
  rw [o_setPresent, if_pos (inN_nI hi (by omega)), tk_n (by omega), if_neg (fun q => q hp)]
/-! what is refused -/
theorem in_nt (n : Nat) : ¬ (inN (nI n) n = true) := nb (inN_f2 (Int32.le_refl _))
theorem in_m1 (n : Nat) : ¬ (inN (-1) n = true) := nb (inN_f1 (by decide))
theorem in_0 {n : Nat} (h : 0 < n) (h2 : n < 2147483648) : inN (nI 0) n = true := inN_nI h h2
theorem e_lo1 (S : sS) (x y : Int32) : o_setLoudness S (nI (sB S)) x y = (-1, none) := by rw [o_setLoudness, if_neg (in_nt _)]
theorem e_lo2 {S : sS} (h : okY S) (hB : 0 < sB S) : o_setLoudness S (nI 0) (nI 0) (nI 6) = (-2, none) := by
  have h1 := h.bnd
  rw [o_setLoudness, if_pos (in_0 hB (by omega)), if_pos (in_0 hB (by omega)), if_pos (by decide), if_neg (by decide)]
theorem e_so1 (S : sS) (x : Int32) : o_setSort S (-1) x = (-1, none) := by rw [o_setSort, if_neg (in_m1 _)]
theorem e_so2 {S : sS} (h : okY S) (hB : 0 < sB S) : o_setSort S (nI 0) (nI 3) = (-2, none) := by
  have h1 := h.bnd
  rw [o_setSort, if_pos (in_0 hB (by omega)), if_neg (by decide)]
theorem e_ad1 (S : sS) : o_addSinger S (nI 3) (nI 1) = (-2, none) := by rw [o_addSinger, if_neg (by decide)]
theorem e_ad2 (S : sS) : o_addSinger S (nI 41) (nI 1) = (-2, none) := by rw [o_addSinger, if_neg (by decide)]
theorem e_ad3 (S : sS) : o_addSinger S (nI 4) (nI 11) = (-2, none) := by rw [o_addSinger, if_pos (by decide), if_neg (by decide)]
theorem e_sp (S : sS) (x : Bool) : o_setPresent S (nI (sN S)) x = (-1, none) := by rw [o_setPresent, if_neg (in_nt _)]
theorem e_as1 (S : sS) (x y : Int32) : o_addSolo S (nI (sN S)) x y = (-1, none) := by rw [o_addSolo, if_neg (in_nt _)]
theorem e_as2 {S : sS} (h : okY S) (hN : 0 < sN S) (y : Int32) : o_addSolo S (nI 0) (nI (sB S)) y = (-1, none) := by
  have h1 := h.bnd
  rw [o_addSolo, if_pos (in_0 hN (by omega)), if_neg (in_nt _)]
theorem e_rs (S : sS) : o_removeSolo S (-1) = (-1, none) := by rw [o_removeSolo, if_neg (in_m1 _)]
theorem e_mk1 (S : sS) (x : Int32) (y : Bool) : o_mark S (nI (sN S)) x y = (-1, none) := by rw [o_mark, if_neg (in_nt _)]
theorem e_mk2 {S : sS} (h : okY S) (hN : 0 < sN S) (y : Bool) : o_mark S (nI 0) (nI (sB S)) y = (-1, none) := by
  have h1 := h.bnd
  rw [o_mark, if_pos (in_0 hN (by omega)), if_neg (in_nt _)]
theorem e_sr0 (S : sS) : o_setReserve S (nI 0) = (-2, none) := by rw [o_setReserve, if_neg (by decide)]
theorem e_sr9 (S : sS) : o_setReserve S (nI 9) = (-2, none) := by rw [o_setReserve, if_neg (by decide)]
theorem e_re (S : sS) (C : Nat → sS) (kp : Nat → Bool) : o_restore S C kp (nI 2) = (-1, none) := by rw [o_restore, if_neg (by decide)]
