/-! what each singer does, as the law counts it -/
theorem tsX {S : sS} (h : okY S) {i j : Nat} (hj : j < sB S) : toSing S i j = (decide (0 < tk (S 0 j)) && (presB S i && soloOk S i j)) := by
  rw [toSing, h.rest hj]
  by_cases c : tk (S 0 j) = 0
  · rw [decide_eq_true c, decide_eq_false (by omega)]; rfl
  · rw [decide_eq_false c, decide_eq_true (by omega), Bool.and_assoc]; rfl
theorem pres_f {x : Bool} (h : x.toNat ≠ 1) : x = false := by
  cases x
  · rfl
  · exact absurd rfl h
theorem pres_1 {x : Bool} (h : x.toNat = 1) : x = true := by
  cases x
  · cases h
  · rfl
theorem ts_0 {S : sS} (h : okY S) {i j : Nat} (hj : j < sB S) (c : tk (S 0 j) = 0) : toSing S i j = false := by
  rw [tsX h hj, decide_eq_false (by omega), Bool.false_and]
theorem ts_1 {S : sS} (h : okY S) {i j : Nat} (hj : j < sB S) (c : (presB S i).toNat ≠ 1) : toSing S i j = false := by
  rw [tsX h hj, pres_f c, Bool.false_and, Bool.and_false]
theorem ts_2 {S : sS} (h : okY S) {i j k : Nat} (hi : i < sN S) (hj : j < sB S) (e : soloF S j = some k) (c : tk (S 5 k) ≠ i) : toSing S i j = false := by
  have hk := soloF_lt e
  have hs := h.sl hk
  have hN := h.bnd
  have e2 : soloOk S i j = false := by
    rw [soloOk, e]
    show decide (S 5 k = nI i) = false
    refine decide_eq_false fun q => c ?_
    rw [q, tk_n (by omega)]
  rw [tsX h hj, e2, Bool.and_false, Bool.and_false]
theorem ts_n {S : sS} (h : okY S) {i j : Nat} (hj : j < sB S) (c : 0 < tk (S 0 j)) (c2 : (presB S i).toNat = 1) (e : soloF S j = none) : toSing S i j = true := by
  have e2 : soloOk S i j = true := by rw [soloOk, e]
  rw [tsX h hj, e2, pres_1 c2, decide_eq_true c]; rfl
theorem ts_s {S : sS} (h : okY S) {i j k : Nat} (hj : j < sB S) (c : 0 < tk (S 0 j)) (c2 : (presB S i).toNat = 1) (e : soloF S j = some k) (c3 : tk (S 5 k) = i) : toSing S i j = true := by
  have hs := h.sl (soloF_lt e)
  have e2 : soloOk S i j = true := by
    rw [soloOk, e]
    show decide (S 5 k = nI i) = true
    rw [← c3]
    exact decide_eq_true hs.1
  rw [tsX h hj, e2, pres_1 c2, decide_eq_true c]; rfl
theorem dn_t {S : sS} {i j q : Nat} (h : dosQ S i j = q) : dnQ S i q j + 1 = dnQ S i q (j + 1) := (cntF_t (p := fun b => decide (dosQ S i b = q)) (decide_eq_true h)).symm
theorem dn_f {S : sS} {i j q : Nat} (h : dosQ S i j ≠ q) : dnQ S i q j + 0 = dnQ S i q (j + 1) := (cntF_f (p := fun b => decide (dosQ S i b = q)) (decide_eq_false h)).symm
theorem rn_t {S : sS} {i j : Nat} (h : dosQ S i j = 0) : rnF (doS S i) j + 1 = rnF (doS S i) (j + 1) := rnF_t (by rw [doS]; show nI (dosQ S i j) = 0; rw [h]; rfl)
theorem rn_f {S : sS} {i j : Nat} (h : dosQ S i j ≠ 0) : 0 = rnF (doS S i) (j + 1) := rnF_f (fun q => h ((g_nz (by have := dosQ_lt S i j; omega)).mp (show nI (dosQ S i j) = 0 from q)))
theorem lg_1 {S : sS} {i j : Nat} (h : rnF (doS S i) (j + 1) ≤ lgF (doS S i) j) : lgF (doS S i) j = lgF (doS S i) (j + 1) := by rw [lgF, Nat.max_eq_left h]
theorem lg_2 {S : sS} {i j : Nat} (h : lgF (doS S i) j < rnF (doS S i) (j + 1)) : rnF (doS S i) (j + 1) = lgF (doS S i) (j + 1) := by rw [lgF, Nat.max_eq_right (by omega)]
theorem ls_1 {S : sS} {i j : Nat} (h : lsN S i j ≤ lfN S i (j + 1)) : lsN S i j = lsN S i (j + 1) := by rw [lsN, if_neg (by omega)]
theorem ls_2 {S : sS} {i j : Nat} (h : lfN S i (j + 1) < lsN S i j) : lfN S i (j + 1) = lsN S i (j + 1) := by rw [lsN, if_pos h]
theorem lf_a {S : sS} (h : okY S) {i j : Nat} (hi : i < sN S) (hj : j < sB S) (hd : dosQ S i j ≠ 0) (c : lfN S i j + tk (S 4 i) ≤ tk (S 3 i)) : lfN S i j + tk (S 4 i) = lfN S i (j + 1) := by rw [lfN_s1 h hi hj hd, if_neg (by omega)]
theorem lf_b {S : sS} (h : okY S) {i j : Nat} (hi : i < sN S) (hj : j < sB S) (hd : dosQ S i j ≠ 0) (c : tk (S 3 i) < lfN S i j + tk (S 4 i)) : tk (S 3 i) = lfN S i (j + 1) := by rw [lfN_s1 h hi hj hd, if_pos c]
theorem cn_s {p : Nat → Bool} {n : Nat} : cntF p n + (p n).toNat = cntF p (n + 1) := by
  cases c : p n
  · rw [cntF_f c]; rfl
  · rw [cntF_t c]; rfl
theorem cntF_imp {p q : Nat → Bool} : ∀ {n : Nat}, (∀ j, j < n → p j = true → q j = true) → cntF p n ≤ cntF q n
  | 0, _ => Nat.le_refl 0
  | n + 1, h => by
    have ih := cntF_imp (n := n) (fun j hj => h j (by omega))
    by_cases c : p n = true
    · rw [cntF_t c, cntF_t (h n (by omega) c)]; omega
    · rw [cntF_f (by simpa using c)]
      exact Nat.le_trans ih (cntF_mono (Nat.le_succ n))
theorem mk_ge (S : sS) (i k : Nat) : dnQ S i 1 k ≤ cntF (markB S i) k := cntF_imp (fun j _ h => (do_1.mp (of_decide_eq_true h)).2)
theorem d4 {d : Nat} (h : d < 4) : d = 0 ∨ d = 1 ∨ d = 2 ∨ d = 3 := by omega
