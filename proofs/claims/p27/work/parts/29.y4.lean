/-! beats, solos, faults: what the law counts -/
/-- the first beat of the syllable as it stands ahead of beat j -/
def fiL (S : sS) : Nat → Int32
  | 0 => -5
  | j + 1 => firstI S j
theorem fi_0 {S : sS} (h : okY S) {j : Nat} (hj : j < sB S) (c : tk (S 0 j) = 0) : firstI S j = -5 := firstI_r (by rw [h.rest hj, decide_eq_true c])
theorem re_n {S : sS} (h : okY S) {j : Nat} (hj : j < sB S) (c : 0 < tk (S 0 j)) : restB S j = false := by rw [h.rest hj, decide_eq_false (by omega)]
theorem fi_s {S : sS} (h : okY S) {j : Nat} (hj : j < sB S) (c : 0 < tk (S 0 j)) : firstI S j = nI (sylF S j) := firstI_n (re_n h hj c)
theorem fi_2 {S : sS} (h : okY S) {j : Nat} (hj : j < sB S) (c : tk (S 0 j) = 2) : firstI S j = nI j := by
  have h1 := (h.so hj).1
  rw [fi_s h hj (by omega), sylF_1 (fun q => by rw [q, tk_n (by omega)] at c; cases c)]
theorem fi_n {S : sS} (h : okY S) {j : Nat} (hj : j < sB S) (c : 0 < tk (S 0 j)) (c2 : fiL S j < 0) : firstI S j = nI j := by
  rw [fi_s h hj c]
  congr 1
  cases j with
  | zero => rfl
  | succ g =>
    refine sylF_2 (by omega) ?_
    rw [Nat.add_sub_cancel]
    cases e : restB S g
    · rw [fiL, firstI_n e] at c2
      have hB := h.bnd
      have h2 := sylF_le S g
      exact absurd c2 (Int32.not_lt.mpr (nI_pos' (by omega)))
    · rfl
theorem fi_p {S : sS} (h : okY S) {j : Nat} (hj : j < sB S) (c : tk (S 0 j) = 1) (c2 : ¬ fiL S j < 0) : firstI S j = fiL S j := by
  cases j with
  | zero => exact absurd (show (-5 : Int32) < 0 by decide) c2
  | succ g =>
    have h1 := (h.so hj).1
    have e : restB S g = false := by
      cases e : restB S g
      · rfl
      · rw [fiL, firstI_r e] at c2; exact absurd (by decide) c2
    rw [fi_s h hj (by omega), fiL, firstI_n e]
    congr 1
    rw [sylF, if_pos ⟨by rw [h1, c], e⟩]
theorem lon_r {S : sS} (h : okY S) {j : Nat} (hj : j < sB S) (c : tk (S 0 j) = 0) : lonF S j = lonF S (j + 1) := by
  rw [lonF, if_pos (by rw [h.rest hj, decide_eq_true c])]
theorem lon_1 {S : sS} (h : okY S) {j : Nat} (hj : j < sB S) (c : 0 < tk (S 0 j)) (c2 : j - sylF S j + 1 ≤ lonF S j) : lonF S j = lonF S (j + 1) := by
  rw [lonF, if_neg (nb (re_n h hj c)), Nat.max_eq_left c2]
theorem lon_2 {S : sS} (h : okY S) {j : Nat} (hj : j < sB S) (c : 0 < tk (S 0 j)) (c2 : lonF S j < j - sylF S j + 1) : j - sylF S j + 1 = lonF S (j + 1) := by
  rw [lonF, if_neg (nb (re_n h hj c)), Nat.max_eq_right (by omega)]
theorem rs_t {S : sS} (h : okY S) {j : Nat} (hj : j < sB S) (c : tk (S 0 j) = 0) : cntF (restB S) j + 1 = cntF (restB S) (j + 1) := (cntF_t (by rw [h.rest hj, decide_eq_true c])).symm
theorem rs_f {S : sS} (h : okY S) {j : Nat} (hj : j < sB S) (c : 0 < tk (S 0 j)) : cntF (restB S) j + 0 = cntF (restB S) (j + 1) := (cntF_f (re_n h hj c)).symm
theorem sy_t {S : sS} {j : Nat} (c : firstI S j = nI j) : cntF (fun b => decide (firstI S b = nI b)) j + 1 = cntF (fun b => decide (firstI S b = nI b)) (j + 1) := (cntF_t (p := fun b => decide (firstI S b = nI b)) (decide_eq_true c)).symm
theorem sy_f {S : sS} {j : Nat} (c : ¬ firstI S j = nI j) : cntF (fun b => decide (firstI S b = nI b)) j + 0 = cntF (fun b => decide (firstI S b = nI b)) (j + 1) := (cntF_f (p := fun b => decide (firstI S b = nI b)) (decide_eq_false c)).symm
theorem m5_ne {j : Nat} (h : j < 2147483648) : ¬ ((-5 : Int32) = nI j) := fun q => g_ne5 h q.symm
/-- how many singers do what in a beat, of the first n -/
def nrow (S : sS) (j n : Nat) : Nat → Int32 := fun q => nI (cntF (fun x => decide (dosQ S x j = q)) n)
theorem nrow_0 (S : sS) (j : Nat) : nrow S j 0 = fun _ => 0 := rfl
theorem nrow_s (S : sS) (j n : Nat) : upd (nrow S j n) (dosQ S n j) (nrow S j n (dosQ S n j) + nI 1) = nrow S j (n + 1) := by
  funext q
  by_cases c : q = dosQ S n j
  · rw [c, upd_s]
    show nI _ + nI 1 = nI _
    rw [nI_add]
    congr 1
    exact (cntF_t (p := fun x => decide (dosQ S x j = dosQ S n j)) (decide_eq_true rfl)).symm
  · rw [upd_n c]
    exact congrArg nI (cntF_f (p := fun x => decide (dosQ S x j = q)) (decide_eq_false (fun e => c e.symm))).symm
/-! solos -/
def laS (S : sS) : Nat → Int32
  | 0 => -1
  | k + 1 => nI (tk (S 7 k))
theorem so_last {S : sS} (h : okY S) {k : Nat} (hk : k < sK S) : ¬ nI (tk (S 6 k)) ≤ laS S k := by
  cases k with
  | zero => exact Int32.not_le.mpr (by have h1 := h.sl hk; exact Int32.lt_of_lt_of_le (by decide : (-1 : Int32) < 0) (nI_pos' (by omega)))
  | succ g =>
    have h1 := h.sl hk
    have h2 := h.sl (k := g) (by omega)
    have h3 := h.sn hk
    rw [laS, nI_leI (by omega) (by omega)]
    omega
def covN (S : sS) (j k : Nat) : Bool := decide (tk (S 6 k) ≤ j) && decide (j ≤ tk (S 7 k))
def duS (S : sS) (j : Nat) : Nat → Int32
  | 0 => -5
  | k + 1 => if covN S j k = true then nI k else duS S j k
theorem du_1 {S : sS} {j k : Nat} (c : j < tk (S 6 k)) : duS S j k = duS S j (k + 1) := by
  rw [duS, if_neg]; rw [covN, decide_eq_false (by omega)]; simp
theorem du_2 {S : sS} {j k : Nat} (c : tk (S 7 k) < j) : duS S j k = duS S j (k + 1) := by
  rw [duS, if_neg]; rw [covN, decide_eq_false (p := j ≤ tk (S 7 k)) (by omega)]; simp
theorem du_3 {S : sS} {j k : Nat} (c : tk (S 6 k) ≤ j) (c2 : j ≤ tk (S 7 k)) : nI k = duS S j (k + 1) := by
  rw [duS, if_pos]; rw [covN, decide_eq_true c, decide_eq_true c2]; rfl
theorem sl_lt {S : sS} (h : okY S) : ∀ {d k : Nat}, k + d + 1 < sK S → tk (S 7 k) < tk (S 6 (k + d + 1))
  | 0, k, hk => h.sn hk
  | d + 1, k, hk => by
    have h1 := sl_lt h (d := d) (k := k) (by omega)
    have h2 := h.sn (k := k + d + 1) (by omega)
    have h3 := h.sl (k := k + d + 1) (by omega)
    have e : k + (d + 1) + 1 = k + d + 1 + 1 := by omega
    rw [e]
    omega
theorem cov_N {S : sS} (h : okY S) {j k : Nat} (hj : j < 2147483648) (hk : k < sK S) : cov S j k = covN S j k := by
  have h1 := h.sl hk
  rw [cov, covN, h1.2.2.1, h1.2.2.2.1, tk_n (by omega), tk_n (by omega)]
  congr 1
  · rw [decide_eq_decide]; exact nI_leI (by omega) (by omega)
  · rw [decide_eq_decide]; exact nI_leI (by omega) (by omega)
theorem cov_u {S : sS} (h : okY S) {j k k2 : Nat} (hk : k < sK S) (hk2 : k2 < sK S) (c : covN S j k = true) (c2 : covN S j k2 = true) : k = k2 := by
  simp only [covN, Bool.and_eq_true, decide_eq_true_eq] at c c2
  rcases Nat.lt_trichotomy k k2 with q | q | q
  · have h1 := sl_lt h (d := k2 - k - 1) (k := k) (by omega)
    rw [show k + (k2 - k - 1) + 1 = k2 by omega] at h1
    omega
  · exact q
  · have h1 := sl_lt h (d := k - k2 - 1) (k := k2) (by omega)
    rw [show k2 + (k - k2 - 1) + 1 = k by omega] at h1
    omega
theorem du_none {S : sS} {j : Nat} : ∀ {n : Nat}, (∀ k, k < n → covN S j k = false) → duS S j n = -5
  | 0, _ => rfl
  | n + 1, h => by rw [duS, if_neg (nb (h n (by omega))), du_none (fun k hk => h k (by omega))]
theorem du_some {S : sS} {j k : Nat} : ∀ {n : Nat}, k < n → covN S j k = true → (∀ i, i < n → covN S j i = true → i = k) → duS S j n = nI k
  | 0, h, _, _ => absurd h (Nat.not_lt_zero _)
  | n + 1, h, c, hu => by
    rw [duS]
    by_cases c2 : covN S j n = true
    · rw [if_pos c2, hu n (by omega) c2]
    · rw [if_neg c2]
      have hkn : k ≠ n := fun q => c2 (by rw [← q]; exact c)
      exact du_some (by omega) c (fun i hi => hu i (by omega))
theorem du_eq {S : sS} (h : okY S) {j : Nat} (hj : j < 2147483648) : oI (soloF S j) = duS S j (sK S) := by
  cases e : soloF S j with
  | none =>
    refine (du_none fun k hk => ?_).symm
    rw [← cov_N h hj hk]
    exact fK_none e k (by omega) (by omega)
  | some k =>
    have h1 := fK_lt e
    have hk : k < sK S := soloF_lt e
    have hc : covN S j k = true := by rw [← cov_N h hj hk]; exact h1.2.2
    exact (du_some hk hc (fun i hi ci => cov_u h hi hk ci hc)).symm
