theorem dg_k {f : Nat → Int32} {n a d : Nat} (hd : d ≤ 9) (ha : a < n) (e : f a = nI (48 + d)) : dgN f n a = some d := by
  have e1 : sgI f n a = nI (48 + d) := by rw [sgI, if_pos ha]; exact e
  have e2 : inB (nI (48 + d)) (nI 48) (nI 57) = true := by
    rw [inB_n (by omega) (by decide) (by decide), decide_eq_true (p := 48 ≤ 48 + d) (by omega), decide_eq_true (p := 48 + d ≤ 57) (by omega)]
    rfl
  rw [dgN, e1, if_pos e2, nI_clamp (by omega), Nat.add_sub_cancel_left]
theorem dg_n {f : Nat → Int32} {n a x y : Nat} (hx : x < 2147483648) (hy : y < 2147483648) (h : inB (sgI f n a) (nI x) (nI y) = false) {d : Nat} (hd : dgN f n a = some d) : ¬ (x ≤ 48 + d ∧ 48 + d ≤ y) := by
  intro hxy
  obtain ⟨h1, h2, e⟩ := dgN_le hd
  rw [sgI, if_pos h2, e, inB_n (by omega) hx hy, decide_eq_true hxy.1, decide_eq_true hxy.2] at h
  exact absurd h (by decide)
theorem dg_0 {f : Nat → Int32} {n a : Nat} (h : inB (sgI f n a) (nI 48) (nI 57) = false) : dgN f n a = none := by
  rw [dgN, if_neg (by rw [h]; decide)]
theorem tm_1 {f : Nat → Int32} {n a d : Nat} (h1 : dgN f n a = some d) (hd : 1 ≤ d) (h2 : dgN f n (a + 1) = none) : tmF f n a = (decide (d ≠ 1), a + 1, d) := by
  simp [tmF, h1, h2, show ¬ d < 1 by omega]
theorem lo_0 {f : Nat → Int32} {n a : Nat} {so : Int32} (h : so ≤ 0) (h2 : ¬ so < 0) : loF f n a so = (nI 2, a) := by
  rw [loF, if_pos (Int32.le_antisymm h (Int32.not_lt.mp h2))]
theorem lo_n {f : Nat → Int32} {n a : Nat} {so : Int32} (h : inB (sgI f n a) (nI 49) (nI 53) = false) : loF f n a so = (nI 2, a) := by
  rw [loF]
  by_cases c : so = 0
  · rw [if_pos c]
  · rw [if_neg c]
    cases e : dgN f n a with
    | none => rfl
    | some d =>
      have h1 := dg_n (by decide) (by decide) h e
      have h2 := (dgN_le e).1
      show (if inB (nI d) (nI 1) (nI 5) = true then (nI d, a + 1) else (nI 2, a)) = _
      rw [if_neg]
      rw [inB_n (by omega) (by decide) (by decide)]
      intro q
      rw [Bool.and_eq_true, decide_eq_true_eq, decide_eq_true_eq] at q
      omega
theorem lo_y {f : Nat → Int32} {n a d : Nat} {so : Int32} (h : ¬ so ≤ 0) (e : dgN f n a = some d) (h1 : 1 ≤ d) (h5 : d ≤ 5) : loF f n a so = (nI d, a + 1) := by
  have c : ¬ so = 0 := fun q => h (by rw [q]; exact Int32.le_refl 0)
  rw [loF, if_neg c, e]
  show (if inB (nI d) (nI 1) (nI 5) = true then (nI d, a + 1) else (nI 2, a)) = _
  rw [if_pos]
  rw [inB_n (by omega) (by decide) (by decide), decide_eq_true h1, decide_eq_true h5]
  rfl
theorem it_n {f : Nat → Int32} {n a : Nat} (h : soI (sgI f n a) < 0) : (itF f n a).1 = false ∧ (itF f n a).2.1 = a := by
  rw [itF, if_pos h]
  exact ⟨rfl, rfl⟩
theorem it_1 {f : Nat → Int32} {n a a4 : Nat} {lo : Int32} (h : ¬ soI (sgI f n a) < 0) (hl : loF f n (a + 1) (soI (sgI f n a)) = (lo, a4)) (hx : sgI f n a4 ≠ nI 120) : itF f n a = (true, a4, soI (sgI f n a), lo, 1) := by
  rw [itF, if_neg h, hl, if_neg hx]
theorem it_x {f : Nat → Int32} {n a a4 : Nat} {lo : Int32} (h : ¬ soI (sgI f n a) < 0) (hl : loF f n (a + 1) (soI (sgI f n a)) = (lo, a4)) (hx : sgI f n a4 = nI 120) : itF f n a = ((tmF f n (a4 + 1)).1, (tmF f n (a4 + 1)).2.1, soI (sgI f n a), lo, (tmF f n (a4 + 1)).2.2) := by
  rw [itF, if_neg h, hl, if_pos hx]
theorem paF_f2 {f : Nat → Int32} {n k a su a2 : Nat} {tm : Option Nat} (hk : k < 60) (h : a < n) (h1 : (itF f n a).1 = false) (h2 : (itF f n a).2.1 = a2) : paF f n (60 - k) a su tm = nI a2 := by
  rw [paF_f hk h h1, h2]
