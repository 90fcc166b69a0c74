/-! the reference reads texts: in the class's words -/
theorem isAt_e {f g : Nat → Int32} {n a x y : Nat} (h : ∀ j, j < n → g j = f j) (hx : x < 2147483648) : (decide (a < n) && inB (g a) (nI x) (nI y)) = inB (sgI f n a) (nI x) (nI y) := by
  by_cases c : a < n
  · rw [decide_eq_true c, Bool.true_and, h a c, sgI, if_pos c]
  · have h2 : ¬ nI x ≤ -1 := fun q => absurd (Int32.le_trans (nI_pos' hx) q) (by decide)
    rw [decide_eq_false c, Bool.false_and, sgI, if_neg c, inB, decide_eq_false h2, Bool.false_and]
theorem sg_y {f : Nat → Int32} {n a x y : Nat} (hx : x < 2147483648) (hy : y < 2147483648) (h : inB (sgI f n a) (nI x) (nI y) = true) : ∃ k : Nat, x ≤ k ∧ k ≤ y ∧ a < n ∧ f a = nI k := by
  obtain ⟨k, h1, h2, e⟩ := inB_of hx hy h
  by_cases c : a < n
  · rw [sgI, if_pos c] at e
    exact ⟨k, h1, h2, c, e⟩
  · rw [sgI, if_neg c] at e
    have h3 := nI_pos' (n := k) (by omega)
    rw [← e] at h3
    exact absurd h3 (by decide)
theorem dg_k {f : Nat → Int32} {n a d : Nat} (hd : d ≤ 9) (ha : a < n) (e : f a = nI (48 + d)) : dgN f n a = some d := by
  have e1 : sgI f n a = nI (48 + d) := by rw [sgI, if_pos ha]; exact e
  have e2 : inB (nI (48 + d)) (nI 48) (nI 57) = true := by
    rw [inB_n (by omega) (by decide) (by decide), decide_eq_true (p := 48 ≤ 48 + d) (by omega), decide_eq_true (p := 48 + d ≤ 57) (by omega)]
    rfl
  rw [dgN, e1, if_pos e2, nI_clamp (by omega), Nat.add_sub_cancel_left]
theorem dg_y {f : Nat → Int32} {n a x y : Nat} (hx : 48 ≤ x) (hx2 : x ≤ 57) (hy : y ≤ 57) (h : inB (sgI f n a) (nI x) (nI y) = true) : ∃ d : Nat, x ≤ 48 + d ∧ 48 + d ≤ y ∧ a < n ∧ f a = nI (48 + d) ∧ dgN f n a = some d := by
  obtain ⟨k, h1, h2, c, e⟩ := sg_y (by omega) (by omega) h
  have e2 : f a = nI (48 + (k - 48)) := by rw [e]; congr 1; omega
  exact ⟨k - 48, by omega, by omega, c, e2, dg_k (by omega) c e2⟩
theorem dg_n {f : Nat → Int32} {n a x y : Nat} (hx : x < 2147483648) (hy : y < 2147483648) (h : inB (sgI f n a) (nI x) (nI y) = false) {d : Nat} (hd : dgN f n a = some d) : ¬ (x ≤ 48 + d ∧ 48 + d ≤ y) := by
  intro hxy
  obtain ⟨h1, h2, e⟩ := dgN_le hd
  rw [sgI, if_pos h2, e, inB_n (by omega) hx hy, decide_eq_true hxy.1, decide_eq_true hxy.2] at h
  exact absurd h (by decide)
theorem dg_0 {f : Nat → Int32} {n a : Nat} (h : inB (sgI f n a) (nI 48) (nI 57) = false) : dgN f n a = none := by
  rw [dgN, if_neg (by rw [h]; decide)]
theorem so_ri (y : Int32) : (soR y < 0 ∧ soI y < 0) ∨ (soR y = soI y ∧ ¬ soI y < 0 ∧ ¬ soR y < 0) := by
  by_cases c1 : y = nI 45
  · have e1 : soI y = nI 1 := by rw [soI, if_pos c1]
    have e2 : soR y = nI 1 := by rw [soR, if_neg (by rw [c1]; decide), if_pos c1]
    rw [e1, e2]
    exact Or.inr ⟨rfl, by decide, by decide⟩
  · by_cases c2 : y = nI 46
    · have e1 : soI y = nI 0 := by rw [soI, if_neg c1, if_pos c2]
      have e2 : soR y = nI 0 := by rw [soR, if_pos c2]
      rw [e1, e2]
      exact Or.inr ⟨rfl, by decide, by decide⟩
    · by_cases c3 : y = nI 111
      · have e1 : soI y = nI 2 := by rw [soI, if_neg c1, if_neg c2, if_pos c3]
        have e2 : soR y = nI 2 := by rw [soR, if_neg c2, if_neg c1, if_pos c3]
        rw [e1, e2]
        exact Or.inr ⟨rfl, by decide, by decide⟩
      · have e1 : soI y = -1 := by rw [soI, if_neg c1, if_neg c2, if_neg c3]
        have e2 : soR y = -5 := by rw [soR, if_neg c2, if_neg c1, if_neg c3]
        rw [e1, e2]
        exact Or.inl ⟨by decide, by decide⟩
theorem so_1 {y : Int32} (h : ¬ soR y < 0) : soR y = soI y ∧ ¬ soI y < 0 := by
  rcases so_ri y with q | q
  · exact absurd q.1 h
  · exact ⟨q.1, q.2.1⟩
theorem so_2 {y : Int32} (h : soR y < 0) : soI y < 0 := by
  rcases so_ri y with q | q
  · exact q.2
  · exact absurd h q.2.2
theorem so_dg {f : Nat → Int32} {n a : Nat} (h : inB (sgI f n a) (nI 48) (nI 57) = true) : soI (sgI f n a) < 0 := by
  obtain ⟨d, h1, h2, h3, e, -⟩ := dg_y (by decide) (by decide) (by decide) h
  have n1 : ∀ k, k < 48 ∨ 57 < k → k < 200 → nI (48 + d) ≠ nI k := fun k hk hk2 q => by
    have := (nI_eq (by omega) (by omega)).mp q
    omega
  rw [sgI, if_pos h3, e, soI, if_neg (n1 45 (by omega) (by omega)), if_neg (n1 46 (by omega) (by omega)), if_neg (n1 111 (by omega) (by omega))]
  decide
/-! how often -/
theorem tm_0 {f : Nat → Int32} {n a : Nat} (h : inB (sgI f n a) (nI 49) (nI 57) = false) : tmF f n a = (false, a, 0) := by
  unfold tmF
  cases e : dgN f n a with
  | none => rfl
  | some d =>
    have h1 := dg_n (by decide) (by decide) h e
    have h2 := (dgN_le e).1
    show (if d < 1 then (false, a, 0) else _) = _
    rw [if_pos (by omega)]
theorem tm_1 {f : Nat → Int32} {n a d : Nat} (h1 : dgN f n a = some d) (hd : 1 ≤ d) (h2 : dgN f n (a + 1) = none) : tmF f n a = (decide (d ≠ 1), a + 1, d) := by
  simp [tmF, h1, h2, show ¬ d < 1 by omega]
theorem tm_2 {f : Nat → Int32} {n a d e : Nat} (h1 : dgN f n a = some d) (hd : 1 ≤ d) (h2 : dgN f n (a + 1) = some e) (h : 96 < d * 10 + e) : tmF f n a = (false, a + 1, 0) := by
  simp [tmF, h1, h2, show ¬ d < 1 by omega, h]
theorem tm_3 {f : Nat → Int32} {n a d e : Nat} (h1 : dgN f n a = some d) (hd : 1 ≤ d) (h2 : dgN f n (a + 1) = some e) (h : ¬ 96 < d * 10 + e) : tmF f n a = (true, a + 2, d * 10 + e) := by
  simp [tmF, h1, h2, show ¬ d < 1 by omega, h]
def TmP (f : Nat → Int32) (n a : Nat) (r : Int32) : Prop := ((tmF f n a).1 = true ∧ r = nI (tmF f n a).2.2 ∧ 1 ≤ (tmF f n a).2.2) ∨ (r = -5 ∧ ((tmF f n a).1 = false ∨ ((tmF f n a).1 = true ∧ inB (sgI f n (tmF f n a).2.1) (nI 48) (nI 57) = true)))
/-! the loudness -/
theorem lo_0 {f : Nat → Int32} {n a : Nat} {so : Int32} (h : so ≤ 0) (h2 : ¬ so < 0) : loF f n a so = (nI 2, a) := by
  rw [loF, if_pos (Int32.le_antisymm h (Int32.not_lt.mp h2))]
theorem lo_n {f : Nat → Int32} {n a : Nat} {so : Int32} (h : inB (sgI f n a) (nI 49) (nI 53) = false) : loF f n a so = (nI 2, a) := by
  rw [loF]
  by_cases c : so = 0
  · rw [if_pos c]
  · rw [if_neg c]
    cases e : dgN f n a with
    | none => rfl
    | some d =>
      have h1 := dg_n (by decide) (by decide) h e
      have h2 := (dgN_le e).1
      show (if inB (nI d) (nI 1) (nI 5) = true then (nI d, a + 1) else (nI 2, a)) = _
      rw [if_neg]
      rw [inB_n (by omega) (by decide) (by decide)]
      intro q
      rw [Bool.and_eq_true, decide_eq_true_eq, decide_eq_true_eq] at q
      omega
theorem lo_y {f : Nat → Int32} {n a d : Nat} {so : Int32} (h : ¬ so ≤ 0) (e : dgN f n a = some d) (h1 : 1 ≤ d) (h5 : d ≤ 5) : loF f n a so = (nI d, a + 1) := by
  have c : ¬ so = 0 := fun q => h (by rw [q]; exact Int32.le_refl 0)
  rw [loF, if_neg c, e]
  show (if inB (nI d) (nI 1) (nI 5) = true then (nI d, a + 1) else (nI 2, a)) = _
  rw [if_pos]
  rw [inB_n (by omega) (by decide) (by decide), decide_eq_true h1, decide_eq_true h5]
  rfl
theorem x_n {x : Int32} (h : inB x (nI 120) (nI 120) = false) : x ≠ nI 120 := fun q => by
  rw [q] at h
  exact absurd h (by decide)
theorem x_y {f : Nat → Int32} {n a : Nat} (h : inB (sgI f n a) (nI 120) (nI 120) = true) : sgI f n a = nI 120 ∧ a < n := by
  obtain ⟨k, h1, h2, h3, e⟩ := sg_y (by decide) (by decide) h
  rw [sgI, if_pos h3, e, show k = 120 by omega]
  exact ⟨rfl, h3⟩
/-! an item -/
theorem it_n {f : Nat → Int32} {n a : Nat} (h : soI (sgI f n a) < 0) : (itF f n a).1 = false ∧ (itF f n a).2.1 = a := by
  rw [itF, if_pos h]
  exact ⟨rfl, rfl⟩
theorem it_1 {f : Nat → Int32} {n a a4 : Nat} {lo : Int32} (h : ¬ soI (sgI f n a) < 0) (hl : loF f n (a + 1) (soI (sgI f n a)) = (lo, a4)) (hx : sgI f n a4 ≠ nI 120) : itF f n a = (true, a4, soI (sgI f n a), lo, 1) := by
  rw [itF, if_neg h, hl, if_neg hx]
theorem it_x {f : Nat → Int32} {n a a4 : Nat} {lo : Int32} (h : ¬ soI (sgI f n a) < 0) (hl : loF f n (a + 1) (soI (sgI f n a)) = (lo, a4)) (hx : sgI f n a4 = nI 120) : itF f n a = ((tmF f n (a4 + 1)).1, (tmF f n (a4 + 1)).2.1, soI (sgI f n a), lo, (tmF f n (a4 + 1)).2.2) := by
  rw [itF, if_neg h, hl, if_pos hx]
theorem paF_s2 {f : Nat → Int32} {n k a su a2 t : Nat} {tm : Option Nat} {so lo : Int32} (hk : k < 60) (h : a < n) (hit : itF f n a = (true, a2, so, lo, t)) : paF f n (60 - (k + 1)) a2 (su + t) (if 96 < su + t ∧ tm = none then some a else tm) = paF f n (60 - k) a su tm := by
  have h2 := paF_s (f := f) (n := n) (su := su) (tm := tm) hk h (by rw [hit])
  rw [hit] at h2
  exact h2
theorem paF_f2 {f : Nat → Int32} {n k a su a2 : Nat} {tm : Option Nat} (hk : k < 60) (h : a < n) (h1 : (itF f n a).1 = false) (h2 : (itF f n a).2.1 = a2) : paF f n (60 - k) a su tm = nI a2 := by
  rw [paF_f hk h h1, h2]
theorem paF_d {f : Nat → Int32} {n k a su a2 t : Nat} {tm : Option Nat} {so lo : Int32} (hk : k + 1 < 60) (h : a < n) (hit : itF f n a = (true, a2, so, lo, t)) (hd : inB (sgI f n a2) (nI 48) (nI 57) = true) : paF f n (60 - k) a su tm = nI a2 := by
  have h3 := it_n (so_dg hd)
  obtain ⟨d, -, -, h2, -, -⟩ := dg_y (by decide) (by decide) (by decide) hd
  rw [← paF_s2 (by omega) h hit]
  exact paF_f2 hk h2 h3.1 h3.2
theorem ct_n {s a : Nat} {tm : Option Nat} (h : (if 96 < s ∧ tm = none then some a else tm) = none) : s ≤ 96 := by
  by_cases c : 96 < s
  · by_cases c2 : tm = none
    · rw [if_pos ⟨c, c2⟩] at h
      cases h
    · rw [if_neg (fun q => c2 q.2)] at h
      exact absurd h c2
  · omega
/-! the items' rows -/
def apA (s l m : Nat → Int32) : Nat → sS → sS
  | 0, V => V
  | k + 1, V => appF (apA s l m k V) (s k) (l k) (tk (m k))
theorem apA_c {s l m s2 l2 m2 : Nat → Int32} {V : sS} : ∀ {n : Nat}, (∀ k, k < n → s k = s2 k ∧ l k = l2 k ∧ m k = m2 k) → apA s l m n V = apA s2 l2 m2 n V
  | 0, _ => rfl
  | n + 1, h => by
    obtain ⟨h1, h2, h3⟩ := h n (by omega)
    rw [apA, apA, apA_c (n := n) (fun k hk => h k (by omega)), h1, h2, h3]
def RdI (A A2 : sS) (f : Nat → Int32) (n it a su : Nat) : Prop := tN A2 2 = a ∧ (∀ k : Nat, k < 2 → tN A2 k = tN A k) ∧ (∀ j : Nat, 1 ≤ j → j ≤ 6 → A2 j = A j) ∧ su = suF (fun k => tk (A2 9 k)) it ∧ (∀ k : Nat, k < it → ∃ t : Nat, A2 9 k = nI t ∧ 1 ≤ t ∧ t ≤ 96) ∧ ∀ V : sS, wrF f n (60 - it) a (apA (A2 7) (A2 8) (A2 9) it V) = wrF f n 60 0 V
theorem RdI.step {A A2 A3 : sS} {f : Nat → Int32} {n it a su a2 t : Nat} {so lo : Int32} (h : RdI A A2 f n it a su) (hit : itF f n a = (true, a2, so, lo, t)) (hi : it < 60) (ha : a < n) (ht : 1 ≤ t) (ht2 : t ≤ 96) (e2 : tN A3 2 = a2) (ek : ∀ k : Nat, k < 2 → tN A3 k = tN A k) (ej : ∀ j : Nat, 1 ≤ j → j ≤ 6 → A3 j = A j) (e7 : A3 7 = upd (A2 7) it so) (e8 : A3 8 = upd (A2 8) it lo) (e9 : A3 9 = upd (A2 9) it (nI t)) : RdI A A3 f n (it + 1) a2 (su + t) := by
  have q9 : ∀ k, k < it → A3 9 k = A2 9 k := fun k hk => by rw [e9, upd_n (by omega)]
  have e9i : A3 9 it = nI t := by rw [e9, upd_s]
  have htk : tk (nI t) = t := tk_n (by omega)
  refine ⟨e2, ek, ej, ?_, ?_, ?_⟩
  · show su + t = suF (fun k => tk (A3 9 k)) it + tk (A3 9 it)
    rw [e9i, htk, suF_c (f := fun k => tk (A3 9 k)) (g := fun k => tk (A2 9 k)) (fun k hk => by rw [q9 k hk]), ← h.2.2.2.1]
  · intro k hk
    by_cases c : k = it
    · rw [c]
      exact ⟨t, e9i, ht, ht2⟩
    · rw [q9 k (by omega)]
      exact h.2.2.2.2.1 k (by omega)
  · intro V
    have e : apA (A3 7) (A3 8) (A3 9) (it + 1) V = appF (apA (A2 7) (A2 8) (A2 9) it V) so lo t := by
      show appF (apA (A3 7) (A3 8) (A3 9) it V) (A3 7 it) (A3 8 it) (tk (A3 9 it)) = _
      have e0 : apA (A3 7) (A3 8) (A3 9) it V = apA (A2 7) (A2 8) (A2 9) it V := apA_c (fun k hk => ⟨by rw [e7, upd_n (by omega)], by rw [e8, upd_n (by omega)], q9 k hk⟩)
      rw [e9i, htk, e0, e7, e8, upd_s, upd_s]
    rw [e]
    have h2 := wrF_s (f := f) (n := n) (k := it) (a := a) (S := apA (A2 7) (A2 8) (A2 9) it V) hi ha (by rw [hit])
    rw [hit] at h2
    exact h2.trans (h.2.2.2.2.2 V)
def RdP (A A2 : sS) (f : Nat → Int32) (n : Nat) (r : Int32) : Prop := (∀ k : Nat, k < 2 → tN A2 k = tN A k) ∧ (∀ j : Nat, 1 ≤ j → j ≤ 6 → A2 j = A j) ∧ ((r = ffI f n ∧ ¬ r < 0) ∨ (r = -5 ∧ ffI f n = -1 ∧ tN A2 3 ≤ 60 ∧ suF (fun k => tk (A2 9 k)) (tN A2 3) ≤ 96 ∧ (∀ k : Nat, k < tN A2 3 → ∃ t : Nat, A2 9 k = nI t ∧ 1 ≤ t ∧ t ≤ 96) ∧ ∀ V : sS, wrF f n 60 0 V = apA (A2 7) (A2 8) (A2 9) (tN A2 3) V))
theorem RdP.y {A A2 : sS} {f : Nat → Int32} {n k : Nat} (e1 : ∀ k : Nat, k < 2 → tN A2 k = tN A k) (e2 : ∀ j : Nat, 1 ≤ j → j ≤ 6 → A2 j = A j) (hk : k < 2147483648) (hff : ffI f n = nI k) : RdP A A2 f n (nI k) :=
  ⟨e1, e2, Or.inl ⟨hff.symm, Int32.not_lt.mpr (nI_pos' hk)⟩⟩
theorem RdI.fin {A A2 : sS} {f : Nat → Int32} {n it a su : Nat} {tm : Option Nat} (h : RdI A A2 f n it a su) (h60 : it ≤ 60) (ha : n ≤ a) (hn : n ≠ 0) (hs : paF f n (60 - it) a su tm = paF f n 60 0 0 none) (hsu : tm = none → su ≤ 96) (hct : ∀ k : Nat, tm = some k → k < 100) : RdP A (sPut A2 0 3 (nI it)) f n (oI tm) := by
  have hff : ffI f n = oJ tm := by rw [ffI, if_neg hn, ← hs, paF_e (Or.inr ha)]
  have e3 : tN (sPut A2 0 3 (nI it)) 3 = it := tN_s (by omega)
  have fr1 : ∀ k : Nat, k < 2 → tN (sPut A2 0 3 (nI it)) k = tN A k := fun k hk => (tN_n (by omega)).trans (h.2.1 k hk)
  have fr2 : ∀ j : Nat, 1 ≤ j → j ≤ 6 → (sPut A2 0 3 (nI it)) j = A j := fun j h1 h2 => (sPut_n (by omega)).trans (h.2.2.1 j h1 h2)
  cases tm with
  | some k =>
    show RdP A (sPut A2 0 3 (nI it)) f n (nI k)
    exact RdP.y fr1 fr2 (by have := hct k rfl; omega) hff
  | none =>
    refine ⟨fr1, fr2, Or.inr ⟨rfl, hff, ?_⟩⟩
    rw [e3]
    refine ⟨h60, ?_, h.2.2.2.2.1, fun V => ?_⟩
    · show suF (fun k => tk (A2 9 k)) it ≤ 96
      rw [← h.2.2.2.1]
      exact hsu rfl
    · rw [← h.2.2.2.2.2 V, wrF_e (Or.inr ha)]
      rfl
theorem RdP.neg {A A2 : sS} {f : Nat → Int32} {n : Nat} {r : Int32} (h : RdP A A2 f n r) (hr : r < 0) : r = -5 ∧ ffI f n = -1 ∧ tN A2 3 ≤ 60 ∧ suF (fun k => tk (A2 9 k)) (tN A2 3) ≤ 96 ∧ (∀ k : Nat, k < tN A2 3 → ∃ t : Nat, A2 9 k = nI t ∧ 1 ≤ t ∧ t ≤ 96) ∧ ∀ V : sS, wrF f n 60 0 V = apA (A2 7) (A2 8) (A2 9) (tN A2 3) V := by
  rcases h.2.2 with q | q
  · exact absurd hr q.2
  · exact q
theorem RdP.pos {A A2 : sS} {f : Nat → Int32} {n : Nat} {r : Int32} (h : RdP A A2 f n r) (hr : ¬ r < 0) : r = ffI f n := by
  rcases h.2.2 with q | q
  · exact q.1
  · rw [q.1] at hr
    exact absurd (by decide) hr
/-! the beats are written -/
def RdW (A A2 V : sS) : Prop := (∀ j : Nat, j ≠ 1 → A2 j = A j) ∧ (∀ x : Nat, (x < 4 ∨ 196 ≤ x) → A2 1 x = A 1 x) ∧ ∀ b : Nat, b < sB V → A2 1 (4 + b) = V 0 b ∧ A2 1 (100 + b) = V 1 b
theorem RdW.step {A A2 V : sS} {so lo : Int32} {b : Nat} (h : RdW A A2 V) (hb : sB V = b) (hb2 : b < 96) : RdW A (sRow (sRow A2 1 (upd (A2 1) (4 + b) so)) 1 (upd ((sRow A2 1 (upd (A2 1) (4 + b) so)) 1) (100 + b) lo)) (sPut (sRow (sRow V 0 (upd (V 0) (sB V) so)) 1 (upd (V 1) (sB V) lo)) 8 0 (nI (sB V + 1))) := by
  rw [sRow_2, sRow_s]
  have eB : sB (sPut (sRow (sRow V 0 (upd (V 0) (sB V) so)) 1 (upd (V 1) (sB V) lo)) 8 0 (nI (sB V + 1))) = b + 1 := by
    show (sPut _ 8 0 (nI (sB V + 1)) 8 0).toNatClampNeg = _
    rw [sPut_s, nI_clamp (by omega), hb]
  have e0 : sPut (sRow (sRow V 0 (upd (V 0) (sB V) so)) 1 (upd (V 1) (sB V) lo)) 8 0 (nI (sB V + 1)) 0 = upd (V 0) b so := by rw [← hb]; rfl
  have e1 : sPut (sRow (sRow V 0 (upd (V 0) (sB V) so)) 1 (upd (V 1) (sB V) lo)) 8 0 (nI (sB V + 1)) 1 = upd (V 1) b lo := by rw [← hb]; rfl
  refine ⟨fun j hj => (sRow_n hj).trans (h.1 j hj), fun x hx => ?_, fun b2 hb3 => ?_⟩
  · rw [sRow_s, upd_n (by omega), upd_n (by omega)]
    exact h.2.1 x hx
  · rw [eB] at hb3
    rw [e0, e1, sRow_s]
    by_cases c : b2 = b
    · rw [c, upd_s, upd_s, upd_s, upd_n (by omega), upd_s]
      exact ⟨rfl, rfl⟩
    · rw [upd_n (by omega), upd_n (by omega), upd_n (by omega), upd_n (by omega), upd_n (by omega), upd_n (by omega)]
      exact h.2.2 b2 (by omega)
theorem appF_o (S : sS) (so lo : Int32) {j : Nat} (hj : 2 ≤ j) (h8 : j ≠ 8) : ∀ t, appF S so lo t j = S j
  | 0 => rfl
  | t + 1 => by
    rw [appF, sPut_n (by omega), sRow_n (by omega), sRow_n (by omega)]
    exact appF_o S so lo hj h8 t
theorem appF_8 (S : sS) (so lo : Int32) {k : Nat} (hk : k ≠ 0) : ∀ t, appF S so lo t 8 k = S 8 k
  | 0 => rfl
  | t + 1 => by
    rw [appF, sPut_k (by omega)]
    exact appF_8 S so lo hk t
theorem apA_o (s l m : Nat → Int32) (V : sS) {j : Nat} (hj : 2 ≤ j) (h8 : j ≠ 8) : ∀ n, apA s l m n V j = V j
  | 0 => rfl
  | n + 1 => by
    rw [apA, appF_o _ _ _ hj h8]
    exact apA_o s l m V hj h8 n
theorem apA_8 (s l m : Nat → Int32) (V : sS) {k : Nat} (hk : k ≠ 0) : ∀ n, apA s l m n V 8 k = V 8 k
  | 0 => rfl
  | n + 1 => by
    rw [apA, appF_8 _ _ _ hk]
    exact apA_8 s l m V hk n
theorem apA_B (s l m : Nat → Int32) (V : sS) (hV : sB V = 0) : ∀ n, suF (fun k => tk (m k)) n < 2147483648 → sB (apA s l m n V) = suF (fun k => tk (m k)) n
  | 0, _ => hV
  | n + 1, h => by
    have h0 : suF (fun k => tk (m k)) (n + 1) = suF (fun k => tk (m k)) n + tk (m n) := rfl
    have ih := apA_B s l m V hV n (by omega)
    rw [apA, appF_B _ _ _ _ (by omega), ih]
    rfl
theorem Rr.readN {S V : sS} {f g : Nat → Int32} (h : Rr S f) (hk : okS S) (hB : sB V ≤ 96) (hV : ∀ j : Nat, 2 ≤ j → j ≠ 8 → V j = clearS S j) (hV8 : ∀ k : Nat, k ≠ 0 → V 8 k = clearS S 8 k) (g0 : g 0 = nI (sB V)) (g1 : g 1 = f 1) (g2 : g 2 = nI 0) (g3 : g 3 = f 3) (gb : ∀ b : Nat, b < sB V → g (4 + b) = V 0 b ∧ g (100 + b) = V 1 b) (gs : ∀ x : Nat, 196 ≤ x → x < 232 → g x = f x) (gm : ∀ x : Nat, 232 ≤ x → x < 268 → g x = 0) : Rr V g := by
  obtain ⟨hB0, hN, hK, hR⟩ := hk
  have eN : sN V = sN S := by show (V 8 1).toNatClampNeg = (S 8 1).toNatClampNeg; rw [hV8 1 (by decide)]; rfl
  have eK : sK V = 0 := by show (V 8 3).toNatClampNeg = 0; rw [hV8 3 (by decide)]; rfl
  have eR : sR V = sR S := by show (V 8 4).toNatClampNeg = (S 8 4).toNatClampNeg; rw [hV8 4 (by decide)]; rfl
  refine ⟨⟨g0, by rw [g1, eN]; exact h.n1, by rw [g2, eK], by rw [g3, eR]; exact h.r3⟩, gb, fun i j hi hj => ?_, fun i b hi hb => ?_, fun k j hk hj => ?_⟩
  · rw [eN] at hi
    rw [gs _ (by omega) (by omega), h.si hi hj]
    simp only [ofS, presB]
    rw [hV 3 (by decide) (by decide), hV 4 (by decide) (by decide), hV8 2 (by decide)]
    rfl
  · rw [eN] at hi
    rw [gm _ (by omega) (by omega), hb_0]
    show false = hasB (V 2 b) i
    rw [hV 2 (by decide) (by decide)]
    show false = hasB 0 i
    rw [hb_0]
  · rw [eK] at hk
    exact absurd hk (Nat.not_lt_zero k)
