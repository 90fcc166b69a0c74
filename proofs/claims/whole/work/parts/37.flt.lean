/-! the reference: faults in their order -/
def gF (S : sS) (b q i : Nat) : Bool :=
  if q = 0 then decide (i = 0) && (!restB S b && decide (cntF (fun i => decide (dosQ S i b = 0)) (sN S) = 0))
  else decide (i < sN S) && (if q = 1 then decide (dosQ S i b = 2) else decide (dosQ S i b = 1) && (if q = 2 then decide (soloF S b = none) && (!decide (firstI S b = nI b) && decide (cntF (fun i => decide (dosQ S i b = 0)) (sN S) < 2)) else !decide (soloF S b = none)))
theorem gF_0 (S : sS) (b i : Nat) : gF S b 0 i = (decide (i = 0) && (!restB S b && decide (cntF (fun i => decide (dosQ S i b = 0)) (sN S) = 0))) := by
  rw [gF, if_pos rfl]
theorem gF_1 (S : sS) (b i : Nat) : gF S b 1 i = (decide (i < sN S) && decide (dosQ S i b = 2)) := by
  rw [gF, if_neg (by decide), if_pos rfl]
theorem gF_2 (S : sS) (b i : Nat) : gF S b 2 i = (decide (i < sN S) && (decide (dosQ S i b = 1) && (decide (soloF S b = none) && (!decide (firstI S b = nI b) && decide (cntF (fun i => decide (dosQ S i b = 0)) (sN S) < 2))))) := by
  rw [gF, if_neg (by decide), if_neg (by decide), if_pos rfl]
theorem gF_3 (S : sS) (b i : Nat) : gF S b 3 i = (decide (i < sN S) && (decide (dosQ S i b = 1) && !decide (soloF S b = none))) := by
  rw [gF, if_neg (by decide), if_neg (by decide), if_neg (by decide)]
theorem gF_hi {S : sS} {b q j : Nat} (hq : 1 ≤ q) (h : sN S ≤ j) : gF S b q j = false := by
  rw [gF, if_neg (by omega), decide_eq_false (p := j < sN S) (by omega), Bool.false_and]
theorem suF_mono {f : Nat → Nat} {a b : Nat} (h : a ≤ b) : suF f a ≤ suF f b := by
  induction b with
  | zero => rw [show a = 0 by omega]; exact Nat.le_refl _
  | succ b ih =>
    by_cases c : a = b + 1
    · rw [c]; exact Nat.le_refl _
    · exact Nat.le_trans (ih (by omega)) (Nat.le_add_right _ _)
theorem cntF_mono {p : Nat → Bool} {a b : Nat} (h : a ≤ b) : cntF p a ≤ cntF p b := by
  induction b with
  | zero => rw [show a = 0 by omega]; exact Nat.le_refl _
  | succ b ih =>
    by_cases c : a = b + 1
    · rw [c]; exact Nat.le_refl _
    · exact Nat.le_trans (ih (by omega)) (Nat.le_add_right _ _)
def cnG (g : Nat → Nat → Nat → Bool) (b q : Nat) : Nat := cntF (g b q) 12
def toG (g : Nat → Nat → Nat → Bool) (b : Nat) : Nat := suF (cnG g b) 4
/-- the place of a fault: how many are ahead of it -/
def poG (g : Nat → Nat → Nat → Bool) (b q i : Nat) : Nat := suF (toG g) b + suF (cnG g b) q + cntF (g b q) i
def lxG (b' q' i' b q i : Nat) : Prop := b' < b ∨ (b' = b ∧ (q' < q ∨ (q' = q ∧ i' < i)))
theorem poG_lt {g : Nat → Nat → Nat → Bool} {b' q' i' b q i : Nat} (hl : lxG b' q' i' b q i) (hq' : q' < 4) (hi' : i' < 12) (hg : g b' q' i' = true) : poG g b' q' i' < poG g b q i := by
  have h1 : cntF (g b' q') (i' + 1) = cntF (g b' q') i' + 1 := cntF_t hg
  have h2 : cntF (g b' q') (i' + 1) ≤ cnG g b' q' := cntF_mono (by omega)
  have h3 : suF (cnG g b') (q' + 1) = suF (cnG g b') q' + cnG g b' q' := rfl
  unfold poG
  rcases hl with h | ⟨h0, h | ⟨h7, h⟩⟩
  · have h4 : suF (cnG g b') (q' + 1) ≤ toG g b' := suF_mono (by omega)
    have h5 : suF (toG g) (b' + 1) = suF (toG g) b' + toG g b' := rfl
    have h6 : suF (toG g) (b' + 1) ≤ suF (toG g) b := suF_mono (by omega)
    omega
  · rw [← h0]
    have h4 : suF (cnG g b') (q' + 1) ≤ suF (cnG g b') q := suF_mono (by omega)
    omega
  · rw [← h0, ← h7]
    have h4 : cntF (g b' q') (i' + 1) ≤ cntF (g b' q') i := cntF_mono (by omega)
    omega
def cqG (g : Nat → Nat → Nat → Bool) (q0 b q i : Nat) : Nat := suF (fun b => cnG g b q0) b + (if q0 < q then cnG g b q0 else if q0 = q then cntF (g b q) i else 0)
/-- what the rows of faults hold when all ahead of (b, q, i) are found -/
def FtD (g : Nat → Nat → Nat → Bool) (A : sS) (b q i : Nat) : Prop :=
  tN A 4 = poG g b q i ∧
  (∀ b' q' i' : Nat, lxG b' q' i' b q i → q' < 4 → i' < 12 → g b' q' i' = true → A 13 (poG g b' q' i') = nI q' ∧ A 14 (poG g b' q' i') = nI b' ∧ A 15 (poG g b' q' i') = (if q' = 0 then -5 else nI i')) ∧
  (∀ q0 : Nat, q0 < 4 → cntF (fun k => decide (A 13 k = nI q0)) (poG g b q i) = cqG g q0 b q i)
section FTD
variable {g : Nat → Nat → Nat → Bool} {A : sS} {b q i : Nat}
theorem FtD.f (h : FtD g A b q i) (hg : g b q i = false) : FtD g A b q (i + 1) := by
  have e : poG g b q (i + 1) = poG g b q i := by rw [poG, poG, cntF_f hg]
  refine ⟨by rw [e]; exact h.1, fun b' q' i' hl h1 h2 h3 => ?_, fun q0 hq => ?_⟩
  · refine h.2.1 b' q' i' ?_ h1 h2 h3
    rcases hl with hl | ⟨e1, hl | ⟨e2, hl⟩⟩
    · exact Or.inl hl
    · exact Or.inr ⟨e1, Or.inl hl⟩
    · refine Or.inr ⟨e1, Or.inr ⟨e2, ?_⟩⟩
      by_cases c : i' = i
      · rw [e1, e2, c, hg] at h3
        cases h3
      · omega
  · rw [e, h.2.2 q0 hq, cqG, cqG]
    by_cases c : q0 = q
    · rw [if_neg (c := q0 < q) (by omega), if_pos c, if_neg (c := q0 < q) (by omega), if_pos c, cntF_f hg]
    · rw [if_neg (c := q0 = q) c, if_neg (c := q0 = q) c]
theorem FtD.t {s : Int32} (h : FtD g A b q i) (hg : g b q i = true) (hq : q < 4) (hi : i < 12) (hF : poG g b q i < 1300) (hs : s = if q = 0 then -5 else nI i) : FtD g (addA A (poG g b q i) (nI q) (nI b) s) b q (i + 1) := by
  have e : poG g b q (i + 1) = poG g b q i + 1 := by
    have := cntF_t hg
    unfold poG
    omega
  have e13 : addA A (poG g b q i) (nI q) (nI b) s 13 = upd (A 13) (poG g b q i) (nI q) := rfl
  have e14 : addA A (poG g b q i) (nI q) (nI b) s 14 = upd (A 14) (poG g b q i) (nI b) := rfl
  have e15 : addA A (poG g b q i) (nI q) (nI b) s 15 = upd (A 15) (poG g b q i) s := rfl
  refine ⟨by rw [e]; exact tN_s (by omega), fun b' q' i' hl h1 h2 h3 => ?_, fun q0 hq0 => ?_⟩
  · rw [e13, e14, e15]
    by_cases c : b' = b ∧ q' = q ∧ i' = i
    · obtain ⟨c1, c2, c3⟩ := c
      rw [c1, c2, c3, upd_s, upd_s, upd_s]
      exact ⟨rfl, rfl, hs⟩
    · have hl2 : lxG b' q' i' b q i := by
        rcases hl with hl | ⟨e1, hl | ⟨e2, hl⟩⟩
        · exact Or.inl hl
        · exact Or.inr ⟨e1, Or.inl hl⟩
        · refine Or.inr ⟨e1, Or.inr ⟨e2, ?_⟩⟩
          have : i' ≠ i := fun q9 => c ⟨e1, e2, q9⟩
          omega
      have hlt := poG_lt hl2 h1 h2 h3
      rw [upd_n (by omega), upd_n (by omega), upd_n (by omega)]
      exact h.2.1 b' q' i' hl2 h1 h2 h3
  · rw [e, e13]
    have h5 : cntF (fun k => decide (upd (A 13) (poG g b q i) (nI q) k = nI q0)) (poG g b q i) = cqG g q0 b q i := by
      rw [← h.2.2 q0 hq0]
      exact cntF_c (fun j hj => by rw [upd_n (by omega)])
    have h6 : cqG g q0 b q (i + 1) = cqG g q0 b q i + (if q = q0 then 1 else 0) := by
      rw [cqG, cqG]
      by_cases c : q0 = q
      · rw [if_neg (c := q0 < q) (by omega), if_pos c, if_neg (c := q0 < q) (by omega), if_pos c, cntF_t hg, if_pos c.symm]
        omega
      · rw [if_neg (c := q0 = q) c, if_neg (c := q0 = q) c, if_neg (c := q = q0) (fun q9 => c q9.symm)]
        rfl
    rw [h6, ← h5]
    by_cases c : q = q0
    · rw [if_pos c]
      exact cntF_t (by show decide (upd (A 13) (poG g b q i) (nI q) (poG g b q i) = nI q0) = true; rw [upd_s, c]; exact decide_eq_true rfl)
    · rw [if_neg c]
      exact cntF_f (by show decide (upd (A 13) (poG g b q i) (nI q) (poG g b q i) = nI q0) = false; rw [upd_s]; exact decide_eq_false (fun q9 => c ((nIq hq hq0).mp q9)))
theorem FtD.nq (h : FtD g A b q 12) : FtD g A b (q + 1) 0 := by
  have e : poG g b (q + 1) 0 = poG g b q 12 := by
    have h1 : suF (cnG g b) (q + 1) = suF (cnG g b) q + cntF (g b q) 12 := rfl
    have h2 : cntF (g b (q + 1)) 0 = 0 := rfl
    unfold poG
    omega
  refine ⟨by rw [e]; exact h.1, fun b' q' i' hl h1 h2 h3 => ?_, fun q0 hq => ?_⟩
  · refine h.2.1 b' q' i' ?_ h1 h2 h3
    rcases hl with hl | ⟨e1, hl | ⟨e2, hl⟩⟩
    · exact Or.inl hl
    · refine Or.inr ⟨e1, ?_⟩
      by_cases c : q' = q
      · exact Or.inr ⟨c, h2⟩
      · exact Or.inl (by omega)
    · exact absurd hl (Nat.not_lt_zero _)
  · rw [e, h.2.2 q0 hq, cqG, cqG]
    by_cases c : q0 = q
    · rw [if_neg (c := q0 < q) (by omega), if_pos c, if_pos (c := q0 < q + 1) (by omega), c]
      rfl
    · by_cases c2 : q0 < q
      · rw [if_pos c2, if_pos (c := q0 < q + 1) (by omega)]
      · rw [if_neg c2, if_neg c, if_neg (c := q0 < q + 1) (by omega)]
        by_cases c3 : q0 = q + 1
        · rw [if_pos c3]
          rfl
        · rw [if_neg c3]
theorem FtD.nb (h : FtD g A b 4 0) : FtD g A (b + 1) 0 0 := by
  have e : poG g (b + 1) 0 0 = poG g b 4 0 := by
    have h1 : suF (toG g) (b + 1) = suF (toG g) b + suF (cnG g b) 4 := rfl
    have h2 : cntF (g (b + 1) 0) 0 = 0 := rfl
    have h3 : cntF (g b 4) 0 = 0 := rfl
    have h4 : suF (cnG g (b + 1)) 0 = 0 := rfl
    unfold poG
    omega
  refine ⟨by rw [e]; exact h.1, fun b' q' i' hl h1 h2 h3 => ?_, fun q0 hq => ?_⟩
  · refine h.2.1 b' q' i' ?_ h1 h2 h3
    rcases hl with hl | ⟨e1, hl | ⟨e2, hl⟩⟩
    · by_cases c : b' = b
      · exact Or.inr ⟨c, Or.inl h1⟩
      · exact Or.inl (by omega)
    · exact absurd hl (Nat.not_lt_zero _)
    · exact absurd hl (Nat.not_lt_zero _)
  · rw [e, h.2.2 q0 hq, cqG, cqG, if_pos hq, if_neg (c := q0 < 0) (Nat.not_lt_zero _)]
    by_cases c : q0 = 0
    · rw [if_pos c]
      rfl
    · rw [if_neg c]
      rfl
theorem FtD.fs (n : Nat) (h : FtD g A b q i) (hn : i ≤ n) (hg : ∀ j, i ≤ j → j < n → g b q j = false) : FtD g A b q n := by
  induction n with
  | zero =>
    have e : i = 0 := by omega
    rw [e] at h
    exact h
  | succ n ih =>
    by_cases c : i = n + 1
    · rw [← c]; exact h
    · exact (ih (by omega) (fun j h1 h2 => hg j h1 (by omega))).f (hg n (by omega) (by omega))
theorem FtD.z (h : tN A 4 = 0) : FtD g A 0 0 0 :=
  ⟨h, fun b' q' i' hl => by rcases hl with hl | ⟨_, hl | ⟨_, hl⟩⟩ <;> exact absurd hl (Nat.not_lt_zero _), fun q0 hq => by
    rw [cqG, if_neg (c := q0 < 0) (Nat.not_lt_zero _)]
    by_cases c : q0 = 0
    · rw [if_pos c]
      rfl
    · rw [if_neg c]
      rfl⟩
end FTD
theorem cnt3 {p q r : Nat → Bool} : ∀ n, (∀ i, i < n → (p i = true → q i = false ∧ r i = false) ∧ (q i = true → r i = false)) → cntF p n + cntF q n + cntF r n ≤ n
  | 0, _ => Nat.le_refl 0
  | n + 1, h => by
    have ih := cnt3 n (fun i hi => h i (by omega))
    have hn := h n (by omega)
    cases c1 : p n with
    | true =>
      rw [cntF_t c1, cntF_f (hn.1 c1).1, cntF_f (hn.1 c1).2]
      omega
    | false =>
      cases c2 : q n with
      | true =>
        rw [cntF_f c1, cntF_t c2, cntF_f (hn.2 c2)]
        omega
      | false =>
        cases c3 : r n with
        | true =>
          rw [cntF_f c1, cntF_f c2, cntF_t c3]
          omega
        | false =>
          rw [cntF_f c1, cntF_f c2, cntF_f c3]
          omega
theorem gF_13 {S : sS} (b : Nat) : toG (gF S) b ≤ 13 := by
  have h0 : cnG (gF S) b 0 ≤ 1 := by
    have h := cntF_z (p := gF S b 0) (n := 1) 12 (by omega) (fun j h1 h2 => by rw [gF_0, decide_eq_false (p := j = 0) (by omega), Bool.false_and])
    show cntF (gF S b 0) 12 ≤ 1
    rw [h]
    exact cntF_le _ 1
  have h3 : cntF (gF S b 1) 12 + cntF (gF S b 2) 12 + cntF (gF S b 3) 12 ≤ 12 := cnt3 12 (fun i hi => ⟨fun h => by
      rw [gF_1, Bool.and_eq_true, decide_eq_true_eq, decide_eq_true_eq] at h
      rw [gF_2, gF_3, decide_eq_false (p := dosQ S i b = 1) (by omega), Bool.false_and, Bool.false_and, Bool.and_false]
      exact ⟨rfl, rfl⟩, fun h => by
      simp only [gF_2, Bool.and_eq_true, decide_eq_true_eq] at h
      rw [gF_3, decide_eq_true h.2.2.1, Bool.not_true, Bool.and_false, Bool.and_false]⟩)
  have h4 : toG (gF S) b = 0 + cnG (gF S) b 0 + cnG (gF S) b 1 + cnG (gF S) b 2 + cnG (gF S) b 3 := rfl
  have h5 : cnG (gF S) b 1 = cntF (gF S b 1) 12 := rfl
  have h6 : cnG (gF S) b 2 = cntF (gF S b 2) 12 := rfl
  have h7 : cnG (gF S) b 3 = cntF (gF S b 3) 12 := rfl
  omega
theorem poG_m {S : sS} {b q i : Nat} (hg : gF S b q i = true) (hb : b < 96) (hq : q < 4) (hi : i < 12) : poG (gF S) b q i < 1248 := by
  have h1 := poG_lt (g := gF S) (b := b + 1) (q := 0) (i := 0) (Or.inl (by omega)) hq hi hg
  have h2 : poG (gF S) (b + 1) 0 0 = suF (toG (gF S)) (b + 1) := rfl
  have h3 := suF_le (g := toG (gF S)) (c := 13) gF_13 (b + 1)
  omega
theorem poG_e {S : sS} {B : Nat} (hB : B ≤ 96) : poG (gF S) B 0 0 ≤ 1248 := by
  have h2 : poG (gF S) B 0 0 = suF (toG (gF S)) B := rfl
  have h3 := suF_le (g := toG (gF S)) (c := 13) gF_13 B
  omega
/-! the class's sets of faults -/
theorem hb_1 {s : Nat} (hs : s < 32) : hasB (nI 1) s = decide (s = 0) := (by decide +kernel : ∀ s, s < 32 → hasB (nI 1) s = decide (s = 0)) s hs
theorem mny {S A : sS} {b q n : Nat} (hd : ∀ i : Nat, i < n → A 10 (96 * i + b) = nI (dosQ S i b)) (hq : q < 4) : cntF (fun i => decide (A 10 (96 * i + b) = nI q)) n = cntF (fun i => decide (dosQ S i b = q)) n :=
  cntF_c (fun i hi => by
    show decide (A 10 (96 * i + b) = nI q) = decide (dosQ S i b = q)
    rw [hd i hi]
    exact decide_eq_decide.mpr (nIq (dosF_lt _ _ _ _) hq))
theorem ch0_z {S : sS} {b : Nat} (hb : b < sB S) (hN : sN S ≤ 12) : chR S 0 b = 0 ↔ cntF (fun i => decide (dosQ S i b = 0)) (sN S) = 0 := by
  have e : chR S 0 b = grpI S 0 b (sN S) := if_pos hb
  rw [e, cntF_0]
  constructor
  · intro h s hs
    have h2 := hb_grp S 0 b (sN S) s hN (by omega)
    rw [h, hb_0, decide_eq_true hs, Bool.true_and] at h2
    exact h2.symm
  · intro h
    apply hb_ext
    intro s hs
    rw [hb_0, hb_grp S 0 b (sN S) s hN hs]
    by_cases c : s < sN S
    · rw [show decide (dosQ S s b = 0) = false from h s c, Bool.and_false]
    · rw [decide_eq_false c, Bool.false_and]
theorem thin_c {S : sS} {b : Nat} (hb : b < sB S) (hN : sN S ≤ 12) : thinB S (chR S 0) b = (decide (soloF S b = none) && (!decide (firstI S b = nI b) && decide (cntF (fun i => decide (dosQ S i b = 0)) (sN S) < 2))) := by
  have hcl := cntF_le (fun i => decide (dosQ S i b = 0)) (sN S)
  have e : bcI (chR S 0 b) = nI (cntF (fun i => decide (dosQ S i b = 0)) (sN S)) := by
    rw [bc_ch hb hN (by decide)]
    exact congrArg nI (cntF_c (fun i hi => decide_eq_decide.mpr (nIq (dosF_lt _ _ _ _) (by decide))))
  rw [thinB, e, Bool.and_assoc]
  have e2 : decide (nI (cntF (fun i => decide (dosQ S i b = 0)) (sN S)) < nI 2) = decide (cntF (fun i => decide (dosQ S i b = 0)) (sN S) < 2) := decide_eq_decide.mpr (nI_ltI (by omega) (by decide))
  rw [e2]
theorem gF_has {S : sS} {b q i : Nat} (hb : b < sB S) (hN : sN S ≤ 12) (hq : q < 4) (hi : i < 32) : hasB (flS S b q) i = gF S b q i := by
  have e : ∀ q2, hasB (chR S q2 b) i = (decide (i < sN S) && decide (dosQ S i b = q2)) := fun q2 => by
    have e1 : chR S q2 b = grpI S q2 b (sN S) := if_pos hb
    rw [e1]
    exact hb_grp S q2 b (sN S) i hN hi
  have z : hasB (nI 0) i = false := by rw [nI_0]; exact hb_0 i
  rcases (show q = 0 ∨ q = 1 ∨ q = 2 ∨ q = 3 by omega) with rfl | rfl | rfl | rfl
  · rw [gF_0]
    show hasB (if restB S b = false ∧ chR S 0 b = 0 then nI 1 else nI 0) i = _
    by_cases c : restB S b = false ∧ chR S 0 b = 0
    · rw [if_pos c, hb_1 hi, c.1, decide_eq_true ((ch0_z hb hN).mp c.2)]
      simp
    · rw [if_neg c, z]
      cases c2 : restB S b with
      | true => simp
      | false =>
        rw [decide_eq_false (p := cntF (fun i => decide (dosQ S i b = 0)) (sN S) = 0) (fun q9 => c ⟨c2, (ch0_z hb hN).mpr q9⟩)]
        simp
  · rw [gF_1]
    exact e 2
  · rw [gF_2, ← thin_c hb hN]
    show hasB (if thinB S (chR S 0) b = true then chR S 1 b else nI 0) i = _
    cases c : thinB S (chR S 0) b with
    | true =>
      rw [if_pos rfl, e 1, Bool.and_true]
    | false =>
      rw [if_neg (by decide), z, Bool.and_false, Bool.and_false]
  · rw [gF_3]
    show hasB (if soloF S b = none then nI 0 else chR S 1 b) i = _
    by_cases c : soloF S b = none
    · rw [if_pos c, z, decide_eq_true c, Bool.not_true, Bool.and_false, Bool.and_false]
    · rw [if_neg c, e 1, decide_eq_false c, Bool.not_false, Bool.and_true]
theorem gF_sm {S : sS} {b q : Nat} (hb : b < sB S) (hN : sN S ≤ 12) (hq : q < 4) : smB (flS S b q) 12 := fun s h1 h2 => by
  rw [gF_has hb hN hq h2]
  by_cases c : q = 0
  · rw [gF, if_pos c, decide_eq_false (p := s = 0) (by omega), Bool.false_and]
  · rw [gF, if_neg c, decide_eq_false (p := s < sN S) (by omega), Bool.false_and]
theorem gF_bc {S : sS} {b q : Nat} (hb : b < sB S) (hN : sN S ≤ 12) (hq : q < 4) : bcI (flS S b q) = nI (cnG (gF S) b q) := by
  rw [bcI_c (gF_sm hb hN hq)]
  exact congrArg nI (cntF_c (fun j hj => gF_has hb hN hq (by omega)))
theorem inn_n {g : Nat → Int32} {cn : Nat → Nat} {lw a : Nat} : ∀ {n : Nat}, (∀ j, j < n → bcI (g (lw + j)) = nI (cn (lw + j))) → innI g lw (nI a) n = nI (a + suF (fun j => cn (lw + j)) n)
  | 0, _ => rfl
  | n + 1, h => by
    rw [innI, inn_n (cn := cn) (n := n) (fun j hj => h j (by omega)), h n (by omega), suF, ← Nat.add_assoc]
    exact nI_add _ _
theorem csu_n {g : Nat → Nat → Int32} {cn : Nat → Nat → Nat} {lw n : Nat} : ∀ {B : Nat}, (∀ b j, b < B → j < n → bcI (g b (lw + j)) = nI (cn b (lw + j))) → csuI g lw n B = nI (suF (fun b => suF (fun j => cn b (lw + j)) n) B)
  | 0, _ => rfl
  | B + 1, h => by
    rw [csuI, csu_n (cn := cn) (B := B) (fun b j h1 h2 => h b j (by omega) h2), suF]
    exact inn_n (cn := cn B) (fun j hj => h B j (by omega) hj)
theorem csu_4 {S : sS} (hN : sN S ≤ 12) : csuI (flS S) 0 4 (sB S) = nI (poG (gF S) (sB S) 0 0) := by
  rw [csu_n (cn := cnG (gF S)) (fun b j h1 h2 => gF_bc h1 hN (by omega))]
  have e : poG (gF S) (sB S) 0 0 = suF (toG (gF S)) (sB S) := rfl
  rw [e]
  exact congrArg nI (suF_c (fun b hb => suF_c (fun j hj => by rw [Nat.zero_add])))
theorem csu_1 {S : sS} (hN : sN S ≤ 12) {q : Nat} (hq : q < 4) : csuI (flS S) q 1 (sB S) = nI (cqG (gF S) q (sB S) 0 0) := by
  rw [csu_n (cn := cnG (gF S)) (fun b j h1 h2 => gF_bc h1 hN (by omega))]
  have e : cqG (gF S) q (sB S) 0 0 = suF (fun b => cnG (gF S) b q) (sB S) := by
    rw [cqG, if_neg (c := q < 0) (Nat.not_lt_zero _)]
    by_cases c : q = 0
    · rw [if_pos c]; rfl
    · rw [if_neg c]; rfl
  rw [e]
  exact congrArg nI (suF_c (fun b hb => Nat.zero_add _))
theorem telQ_1 {cn : Nat → Nat} : ∀ {n q a q' a' : Nat}, telQ cn n q a = .inl (q', a') → q' < q + n ∧ a' < cn q' ∧ suF cn q + a = suF cn q' + a'
  | 0, q, a, q', a', h => by
    rw [telQ] at h
    cases h
  | n + 1, q, a, q', a', h => by
    rw [telQ] at h
    by_cases c : a < cn q
    · rw [if_pos c] at h
      cases h
      exact ⟨by omega, c, rfl⟩
    · rw [if_neg c] at h
      obtain ⟨h1, h2, h3⟩ := telQ_1 h
      have h5 : suF cn (q + 1) = suF cn q + cn q := rfl
      exact ⟨by omega, h2, by omega⟩
theorem telQ_2 {cn : Nat → Nat} : ∀ {n q a a' : Nat}, telQ cn n q a = .inr a' → suF cn q + a = suF cn (q + n) + a'
  | 0, q, a, a', h => by
    rw [telQ] at h
    cases h
    rfl
  | n + 1, q, a, a', h => by
    rw [telQ] at h
    by_cases c : a < cn q
    · rw [if_pos c] at h
      cases h
    · rw [if_neg c] at h
      have h3 := telQ_2 h
      have h5 : suF cn (q + 1) = suF cn q + cn q := rfl
      rw [show q + (n + 1) = q + 1 + n by omega]
      omega
theorem telB_1 {cn : Nat → Nat → Nat} : ∀ {n b a b' q' a' : Nat}, telB cn n b a = some (b', q', a') → b' < b + n ∧ q' < 4 ∧ a' < cn b' q' ∧ suF (fun b => suF (cn b) 4) b + a = suF (fun b => suF (cn b) 4) b' + suF (cn b') q' + a'
  | 0, b, a, b', q', a', h => by
    rw [telB] at h
    cases h
  | n + 1, b, a, b', q', a', h => by
    rw [telB] at h
    have h0 : suF (cn b) 0 = 0 := rfl
    have h6 : suF (fun b => suF (cn b) 4) (b + 1) = suF (fun b => suF (cn b) 4) b + suF (cn b) 4 := rfl
    cases c : telQ (cn b) 4 0 a with
    | inl x =>
      obtain ⟨q1, a1⟩ := x
      rw [c] at h
      have h9 : some (b, q1, a1) = some (b', q', a') := h
      cases h9
      obtain ⟨h1, h2, h3⟩ := telQ_1 c
      exact ⟨by omega, by omega, h2, by omega⟩
    | inr a1 =>
      rw [c] at h
      obtain ⟨h1, h2, h3, h4⟩ := telB_1 (show telB cn n (b + 1) a1 = some (b', q', a') from h)
      have h5 := telQ_2 c
      rw [Nat.zero_add] at h5
      exact ⟨by omega, h2, h3, by omega⟩
theorem telB_0 {cn : Nat → Nat → Nat} : ∀ {n b a : Nat}, telB cn n b a = none → suF (fun b => suF (cn b) 4) (b + n) ≤ suF (fun b => suF (cn b) 4) b + a
  | 0, b, a, h => Nat.le_add_right _ _
  | n + 1, b, a, h => by
    rw [telB] at h
    have h0 : suF (cn b) 0 = 0 := rfl
    have h6 : suF (fun b => suF (cn b) 4) (b + 1) = suF (fun b => suF (cn b) 4) b + suF (cn b) 4 := rfl
    cases c : telQ (cn b) 4 0 a with
    | inl x =>
      obtain ⟨q1, a1⟩ := x
      rw [c] at h
      have h9 : some (b, q1, a1) = none := h
      cases h9
    | inr a1 =>
      rw [c] at h
      have h4 := telB_0 (show telB cn n (b + 1) a1 = none from h)
      have h5 := telQ_2 c
      rw [Nat.zero_add] at h5
      rw [show b + (n + 1) = b + 1 + n by omega]
      omega
theorem cnt_ex {p : Nat → Bool} {a : Nat} : ∀ {n : Nat}, a < cntF p n → ∃ i, i < n ∧ p i = true ∧ cntF p i = a
  | 0, h => absurd h (Nat.not_lt_zero _)
  | n + 1, h => by
    by_cases c : a < cntF p n
    · obtain ⟨i, h1, h2, h3⟩ := cnt_ex c
      exact ⟨i, by omega, h2, h3⟩
    · cases e : p n with
      | true =>
        rw [cntF_t e] at h
        exact ⟨n, by omega, e, by omega⟩
      | false =>
        rw [cntF_f e] at h
        exact absurd h c
theorem fK_none {p : Nat → Bool} : ∀ {n k : Nat}, firstK p n k = none → ∀ i, k ≤ i → i < k + n → p i = false
  | 0, k, _, i, h1, h2 => absurd h2 (by omega)
  | n + 1, k, h, i, h1, h2 => by
    rw [firstK] at h
    by_cases c : p k = true
    · rw [if_pos c] at h
      cases h
    · rw [if_neg c] at h
      by_cases e : i = k
      · rw [e]
        cases hp : p k with
        | true => exact absurd hp c
        | false => rfl
      · exact fK_none h i (by omega) (by omega)
theorem mem_ex {x : Int32} {a : Nat} (h : a < cntF (hasB x) 12) : ∃ i, i < 12 ∧ hasB x i = true ∧ cntF (hasB x) i = a ∧ memI x a = nI i := by
  obtain ⟨i, h1, h2, h3⟩ := cnt_ex h
  cases e : firstK (memP x a) 12 0 with
  | none =>
    have h4 : memP x a i = true := by rw [memP, h2, h3, decide_eq_true rfl]; rfl
    rw [fK_none e i (by omega) (by omega)] at h4
    cases h4
  | some j =>
    obtain ⟨j1, j2, j3⟩ := fK_lt e
    rw [memP, Bool.and_eq_true, decide_eq_true_eq] at j3
    exact ⟨j, by omega, j3.1, j3.2, by rw [memI, e]; rfl⟩
theorem tel_ref {S A : sS} (hN : sN S ≤ 12) (h : FtD (gF S) A (sB S) 0 0) (k w : Nat) : telI S (chR S 0) (chR S 1) (chR S 2) (cnG (gF S)) k w = if k < poG (gF S) (sB S) 0 0 then (if w = 0 then A 13 k else if w = 1 then A 14 k else A 15 k) else -5 := by
  have hT : poG (gF S) (sB S) 0 0 = suF (fun b => suF (cnG (gF S) b) 4) (sB S) := rfl
  have h0 : suF (fun b => suF (cnG (gF S) b) 4) 0 = 0 := rfl
  rw [telI]
  cases e : telB (cnG (gF S)) (sB S) 0 k with
  | none =>
    have h1 := telB_0 e
    rw [Nat.zero_add] at h1
    rw [if_neg (by omega)]
  | some x =>
    obtain ⟨b', q', a'⟩ := x
    obtain ⟨h1, h2, h3, h4⟩ := telB_1 e
    rw [Nat.zero_add] at h1
    have hh : ∀ j, j < 32 → hasB (flS S b' q') j = gF S b' q' j := fun j hj => gF_has h1 hN h2 hj
    have h5 : a' < cntF (hasB (flS S b' q')) 12 := by
      rw [cntF_c (q := gF S b' q') (fun j hj => hh j (by omega))]
      exact h3
    obtain ⟨i, i1, i2, i3, i4⟩ := mem_ex h5
    have hg : gF S b' q' i = true := by rw [← hh i (by omega)]; exact i2
    have hc : cntF (gF S b' q') i = a' := by rw [← i3]; exact (cntF_c (fun j hj => hh j (by omega))).symm
    have hk : k = poG (gF S) b' q' i := by
      unfold poG
      rw [hc]
      show k = suF (fun b => suF (cnG (gF S) b) 4) b' + suF (cnG (gF S) b') q' + a'
      omega
    have hl : lxG b' q' i (sB S) 0 0 := Or.inl h1
    have hlt := poG_lt hl h2 i1 hg
    obtain ⟨f1, f2, f3⟩ := h.2.1 b' q' i hl h2 i1 hg
    show telO q' b' (memI (flS S b' q') a') w = _
    rw [if_pos (by omega), hk, f1, f2, f3, telO, i4]
/-! the sorts of marks -/
theorem sk_2 {S A : sS} {b i : Nat} (hd : ∀ i : Nat, i < sN S → A 10 (96 * i + b) = nI (dosQ S i b)) (hi : i < sN S) : skI S A i b = nI 2 ↔ gF S b 2 i = true := by
  have e0 := mny (q := 0) hd (by decide)
  have e1 : (A 10 (96 * i + b) = nI 1) ↔ dosQ S i b = 1 := by rw [hd i hi]; exact nIq (dosF_lt _ _ _ _) (by decide)
  rw [gF_2, skI, e0]
  simp only [Bool.and_eq_true, decide_eq_true_eq, Bool.not_eq_true', decide_eq_false_iff_not]
  constructor
  · intro h
    by_cases c1 : A 10 (96 * i + b) = nI 1
    · rw [if_pos c1] at h
      by_cases c2 : soloF S b = none
      · rw [if_pos c2] at h
        by_cases c3 : firstI S b = nI b
        · rw [if_pos c3] at h; exact absurd h.symm (g_ne5 (by decide))
        · rw [if_neg c3] at h
          by_cases c4 : cntF (fun i => decide (dosQ S i b = 0)) (sN S) < 2
          · exact ⟨hi, e1.mp c1, c2, c3, c4⟩
          · rw [if_neg c4] at h; exact absurd h.symm (g_ne5 (by decide))
      · rw [if_neg c2] at h; exact absurd h (by decide)
    · rw [if_neg c1] at h; exact absurd h.symm (g_ne5 (by decide))
  · rintro ⟨_, c1, c2, c3, c4⟩
    rw [if_pos (e1.mpr c1), if_pos c2, if_neg c3, if_pos c4]
theorem sk_3 {S A : sS} {b i : Nat} (hd : ∀ i : Nat, i < sN S → A 10 (96 * i + b) = nI (dosQ S i b)) (hi : i < sN S) : skI S A i b = nI 3 ↔ gF S b 3 i = true := by
  have e1 : (A 10 (96 * i + b) = nI 1) ↔ dosQ S i b = 1 := by rw [hd i hi]; exact nIq (dosF_lt _ _ _ _) (by decide)
  rw [gF_3, skI]
  simp only [Bool.and_eq_true, decide_eq_true_eq, Bool.not_eq_true', decide_eq_false_iff_not]
  constructor
  · intro h
    by_cases c1 : A 10 (96 * i + b) = nI 1
    · rw [if_pos c1] at h
      by_cases c2 : soloF S b = none
      · rw [if_pos c2] at h
        by_cases c3 : firstI S b = nI b
        · rw [if_pos c3] at h; exact absurd h.symm (g_ne5 (by decide))
        · rw [if_neg c3] at h
          by_cases c4 : cntF (fun j => decide (A 10 (96 * j + b) = nI 0)) (sN S) < 2
          · rw [if_pos c4] at h; exact absurd h (by decide)
          · rw [if_neg c4] at h; exact absurd h.symm (g_ne5 (by decide))
      · exact ⟨hi, e1.mp c1, c2⟩
    · rw [if_neg c1] at h; exact absurd h.symm (g_ne5 (by decide))
  · rintro ⟨_, c1, c2⟩
    rw [if_pos (e1.mpr c1), if_neg c2]
theorem sk_q {S A : sS} {b i q : Nat} (hd : ∀ i : Nat, i < sN S → A 10 (96 * i + b) = nI (dosQ S i b)) (hi : i < sN S) (h2 : 2 ≤ q) (h4 : q < 4) : skI S A i b = nI q ↔ gF S b q i = true := by
  rcases (show q = 2 ∨ q = 3 by omega) with rfl | rfl
  · exact sk_2 hd hi
  · exact sk_3 hd hi
/-! what the search keeps -/
def Fx (S A A2 : sS) (b q i : Nat) : Prop := (∀ j : Nat, 1 ≤ j → j ≤ 6 → j ≠ 2 → A2 j = A j) ∧ (∀ k : Nat, k < 4 → tN A2 k = tN A k) ∧ (∀ i b : Nat, i < sN S → b < sB S → A2 10 (96 * i + b) = nI (dosQ S i b)) ∧ FtD (gF S) A2 b q i
section FX
variable {S A A2 : sS} {b q i : Nat}
theorem Fx.f (h : Fx S A A2 b q i) (hg : gF S b q i = false) : Fx S A A2 b q (i + 1) := ⟨h.1, h.2.1, h.2.2.1, h.2.2.2.f hg⟩
theorem Fx.fs (n : Nat) (h : Fx S A A2 b q i) (hn : i ≤ n) (hg : ∀ j, i ≤ j → j < n → gF S b q j = false) : Fx S A A2 b q n := ⟨h.1, h.2.1, h.2.2.1, h.2.2.2.fs n hn hg⟩
theorem Fx.nq (h : Fx S A A2 b q 12) : Fx S A A2 b (q + 1) 0 := ⟨h.1, h.2.1, h.2.2.1, h.2.2.2.nq⟩
theorem Fx.nb (h : Fx S A A2 b 4 0) : Fx S A A2 (b + 1) 0 0 := ⟨h.1, h.2.1, h.2.2.1, h.2.2.2.nb⟩
theorem Fx.t {s : Int32} (h : Fx S A A2 b q i) (hg : gF S b q i = true) (hb : b < 96) (hq : q < 4) (hi : i < 12) (hs : s = if q = 0 then -5 else nI i) : Fx S A (addA A2 (poG (gF S) b q i) (nI q) (nI b) s) b q (i + 1) :=
  ⟨fun j h1 h2 h3 => ((sPut_n (by omega)).trans ((sRow_n (by omega)).trans ((sRow_n (by omega)).trans (sRow_n (by omega))))).trans (h.1 j h1 h2 h3), fun k hk => (tN_n (by omega)).trans (h.2.1 k hk), fun i2 b2 h1 h2 => h.2.2.1 i2 b2 h1 h2, h.2.2.2.t hg hq hi (by have := poG_m hg hb hq hi; omega) hs⟩
end FX
theorem MeP.scr2 {A A2 S : sS} {tf : Nat → Int32} {tn P : Nat} {C : Nat → sS} {kp : Nat → Bool} (h : MeP A S tf tn P C kp) (h0 : ∀ k : Nat, k < 2 → tN A2 k = tN A k) (hj : ∀ j : Nat, 1 ≤ j → j ≤ 6 → j ≠ 2 → A2 j = A j) : MeP A2 S tf tn P C kp := by
  obtain ⟨h1, h2, h3, h4, h5, h6, h7, h8, h9⟩ := h
  exact ⟨(h0 0 (by decide)).trans h1, (h0 1 (by decide)).trans h2, by rw [hj 1 (by decide) (by decide) (by decide)]; exact h3, fun k hk => by rw [hj 3 (by decide) (by decide) (by decide)]; exact h4 k hk, fun k hk hq => by rw [hj 4 (by decide) (by decide) (by decide)]; exact h5 k hk hq, fun k hk => by rw [hj 5 (by decide) (by decide) (by decide)]; exact h6 k hk, fun j hj2 => by rw [hj 6 (by decide) (by decide) (by decide)]; exact h7 j hj2, h8, h9⟩
