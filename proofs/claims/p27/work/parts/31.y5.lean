/-! faults in their order -/
theorem po_t {g : Nat → Nat → Nat → Bool} {b q i : Nat} (h : g b q i = true) : poG g b q i + 1 = poG g b q (i + 1) := by rw [poG, poG, cntF_t h]; omega
theorem po_f {g : Nat → Nat → Nat → Bool} {b q i : Nat} (h : g b q i = false) : poG g b q i = poG g b q (i + 1) := by rw [poG, poG, cntF_f h]
theorem po_0 {g : Nat → Nat → Nat → Bool} {b q n : Nat} (hn : n ≤ 12) (hz : ∀ i, n ≤ i → i < 12 → g b q i = false) : poG g b q n = poG g b (q + 1) 0 := by
  have e : suF (cnG g b) (q + 1) = suF (cnG g b) q + cnG g b q := rfl
  have e2 : cnG g b q = cntF (g b q) n := by rw [cnG, cntF_z 12 hn hz]
  have e3 : cntF (g b (q + 1)) 0 = 0 := rfl
  rw [poG, poG, e, e2, e3]
  omega
theorem po_n {g : Nat → Nat → Nat → Bool} {b : Nat} : poG g b 4 0 = poG g (b + 1) 0 0 := by
  have e : suF (toG g) (b + 1) = suF (toG g) b + toG g b := rfl
  have e2 : cntF (g (b + 1) 0) 0 = 0 := rfl
  have e3 : cntF (g b 4) 0 = 0 := rfl
  have e4 : suF (cnG g (b + 1)) 0 = 0 := rfl
  rw [poG, poG, e, e2, e3, e4, toG]
theorem cq_t {g : Nat → Nat → Nat → Bool} {b q i : Nat} (h : g b q i = true) : cqG g q b q i + 1 = cqG g q b q (i + 1) := by
  rw [cqG, cqG, if_neg (Nat.lt_irrefl q), if_pos rfl, if_neg (Nat.lt_irrefl q), if_pos rfl, cntF_t h]
  omega
theorem cq_f {g : Nat → Nat → Nat → Bool} {q0 b q i : Nat} (h : g b q i = false ∨ q0 ≠ q) : cqG g q0 b q i = cqG g q0 b q (i + 1) := by
  rw [cqG, cqG]
  by_cases c : q0 < q
  · rw [if_pos c, if_pos c]
  · rw [if_neg c, if_neg c]
    by_cases c2 : q0 = q
    · rw [if_pos c2, if_pos c2, cntF_f (h.resolve_right (fun k => k c2))]
    · rw [if_neg c2, if_neg c2]
theorem cq_n {g : Nat → Nat → Nat → Bool} {q0 b q n : Nat} (hn : n ≤ 12) (hz : ∀ i, n ≤ i → i < 12 → g b q i = false) : cqG g q0 b q n = cqG g q0 b (q + 1) 0 := by
  have e2 : cnG g b q = cntF (g b q) n := by rw [cnG, cntF_z 12 hn hz]
  have e3 : cntF (g b (q + 1)) 0 = 0 := rfl
  rw [cqG, cqG]
  by_cases c : q0 < q
  · rw [if_pos c, if_pos (by omega)]
  · by_cases c2 : q0 = q
    · rw [if_neg c, if_pos c2, if_pos (by omega), c2, e2]
    · rw [if_neg c, if_neg c2, if_neg (by omega)]
      split
      · rw [e3]
      · rfl
theorem cq_z {g : Nat → Nat → Nat → Bool} {q0 b : Nat} (hq : q0 < 4) : cqG g q0 b 4 0 = cqG g q0 (b + 1) 0 0 := by
  have e : suF (fun b => cnG g b q0) (b + 1) = suF (fun b => cnG g b q0) b + cnG g b q0 := rfl
  have e3 : cntF (g (b + 1) 0) 0 = 0 := rfl
  rw [cqG, cqG, if_pos hq, if_neg (Nat.not_lt_zero _), e]
  split
  · rw [e3, Nat.add_zero]
  · rfl
/-- the law's row of counts -/
def crow (S : sS) (b q i : Nat) : Nat → Int32 := fun q0 => if q0 < 4 then nI (cqG (gF S) q0 b q i) else 0
theorem crow_0 (S : sS) : crow S 0 0 0 = fun _ => 0 := by
  funext q0
  rw [crow]
  split
  · have e : cqG (gF S) q0 0 0 0 = 0 := by
      rw [cqG, if_neg (Nat.not_lt_zero _)]
      split <;> rfl
    rw [e]; rfl
  · rfl
theorem crow_t {S : sS} {b q i : Nat} (hq : q < 4) (h : gF S b q i = true) : upd (crow S b q i) q (crow S b q i q + nI 1) = crow S b q (i + 1) := by
  funext q0
  by_cases c : q0 = q
  · rw [c, upd_s, crow, crow, if_pos hq, if_pos hq, nI_add, cq_t h]
  · rw [upd_n c, crow, crow]
    split
    · rw [cq_f (Or.inr c)]
    · rfl
theorem crow_f {S : sS} {b q i : Nat} (h : gF S b q i = false) : crow S b q i = crow S b q (i + 1) := by
  funext q0
  rw [crow, crow]
  split
  · rw [cq_f (Or.inl h)]
  · rfl
theorem crow_n {S : sS} {b q n : Nat} (hn : n ≤ 12) (hz : ∀ i, n ≤ i → i < 12 → gF S b q i = false) : crow S b q n = crow S b (q + 1) 0 := by
  funext q0
  rw [crow, crow]
  split
  · rw [cq_n hn hz]
  · rfl
theorem crow_z {S : sS} {b : Nat} : crow S b 4 0 = crow S (b + 1) 0 0 := by
  funext q0
  rw [crow, crow]
  split
  · rw [cq_z (by assumption)]
  · rfl
theorem z_0 {S : sS} {j : Nat} : ∀ i, 1 ≤ i → i < 12 → gF S j 0 i = false := fun i h _ => by rw [gF_0, decide_eq_false (by omega), Bool.false_and]
theorem z_q {S : sS} {j q : Nat} (hq : 1 ≤ q) : ∀ i, sN S ≤ i → i < 12 → gF S j q i = false := fun i h _ => by rw [gF, if_neg (by omega), decide_eq_false (p := i < sN S) (by omega), Bool.false_and]
theorem gf0_t {S : sS} (h : okY S) {j : Nat} (hj : j < sB S) (c : 0 < tk (S 0 j)) (c2 : cnQ S 0 j = 0) : gF S j 0 0 = true := by
  rw [gF_0, re_n h hj c, decide_eq_true c2, decide_eq_true rfl]; rfl
theorem gf0_r {S : sS} (h : okY S) {j : Nat} (hj : j < sB S) (c : tk (S 0 j) = 0) : gF S j 0 0 = false := by
  rw [gF_0, h.rest hj, decide_eq_true c]; simp
theorem gf0_s {S : sS} {j : Nat} (c2 : 0 < cnQ S 0 j) : gF S j 0 0 = false := by
  rw [gF_0, decide_eq_false (p := cntF (fun i => decide (dosQ S i j = 0)) (sN S) = 0) (Nat.ne_of_gt c2)]; simp
theorem gf1 {S : sS} {i j q : Nat} (hi : i < sN S) (hq : q = 1) : gF S j q i = decide (dosQ S i j = 2) := by rw [hq, gF_1, decide_eq_true hi, Bool.true_and]
theorem gf2 {S : sS} {i j q : Nat} (hi : i < sN S) (hq : q = 2) : gF S j q i = (decide (dosQ S i j = 1) && (decide (soloF S j = none) && (!decide (firstI S j = nI j) && decide (cnQ S 0 j < 2)))) := by rw [hq, gF_2, decide_eq_true hi, Bool.true_and]
theorem gf3 {S : sS} {i j q : Nat} (hi : i < sN S) (hq : q = 3) : gF S j q i = (decide (dosQ S i j = 1) && !decide (soloF S j = none)) := by rw [hq, gF_3, decide_eq_true hi, Bool.true_and]
theorem gfn {S : sS} {i j q : Nat} (hi : i < sN S) (hq : q ≠ 1) (h1 : 1 ≤ q) (h4 : q < 4) (c : dosQ S i j ≠ 1) : gF S j q i = false := by
  rcases (show q = 2 ∨ q = 3 by omega) with e | e
  · rw [gf2 hi e, decide_eq_false c, Bool.false_and]
  · rw [gf3 hi e, decide_eq_false c, Bool.false_and]
theorem g3_f {S : sS} {i j q : Nat} (hi : i < sN S) (hq : q = 3) (c : soloF S j = none) : gF S j q i = false := by rw [gf3 hi hq, decide_eq_true c]; simp
theorem g3_t {S : sS} {i j q k : Nat} (hi : i < sN S) (hq : q = 3) (c1 : dosQ S i j = 1) (c : soloF S j = some k) : gF S j q i = true := by rw [gf3 hi hq, decide_eq_true c1, c]; rfl
theorem g2_s {S : sS} {i j q k : Nat} (hi : i < sN S) (hq : q = 2) (c : soloF S j = some k) : gF S j q i = false := by rw [gf2 hi hq, c]; simp
theorem g2_b {S : sS} {i j q : Nat} (hi : i < sN S) (hq : q = 2) (c : firstI S j = nI j) : gF S j q i = false := by rw [gf2 hi hq, decide_eq_true c]; simp
theorem g2_n {S : sS} {i j q : Nat} (hi : i < sN S) (hq : q = 2) (c : 2 ≤ cnQ S 0 j) : gF S j q i = false := by rw [gf2 hi hq, decide_eq_false (p := cnQ S 0 j < 2) (by omega)]; simp
theorem g2_t {S : sS} {i j q : Nat} (hi : i < sN S) (hq : q = 2) (c1 : dosQ S i j = 1) (c : soloF S j = none) (c2 : ¬ firstI S j = nI j) (c3 : cnQ S 0 j < 2) : gF S j q i = true := by rw [gf2 hi hq, decide_eq_true c1, decide_eq_true c, decide_eq_false c2, decide_eq_true c3]; rfl
/-! what is told of them -/
def FtE (S : sS) (b q i : Nat) : Prop := ∃ A : sS, FtD (gF S) A b q i
theorem FtE.s {S : sS} {b q i : Nat} (h : FtE S b q i) (hb : b < 96) (hq : q < 4) (hi : i < 12) : FtE S b q (i + 1) := by
  obtain ⟨A, hA⟩ := h
  cases e : gF S b q i
  · exact ⟨A, hA.f e⟩
  · exact ⟨_, hA.t e hq hi (by have := poG_m e hb hq hi; omega) rfl⟩
theorem FtE.r {S : sS} {b q : Nat} (hb : b < 96) (hq : q < 4) (h : FtE S b q 0) : ∀ n, n ≤ 12 → FtE S b q n
  | 0, _ => h
  | n + 1, hn => (FtE.r hb hq h n (by omega)).s hb hq (by omega)
theorem FtE.q {S : sS} {b : Nat} (hb : b < 96) (h : FtE S b 0 0) : ∀ q, q ≤ 4 → FtE S b q 0
  | 0, _ => h
  | q + 1, hq => by
    obtain ⟨A, hA⟩ := FtE.r hb (by omega) (FtE.q hb h q (by omega)) 12 (Nat.le_refl _)
    exact ⟨A, hA.nq⟩
theorem FtE.b {S : sS} : ∀ b, b ≤ 96 → FtE S b 0 0
  | 0, _ => ⟨fun _ _ => 0, FtD.z rfl⟩
  | b + 1, hb => by
    obtain ⟨A, hA⟩ := FtE.q (by omega) (FtE.b b (by omega)) 4 (Nat.le_refl _)
    exact ⟨A, hA.nb⟩
theorem tel_p {S : sS} (h : okY S) {b q i : Nat} (hb : b < sB S) (hq : q < 4) (hi : i < 12) (hg : gF S b q i = true) : t_fault S (cnG (gF S)) (nI (poG (gF S) b q i)) (nI 0) = nI q ∧ t_fault S (cnG (gF S)) (nI (poG (gF S) b q i)) (nI 1) = nI b ∧ t_fault S (cnG (gF S)) (nI (poG (gF S) b q i)) (nI 2) = (if q = 0 then -5 else nI i) := by
  have hB := h.bnd
  obtain ⟨A, hA⟩ := FtE.b (S := S) (sB S) hB.1
  have hm := poG_m hg (by omega) hq hi
  have hl : lxG b q i (sB S) 0 0 := Or.inl hb
  have hlt := poG_lt (g := gF S) hl hq hi hg
  have h3 := hA.2.1 b q i hl hq hi hg
  have e : ∀ w, t_fault S (cnG (gF S)) (nI (poG (gF S) b q i)) (nI w) = if inB (nI w) (nI 0) (nI 2) = true then telI S (chR S 0) (chR S 1) (chR S 2) (cnG (gF S)) (poG (gF S) b q i) (tk (nI w)) else -2 := fun w => by
    rw [t_fault, if_neg (Int32.not_lt.mpr (nI_pos' (by omega))), tk_n (by omega)]
  refine ⟨?_, ?_, ?_⟩
  · rw [e 0, if_pos (by decide), tk_n (by omega), tel_ref hB.2.1 hA, if_pos hlt, if_pos rfl]; exact h3.1
  · rw [e 1, if_pos (by decide), tk_n (by omega), tel_ref hB.2.1 hA, if_pos hlt, if_neg (by decide), if_pos rfl]; exact h3.2.1
  · rw [e 2, if_pos (by decide), tk_n (by omega), tel_ref hB.2.1 hA, if_pos hlt, if_neg (by decide), if_neg (by decide)]; exact h3.2.2
theorem tel_e {S : sS} (h : okY S) : t_fault S (cnG (gF S)) (nI (poG (gF S) (sB S) 0 0)) (nI 0) = -5 := by
  have hB := h.bnd
  obtain ⟨A, hA⟩ := FtE.b (S := S) (sB S) hB.1
  have hm := poG_e (S := S) (B := sB S) hB.1
  rw [t_fault, if_neg (Int32.not_lt.mpr (nI_pos' (by omega))), if_pos (by decide), tk_n (by omega), tel_ref hB.2.1 hA, if_neg (Nat.lt_irrefl _)]
theorem tel_1 (S : sS) : t_fault S (cnG (gF S)) (-1) (nI 0) = -2 := by rw [t_fault, if_pos (by decide)]
theorem tel_3 (S : sS) : t_fault S (cnG (gF S)) (nI 0) (nI 3) = -2 := by rw [t_fault, if_neg (by decide), if_neg (by decide)]

theorem q_two {q : Nat} (h1 : 1 ≤ q) (h4 : q < 4) (a : q ≠ 1) (b : q ≠ 3) : q = 2 := by omega
