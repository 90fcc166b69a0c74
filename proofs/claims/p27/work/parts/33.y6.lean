/-! plans by turns: who breathes has little left, somebody sings on, not too many breathe -/
theorem shP_le {S : sS} {lf : Nat → Int32} {ned g : Int32} : ∀ n, (shP S lf ned g n).2 ≤ ned
  | 0 => Int32.le_refl _
  | n + 1 => by
    rw [shP]
    split
    · rename_i c; exact Int32.le_of_lt (Int32.lt_of_lt_of_le c.2.2 (shP_le n))
    · exact shP_le n
theorem shP_p {S : sS} {lf : Nat → Int32} {ned g : Int32} : ∀ {n r : Nat}, (shP S lf ned g n).1 = some r → presB S r = true ∧ hasB g r = false ∧ lf r < ned
  | 0, r, h => by cases h
  | n + 1, r, h => by
    rw [shP] at h
    split at h
    · rename_i c
      cases h
      exact ⟨c.1, c.2.1, Int32.lt_of_lt_of_le c.2.2 (shP_le n)⟩
    · exact shP_p h
theorem chz_p {S : sS} {lf : Nat → Int32} {ned : Int32} {b : Nat} (hN : sN S ≤ 12) : ∀ t g s, s < 32 → hasB (chzF S lf ned b t g) s = true → hasB g s = true ∨ (presB S s = true ∧ lf s < ned)
  | 0, g, s, _, h => Or.inl h
  | t + 1, g, s, hs, h => by
    rw [chzF] at h
    cases e : nxtF S lf ned g with
    | none => rw [e] at h; exact Or.inl h
    | some i =>
      rw [e] at h
      simp only [] at h
      have hi : i < sN S := shP_lt e
      have hp := shP_p e
      split at h
      · rcases chz_p hN t _ s hs h with q | q
        · rw [hb_or (by omega) hs] at q
          by_cases c : i = s
          · rw [← c]; exact Or.inr ⟨hp.1, hp.2.2⟩
          · rw [decide_eq_false c, Bool.or_false] at q; exact Or.inl q
        · exact Or.inr q
      · exact Or.inl h
theorem cnt_or {p : Nat → Bool} {i : Nat} : ∀ n, cntF (fun s => p s || decide (i = s)) n ≤ cntF p n + (if i < n then 1 else 0)
  | 0 => Nat.le_refl 0
  | n + 1 => by
    have ih := cnt_or (p := p) (i := i) n
    by_cases c : i = n
    · rw [if_neg (by omega)] at ih
      rw [if_pos (by omega), cntF_t (p := fun s => p s || decide (i = s)) (by simp [c])]
      have := cntF_mono (p := p) (a := n) (b := n + 1) (by omega)
      omega
    · have e : cntF (fun s => p s || decide (i = s)) (n + 1) = cntF (fun s => p s || decide (i = s)) n + (if p n = true then 1 else 0) := by
        rw [cntF]
        simp only [decide_eq_false c, Bool.or_false]
      have e2 : cntF p (n + 1) = cntF p n + (if p n = true then 1 else 0) := rfl
      rw [e, e2]
      have e3 : (if i < n then 1 else 0 : Nat) = (if i < n + 1 then 1 else 0) := by
        by_cases c2 : i < n
        · rw [if_pos c2, if_pos (by omega)]
        · rw [if_neg c2, if_neg (by omega)]
      rw [← e3]
      omega
theorem chz_n1 {S : sS} {lf : Nat → Int32} {ned : Int32} {b : Nat} (hN : sN S ≤ 12) : ∀ t g, cntF (hasB (chzF S lf ned b t g)) 12 ≤ cntF (hasB g) 12 + t
  | 0, g => Nat.le_refl _
  | t + 1, g => by
    rw [chzF]
    cases e : nxtF S lf ned g with
    | none => exact Nat.le_add_right _ _
    | some i =>
      simp only []
      have hi : i < sN S := shP_lt e
      split
      · have ih := chz_n1 (lf := lf) (ned := ned) (b := b) hN t (g ||| bitI i)
        have h1 : cntF (hasB (g ||| bitI i)) 12 = cntF (fun s => hasB g s || decide (i = s)) 12 := cntF_c (fun s hs => hb_or (by omega) (by omega))
        have h2 := cnt_or (p := hasB g) (i := i) 12
        rw [if_pos (by omega)] at h2
        omega
      · exact Nat.le_add_right _ _
theorem chz_k {S : sS} {lf : Nat → Int32} {ned : Int32} {b : Nat} : ∀ t g, chzF S lf ned b t g = g ∨ canF S lf (chzF S lf ned b t g) b = true
  | 0, g => Or.inl rfl
  | t + 1, g => by
    rw [chzF]
    cases e : nxtF S lf ned g with
    | none => exact Or.inl rfl
    | some i =>
      simp only []
      split
      · rename_i c
        rcases chz_k (S := S) (lf := lf) (ned := ned) (b := b) t (g ||| bitI i) with q | q
        · rw [q]; exact Or.inr c
        · exact Or.inr q
      · exact Or.inl rfl
theorem can_ex {S : sS} {lf : Nat → Int32} {g : Int32} {b : Nat} (h : canF S lf g b = true) : ∃ i, i < sN S ∧ presB S i = true ∧ hasB g i = false ∧ S 1 b ≤ lf i := by
  rw [canF] at h
  cases e : firstK (canP S lf g b) (sN S) 0 with
  | none => rw [e] at h; cases h
  | some i =>
    have h1 := fK_lt e
    have h2 := h1.2.2
    simp only [canP, Bool.and_eq_true, Bool.not_eq_true', decide_eq_true_eq] at h2
    exact ⟨i, by omega, h2.1.1, h2.1.2, h2.2⟩
theorem do_row {S : sS} {M M2 : Nat → Int32} {i k : Nat} {x : Int32} (e : M k = M2 k) : doN (sRow S 2 M) i k x = doN (sRow S 2 M2) i k x := by
  have e1 : markB (sRow S 2 M) i k = markB (sRow S 2 M2) i k := by
    show hasB (M k) i = hasB (M2 k) i
    rw [e]
  rw [doN, doN, e1]
  rfl
theorem ne_row {S : sS} {M M2 : Nat → Int32} : ∀ n a sm ac, neF (sRow S 2 M) n a sm ac = neF (sRow S 2 M2) n a sm ac
  | 0, _, _, _ => rfl
  | n + 1, a, sm, ac => by
    rw [neF, neF, ne_row n (a + 1) sm ac, ne_row n (a + 1) (sm + 1) _]
    rfl
theorem pl_up {S : sS} {np n b : Nat} (h : b ≠ n) : (plF S np (n + 1)).1 b = (plF S np n).1 b := by
  rw [plF]
  show (if restB S n = false ∧ soloF S n = none then _ else _ : Nat → Int32) b = _
  split
  · rw [upd_n h]
  · rfl
theorem pl_hi {S : sS} {np : Nat} : ∀ n b, n ≤ b → (plF S np n).1 b = 0
  | 0, b, _ => rfl
  | n + 1, b, h => by rw [pl_up (by omega)]; exact pl_hi n b (by omega)
theorem pl_st {S : sS} {np : Nat} : ∀ n b, b < n → (plF S np n).1 b = (plF S np (b + 1)).1 b
  | 0, b, h => absurd h (Nat.not_lt_zero b)
  | n + 1, b, h => by
    by_cases c : b = n
    · rw [c]
    · rw [pl_up c]; exact pl_st n b (by omega)
theorem pl_lf {S : sS} {np : Nat} : ∀ k, k ≤ sB S → ∀ i, i < sN S → (plF S np k).2 i = leftF (planS S np) i (S 3 i) k
  | 0, _, i, _ => rfl
  | k + 1, hk, i, hi => by
    have ih := pl_lf (S := S) (np := np) k (by omega) i hi
    have e : (plF S np (k + 1)).1 k = (plF S np (sB S)).1 k := (pl_st (sB S) k (by omega)).symm
    rw [plL, cpyF_lt hi]
    show (if doN (sRow S 2 (plF S np (k + 1)).1) i k ((plF S np k).2 i) = 0 then (plF S np k).2 i - S 1 k else if (plF S np k).2 i + S 4 i < S 3 i then (plF S np k).2 i + S 4 i else S 3 i) = _
    rw [ih, do_row (M2 := (plF S np (sB S)).1) e, leftF]
    rfl
theorem pl_at {S : sS} {np j : Nat} (hj : j < sB S) : planS S np 2 j = if restB S j = false ∧ soloF S j = none then choF (sRow S 2 (plF S np j).1) (plF S np j).2 j np else 0 := by
  show (plF S np (sB S)).1 j = _
  rw [pl_st (sB S) j hj, plF]
  show (if restB S j = false ∧ soloF S j = none then _ else _ : Nat → Int32) j = _
  split
  · rw [upd_s]
  · exact pl_hi j j (Nat.le_refl j)
theorem pl_beat {S : sS} (hN : sN S ≤ 12) {np j i : Nat} (hj : j < sB S) (hi : i < sN S) (hm : markB (planS S np) i j = true) :
    restB S j = false ∧ soloF S j = none ∧ presB S i = true ∧ leftF (planS S np) i (S 3 i) j < needI (planS S np) j ∧ ∃ i2, i2 < sN S ∧ presB S i2 = true ∧ markB (planS S np) i2 j = false ∧ S 1 j ≤ leftF (planS S np) i2 (S 3 i2) j := by
  have e := pl_at (S := S) (np := np) hj
  have hm2 : hasB (planS S np 2 j) i = true := hm
  rw [e] at hm2
  by_cases c : restB S j = false ∧ soloF S j = none
  · rw [if_pos c] at e hm2
    have hne : needI (sRow S 2 (plF S np j).1) j = needI (planS S np) j := ne_row _ _ _ _
    have hp := chz_p (S := sRow S 2 (plF S np j).1) hN _ _ i (by omega) hm2
    rcases hp with q | q
    · rw [show nI 0 = (0 : Int32) from rfl, hb_0] at q; cases q
    · refine ⟨c.1, c.2, q.1, ?_, ?_⟩
      · rw [← pl_lf j (by omega) i hi, ← hne]; exact q.2
      · rcases chz_k (S := sRow S 2 (plF S np j).1) (lf := (plF S np j).2) (ned := needI (sRow S 2 (plF S np j).1) j) (b := j) (max 1 (np / 2)) (nI 0) with r | r
        · rw [choF, r, show nI 0 = (0 : Int32) from rfl, hb_0] at hm2; cases hm2
        · obtain ⟨i2, h1, h2, h3, h4⟩ := can_ex r
          refine ⟨i2, h1, h2, ?_, ?_⟩
          · show hasB (planS S np 2 j) i2 = false
            rw [e]; exact h3
          · rw [← pl_lf (S := S) (np := np) j (by omega) i2 h1]; exact h4
  · rw [if_neg c, hb_0] at hm2; cases hm2
theorem okY.plan {S : sS} (h : okY S) {np : Nat} : okY (planS S np) := ⟨h.1.plan, h.2.1, h.2.2.1, h.2.2.2.1, h.2.2.2.2.1, h.2.2.2.2.2.1, h.2.2.2.2.2.2⟩
theorem pm_t {S : sS} (hN : sN S ≤ 12) {np j i : Nat} (hj : j < sB S) (hi : i < sN S) : dosQ (planS S np) i j = 1 ↔ markB (planS S np) i j = true := by
  constructor
  · intro h; exact (do_1.mp h).2
  · intro h
    obtain ⟨h1, h2, h3, -⟩ := pl_beat hN hj hi h
    refine do_1.mpr ⟨?_, h⟩
    have e : toSing (planS S np) i j = toSing S i j := rfl
    have e2 : soloOk S i j = true := by rw [soloOk, h2]
    rw [e, toSing, h1, h3, e2]; rfl
theorem pm_1 {S : sS} (hN : sN S ≤ 12) {np j : Nat} (hj : j < sB S) : cnQ (planS S np) 1 j = cntF (fun i => markB (planS S np) i j) (sN S) := by
  apply cntF_c
  intro i hi
  cases e : markB (planS S np) i j
  · exact decide_eq_false (fun q => by have := (pm_t hN hj hi).mp q; rw [e] at this; cases this)
  · exact decide_eq_true ((pm_t hN hj hi).mpr e)
theorem pm_half {S : sS} (hN : sN S ≤ 12) {np j : Nat} (hj : j < sB S) : cnQ (planS S np) 1 j ≤ max 1 (np / 2) := by
  rw [pm_1 hN hj]
  show cntF (fun i => hasB (planS S np 2 j) i) (sN S) ≤ _
  rw [pl_at hj]
  by_cases c : restB S j = false ∧ soloF S j = none
  · rw [if_pos c]
    have h1 := chz_n1 (S := sRow S 2 (plF S np j).1) (lf := (plF S np j).2) (ned := needI (sRow S 2 (plF S np j).1) j) (b := j) hN (max 1 (np / 2)) (nI 0)
    have h2 : cntF (hasB (nI 0)) 12 = 0 := cntF_0.mpr (fun s _ => hb_0 s)
    have h3 := cntF_mono (p := fun i => hasB (choF (sRow S 2 (plF S np j).1) (plF S np j).2 j np) i) hN
    rw [h2, Nat.zero_add] at h1
    exact Nat.le_trans h3 h1
  · rw [if_neg c, cntF_0.mpr (fun s _ => hb_0 s)]; exact Nat.zero_le _
theorem cnt_pos {p : Nat → Bool} {n i : Nat} (hi : i < n) (h : p i = true) : 0 < cntF p n := Nat.pos_of_ne_zero fun q => by
  have := cntF_0.mp q i hi
  rw [h] at this
  cases this
theorem pm_ex {S : sS} (hN : sN S ≤ 12) {np j : Nat} (hj : j < sB S) (h : 0 < cnQ (planS S np) 1 j) : soloF (planS S np) j = none ∧ 0 < cnQ (planS S np) 0 j := by
  obtain ⟨i, hi, h1, -⟩ := cnt_ex h
  have hm := (pm_t hN hj hi).mp (of_decide_eq_true h1)
  obtain ⟨a1, a2, a3, a4, i2, b1, b2, b3, b4⟩ := pl_beat hN hj hi hm
  refine ⟨a2, cnt_pos (i := i2) b1 (decide_eq_true (do_0.mpr ⟨?_, b3, Int32.not_lt.mpr b4⟩))⟩
  have e : toSing (planS S np) i2 j = toSing S i2 j := rfl
  have e2 : soloOk S i2 j = true := by rw [soloOk, a2]
  rw [e, toSing, a1, b2, e2]; rfl
theorem pm_had {S : sS} (h : okY S) {np j i su : Nat} (hj : j < sB S) (hi : i < sN S) (hd : dosQ (planS S np) i j = 1) (hs : needI (planS S np) j = nI su) (hsu : su < 2147483648) : lfN (planS S np) i j < su := by
  have hm := (pm_t h.bnd.2.1 hj hi).mp hd
  obtain ⟨-, -, -, a4, -⟩ := pl_beat h.bnd.2.1 hj hi hm
  have hV := h.plan (np := np)
  have e := lf_nI hV (i := i) (k := j) hi (Nat.le_of_lt hj)
  have hb := hV.br (i := i) hi
  rw [hs] at a4
  have a5 : leftF (planS S np) i (planS S np 3 i) j < nI su := a4
  rw [e.1] at a5
  exact (nI_ltI (by omega) hsu).mp a5
theorem pm_sum {S : sS} (hN : sN S ≤ 12) {np : Nat} : suF (fun x => cntF (markB (planS S np) x) (sB (planS S np))) (sN (planS S np)) = suF (fun x => cnQ (planS S np) 1 x) (sB (planS S np)) := by
  rw [suF_swap (markB (planS S np))]
  exact suF_c (fun b hb => (pm_1 hN hb).symm)
theorem pm_11 {S : sS} (h : okY S) {np : Nat} : cqG (gF (planS S np)) 3 (sB (planS S np)) 0 0 = 0 := by
  have hN := h.bnd.2.1
  have e2 : cqG (gF (planS S np)) 3 (sB (planS S np)) 0 0 = suF (fun b => cnG (gF (planS S np)) b 3) (sB (planS S np)) := by
    rw [cqG, if_neg (Nat.not_lt_zero 3), if_neg (by decide)]; rfl
  have hz : ∀ b, b < sB (planS S np) → cnG (gF (planS S np)) b 3 = 0 := fun b hb => by
    rw [cnG, cntF_0]
    intro i hi
    by_cases c : i < sN (planS S np)
    · rw [gF_3]
      by_cases c2 : dosQ (planS S np) i b = 1
      · have := (pl_beat hN hb c ((pm_t hN hb c).mp c2)).2.1
        have e3 : soloF (planS S np) b = none := this
        rw [e3]; simp
      · rw [decide_eq_false c2]; simp
    · rw [gF_3, decide_eq_false c, Bool.false_and]
  rw [e2, suF_c (g := fun _ => 0) hz]
  exact Nat.le_zero.mp (Nat.le_trans (suF_le (g := fun _ => 0) (c := 0) (fun _ => Nat.le_refl 0) _) (by omega))
/-- what a plan keeps -/
def PlOk (V : sS) (np : Nat) : Prop := np = cntF (presB V) (sN V) ∧ (∀ j, j < sB V → cnQ V 1 j ≤ max 1 (np / 2)) ∧ (∀ j, j < sB V → 0 < cnQ V 1 j → soloF V j = none ∧ 0 < cnQ V 0 j) ∧
  (∀ j i su, j < sB V → i < sN V → dosQ V i j = 1 → needI V j = nI su → su < 2147483648 → lfN V i j < su) ∧
  suF (fun x => cntF (markB V x) (sB V)) (sN V) = suF (fun x => cnQ V 1 x) (sB V) ∧ cqG (gF V) 3 (sB V) 0 0 = 0
theorem PlOk.of {S : sS} (h : okY S) {np : Nat} (hnp : np = cntF (presB S) (sN S)) : PlOk (planS S np) np :=
  ⟨hnp, fun _ hj => pm_half h.bnd.2.1 hj, fun _ hj h1 => pm_ex h.bnd.2.1 hj h1, fun _ _ _ hj hi hd hs hsu => pm_had h hj hi hd hs hsu, pm_sum h.bnd.2.1, pm_11 h⟩
/-! the act -/
theorem mk_no {S : sS} (h : okY S) {np : Nat} (hnp : np = cntF (presB S) (sN S)) (h0 : np = 0) : o_make S np = (-4, none) := by
  rw [o_make, if_pos ((pr0 h.1.2.1).mpr (by omega))]
theorem mk_yes {S : sS} (h : okY S) {np : Nat} (hnp : np = cntF (presB S) (sN S)) (h0 : 0 < np) (hB : 0 < sB S) : o_make S np = (nI (suF (fun x => cnQ (planS S np) 1 x) (sB (planS S np))), some (planS S np)) := by
  rw [o_make, if_neg (fun q => by have := (pr0 h.1.2.1).mp q; omega), if_neg (by omega)]
  rw [show smI (fun b => bcI (planS S np 2 b)) (sB (planS S np)) = nI (suF (fun x => cntF (markB (planS S np) x) (sB (planS S np))) (sN (planS S np))) from marks_two h.plan.bnd.2.1 h.plan.1.2.2, pm_sum h.bnd.2.1]
/-! what is needed, as the law sums it -/
theorem ne_r {S : sS} (h : okY S) {j y su lq : Nat} (hy : y < sB S) (hl : 0 < lq) (hl2 : lq ≤ sR S) (c : tk (S 0 y) = 0) (e : neF S (sB S - y) y (sR S - lq) (nI su) = needI S j) : neF S (sB S - (y + 1)) (y + 1) (sR S - (lq - 0)) (nI (su + 0)) = needI S j :=
  (neF_r hy (by omega) (by rw [h.rest hy, decide_eq_true c])).trans e
theorem ne_s {S : sS} (h : okY S) {j y su lq : Nat} (hy : y < sB S) (hl : 0 < lq) (hl2 : lq ≤ sR S) (c : 0 < tk (S 0 y)) (e : neF S (sB S - y) y (sR S - lq) (nI su) = needI S j) : neF S (sB S - (y + 1)) (y + 1) (sR S - (lq - 1)) (nI (su + tk (S 1 y))) = needI S j := by
  rw [show sR S - (lq - 1) = (sR S - lq) + 1 by omega, ← nI_add, ← (h.lo hy).1]
  exact (neF_s hy (by omega) (re_n h hy c)).trans e
theorem ne_e {S : sS} {j y su lq : Nat} (hy : y ≤ sB S) (hl2 : lq ≤ sR S) (c : sB S ≤ y ∨ lq = 0) (e : neF S (sB S - y) y (sR S - lq) (nI su) = needI S j) : needI S j = nI su := by
  rw [← e]
  by_cases c1 : sB S ≤ y
  · rw [neF_e c1]
  · rw [neF_f (by omega) (by omega)]
theorem ne_0 {S : sS} (j : Nat) : neF S (sB S - j) j (sR S - sR S) (nI 0) = needI S j := by rw [Nat.sub_self]; rfl
theorem ha_x {n : Nat} : max 1 (n / 2) = (if n / 2 < 1 then 1 else n / 2) := by
  split <;> omega
