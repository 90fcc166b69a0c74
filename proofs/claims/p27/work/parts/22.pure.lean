theorem and1 (x : Int32) : x &&& nI 1 = 0 ∨ x &&& nI 1 = nI 1 := by
  have h : ∀ y : BitVec 32, y &&& 1#32 = 0#32 ∨ y &&& 1#32 = 1#32 := by
    intro y
    by_cases c : y.getLsbD 0
    · right; ext i hi; simp [BitVec.getElem_one]; rcases i with _ | i
      · simpa using c
      · simp
    · left; ext i hi; simp [BitVec.getElem_one]; rcases i with _ | i
      · simpa using c
      · simp
  rcases h x.toBitVec with e | e
  · left; exact Int32.toBitVec_inj.mp e
  · right; exact Int32.toBitVec_inj.mp e
def suF (g : Nat → Nat) : Nat → Nat
  | 0 => 0
  | n + 1 => suF g n + g n
theorem suF_le {g : Nat → Nat} {c : Nat} (h : ∀ i, g i ≤ c) : ∀ n, suF g n ≤ c * n
  | 0 => Nat.le_refl 0
  | n + 1 => by
    have := suF_le h n
    have := h n
    rw [suF, Nat.mul_succ]
    omega
theorem hb_sl : ∀ s, s < 32 → ((nI s &&& 31).toBitVec.smod 32).toNat = s := by decide +kernel
theorem hb_tp : ∀ s, s < 32 → (bitI s).toBitVec = BitVec.twoPow 32 s := by decide +kernel
theorem hb_and1 (y : Int32) : (y &&& nI 1 = 0) ↔ y.toBitVec.getLsbD 0 = false := by
  have e : (y &&& nI 1).toBitVec.getLsbD 0 = y.toBitVec.getLsbD 0 := by
    rw [Int32.toBitVec_and, BitVec.getLsbD_and]
    have : (nI 1).toBitVec.getLsbD 0 = true := by decide
    rw [this, Bool.and_true]
  constructor
  · intro h
    rw [h] at e
    rw [← e]
    decide
  · intro h
    rcases and1 y with c | c
    · exact c
    · rw [c, h] at e
      exact absurd e (by decide)
theorem hb_bit {x : Int32} {s : Nat} (hs : s < 32) : hasB x s = x.toBitVec.getLsbD s := by
  have e : (x >>> (nI s &&& 31)).toBitVec.getLsbD 0 = x.toBitVec.getLsbD s := by
    rw [Int32.toBitVec_shiftRight, BitVec.sshiftRight', hb_sl s hs, BitVec.getLsbD_sshiftRight]
    simp [hs]
  have h := hb_and1 (x >>> (nI s &&& 31))
  rw [e] at h
  unfold hasB
  cases c : x.toBitVec.getLsbD s with
  | true => rw [decide_eq_false (fun q => by rw [c] at h; exact absurd (h.mp q) (by decide))]; rfl
  | false => rw [decide_eq_true (h.mpr c)]; rfl
theorem hb_or {x : Int32} {i s : Nat} (hi : i < 32) (hs : s < 32) : hasB (x ||| bitI i) s = (hasB x s || decide (i = s)) := by
  rw [hb_bit hs, hb_bit hs, Int32.toBitVec_or, BitVec.getLsbD_or, hb_tp i hi, BitVec.getLsbD_twoPow]
  simp [hi]
theorem hb_xor {x : Int32} {i s : Nat} (hi : i < 32) (hs : s < 32) : hasB (x ^^^ bitI i) s = (hasB x s ^^ decide (i = s)) := by
  rw [hb_bit hs, hb_bit hs, Int32.toBitVec_xor, BitVec.getLsbD_xor, hb_tp i hi, BitVec.getLsbD_twoPow]
  simp [hi]
theorem hb_0 (s : Nat) : hasB 0 s = false := by
  unfold hasB
  have h : ∀ t, t < 32 → ((0 : Int32) >>> (nI t &&& 31)) &&& nI 1 = 0 := by decide +kernel
  have h2 : ((0 : Int32) >>> (nI s &&& 31)) = 0 := by
    apply Int32.toBitVec_inj.mp
    rw [Int32.toBitVec_shiftRight]
    show BitVec.sshiftRight' (0#32) _ = 0#32
    simp [BitVec.sshiftRight', BitVec.zero_sshiftRight]
  rw [h2]
  decide
theorem hb_ext {x y : Int32} (h : ∀ s, s < 32 → hasB x s = hasB y s) : x = y := by
  apply Int32.toBitVec_inj.mp
  apply BitVec.eq_of_getLsbD_eq
  intro s hs
  rw [← hb_bit hs, ← hb_bit hs]
  exact h s hs
/-- a set of at most n members has no bit from n on -/
def smB (x : Int32) (n : Nat) : Prop := ∀ s, n ≤ s → s < 32 → hasB x s = false
theorem smB_0 (n : Nat) : smB 0 n := fun s _ _ => hb_0 s
theorem smB_mono {x : Int32} {n k : Nat} (h : smB x n) (hk : n ≤ k) : smB x k := fun s h1 h2 => h s (by omega) h2
theorem smB_or {x : Int32} {n i : Nat} (h : smB x n) (hi : i < n) (hn : n ≤ 32) : smB (x ||| bitI i) n := fun s h1 h2 => by
  rw [hb_or (by omega) h2, h s h1 h2, decide_eq_false (by omega)]; rfl
theorem smB_xor {x : Int32} {n i : Nat} (h : smB x n) (hi : i < n) (hn : n ≤ 32) : smB (x ^^^ bitI i) n := fun s h1 h2 => by
  rw [hb_xor (by omega) h2, h s h1 h2, decide_eq_false (by omega)]; rfl
theorem smB_nI {x : Int32} (h : smB x 12) : ∃ k, k < 4096 ∧ x = nI k := by
  refine ⟨x.toBitVec.toNat, ?_, ?_⟩
  · have h2 : x.toBitVec.toNat < 2 ^ 12 := by
      apply Nat.lt_pow_two_of_testBit
      intro i hi
      by_cases c : i < 32
      · have := h i hi c
        rw [hb_bit c] at this
        exact this
      · exact Nat.testBit_lt_two_pow (Nat.lt_of_lt_of_le x.toBitVec.isLt (Nat.pow_le_pow_right (by decide) (by omega)))
    exact h2
  · apply Int32.toBitVec_inj.mp
    show _ = BitVec.ofNat 32 _
    simp
theorem bcI_kk : ∀ a, a < 64 → ∀ b, b < 64 → bcI (nI (64 * a + b)) = nI (cntF (hasB (nI (64 * a + b))) 12) := by decide +kernel
theorem bcI_k (k : Nat) (h : k < 4096) : bcI (nI k) = nI (cntF (hasB (nI k)) 12) := by
  have := bcI_kk (k / 64) (by omega) (k % 64) (by omega)
  rw [Nat.div_add_mod] at this
  exact this
theorem bcI_c {x : Int32} (h : smB x 12) : bcI x = nI (cntF (hasB x) 12) := by
  obtain ⟨k, hk, rfl⟩ := smB_nI h
  exact bcI_k k hk
theorem cntF_z {p : Nat → Bool} {n : Nat} : ∀ m, n ≤ m → (∀ j, n ≤ j → j < m → p j = false) → cntF p m = cntF p n := by
  intro m
  induction m with
  | zero => intro h _; rw [show n = 0 by omega]
  | succ m ih =>
    intro h hz
    by_cases c : n = m + 1
    · rw [c]
    · rw [cntF_f (hz m (by omega) (by omega)), ih (by omega) (fun j h1 h2 => hz j h1 (by omega))]
theorem bcI_n {x : Int32} {n : Nat} (h : smB x n) (hn : n ≤ 12) : bcI x = nI (cntF (hasB x) n) := by
  rw [bcI_c (smB_mono h hn), cntF_z 12 hn (fun j h1 h2 => h j h1 (by omega))]
theorem upd_s (f : Nat → Int32) (k : Nat) (v : Int32) : upd f k v k = v := if_pos rfl
theorem upd_n {f : Nat → Int32} {k i : Nat} {v : Int32} (h : i ≠ k) : upd f k v i = f i := if_neg h
theorem prsS_p {S : sS} {i j : Nat} (hi : i < 32) (hj : j < 32) : presB (prsS S i) j = (presB S j ^^ decide (i = j)) := by
  show hasB (sPut S 8 2 (S 8 2 ^^^ bitI i) 8 2) j = _
  rw [sPut_s, hb_xor hi hj]
  rfl
theorem mrkS_m {S : sS} {i b i2 b2 : Nat} (hi : i < 32) (hi2 : i2 < 32) : markB (mrkS S i b) i2 b2 = (markB S i2 b2 ^^ (decide (i = i2) && decide (b = b2))) := by
  show hasB (sRow S 2 (upd (S 2) b (S 2 b ^^^ bitI i)) 2 b2) i2 = _
  rw [sRow_s]
  by_cases c : b2 = b
  · subst c
    rw [upd_s, hb_xor hi hi2, decide_eq_true (rfl : b2 = b2), Bool.and_true]; rfl
  · rw [upd_n c, decide_eq_false (Ne.symm c), Bool.and_false, Bool.xor_false]; rfl
theorem addS_n (S : sS) (br rc : Int32) (hN : sN S < 12) : sN (addS S br rc) = sN S + 1 := by
  show (sPut _ 8 1 (nI (sN S + 1)) 8 1).toNatClampNeg = _
  rw [sPut_s]; exact nI_clamp (by omega)
theorem addS_p {S : sS} {br rc : Int32} {j : Nat} (hN : sN S < 12) (hj : j < 32) : presB (addS S br rc) j = (presB S j || decide (sN S = j)) := by
  have e : addS S br rc 8 2 = S 8 2 ||| bitI (sN S) := rfl
  show hasB (addS S br rc 8 2) j = _
  rw [e, hb_or (by omega) hj]; rfl
theorem drpF_r {S : sS} {k : Nat} {r : Nat} (hr : 5 ≤ r ∧ r < 8) : ∀ n j, drpF S k n r j = if k ≤ j ∧ j < k + n then S r (j + 1) else S r j
  | 0, j => by rw [if_neg (by omega)]; rfl
  | n + 1, j => by
    have e : drpF S k (n + 1) r j = upd (drpF S k n r) (k + n) (drpF S k n r (k + n + 1)) j := by
      rcases (show r = 5 ∨ r = 6 ∨ r = 7 by omega) with rfl | rfl | rfl <;> rfl
    rw [e]
    by_cases c : j = k + n
    · rw [c, upd_s, drpF_r hr n, if_neg (by omega), if_pos (by omega)]
    · rw [upd_n c, drpF_r hr n]
      by_cases c2 : k ≤ j ∧ j < k + n
      · rw [if_pos c2, if_pos (by omega)]
      · rw [if_neg c2, if_neg (by omega)]
theorem drpF_o {S : sS} {k r : Nat} (hr : r < 5 ∨ 8 ≤ r) : ∀ n, drpF S k n r = S r
  | 0 => rfl
  | n + 1 => by
    have e : drpF S k (n + 1) r = drpF S k n r := by
      show sRow (sRow (sRow _ 5 _) 6 _) 7 _ r = _
      rw [sRow_n (by omega), sRow_n (by omega), sRow_n (by omega)]
    rw [e]; exact drpF_o hr n
theorem tN_s {A : sS} {i v : Nat} (hv : v < 2147483648) : tN (sPut A 0 i (nI v)) i = v := by
  show (sPut A 0 i (nI v) 0 i).toNatClampNeg = v
  rw [sPut_s, nI_clamp (by omega)]
theorem drpS_K {S : sS} {k0 : Nat} (h : sK S ≤ 8) : sK (drpS S k0) = sK S - 1 := by
  show (sPut _ 8 3 (nI (sK S - 1)) 8 3).toNatClampNeg = _
  rw [sPut_s]; exact nI_clamp (by omega)
/-- the members of a group, one by one -/
theorem hb_grp (S : sS) (q b : Nat) : ∀ n i, n ≤ 12 → i < 32 → hasB (grpI S q b n) i = (decide (i < n) && decide (dosQ S i b = q))
  | 0, i, _, _ => by rw [grpI, hb_0, decide_eq_false (Nat.not_lt_zero i), Bool.false_and]
  | n + 1, i, hn, hi => by
    rw [grpI]
    by_cases c : dosQ S n b = q
    · rw [if_pos c, hb_or (by omega) hi, hb_grp S q b n i (by omega) hi]
      by_cases c2 : n = i
      · subst c2
        rw [decide_eq_true (rfl : n = n), decide_eq_true c, decide_eq_true (Nat.lt_succ_self n), Bool.or_true]; rfl
      · have e : decide (i < n + 1) = decide (i < n) := decide_eq_decide.mpr ⟨fun h => by omega, fun h => by omega⟩
        rw [decide_eq_false (p := n = i) c2, Bool.or_false, e]
    · rw [if_neg c, hb_grp S q b n i (by omega) hi]
      by_cases c2 : n = i
      · subst c2
        rw [decide_eq_false (p := dosQ S n b = q) c, Bool.and_false, Bool.and_false]
      · have e : decide (i < n + 1) = decide (i < n) := decide_eq_decide.mpr ⟨fun h => by omega, fun h => by omega⟩
        rw [e]
theorem smB_grp {S : sS} {q b n : Nat} (hn : n ≤ 12) : smB (grpI S q b n) n := fun s h1 h2 => by
  rw [hb_grp S q b n s hn h2, decide_eq_false (by omega), Bool.false_and]
theorem nIq {d q : Nat} (hd : d < 4) (hq : q < 4) : (nI d = nI q) ↔ d = q := by
  constructor
  · intro h
    have := congrArg Int32.toNatClampNeg h
    rwa [nI_clamp (by omega), nI_clamp (by omega)] at this
  · intro h; rw [h]
theorem bc_ch {S : sS} {q b : Nat} (hb : b < sB S) (hN : sN S ≤ 12) (hq : q < 4) : bcI (chR S q b) = nI (cntF (fun i => decide (nI (dosQ S i b) = nI q)) (sN S)) := by
  have e : chR S q b = grpI S q b (sN S) := if_pos hb
  rw [e, bcI_n (smB_grp hN) hN]
  congr 1
  apply cntF_c
  intro i hi
  rw [hb_grp S q b (sN S) i hN (by omega), decide_eq_true hi, Bool.true_and]
  exact decide_eq_decide.mpr (nIq (dosF_lt _ _ _ _) hq).symm
theorem cntF_0 {p : Nat → Bool} : ∀ {n : Nat}, cntF p n = 0 ↔ ∀ s, s < n → p s = false
  | 0 => ⟨fun _ s h => absurd h (Nat.not_lt_zero s), fun _ => rfl⟩
  | n + 1 => by
    rw [cntF]
    constructor
    · intro h s hs
      have h1 : cntF p n = 0 := by omega
      by_cases c : s = n
      · subst c
        cases e : p s with
        | true => rw [if_pos e] at h; omega
        | false => rfl
      · exact (cntF_0.mp h1) s (by omega)
    · intro h
      rw [cntF_0.mpr (fun s hs => h s (by omega)), if_neg (by rw [h n (by omega)]; decide)]
theorem suF_add (f g : Nat → Nat) : ∀ n, suF (fun i => f i + g i) n = suF f n + suF g n
  | 0 => rfl
  | n + 1 => by rw [suF, suF, suF, suF_add f g n]; omega
theorem suF_c {f g : Nat → Nat} {n : Nat} (h : ∀ i, i < n → f i = g i) : suF f n = suF g n := by
  induction n with
  | zero => rfl
  | succ n ih => rw [suF, suF, ih (fun i hi => h i (by omega)), h n (by omega)]
theorem suF_if (p : Nat → Bool) : ∀ n, suF (fun i => if p i = true then 1 else 0) n = cntF p n
  | 0 => rfl
  | n + 1 => by rw [suF, cntF, suF_if p n]
theorem suF_swap (p : Nat → Nat → Bool) (N : Nat) : ∀ B, suF (fun i => cntF (p i) B) N = suF (fun b => cntF (fun i => p i b) N) B
  | 0 => by
    rw [suF]
    induction N with
    | zero => rfl
    | succ N ih => rw [suF, ih]; rfl
  | B + 1 => by
    rw [suF, ← suF_swap p N B, ← suF_if (fun i => p i B) N, ← suF_add]
    rfl
theorem smI_su {f : Nat → Int32} {g : Nat → Nat} : ∀ {n : Nat}, (∀ b, b < n → f b = nI (g b)) → smI f n = nI (suF g n)
  | 0, _ => rfl
  | n + 1, h => by rw [smI, smI_su (fun b hb => h b (by omega)), h n (by omega), suF]; exact nI_add _ _
theorem marks_two {V : sS} (hN : sN V ≤ 12) (h : ∀ b, b < sB V → smB (V 2 b) (sN V)) : smI (fun b => bcI (V 2 b)) (sB V) = nI (suF (fun i => cntF (fun b => markB V i b) (sB V)) (sN V)) := by
  rw [smI_su (g := fun b => cntF (fun i => markB V i b) (sN V)) (fun b hb => bcI_n (h b hb) hN), suF_swap (fun i b => markB V i b)]
theorem pr0 {S : sS} (h : smB (S 8 2) (sN S)) : S 8 2 = 0 ↔ cntF (presB S) (sN S) = 0 := by
  rw [cntF_0]
  constructor
  · intro e s hs
    show hasB (S 8 2) s = false
    rw [e]; exact hb_0 s
  · intro hz
    apply hb_ext
    intro s hs
    rw [hb_0]
    by_cases c : s < sN S
    · exact hz s c
    · exact h s (by omega) hs
theorem shP_c {S : sS} {lf lf2 : Nat → Int32} {ned g : Int32} : ∀ {n : Nat}, (∀ i, i < n → lf i = lf2 i) → shP S lf ned g n = shP S lf2 ned g n
  | 0, _ => rfl
  | n + 1, h => by rw [shP, shP, shP_c (fun i hi => h i (by omega)), h n (by omega)]
theorem firstK_c {p q : Nat → Bool} : ∀ {n k : Nat}, (∀ i, k ≤ i → i < k + n → p i = q i) → firstK p n k = firstK q n k
  | 0, _, _ => rfl
  | n + 1, k, h => by rw [firstK, firstK, h k (Nat.le_refl k) (by omega), firstK_c (n := n) (fun i h1 h2 => h i (by omega) (by omega))]
theorem canF_c {S : sS} {lf lf2 : Nat → Int32} {g : Int32} {b : Nat} (h : ∀ i, i < sN S → lf i = lf2 i) : canF S lf g b = canF S lf2 g b := by
  rw [canF, canF, firstK_c (p := canP S lf g b) (q := canP S lf2 g b) (fun i h1 h2 => by simp only [canP]; rw [h i (by omega)])]
theorem chz_sm {S : sS} {lf : Nat → Int32} {ned : Int32} {b : Nat} (hN : sN S ≤ 12) : ∀ t g, smB g (sN S) → smB (chzF S lf ned b t g) (sN S)
  | 0, _, h => h
  | t + 1, g, h => by
    rw [chzF]
    cases e : nxtF S lf ned g with
    | none => exact h
    | some i =>
      simp only []
      have hi : i < sN S := shP_lt e
      split
      · exact chz_sm hN t _ (smB_or h hi (by omega))
      · exact h
theorem plF_sm {S : sS} {np : Nat} (hN : sN S ≤ 12) : ∀ n b, smB ((plF S np n).1 b) (sN S)
  | 0, b => smB_0 _
  | n + 1, b => by
    rw [plF]
    show smB ((if restB S n = false ∧ soloF S n = none then _ else _ : Nat → Int32) b) (sN S)
    split
    · by_cases c : b = n
      · rw [c, upd_s]; exact chz_sm (S := sRow S 2 (plF S np n).1) hN _ _ (smB_0 _)
      · rw [upd_n c]; exact plF_sm hN n b
    · exact plF_sm hN n b
abbrev addA (A : sS) (F : Nat) (q b s : Int32) : sS := sPut (sRow (sRow (sRow A 13 (upd (A 13) F q)) 14 (upd (A 14) F b)) 15 (upd (A 15) F s)) 0 4 (nI (F + 1))
def okX (S : sS) : Prop := okS S ∧ smB (S 8 2) (sN S) ∧ ∀ b : Nat, b < sB S → smB (S 2 b) (sN S)
theorem okX.setSort {S : sS} {g : Nat → Int32} (h : okX S) : okX (sRow S 0 g) := ⟨h.1, h.2.1, h.2.2⟩
theorem okX.setLoud {S : sS} {a k : Nat} {v : Int32} (h : okX S) : okX (louS S a k v) := ⟨h.1, h.2.1, h.2.2⟩
theorem okX.setPres {S : sS} {i : Nat} (h : okX S) (hi : i < sN S) : okX (prsS S i) := ⟨h.1, smB_xor (n := sN S) h.2.1 hi (by have := h.1.2.1; omega), h.2.2⟩
theorem okX.setMark {S : sS} {i b : Nat} (h : okX S) (hi : i < sN S) (hb : b < sB S) : okX (mrkS S i b) := ⟨h.1, h.2.1, fun b2 hb2 => by
  have hN := h.1.2.1
  have e : mrkS S i b 2 = upd (S 2) b (S 2 b ^^^ bitI i) := rfl
  show smB (mrkS S i b 2 b2) (sN S)
  rw [e]
  by_cases c : b2 = b
  · subst c; rw [upd_s]; exact smB_xor (h.2.2 b2 hb) hi (by omega)
  · rw [upd_n c]; exact h.2.2 b2 hb2⟩
theorem okX.plan {S : sS} {np : Nat} (h : okX S) : okX (planS S np) := ⟨h.1, h.2.1, fun b hb => by
  show smB (sRow S 2 (plF S np (sB S)).1 2 b) (sN S)
  rw [sRow_s]; exact plF_sm h.1.2.1 _ b⟩
def gF (S : sS) (b q i : Nat) : Bool :=
  if q = 0 then decide (i = 0) && (!restB S b && decide (cntF (fun i => decide (dosQ S i b = 0)) (sN S) = 0))
  else decide (i < sN S) && (if q = 1 then decide (dosQ S i b = 2) else decide (dosQ S i b = 1) && (if q = 2 then decide (soloF S b = none) && (!decide (firstI S b = nI b) && decide (cntF (fun i => decide (dosQ S i b = 0)) (sN S) < 2)) else !decide (soloF S b = none)))
theorem gF_0 (S : sS) (b i : Nat) : gF S b 0 i = (decide (i = 0) && (!restB S b && decide (cntF (fun i => decide (dosQ S i b = 0)) (sN S) = 0))) := by
  rw [gF, if_pos rfl]
theorem gF_1 (S : sS) (b i : Nat) : gF S b 1 i = (decide (i < sN S) && decide (dosQ S i b = 2)) := by
  rw [gF, if_neg (by decide), if_pos rfl]
theorem gF_2 (S : sS) (b i : Nat) : gF S b 2 i = (decide (i < sN S) && (decide (dosQ S i b = 1) && (decide (soloF S b = none) && (!decide (firstI S b = nI b) && decide (cntF (fun i => decide (dosQ S i b = 0)) (sN S) < 2))))) := by
  rw [gF, if_neg (by decide), if_neg (by decide), if_pos rfl]
theorem gF_3 (S : sS) (b i : Nat) : gF S b 3 i = (decide (i < sN S) && (decide (dosQ S i b = 1) && !decide (soloF S b = none))) := by
  rw [gF, if_neg (by decide), if_neg (by decide), if_neg (by decide)]
theorem suF_mono {f : Nat → Nat} {a b : Nat} (h : a ≤ b) : suF f a ≤ suF f b := by
  induction b with
  | zero => rw [show a = 0 by omega]; exact Nat.le_refl _
  | succ b ih =>
    by_cases c : a = b + 1
    · rw [c]; exact Nat.le_refl _
    · exact Nat.le_trans (ih (by omega)) (Nat.le_add_right _ _)
theorem cntF_mono {p : Nat → Bool} {a b : Nat} (h : a ≤ b) : cntF p a ≤ cntF p b := by
  induction b with
  | zero => rw [show a = 0 by omega]; exact Nat.le_refl _
  | succ b ih =>
    by_cases c : a = b + 1
    · rw [c]; exact Nat.le_refl _
    · exact Nat.le_trans (ih (by omega)) (Nat.le_add_right _ _)
def cnG (g : Nat → Nat → Nat → Bool) (b q : Nat) : Nat := cntF (g b q) 12
def toG (g : Nat → Nat → Nat → Bool) (b : Nat) : Nat := suF (cnG g b) 4
/-- the place of a fault: how many are ahead of it -/
def poG (g : Nat → Nat → Nat → Bool) (b q i : Nat) : Nat := suF (toG g) b + suF (cnG g b) q + cntF (g b q) i
def lxG (b' q' i' b q i : Nat) : Prop := b' < b ∨ (b' = b ∧ (q' < q ∨ (q' = q ∧ i' < i)))
theorem poG_lt {g : Nat → Nat → Nat → Bool} {b' q' i' b q i : Nat} (hl : lxG b' q' i' b q i) (hq' : q' < 4) (hi' : i' < 12) (hg : g b' q' i' = true) : poG g b' q' i' < poG g b q i := by
  have h1 : cntF (g b' q') (i' + 1) = cntF (g b' q') i' + 1 := cntF_t hg
  have h2 : cntF (g b' q') (i' + 1) ≤ cnG g b' q' := cntF_mono (by omega)
  have h3 : suF (cnG g b') (q' + 1) = suF (cnG g b') q' + cnG g b' q' := rfl
  unfold poG
  rcases hl with h | ⟨h0, h | ⟨h7, h⟩⟩
  · have h4 : suF (cnG g b') (q' + 1) ≤ toG g b' := suF_mono (by omega)
    have h5 : suF (toG g) (b' + 1) = suF (toG g) b' + toG g b' := rfl
    have h6 : suF (toG g) (b' + 1) ≤ suF (toG g) b := suF_mono (by omega)
    omega
  · rw [← h0]
    have h4 : suF (cnG g b') (q' + 1) ≤ suF (cnG g b') q := suF_mono (by omega)
    omega
  · rw [← h0, ← h7]
    have h4 : cntF (g b' q') (i' + 1) ≤ cntF (g b' q') i := cntF_mono (by omega)
    omega
def cqG (g : Nat → Nat → Nat → Bool) (q0 b q i : Nat) : Nat := suF (fun b => cnG g b q0) b + (if q0 < q then cnG g b q0 else if q0 = q then cntF (g b q) i else 0)
/-- what the rows of faults hold when all ahead of (b, q, i) are found -/
def FtD (g : Nat → Nat → Nat → Bool) (A : sS) (b q i : Nat) : Prop :=
  tN A 4 = poG g b q i ∧
  (∀ b' q' i' : Nat, lxG b' q' i' b q i → q' < 4 → i' < 12 → g b' q' i' = true → A 13 (poG g b' q' i') = nI q' ∧ A 14 (poG g b' q' i') = nI b' ∧ A 15 (poG g b' q' i') = (if q' = 0 then -5 else nI i')) ∧
  (∀ q0 : Nat, q0 < 4 → cntF (fun k => decide (A 13 k = nI q0)) (poG g b q i) = cqG g q0 b q i)
section
variable {g : Nat → Nat → Nat → Bool} {A : sS} {b q i : Nat}
theorem FtD.f (h : FtD g A b q i) (hg : g b q i = false) : FtD g A b q (i + 1) := by
  have e : poG g b q (i + 1) = poG g b q i := by rw [poG, poG, cntF_f hg]
  refine ⟨by rw [e]; exact h.1, fun b' q' i' hl h1 h2 h3 => ?_, fun q0 hq => ?_⟩
  · refine h.2.1 b' q' i' ?_ h1 h2 h3
    rcases hl with hl | ⟨e1, hl | ⟨e2, hl⟩⟩
    · exact Or.inl hl
    · exact Or.inr ⟨e1, Or.inl hl⟩
    · refine Or.inr ⟨e1, Or.inr ⟨e2, ?_⟩⟩
      by_cases c : i' = i
      · rw [e1, e2, c, hg] at h3
        cases h3
      · omega
  · rw [e, h.2.2 q0 hq, cqG, cqG]
    by_cases c : q0 = q
    · rw [if_neg (c := q0 < q) (by omega), if_pos c, if_neg (c := q0 < q) (by omega), if_pos c, cntF_f hg]
    · rw [if_neg (c := q0 = q) c, if_neg (c := q0 = q) c]
end
section
variable {g : Nat → Nat → Nat → Bool} {A : sS} {b q i : Nat}
theorem FtD.t {s : Int32} (h : FtD g A b q i) (hg : g b q i = true) (hq : q < 4) (hi : i < 12) (hF : poG g b q i < 1300) (hs : s = if q = 0 then -5 else nI i) : FtD g (addA A (poG g b q i) (nI q) (nI b) s) b q (i + 1) := by
  have e : poG g b q (i + 1) = poG g b q i + 1 := by
    have := cntF_t hg
    unfold poG
    omega
  have e13 : addA A (poG g b q i) (nI q) (nI b) s 13 = upd (A 13) (poG g b q i) (nI q) := rfl
  have e14 : addA A (poG g b q i) (nI q) (nI b) s 14 = upd (A 14) (poG g b q i) (nI b) := rfl
  have e15 : addA A (poG g b q i) (nI q) (nI b) s 15 = upd (A 15) (poG g b q i) s := rfl
  refine ⟨by rw [e]; exact tN_s (by omega), fun b' q' i' hl h1 h2 h3 => ?_, fun q0 hq0 => ?_⟩
  · rw [e13, e14, e15]
    by_cases c : b' = b ∧ q' = q ∧ i' = i
    · obtain ⟨c1, c2, c3⟩ := c
      rw [c1, c2, c3, upd_s, upd_s, upd_s]
      exact ⟨rfl, rfl, hs⟩
    · have hl2 : lxG b' q' i' b q i := by
        rcases hl with hl | ⟨e1, hl | ⟨e2, hl⟩⟩
        · exact Or.inl hl
        · exact Or.inr ⟨e1, Or.inl hl⟩
        · refine Or.inr ⟨e1, Or.inr ⟨e2, ?_⟩⟩
          have : i' ≠ i := fun q9 => c ⟨e1, e2, q9⟩
          omega
      have hlt := poG_lt hl2 h1 h2 h3
      rw [upd_n (by omega), upd_n (by omega), upd_n (by omega)]
      exact h.2.1 b' q' i' hl2 h1 h2 h3
  · rw [e, e13]
    have h5 : cntF (fun k => decide (upd (A 13) (poG g b q i) (nI q) k = nI q0)) (poG g b q i) = cqG g q0 b q i := by
      rw [← h.2.2 q0 hq0]
      exact cntF_c (fun j hj => by rw [upd_n (by omega)])
    have h6 : cqG g q0 b q (i + 1) = cqG g q0 b q i + (if q = q0 then 1 else 0) := by
      rw [cqG, cqG]
      by_cases c : q0 = q
      · rw [if_neg (c := q0 < q) (by omega), if_pos c, if_neg (c := q0 < q) (by omega), if_pos c, cntF_t hg, if_pos c.symm]
        omega
      · rw [if_neg (c := q0 = q) c, if_neg (c := q0 = q) c, if_neg (c := q = q0) (fun q9 => c q9.symm)]
        rfl
    rw [h6, ← h5]
    by_cases c : q = q0
    · rw [if_pos c]
      exact cntF_t (by show decide (upd (A 13) (poG g b q i) (nI q) (poG g b q i) = nI q0) = true; rw [upd_s, c]; exact decide_eq_true rfl)
    · rw [if_neg c]
      exact cntF_f (by show decide (upd (A 13) (poG g b q i) (nI q) (poG g b q i) = nI q0) = false; rw [upd_s]; exact decide_eq_false (fun q9 => c ((nIq hq hq0).mp q9)))
end
section
variable {g : Nat → Nat → Nat → Bool} {A : sS} {b q i : Nat}
theorem FtD.nq (h : FtD g A b q 12) : FtD g A b (q + 1) 0 := by
  have e : poG g b (q + 1) 0 = poG g b q 12 := by
    have h1 : suF (cnG g b) (q + 1) = suF (cnG g b) q + cntF (g b q) 12 := rfl
    have h2 : cntF (g b (q + 1)) 0 = 0 := rfl
    unfold poG
    omega
  refine ⟨by rw [e]; exact h.1, fun b' q' i' hl h1 h2 h3 => ?_, fun q0 hq => ?_⟩
  · refine h.2.1 b' q' i' ?_ h1 h2 h3
    rcases hl with hl | ⟨e1, hl | ⟨e2, hl⟩⟩
    · exact Or.inl hl
    · refine Or.inr ⟨e1, ?_⟩
      by_cases c : q' = q
      · exact Or.inr ⟨c, h2⟩
      · exact Or.inl (by omega)
    · exact absurd hl (Nat.not_lt_zero _)
  · rw [e, h.2.2 q0 hq, cqG, cqG]
    by_cases c : q0 = q
    · rw [if_neg (c := q0 < q) (by omega), if_pos c, if_pos (c := q0 < q + 1) (by omega), c]
      rfl
    · by_cases c2 : q0 < q
      · rw [if_pos c2, if_pos (c := q0 < q + 1) (by omega)]
      · rw [if_neg c2, if_neg c, if_neg (c := q0 < q + 1) (by omega)]
        by_cases c3 : q0 = q + 1
        · rw [if_pos c3]
          rfl
        · rw [if_neg c3]
end
section
variable {g : Nat → Nat → Nat → Bool} {A : sS} {b q i : Nat}
theorem FtD.nb (h : FtD g A b 4 0) : FtD g A (b + 1) 0 0 := by
  have e : poG g (b + 1) 0 0 = poG g b 4 0 := by
    have h1 : suF (toG g) (b + 1) = suF (toG g) b + suF (cnG g b) 4 := rfl
    have h2 : cntF (g (b + 1) 0) 0 = 0 := rfl
    have h3 : cntF (g b 4) 0 = 0 := rfl
    have h4 : suF (cnG g (b + 1)) 0 = 0 := rfl
    unfold poG
    omega
  refine ⟨by rw [e]; exact h.1, fun b' q' i' hl h1 h2 h3 => ?_, fun q0 hq => ?_⟩
  · refine h.2.1 b' q' i' ?_ h1 h2 h3
    rcases hl with hl | ⟨e1, hl | ⟨e2, hl⟩⟩
    · by_cases c : b' = b
      · exact Or.inr ⟨c, Or.inl h1⟩
      · exact Or.inl (by omega)
    · exact absurd hl (Nat.not_lt_zero _)
    · exact absurd hl (Nat.not_lt_zero _)
  · rw [e, h.2.2 q0 hq, cqG, cqG, if_pos hq, if_neg (c := q0 < 0) (Nat.not_lt_zero _)]
    by_cases c : q0 = 0
    · rw [if_pos c]
      rfl
    · rw [if_neg c]
      rfl
end
section
variable {g : Nat → Nat → Nat → Bool} {A : sS} {b q i : Nat}
theorem FtD.fs (n : Nat) (h : FtD g A b q i) (hn : i ≤ n) (hg : ∀ j, i ≤ j → j < n → g b q j = false) : FtD g A b q n := by
  induction n with
  | zero =>
    have e : i = 0 := by omega
    rw [e] at h
    exact h
  | succ n ih =>
    by_cases c : i = n + 1
    · rw [← c]; exact h
    · exact (ih (by omega) (fun j h1 h2 => hg j h1 (by omega))).f (hg n (by omega) (by omega))
end
section
variable {g : Nat → Nat → Nat → Bool} {A : sS} {b q i : Nat}
theorem FtD.z (h : tN A 4 = 0) : FtD g A 0 0 0 :=
  ⟨h, fun b' q' i' hl => by rcases hl with hl | ⟨_, hl | ⟨_, hl⟩⟩ <;> exact absurd hl (Nat.not_lt_zero _), fun q0 hq => by
    rw [cqG, if_neg (c := q0 < 0) (Nat.not_lt_zero _)]
    by_cases c : q0 = 0
    · rw [if_pos c]
      rfl
    · rw [if_neg c]
      rfl⟩
end
theorem cnt3 {p q r : Nat → Bool} : ∀ n, (∀ i, i < n → (p i = true → q i = false ∧ r i = false) ∧ (q i = true → r i = false)) → cntF p n + cntF q n + cntF r n ≤ n
  | 0, _ => Nat.le_refl 0
  | n + 1, h => by
    have ih := cnt3 n (fun i hi => h i (by omega))
    have hn := h n (by omega)
    cases c1 : p n with
    | true =>
      rw [cntF_t c1, cntF_f (hn.1 c1).1, cntF_f (hn.1 c1).2]
      omega
    | false =>
      cases c2 : q n with
      | true =>
        rw [cntF_f c1, cntF_t c2, cntF_f (hn.2 c2)]
        omega
      | false =>
        cases c3 : r n with
        | true =>
          rw [cntF_f c1, cntF_f c2, cntF_t c3]
          omega
        | false =>
          rw [cntF_f c1, cntF_f c2, cntF_f c3]
          omega
theorem gF_13 {S : sS} (b : Nat) : toG (gF S) b ≤ 13 := by
  have h0 : cnG (gF S) b 0 ≤ 1 := by
    have h := cntF_z (p := gF S b 0) (n := 1) 12 (by omega) (fun j h1 h2 => by rw [gF_0, decide_eq_false (p := j = 0) (by omega), Bool.false_and])
    show cntF (gF S b 0) 12 ≤ 1
    rw [h]
    exact cntF_le _ 1
  have h3 : cntF (gF S b 1) 12 + cntF (gF S b 2) 12 + cntF (gF S b 3) 12 ≤ 12 := cnt3 12 (fun i hi => ⟨fun h => by
      rw [gF_1, Bool.and_eq_true, decide_eq_true_eq, decide_eq_true_eq] at h
      rw [gF_2, gF_3, decide_eq_false (p := dosQ S i b = 1) (by omega), Bool.false_and, Bool.false_and, Bool.and_false]
      exact ⟨rfl, rfl⟩, fun h => by
      simp only [gF_2, Bool.and_eq_true, decide_eq_true_eq] at h
      rw [gF_3, decide_eq_true h.2.2.1, Bool.not_true, Bool.and_false, Bool.and_false]⟩)
  have h4 : toG (gF S) b = 0 + cnG (gF S) b 0 + cnG (gF S) b 1 + cnG (gF S) b 2 + cnG (gF S) b 3 := rfl
  have h5 : cnG (gF S) b 1 = cntF (gF S b 1) 12 := rfl
  have h6 : cnG (gF S) b 2 = cntF (gF S b 2) 12 := rfl
  have h7 : cnG (gF S) b 3 = cntF (gF S b 3) 12 := rfl
  omega
theorem poG_m {S : sS} {b q i : Nat} (hg : gF S b q i = true) (hb : b < 96) (hq : q < 4) (hi : i < 12) : poG (gF S) b q i < 1248 := by
  have h1 := poG_lt (g := gF S) (b := b + 1) (q := 0) (i := 0) (Or.inl (by omega)) hq hi hg
  have h2 : poG (gF S) (b + 1) 0 0 = suF (toG (gF S)) (b + 1) := rfl
  have h3 := suF_le (g := toG (gF S)) (c := 13) gF_13 (b + 1)
  omega
theorem poG_e {S : sS} {B : Nat} (hB : B ≤ 96) : poG (gF S) B 0 0 ≤ 1248 := by
  have h2 : poG (gF S) B 0 0 = suF (toG (gF S)) B := rfl
  have h3 := suF_le (g := toG (gF S)) (c := 13) gF_13 B
  omega
theorem hb_1 {s : Nat} (hs : s < 32) : hasB (nI 1) s = decide (s = 0) := (by decide +kernel : ∀ s, s < 32 → hasB (nI 1) s = decide (s = 0)) s hs
theorem ch0_z {S : sS} {b : Nat} (hb : b < sB S) (hN : sN S ≤ 12) : chR S 0 b = 0 ↔ cntF (fun i => decide (dosQ S i b = 0)) (sN S) = 0 := by
  have e : chR S 0 b = grpI S 0 b (sN S) := if_pos hb
  rw [e, cntF_0]
  constructor
  · intro h s hs
    have h2 := hb_grp S 0 b (sN S) s hN (by omega)
    rw [h, hb_0, decide_eq_true hs, Bool.true_and] at h2
    exact h2.symm
  · intro h
    apply hb_ext
    intro s hs
    rw [hb_0, hb_grp S 0 b (sN S) s hN hs]
    by_cases c : s < sN S
    · rw [show decide (dosQ S s b = 0) = false from h s c, Bool.and_false]
    · rw [decide_eq_false c, Bool.false_and]
theorem thin_c {S : sS} {b : Nat} (hb : b < sB S) (hN : sN S ≤ 12) : thinB S (chR S 0) b = (decide (soloF S b = none) && (!decide (firstI S b = nI b) && decide (cntF (fun i => decide (dosQ S i b = 0)) (sN S) < 2))) := by
  have hcl := cntF_le (fun i => decide (dosQ S i b = 0)) (sN S)
  have e : bcI (chR S 0 b) = nI (cntF (fun i => decide (dosQ S i b = 0)) (sN S)) := by
    rw [bc_ch hb hN (by decide)]
    exact congrArg nI (cntF_c (fun i hi => decide_eq_decide.mpr (nIq (dosF_lt _ _ _ _) (by decide))))
  rw [thinB, e, Bool.and_assoc]
  have e2 : decide (nI (cntF (fun i => decide (dosQ S i b = 0)) (sN S)) < nI 2) = decide (cntF (fun i => decide (dosQ S i b = 0)) (sN S) < 2) := decide_eq_decide.mpr (nI_ltI (by omega) (by decide))
  rw [e2]
theorem gF_has {S : sS} {b q i : Nat} (hb : b < sB S) (hN : sN S ≤ 12) (hq : q < 4) (hi : i < 32) : hasB (flS S b q) i = gF S b q i := by
  have e : ∀ q2, hasB (chR S q2 b) i = (decide (i < sN S) && decide (dosQ S i b = q2)) := fun q2 => by
    have e1 : chR S q2 b = grpI S q2 b (sN S) := if_pos hb
    rw [e1]
    exact hb_grp S q2 b (sN S) i hN hi
  have z : hasB (nI 0) i = false := by rw [nI_0]; exact hb_0 i
  rcases (show q = 0 ∨ q = 1 ∨ q = 2 ∨ q = 3 by omega) with rfl | rfl | rfl | rfl
  · rw [gF_0]
    show hasB (if restB S b = false ∧ chR S 0 b = 0 then nI 1 else nI 0) i = _
    by_cases c : restB S b = false ∧ chR S 0 b = 0
    · rw [if_pos c, hb_1 hi, c.1, decide_eq_true ((ch0_z hb hN).mp c.2)]
      simp
    · rw [if_neg c, z]
      cases c2 : restB S b with
      | true => simp
      | false =>
        rw [decide_eq_false (p := cntF (fun i => decide (dosQ S i b = 0)) (sN S) = 0) (fun q9 => c ⟨c2, (ch0_z hb hN).mpr q9⟩)]
        simp
  · rw [gF_1]
    exact e 2
  · rw [gF_2, ← thin_c hb hN]
    show hasB (if thinB S (chR S 0) b = true then chR S 1 b else nI 0) i = _
    cases c : thinB S (chR S 0) b with
    | true =>
      rw [if_pos rfl, e 1, Bool.and_true]
    | false =>
      rw [if_neg (by decide), z, Bool.and_false, Bool.and_false]
  · rw [gF_3]
    show hasB (if soloF S b = none then nI 0 else chR S 1 b) i = _
    by_cases c : soloF S b = none
    · rw [if_pos c, z, decide_eq_true c, Bool.not_true, Bool.and_false, Bool.and_false]
    · rw [if_neg c, e 1, decide_eq_false c, Bool.not_false, Bool.and_true]
theorem gF_sm {S : sS} {b q : Nat} (hb : b < sB S) (hN : sN S ≤ 12) (hq : q < 4) : smB (flS S b q) 12 := fun s h1 h2 => by
  rw [gF_has hb hN hq h2]
  by_cases c : q = 0
  · rw [gF, if_pos c, decide_eq_false (p := s = 0) (by omega), Bool.false_and]
  · rw [gF, if_neg c, decide_eq_false (p := s < sN S) (by omega), Bool.false_and]
theorem gF_bc {S : sS} {b q : Nat} (hb : b < sB S) (hN : sN S ≤ 12) (hq : q < 4) : bcI (flS S b q) = nI (cnG (gF S) b q) := by
  rw [bcI_c (gF_sm hb hN hq)]
  exact congrArg nI (cntF_c (fun j hj => gF_has hb hN hq (by omega)))
theorem inn_n {g : Nat → Int32} {cn : Nat → Nat} {lw a : Nat} : ∀ {n : Nat}, (∀ j, j < n → bcI (g (lw + j)) = nI (cn (lw + j))) → innI g lw (nI a) n = nI (a + suF (fun j => cn (lw + j)) n)
  | 0, _ => rfl
  | n + 1, h => by
    rw [innI, inn_n (cn := cn) (n := n) (fun j hj => h j (by omega)), h n (by omega), suF, ← Nat.add_assoc]
    exact nI_add _ _
theorem csu_n {g : Nat → Nat → Int32} {cn : Nat → Nat → Nat} {lw n : Nat} : ∀ {B : Nat}, (∀ b j, b < B → j < n → bcI (g b (lw + j)) = nI (cn b (lw + j))) → csuI g lw n B = nI (suF (fun b => suF (fun j => cn b (lw + j)) n) B)
  | 0, _ => rfl
  | B + 1, h => by
    rw [csuI, csu_n (cn := cn) (B := B) (fun b j h1 h2 => h b j (by omega) h2), suF]
    exact inn_n (cn := cn B) (fun j hj => h B j (by omega) hj)
theorem csu_4 {S : sS} (hN : sN S ≤ 12) : csuI (flS S) 0 4 (sB S) = nI (poG (gF S) (sB S) 0 0) := by
  rw [csu_n (cn := cnG (gF S)) (fun b j h1 h2 => gF_bc h1 hN (by omega))]
  have e : poG (gF S) (sB S) 0 0 = suF (toG (gF S)) (sB S) := rfl
  rw [e]
  exact congrArg nI (suF_c (fun b hb => suF_c (fun j hj => by rw [Nat.zero_add])))
theorem csu_1 {S : sS} (hN : sN S ≤ 12) {q : Nat} (hq : q < 4) : csuI (flS S) q 1 (sB S) = nI (cqG (gF S) q (sB S) 0 0) := by
  rw [csu_n (cn := cnG (gF S)) (fun b j h1 h2 => gF_bc h1 hN (by omega))]
  have e : cqG (gF S) q (sB S) 0 0 = suF (fun b => cnG (gF S) b q) (sB S) := by
    rw [cqG, if_neg (c := q < 0) (Nat.not_lt_zero _)]
    by_cases c : q = 0
    · rw [if_pos c]; rfl
    · rw [if_neg c]; rfl
  rw [e]
  exact congrArg nI (suF_c (fun b hb => Nat.zero_add _))
theorem telQ_1 {cn : Nat → Nat} : ∀ {n q a q' a' : Nat}, telQ cn n q a = .inl (q', a') → q' < q + n ∧ a' < cn q' ∧ suF cn q + a = suF cn q' + a'
  | 0, q, a, q', a', h => by
    rw [telQ] at h
    cases h
  | n + 1, q, a, q', a', h => by
    rw [telQ] at h
    by_cases c : a < cn q
    · rw [if_pos c] at h
      cases h
      exact ⟨by omega, c, rfl⟩
    · rw [if_neg c] at h
      obtain ⟨h1, h2, h3⟩ := telQ_1 h
      have h5 : suF cn (q + 1) = suF cn q + cn q := rfl
      exact ⟨by omega, h2, by omega⟩
theorem telQ_2 {cn : Nat → Nat} : ∀ {n q a a' : Nat}, telQ cn n q a = .inr a' → suF cn q + a = suF cn (q + n) + a'
  | 0, q, a, a', h => by
    rw [telQ] at h
    cases h
    rfl
  | n + 1, q, a, a', h => by
    rw [telQ] at h
    by_cases c : a < cn q
    · rw [if_pos c] at h
      cases h
    · rw [if_neg c] at h
      have h3 := telQ_2 h
      have h5 : suF cn (q + 1) = suF cn q + cn q := rfl
      rw [show q + (n + 1) = q + 1 + n by omega]
      omega
theorem telB_1 {cn : Nat → Nat → Nat} : ∀ {n b a b' q' a' : Nat}, telB cn n b a = some (b', q', a') → b' < b + n ∧ q' < 4 ∧ a' < cn b' q' ∧ suF (fun b => suF (cn b) 4) b + a = suF (fun b => suF (cn b) 4) b' + suF (cn b') q' + a'
  | 0, b, a, b', q', a', h => by
    rw [telB] at h
    cases h
  | n + 1, b, a, b', q', a', h => by
    rw [telB] at h
    have h0 : suF (cn b) 0 = 0 := rfl
    have h6 : suF (fun b => suF (cn b) 4) (b + 1) = suF (fun b => suF (cn b) 4) b + suF (cn b) 4 := rfl
    cases c : telQ (cn b) 4 0 a with
    | inl x =>
      obtain ⟨q1, a1⟩ := x
      rw [c] at h
      have h9 : some (b, q1, a1) = some (b', q', a') := h
      cases h9
      obtain ⟨h1, h2, h3⟩ := telQ_1 c
      exact ⟨by omega, by omega, h2, by omega⟩
    | inr a1 =>
      rw [c] at h
      obtain ⟨h1, h2, h3, h4⟩ := telB_1 (show telB cn n (b + 1) a1 = some (b', q', a') from h)
      have h5 := telQ_2 c
      rw [Nat.zero_add] at h5
      exact ⟨by omega, h2, h3, by omega⟩
theorem telB_0 {cn : Nat → Nat → Nat} : ∀ {n b a : Nat}, telB cn n b a = none → suF (fun b => suF (cn b) 4) (b + n) ≤ suF (fun b => suF (cn b) 4) b + a
  | 0, b, a, h => Nat.le_add_right _ _
  | n + 1, b, a, h => by
    rw [telB] at h
    have h0 : suF (cn b) 0 = 0 := rfl
    have h6 : suF (fun b => suF (cn b) 4) (b + 1) = suF (fun b => suF (cn b) 4) b + suF (cn b) 4 := rfl
    cases c : telQ (cn b) 4 0 a with
    | inl x =>
      obtain ⟨q1, a1⟩ := x
      rw [c] at h
      have h9 : some (b, q1, a1) = none := h
      cases h9
    | inr a1 =>
      rw [c] at h
      have h4 := telB_0 (show telB cn n (b + 1) a1 = none from h)
      have h5 := telQ_2 c
      rw [Nat.zero_add] at h5
      rw [show b + (n + 1) = b + 1 + n by omega]
      omega
theorem cnt_ex {p : Nat → Bool} {a : Nat} : ∀ {n : Nat}, a < cntF p n → ∃ i, i < n ∧ p i = true ∧ cntF p i = a
  | 0, h => absurd h (Nat.not_lt_zero _)
  | n + 1, h => by
    by_cases c : a < cntF p n
    · obtain ⟨i, h1, h2, h3⟩ := cnt_ex c
      exact ⟨i, by omega, h2, h3⟩
    · cases e : p n with
      | true =>
        rw [cntF_t e] at h
        exact ⟨n, by omega, e, by omega⟩
      | false =>
        rw [cntF_f e] at h
        exact absurd h c
theorem fK_none {p : Nat → Bool} : ∀ {n k : Nat}, firstK p n k = none → ∀ i, k ≤ i → i < k + n → p i = false
  | 0, k, _, i, h1, h2 => absurd h2 (by omega)
  | n + 1, k, h, i, h1, h2 => by
    rw [firstK] at h
    by_cases c : p k = true
    · rw [if_pos c] at h
      cases h
    · rw [if_neg c] at h
      by_cases e : i = k
      · rw [e]
        cases hp : p k with
        | true => exact absurd hp c
        | false => rfl
      · exact fK_none h i (by omega) (by omega)
theorem mem_ex {x : Int32} {a : Nat} (h : a < cntF (hasB x) 12) : ∃ i, i < 12 ∧ hasB x i = true ∧ cntF (hasB x) i = a ∧ memI x a = nI i := by
  obtain ⟨i, h1, h2, h3⟩ := cnt_ex h
  cases e : firstK (memP x a) 12 0 with
  | none =>
    have h4 : memP x a i = true := by rw [memP, h2, h3, decide_eq_true rfl]; rfl
    rw [fK_none e i (by omega) (by omega)] at h4
    cases h4
  | some j =>
    obtain ⟨j1, j2, j3⟩ := fK_lt e
    rw [memP, Bool.and_eq_true, decide_eq_true_eq] at j3
    exact ⟨j, by omega, j3.1, j3.2, by rw [memI, e]; rfl⟩
theorem tel_ref {S A : sS} (hN : sN S ≤ 12) (h : FtD (gF S) A (sB S) 0 0) (k w : Nat) : telI S (chR S 0) (chR S 1) (chR S 2) (cnG (gF S)) k w = if k < poG (gF S) (sB S) 0 0 then (if w = 0 then A 13 k else if w = 1 then A 14 k else A 15 k) else -5 := by
  have hT : poG (gF S) (sB S) 0 0 = suF (fun b => suF (cnG (gF S) b) 4) (sB S) := rfl
  have h0 : suF (fun b => suF (cnG (gF S) b) 4) 0 = 0 := rfl
  rw [telI]
  cases e : telB (cnG (gF S)) (sB S) 0 k with
  | none =>
    have h1 := telB_0 e
    rw [Nat.zero_add] at h1
    rw [if_neg (by omega)]
  | some x =>
    obtain ⟨b', q', a'⟩ := x
    obtain ⟨h1, h2, h3, h4⟩ := telB_1 e
    rw [Nat.zero_add] at h1
    have hh : ∀ j, j < 32 → hasB (flS S b' q') j = gF S b' q' j := fun j hj => gF_has h1 hN h2 hj
    have h5 : a' < cntF (hasB (flS S b' q')) 12 := by
      rw [cntF_c (q := gF S b' q') (fun j hj => hh j (by omega))]
      exact h3
    obtain ⟨i, i1, i2, i3, i4⟩ := mem_ex h5
    have hg : gF S b' q' i = true := by rw [← hh i (by omega)]; exact i2
    have hc : cntF (gF S b' q') i = a' := by rw [← i3]; exact (cntF_c (fun j hj => hh j (by omega))).symm
    have hk : k = poG (gF S) b' q' i := by
      unfold poG
      rw [hc]
      show k = suF (fun b => suF (cnG (gF S) b) 4) b' + suF (cnG (gF S) b') q' + a'
      omega
    have hl : lxG b' q' i (sB S) 0 0 := Or.inl h1
    have hlt := poG_lt hl h2 i1 hg
    obtain ⟨f1, f2, f3⟩ := h.2.1 b' q' i hl h2 i1 hg
    show telO q' b' (memI (flS S b' q') a') w = _
    rw [if_pos (by omega), hk, f1, f2, f3, telO, i4]
theorem appF_o (S : sS) (so lo : Int32) {j : Nat} (hj : 2 ≤ j) (h8 : j ≠ 8) : ∀ t, appF S so lo t j = S j
  | 0 => rfl
  | t + 1 => by
    rw [appF, sPut_n (by omega), sRow_n (by omega), sRow_n (by omega)]
    exact appF_o S so lo hj h8 t
theorem appF_8 (S : sS) (so lo : Int32) {k : Nat} (hk : k ≠ 0) : ∀ t, appF S so lo t 8 k = S 8 k
  | 0 => rfl
  | t + 1 => by
    rw [appF, sPut_k (by omega)]
    exact appF_8 S so lo hk t
theorem okX.setRes {S : sS} {r : Nat} (h : okX S) (hr : r ≤ 8) : okX (sPut S 8 4 (nI r)) := by
  have e : sR (sPut S 8 4 (nI r)) = r := by
    show (sPut S 8 4 (nI r) 8 4).toNatClampNeg = r
    rw [sPut_s]; exact nI_clamp (by omega)
  exact ⟨⟨h.1.1, h.1.2.1, h.1.2.2.1, by rw [e]; exact hr⟩, h.2.1, h.2.2⟩
theorem okX.newS {S : sS} {br rc : Int32} (h : okX S) (hN : sN S < 12) : okX (addS S br rc) := by
  have e8 : addS S br rc 8 2 = S 8 2 ||| bitI (sN S) := rfl
  refine ⟨⟨h.1.1, by rw [addS_n S br rc hN]; omega, h.1.2.2.1, h.1.2.2.2⟩, ?_, fun b hb => ?_⟩
  · rw [e8, addS_n S br rc hN]
    exact smB_or (smB_mono h.2.1 (by omega)) (by omega) (by omega)
  · rw [addS_n S br rc hN]
    exact smB_mono (h.2.2 b hb) (by omega)
theorem okX.ins {S : sS} {i fr to : Nat} (h : okX S) (hK : sK S < 8) : okX (insS S i fr to) := by
  have e : sK (insS S i fr to) = sK S + 1 := by
    show (sPut _ 8 3 (nI (sK S + 1)) 8 3).toNatClampNeg = _
    rw [sPut_s]; exact nI_clamp (by omega)
  exact ⟨⟨h.1.1, h.1.2.1, by rw [e]; omega, h.1.2.2.2⟩, h.2.1, h.2.2⟩
theorem drpF_oo (S : sS) (k : Nat) {j : Nat} (h5 : j ≠ 5) (h6 : j ≠ 6) (h7 : j ≠ 7) : ∀ n, drpF S k n j = S j
  | 0 => rfl
  | n + 1 => by
    rw [drpF, mvS, sRow_n h7, sRow_n h6, sRow_n h5]
    exact drpF_oo S k h5 h6 h7 n
theorem okX.drp {S : sS} {k : Nat} (h : okX S) : okX (drpS S k) := by
  have hK8 := h.1.2.2.1
  have e3 := drpS_K (S := S) (k0 := k) hK8
  have eo : ∀ j, j ≠ 3 → drpS S k 8 j = S 8 j := fun j hj => by
    show sPut (drpF S k (sK S - 1 - k)) 8 3 (nI (sK S - 1)) 8 j = _
    rw [sPut_k hj, drpF_8]
  have e2 : drpS S k 2 = S 2 := by
    show sPut (drpF S k (sK S - 1 - k)) 8 3 (nI (sK S - 1)) 2 = _
    rw [sPut_n (by decide), drpF_oo S k (by decide) (by decide) (by decide)]
  have eB : sB (drpS S k) = sB S := by show (drpS S k 8 0).toNatClampNeg = _; rw [eo 0 (by decide)]
  have eN : sN (drpS S k) = sN S := by show (drpS S k 8 1).toNatClampNeg = _; rw [eo 1 (by decide)]
  have eR : sR (drpS S k) = sR S := by show (drpS S k 8 4).toNatClampNeg = _; rw [eo 4 (by decide)]
  refine ⟨⟨by rw [eB]; exact h.1.1, by rw [eN]; exact h.1.2.1, by rw [e3]; omega, by rw [eR]; exact h.1.2.2.2⟩, ?_, fun b hb => ?_⟩
  · rw [eo 2 (by decide), eN]; exact h.2.1
  · rw [eB] at hb
    rw [e2, eN]; exact h.2.2 b hb
theorem wrF_o (f : Nat → Int32) (n : Nat) {j : Nat} (hj : 2 ≤ j) (h8 : j ≠ 8) : ∀ (k a : Nat) (V : sS), wrF f n k a V j = V j
  | 0, _, _ => rfl
  | k + 1, a, V => by
    rw [wrF]
    split
    · split
      · rw [wrF_o f n hj h8 k _ _]; exact appF_o _ _ _ hj h8 _
      · rfl
    · rfl
theorem wrF_8 (f : Nat → Int32) (n : Nat) {i : Nat} (hi : i ≠ 0) : ∀ (k a : Nat) (V : sS), wrF f n k a V 8 i = V 8 i
  | 0, _, _ => rfl
  | k + 1, a, V => by
    rw [wrF]
    split
    · split
      · rw [wrF_8 f n hi k _ _]; exact appF_8 _ _ _ hi _
      · rfl
    · rfl
theorem wrF_B {f : Nat → Int32} {n : Nat} (hn : n ≤ 60) : ∀ (d it a : Nat) (V : sS), it + d = 60 → sB V ≤ 96 → paF f n (60 - it) a (sB V) none = -1 → sB (wrF f n (60 - it) a V) ≤ 96
  | 0, it, a, V, h, hB, _ => by
    rw [wrF_e (Or.inl (by omega))]; exact hB
  | d + 1, it, a, V, h, hB, hp => by
    by_cases c : n ≤ a
    · rw [wrF_e (Or.inr c)]; exact hB
    · obtain ⟨h1, h2, h3⟩ := paF_ok hn (by omega) (by omega) hp
      rw [← wrF_s (by omega) (by omega) h1]
      have e := appF_B V (itF f n a).2.2.1 (itF f n a).2.2.2.1 (itF f n a).2.2.2.2 (by omega)
      exact wrF_B hn d (it + 1) _ _ (by omega) (by rw [e]; exact h2) (by rw [e]; exact h3)
theorem okX.readV {S : sS} {f : Nat → Int32} {n : Nat} (h : okX S) (hn : n ≤ 60) (hf : ffI f n < 0) : okX (wrF f n 60 0 (clearS S)) := by
  have eB : sB (wrF f n 60 0 (clearS S)) ≤ 96 := wrF_B hn 60 0 0 (clearS S) rfl (by rw [clearS_B]; omega) (by rw [clearS_B]; exact ff_ok hf hn)
  have e8 : ∀ i, i ≠ 0 → wrF f n 60 0 (clearS S) 8 i = clearS S 8 i := fun i hi => wrF_8 f n hi 60 0 _
  have e2 : wrF f n 60 0 (clearS S) 2 = fun _ => 0 := by rw [wrF_o f n (by decide) (by decide) 60 0 _]; exact sRow_s _ _ _
  have eN : sN (wrF f n 60 0 (clearS S)) = sN S := by show (wrF f n 60 0 (clearS S) 8 1).toNatClampNeg = _; rw [e8 1 (by decide)]; rfl
  have eK : sK (wrF f n 60 0 (clearS S)) = 0 := by show (wrF f n 60 0 (clearS S) 8 3).toNatClampNeg = _; rw [e8 3 (by decide)]; rfl
  have eR : sR (wrF f n 60 0 (clearS S)) = sR S := by show (wrF f n 60 0 (clearS S) 8 4).toNatClampNeg = _; rw [e8 4 (by decide)]; rfl
  have ep : wrF f n 60 0 (clearS S) 8 2 = S 8 2 := by rw [e8 2 (by decide)]; rfl
  exact ⟨⟨eB, by rw [eN]; exact h.1.2.1, by rw [eK]; omega, by rw [eR]; exact h.1.2.2.2⟩, by rw [ep, eN]; exact h.2.1, fun b hb => by rw [e2]; exact smB_0 _⟩
theorem okX.new : okX s0S := ⟨⟨by decide, by decide, by decide, by decide⟩, by rw [show s0S 8 2 = 0 from by decide]; exact smB_0 _, fun b hb => absurd hb (by rw [show sB s0S = 0 from by decide]; exact Nat.not_lt_zero b)⟩
theorem okX.mz {S : sS} (h : okX S) : ∀ b : Nat, b < sB S → markB S (sN S) b = false := fun b hb => h.2.2 b hb (sN S) (Nat.le_refl _) (by have := h.1.2.1; omega)
theorem okX.np {S : sS} (h : okX S) : bcI (S 8 2) = nI (cntF (presB S) (sN S)) := bcI_n h.2.1 h.1.2.1
theorem ox_setSort {S S2 : sS} {a1 a2 : Int32} (h : okX S) (e : (o_setSort S a1 a2).2 = some S2) : okX S2 := by
  unfold o_setSort at e
  split at e
  · split at e
    · cases e; exact h.setSort
    · cases e
  · cases e
theorem ox_addSinger {S S2 : sS} {a1 a2 : Int32} (h : okX S) (e : (o_addSinger S a1 a2).2 = some S2) : okX S2 := by
  unfold o_addSinger at e
  split at e
  · split at e
    · split at e
      · cases e; exact h.newS (by assumption)
      · cases e
    · cases e
  · cases e
theorem ox_setPresent {S S2 : sS} {a1 : Int32} {a2 : Bool} (h : okX S) (e : (o_setPresent S a1 a2).2 = some S2) : okX S2 := by
  unfold o_setPresent at e
  split at e
  · rename_i c
    split at e
    · cases e; exact h.setPres (tk_in c (by have := h.1.2.1; omega)).2
    · cases e
  · cases e
theorem ox_addSolo {S S2 : sS} {a1 a2 a3 : Int32} (h : okX S) (e : (o_addSolo S a1 a2 a3).2 = some S2) : okX S2 := by
  unfold o_addSolo at e
  split at e
  · split at e
    · split at e
      · split at e
        · split at e
          · cases e
          · split at e
            · cases e; exact h.ins (by assumption)
            · cases e
        · cases e
      · cases e
    · cases e
  · cases e
theorem ox_removeSolo {S S2 : sS} {a1 : Int32} (h : okX S) (e : (o_removeSolo S a1).2 = some S2) : okX S2 := by
  unfold o_removeSolo at e
  split at e
  · cases e; exact h.drp
  · cases e
theorem ox_mark {S S2 : sS} {a1 a2 : Int32} {a3 : Bool} (h : okX S) (e : (o_mark S a1 a2 a3).2 = some S2) : okX S2 := by
  unfold o_mark at e
  split at e
  · rename_i c1
    split at e
    · rename_i c2
      split at e
      · cases e; exact h.setMark (tk_in c1 (by have := h.1.2.1; omega)).2 (tk_in c2 (by have := h.1.1; omega)).2
      · cases e
    · cases e
  · cases e
theorem ox_setReserve {S S2 : sS} {a1 : Int32} (h : okX S) (e : (o_setReserve S a1).2 = some S2) : okX S2 := by
  unfold o_setReserve at e
  split at e
  · rename_i c
    cases e; exact h.setRes (tk_wi (by decide) (by decide) c).2.2
  · cases e
theorem ox_make {S S2 : sS} {np : Nat} (h : okX S) (e : (o_make S np).2 = some S2) : okX S2 := by
  unfold o_make at e
  split at e
  · cases e
  · split at e
    · cases e
    · cases e; exact h.plan
theorem ox_read {S S2 : sS} {f : Nat → Int32} {n : Nat} (h : okX S) (hn : n ≤ 60) (e : (o_read S f n).2 = some S2) : okX S2 := by
  unfold o_read at e
  split at e
  · cases e; exact h.readV hn (by assumption)
  · cases e
theorem ox_setLoudness {S S2 : sS} {a1 a2 a3 : Int32} (h : okX S) (e : (o_setLoudness S a1 a2 a3).2 = some S2) : okX S2 := by
  unfold o_setLoudness at e
  split at e
  · split at e
    · split at e
      · split at e
        · cases e; exact h.setLoud
        · cases e
      · cases e
    · cases e
  · cases e
def okA (S : sS) (P : Nat) (C : Nat → sS) (kp : Nat → Bool) : Prop := okX S ∧ (∀ k : Nat, k < P → okX (C k)) ∧ ∀ k : Nat, k < 2 → kp k = true → okX (C (k + 5))
section
variable {S S2 : sS} {P : Nat} {C : Nat → sS} {kp : Nat → Bool}
theorem okA.act (h : okA S P C kp) (hP : P ≤ 5) (h2 : okX S2) : okA S2 (recP P) (recS C P S) kp := by
  refine ⟨h2, fun k hk => ?_, fun k hk hq => by rw [recS_k C S (by omega)]; exact h.2.2 k hk hq⟩
  by_cases c : P < 5
  · rw [recP_t c] at hk
    rw [recS_t C S c]
    by_cases c2 : k = P
    · rw [c2, uS_s]; exact h.1
    · rw [uS_n c2]; exact h.2.1 k (by omega)
  · have hk5 : k < 5 := Nat.lt_of_lt_of_le hk (recP_le P)
    rw [recS_f C S (by omega) hP]
    by_cases c2 : k = P - 1
    · rw [c2, uS_s]; exact h.1
    · rw [uS_n c2, rot_p]
      have e : rotp 4 k = k + 1 := by
        simp only [rotp, rtF]
        rw [if_pos (by omega)]
      rw [e]
      exact h.2.1 (k + 1) (by omega)
end
section
variable {S S2 : sS} {P : Nat} {C : Nat → sS} {kp : Nat → Bool}
theorem okA.und (h : okA S P C kp) : okA (if P = 0 then S else C (P - 1)) (P - 1) C kp := by
  refine ⟨?_, fun k hk => h.2.1 k (by omega), h.2.2⟩
  by_cases c : P = 0
  · rw [if_pos c]; exact h.1
  · rw [if_neg c]; exact h.2.1 _ (by omega)
end
section
variable {S S2 : sS} {P : Nat} {C : Nat → sS} {kp : Nat → Bool}
theorem okA.ok (h : okA S P C kp) : okS S := h.1.1
end
section
variable {S S2 : sS} {P : Nat} {C : Nat → sS} {kp : Nat → Bool}
theorem okA.okC (h : okA S P C kp) : ∀ k : Nat, k < P → okS (C k) := fun k hk => (h.2.1 k hk).1
end
section
variable {S S2 : sS} {P : Nat} {C : Nat → sS} {kp : Nat → Bool}
theorem okA.okK (h : okA S P C kp) : ∀ k : Nat, k < 2 → kp k = true → okS (C (k + 5)) := fun k hk hq => (h.2.2 k hk hq).1
end
