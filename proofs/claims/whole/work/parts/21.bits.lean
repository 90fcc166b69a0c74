/-! bits one by one -/
theorem hb_sl : ∀ s, s < 32 → ((nI s &&& 31).toBitVec.smod 32).toNat = s := by decide +kernel
theorem hb_tp : ∀ s, s < 32 → (bitI s).toBitVec = BitVec.twoPow 32 s := by decide +kernel
theorem hb_and1 (y : Int32) : (y &&& nI 1 = 0) ↔ y.toBitVec.getLsbD 0 = false := by
  have e : (y &&& nI 1).toBitVec.getLsbD 0 = y.toBitVec.getLsbD 0 := by
    rw [Int32.toBitVec_and, BitVec.getLsbD_and]
    have : (nI 1).toBitVec.getLsbD 0 = true := by decide
    rw [this, Bool.and_true]
  constructor
  · intro h
    rw [h] at e
    rw [← e]
    decide
  · intro h
    rcases and1 y with c | c
    · exact c
    · rw [c, h] at e
      exact absurd e (by decide)
theorem hb_bit {x : Int32} {s : Nat} (hs : s < 32) : hasB x s = x.toBitVec.getLsbD s := by
  have e : (x >>> (nI s &&& 31)).toBitVec.getLsbD 0 = x.toBitVec.getLsbD s := by
    rw [Int32.toBitVec_shiftRight, BitVec.sshiftRight', hb_sl s hs, BitVec.getLsbD_sshiftRight]
    simp [hs]
  have h := hb_and1 (x >>> (nI s &&& 31))
  rw [e] at h
  unfold hasB
  cases c : x.toBitVec.getLsbD s with
  | true => rw [decide_eq_false (fun q => by rw [c] at h; exact absurd (h.mp q) (by decide))]; rfl
  | false => rw [decide_eq_true (h.mpr c)]; rfl
theorem hb_or {x : Int32} {i s : Nat} (hi : i < 32) (hs : s < 32) : hasB (x ||| bitI i) s = (hasB x s || decide (i = s)) := by
  rw [hb_bit hs, hb_bit hs, Int32.toBitVec_or, BitVec.getLsbD_or, hb_tp i hi, BitVec.getLsbD_twoPow]
  simp [hi]
theorem hb_xor {x : Int32} {i s : Nat} (hi : i < 32) (hs : s < 32) : hasB (x ^^^ bitI i) s = (hasB x s ^^ decide (i = s)) := by
  rw [hb_bit hs, hb_bit hs, Int32.toBitVec_xor, BitVec.getLsbD_xor, hb_tp i hi, BitVec.getLsbD_twoPow]
  simp [hi]
theorem hb_0 (s : Nat) : hasB 0 s = false := by
  unfold hasB
  have h : ∀ t, t < 32 → ((0 : Int32) >>> (nI t &&& 31)) &&& nI 1 = 0 := by decide +kernel
  have h2 : ((0 : Int32) >>> (nI s &&& 31)) = 0 := by
    apply Int32.toBitVec_inj.mp
    rw [Int32.toBitVec_shiftRight]
    show BitVec.sshiftRight' (0#32) _ = 0#32
    simp [BitVec.sshiftRight', BitVec.zero_sshiftRight]
  rw [h2]
  decide
theorem hb_ext {x y : Int32} (h : ∀ s, s < 32 → hasB x s = hasB y s) : x = y := by
  apply Int32.toBitVec_inj.mp
  apply BitVec.eq_of_getLsbD_eq
  intro s hs
  rw [← hb_bit hs, ← hb_bit hs]
  exact h s hs
/-- a set of at most n members has no bit from n on -/
def smB (x : Int32) (n : Nat) : Prop := ∀ s, n ≤ s → s < 32 → hasB x s = false
theorem smB_0 (n : Nat) : smB 0 n := fun s _ _ => hb_0 s
theorem smB_mono {x : Int32} {n k : Nat} (h : smB x n) (hk : n ≤ k) : smB x k := fun s h1 h2 => h s (by omega) h2
theorem smB_or {x : Int32} {n i : Nat} (h : smB x n) (hi : i < n) (hn : n ≤ 32) : smB (x ||| bitI i) n := fun s h1 h2 => by
  rw [hb_or (by omega) h2, h s h1 h2, decide_eq_false (by omega)]; rfl
theorem smB_xor {x : Int32} {n i : Nat} (h : smB x n) (hi : i < n) (hn : n ≤ 32) : smB (x ^^^ bitI i) n := fun s h1 h2 => by
  rw [hb_xor (by omega) h2, h s h1 h2, decide_eq_false (by omega)]; rfl
theorem smB_nI {x : Int32} (h : smB x 12) : ∃ k, k < 4096 ∧ x = nI k := by
  refine ⟨x.toBitVec.toNat, ?_, ?_⟩
  · have h2 : x.toBitVec.toNat < 2 ^ 12 := by
      apply Nat.lt_pow_two_of_testBit
      intro i hi
      by_cases c : i < 32
      · have := h i hi c
        rw [hb_bit c] at this
        exact this
      · exact Nat.testBit_lt_two_pow (Nat.lt_of_lt_of_le x.toBitVec.isLt (Nat.pow_le_pow_right (by decide) (by omega)))
    exact h2
  · apply Int32.toBitVec_inj.mp
    show _ = BitVec.ofNat 32 _
    simp
theorem bcI_kk : ∀ a, a < 64 → ∀ b, b < 64 → bcI (nI (64 * a + b)) = nI (cntF (hasB (nI (64 * a + b))) 12) := by decide +kernel
theorem bcI_k (k : Nat) (h : k < 4096) : bcI (nI k) = nI (cntF (hasB (nI k)) 12) := by
  have := bcI_kk (k / 64) (by omega) (k % 64) (by omega)
  rw [Nat.div_add_mod] at this
  exact this
theorem bcI_c {x : Int32} (h : smB x 12) : bcI x = nI (cntF (hasB x) 12) := by
  obtain ⟨k, hk, rfl⟩ := smB_nI h
  exact bcI_k k hk
theorem cntF_z {p : Nat → Bool} {n : Nat} : ∀ m, n ≤ m → (∀ j, n ≤ j → j < m → p j = false) → cntF p m = cntF p n := by
  intro m
  induction m with
  | zero => intro h _; rw [show n = 0 by omega]
  | succ m ih =>
    intro h hz
    by_cases c : n = m + 1
    · rw [c]
    · rw [cntF_f (hz m (by omega) (by omega)), ih (by omega) (fun j h1 h2 => hz j h1 (by omega))]
theorem bcI_n {x : Int32} {n : Nat} (h : smB x n) (hn : n ≤ 12) : bcI x = nI (cntF (hasB x) n) := by
  rw [bcI_c (smB_mono h hn), cntF_z 12 hn (fun j h1 h2 => h j h1 (by omega))]
