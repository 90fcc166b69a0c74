/-! what the law relies on: the numbers of every state -/
def okY (S : sS) : Prop :=
  okX S ∧ (∀ b, b < sB S → S 0 b = nI (tk (S 0 b)) ∧ tk (S 0 b) ≤ 2) ∧
  (∀ b, b < sB S → S 1 b = nI (tk (S 1 b)) ∧ 1 ≤ tk (S 1 b) ∧ tk (S 1 b) ≤ 5) ∧
  (∀ i, i < sN S → S 3 i = nI (tk (S 3 i)) ∧ 4 ≤ tk (S 3 i) ∧ tk (S 3 i) ≤ 40) ∧
  (∀ i, i < sN S → S 4 i = nI (tk (S 4 i)) ∧ 1 ≤ tk (S 4 i) ∧ tk (S 4 i) ≤ 10) ∧
  (∀ k, k < sK S → S 5 k = nI (tk (S 5 k)) ∧ tk (S 5 k) < 12 ∧ S 6 k = nI (tk (S 6 k)) ∧ S 7 k = nI (tk (S 7 k)) ∧ tk (S 6 k) ≤ tk (S 7 k) ∧ tk (S 7 k) < 96) ∧
  (∀ k, k + 1 < sK S → tk (S 7 k) < tk (S 6 (k + 1)))
abbrev cnQ (S : sS) (q j : Nat) : Nat := cntF (fun i => decide (dosQ S i j = q)) (sN S)
abbrev dnQ (S : sS) (i q k : Nat) : Nat := cntF (fun b => decide (dosQ S i b = q)) k
theorem Wo.c0 {σ : gS} {o b : Nat} {S : sS} {tf : Nat → Int32} {tn P : Nat} {C : Nat → sS} {kp : Nat → Bool} {z : Nat} (h : Wo σ o b S tf tn P C kp z) : σ o = gO 7 [.ref (o + 1), .ref (o + 18), .ref (o + 21), .ref (o + 23), .ref (o + 24), .ref (o + 29), .ref (o + 36)] := by
  obtain ⟨x, t, pa, sn, v, ch, tu, g, sg, ⟨rfl, rfl, rfl, rfl, rfl, rfl, rfl, h0⟩, h1, -⟩ := h
  exact h1
theorem Wo.oz {σ : gS} {o b : Nat} {S : sS} {tf : Nat → Int32} {tn P : Nat} {C : Nat → sS} {kp : Nat → Bool} {z : Nat} (h : Wo σ o b S tf tn P C kp z) : o + 39 ≤ z ∧ o + 39 ≤ b ∧ b ≤ z ∧ tn ≤ 60 ∧ P ≤ 5 := by
  obtain ⟨x, t, pa, sn, v, ch, tu, g, sg, ⟨-, -, -, -, -, -, -, h0⟩, -, -, -, -, -, -, -, -, h9, -, -, h10, h11⟩ := h
  have := h9.1
  exact ⟨by omega, h0, this, h10, h11⟩
theorem wP_no {o b : Nat} {σ : gS} {S : sS} {tf : Nat → Int32} {tn P : Nat} {C : Nat → sS} {kp : Nat → Bool} {sz : Nat} {res : Int32 × Option sS} {r v : Int32} {τ : gS} {n : Nat} (e : res = (v, none)) (h : wP o b σ S tf tn P C kp sz res r τ n) : r = v ∧ Wo τ o b S tf tn P C kp n ∧ sz ≤ n ∧ n ≤ sz + 17 := by
  subst e
  exact ⟨h.1, h.2.1, h.2.2.1, h.2.2.2.1⟩
theorem wP_yes {o b : Nat} {σ : gS} {S S2 : sS} {tf : Nat → Int32} {tn P : Nat} {C : Nat → sS} {kp : Nat → Bool} {sz : Nat} {res : Int32 × Option sS} {r v : Int32} {τ : gS} {n : Nat} (e : res = (v, some S2)) (h : wP o b σ S tf tn P C kp sz res r τ n) : r = v ∧ Wo τ o b S2 tf tn (recP P) (recS C P S) kp n ∧ sz ≤ n ∧ n ≤ sz + 17 := by
  subst e
  exact ⟨h.1, h.2.1, h.2.2.1, h.2.2.2.1⟩
theorem g_neg {a k : Nat} (h : a < 2147483648) (hk : (-(Int32.ofNat k) : Int32) < 0) : nI a ≠ -(Int32.ofNat k) := fun q => by
  have h1 := nI_pos' h
  rw [q] at h1
  exact absurd hk (Int32.not_lt.mpr h1)
theorem okY.so {S : sS} (h : okY S) {b : Nat} (hb : b < sB S) : S 0 b = nI (tk (S 0 b)) ∧ tk (S 0 b) ≤ 2 := h.2.1 b hb
theorem okY.lo {S : sS} (h : okY S) {b : Nat} (hb : b < sB S) : S 1 b = nI (tk (S 1 b)) ∧ 1 ≤ tk (S 1 b) ∧ tk (S 1 b) ≤ 5 := h.2.2.1 b hb
theorem okY.br {S : sS} (h : okY S) {i : Nat} (hi : i < sN S) : S 3 i = nI (tk (S 3 i)) ∧ 4 ≤ tk (S 3 i) ∧ tk (S 3 i) ≤ 40 := h.2.2.2.1 i hi
theorem okY.rc {S : sS} (h : okY S) {i : Nat} (hi : i < sN S) : S 4 i = nI (tk (S 4 i)) ∧ 1 ≤ tk (S 4 i) ∧ tk (S 4 i) ≤ 10 := h.2.2.2.2.1 i hi
theorem okY.sl {S : sS} (h : okY S) {k : Nat} (hk : k < sK S) : S 5 k = nI (tk (S 5 k)) ∧ tk (S 5 k) < 12 ∧ S 6 k = nI (tk (S 6 k)) ∧ S 7 k = nI (tk (S 7 k)) ∧ tk (S 6 k) ≤ tk (S 7 k) ∧ tk (S 7 k) < 96 := h.2.2.2.2.2.1 k hk
theorem okY.sn {S : sS} (h : okY S) {k : Nat} (hk : k + 1 < sK S) : tk (S 7 k) < tk (S 6 (k + 1)) := h.2.2.2.2.2.2 k hk
theorem okY.rest {S : sS} (h : okY S) {b : Nat} (hb : b < sB S) : restB S b = decide (tk (S 0 b) = 0) := by
  have h1 := h.so hb
  rw [restB, h1.1]
  by_cases c : tk (S 0 b) = 0
  · rw [c]; rfl
  · rw [decide_eq_false (fun q => c ((g_nz (by omega)).mp q)), decide_eq_false (fun q => c (by rw [tk_n (by omega)] at q; exact q))]
theorem okY.bnd {S : sS} (h : okY S) : sB S ≤ 96 ∧ sN S ≤ 12 ∧ sK S ≤ 8 ∧ sR S ≤ 8 := h.1.1
/-! what one singer does -/
theorem do_3 {S : sS} {i j : Nat} {lf : Int32} : doN S i j lf = 3 ↔ toSing S i j = false := by
  unfold doN
  by_cases c : toSing S i j = true
  · rw [if_pos c]
    constructor
    · intro q
      split at q
      · cases q
      · split at q <;> cases q
    · intro q; rw [c] at q; cases q
  · rw [if_neg c]; exact ⟨fun _ => by simpa using c, fun _ => rfl⟩
theorem do_1 {S : sS} {i j : Nat} {lf : Int32} : doN S i j lf = 1 ↔ toSing S i j = true ∧ markB S i j = true := by
  unfold doN
  by_cases c : toSing S i j = true
  · rw [if_pos c]
    by_cases c2 : markB S i j = true
    · rw [if_pos c2]; exact ⟨fun _ => ⟨c, c2⟩, fun _ => rfl⟩
    · rw [if_neg c2]
      constructor
      · intro q; split at q <;> cases q
      · intro q; exact absurd q.2 c2
  · rw [if_neg c]; exact ⟨fun q => (by cases q), fun q => absurd q.1 c⟩
theorem do_0 {S : sS} {i j : Nat} {lf : Int32} : doN S i j lf = 0 ↔ toSing S i j = true ∧ markB S i j = false ∧ ¬ lf < S 1 j := by
  unfold doN
  by_cases c : toSing S i j = true
  · rw [if_pos c]
    by_cases c2 : markB S i j = true
    · rw [if_pos c2]; exact ⟨fun q => (by cases q), fun q => (by rw [c2] at q; cases q.2.1)⟩
    · rw [if_neg c2]
      by_cases c3 : lf < S 1 j
      · rw [if_pos c3]; exact ⟨fun q => (by cases q), fun q => absurd c3 q.2.2⟩
      · rw [if_neg c3]; exact ⟨fun _ => ⟨c, by simpa using c2, c3⟩, fun _ => rfl⟩
  · rw [if_neg c]; exact ⟨fun q => (by cases q), fun q => absurd q.1 c⟩
theorem do_2 {S : sS} {i j : Nat} {lf : Int32} : doN S i j lf = 2 ↔ toSing S i j = true ∧ markB S i j = false ∧ lf < S 1 j := by
  unfold doN
  by_cases c : toSing S i j = true
  · rw [if_pos c]
    by_cases c2 : markB S i j = true
    · rw [if_pos c2]; exact ⟨fun q => (by cases q), fun q => (by rw [c2] at q; cases q.2.1)⟩
    · rw [if_neg c2]
      by_cases c3 : lf < S 1 j
      · rw [if_pos c3]; exact ⟨fun _ => ⟨c, by simpa using c2, c3⟩, fun _ => rfl⟩
      · rw [if_neg c3]; exact ⟨fun q => (by cases q), fun q => absurd q.2.2 c3⟩
  · rw [if_neg c]; exact ⟨fun q => (by cases q), fun q => absurd q.1 c⟩
/-- the breath left ahead of beat k, and the least so far -/
def lfN (S : sS) (i k : Nat) : Nat := tk (leftF S i (S 3 i) k)
def lsN (S : sS) (i : Nat) : Nat → Nat
  | 0 => tk (S 3 i)
  | k + 1 => if lfN S i (k + 1) < lsN S i k then lfN S i (k + 1) else lsN S i k
theorem lsN_le (S : sS) (i : Nat) : ∀ k, lsN S i k ≤ tk (S 3 i)
  | 0 => Nat.le_refl _
  | k + 1 => by
    have := lsN_le S i k
    rw [lsN]
    split <;> omega
theorem lfN_0 {S : sS} (i : Nat) : lfN S i 0 = tk (S 3 i) := rfl
theorem lf_nI {S : sS} (h : okY S) {i : Nat} (hi : i < sN S) : ∀ {k : Nat}, k ≤ sB S → leftF S i (S 3 i) k = nI (lfN S i k) ∧ lfN S i k ≤ tk (S 3 i)
  | 0, _ => ⟨(h.br hi).1, Nat.le_refl _⟩
  | k + 1, hk => by
    obtain ⟨e, hle⟩ := lf_nI h hi (k := k) (by omega)
    have hb := h.br hi
    have hr := h.rc hi
    have hl := h.lo (b := k) (by omega)
    have key : ∃ x, leftF S i (S 3 i) (k + 1) = nI x ∧ x ≤ tk (S 3 i) := by
      rw [leftF]
      by_cases c : doN S i k (leftF S i (S 3 i) k) = 0
      · rw [if_pos c]
        have c1 := (do_0.mp c).2.2
        rw [e, hl.1] at c1
        have c2 := Nat.not_lt.mp (fun q => c1 ((nI_ltI (by omega) (by omega)).mpr q))
        refine ⟨lfN S i k - tk (S 1 k), ?_, by omega⟩
        rw [e]
        exact (congrArg (fun x => nI (lfN S i k) - x) hl.1).trans (pk_sub c2)
      · rw [if_neg c]
        have e2 : leftF S i (S 3 i) k + S 4 i = nI (lfN S i k + tk (S 4 i)) := by
          rw [e]
          exact (congrArg (fun x => nI (lfN S i k) + x) hr.1).trans (nI_add _ _)
        rw [e2]
        by_cases c2 : nI (lfN S i k + tk (S 4 i)) < S 3 i
        · rw [if_pos c2]
          rw [hb.1] at c2
          exact ⟨_, rfl, Nat.le_of_lt ((nI_ltI (by omega) (by omega)).mp c2)⟩
        · rw [if_neg c2]; exact ⟨_, hb.1, Nat.le_refl _⟩
    obtain ⟨x, e3, hx⟩ := key
    have e4 : lfN S i (k + 1) = x := by rw [lfN, e3, tk_n (by omega)]
    rw [e4]
    exact ⟨e3, hx⟩
theorem lfN_le {S : sS} (h : okY S) {i k : Nat} (hi : i < sN S) (hk : k ≤ sB S) : lfN S i k ≤ tk (S 3 i) := (lf_nI h hi hk).2
theorem lfN_s0 {S : sS} (h : okY S) {i k : Nat} (hi : i < sN S) (hk : k < sB S) (hd : dosQ S i k = 0) : lfN S i k - tk (S 1 k) = lfN S i (k + 1) ∧ tk (S 1 k) ≤ lfN S i k := by
  have e := lf_nI h hi (k := k) (by omega)
  have hl := h.lo hk
  have hb := h.br hi
  have c1 := (do_0.mp hd).2.2
  rw [e.1, hl.1] at c1
  have c2 := Nat.not_lt.mp (fun q => c1 ((nI_ltI (by omega) (by omega)).mpr q))
  refine ⟨?_, c2⟩
  have e2 : leftF S i (S 3 i) (k + 1) = nI (lfN S i k - tk (S 1 k)) := by
    rw [← leftF_0 hd, e.1]
    exact (congrArg (fun x => nI (lfN S i k) - x) hl.1).trans (pk_sub c2)
  refine Eq.symm ?_
  show tk (leftF S i (S 3 i) (k + 1)) = _
  rw [e2, tk_n (by omega)]
theorem lfN_s1 {S : sS} (h : okY S) {i k : Nat} (hi : i < sN S) (hk : k < sB S) (hd : dosQ S i k ≠ 0) : lfN S i (k + 1) = (if tk (S 3 i) < lfN S i k + tk (S 4 i) then tk (S 3 i) else lfN S i k + tk (S 4 i)) := by
  have e := lf_nI h hi (k := k) (by omega)
  have hr := h.rc hi
  have hb := h.br hi
  have e2 : leftF S i (S 3 i) k + S 4 i = nI (lfN S i k + tk (S 4 i)) := by
    rw [e.1]
    exact (congrArg (fun x => nI (lfN S i k) + x) hr.1).trans (nI_add _ _)
  have e3 := leftF_1 (S := S) (i := i) (br := S 3 i) (b := k) (Nat.pos_of_ne_zero hd)
  show tk (leftF S i (S 3 i) (k + 1)) = _
  rw [← e3, e2]
  by_cases c : nI (lfN S i k + tk (S 4 i)) < S 3 i
  · rw [if_pos c]
    rw [hb.1] at c
    have c2 := (nI_ltI (by omega) (by omega)).mp c
    rw [if_neg (by omega), tk_n (by omega)]
  · rw [if_neg c]
    rw [hb.1] at c
    have c2 := Nat.not_lt.mp (fun q => c ((nI_ltI (by omega) (by omega)).mpr q))
    by_cases c3 : tk (S 3 i) < lfN S i k + tk (S 4 i)
    · rw [if_pos c3]
    · rw [if_neg c3]; omega
theorem gasp_lt {S : sS} (h : okY S) {i k : Nat} (hi : i < sN S) (hk : k < sB S) (hd : dosQ S i k = 2) : lfN S i k < tk (S 1 k) := by
  have e := lf_nI h hi (k := k) (by omega)
  have hl := h.lo hk
  have hb := h.br hi
  have c1 := (do_2.mp hd).2.2
  rw [e.1, hl.1] at c1
  exact (nI_ltI (by omega) (by omega)).mp c1
theorem ls_nI {S : sS} (h : okY S) {i : Nat} (hi : i < sN S) : ∀ {k : Nat}, k ≤ sB S → lsF (S 3 i) (leS S i) k = nI (lsN S i k)
  | 0, _ => (h.br hi).1
  | k + 1, hk => by
    have e := ls_nI h hi (k := k) (by omega)
    have e2 := lf_nI h hi (k := k + 1) hk
    have hb := h.br hi
    have hls := lsN_le S i k
    rw [lsF, e, show leS S i k = nI (lfN S i (k + 1)) from e2.1, lsN]
    by_cases c : lfN S i (k + 1) < lsN S i k
    · rw [if_pos c, if_pos ((nI_ltI (by omega) (by omega)).mpr c)]
    · rw [if_neg c, if_neg (fun q => c ((nI_ltI (by omega) (by omega)).mp q))]
/-! what is told, in numbers -/
theorem yb_in {S : sS} (h : okY S) {j : Nat} (hj : j < sB S) (a : Int32) : t_beat S (nI j) a = (if a = nI 0 then S 0 j else if a = nI 1 then S 1 j else if a = nI 2 then firstI S j else if a = nI 4 then oI (soloF S j) else pfI S (chR S 0) (chR S 1) (chR S 2) j a) := by
  have hB := h.bnd.1
  rw [t_beat, if_pos (inN_nI hj (by omega)), tk_n (by omega)]
theorem y_ch {S : sS} (h : okY S) {j q : Nat} (hj : j < sB S) (hq : q < 4) : bcI (chR S q j) = nI (cnQ S q j) := by
  rw [bc_ch hj h.bnd.2.1 hq]
  congr 1
  exact cntF_c (fun i _ => by rw [decide_eq_decide]; exact nIq (dosF_lt _ _ _ _) hq)
theorem yb_0 {S : sS} (h : okY S) {j : Nat} (hj : j < sB S) : t_beat S (nI j) (nI 0) = nI (tk (S 0 j)) := by
  rw [yb_in h hj, if_pos rfl]
  exact (h.so hj).1
theorem yb_1 {S : sS} (h : okY S) {j : Nat} (hj : j < sB S) : t_beat S (nI j) (nI 1) = nI (tk (S 1 j)) := by
  rw [yb_in h hj, if_neg (by decide), if_pos rfl]
  exact (h.lo hj).1
theorem yb_2 {S : sS} (h : okY S) {j : Nat} (hj : j < sB S) : t_beat S (nI j) (nI 2) = firstI S j := by
  rw [yb_in h hj, if_neg (by decide), if_neg (by decide), if_pos rfl]
theorem yb_3 {S : sS} (h : okY S) {j : Nat} (hj : j < sB S) : t_beat S (nI j) (nI 3) = nI (cnQ S 0 j) := by
  rw [yb_in h hj, if_neg (by decide), if_neg (by decide), if_neg (by decide), if_neg (by decide), pfI, if_pos rfl]
  exact y_ch h hj (by decide)
theorem yb_4 {S : sS} (h : okY S) {j : Nat} (hj : j < sB S) : t_beat S (nI j) (nI 4) = oI (soloF S j) := by
  rw [yb_in h hj, if_neg (by decide), if_neg (by decide), if_neg (by decide), if_pos rfl]
theorem yb_5 {S : sS} (h : okY S) {j : Nat} (hj : j < sB S) : t_beat S (nI j) (nI 5) = nI (cnQ S 1 j) := by
  rw [yb_in h hj, if_neg (by decide), if_neg (by decide), if_neg (by decide), if_neg (by decide), pfI, if_neg (by decide), if_pos rfl]
  exact y_ch h hj (by decide)
theorem yb_6 {S : sS} (h : okY S) {j : Nat} (hj : j < sB S) : t_beat S (nI j) (nI 6) = nI (cnQ S 2 j) := by
  rw [yb_in h hj, if_neg (by decide), if_neg (by decide), if_neg (by decide), if_neg (by decide), pfI, if_neg (by decide), if_neg (by decide), if_pos rfl]
  exact y_ch h hj (by decide)
theorem yb_7 {S : sS} (h : okY S) {j : Nat} (hj : j < sB S) : t_beat S (nI j) (nI 7) = nI (cnQ S 0 j * tk (S 1 j)) := by
  rw [yb_in h hj, if_neg (by decide), if_neg (by decide), if_neg (by decide), if_neg (by decide), pfI, if_neg (by decide), if_neg (by decide), if_neg (by decide), if_pos rfl]
  exact (congrArg (fun x => x * S 1 j) (y_ch h hj (by decide))).trans ((congrArg (fun x => nI (cnQ S 0 j) * x) (h.lo hj).1).trans (pk_mul _ _))
theorem yb_8 {S : sS} (h : okY S) {j : Nat} (hj : j < sB S) : t_beat S (nI j) (nI 8) = -2 := by
  rw [yb_in h hj, if_neg (by decide), if_neg (by decide), if_neg (by decide), if_neg (by decide), pfI, if_neg (by decide), if_neg (by decide), if_neg (by decide), if_neg (by decide)]
theorem yb_out (S : sS) (a : Int32) : t_beat S (nI (sB S)) a = -1 := by
  rw [t_beat, if_neg (nb (inN_f2 (Int32.le_refl _)))]
theorem yn_in {S : sS} (h : okY S) {i : Nat} (hi : i < sN S) (a : Int32) : t_singer S (nI i) a = (if a = nI 0 then S 3 i else if a = nI 1 then S 4 i else if a = nI 2 then bI (presB S i) else if a = nI 3 then nI (cntF (fun b => markB S i b) (sB S)) else pbI (doS S i) (leS S i) (sB S) (S 3 i) a) := by
  have hN := h.bnd.2.1
  rw [t_singer, if_pos (inN_nI hi (by omega)), tk_n (by omega)]
theorem bI_nat (x : Bool) : bI x = nI x.toNat := by cases x <;> decide
theorem y_dn {S : sS} {i q k : Nat} (hq : q < 4) : cntF (fun j => decide (doS S i j = nI q)) k = dnQ S i q k := cntF_c (fun j _ => by rw [decide_eq_decide]; exact nIq (dosF_lt _ _ _ _) hq)
theorem yn_0 {S : sS} (h : okY S) {i : Nat} (hi : i < sN S) : t_singer S (nI i) (nI 0) = nI (tk (S 3 i)) := by
  rw [yn_in h hi, if_pos rfl]
  exact (h.br hi).1
theorem yn_1 {S : sS} (h : okY S) {i : Nat} (hi : i < sN S) : t_singer S (nI i) (nI 1) = nI (tk (S 4 i)) := by
  rw [yn_in h hi, if_neg (by decide), if_pos rfl]
  exact (h.rc hi).1
theorem yn_2 {S : sS} (h : okY S) {i : Nat} (hi : i < sN S) : t_singer S (nI i) (nI 2) = nI (presB S i).toNat := by
  rw [yn_in h hi, if_neg (by decide), if_neg (by decide), if_pos rfl]
  exact bI_nat _
theorem yn_3 {S : sS} (h : okY S) {i : Nat} (hi : i < sN S) : t_singer S (nI i) (nI 3) = nI (cntF (markB S i) (sB S)) := by
  rw [yn_in h hi, if_neg (by decide), if_neg (by decide), if_neg (by decide), if_pos rfl]
theorem yn_4 {S : sS} (h : okY S) {i : Nat} (hi : i < sN S) : t_singer S (nI i) (nI 4) = nI (dnQ S i 0 (sB S)) := by
  rw [yn_in h hi, if_neg (by decide), if_neg (by decide), if_neg (by decide), if_neg (by decide), pbI, if_pos rfl]
  exact congrArg nI (y_dn (by decide))
theorem yn_5 {S : sS} (h : okY S) {i : Nat} (hi : i < sN S) : t_singer S (nI i) (nI 5) = nI (dnQ S i 2 (sB S)) := by
  rw [yn_in h hi, if_neg (by decide), if_neg (by decide), if_neg (by decide), if_neg (by decide), pbI, if_neg (by decide), if_pos rfl]
  exact congrArg nI (y_dn (by decide))
theorem yn_6 {S : sS} (h : okY S) {i : Nat} (hi : i < sN S) : t_singer S (nI i) (nI 6) = nI (lsN S i (sB S)) := by
  rw [yn_in h hi, if_neg (by decide), if_neg (by decide), if_neg (by decide), if_neg (by decide), pbI, if_neg (by decide), if_neg (by decide), if_pos rfl]
  exact ls_nI h hi (Nat.le_refl _)
theorem yn_7 {S : sS} (h : okY S) {i : Nat} (hi : i < sN S) : t_singer S (nI i) (nI 7) = nI (lgF (doS S i) (sB S)) := by
  rw [yn_in h hi, if_neg (by decide), if_neg (by decide), if_neg (by decide), if_neg (by decide), pbI, if_neg (by decide), if_neg (by decide), if_neg (by decide), if_pos rfl]
theorem yn_8 {S : sS} (h : okY S) {i : Nat} (hi : i < sN S) : t_singer S (nI i) (nI 8) = -2 := by
  rw [yn_in h hi, if_neg (by decide), if_neg (by decide), if_neg (by decide), if_neg (by decide), pbI, if_neg (by decide), if_neg (by decide), if_neg (by decide), if_neg (by decide)]
theorem yn_out (S : sS) (a : Int32) : t_singer S (nI (sN S)) a = -1 := by
  rw [t_singer, if_neg (nb (inN_f2 (Int32.le_refl _)))]
theorem yd {S : sS} (h : okY S) {i j : Nat} (hi : i < sN S) (hj : j < sB S) : t_does S (nI i) (nI j) = nI (dosQ S i j) := by
  have hB := h.bnd
  rw [t_does, if_pos (inN_nI hi (by omega)), if_pos (inN_nI hj (by omega)), tk_n (by omega), tk_n (by omega)]
  rfl
theorem yd_out (S : sS) (a : Int32) : t_does S (nI (sN S)) a = -1 := by
  rw [t_does, if_neg (nb (inN_f2 (Int32.le_refl _)))]
theorem yl {S : sS} (h : okY S) {i j : Nat} (hi : i < sN S) (hj : j < sB S) : t_left S (nI i) (nI j) = nI (lfN S i (j + 1)) := by
  have hB := h.bnd
  rw [t_left, if_pos (inN_nI hi (by omega)), if_pos (inN_nI hj (by omega)), tk_n (by omega), tk_n (by omega)]
  exact (lf_nI h hi (by omega)).1
theorem yl_out {S : sS} (h : okY S) {i : Nat} (hi : i < sN S) : t_left S (nI i) (nI (sB S)) = -1 := by
  have hB := h.bnd
  rw [t_left, if_pos (inN_nI hi (by omega)), if_neg (nb (inN_f2 (Int32.le_refl _)))]
theorem ys_in {S : sS} (h : okY S) {k : Nat} (hk : k < sK S) (a : Int32) : t_solo S (nI k) a = (if a = nI 0 then S 5 k else if a = nI 1 then S 6 k else if a = nI 2 then S 7 k else -2) := by
  have hB := h.bnd
  rw [t_solo, if_pos (inN_nI hk (by omega)), tk_n (by omega)]
theorem ys_0 {S : sS} (h : okY S) {k : Nat} (hk : k < sK S) : t_solo S (nI k) (nI 0) = nI (tk (S 5 k)) := by
  rw [ys_in h hk, if_pos rfl]; exact (h.sl hk).1
theorem ys_1 {S : sS} (h : okY S) {k : Nat} (hk : k < sK S) : t_solo S (nI k) (nI 1) = nI (tk (S 6 k)) := by
  rw [ys_in h hk, if_neg (by decide), if_pos rfl]; exact (h.sl hk).2.2.1
theorem ys_2 {S : sS} (h : okY S) {k : Nat} (hk : k < sK S) : t_solo S (nI k) (nI 2) = nI (tk (S 7 k)) := by
  rw [ys_in h hk, if_neg (by decide), if_neg (by decide), if_pos rfl]; exact (h.sl hk).2.2.2.1
theorem ys_3 {S : sS} (h : okY S) {k : Nat} (hk : k < sK S) : t_solo S (nI k) (nI 3) = -2 := by
  rw [ys_in h hk, if_neg (by decide), if_neg (by decide), if_neg (by decide)]
theorem ys_out (S : sS) (a : Int32) : t_solo S (nI (sK S)) a = -1 := by
  rw [t_solo, if_neg (nb (inN_f2 (Int32.le_refl _)))]
theorem yc_0 {S : sS} {tn P : Nat} : t_count S tn P (nI 0) = nI (sB S) := by
  rw [t_count, if_pos rfl]
theorem yc_1 {S : sS} {tn P : Nat} : t_count S tn P (nI 1) = nI (cntF (restB S) (sB S)) := by
  rw [t_count, if_neg (by decide), if_pos rfl]
theorem yc_2 {S : sS} {tn P : Nat} : t_count S tn P (nI 2) = nI (cntF (fun b => decide (firstI S b = nI b)) (sB S)) := by
  rw [t_count, if_neg (by decide), if_neg (by decide), if_pos rfl]
theorem yc_3 {S : sS} {tn P : Nat} : t_count S tn P (nI 3) = nI (sN S) := by
  rw [t_count, if_neg (by decide), if_neg (by decide), if_neg (by decide), if_pos rfl]
theorem yc_4 {S : sS} (h : okY S) {tn P : Nat} : t_count S tn P (nI 4) = nI (cntF (presB S) (sN S)) := by
  rw [t_count, if_neg (by decide), if_neg (by decide), if_neg (by decide), if_neg (by decide), if_pos rfl]
  exact h.1.np
theorem yc_5 {S : sS} {tn P : Nat} : t_count S tn P (nI 5) = nI (sK S) := by
  rw [t_count, if_neg (by decide), if_neg (by decide), if_neg (by decide), if_neg (by decide), if_neg (by decide), if_pos rfl]
theorem yc_6 {S : sS} (h : okY S) {tn P : Nat} : t_count S tn P (nI 6) = nI (suF (fun i => cntF (markB S i) (sB S)) (sN S)) := by
  rw [t_count, if_neg (by decide), if_neg (by decide), if_neg (by decide), if_neg (by decide), if_neg (by decide), if_neg (by decide), if_pos rfl]
  exact marks_two h.bnd.2.1 h.1.2.2
theorem yc_7 {S : sS} (h : okY S) {tn P : Nat} : t_count S tn P (nI 7) = nI (poG (gF S) (sB S) 0 0) := by
  rw [t_count, if_neg (by decide), if_neg (by decide), if_neg (by decide), if_neg (by decide), if_neg (by decide), if_neg (by decide), if_neg (by decide), if_pos rfl]
  exact csu_4 h.bnd.2.1
theorem yc_8 {S : sS} (h : okY S) {tn P : Nat} : t_count S tn P (nI 8) = nI (cqG (gF S) 0 (sB S) 0 0) := by
  rw [t_count, if_neg (by decide), if_neg (by decide), if_neg (by decide), if_neg (by decide), if_neg (by decide), if_neg (by decide), if_neg (by decide), if_neg (by decide), if_pos rfl]
  exact csu_1 h.bnd.2.1 (by decide)
theorem yc_9 {S : sS} (h : okY S) {tn P : Nat} : t_count S tn P (nI 9) = nI (cqG (gF S) 1 (sB S) 0 0) := by
  rw [t_count, if_neg (by decide), if_neg (by decide), if_neg (by decide), if_neg (by decide), if_neg (by decide), if_neg (by decide), if_neg (by decide), if_neg (by decide), if_neg (by decide), if_pos rfl]
  exact csu_1 h.bnd.2.1 (by decide)
theorem yc_10 {S : sS} (h : okY S) {tn P : Nat} : t_count S tn P (nI 10) = nI (cqG (gF S) 2 (sB S) 0 0) := by
  rw [t_count, if_neg (by decide), if_neg (by decide), if_neg (by decide), if_neg (by decide), if_neg (by decide), if_neg (by decide), if_neg (by decide), if_neg (by decide), if_neg (by decide), if_neg (by decide), if_pos rfl]
  exact csu_1 h.bnd.2.1 (by decide)
theorem yc_11 {S : sS} (h : okY S) {tn P : Nat} : t_count S tn P (nI 11) = nI (cqG (gF S) 3 (sB S) 0 0) := by
  rw [t_count, if_neg (by decide), if_neg (by decide), if_neg (by decide), if_neg (by decide), if_neg (by decide), if_neg (by decide), if_neg (by decide), if_neg (by decide), if_neg (by decide), if_neg (by decide), if_neg (by decide), if_pos rfl]
  exact csu_1 h.bnd.2.1 (by decide)
theorem yc_12 {S : sS} {tn P : Nat} : t_count S tn P (nI 12) = nI (sR S) := by
  rw [t_count, if_neg (by decide), if_neg (by decide), if_neg (by decide), if_neg (by decide), if_neg (by decide), if_neg (by decide), if_neg (by decide), if_neg (by decide), if_neg (by decide), if_neg (by decide), if_neg (by decide), if_neg (by decide), if_pos rfl]
theorem yc_13 {S : sS} {tn P : Nat} : t_count S tn P (nI 13) = nI (lonF S (sB S)) := by
  rw [t_count, if_neg (by decide), if_neg (by decide), if_neg (by decide), if_neg (by decide), if_neg (by decide), if_neg (by decide), if_neg (by decide), if_neg (by decide), if_neg (by decide), if_neg (by decide), if_neg (by decide), if_neg (by decide), if_neg (by decide), if_pos rfl]
theorem yc_16 (S : sS) (tn P : Nat) : t_count S tn P (nI 16) = -2 := by
  rw [t_count, if_neg (by decide), if_neg (by decide), if_neg (by decide), if_neg (by decide), if_neg (by decide), if_neg (by decide), if_neg (by decide), if_neg (by decide), if_neg (by decide), if_neg (by decide), if_neg (by decide), if_neg (by decide), if_neg (by decide), if_neg (by decide), if_neg (by decide), if_neg (by decide)]
theorem yc_8q {S : sS} (h : okY S) {tn P q : Nat} (hq : q < 4) : t_count S tn P (nI (8 + q)) = nI (cqG (gF S) q (sB S) 0 0) := by
  rcases (show q = 0 ∨ q = 1 ∨ q = 2 ∨ q = 3 by omega) with rfl | rfl | rfl | rfl
  · exact yc_8 h
  · exact yc_9 h
  · exact yc_10 h
  · exact yc_11 h
theorem cq_b (S : sS) (q0 b q i : Nat) (hb : b ≤ 96) (hi : i ≤ 12) : cqG (gF S) q0 b q i ≤ 1164 := by
  have h1 := suF_le (g := fun b => cnG (gF S) b q0) (c := 12) (fun b => cntF_le _ 12) b
  have h2 : cnG (gF S) b q0 ≤ 12 := cntF_le _ 12
  have h3 := cntF_le (gF S b q) i
  unfold cqG
  split
  · omega
  · split <;> omega
theorem cq_le (S : sS) (q0 : Nat) (hB : sB S ≤ 96) : cqG (gF S) q0 (sB S) 0 0 ≤ 1164 := cq_b S q0 (sB S) 0 0 hB (by omega)
theorem mk_le {S : sS} (h : okY S) : suF (fun i => cntF (markB S i) (sB S)) (sN S) ≤ 1152 := by
  have h1 := suF_le (g := fun i => cntF (markB S i) (sB S)) (c := 96) (fun i => Nat.le_trans (cntF_le _ _) h.bnd.1) (sN S)
  have := h.bnd
  omega
