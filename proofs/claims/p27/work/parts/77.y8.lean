/-! the acts of the law that are done -/
theorem a_add {S : sS} (h : okY S) {x y : Nat} (hx : 4 ≤ x ∧ x ≤ 40) (hy : 1 ≤ y ∧ y ≤ 10) (hN : sN S < 12) : ∃ S2, o_addSinger S (nI x) (nI y) = (nI (sN S), some S2) ∧ okY S2 ∧ sB S2 = sB S ∧ sN S2 = sN S + 1 := by
  have eN := addS_n S (nI x) (nI y) hN
  refine ⟨addS S (nI x) (nI y), ?_, ⟨h.1.newS hN, h.2.1, h.2.2.1, fun i hi => ?_, fun i hi => ?_, h.2.2.2.2.2.1, h.2.2.2.2.2.2⟩, rfl, eN⟩
  · rw [o_addSinger, inB_n (by omega) (by decide) (by decide), inB_n (by omega) (by decide) (by decide), decide_eq_true hx.1, decide_eq_true hx.2, decide_eq_true hy.1, decide_eq_true hy.2, if_pos (show (true && true) = true from rfl), if_pos (show (true && true) = true from rfl), if_pos hN]
  · show upd (S 3) (sN S) (nI x) i = nI (tk (upd (S 3) (sN S) (nI x) i)) ∧ 4 ≤ tk (upd (S 3) (sN S) (nI x) i) ∧ tk (upd (S 3) (sN S) (nI x) i) ≤ 40
    by_cases c : i = sN S
    · rw [c, upd_s, tk_n (by omega)]; exact ⟨rfl, hx.1, hx.2⟩
    · rw [upd_n c]; exact h.br (by omega)
  · show upd (S 4) (sN S) (nI y) i = nI (tk (upd (S 4) (sN S) (nI y) i)) ∧ 1 ≤ tk (upd (S 4) (sN S) (nI y) i) ∧ tk (upd (S 4) (sN S) (nI y) i) ≤ 10
    by_cases c : i = sN S
    · rw [c, upd_s, tk_n (by omega)]; exact ⟨rfl, hy.1, hy.2⟩
    · rw [upd_n c]; exact h.rc (by omega)
theorem a_lou {S : sS} (h : okY S) {j q v : Nat} (h2 : j + q < sB S) (hv : 1 ≤ v ∧ v ≤ 5) : ∃ S2, o_setLoudness S (nI j) (nI (j + q)) (nI v) = (nI (sndN S j (q + 1)), some S2) ∧ okY S2 ∧ sB S2 = sB S ∧ sN S2 = sN S ∧ tk (S2 1 (j + q)) = v := by
  have hB := h.bnd
  refine ⟨louS S j (j + q + 1) (nI v), ?_, ⟨h.1.setLoud, h.2.1, fun b hb => ?_, h.2.2.2.1, h.2.2.2.2.1, h.2.2.2.2.2.1, h.2.2.2.2.2.2⟩, rfl, rfl, ?_⟩
  · rw [o_setLoudness, if_pos (inN_nI (by omega) (by omega)), if_pos (inN_nI h2 (by omega)), tk_n (by omega), tk_n (by omega), if_pos (Nat.le_add_right j q), inB_n (by omega) (by decide) (by decide), decide_eq_true hv.1, decide_eq_true hv.2, if_pos (show (true && true) = true from rfl), show j + q + 1 - j = q + 1 by omega]
  · show filF (S 1) j (j + q + 1) (nI v) b = nI (tk (filF (S 1) j (j + q + 1) (nI v) b)) ∧ 1 ≤ tk (filF (S 1) j (j + q + 1) (nI v) b) ∧ tk (filF (S 1) j (j + q + 1) (nI v) b) ≤ 5
    by_cases c : j ≤ b ∧ b < j + q + 1
    · rw [filF, if_pos c, tk_n (by omega)]; exact ⟨rfl, hv.1, hv.2⟩
    · rw [filF, if_neg c]; exact h.lo hb
  · show tk (filF (S 1) j (j + q + 1) (nI v) (j + q)) = v
    rw [filF, if_pos ⟨by omega, by omega⟩, tk_n (by omega)]
theorem a_prs {S : sS} (h : okY S) {i : Nat} {a2 : Bool} (hi : i < sN S) (hp : presB S i ≠ a2) : ∃ S2, o_setPresent S (nI i) a2 = (nI (cntF (presB S2) (sN S2)), some S2) ∧ okY S2 ∧ sB S2 = sB S ∧ sN S2 = sN S := ⟨prsS S i, sp_yes h hi hp, h.prs hi, rfl, rfl⟩
theorem do_mt {S : sS} {i j : Nat} (h : markB S i j = true) (h3 : dosQ S i j ≠ 3) : dosQ S i j = 1 := do_1.mpr ⟨by
  cases e : toSing S i j
  · exact absurd (do_3.mpr e) h3
  · rfl, h⟩
theorem do_mf {S : sS} {i j : Nat} (h : markB S i j = false) : ¬ dosQ S i j = 1 := fun q => by
  have := (do_1.mp q).2
  rw [h] at this
  cases this
theorem sn_t {S : sS} (h : okY S) {a n : Nat} (hn : a + n < sB S) (c : tk (S 0 (a + n)) = 0) : sndN S a n + 0 = sndN S a (n + 1) := (sndN_t (by rw [h.rest hn]; exact decide_eq_true c)).symm
theorem sn_f {S : sS} (h : okY S) {a n : Nat} (hn : a + n < sB S) (c : 0 < tk (S 0 (a + n))) : sndN S a n + 1 = sndN S a (n + 1) := (sndN_f (re_n h hn c)).symm
theorem a_sort {S : sS} (h : okY S) {j v : Nat} (hj : j < sB S) (hv : v ≤ 2) : ∃ S2, o_setSort S (nI j) (nI v) = (nI (tk (S 0 j)), some S2) ∧ okY S2 ∧ sB S2 = sB S ∧ sN S2 = sN S ∧ tk (S2 0 j) = v := by
  have hB := h.bnd
  refine ⟨sRow S 0 (upd (S 0) j (nI v)), ?_, ⟨h.1.setSort, fun b hb => ?_, h.2.2.1, h.2.2.2.1, h.2.2.2.2.1, h.2.2.2.2.2.1, h.2.2.2.2.2.2⟩, rfl, rfl, ?_⟩
  · rw [o_setSort, if_pos (inN_nI hj (by omega)), tk_n (by omega), inB_n (by omega) (by decide) (by decide), decide_eq_true (Nat.zero_le v), decide_eq_true hv, if_pos (show (true && true) = true from rfl)]
    exact congrArg (fun x => (x, some (sRow S 0 (upd (S 0) j (nI v))))) (h.so hj).1
  · show upd (S 0) j (nI v) b = nI (tk (upd (S 0) j (nI v) b)) ∧ tk (upd (S 0) j (nI v) b) ≤ 2
    by_cases c : b = j
    · rw [c, upd_s, tk_n (by omega)]; exact ⟨rfl, hv⟩
    · rw [upd_n c]; exact h.so hb
  · show tk (upd (S 0) j (nI v) j) = v
    rw [upd_s, tk_n (by omega)]
theorem a_res {S : sS} (h : okY S) {v : Nat} (hv : 1 ≤ v ∧ v ≤ 8) : ∃ S2, o_setReserve S (nI v) = (nI (sR S), some S2) ∧ okY S2 ∧ sB S2 = sB S ∧ sN S2 = sN S := by
  refine ⟨sPut S 8 4 (nI v), ?_, ⟨h.1.setRes hv.2, h.2.1, h.2.2.1, h.2.2.2.1, h.2.2.2.2.1, h.2.2.2.2.2.1, h.2.2.2.2.2.2⟩, rfl, rfl⟩
  rw [o_setReserve, inB_n (by omega) (by decide) (by decide), decide_eq_true hv.1, decide_eq_true hv.2, if_pos (show (true && true) = true from rfl), tk_n (by omega)]
theorem a_mk {S : sS} (h : okY S) {i j : Nat} {a : Bool} (hi : i < sN S) (hj : j < sB S) (hm : markB S i j ≠ a) : ∃ S2, o_mark S (nI i) (nI j) a = (nI (cntF (markB S2 i) (sB S2)), some S2) ∧ okY S2 ∧ sB S2 = sB S ∧ sN S2 = sN S ∧ (a = true → cntF (markB S2 i) (sB S2) = cntF (markB S i) (sB S) + 1) ∧ (a = false → cntF (markB S2 i) (sB S2) + 1 = cntF (markB S i) (sB S)) := by
  have hB := h.bnd
  have e : ∀ b, markB (mrkS S i j) i b = (markB S i b ^^ decide (j = b)) := fun b => by
    rw [mrkS_m (by omega) (by omega), decide_eq_true rfl, Bool.true_and]
  have key : ∀ n, n ≤ j → cntF (markB (mrkS S i j) i) n = cntF (markB S i) n := fun n hn => cntF_c (fun b hb => by rw [e, decide_eq_false (by omega), Bool.xor_false])
  have key2 : ∀ d, j + 1 + d ≤ sB S → (a = true → cntF (markB (mrkS S i j) i) (j + 1 + d) = cntF (markB S i) (j + 1 + d) + 1) ∧ (a = false → cntF (markB (mrkS S i j) i) (j + 1 + d) + 1 = cntF (markB S i) (j + 1 + d)) := by
    intro d
    induction d with
    | zero =>
      intro _
      refine ⟨fun q => ?_, fun q => ?_⟩
      · have hf : markB S i j = false := by rw [q] at hm; simpa using hm
        rw [Nat.add_zero, cntF_t (p := markB (mrkS S i j) i) (by rw [e, hf, decide_eq_true rfl]; rfl), cntF_f hf, key j (Nat.le_refl j)]
      · have ht : markB S i j = true := by rw [q] at hm; simpa using hm
        rw [Nat.add_zero, cntF_f (p := markB (mrkS S i j) i) (by rw [e, ht, decide_eq_true rfl]; rfl), cntF_t ht, key j (Nat.le_refl j)]
    | succ d ih =>
      intro hd
      have hm2 : markB (mrkS S i j) i (j + 1 + d) = markB S i (j + 1 + d) := by rw [e, decide_eq_false (by omega), Bool.xor_false]
      have e1 : cntF (markB (mrkS S i j) i) (j + 1 + (d + 1)) = cntF (markB (mrkS S i j) i) (j + 1 + d) + (if markB S i (j + 1 + d) = true then 1 else 0) := by rw [← hm2]; rfl
      have e2 : cntF (markB S i) (j + 1 + (d + 1)) = cntF (markB S i) (j + 1 + d) + (if markB S i (j + 1 + d) = true then 1 else 0) := rfl
      have ih2 := ih (by omega)
      refine ⟨fun q => ?_, fun q => ?_⟩
      · have := ih2.1 q; rw [e1, e2]; omega
      · have := ih2.2 q; rw [e1, e2]; omega
  have key3 := key2 (sB S - (j + 1)) (by omega)
  rw [show j + 1 + (sB S - (j + 1)) = sB S by omega] at key3
  refine ⟨mrkS S i j, ?_, ⟨h.1.setMark hi hj, h.2.1, h.2.2.1, h.2.2.2.1, h.2.2.2.2.1, h.2.2.2.2.2.1, h.2.2.2.2.2.2⟩, rfl, rfl, key3.1, key3.2⟩
  rw [o_mark, if_pos (inN_nI hi (by omega)), if_pos (inN_nI hj (by omega)), tk_n (by omega), tk_n (by omega), if_pos hm]
theorem a_mn {S : sS} (h : okY S) {i j : Nat} {a : Bool} (hi : i < sN S) (hj : j < sB S) (hm : markB S i j = a) : o_mark S (nI i) (nI j) a = (-5, none) := by
  have hB := h.bnd
  rw [o_mark, if_pos (inN_nI hi (by omega)), if_pos (inN_nI hj (by omega)), tk_n (by omega), tk_n (by omega), if_neg (fun q => q hm)]
/-! solos put in and taken out -/
theorem a_rem {S : sS} (h : okY S) {k : Nat} (hk : k < sK S) : ∃ S2, o_removeSolo S (nI k) = (nI (sK S - 1), some S2) ∧ okY S2 ∧ sB S2 = sB S ∧ sN S2 = sN S := by
  have hB := h.bnd
  have e3 := drpS_K (S := S) (k0 := k) hB.2.2.1
  have eo : ∀ j, j ≠ 3 → drpS S k 8 j = S 8 j := fun j hj => by
    show sPut (drpF S k (sK S - 1 - k)) 8 3 (nI (sK S - 1)) 8 j = _
    rw [sPut_k hj, drpF_8]
  have er : ∀ r, r < 5 → drpS S k r = S r := fun r hr => by
    show sPut (drpF S k (sK S - 1 - k)) 8 3 (nI (sK S - 1)) r = _
    rw [sPut_n (by omega), drpF_o (Or.inl hr)]
  have es : ∀ r, 5 ≤ r → r < 8 → ∀ j, drpS S k r j = if k ≤ j ∧ j < k + (sK S - 1 - k) then S r (j + 1) else S r j := fun r h1 h2 j => by
    show sPut (drpF S k (sK S - 1 - k)) 8 3 (nI (sK S - 1)) r j = _
    rw [sPut_n (by omega)]
    exact drpF_r ⟨h1, h2⟩ _ _
  have eB : sB (drpS S k) = sB S := by show (drpS S k 8 0).toNatClampNeg = _; rw [eo 0 (by decide)]
  have eN : sN (drpS S k) = sN S := by show (drpS S k 8 1).toNatClampNeg = _; rw [eo 1 (by decide)]
  refine ⟨drpS S k, ?_, ⟨h.1.drp, ?_, ?_, ?_, ?_, ?_, ?_⟩, eB, eN⟩
  · rw [o_removeSolo, if_pos (inN_nI hk (by omega)), tk_n (by omega), e3]
  · rw [eB, er 0 (by decide)]; exact h.2.1
  · rw [eB, er 1 (by decide)]; exact h.2.2.1
  · rw [eN, er 3 (by decide)]; exact h.2.2.2.1
  · rw [eN, er 4 (by decide)]; exact h.2.2.2.2.1
  · intro j hj
    rw [es 5 (by decide) (by decide), es 6 (by decide) (by decide), es 7 (by decide) (by decide)]
    by_cases c : k ≤ j ∧ j < k + (sK S - 1 - k)
    · rw [if_pos c, if_pos c, if_pos c]; exact h.sl (by omega)
    · rw [if_neg c, if_neg c, if_neg c]; exact h.sl (by omega)
  · intro j hj
    rw [es 7 (by decide) (by decide), es 6 (by decide) (by decide)]
    by_cases c : k ≤ j ∧ j < k + (sK S - 1 - k)
    · rw [if_pos c, if_pos ⟨by omega, by omega⟩]; exact h.sn (by omega)
    · rw [if_neg c]
      by_cases c2 : k ≤ j + 1 ∧ j + 1 < k + (sK S - 1 - k)
      · rw [if_pos c2]
        have h1 := h.sn (k := j) (by omega)
        have h2 := h.sn (k := j + 1) (by omega)
        have h3 := h.sl (k := j + 1) (by omega)
        omega
      · rw [if_neg c2]; exact h.sn (by omega)
theorem ins_lo {S : sS} (h : okY S) {fr : Nat} (hf : fr < 96) : ∀ {n : Nat}, n ≤ sK S → (∀ k, k < n → insP S fr n ≤ k → fr < tk (S 6 k)) ∧ (0 < insP S fr n → tk (S 6 (insP S fr n - 1)) ≤ fr)
  | 0, _ => ⟨fun k hk => absurd hk (Nat.not_lt_zero k), fun q => absurd q (Nat.lt_irrefl 0)⟩
  | n + 1, hn => by
    have hs := h.sl (k := n) (by omega)
    rw [insP]
    by_cases c : nI fr < S 6 n
    · rw [if_pos c]
      have ih := ins_lo h hf (n := n) (by omega)
      rw [hs.2.2.1] at c
      have c2 := (nI_ltI (by omega) (by omega)).mp c
      refine ⟨fun k hk hp => ?_, ih.2⟩
      by_cases c3 : k = n
      · rw [c3]; exact c2
      · exact ih.1 k (by omega) hp
    · rw [if_neg c]
      rw [hs.2.2.1] at c
      have c2 := Nat.not_lt.mp (fun q => c ((nI_ltI (by omega) (by omega)).mpr q))
      exact ⟨fun k hk hp => absurd hk (by omega), fun _ => by rw [Nat.add_sub_cancel]; exact c2⟩
theorem ov_N {S : sS} (h : okY S) {fr to k : Nat} (hf : fr < 96) (ht : to < 96) (hk : k < sK S) : ovl S fr to k = (decide (tk (S 6 k) ≤ to) && decide (fr ≤ tk (S 7 k))) := by
  have h1 := h.sl hk
  rw [ovl, h1.2.2.1, h1.2.2.2.1, tk_n (by omega), tk_n (by omega)]
  congr 1
  · rw [decide_eq_decide]; exact nI_leI (by omega) (by omega)
  · rw [decide_eq_decide]; exact nI_leI (by omega) (by omega)
theorem a_ins {S : sS} (h : okY S) {i fr to : Nat} (hi : i < sN S) (h1 : fr ≤ to) (h2 : to < sB S) (ho : ovF S fr to = false) (hK : sK S < 8) : ∃ (S2 : sS) (p : Nat), o_addSolo S (nI i) (nI fr) (nI to) = (nI p, some S2) ∧ okY S2 ∧ sB S2 = sB S ∧ sN S2 = sN S ∧ sK S2 = sK S + 1 ∧ p ≤ sK S ∧ soloF S2 fr = some p := by
  have hB := h.bnd
  obtain ⟨p, hp⟩ : ∃ p, p = insP S fr (sK S) := ⟨_, rfl⟩
  have hple : p ≤ sK S := by rw [hp]; exact insP_le S fr (sK S)
  have hlo := ins_lo h (fr := fr) (by omega) (n := sK S) (Nat.le_refl _)
  rw [← hp] at hlo
  have hno : ∀ k, k < sK S → ¬ (tk (S 6 k) ≤ to ∧ fr ≤ tk (S 7 k)) := fun k hk q => by
    rw [ovF] at ho
    cases e : firstK (ovl S fr to) (sK S) 0 with
    | some r => rw [e] at ho; cases ho
    | none =>
      have := fK_none e k (Nat.zero_le k) (by omega)
      rw [ov_N h (by omega) (by omega) hk, decide_eq_true q.1, decide_eq_true q.2] at this
      cases this
  have hbe : 0 < p → tk (S 7 (p - 1)) < fr := fun q => by
    have a1 := hlo.2 q
    have a2 := hno (p - 1) (by omega)
    omega
  have haf : p < sK S → to < tk (S 6 p) := fun q => by
    have a1 := hlo.1 p q (Nat.le_refl p)
    have a2 := hno p q
    have a3 := h.sl q
    omega
  obtain ⟨S2, hS2⟩ : ∃ S2, S2 = insS S i fr to := ⟨_, rfl⟩
  have e5 : ∀ k, S2 5 k = if k = p then nI i else if p < k ∧ k ≤ sK S then S 5 (k - 1) else S 5 k := fun k => by rw [hS2, hp]; rfl
  have e6 : ∀ k, S2 6 k = if k = p then nI fr else if p < k ∧ k ≤ sK S then S 6 (k - 1) else S 6 k := fun k => by rw [hS2, hp]; rfl
  have e7 : ∀ k, S2 7 k = if k = p then nI to else if p < k ∧ k ≤ sK S then S 7 (k - 1) else S 7 k := fun k => by rw [hS2, hp]; rfl
  have eK : sK S2 = sK S + 1 := by
    rw [hS2]
    show (sPut _ 8 3 (nI (sK S + 1)) 8 3).toNatClampNeg = _
    rw [sPut_s]; exact nI_clamp (by omega)
  have eB : sB S2 = sB S := by rw [hS2]; rfl
  have eN : sN S2 = sN S := by rw [hS2]; rfl
  have f0 : S2 0 = S 0 := by rw [hS2]; rfl
  have f1 : S2 1 = S 1 := by rw [hS2]; rfl
  have f3 : S2 3 = S 3 := by rw [hS2]; rfl
  have f4 : S2 4 = S 4 := by rw [hS2]; rfl
  have hX : okX S2 := by rw [hS2]; exact h.1.ins hK
  have hsl : ∀ k, k < sK S2 → S2 5 k = nI (tk (S2 5 k)) ∧ tk (S2 5 k) < 12 ∧ S2 6 k = nI (tk (S2 6 k)) ∧ S2 7 k = nI (tk (S2 7 k)) ∧ tk (S2 6 k) ≤ tk (S2 7 k) ∧ tk (S2 7 k) < 96 := fun k hk => by
    rw [e5, e6, e7]
    by_cases c : k = p
    · rw [if_pos c, if_pos c, if_pos c, tk_n (by omega), tk_n (by omega), tk_n (by omega)]
      exact ⟨rfl, by omega, rfl, rfl, h1, by omega⟩
    · rw [if_neg c, if_neg c, if_neg c]
      by_cases c2 : p < k ∧ k ≤ sK S
      · rw [if_pos c2, if_pos c2, if_pos c2]; exact h.sl (by omega)
      · rw [if_neg c2, if_neg c2, if_neg c2]; exact h.sl (by omega)
  have hY2 : okY S2 := ⟨hX, by rw [eB, f0]; exact h.2.1, by rw [eB, f1]; exact h.2.2.1, by rw [eN, f3]; exact h.2.2.2.1, by rw [eN, f4]; exact h.2.2.2.2.1, hsl, fun k hk => by
    rw [e7, e6]
    by_cases c : k = p
    · rw [if_pos c, if_neg (by omega), if_pos ⟨by omega, by omega⟩, tk_n (by omega), Nat.add_sub_cancel, c]
      exact haf (by omega)
    · rw [if_neg c]
      by_cases c2 : k + 1 = p
      · rw [if_neg (by omega), if_pos c2, tk_n (by omega)]
        have := hbe (by omega)
        rw [← c2, Nat.add_sub_cancel] at this
        exact this
      · rw [if_neg c2]
        by_cases c3 : p < k ∧ k ≤ sK S
        · rw [if_pos c3, if_pos ⟨by omega, by omega⟩]
          have h9 := h.sn (k := k - 1) (by omega)
          rw [show k - 1 + 1 = k by omega] at h9
          rw [Nat.add_sub_cancel]
          exact h9
        · rw [if_neg c3, if_neg (by omega)]
          exact h.sn (by omega)⟩
  refine ⟨S2, p, ?_, hY2, eB, eN, eK, hple, ?_⟩
  · rw [o_addSolo, if_pos (inN_nI hi (by omega)), if_pos (inN_nI (by omega) (by omega)), if_pos (inN_nI h2 (by omega)), tk_n (by omega), tk_n (by omega), tk_n (by omega), if_pos h1, if_neg (nb ho), if_pos hK, ← hp, ← hS2]
  · have hc : covN S2 fr p = true := by
      rw [covN, e6, e7, if_pos rfl, if_pos rfl, tk_n (by omega), tk_n (by omega), decide_eq_true (Nat.le_refl fr), decide_eq_true h1]; rfl
    have hpK : p < sK S2 := by omega
    cases e : soloF S2 fr with
    | none =>
      have := fK_none e p (Nat.zero_le p) (by omega)
      rw [cov_N hY2 (by omega) hpK, hc] at this
      cases this
    | some r =>
      have hr := fK_lt e
      have hrK : r < sK S2 := soloF_lt e
      have hrc := hr.2.2
      rw [cov_N hY2 (by omega) hrK] at hrc
      rw [cov_u hY2 hrK hpK hrc hc]
theorem a_i4 {S : sS} (h : okY S) {i fr to : Nat} (hi : i < sN S) (h1 : fr ≤ to) (h2 : to < sB S) (ho : ovF S fr to = true) : o_addSolo S (nI i) (nI fr) (nI to) = (-4, none) := by
  have hB := h.bnd
  rw [o_addSolo, if_pos (inN_nI hi (by omega)), if_pos (inN_nI (by omega) (by omega)), if_pos (inN_nI h2 (by omega)), tk_n (by omega), tk_n (by omega), tk_n (by omega), if_pos h1, if_pos ho]
theorem a_i3 {S : sS} (h : okY S) {i fr to : Nat} (hi : i < sN S) (h1 : fr ≤ to) (h2 : to < sB S) (ho : ovF S fr to = false) (hK : ¬ sK S < 8) : o_addSolo S (nI i) (nI fr) (nI to) = (-3, none) := by
  have hB := h.bnd
  rw [o_addSolo, if_pos (inN_nI hi (by omega)), if_pos (inN_nI (by omega) (by omega)), if_pos (inN_nI h2 (by omega)), tk_n (by omega), tk_n (by omega), tk_n (by omega), if_pos h1, if_neg (nb ho), if_neg hK]
/-- whether a solo is in one of d beats from b -/
def ovD (S : sS) (b : Nat) : Nat → Bool
  | 0 => false
  | d + 1 => ovD S b d || (soloF S (b + d)).isSome
theorem ovD_1 {S : sS} {b d : Nat} (h : ovD S b d = true) : ovD S b (d + 1) = true := by rw [ovD, h]; rfl
theorem ovD_n {S : sS} {b d : Nat} (h : ovD S b d = false) (e : soloF S (b + d) = none) : ovD S b (d + 1) = false := by rw [ovD, h, e]; rfl
theorem ovD_s {S : sS} {b d k : Nat} (e : soloF S (b + d) = some k) : ovD S b (d + 1) = true := by rw [ovD, e]; simp
theorem ovD_ex {S : sS} {b : Nat} : ∀ {d : Nat}, ovD S b d = true ↔ ∃ x, x < d ∧ (soloF S (b + x)).isSome = true
  | 0 => ⟨fun h => (by cases h), fun ⟨x, h, _⟩ => absurd h (Nat.not_lt_zero x)⟩
  | d + 1 => by
    rw [ovD, Bool.or_eq_true, ovD_ex (d := d)]
    constructor
    · rintro (⟨x, h1, h2⟩ | h)
      · exact ⟨x, by omega, h2⟩
      · exact ⟨d, by omega, h⟩
    · rintro ⟨x, h1, h2⟩
      by_cases c : x = d
      · rw [← c]; exact Or.inr h2
      · exact Or.inl ⟨x, by omega, h2⟩
theorem ov_D {S : sS} (h : okY S) {fr q : Nat} (hq : fr + q < 96) : ovD S fr (q + 1) = ovF S fr (fr + q) := by
  have hB := h.bnd
  cases e : ovF S fr (fr + q) with
  | true =>
    rw [ovF] at e
    cases e2 : firstK (ovl S fr (fr + q)) (sK S) 0 with
    | none => rw [e2] at e; cases e
    | some k =>
      have h1 := fK_lt e2
      have hk : k < sK S := by omega
      have h2 := h1.2.2
      rw [ov_N h (by omega) (by omega) hk, Bool.and_eq_true, decide_eq_true_eq, decide_eq_true_eq] at h2
      have h3 := h.sl hk
      refine ovD_ex.mpr ⟨max fr (tk (S 6 k)) - fr, by omega, ?_⟩
      have hc : covN S (fr + (max fr (tk (S 6 k)) - fr)) k = true := by
        rw [covN, decide_eq_true (show tk (S 6 k) ≤ fr + (max fr (tk (S 6 k)) - fr) by omega), decide_eq_true (show fr + (max fr (tk (S 6 k)) - fr) ≤ tk (S 7 k) by omega)]; rfl
      cases e4 : soloF S (fr + (max fr (tk (S 6 k)) - fr)) with
      | some r => rfl
      | none =>
        have := fK_none e4 k (Nat.zero_le k) (by omega)
        rw [cov_N h (by omega) hk, hc] at this
        cases this
  | false =>
    cases e5 : ovD S fr (q + 1) with
    | false => rfl
    | true =>
      obtain ⟨x, hx, hs⟩ := ovD_ex.mp e5
      cases e4 : soloF S (fr + x) with
      | none => rw [e4] at hs; cases hs
      | some k =>
        have h1 := fK_lt e4
        have hk : k < sK S := soloF_lt e4
        have hc := h1.2.2
        rw [cov_N h (by omega) hk, covN, Bool.and_eq_true, decide_eq_true_eq, decide_eq_true_eq] at hc
        rw [ovF] at e
        cases e2 : firstK (ovl S fr (fr + q)) (sK S) 0 with
        | some r => rw [e2] at e; cases e
        | none =>
          have := fK_none e2 k (Nat.zero_le k) (by omega)
          rw [ov_N h (by omega) (by omega) hk, decide_eq_true (show tk (S 6 k) ≤ fr + q by omega), decide_eq_true (show fr ≤ tk (S 7 k) by omega)] at this
          cases this
/-- the object at each step of the law -/
def LwJ (σ : gS) (o b z : Nat) : Prop := ∃ (S : sS) (tf : Nat → Int32) (tn P : Nat) (C : Nat → sS) (kp : Nat → Bool), Wo σ o b S tf tn P C kp z ∧ okY S ∧ 0 < sB S ∧ 0 < sN S ∧ okC P C kp
theorem okY.new : okY s0S := ⟨okX.new, fun b hb => absurd hb (by rw [show sB s0S = 0 from by decide]; exact Nat.not_lt_zero b), fun b hb => absurd hb (by rw [show sB s0S = 0 from by decide]; exact Nat.not_lt_zero b), fun b hb => absurd hb (by rw [show sN s0S = 0 from by decide]; exact Nat.not_lt_zero b), fun b hb => absurd hb (by rw [show sN s0S = 0 from by decide]; exact Nat.not_lt_zero b), fun b hb => absurd hb (by rw [show sK s0S = 0 from by decide]; exact Nat.not_lt_zero b), fun b hb => absurd hb (by rw [show sK s0S = 0 from by decide]; exact Nat.not_lt_zero _)⟩
