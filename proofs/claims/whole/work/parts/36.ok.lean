/-! what every state keeps -/
def okX (S : sS) : Prop := okS S ∧ smB (S 8 2) (sN S) ∧ ∀ b : Nat, b < sB S → smB (S 2 b) (sN S)
theorem okX.setSort {S : sS} {g : Nat → Int32} (h : okX S) : okX (sRow S 0 g) := ⟨h.1, h.2.1, h.2.2⟩
theorem okX.setLoud {S : sS} {a k : Nat} {v : Int32} (h : okX S) : okX (louS S a k v) := ⟨h.1, h.2.1, h.2.2⟩
theorem okX.setPres {S : sS} {i : Nat} (h : okX S) (hi : i < sN S) : okX (prsS S i) := ⟨h.1, smB_xor (n := sN S) h.2.1 hi (by have := h.1.2.1; omega), h.2.2⟩
theorem okX.setMark {S : sS} {i b : Nat} (h : okX S) (hi : i < sN S) (hb : b < sB S) : okX (mrkS S i b) := ⟨h.1, h.2.1, fun b2 hb2 => by
  have hN := h.1.2.1
  have e : mrkS S i b 2 = upd (S 2) b (S 2 b ^^^ bitI i) := rfl
  show smB (mrkS S i b 2 b2) (sN S)
  rw [e]
  by_cases c : b2 = b
  · subst c; rw [upd_s]; exact smB_xor (h.2.2 b2 hb) hi (by omega)
  · rw [upd_n c]; exact h.2.2 b2 hb2⟩
theorem okX.plan {S : sS} {np : Nat} (h : okX S) : okX (planS S np) := ⟨h.1, h.2.1, fun b hb => by
  show smB (sRow S 2 (plF S np (sB S)).1 2 b) (sN S)
  rw [sRow_s]; exact plF_sm h.1.2.1 _ b⟩
