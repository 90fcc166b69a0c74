/-! printed by wip/whole/blocks.py -/
/-! what lies at an object's address and behind it -/
abbrev sS : Type := Nat → Nat → Int32
def sRow (S : sS) (j : Nat) (f : Nat → Int32) : sS := fun i => if i = j then f else S i
def sPut (S : sS) (j k : Nat) (v : Int32) : sS := sRow S j (upd (S j) k v)
abbrev tN (S : sS) (i : Nat) : Nat := (S 0 i).toNatClampNeg
abbrev sB (S : sS) : Nat := (S 8 0).toNatClampNeg
abbrev sN (S : sS) : Nat := (S 8 1).toNatClampNeg
abbrev sK (S : sS) : Nat := (S 8 3).toNatClampNeg
abbrev sR (S : sS) : Nat := (S 8 4).toNatClampNeg
theorem sRow_s (S : sS) (j : Nat) (f : Nat → Int32) : sRow S j f j = f := if_pos rfl
theorem sRow_n {S : sS} {i j : Nat} {f : Nat → Int32} (h : i ≠ j) : sRow S j f i = S i := if_neg h
theorem sPut_s (S : sS) (j k : Nat) (v : Int32) : sPut S j k v j k = v := by simp [sPut, sRow, upd]
theorem sPut_k {S : sS} {j k i : Nat} {v : Int32} (h : i ≠ k) : sPut S j k v j i = S j i := by simp [sPut, sRow, upd, h]
theorem sPut_n {S : sS} {i j k : Nat} {v : Int32} (h : i ≠ j) : sPut S j k v i = S i := if_neg h
def RoAt (σ : gS) (x : Nat) (n : Nat) (f : Nat → Int32) : Prop := σ x = gO 2 [.ref (x + 1)] ∧ σ (x + 1) = gI n f
theorem RoAt.c0 {σ : gS} {x : Nat} {n : Nat} {f : Nat → Int32} (h : RoAt σ x n f) : σ x = gO 2 [.ref (x + 1)] := h.1
theorem RoAt.c1 {σ : gS} {x : Nat} {n : Nat} {f : Nat → Int32} (h : RoAt σ x n f) : σ (x + 1) = gI n f := h.2
theorem RoAt.fr {σ τ : gS} {x : Nat} {n : Nat} {f : Nat → Int32} (h : RoAt σ x n f) (hq : ∀ q : Nat, x ≤ q → q < x + 2 → τ q = σ q) : RoAt τ x n f := ⟨(hq _ (by omega) (by omega)).trans h.c0, (hq _ (by omega) (by omega)).trans h.c1⟩
def StAt (σ : gS) (x : Nat) (S : sS) : Prop := σ x = gO 4 [.int (nI (sB S)), .int (nI (sN S)), .int (S 8 2), .int (nI (sK S)), .int (nI (sR S)), .ref (x + 1), .ref (x + 3), .ref (x + 5), .ref (x + 7), .ref (x + 9), .ref (x + 11), .ref (x + 13), .ref (x + 15)] ∧ σ (x + 1) = gO 2 [.ref (x + 2)] ∧ σ (x + 2) = gI 96 (S 0) ∧ σ (x + 3) = gO 2 [.ref (x + 4)] ∧ σ (x + 4) = gI 96 (S 1) ∧ σ (x + 5) = gO 2 [.ref (x + 6)] ∧ σ (x + 6) = gI 96 (S 2) ∧ σ (x + 7) = gO 2 [.ref (x + 8)] ∧ σ (x + 8) = gI 12 (S 3) ∧ σ (x + 9) = gO 2 [.ref (x + 10)] ∧ σ (x + 10) = gI 12 (S 4) ∧ σ (x + 11) = gO 2 [.ref (x + 12)] ∧ σ (x + 12) = gI 8 (S 5) ∧ σ (x + 13) = gO 2 [.ref (x + 14)] ∧ σ (x + 14) = gI 8 (S 6) ∧ σ (x + 15) = gO 2 [.ref (x + 16)] ∧ σ (x + 16) = gI 8 (S 7)
theorem StAt.c0 {σ : gS} {x : Nat} {S : sS} (h : StAt σ x S) : σ x = gO 4 [.int (nI (sB S)), .int (nI (sN S)), .int (S 8 2), .int (nI (sK S)), .int (nI (sR S)), .ref (x + 1), .ref (x + 3), .ref (x + 5), .ref (x + 7), .ref (x + 9), .ref (x + 11), .ref (x + 13), .ref (x + 15)] := h.1
theorem StAt.c1 {σ : gS} {x : Nat} {S : sS} (h : StAt σ x S) : σ (x + 1) = gO 2 [.ref (x + 2)] := h.2.1
theorem StAt.c2 {σ : gS} {x : Nat} {S : sS} (h : StAt σ x S) : σ (x + 2) = gI 96 (S 0) := h.2.2.1
theorem StAt.c3 {σ : gS} {x : Nat} {S : sS} (h : StAt σ x S) : σ (x + 3) = gO 2 [.ref (x + 4)] := h.2.2.2.1
theorem StAt.c4 {σ : gS} {x : Nat} {S : sS} (h : StAt σ x S) : σ (x + 4) = gI 96 (S 1) := h.2.2.2.2.1
theorem StAt.c5 {σ : gS} {x : Nat} {S : sS} (h : StAt σ x S) : σ (x + 5) = gO 2 [.ref (x + 6)] := h.2.2.2.2.2.1
theorem StAt.c6 {σ : gS} {x : Nat} {S : sS} (h : StAt σ x S) : σ (x + 6) = gI 96 (S 2) := h.2.2.2.2.2.2.1
theorem StAt.c7 {σ : gS} {x : Nat} {S : sS} (h : StAt σ x S) : σ (x + 7) = gO 2 [.ref (x + 8)] := h.2.2.2.2.2.2.2.1
theorem StAt.c8 {σ : gS} {x : Nat} {S : sS} (h : StAt σ x S) : σ (x + 8) = gI 12 (S 3) := h.2.2.2.2.2.2.2.2.1
theorem StAt.c9 {σ : gS} {x : Nat} {S : sS} (h : StAt σ x S) : σ (x + 9) = gO 2 [.ref (x + 10)] := h.2.2.2.2.2.2.2.2.2.1
theorem StAt.c10 {σ : gS} {x : Nat} {S : sS} (h : StAt σ x S) : σ (x + 10) = gI 12 (S 4) := h.2.2.2.2.2.2.2.2.2.2.1
theorem StAt.c11 {σ : gS} {x : Nat} {S : sS} (h : StAt σ x S) : σ (x + 11) = gO 2 [.ref (x + 12)] := h.2.2.2.2.2.2.2.2.2.2.2.1
theorem StAt.c12 {σ : gS} {x : Nat} {S : sS} (h : StAt σ x S) : σ (x + 12) = gI 8 (S 5) := h.2.2.2.2.2.2.2.2.2.2.2.2.1
theorem StAt.c13 {σ : gS} {x : Nat} {S : sS} (h : StAt σ x S) : σ (x + 13) = gO 2 [.ref (x + 14)] := h.2.2.2.2.2.2.2.2.2.2.2.2.2.1
theorem StAt.c14 {σ : gS} {x : Nat} {S : sS} (h : StAt σ x S) : σ (x + 14) = gI 8 (S 6) := h.2.2.2.2.2.2.2.2.2.2.2.2.2.2.1
theorem StAt.c15 {σ : gS} {x : Nat} {S : sS} (h : StAt σ x S) : σ (x + 15) = gO 2 [.ref (x + 16)] := h.2.2.2.2.2.2.2.2.2.2.2.2.2.2.2.1
theorem StAt.c16 {σ : gS} {x : Nat} {S : sS} (h : StAt σ x S) : σ (x + 16) = gI 8 (S 7) := h.2.2.2.2.2.2.2.2.2.2.2.2.2.2.2.2
theorem StAt.fr {σ τ : gS} {x : Nat} {S : sS} (h : StAt σ x S) (hq : ∀ q : Nat, x ≤ q → q < x + 17 → τ q = σ q) : StAt τ x S := ⟨(hq _ (by omega) (by omega)).trans h.c0, (hq _ (by omega) (by omega)).trans h.c1, (hq _ (by omega) (by omega)).trans h.c2, (hq _ (by omega) (by omega)).trans h.c3, (hq _ (by omega) (by omega)).trans h.c4, (hq _ (by omega) (by omega)).trans h.c5, (hq _ (by omega) (by omega)).trans h.c6, (hq _ (by omega) (by omega)).trans h.c7, (hq _ (by omega) (by omega)).trans h.c8, (hq _ (by omega) (by omega)).trans h.c9, (hq _ (by omega) (by omega)).trans h.c10, (hq _ (by omega) (by omega)).trans h.c11, (hq _ (by omega) (by omega)).trans h.c12, (hq _ (by omega) (by omega)).trans h.c13, (hq _ (by omega) (by omega)).trans h.c14, (hq _ (by omega) (by omega)).trans h.c15, (hq _ (by omega) (by omega)).trans h.c16⟩
def VoAt (σ : gS) (x : Nat) (d f : Nat → Int32) (b : Nat) (w : Int32) : Prop := σ x = gO 6 [.ref (x + 1), .ref (x + 3), .int (nI b), .int w] ∧ σ (x + 1) = gO 2 [.ref (x + 2)] ∧ σ (x + 2) = gI 96 d ∧ σ (x + 3) = gO 2 [.ref (x + 4)] ∧ σ (x + 4) = gI 96 f
theorem VoAt.c0 {σ : gS} {x : Nat} {d f : Nat → Int32} {b : Nat} {w : Int32} (h : VoAt σ x d f b w) : σ x = gO 6 [.ref (x + 1), .ref (x + 3), .int (nI b), .int w] := h.1
theorem VoAt.c1 {σ : gS} {x : Nat} {d f : Nat → Int32} {b : Nat} {w : Int32} (h : VoAt σ x d f b w) : σ (x + 1) = gO 2 [.ref (x + 2)] := h.2.1
theorem VoAt.c2 {σ : gS} {x : Nat} {d f : Nat → Int32} {b : Nat} {w : Int32} (h : VoAt σ x d f b w) : σ (x + 2) = gI 96 d := h.2.2.1
theorem VoAt.c3 {σ : gS} {x : Nat} {d f : Nat → Int32} {b : Nat} {w : Int32} (h : VoAt σ x d f b w) : σ (x + 3) = gO 2 [.ref (x + 4)] := h.2.2.2.1
theorem VoAt.c4 {σ : gS} {x : Nat} {d f : Nat → Int32} {b : Nat} {w : Int32} (h : VoAt σ x d f b w) : σ (x + 4) = gI 96 f := h.2.2.2.2
theorem VoAt.fr {σ τ : gS} {x : Nat} {d f : Nat → Int32} {b : Nat} {w : Int32} (h : VoAt σ x d f b w) (hq : ∀ q : Nat, x ≤ q → q < x + 5 → τ q = σ q) : VoAt τ x d f b w := ⟨(hq _ (by omega) (by omega)).trans h.c0, (hq _ (by omega) (by omega)).trans h.c1, (hq _ (by omega) (by omega)).trans h.c2, (hq _ (by omega) (by omega)).trans h.c3, (hq _ (by omega) (by omega)).trans h.c4⟩
def ChAt (σ : gS) (x : Nat) (a b c : Nat → Int32) : Prop := σ x = gO 0 [.ref (x + 1), .ref (x + 3), .ref (x + 5)] ∧ σ (x + 1) = gO 2 [.ref (x + 2)] ∧ σ (x + 2) = gI 96 a ∧ σ (x + 3) = gO 2 [.ref (x + 4)] ∧ σ (x + 4) = gI 96 b ∧ σ (x + 5) = gO 2 [.ref (x + 6)] ∧ σ (x + 6) = gI 96 c
theorem ChAt.c0 {σ : gS} {x : Nat} {a b c : Nat → Int32} (h : ChAt σ x a b c) : σ x = gO 0 [.ref (x + 1), .ref (x + 3), .ref (x + 5)] := h.1
theorem ChAt.c1 {σ : gS} {x : Nat} {a b c : Nat → Int32} (h : ChAt σ x a b c) : σ (x + 1) = gO 2 [.ref (x + 2)] := h.2.1
theorem ChAt.c2 {σ : gS} {x : Nat} {a b c : Nat → Int32} (h : ChAt σ x a b c) : σ (x + 2) = gI 96 a := h.2.2.1
theorem ChAt.c3 {σ : gS} {x : Nat} {a b c : Nat → Int32} (h : ChAt σ x a b c) : σ (x + 3) = gO 2 [.ref (x + 4)] := h.2.2.2.1
theorem ChAt.c4 {σ : gS} {x : Nat} {a b c : Nat → Int32} (h : ChAt σ x a b c) : σ (x + 4) = gI 96 b := h.2.2.2.2.1
theorem ChAt.c5 {σ : gS} {x : Nat} {a b c : Nat → Int32} (h : ChAt σ x a b c) : σ (x + 5) = gO 2 [.ref (x + 6)] := h.2.2.2.2.2.1
theorem ChAt.c6 {σ : gS} {x : Nat} {a b c : Nat → Int32} (h : ChAt σ x a b c) : σ (x + 6) = gI 96 c := h.2.2.2.2.2.2
theorem ChAt.fr {σ τ : gS} {x : Nat} {a b c : Nat → Int32} (h : ChAt σ x a b c) (hq : ∀ q : Nat, x ≤ q → q < x + 7 → τ q = σ q) : ChAt τ x a b c := ⟨(hq _ (by omega) (by omega)).trans h.c0, (hq _ (by omega) (by omega)).trans h.c1, (hq _ (by omega) (by omega)).trans h.c2, (hq _ (by omega) (by omega)).trans h.c3, (hq _ (by omega) (by omega)).trans h.c4, (hq _ (by omega) (by omega)).trans h.c5, (hq _ (by omega) (by omega)).trans h.c6⟩
def TuAt (σ : gS) (x : Nat) (f : Nat → Int32) : Prop := σ x = gO 5 [.ref (x + 1)] ∧ σ (x + 1) = gO 2 [.ref (x + 2)] ∧ σ (x + 2) = gI 12 f
theorem TuAt.c0 {σ : gS} {x : Nat} {f : Nat → Int32} (h : TuAt σ x f) : σ x = gO 5 [.ref (x + 1)] := h.1
theorem TuAt.c1 {σ : gS} {x : Nat} {f : Nat → Int32} (h : TuAt σ x f) : σ (x + 1) = gO 2 [.ref (x + 2)] := h.2.1
theorem TuAt.c2 {σ : gS} {x : Nat} {f : Nat → Int32} (h : TuAt σ x f) : σ (x + 2) = gI 12 f := h.2.2
theorem TuAt.fr {σ τ : gS} {x : Nat} {f : Nat → Int32} (h : TuAt σ x f) (hq : ∀ q : Nat, x ≤ q → q < x + 3 → τ q = σ q) : TuAt τ x f := ⟨(hq _ (by omega) (by omega)).trans h.c0, (hq _ (by omega) (by omega)).trans h.c1, (hq _ (by omega) (by omega)).trans h.c2⟩
def TxAt (σ : gS) (x : Nat) (f : Nat → Int32) (n a : Nat) (so ld ti : Int32) : Prop := σ x = gO 3 [.ref (x + 1), .int (nI n), .int (nI a), .int so, .int ld, .int ti] ∧ σ (x + 1) = gO 2 [.ref (x + 2)] ∧ σ (x + 2) = gI 60 f
theorem TxAt.c0 {σ : gS} {x : Nat} {f : Nat → Int32} {n a : Nat} {so ld ti : Int32} (h : TxAt σ x f n a so ld ti) : σ x = gO 3 [.ref (x + 1), .int (nI n), .int (nI a), .int so, .int ld, .int ti] := h.1
theorem TxAt.c1 {σ : gS} {x : Nat} {f : Nat → Int32} {n a : Nat} {so ld ti : Int32} (h : TxAt σ x f n a so ld ti) : σ (x + 1) = gO 2 [.ref (x + 2)] := h.2.1
theorem TxAt.c2 {σ : gS} {x : Nat} {f : Nat → Int32} {n a : Nat} {so ld ti : Int32} (h : TxAt σ x f n a so ld ti) : σ (x + 2) = gI 60 f := h.2.2
theorem TxAt.fr {σ τ : gS} {x : Nat} {f : Nat → Int32} {n a : Nat} {so ld ti : Int32} (h : TxAt σ x f n a so ld ti) (hq : ∀ q : Nat, x ≤ q → q < x + 3 → τ q = σ q) : TxAt τ x f n a so ld ti := ⟨(hq _ (by omega) (by omega)).trans h.c0, (hq _ (by omega) (by omega)).trans h.c1, (hq _ (by omega) (by omega)).trans h.c2⟩
def MoAt (σ : gS) (x : Nat) (A : sS) : Prop := σ x = gO 8 [.ref (x + 1), .ref (x + 2), .ref (x + 3), .int (nI (tN A 0)), .ref (x + 4), .ref (x + 5), .int (nI (tN A 1)), .ref (x + 6), .int (nI (tN A 2)), .ref (x + 7), .ref (x + 8), .ref (x + 9), .int (nI (tN A 3)), .ref (x + 10), .ref (x + 11), .ref (x + 12), .int (nI (tN A 4)), .ref (x + 13), .ref (x + 14), .ref (x + 15)] ∧ σ (x + 1) = gI 292 (A 1) ∧ σ (x + 2) = gI 292 (A 2) ∧ σ (x + 3) = gI 1460 (A 3) ∧ σ (x + 4) = gI 584 (A 4) ∧ σ (x + 5) = gZ 2 (A 5) ∧ σ (x + 6) = gT 60 (A 6) ∧ σ (x + 7) = gI 60 (A 7) ∧ σ (x + 8) = gI 60 (A 8) ∧ σ (x + 9) = gI 60 (A 9) ∧ σ (x + 10) = gI 1152 (A 10) ∧ σ (x + 11) = gI 1152 (A 11) ∧ σ (x + 12) = gZ 12 (A 12) ∧ σ (x + 13) = gI 1300 (A 13) ∧ σ (x + 14) = gI 1300 (A 14) ∧ σ (x + 15) = gI 1300 (A 15)
theorem MoAt.c0 {σ : gS} {x : Nat} {A : sS} (h : MoAt σ x A) : σ x = gO 8 [.ref (x + 1), .ref (x + 2), .ref (x + 3), .int (nI (tN A 0)), .ref (x + 4), .ref (x + 5), .int (nI (tN A 1)), .ref (x + 6), .int (nI (tN A 2)), .ref (x + 7), .ref (x + 8), .ref (x + 9), .int (nI (tN A 3)), .ref (x + 10), .ref (x + 11), .ref (x + 12), .int (nI (tN A 4)), .ref (x + 13), .ref (x + 14), .ref (x + 15)] := h.1
theorem MoAt.c1 {σ : gS} {x : Nat} {A : sS} (h : MoAt σ x A) : σ (x + 1) = gI 292 (A 1) := h.2.1
theorem MoAt.c2 {σ : gS} {x : Nat} {A : sS} (h : MoAt σ x A) : σ (x + 2) = gI 292 (A 2) := h.2.2.1
theorem MoAt.c3 {σ : gS} {x : Nat} {A : sS} (h : MoAt σ x A) : σ (x + 3) = gI 1460 (A 3) := h.2.2.2.1
theorem MoAt.c4 {σ : gS} {x : Nat} {A : sS} (h : MoAt σ x A) : σ (x + 4) = gI 584 (A 4) := h.2.2.2.2.1
theorem MoAt.c5 {σ : gS} {x : Nat} {A : sS} (h : MoAt σ x A) : σ (x + 5) = gZ 2 (A 5) := h.2.2.2.2.2.1
theorem MoAt.c6 {σ : gS} {x : Nat} {A : sS} (h : MoAt σ x A) : σ (x + 6) = gT 60 (A 6) := h.2.2.2.2.2.2.1
theorem MoAt.c7 {σ : gS} {x : Nat} {A : sS} (h : MoAt σ x A) : σ (x + 7) = gI 60 (A 7) := h.2.2.2.2.2.2.2.1
theorem MoAt.c8 {σ : gS} {x : Nat} {A : sS} (h : MoAt σ x A) : σ (x + 8) = gI 60 (A 8) := h.2.2.2.2.2.2.2.2.1
theorem MoAt.c9 {σ : gS} {x : Nat} {A : sS} (h : MoAt σ x A) : σ (x + 9) = gI 60 (A 9) := h.2.2.2.2.2.2.2.2.2.1
theorem MoAt.c10 {σ : gS} {x : Nat} {A : sS} (h : MoAt σ x A) : σ (x + 10) = gI 1152 (A 10) := h.2.2.2.2.2.2.2.2.2.2.1
theorem MoAt.c11 {σ : gS} {x : Nat} {A : sS} (h : MoAt σ x A) : σ (x + 11) = gI 1152 (A 11) := h.2.2.2.2.2.2.2.2.2.2.2.1
theorem MoAt.c12 {σ : gS} {x : Nat} {A : sS} (h : MoAt σ x A) : σ (x + 12) = gZ 12 (A 12) := h.2.2.2.2.2.2.2.2.2.2.2.2.1
theorem MoAt.c13 {σ : gS} {x : Nat} {A : sS} (h : MoAt σ x A) : σ (x + 13) = gI 1300 (A 13) := h.2.2.2.2.2.2.2.2.2.2.2.2.2.1
theorem MoAt.c14 {σ : gS} {x : Nat} {A : sS} (h : MoAt σ x A) : σ (x + 14) = gI 1300 (A 14) := h.2.2.2.2.2.2.2.2.2.2.2.2.2.2.1
theorem MoAt.c15 {σ : gS} {x : Nat} {A : sS} (h : MoAt σ x A) : σ (x + 15) = gI 1300 (A 15) := h.2.2.2.2.2.2.2.2.2.2.2.2.2.2.2
theorem MoAt.fr {σ τ : gS} {x : Nat} {A : sS} (h : MoAt σ x A) (hq : ∀ q : Nat, x ≤ q → q < x + 16 → τ q = σ q) : MoAt τ x A := ⟨(hq _ (by omega) (by omega)).trans h.c0, (hq _ (by omega) (by omega)).trans h.c1, (hq _ (by omega) (by omega)).trans h.c2, (hq _ (by omega) (by omega)).trans h.c3, (hq _ (by omega) (by omega)).trans h.c4, (hq _ (by omega) (by omega)).trans h.c5, (hq _ (by omega) (by omega)).trans h.c6, (hq _ (by omega) (by omega)).trans h.c7, (hq _ (by omega) (by omega)).trans h.c8, (hq _ (by omega) (by omega)).trans h.c9, (hq _ (by omega) (by omega)).trans h.c10, (hq _ (by omega) (by omega)).trans h.c11, (hq _ (by omega) (by omega)).trans h.c12, (hq _ (by omega) (by omega)).trans h.c13, (hq _ (by omega) (by omega)).trans h.c14, (hq _ (by omega) (by omega)).trans h.c15⟩
theorem StAt.w2 {σ : gS} {x : Nat} {S : sS} (h : StAt σ x S) (g : Nat → Int32) : StAt (gup σ (x + 2) (gI 96 g)) x (sRow S 0 g) := by
  refine ⟨?_, ?_, ?_, ?_, ?_, ?_, ?_, ?_, ?_, ?_, ?_, ?_, ?_, ?_, ?_, ?_, ?_⟩
  · rw [gup_n (by omega)]; exact h.c0
  · rw [gup_n (by omega)]; exact h.c1
  · rw [gup_s]; rw [sRow_s]
  · rw [gup_n (by omega)]; exact h.c3
  · rw [gup_n (by omega)]; exact h.c4
  · rw [gup_n (by omega)]; exact h.c5
  · rw [gup_n (by omega)]; exact h.c6
  · rw [gup_n (by omega)]; exact h.c7
  · rw [gup_n (by omega)]; exact h.c8
  · rw [gup_n (by omega)]; exact h.c9
  · rw [gup_n (by omega)]; exact h.c10
  · rw [gup_n (by omega)]; exact h.c11
  · rw [gup_n (by omega)]; exact h.c12
  · rw [gup_n (by omega)]; exact h.c13
  · rw [gup_n (by omega)]; exact h.c14
  · rw [gup_n (by omega)]; exact h.c15
  · rw [gup_n (by omega)]; exact h.c16
theorem StAt.w4 {σ : gS} {x : Nat} {S : sS} (h : StAt σ x S) (g : Nat → Int32) : StAt (gup σ (x + 4) (gI 96 g)) x (sRow S 1 g) := by
  refine ⟨?_, ?_, ?_, ?_, ?_, ?_, ?_, ?_, ?_, ?_, ?_, ?_, ?_, ?_, ?_, ?_, ?_⟩
  · rw [gup_n (by omega)]; exact h.c0
  · rw [gup_n (by omega)]; exact h.c1
  · rw [gup_n (by omega)]; exact h.c2
  · rw [gup_n (by omega)]; exact h.c3
  · rw [gup_s]; rw [sRow_s]
  · rw [gup_n (by omega)]; exact h.c5
  · rw [gup_n (by omega)]; exact h.c6
  · rw [gup_n (by omega)]; exact h.c7
  · rw [gup_n (by omega)]; exact h.c8
  · rw [gup_n (by omega)]; exact h.c9
  · rw [gup_n (by omega)]; exact h.c10
  · rw [gup_n (by omega)]; exact h.c11
  · rw [gup_n (by omega)]; exact h.c12
  · rw [gup_n (by omega)]; exact h.c13
  · rw [gup_n (by omega)]; exact h.c14
  · rw [gup_n (by omega)]; exact h.c15
  · rw [gup_n (by omega)]; exact h.c16
theorem StAt.w6 {σ : gS} {x : Nat} {S : sS} (h : StAt σ x S) (g : Nat → Int32) : StAt (gup σ (x + 6) (gI 96 g)) x (sRow S 2 g) := by
  refine ⟨?_, ?_, ?_, ?_, ?_, ?_, ?_, ?_, ?_, ?_, ?_, ?_, ?_, ?_, ?_, ?_, ?_⟩
  · rw [gup_n (by omega)]; exact h.c0
  · rw [gup_n (by omega)]; exact h.c1
  · rw [gup_n (by omega)]; exact h.c2
  · rw [gup_n (by omega)]; exact h.c3
  · rw [gup_n (by omega)]; exact h.c4
  · rw [gup_n (by omega)]; exact h.c5
  · rw [gup_s]; rw [sRow_s]
  · rw [gup_n (by omega)]; exact h.c7
  · rw [gup_n (by omega)]; exact h.c8
  · rw [gup_n (by omega)]; exact h.c9
  · rw [gup_n (by omega)]; exact h.c10
  · rw [gup_n (by omega)]; exact h.c11
  · rw [gup_n (by omega)]; exact h.c12
  · rw [gup_n (by omega)]; exact h.c13
  · rw [gup_n (by omega)]; exact h.c14
  · rw [gup_n (by omega)]; exact h.c15
  · rw [gup_n (by omega)]; exact h.c16
theorem StAt.w8 {σ : gS} {x : Nat} {S : sS} (h : StAt σ x S) (g : Nat → Int32) : StAt (gup σ (x + 8) (gI 12 g)) x (sRow S 3 g) := by
  refine ⟨?_, ?_, ?_, ?_, ?_, ?_, ?_, ?_, ?_, ?_, ?_, ?_, ?_, ?_, ?_, ?_, ?_⟩
  · rw [gup_n (by omega)]; exact h.c0
  · rw [gup_n (by omega)]; exact h.c1
  · rw [gup_n (by omega)]; exact h.c2
  · rw [gup_n (by omega)]; exact h.c3
  · rw [gup_n (by omega)]; exact h.c4
  · rw [gup_n (by omega)]; exact h.c5
  · rw [gup_n (by omega)]; exact h.c6
  · rw [gup_n (by omega)]; exact h.c7
  · rw [gup_s]; rw [sRow_s]
  · rw [gup_n (by omega)]; exact h.c9
  · rw [gup_n (by omega)]; exact h.c10
  · rw [gup_n (by omega)]; exact h.c11
  · rw [gup_n (by omega)]; exact h.c12
  · rw [gup_n (by omega)]; exact h.c13
  · rw [gup_n (by omega)]; exact h.c14
  · rw [gup_n (by omega)]; exact h.c15
  · rw [gup_n (by omega)]; exact h.c16
theorem StAt.w10 {σ : gS} {x : Nat} {S : sS} (h : StAt σ x S) (g : Nat → Int32) : StAt (gup σ (x + 10) (gI 12 g)) x (sRow S 4 g) := by
  refine ⟨?_, ?_, ?_, ?_, ?_, ?_, ?_, ?_, ?_, ?_, ?_, ?_, ?_, ?_, ?_, ?_, ?_⟩
  · rw [gup_n (by omega)]; exact h.c0
  · rw [gup_n (by omega)]; exact h.c1
  · rw [gup_n (by omega)]; exact h.c2
  · rw [gup_n (by omega)]; exact h.c3
  · rw [gup_n (by omega)]; exact h.c4
  · rw [gup_n (by omega)]; exact h.c5
  · rw [gup_n (by omega)]; exact h.c6
  · rw [gup_n (by omega)]; exact h.c7
  · rw [gup_n (by omega)]; exact h.c8
  · rw [gup_n (by omega)]; exact h.c9
  · rw [gup_s]; rw [sRow_s]
  · rw [gup_n (by omega)]; exact h.c11
  · rw [gup_n (by omega)]; exact h.c12
  · rw [gup_n (by omega)]; exact h.c13
  · rw [gup_n (by omega)]; exact h.c14
  · rw [gup_n (by omega)]; exact h.c15
  · rw [gup_n (by omega)]; exact h.c16
theorem StAt.w12 {σ : gS} {x : Nat} {S : sS} (h : StAt σ x S) (g : Nat → Int32) : StAt (gup σ (x + 12) (gI 8 g)) x (sRow S 5 g) := by
  refine ⟨?_, ?_, ?_, ?_, ?_, ?_, ?_, ?_, ?_, ?_, ?_, ?_, ?_, ?_, ?_, ?_, ?_⟩
  · rw [gup_n (by omega)]; exact h.c0
  · rw [gup_n (by omega)]; exact h.c1
  · rw [gup_n (by omega)]; exact h.c2
  · rw [gup_n (by omega)]; exact h.c3
  · rw [gup_n (by omega)]; exact h.c4
  · rw [gup_n (by omega)]; exact h.c5
  · rw [gup_n (by omega)]; exact h.c6
  · rw [gup_n (by omega)]; exact h.c7
  · rw [gup_n (by omega)]; exact h.c8
  · rw [gup_n (by omega)]; exact h.c9
  · rw [gup_n (by omega)]; exact h.c10
  · rw [gup_n (by omega)]; exact h.c11
  · rw [gup_s]; rw [sRow_s]
  · rw [gup_n (by omega)]; exact h.c13
  · rw [gup_n (by omega)]; exact h.c14
  · rw [gup_n (by omega)]; exact h.c15
  · rw [gup_n (by omega)]; exact h.c16
theorem StAt.w14 {σ : gS} {x : Nat} {S : sS} (h : StAt σ x S) (g : Nat → Int32) : StAt (gup σ (x + 14) (gI 8 g)) x (sRow S 6 g) := by
  refine ⟨?_, ?_, ?_, ?_, ?_, ?_, ?_, ?_, ?_, ?_, ?_, ?_, ?_, ?_, ?_, ?_, ?_⟩
  · rw [gup_n (by omega)]; exact h.c0
  · rw [gup_n (by omega)]; exact h.c1
  · rw [gup_n (by omega)]; exact h.c2
  · rw [gup_n (by omega)]; exact h.c3
  · rw [gup_n (by omega)]; exact h.c4
  · rw [gup_n (by omega)]; exact h.c5
  · rw [gup_n (by omega)]; exact h.c6
  · rw [gup_n (by omega)]; exact h.c7
  · rw [gup_n (by omega)]; exact h.c8
  · rw [gup_n (by omega)]; exact h.c9
  · rw [gup_n (by omega)]; exact h.c10
  · rw [gup_n (by omega)]; exact h.c11
  · rw [gup_n (by omega)]; exact h.c12
  · rw [gup_n (by omega)]; exact h.c13
  · rw [gup_s]; rw [sRow_s]
  · rw [gup_n (by omega)]; exact h.c15
  · rw [gup_n (by omega)]; exact h.c16
theorem StAt.w16 {σ : gS} {x : Nat} {S : sS} (h : StAt σ x S) (g : Nat → Int32) : StAt (gup σ (x + 16) (gI 8 g)) x (sRow S 7 g) := by
  refine ⟨?_, ?_, ?_, ?_, ?_, ?_, ?_, ?_, ?_, ?_, ?_, ?_, ?_, ?_, ?_, ?_, ?_⟩
  · rw [gup_n (by omega)]; exact h.c0
  · rw [gup_n (by omega)]; exact h.c1
  · rw [gup_n (by omega)]; exact h.c2
  · rw [gup_n (by omega)]; exact h.c3
  · rw [gup_n (by omega)]; exact h.c4
  · rw [gup_n (by omega)]; exact h.c5
  · rw [gup_n (by omega)]; exact h.c6
  · rw [gup_n (by omega)]; exact h.c7
  · rw [gup_n (by omega)]; exact h.c8
  · rw [gup_n (by omega)]; exact h.c9
  · rw [gup_n (by omega)]; exact h.c10
  · rw [gup_n (by omega)]; exact h.c11
  · rw [gup_n (by omega)]; exact h.c12
  · rw [gup_n (by omega)]; exact h.c13
  · rw [gup_n (by omega)]; exact h.c14
  · rw [gup_n (by omega)]; exact h.c15
  · rw [gup_s]; rw [sRow_s]
theorem RoAt.w1 {σ : gS} {x : Nat} {n : Nat} {f : Nat → Int32} (h : RoAt σ x n f) (g : Nat → Int32) : RoAt (gup σ (x + 1) (gI n g)) x n g := by
  refine ⟨?_, ?_⟩
  · rw [gup_n (by omega)]; exact h.c0
  · rw [gup_s]
theorem VoAt.w2 {σ : gS} {x : Nat} {d f : Nat → Int32} {b : Nat} {w : Int32} (h : VoAt σ x d f b w) (g : Nat → Int32) : VoAt (gup σ (x + 2) (gI 96 g)) x g f b w := by
  refine ⟨?_, ?_, ?_, ?_, ?_⟩
  · rw [gup_n (by omega)]; exact h.c0
  · rw [gup_n (by omega)]; exact h.c1
  · rw [gup_s]
  · rw [gup_n (by omega)]; exact h.c3
  · rw [gup_n (by omega)]; exact h.c4
theorem VoAt.w4 {σ : gS} {x : Nat} {d f : Nat → Int32} {b : Nat} {w : Int32} (h : VoAt σ x d f b w) (g : Nat → Int32) : VoAt (gup σ (x + 4) (gI 96 g)) x d g b w := by
  refine ⟨?_, ?_, ?_, ?_, ?_⟩
  · rw [gup_n (by omega)]; exact h.c0
  · rw [gup_n (by omega)]; exact h.c1
  · rw [gup_n (by omega)]; exact h.c2
  · rw [gup_n (by omega)]; exact h.c3
  · rw [gup_s]
theorem ChAt.w2 {σ : gS} {x : Nat} {a b c : Nat → Int32} (h : ChAt σ x a b c) (g : Nat → Int32) : ChAt (gup σ (x + 2) (gI 96 g)) x g b c := by
  refine ⟨?_, ?_, ?_, ?_, ?_, ?_, ?_⟩
  · rw [gup_n (by omega)]; exact h.c0
  · rw [gup_n (by omega)]; exact h.c1
  · rw [gup_s]
  · rw [gup_n (by omega)]; exact h.c3
  · rw [gup_n (by omega)]; exact h.c4
  · rw [gup_n (by omega)]; exact h.c5
  · rw [gup_n (by omega)]; exact h.c6
theorem ChAt.w4 {σ : gS} {x : Nat} {a b c : Nat → Int32} (h : ChAt σ x a b c) (g : Nat → Int32) : ChAt (gup σ (x + 4) (gI 96 g)) x a g c := by
  refine ⟨?_, ?_, ?_, ?_, ?_, ?_, ?_⟩
  · rw [gup_n (by omega)]; exact h.c0
  · rw [gup_n (by omega)]; exact h.c1
  · rw [gup_n (by omega)]; exact h.c2
  · rw [gup_n (by omega)]; exact h.c3
  · rw [gup_s]
  · rw [gup_n (by omega)]; exact h.c5
  · rw [gup_n (by omega)]; exact h.c6
theorem ChAt.w6 {σ : gS} {x : Nat} {a b c : Nat → Int32} (h : ChAt σ x a b c) (g : Nat → Int32) : ChAt (gup σ (x + 6) (gI 96 g)) x a b g := by
  refine ⟨?_, ?_, ?_, ?_, ?_, ?_, ?_⟩
  · rw [gup_n (by omega)]; exact h.c0
  · rw [gup_n (by omega)]; exact h.c1
  · rw [gup_n (by omega)]; exact h.c2
  · rw [gup_n (by omega)]; exact h.c3
  · rw [gup_n (by omega)]; exact h.c4
  · rw [gup_n (by omega)]; exact h.c5
  · rw [gup_s]
theorem TuAt.w2 {σ : gS} {x : Nat} {f : Nat → Int32} (h : TuAt σ x f) (g : Nat → Int32) : TuAt (gup σ (x + 2) (gI 12 g)) x g := by
  refine ⟨?_, ?_, ?_⟩
  · rw [gup_n (by omega)]; exact h.c0
  · rw [gup_n (by omega)]; exact h.c1
  · rw [gup_s]
theorem TxAt.w2 {σ : gS} {x : Nat} {f : Nat → Int32} {n a : Nat} {so ld ti : Int32} (h : TxAt σ x f n a so ld ti) (g : Nat → Int32) : TxAt (gup σ (x + 2) (gI 60 g)) x g n a so ld ti := by
  refine ⟨?_, ?_, ?_⟩
  · rw [gup_n (by omega)]; exact h.c0
  · rw [gup_n (by omega)]; exact h.c1
  · rw [gup_s]
theorem MoAt.w1 {σ : gS} {x : Nat} {A : sS} (h : MoAt σ x A) (g : Nat → Int32) : MoAt (gup σ (x + 1) (gI 292 g)) x (sRow A 1 g) := by
  refine ⟨?_, ?_, ?_, ?_, ?_, ?_, ?_, ?_, ?_, ?_, ?_, ?_, ?_, ?_, ?_, ?_⟩
  · rw [gup_n (by omega)]; exact h.c0
  · rw [gup_s]; rw [sRow_s]
  · rw [gup_n (by omega)]; exact h.c2
  · rw [gup_n (by omega)]; exact h.c3
  · rw [gup_n (by omega)]; exact h.c4
  · rw [gup_n (by omega)]; exact h.c5
  · rw [gup_n (by omega)]; exact h.c6
  · rw [gup_n (by omega)]; exact h.c7
  · rw [gup_n (by omega)]; exact h.c8
  · rw [gup_n (by omega)]; exact h.c9
  · rw [gup_n (by omega)]; exact h.c10
  · rw [gup_n (by omega)]; exact h.c11
  · rw [gup_n (by omega)]; exact h.c12
  · rw [gup_n (by omega)]; exact h.c13
  · rw [gup_n (by omega)]; exact h.c14
  · rw [gup_n (by omega)]; exact h.c15
theorem MoAt.w2 {σ : gS} {x : Nat} {A : sS} (h : MoAt σ x A) (g : Nat → Int32) : MoAt (gup σ (x + 2) (gI 292 g)) x (sRow A 2 g) := by
  refine ⟨?_, ?_, ?_, ?_, ?_, ?_, ?_, ?_, ?_, ?_, ?_, ?_, ?_, ?_, ?_, ?_⟩
  · rw [gup_n (by omega)]; exact h.c0
  · rw [gup_n (by omega)]; exact h.c1
  · rw [gup_s]; rw [sRow_s]
  · rw [gup_n (by omega)]; exact h.c3
  · rw [gup_n (by omega)]; exact h.c4
  · rw [gup_n (by omega)]; exact h.c5
  · rw [gup_n (by omega)]; exact h.c6
  · rw [gup_n (by omega)]; exact h.c7
  · rw [gup_n (by omega)]; exact h.c8
  · rw [gup_n (by omega)]; exact h.c9
  · rw [gup_n (by omega)]; exact h.c10
  · rw [gup_n (by omega)]; exact h.c11
  · rw [gup_n (by omega)]; exact h.c12
  · rw [gup_n (by omega)]; exact h.c13
  · rw [gup_n (by omega)]; exact h.c14
  · rw [gup_n (by omega)]; exact h.c15
theorem MoAt.w3 {σ : gS} {x : Nat} {A : sS} (h : MoAt σ x A) (g : Nat → Int32) : MoAt (gup σ (x + 3) (gI 1460 g)) x (sRow A 3 g) := by
  refine ⟨?_, ?_, ?_, ?_, ?_, ?_, ?_, ?_, ?_, ?_, ?_, ?_, ?_, ?_, ?_, ?_⟩
  · rw [gup_n (by omega)]; exact h.c0
  · rw [gup_n (by omega)]; exact h.c1
  · rw [gup_n (by omega)]; exact h.c2
  · rw [gup_s]; rw [sRow_s]
  · rw [gup_n (by omega)]; exact h.c4
  · rw [gup_n (by omega)]; exact h.c5
  · rw [gup_n (by omega)]; exact h.c6
  · rw [gup_n (by omega)]; exact h.c7
  · rw [gup_n (by omega)]; exact h.c8
  · rw [gup_n (by omega)]; exact h.c9
  · rw [gup_n (by omega)]; exact h.c10
  · rw [gup_n (by omega)]; exact h.c11
  · rw [gup_n (by omega)]; exact h.c12
  · rw [gup_n (by omega)]; exact h.c13
  · rw [gup_n (by omega)]; exact h.c14
  · rw [gup_n (by omega)]; exact h.c15
theorem MoAt.w4 {σ : gS} {x : Nat} {A : sS} (h : MoAt σ x A) (g : Nat → Int32) : MoAt (gup σ (x + 4) (gI 584 g)) x (sRow A 4 g) := by
  refine ⟨?_, ?_, ?_, ?_, ?_, ?_, ?_, ?_, ?_, ?_, ?_, ?_, ?_, ?_, ?_, ?_⟩
  · rw [gup_n (by omega)]; exact h.c0
  · rw [gup_n (by omega)]; exact h.c1
  · rw [gup_n (by omega)]; exact h.c2
  · rw [gup_n (by omega)]; exact h.c3
  · rw [gup_s]; rw [sRow_s]
  · rw [gup_n (by omega)]; exact h.c5
  · rw [gup_n (by omega)]; exact h.c6
  · rw [gup_n (by omega)]; exact h.c7
  · rw [gup_n (by omega)]; exact h.c8
  · rw [gup_n (by omega)]; exact h.c9
  · rw [gup_n (by omega)]; exact h.c10
  · rw [gup_n (by omega)]; exact h.c11
  · rw [gup_n (by omega)]; exact h.c12
  · rw [gup_n (by omega)]; exact h.c13
  · rw [gup_n (by omega)]; exact h.c14
  · rw [gup_n (by omega)]; exact h.c15
theorem MoAt.w5 {σ : gS} {x : Nat} {A : sS} (h : MoAt σ x A) (g : Nat → Int32) : MoAt (gup σ (x + 5) (gZ 2 g)) x (sRow A 5 g) := by
  refine ⟨?_, ?_, ?_, ?_, ?_, ?_, ?_, ?_, ?_, ?_, ?_, ?_, ?_, ?_, ?_, ?_⟩
  · rw [gup_n (by omega)]; exact h.c0
  · rw [gup_n (by omega)]; exact h.c1
  · rw [gup_n (by omega)]; exact h.c2
  · rw [gup_n (by omega)]; exact h.c3
  · rw [gup_n (by omega)]; exact h.c4
  · rw [gup_s]; rw [sRow_s]
  · rw [gup_n (by omega)]; exact h.c6
  · rw [gup_n (by omega)]; exact h.c7
  · rw [gup_n (by omega)]; exact h.c8
  · rw [gup_n (by omega)]; exact h.c9
  · rw [gup_n (by omega)]; exact h.c10
  · rw [gup_n (by omega)]; exact h.c11
  · rw [gup_n (by omega)]; exact h.c12
  · rw [gup_n (by omega)]; exact h.c13
  · rw [gup_n (by omega)]; exact h.c14
  · rw [gup_n (by omega)]; exact h.c15
theorem MoAt.w6 {σ : gS} {x : Nat} {A : sS} (h : MoAt σ x A) (g : Nat → Int32) : MoAt (gup σ (x + 6) (gT 60 g)) x (sRow A 6 g) := by
  refine ⟨?_, ?_, ?_, ?_, ?_, ?_, ?_, ?_, ?_, ?_, ?_, ?_, ?_, ?_, ?_, ?_⟩
  · rw [gup_n (by omega)]; exact h.c0
  · rw [gup_n (by omega)]; exact h.c1
  · rw [gup_n (by omega)]; exact h.c2
  · rw [gup_n (by omega)]; exact h.c3
  · rw [gup_n (by omega)]; exact h.c4
  · rw [gup_n (by omega)]; exact h.c5
  · rw [gup_s]; rw [sRow_s]
  · rw [gup_n (by omega)]; exact h.c7
  · rw [gup_n (by omega)]; exact h.c8
  · rw [gup_n (by omega)]; exact h.c9
  · rw [gup_n (by omega)]; exact h.c10
  · rw [gup_n (by omega)]; exact h.c11
  · rw [gup_n (by omega)]; exact h.c12
  · rw [gup_n (by omega)]; exact h.c13
  · rw [gup_n (by omega)]; exact h.c14
  · rw [gup_n (by omega)]; exact h.c15
theorem MoAt.w7 {σ : gS} {x : Nat} {A : sS} (h : MoAt σ x A) (g : Nat → Int32) : MoAt (gup σ (x + 7) (gI 60 g)) x (sRow A 7 g) := by
  refine ⟨?_, ?_, ?_, ?_, ?_, ?_, ?_, ?_, ?_, ?_, ?_, ?_, ?_, ?_, ?_, ?_⟩
  · rw [gup_n (by omega)]; exact h.c0
  · rw [gup_n (by omega)]; exact h.c1
  · rw [gup_n (by omega)]; exact h.c2
  · rw [gup_n (by omega)]; exact h.c3
  · rw [gup_n (by omega)]; exact h.c4
  · rw [gup_n (by omega)]; exact h.c5
  · rw [gup_n (by omega)]; exact h.c6
  · rw [gup_s]; rw [sRow_s]
  · rw [gup_n (by omega)]; exact h.c8
  · rw [gup_n (by omega)]; exact h.c9
  · rw [gup_n (by omega)]; exact h.c10
  · rw [gup_n (by omega)]; exact h.c11
  · rw [gup_n (by omega)]; exact h.c12
  · rw [gup_n (by omega)]; exact h.c13
  · rw [gup_n (by omega)]; exact h.c14
  · rw [gup_n (by omega)]; exact h.c15
theorem MoAt.w8 {σ : gS} {x : Nat} {A : sS} (h : MoAt σ x A) (g : Nat → Int32) : MoAt (gup σ (x + 8) (gI 60 g)) x (sRow A 8 g) := by
  refine ⟨?_, ?_, ?_, ?_, ?_, ?_, ?_, ?_, ?_, ?_, ?_, ?_, ?_, ?_, ?_, ?_⟩
  · rw [gup_n (by omega)]; exact h.c0
  · rw [gup_n (by omega)]; exact h.c1
  · rw [gup_n (by omega)]; exact h.c2
  · rw [gup_n (by omega)]; exact h.c3
  · rw [gup_n (by omega)]; exact h.c4
  · rw [gup_n (by omega)]; exact h.c5
  · rw [gup_n (by omega)]; exact h.c6
  · rw [gup_n (by omega)]; exact h.c7
  · rw [gup_s]; rw [sRow_s]
  · rw [gup_n (by omega)]; exact h.c9
  · rw [gup_n (by omega)]; exact h.c10
  · rw [gup_n (by omega)]; exact h.c11
  · rw [gup_n (by omega)]; exact h.c12
  · rw [gup_n (by omega)]; exact h.c13
  · rw [gup_n (by omega)]; exact h.c14
  · rw [gup_n (by omega)]; exact h.c15
theorem MoAt.w9 {σ : gS} {x : Nat} {A : sS} (h : MoAt σ x A) (g : Nat → Int32) : MoAt (gup σ (x + 9) (gI 60 g)) x (sRow A 9 g) := by
  refine ⟨?_, ?_, ?_, ?_, ?_, ?_, ?_, ?_, ?_, ?_, ?_, ?_, ?_, ?_, ?_, ?_⟩
  · rw [gup_n (by omega)]; exact h.c0
  · rw [gup_n (by omega)]; exact h.c1
  · rw [gup_n (by omega)]; exact h.c2
  · rw [gup_n (by omega)]; exact h.c3
  · rw [gup_n (by omega)]; exact h.c4
  · rw [gup_n (by omega)]; exact h.c5
  · rw [gup_n (by omega)]; exact h.c6
  · rw [gup_n (by omega)]; exact h.c7
  · rw [gup_n (by omega)]; exact h.c8
  · rw [gup_s]; rw [sRow_s]
  · rw [gup_n (by omega)]; exact h.c10
  · rw [gup_n (by omega)]; exact h.c11
  · rw [gup_n (by omega)]; exact h.c12
  · rw [gup_n (by omega)]; exact h.c13
  · rw [gup_n (by omega)]; exact h.c14
  · rw [gup_n (by omega)]; exact h.c15
theorem MoAt.w10 {σ : gS} {x : Nat} {A : sS} (h : MoAt σ x A) (g : Nat → Int32) : MoAt (gup σ (x + 10) (gI 1152 g)) x (sRow A 10 g) := by
  refine ⟨?_, ?_, ?_, ?_, ?_, ?_, ?_, ?_, ?_, ?_, ?_, ?_, ?_, ?_, ?_, ?_⟩
  · rw [gup_n (by omega)]; exact h.c0
  · rw [gup_n (by omega)]; exact h.c1
  · rw [gup_n (by omega)]; exact h.c2
  · rw [gup_n (by omega)]; exact h.c3
  · rw [gup_n (by omega)]; exact h.c4
  · rw [gup_n (by omega)]; exact h.c5
  · rw [gup_n (by omega)]; exact h.c6
  · rw [gup_n (by omega)]; exact h.c7
  · rw [gup_n (by omega)]; exact h.c8
  · rw [gup_n (by omega)]; exact h.c9
  · rw [gup_s]; rw [sRow_s]
  · rw [gup_n (by omega)]; exact h.c11
  · rw [gup_n (by omega)]; exact h.c12
  · rw [gup_n (by omega)]; exact h.c13
  · rw [gup_n (by omega)]; exact h.c14
  · rw [gup_n (by omega)]; exact h.c15
theorem MoAt.w11 {σ : gS} {x : Nat} {A : sS} (h : MoAt σ x A) (g : Nat → Int32) : MoAt (gup σ (x + 11) (gI 1152 g)) x (sRow A 11 g) := by
  refine ⟨?_, ?_, ?_, ?_, ?_, ?_, ?_, ?_, ?_, ?_, ?_, ?_, ?_, ?_, ?_, ?_⟩
  · rw [gup_n (by omega)]; exact h.c0
  · rw [gup_n (by omega)]; exact h.c1
  · rw [gup_n (by omega)]; exact h.c2
  · rw [gup_n (by omega)]; exact h.c3
  · rw [gup_n (by omega)]; exact h.c4
  · rw [gup_n (by omega)]; exact h.c5
  · rw [gup_n (by omega)]; exact h.c6
  · rw [gup_n (by omega)]; exact h.c7
  · rw [gup_n (by omega)]; exact h.c8
  · rw [gup_n (by omega)]; exact h.c9
  · rw [gup_n (by omega)]; exact h.c10
  · rw [gup_s]; rw [sRow_s]
  · rw [gup_n (by omega)]; exact h.c12
  · rw [gup_n (by omega)]; exact h.c13
  · rw [gup_n (by omega)]; exact h.c14
  · rw [gup_n (by omega)]; exact h.c15
theorem MoAt.w12 {σ : gS} {x : Nat} {A : sS} (h : MoAt σ x A) (g : Nat → Int32) : MoAt (gup σ (x + 12) (gZ 12 g)) x (sRow A 12 g) := by
  refine ⟨?_, ?_, ?_, ?_, ?_, ?_, ?_, ?_, ?_, ?_, ?_, ?_, ?_, ?_, ?_, ?_⟩
  · rw [gup_n (by omega)]; exact h.c0
  · rw [gup_n (by omega)]; exact h.c1
  · rw [gup_n (by omega)]; exact h.c2
  · rw [gup_n (by omega)]; exact h.c3
  · rw [gup_n (by omega)]; exact h.c4
  · rw [gup_n (by omega)]; exact h.c5
  · rw [gup_n (by omega)]; exact h.c6
  · rw [gup_n (by omega)]; exact h.c7
  · rw [gup_n (by omega)]; exact h.c8
  · rw [gup_n (by omega)]; exact h.c9
  · rw [gup_n (by omega)]; exact h.c10
  · rw [gup_n (by omega)]; exact h.c11
  · rw [gup_s]; rw [sRow_s]
  · rw [gup_n (by omega)]; exact h.c13
  · rw [gup_n (by omega)]; exact h.c14
  · rw [gup_n (by omega)]; exact h.c15
theorem MoAt.w13 {σ : gS} {x : Nat} {A : sS} (h : MoAt σ x A) (g : Nat → Int32) : MoAt (gup σ (x + 13) (gI 1300 g)) x (sRow A 13 g) := by
  refine ⟨?_, ?_, ?_, ?_, ?_, ?_, ?_, ?_, ?_, ?_, ?_, ?_, ?_, ?_, ?_, ?_⟩
  · rw [gup_n (by omega)]; exact h.c0
  · rw [gup_n (by omega)]; exact h.c1
  · rw [gup_n (by omega)]; exact h.c2
  · rw [gup_n (by omega)]; exact h.c3
  · rw [gup_n (by omega)]; exact h.c4
  · rw [gup_n (by omega)]; exact h.c5
  · rw [gup_n (by omega)]; exact h.c6
  · rw [gup_n (by omega)]; exact h.c7
  · rw [gup_n (by omega)]; exact h.c8
  · rw [gup_n (by omega)]; exact h.c9
  · rw [gup_n (by omega)]; exact h.c10
  · rw [gup_n (by omega)]; exact h.c11
  · rw [gup_n (by omega)]; exact h.c12
  · rw [gup_s]; rw [sRow_s]
  · rw [gup_n (by omega)]; exact h.c14
  · rw [gup_n (by omega)]; exact h.c15
theorem MoAt.w14 {σ : gS} {x : Nat} {A : sS} (h : MoAt σ x A) (g : Nat → Int32) : MoAt (gup σ (x + 14) (gI 1300 g)) x (sRow A 14 g) := by
  refine ⟨?_, ?_, ?_, ?_, ?_, ?_, ?_, ?_, ?_, ?_, ?_, ?_, ?_, ?_, ?_, ?_⟩
  · rw [gup_n (by omega)]; exact h.c0
  · rw [gup_n (by omega)]; exact h.c1
  · rw [gup_n (by omega)]; exact h.c2
  · rw [gup_n (by omega)]; exact h.c3
  · rw [gup_n (by omega)]; exact h.c4
  · rw [gup_n (by omega)]; exact h.c5
  · rw [gup_n (by omega)]; exact h.c6
  · rw [gup_n (by omega)]; exact h.c7
  · rw [gup_n (by omega)]; exact h.c8
  · rw [gup_n (by omega)]; exact h.c9
  · rw [gup_n (by omega)]; exact h.c10
  · rw [gup_n (by omega)]; exact h.c11
  · rw [gup_n (by omega)]; exact h.c12
  · rw [gup_n (by omega)]; exact h.c13
  · rw [gup_s]; rw [sRow_s]
  · rw [gup_n (by omega)]; exact h.c15
theorem MoAt.w15 {σ : gS} {x : Nat} {A : sS} (h : MoAt σ x A) (g : Nat → Int32) : MoAt (gup σ (x + 15) (gI 1300 g)) x (sRow A 15 g) := by
  refine ⟨?_, ?_, ?_, ?_, ?_, ?_, ?_, ?_, ?_, ?_, ?_, ?_, ?_, ?_, ?_, ?_⟩
  · rw [gup_n (by omega)]; exact h.c0
  · rw [gup_n (by omega)]; exact h.c1
  · rw [gup_n (by omega)]; exact h.c2
  · rw [gup_n (by omega)]; exact h.c3
  · rw [gup_n (by omega)]; exact h.c4
  · rw [gup_n (by omega)]; exact h.c5
  · rw [gup_n (by omega)]; exact h.c6
  · rw [gup_n (by omega)]; exact h.c7
  · rw [gup_n (by omega)]; exact h.c8
  · rw [gup_n (by omega)]; exact h.c9
  · rw [gup_n (by omega)]; exact h.c10
  · rw [gup_n (by omega)]; exact h.c11
  · rw [gup_n (by omega)]; exact h.c12
  · rw [gup_n (by omega)]; exact h.c13
  · rw [gup_n (by omega)]; exact h.c14
  · rw [gup_s]; rw [sRow_s]
theorem StAt.p0 {σ : gS} {x : Nat} {S : sS} (h : StAt σ x S) (v : Nat) (hv : v < 2147483648) : StAt (gup σ x (gO 4 [.int (nI v), .int (nI (sN S)), .int (S 8 2), .int (nI (sK S)), .int (nI (sR S)), .ref (x + 1), .ref (x + 3), .ref (x + 5), .ref (x + 7), .ref (x + 9), .ref (x + 11), .ref (x + 13), .ref (x + 15)])) x (sPut S 8 0 (nI v)) := by
  refine ⟨?_, ?_, ?_, ?_, ?_, ?_, ?_, ?_, ?_, ?_, ?_, ?_, ?_, ?_, ?_, ?_, ?_⟩
  · rw [gup_s]; simp [sB, sN, sK, sR, tN, sPut, sRow, upd, nI_clamp hv]
  · rw [gup_n (by omega)]; exact h.c1
  · rw [gup_n (by omega)]; exact h.c2
  · rw [gup_n (by omega)]; exact h.c3
  · rw [gup_n (by omega)]; exact h.c4
  · rw [gup_n (by omega)]; exact h.c5
  · rw [gup_n (by omega)]; exact h.c6
  · rw [gup_n (by omega)]; exact h.c7
  · rw [gup_n (by omega)]; exact h.c8
  · rw [gup_n (by omega)]; exact h.c9
  · rw [gup_n (by omega)]; exact h.c10
  · rw [gup_n (by omega)]; exact h.c11
  · rw [gup_n (by omega)]; exact h.c12
  · rw [gup_n (by omega)]; exact h.c13
  · rw [gup_n (by omega)]; exact h.c14
  · rw [gup_n (by omega)]; exact h.c15
  · rw [gup_n (by omega)]; exact h.c16
theorem StAt.p1 {σ : gS} {x : Nat} {S : sS} (h : StAt σ x S) (v : Nat) (hv : v < 2147483648) : StAt (gup σ x (gO 4 [.int (nI (sB S)), .int (nI v), .int (S 8 2), .int (nI (sK S)), .int (nI (sR S)), .ref (x + 1), .ref (x + 3), .ref (x + 5), .ref (x + 7), .ref (x + 9), .ref (x + 11), .ref (x + 13), .ref (x + 15)])) x (sPut S 8 1 (nI v)) := by
  refine ⟨?_, ?_, ?_, ?_, ?_, ?_, ?_, ?_, ?_, ?_, ?_, ?_, ?_, ?_, ?_, ?_, ?_⟩
  · rw [gup_s]; simp [sB, sN, sK, sR, tN, sPut, sRow, upd, nI_clamp hv]
  · rw [gup_n (by omega)]; exact h.c1
  · rw [gup_n (by omega)]; exact h.c2
  · rw [gup_n (by omega)]; exact h.c3
  · rw [gup_n (by omega)]; exact h.c4
  · rw [gup_n (by omega)]; exact h.c5
  · rw [gup_n (by omega)]; exact h.c6
  · rw [gup_n (by omega)]; exact h.c7
  · rw [gup_n (by omega)]; exact h.c8
  · rw [gup_n (by omega)]; exact h.c9
  · rw [gup_n (by omega)]; exact h.c10
  · rw [gup_n (by omega)]; exact h.c11
  · rw [gup_n (by omega)]; exact h.c12
  · rw [gup_n (by omega)]; exact h.c13
  · rw [gup_n (by omega)]; exact h.c14
  · rw [gup_n (by omega)]; exact h.c15
  · rw [gup_n (by omega)]; exact h.c16
theorem StAt.p2 {σ : gS} {x : Nat} {S : sS} (h : StAt σ x S) (v : Int32) : StAt (gup σ x (gO 4 [.int (nI (sB S)), .int (nI (sN S)), .int v, .int (nI (sK S)), .int (nI (sR S)), .ref (x + 1), .ref (x + 3), .ref (x + 5), .ref (x + 7), .ref (x + 9), .ref (x + 11), .ref (x + 13), .ref (x + 15)])) x (sPut S 8 2 v) := by
  refine ⟨?_, ?_, ?_, ?_, ?_, ?_, ?_, ?_, ?_, ?_, ?_, ?_, ?_, ?_, ?_, ?_, ?_⟩
  · rw [gup_s]; simp [sB, sN, sK, sR, tN, sPut, sRow, upd]
  · rw [gup_n (by omega)]; exact h.c1
  · rw [gup_n (by omega)]; exact h.c2
  · rw [gup_n (by omega)]; exact h.c3
  · rw [gup_n (by omega)]; exact h.c4
  · rw [gup_n (by omega)]; exact h.c5
  · rw [gup_n (by omega)]; exact h.c6
  · rw [gup_n (by omega)]; exact h.c7
  · rw [gup_n (by omega)]; exact h.c8
  · rw [gup_n (by omega)]; exact h.c9
  · rw [gup_n (by omega)]; exact h.c10
  · rw [gup_n (by omega)]; exact h.c11
  · rw [gup_n (by omega)]; exact h.c12
  · rw [gup_n (by omega)]; exact h.c13
  · rw [gup_n (by omega)]; exact h.c14
  · rw [gup_n (by omega)]; exact h.c15
  · rw [gup_n (by omega)]; exact h.c16
theorem StAt.p3 {σ : gS} {x : Nat} {S : sS} (h : StAt σ x S) (v : Nat) (hv : v < 2147483648) : StAt (gup σ x (gO 4 [.int (nI (sB S)), .int (nI (sN S)), .int (S 8 2), .int (nI v), .int (nI (sR S)), .ref (x + 1), .ref (x + 3), .ref (x + 5), .ref (x + 7), .ref (x + 9), .ref (x + 11), .ref (x + 13), .ref (x + 15)])) x (sPut S 8 3 (nI v)) := by
  refine ⟨?_, ?_, ?_, ?_, ?_, ?_, ?_, ?_, ?_, ?_, ?_, ?_, ?_, ?_, ?_, ?_, ?_⟩
  · rw [gup_s]; simp [sB, sN, sK, sR, tN, sPut, sRow, upd, nI_clamp hv]
  · rw [gup_n (by omega)]; exact h.c1
  · rw [gup_n (by omega)]; exact h.c2
  · rw [gup_n (by omega)]; exact h.c3
  · rw [gup_n (by omega)]; exact h.c4
  · rw [gup_n (by omega)]; exact h.c5
  · rw [gup_n (by omega)]; exact h.c6
  · rw [gup_n (by omega)]; exact h.c7
  · rw [gup_n (by omega)]; exact h.c8
  · rw [gup_n (by omega)]; exact h.c9
  · rw [gup_n (by omega)]; exact h.c10
  · rw [gup_n (by omega)]; exact h.c11
  · rw [gup_n (by omega)]; exact h.c12
  · rw [gup_n (by omega)]; exact h.c13
  · rw [gup_n (by omega)]; exact h.c14
  · rw [gup_n (by omega)]; exact h.c15
  · rw [gup_n (by omega)]; exact h.c16
theorem StAt.p4 {σ : gS} {x : Nat} {S : sS} (h : StAt σ x S) (v : Nat) (hv : v < 2147483648) : StAt (gup σ x (gO 4 [.int (nI (sB S)), .int (nI (sN S)), .int (S 8 2), .int (nI (sK S)), .int (nI v), .ref (x + 1), .ref (x + 3), .ref (x + 5), .ref (x + 7), .ref (x + 9), .ref (x + 11), .ref (x + 13), .ref (x + 15)])) x (sPut S 8 4 (nI v)) := by
  refine ⟨?_, ?_, ?_, ?_, ?_, ?_, ?_, ?_, ?_, ?_, ?_, ?_, ?_, ?_, ?_, ?_, ?_⟩
  · rw [gup_s]; simp [sB, sN, sK, sR, tN, sPut, sRow, upd, nI_clamp hv]
  · rw [gup_n (by omega)]; exact h.c1
  · rw [gup_n (by omega)]; exact h.c2
  · rw [gup_n (by omega)]; exact h.c3
  · rw [gup_n (by omega)]; exact h.c4
  · rw [gup_n (by omega)]; exact h.c5
  · rw [gup_n (by omega)]; exact h.c6
  · rw [gup_n (by omega)]; exact h.c7
  · rw [gup_n (by omega)]; exact h.c8
  · rw [gup_n (by omega)]; exact h.c9
  · rw [gup_n (by omega)]; exact h.c10
  · rw [gup_n (by omega)]; exact h.c11
  · rw [gup_n (by omega)]; exact h.c12
  · rw [gup_n (by omega)]; exact h.c13
  · rw [gup_n (by omega)]; exact h.c14
  · rw [gup_n (by omega)]; exact h.c15
  · rw [gup_n (by omega)]; exact h.c16
theorem TxAt.p1 {σ : gS} {x : Nat} {f : Nat → Int32} {n a : Nat} {so ld ti : Int32} (h : TxAt σ x f n a so ld ti) (v : Nat) : TxAt (gup σ x (gO 3 [.ref (x + 1), .int (nI v), .int (nI a), .int so, .int ld, .int ti])) x f v a so ld ti := by
  refine ⟨?_, ?_, ?_⟩
  · rw [gup_s]
  · rw [gup_n (by omega)]; exact h.c1
  · rw [gup_n (by omega)]; exact h.c2
theorem TxAt.p2 {σ : gS} {x : Nat} {f : Nat → Int32} {n a : Nat} {so ld ti : Int32} (h : TxAt σ x f n a so ld ti) (v : Nat) : TxAt (gup σ x (gO 3 [.ref (x + 1), .int (nI n), .int (nI v), .int so, .int ld, .int ti])) x f n v so ld ti := by
  refine ⟨?_, ?_, ?_⟩
  · rw [gup_s]
  · rw [gup_n (by omega)]; exact h.c1
  · rw [gup_n (by omega)]; exact h.c2
theorem TxAt.p3 {σ : gS} {x : Nat} {f : Nat → Int32} {n a : Nat} {so ld ti : Int32} (h : TxAt σ x f n a so ld ti) (v : Int32) : TxAt (gup σ x (gO 3 [.ref (x + 1), .int (nI n), .int (nI a), .int v, .int ld, .int ti])) x f n a v ld ti := by
  refine ⟨?_, ?_, ?_⟩
  · rw [gup_s]
  · rw [gup_n (by omega)]; exact h.c1
  · rw [gup_n (by omega)]; exact h.c2
theorem TxAt.p4 {σ : gS} {x : Nat} {f : Nat → Int32} {n a : Nat} {so ld ti : Int32} (h : TxAt σ x f n a so ld ti) (v : Int32) : TxAt (gup σ x (gO 3 [.ref (x + 1), .int (nI n), .int (nI a), .int so, .int v, .int ti])) x f n a so v ti := by
  refine ⟨?_, ?_, ?_⟩
  · rw [gup_s]
  · rw [gup_n (by omega)]; exact h.c1
  · rw [gup_n (by omega)]; exact h.c2
theorem TxAt.p5 {σ : gS} {x : Nat} {f : Nat → Int32} {n a : Nat} {so ld ti : Int32} (h : TxAt σ x f n a so ld ti) (v : Int32) : TxAt (gup σ x (gO 3 [.ref (x + 1), .int (nI n), .int (nI a), .int so, .int ld, .int v])) x f n a so ld v := by
  refine ⟨?_, ?_, ?_⟩
  · rw [gup_s]
  · rw [gup_n (by omega)]; exact h.c1
  · rw [gup_n (by omega)]; exact h.c2
theorem MoAt.p3 {σ : gS} {x : Nat} {A : sS} (h : MoAt σ x A) (v : Nat) (hv : v < 2147483648) : MoAt (gup σ x (gO 8 [.ref (x + 1), .ref (x + 2), .ref (x + 3), .int (nI v), .ref (x + 4), .ref (x + 5), .int (nI (tN A 1)), .ref (x + 6), .int (nI (tN A 2)), .ref (x + 7), .ref (x + 8), .ref (x + 9), .int (nI (tN A 3)), .ref (x + 10), .ref (x + 11), .ref (x + 12), .int (nI (tN A 4)), .ref (x + 13), .ref (x + 14), .ref (x + 15)])) x (sPut A 0 0 (nI v)) := by
  refine ⟨?_, ?_, ?_, ?_, ?_, ?_, ?_, ?_, ?_, ?_, ?_, ?_, ?_, ?_, ?_, ?_⟩
  · rw [gup_s]; simp [sB, sN, sK, sR, tN, sPut, sRow, upd, nI_clamp hv]
  · rw [gup_n (by omega)]; exact h.c1
  · rw [gup_n (by omega)]; exact h.c2
  · rw [gup_n (by omega)]; exact h.c3
  · rw [gup_n (by omega)]; exact h.c4
  · rw [gup_n (by omega)]; exact h.c5
  · rw [gup_n (by omega)]; exact h.c6
  · rw [gup_n (by omega)]; exact h.c7
  · rw [gup_n (by omega)]; exact h.c8
  · rw [gup_n (by omega)]; exact h.c9
  · rw [gup_n (by omega)]; exact h.c10
  · rw [gup_n (by omega)]; exact h.c11
  · rw [gup_n (by omega)]; exact h.c12
  · rw [gup_n (by omega)]; exact h.c13
  · rw [gup_n (by omega)]; exact h.c14
  · rw [gup_n (by omega)]; exact h.c15
theorem MoAt.p6 {σ : gS} {x : Nat} {A : sS} (h : MoAt σ x A) (v : Nat) (hv : v < 2147483648) : MoAt (gup σ x (gO 8 [.ref (x + 1), .ref (x + 2), .ref (x + 3), .int (nI (tN A 0)), .ref (x + 4), .ref (x + 5), .int (nI v), .ref (x + 6), .int (nI (tN A 2)), .ref (x + 7), .ref (x + 8), .ref (x + 9), .int (nI (tN A 3)), .ref (x + 10), .ref (x + 11), .ref (x + 12), .int (nI (tN A 4)), .ref (x + 13), .ref (x + 14), .ref (x + 15)])) x (sPut A 0 1 (nI v)) := by
  refine ⟨?_, ?_, ?_, ?_, ?_, ?_, ?_, ?_, ?_, ?_, ?_, ?_, ?_, ?_, ?_, ?_⟩
  · rw [gup_s]; simp [sB, sN, sK, sR, tN, sPut, sRow, upd, nI_clamp hv]
  · rw [gup_n (by omega)]; exact h.c1
  · rw [gup_n (by omega)]; exact h.c2
  · rw [gup_n (by omega)]; exact h.c3
  · rw [gup_n (by omega)]; exact h.c4
  · rw [gup_n (by omega)]; exact h.c5
  · rw [gup_n (by omega)]; exact h.c6
  · rw [gup_n (by omega)]; exact h.c7
  · rw [gup_n (by omega)]; exact h.c8
  · rw [gup_n (by omega)]; exact h.c9
  · rw [gup_n (by omega)]; exact h.c10
  · rw [gup_n (by omega)]; exact h.c11
  · rw [gup_n (by omega)]; exact h.c12
  · rw [gup_n (by omega)]; exact h.c13
  · rw [gup_n (by omega)]; exact h.c14
  · rw [gup_n (by omega)]; exact h.c15
theorem MoAt.p8 {σ : gS} {x : Nat} {A : sS} (h : MoAt σ x A) (v : Nat) (hv : v < 2147483648) : MoAt (gup σ x (gO 8 [.ref (x + 1), .ref (x + 2), .ref (x + 3), .int (nI (tN A 0)), .ref (x + 4), .ref (x + 5), .int (nI (tN A 1)), .ref (x + 6), .int (nI v), .ref (x + 7), .ref (x + 8), .ref (x + 9), .int (nI (tN A 3)), .ref (x + 10), .ref (x + 11), .ref (x + 12), .int (nI (tN A 4)), .ref (x + 13), .ref (x + 14), .ref (x + 15)])) x (sPut A 0 2 (nI v)) := by
  refine ⟨?_, ?_, ?_, ?_, ?_, ?_, ?_, ?_, ?_, ?_, ?_, ?_, ?_, ?_, ?_, ?_⟩
  · rw [gup_s]; simp [sB, sN, sK, sR, tN, sPut, sRow, upd, nI_clamp hv]
  · rw [gup_n (by omega)]; exact h.c1
  · rw [gup_n (by omega)]; exact h.c2
  · rw [gup_n (by omega)]; exact h.c3
  · rw [gup_n (by omega)]; exact h.c4
  · rw [gup_n (by omega)]; exact h.c5
  · rw [gup_n (by omega)]; exact h.c6
  · rw [gup_n (by omega)]; exact h.c7
  · rw [gup_n (by omega)]; exact h.c8
  · rw [gup_n (by omega)]; exact h.c9
  · rw [gup_n (by omega)]; exact h.c10
  · rw [gup_n (by omega)]; exact h.c11
  · rw [gup_n (by omega)]; exact h.c12
  · rw [gup_n (by omega)]; exact h.c13
  · rw [gup_n (by omega)]; exact h.c14
  · rw [gup_n (by omega)]; exact h.c15
theorem MoAt.p12 {σ : gS} {x : Nat} {A : sS} (h : MoAt σ x A) (v : Nat) (hv : v < 2147483648) : MoAt (gup σ x (gO 8 [.ref (x + 1), .ref (x + 2), .ref (x + 3), .int (nI (tN A 0)), .ref (x + 4), .ref (x + 5), .int (nI (tN A 1)), .ref (x + 6), .int (nI (tN A 2)), .ref (x + 7), .ref (x + 8), .ref (x + 9), .int (nI v), .ref (x + 10), .ref (x + 11), .ref (x + 12), .int (nI (tN A 4)), .ref (x + 13), .ref (x + 14), .ref (x + 15)])) x (sPut A 0 3 (nI v)) := by
  refine ⟨?_, ?_, ?_, ?_, ?_, ?_, ?_, ?_, ?_, ?_, ?_, ?_, ?_, ?_, ?_, ?_⟩
  · rw [gup_s]; simp [sB, sN, sK, sR, tN, sPut, sRow, upd, nI_clamp hv]
  · rw [gup_n (by omega)]; exact h.c1
  · rw [gup_n (by omega)]; exact h.c2
  · rw [gup_n (by omega)]; exact h.c3
  · rw [gup_n (by omega)]; exact h.c4
  · rw [gup_n (by omega)]; exact h.c5
  · rw [gup_n (by omega)]; exact h.c6
  · rw [gup_n (by omega)]; exact h.c7
  · rw [gup_n (by omega)]; exact h.c8
  · rw [gup_n (by omega)]; exact h.c9
  · rw [gup_n (by omega)]; exact h.c10
  · rw [gup_n (by omega)]; exact h.c11
  · rw [gup_n (by omega)]; exact h.c12
  · rw [gup_n (by omega)]; exact h.c13
  · rw [gup_n (by omega)]; exact h.c14
  · rw [gup_n (by omega)]; exact h.c15
theorem MoAt.p16 {σ : gS} {x : Nat} {A : sS} (h : MoAt σ x A) (v : Nat) (hv : v < 2147483648) : MoAt (gup σ x (gO 8 [.ref (x + 1), .ref (x + 2), .ref (x + 3), .int (nI (tN A 0)), .ref (x + 4), .ref (x + 5), .int (nI (tN A 1)), .ref (x + 6), .int (nI (tN A 2)), .ref (x + 7), .ref (x + 8), .ref (x + 9), .int (nI (tN A 3)), .ref (x + 10), .ref (x + 11), .ref (x + 12), .int (nI v), .ref (x + 13), .ref (x + 14), .ref (x + 15)])) x (sPut A 0 4 (nI v)) := by
  refine ⟨?_, ?_, ?_, ?_, ?_, ?_, ?_, ?_, ?_, ?_, ?_, ?_, ?_, ?_, ?_, ?_⟩
  · rw [gup_s]; simp [sB, sN, sK, sR, tN, sPut, sRow, upd, nI_clamp hv]
  · rw [gup_n (by omega)]; exact h.c1
  · rw [gup_n (by omega)]; exact h.c2
  · rw [gup_n (by omega)]; exact h.c3
  · rw [gup_n (by omega)]; exact h.c4
  · rw [gup_n (by omega)]; exact h.c5
  · rw [gup_n (by omega)]; exact h.c6
  · rw [gup_n (by omega)]; exact h.c7
  · rw [gup_n (by omega)]; exact h.c8
  · rw [gup_n (by omega)]; exact h.c9
  · rw [gup_n (by omega)]; exact h.c10
  · rw [gup_n (by omega)]; exact h.c11
  · rw [gup_n (by omega)]; exact h.c12
  · rw [gup_n (by omega)]; exact h.c13
  · rw [gup_n (by omega)]; exact h.c14
  · rw [gup_n (by omega)]; exact h.c15
theorem VoAt.p2 {σ : gS} {x : Nat} {d f : Nat → Int32} {b : Nat} {w : Int32} (h : VoAt σ x d f b w) (v : Nat) : VoAt (gup σ x (gO 6 [.ref (x + 1), .ref (x + 3), .int (nI v), .int w])) x d f v w := by
  refine ⟨?_, ?_, ?_, ?_, ?_⟩
  · rw [gup_s]
  · rw [gup_n (by omega)]; exact h.c1
  · rw [gup_n (by omega)]; exact h.c2
  · rw [gup_n (by omega)]; exact h.c3
  · rw [gup_n (by omega)]; exact h.c4
theorem VoAt.p3 {σ : gS} {x : Nat} {d f : Nat → Int32} {b : Nat} {w : Int32} (h : VoAt σ x d f b w) (v : Int32) : VoAt (gup σ x (gO 6 [.ref (x + 1), .ref (x + 3), .int (nI b), .int v])) x d f b v := by
  refine ⟨?_, ?_, ?_, ?_, ?_⟩
  · rw [gup_s]
  · rw [gup_n (by omega)]; exact h.c1
  · rw [gup_n (by omega)]; exact h.c2
  · rw [gup_n (by omega)]; exact h.c3
  · rw [gup_n (by omega)]; exact h.c4
/-! two maps agree off a set -/
def gAs (Z : Nat → Prop) (σ τ : gS) : Prop := ∀ q : Nat, ¬ Z q → τ q = σ q
def gZo (x n : Nat) : Nat → Prop := fun q => x ≤ q ∧ q < x + n
theorem gAs.rf {Z : Nat → Prop} {σ : gS} : gAs Z σ σ := fun _ _ => rfl
theorem gAs.up {Z : Nat → Prop} {σ τ : gS} (h : gAs Z σ τ) {a : Nat} (ha : Z a) (e : Option gC) : gAs Z σ (gup τ a e) := fun q hq => by
  exact (gup_n (fun h2 => hq (by rw [h2]; exact ha))).trans (h q hq)
theorem gup_here {σ τ : gS} {a : Nat} {c : Option gC} (e : τ = gup σ a c) : τ a = c := by rw [e, gup_s]
theorem gup_eq {σ τ : gS} {a q : Nat} {c : Option gC} (e : τ = gup σ a c) (h : q ≠ a) : τ q = σ q := by rw [e, gup_n h]
theorem gup_off {σ τ : gS} {a q : Nat} {c d : Option gC} (e : τ = gup σ a c) (h : q ≠ a) (h2 : σ q = d) : τ q = d := by rw [e, gup_n h, h2]
theorem gAs.upe {Z : Nat → Prop} {σ τ υ : gS} (h : gAs Z σ τ) {a : Nat} {c : Option gC} (e : υ = gup τ a c) (ha : Z a) : gAs Z σ υ := by rw [e]; exact h.up ha c
theorem ad_0 {x : Nat} (k : Nat) (h : 0 < k) : x ≠ x + k := by omega
theorem ad_1 {x : Nat} (k : Nat) (h : 0 < k) : x + k ≠ x := by omega
theorem ad_2 {x j k : Nat} (h : j ≠ k) : x + j ≠ x + k := by omega
theorem zo_0 {x n : Nat} (h : 0 < n) : gZo x n x := ⟨Nat.le_refl _, by omega⟩
theorem zo_k {x n k : Nat} (h : k < n) : gZo x n (x + k) := ⟨Nat.le_add_right _ _, by omega⟩
theorem gAs.tr {Z Y : Nat → Prop} {σ τ υ : gS} (h : gAs Z σ τ) (h2 : gAs Y τ υ) (hYZ : ∀ q, Y q → Z q) : gAs Z σ υ := fun q hq => (h2 q (fun y => hq (hYZ q y))).trans (h q hq)
theorem gup_gup (σ : gS) (a : Nat) (e e2 : Option gC) : gup (gup σ a e) a e2 = gup σ a e2 := by
  funext q
  by_cases h : q = a
  · rw [h, gup_s, gup_s]
  · rw [gup_n h, gup_n h, gup_n h]
theorem gup_self {σ : gS} {a : Nat} {e : Option gC} (h : σ a = e) : gup σ a e = σ := by
  funext q
  by_cases hq : q = a
  · rw [hq, gup_s, h]
  · rw [gup_n hq]
/-- an int array's contents count as far as it is long -/
theorem gH.ext {D : va_G} {ka : Nat → ClassId} {σ : gS} {H : Heap} {a n : Nat} {f g : Nat → Int32} (h : gH D ka (gup σ a (gI n f)) H) (hfg : ∀ i, i < n → f i = g i) : gH D ka (gup σ a (gI n g)) H := fun q x hx => by
  by_cases hq : q = a
  · subst hq
    rw [gup_s] at hx
    cases hx
    have h1 : H[q]? = some (vp_cell (ka 0) (n, .inl f)) := h q _ (gup_s _ _ _)
    show H[q]? = some (vp_cell (ka 0) (n, .inl g))
    rw [h1, vp_cell_i, vp_cell_i]
    unfold arrV
    congr 3
    funext j
    show Value.int (f j.val) = Value.int (g j.val)
    rw [hfg j.val j.isLt]
  · rw [gup_n hq] at hx
    exact h q x (by rw [gup_n hq]; exact hx)
theorem gi_i {r r' : Int32} {τ τ' : gS} {z : Nat} (h : r' = r) (ht : τ' = τ) : gi r τ z (some (.int r')) τ' z := ⟨by rw [h], ht, rfl⟩
theorem gv_i {τ τ' : gS} {z : Nat} (ht : τ' = τ) : gv τ z none τ' z := ⟨rfl, ht, rfl⟩
theorem gxi_i {P : Int32 → gS → Nat → Prop} {r : Int32} {τ : gS} {z : Nat} (h : P r τ z) : gxi P (some (.int r)) τ z := ⟨r, rfl, h⟩
theorem gxv_i {P : gS → Nat → Prop} {τ : gS} {z : Nat} (h : P τ z) : gxv P none τ z := ⟨rfl, h⟩
theorem gAs.one {σ : gS} {a : Nat} {e : Option gC} : gAs (gZo a 1) σ (gup σ a e) := fun q hq => gup_n (fun h => hq ⟨by omega, by omega⟩)
