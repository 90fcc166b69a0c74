/-! the world as a map from addresses to what the cells hold; a contract says what the map is behind the method -/
abbrev gC : Type := (Nat × List Value) ⊕ ((Nat × Nat × (Nat → Int32)) ⊕ (Nat × (Nat → Option Nat)))
abbrev gS : Type := Nat → Option gC
def gX (ka : Nat → ClassId) (e : gC) : va_E := match e with
  | .inl o => .inr o
  | .inr (.inl (t, n, f)) => .inl (ka t, n, .inl f)
  | .inr (.inr (n, f)) => .inl (ka 3, n, .inr (.inr (.inr (.inr f))))
/-- an object, an int array, a boolean array, a char array, an array of States -/
abbrev gO (ci : Nat) (fs : List Value) : Option gC := some (.inl (ci, fs))
abbrev gI (n : Nat) (f : Nat → Int32) : Option gC := some (.inr (.inl (0, n, f)))
abbrev gZ (n : Nat) (f : Nat → Int32) : Option gC := some (.inr (.inl (1, n, f)))
abbrev gT (n : Nat) (f : Nat → Int32) : Option gC := some (.inr (.inl (2, n, f)))
abbrev gR (n : Nat) (f : Nat → Option Nat) : Option gC := some (.inr (.inr (n, f)))
def gup (σ : gS) (a : Nat) (e : Option gC) : gS := fun q => if q = a then e else σ q
theorem gup_s (σ : gS) (a : Nat) (e : Option gC) : gup σ a e a = e := if_pos rfl
theorem gup_n {σ : gS} {a q : Nat} {e : Option gC} (h : q ≠ a) : gup σ a e q = σ q := if_neg h
def gH (D : va_G) (ka : Nat → ClassId) (σ : gS) (H : Heap) : Prop := ∀ (q : Nat) (e : gC), σ q = some e → va_at D vwCl (q, gX ka e) H
def gtys (ka : Nat → ClassId) : List (ClassId × FieldType) := [(ka 0, .int), (ka 0, .int), (ka 0, .int), (ka 3, .object RX4)]
/-- the calls of private members of nest mates -/
def gNl : List (String × Nat × MethodName) := [(RX7, 18, yX3_init), (RX7, 25, yX1_init), (RX7, 36, yX6_init), (RX7, 43, yX0_init), (RX7, 50, yX5_init), (RX3, 60, yX7_isWithin), (RX4, 85, yX7_bit), (RX4, 88, yX7_contains), (RX5, 98, yX7_contains), (RX5, 76, yX7_bit), (RX0, 58, yX7_bit), (RX0, 96, yX7_contains)]
def gNest (U : State) : Prop := ∀ w ∈ gNl, va_Nw (.methodLinkNest w.1 w.2.1 w.2.2 RX7) U
def gK (D : va_G) (ka : Nat → ClassId) (U : State) : Prop := va_K D vwCl (gtys ka) U ∧ va_AO RX4 U ∧ gNest U
def gL (lo : Nat) (σ : gS) : Prop := ∀ (q : Nat) (e : gC), σ q = some e → lo ≤ q
def gA (lo : Nat) : Nat → Prop := fun q => lo ≤ q
theorem gK.warm {D : va_G} {ka : Nat → ClassId} {s U : State} (hW : s.WarmedH U.vm) (h : gK D ka s) : gK D ka U := ⟨va_K.moved hW.alike h.1, va_AO.moved hW.alike h.2.1, fun w hw => va_Nw.warmM hW (h.2.2 w hw)⟩
theorem gK.same {D : va_G} {ka : Nat → ClassId} {s U : State} (hv : s.vm = U.vm) (h : gK D ka s) : gK D ka U := by
  have ha : s.vm.Alike U.vm := by rw [hv]; exact Vm.Alike.refl _
  exact ⟨va_K.moved ha h.1, va_AO.moved ha h.2.1, fun w hw => va_Nw.same rfl hv (h.2.2 w hw)⟩
theorem gL.up {lo : Nat} {σ : gS} (h : gL lo σ) {a : Nat} (ha : lo ≤ a) (e : Option gC) : gL lo (gup σ a e) := fun q x hx => by
  by_cases hq : q = a
  · rw [hq]; exact ha
  · rw [gup_n hq] at hx; exact h q x hx
theorem gH.one {D : va_G} {ka : Nat → ClassId} {σ : gS} {H : Heap} (h : gH D ka σ H) {a : Nat} {e : gC} (he : σ a = some e) : va_P D vwCl [(a, gX ka e)] H := fun k q hk => by
  cases k with
  | zero => cases hk; exact h a e he
  | succ k => simp at hk
theorem gH.lt {D : va_G} {ka : Nat → ClassId} {σ : gS} {H : Heap} (h : gH D ka σ H) {a : Nat} {e : gC} (he : σ a = some e) : a < H.size := (h a e he).lt
theorem gH.set {D : va_G} {ka : Nat → ClassId} {σ : gS} {H H1 : Heap} (h : gH D ka σ H) {a : Nat} {e : gC} (he : va_at D vwCl (a, gX ka e) H1) (oq : ∀ q : Nat, q ≠ a → H1[q]? = H[q]?) : gH D ka (gup σ a (some e)) H1 := fun q x hx => by
  by_cases hq : q = a
  · subst hq
    rw [gup_s] at hx
    cases hx
    exact he
  · rw [gup_n hq] at hx
    exact (h q x hx).kept (oq q hq)
theorem gH.push {D : va_G} {ka : Nat → ClassId} {σ : gS} {H H1 : Heap} {z : Nat} (hz : H.size = z) (h : gH D ka σ H) {e : gC} (he : va_at D vwCl (z, gX ka e) H1) (oq : ∀ q : Nat, q < z → H1[q]? = H[q]?) : gH D ka (gup σ z (some e)) H1 := fun q x hx => by
  by_cases hq : q = z
  · subst hq
    rw [gup_s] at hx
    cases hx
    exact he
  · rw [gup_n hq] at hx
    exact (h q x hx).kept (oq q (by rw [← hz]; exact h.lt hx))
theorem gS.put {lo : Nat} {H0 H H1 : Heap} {locs : List Loc} {a k : Nat} (h : va_S (gA lo) H0 H locs) (z : H1.size = H.size) (oq : ∀ q : Nat, q ≠ a → H1[q]? = H[q]?) (ha : lo ≤ a) : va_S (gA lo) H0 H1 (locs ++ [⟨a, k⟩]) := h.put z oq ha
theorem gS.push {lo : Nat} {H0 H H1 : Heap} {locs : List Loc} {z : Nat} (hz : H.size = z) (h : va_S (gA lo) H0 H locs) (z1 : H1.size = z + 1) (oq : ∀ q : Nat, q < z → H1[q]? = H[q]?) : va_S (gA lo) H0 H1 locs :=
  ⟨by have := h.1; omega, fun q h1 h2 => (oq q (by have := h.1; omega)).trans (h.2.1 q h1 h2), h.2.2⟩
/-! contracts -/
def gP (D : va_G) (ka : Nat → ClassId) (σ : gS) (sz : Nat) (As : List Value) : Array Value → State → Prop := va_Pc As (fun U => U.heap.size = sz ∧ gH D ka σ U.heap ∧ gK D ka U)
def gQ (D : va_G) (ka : Nat → ClassId) (lo : Nat) (post : Option Value → gS → Nat → Prop) : Array Value → State → Outcome → State → Prop := fun _ st oc t => (∃ (v : Option Value) (τ : gS), oc = .returned v ∧ post v τ t.heap.size ∧ gH D ka τ t.heap ∧ gL lo τ) ∧ va_F (gA lo) st t
def gM (l : Launch) (y : MethodName) (ws : List Cond) (rm : Room) (mc ms : Nat) (As : List Value) (σ : gS) (sz : Nat) (post : Option Value → gS → Nat → Prop) : Prop :=
  ∀ (D : va_G) (ka : Nat → ClassId) (lo : Nat), gL lo σ → lo ≤ sz → Met l y ws rm (gP D ka σ sz As) (gQ D ka lo post) mc ms (gA lo)
/-- the ends: an int and a map; nothing and a map -/
def gi (r : Int32) (τ : gS) (z : Nat) : Option Value → gS → Nat → Prop := fun v u n => v = some (.int r) ∧ u = τ ∧ n = z
def gv (τ : gS) (z : Nat) : Option Value → gS → Nat → Prop := fun v u n => v = none ∧ u = τ ∧ n = z
def bI (b : Bool) : Int32 := if b then 1 else 0
theorem bI_n (b : Bool) : narrow .boolean (.int (bI b)) = .int (bI b) := by cases b <;> rfl
theorem gM_mono {l : Launch} {y : MethodName} {ws : List Cond} {rm : Room} {mc ms : Nat} {As : List Value} {σ : gS} {sz : Nat} {P1 P2 : Option Value → gS → Nat → Prop} (h : gM l y ws rm mc ms As σ sz P1) (hp : ∀ v τ n, P1 v τ n → P2 v τ n) : gM l y ws rm mc ms As σ sz P2 := by
  intro D ka lo hL hlo p e ha hc hk s m args below hf hfit happ hP
  obtain ⟨k, o, h1, h2, h3, ⟨⟨⟨v, τ, e1, e2, e3, e4⟩, hF⟩, hE⟩⟩ := h D ka lo hL hlo p e ha hc hk s m args below hf hfit happ hP
  exact ⟨k, o, h1, h2, h3, ⟨⟨⟨v, τ, e1, hp _ _ _ e2, e3, e4⟩, hF⟩, hE⟩⟩
theorem gM_of {l : Launch} {y : MethodName} {ws ws' : List Cond} {rm : Room} {mc ms : Nat} {As : List Value} {σ : gS} {sz : Nat} {post : Option Value → gS → Nat → Prop} {cc : ByteArray} {maxL : Nat} {ret : Option FieldType} (hy : plainName y.cls = true) (hw : ws = .code y cc maxL ret :: ws') (hAs : (lg_sl As).length ≤ maxL)
    (body : ∀ (D : va_G) (ka : Nat → ClassId) (lo : Nat), gL lo σ → lo ≤ sz → ∀ (p : Program) (e : Env) (s : State) (m : MethodId) (below : List Frame) (meth : Method) (c : Code), p.tables.exec = Jvm.exec → c.code = cc → meth.sig.returnType = ret → (∀ w ∈ ws, w.before As.toArray s = true) → s.vm.findClass y.cls = some m.cls → c.maxLocals = maxL → meth.locks = false → meth.name = y.name → gK D ka s →
      ∀ (H : Heap) (locs : List Loc) (ls : Array Slot), H.size = sz → gH D ka σ H → va_S (gA lo) s.heap H locs → lv_has ls maxL (lv_args 0 As) → W p l e rm s m As.toArray below meth c H locs 0 0 (MQ below (gQ D ka lo post) As.toArray s mc ms (gA lo)) (F0 m 0 ls [])) : gM l y ws rm mc ms As σ sz post := by
  intro D ka lo hL hlo
  refine Met.ofW (cc := cc) (maxL := maxL) (ret := ret) hy hw ?_
  intro p e s m args below meth c s₁ B hml hv
  obtain ⟨rfl, hsz, hP, hK⟩ := hv
  have hl := lv_entry As (n := maxL) hAs
  rw [lg_entry_eq]
  exact body D ka lo hL hlo p e s m below meth c B.exec B.bytes B.returns (atoms_spec (ws := ws) B.pre) (findClass_of_methodNamed B.named) hml B.notSynchronized (name_of_methodNamed B.named B.method).1 hK s.heap [] _ hsz hP va_S.rf hl
section GROWS
variable {p : Program} {l : Launch} {e : Env} {R : Room} {s : State} {m : MethodId} {args : Array Value} {below : List Frame} {meth : Method} {c : Code} {H : Heap} {locs : List Loc} {cells slots : Nat} {Q : State → Prop}
variable {cc : ByteArray} {pc : Nat} {ls : Array Slot} {rest : List Value} {D : va_G} {ka : Nat → ClassId} {σ : gS} {a lo : Nat}
theorem g_get (hx : p.tables.exec = Jvm.exec) (hb : c.code = cc) {own ref C : String} {T : u_T} {N ci index : Nat} {Ts : List Cond} (hts : ∀ w ∈ Ts, w.before args s = true) (hown : s.vm.findClass own = some m.cls) (hK : gK D ka s) (hP : gH D ka σ H) {fs : List Value} (he : σ a = gO ci fs) (hin : ∀ w ∈ u_ws C T N, w ∈ Ts) (hc : vwCl[ci]? = some (C, T, N)) (k : Nat) (hk : k < N) (hlink : Cond.fieldLink own index ref (T k).2.1 (T k).2.2.1 ∈ Ts) (hsame : (T k).1 = ref) {v : Value} (hv : fs[k]? = some v) (hdg : decode cc pc = .ok (.getfield index, 3))
    (kk : W p l e R s m args below meth c H locs cells slots Q (F0 m (pc + 3) ls (v :: rest))) : W p l e R s m args below meth c H locs cells slots Q (F0 m pc ls (.ref a :: rest)) :=
  va_get hx hb hts hin hown hK.1 (hP.one he) 0 rfl hc k hk (hts _ hlink) (fun x h => by rw [← hsame]; exact h) hv hdg kk
theorem g_put (hx : p.tables.exec = Jvm.exec) (hb : c.code = cc) {own ref C : String} {T : u_T} {N ci index : Nat} {Ts : List Cond} (hts : ∀ w ∈ Ts, w.before args s = true) (hown : s.vm.findClass own = some m.cls) (hK : gK D ka s) (hP : gH D ka σ H) (hL : gL lo σ) (hS : va_S (gA lo) s.heap H locs) {fs : List Value} (he : σ a = gO ci fs) (hin : ∀ w ∈ u_ws C T N, w ∈ Ts) (ty0 : Nat → FieldType) (hty : ∀ k, k < N → parseFieldDescriptor (T k).2.2.1 = some (ty0 k)) (hnm : ∀ a, a < N → ∀ b, b < N → a ≠ b → (T a).2.1 ≠ (T b).2.1) (hc : vwCl[ci]? = some (C, T, N)) (k : Nat) (hk : k < N) (hlink : Cond.fieldLink own index ref (T k).2.1 (T k).2.2.1 ∈ Ts) (hsame : (T k).1 = ref) (hfin : (T k).2.2.2 = false) {v : Value} (hn : narrow (ty0 k) v = v) (hfit : fits (ty0 k) v = true) (hl : k < fs.length) (hdg : decode cc pc = .ok (.putfield index, 3))
    (kk : ∀ (H1 : Heap) (locs1 : List Loc), H1.size = H.size → gH D ka (gup σ a (gO ci (fs.set k v))) H1 → gL lo (gup σ a (gO ci (fs.set k v))) → va_S (gA lo) s.heap H1 locs1 → W p l e R s m args below meth c H1 locs1 cells slots Q (F0 m (pc + 3) ls rest)) : W p l e R s m args below meth c H locs cells slots Q (F0 m pc ls (v :: .ref a :: rest)) := by
  have hap := va_apart (own := own) hts hin ty0 hty hnm hK.1 hc
  obtain ⟨r, h1, cell, q1, q2, q3, q4⟩ := hP a _ he
  have hr : r = (C, T, N) := Option.some.inj (h1.symm.trans hc)
  subst hr
  obtain ⟨hS1, hfc, kC, hkC, hkind⟩ := hK.1.1 ci _ hc
  obtain ⟨cf, kf, fi, f, hi, hsl⟩ := hS1 k hk
  have hlay := hts _ (hin _ (u_in_lay hk))
  unfold u_lay at hlay
  rw [if_neg (by rw [hfin]; decide)] at hlay
  have hst := (u_facts hfc hkC (u_lays hts hin hk) hi).1
  have h6 := u_store hfc hkC hkind hlay hi (hty k hk) hn hfit
  have ha := hL a _ he
  refine W.putK hx hb (f := f) ⟨hown, hts _ hlink, ⟨_, _, _, by rw [← hsame]; exact hi⟩, hst⟩ (by rw [q2]; exact h6) q1 q3 (by rw [hsl]; exact k2_hasslot (q4 k hk)) rfl rfl hdg fun H' e1 e2 e3 => ?_
  rw [hsl] at e1 ⊢
  exact kk H' _ e2 (hP.set ⟨_, hc, t_OB.to (V := updV (vp_V fs) k v) ⟨_, e1, q2, q3, t_set q4 hap hk v⟩ (fun j _ => vp_updV_set hl v j)⟩ e3) (hL.up ha _) (hS.put e2 e3 ha)
theorem g_putF (hx : p.tables.exec = Jvm.exec) (hb : c.code = cc) {own ref C : String} {T : u_T} {N ci index : Nat} {Ts : List Cond} (hts : ∀ w ∈ Ts, w.before args s = true) (hown : s.vm.findClass own = some m.cls) (hK : gK D ka s) (hP : gH D ka σ H) (hL : gL lo σ) (hS : va_S (gA lo) s.heap H locs) {fs : List Value} (he : σ a = gO ci fs) (hin : ∀ w ∈ u_ws C T N, w ∈ Ts) (ty0 : Nat → FieldType) (hty : ∀ k, k < N → parseFieldDescriptor (T k).2.2.1 = some (ty0 k)) (hnm : ∀ a, a < N → ∀ b, b < N → a ≠ b → (T a).2.1 ≠ (T b).2.1) (hc : vwCl[ci]? = some (C, T, N)) (k : Nat) (hk : k < N) (hlink : Cond.fieldLink own index ref (T k).2.1 (T k).2.2.1 ∈ Ts) (hsame : (T k).1 = ref) (hfin : (T k).2.2.2 = true) (hin2 : meth.name = "<init>") (hdecl : (T k).1 = own) {v : Value} (hn : narrow (ty0 k) v = v) (hfit : fits (ty0 k) v = true) (hl : k < fs.length) (hdg : decode cc pc = .ok (.putfield index, 3))
    (kk : ∀ (H1 : Heap) (locs1 : List Loc), H1.size = H.size → gH D ka (gup σ a (gO ci (fs.set k v))) H1 → gL lo (gup σ a (gO ci (fs.set k v))) → va_S (gA lo) s.heap H1 locs1 → W p l e R s m args below meth c H1 locs1 cells slots Q (F0 m (pc + 3) ls rest)) : W p l e R s m args below meth c H locs cells slots Q (F0 m pc ls (v :: .ref a :: rest)) := by
  have hap := va_apart (own := own) hts hin ty0 hty hnm hK.1 hc
  obtain ⟨r, h1, cell, q1, q2, q3, q4⟩ := hP a _ he
  have hr : r = (C, T, N) := Option.some.inj (h1.symm.trans hc)
  subst hr
  obtain ⟨hS1, hfc, kC, hkC, hkind⟩ := hK.1.1 ci _ hc
  obtain ⟨cf, kf, fi, f, hi, hsl⟩ := hS1 k hk
  have hlay := hts _ (hin _ (u_in_lay hk))
  unfold u_lay at hlay
  rw [if_pos hfin] at hlay
  have hst := (u_facts hfc hkC (u_lays hts hin hk) hi).1
  have hcf : m.cls = cf := by
    obtain ⟨_, _, c', _, _, _, -, -, hf', -, -, -, hown2, -⟩ := Cond.laysFinal_spec hlay
    have e1 : c' = cf := by have := hi.symm.trans hf'; simp at this; exact this.1.symm
    rw [hdecl] at hown2
    rw [← e1]; exact Option.some.inj (hown.symm.trans hown2)
  have h6 := u_fits hfc hkC hkind (Or.inr hlay) hi (hty k hk) hn hfit
  have ha := hL a _ he
  refine W.putFinK hx hb hown (hts _ hlink) (by rw [← hsame]; exact hi) hst hcf hin2 (by rw [q2]; exact h6) q1 q3 (by rw [hsl]; exact k2_hasslot (q4 k hk)) rfl rfl hdg fun H' e1 e2 e3 => ?_
  rw [hsl] at e1 ⊢
  exact kk H' _ e2 (hP.set ⟨_, hc, t_OB.to (V := updV (vp_V fs) k v) ⟨_, e1, q2, q3, t_set q4 hap hk v⟩ (fun j _ => vp_updV_set hl v j)⟩ e3) (hL.up ha _) (hS.put e2 e3 ha)
theorem g_iald (hx : p.tables.exec = Jvm.exec) (hb : c.code = cc) (hK : gK D ka s) (hP : gH D ka σ H) {n : Nat} {f : Nat → Int32} (he : σ a = gI n f) {i : Int32} (hin : vp_in i n) (hdg : decode cc pc = .ok (.iaload, 1))
    (kk : W p l e R s m args below meth c H locs cells slots Q (F0 m (pc + 1) ls (.int (f i.toNatClampNeg) :: rest))) : W p l e R s m args below meth c H locs cells slots Q (F0 m pc ls (.int i :: .ref a :: rest)) :=
  va_iald hx hb hK.1 (hP.one he) 0 0 rfl rfl hin hdg kk
theorem g_aald (hx : p.tables.exec = Jvm.exec) (hb : c.code = cc) (hK : gK D ka s) (hP : gH D ka σ H) {n : Nat} {f : Nat → Option Nat} (he : σ a = gR n f) {i : Int32} (hin : vp_in i n) (hdg : decode cc pc = .ok (.aaload, 1))
    (kk : W p l e R s m args below meth c H locs cells slots Q (F0 m (pc + 1) ls (va_rf (f i.toNatClampNeg) :: rest))) : W p l e R s m args below meth c H locs cells slots Q (F0 m pc ls (.int i :: .ref a :: rest)) :=
  va_aldq (C := RX4) hx hb hK.1 (hP.one he) 0 3 rfl rfl hin hdg kk
theorem g_ialen (hx : p.tables.exec = Jvm.exec) (hb : c.code = cc) (hK : gK D ka s) (hP : gH D ka σ H) {n : Nat} {f : Nat → Int32} (he : σ a = gI n f) (hdg : decode cc pc = .ok (.arraylength, 1))
    (kk : W p l e R s m args below meth c H locs cells slots Q (F0 m (pc + 1) ls (.int (nI n) :: rest))) : W p l e R s m args below meth c H locs cells slots Q (F0 m pc ls (.ref a :: rest)) :=
  va_alen hx hb hK.1 (hP.one he) 0 0 rfl rfl rfl hdg kk
theorem g_aalen (hx : p.tables.exec = Jvm.exec) (hb : c.code = cc) (hK : gK D ka s) (hP : gH D ka σ H) {n : Nat} {f : Nat → Option Nat} (he : σ a = gR n f) (hdg : decode cc pc = .ok (.arraylength, 1))
    (kk : W p l e R s m args below meth c H locs cells slots Q (F0 m (pc + 1) ls (.int (nI n) :: rest))) : W p l e R s m args below meth c H locs cells slots Q (F0 m pc ls (.ref a :: rest)) :=
  va_alen hx hb hK.1 (hP.one he) 0 3 rfl rfl rfl hdg kk
theorem g_cell_i (cA : ClassId) (n k : Nat) (f : Nat → Int32) (x : Int32) : (vp_cell cA (n, .inl f)).setSlot k (.int x) = vp_cell cA (n, .inl (upd f k x)) := by
  rw [vp_cell_i, vp_cell_i, arrV_store]
  congr 1
  funext q
  by_cases hq : q = k <;> simp [updV, upd, hq]
theorem g_cell_q (cA : ClassId) (n k : Nat) (f : Nat → Option Nat) (x : Option Nat) : (vp_cell cA (n, .inr (.inr (.inr (.inr f))))).setSlot k (va_rf x) = vp_cell cA (n, .inr (.inr (.inr (.inr (va_up f k x))))) := by
  rw [vp_cell_q, vp_cell_q, arrV_store]
  congr 1
  funext q
  by_cases hq : q = k <;> simp [updV, va_up, hq]
theorem g_size_i (cA : ClassId) (n : Nat) (f : Nat → Int32) : (vp_cell cA (n, .inl f)).slots.size = n := arrV_size _ _ _
theorem g_size_q (cA : ClassId) (n : Nat) (f : Nat → Option Nat) : (vp_cell cA (n, .inr (.inr (.inr (.inr f))))).slots.size = n := arrV_size _ _ _
theorem g_iast (hx : p.tables.exec = Jvm.exec) (hb : c.code = cc) (hK : gK D ka s) (hP : gH D ka σ H) (hL : gL lo σ) (hS : va_S (gA lo) s.heap H locs) {n : Nat} {f : Nat → Int32} (he : σ a = gI n f) {i x : Int32} (hin : vp_in i n) (hdg : decode cc pc = .ok (.iastore, 1))
    (kk : ∀ (H1 : Heap) (locs1 : List Loc), H1.size = H.size → gH D ka (gup σ a (gI n (upd f i.toNatClampNeg x))) H1 → gL lo (gup σ a (gI n (upd f i.toNatClampNeg x))) → va_S (gA lo) s.heap H1 locs1 → W p l e R s m args below meth c H1 locs1 cells slots Q (F0 m (pc + 1) ls rest)) : W p l e R s m args below meth c H locs cells slots Q (F0 m pc ls (.int x :: .int i :: .ref a :: rest)) := by
  have ha := hL a _ he
  refine W.iast hx hb (hP a _ he) ((hK.1.2 0 _ rfl).1 n (fun j => .int (f j))) (fun q => by cases q) (by rw [g_size_i]; exact hin) rfl rfl hdg fun H1 e z oq => ?_
  exact kk H1 _ z (hP.set (by show H1[a]? = _; rw [e, g_cell_i]) oq) (hL.up ha _) (hS.put z oq ha)
end GROWS
section GROWS2
variable {p : Program} {l : Launch} {e : Env} {R : Room} {s : State} {m : MethodId} {args : Array Value} {below : List Frame} {meth : Method} {c : Code} {H : Heap} {locs : List Loc} {cells slots : Nat} {Q : State → Prop}
variable {cc : ByteArray} {pc : Nat} {ls : Array Slot} {rest : List Value} {D : va_G} {ka : Nat → ClassId} {σ : gS} {a lo : Nat}
/-- a State put into an array of States -/
theorem g_aast (hx : p.tables.exec = Jvm.exec) (hb : c.code = cc) (hK : gK D ka s) (hP : gH D ka σ H) (hL : gL lo σ) (hS : va_S (gA lo) s.heap H locs) {n : Nat} {f : Nat → Option Nat} (he : σ a = gR n f) {i : Int32} {v : Nat} {vs : List Value} (hv : σ v = gO 4 vs) (hin : vp_in i n) (hdg : decode cc pc = .ok (.aastore, 1))
    (kk : ∀ (H1 : Heap) (locs1 : List Loc), H1.size = H.size → gH D ka (gup σ a (gR n (va_up f i.toNatClampNeg (some v)))) H1 → gL lo (gup σ a (gR n (va_up f i.toNatClampNeg (some v)))) → va_S (gA lo) s.heap H1 locs1 → W p l e R s m args below meth c H1 locs1 cells slots Q (F0 m (pc + 1) ls rest)) : W p l e R s m args below meth c H locs cells slots Q (F0 m pc ls (.ref v :: .int i :: .ref a :: rest)) := by
  have ha := hL a _ he
  have hlt : i.toNatClampNeg < n := Nat.not_le.mp fun q => hin (Or.inr q)
  have h0 : ¬ i < 0 := fun q => hin (Or.inl q)
  obtain ⟨r', hr', cellV, g1, g2, g3, -⟩ := hP v _ hv
  have hcls := (hK.1.1 4 _ rfl).2
  obtain ⟨kA, comp, k1, k2, k3, -⟩ := (hK.1.2 3 _ rfl).2
  have hcomp : comp = D.1 4 := Option.some.inj (k3.symm.trans hcls.1)
  subst hcomp
  obtain ⟨kC, hkC, -⟩ := hcls.2
  refine W.aast hx hb (hP a _ he) (fun q h => by cases h) (fun h => by cases h) k1 k2 rfl hkC ⟨h0, by rw [g_size_q]; exact hlt⟩ g1 (fun q h => by rw [g3] at h; cases h) (by rw [g2]; exact hkC) (by rw [g2]; exact va_assign hcls) rfl rfl hdg fun H1 e z oq => ?_
  exact kk H1 _ z (hP.set (by show H1[a]? = _; rw [e, show Value.ref v = va_rf (some v) from rfl, g_cell_q]) oq) (hL.up ha _) (hS.put z oq ha)
theorem g_aastN (hx : p.tables.exec = Jvm.exec) (hb : c.code = cc) (hK : gK D ka s) (hP : gH D ka σ H) (hL : gL lo σ) (hS : va_S (gA lo) s.heap H locs) {n : Nat} {f : Nat → Option Nat} (he : σ a = gR n f) {i : Int32} (hin : vp_in i n) (hdg : decode cc pc = .ok (.aastore, 1))
    (kk : ∀ (H1 : Heap) (locs1 : List Loc), H1.size = H.size → gH D ka (gup σ a (gR n (va_up f i.toNatClampNeg none))) H1 → gL lo (gup σ a (gR n (va_up f i.toNatClampNeg none))) → va_S (gA lo) s.heap H1 locs1 → W p l e R s m args below meth c H1 locs1 cells slots Q (F0 m (pc + 1) ls rest)) : W p l e R s m args below meth c H locs cells slots Q (F0 m pc ls (.null :: .int i :: .ref a :: rest)) := by
  have ha := hL a _ he
  refine va_WaastN (C := RX4) hx hb (hP a _ he) ((hK.1.2 3 _ rfl).1 n (fun j => va_rf (f j))) (fun h => by cases h) (by rw [g_size_q]; exact hin) rfl rfl hdg fun H1 e z oq => ?_
  exact kk H1 _ z (hP.set (by show H1[a]? = _; rw [e, show Value.null = va_rf none from rfl, g_cell_q]) oq) (hL.up ha _) (hS.put z oq ha)
theorem g_new (hx : p.tables.exec = Jvm.exec) (hb : c.code = cc) {own C : String} {T : u_T} {N ci index : Nat} {Ts : List Cond} (hts : ∀ w ∈ Ts, w.before args s = true) (hown : s.vm.findClass own = some m.cls) (hK : gK D ka s) {z : Nat} (hz : H.size = z) (hP : gH D ka σ H) (hL : gL lo σ) (hS : va_S (gA lo) s.heap H locs) (hlo : lo ≤ z) (hin : ∀ w ∈ u_ws C T N, w ∈ Ts) (ty : Nat → FieldType) (hty : ∀ k, k < N → parseFieldDescriptor (T k).2.2.1 = some (ty k)) (hc : vwCl[ci]? = some (C, T, N)) (hcl : Cond.classLink own index C ∈ Ts) (hinst : Cond.instantiable C N ∈ Ts) (hini : Cond.initialized C ∈ Ts) {fs : List Value} (hfs : fs = (List.range N).map (fun j => defaultValue (ty j))) (hcells : cells + 1 ≤ R.cells) (hslots : slots + N ≤ R.slots) (hdg : decode cc pc = .ok (.new index, 3))
    (kk : ∀ (H1 : Heap), H1.size = z + 1 → gH D ka (gup σ z (gO ci fs)) H1 → gL lo (gup σ z (gO ci fs)) → va_S (gA lo) s.heap H1 locs → W p l e R s m args below meth c H1 locs (cells + 1) (slots + N) Q (F0 m (pc + 3) ls (.ref z :: rest))) : W p l e R s m args below meth c H locs cells slots Q (F0 m pc ls rest) := by
  subst hfs
  have hKn := hK.1.1 ci _ hc
  refine W.newcK hx hb hown (hts _ hcl) (hts _ hinst) (hts _ hini) rfl hdg hcells hslots hKn.2.1 hz fun H1 kC hkC e1 z1 o1 => ?_
  refine kk H1 z1 (hP.push hz ⟨_, hc, (u_born ty hts hin hKn hkC e1 hty).to fun j hj => ?_⟩ o1) (hL.up hlo _) (gS.push hz hS z1 o1)
  simp [vp_V, List.getD, List.getElem?_map, List.getElem?_range, hj]
theorem g_newa (hx : p.tables.exec = Jvm.exec) (hb : c.code = cc) {Ts : List Cond} (hts : ∀ w ∈ Ts, w.before args s = true) (hK : gK D ka s) {z : Nat} (hz : H.size = z) (hP : gH D ka σ H) (hL : gL lo σ) (hS : va_S (gA lo) s.heap H locs) (hlo : lo ≤ z) (t : Nat) (at' : ArrayType) (hat : at' = .int ∧ t = 0) (harr : Cond.arrayClass (newarray.typeOf at') ∈ Ts) {n : Int32} {N : Nat} (hn : n = nI N) (hN : N < 65536) (hcells : cells + 1 ≤ R.cells) (hslots : slots + N ≤ R.slots) (hdg : decode cc pc = .ok (.newarray at', 2))
    (kk : ∀ (H1 : Heap), H1.size = z + 1 → gH D ka (gup σ z (some (.inr (.inl (t, N, fun _ => 0))))) H1 → gL lo (gup σ z (some (.inr (.inl (t, N, fun _ => 0))))) → va_S (gA lo) s.heap H1 locs → W p l e R s m args below meth c H1 locs (cells + 1) (slots + N) Q (F0 m (pc + 2) ls (.ref z :: rest))) : W p l e R s m args below meth c H locs cells slots Q (F0 m pc ls (.int n :: rest)) := by
  subst hn
  have hd : ∀ cA : ClassId, vp_cell cA (N, .inl (fun _ => 0)) = arrV cA N (fun _ => defaultValue (newarray.typeOf at')) := fun cA => by
    obtain ⟨rfl, -⟩ := hat; rfl
  have hcb : N * componentBytes (newarray.typeOf at') ≤ 536870912 := by
    obtain ⟨rfl, -⟩ := hat; simp only [newarray.typeOf, componentBytes]; omega
  refine va_newaK hx hb (hts _ harr) rfl hdg rfl (nI_pos (by omega)) (nI_clamp (by omega)) hcb hcells hslots hz fun H1 cA e1 z1 o1 hAr hNm => ?_
  have hcA : cA = ka t := by
    obtain ⟨rfl, rfl⟩ := hat
    exact Option.some.inj (hNm.symm.trans (hK.1.2 0 _ rfl).2)
  subst hcA
  exact kk H1 z1 (hP.push hz (by show H1[z]? = some (vp_cell _ _); rw [hd]; exact e1) o1) (hL.up hlo _) (gS.push hz hS z1 o1)
theorem g_anew (hx : p.tables.exec = Jvm.exec) (hb : c.code = cc) {own : String} {index : Nat} {Ts : List Cond} (hts : ∀ w ∈ Ts, w.before args s = true) (hown : s.vm.findClass own = some m.cls) (hK : gK D ka s) {z : Nat} (hz : H.size = z) (hP : gH D ka σ H) (hL : gL lo σ) (hS : va_S (gA lo) s.heap H locs) (hlo : lo ≤ z) (hcl : Cond.classLink own index RX4 ∈ Ts) {n : Int32} {N : Nat} (hn : n = nI N) (hN : N < 65536) (hcells : cells + 1 ≤ R.cells) (hslots : slots + N ≤ R.slots) (hdg : decode cc pc = .ok (.anewarray index, 3))
    (kk : ∀ (H1 : Heap), H1.size = z + 1 → gH D ka (gup σ z (gR N (fun _ => none))) H1 → gL lo (gup σ z (gR N (fun _ => none))) → va_S (gA lo) s.heap H1 locs → W p l e R s m args below meth c H1 locs (cells + 1) (slots + N) Q (F0 m (pc + 3) ls (.ref z :: rest))) : W p l e R s m args below meth c H locs cells slots Q (F0 m pc ls (.int n :: rest)) := by
  subst hn
  have hN2 : (nI N).toNatClampNeg = N := nI_clamp (by omega)
  refine W.anew hx hb hown (hts _ hcl) (va_AO.use hK.2.1) rfl hdg rfl (nI_pos (by omega)) (by rw [hN2]; omega) hcells (by rw [hN2]; exact hslots) fun cA kA comp f1 f2 f3 f4 => ?_
  obtain ⟨kB, comp2, f5, f6, f7, f8⟩ := (hK.1.2 3 _ rfl).2
  have hcA : cA = ka 3 := Option.some.inj (f1.symm.trans f8)
  subst hcA
  rw [hN2, hz]
  have hgen : ∃ H1 : Heap, H1 = H.push ({ cls := ka 3, slots := Array.replicate N .null, vm := .none } : Cell) := ⟨_, rfl⟩
  obtain ⟨H1, hH1⟩ := hgen
  rw [← hH1]
  have z1 : H1.size = z + 1 := by rw [hH1, Array.size_push, hz]
  have o1 : ∀ q : Nat, q < z → H1[q]? = H[q]? := fun q hq => by rw [hH1, Array.getElem?_push, if_neg (by omega)]
  refine kk H1 z1 (hP.push hz ?_ o1) (hL.up hlo _) (gS.push hz hS z1 o1)
  show H1[z]? = some (vp_cell _ _)
  rw [vp_cell_q, hH1, ← hz, Array.getElem?_push_size, ← arrV_new]
  rfl
/-! returns -/
theorem g_iret (hx : p.tables.exec = Jvm.exec) (hb : c.code = cc) (hr : meth.sig.returnType = some .int) (hlk : meth.locks = false) {post : Option Value → gS → Nat → Prop} {v : Int32} {z : Nat} (hz : H.size = z) (hP : gH D ka σ H) (hL : gL lo σ) (hS : va_S (gA lo) s.heap H locs) (hdg : decode cc pc = .ok (.ireturn, 1)) (hp : post (some (.int v)) σ z) : W p l e R s m args below meth c H locs cells slots (MQ below (gQ D ka lo post) args s cells slots (gA lo)) (F0 m pc ls [.int v]) :=
  W.iret (v := v) hx hb hr (fun t ht _ => ⟨⟨_, σ, rfl, by rw [ht, hz]; exact hp, by rw [ht]; exact hP, hL⟩, hS.F ht⟩) hS.2.2 hdg hlk
theorem g_zret (hx : p.tables.exec = Jvm.exec) (hb : c.code = cc) (hr : meth.sig.returnType = some .boolean) (hlk : meth.locks = false) {post : Option Value → gS → Nat → Prop} {v : Int32} {z : Nat} (hz : H.size = z) (hP : gH D ka σ H) (hL : gL lo σ) (hS : va_S (gA lo) s.heap H locs) (hn : narrow .boolean (.int v) = .int v) (hdg : decode cc pc = .ok (.ireturn, 1)) (hp : post (some (.int v)) σ z) : W p l e R s m args below meth c H locs cells slots (MQ below (gQ D ka lo post) args s cells slots (gA lo)) (F0 m pc ls [.int v]) :=
  W.zret (v := v) hx hb hr hn (fun t ht _ => ⟨⟨_, σ, rfl, by rw [ht, hz]; exact hp, by rw [ht]; exact hP, hL⟩, hS.F ht⟩) hS.2.2 hdg hlk
theorem g_vret (hx : p.tables.exec = Jvm.exec) (hb : c.code = cc) (hr : meth.sig.returnType = none) (hlk : meth.locks = false) {post : Option Value → gS → Nat → Prop} {z : Nat} (hz : H.size = z) (hP : gH D ka σ H) (hL : gL lo σ) (hS : va_S (gA lo) s.heap H locs) (hdg : decode cc pc = .ok (.return_, 1)) (hp : post none σ z) : W p l e R s m args below meth c H locs cells slots (MQ below (gQ D ka lo post) args s cells slots (gA lo)) (F0 m pc ls []) :=
  W.vret hx hb hr (fun t ht _ => ⟨⟨_, σ, rfl, by rw [ht, hz]; exact hp, by rw [ht]; exact hP, hL⟩, hS.F ht⟩) hS.2.2 hdg hlk
/-! calls -/
theorem g_blind (D : va_G) (ka : Nat → ClassId) (σ : gS) (sz : Nat) (As : List Value) : FrameBlind (gP D ka σ sz As) := fun a U g mk q => ⟨q.1, q.2.1, q.2.2.1, gK.same (U := U.calling g mk a) rfl q.2.2.2⟩
theorem g_pre {D : va_G} {ka : Nat → ClassId} {σ : gS} {z : Nat} {H : Heap} {s : State} (hK : gK D ka s) (hz : H.size = z) (hP : gH D ka σ H) (As : List Value) : PreS s H (gP D ka σ z As) As := ⟨g_blind _ _ _ _ _, fun U hU hW => ⟨rfl, by rw [hU]; exact hz, by rw [hU]; exact hP, hK.warm hW⟩⟩
theorem g_preV {D : va_G} {ka : Nat → ClassId} {σ : gS} {z : Nat} {H : Heap} {s : State} (hK : gK D ka s) (hz : H.size = z) (hP : gH D ka σ H) (As : List Value) {b ci N : Nat} {C : String} {T : u_T} {fs : List Value} (hbb : σ b = gO ci fs) (hc : vwCl[ci]? = some (C, T, N)) : PreV s H C b (gP D ka σ z (.ref b :: As)) As :=
  ⟨g_blind _ _ _ _ _, va_recv hK.1 (hP.one hbb) (q0 := 0) hc rfl, fun U hU hW => ⟨rfl, by rw [hU]; exact hz, by rw [hU]; exact hP, hK.warm hW⟩⟩
theorem g_call {st0 : List Value} {post : Option Value → gS → Nat → Prop} {a : Array Value} {mc ms : Nat} (hr : va_Run p l e R s m args below meth c H locs cells slots mc ms (F0 m pc ls st0) rest (gQ D ka lo post a) (gA lo)) (hS : va_S (gA lo) s.heap H locs)
    (kk : ∀ (v : Option Value) (τ : gS) (H1 : Heap) (locs1 : List Loc) (z1 : Nat), H1.size = z1 → post v τ z1 → gH D ka τ H1 → gL lo τ → va_S (gA lo) s.heap H1 locs1 → W p l e R s m args below meth c H1 locs1 (cells + mc) (slots + ms) Q (F0 m (pc + 3) ls (v.toList ++ rest))) : W p l e R s m args below meth c H locs cells slots Q (F0 m pc ls st0) := by
  intro T hT X
  obtain ⟨v, st₀, t, T', L, h0, X', hL, e1, e2, ⟨⟨v', τ, hv, hp, hP1, hL1⟩, hz, hk⟩, st⟩ := hr T hT X
  cases hv
  rw [h0] at hz hk
  obtain ⟨t2, a1, b1⟩ := kk v τ T'.heap (locs ++ L) t.heap.size (by rw [e1]) hp (by rw [e1]; exact hP1) hL1 ⟨Nat.le_trans hS.1 (by rw [e1]; exact hz), fun q h1 h2 => by rw [e1, hk q (Nat.lt_of_lt_of_le h1 hS.1) h2]; exact hS.2.1 q h1 h2, fun q hq => by
      rcases List.mem_append.mp hq with h | h
      · exact hS.2.2 q h
      · exact hL q h⟩ T' rfl X'
  exact ⟨t2, st t2 a1, b1⟩
theorem g_runV {y : MethodName} {bytes : ByteArray} {maxL nL mc ms index ci N : Nat} {ret : Option FieldType} {ws ws' Ts : List Cond} {rm : Room} {post : Option Value → gS → Nat → Prop} {own C : String} {T : u_T} {fs : List Value} {b z : Nat} {As st0 : List Value} (n : Nat)
    (hx : p.tables.exec = Jvm.exec) (hb : c.code = cc) (hml : c.maxLocals = nL) (hown : s.vm.findClass own = some m.cls) (hts : ∀ w ∈ Ts, w.before args s = true) (hK : gK D ka s) (hz : H.size = z) (hP : gH D ka σ H) (hL : gL lo σ) (hS : va_S (gA lo) s.heap H locs) (hlo : lo ≤ z) (hls : ls.size = nL)
    (hM : gM l y ws rm mc ms (.ref b :: As) σ z post) (hG : GoodIn Ts (wsV own index C y ws)) (hw : ws = .code y bytes maxL ret :: ws') (hrc : rm.cells = mc) (hrs : rm.slots = ms) (hd : y.cls = C ∧ y.cls ≠ "java/lang/invoke/MethodHandle" ∧ y.cls ≠ "java/lang/invoke/VarHandle" ∧ (parseMethodDescriptor y.desc).map (fun d => d.parameters.length) = some n) (hR : rm.frames + 1 ≤ R.frames ∧ 8 + (maxL + 11) + rm.locals ≤ R.locals)
    (hbb : σ b = gO ci fs) (hc : vwCl[ci]? = some (C, T, N)) (hn : As.length = n) (hst : st0 = As.reverse ++ .ref b :: rest) (hW : (rest.map fun v => v.category).sum ≤ 8) (hdg : decode cc pc = .ok (.invokevirtual index, 3)) (hf : cells + mc ≤ R.cells ∧ slots + ms ≤ R.slots)
    (kk : ∀ (v : Option Value) (τ : gS) (H1 : Heap) (locs1 : List Loc) (z1 : Nat), H1.size = z1 → post v τ z1 → gH D ka τ H1 → gL lo τ → va_S (gA lo) s.heap H1 locs1 → W p l e R s m args below meth c H1 locs1 (cells + mc) (slots + ms) Q (F0 m (pc + 3) ls (v.toList ++ rest))) : W p l e R s m args below meth c H locs cells slots Q (F0 m pc ls st0) :=
  g_call (va_runV (As := As) (rest := rest) ⟨hx, hb, hml, hown, hts⟩ (hM D ka lo hL hlo) (cwV n hts hG hw hrc hrs hd hR) (g_preV hK hz hP As hbb hc) rfl hn hls hst (lv_room hW) hdg hf) hS kk
theorem g_runI {y : MethodName} {bytes : ByteArray} {maxL nL mc ms index : Nat} {ws ws' Ts : List Cond} {rm : Room} {post : Option Value → gS → Nat → Prop} {own : String} {b z : Nat} {As st0 : List Value} (n : Nat)
    (hx : p.tables.exec = Jvm.exec) (hb : c.code = cc) (hml : c.maxLocals = nL) (hown : s.vm.findClass own = some m.cls) (hts : ∀ w ∈ Ts, w.before args s = true) (hK : gK D ka s) (hz : H.size = z) (hP : gH D ka σ H) (hL : gL lo σ) (hS : va_S (gA lo) s.heap H locs) (hlo : lo ≤ z) (hls : ls.size = nL)
    (hM : gM l y ws rm mc ms (.ref b :: As) σ z post) (hG : GoodIn Ts ws) (hw : ws = .code y bytes maxL none :: ws') (hrc : rm.cells = mc) (hrs : rm.slots = ms) (hini : Cond.initialized y.cls ∈ Ts) (hlk : Cond.methodLink own index y ∈ Ts) (hins : Cond.instanceMethod y ∈ Ts) (hy : y.name = "<init>") (hd : y.cls ≠ "java/lang/invoke/MethodHandle" ∧ y.cls ≠ "java/lang/invoke/VarHandle" ∧ (parseMethodDescriptor y.desc).map (fun d => d.parameters.length) = some n) (hR : rm.frames + 1 ≤ R.frames ∧ 8 + (maxL + 11) + rm.locals ≤ R.locals)
    (hn : As.length = n) (hst : st0 = As.reverse ++ .ref b :: rest) (hW : (rest.map fun v => v.category).sum ≤ 8) (hdg : decode cc pc = .ok (.invokespecial index, 3)) (hf : cells + mc ≤ R.cells ∧ slots + ms ≤ R.slots)
    (kk : ∀ (v : Option Value) (τ : gS) (H1 : Heap) (locs1 : List Loc) (z1 : Nat), H1.size = z1 → post v τ z1 → gH D ka τ H1 → gL lo τ → va_S (gA lo) s.heap H1 locs1 → W p l e R s m args below meth c H1 locs1 (cells + mc) (slots + ms) Q (F0 m (pc + 3) ls (v.toList ++ rest))) : W p l e R s m args below meth c H locs cells slots Q (F0 m pc ls st0) :=
  g_call (va_runI (As := As) (rest := rest) ⟨hx, hb, hml, hown, hts⟩ (hM D ka lo hL hlo) (cwI n hts hG hw hrc hrs (hts _ hini) (hts _ hlk) (hts _ hins) hy hd hR) (g_pre hK hz hP (.ref b :: As)) rfl hn hls hst (lv_room hW) hdg hf) hS kk
theorem g_runIN {y : MethodName} {bytes : ByteArray} {maxL nL mc ms index : Nat} {ws ws' Ts : List Cond} {rm : Room} {post : Option Value → gS → Nat → Prop} {own : String} {b z : Nat} {As st0 : List Value} (n : Nat)
    (hx : p.tables.exec = Jvm.exec) (hb : c.code = cc) (hml : c.maxLocals = nL) (hown : s.vm.findClass own = some m.cls) (hts : ∀ w ∈ Ts, w.before args s = true) (hK : gK D ka s) (hz : H.size = z) (hP : gH D ka σ H) (hL : gL lo σ) (hS : va_S (gA lo) s.heap H locs) (hlo : lo ≤ z) (hls : ls.size = nL)
    (hM : gM l y ws rm mc ms (.ref b :: As) σ z post) (hG : GoodIn Ts ws) (hw : ws = .code y bytes maxL none :: ws') (hrc : rm.cells = mc) (hrs : rm.slots = ms) (hini : Cond.initialized y.cls ∈ Ts) (hlk : (own, index, y) ∈ gNl) (hins : Cond.instanceMethod y ∈ Ts) (hy : y.name = "<init>") (hd : y.cls ≠ "java/lang/invoke/MethodHandle" ∧ y.cls ≠ "java/lang/invoke/VarHandle" ∧ (parseMethodDescriptor y.desc).map (fun d => d.parameters.length) = some n) (hR : rm.frames + 1 ≤ R.frames ∧ 8 + (maxL + 11) + rm.locals ≤ R.locals)
    (hn : As.length = n) (hst : st0 = As.reverse ++ .ref b :: rest) (hW : (rest.map fun v => v.category).sum ≤ 8) (hdg : decode cc pc = .ok (.invokespecial index, 3)) (hf : cells + mc ≤ R.cells ∧ slots + ms ≤ R.slots)
    (kk : ∀ (v : Option Value) (τ : gS) (H1 : Heap) (locs1 : List Loc) (z1 : Nat), H1.size = z1 → post v τ z1 → gH D ka τ H1 → gL lo τ → va_S (gA lo) s.heap H1 locs1 → W p l e R s m args below meth c H1 locs1 (cells + mc) (slots + ms) Q (F0 m (pc + 3) ls (v.toList ++ rest))) : W p l e R s m args below meth c H locs cells slots Q (F0 m pc ls st0) :=
  g_call (va_runIN (As := As) (rest := rest) ⟨hx, hb, hml, hown, hts⟩ (hM D ka lo hL hlo) ⟨va_cnB n hts hG hw hrc hrs (hK.2.2 _ hlk) (hts _ hini) hd hR, hy, hts _ hins⟩ (g_pre hK hz hP (.ref b :: As)) rfl hn hls hst (lv_room hW) hdg hf) hS kk
theorem g_runS {y : MethodName} {bytes : ByteArray} {maxL nL mc ms index : Nat} {ret : Option FieldType} {ws ws' Ts : List Cond} {rm : Room} {post : Option Value → gS → Nat → Prop} {own : String} {z : Nat} {As st0 : List Value} (n : Nat)
    (hx : p.tables.exec = Jvm.exec) (hb : c.code = cc) (hml : c.maxLocals = nL) (hown : s.vm.findClass own = some m.cls) (hts : ∀ w ∈ Ts, w.before args s = true) (hK : gK D ka s) (hz : H.size = z) (hP : gH D ka σ H) (hL : gL lo σ) (hS : va_S (gA lo) s.heap H locs) (hlo : lo ≤ z) (hls : ls.size = nL)
    (hM : gM l y ws rm mc ms As σ z post) (hG : GoodIn Ts (va_wsS own index y ws)) (hw : ws = .code y bytes maxL ret :: ws') (hrc : rm.cells = mc) (hrs : rm.slots = ms) (hd : y.cls ≠ "java/lang/invoke/MethodHandle" ∧ y.cls ≠ "java/lang/invoke/VarHandle" ∧ (parseMethodDescriptor y.desc).map (fun d => d.parameters.length) = some n) (hR : rm.frames + 1 ≤ R.frames ∧ 8 + (maxL + 11) + rm.locals ≤ R.locals)
    (hn : As.length = n) (hst : st0 = As.reverse ++ rest) (hW : (rest.map fun v => v.category).sum ≤ 8) (hdg : decode cc pc = .ok (.invokestatic index, 3)) (hf : cells + mc ≤ R.cells ∧ slots + ms ≤ R.slots)
    (kk : ∀ (v : Option Value) (τ : gS) (H1 : Heap) (locs1 : List Loc) (z1 : Nat), H1.size = z1 → post v τ z1 → gH D ka τ H1 → gL lo τ → va_S (gA lo) s.heap H1 locs1 → W p l e R s m args below meth c H1 locs1 (cells + mc) (slots + ms) Q (F0 m (pc + 3) ls (v.toList ++ rest))) : W p l e R s m args below meth c H locs cells slots Q (F0 m pc ls st0) :=
  g_call (va_runS (As := As) (rest := rest) ⟨hx, hb, hml, hown, hts⟩ (hM D ka lo hL hlo) (va_cwS n hts hG hw hrc hrs hd hR) (g_pre hK hz hP As) rfl hn hls hst (lv_room hW) hdg hf) hS kk
theorem g_runSN {y : MethodName} {bytes : ByteArray} {maxL nL mc ms index : Nat} {ret : Option FieldType} {ws ws' Ts : List Cond} {rm : Room} {post : Option Value → gS → Nat → Prop} {own : String} {z : Nat} {As st0 : List Value} (n : Nat)
    (hx : p.tables.exec = Jvm.exec) (hb : c.code = cc) (hml : c.maxLocals = nL) (hown : s.vm.findClass own = some m.cls) (hts : ∀ w ∈ Ts, w.before args s = true) (hK : gK D ka s) (hz : H.size = z) (hP : gH D ka σ H) (hL : gL lo σ) (hS : va_S (gA lo) s.heap H locs) (hlo : lo ≤ z) (hls : ls.size = nL)
    (hM : gM l y ws rm mc ms As σ z post) (hG : GoodIn Ts ws) (hw : ws = .code y bytes maxL ret :: ws') (hrc : rm.cells = mc) (hrs : rm.slots = ms) (hini : Cond.initialized y.cls ∈ Ts) (hlk : (own, index, y) ∈ gNl) (hstt : Cond.static y ∈ Ts) (hd : y.cls ≠ "java/lang/invoke/MethodHandle" ∧ y.cls ≠ "java/lang/invoke/VarHandle" ∧ (parseMethodDescriptor y.desc).map (fun d => d.parameters.length) = some n) (hR : rm.frames + 1 ≤ R.frames ∧ 8 + (maxL + 11) + rm.locals ≤ R.locals)
    (hn : As.length = n) (hst : st0 = As.reverse ++ rest) (hW : (rest.map fun v => v.category).sum ≤ 8) (hdg : decode cc pc = .ok (.invokestatic index, 3)) (hf : cells + mc ≤ R.cells ∧ slots + ms ≤ R.slots)
    (kk : ∀ (v : Option Value) (τ : gS) (H1 : Heap) (locs1 : List Loc) (z1 : Nat), H1.size = z1 → post v τ z1 → gH D ka τ H1 → gL lo τ → va_S (gA lo) s.heap H1 locs1 → W p l e R s m args below meth c H1 locs1 (cells + mc) (slots + ms) Q (F0 m (pc + 3) ls (v.toList ++ rest))) : W p l e R s m args below meth c H locs cells slots Q (F0 m pc ls st0) :=
  g_call (va_runSN (As := As) (rest := rest) ⟨hx, hb, hml, hown, hts⟩ (hM D ka lo hL hlo) ⟨va_cnB n hts hG hw hrc hrs (hK.2.2 _ hlk) (hts _ hini) hd hR, hts _ hstt, trivial⟩ (g_pre hK hz hP As) rfl hn hls hst (lv_room hW) hdg hf) hS kk
end GROWS2
