/-! THE CLAIM OUT OF ONE WALK OF THE LAW'S BODY. Your part is whole_start (and what it stands on); all else here is the same for every law, but numbers. -/
def R_law : String := "LongTonesLaw"
def lw_P (b : Addr) (xs : List Int32) (args : Array Value) (s : State) : Prop := args = #[.ref b] ∧ s.IntsAt b xs ∧ xs.length ≤ 260 ∧ (Jvm.Cond.and given_1 narrow_1).before args s = true
def lw_Q (_ : Array Value) (s : State) (o : Outcome) (t : State) : Prop := o = .returned (some (.int 1)) ∧ Framed s o t [] 600000 7302250
def lw_Z (below : List Frame) (a : Array Value) (s : State) : State → Prop := fun t => ∃ o, t.status = .running ∧ Ended t below o ∧ lw_Q a s o t
/-- the law's own end, with 1 on the stack, nothing written that was there before, its room as the claim has it -/
theorem lw_ret {p : Program} {l : Launch} {e : Env} {s : State} {m : MethodId} {below : List Frame} {meth : Method} {c : Code} {b : Nat} (hx : p.tables.exec = Jvm.exec) (hb : c.code = code) (hr : meth.sig.returnType = ret) (hlocks : meth.locks = false) {pc : Nat} {H : Heap} {ls : Array Slot} (hdg : decode code pc = .ok (.ireturn, 1)) : W p l e room_1 s m #[Value.ref b] below meth c H [] 600000 7302250 (lw_Z below #[Value.ref b] s) (F0 m pc ls [.int 1]) := by
  intro T hT X
  obtain ⟨fs, hret, hrun, hended, hW, hframe⟩ := X.leave (v := some (.int 1)) (hlocks := hlocks) (fun h => by rw [hr] at h; cases h)
  have hmeth' : T.vm.method? m = some meth := X.method'
  refine ⟨T.setFrames fs, ?_, .returned (some (.int 1)), hrun, hended, rfl, ⟨_, rfl⟩, hW, hframe⟩
  jvm_step X.here [X.here.top, hx, hb, hdg, hmeth', hr, ret, narrow_b1]
  (try refine ⟨rfl, ?_⟩); (try refine ⟨rfl, ?_⟩)
  first | (intro acts; rw [hret _ acts rfl rfl rfl]) | rw [hret _ _ rfl rfl rfl]
  exact Steps.refl _
/-- what holds at the law's entry: the machine, the code, the tables' words (any of lw_tbl by 'hts w (by decide +kernel)'), the script of L ints xs at the cell b, what the Statement gives of the start (any of its parts by flat_of_before) -/
def lw_At (p : Program) (s : State) (m : MethodId) (meth : Method) (c : Code) (b L : Nat) (xs : Nat → Int32) : Prop :=
  p.tables.exec = Jvm.exec ∧ c.code = code ∧ meth.sig.returnType = ret ∧ c.maxLocals = 15 ∧ s.vm.findClass R_law = some m.cls ∧ (∀ w ∈ lw_tbl, w.before #[Value.ref b] s = true) ∧ va_X b L xs s s.heap ∧ b < s.heap.size ∧ meth.locks = false ∧ (Jvm.Cond.and given_1 narrow_1).before #[Value.ref b] s = true

set_option maxHeartbeats 4000000 in
set_option maxRecDepth 100000 in
theorem law_all {p : Program} {l : Launch} {e : Env} {s : State} {m : MethodId} {below : List Frame} {meth : Method} {c : Code} {D : va_G} {ka : Nat → ClassId} {B o b : Nat} {L : Nat} {xs : Nat → Int32} (hx : p.tables.exec = Jvm.exec) (hb : c.code = code) (hml : c.maxLocals = 15) (hown : s.vm.findClass RL = some m.cls) (hts : ∀ w ∈ wsL_law, w.before #[Value.ref B] s = true) (hK : gK D ka s) (hX : va_X B L xs s s.heap) (hBl : B < s.heap.size) (hL2 : L ≤ 260) (hr : meth.sig.returnType = ret) (hlocks : meth.locks = false) : ∀ (n ne : Nat) (σ : gS) (z : Nat) (H : Heap) (locs : List Loc) (ls : Array Slot), ne ≤ 30 → 30 < ne + n → LwJ σ o b z → s.heap.size ≤ z → H.size = z → gH D ka σ H → gL s.heap.size σ → va_S (gA s.heap.size) s.heap H locs → lv_has ls 15 [(0, .ref B), (1, .ref o), (2, .int (nI ne))] → W p l e room_1 s m #[Value.ref B] below meth c H locs (1000 + 300 * ne) (20000 + 5000 * ne) (lw_Z below #[Value.ref B] s) (F0 m 48 ls []) := by
  intro n
  induction n with
  | zero => intro ne σ z H locs ls h1 h2; exact absurd h2 (by omega)
  | succ n ih =>
    intro ne σ z H locs ls h1 h2 hJ hlo hz hP hL hS hl
    refine lv_iload_n hx hb dL_law_48 rfl (lv_at hl 2 rfl) ?_
    refine lv_bipush (v := nI 30) hx hb dL_law_49 (by decide) ?_
    refine g_icmp_ge (tgt := 939) (a := ne) (b := 30) hx hb (by omega) (by omega) dL_law_51 (by decide) (fun c51 => ?_) (fun c51 => ?_)
    · obtain ⟨S, tf, tn, P, C, kp, hW, hY, hB1, hN1, hC⟩ := hJ
      refine lv_aload_n hx hb dL_law_939 rfl (lv_at hl 1 rfl) ?_
      refine g_runS (As := [.ref o]) (rest := []) (own := RL) 1 hx hb hml hown hts hK hz hP hL hS hlo hl.1 (c_L_errors l o b S tf tn P C kp z σ z hW hY (Nat.le_refl _) hC hB1 hN1) gL_law_L_errors rfl rfl rfl (by decide +kernel) ⟨Nat.le_of_ble_eq_true rfl, Nat.le_of_ble_eq_true rfl⟩ rfl rfl (Nat.le_of_ble_eq_true rfl) dL_law_940 ⟨(show 1000 + 300 * ne + 289 ≤ 600000 by omega), (show 20000 + 5000 * ne + 13413 ≤ 7302250 by omega)⟩ (g_kxi (fun r_1 τ_1 H locs z_1 hz hp hP hL hS => ?_))
      have hp : r_1 = nI 1 := hp
      subst hp
      refine g_top (y := 1) rfl ?_
      refine va_forget (fun q hq => hS.2.2 q hq) ?_
      refine W.widen (k := 600000) (n := 7302250) (by omega) (by omega) ?_
      exact lw_ret hx hb hr hlocks dL_law_943
    · obtain ⟨S, tf, tn, P, C, kp, hW, hY, hB1, hN1, hC⟩ := hJ
      refine law_step (ne := ne) (cA := 1000 + 300 * ne) (sA := 20000 + 5000 * ne) hx hb hml hown hts hK (by omega) (by omega) hW hY hB1 hN1 hC hlo hz hP hL hS hX hBl hBl hL2 (by omega) hl (fun τ z1 H1 locs1 ls1 hJ1 hlo1 hz1 hP1 hL1 hS1 hl1 => ?_)
      refine W.widen (k := 1000 + 300 * (ne + 1)) (n := 20000 + 5000 * (ne + 1)) (by omega) (by omega) ?_
      exact ih (ne + 1) τ z1 H1 locs1 ls1 (by omega) (by omega) hJ1 hlo1 hz1 hP1 hL1 hS1 hl1

set_option maxHeartbeats 4000000 in
set_option maxRecDepth 100000 in
theorem whole_start {p : Program} {e : Env} {s : State} {m : MethodId} {below : List Frame} {meth : Method} {c : Code} (l : Launch) (hflags : l.flags = flags0) {b L : Nat} {xs : Nat → Int32} (hL : L ≤ 260) (C0 : lw_At p s m meth c b L xs) : W p l e room_1 s m #[Value.ref b] below meth c s.heap [] 0 0 (lw_Z below #[Value.ref b] s) (entryFrame m ([Value.ref b] : List Value).toArray 15) := by
  have hL2 := hL
  obtain ⟨hx, hb, hr, hml, hown, hts, hX, hbl, hlocks, hgv⟩ := id C0
  have hown : s.vm.findClass RL = some m.cls := hown
  have htl : ∀ w ∈ wsL_law, w.before #[Value.ref b] s = true := fun w hw => hts w (wsL_law_in w hw)
  obtain ⟨D, ka, hK⟩ := gK_entry hts
  have hl := lv_entry ([.ref b]) (n := 15) (Nat.le_of_ble_eq_true rfl)
  rw [lg_entry_eq]
  generalize (lg_sl ([.ref b]) ++ List.replicate (15 - (lg_sl ([.ref b])).length) Slot.unset).toArray = ls at hl ⊢
  have hl : lv_has ls 15 [(0, .ref b)] := hl
  obtain ⟨o, ho9⟩ : ∃ o : Nat, o = s.heap.size := ⟨_, rfl⟩
  have hz : s.heap.size = o := ho9.symm
  have hlo : s.heap.size ≤ o := by omega
  have hP : gH D ka (fun _ => none) s.heap := fun q e he => by cases he
  have hL : gL s.heap.size (fun _ => none) := fun q e he => by cases he
  have hS : va_S (gA s.heap.size) s.heap s.heap [] := va_S.rf
  refine g_new (C := RX7) (T := TX7) (N := 7) (ci := 7) (fs := [.null, .null, .null, .null, .null, .null, .null]) hx hb htl hown hK hz hP hL hS hlo inlX7 tyX7 tyX7_ok rfl (by decide +kernel) (by decide +kernel) (by decide +kernel) rfl (Nat.le_of_ble_eq_true rfl) (Nat.le_of_ble_eq_true rfl) dL_law_0 (fun H hz hP hL hS => ?_)
  have hlo : s.heap.size ≤ o + 1 := by omega
  refine lv_dup hx hb dL_law_3 rfl ?_
  refine g_runI (b := o) (As := []) (rest := [.ref o]) (own := RL) 0 hx hb hml hown htl hK hz hP hL hS hlo hl.1 (c_X7_init l o _ (gup_s _ _ _)) gL_law_X7_init rfl rfl rfl (by decide +kernel) (by decide +kernel) (by decide +kernel) rfl (by decide +kernel) ⟨Nat.le_of_ble_eq_true rfl, Nat.le_of_ble_eq_true rfl⟩ rfl rfl (Nat.le_of_ble_eq_true rfl) dL_law_4 ⟨Nat.le_of_ble_eq_true rfl, Nat.le_of_ble_eq_true rfl⟩ (g_kxv (fun τ1 H locs z1 hz hp hP hL hS => ?_))
  obtain ⟨hz1, hW, ha1⟩ := hp
  have hz : H.size = o + 39 := hz.trans hz1
  have hlo : s.heap.size ≤ o + 39 := by omega
  refine lv_astore_n (lv' := [(1, .ref o), (0, .ref b)]) hx hb dL_law_7 rfl hl (by decide) rfl (fun ls hl => ?_)
  refine W.widen (k := 200) (n := 5000) (Nat.le_of_ble_eq_true rfl) (Nat.le_of_ble_eq_true rfl) ?_
  refine law_begin (ne := 0) (cA := 200) (sA := 5000) hx hb hml hown htl hK (by omega) (by omega) (hW (o + 39) (o + 39) (Nat.le_refl _) (Nat.le_refl _)) okY.new ⟨fun k hk => absurd hk (Nat.not_lt_zero k), fun _ => rfl⟩ (by decide) (by decide) hlo hz hP hL hS hX hbl hbl hL2 (lv_sub hl [1, 0] rfl) (fun τ z1 H1 locs1 ls1 hJ hlo hz hP hL hS hl => ?_)
  refine W.widen (k := 1000 + 300 * 0) (n := 20000 + 5000 * 0) (Nat.le_of_ble_eq_true rfl) (Nat.le_of_ble_eq_true rfl) ?_
  exact law_all hx hb hml hown htl hK hX hbl hL2 hr hlocks 31 0 τ z1 H1 locs1 ls1 (by omega) (by omega) hJ hlo hz hP hL hS hl

