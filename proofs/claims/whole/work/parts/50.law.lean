/-! THE CLAIM OUT OF ONE WALK OF THE LAW'S BODY. Your part is whole_start (and what it stands on); all else here is the same for every law, but numbers. -/
def R_law : String := "LongTonesLaw"
def lw_P (b : Addr) (xs : List Int32) (args : Array Value) (s : State) : Prop := args = #[.ref b] ∧ s.IntsAt b xs ∧ xs.length ≤ 2048 ∧ (Jvm.Cond.and given_1 narrow_1).before args s = true
def lw_Q (_ : Array Value) (s : State) (o : Outcome) (t : State) : Prop := o = .returned (some (.int 1)) ∧ Framed s o t [] 600000 7302250
def lw_Z (below : List Frame) (a : Array Value) (s : State) : State → Prop := fun t => ∃ o, t.status = .running ∧ Ended t below o ∧ lw_Q a s o t
/-- the law's own end, with 1 on the stack, nothing written that was there before, its room as the claim has it -/
theorem lw_ret {p : Program} {l : Launch} {e : Env} {s : State} {m : MethodId} {below : List Frame} {meth : Method} {c : Code} {b : Nat} (hx : p.tables.exec = Jvm.exec) (hb : c.code = code) (hr : meth.sig.returnType = ret) (hlocks : meth.locks = false) {pc : Nat} {H : Heap} {ls : Array Slot} (hdg : decode code pc = .ok (.ireturn, 1)) : W p l e room_1 s m #[Value.ref b] below meth c H [] 600000 7302250 (lw_Z below #[Value.ref b] s) (F0 m pc ls [.int 1]) := by
  intro T hT X
  obtain ⟨fs, hret, hrun, hended, hW, hframe⟩ := X.leave (v := some (.int 1)) (hlocks := hlocks) (fun h => by rw [hr] at h; cases h)
  have hmeth' : T.vm.method? m = some meth := X.method'
  refine ⟨T.setFrames fs, ?_, .returned (some (.int 1)), hrun, hended, rfl, ⟨_, rfl⟩, hW, hframe⟩
  jvm_step X.here [X.here.top, hx, hb, hdg, hmeth', hr, ret, narrow_b1]
  (try refine ⟨rfl, ?_⟩); (try refine ⟨rfl, ?_⟩)
  first | (intro acts; rw [hret _ acts rfl rfl rfl]) | rw [hret _ _ rfl rfl rfl]
  exact Steps.refl _
/-- what holds at the law's entry: the machine, the code, the tables' words (any of lw_tbl by 'hts w (by decide +kernel)'), the script of L ints xs at the cell b, what the Statement gives of the start (any of its parts by flat_of_before) -/
def lw_At (p : Program) (s : State) (m : MethodId) (meth : Method) (c : Code) (b L : Nat) (xs : Nat → Int32) : Prop :=
  p.tables.exec = Jvm.exec ∧ c.code = code ∧ meth.sig.returnType = ret ∧ c.maxLocals = 4 ∧ s.vm.findClass R_law = some m.cls ∧ (∀ w ∈ lw_tbl, w.before #[Value.ref b] s = true) ∧ va_X b L xs s s.heap ∧ b < s.heap.size ∧ meth.locks = false ∧ (Jvm.Cond.and given_1 narrow_1).before #[Value.ref b] s = true

/-! the law, round and round -/
set_option maxHeartbeats 4000000 in
set_option maxRecDepth 100000 in
theorem law_loop {p : Program} {l : Launch} {e : Env} {s : State} {m : MethodId} {below : List Frame} {meth : Method} {c : Code} {D : va_G} {ka : Nat → ClassId} {B L o mo b : Nat} {xs : Nat → Int32} (hx : p.tables.exec = Jvm.exec) (hb : c.code = code) (hml : c.maxLocals = 4) (hown : s.vm.findClass RL = some m.cls) (hts : ∀ w ∈ wsL_law, w.before #[Value.ref B] s = true) (hK : gK D ka s) (hX : va_X B L xs s s.heap) (hBl : B < s.heap.size) (hL2 : L ≤ 2048) (hmo : mo = o + 39) (hbo : o + 55 ≤ b) (hr : meth.sig.returnType = ret) (hlocks : meth.locks = false) : ∀ (n kc : Nat) (σ : gS) (z : Nat) (H : Heap) (locs : List Loc) (ls : Array Slot), 4 * kc ≤ L → L < 4 * kc + n → LwI σ o mo b z → s.heap.size ≤ z → H.size = z → gH D ka σ H → gL s.heap.size σ → va_S (gA s.heap.size) s.heap H locs → lv_has ls 4 [(0, .ref B), (1, .ref o), (2, .ref mo), (3, .int (nI (4 * kc)))] → W p l e room_1 s m #[Value.ref B] below meth c H locs (100 + 17 * kc) (12000 + 789 * kc) (lw_Z below #[Value.ref B] s) (F0 m 18 ls []) := by
  have hbA : ¬ gA s.heap.size B := Nat.not_le.mpr hBl
  intro n
  induction n with
  | zero => intro kc σ z H locs ls h1 h2; exact absurd h2 (by omega)
  | succ n ih =>
    intro kc σ z H locs ls h1 h2 hI hlo hz hP hL hS hl
    refine lv_iload_n hx hb dL_law_18 rfl (lv_at hl 3 rfl) ?_
    refine lv_aload_n hx hb dL_law_19 rfl (lv_at hl 0 rfl) ?_
    refine va_slen hx hb hX hBl hbA hS dL_law_20 ?_
    refine lv_iconst (v := nI 4) hx hb dL_law_21 (by decide) ?_
    refine lv_isub hx hb dL_law_22 ?_
    refine lv_icmp_gt (tgt := 846) hx hb dL_law_23 (by decide) (fun c23 => ?_) (fun c23 => ?_)
    · refine lv_iconst (v := 1) hx hb dL_law_846 (by decide) ?_
      refine va_forget (fun q hq => hS.2.2 q hq) ?_
      refine W.widen (k := 600000) (n := 7302250) (by omega) (by omega) ?_
      exact lw_ret hx hb hr hlocks dL_law_847
    · have hk : 4 * kc + 4 ≤ L := Nat.not_lt.mp (fun q => c23 ((lw_cmp (by omega) hL2).mpr q))
      have kk : ∀ (τ : gS) (z1 : Nat) (H1 : Heap) (locs1 : List Loc), LwI τ o mo b z1 → s.heap.size ≤ z1 → H1.size = z1 → gH D ka τ H1 → gL s.heap.size τ → va_S (gA s.heap.size) s.heap H1 locs1 → W p l e room_1 s m #[Value.ref B] below meth c H1 locs1 (100 + 17 * kc + 17) (12000 + 789 * kc + 789) (lw_Z below #[Value.ref B] s) (F0 m 840 ls []) := by
        intro τ z1 H1 locs1 hI1 hlo1 hz1 hP1 hL1 hS1
        refine lv_iinc (v := nI (4 * kc + 4)) (lv' := [(3, .int (nI (4 * kc + 4))), (0, .ref B), (1, .ref o), (2, .ref mo)]) hx hb dL_law_840 hl (k := 3) rfl (g_inc (4 * kc) 4) (by decide) rfl (fun ls hl => ?_)
        refine lv_goto (tgt := 18) hx hb dL_law_843 (by decide) ?_
        exact ih (kc + 1) τ z1 H1 locs1 ls (by omega) (by omega) hI1 hlo1 hz1 hP1 hL1 hS1 (lv_sub hl [1, 2, 3, 0] rfl)
      refine lv_aload_n hx hb dL_law_26 rfl (lv_at hl 0 rfl) ?_
      refine lv_iload_n hx hb dL_law_27 rfl (lv_at hl 3 rfl) ?_
      refine va_sld (i := nI (4 * kc)) hx hb hX hBl hbA hS (vp_in_nI (by omega) (by omega)) dL_law_28 ?_
      rw [nI_clamp (n := 4 * kc) (by omega)]
      refine lv_bipush (v := nI 31) hx hb dL_law_29 (by decide) ?_
      refine lv_iand hx hb dL_law_31 ?_
      obtain ⟨sw, hsw0⟩ : ∃ sw : Int32, sw = xs (4 * kc) &&& nI 31 := ⟨_, rfl⟩
      refine g_top (y := sw) hsw0.symm ?_
      rcases Decidable.em (inB sw (nI 0) (nI 23) = true) with hin | hout
      · obtain ⟨k9, hk1, hk2, hke⟩ := inB_of (by decide) (by decide) hin
        rcases (show k9 = 0 ∨ k9 = 1 ∨ k9 = 2 ∨ k9 = 3 ∨ k9 = 4 ∨ k9 = 5 ∨ k9 = 6 ∨ k9 = 7 ∨ k9 = 8 ∨ k9 = 9 ∨ k9 = 10 ∨ k9 = 11 ∨ k9 = 12 ∨ k9 = 13 ∨ k9 = 14 ∨ k9 = 15 ∨ k9 = 16 ∨ k9 = 17 ∨ k9 = 18 ∨ k9 = 19 ∨ k9 = 20 ∨ k9 = 21 ∨ k9 = 22 ∨ k9 = 23 by omega) with hk0 | hk0 | hk0 | hk0 | hk0 | hk0 | hk0 | hk0 | hk0 | hk0 | hk0 | hk0 | hk0 | hk0 | hk0 | hk0 | hk0 | hk0 | hk0 | hk0 | hk0 | hk0 | hk0 | hk0
        · refine g_top (y := nI 0) (by rw [hke, hk0]) ?_
          refine lv_tableIn (tgt := 144) (off := 112) hx hb dL_law_32 (by decide) (by decide) (by decide) (by decide) ?_
          exact law_c0 hx hb hml hown hts hK hX hBl hL2 hk hmo hbo hI hlo hz hP hL hS hl kk
        · refine g_top (y := nI 1) (by rw [hke, hk0]) ?_
          refine lv_tableIn (tgt := 169) (off := 137) hx hb dL_law_32 (by decide) (by decide) (by decide) (by decide) ?_
          exact law_c1 hx hb hml hown hts hK hX hBl hL2 hk hmo hbo hI hlo hz hP hL hS hl kk
        · refine g_top (y := nI 2) (by rw [hke, hk0]) ?_
          refine lv_tableIn (tgt := 182) (off := 150) hx hb dL_law_32 (by decide) (by decide) (by decide) (by decide) ?_
          exact law_c2 hx hb hml hown hts hK hX hBl hL2 hk hmo hbo hI hlo hz hP hL hS hl kk
        · refine g_top (y := nI 3) (by rw [hke, hk0]) ?_
          refine lv_tableIn (tgt := 195) (off := 163) hx hb dL_law_32 (by decide) (by decide) (by decide) (by decide) ?_
          exact law_c3 hx hb hml hown hts hK hX hBl hL2 hk hmo hbo hI hlo hz hP hL hS hl kk
        · refine g_top (y := nI 4) (by rw [hke, hk0]) ?_
          refine lv_tableIn (tgt := 238) (off := 206) hx hb dL_law_32 (by decide) (by decide) (by decide) (by decide) ?_
          exact law_c4 hx hb hml hown hts hK hX hBl hL2 hk hmo hbo hI hlo hz hP hL hS hl kk
        · refine g_top (y := nI 5) (by rw [hke, hk0]) ?_
          refine lv_tableIn (tgt := 271) (off := 239) hx hb dL_law_32 (by decide) (by decide) (by decide) (by decide) ?_
          exact law_c5 hx hb hml hown hts hK hX hBl hL2 hk hmo hbo hI hlo hz hP hL hS hl kk
        · refine g_top (y := nI 6) (by rw [hke, hk0]) ?_
          refine lv_tableIn (tgt := 304) (off := 272) hx hb dL_law_32 (by decide) (by decide) (by decide) (by decide) ?_
          exact law_c6 hx hb hml hown hts hK hX hBl hL2 hk hmo hbo hI hlo hz hP hL hS hl kk
        · refine g_top (y := nI 7) (by rw [hke, hk0]) ?_
          refine lv_tableIn (tgt := 353) (off := 321) hx hb dL_law_32 (by decide) (by decide) (by decide) (by decide) ?_
          exact law_c7 hx hb hml hown hts hK hX hBl hL2 hk hmo hbo hI hlo hz hP hL hS hl kk
        · refine g_top (y := nI 8) (by rw [hke, hk0]) ?_
          refine lv_tableIn (tgt := 396) (off := 364) hx hb dL_law_32 (by decide) (by decide) (by decide) (by decide) ?_
          exact law_c8 hx hb hml hown hts hK hX hBl hL2 hk hmo hbo hI hlo hz hP hL hS hl kk
        · refine g_top (y := nI 9) (by rw [hke, hk0]) ?_
          refine lv_tableIn (tgt := 419) (off := 387) hx hb dL_law_32 (by decide) (by decide) (by decide) (by decide) ?_
          exact law_c9 hx hb hml hown hts hK hX hBl hL2 hk hmo hbo hI hlo hz hP hL hS hl kk
        · refine g_top (y := nI 10) (by rw [hke, hk0]) ?_
          refine lv_tableIn (tgt := 478) (off := 446) hx hb dL_law_32 (by decide) (by decide) (by decide) (by decide) ?_
          exact law_c10 hx hb hml hown hts hK hX hBl hL2 hk hmo hbo hI hlo hz hP hL hS hl kk
        · refine g_top (y := nI 11) (by rw [hke, hk0]) ?_
          refine lv_tableIn (tgt := 501) (off := 469) hx hb dL_law_32 (by decide) (by decide) (by decide) (by decide) ?_
          exact law_c11 hx hb hml hown hts hK hX hBl hL2 hk hmo hbo hI hlo hz hP hL hS hl kk
        · refine g_top (y := nI 12) (by rw [hke, hk0]) ?_
          refine lv_tableIn (tgt := 514) (off := 482) hx hb dL_law_32 (by decide) (by decide) (by decide) (by decide) ?_
          exact law_c12 hx hb hml hown hts hK hX hBl hL2 hk hmo hbo hI hlo hz hP hL hS hl kk
        · refine g_top (y := nI 13) (by rw [hke, hk0]) ?_
          refine lv_tableIn (tgt := 527) (off := 495) hx hb dL_law_32 (by decide) (by decide) (by decide) (by decide) ?_
          exact law_c13 hx hb hml hown hts hK hX hBl hL2 hk hmo hbo hI hlo hz hP hL hS hl kk
        · refine g_top (y := nI 14) (by rw [hke, hk0]) ?_
          refine lv_tableIn (tgt := 550) (off := 518) hx hb dL_law_32 (by decide) (by decide) (by decide) (by decide) ?_
          exact law_c14 hx hb hml hown hts hK hX hBl hL2 hk hmo hbo hI hlo hz hP hL hS hl kk
        · refine g_top (y := nI 15) (by rw [hke, hk0]) ?_
          refine lv_tableIn (tgt := 573) (off := 541) hx hb dL_law_32 (by decide) (by decide) (by decide) (by decide) ?_
          exact law_c15 hx hb hml hown hts hK hX hBl hL2 hk hmo hbo hI hlo hz hP hL hS hl kk
        · refine g_top (y := nI 16) (by rw [hke, hk0]) ?_
          refine lv_tableIn (tgt := 606) (off := 574) hx hb dL_law_32 (by decide) (by decide) (by decide) (by decide) ?_
          exact law_c16 hx hb hml hown hts hK hX hBl hL2 hk hmo hbo hI hlo hz hP hL hS hl kk
        · refine g_top (y := nI 17) (by rw [hke, hk0]) ?_
          refine lv_tableIn (tgt := 639) (off := 607) hx hb dL_law_32 (by decide) (by decide) (by decide) (by decide) ?_
          exact law_c17 hx hb hml hown hts hK hX hBl hL2 hk hmo hbo hI hlo hz hP hL hS hl kk
        · refine g_top (y := nI 18) (by rw [hke, hk0]) ?_
          refine lv_tableIn (tgt := 672) (off := 640) hx hb dL_law_32 (by decide) (by decide) (by decide) (by decide) ?_
          exact law_c18 hx hb hml hown hts hK hX hBl hL2 hk hmo hbo hI hlo hz hP hL hS hl kk
        · refine g_top (y := nI 19) (by rw [hke, hk0]) ?_
          refine lv_tableIn (tgt := 705) (off := 673) hx hb dL_law_32 (by decide) (by decide) (by decide) (by decide) ?_
          exact law_c19 hx hb hml hown hts hK hX hBl hL2 hk hmo hbo hI hlo hz hP hL hS hl kk
        · refine g_top (y := nI 20) (by rw [hke, hk0]) ?_
          refine lv_tableIn (tgt := 738) (off := 706) hx hb dL_law_32 (by decide) (by decide) (by decide) (by decide) ?_
          exact law_c20 hx hb hml hown hts hK hX hBl hL2 hk hmo hbo hI hlo hz hP hL hS hl kk
        · refine g_top (y := nI 21) (by rw [hke, hk0]) ?_
          refine lv_tableIn (tgt := 771) (off := 739) hx hb dL_law_32 (by decide) (by decide) (by decide) (by decide) ?_
          exact law_c21 hx hb hml hown hts hK hX hBl hL2 hk hmo hbo hI hlo hz hP hL hS hl kk
        · refine g_top (y := nI 22) (by rw [hke, hk0]) ?_
          refine lv_tableIn (tgt := 794) (off := 762) hx hb dL_law_32 (by decide) (by decide) (by decide) (by decide) ?_
          exact law_c22 hx hb hml hown hts hK hX hBl hL2 hk hmo hbo hI hlo hz hP hL hS hl kk
        · refine g_top (y := nI 23) (by rw [hke, hk0]) ?_
          refine lv_tableIn (tgt := 817) (off := 785) hx hb dL_law_32 (by decide) (by decide) (by decide) (by decide) ?_
          exact law_c23 hx hb hml hown hts hK hX hBl hL2 hk hmo hbo hI hlo hz hP hL hS hl kk
      · refine lv_tableOut (tgt := 840) hx hb dL_law_32 (ts_out (by decide) (by decide) hout) (by decide) ?_
        refine W.widen (k := 100 + 17 * kc + 17) (n := 12000 + 789 * kc + 789) (by omega) (by omega) ?_
        exact kk σ z H locs hI hlo hz hP hL hS
set_option maxHeartbeats 4000000 in
set_option maxRecDepth 100000 in
/-- THE LAW, from its entry -/
theorem whole_start {p : Program} {e : Env} {s : State} {m : MethodId} {below : List Frame} {meth : Method} {c : Code} (l : Launch) (hflags : l.flags = flags0) {b L : Nat} {xs : Nat → Int32} (hL : L ≤ 2048) (C0 : lw_At p s m meth c b L xs) : W p l e room_1 s m #[Value.ref b] below meth c s.heap [] 0 0 (lw_Z below #[Value.ref b] s) (entryFrame m ([Value.ref b] : List Value).toArray 4) := by
  have hL2 := hL
  obtain ⟨hx, hb, hr, hml, hown, hts, hX, hbl, hlocks, hgv⟩ := id C0
  have hown : s.vm.findClass RL = some m.cls := hown
  have htl : ∀ w ∈ wsL_law, w.before #[Value.ref b] s = true := fun w hw => hts w (wsL_law_in w hw)
  obtain ⟨D, ka, hK⟩ := gK_entry hts
  have hl := lv_entry ([.ref b]) (n := 4) (Nat.le_of_ble_eq_true rfl)
  rw [lg_entry_eq]
  generalize (lg_sl ([.ref b]) ++ List.replicate (4 - (lg_sl ([.ref b])).length) Slot.unset).toArray = ls at hl ⊢
  have hl : lv_has ls 4 [(0, .ref b)] := hl
  obtain ⟨o, ho9⟩ : ∃ o : Nat, o = s.heap.size := ⟨_, rfl⟩
  have hz : s.heap.size = o := ho9.symm
  have hlo : s.heap.size ≤ o := by omega
  have hP : gH D ka (fun _ => none) s.heap := fun q e he => by cases he
  have hL : gL s.heap.size (fun _ => none) := fun q e he => by cases he
  have hS : va_S (gA s.heap.size) s.heap s.heap [] := va_S.rf
  refine g_new (C := RX7) (T := TX7) (N := 7) (ci := 7) (fs := [.null, .null, .null, .null, .null, .null, .null]) hx hb htl hown hK hz hP hL hS hlo inlX7 tyX7 tyX7_ok rfl (by decide +kernel) (by decide +kernel) (by decide +kernel) rfl (Nat.le_of_ble_eq_true rfl) (Nat.le_of_ble_eq_true rfl) dL_law_0 (fun H hz hP hL hS => ?_)
  have hlo : s.heap.size ≤ o + 1 := by omega
  refine lv_dup hx hb dL_law_3 rfl ?_
  refine g_runI (b := o) (As := []) (rest := [.ref o]) (own := RL) 0 hx hb hml hown htl hK hz hP hL hS hlo hl.1 (c_X7_init l o _ (gup_s _ _ _)) gL_law_X7_init rfl rfl rfl (by decide +kernel) (by decide +kernel) (by decide +kernel) rfl (by decide +kernel) ⟨Nat.le_of_ble_eq_true rfl, Nat.le_of_ble_eq_true rfl⟩ rfl rfl (Nat.le_of_ble_eq_true rfl) dL_law_4 ⟨Nat.le_of_ble_eq_true rfl, Nat.le_of_ble_eq_true rfl⟩ (g_kxv (fun τ1 H locs z1 hz hp hP hL hS => ?_))
  obtain ⟨hz1, hW, ha1⟩ := hp
  have hz : H.size = o + 39 := hz.trans hz1
  have hlo : s.heap.size ≤ o + 39 := by omega
  refine lv_astore_n (lv' := [(1, .ref o), (0, .ref b)]) hx hb dL_law_7 rfl hl (by decide) rfl (fun ls hl => ?_)
  obtain ⟨mo, hmo⟩ : ∃ mo : Nat, mo = o + 39 := ⟨_, rfl⟩
  have hz : H.size = mo := hz.trans hmo.symm
  have hlo : s.heap.size ≤ mo := by omega
  refine g_new (C := RX8) (T := TX8) (N := 20) (ci := 8) (fs := [.null, .null, .null, .int (0), .null, .null, .int (0), .null, .int (0), .null, .null, .null, .int (0), .null, .null, .null, .int (0), .null, .null, .null]) hx hb htl hown hK hz hP hL hS hlo inlX8 tyX8 tyX8_ok rfl (by decide +kernel) (by decide +kernel) (by decide +kernel) rfl (Nat.le_of_ble_eq_true rfl) (Nat.le_of_ble_eq_true rfl) dL_law_8 (fun H hz hP hL hS => ?_)
  have hlo : s.heap.size ≤ mo + 1 := by omega
  refine lv_dup hx hb dL_law_11 rfl ?_
  refine g_runI (b := mo) (As := []) (rest := [.ref mo]) (own := RL) 0 hx hb hml hown htl hK hz hP hL hS hlo hl.1 (c_X8_init l mo _ (gup_s _ _ _)) gL_law_X8_init rfl rfl rfl (by decide +kernel) (by decide +kernel) (by decide +kernel) rfl (by decide +kernel) ⟨Nat.le_of_ble_eq_true rfl, Nat.le_of_ble_eq_true rfl⟩ rfl rfl (Nat.le_of_ble_eq_true rfl) dL_law_12 ⟨Nat.le_of_ble_eq_true rfl, Nat.le_of_ble_eq_true rfl⟩ (g_kxv (fun τ2 H locs z2 hz hp hP hL hS => ?_))
  obtain ⟨hz2, hM, ha2⟩ := hp
  have hz : H.size = o + 55 := by rw [hz, hz2]; omega
  have hlo : s.heap.size ≤ o + 55 := by omega
  refine lv_astore_n (lv' := [(2, .ref mo), (1, .ref o), (0, .ref b)]) hx hb dL_law_15 rfl hl (by decide) rfl (fun ls hl => ?_)
  refine lv_iconst (v := nI 0) hx hb dL_law_16 (by decide) ?_
  refine lv_istore_n (lv' := [(3, .int (nI 0)), (2, .ref mo), (1, .ref o), (0, .ref b)]) hx hb dL_law_17 rfl hl (by decide) rfl (fun ls hl => ?_)
  have hI : LwI τ2 o mo (o + 55) (o + 55) := by
    refine ⟨s0S, fun _ => 0, 0, 0, fun _ => s0S, fun _ => false, (hW (o + 55) (o + 55) (by omega) (Nat.le_refl _)).fr (fun q h1 h2 => ?_), hM, okX.new, fun k hk => absurd hk (Nat.not_lt_zero k), fun k hk h => absurd h (by simp)⟩
    have h3 : q < o + 39 := h1.elim (fun h4 => h4.2) (fun h4 => by omega)
    rw [ha2 q (fun h4 => by have h5 := h4.1; omega), gup_n (by omega)]
  refine W.widen (k := 100 + 17 * 0) (n := 12000 + 789 * 0) (Nat.le_of_ble_eq_true rfl) (Nat.le_of_ble_eq_true rfl) ?_
  exact law_loop hx hb hml hown htl hK hX hbl hL2 hmo (Nat.le_refl _) hr hlocks (L + 1) 0 τ2 (o + 55) H locs ls (by omega) (by omega) hI hlo hz hP hL hS (lv_sub hl [3, 2, 1, 0] rfl)
