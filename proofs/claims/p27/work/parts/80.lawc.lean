set_option maxHeartbeats 4000000 in
set_option maxRecDepth 100000 in
theorem law_c0 {p : Program} {l : Launch} {e : Env} {s : State} {m : MethodId} {below : List Frame} {meth : Method} {c : Code} {Q : State → Prop} {D : va_G} {ka : Nat → ClassId} {B o b lo : Nat} {ne cA sA : Nat} (hx : p.tables.exec = Jvm.exec) (hb : c.code = code) (hml : c.maxLocals = 15) (hown : s.vm.findClass RL = some m.cls) (hts : ∀ w ∈ wsL_law, w.before #[Value.ref B] s = true) (hK : gK D ka s) (hcA : cA ≤ 500000) (hsA : sA ≤ 6000000) {σ : gS} {z : Nat} {H : Heap} {locs : List Loc} {ls : Array Slot} {S : sS} {tf : Nat → Int32} {tn P : Nat} {C : Nat → sS} {kp : Nat → Bool} (hW : Wo σ o b S tf tn P C kp z) (hY : okY S) (hB1 : 0 < sB S) (hN1 : 0 < sN S) (hC : okC P C kp) (hlo : lo ≤ z) (hz : H.size = z) (hP : gH D ka σ H) (hL : gL lo σ) (hS : va_S (gA lo) s.heap H locs) {gg hh : Int32} {jb iw : Nat} (hjb : jb < sB S) (hiw : iw < sN S)  (hl : lv_has ls 15 [(0, .ref B), (1, .ref o), (2, .int (nI ne)), (3, .int gg), (4, .int hh)]) (kk : ∀ (τ : gS) (z1 : Nat) (H1 : Heap) (locs1 : List Loc) (ls1 : Array Slot), LwJ τ o b z1 → lo ≤ z1 → H1.size = z1 → gH D ka τ H1 → gL lo τ → va_S (gA lo) s.heap H1 locs1 → lv_has ls1 15 [(0, .ref B), (1, .ref o), (2, .int (nI ne)), (10, .int (nI 1))] → W p l e room_1 s m #[Value.ref B] below meth c H1 locs1 (cA + 100) (sA + 4000) Q (F0 m 898 ls1 [])) : W p l e room_1 s m #[Value.ref B] below meth c H locs (cA) (sA) Q (F0 m 135 ls []) := by
  have hoz := hW.oz
  obtain ⟨⟨hB, hN, hKs, hRs⟩, -⟩ := id hY.1
  refine lv_aload_n hx hb dL_law_135 rfl (lv_at hl 1 rfl) ?_
  refine lv_iload_n hx hb dL_law_136 rfl (lv_at hl 3 rfl) ?_
  refine lv_iload hx hb dL_law_137 (lv_at hl 4 rfl) ?_
  refine g_runS (As := [.ref o, .int gg, .int hh]) (rest := []) (own := RL) 3 hx hb hml hown hts hK hz hP hL hS hlo hl.1 (c_L_reads l o b S tf tn P C kp z gg hh σ z hW hY (by omega) hC) gL_law_L_reads rfl rfl rfl (by decide +kernel) ⟨Nat.le_of_ble_eq_true rfl, Nat.le_of_ble_eq_true rfl⟩ rfl rfl (Nat.le_of_ble_eq_true rfl) dL_law_139 ⟨(show cA + 19 ≤ 600000 by omega), (show sA + 917 ≤ 7302250 by omega)⟩ (g_kxi (fun r_1 τ_1 H locs z_1 hz hp hP hL hS => ?_))
  obtain ⟨hr_1, S3, tf3, tn3, P3, C3, hW, hY3, hB3, hN3, hC3, hzl_1, hzu_1⟩ := hp
  have hlo : lo ≤ z_1 := Nat.le_trans hlo hzl_1
  have hN31 : 0 < sN S3 := by omega
  subst hr_1
  refine lv_istore (lv' := [(10, .int (nI 1)), (0, .ref B), (1, .ref o), (2, .int (nI ne)), (3, .int gg), (4, .int hh)]) hx hb dL_law_142 hl (by decide) rfl (fun ls hl => ?_)
  refine lv_goto (tgt := 898) hx hb dL_law_144 (by decide) ?_
  refine W.widen (k := cA + 100) (n := sA + 4000) (by omega) (by omega) ?_
  exact kk τ_1 z_1 H locs ls ⟨_, _, _, _, _, _, hW.up (by omega), hY3, hB3, hN31, hC3⟩ hlo hz hP hL hS (lv_sub hl [1, 2, 3, 0] rfl)

set_option maxHeartbeats 4000000 in
set_option maxRecDepth 100000 in
theorem law_c1 {p : Program} {l : Launch} {e : Env} {s : State} {m : MethodId} {below : List Frame} {meth : Method} {c : Code} {Q : State → Prop} {D : va_G} {ka : Nat → ClassId} {B o b lo : Nat} {ne cA sA : Nat} (hx : p.tables.exec = Jvm.exec) (hb : c.code = code) (hml : c.maxLocals = 15) (hown : s.vm.findClass RL = some m.cls) (hts : ∀ w ∈ wsL_law, w.before #[Value.ref B] s = true) (hK : gK D ka s) (hcA : cA ≤ 500000) (hsA : sA ≤ 6000000) {σ : gS} {z : Nat} {H : Heap} {locs : List Loc} {ls : Array Slot} {S : sS} {tf : Nat → Int32} {tn P : Nat} {C : Nat → sS} {kp : Nat → Bool} (hW : Wo σ o b S tf tn P C kp z) (hY : okY S) (hB1 : 0 < sB S) (hN1 : 0 < sN S) (hC : okC P C kp) (hlo : lo ≤ z) (hz : H.size = z) (hP : gH D ka σ H) (hL : gL lo σ) (hS : va_S (gA lo) s.heap H locs) {gg hh : Int32} {jb iw : Nat} (hjb : jb < sB S) (hiw : iw < sN S)  (hl : lv_has ls 15 [(0, .ref B), (1, .ref o), (2, .int (nI ne)), (3, .int gg), (4, .int hh), (7, .int (nI (sN S)))]) (kk : ∀ (τ : gS) (z1 : Nat) (H1 : Heap) (locs1 : List Loc) (ls1 : Array Slot), LwJ τ o b z1 → lo ≤ z1 → H1.size = z1 → gH D ka τ H1 → gL lo τ → va_S (gA lo) s.heap H1 locs1 → lv_has ls1 15 [(0, .ref B), (1, .ref o), (2, .int (nI ne)), (10, .int (nI 1))] → W p l e room_1 s m #[Value.ref B] below meth c H1 locs1 (cA + 100) (sA + 4000) Q (F0 m 898 ls1 [])) : W p l e room_1 s m #[Value.ref B] below meth c H locs (cA) (sA) Q (F0 m 153 ls []) := by
  have hoz := hW.oz
  obtain ⟨⟨hB, hN, hKs, hRs⟩, -⟩ := id hY.1
  refine lv_iload hx hb dL_law_153 (lv_at hl 5 rfl) ?_
  refine lv_iconst (v := (nI 5)) hx hb dL_law_155 (by decide) ?_
  refine g_icmp_gt (tgt := 185) (a := sN S) (b := 5) hx hb (by omega) (by omega) dL_law_156 (by decide) (fun c156 => ?_) (fun c156 => ?_)
  · refine lv_iconst (v := (nI 1)) hx hb dL_law_185 (by decide) ?_
    refine lv_goto (tgt := 190) hx hb dL_law_186 (by decide) ?_
    refine lv_istore (lv' := [(10, .int (nI 1)), (0, .ref B), (1, .ref o), (2, .int (nI ne)), (3, .int gg), (4, .int hh), (7, .int (nI (sN S)))]) hx hb dL_law_190 hl (by decide) rfl (fun ls hl => ?_)
    refine lv_goto (tgt := 898) hx hb dL_law_192 (by decide) ?_
    refine W.widen (k := cA + 100) (n := sA + 4000) (by omega) (by omega) ?_
    exact kk σ z H locs ls ⟨_, _, _, _, _, _, hW.up (by omega), hY, hB1, hN1, hC⟩ hlo hz hP hL hS (lv_sub hl [1, 2, 3, 0] rfl)
  · refine lv_aload_n hx hb dL_law_159 rfl (lv_at hl 1 rfl) ?_
    refine lv_iconst (v := (nI 4)) hx hb dL_law_160 (by decide) ?_
    refine lv_iload_n hx hb dL_law_161 rfl (lv_at hl 3 rfl) ?_
    refine lv_bipush (v := (nI 20)) hx hb dL_law_162 (by decide) ?_
    refine g_runS (As := [.int gg, .int (nI 20)]) (rest := [.int (nI 4), .ref o]) (own := RL) 2 hx hb hml hown hts hK hz hP hL hS hlo hl.1 (c_L_low l gg 20 σ z (by omega) (by omega)) gL_law_L_low rfl rfl rfl (by decide +kernel) ⟨Nat.le_of_ble_eq_true rfl, Nat.le_of_ble_eq_true rfl⟩ rfl rfl (Nat.le_of_ble_eq_true rfl) dL_law_164 ⟨(show cA + 0 ≤ 600000 by omega), (show sA + 0 ≤ 7302250 by omega)⟩ (g_ki0 (fun H locs hz hP hL hS => ?_))
    obtain ⟨q_1, hq_1⟩ : ∃ q : Nat, q = lowN gg 20 := ⟨_, rfl⟩
    have hql_1 : q_1 < 20 := by rw [hq_1]; exact lowN_lt _ (by omega)
    refine g_top (y := (nI q_1)) (by rw [hq_1]) ?_
    refine lv_iadd hx hb dL_law_167 ?_
    refine g_top (nI_add 4 q_1) ?_
    refine lv_iconst (v := (nI 1)) hx hb dL_law_168 (by decide) ?_
    refine lv_iload hx hb dL_law_169 (lv_at hl 4 rfl) ?_
    refine lv_bipush (v := (nI 10)) hx hb dL_law_171 (by decide) ?_
    refine g_runS (As := [.int hh, .int (nI 10)]) (rest := [.int (nI 1), .int (nI (4 + q_1)), .ref o]) (own := RL) 2 hx hb hml hown hts hK hz hP hL hS hlo hl.1 (c_L_low l hh 10 σ z (by omega) (by omega)) gL_law_L_low rfl rfl rfl (by decide +kernel) ⟨Nat.le_of_ble_eq_true rfl, Nat.le_of_ble_eq_true rfl⟩ rfl rfl (Nat.le_of_ble_eq_true rfl) dL_law_173 ⟨(show cA + 0 ≤ 600000 by omega), (show sA + 0 ≤ 7302250 by omega)⟩ (g_ki0 (fun H locs hz hP hL hS => ?_))
    obtain ⟨q_2, hq_2⟩ : ∃ q : Nat, q = lowN hh 10 := ⟨_, rfl⟩
    have hql_2 : q_2 < 10 := by rw [hq_2]; exact lowN_lt _ (by omega)
    refine g_top (y := (nI q_2)) (by rw [hq_2]) ?_
    refine lv_iadd hx hb dL_law_176 ?_
    refine g_top (nI_add 1 q_2) ?_
    refine g_runV (As := [.int (nI (4 + q_1)), .int (nI (1 + q_2))]) (rest := []) (own := RL) (C := RX7) (T := TX7) (N := 7) 2 hx hb hml hown hts hK hz hP hL hS hlo hl.1 (c_X7_addSinger l o b S tf tn P C kp ((nI (4 + q_1))) ((nI (1 + q_2))) σ z (hW.up (by omega)) hY.1.1) gL_law_X7_addSinger rfl rfl rfl (by decide +kernel) ⟨Nat.le_of_ble_eq_true rfl, Nat.le_of_ble_eq_true rfl⟩ hW.c0 rfl rfl rfl (Nat.le_of_ble_eq_true rfl) dL_law_177 ⟨(show cA + 17 ≤ 600000 by omega), (show sA + 789 ≤ 7302250 by omega)⟩ (g_kxi (fun r_3 τ_3 H locs z_3 hz hp hP hL hS => ?_))
    obtain ⟨S2, he, hY2, hB2, hN2⟩ := a_add hY (x := 4 + q_1) (y := 1 + q_2) ⟨by omega, by omega⟩ ⟨by omega, by omega⟩ (by omega)
    obtain ⟨hr_3, hW, hzl_3, hzu_3⟩ := wP_yes he hp
    have hC2 := hC.act hY.1.1 (show P ≤ 5 by omega)
    have hB21 : 0 < sB S2 := by omega
    have hN21 : 0 < sN S2 := by omega
    obtain ⟨⟨hB9, hN9, hK9, hR9⟩, -⟩ := id hY2.1
    have hlo : lo ≤ z_3 := Nat.le_trans hlo hzl_3
    subst hr_3
    have hoz_3 := hW.oz
    refine lv_iload hx hb dL_law_180 (lv_at hl 5 rfl) ?_
    refine lv_icmp_ne (tgt := 189) hx hb dL_law_182 (by decide) (fun c182 => absurd rfl c182) (fun c182 => ?_)
    refine lv_iconst (v := (nI 1)) hx hb dL_law_185 (by decide) ?_
    refine lv_goto (tgt := 190) hx hb dL_law_186 (by decide) ?_
    refine lv_istore (lv' := [(10, .int (nI 1)), (0, .ref B), (1, .ref o), (2, .int (nI ne)), (3, .int gg), (4, .int hh), (7, .int (nI (sN S)))]) hx hb dL_law_190 hl (by decide) rfl (fun ls hl => ?_)
    refine lv_goto (tgt := 898) hx hb dL_law_192 (by decide) ?_
    refine W.widen (k := cA + 100) (n := sA + 4000) (by omega) (by omega) ?_
    exact kk τ_3 z_3 H locs ls ⟨_, _, _, _, _, _, hW.up (by omega), hY2, hB21, hN21, hC2⟩ hlo hz hP hL hS (lv_sub hl [1, 2, 3, 0] rfl)

set_option maxHeartbeats 4000000 in
set_option maxRecDepth 100000 in
theorem law_c2 {p : Program} {l : Launch} {e : Env} {s : State} {m : MethodId} {below : List Frame} {meth : Method} {c : Code} {Q : State → Prop} {D : va_G} {ka : Nat → ClassId} {B o b lo : Nat} {ne cA sA : Nat} (hx : p.tables.exec = Jvm.exec) (hb : c.code = code) (hml : c.maxLocals = 15) (hown : s.vm.findClass RL = some m.cls) (hts : ∀ w ∈ wsL_law, w.before #[Value.ref B] s = true) (hK : gK D ka s) (hcA : cA ≤ 500000) (hsA : sA ≤ 6000000) {σ : gS} {z : Nat} {H : Heap} {locs : List Loc} {ls : Array Slot} {S : sS} {tf : Nat → Int32} {tn P : Nat} {C : Nat → sS} {kp : Nat → Bool} (hW : Wo σ o b S tf tn P C kp z) (hY : okY S) (hB1 : 0 < sB S) (hN1 : 0 < sN S) (hC : okC P C kp) (hlo : lo ≤ z) (hz : H.size = z) (hP : gH D ka σ H) (hL : gL lo σ) (hS : va_S (gA lo) s.heap H locs) {gg hh : Int32} {jb iw : Nat} (hjb : jb < sB S) (hiw : iw < sN S)  (hl : lv_has ls 15 [(0, .ref B), (1, .ref o), (2, .int (nI ne)), (3, .int gg), (4, .int hh), (6, .int (nI (sB S))), (8, .int (nI jb))]) (kk : ∀ (τ : gS) (z1 : Nat) (H1 : Heap) (locs1 : List Loc) (ls1 : Array Slot), LwJ τ o b z1 → lo ≤ z1 → H1.size = z1 → gH D ka τ H1 → gL lo τ → va_S (gA lo) s.heap H1 locs1 → lv_has ls1 15 [(0, .ref B), (1, .ref o), (2, .int (nI ne)), (10, .int (nI 1))] → W p l e room_1 s m #[Value.ref B] below meth c H1 locs1 (cA + 100) (sA + 4000) Q (F0 m 898 ls1 [])) : W p l e room_1 s m #[Value.ref B] below meth c H locs (cA) (sA) Q (F0 m 206 ls []) := by
  have hoz := hW.oz
  obtain ⟨⟨hB, hN, hKs, hRs⟩, -⟩ := id hY.1
  refine lv_iload hx hb dL_law_206 (lv_at hl 6 rfl) ?_
  refine lv_iload hx hb dL_law_208 (lv_at hl 4 rfl) ?_
  refine lv_iload hx hb dL_law_210 (lv_at hl 5 rfl) ?_
  refine lv_iload hx hb dL_law_212 (lv_at hl 6 rfl) ?_
  refine lv_isub hx hb dL_law_214 ?_
  refine g_top (pk_sub (by omega : jb ≤ sB S)) ?_
  refine g_runS (As := [.int hh, .int (nI ((sB S) - jb))]) (rest := [.int (nI jb)]) (own := RL) 2 hx hb hml hown hts hK hz hP hL hS hlo hl.1 (c_L_low l hh ((sB S) - jb) σ z (by omega) (by omega)) gL_law_L_low rfl rfl rfl (by decide +kernel) ⟨Nat.le_of_ble_eq_true rfl, Nat.le_of_ble_eq_true rfl⟩ rfl rfl (Nat.le_of_ble_eq_true rfl) dL_law_215 ⟨(show cA + 0 ≤ 600000 by omega), (show sA + 0 ≤ 7302250 by omega)⟩ (g_ki0 (fun H locs hz hP hL hS => ?_))
  obtain ⟨q_1, hq_1⟩ : ∃ q : Nat, q = lowN hh ((sB S) - jb) := ⟨_, rfl⟩
  have hql_1 : q_1 < (sB S) - jb := by rw [hq_1]; exact lowN_lt _ (by omega)
  refine g_top (y := (nI q_1)) (by rw [hq_1]) ?_
  refine lv_iadd hx hb dL_law_218 ?_
  refine g_top (nI_add jb q_1) ?_
  obtain ⟨ql, hqle⟩ : ∃ x : Nat, x = q_1 := ⟨_, rfl⟩
  refine g_top (y := (nI (jb + ql))) (by rw [hqle]) ?_
  have hql9 : jb + ql < sB S := by omega
  refine lv_istore (lv' := [(11, .int (nI (jb + ql))), (0, .ref B), (1, .ref o), (2, .int (nI ne)), (3, .int gg), (4, .int hh), (6, .int (nI (sB S))), (8, .int (nI jb))]) hx hb dL_law_219 hl (by decide) rfl (fun ls hl => ?_)
  refine lv_iconst (v := (nI 0)) hx hb dL_law_221 (by decide) ?_
  refine lv_istore (lv' := [(12, .int (nI 0)), (11, .int (nI (jb + ql))), (0, .ref B), (1, .ref o), (2, .int (nI ne)), (3, .int gg), (4, .int hh), (6, .int (nI (sB S))), (8, .int (nI jb))]) hx hb dL_law_222 hl (by decide) rfl (fun ls hl => ?_)
  refine lv_iload hx hb dL_law_224 (lv_at hl 8 rfl) ?_
  refine lv_istore (lv' := [(13, .int (nI jb)), (12, .int (nI 0)), (11, .int (nI (jb + ql))), (0, .ref B), (1, .ref o), (2, .int (nI ne)), (3, .int gg), (4, .int hh), (6, .int (nI (sB S))), (8, .int (nI jb))]) hx hb dL_law_226 hl (by decide) rfl (fun ls hl => ?_)
  have lpA : ∀ (fu_lpA : Nat) (dd : Nat), (dd ≤ ql + 1) → (ql + 1 - dd < fu_lpA) → ∀ (υ : gS), (Wo υ o b S tf tn P C kp z) → gL lo υ → ∀ (H : Heap) (locs : List Loc) (ls : Array Slot), H.size = z → gH D ka υ H → va_S (gA lo) s.heap H locs → lv_has ls 15 [(0, .ref B), (1, .ref o), (2, .int (nI ne)), (3, .int gg), (4, .int hh), (6, .int (nI (sB S))), (8, .int (nI jb)), (11, .int (nI (jb + ql))), (12, .int (nI (sndN S jb dd))), (13, .int (nI (jb + dd)))] → W p l e room_1 s m #[Value.ref B] below meth c H locs (cA) (sA) Q (F0 m 228 ls []) := by
    intro fu_lpA
    induction fu_lpA with
    | zero => intro dd hdd hm_lpA; exact absurd hm_lpA (Nat.not_lt_zero _)
    | succ fu_lpA ih_lpA =>
      intro dd hdd hm_lpA υ hW hL H locs ls hz hP hS hl
      refine lv_iload hx hb dL_law_228 (lv_at hl 9 rfl) ?_
      refine lv_iload hx hb dL_law_230 (lv_at hl 7 rfl) ?_
      refine g_icmp_gt (tgt := 261) (a := jb + dd) (b := jb + ql) hx hb (by omega) (by omega) dL_law_232 (by decide) (fun c232 => ?_) (fun c232 => ?_)
      · have hdde : dd = ql + 1 := by omega
        rw [hdde] at hl
        refine lv_aload_n hx hb dL_law_261 rfl (lv_at hl 1 rfl) ?_
        refine lv_iload hx hb dL_law_262 (lv_at hl 6 rfl) ?_
        refine lv_iload hx hb dL_law_264 (lv_at hl 7 rfl) ?_
        refine lv_iconst (v := (nI 1)) hx hb dL_law_266 (by decide) ?_
        refine lv_iload hx hb dL_law_267 (lv_at hl 4 rfl) ?_
        refine lv_iconst (v := (nI 5)) hx hb dL_law_269 (by decide) ?_
        refine lv_ishr hx hb dL_law_270 ?_
        refine lv_iconst (v := (nI 5)) hx hb dL_law_271 (by decide) ?_
        refine g_runS (As := [.int (hh >>> ((nI 5) &&& 31)), .int (nI 5)]) (rest := [.int (nI 1), .int (nI (jb + ql)), .int (nI jb), .ref o]) (own := RL) 2 hx hb hml hown hts hK hz hP hL hS hlo hl.1 (c_L_low l ((hh >>> ((nI 5) &&& 31))) 5 υ z (by omega) (by omega)) gL_law_L_low rfl rfl rfl (by decide +kernel) ⟨Nat.le_of_ble_eq_true rfl, Nat.le_of_ble_eq_true rfl⟩ rfl rfl (Nat.le_of_ble_eq_true rfl) dL_law_272 ⟨(show cA + 0 ≤ 600000 by omega), (show sA + 0 ≤ 7302250 by omega)⟩ (g_ki0 (fun H locs hz hP hL hS => ?_))
        obtain ⟨q_2, hq_2⟩ : ∃ q : Nat, q = lowN ((hh >>> ((nI 5) &&& 31))) 5 := ⟨_, rfl⟩
        have hql_2 : q_2 < 5 := by rw [hq_2]; exact lowN_lt _ (by omega)
        refine g_top (y := (nI q_2)) (by rw [hq_2]) ?_
        refine lv_iadd hx hb dL_law_275 ?_
        refine g_top (nI_add 1 q_2) ?_
        refine g_runV (As := [.int (nI jb), .int (nI (jb + ql)), .int (nI (1 + q_2))]) (rest := []) (own := RL) (C := RX7) (T := TX7) (N := 7) 3 hx hb hml hown hts hK hz hP hL hS hlo hl.1 (c_X7_setLoudness l o b S tf tn P C kp ((nI jb)) ((nI (jb + ql))) ((nI (1 + q_2))) υ z (hW.up (by omega)) hY.1.1) gL_law_X7_setLoudness rfl rfl rfl (by decide +kernel) ⟨Nat.le_of_ble_eq_true rfl, Nat.le_of_ble_eq_true rfl⟩ hW.c0 rfl rfl rfl (Nat.le_of_ble_eq_true rfl) dL_law_276 ⟨(show cA + 17 ≤ 600000 by omega), (show sA + 789 ≤ 7302250 by omega)⟩ (g_kxi (fun r_3 τ_3 H locs z_3 hz hp hP hL hS => ?_))
        obtain ⟨S2, he, hY2, hB2, hN2, hv2⟩ := a_lou hY (j := jb) (q := ql) (v := 1 + q_2) (by omega) ⟨by omega, by omega⟩
        obtain ⟨hr_3, hW, hzl_3, hzu_3⟩ := wP_yes he hp
        have hC2 := hC.act hY.1.1 (show P ≤ 5 by omega)
        have hB21 : 0 < sB S2 := by omega
        have hN21 : 0 < sN S2 := by omega
        obtain ⟨⟨hB9, hN9, hK9, hR9⟩, -⟩ := id hY2.1
        have hlo : lo ≤ z_3 := Nat.le_trans hlo hzl_3
        subst hr_3
        have hoz_3 := hW.oz
        refine lv_iload hx hb dL_law_279 (lv_at hl 8 rfl) ?_
        refine lv_icmp_ne (tgt := 308) hx hb dL_law_281 (by decide) (fun c281 => absurd rfl c281) (fun c281 => ?_)
        refine lv_aload_n hx hb dL_law_284 rfl (lv_at hl 1 rfl) ?_
        refine lv_iload hx hb dL_law_285 (lv_at hl 7 rfl) ?_
        refine lv_iconst (v := (nI 1)) hx hb dL_law_287 (by decide) ?_
        refine g_runV (As := [.int (nI (jb + ql)), .int (nI 1)]) (rest := []) (own := RL) (C := RX7) (T := TX7) (N := 7) 2 hx hb hml hown hts hK hz hP hL hS hlo hl.1 (c_X7_beat l o b S2 tf tn (recP P) (recS C P S) kp z_3 ((nI (jb + ql))) ((nI 1))  τ_3 z_3 hW hY2.1.1 ) gL_law_X7_beat rfl rfl rfl (by decide +kernel) ⟨Nat.le_of_ble_eq_true rfl, Nat.le_of_ble_eq_true rfl⟩ hW.c0 rfl rfl rfl (Nat.le_of_ble_eq_true rfl) dL_law_288 ⟨(show cA + 17 + 0 ≤ 600000 by omega), (show sA + 789 + 0 ≤ 7302250 by omega)⟩ (g_kxi0 (fun r_4 τ_4 H locs z_4 hz hp hP hL hS => ?_))
        obtain ⟨hr_4, hW, hz_4, ha_4⟩ := hp
        have hz := hz.trans hz_4
        subst hr_4
        have hxlo := hY2.lo (b := jb + ql) (by omega)
        refine g_top (y := (nI (tk (S2 1 (jb + ql))))) (yb_1 hY2 (by omega)) ?_
        refine g_top (y := (nI (1 + q_2))) (congrArg nI hv2) ?_
        refine lv_iconst (v := (nI 1)) hx hb dL_law_291 (by decide) ?_
        refine lv_iload hx hb dL_law_292 (lv_at hl 4 rfl) ?_
        refine lv_iconst (v := (nI 5)) hx hb dL_law_294 (by decide) ?_
        refine lv_ishr hx hb dL_law_295 ?_
        refine lv_iconst (v := (nI 5)) hx hb dL_law_296 (by decide) ?_
        refine g_runS (As := [.int (hh >>> ((nI 5) &&& 31)), .int (nI 5)]) (rest := [.int (nI 1), .int (nI (1 + q_2))]) (own := RL) 2 hx hb hml hown hts hK hz hP hL hS hlo hl.1 (c_L_low l ((hh >>> ((nI 5) &&& 31))) 5 τ_4 z_3 (by omega) (by omega)) gL_law_L_low rfl rfl rfl (by decide +kernel) ⟨Nat.le_of_ble_eq_true rfl, Nat.le_of_ble_eq_true rfl⟩ rfl rfl (Nat.le_of_ble_eq_true rfl) dL_law_297 ⟨(show cA + 17 + 0 ≤ 600000 by omega), (show sA + 789 + 0 ≤ 7302250 by omega)⟩ (g_ki0 (fun H locs hz hP hL hS => ?_))
        obtain ⟨q_5, hq_5⟩ : ∃ q : Nat, q = lowN ((hh >>> ((nI 5) &&& 31))) 5 := ⟨_, rfl⟩
        have hql_5 : q_5 < 5 := by rw [hq_5]; exact lowN_lt _ (by omega)
        refine g_top (y := (nI q_5)) (by rw [hq_5]) ?_
        refine lv_iadd hx hb dL_law_300 ?_
        refine g_top (nI_add 1 q_5) ?_
        refine g_top (y := (nI (1 + q_2))) (congrArg nI (by omega)) ?_
        refine lv_icmp_ne (tgt := 308) hx hb dL_law_301 (by decide) (fun c301 => absurd rfl c301) (fun c301 => ?_)
        refine lv_iconst (v := (nI 1)) hx hb dL_law_304 (by decide) ?_
        refine lv_goto (tgt := 309) hx hb dL_law_305 (by decide) ?_
        refine lv_istore (lv' := [(10, .int (nI 1)), (0, .ref B), (1, .ref o), (2, .int (nI ne)), (3, .int gg), (4, .int hh), (6, .int (nI (sB S))), (8, .int (nI jb)), (11, .int (nI (jb + ql))), (12, .int (nI (sndN S jb (ql + 1)))), (13, .int (nI (jb + (ql + 1))))]) hx hb dL_law_309 hl (by decide) rfl (fun ls hl => ?_)
        refine lv_goto (tgt := 898) hx hb dL_law_311 (by decide) ?_
        refine W.widen (k := cA + 100) (n := sA + 4000) (by omega) (by omega) ?_
        exact kk τ_4 z_3 H locs ls ⟨_, _, _, _, _, _, hW.up (by omega), hY2, hB21, hN21, hC2⟩ hlo hz hP hL hS (lv_sub hl [1, 2, 3, 0] rfl)
      · have hdl : jb + dd < sB S := by omega
        have hsn := sndN_le S jb dd
        refine lv_iload hx hb dL_law_235 (lv_at hl 8 rfl) ?_
        refine lv_aload_n hx hb dL_law_237 rfl (lv_at hl 1 rfl) ?_
        refine lv_iload hx hb dL_law_238 (lv_at hl 9 rfl) ?_
        refine lv_iconst (v := (nI 0)) hx hb dL_law_240 (by decide) ?_
        refine g_runV (As := [.int (nI (jb + dd)), .int (nI 0)]) (rest := [.int (nI (sndN S jb dd))]) (own := RL) (C := RX7) (T := TX7) (N := 7) 2 hx hb hml hown hts hK hz hP hL hS hlo hl.1 (c_X7_beat l o b S tf tn P C kp z ((nI (jb + dd))) ((nI 0))  υ z hW hY.1.1 ) gL_law_X7_beat rfl rfl rfl (by decide +kernel) ⟨Nat.le_of_ble_eq_true rfl, Nat.le_of_ble_eq_true rfl⟩ hW.c0 rfl rfl rfl (Nat.le_of_ble_eq_true rfl) dL_law_241 ⟨(show cA + 0 ≤ 600000 by omega), (show sA + 0 ≤ 7302250 by omega)⟩ (g_kxi0 (fun r_6 τ_6 H locs z_6 hz hp hP hL hS => ?_))
        obtain ⟨hr_6, hW, hz_6, ha_6⟩ := hp
        have hz := hz.trans hz_6
        subst hr_6
        have hxso := hY.so (b := jb + dd) (by omega)
        refine g_top (y := (nI (tk (S 0 (jb + dd))))) (yb_0 hY (by omega)) ?_
        refine g_if_le (tgt := 251) hx hb (by omega) dL_law_244 (by decide) (fun c244 => ?_) (fun c244 => ?_)
        · refine lv_iconst (v := (nI 0)) hx hb dL_law_251 (by decide) ?_
          refine lv_iadd hx hb dL_law_252 ?_
          refine g_top (nI_add (sndN S jb dd) 0) ?_
          refine g_top (y := (nI (sndN S jb (dd + 1)))) (congrArg nI (sn_t hY hdl c244)) ?_
          refine lv_istore (lv' := [(12, .int (nI (sndN S jb (dd + 1)))), (0, .ref B), (1, .ref o), (2, .int (nI ne)), (3, .int gg), (4, .int hh), (6, .int (nI (sB S))), (8, .int (nI jb)), (11, .int (nI (jb + ql))), (13, .int (nI (jb + dd)))]) hx hb dL_law_253 hl (by decide) rfl (fun ls hl => ?_)
          refine lv_iinc (v := (nI (jb + dd + 1))) (lv' := [(13, .int (nI (jb + dd + 1))), (12, .int (nI (sndN S jb (dd + 1)))), (0, .ref B), (1, .ref o), (2, .int (nI ne)), (3, .int gg), (4, .int hh), (6, .int (nI (sB S))), (8, .int (nI jb)), (11, .int (nI (jb + ql)))]) hx hb dL_law_255 hl (k := 9) rfl (g_inc (jb + dd) 1) (by decide) rfl (fun ls hl => ?_)
          refine lv_goto (tgt := 228) hx hb dL_law_258 (by decide) ?_
          exact ih_lpA (dd + 1) (by omega) (by omega) τ_6 hW hL H locs ls hz hP hS (lv_sub hl [2, 3, 4, 5, 6, 7, 8, 9, 1, 0] rfl)
        · refine lv_iconst (v := (nI 1)) hx hb dL_law_247 (by decide) ?_
          refine lv_goto (tgt := 252) hx hb dL_law_248 (by decide) ?_
          refine lv_iadd hx hb dL_law_252 ?_
          refine g_top (nI_add (sndN S jb dd) 1) ?_
          refine g_top (y := (nI (sndN S jb (dd + 1)))) (congrArg nI (sn_f hY hdl c244)) ?_
          refine lv_istore (lv' := [(12, .int (nI (sndN S jb (dd + 1)))), (0, .ref B), (1, .ref o), (2, .int (nI ne)), (3, .int gg), (4, .int hh), (6, .int (nI (sB S))), (8, .int (nI jb)), (11, .int (nI (jb + ql))), (13, .int (nI (jb + dd)))]) hx hb dL_law_253 hl (by decide) rfl (fun ls hl => ?_)
          refine lv_iinc (v := (nI (jb + dd + 1))) (lv' := [(13, .int (nI (jb + dd + 1))), (12, .int (nI (sndN S jb (dd + 1)))), (0, .ref B), (1, .ref o), (2, .int (nI ne)), (3, .int gg), (4, .int hh), (6, .int (nI (sB S))), (8, .int (nI jb)), (11, .int (nI (jb + ql)))]) hx hb dL_law_255 hl (k := 9) rfl (g_inc (jb + dd) 1) (by decide) rfl (fun ls hl => ?_)
          refine lv_goto (tgt := 228) hx hb dL_law_258 (by decide) ?_
          exact ih_lpA (dd + 1) (by omega) (by omega) τ_6 hW hL H locs ls hz hP hS (lv_sub hl [2, 3, 4, 5, 6, 7, 8, 9, 1, 0] rfl)
  exact lpA _ 0 (by omega) (Nat.lt_succ_self _) σ hW hL H locs ls hz hP hS (lv_sub hl [3, 4, 5, 6, 7, 8, 9, 2, 1, 0] rfl)

set_option maxHeartbeats 4000000 in
set_option maxRecDepth 100000 in
theorem law_c3 {p : Program} {l : Launch} {e : Env} {s : State} {m : MethodId} {below : List Frame} {meth : Method} {c : Code} {Q : State → Prop} {D : va_G} {ka : Nat → ClassId} {B o b lo : Nat} {ne cA sA : Nat} (hx : p.tables.exec = Jvm.exec) (hb : c.code = code) (hml : c.maxLocals = 15) (hown : s.vm.findClass RL = some m.cls) (hts : ∀ w ∈ wsL_law, w.before #[Value.ref B] s = true) (hK : gK D ka s) (hcA : cA ≤ 500000) (hsA : sA ≤ 6000000) {σ : gS} {z : Nat} {H : Heap} {locs : List Loc} {ls : Array Slot} {S : sS} {tf : Nat → Int32} {tn P : Nat} {C : Nat → sS} {kp : Nat → Bool} (hW : Wo σ o b S tf tn P C kp z) (hY : okY S) (hB1 : 0 < sB S) (hN1 : 0 < sN S) (hC : okC P C kp) (hlo : lo ≤ z) (hz : H.size = z) (hP : gH D ka σ H) (hL : gL lo σ) (hS : va_S (gA lo) s.heap H locs) {gg hh : Int32} {jb iw : Nat} (hjb : jb < sB S) (hiw : iw < sN S)  (hl : lv_has ls 15 [(0, .ref B), (1, .ref o), (2, .int (nI ne)), (4, .int hh), (8, .int (nI jb))]) (kk : ∀ (τ : gS) (z1 : Nat) (H1 : Heap) (locs1 : List Loc) (ls1 : Array Slot), LwJ τ o b z1 → lo ≤ z1 → H1.size = z1 → gH D ka τ H1 → gL lo τ → va_S (gA lo) s.heap H1 locs1 → lv_has ls1 15 [(0, .ref B), (1, .ref o), (2, .int (nI ne)), (10, .int (nI 1))] → W p l e room_1 s m #[Value.ref B] below meth c H1 locs1 (cA + 100) (sA + 4000) Q (F0 m 898 ls1 [])) : W p l e room_1 s m #[Value.ref B] below meth c H locs (cA) (sA) Q (F0 m 325 ls []) := by
  have hoz := hW.oz
  obtain ⟨⟨hB, hN, hKs, hRs⟩, -⟩ := id hY.1
  refine lv_aload_n hx hb dL_law_325 rfl (lv_at hl 1 rfl) ?_
  refine lv_iload hx hb dL_law_326 (lv_at hl 4 rfl) ?_
  refine lv_iconst (v := (nI 0)) hx hb dL_law_328 (by decide) ?_
  refine g_runV (As := [.int (nI jb), .int (nI 0)]) (rest := []) (own := RL) (C := RX7) (T := TX7) (N := 7) 2 hx hb hml hown hts hK hz hP hL hS hlo hl.1 (c_X7_beat l o b S tf tn P C kp z ((nI jb)) ((nI 0))  σ z hW hY.1.1 ) gL_law_X7_beat rfl rfl rfl (by decide +kernel) ⟨Nat.le_of_ble_eq_true rfl, Nat.le_of_ble_eq_true rfl⟩ hW.c0 rfl rfl rfl (Nat.le_of_ble_eq_true rfl) dL_law_329 ⟨(show cA + 0 ≤ 600000 by omega), (show sA + 0 ≤ 7302250 by omega)⟩ (g_kxi0 (fun r_1 τ_1 H locs z_1 hz hp hP hL hS => ?_))
  obtain ⟨hr_1, hW, hz_1, ha_1⟩ := hp
  have hz := hz.trans hz_1
  subst hr_1
  have hxso := hY.so (b := jb) (by omega)
  refine g_top (y := (nI (tk (S 0 jb)))) (yb_0 hY (by omega)) ?_
  refine lv_istore (lv' := [(11, .int (nI (tk (S 0 jb)))), (0, .ref B), (1, .ref o), (2, .int (nI ne)), (4, .int hh), (8, .int (nI jb))]) hx hb dL_law_332 hl (by decide) rfl (fun ls hl => ?_)
  refine lv_aload_n hx hb dL_law_334 rfl (lv_at hl 2 rfl) ?_
  refine lv_iload hx hb dL_law_335 (lv_at hl 5 rfl) ?_
  refine lv_iload hx hb dL_law_337 (lv_at hl 4 rfl) ?_
  refine lv_iconst (v := (nI 3)) hx hb dL_law_339 (by decide) ?_
  refine g_runS (As := [.int hh, .int (nI 3)]) (rest := [.int (nI jb), .ref o]) (own := RL) 2 hx hb hml hown hts hK hz hP hL hS hlo hl.1 (c_L_low l hh 3 τ_1 z (by omega) (by omega)) gL_law_L_low rfl rfl rfl (by decide +kernel) ⟨Nat.le_of_ble_eq_true rfl, Nat.le_of_ble_eq_true rfl⟩ rfl rfl (Nat.le_of_ble_eq_true rfl) dL_law_340 ⟨(show cA + 0 ≤ 600000 by omega), (show sA + 0 ≤ 7302250 by omega)⟩ (g_ki0 (fun H locs hz hP hL hS => ?_))
  obtain ⟨q_2, hq_2⟩ : ∃ q : Nat, q = lowN hh 3 := ⟨_, rfl⟩
  have hql_2 : q_2 < 3 := by rw [hq_2]; exact lowN_lt _ (by omega)
  refine g_top (y := (nI q_2)) (by rw [hq_2]) ?_
  refine g_runV (As := [.int (nI jb), .int (nI q_2)]) (rest := []) (own := RL) (C := RX7) (T := TX7) (N := 7) 2 hx hb hml hown hts hK hz hP hL hS hlo hl.1 (c_X7_setSort l o b S tf tn P C kp ((nI jb)) ((nI q_2)) τ_1 z (hW.up (by omega)) hY.1.1) gL_law_X7_setSort rfl rfl rfl (by decide +kernel) ⟨Nat.le_of_ble_eq_true rfl, Nat.le_of_ble_eq_true rfl⟩ hW.c0 rfl rfl rfl (Nat.le_of_ble_eq_true rfl) dL_law_343 ⟨(show cA + 17 ≤ 600000 by omega), (show sA + 789 ≤ 7302250 by omega)⟩ (g_kxi (fun r_3 τ_3 H locs z_3 hz hp hP hL hS => ?_))
  obtain ⟨S2, he, hY2, hB2, hN2, hv2⟩ := a_sort hY (j := jb) (v := q_2) hjb (by omega)
  obtain ⟨hr_3, hW, hzl_3, hzu_3⟩ := wP_yes he hp
  have hC2 := hC.act hY.1.1 (show P ≤ 5 by omega)
  have hB21 : 0 < sB S2 := by omega
  have hN21 : 0 < sN S2 := by omega
  obtain ⟨⟨hB9, hN9, hK9, hR9⟩, -⟩ := id hY2.1
  have hlo : lo ≤ z_3 := Nat.le_trans hlo hzl_3
  subst hr_3
  have hoz_3 := hW.oz
  refine lv_iload hx hb dL_law_346 (lv_at hl 0 rfl) ?_
  refine lv_icmp_ne (tgt := 371) hx hb dL_law_348 (by decide) (fun c348 => absurd rfl c348) (fun c348 => ?_)
  refine lv_aload_n hx hb dL_law_351 rfl (lv_at hl 2 rfl) ?_
  refine lv_iload hx hb dL_law_352 (lv_at hl 5 rfl) ?_
  refine lv_iconst (v := (nI 0)) hx hb dL_law_354 (by decide) ?_
  refine g_runV (As := [.int (nI jb), .int (nI 0)]) (rest := []) (own := RL) (C := RX7) (T := TX7) (N := 7) 2 hx hb hml hown hts hK hz hP hL hS hlo hl.1 (c_X7_beat l o b S2 tf tn (recP P) (recS C P S) kp z_3 ((nI jb)) ((nI 0))  τ_3 z_3 hW hY2.1.1 ) gL_law_X7_beat rfl rfl rfl (by decide +kernel) ⟨Nat.le_of_ble_eq_true rfl, Nat.le_of_ble_eq_true rfl⟩ hW.c0 rfl rfl rfl (Nat.le_of_ble_eq_true rfl) dL_law_355 ⟨(show cA + 17 + 0 ≤ 600000 by omega), (show sA + 789 + 0 ≤ 7302250 by omega)⟩ (g_kxi0 (fun r_4 τ_4 H locs z_4 hz hp hP hL hS => ?_))
  obtain ⟨hr_4, hW, hz_4, ha_4⟩ := hp
  have hz := hz.trans hz_4
  subst hr_4
  have hxso := hY2.so (b := jb) (by omega)
  refine g_top (y := (nI (tk (S2 0 jb)))) (yb_0 hY2 (by omega)) ?_
  refine g_top (y := (nI q_2)) (congrArg nI hv2) ?_
  refine lv_iload hx hb dL_law_358 (lv_at hl 4 rfl) ?_
  refine lv_iconst (v := (nI 3)) hx hb dL_law_360 (by decide) ?_
  refine g_runS (As := [.int hh, .int (nI 3)]) (rest := [.int (nI q_2)]) (own := RL) 2 hx hb hml hown hts hK hz hP hL hS hlo hl.1 (c_L_low l hh 3 τ_4 z_3 (by omega) (by omega)) gL_law_L_low rfl rfl rfl (by decide +kernel) ⟨Nat.le_of_ble_eq_true rfl, Nat.le_of_ble_eq_true rfl⟩ rfl rfl (Nat.le_of_ble_eq_true rfl) dL_law_361 ⟨(show cA + 17 + 0 ≤ 600000 by omega), (show sA + 789 + 0 ≤ 7302250 by omega)⟩ (g_ki0 (fun H locs hz hP hL hS => ?_))
  obtain ⟨q_5, hq_5⟩ : ∃ q : Nat, q = lowN hh 3 := ⟨_, rfl⟩
  have hql_5 : q_5 < 3 := by rw [hq_5]; exact lowN_lt _ (by omega)
  refine g_top (y := (nI q_5)) (by rw [hq_5]) ?_
  refine g_top (y := (nI q_2)) (congrArg nI (by omega)) ?_
  refine lv_icmp_ne (tgt := 371) hx hb dL_law_364 (by decide) (fun c364 => absurd rfl c364) (fun c364 => ?_)
  refine lv_iconst (v := (nI 1)) hx hb dL_law_367 (by decide) ?_
  refine lv_goto (tgt := 372) hx hb dL_law_368 (by decide) ?_
  refine lv_istore (lv' := [(10, .int (nI 1)), (11, .int (nI (tk (S 0 jb)))), (0, .ref B), (1, .ref o), (2, .int (nI ne)), (4, .int hh), (8, .int (nI jb))]) hx hb dL_law_372 hl (by decide) rfl (fun ls hl => ?_)
  refine lv_goto (tgt := 898) hx hb dL_law_374 (by decide) ?_
  refine W.widen (k := cA + 100) (n := sA + 4000) (by omega) (by omega) ?_
  exact kk τ_4 z_3 H locs ls ⟨_, _, _, _, _, _, hW.up (by omega), hY2, hB21, hN21, hC2⟩ hlo hz hP hL hS (lv_sub hl [2, 3, 4, 0] rfl)

set_option maxHeartbeats 4000000 in
set_option maxRecDepth 100000 in
theorem law_c4 {p : Program} {l : Launch} {e : Env} {s : State} {m : MethodId} {below : List Frame} {meth : Method} {c : Code} {Q : State → Prop} {D : va_G} {ka : Nat → ClassId} {B o b lo : Nat} {ne cA sA : Nat} (hx : p.tables.exec = Jvm.exec) (hb : c.code = code) (hml : c.maxLocals = 15) (hown : s.vm.findClass RL = some m.cls) (hts : ∀ w ∈ wsL_law, w.before #[Value.ref B] s = true) (hK : gK D ka s) (hcA : cA ≤ 500000) (hsA : sA ≤ 6000000) {σ : gS} {z : Nat} {H : Heap} {locs : List Loc} {ls : Array Slot} {S : sS} {tf : Nat → Int32} {tn P : Nat} {C : Nat → sS} {kp : Nat → Bool} (hW : Wo σ o b S tf tn P C kp z) (hY : okY S) (hB1 : 0 < sB S) (hN1 : 0 < sN S) (hC : okC P C kp) (hlo : lo ≤ z) (hz : H.size = z) (hP : gH D ka σ H) (hL : gL lo σ) (hS : va_S (gA lo) s.heap H locs) {gg hh : Int32} {jb iw : Nat} (hjb : jb < sB S) (hiw : iw < sN S)  (hl : lv_has ls 15 [(0, .ref B), (1, .ref o), (2, .int (nI ne)), (4, .int hh), (9, .int (nI iw))]) (kk : ∀ (τ : gS) (z1 : Nat) (H1 : Heap) (locs1 : List Loc) (ls1 : Array Slot), LwJ τ o b z1 → lo ≤ z1 → H1.size = z1 → gH D ka τ H1 → gL lo τ → va_S (gA lo) s.heap H1 locs1 → lv_has ls1 15 [(0, .ref B), (1, .ref o), (2, .int (nI ne)), (10, .int (nI 1))] → W p l e room_1 s m #[Value.ref B] below meth c H1 locs1 (cA + 100) (sA + 4000) Q (F0 m 898 ls1 [])) : W p l e room_1 s m #[Value.ref B] below meth c H locs (cA) (sA) Q (F0 m 383 ls []) := by
  have hoz := hW.oz
  obtain ⟨⟨hB, hN, hKs, hRs⟩, -⟩ := id hY.1
  cases hpv : presB S iw
  · skip
    refine lv_aload_n hx hb dL_law_383 rfl (lv_at hl 1 rfl) ?_
    refine lv_iload hx hb dL_law_384 (lv_at hl 4 rfl) ?_
    refine lv_iconst (v := (nI 2)) hx hb dL_law_386 (by decide) ?_
    refine g_runV (As := [.int (nI iw), .int (nI 2)]) (rest := []) (own := RL) (C := RX7) (T := TX7) (N := 7) 2 hx hb hml hown hts hK hz hP hL hS hlo hl.1 (c_X7_singer l o b S tf tn P C kp z ((nI iw)) ((nI 2))  σ z hW hY.1.1 ) gL_law_X7_singer rfl rfl rfl (by decide +kernel) ⟨Nat.le_of_ble_eq_true rfl, Nat.le_of_ble_eq_true rfl⟩ hW.c0 rfl rfl rfl (Nat.le_of_ble_eq_true rfl) dL_law_387 ⟨(show cA + 0 ≤ 600000 by omega), (show sA + 0 ≤ 7302250 by omega)⟩ (g_kxi0 (fun r_1 τ_1 H locs z_1 hz hp hP hL hS => ?_))
    obtain ⟨hr_1, hW, hz_1, ha_1⟩ := hp
    have hz := hz.trans hz_1
    subst hr_1
    have hpb := Bool.toNat_le (presB S iw)
    refine g_top (y := (nI ((presB S iw).toNat))) (yn_2 hY (by omega)) ?_
    refine g_top (y := (nI 0)) (congrArg nI (by rw [hpv]; rfl)) ?_
    refine lv_istore (lv' := [(11, .int (nI 0)), (0, .ref B), (1, .ref o), (2, .int (nI ne)), (4, .int hh), (9, .int (nI iw))]) hx hb dL_law_390 hl (by decide) rfl (fun ls hl => ?_)
    refine lv_iload hx hb dL_law_392 (lv_at hl 4 rfl) ?_
    refine lv_bipush (v := (nI 16)) hx hb dL_law_394 (by decide) ?_
    refine lv_iand hx hb dL_law_396 ?_
    refine lv_if_le (tgt := 404) hx hb dL_law_397 (by decide) (fun c397 => ?_) (fun c397 => ?_)
    · refine lv_iconst (v := (nI 0)) hx hb dL_law_404 (by decide) ?_
      refine lv_istore (lv' := [(12, .int (nI 0)), (11, .int (nI 0)), (0, .ref B), (1, .ref o), (2, .int (nI ne)), (4, .int hh), (9, .int (nI iw))]) hx hb dL_law_405 hl (by decide) rfl (fun ls hl => ?_)
      refine lv_aload_n hx hb dL_law_407 rfl (lv_at hl 3 rfl) ?_
      refine lv_iload hx hb dL_law_408 (lv_at hl 6 rfl) ?_
      refine lv_iload hx hb dL_law_410 (lv_at hl 0 rfl) ?_
      refine g_top (y := (bI false)) rfl ?_
      refine g_runV (As := [.int (nI iw), .int (bI false)]) (rest := []) (own := RL) (C := RX7) (T := TX7) (N := 7) 2 hx hb hml hown hts hK hz hP hL hS hlo hl.1 (c_X7_setPresent l o b S tf tn P C kp ((nI iw)) false τ_1 z (hW.up (by omega)) hY.1.1) gL_law_X7_setPresent rfl rfl rfl (by decide +kernel) ⟨Nat.le_of_ble_eq_true rfl, Nat.le_of_ble_eq_true rfl⟩ hW.c0 rfl rfl rfl (Nat.le_of_ble_eq_true rfl) dL_law_412 ⟨(show cA + 17 ≤ 600000 by omega), (show sA + 789 ≤ 7302250 by omega)⟩ (g_kxi (fun r_2 τ_2 H locs z_2 hz hp hP hL hS => ?_))
      obtain ⟨hr_2, hW, hzl_2, hzu_2⟩ := wP_no (sp_no hY hiw hpv) hp
      have hlo : lo ≤ z_2 := Nat.le_trans hlo hzl_2
      subst hr_2
      have hoz_2 := hW.oz
      refine lv_istore (lv' := [(13, .int (-5)), (12, .int (nI 0)), (11, .int (nI 0)), (0, .ref B), (1, .ref o), (2, .int (nI ne)), (4, .int hh), (9, .int (nI iw))]) hx hb dL_law_415 hl (by decide) rfl (fun ls hl => ?_)
      refine lv_iload hx hb dL_law_417 (lv_at hl 2 rfl) ?_
      refine lv_iconst (v := (nI 1)) hx hb dL_law_419 (by decide) ?_
      refine lv_icmp_ne (tgt := 427) hx hb dL_law_420 (by decide) (fun c420 => ?_) (fun c420 => by first | exact absurd (by decide) c420 | exact absurd c420 (by decide))
      refine lv_iconst (v := (nI 0)) hx hb dL_law_427 (by decide) ?_
      refine lv_iload hx hb dL_law_428 (lv_at hl 1 rfl) ?_
      refine lv_icmp_ne (tgt := 448) hx hb dL_law_430 (by decide) (fun c430 => by first | exact absurd (by decide) c430 | exact absurd c430 (by decide)) (fun c430 => ?_)
      refine lv_iload hx hb dL_law_433 (lv_at hl 0 rfl) ?_
      refine lv_bipush (v := (-5)) hx hb dL_law_435 (by decide) ?_
      refine lv_icmp_ne (tgt := 444) hx hb dL_law_437 (by decide) (fun c437 => by first | exact absurd (by decide) c437 | exact absurd c437 (by decide)) (fun c437 => ?_)
      refine lv_iconst (v := (nI 1)) hx hb dL_law_440 (by decide) ?_
      refine lv_goto (tgt := 463) hx hb dL_law_441 (by decide) ?_
      refine lv_istore (lv' := [(10, .int (nI 1)), (13, .int (-5)), (12, .int (nI 0)), (11, .int (nI 0)), (0, .ref B), (1, .ref o), (2, .int (nI ne)), (4, .int hh), (9, .int (nI iw))]) hx hb dL_law_463 hl (by decide) rfl (fun ls hl => ?_)
      refine lv_goto (tgt := 898) hx hb dL_law_465 (by decide) ?_
      refine W.widen (k := cA + 100) (n := sA + 4000) (by omega) (by omega) ?_
      exact kk τ_2 z_2 H locs ls ⟨_, _, _, _, _, _, hW.up (by omega), hY, hB1, hN1, hC⟩ hlo hz hP hL hS (lv_sub hl [4, 5, 6, 0] rfl)
    · refine lv_iconst (v := (nI 1)) hx hb dL_law_400 (by decide) ?_
      refine lv_goto (tgt := 405) hx hb dL_law_401 (by decide) ?_
      refine lv_istore (lv' := [(12, .int (nI 1)), (11, .int (nI 0)), (0, .ref B), (1, .ref o), (2, .int (nI ne)), (4, .int hh), (9, .int (nI iw))]) hx hb dL_law_405 hl (by decide) rfl (fun ls hl => ?_)
      refine lv_aload_n hx hb dL_law_407 rfl (lv_at hl 3 rfl) ?_
      refine lv_iload hx hb dL_law_408 (lv_at hl 6 rfl) ?_
      refine lv_iload hx hb dL_law_410 (lv_at hl 0 rfl) ?_
      refine g_top (y := (bI true)) rfl ?_
      refine g_runV (As := [.int (nI iw), .int (bI true)]) (rest := []) (own := RL) (C := RX7) (T := TX7) (N := 7) 2 hx hb hml hown hts hK hz hP hL hS hlo hl.1 (c_X7_setPresent l o b S tf tn P C kp ((nI iw)) true τ_1 z (hW.up (by omega)) hY.1.1) gL_law_X7_setPresent rfl rfl rfl (by decide +kernel) ⟨Nat.le_of_ble_eq_true rfl, Nat.le_of_ble_eq_true rfl⟩ hW.c0 rfl rfl rfl (Nat.le_of_ble_eq_true rfl) dL_law_412 ⟨(show cA + 17 ≤ 600000 by omega), (show sA + 789 ≤ 7302250 by omega)⟩ (g_kxi (fun r_3 τ_3 H locs z_3 hz hp hP hL hS => ?_))
      obtain ⟨S2, he, hY2, hB2, hN2⟩ := a_prs hY (a2 := true) hiw (by rw [hpv]; decide)
      obtain ⟨hr_3, hW, hzl_3, hzu_3⟩ := wP_yes he hp
      have hC2 := hC.act hY.1.1 (show P ≤ 5 by omega)
      have hB21 : 0 < sB S2 := by omega
      have hN21 : 0 < sN S2 := by omega
      obtain ⟨⟨hB9, hN9, hK9, hR9⟩, -⟩ := id hY2.1
      have hlo : lo ≤ z_3 := Nat.le_trans hlo hzl_3
      subst hr_3
      have hoz_3 := hW.oz
      refine lv_istore (lv' := [(13, .int (nI (cntF (presB S2) (sN S2)))), (12, .int (nI 1)), (11, .int (nI 0)), (0, .ref B), (1, .ref o), (2, .int (nI ne)), (4, .int hh), (9, .int (nI iw))]) hx hb dL_law_415 hl (by decide) rfl (fun ls hl => ?_)
      refine lv_iload hx hb dL_law_417 (lv_at hl 2 rfl) ?_
      refine lv_iconst (v := (nI 1)) hx hb dL_law_419 (by decide) ?_
      refine lv_icmp_ne (tgt := 427) hx hb dL_law_420 (by decide) (fun c420 => ?_) (fun c420 => by first | exact absurd (by decide) c420 | exact absurd c420 (by decide))
      refine lv_iconst (v := (nI 0)) hx hb dL_law_427 (by decide) ?_
      refine lv_iload hx hb dL_law_428 (lv_at hl 1 rfl) ?_
      refine lv_icmp_ne (tgt := 448) hx hb dL_law_430 (by decide) (fun c430 => ?_) (fun c430 => by first | exact absurd (by decide) c430 | exact absurd c430 (by decide))
      refine lv_iload hx hb dL_law_448 (lv_at hl 0 rfl) ?_
      refine lv_aload_n hx hb dL_law_450 rfl (lv_at hl 4 rfl) ?_
      refine lv_iconst (v := (nI 4)) hx hb dL_law_451 (by decide) ?_
      refine g_runV (As := [.int (nI 4)]) (rest := [.int (nI (cntF (presB S2) (sN S2)))]) (own := RL) (C := RX7) (T := TX7) (N := 7) 1 hx hb hml hown hts hK hz hP hL hS hlo hl.1 (c_X7_count l o b S2 tf tn (recP P) (recS C P S) kp z_3 ((nI 4))  τ_3 z_3 hW hY2.1.1 ) gL_law_X7_count rfl rfl rfl (by decide +kernel) ⟨Nat.le_of_ble_eq_true rfl, Nat.le_of_ble_eq_true rfl⟩ hW.c0 rfl rfl rfl (Nat.le_of_ble_eq_true rfl) dL_law_452 ⟨(show cA + 17 + 0 ≤ 600000 by omega), (show sA + 789 + 0 ≤ 7302250 by omega)⟩ (g_kxi0 (fun r_4 τ_4 H locs z_4 hz hp hP hL hS => ?_))
      obtain ⟨hr_4, hW, hz_4, ha_4⟩ := hp
      have hz := hz.trans hz_4
      subst hr_4
      have hct4 := cntF_le (presB S2) (sN S2)
      refine g_top (y := (nI (cntF (presB S2) (sN S2)))) (yc_4 hY2) ?_
      refine lv_icmp_ne (tgt := 462) hx hb dL_law_455 (by decide) (fun c455 => absurd rfl c455) (fun c455 => ?_)
      refine lv_iconst (v := (nI 1)) hx hb dL_law_458 (by decide) ?_
      refine lv_goto (tgt := 463) hx hb dL_law_459 (by decide) ?_
      refine lv_istore (lv' := [(10, .int (nI 1)), (13, .int (nI (cntF (presB S2) (sN S2)))), (12, .int (nI 1)), (11, .int (nI 0)), (0, .ref B), (1, .ref o), (2, .int (nI ne)), (4, .int hh), (9, .int (nI iw))]) hx hb dL_law_463 hl (by decide) rfl (fun ls hl => ?_)
      refine lv_goto (tgt := 898) hx hb dL_law_465 (by decide) ?_
      refine W.widen (k := cA + 100) (n := sA + 4000) (by omega) (by omega) ?_
      exact kk τ_4 z_3 H locs ls ⟨_, _, _, _, _, _, hW.up (by omega), hY2, hB21, hN21, hC2⟩ hlo hz hP hL hS (lv_sub hl [4, 5, 6, 0] rfl)
  · skip
    refine lv_aload_n hx hb dL_law_383 rfl (lv_at hl 1 rfl) ?_
    refine lv_iload hx hb dL_law_384 (lv_at hl 4 rfl) ?_
    refine lv_iconst (v := (nI 2)) hx hb dL_law_386 (by decide) ?_
    refine g_runV (As := [.int (nI iw), .int (nI 2)]) (rest := []) (own := RL) (C := RX7) (T := TX7) (N := 7) 2 hx hb hml hown hts hK hz hP hL hS hlo hl.1 (c_X7_singer l o b S tf tn P C kp z ((nI iw)) ((nI 2))  σ z hW hY.1.1 ) gL_law_X7_singer rfl rfl rfl (by decide +kernel) ⟨Nat.le_of_ble_eq_true rfl, Nat.le_of_ble_eq_true rfl⟩ hW.c0 rfl rfl rfl (Nat.le_of_ble_eq_true rfl) dL_law_387 ⟨(show cA + 0 ≤ 600000 by omega), (show sA + 0 ≤ 7302250 by omega)⟩ (g_kxi0 (fun r_5 τ_5 H locs z_5 hz hp hP hL hS => ?_))
    obtain ⟨hr_5, hW, hz_5, ha_5⟩ := hp
    have hz := hz.trans hz_5
    subst hr_5
    have hpb := Bool.toNat_le (presB S iw)
    refine g_top (y := (nI ((presB S iw).toNat))) (yn_2 hY (by omega)) ?_
    refine g_top (y := (nI 1)) (congrArg nI (by rw [hpv]; rfl)) ?_
    refine lv_istore (lv' := [(11, .int (nI 1)), (0, .ref B), (1, .ref o), (2, .int (nI ne)), (4, .int hh), (9, .int (nI iw))]) hx hb dL_law_390 hl (by decide) rfl (fun ls hl => ?_)
    refine lv_iload hx hb dL_law_392 (lv_at hl 4 rfl) ?_
    refine lv_bipush (v := (nI 16)) hx hb dL_law_394 (by decide) ?_
    refine lv_iand hx hb dL_law_396 ?_
    refine lv_if_le (tgt := 404) hx hb dL_law_397 (by decide) (fun c397 => ?_) (fun c397 => ?_)
    · refine lv_iconst (v := (nI 0)) hx hb dL_law_404 (by decide) ?_
      refine lv_istore (lv' := [(12, .int (nI 0)), (11, .int (nI 1)), (0, .ref B), (1, .ref o), (2, .int (nI ne)), (4, .int hh), (9, .int (nI iw))]) hx hb dL_law_405 hl (by decide) rfl (fun ls hl => ?_)
      refine lv_aload_n hx hb dL_law_407 rfl (lv_at hl 3 rfl) ?_
      refine lv_iload hx hb dL_law_408 (lv_at hl 6 rfl) ?_
      refine lv_iload hx hb dL_law_410 (lv_at hl 0 rfl) ?_
      refine g_top (y := (bI false)) rfl ?_
      refine g_runV (As := [.int (nI iw), .int (bI false)]) (rest := []) (own := RL) (C := RX7) (T := TX7) (N := 7) 2 hx hb hml hown hts hK hz hP hL hS hlo hl.1 (c_X7_setPresent l o b S tf tn P C kp ((nI iw)) false τ_5 z (hW.up (by omega)) hY.1.1) gL_law_X7_setPresent rfl rfl rfl (by decide +kernel) ⟨Nat.le_of_ble_eq_true rfl, Nat.le_of_ble_eq_true rfl⟩ hW.c0 rfl rfl rfl (Nat.le_of_ble_eq_true rfl) dL_law_412 ⟨(show cA + 17 ≤ 600000 by omega), (show sA + 789 ≤ 7302250 by omega)⟩ (g_kxi (fun r_6 τ_6 H locs z_6 hz hp hP hL hS => ?_))
      obtain ⟨S2, he, hY2, hB2, hN2⟩ := a_prs hY (a2 := false) hiw (by rw [hpv]; decide)
      obtain ⟨hr_6, hW, hzl_6, hzu_6⟩ := wP_yes he hp
      have hC2 := hC.act hY.1.1 (show P ≤ 5 by omega)
      have hB21 : 0 < sB S2 := by omega
      have hN21 : 0 < sN S2 := by omega
      obtain ⟨⟨hB9, hN9, hK9, hR9⟩, -⟩ := id hY2.1
      have hlo : lo ≤ z_6 := Nat.le_trans hlo hzl_6
      subst hr_6
      have hoz_6 := hW.oz
      refine lv_istore (lv' := [(13, .int (nI (cntF (presB S2) (sN S2)))), (12, .int (nI 0)), (11, .int (nI 1)), (0, .ref B), (1, .ref o), (2, .int (nI ne)), (4, .int hh), (9, .int (nI iw))]) hx hb dL_law_415 hl (by decide) rfl (fun ls hl => ?_)
      refine lv_iload hx hb dL_law_417 (lv_at hl 2 rfl) ?_
      refine lv_iconst (v := (nI 1)) hx hb dL_law_419 (by decide) ?_
      refine lv_icmp_ne (tgt := 427) hx hb dL_law_420 (by decide) (fun c420 => by first | exact absurd (by decide) c420 | exact absurd c420 (by decide)) (fun c420 => ?_)
      refine lv_iconst (v := (nI 1)) hx hb dL_law_423 (by decide) ?_
      refine lv_goto (tgt := 428) hx hb dL_law_424 (by decide) ?_
      refine lv_iload hx hb dL_law_428 (lv_at hl 1 rfl) ?_
      refine lv_icmp_ne (tgt := 448) hx hb dL_law_430 (by decide) (fun c430 => ?_) (fun c430 => by first | exact absurd (by decide) c430 | exact absurd c430 (by decide))
      refine lv_iload hx hb dL_law_448 (lv_at hl 0 rfl) ?_
      refine lv_aload_n hx hb dL_law_450 rfl (lv_at hl 4 rfl) ?_
      refine lv_iconst (v := (nI 4)) hx hb dL_law_451 (by decide) ?_
      refine g_runV (As := [.int (nI 4)]) (rest := [.int (nI (cntF (presB S2) (sN S2)))]) (own := RL) (C := RX7) (T := TX7) (N := 7) 1 hx hb hml hown hts hK hz hP hL hS hlo hl.1 (c_X7_count l o b S2 tf tn (recP P) (recS C P S) kp z_6 ((nI 4))  τ_6 z_6 hW hY2.1.1 ) gL_law_X7_count rfl rfl rfl (by decide +kernel) ⟨Nat.le_of_ble_eq_true rfl, Nat.le_of_ble_eq_true rfl⟩ hW.c0 rfl rfl rfl (Nat.le_of_ble_eq_true rfl) dL_law_452 ⟨(show cA + 17 + 0 ≤ 600000 by omega), (show sA + 789 + 0 ≤ 7302250 by omega)⟩ (g_kxi0 (fun r_7 τ_7 H locs z_7 hz hp hP hL hS => ?_))
      obtain ⟨hr_7, hW, hz_7, ha_7⟩ := hp
      have hz := hz.trans hz_7
      subst hr_7
      have hct4 := cntF_le (presB S2) (sN S2)
      refine g_top (y := (nI (cntF (presB S2) (sN S2)))) (yc_4 hY2) ?_
      refine lv_icmp_ne (tgt := 462) hx hb dL_law_455 (by decide) (fun c455 => absurd rfl c455) (fun c455 => ?_)
      refine lv_iconst (v := (nI 1)) hx hb dL_law_458 (by decide) ?_
      refine lv_goto (tgt := 463) hx hb dL_law_459 (by decide) ?_
      refine lv_istore (lv' := [(10, .int (nI 1)), (13, .int (nI (cntF (presB S2) (sN S2)))), (12, .int (nI 0)), (11, .int (nI 1)), (0, .ref B), (1, .ref o), (2, .int (nI ne)), (4, .int hh), (9, .int (nI iw))]) hx hb dL_law_463 hl (by decide) rfl (fun ls hl => ?_)
      refine lv_goto (tgt := 898) hx hb dL_law_465 (by decide) ?_
      refine W.widen (k := cA + 100) (n := sA + 4000) (by omega) (by omega) ?_
      exact kk τ_7 z_6 H locs ls ⟨_, _, _, _, _, _, hW.up (by omega), hY2, hB21, hN21, hC2⟩ hlo hz hP hL hS (lv_sub hl [4, 5, 6, 0] rfl)
    · refine lv_iconst (v := (nI 1)) hx hb dL_law_400 (by decide) ?_
      refine lv_goto (tgt := 405) hx hb dL_law_401 (by decide) ?_
      refine lv_istore (lv' := [(12, .int (nI 1)), (11, .int (nI 1)), (0, .ref B), (1, .ref o), (2, .int (nI ne)), (4, .int hh), (9, .int (nI iw))]) hx hb dL_law_405 hl (by decide) rfl (fun ls hl => ?_)
      refine lv_aload_n hx hb dL_law_407 rfl (lv_at hl 3 rfl) ?_
      refine lv_iload hx hb dL_law_408 (lv_at hl 6 rfl) ?_
      refine lv_iload hx hb dL_law_410 (lv_at hl 0 rfl) ?_
      refine g_top (y := (bI true)) rfl ?_
      refine g_runV (As := [.int (nI iw), .int (bI true)]) (rest := []) (own := RL) (C := RX7) (T := TX7) (N := 7) 2 hx hb hml hown hts hK hz hP hL hS hlo hl.1 (c_X7_setPresent l o b S tf tn P C kp ((nI iw)) true τ_5 z (hW.up (by omega)) hY.1.1) gL_law_X7_setPresent rfl rfl rfl (by decide +kernel) ⟨Nat.le_of_ble_eq_true rfl, Nat.le_of_ble_eq_true rfl⟩ hW.c0 rfl rfl rfl (Nat.le_of_ble_eq_true rfl) dL_law_412 ⟨(show cA + 17 ≤ 600000 by omega), (show sA + 789 ≤ 7302250 by omega)⟩ (g_kxi (fun r_8 τ_8 H locs z_8 hz hp hP hL hS => ?_))
      obtain ⟨hr_8, hW, hzl_8, hzu_8⟩ := wP_no (sp_no hY hiw hpv) hp
      have hlo : lo ≤ z_8 := Nat.le_trans hlo hzl_8
      subst hr_8
      have hoz_8 := hW.oz
      refine lv_istore (lv' := [(13, .int (-5)), (12, .int (nI 1)), (11, .int (nI 1)), (0, .ref B), (1, .ref o), (2, .int (nI ne)), (4, .int hh), (9, .int (nI iw))]) hx hb dL_law_415 hl (by decide) rfl (fun ls hl => ?_)
      refine lv_iload hx hb dL_law_417 (lv_at hl 2 rfl) ?_
      refine lv_iconst (v := (nI 1)) hx hb dL_law_419 (by decide) ?_
      refine lv_icmp_ne (tgt := 427) hx hb dL_law_420 (by decide) (fun c420 => by first | exact absurd (by decide) c420 | exact absurd c420 (by decide)) (fun c420 => ?_)
      refine lv_iconst (v := (nI 1)) hx hb dL_law_423 (by decide) ?_
      refine lv_goto (tgt := 428) hx hb dL_law_424 (by decide) ?_
      refine lv_iload hx hb dL_law_428 (lv_at hl 1 rfl) ?_
      refine lv_icmp_ne (tgt := 448) hx hb dL_law_430 (by decide) (fun c430 => by first | exact absurd (by decide) c430 | exact absurd c430 (by decide)) (fun c430 => ?_)
      refine lv_iload hx hb dL_law_433 (lv_at hl 0 rfl) ?_
      refine lv_bipush (v := (-5)) hx hb dL_law_435 (by decide) ?_
      refine lv_icmp_ne (tgt := 444) hx hb dL_law_437 (by decide) (fun c437 => by first | exact absurd (by decide) c437 | exact absurd c437 (by decide)) (fun c437 => ?_)
      refine lv_iconst (v := (nI 1)) hx hb dL_law_440 (by decide) ?_
      refine lv_goto (tgt := 463) hx hb dL_law_441 (by decide) ?_
      refine lv_istore (lv' := [(10, .int (nI 1)), (13, .int (-5)), (12, .int (nI 1)), (11, .int (nI 1)), (0, .ref B), (1, .ref o), (2, .int (nI ne)), (4, .int hh), (9, .int (nI iw))]) hx hb dL_law_463 hl (by decide) rfl (fun ls hl => ?_)
      refine lv_goto (tgt := 898) hx hb dL_law_465 (by decide) ?_
      refine W.widen (k := cA + 100) (n := sA + 4000) (by omega) (by omega) ?_
      exact kk τ_8 z_8 H locs ls ⟨_, _, _, _, _, _, hW.up (by omega), hY, hB1, hN1, hC⟩ hlo hz hP hL hS (lv_sub hl [4, 5, 6, 0] rfl)

set_option maxHeartbeats 4000000 in
set_option maxRecDepth 100000 in
theorem law_c5 {p : Program} {l : Launch} {e : Env} {s : State} {m : MethodId} {below : List Frame} {meth : Method} {c : Code} {Q : State → Prop} {D : va_G} {ka : Nat → ClassId} {B o b lo : Nat} {ne cA sA : Nat} (hx : p.tables.exec = Jvm.exec) (hb : c.code = code) (hml : c.maxLocals = 15) (hown : s.vm.findClass RL = some m.cls) (hts : ∀ w ∈ wsL_law, w.before #[Value.ref B] s = true) (hK : gK D ka s) (hcA : cA ≤ 500000) (hsA : sA ≤ 6000000) {σ : gS} {z : Nat} {H : Heap} {locs : List Loc} {ls : Array Slot} {S : sS} {tf : Nat → Int32} {tn P : Nat} {C : Nat → sS} {kp : Nat → Bool} (hW : Wo σ o b S tf tn P C kp z) (hY : okY S) (hB1 : 0 < sB S) (hN1 : 0 < sN S) (hC : okC P C kp) (hlo : lo ≤ z) (hz : H.size = z) (hP : gH D ka σ H) (hL : gL lo σ) (hS : va_S (gA lo) s.heap H locs) {gg hh : Int32} {jb iw : Nat} (hjb : jb < sB S) (hiw : iw < sN S)  (hl : lv_has ls 15 [(0, .ref B), (1, .ref o), (2, .int (nI ne)), (4, .int hh), (6, .int (nI (sB S))), (8, .int (nI jb)), (9, .int (nI iw))]) (kk : ∀ (τ : gS) (z1 : Nat) (H1 : Heap) (locs1 : List Loc) (ls1 : Array Slot), LwJ τ o b z1 → lo ≤ z1 → H1.size = z1 → gH D ka τ H1 → gL lo τ → va_S (gA lo) s.heap H1 locs1 → lv_has ls1 15 [(0, .ref B), (1, .ref o), (2, .int (nI ne)), (10, .int (nI 1))] → W p l e room_1 s m #[Value.ref B] below meth c H1 locs1 (cA + 100) (sA + 4000) Q (F0 m 898 ls1 [])) : W p l e room_1 s m #[Value.ref B] below meth c H locs (cA) (sA) Q (F0 m 479 ls []) := by
  have hoz := hW.oz
  obtain ⟨⟨hB, hN, hKs, hRs⟩, -⟩ := id hY.1
  refine lv_iload hx hb dL_law_479 (lv_at hl 5 rfl) ?_
  refine lv_iload hx hb dL_law_481 (lv_at hl 3 rfl) ?_
  refine lv_iconst (v := (nI 3)) hx hb dL_law_483 (by decide) ?_
  refine lv_ishr hx hb dL_law_484 ?_
  refine lv_iload hx hb dL_law_485 (lv_at hl 4 rfl) ?_
  refine lv_iload hx hb dL_law_487 (lv_at hl 5 rfl) ?_
  refine lv_isub hx hb dL_law_489 ?_
  refine g_top (pk_sub (by omega : jb ≤ sB S)) ?_
  refine lv_iconst (v := (nI 5)) hx hb dL_law_490 (by decide) ?_
  refine g_icmp_le (tgt := 498) (a := (sB S) - jb) (b := 5) hx hb (by omega) (by omega) dL_law_491 (by decide) (fun c491 => ?_) (fun c491 => ?_)
  · refine lv_iload hx hb dL_law_498 (lv_at hl 4 rfl) ?_
    refine lv_iload hx hb dL_law_500 (lv_at hl 5 rfl) ?_
    refine lv_isub hx hb dL_law_502 ?_
    refine g_top (pk_sub (by omega : jb ≤ sB S)) ?_
    refine g_runS (As := [.int (hh >>> ((nI 3) &&& 31)), .int (nI ((sB S) - jb))]) (rest := [.int (nI jb)]) (own := RL) 2 hx hb hml hown hts hK hz hP hL hS hlo hl.1 (c_L_low l ((hh >>> ((nI 3) &&& 31))) ((sB S) - jb) σ z (by omega) (by omega)) gL_law_L_low rfl rfl rfl (by decide +kernel) ⟨Nat.le_of_ble_eq_true rfl, Nat.le_of_ble_eq_true rfl⟩ rfl rfl (Nat.le_of_ble_eq_true rfl) dL_law_503 ⟨(show cA + 0 ≤ 600000 by omega), (show sA + 0 ≤ 7302250 by omega)⟩ (g_ki0 (fun H locs hz hP hL hS => ?_))
    obtain ⟨q_1, hq_1⟩ : ∃ q : Nat, q = lowN ((hh >>> ((nI 3) &&& 31))) ((sB S) - jb) := ⟨_, rfl⟩
    have hql_1 : q_1 < (sB S) - jb := by rw [hq_1]; exact lowN_lt _ (by omega)
    refine g_top (y := (nI q_1)) (by rw [hq_1]) ?_
    refine lv_iadd hx hb dL_law_506 ?_
    refine g_top (nI_add jb q_1) ?_
    obtain ⟨ql, hqle⟩ : ∃ x : Nat, x = q_1 := ⟨_, rfl⟩
    refine g_top (y := (nI (jb + ql))) (by rw [hqle]) ?_
    have hql9 : jb + ql < sB S := by omega
    refine lv_istore (lv' := [(11, .int (nI (jb + ql))), (0, .ref B), (1, .ref o), (2, .int (nI ne)), (4, .int hh), (6, .int (nI (sB S))), (8, .int (nI jb)), (9, .int (nI iw))]) hx hb dL_law_507 hl (by decide) rfl (fun ls hl => ?_)
    refine lv_iconst (v := (nI 0)) hx hb dL_law_509 (by decide) ?_
    refine lv_istore (lv' := [(12, .int (nI 0)), (11, .int (nI (jb + ql))), (0, .ref B), (1, .ref o), (2, .int (nI ne)), (4, .int hh), (6, .int (nI (sB S))), (8, .int (nI jb)), (9, .int (nI iw))]) hx hb dL_law_510 hl (by decide) rfl (fun ls hl => ?_)
    refine lv_iload hx hb dL_law_512 (lv_at hl 7 rfl) ?_
    refine lv_istore (lv' := [(13, .int (nI jb)), (12, .int (nI 0)), (11, .int (nI (jb + ql))), (0, .ref B), (1, .ref o), (2, .int (nI ne)), (4, .int hh), (6, .int (nI (sB S))), (8, .int (nI jb)), (9, .int (nI iw))]) hx hb dL_law_514 hl (by decide) rfl (fun ls hl => ?_)
    have lpA : ∀ (fu_lpA : Nat) (dd : Nat), (dd ≤ ql + 1) → (ql + 1 - dd < fu_lpA) → ∀ (υ : gS), (Wo υ o b S tf tn P C kp z) → gL lo υ → ∀ (H : Heap) (locs : List Loc) (ls : Array Slot), H.size = z → gH D ka υ H → va_S (gA lo) s.heap H locs → lv_has ls 15 [(0, .ref B), (1, .ref o), (2, .int (nI ne)), (4, .int hh), (6, .int (nI (sB S))), (8, .int (nI jb)), (9, .int (nI iw)), (11, .int (nI (jb + ql))), (12, .int (bI (ovD S jb dd))), (13, .int (nI (jb + dd)))] → W p l e room_1 s m #[Value.ref B] below meth c H locs (cA) (sA) Q (F0 m 516 ls []) := by
      intro fu_lpA
      induction fu_lpA with
      | zero => intro dd hdd hm_lpA; exact absurd hm_lpA (Nat.not_lt_zero _)
      | succ fu_lpA ih_lpA =>
        intro dd hdd hm_lpA υ hW hL H locs ls hz hP hS hl
        refine lv_iload hx hb dL_law_516 (lv_at hl 9 rfl) ?_
        refine lv_iload hx hb dL_law_518 (lv_at hl 7 rfl) ?_
        refine g_icmp_gt (tgt := 551) (a := jb + dd) (b := jb + ql) hx hb (by omega) (by omega) dL_law_520 (by decide) (fun c520 => ?_) (fun c520 => ?_)
        · have hdde : dd = ql + 1 := by omega
          rw [hdde] at hl
          have hovD := ov_D hY (fr := jb) (q := ql) (by omega)
          cases hov : ovD S jb (ql + 1)
          · skip
            rw [hov] at hl hovD
            have hovF := hovD.symm
            have hl : lv_has ls 15 [(0, .ref B), (1, .ref o), (2, .int (nI ne)), (4, .int hh), (6, .int (nI (sB S))), (8, .int (nI jb)), (9, .int (nI iw)), (11, .int (nI (jb + ql))), (12, .int (nI 0)), (13, .int (nI (jb + (ql + 1))))] := hl
            rcases Decidable.em (sK S < 8) with hk8 | hk8
            · skip
              refine lv_aload_n hx hb dL_law_551 rfl (lv_at hl 1 rfl) ?_
              refine lv_iload hx hb dL_law_552 (lv_at hl 6 rfl) ?_
              refine lv_iload hx hb dL_law_554 (lv_at hl 5 rfl) ?_
              refine lv_iload hx hb dL_law_556 (lv_at hl 7 rfl) ?_
              refine g_runV (As := [.int (nI iw), .int (nI jb), .int (nI (jb + ql))]) (rest := []) (own := RL) (C := RX7) (T := TX7) (N := 7) 3 hx hb hml hown hts hK hz hP hL hS hlo hl.1 (c_X7_addSolo l o b S tf tn P C kp ((nI iw)) ((nI jb)) ((nI (jb + ql))) υ z (hW.up (by omega)) hY.1.1) gL_law_X7_addSolo rfl rfl rfl (by decide +kernel) ⟨Nat.le_of_ble_eq_true rfl, Nat.le_of_ble_eq_true rfl⟩ hW.c0 rfl rfl rfl (Nat.le_of_ble_eq_true rfl) dL_law_558 ⟨(show cA + 17 ≤ 600000 by omega), (show sA + 789 ≤ 7302250 by omega)⟩ (g_kxi (fun r_2 τ_2 H locs z_2 hz hp hP hL hS => ?_))
              obtain ⟨S2, pp, he, hY2, hB2, hN2, hK2, hpk, hsp⟩ := a_ins hY hiw (show jb ≤ jb + ql by omega) hql9 hovF hk8
              obtain ⟨hr_2, hW, hzl_2, hzu_2⟩ := wP_yes he hp
              have hC2 := hC.act hY.1.1 (show P ≤ 5 by omega)
              have hB21 : 0 < sB S2 := by omega
              have hN21 : 0 < sN S2 := by omega
              obtain ⟨⟨hB9, hN9, hK9, hR9⟩, -⟩ := id hY2.1
              have hlo : lo ≤ z_2 := Nat.le_trans hlo hzl_2
              subst hr_2
              have hoz_2 := hW.oz
              refine lv_istore (lv' := [(13, .int (nI pp)), (0, .ref B), (1, .ref o), (2, .int (nI ne)), (4, .int hh), (6, .int (nI (sB S))), (8, .int (nI jb)), (9, .int (nI iw)), (11, .int (nI (jb + ql))), (12, .int (nI 0))]) hx hb dL_law_561 hl (by decide) rfl (fun ls hl => ?_)
              refine lv_iload hx hb dL_law_563 (lv_at hl 0 rfl) ?_
              refine lv_iload hx hb dL_law_565 (lv_at hl 9 rfl) ?_
              refine lv_if_eq (tgt := 575) hx hb dL_law_567 (by decide) (fun c567 => ?_) (fun c567 => by first | exact absurd (by decide) c567 | exact absurd c567 (by decide))
              refine lv_aload_n hx hb dL_law_575 rfl (lv_at hl 2 rfl) ?_
              refine lv_iconst (v := (nI 5)) hx hb dL_law_576 (by decide) ?_
              refine g_runV (As := [.int (nI 5)]) (rest := [.int (nI pp)]) (own := RL) (C := RX7) (T := TX7) (N := 7) 1 hx hb hml hown hts hK hz hP hL hS hlo hl.1 (c_X7_count l o b S2 tf tn (recP P) (recS C P S) kp z_2 ((nI 5))  τ_2 z_2 hW hY2.1.1 ) gL_law_X7_count rfl rfl rfl (by decide +kernel) ⟨Nat.le_of_ble_eq_true rfl, Nat.le_of_ble_eq_true rfl⟩ hW.c0 rfl rfl rfl (Nat.le_of_ble_eq_true rfl) dL_law_577 ⟨(show cA + 17 + 0 ≤ 600000 by omega), (show sA + 789 + 0 ≤ 7302250 by omega)⟩ (g_kxi0 (fun r_3 τ_3 H locs z_3 hz hp hP hL hS => ?_))
              obtain ⟨hr_3, hW, hz_3, ha_3⟩ := hp
              have hz := hz.trans hz_3
              subst hr_3
              refine g_top (y := (nI (sK S2))) yc_5 ?_
              refine lv_bipush (v := (nI 8)) hx hb dL_law_580 (by decide) ?_
              refine g_icmp_ne (tgt := 597) (a := sK S2) (b := 8) hx hb (by omega) (by omega) dL_law_582 (by decide) (fun c582 => ?_) (fun c582 => ?_)
              · refine lv_aload_n hx hb dL_law_597 rfl (lv_at hl 2 rfl) ?_
                refine lv_iload hx hb dL_law_598 (lv_at hl 6 rfl) ?_
                refine lv_iconst (v := (nI 4)) hx hb dL_law_600 (by decide) ?_
                refine g_runV (As := [.int (nI jb), .int (nI 4)]) (rest := [.int (nI pp)]) (own := RL) (C := RX7) (T := TX7) (N := 7) 2 hx hb hml hown hts hK hz hP hL hS hlo hl.1 (c_X7_beat l o b S2 tf tn (recP P) (recS C P S) kp z_2 ((nI jb)) ((nI 4))  τ_3 z_2 hW hY2.1.1 ) gL_law_X7_beat rfl rfl rfl (by decide +kernel) ⟨Nat.le_of_ble_eq_true rfl, Nat.le_of_ble_eq_true rfl⟩ hW.c0 rfl rfl rfl (Nat.le_of_ble_eq_true rfl) dL_law_601 ⟨(show cA + 17 + 0 ≤ 600000 by omega), (show sA + 789 + 0 ≤ 7302250 by omega)⟩ (g_kxi0 (fun r_4 τ_4 H locs z_4 hz hp hP hL hS => ?_))
                obtain ⟨hr_4, hW, hz_4, ha_4⟩ := hp
                have hz := hz.trans hz_4
                subst hr_4
                refine g_top (y := (oI (soloF S2 jb))) (yb_4 hY2 (by omega)) ?_
                refine g_top (y := (nI pp)) (by rw [hsp]; rfl) ?_
                refine lv_icmp_ne (tgt := 611) hx hb dL_law_604 (by decide) (fun c604 => absurd rfl c604) (fun c604 => ?_)
                refine lv_iconst (v := (nI 1)) hx hb dL_law_607 (by decide) ?_
                refine lv_goto (tgt := 612) hx hb dL_law_608 (by decide) ?_
                refine lv_istore (lv' := [(10, .int (nI 1)), (13, .int (nI pp)), (0, .ref B), (1, .ref o), (2, .int (nI ne)), (4, .int hh), (6, .int (nI (sB S))), (8, .int (nI jb)), (9, .int (nI iw)), (11, .int (nI (jb + ql))), (12, .int (nI 0))]) hx hb dL_law_612 hl (by decide) rfl (fun ls hl => ?_)
                refine lv_goto (tgt := 898) hx hb dL_law_614 (by decide) ?_
                refine W.widen (k := cA + 100) (n := sA + 4000) (by omega) (by omega) ?_
                exact kk τ_4 z_2 H locs ls ⟨_, _, _, _, _, _, hW.up (by omega), hY2, hB21, hN21, hC2⟩ hlo hz hP hL hS (lv_sub hl [2, 3, 4, 0] rfl)
              · refine lv_iload hx hb dL_law_585 (lv_at hl 0 rfl) ?_
                refine lv_bipush (v := (-3)) hx hb dL_law_587 (by decide) ?_
                refine lv_icmp_ne (tgt := 597) hx hb dL_law_589 (by decide) (fun c589 => ?_) (fun c589 => (absurd c589 (g_neg (a := pp) (k := 3) (by omega) (by decide))))
                refine lv_aload_n hx hb dL_law_597 rfl (lv_at hl 2 rfl) ?_
                refine lv_iload hx hb dL_law_598 (lv_at hl 6 rfl) ?_
                refine lv_iconst (v := (nI 4)) hx hb dL_law_600 (by decide) ?_
                refine g_runV (As := [.int (nI jb), .int (nI 4)]) (rest := [.int (nI pp)]) (own := RL) (C := RX7) (T := TX7) (N := 7) 2 hx hb hml hown hts hK hz hP hL hS hlo hl.1 (c_X7_beat l o b S2 tf tn (recP P) (recS C P S) kp z_2 ((nI jb)) ((nI 4))  τ_3 z_2 hW hY2.1.1 ) gL_law_X7_beat rfl rfl rfl (by decide +kernel) ⟨Nat.le_of_ble_eq_true rfl, Nat.le_of_ble_eq_true rfl⟩ hW.c0 rfl rfl rfl (Nat.le_of_ble_eq_true rfl) dL_law_601 ⟨(show cA + 17 + 0 ≤ 600000 by omega), (show sA + 789 + 0 ≤ 7302250 by omega)⟩ (g_kxi0 (fun r_5 τ_5 H locs z_5 hz hp hP hL hS => ?_))
                obtain ⟨hr_5, hW, hz_5, ha_5⟩ := hp
                have hz := hz.trans hz_5
                subst hr_5
                refine g_top (y := (oI (soloF S2 jb))) (yb_4 hY2 (by omega)) ?_
                refine g_top (y := (nI pp)) (by rw [hsp]; rfl) ?_
                refine lv_icmp_ne (tgt := 611) hx hb dL_law_604 (by decide) (fun c604 => absurd rfl c604) (fun c604 => ?_)
                refine lv_iconst (v := (nI 1)) hx hb dL_law_607 (by decide) ?_
                refine lv_goto (tgt := 612) hx hb dL_law_608 (by decide) ?_
                refine lv_istore (lv' := [(10, .int (nI 1)), (13, .int (nI pp)), (0, .ref B), (1, .ref o), (2, .int (nI ne)), (4, .int hh), (6, .int (nI (sB S))), (8, .int (nI jb)), (9, .int (nI iw)), (11, .int (nI (jb + ql))), (12, .int (nI 0))]) hx hb dL_law_612 hl (by decide) rfl (fun ls hl => ?_)
                refine lv_goto (tgt := 898) hx hb dL_law_614 (by decide) ?_
                refine W.widen (k := cA + 100) (n := sA + 4000) (by omega) (by omega) ?_
                exact kk τ_5 z_2 H locs ls ⟨_, _, _, _, _, _, hW.up (by omega), hY2, hB21, hN21, hC2⟩ hlo hz hP hL hS (lv_sub hl [2, 3, 4, 0] rfl)
            · skip
              refine lv_aload_n hx hb dL_law_551 rfl (lv_at hl 1 rfl) ?_
              refine lv_iload hx hb dL_law_552 (lv_at hl 6 rfl) ?_
              refine lv_iload hx hb dL_law_554 (lv_at hl 5 rfl) ?_
              refine lv_iload hx hb dL_law_556 (lv_at hl 7 rfl) ?_
              refine g_runV (As := [.int (nI iw), .int (nI jb), .int (nI (jb + ql))]) (rest := []) (own := RL) (C := RX7) (T := TX7) (N := 7) 3 hx hb hml hown hts hK hz hP hL hS hlo hl.1 (c_X7_addSolo l o b S tf tn P C kp ((nI iw)) ((nI jb)) ((nI (jb + ql))) υ z (hW.up (by omega)) hY.1.1) gL_law_X7_addSolo rfl rfl rfl (by decide +kernel) ⟨Nat.le_of_ble_eq_true rfl, Nat.le_of_ble_eq_true rfl⟩ hW.c0 rfl rfl rfl (Nat.le_of_ble_eq_true rfl) dL_law_558 ⟨(show cA + 17 ≤ 600000 by omega), (show sA + 789 ≤ 7302250 by omega)⟩ (g_kxi (fun r_6 τ_6 H locs z_6 hz hp hP hL hS => ?_))
              obtain ⟨hr_6, hW, hzl_6, hzu_6⟩ := wP_no (a_i3 hY hiw (by omega) hql9 hovF hk8) hp
              have hlo : lo ≤ z_6 := Nat.le_trans hlo hzl_6
              subst hr_6
              have hoz_6 := hW.oz
              refine lv_istore (lv' := [(13, .int (-3)), (0, .ref B), (1, .ref o), (2, .int (nI ne)), (4, .int hh), (6, .int (nI (sB S))), (8, .int (nI jb)), (9, .int (nI iw)), (11, .int (nI (jb + ql))), (12, .int (nI 0))]) hx hb dL_law_561 hl (by decide) rfl (fun ls hl => ?_)
              refine lv_iload hx hb dL_law_563 (lv_at hl 0 rfl) ?_
              refine lv_iload hx hb dL_law_565 (lv_at hl 9 rfl) ?_
              refine lv_if_eq (tgt := 575) hx hb dL_law_567 (by decide) (fun c567 => ?_) (fun c567 => by first | exact absurd (by decide) c567 | exact absurd c567 (by decide))
              refine lv_aload_n hx hb dL_law_575 rfl (lv_at hl 2 rfl) ?_
              refine lv_iconst (v := (nI 5)) hx hb dL_law_576 (by decide) ?_
              refine g_runV (As := [.int (nI 5)]) (rest := [.int (-3)]) (own := RL) (C := RX7) (T := TX7) (N := 7) 1 hx hb hml hown hts hK hz hP hL hS hlo hl.1 (c_X7_count l o b S tf tn P C kp z_6 ((nI 5))  τ_6 z_6 hW hY.1.1 ) gL_law_X7_count rfl rfl rfl (by decide +kernel) ⟨Nat.le_of_ble_eq_true rfl, Nat.le_of_ble_eq_true rfl⟩ hW.c0 rfl rfl rfl (Nat.le_of_ble_eq_true rfl) dL_law_577 ⟨(show cA + 17 + 0 ≤ 600000 by omega), (show sA + 789 + 0 ≤ 7302250 by omega)⟩ (g_kxi0 (fun r_7 τ_7 H locs z_7 hz hp hP hL hS => ?_))
              obtain ⟨hr_7, hW, hz_7, ha_7⟩ := hp
              have hz := hz.trans hz_7
              subst hr_7
              refine g_top (y := (nI (sK S))) yc_5 ?_
              refine lv_bipush (v := (nI 8)) hx hb dL_law_580 (by decide) ?_
              refine g_icmp_ne (tgt := 597) (a := sK S) (b := 8) hx hb (by omega) (by omega) dL_law_582 (by decide) (fun c582 => False.elim (by omega)) (fun c582 => ?_)
              refine lv_iload hx hb dL_law_585 (lv_at hl 0 rfl) ?_
              refine lv_bipush (v := (-3)) hx hb dL_law_587 (by decide) ?_
              refine lv_icmp_ne (tgt := 597) hx hb dL_law_589 (by decide) (fun c589 => by first | exact absurd (by decide) c589 | exact absurd c589 (by decide)) (fun c589 => ?_)
              refine lv_bipush (v := (-3)) hx hb dL_law_592 (by decide) ?_
              refine lv_goto (tgt := 604) hx hb dL_law_594 (by decide) ?_
              refine lv_icmp_ne (tgt := 611) hx hb dL_law_604 (by decide) (fun c604 => by first | exact absurd (by decide) c604 | exact absurd c604 (by decide)) (fun c604 => ?_)
              refine lv_iconst (v := (nI 1)) hx hb dL_law_607 (by decide) ?_
              refine lv_goto (tgt := 612) hx hb dL_law_608 (by decide) ?_
              refine lv_istore (lv' := [(10, .int (nI 1)), (13, .int (-3)), (0, .ref B), (1, .ref o), (2, .int (nI ne)), (4, .int hh), (6, .int (nI (sB S))), (8, .int (nI jb)), (9, .int (nI iw)), (11, .int (nI (jb + ql))), (12, .int (nI 0))]) hx hb dL_law_612 hl (by decide) rfl (fun ls hl => ?_)
              refine lv_goto (tgt := 898) hx hb dL_law_614 (by decide) ?_
              refine W.widen (k := cA + 100) (n := sA + 4000) (by omega) (by omega) ?_
              exact kk τ_7 z_6 H locs ls ⟨_, _, _, _, _, _, hW.up (by omega), hY, hB1, hN1, hC⟩ hlo hz hP hL hS (lv_sub hl [2, 3, 4, 0] rfl)
          · skip
            rw [hov] at hl hovD
            have hovF := hovD.symm
            have hl : lv_has ls 15 [(0, .ref B), (1, .ref o), (2, .int (nI ne)), (4, .int hh), (6, .int (nI (sB S))), (8, .int (nI jb)), (9, .int (nI iw)), (11, .int (nI (jb + ql))), (12, .int (nI 1)), (13, .int (nI (jb + (ql + 1))))] := hl
            refine lv_aload_n hx hb dL_law_551 rfl (lv_at hl 1 rfl) ?_
            refine lv_iload hx hb dL_law_552 (lv_at hl 6 rfl) ?_
            refine lv_iload hx hb dL_law_554 (lv_at hl 5 rfl) ?_
            refine lv_iload hx hb dL_law_556 (lv_at hl 7 rfl) ?_
            refine g_runV (As := [.int (nI iw), .int (nI jb), .int (nI (jb + ql))]) (rest := []) (own := RL) (C := RX7) (T := TX7) (N := 7) 3 hx hb hml hown hts hK hz hP hL hS hlo hl.1 (c_X7_addSolo l o b S tf tn P C kp ((nI iw)) ((nI jb)) ((nI (jb + ql))) υ z (hW.up (by omega)) hY.1.1) gL_law_X7_addSolo rfl rfl rfl (by decide +kernel) ⟨Nat.le_of_ble_eq_true rfl, Nat.le_of_ble_eq_true rfl⟩ hW.c0 rfl rfl rfl (Nat.le_of_ble_eq_true rfl) dL_law_558 ⟨(show cA + 17 ≤ 600000 by omega), (show sA + 789 ≤ 7302250 by omega)⟩ (g_kxi (fun r_8 τ_8 H locs z_8 hz hp hP hL hS => ?_))
            obtain ⟨hr_8, hW, hzl_8, hzu_8⟩ := wP_no (a_i4 hY hiw (by omega) hql9 hovF) hp
            have hlo : lo ≤ z_8 := Nat.le_trans hlo hzl_8
            subst hr_8
            have hoz_8 := hW.oz
            refine lv_istore (lv' := [(13, .int (-4)), (0, .ref B), (1, .ref o), (2, .int (nI ne)), (4, .int hh), (6, .int (nI (sB S))), (8, .int (nI jb)), (9, .int (nI iw)), (11, .int (nI (jb + ql))), (12, .int (nI 1))]) hx hb dL_law_561 hl (by decide) rfl (fun ls hl => ?_)
            refine lv_iload hx hb dL_law_563 (lv_at hl 0 rfl) ?_
            refine lv_iload hx hb dL_law_565 (lv_at hl 9 rfl) ?_
            refine lv_if_eq (tgt := 575) hx hb dL_law_567 (by decide) (fun c567 => by first | exact absurd (by decide) c567 | exact absurd c567 (by decide)) (fun c567 => ?_)
            refine lv_bipush (v := (-4)) hx hb dL_law_570 (by decide) ?_
            refine lv_goto (tgt := 604) hx hb dL_law_572 (by decide) ?_
            refine lv_icmp_ne (tgt := 611) hx hb dL_law_604 (by decide) (fun c604 => by first | exact absurd (by decide) c604 | exact absurd c604 (by decide)) (fun c604 => ?_)
            refine lv_iconst (v := (nI 1)) hx hb dL_law_607 (by decide) ?_
            refine lv_goto (tgt := 612) hx hb dL_law_608 (by decide) ?_
            refine lv_istore (lv' := [(10, .int (nI 1)), (13, .int (-4)), (0, .ref B), (1, .ref o), (2, .int (nI ne)), (4, .int hh), (6, .int (nI (sB S))), (8, .int (nI jb)), (9, .int (nI iw)), (11, .int (nI (jb + ql))), (12, .int (nI 1))]) hx hb dL_law_612 hl (by decide) rfl (fun ls hl => ?_)
            refine lv_goto (tgt := 898) hx hb dL_law_614 (by decide) ?_
            refine W.widen (k := cA + 100) (n := sA + 4000) (by omega) (by omega) ?_
            exact kk τ_8 z_8 H locs ls ⟨_, _, _, _, _, _, hW.up (by omega), hY, hB1, hN1, hC⟩ hlo hz hP hL hS (lv_sub hl [2, 3, 4, 0] rfl)
        · have hdl : jb + dd < sB S := by omega
          refine lv_iload hx hb dL_law_523 (lv_at hl 8 rfl) ?_
          refine g_ifb_ne (tgt := 538) hx hb dL_law_525 (by decide) (fun c525 => ?_) (fun c525 => ?_)
          · refine lv_iconst (v := (nI 1)) hx hb dL_law_538 (by decide) ?_
            refine lv_goto (tgt := 543) hx hb dL_law_539 (by decide) ?_
            refine g_top (y := (bI (ovD S jb (dd + 1)))) (by rw [ovD_1 c525]; rfl) ?_
            refine lv_istore (lv' := [(12, .int (bI (ovD S jb (dd + 1)))), (0, .ref B), (1, .ref o), (2, .int (nI ne)), (4, .int hh), (6, .int (nI (sB S))), (8, .int (nI jb)), (9, .int (nI iw)), (11, .int (nI (jb + ql))), (13, .int (nI (jb + dd)))]) hx hb dL_law_543 hl (by decide) rfl (fun ls hl => ?_)
            refine lv_iinc (v := (nI (jb + dd + 1))) (lv' := [(13, .int (nI (jb + dd + 1))), (12, .int (bI (ovD S jb (dd + 1)))), (0, .ref B), (1, .ref o), (2, .int (nI ne)), (4, .int hh), (6, .int (nI (sB S))), (8, .int (nI jb)), (9, .int (nI iw)), (11, .int (nI (jb + ql)))]) hx hb dL_law_545 hl (k := 9) rfl (g_inc (jb + dd) 1) (by decide) rfl (fun ls hl => ?_)
            refine lv_goto (tgt := 516) hx hb dL_law_548 (by decide) ?_
            exact ih_lpA (dd + 1) (by omega) (by omega) υ hW hL H locs ls hz hP hS (lv_sub hl [2, 3, 4, 5, 6, 7, 8, 9, 1, 0] rfl)
          · refine lv_aload_n hx hb dL_law_528 rfl (lv_at hl 1 rfl) ?_
            refine lv_iload hx hb dL_law_529 (lv_at hl 9 rfl) ?_
            refine lv_iconst (v := (nI 4)) hx hb dL_law_531 (by decide) ?_
            refine g_runV (As := [.int (nI (jb + dd)), .int (nI 4)]) (rest := []) (own := RL) (C := RX7) (T := TX7) (N := 7) 2 hx hb hml hown hts hK hz hP hL hS hlo hl.1 (c_X7_beat l o b S tf tn P C kp z ((nI (jb + dd))) ((nI 4))  υ z hW hY.1.1 ) gL_law_X7_beat rfl rfl rfl (by decide +kernel) ⟨Nat.le_of_ble_eq_true rfl, Nat.le_of_ble_eq_true rfl⟩ hW.c0 rfl rfl rfl (Nat.le_of_ble_eq_true rfl) dL_law_532 ⟨(show cA + 0 ≤ 600000 by omega), (show sA + 0 ≤ 7302250 by omega)⟩ (g_kxi0 (fun r_9 τ_9 H locs z_9 hz hp hP hL hS => ?_))
            obtain ⟨hr_9, hW, hz_9, ha_9⟩ := hp
            have hz := hz.trans hz_9
            subst hr_9
            refine g_top (y := (oI (soloF S (jb + dd)))) (yb_4 hY (by omega)) ?_
            rcases hso : soloF S (jb + dd) with _ | k
            · refine g_top (y := -5) rfl ?_
              refine lv_if_lt (tgt := 542) hx hb dL_law_535 (by decide) (fun c535 => ?_) (fun c535 => by first | exact absurd (by decide) c535 | exact absurd c535 (by decide))
              refine lv_iconst (v := (nI 0)) hx hb dL_law_542 (by decide) ?_
              refine g_top (y := (bI (ovD S jb (dd + 1)))) (by rw [ovD_n c525 hso]; rfl) ?_
              refine lv_istore (lv' := [(12, .int (bI (ovD S jb (dd + 1)))), (0, .ref B), (1, .ref o), (2, .int (nI ne)), (4, .int hh), (6, .int (nI (sB S))), (8, .int (nI jb)), (9, .int (nI iw)), (11, .int (nI (jb + ql))), (13, .int (nI (jb + dd)))]) hx hb dL_law_543 hl (by decide) rfl (fun ls hl => ?_)
              refine lv_iinc (v := (nI (jb + dd + 1))) (lv' := [(13, .int (nI (jb + dd + 1))), (12, .int (bI (ovD S jb (dd + 1)))), (0, .ref B), (1, .ref o), (2, .int (nI ne)), (4, .int hh), (6, .int (nI (sB S))), (8, .int (nI jb)), (9, .int (nI iw)), (11, .int (nI (jb + ql)))]) hx hb dL_law_545 hl (k := 9) rfl (g_inc (jb + dd) 1) (by decide) rfl (fun ls hl => ?_)
              refine lv_goto (tgt := 516) hx hb dL_law_548 (by decide) ?_
              exact ih_lpA (dd + 1) (by omega) (by omega) τ_9 hW hL H locs ls hz hP hS (lv_sub hl [2, 3, 4, 5, 6, 7, 8, 9, 1, 0] rfl)
            · refine g_top (y := nI k) rfl ?_
              have hk := soloF_lt hso
              refine g_if_lt hx hb (by omega) dL_law_535 (tgt := 542) (by decide) ?_
              refine lv_iconst (v := (nI 1)) hx hb dL_law_538 (by decide) ?_
              refine lv_goto (tgt := 543) hx hb dL_law_539 (by decide) ?_
              refine g_top (y := (bI (ovD S jb (dd + 1)))) (by rw [ovD_s hso]; rfl) ?_
              refine lv_istore (lv' := [(12, .int (bI (ovD S jb (dd + 1)))), (0, .ref B), (1, .ref o), (2, .int (nI ne)), (4, .int hh), (6, .int (nI (sB S))), (8, .int (nI jb)), (9, .int (nI iw)), (11, .int (nI (jb + ql))), (13, .int (nI (jb + dd)))]) hx hb dL_law_543 hl (by decide) rfl (fun ls hl => ?_)
              refine lv_iinc (v := (nI (jb + dd + 1))) (lv' := [(13, .int (nI (jb + dd + 1))), (12, .int (bI (ovD S jb (dd + 1)))), (0, .ref B), (1, .ref o), (2, .int (nI ne)), (4, .int hh), (6, .int (nI (sB S))), (8, .int (nI jb)), (9, .int (nI iw)), (11, .int (nI (jb + ql)))]) hx hb dL_law_545 hl (k := 9) rfl (g_inc (jb + dd) 1) (by decide) rfl (fun ls hl => ?_)
              refine lv_goto (tgt := 516) hx hb dL_law_548 (by decide) ?_
              exact ih_lpA (dd + 1) (by omega) (by omega) τ_9 hW hL H locs ls hz hP hS (lv_sub hl [2, 3, 4, 5, 6, 7, 8, 9, 1, 0] rfl)
    exact lpA _ 0 (by omega) (Nat.lt_succ_self _) σ hW hL H locs ls hz hP hS (lv_sub hl [3, 4, 5, 6, 7, 8, 9, 2, 1, 0] rfl)
  · refine lv_iconst (v := (nI 5)) hx hb dL_law_494 (by decide) ?_
    refine lv_goto (tgt := 503) hx hb dL_law_495 (by decide) ?_
    refine g_runS (As := [.int (hh >>> ((nI 3) &&& 31)), .int (nI 5)]) (rest := [.int (nI jb)]) (own := RL) 2 hx hb hml hown hts hK hz hP hL hS hlo hl.1 (c_L_low l ((hh >>> ((nI 3) &&& 31))) 5 σ z (by omega) (by omega)) gL_law_L_low rfl rfl rfl (by decide +kernel) ⟨Nat.le_of_ble_eq_true rfl, Nat.le_of_ble_eq_true rfl⟩ rfl rfl (Nat.le_of_ble_eq_true rfl) dL_law_503 ⟨(show cA + 0 ≤ 600000 by omega), (show sA + 0 ≤ 7302250 by omega)⟩ (g_ki0 (fun H locs hz hP hL hS => ?_))
    obtain ⟨q_10, hq_10⟩ : ∃ q : Nat, q = lowN ((hh >>> ((nI 3) &&& 31))) 5 := ⟨_, rfl⟩
    have hql_10 : q_10 < 5 := by rw [hq_10]; exact lowN_lt _ (by omega)
    refine g_top (y := (nI q_10)) (by rw [hq_10]) ?_
    refine lv_iadd hx hb dL_law_506 ?_
    refine g_top (nI_add jb q_10) ?_
    obtain ⟨ql, hqle⟩ : ∃ x : Nat, x = q_10 := ⟨_, rfl⟩
    refine g_top (y := (nI (jb + ql))) (by rw [hqle]) ?_
    have hql9 : jb + ql < sB S := by omega
    refine lv_istore (lv' := [(11, .int (nI (jb + ql))), (0, .ref B), (1, .ref o), (2, .int (nI ne)), (4, .int hh), (6, .int (nI (sB S))), (8, .int (nI jb)), (9, .int (nI iw))]) hx hb dL_law_507 hl (by decide) rfl (fun ls hl => ?_)
    refine lv_iconst (v := (nI 0)) hx hb dL_law_509 (by decide) ?_
    refine lv_istore (lv' := [(12, .int (nI 0)), (11, .int (nI (jb + ql))), (0, .ref B), (1, .ref o), (2, .int (nI ne)), (4, .int hh), (6, .int (nI (sB S))), (8, .int (nI jb)), (9, .int (nI iw))]) hx hb dL_law_510 hl (by decide) rfl (fun ls hl => ?_)
    refine lv_iload hx hb dL_law_512 (lv_at hl 7 rfl) ?_
    refine lv_istore (lv' := [(13, .int (nI jb)), (12, .int (nI 0)), (11, .int (nI (jb + ql))), (0, .ref B), (1, .ref o), (2, .int (nI ne)), (4, .int hh), (6, .int (nI (sB S))), (8, .int (nI jb)), (9, .int (nI iw))]) hx hb dL_law_514 hl (by decide) rfl (fun ls hl => ?_)
    have lpA : ∀ (fu_lpA : Nat) (dd : Nat), (dd ≤ ql + 1) → (ql + 1 - dd < fu_lpA) → ∀ (υ : gS), (Wo υ o b S tf tn P C kp z) → gL lo υ → ∀ (H : Heap) (locs : List Loc) (ls : Array Slot), H.size = z → gH D ka υ H → va_S (gA lo) s.heap H locs → lv_has ls 15 [(0, .ref B), (1, .ref o), (2, .int (nI ne)), (4, .int hh), (6, .int (nI (sB S))), (8, .int (nI jb)), (9, .int (nI iw)), (11, .int (nI (jb + ql))), (12, .int (bI (ovD S jb dd))), (13, .int (nI (jb + dd)))] → W p l e room_1 s m #[Value.ref B] below meth c H locs (cA) (sA) Q (F0 m 516 ls []) := by
      intro fu_lpA
      induction fu_lpA with
      | zero => intro dd hdd hm_lpA; exact absurd hm_lpA (Nat.not_lt_zero _)
      | succ fu_lpA ih_lpA =>
        intro dd hdd hm_lpA υ hW hL H locs ls hz hP hS hl
        refine lv_iload hx hb dL_law_516 (lv_at hl 9 rfl) ?_
        refine lv_iload hx hb dL_law_518 (lv_at hl 7 rfl) ?_
        refine g_icmp_gt (tgt := 551) (a := jb + dd) (b := jb + ql) hx hb (by omega) (by omega) dL_law_520 (by decide) (fun c520 => ?_) (fun c520 => ?_)
        · have hdde : dd = ql + 1 := by omega
          rw [hdde] at hl
          have hovD := ov_D hY (fr := jb) (q := ql) (by omega)
          cases hov : ovD S jb (ql + 1)
          · skip
            rw [hov] at hl hovD
            have hovF := hovD.symm
            have hl : lv_has ls 15 [(0, .ref B), (1, .ref o), (2, .int (nI ne)), (4, .int hh), (6, .int (nI (sB S))), (8, .int (nI jb)), (9, .int (nI iw)), (11, .int (nI (jb + ql))), (12, .int (nI 0)), (13, .int (nI (jb + (ql + 1))))] := hl
            rcases Decidable.em (sK S < 8) with hk8 | hk8
            · skip
              refine lv_aload_n hx hb dL_law_551 rfl (lv_at hl 1 rfl) ?_
              refine lv_iload hx hb dL_law_552 (lv_at hl 6 rfl) ?_
              refine lv_iload hx hb dL_law_554 (lv_at hl 5 rfl) ?_
              refine lv_iload hx hb dL_law_556 (lv_at hl 7 rfl) ?_
              refine g_runV (As := [.int (nI iw), .int (nI jb), .int (nI (jb + ql))]) (rest := []) (own := RL) (C := RX7) (T := TX7) (N := 7) 3 hx hb hml hown hts hK hz hP hL hS hlo hl.1 (c_X7_addSolo l o b S tf tn P C kp ((nI iw)) ((nI jb)) ((nI (jb + ql))) υ z (hW.up (by omega)) hY.1.1) gL_law_X7_addSolo rfl rfl rfl (by decide +kernel) ⟨Nat.le_of_ble_eq_true rfl, Nat.le_of_ble_eq_true rfl⟩ hW.c0 rfl rfl rfl (Nat.le_of_ble_eq_true rfl) dL_law_558 ⟨(show cA + 17 ≤ 600000 by omega), (show sA + 789 ≤ 7302250 by omega)⟩ (g_kxi (fun r_11 τ_11 H locs z_11 hz hp hP hL hS => ?_))
              obtain ⟨S2, pp, he, hY2, hB2, hN2, hK2, hpk, hsp⟩ := a_ins hY hiw (show jb ≤ jb + ql by omega) hql9 hovF hk8
              obtain ⟨hr_11, hW, hzl_11, hzu_11⟩ := wP_yes he hp
              have hC2 := hC.act hY.1.1 (show P ≤ 5 by omega)
              have hB21 : 0 < sB S2 := by omega
              have hN21 : 0 < sN S2 := by omega
              obtain ⟨⟨hB9, hN9, hK9, hR9⟩, -⟩ := id hY2.1
              have hlo : lo ≤ z_11 := Nat.le_trans hlo hzl_11
              subst hr_11
              have hoz_11 := hW.oz
              refine lv_istore (lv' := [(13, .int (nI pp)), (0, .ref B), (1, .ref o), (2, .int (nI ne)), (4, .int hh), (6, .int (nI (sB S))), (8, .int (nI jb)), (9, .int (nI iw)), (11, .int (nI (jb + ql))), (12, .int (nI 0))]) hx hb dL_law_561 hl (by decide) rfl (fun ls hl => ?_)
              refine lv_iload hx hb dL_law_563 (lv_at hl 0 rfl) ?_
              refine lv_iload hx hb dL_law_565 (lv_at hl 9 rfl) ?_
              refine lv_if_eq (tgt := 575) hx hb dL_law_567 (by decide) (fun c567 => ?_) (fun c567 => by first | exact absurd (by decide) c567 | exact absurd c567 (by decide))
              refine lv_aload_n hx hb dL_law_575 rfl (lv_at hl 2 rfl) ?_
              refine lv_iconst (v := (nI 5)) hx hb dL_law_576 (by decide) ?_
              refine g_runV (As := [.int (nI 5)]) (rest := [.int (nI pp)]) (own := RL) (C := RX7) (T := TX7) (N := 7) 1 hx hb hml hown hts hK hz hP hL hS hlo hl.1 (c_X7_count l o b S2 tf tn (recP P) (recS C P S) kp z_11 ((nI 5))  τ_11 z_11 hW hY2.1.1 ) gL_law_X7_count rfl rfl rfl (by decide +kernel) ⟨Nat.le_of_ble_eq_true rfl, Nat.le_of_ble_eq_true rfl⟩ hW.c0 rfl rfl rfl (Nat.le_of_ble_eq_true rfl) dL_law_577 ⟨(show cA + 17 + 0 ≤ 600000 by omega), (show sA + 789 + 0 ≤ 7302250 by omega)⟩ (g_kxi0 (fun r_12 τ_12 H locs z_12 hz hp hP hL hS => ?_))
              obtain ⟨hr_12, hW, hz_12, ha_12⟩ := hp
              have hz := hz.trans hz_12
              subst hr_12
              refine g_top (y := (nI (sK S2))) yc_5 ?_
              refine lv_bipush (v := (nI 8)) hx hb dL_law_580 (by decide) ?_
              refine g_icmp_ne (tgt := 597) (a := sK S2) (b := 8) hx hb (by omega) (by omega) dL_law_582 (by decide) (fun c582 => ?_) (fun c582 => ?_)
              · refine lv_aload_n hx hb dL_law_597 rfl (lv_at hl 2 rfl) ?_
                refine lv_iload hx hb dL_law_598 (lv_at hl 6 rfl) ?_
                refine lv_iconst (v := (nI 4)) hx hb dL_law_600 (by decide) ?_
                refine g_runV (As := [.int (nI jb), .int (nI 4)]) (rest := [.int (nI pp)]) (own := RL) (C := RX7) (T := TX7) (N := 7) 2 hx hb hml hown hts hK hz hP hL hS hlo hl.1 (c_X7_beat l o b S2 tf tn (recP P) (recS C P S) kp z_11 ((nI jb)) ((nI 4))  τ_12 z_11 hW hY2.1.1 ) gL_law_X7_beat rfl rfl rfl (by decide +kernel) ⟨Nat.le_of_ble_eq_true rfl, Nat.le_of_ble_eq_true rfl⟩ hW.c0 rfl rfl rfl (Nat.le_of_ble_eq_true rfl) dL_law_601 ⟨(show cA + 17 + 0 ≤ 600000 by omega), (show sA + 789 + 0 ≤ 7302250 by omega)⟩ (g_kxi0 (fun r_13 τ_13 H locs z_13 hz hp hP hL hS => ?_))
                obtain ⟨hr_13, hW, hz_13, ha_13⟩ := hp
                have hz := hz.trans hz_13
                subst hr_13
                refine g_top (y := (oI (soloF S2 jb))) (yb_4 hY2 (by omega)) ?_
                refine g_top (y := (nI pp)) (by rw [hsp]; rfl) ?_
                refine lv_icmp_ne (tgt := 611) hx hb dL_law_604 (by decide) (fun c604 => absurd rfl c604) (fun c604 => ?_)
                refine lv_iconst (v := (nI 1)) hx hb dL_law_607 (by decide) ?_
                refine lv_goto (tgt := 612) hx hb dL_law_608 (by decide) ?_
                refine lv_istore (lv' := [(10, .int (nI 1)), (13, .int (nI pp)), (0, .ref B), (1, .ref o), (2, .int (nI ne)), (4, .int hh), (6, .int (nI (sB S))), (8, .int (nI jb)), (9, .int (nI iw)), (11, .int (nI (jb + ql))), (12, .int (nI 0))]) hx hb dL_law_612 hl (by decide) rfl (fun ls hl => ?_)
                refine lv_goto (tgt := 898) hx hb dL_law_614 (by decide) ?_
                refine W.widen (k := cA + 100) (n := sA + 4000) (by omega) (by omega) ?_
                exact kk τ_13 z_11 H locs ls ⟨_, _, _, _, _, _, hW.up (by omega), hY2, hB21, hN21, hC2⟩ hlo hz hP hL hS (lv_sub hl [2, 3, 4, 0] rfl)
              · refine lv_iload hx hb dL_law_585 (lv_at hl 0 rfl) ?_
                refine lv_bipush (v := (-3)) hx hb dL_law_587 (by decide) ?_
                refine lv_icmp_ne (tgt := 597) hx hb dL_law_589 (by decide) (fun c589 => ?_) (fun c589 => (absurd c589 (g_neg (a := pp) (k := 3) (by omega) (by decide))))
                refine lv_aload_n hx hb dL_law_597 rfl (lv_at hl 2 rfl) ?_
                refine lv_iload hx hb dL_law_598 (lv_at hl 6 rfl) ?_
                refine lv_iconst (v := (nI 4)) hx hb dL_law_600 (by decide) ?_
                refine g_runV (As := [.int (nI jb), .int (nI 4)]) (rest := [.int (nI pp)]) (own := RL) (C := RX7) (T := TX7) (N := 7) 2 hx hb hml hown hts hK hz hP hL hS hlo hl.1 (c_X7_beat l o b S2 tf tn (recP P) (recS C P S) kp z_11 ((nI jb)) ((nI 4))  τ_12 z_11 hW hY2.1.1 ) gL_law_X7_beat rfl rfl rfl (by decide +kernel) ⟨Nat.le_of_ble_eq_true rfl, Nat.le_of_ble_eq_true rfl⟩ hW.c0 rfl rfl rfl (Nat.le_of_ble_eq_true rfl) dL_law_601 ⟨(show cA + 17 + 0 ≤ 600000 by omega), (show sA + 789 + 0 ≤ 7302250 by omega)⟩ (g_kxi0 (fun r_14 τ_14 H locs z_14 hz hp hP hL hS => ?_))
                obtain ⟨hr_14, hW, hz_14, ha_14⟩ := hp
                have hz := hz.trans hz_14
                subst hr_14
                refine g_top (y := (oI (soloF S2 jb))) (yb_4 hY2 (by omega)) ?_
                refine g_top (y := (nI pp)) (by rw [hsp]; rfl) ?_
                refine lv_icmp_ne (tgt := 611) hx hb dL_law_604 (by decide) (fun c604 => absurd rfl c604) (fun c604 => ?_)
                refine lv_iconst (v := (nI 1)) hx hb dL_law_607 (by decide) ?_
                refine lv_goto (tgt := 612) hx hb dL_law_608 (by decide) ?_
                refine lv_istore (lv' := [(10, .int (nI 1)), (13, .int (nI pp)), (0, .ref B), (1, .ref o), (2, .int (nI ne)), (4, .int hh), (6, .int (nI (sB S))), (8, .int (nI jb)), (9, .int (nI iw)), (11, .int (nI (jb + ql))), (12, .int (nI 0))]) hx hb dL_law_612 hl (by decide) rfl (fun ls hl => ?_)
                refine lv_goto (tgt := 898) hx hb dL_law_614 (by decide) ?_
                refine W.widen (k := cA + 100) (n := sA + 4000) (by omega) (by omega) ?_
                exact kk τ_14 z_11 H locs ls ⟨_, _, _, _, _, _, hW.up (by omega), hY2, hB21, hN21, hC2⟩ hlo hz hP hL hS (lv_sub hl [2, 3, 4, 0] rfl)
            · skip
              refine lv_aload_n hx hb dL_law_551 rfl (lv_at hl 1 rfl) ?_
              refine lv_iload hx hb dL_law_552 (lv_at hl 6 rfl) ?_
              refine lv_iload hx hb dL_law_554 (lv_at hl 5 rfl) ?_
              refine lv_iload hx hb dL_law_556 (lv_at hl 7 rfl) ?_
              refine g_runV (As := [.int (nI iw), .int (nI jb), .int (nI (jb + ql))]) (rest := []) (own := RL) (C := RX7) (T := TX7) (N := 7) 3 hx hb hml hown hts hK hz hP hL hS hlo hl.1 (c_X7_addSolo l o b S tf tn P C kp ((nI iw)) ((nI jb)) ((nI (jb + ql))) υ z (hW.up (by omega)) hY.1.1) gL_law_X7_addSolo rfl rfl rfl (by decide +kernel) ⟨Nat.le_of_ble_eq_true rfl, Nat.le_of_ble_eq_true rfl⟩ hW.c0 rfl rfl rfl (Nat.le_of_ble_eq_true rfl) dL_law_558 ⟨(show cA + 17 ≤ 600000 by omega), (show sA + 789 ≤ 7302250 by omega)⟩ (g_kxi (fun r_15 τ_15 H locs z_15 hz hp hP hL hS => ?_))
              obtain ⟨hr_15, hW, hzl_15, hzu_15⟩ := wP_no (a_i3 hY hiw (by omega) hql9 hovF hk8) hp
              have hlo : lo ≤ z_15 := Nat.le_trans hlo hzl_15
              subst hr_15
              have hoz_15 := hW.oz
              refine lv_istore (lv' := [(13, .int (-3)), (0, .ref B), (1, .ref o), (2, .int (nI ne)), (4, .int hh), (6, .int (nI (sB S))), (8, .int (nI jb)), (9, .int (nI iw)), (11, .int (nI (jb + ql))), (12, .int (nI 0))]) hx hb dL_law_561 hl (by decide) rfl (fun ls hl => ?_)
              refine lv_iload hx hb dL_law_563 (lv_at hl 0 rfl) ?_
              refine lv_iload hx hb dL_law_565 (lv_at hl 9 rfl) ?_
              refine lv_if_eq (tgt := 575) hx hb dL_law_567 (by decide) (fun c567 => ?_) (fun c567 => by first | exact absurd (by decide) c567 | exact absurd c567 (by decide))
              refine lv_aload_n hx hb dL_law_575 rfl (lv_at hl 2 rfl) ?_
              refine lv_iconst (v := (nI 5)) hx hb dL_law_576 (by decide) ?_
              refine g_runV (As := [.int (nI 5)]) (rest := [.int (-3)]) (own := RL) (C := RX7) (T := TX7) (N := 7) 1 hx hb hml hown hts hK hz hP hL hS hlo hl.1 (c_X7_count l o b S tf tn P C kp z_15 ((nI 5))  τ_15 z_15 hW hY.1.1 ) gL_law_X7_count rfl rfl rfl (by decide +kernel) ⟨Nat.le_of_ble_eq_true rfl, Nat.le_of_ble_eq_true rfl⟩ hW.c0 rfl rfl rfl (Nat.le_of_ble_eq_true rfl) dL_law_577 ⟨(show cA + 17 + 0 ≤ 600000 by omega), (show sA + 789 + 0 ≤ 7302250 by omega)⟩ (g_kxi0 (fun r_16 τ_16 H locs z_16 hz hp hP hL hS => ?_))
              obtain ⟨hr_16, hW, hz_16, ha_16⟩ := hp
              have hz := hz.trans hz_16
              subst hr_16
              refine g_top (y := (nI (sK S))) yc_5 ?_
              refine lv_bipush (v := (nI 8)) hx hb dL_law_580 (by decide) ?_
              refine g_icmp_ne (tgt := 597) (a := sK S) (b := 8) hx hb (by omega) (by omega) dL_law_582 (by decide) (fun c582 => False.elim (by omega)) (fun c582 => ?_)
              refine lv_iload hx hb dL_law_585 (lv_at hl 0 rfl) ?_
              refine lv_bipush (v := (-3)) hx hb dL_law_587 (by decide) ?_
              refine lv_icmp_ne (tgt := 597) hx hb dL_law_589 (by decide) (fun c589 => by first | exact absurd (by decide) c589 | exact absurd c589 (by decide)) (fun c589 => ?_)
              refine lv_bipush (v := (-3)) hx hb dL_law_592 (by decide) ?_
              refine lv_goto (tgt := 604) hx hb dL_law_594 (by decide) ?_
              refine lv_icmp_ne (tgt := 611) hx hb dL_law_604 (by decide) (fun c604 => by first | exact absurd (by decide) c604 | exact absurd c604 (by decide)) (fun c604 => ?_)
              refine lv_iconst (v := (nI 1)) hx hb dL_law_607 (by decide) ?_
              refine lv_goto (tgt := 612) hx hb dL_law_608 (by decide) ?_
              refine lv_istore (lv' := [(10, .int (nI 1)), (13, .int (-3)), (0, .ref B), (1, .ref o), (2, .int (nI ne)), (4, .int hh), (6, .int (nI (sB S))), (8, .int (nI jb)), (9, .int (nI iw)), (11, .int (nI (jb + ql))), (12, .int (nI 0))]) hx hb dL_law_612 hl (by decide) rfl (fun ls hl => ?_)
              refine lv_goto (tgt := 898) hx hb dL_law_614 (by decide) ?_
              refine W.widen (k := cA + 100) (n := sA + 4000) (by omega) (by omega) ?_
              exact kk τ_16 z_15 H locs ls ⟨_, _, _, _, _, _, hW.up (by omega), hY, hB1, hN1, hC⟩ hlo hz hP hL hS (lv_sub hl [2, 3, 4, 0] rfl)
          · skip
            rw [hov] at hl hovD
            have hovF := hovD.symm
            have hl : lv_has ls 15 [(0, .ref B), (1, .ref o), (2, .int (nI ne)), (4, .int hh), (6, .int (nI (sB S))), (8, .int (nI jb)), (9, .int (nI iw)), (11, .int (nI (jb + ql))), (12, .int (nI 1)), (13, .int (nI (jb + (ql + 1))))] := hl
            refine lv_aload_n hx hb dL_law_551 rfl (lv_at hl 1 rfl) ?_
            refine lv_iload hx hb dL_law_552 (lv_at hl 6 rfl) ?_
            refine lv_iload hx hb dL_law_554 (lv_at hl 5 rfl) ?_
            refine lv_iload hx hb dL_law_556 (lv_at hl 7 rfl) ?_
            refine g_runV (As := [.int (nI iw), .int (nI jb), .int (nI (jb + ql))]) (rest := []) (own := RL) (C := RX7) (T := TX7) (N := 7) 3 hx hb hml hown hts hK hz hP hL hS hlo hl.1 (c_X7_addSolo l o b S tf tn P C kp ((nI iw)) ((nI jb)) ((nI (jb + ql))) υ z (hW.up (by omega)) hY.1.1) gL_law_X7_addSolo rfl rfl rfl (by decide +kernel) ⟨Nat.le_of_ble_eq_true rfl, Nat.le_of_ble_eq_true rfl⟩ hW.c0 rfl rfl rfl (Nat.le_of_ble_eq_true rfl) dL_law_558 ⟨(show cA + 17 ≤ 600000 by omega), (show sA + 789 ≤ 7302250 by omega)⟩ (g_kxi (fun r_17 τ_17 H locs z_17 hz hp hP hL hS => ?_))
            obtain ⟨hr_17, hW, hzl_17, hzu_17⟩ := wP_no (a_i4 hY hiw (by omega) hql9 hovF) hp
            have hlo : lo ≤ z_17 := Nat.le_trans hlo hzl_17
            subst hr_17
            have hoz_17 := hW.oz
            refine lv_istore (lv' := [(13, .int (-4)), (0, .ref B), (1, .ref o), (2, .int (nI ne)), (4, .int hh), (6, .int (nI (sB S))), (8, .int (nI jb)), (9, .int (nI iw)), (11, .int (nI (jb + ql))), (12, .int (nI 1))]) hx hb dL_law_561 hl (by decide) rfl (fun ls hl => ?_)
            refine lv_iload hx hb dL_law_563 (lv_at hl 0 rfl) ?_
            refine lv_iload hx hb dL_law_565 (lv_at hl 9 rfl) ?_
            refine lv_if_eq (tgt := 575) hx hb dL_law_567 (by decide) (fun c567 => by first | exact absurd (by decide) c567 | exact absurd c567 (by decide)) (fun c567 => ?_)
            refine lv_bipush (v := (-4)) hx hb dL_law_570 (by decide) ?_
            refine lv_goto (tgt := 604) hx hb dL_law_572 (by decide) ?_
            refine lv_icmp_ne (tgt := 611) hx hb dL_law_604 (by decide) (fun c604 => by first | exact absurd (by decide) c604 | exact absurd c604 (by decide)) (fun c604 => ?_)
            refine lv_iconst (v := (nI 1)) hx hb dL_law_607 (by decide) ?_
            refine lv_goto (tgt := 612) hx hb dL_law_608 (by decide) ?_
            refine lv_istore (lv' := [(10, .int (nI 1)), (13, .int (-4)), (0, .ref B), (1, .ref o), (2, .int (nI ne)), (4, .int hh), (6, .int (nI (sB S))), (8, .int (nI jb)), (9, .int (nI iw)), (11, .int (nI (jb + ql))), (12, .int (nI 1))]) hx hb dL_law_612 hl (by decide) rfl (fun ls hl => ?_)
            refine lv_goto (tgt := 898) hx hb dL_law_614 (by decide) ?_
            refine W.widen (k := cA + 100) (n := sA + 4000) (by omega) (by omega) ?_
            exact kk τ_17 z_17 H locs ls ⟨_, _, _, _, _, _, hW.up (by omega), hY, hB1, hN1, hC⟩ hlo hz hP hL hS (lv_sub hl [2, 3, 4, 0] rfl)
        · have hdl : jb + dd < sB S := by omega
          refine lv_iload hx hb dL_law_523 (lv_at hl 8 rfl) ?_
          refine g_ifb_ne (tgt := 538) hx hb dL_law_525 (by decide) (fun c525 => ?_) (fun c525 => ?_)
          · refine lv_iconst (v := (nI 1)) hx hb dL_law_538 (by decide) ?_
            refine lv_goto (tgt := 543) hx hb dL_law_539 (by decide) ?_
            refine g_top (y := (bI (ovD S jb (dd + 1)))) (by rw [ovD_1 c525]; rfl) ?_
            refine lv_istore (lv' := [(12, .int (bI (ovD S jb (dd + 1)))), (0, .ref B), (1, .ref o), (2, .int (nI ne)), (4, .int hh), (6, .int (nI (sB S))), (8, .int (nI jb)), (9, .int (nI iw)), (11, .int (nI (jb + ql))), (13, .int (nI (jb + dd)))]) hx hb dL_law_543 hl (by decide) rfl (fun ls hl => ?_)
            refine lv_iinc (v := (nI (jb + dd + 1))) (lv' := [(13, .int (nI (jb + dd + 1))), (12, .int (bI (ovD S jb (dd + 1)))), (0, .ref B), (1, .ref o), (2, .int (nI ne)), (4, .int hh), (6, .int (nI (sB S))), (8, .int (nI jb)), (9, .int (nI iw)), (11, .int (nI (jb + ql)))]) hx hb dL_law_545 hl (k := 9) rfl (g_inc (jb + dd) 1) (by decide) rfl (fun ls hl => ?_)
            refine lv_goto (tgt := 516) hx hb dL_law_548 (by decide) ?_
            exact ih_lpA (dd + 1) (by omega) (by omega) υ hW hL H locs ls hz hP hS (lv_sub hl [2, 3, 4, 5, 6, 7, 8, 9, 1, 0] rfl)
          · refine lv_aload_n hx hb dL_law_528 rfl (lv_at hl 1 rfl) ?_
            refine lv_iload hx hb dL_law_529 (lv_at hl 9 rfl) ?_
            refine lv_iconst (v := (nI 4)) hx hb dL_law_531 (by decide) ?_
            refine g_runV (As := [.int (nI (jb + dd)), .int (nI 4)]) (rest := []) (own := RL) (C := RX7) (T := TX7) (N := 7) 2 hx hb hml hown hts hK hz hP hL hS hlo hl.1 (c_X7_beat l o b S tf tn P C kp z ((nI (jb + dd))) ((nI 4))  υ z hW hY.1.1 ) gL_law_X7_beat rfl rfl rfl (by decide +kernel) ⟨Nat.le_of_ble_eq_true rfl, Nat.le_of_ble_eq_true rfl⟩ hW.c0 rfl rfl rfl (Nat.le_of_ble_eq_true rfl) dL_law_532 ⟨(show cA + 0 ≤ 600000 by omega), (show sA + 0 ≤ 7302250 by omega)⟩ (g_kxi0 (fun r_18 τ_18 H locs z_18 hz hp hP hL hS => ?_))
            obtain ⟨hr_18, hW, hz_18, ha_18⟩ := hp
            have hz := hz.trans hz_18
            subst hr_18
            refine g_top (y := (oI (soloF S (jb + dd)))) (yb_4 hY (by omega)) ?_
            rcases hso : soloF S (jb + dd) with _ | k
            · refine g_top (y := -5) rfl ?_
              refine lv_if_lt (tgt := 542) hx hb dL_law_535 (by decide) (fun c535 => ?_) (fun c535 => by first | exact absurd (by decide) c535 | exact absurd c535 (by decide))
              refine lv_iconst (v := (nI 0)) hx hb dL_law_542 (by decide) ?_
              refine g_top (y := (bI (ovD S jb (dd + 1)))) (by rw [ovD_n c525 hso]; rfl) ?_
              refine lv_istore (lv' := [(12, .int (bI (ovD S jb (dd + 1)))), (0, .ref B), (1, .ref o), (2, .int (nI ne)), (4, .int hh), (6, .int (nI (sB S))), (8, .int (nI jb)), (9, .int (nI iw)), (11, .int (nI (jb + ql))), (13, .int (nI (jb + dd)))]) hx hb dL_law_543 hl (by decide) rfl (fun ls hl => ?_)
              refine lv_iinc (v := (nI (jb + dd + 1))) (lv' := [(13, .int (nI (jb + dd + 1))), (12, .int (bI (ovD S jb (dd + 1)))), (0, .ref B), (1, .ref o), (2, .int (nI ne)), (4, .int hh), (6, .int (nI (sB S))), (8, .int (nI jb)), (9, .int (nI iw)), (11, .int (nI (jb + ql)))]) hx hb dL_law_545 hl (k := 9) rfl (g_inc (jb + dd) 1) (by decide) rfl (fun ls hl => ?_)
              refine lv_goto (tgt := 516) hx hb dL_law_548 (by decide) ?_
              exact ih_lpA (dd + 1) (by omega) (by omega) τ_18 hW hL H locs ls hz hP hS (lv_sub hl [2, 3, 4, 5, 6, 7, 8, 9, 1, 0] rfl)
            · refine g_top (y := nI k) rfl ?_
              have hk := soloF_lt hso
              refine g_if_lt hx hb (by omega) dL_law_535 (tgt := 542) (by decide) ?_
              refine lv_iconst (v := (nI 1)) hx hb dL_law_538 (by decide) ?_
              refine lv_goto (tgt := 543) hx hb dL_law_539 (by decide) ?_
              refine g_top (y := (bI (ovD S jb (dd + 1)))) (by rw [ovD_s hso]; rfl) ?_
              refine lv_istore (lv' := [(12, .int (bI (ovD S jb (dd + 1)))), (0, .ref B), (1, .ref o), (2, .int (nI ne)), (4, .int hh), (6, .int (nI (sB S))), (8, .int (nI jb)), (9, .int (nI iw)), (11, .int (nI (jb + ql))), (13, .int (nI (jb + dd)))]) hx hb dL_law_543 hl (by decide) rfl (fun ls hl => ?_)
              refine lv_iinc (v := (nI (jb + dd + 1))) (lv' := [(13, .int (nI (jb + dd + 1))), (12, .int (bI (ovD S jb (dd + 1)))), (0, .ref B), (1, .ref o), (2, .int (nI ne)), (4, .int hh), (6, .int (nI (sB S))), (8, .int (nI jb)), (9, .int (nI iw)), (11, .int (nI (jb + ql)))]) hx hb dL_law_545 hl (k := 9) rfl (g_inc (jb + dd) 1) (by decide) rfl (fun ls hl => ?_)
              refine lv_goto (tgt := 516) hx hb dL_law_548 (by decide) ?_
              exact ih_lpA (dd + 1) (by omega) (by omega) τ_18 hW hL H locs ls hz hP hS (lv_sub hl [2, 3, 4, 5, 6, 7, 8, 9, 1, 0] rfl)
    exact lpA _ 0 (by omega) (Nat.lt_succ_self _) σ hW hL H locs ls hz hP hS (lv_sub hl [3, 4, 5, 6, 7, 8, 9, 2, 1, 0] rfl)

set_option maxHeartbeats 4000000 in
set_option maxRecDepth 100000 in
theorem law_c6 {p : Program} {l : Launch} {e : Env} {s : State} {m : MethodId} {below : List Frame} {meth : Method} {c : Code} {Q : State → Prop} {D : va_G} {ka : Nat → ClassId} {B o b lo : Nat} {ne cA sA : Nat} (hx : p.tables.exec = Jvm.exec) (hb : c.code = code) (hml : c.maxLocals = 15) (hown : s.vm.findClass RL = some m.cls) (hts : ∀ w ∈ wsL_law, w.before #[Value.ref B] s = true) (hK : gK D ka s) (hcA : cA ≤ 500000) (hsA : sA ≤ 6000000) {σ : gS} {z : Nat} {H : Heap} {locs : List Loc} {ls : Array Slot} {S : sS} {tf : Nat → Int32} {tn P : Nat} {C : Nat → sS} {kp : Nat → Bool} (hW : Wo σ o b S tf tn P C kp z) (hY : okY S) (hB1 : 0 < sB S) (hN1 : 0 < sN S) (hC : okC P C kp) (hlo : lo ≤ z) (hz : H.size = z) (hP : gH D ka σ H) (hL : gL lo σ) (hS : va_S (gA lo) s.heap H locs) {gg hh : Int32} {jb iw : Nat} (hjb : jb < sB S) (hiw : iw < sN S)  (hl : lv_has ls 15 [(0, .ref B), (1, .ref o), (2, .int (nI ne)), (4, .int hh)]) (kk : ∀ (τ : gS) (z1 : Nat) (H1 : Heap) (locs1 : List Loc) (ls1 : Array Slot), LwJ τ o b z1 → lo ≤ z1 → H1.size = z1 → gH D ka τ H1 → gL lo τ → va_S (gA lo) s.heap H1 locs1 → lv_has ls1 15 [(0, .ref B), (1, .ref o), (2, .int (nI ne)), (10, .int (nI 1))] → W p l e room_1 s m #[Value.ref B] below meth c H1 locs1 (cA + 100) (sA + 4000) Q (F0 m 898 ls1 [])) : W p l e room_1 s m #[Value.ref B] below meth c H locs (cA) (sA) Q (F0 m 624 ls []) := by
  have hoz := hW.oz
  obtain ⟨⟨hB, hN, hKs, hRs⟩, -⟩ := id hY.1
  refine lv_aload_n hx hb dL_law_624 rfl (lv_at hl 1 rfl) ?_
  refine lv_iconst (v := (nI 5)) hx hb dL_law_625 (by decide) ?_
  refine g_runV (As := [.int (nI 5)]) (rest := []) (own := RL) (C := RX7) (T := TX7) (N := 7) 1 hx hb hml hown hts hK hz hP hL hS hlo hl.1 (c_X7_count l o b S tf tn P C kp z ((nI 5))  σ z hW hY.1.1 ) gL_law_X7_count rfl rfl rfl (by decide +kernel) ⟨Nat.le_of_ble_eq_true rfl, Nat.le_of_ble_eq_true rfl⟩ hW.c0 rfl rfl rfl (Nat.le_of_ble_eq_true rfl) dL_law_626 ⟨(show cA + 0 ≤ 600000 by omega), (show sA + 0 ≤ 7302250 by omega)⟩ (g_kxi0 (fun r_1 τ_1 H locs z_1 hz hp hP hL hS => ?_))
  obtain ⟨hr_1, hW, hz_1, ha_1⟩ := hp
  have hz := hz.trans hz_1
  subst hr_1
  refine g_top (y := (nI (sK S))) yc_5 ?_
  refine lv_istore (lv' := [(11, .int (nI (sK S))), (0, .ref B), (1, .ref o), (2, .int (nI ne)), (4, .int hh)]) hx hb dL_law_629 hl (by decide) rfl (fun ls hl => ?_)
  refine lv_iload hx hb dL_law_631 (lv_at hl 0 rfl) ?_
  refine g_if_eq (tgt := 654) hx hb (by omega) dL_law_633 (by decide) (fun c633 => ?_) (fun c633 => ?_)
  · refine lv_iconst (v := (nI 1)) hx hb dL_law_654 (by decide) ?_
    refine lv_goto (tgt := 659) hx hb dL_law_655 (by decide) ?_
    refine lv_istore (lv' := [(10, .int (nI 1)), (11, .int (nI (sK S))), (0, .ref B), (1, .ref o), (2, .int (nI ne)), (4, .int hh)]) hx hb dL_law_659 hl (by decide) rfl (fun ls hl => ?_)
    refine lv_goto (tgt := 898) hx hb dL_law_661 (by decide) ?_
    refine W.widen (k := cA + 100) (n := sA + 4000) (by omega) (by omega) ?_
    exact kk τ_1 z H locs ls ⟨_, _, _, _, _, _, hW.up (by omega), hY, hB1, hN1, hC⟩ hlo hz hP hL hS (lv_sub hl [2, 3, 4, 0] rfl)
  · refine lv_aload_n hx hb dL_law_636 rfl (lv_at hl 2 rfl) ?_
    refine lv_iload hx hb dL_law_637 (lv_at hl 4 rfl) ?_
    refine lv_iload hx hb dL_law_639 (lv_at hl 0 rfl) ?_
    refine g_runS (As := [.int hh, .int (nI (sK S))]) (rest := [.ref o]) (own := RL) 2 hx hb hml hown hts hK hz hP hL hS hlo hl.1 (c_L_low l hh (sK S) τ_1 z (by omega) (by omega)) gL_law_L_low rfl rfl rfl (by decide +kernel) ⟨Nat.le_of_ble_eq_true rfl, Nat.le_of_ble_eq_true rfl⟩ rfl rfl (Nat.le_of_ble_eq_true rfl) dL_law_641 ⟨(show cA + 0 ≤ 600000 by omega), (show sA + 0 ≤ 7302250 by omega)⟩ (g_ki0 (fun H locs hz hP hL hS => ?_))
    obtain ⟨q_2, hq_2⟩ : ∃ q : Nat, q = lowN hh (sK S) := ⟨_, rfl⟩
    have hql_2 : q_2 < sK S := by rw [hq_2]; exact lowN_lt _ (by omega)
    refine g_top (y := (nI q_2)) (by rw [hq_2]) ?_
    refine g_runV (As := [.int (nI q_2)]) (rest := []) (own := RL) (C := RX7) (T := TX7) (N := 7) 1 hx hb hml hown hts hK hz hP hL hS hlo hl.1 (c_X7_removeSolo l o b S tf tn P C kp ((nI q_2)) τ_1 z (hW.up (by omega)) hY.1.1) gL_law_X7_removeSolo rfl rfl rfl (by decide +kernel) ⟨Nat.le_of_ble_eq_true rfl, Nat.le_of_ble_eq_true rfl⟩ hW.c0 rfl rfl rfl (Nat.le_of_ble_eq_true rfl) dL_law_644 ⟨(show cA + 17 ≤ 600000 by omega), (show sA + 789 ≤ 7302250 by omega)⟩ (g_kxi (fun r_3 τ_3 H locs z_3 hz hp hP hL hS => ?_))
    obtain ⟨S2, he, hY2, hB2, hN2⟩ := a_rem hY (k := q_2) (by omega)
    obtain ⟨hr_3, hW, hzl_3, hzu_3⟩ := wP_yes he hp
    have hC2 := hC.act hY.1.1 (show P ≤ 5 by omega)
    have hB21 : 0 < sB S2 := by omega
    have hN21 : 0 < sN S2 := by omega
    obtain ⟨⟨hB9, hN9, hK9, hR9⟩, -⟩ := id hY2.1
    have hlo : lo ≤ z_3 := Nat.le_trans hlo hzl_3
    subst hr_3
    have hoz_3 := hW.oz
    refine lv_iload hx hb dL_law_647 (lv_at hl 0 rfl) ?_
    refine lv_iconst (v := (nI 1)) hx hb dL_law_649 (by decide) ?_
    refine lv_isub hx hb dL_law_650 ?_
    refine g_top (pk_sub (by omega : 1 ≤ sK S)) ?_
    refine lv_icmp_ne (tgt := 658) hx hb dL_law_651 (by decide) (fun c651 => absurd rfl c651) (fun c651 => ?_)
    refine lv_iconst (v := (nI 1)) hx hb dL_law_654 (by decide) ?_
    refine lv_goto (tgt := 659) hx hb dL_law_655 (by decide) ?_
    refine lv_istore (lv' := [(10, .int (nI 1)), (11, .int (nI (sK S))), (0, .ref B), (1, .ref o), (2, .int (nI ne)), (4, .int hh)]) hx hb dL_law_659 hl (by decide) rfl (fun ls hl => ?_)
    refine lv_goto (tgt := 898) hx hb dL_law_661 (by decide) ?_
    refine W.widen (k := cA + 100) (n := sA + 4000) (by omega) (by omega) ?_
    exact kk τ_3 z_3 H locs ls ⟨_, _, _, _, _, _, hW.up (by omega), hY2, hB21, hN21, hC2⟩ hlo hz hP hL hS (lv_sub hl [2, 3, 4, 0] rfl)

set_option maxHeartbeats 4000000 in
set_option maxRecDepth 100000 in
theorem law_c7 {p : Program} {l : Launch} {e : Env} {s : State} {m : MethodId} {below : List Frame} {meth : Method} {c : Code} {Q : State → Prop} {D : va_G} {ka : Nat → ClassId} {B o b lo : Nat} {ne cA sA : Nat} (hx : p.tables.exec = Jvm.exec) (hb : c.code = code) (hml : c.maxLocals = 15) (hown : s.vm.findClass RL = some m.cls) (hts : ∀ w ∈ wsL_law, w.before #[Value.ref B] s = true) (hK : gK D ka s) (hcA : cA ≤ 500000) (hsA : sA ≤ 6000000) {σ : gS} {z : Nat} {H : Heap} {locs : List Loc} {ls : Array Slot} {S : sS} {tf : Nat → Int32} {tn P : Nat} {C : Nat → sS} {kp : Nat → Bool} (hW : Wo σ o b S tf tn P C kp z) (hY : okY S) (hB1 : 0 < sB S) (hN1 : 0 < sN S) (hC : okC P C kp) (hlo : lo ≤ z) (hz : H.size = z) (hP : gH D ka σ H) (hL : gL lo σ) (hS : va_S (gA lo) s.heap H locs) {gg hh : Int32} {jb iw : Nat} (hjb : jb < sB S) (hiw : iw < sN S)  (hl : lv_has ls 15 [(0, .ref B), (1, .ref o), (2, .int (nI ne)), (4, .int hh), (8, .int (nI jb)), (9, .int (nI iw))]) (kk : ∀ (τ : gS) (z1 : Nat) (H1 : Heap) (locs1 : List Loc) (ls1 : Array Slot), LwJ τ o b z1 → lo ≤ z1 → H1.size = z1 → gH D ka τ H1 → gL lo τ → va_S (gA lo) s.heap H1 locs1 → lv_has ls1 15 [(0, .ref B), (1, .ref o), (2, .int (nI ne)), (10, .int (nI 1))] → W p l e room_1 s m #[Value.ref B] below meth c H1 locs1 (cA + 100) (sA + 4000) Q (F0 m 898 ls1 [])) : W p l e room_1 s m #[Value.ref B] below meth c H locs (cA) (sA) Q (F0 m 676 ls []) := by
  have hoz := hW.oz
  obtain ⟨⟨hB, hN, hKs, hRs⟩, -⟩ := id hY.1
  cases hmb : markB S iw jb
  · skip
    refine lv_aload_n hx hb dL_law_676 rfl (lv_at hl 1 rfl) ?_
    refine lv_iload hx hb dL_law_677 (lv_at hl 5 rfl) ?_
    refine lv_iconst (v := (nI 3)) hx hb dL_law_679 (by decide) ?_
    refine g_runV (As := [.int (nI iw), .int (nI 3)]) (rest := []) (own := RL) (C := RX7) (T := TX7) (N := 7) 2 hx hb hml hown hts hK hz hP hL hS hlo hl.1 (c_X7_singer l o b S tf tn P C kp z ((nI iw)) ((nI 3))  σ z hW hY.1.1 ) gL_law_X7_singer rfl rfl rfl (by decide +kernel) ⟨Nat.le_of_ble_eq_true rfl, Nat.le_of_ble_eq_true rfl⟩ hW.c0 rfl rfl rfl (Nat.le_of_ble_eq_true rfl) dL_law_680 ⟨(show cA + 0 ≤ 600000 by omega), (show sA + 0 ≤ 7302250 by omega)⟩ (g_kxi0 (fun r_1 τ_1 H locs z_1 hz hp hP hL hS => ?_))
    obtain ⟨hr_1, hW, hz_1, ha_1⟩ := hp
    have hz := hz.trans hz_1
    subst hr_1
    have hmk := cntF_le (markB S iw) (sB S)
    refine g_top (y := (nI (cntF (markB S iw) (sB S)))) (yn_3 hY (by omega)) ?_
    refine lv_istore (lv' := [(11, .int (nI (cntF (markB S iw) (sB S)))), (0, .ref B), (1, .ref o), (2, .int (nI ne)), (4, .int hh), (8, .int (nI jb)), (9, .int (nI iw))]) hx hb dL_law_683 hl (by decide) rfl (fun ls hl => ?_)
    refine lv_aload_n hx hb dL_law_685 rfl (lv_at hl 2 rfl) ?_
    refine lv_iload hx hb dL_law_686 (lv_at hl 6 rfl) ?_
    refine lv_iload hx hb dL_law_688 (lv_at hl 5 rfl) ?_
    refine g_runV (As := [.int (nI iw), .int (nI jb)]) (rest := []) (own := RL) (C := RX7) (T := TX7) (N := 7) 2 hx hb hml hown hts hK hz hP hL hS hlo hl.1 (c_X7_does l o b S tf tn P C kp z ((nI iw)) ((nI jb))  τ_1 z hW hY.1.1 ) gL_law_X7_does rfl rfl rfl (by decide +kernel) ⟨Nat.le_of_ble_eq_true rfl, Nat.le_of_ble_eq_true rfl⟩ hW.c0 rfl rfl rfl (Nat.le_of_ble_eq_true rfl) dL_law_690 ⟨(show cA + 0 ≤ 600000 by omega), (show sA + 0 ≤ 7302250 by omega)⟩ (g_kxi0 (fun r_2 τ_2 H locs z_2 hz hp hP hL hS => ?_))
    obtain ⟨hr_2, hW, hz_2, ha_2⟩ := hp
    have hz := hz.trans hz_2
    subst hr_2
    have hdo := dosQ_lt S iw jb
    refine g_top (y := (nI (dosQ S iw jb))) (yd hY (by omega) (by omega)) ?_
    refine lv_istore (lv' := [(12, .int (nI (dosQ S iw jb))), (11, .int (nI (cntF (markB S iw) (sB S)))), (0, .ref B), (1, .ref o), (2, .int (nI ne)), (4, .int hh), (8, .int (nI jb)), (9, .int (nI iw))]) hx hb dL_law_693 hl (by decide) rfl (fun ls hl => ?_)
    refine lv_iload hx hb dL_law_695 (lv_at hl 5 rfl) ?_
    refine lv_bipush (v := (nI 32)) hx hb dL_law_697 (by decide) ?_
    refine lv_iand hx hb dL_law_699 ?_
    refine lv_if_le (tgt := 707) hx hb dL_law_700 (by decide) (fun c700 => ?_) (fun c700 => ?_)
    · refine lv_iconst (v := (nI 0)) hx hb dL_law_707 (by decide) ?_
      refine lv_istore (lv' := [(13, .int (nI 0)), (12, .int (nI (dosQ S iw jb))), (11, .int (nI (cntF (markB S iw) (sB S)))), (0, .ref B), (1, .ref o), (2, .int (nI ne)), (4, .int hh), (8, .int (nI jb)), (9, .int (nI iw))]) hx hb dL_law_708 hl (by decide) rfl (fun ls hl => ?_)
      refine lv_aload_n hx hb dL_law_710 rfl (lv_at hl 4 rfl) ?_
      refine lv_iload hx hb dL_law_711 (lv_at hl 8 rfl) ?_
      refine lv_iload hx hb dL_law_713 (lv_at hl 7 rfl) ?_
      refine lv_iload hx hb dL_law_715 (lv_at hl 0 rfl) ?_
      refine g_top (y := (bI false)) rfl ?_
      refine g_runV (As := [.int (nI iw), .int (nI jb), .int (bI false)]) (rest := []) (own := RL) (C := RX7) (T := TX7) (N := 7) 3 hx hb hml hown hts hK hz hP hL hS hlo hl.1 (c_X7_mark l o b S tf tn P C kp ((nI iw)) ((nI jb)) false τ_2 z (hW.up (by omega)) hY.1.1) gL_law_X7_mark rfl rfl rfl (by decide +kernel) ⟨Nat.le_of_ble_eq_true rfl, Nat.le_of_ble_eq_true rfl⟩ hW.c0 rfl rfl rfl (Nat.le_of_ble_eq_true rfl) dL_law_717 ⟨(show cA + 17 ≤ 600000 by omega), (show sA + 789 ≤ 7302250 by omega)⟩ (g_kxi (fun r_3 τ_3 H locs z_3 hz hp hP hL hS => ?_))
      obtain ⟨hr_3, hW, hzl_3, hzu_3⟩ := wP_no (a_mn hY hiw hjb hmb) hp
      have hlo : lo ≤ z_3 := Nat.le_trans hlo hzl_3
      subst hr_3
      have hoz_3 := hW.oz
      refine lv_istore (lv' := [(14, .int (-5)), (13, .int (nI 0)), (12, .int (nI (dosQ S iw jb))), (11, .int (nI (cntF (markB S iw) (sB S)))), (0, .ref B), (1, .ref o), (2, .int (nI ne)), (4, .int hh), (8, .int (nI jb)), (9, .int (nI iw))]) hx hb dL_law_720 hl (by decide) rfl (fun ls hl => ?_)
      refine lv_iload hx hb dL_law_722 (lv_at hl 0 rfl) ?_
      refine lv_bipush (v := (-5)) hx hb dL_law_724 (by decide) ?_
      refine lv_icmp_ne (tgt := 759) hx hb dL_law_726 (by decide) (fun c726 => by first | exact absurd (by decide) c726 | exact absurd c726 (by decide)) (fun c726 => ?_)
      refine lv_iload hx hb dL_law_729 (lv_at hl 2 rfl) ?_
      refine lv_iconst (v := (nI 3)) hx hb dL_law_731 (by decide) ?_
      refine g_icmp_eq (tgt := 751) (a := dosQ S iw jb) (b := 3) hx hb (by omega) (by omega) dL_law_732 (by decide) (fun c732 => ?_) (fun c732 => ?_)
      · refine lv_iconst (v := (nI 1)) hx hb dL_law_751 (by decide) ?_
        refine lv_goto (tgt := 794) hx hb dL_law_752 (by decide) ?_
        refine lv_istore (lv' := [(10, .int (nI 1)), (14, .int (-5)), (13, .int (nI 0)), (12, .int (nI (dosQ S iw jb))), (11, .int (nI (cntF (markB S iw) (sB S)))), (0, .ref B), (1, .ref o), (2, .int (nI ne)), (4, .int hh), (8, .int (nI jb)), (9, .int (nI iw))]) hx hb dL_law_794 hl (by decide) rfl (fun ls hl => ?_)
        refine lv_goto (tgt := 898) hx hb dL_law_796 (by decide) ?_
        refine W.widen (k := cA + 100) (n := sA + 4000) (by omega) (by omega) ?_
        exact kk τ_3 z_3 H locs ls ⟨_, _, _, _, _, _, hW.up (by omega), hY, hB1, hN1, hC⟩ hlo hz hP hL hS (lv_sub hl [5, 6, 7, 0] rfl)
      · refine lv_iload hx hb dL_law_735 (lv_at hl 2 rfl) ?_
        refine lv_iconst (v := (nI 1)) hx hb dL_law_737 (by decide) ?_
        refine g_icmp_ne (tgt := 745) (a := dosQ S iw jb) (b := 1) hx hb (by omega) (by omega) dL_law_738 (by decide) (fun c738 => ?_) (fun c738 => absurd c738 (do_mf hmb))
        refine lv_iconst (v := (nI 0)) hx hb dL_law_745 (by decide) ?_
        refine lv_iload hx hb dL_law_746 (lv_at hl 1 rfl) ?_
        refine lv_icmp_ne (tgt := 755) hx hb dL_law_748 (by decide) (fun c748 => by first | exact absurd (by decide) c748 | exact absurd c748 (by decide)) (fun c748 => ?_)
        refine lv_iconst (v := (nI 1)) hx hb dL_law_751 (by decide) ?_
        refine lv_goto (tgt := 794) hx hb dL_law_752 (by decide) ?_
        refine lv_istore (lv' := [(10, .int (nI 1)), (14, .int (-5)), (13, .int (nI 0)), (12, .int (nI (dosQ S iw jb))), (11, .int (nI (cntF (markB S iw) (sB S)))), (0, .ref B), (1, .ref o), (2, .int (nI ne)), (4, .int hh), (8, .int (nI jb)), (9, .int (nI iw))]) hx hb dL_law_794 hl (by decide) rfl (fun ls hl => ?_)
        refine lv_goto (tgt := 898) hx hb dL_law_796 (by decide) ?_
        refine W.widen (k := cA + 100) (n := sA + 4000) (by omega) (by omega) ?_
        exact kk τ_3 z_3 H locs ls ⟨_, _, _, _, _, _, hW.up (by omega), hY, hB1, hN1, hC⟩ hlo hz hP hL hS (lv_sub hl [5, 6, 7, 0] rfl)
    · refine lv_iconst (v := (nI 1)) hx hb dL_law_703 (by decide) ?_
      refine lv_goto (tgt := 708) hx hb dL_law_704 (by decide) ?_
      refine lv_istore (lv' := [(13, .int (nI 1)), (12, .int (nI (dosQ S iw jb))), (11, .int (nI (cntF (markB S iw) (sB S)))), (0, .ref B), (1, .ref o), (2, .int (nI ne)), (4, .int hh), (8, .int (nI jb)), (9, .int (nI iw))]) hx hb dL_law_708 hl (by decide) rfl (fun ls hl => ?_)
      refine lv_aload_n hx hb dL_law_710 rfl (lv_at hl 4 rfl) ?_
      refine lv_iload hx hb dL_law_711 (lv_at hl 8 rfl) ?_
      refine lv_iload hx hb dL_law_713 (lv_at hl 7 rfl) ?_
      refine lv_iload hx hb dL_law_715 (lv_at hl 0 rfl) ?_
      refine g_top (y := (bI true)) rfl ?_
      refine g_runV (As := [.int (nI iw), .int (nI jb), .int (bI true)]) (rest := []) (own := RL) (C := RX7) (T := TX7) (N := 7) 3 hx hb hml hown hts hK hz hP hL hS hlo hl.1 (c_X7_mark l o b S tf tn P C kp ((nI iw)) ((nI jb)) true τ_2 z (hW.up (by omega)) hY.1.1) gL_law_X7_mark rfl rfl rfl (by decide +kernel) ⟨Nat.le_of_ble_eq_true rfl, Nat.le_of_ble_eq_true rfl⟩ hW.c0 rfl rfl rfl (Nat.le_of_ble_eq_true rfl) dL_law_717 ⟨(show cA + 17 ≤ 600000 by omega), (show sA + 789 ≤ 7302250 by omega)⟩ (g_kxi (fun r_4 τ_4 H locs z_4 hz hp hP hL hS => ?_))
      obtain ⟨S2, he, hY2, hB2, hN2, hm1, hm0⟩ := a_mk hY (a := true) hiw hjb (by rw [hmb]; decide)
      obtain ⟨hr_4, hW, hzl_4, hzu_4⟩ := wP_yes he hp
      have hC2 := hC.act hY.1.1 (show P ≤ 5 by omega)
      have hB21 : 0 < sB S2 := by omega
      have hN21 : 0 < sN S2 := by omega
      obtain ⟨⟨hB9, hN9, hK9, hR9⟩, -⟩ := id hY2.1
      have hmle := cntF_le (markB S2 iw) (sB S2)
      have hlo : lo ≤ z_4 := Nat.le_trans hlo hzl_4
      subst hr_4
      have hoz_4 := hW.oz
      refine lv_istore (lv' := [(14, .int (nI (cntF (markB S2 iw) (sB S2)))), (13, .int (nI 1)), (12, .int (nI (dosQ S iw jb))), (11, .int (nI (cntF (markB S iw) (sB S)))), (0, .ref B), (1, .ref o), (2, .int (nI ne)), (4, .int hh), (8, .int (nI jb)), (9, .int (nI iw))]) hx hb dL_law_720 hl (by decide) rfl (fun ls hl => ?_)
      refine lv_iload hx hb dL_law_722 (lv_at hl 0 rfl) ?_
      refine lv_bipush (v := (-5)) hx hb dL_law_724 (by decide) ?_
      refine lv_icmp_ne (tgt := 759) hx hb dL_law_726 (by decide) (fun c726 => ?_) (fun c726 => (absurd c726 (g_neg (a := cntF (markB S2 iw) (sB S2)) (k := 5) (by omega) (by decide))))
      refine lv_iload hx hb dL_law_759 (lv_at hl 0 rfl) ?_
      refine lv_iload hx hb dL_law_761 (lv_at hl 3 rfl) ?_
      refine lv_iload hx hb dL_law_763 (lv_at hl 1 rfl) ?_
      refine lv_if_eq (tgt := 772) hx hb dL_law_765 (by decide) (fun c765 => by first | exact absurd (by decide) c765 | exact absurd c765 (by decide)) (fun c765 => ?_)
      refine lv_iconst (v := (nI 1)) hx hb dL_law_768 (by decide) ?_
      refine lv_goto (tgt := 773) hx hb dL_law_769 (by decide) ?_
      refine lv_iadd hx hb dL_law_773 ?_
      refine g_top (nI_add (cntF (markB S iw) (sB S)) 1) ?_
      have hm9 := hm1 rfl
      have hmle := cntF_le (markB S2 iw) (sB S2)
      refine g_icmp_ne (tgt := 793) (a := cntF (markB S2 iw) (sB S2)) (b := (cntF (markB S iw) (sB S)) + 1) hx hb (by omega) (by omega) dL_law_774 (by decide) (fun c774 => False.elim (by omega)) (fun c774 => ?_)
      refine lv_aload_n hx hb dL_law_777 rfl (lv_at hl 5 rfl) ?_
      refine lv_iload hx hb dL_law_778 (lv_at hl 9 rfl) ?_
      refine lv_iconst (v := (nI 3)) hx hb dL_law_780 (by decide) ?_
      refine g_runV (As := [.int (nI iw), .int (nI 3)]) (rest := []) (own := RL) (C := RX7) (T := TX7) (N := 7) 2 hx hb hml hown hts hK hz hP hL hS hlo hl.1 (c_X7_singer l o b S2 tf tn (recP P) (recS C P S) kp z_4 ((nI iw)) ((nI 3))  τ_4 z_4 hW hY2.1.1 ) gL_law_X7_singer rfl rfl rfl (by decide +kernel) ⟨Nat.le_of_ble_eq_true rfl, Nat.le_of_ble_eq_true rfl⟩ hW.c0 rfl rfl rfl (Nat.le_of_ble_eq_true rfl) dL_law_781 ⟨(show cA + 17 + 0 ≤ 600000 by omega), (show sA + 789 + 0 ≤ 7302250 by omega)⟩ (g_kxi0 (fun r_5 τ_5 H locs z_5 hz hp hP hL hS => ?_))
      obtain ⟨hr_5, hW, hz_5, ha_5⟩ := hp
      have hz := hz.trans hz_5
      subst hr_5
      have hmk := cntF_le (markB S2 iw) (sB S2)
      refine g_top (y := (nI (cntF (markB S2 iw) (sB S2)))) (yn_3 hY2 (by omega)) ?_
      refine lv_iload hx hb dL_law_784 (lv_at hl 0 rfl) ?_
      refine lv_icmp_ne (tgt := 793) hx hb dL_law_786 (by decide) (fun c786 => absurd rfl c786) (fun c786 => ?_)
      refine lv_iconst (v := (nI 1)) hx hb dL_law_789 (by decide) ?_
      refine lv_goto (tgt := 794) hx hb dL_law_790 (by decide) ?_
      refine lv_istore (lv' := [(10, .int (nI 1)), (14, .int (nI (cntF (markB S2 iw) (sB S2)))), (13, .int (nI 1)), (12, .int (nI (dosQ S iw jb))), (11, .int (nI (cntF (markB S iw) (sB S)))), (0, .ref B), (1, .ref o), (2, .int (nI ne)), (4, .int hh), (8, .int (nI jb)), (9, .int (nI iw))]) hx hb dL_law_794 hl (by decide) rfl (fun ls hl => ?_)
      refine lv_goto (tgt := 898) hx hb dL_law_796 (by decide) ?_
      refine W.widen (k := cA + 100) (n := sA + 4000) (by omega) (by omega) ?_
      exact kk τ_5 z_4 H locs ls ⟨_, _, _, _, _, _, hW.up (by omega), hY2, hB21, hN21, hC2⟩ hlo hz hP hL hS (lv_sub hl [5, 6, 7, 0] rfl)
  · skip
    refine lv_aload_n hx hb dL_law_676 rfl (lv_at hl 1 rfl) ?_
    refine lv_iload hx hb dL_law_677 (lv_at hl 5 rfl) ?_
    refine lv_iconst (v := (nI 3)) hx hb dL_law_679 (by decide) ?_
    refine g_runV (As := [.int (nI iw), .int (nI 3)]) (rest := []) (own := RL) (C := RX7) (T := TX7) (N := 7) 2 hx hb hml hown hts hK hz hP hL hS hlo hl.1 (c_X7_singer l o b S tf tn P C kp z ((nI iw)) ((nI 3))  σ z hW hY.1.1 ) gL_law_X7_singer rfl rfl rfl (by decide +kernel) ⟨Nat.le_of_ble_eq_true rfl, Nat.le_of_ble_eq_true rfl⟩ hW.c0 rfl rfl rfl (Nat.le_of_ble_eq_true rfl) dL_law_680 ⟨(show cA + 0 ≤ 600000 by omega), (show sA + 0 ≤ 7302250 by omega)⟩ (g_kxi0 (fun r_6 τ_6 H locs z_6 hz hp hP hL hS => ?_))
    obtain ⟨hr_6, hW, hz_6, ha_6⟩ := hp
    have hz := hz.trans hz_6
    subst hr_6
    have hmk := cntF_le (markB S iw) (sB S)
    refine g_top (y := (nI (cntF (markB S iw) (sB S)))) (yn_3 hY (by omega)) ?_
    refine lv_istore (lv' := [(11, .int (nI (cntF (markB S iw) (sB S)))), (0, .ref B), (1, .ref o), (2, .int (nI ne)), (4, .int hh), (8, .int (nI jb)), (9, .int (nI iw))]) hx hb dL_law_683 hl (by decide) rfl (fun ls hl => ?_)
    refine lv_aload_n hx hb dL_law_685 rfl (lv_at hl 2 rfl) ?_
    refine lv_iload hx hb dL_law_686 (lv_at hl 6 rfl) ?_
    refine lv_iload hx hb dL_law_688 (lv_at hl 5 rfl) ?_
    refine g_runV (As := [.int (nI iw), .int (nI jb)]) (rest := []) (own := RL) (C := RX7) (T := TX7) (N := 7) 2 hx hb hml hown hts hK hz hP hL hS hlo hl.1 (c_X7_does l o b S tf tn P C kp z ((nI iw)) ((nI jb))  τ_6 z hW hY.1.1 ) gL_law_X7_does rfl rfl rfl (by decide +kernel) ⟨Nat.le_of_ble_eq_true rfl, Nat.le_of_ble_eq_true rfl⟩ hW.c0 rfl rfl rfl (Nat.le_of_ble_eq_true rfl) dL_law_690 ⟨(show cA + 0 ≤ 600000 by omega), (show sA + 0 ≤ 7302250 by omega)⟩ (g_kxi0 (fun r_7 τ_7 H locs z_7 hz hp hP hL hS => ?_))
    obtain ⟨hr_7, hW, hz_7, ha_7⟩ := hp
    have hz := hz.trans hz_7
    subst hr_7
    have hdo := dosQ_lt S iw jb
    refine g_top (y := (nI (dosQ S iw jb))) (yd hY (by omega) (by omega)) ?_
    refine lv_istore (lv' := [(12, .int (nI (dosQ S iw jb))), (11, .int (nI (cntF (markB S iw) (sB S)))), (0, .ref B), (1, .ref o), (2, .int (nI ne)), (4, .int hh), (8, .int (nI jb)), (9, .int (nI iw))]) hx hb dL_law_693 hl (by decide) rfl (fun ls hl => ?_)
    refine lv_iload hx hb dL_law_695 (lv_at hl 5 rfl) ?_
    refine lv_bipush (v := (nI 32)) hx hb dL_law_697 (by decide) ?_
    refine lv_iand hx hb dL_law_699 ?_
    refine lv_if_le (tgt := 707) hx hb dL_law_700 (by decide) (fun c700 => ?_) (fun c700 => ?_)
    · refine lv_iconst (v := (nI 0)) hx hb dL_law_707 (by decide) ?_
      refine lv_istore (lv' := [(13, .int (nI 0)), (12, .int (nI (dosQ S iw jb))), (11, .int (nI (cntF (markB S iw) (sB S)))), (0, .ref B), (1, .ref o), (2, .int (nI ne)), (4, .int hh), (8, .int (nI jb)), (9, .int (nI iw))]) hx hb dL_law_708 hl (by decide) rfl (fun ls hl => ?_)
      refine lv_aload_n hx hb dL_law_710 rfl (lv_at hl 4 rfl) ?_
      refine lv_iload hx hb dL_law_711 (lv_at hl 8 rfl) ?_
      refine lv_iload hx hb dL_law_713 (lv_at hl 7 rfl) ?_
      refine lv_iload hx hb dL_law_715 (lv_at hl 0 rfl) ?_
      refine g_top (y := (bI false)) rfl ?_
      refine g_runV (As := [.int (nI iw), .int (nI jb), .int (bI false)]) (rest := []) (own := RL) (C := RX7) (T := TX7) (N := 7) 3 hx hb hml hown hts hK hz hP hL hS hlo hl.1 (c_X7_mark l o b S tf tn P C kp ((nI iw)) ((nI jb)) false τ_7 z (hW.up (by omega)) hY.1.1) gL_law_X7_mark rfl rfl rfl (by decide +kernel) ⟨Nat.le_of_ble_eq_true rfl, Nat.le_of_ble_eq_true rfl⟩ hW.c0 rfl rfl rfl (Nat.le_of_ble_eq_true rfl) dL_law_717 ⟨(show cA + 17 ≤ 600000 by omega), (show sA + 789 ≤ 7302250 by omega)⟩ (g_kxi (fun r_8 τ_8 H locs z_8 hz hp hP hL hS => ?_))
      obtain ⟨S2, he, hY2, hB2, hN2, hm1, hm0⟩ := a_mk hY (a := false) hiw hjb (by rw [hmb]; decide)
      obtain ⟨hr_8, hW, hzl_8, hzu_8⟩ := wP_yes he hp
      have hC2 := hC.act hY.1.1 (show P ≤ 5 by omega)
      have hB21 : 0 < sB S2 := by omega
      have hN21 : 0 < sN S2 := by omega
      obtain ⟨⟨hB9, hN9, hK9, hR9⟩, -⟩ := id hY2.1
      have hmle := cntF_le (markB S2 iw) (sB S2)
      have hlo : lo ≤ z_8 := Nat.le_trans hlo hzl_8
      subst hr_8
      have hoz_8 := hW.oz
      refine lv_istore (lv' := [(14, .int (nI (cntF (markB S2 iw) (sB S2)))), (13, .int (nI 0)), (12, .int (nI (dosQ S iw jb))), (11, .int (nI (cntF (markB S iw) (sB S)))), (0, .ref B), (1, .ref o), (2, .int (nI ne)), (4, .int hh), (8, .int (nI jb)), (9, .int (nI iw))]) hx hb dL_law_720 hl (by decide) rfl (fun ls hl => ?_)
      refine lv_iload hx hb dL_law_722 (lv_at hl 0 rfl) ?_
      refine lv_bipush (v := (-5)) hx hb dL_law_724 (by decide) ?_
      refine lv_icmp_ne (tgt := 759) hx hb dL_law_726 (by decide) (fun c726 => ?_) (fun c726 => (absurd c726 (g_neg (a := cntF (markB S2 iw) (sB S2)) (k := 5) (by omega) (by decide))))
      refine lv_iload hx hb dL_law_759 (lv_at hl 0 rfl) ?_
      refine lv_iload hx hb dL_law_761 (lv_at hl 3 rfl) ?_
      refine lv_iload hx hb dL_law_763 (lv_at hl 1 rfl) ?_
      refine lv_if_eq (tgt := 772) hx hb dL_law_765 (by decide) (fun c765 => ?_) (fun c765 => by first | exact absurd (by decide) c765 | exact absurd c765 (by decide))
      refine lv_iconst (v := (-1)) hx hb dL_law_772 (by decide) ?_
      refine lv_iadd hx hb dL_law_773 ?_
      refine g_top (y := (nI (cntF (markB S2 iw) (sB S2)))) (by rw [← hm0 rfl]; exact pk_m1 _) ?_
      refine lv_icmp_ne (tgt := 793) hx hb dL_law_774 (by decide) (fun c774 => absurd rfl c774) (fun c774 => ?_)
      refine lv_aload_n hx hb dL_law_777 rfl (lv_at hl 5 rfl) ?_
      refine lv_iload hx hb dL_law_778 (lv_at hl 9 rfl) ?_
      refine lv_iconst (v := (nI 3)) hx hb dL_law_780 (by decide) ?_
      refine g_runV (As := [.int (nI iw), .int (nI 3)]) (rest := []) (own := RL) (C := RX7) (T := TX7) (N := 7) 2 hx hb hml hown hts hK hz hP hL hS hlo hl.1 (c_X7_singer l o b S2 tf tn (recP P) (recS C P S) kp z_8 ((nI iw)) ((nI 3))  τ_8 z_8 hW hY2.1.1 ) gL_law_X7_singer rfl rfl rfl (by decide +kernel) ⟨Nat.le_of_ble_eq_true rfl, Nat.le_of_ble_eq_true rfl⟩ hW.c0 rfl rfl rfl (Nat.le_of_ble_eq_true rfl) dL_law_781 ⟨(show cA + 17 + 0 ≤ 600000 by omega), (show sA + 789 + 0 ≤ 7302250 by omega)⟩ (g_kxi0 (fun r_9 τ_9 H locs z_9 hz hp hP hL hS => ?_))
      obtain ⟨hr_9, hW, hz_9, ha_9⟩ := hp
      have hz := hz.trans hz_9
      subst hr_9
      have hmk := cntF_le (markB S2 iw) (sB S2)
      refine g_top (y := (nI (cntF (markB S2 iw) (sB S2)))) (yn_3 hY2 (by omega)) ?_
      refine lv_iload hx hb dL_law_784 (lv_at hl 0 rfl) ?_
      refine lv_icmp_ne (tgt := 793) hx hb dL_law_786 (by decide) (fun c786 => absurd rfl c786) (fun c786 => ?_)
      refine lv_iconst (v := (nI 1)) hx hb dL_law_789 (by decide) ?_
      refine lv_goto (tgt := 794) hx hb dL_law_790 (by decide) ?_
      refine lv_istore (lv' := [(10, .int (nI 1)), (14, .int (nI (cntF (markB S2 iw) (sB S2)))), (13, .int (nI 0)), (12, .int (nI (dosQ S iw jb))), (11, .int (nI (cntF (markB S iw) (sB S)))), (0, .ref B), (1, .ref o), (2, .int (nI ne)), (4, .int hh), (8, .int (nI jb)), (9, .int (nI iw))]) hx hb dL_law_794 hl (by decide) rfl (fun ls hl => ?_)
      refine lv_goto (tgt := 898) hx hb dL_law_796 (by decide) ?_
      refine W.widen (k := cA + 100) (n := sA + 4000) (by omega) (by omega) ?_
      exact kk τ_9 z_8 H locs ls ⟨_, _, _, _, _, _, hW.up (by omega), hY2, hB21, hN21, hC2⟩ hlo hz hP hL hS (lv_sub hl [5, 6, 7, 0] rfl)
    · refine lv_iconst (v := (nI 1)) hx hb dL_law_703 (by decide) ?_
      refine lv_goto (tgt := 708) hx hb dL_law_704 (by decide) ?_
      refine lv_istore (lv' := [(13, .int (nI 1)), (12, .int (nI (dosQ S iw jb))), (11, .int (nI (cntF (markB S iw) (sB S)))), (0, .ref B), (1, .ref o), (2, .int (nI ne)), (4, .int hh), (8, .int (nI jb)), (9, .int (nI iw))]) hx hb dL_law_708 hl (by decide) rfl (fun ls hl => ?_)
      refine lv_aload_n hx hb dL_law_710 rfl (lv_at hl 4 rfl) ?_
      refine lv_iload hx hb dL_law_711 (lv_at hl 8 rfl) ?_
      refine lv_iload hx hb dL_law_713 (lv_at hl 7 rfl) ?_
      refine lv_iload hx hb dL_law_715 (lv_at hl 0 rfl) ?_
      refine g_top (y := (bI true)) rfl ?_
      refine g_runV (As := [.int (nI iw), .int (nI jb), .int (bI true)]) (rest := []) (own := RL) (C := RX7) (T := TX7) (N := 7) 3 hx hb hml hown hts hK hz hP hL hS hlo hl.1 (c_X7_mark l o b S tf tn P C kp ((nI iw)) ((nI jb)) true τ_7 z (hW.up (by omega)) hY.1.1) gL_law_X7_mark rfl rfl rfl (by decide +kernel) ⟨Nat.le_of_ble_eq_true rfl, Nat.le_of_ble_eq_true rfl⟩ hW.c0 rfl rfl rfl (Nat.le_of_ble_eq_true rfl) dL_law_717 ⟨(show cA + 17 ≤ 600000 by omega), (show sA + 789 ≤ 7302250 by omega)⟩ (g_kxi (fun r_10 τ_10 H locs z_10 hz hp hP hL hS => ?_))
      obtain ⟨hr_10, hW, hzl_10, hzu_10⟩ := wP_no (a_mn hY hiw hjb hmb) hp
      have hlo : lo ≤ z_10 := Nat.le_trans hlo hzl_10
      subst hr_10
      have hoz_10 := hW.oz
      refine lv_istore (lv' := [(14, .int (-5)), (13, .int (nI 1)), (12, .int (nI (dosQ S iw jb))), (11, .int (nI (cntF (markB S iw) (sB S)))), (0, .ref B), (1, .ref o), (2, .int (nI ne)), (4, .int hh), (8, .int (nI jb)), (9, .int (nI iw))]) hx hb dL_law_720 hl (by decide) rfl (fun ls hl => ?_)
      refine lv_iload hx hb dL_law_722 (lv_at hl 0 rfl) ?_
      refine lv_bipush (v := (-5)) hx hb dL_law_724 (by decide) ?_
      refine lv_icmp_ne (tgt := 759) hx hb dL_law_726 (by decide) (fun c726 => by first | exact absurd (by decide) c726 | exact absurd c726 (by decide)) (fun c726 => ?_)
      refine lv_iload hx hb dL_law_729 (lv_at hl 2 rfl) ?_
      refine lv_iconst (v := (nI 3)) hx hb dL_law_731 (by decide) ?_
      refine g_icmp_eq (tgt := 751) (a := dosQ S iw jb) (b := 3) hx hb (by omega) (by omega) dL_law_732 (by decide) (fun c732 => ?_) (fun c732 => ?_)
      · refine lv_iconst (v := (nI 1)) hx hb dL_law_751 (by decide) ?_
        refine lv_goto (tgt := 794) hx hb dL_law_752 (by decide) ?_
        refine lv_istore (lv' := [(10, .int (nI 1)), (14, .int (-5)), (13, .int (nI 1)), (12, .int (nI (dosQ S iw jb))), (11, .int (nI (cntF (markB S iw) (sB S)))), (0, .ref B), (1, .ref o), (2, .int (nI ne)), (4, .int hh), (8, .int (nI jb)), (9, .int (nI iw))]) hx hb dL_law_794 hl (by decide) rfl (fun ls hl => ?_)
        refine lv_goto (tgt := 898) hx hb dL_law_796 (by decide) ?_
        refine W.widen (k := cA + 100) (n := sA + 4000) (by omega) (by omega) ?_
        exact kk τ_10 z_10 H locs ls ⟨_, _, _, _, _, _, hW.up (by omega), hY, hB1, hN1, hC⟩ hlo hz hP hL hS (lv_sub hl [5, 6, 7, 0] rfl)
      · refine lv_iload hx hb dL_law_735 (lv_at hl 2 rfl) ?_
        refine lv_iconst (v := (nI 1)) hx hb dL_law_737 (by decide) ?_
        refine g_icmp_ne (tgt := 745) (a := dosQ S iw jb) (b := 1) hx hb (by omega) (by omega) dL_law_738 (by decide) (fun c738 => absurd c738 (fun q => q (do_mt hmb c732))) (fun c738 => ?_)
        refine lv_iconst (v := (nI 1)) hx hb dL_law_741 (by decide) ?_
        refine lv_goto (tgt := 746) hx hb dL_law_742 (by decide) ?_
        refine lv_iload hx hb dL_law_746 (lv_at hl 1 rfl) ?_
        refine lv_icmp_ne (tgt := 755) hx hb dL_law_748 (by decide) (fun c748 => by first | exact absurd (by decide) c748 | exact absurd c748 (by decide)) (fun c748 => ?_)
        refine lv_iconst (v := (nI 1)) hx hb dL_law_751 (by decide) ?_
        refine lv_goto (tgt := 794) hx hb dL_law_752 (by decide) ?_
        refine lv_istore (lv' := [(10, .int (nI 1)), (14, .int (-5)), (13, .int (nI 1)), (12, .int (nI (dosQ S iw jb))), (11, .int (nI (cntF (markB S iw) (sB S)))), (0, .ref B), (1, .ref o), (2, .int (nI ne)), (4, .int hh), (8, .int (nI jb)), (9, .int (nI iw))]) hx hb dL_law_794 hl (by decide) rfl (fun ls hl => ?_)
        refine lv_goto (tgt := 898) hx hb dL_law_796 (by decide) ?_
        refine W.widen (k := cA + 100) (n := sA + 4000) (by omega) (by omega) ?_
        exact kk τ_10 z_10 H locs ls ⟨_, _, _, _, _, _, hW.up (by omega), hY, hB1, hN1, hC⟩ hlo hz hP hL hS (lv_sub hl [5, 6, 7, 0] rfl)

set_option maxHeartbeats 4000000 in
set_option maxRecDepth 100000 in
theorem law_c10 {p : Program} {l : Launch} {e : Env} {s : State} {m : MethodId} {below : List Frame} {meth : Method} {c : Code} {Q : State → Prop} {D : va_G} {ka : Nat → ClassId} {B o b lo : Nat} {ne cA sA : Nat} (hx : p.tables.exec = Jvm.exec) (hb : c.code = code) (hml : c.maxLocals = 15) (hown : s.vm.findClass RL = some m.cls) (hts : ∀ w ∈ wsL_law, w.before #[Value.ref B] s = true) (hK : gK D ka s) (hcA : cA ≤ 500000) (hsA : sA ≤ 6000000) {σ : gS} {z : Nat} {H : Heap} {locs : List Loc} {ls : Array Slot} {S : sS} {tf : Nat → Int32} {tn P : Nat} {C : Nat → sS} {kp : Nat → Bool} (hW : Wo σ o b S tf tn P C kp z) (hY : okY S) (hB1 : 0 < sB S) (hN1 : 0 < sN S) (hC : okC P C kp) (hlo : lo ≤ z) (hz : H.size = z) (hP : gH D ka σ H) (hL : gL lo σ) (hS : va_S (gA lo) s.heap H locs) {gg hh : Int32} {jb iw : Nat} (hjb : jb < sB S) (hiw : iw < sN S)  (hl : lv_has ls 15 [(0, .ref B), (1, .ref o), (2, .int (nI ne)), (4, .int hh)]) (kk : ∀ (τ : gS) (z1 : Nat) (H1 : Heap) (locs1 : List Loc) (ls1 : Array Slot), LwJ τ o b z1 → lo ≤ z1 → H1.size = z1 → gH D ka τ H1 → gL lo τ → va_S (gA lo) s.heap H1 locs1 → lv_has ls1 15 [(0, .ref B), (1, .ref o), (2, .int (nI ne)), (10, .int (nI 1))] → W p l e room_1 s m #[Value.ref B] below meth c H1 locs1 (cA + 100) (sA + 4000) Q (F0 m 898 ls1 [])) : W p l e room_1 s m #[Value.ref B] below meth c H locs (cA) (sA) Q (F0 m 806 ls []) := by
  have hoz := hW.oz
  obtain ⟨⟨hB, hN, hKs, hRs⟩, -⟩ := id hY.1
  refine lv_aload_n hx hb dL_law_806 rfl (lv_at hl 1 rfl) ?_
  refine lv_bipush (v := (nI 12)) hx hb dL_law_807 (by decide) ?_
  refine g_runV (As := [.int (nI 12)]) (rest := []) (own := RL) (C := RX7) (T := TX7) (N := 7) 1 hx hb hml hown hts hK hz hP hL hS hlo hl.1 (c_X7_count l o b S tf tn P C kp z ((nI 12))  σ z hW hY.1.1 ) gL_law_X7_count rfl rfl rfl (by decide +kernel) ⟨Nat.le_of_ble_eq_true rfl, Nat.le_of_ble_eq_true rfl⟩ hW.c0 rfl rfl rfl (Nat.le_of_ble_eq_true rfl) dL_law_809 ⟨(show cA + 0 ≤ 600000 by omega), (show sA + 0 ≤ 7302250 by omega)⟩ (g_kxi0 (fun r_1 τ_1 H locs z_1 hz hp hP hL hS => ?_))
  obtain ⟨hr_1, hW, hz_1, ha_1⟩ := hp
  have hz := hz.trans hz_1
  subst hr_1
  refine g_top (y := (nI (sR S))) yc_12 ?_
  refine lv_istore (lv' := [(11, .int (nI (sR S))), (0, .ref B), (1, .ref o), (2, .int (nI ne)), (4, .int hh)]) hx hb dL_law_812 hl (by decide) rfl (fun ls hl => ?_)
  refine lv_aload_n hx hb dL_law_814 rfl (lv_at hl 2 rfl) ?_
  refine lv_iconst (v := (nI 1)) hx hb dL_law_815 (by decide) ?_
  refine lv_iload hx hb dL_law_816 (lv_at hl 4 rfl) ?_
  refine lv_bipush (v := (nI 8)) hx hb dL_law_818 (by decide) ?_
  refine g_runS (As := [.int hh, .int (nI 8)]) (rest := [.int (nI 1), .ref o]) (own := RL) 2 hx hb hml hown hts hK hz hP hL hS hlo hl.1 (c_L_low l hh 8 τ_1 z (by omega) (by omega)) gL_law_L_low rfl rfl rfl (by decide +kernel) ⟨Nat.le_of_ble_eq_true rfl, Nat.le_of_ble_eq_true rfl⟩ rfl rfl (Nat.le_of_ble_eq_true rfl) dL_law_820 ⟨(show cA + 0 ≤ 600000 by omega), (show sA + 0 ≤ 7302250 by omega)⟩ (g_ki0 (fun H locs hz hP hL hS => ?_))
  obtain ⟨q_2, hq_2⟩ : ∃ q : Nat, q = lowN hh 8 := ⟨_, rfl⟩
  have hql_2 : q_2 < 8 := by rw [hq_2]; exact lowN_lt _ (by omega)
  refine g_top (y := (nI q_2)) (by rw [hq_2]) ?_
  refine lv_iadd hx hb dL_law_823 ?_
  refine g_top (nI_add 1 q_2) ?_
  refine g_runV (As := [.int (nI (1 + q_2))]) (rest := []) (own := RL) (C := RX7) (T := TX7) (N := 7) 1 hx hb hml hown hts hK hz hP hL hS hlo hl.1 (c_X7_setReserve l o b S tf tn P C kp ((nI (1 + q_2))) τ_1 z (hW.up (by omega)) hY.1.1) gL_law_X7_setReserve rfl rfl rfl (by decide +kernel) ⟨Nat.le_of_ble_eq_true rfl, Nat.le_of_ble_eq_true rfl⟩ hW.c0 rfl rfl rfl (Nat.le_of_ble_eq_true rfl) dL_law_824 ⟨(show cA + 17 ≤ 600000 by omega), (show sA + 789 ≤ 7302250 by omega)⟩ (g_kxi (fun r_3 τ_3 H locs z_3 hz hp hP hL hS => ?_))
  obtain ⟨S2, he, hY2, hB2, hN2⟩ := a_res hY (v := 1 + q_2) ⟨by omega, by omega⟩
  obtain ⟨hr_3, hW, hzl_3, hzu_3⟩ := wP_yes he hp
  have hC2 := hC.act hY.1.1 (show P ≤ 5 by omega)
  have hB21 : 0 < sB S2 := by omega
  have hN21 : 0 < sN S2 := by omega
  obtain ⟨⟨hB9, hN9, hK9, hR9⟩, -⟩ := id hY2.1
  have hlo : lo ≤ z_3 := Nat.le_trans hlo hzl_3
  subst hr_3
  have hoz_3 := hW.oz
  refine lv_iload hx hb dL_law_827 (lv_at hl 0 rfl) ?_
  refine lv_icmp_ne (tgt := 843) hx hb dL_law_829 (by decide) (fun c829 => absurd rfl c829) (fun c829 => ?_)
  refine lv_aload_n hx hb dL_law_832 rfl (lv_at hl 2 rfl) ?_
  refine g_runS (As := [.ref o]) (rest := []) (own := RL) 1 hx hb hml hown hts hK hz hP hL hS hlo hl.1 (c_L_makes l o b S2 tf tn (recP P) (recS C P S) kp z_3  τ_3 z_3 hW hY2 (by omega) hC2 hB21) gL_law_L_makes rfl rfl rfl (by decide +kernel) ⟨Nat.le_of_ble_eq_true rfl, Nat.le_of_ble_eq_true rfl⟩ rfl rfl (Nat.le_of_ble_eq_true rfl) dL_law_833 ⟨(show cA + 17 + 17 ≤ 600000 by omega), (show sA + 789 + 789 ≤ 7302250 by omega)⟩ (g_kxi (fun r_4 τ_4 H locs z_4 hz hp hP hL hS => ?_))
  obtain ⟨hr_4, S3, P3, C3, hW, hY3, hB3, hN3, hC3, hzl_4, hzu_4⟩ := hp
  have hlo : lo ≤ z_4 := Nat.le_trans hlo hzl_4
  have hB31 : 0 < sB S3 := by omega
  have hN31 : 0 < sN S3 := by omega
  subst hr_4
  refine lv_if_eq (tgt := 843) hx hb dL_law_836 (by decide) (fun c836 => by first | exact absurd (by decide) c836 | exact absurd c836 (by decide)) (fun c836 => ?_)
  refine lv_iconst (v := (nI 1)) hx hb dL_law_839 (by decide) ?_
  refine lv_goto (tgt := 844) hx hb dL_law_840 (by decide) ?_
  refine lv_istore (lv' := [(10, .int (nI 1)), (11, .int (nI (sR S))), (0, .ref B), (1, .ref o), (2, .int (nI ne)), (4, .int hh)]) hx hb dL_law_844 hl (by decide) rfl (fun ls hl => ?_)
  refine lv_goto (tgt := 898) hx hb dL_law_846 (by decide) ?_
  refine W.widen (k := cA + 100) (n := sA + 4000) (by omega) (by omega) ?_
  exact kk τ_4 z_4 H locs ls ⟨_, _, _, _, _, _, hW.up (by omega), hY3, hB31, hN31, hC3⟩ hlo hz hP hL hS (lv_sub hl [2, 3, 4, 0] rfl)

set_option maxHeartbeats 4000000 in
set_option maxRecDepth 100000 in
theorem law_c11 {p : Program} {l : Launch} {e : Env} {s : State} {m : MethodId} {below : List Frame} {meth : Method} {c : Code} {Q : State → Prop} {D : va_G} {ka : Nat → ClassId} {B o b lo : Nat} {ne cA sA : Nat} (hx : p.tables.exec = Jvm.exec) (hb : c.code = code) (hml : c.maxLocals = 15) (hown : s.vm.findClass RL = some m.cls) (hts : ∀ w ∈ wsL_law, w.before #[Value.ref B] s = true) (hK : gK D ka s) (hcA : cA ≤ 500000) (hsA : sA ≤ 6000000) {σ : gS} {z : Nat} {H : Heap} {locs : List Loc} {ls : Array Slot} {S : sS} {tf : Nat → Int32} {tn P : Nat} {C : Nat → sS} {kp : Nat → Bool} (hW : Wo σ o b S tf tn P C kp z) (hY : okY S) (hB1 : 0 < sB S) (hN1 : 0 < sN S) (hC : okC P C kp) (hlo : lo ≤ z) (hz : H.size = z) (hP : gH D ka σ H) (hL : gL lo σ) (hS : va_S (gA lo) s.heap H locs) {gg hh : Int32} {jb iw : Nat} (hjb : jb < sB S) (hiw : iw < sN S)  (hl : lv_has ls 15 [(0, .ref B), (1, .ref o), (2, .int (nI ne))]) (kk : ∀ (τ : gS) (z1 : Nat) (H1 : Heap) (locs1 : List Loc) (ls1 : Array Slot), LwJ τ o b z1 → lo ≤ z1 → H1.size = z1 → gH D ka τ H1 → gL lo τ → va_S (gA lo) s.heap H1 locs1 → lv_has ls1 15 [(0, .ref B), (1, .ref o), (2, .int (nI ne)), (10, .int (nI 1))] → W p l e room_1 s m #[Value.ref B] below meth c H1 locs1 (cA + 100) (sA + 4000) Q (F0 m 898 ls1 [])) : W p l e room_1 s m #[Value.ref B] below meth c H locs (cA) (sA) Q (F0 m 856 ls []) := by
  have hoz := hW.oz
  obtain ⟨⟨hB, hN, hKs, hRs⟩, -⟩ := id hY.1
  refine lv_aload_n hx hb dL_law_856 rfl (lv_at hl 1 rfl) ?_
  refine g_runS (As := [.ref o]) (rest := []) (own := RL) 1 hx hb hml hown hts hK hz hP hL hS hlo hl.1 (c_L_makes l o b S tf tn P C kp z  σ z hW hY (by omega) hC hB1) gL_law_L_makes rfl rfl rfl (by decide +kernel) ⟨Nat.le_of_ble_eq_true rfl, Nat.le_of_ble_eq_true rfl⟩ rfl rfl (Nat.le_of_ble_eq_true rfl) dL_law_857 ⟨(show cA + 17 ≤ 600000 by omega), (show sA + 789 ≤ 7302250 by omega)⟩ (g_kxi (fun r_1 τ_1 H locs z_1 hz hp hP hL hS => ?_))
  obtain ⟨hr_1, S3, P3, C3, hW, hY3, hB3, hN3, hC3, hzl_1, hzu_1⟩ := hp
  have hlo : lo ≤ z_1 := Nat.le_trans hlo hzl_1
  have hB31 : 0 < sB S3 := by omega
  have hN31 : 0 < sN S3 := by omega
  subst hr_1
  refine lv_istore (lv' := [(10, .int (nI 1)), (0, .ref B), (1, .ref o), (2, .int (nI ne))]) hx hb dL_law_860 hl (by decide) rfl (fun ls hl => ?_)
  refine lv_goto (tgt := 898) hx hb dL_law_862 (by decide) ?_
  refine W.widen (k := cA + 100) (n := sA + 4000) (by omega) (by omega) ?_
  exact kk τ_1 z_1 H locs ls ⟨_, _, _, _, _, _, hW.up (by omega), hY3, hB31, hN31, hC3⟩ hlo hz hP hL hS (lv_sub hl [1, 2, 3, 0] rfl)

set_option maxHeartbeats 4000000 in
set_option maxRecDepth 100000 in
theorem law_c12 {p : Program} {l : Launch} {e : Env} {s : State} {m : MethodId} {below : List Frame} {meth : Method} {c : Code} {Q : State → Prop} {D : va_G} {ka : Nat → ClassId} {B o b lo : Nat} {ne cA sA : Nat} (hx : p.tables.exec = Jvm.exec) (hb : c.code = code) (hml : c.maxLocals = 15) (hown : s.vm.findClass RL = some m.cls) (hts : ∀ w ∈ wsL_law, w.before #[Value.ref B] s = true) (hK : gK D ka s) (hcA : cA ≤ 500000) (hsA : sA ≤ 6000000) {σ : gS} {z : Nat} {H : Heap} {locs : List Loc} {ls : Array Slot} {S : sS} {tf : Nat → Int32} {tn P : Nat} {C : Nat → sS} {kp : Nat → Bool} (hW : Wo σ o b S tf tn P C kp z) (hY : okY S) (hB1 : 0 < sB S) (hN1 : 0 < sN S) (hC : okC P C kp) (hlo : lo ≤ z) (hz : H.size = z) (hP : gH D ka σ H) (hL : gL lo σ) (hS : va_S (gA lo) s.heap H locs) {gg hh : Int32} {jb iw : Nat} (hjb : jb < sB S) (hiw : iw < sN S)  (hl : lv_has ls 15 [(0, .ref B), (1, .ref o), (2, .int (nI ne)), (9, .int (nI iw))]) (kk : ∀ (τ : gS) (z1 : Nat) (H1 : Heap) (locs1 : List Loc) (ls1 : Array Slot), LwJ τ o b z1 → lo ≤ z1 → H1.size = z1 → gH D ka τ H1 → gL lo τ → va_S (gA lo) s.heap H1 locs1 → lv_has ls1 15 [(0, .ref B), (1, .ref o), (2, .int (nI ne)), (10, .int (nI 1))] → W p l e room_1 s m #[Value.ref B] below meth c H1 locs1 (cA + 100) (sA + 4000) Q (F0 m 898 ls1 [])) : W p l e room_1 s m #[Value.ref B] below meth c H locs (cA) (sA) Q (F0 m 872 ls []) := by
  have hoz := hW.oz
  obtain ⟨⟨hB, hN, hKs, hRs⟩, -⟩ := id hY.1
  refine lv_aload_n hx hb dL_law_872 rfl (lv_at hl 1 rfl) ?_
  refine lv_iload hx hb dL_law_873 (lv_at hl 3 rfl) ?_
  refine g_runS (As := [.ref o, .int (nI iw)]) (rest := []) (own := RL) 2 hx hb hml hown hts hK hz hP hL hS hlo hl.1 (c_L_without l o b S tf tn P C kp z iw σ z hW hY (by omega) hC hiw) gL_law_L_without rfl rfl rfl (by decide +kernel) ⟨Nat.le_of_ble_eq_true rfl, Nat.le_of_ble_eq_true rfl⟩ rfl rfl (Nat.le_of_ble_eq_true rfl) dL_law_875 ⟨(show cA + 17 ≤ 600000 by omega), (show sA + 789 ≤ 7302250 by omega)⟩ (g_kxi (fun r_1 τ_1 H locs z_1 hz hp hP hL hS => ?_))
  obtain ⟨hr_1, P3, C3, hW, hC3, hzl_1, hzu_1⟩ := hp
  have hlo : lo ≤ z_1 := Nat.le_trans hlo hzl_1
  subst hr_1
  refine lv_istore (lv' := [(10, .int (nI 1)), (0, .ref B), (1, .ref o), (2, .int (nI ne)), (9, .int (nI iw))]) hx hb dL_law_878 hl (by decide) rfl (fun ls hl => ?_)
  refine lv_goto (tgt := 898) hx hb dL_law_880 (by decide) ?_
  refine W.widen (k := cA + 100) (n := sA + 4000) (by omega) (by omega) ?_
  exact kk τ_1 z_1 H locs ls ⟨_, _, _, _, _, _, hW.up (by omega), hY, hB1, hN1, hC3⟩ hlo hz hP hL hS (lv_sub hl [1, 2, 3, 0] rfl)

set_option maxHeartbeats 4000000 in
set_option maxRecDepth 100000 in
theorem law_c13 {p : Program} {l : Launch} {e : Env} {s : State} {m : MethodId} {below : List Frame} {meth : Method} {c : Code} {Q : State → Prop} {D : va_G} {ka : Nat → ClassId} {B o b lo : Nat} {ne cA sA : Nat} (hx : p.tables.exec = Jvm.exec) (hb : c.code = code) (hml : c.maxLocals = 15) (hown : s.vm.findClass RL = some m.cls) (hts : ∀ w ∈ wsL_law, w.before #[Value.ref B] s = true) (hK : gK D ka s) (hcA : cA ≤ 500000) (hsA : sA ≤ 6000000) {σ : gS} {z : Nat} {H : Heap} {locs : List Loc} {ls : Array Slot} {S : sS} {tf : Nat → Int32} {tn P : Nat} {C : Nat → sS} {kp : Nat → Bool} (hW : Wo σ o b S tf tn P C kp z) (hY : okY S) (hB1 : 0 < sB S) (hN1 : 0 < sN S) (hC : okC P C kp) (hlo : lo ≤ z) (hz : H.size = z) (hP : gH D ka σ H) (hL : gL lo σ) (hS : va_S (gA lo) s.heap H locs) {gg hh : Int32} {jb iw : Nat} (hjb : jb < sB S) (hiw : iw < sN S)  (hl : lv_has ls 15 [(0, .ref B), (1, .ref o), (2, .int (nI ne)), (9, .int (nI iw))]) (kk : ∀ (τ : gS) (z1 : Nat) (H1 : Heap) (locs1 : List Loc) (ls1 : Array Slot), LwJ τ o b z1 → lo ≤ z1 → H1.size = z1 → gH D ka τ H1 → gL lo τ → va_S (gA lo) s.heap H1 locs1 → lv_has ls1 15 [(0, .ref B), (1, .ref o), (2, .int (nI ne)), (10, .int (nI 1))] → W p l e room_1 s m #[Value.ref B] below meth c H1 locs1 (cA + 100) (sA + 4000) Q (F0 m 898 ls1 [])) : W p l e room_1 s m #[Value.ref B] below meth c H locs (cA) (sA) Q (F0 m 890 ls []) := by
  have hoz := hW.oz
  obtain ⟨⟨hB, hN, hKs, hRs⟩, -⟩ := id hY.1
  refine lv_aload_n hx hb dL_law_890 rfl (lv_at hl 1 rfl) ?_
  refine lv_iload hx hb dL_law_891 (lv_at hl 3 rfl) ?_
  refine g_runS (As := [.ref o, .int (nI iw)]) (rest := []) (own := RL) 2 hx hb hml hown hts hK hz hP hL hS hlo hl.1 (c_L_breaths l o b S tf tn P C kp z iw σ z hW hY (by omega) hiw) gL_law_L_breaths rfl rfl rfl (by decide +kernel) ⟨Nat.le_of_ble_eq_true rfl, Nat.le_of_ble_eq_true rfl⟩ rfl rfl (Nat.le_of_ble_eq_true rfl) dL_law_893 ⟨(show cA + 0 ≤ 600000 by omega), (show sA + 0 ≤ 7302250 by omega)⟩ (g_kxi0 (fun r_1 τ_1 H locs z_1 hz hp hP hL hS => ?_))
  obtain ⟨hr_1, hW, hz_1, ha_1⟩ := hp
  have hz := hz.trans hz_1
  subst hr_1
  refine lv_istore (lv' := [(10, .int (nI 1)), (0, .ref B), (1, .ref o), (2, .int (nI ne)), (9, .int (nI iw))]) hx hb dL_law_896 hl (by decide) rfl (fun ls hl => ?_)
  refine W.widen (k := cA + 100) (n := sA + 4000) (by omega) (by omega) ?_
  exact kk τ_1 z H locs ls ⟨_, _, _, _, _, _, hW.up (by omega), hY, hB1, hN1, hC⟩ hlo hz hP hL hS (lv_sub hl [1, 2, 3, 0] rfl)
