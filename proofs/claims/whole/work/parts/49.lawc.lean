/-! the law: call by call -/
set_option maxHeartbeats 4000000 in
set_option maxRecDepth 100000 in
theorem law_c0 {p : Program} {l : Launch} {e : Env} {s : State} {m : MethodId} {below : List Frame} {meth : Method} {c : Code} {Q : State → Prop} {D : va_G} {ka : Nat → ClassId} {B L o mo b kc : Nat} {xs : Nat → Int32} (hx : p.tables.exec = Jvm.exec) (hb : c.code = code) (hml : c.maxLocals = 4) (hown : s.vm.findClass RL = some m.cls) (hts : ∀ w ∈ wsL_law, w.before #[Value.ref B] s = true) (hK : gK D ka s) (hX : va_X B L xs s s.heap) (hBl : B < s.heap.size) (hL2 : L ≤ 2048) (hk : 4 * kc + 4 ≤ L) (hmo : mo = o + 39) (hbo : o + 55 ≤ b) {σ : gS} {z : Nat} {H : Heap} {locs : List Loc} {ls : Array Slot} (hI : LwI σ o mo b z) (hlo : s.heap.size ≤ z) (hz : H.size = z) (hP : gH D ka σ H) (hL : gL s.heap.size σ) (hS : va_S (gA s.heap.size) s.heap H locs) (hl : lv_has ls 4 [(0, .ref B), (1, .ref o), (2, .ref mo), (3, .int (nI (4 * kc)))]) (kk : ∀ (τ : gS) (z1 : Nat) (H1 : Heap) (locs1 : List Loc), LwI τ o mo b z1 → s.heap.size ≤ z1 → H1.size = z1 → gH D ka τ H1 → gL s.heap.size τ → va_S (gA s.heap.size) s.heap H1 locs1 → W p l e room_1 s m #[Value.ref B] below meth c H1 locs1 (100 + 17 * kc + 17) (12000 + 789 * kc + 789) Q (F0 m 840 ls [])) : W p l e room_1 s m #[Value.ref B] below meth c H locs (100 + 17 * kc) (12000 + 789 * kc) Q (F0 m 144 ls []) := by
  have hbA : ¬ gA s.heap.size B := Nat.not_le.mpr hBl
  obtain ⟨S, tf, tn, P, C, kp, hW, hM, hA⟩ := hI
  obtain ⟨hP5, htn⟩ := hM.p5
  obtain ⟨fo, ho0⟩ := hW.c0
  refine lv_aload_n hx hb dL_law_144 rfl (lv_at hl 1 rfl) ?_
  refine lv_aload_n hx hb dL_law_145 rfl (lv_at hl 0 rfl) ?_
  refine lv_iload_n hx hb dL_law_146 rfl (lv_at hl 3 rfl) ?_
  refine lv_iconst (v := (nI 1)) hx hb dL_law_147 (by decide) ?_
  refine lv_iadd hx hb dL_law_148 ?_
  refine g_top (nI_add (4 * kc) 1) ?_
  refine va_sld (i := nI ((4 * kc) + 1)) hx hb hX hBl hbA hS (vp_in_nI (by omega) (by omega)) dL_law_149 ?_
  rw [nI_clamp (n := (4 * kc) + 1) (by omega)]
  refine lv_i2c (v := ((xs ((4 * kc) + 1)).toUInt32 % 65536).toInt32) hx hb dL_law_150 rfl ?_
  refine g_runV (As := [.int (((xs ((4 * kc) + 1)).toUInt32 % 65536).toInt32)]) (rest := []) (own := RL) (C := RX7) (T := TX7) (N := 7) 1 hx hb hml hown hts hK hz hP hL hS hlo hl.1 (c_X7_type l o b S tf tn P C kp ((((xs ((4 * kc) + 1)).toUInt32 % 65536).toInt32)) σ z hW hA.ok) gL_law_X7_type rfl rfl rfl (by decide +kernel) ⟨Nat.le_of_ble_eq_true rfl, Nat.le_of_ble_eq_true rfl⟩ ho0 rfl rfl rfl (Nat.le_of_ble_eq_true rfl) dL_law_151 ⟨(show _ ≤ 600000 by omega), (show _ ≤ 7302250 by omega)⟩ (g_kxi (fun r1 τ1 H locs z1 hz hp hP hL hS => ?_))
  have hlo : s.heap.size ≤ z1 := Nat.le_trans hlo hp.2.2.1
  have hM1 := lw_me hM hp.2.2.2.2 hmo hbo
  obtain ⟨fm, hm0⟩ := hM1.c0
  refine lv_aload_n hx hb dL_law_154 rfl (lv_at hl 2 rfl) ?_
  refine lv_aload_n hx hb dL_law_155 rfl (lv_at hl 0 rfl) ?_
  refine lv_iload_n hx hb dL_law_156 rfl (lv_at hl 3 rfl) ?_
  refine lv_iconst (v := (nI 1)) hx hb dL_law_157 (by decide) ?_
  refine lv_iadd hx hb dL_law_158 ?_
  refine g_top (nI_add (4 * kc) 1) ?_
  refine va_sld (i := nI ((4 * kc) + 1)) hx hb hX hBl hbA hS (vp_in_nI (by omega) (by omega)) dL_law_159 ?_
  rw [nI_clamp (n := (4 * kc) + 1) (by omega)]
  refine lv_i2c (v := ((xs ((4 * kc) + 1)).toUInt32 % 65536).toInt32) hx hb dL_law_160 rfl ?_
  refine g_runV (As := [.int (((xs ((4 * kc) + 1)).toUInt32 % 65536).toInt32)]) (rest := [.int r1]) (own := RL) (C := RX8) (T := TX8) (N := 20) 1 hx hb hml hown hts hK hz hP hL hS hlo hl.1 (c_X8_type l mo S tf tn P C kp ((((xs ((4 * kc) + 1)).toUInt32 % 65536).toInt32)) τ1 z1 hM1 hA.ok hA.okC (char_i _)) gL_law_X8_type rfl rfl rfl (by decide +kernel) ⟨Nat.le_of_ble_eq_true rfl, Nat.le_of_ble_eq_true rfl⟩ hm0 rfl rfl rfl (Nat.le_of_ble_eq_true rfl) dL_law_161 ⟨(show _ ≤ 600000 by omega), (show _ ≤ 7302250 by omega)⟩ (g_kxi0 (fun r2 τ2 H locs z2 hz hp2 hP hL hS => ?_))
  obtain ⟨hr9, hz9, hI9⟩ := law_tell hp hp2 hmo hbo hA
  have hz := hz.trans hz9
  refine lv_icmp_eq (tgt := 840) hx hb dL_law_164 (by decide) (fun c164 => ?_) (fun c164 => by first | exact absurd hr9 c164 | exact absurd hr9.symm c164)
  exact kk τ2 z1 H locs hI9 hlo hz hP hL hS

set_option maxHeartbeats 4000000 in
set_option maxRecDepth 100000 in
theorem law_c1 {p : Program} {l : Launch} {e : Env} {s : State} {m : MethodId} {below : List Frame} {meth : Method} {c : Code} {Q : State → Prop} {D : va_G} {ka : Nat → ClassId} {B L o mo b kc : Nat} {xs : Nat → Int32} (hx : p.tables.exec = Jvm.exec) (hb : c.code = code) (hml : c.maxLocals = 4) (hown : s.vm.findClass RL = some m.cls) (hts : ∀ w ∈ wsL_law, w.before #[Value.ref B] s = true) (hK : gK D ka s) (hX : va_X B L xs s s.heap) (hBl : B < s.heap.size) (hL2 : L ≤ 2048) (hk : 4 * kc + 4 ≤ L) (hmo : mo = o + 39) (hbo : o + 55 ≤ b) {σ : gS} {z : Nat} {H : Heap} {locs : List Loc} {ls : Array Slot} (hI : LwI σ o mo b z) (hlo : s.heap.size ≤ z) (hz : H.size = z) (hP : gH D ka σ H) (hL : gL s.heap.size σ) (hS : va_S (gA s.heap.size) s.heap H locs) (hl : lv_has ls 4 [(0, .ref B), (1, .ref o), (2, .ref mo), (3, .int (nI (4 * kc)))]) (kk : ∀ (τ : gS) (z1 : Nat) (H1 : Heap) (locs1 : List Loc), LwI τ o mo b z1 → s.heap.size ≤ z1 → H1.size = z1 → gH D ka τ H1 → gL s.heap.size τ → va_S (gA s.heap.size) s.heap H1 locs1 → W p l e room_1 s m #[Value.ref B] below meth c H1 locs1 (100 + 17 * kc + 17) (12000 + 789 * kc + 789) Q (F0 m 840 ls [])) : W p l e room_1 s m #[Value.ref B] below meth c H locs (100 + 17 * kc) (12000 + 789 * kc) Q (F0 m 169 ls []) := by
  have hbA : ¬ gA s.heap.size B := Nat.not_le.mpr hBl
  obtain ⟨S, tf, tn, P, C, kp, hW, hM, hA⟩ := hI
  obtain ⟨hP5, htn⟩ := hM.p5
  obtain ⟨fo, ho0⟩ := hW.c0
  refine lv_aload_n hx hb dL_law_169 rfl (lv_at hl 1 rfl) ?_
  refine g_runV (As := []) (rest := []) (own := RL) (C := RX7) (T := TX7) (N := 7) 0 hx hb hml hown hts hK hz hP hL hS hlo hl.1 (c_X7_clearText l o b S tf tn P C kp σ z hW hA.ok) gL_law_X7_clearText rfl rfl rfl (by decide +kernel) ⟨Nat.le_of_ble_eq_true rfl, Nat.le_of_ble_eq_true rfl⟩ ho0 rfl rfl rfl (Nat.le_of_ble_eq_true rfl) dL_law_170 ⟨(show _ ≤ 600000 by omega), (show _ ≤ 7302250 by omega)⟩ (g_kxi (fun r1 τ1 H locs z1 hz hp hP hL hS => ?_))
  have hlo : s.heap.size ≤ z1 := Nat.le_trans hlo hp.2.2.1
  have hM1 := lw_me hM hp.2.2.2.2 hmo hbo
  obtain ⟨fm, hm0⟩ := hM1.c0
  refine lv_aload_n hx hb dL_law_173 rfl (lv_at hl 2 rfl) ?_
  refine g_runV (As := []) (rest := [.int r1]) (own := RL) (C := RX8) (T := TX8) (N := 20) 0 hx hb hml hown hts hK hz hP hL hS hlo hl.1 (c_X8_clearText l mo S tf tn P C kp τ1 z1 hM1 hA.ok hA.okC) gL_law_X8_clearText rfl rfl rfl (by decide +kernel) ⟨Nat.le_of_ble_eq_true rfl, Nat.le_of_ble_eq_true rfl⟩ hm0 rfl rfl rfl (Nat.le_of_ble_eq_true rfl) dL_law_174 ⟨(show _ ≤ 600000 by omega), (show _ ≤ 7302250 by omega)⟩ (g_kxi0 (fun r2 τ2 H locs z2 hz hp2 hP hL hS => ?_))
  obtain ⟨hr9, hz9, hI9⟩ := law_tell hp hp2 hmo hbo hA
  have hz := hz.trans hz9
  refine lv_icmp_eq (tgt := 840) hx hb dL_law_177 (by decide) (fun c177 => ?_) (fun c177 => by first | exact absurd hr9 c177 | exact absurd hr9.symm c177)
  exact kk τ2 z1 H locs hI9 hlo hz hP hL hS

set_option maxHeartbeats 4000000 in
set_option maxRecDepth 100000 in
theorem law_c2 {p : Program} {l : Launch} {e : Env} {s : State} {m : MethodId} {below : List Frame} {meth : Method} {c : Code} {Q : State → Prop} {D : va_G} {ka : Nat → ClassId} {B L o mo b kc : Nat} {xs : Nat → Int32} (hx : p.tables.exec = Jvm.exec) (hb : c.code = code) (hml : c.maxLocals = 4) (hown : s.vm.findClass RL = some m.cls) (hts : ∀ w ∈ wsL_law, w.before #[Value.ref B] s = true) (hK : gK D ka s) (hX : va_X B L xs s s.heap) (hBl : B < s.heap.size) (hL2 : L ≤ 2048) (hk : 4 * kc + 4 ≤ L) (hmo : mo = o + 39) (hbo : o + 55 ≤ b) {σ : gS} {z : Nat} {H : Heap} {locs : List Loc} {ls : Array Slot} (hI : LwI σ o mo b z) (hlo : s.heap.size ≤ z) (hz : H.size = z) (hP : gH D ka σ H) (hL : gL s.heap.size σ) (hS : va_S (gA s.heap.size) s.heap H locs) (hl : lv_has ls 4 [(0, .ref B), (1, .ref o), (2, .ref mo), (3, .int (nI (4 * kc)))]) (kk : ∀ (τ : gS) (z1 : Nat) (H1 : Heap) (locs1 : List Loc), LwI τ o mo b z1 → s.heap.size ≤ z1 → H1.size = z1 → gH D ka τ H1 → gL s.heap.size τ → va_S (gA s.heap.size) s.heap H1 locs1 → W p l e room_1 s m #[Value.ref B] below meth c H1 locs1 (100 + 17 * kc + 17) (12000 + 789 * kc + 789) Q (F0 m 840 ls [])) : W p l e room_1 s m #[Value.ref B] below meth c H locs (100 + 17 * kc) (12000 + 789 * kc) Q (F0 m 182 ls []) := by
  have hbA : ¬ gA s.heap.size B := Nat.not_le.mpr hBl
  obtain ⟨S, tf, tn, P, C, kp, hW, hM, hA⟩ := hI
  obtain ⟨hP5, htn⟩ := hM.p5
  obtain ⟨fo, ho0⟩ := hW.c0
  refine lv_aload_n hx hb dL_law_182 rfl (lv_at hl 1 rfl) ?_
  refine g_runV (As := []) (rest := []) (own := RL) (C := RX7) (T := TX7) (N := 7) 0 hx hb hml hown hts hK hz hP hL hS hlo hl.1 (c_X7_read l o b S tf tn P C kp σ z hW hA.ok) gL_law_X7_read rfl rfl rfl (by decide +kernel) ⟨Nat.le_of_ble_eq_true rfl, Nat.le_of_ble_eq_true rfl⟩ ho0 rfl rfl rfl (Nat.le_of_ble_eq_true rfl) dL_law_183 ⟨(show _ ≤ 600000 by omega), (show _ ≤ 7302250 by omega)⟩ (g_kxi (fun r1 τ1 H locs z1 hz hp hP hL hS => ?_))
  have hlo : s.heap.size ≤ z1 := Nat.le_trans hlo hp.2.2.1
  have hM1 := lw_me hM hp.2.2.2.2 hmo hbo
  obtain ⟨fm, hm0⟩ := hM1.c0
  refine lv_aload_n hx hb dL_law_186 rfl (lv_at hl 2 rfl) ?_
  refine g_runV (As := []) (rest := [.int r1]) (own := RL) (C := RX8) (T := TX8) (N := 20) 0 hx hb hml hown hts hK hz hP hL hS hlo hl.1 (c_X8_read l mo S tf tn P C kp τ1 z1 hM1 hA.ok hA.okC) gL_law_X8_read rfl rfl rfl (by decide +kernel) ⟨Nat.le_of_ble_eq_true rfl, Nat.le_of_ble_eq_true rfl⟩ hm0 rfl rfl rfl (Nat.le_of_ble_eq_true rfl) dL_law_187 ⟨(show _ ≤ 600000 by omega), (show _ ≤ 7302250 by omega)⟩ (g_kxi0 (fun r2 τ2 H locs z2 hz hp2 hP hL hS => ?_))
  obtain ⟨hr9, hz9, hI9⟩ := law_act hp hp2 hmo hbo hA hP5 (fun S2 e => ox_read hA.1 htn e)
  have hz := hz.trans hz9
  refine lv_icmp_eq (tgt := 840) hx hb dL_law_190 (by decide) (fun c190 => ?_) (fun c190 => by first | exact absurd hr9 c190 | exact absurd hr9.symm c190)
  exact kk τ2 z1 H locs hI9 hlo hz hP hL hS

set_option maxHeartbeats 4000000 in
set_option maxRecDepth 100000 in
theorem law_c3 {p : Program} {l : Launch} {e : Env} {s : State} {m : MethodId} {below : List Frame} {meth : Method} {c : Code} {Q : State → Prop} {D : va_G} {ka : Nat → ClassId} {B L o mo b kc : Nat} {xs : Nat → Int32} (hx : p.tables.exec = Jvm.exec) (hb : c.code = code) (hml : c.maxLocals = 4) (hown : s.vm.findClass RL = some m.cls) (hts : ∀ w ∈ wsL_law, w.before #[Value.ref B] s = true) (hK : gK D ka s) (hX : va_X B L xs s s.heap) (hBl : B < s.heap.size) (hL2 : L ≤ 2048) (hk : 4 * kc + 4 ≤ L) (hmo : mo = o + 39) (hbo : o + 55 ≤ b) {σ : gS} {z : Nat} {H : Heap} {locs : List Loc} {ls : Array Slot} (hI : LwI σ o mo b z) (hlo : s.heap.size ≤ z) (hz : H.size = z) (hP : gH D ka σ H) (hL : gL s.heap.size σ) (hS : va_S (gA s.heap.size) s.heap H locs) (hl : lv_has ls 4 [(0, .ref B), (1, .ref o), (2, .ref mo), (3, .int (nI (4 * kc)))]) (kk : ∀ (τ : gS) (z1 : Nat) (H1 : Heap) (locs1 : List Loc), LwI τ o mo b z1 → s.heap.size ≤ z1 → H1.size = z1 → gH D ka τ H1 → gL s.heap.size τ → va_S (gA s.heap.size) s.heap H1 locs1 → W p l e room_1 s m #[Value.ref B] below meth c H1 locs1 (100 + 17 * kc + 17) (12000 + 789 * kc + 789) Q (F0 m 840 ls [])) : W p l e room_1 s m #[Value.ref B] below meth c H locs (100 + 17 * kc) (12000 + 789 * kc) Q (F0 m 195 ls []) := by
  have hbA : ¬ gA s.heap.size B := Nat.not_le.mpr hBl
  obtain ⟨S, tf, tn, P, C, kp, hW, hM, hA⟩ := hI
  obtain ⟨hP5, htn⟩ := hM.p5
  obtain ⟨fo, ho0⟩ := hW.c0
  refine lv_aload_n hx hb dL_law_195 rfl (lv_at hl 1 rfl) ?_
  refine lv_aload_n hx hb dL_law_196 rfl (lv_at hl 0 rfl) ?_
  refine lv_iload_n hx hb dL_law_197 rfl (lv_at hl 3 rfl) ?_
  refine lv_iconst (v := (nI 1)) hx hb dL_law_198 (by decide) ?_
  refine lv_iadd hx hb dL_law_199 ?_
  refine g_top (nI_add (4 * kc) 1) ?_
  refine va_sld (i := nI ((4 * kc) + 1)) hx hb hX hBl hbA hS (vp_in_nI (by omega) (by omega)) dL_law_200 ?_
  rw [nI_clamp (n := (4 * kc) + 1) (by omega)]
  refine lv_aload_n hx hb dL_law_201 rfl (lv_at hl 0 rfl) ?_
  refine lv_iload_n hx hb dL_law_202 rfl (lv_at hl 3 rfl) ?_
  refine lv_iconst (v := (nI 2)) hx hb dL_law_203 (by decide) ?_
  refine lv_iadd hx hb dL_law_204 ?_
  refine g_top (nI_add (4 * kc) 2) ?_
  refine va_sld (i := nI ((4 * kc) + 2)) hx hb hX hBl hbA hS (vp_in_nI (by omega) (by omega)) dL_law_205 ?_
  rw [nI_clamp (n := (4 * kc) + 2) (by omega)]
  refine lv_aload_n hx hb dL_law_206 rfl (lv_at hl 0 rfl) ?_
  refine lv_iload_n hx hb dL_law_207 rfl (lv_at hl 3 rfl) ?_
  refine lv_iconst (v := (nI 3)) hx hb dL_law_208 (by decide) ?_
  refine lv_iadd hx hb dL_law_209 ?_
  refine g_top (nI_add (4 * kc) 3) ?_
  refine va_sld (i := nI ((4 * kc) + 3)) hx hb hX hBl hbA hS (vp_in_nI (by omega) (by omega)) dL_law_210 ?_
  rw [nI_clamp (n := (4 * kc) + 3) (by omega)]
  refine g_runV (As := [.int (xs ((4 * kc) + 1)), .int (xs ((4 * kc) + 2)), .int (xs ((4 * kc) + 3))]) (rest := []) (own := RL) (C := RX7) (T := TX7) (N := 7) 3 hx hb hml hown hts hK hz hP hL hS hlo hl.1 (c_X7_setLoudness l o b S tf tn P C kp ((xs ((4 * kc) + 1))) ((xs ((4 * kc) + 2))) ((xs ((4 * kc) + 3))) σ z hW hA.ok) gL_law_X7_setLoudness rfl rfl rfl (by decide +kernel) ⟨Nat.le_of_ble_eq_true rfl, Nat.le_of_ble_eq_true rfl⟩ ho0 rfl rfl rfl (Nat.le_of_ble_eq_true rfl) dL_law_211 ⟨(show _ ≤ 600000 by omega), (show _ ≤ 7302250 by omega)⟩ (g_kxi (fun r1 τ1 H locs z1 hz hp hP hL hS => ?_))
  have hlo : s.heap.size ≤ z1 := Nat.le_trans hlo hp.2.2.1
  have hM1 := lw_me hM hp.2.2.2.2 hmo hbo
  obtain ⟨fm, hm0⟩ := hM1.c0
  refine lv_aload_n hx hb dL_law_214 rfl (lv_at hl 2 rfl) ?_
  refine lv_aload_n hx hb dL_law_215 rfl (lv_at hl 0 rfl) ?_
  refine lv_iload_n hx hb dL_law_216 rfl (lv_at hl 3 rfl) ?_
  refine lv_iconst (v := (nI 1)) hx hb dL_law_217 (by decide) ?_
  refine lv_iadd hx hb dL_law_218 ?_
  refine g_top (nI_add (4 * kc) 1) ?_
  refine va_sld (i := nI ((4 * kc) + 1)) hx hb hX hBl hbA hS (vp_in_nI (by omega) (by omega)) dL_law_219 ?_
  rw [nI_clamp (n := (4 * kc) + 1) (by omega)]
  refine lv_aload_n hx hb dL_law_220 rfl (lv_at hl 0 rfl) ?_
  refine lv_iload_n hx hb dL_law_221 rfl (lv_at hl 3 rfl) ?_
  refine lv_iconst (v := (nI 2)) hx hb dL_law_222 (by decide) ?_
  refine lv_iadd hx hb dL_law_223 ?_
  refine g_top (nI_add (4 * kc) 2) ?_
  refine va_sld (i := nI ((4 * kc) + 2)) hx hb hX hBl hbA hS (vp_in_nI (by omega) (by omega)) dL_law_224 ?_
  rw [nI_clamp (n := (4 * kc) + 2) (by omega)]
  refine lv_aload_n hx hb dL_law_225 rfl (lv_at hl 0 rfl) ?_
  refine lv_iload_n hx hb dL_law_226 rfl (lv_at hl 3 rfl) ?_
  refine lv_iconst (v := (nI 3)) hx hb dL_law_227 (by decide) ?_
  refine lv_iadd hx hb dL_law_228 ?_
  refine g_top (nI_add (4 * kc) 3) ?_
  refine va_sld (i := nI ((4 * kc) + 3)) hx hb hX hBl hbA hS (vp_in_nI (by omega) (by omega)) dL_law_229 ?_
  rw [nI_clamp (n := (4 * kc) + 3) (by omega)]
  refine g_runV (As := [.int (xs ((4 * kc) + 1)), .int (xs ((4 * kc) + 2)), .int (xs ((4 * kc) + 3))]) (rest := [.int r1]) (own := RL) (C := RX8) (T := TX8) (N := 20) 3 hx hb hml hown hts hK hz hP hL hS hlo hl.1 (c_X8_setLoudness l mo S tf tn P C kp ((xs ((4 * kc) + 1))) ((xs ((4 * kc) + 2))) ((xs ((4 * kc) + 3))) τ1 z1 hM1 hA.ok hA.okC) gL_law_X8_setLoudness rfl rfl rfl (by decide +kernel) ⟨Nat.le_of_ble_eq_true rfl, Nat.le_of_ble_eq_true rfl⟩ hm0 rfl rfl rfl (Nat.le_of_ble_eq_true rfl) dL_law_230 ⟨(show _ ≤ 600000 by omega), (show _ ≤ 7302250 by omega)⟩ (g_kxi0 (fun r2 τ2 H locs z2 hz hp2 hP hL hS => ?_))
  obtain ⟨hr9, hz9, hI9⟩ := law_act hp hp2 hmo hbo hA hP5 (fun S2 e => ox_setLoudness hA.1 e)
  have hz := hz.trans hz9
  refine lv_icmp_eq (tgt := 840) hx hb dL_law_233 (by decide) (fun c233 => ?_) (fun c233 => by first | exact absurd hr9 c233 | exact absurd hr9.symm c233)
  exact kk τ2 z1 H locs hI9 hlo hz hP hL hS

set_option maxHeartbeats 4000000 in
set_option maxRecDepth 100000 in
theorem law_c4 {p : Program} {l : Launch} {e : Env} {s : State} {m : MethodId} {below : List Frame} {meth : Method} {c : Code} {Q : State → Prop} {D : va_G} {ka : Nat → ClassId} {B L o mo b kc : Nat} {xs : Nat → Int32} (hx : p.tables.exec = Jvm.exec) (hb : c.code = code) (hml : c.maxLocals = 4) (hown : s.vm.findClass RL = some m.cls) (hts : ∀ w ∈ wsL_law, w.before #[Value.ref B] s = true) (hK : gK D ka s) (hX : va_X B L xs s s.heap) (hBl : B < s.heap.size) (hL2 : L ≤ 2048) (hk : 4 * kc + 4 ≤ L) (hmo : mo = o + 39) (hbo : o + 55 ≤ b) {σ : gS} {z : Nat} {H : Heap} {locs : List Loc} {ls : Array Slot} (hI : LwI σ o mo b z) (hlo : s.heap.size ≤ z) (hz : H.size = z) (hP : gH D ka σ H) (hL : gL s.heap.size σ) (hS : va_S (gA s.heap.size) s.heap H locs) (hl : lv_has ls 4 [(0, .ref B), (1, .ref o), (2, .ref mo), (3, .int (nI (4 * kc)))]) (kk : ∀ (τ : gS) (z1 : Nat) (H1 : Heap) (locs1 : List Loc), LwI τ o mo b z1 → s.heap.size ≤ z1 → H1.size = z1 → gH D ka τ H1 → gL s.heap.size τ → va_S (gA s.heap.size) s.heap H1 locs1 → W p l e room_1 s m #[Value.ref B] below meth c H1 locs1 (100 + 17 * kc + 17) (12000 + 789 * kc + 789) Q (F0 m 840 ls [])) : W p l e room_1 s m #[Value.ref B] below meth c H locs (100 + 17 * kc) (12000 + 789 * kc) Q (F0 m 238 ls []) := by
  have hbA : ¬ gA s.heap.size B := Nat.not_le.mpr hBl
  obtain ⟨S, tf, tn, P, C, kp, hW, hM, hA⟩ := hI
  obtain ⟨hP5, htn⟩ := hM.p5
  obtain ⟨fo, ho0⟩ := hW.c0
  refine lv_aload_n hx hb dL_law_238 rfl (lv_at hl 1 rfl) ?_
  refine lv_aload_n hx hb dL_law_239 rfl (lv_at hl 0 rfl) ?_
  refine lv_iload_n hx hb dL_law_240 rfl (lv_at hl 3 rfl) ?_
  refine lv_iconst (v := (nI 1)) hx hb dL_law_241 (by decide) ?_
  refine lv_iadd hx hb dL_law_242 ?_
  refine g_top (nI_add (4 * kc) 1) ?_
  refine va_sld (i := nI ((4 * kc) + 1)) hx hb hX hBl hbA hS (vp_in_nI (by omega) (by omega)) dL_law_243 ?_
  rw [nI_clamp (n := (4 * kc) + 1) (by omega)]
  refine lv_aload_n hx hb dL_law_244 rfl (lv_at hl 0 rfl) ?_
  refine lv_iload_n hx hb dL_law_245 rfl (lv_at hl 3 rfl) ?_
  refine lv_iconst (v := (nI 2)) hx hb dL_law_246 (by decide) ?_
  refine lv_iadd hx hb dL_law_247 ?_
  refine g_top (nI_add (4 * kc) 2) ?_
  refine va_sld (i := nI ((4 * kc) + 2)) hx hb hX hBl hbA hS (vp_in_nI (by omega) (by omega)) dL_law_248 ?_
  rw [nI_clamp (n := (4 * kc) + 2) (by omega)]
  refine g_runV (As := [.int (xs ((4 * kc) + 1)), .int (xs ((4 * kc) + 2))]) (rest := []) (own := RL) (C := RX7) (T := TX7) (N := 7) 2 hx hb hml hown hts hK hz hP hL hS hlo hl.1 (c_X7_setSort l o b S tf tn P C kp ((xs ((4 * kc) + 1))) ((xs ((4 * kc) + 2))) σ z hW hA.ok) gL_law_X7_setSort rfl rfl rfl (by decide +kernel) ⟨Nat.le_of_ble_eq_true rfl, Nat.le_of_ble_eq_true rfl⟩ ho0 rfl rfl rfl (Nat.le_of_ble_eq_true rfl) dL_law_249 ⟨(show _ ≤ 600000 by omega), (show _ ≤ 7302250 by omega)⟩ (g_kxi (fun r1 τ1 H locs z1 hz hp hP hL hS => ?_))
  have hlo : s.heap.size ≤ z1 := Nat.le_trans hlo hp.2.2.1
  have hM1 := lw_me hM hp.2.2.2.2 hmo hbo
  obtain ⟨fm, hm0⟩ := hM1.c0
  refine lv_aload_n hx hb dL_law_252 rfl (lv_at hl 2 rfl) ?_
  refine lv_aload_n hx hb dL_law_253 rfl (lv_at hl 0 rfl) ?_
  refine lv_iload_n hx hb dL_law_254 rfl (lv_at hl 3 rfl) ?_
  refine lv_iconst (v := (nI 1)) hx hb dL_law_255 (by decide) ?_
  refine lv_iadd hx hb dL_law_256 ?_
  refine g_top (nI_add (4 * kc) 1) ?_
  refine va_sld (i := nI ((4 * kc) + 1)) hx hb hX hBl hbA hS (vp_in_nI (by omega) (by omega)) dL_law_257 ?_
  rw [nI_clamp (n := (4 * kc) + 1) (by omega)]
  refine lv_aload_n hx hb dL_law_258 rfl (lv_at hl 0 rfl) ?_
  refine lv_iload_n hx hb dL_law_259 rfl (lv_at hl 3 rfl) ?_
  refine lv_iconst (v := (nI 2)) hx hb dL_law_260 (by decide) ?_
  refine lv_iadd hx hb dL_law_261 ?_
  refine g_top (nI_add (4 * kc) 2) ?_
  refine va_sld (i := nI ((4 * kc) + 2)) hx hb hX hBl hbA hS (vp_in_nI (by omega) (by omega)) dL_law_262 ?_
  rw [nI_clamp (n := (4 * kc) + 2) (by omega)]
  refine g_runV (As := [.int (xs ((4 * kc) + 1)), .int (xs ((4 * kc) + 2))]) (rest := [.int r1]) (own := RL) (C := RX8) (T := TX8) (N := 20) 2 hx hb hml hown hts hK hz hP hL hS hlo hl.1 (c_X8_setSort l mo S tf tn P C kp ((xs ((4 * kc) + 1))) ((xs ((4 * kc) + 2))) τ1 z1 hM1 hA.ok hA.okC) gL_law_X8_setSort rfl rfl rfl (by decide +kernel) ⟨Nat.le_of_ble_eq_true rfl, Nat.le_of_ble_eq_true rfl⟩ hm0 rfl rfl rfl (Nat.le_of_ble_eq_true rfl) dL_law_263 ⟨(show _ ≤ 600000 by omega), (show _ ≤ 7302250 by omega)⟩ (g_kxi0 (fun r2 τ2 H locs z2 hz hp2 hP hL hS => ?_))
  obtain ⟨hr9, hz9, hI9⟩ := law_act hp hp2 hmo hbo hA hP5 (fun S2 e => ox_setSort hA.1 e)
  have hz := hz.trans hz9
  refine lv_icmp_eq (tgt := 840) hx hb dL_law_266 (by decide) (fun c266 => ?_) (fun c266 => by first | exact absurd hr9 c266 | exact absurd hr9.symm c266)
  exact kk τ2 z1 H locs hI9 hlo hz hP hL hS

set_option maxHeartbeats 4000000 in
set_option maxRecDepth 100000 in
theorem law_c5 {p : Program} {l : Launch} {e : Env} {s : State} {m : MethodId} {below : List Frame} {meth : Method} {c : Code} {Q : State → Prop} {D : va_G} {ka : Nat → ClassId} {B L o mo b kc : Nat} {xs : Nat → Int32} (hx : p.tables.exec = Jvm.exec) (hb : c.code = code) (hml : c.maxLocals = 4) (hown : s.vm.findClass RL = some m.cls) (hts : ∀ w ∈ wsL_law, w.before #[Value.ref B] s = true) (hK : gK D ka s) (hX : va_X B L xs s s.heap) (hBl : B < s.heap.size) (hL2 : L ≤ 2048) (hk : 4 * kc + 4 ≤ L) (hmo : mo = o + 39) (hbo : o + 55 ≤ b) {σ : gS} {z : Nat} {H : Heap} {locs : List Loc} {ls : Array Slot} (hI : LwI σ o mo b z) (hlo : s.heap.size ≤ z) (hz : H.size = z) (hP : gH D ka σ H) (hL : gL s.heap.size σ) (hS : va_S (gA s.heap.size) s.heap H locs) (hl : lv_has ls 4 [(0, .ref B), (1, .ref o), (2, .ref mo), (3, .int (nI (4 * kc)))]) (kk : ∀ (τ : gS) (z1 : Nat) (H1 : Heap) (locs1 : List Loc), LwI τ o mo b z1 → s.heap.size ≤ z1 → H1.size = z1 → gH D ka τ H1 → gL s.heap.size τ → va_S (gA s.heap.size) s.heap H1 locs1 → W p l e room_1 s m #[Value.ref B] below meth c H1 locs1 (100 + 17 * kc + 17) (12000 + 789 * kc + 789) Q (F0 m 840 ls [])) : W p l e room_1 s m #[Value.ref B] below meth c H locs (100 + 17 * kc) (12000 + 789 * kc) Q (F0 m 271 ls []) := by
  have hbA : ¬ gA s.heap.size B := Nat.not_le.mpr hBl
  obtain ⟨S, tf, tn, P, C, kp, hW, hM, hA⟩ := hI
  obtain ⟨hP5, htn⟩ := hM.p5
  obtain ⟨fo, ho0⟩ := hW.c0
  refine lv_aload_n hx hb dL_law_271 rfl (lv_at hl 1 rfl) ?_
  refine lv_aload_n hx hb dL_law_272 rfl (lv_at hl 0 rfl) ?_
  refine lv_iload_n hx hb dL_law_273 rfl (lv_at hl 3 rfl) ?_
  refine lv_iconst (v := (nI 1)) hx hb dL_law_274 (by decide) ?_
  refine lv_iadd hx hb dL_law_275 ?_
  refine g_top (nI_add (4 * kc) 1) ?_
  refine va_sld (i := nI ((4 * kc) + 1)) hx hb hX hBl hbA hS (vp_in_nI (by omega) (by omega)) dL_law_276 ?_
  rw [nI_clamp (n := (4 * kc) + 1) (by omega)]
  refine lv_aload_n hx hb dL_law_277 rfl (lv_at hl 0 rfl) ?_
  refine lv_iload_n hx hb dL_law_278 rfl (lv_at hl 3 rfl) ?_
  refine lv_iconst (v := (nI 2)) hx hb dL_law_279 (by decide) ?_
  refine lv_iadd hx hb dL_law_280 ?_
  refine g_top (nI_add (4 * kc) 2) ?_
  refine va_sld (i := nI ((4 * kc) + 2)) hx hb hX hBl hbA hS (vp_in_nI (by omega) (by omega)) dL_law_281 ?_
  rw [nI_clamp (n := (4 * kc) + 2) (by omega)]
  refine g_runV (As := [.int (xs ((4 * kc) + 1)), .int (xs ((4 * kc) + 2))]) (rest := []) (own := RL) (C := RX7) (T := TX7) (N := 7) 2 hx hb hml hown hts hK hz hP hL hS hlo hl.1 (c_X7_addSinger l o b S tf tn P C kp ((xs ((4 * kc) + 1))) ((xs ((4 * kc) + 2))) σ z hW hA.ok) gL_law_X7_addSinger rfl rfl rfl (by decide +kernel) ⟨Nat.le_of_ble_eq_true rfl, Nat.le_of_ble_eq_true rfl⟩ ho0 rfl rfl rfl (Nat.le_of_ble_eq_true rfl) dL_law_282 ⟨(show _ ≤ 600000 by omega), (show _ ≤ 7302250 by omega)⟩ (g_kxi (fun r1 τ1 H locs z1 hz hp hP hL hS => ?_))
  have hlo : s.heap.size ≤ z1 := Nat.le_trans hlo hp.2.2.1
  have hM1 := lw_me hM hp.2.2.2.2 hmo hbo
  obtain ⟨fm, hm0⟩ := hM1.c0
  refine lv_aload_n hx hb dL_law_285 rfl (lv_at hl 2 rfl) ?_
  refine lv_aload_n hx hb dL_law_286 rfl (lv_at hl 0 rfl) ?_
  refine lv_iload_n hx hb dL_law_287 rfl (lv_at hl 3 rfl) ?_
  refine lv_iconst (v := (nI 1)) hx hb dL_law_288 (by decide) ?_
  refine lv_iadd hx hb dL_law_289 ?_
  refine g_top (nI_add (4 * kc) 1) ?_
  refine va_sld (i := nI ((4 * kc) + 1)) hx hb hX hBl hbA hS (vp_in_nI (by omega) (by omega)) dL_law_290 ?_
  rw [nI_clamp (n := (4 * kc) + 1) (by omega)]
  refine lv_aload_n hx hb dL_law_291 rfl (lv_at hl 0 rfl) ?_
  refine lv_iload_n hx hb dL_law_292 rfl (lv_at hl 3 rfl) ?_
  refine lv_iconst (v := (nI 2)) hx hb dL_law_293 (by decide) ?_
  refine lv_iadd hx hb dL_law_294 ?_
  refine g_top (nI_add (4 * kc) 2) ?_
  refine va_sld (i := nI ((4 * kc) + 2)) hx hb hX hBl hbA hS (vp_in_nI (by omega) (by omega)) dL_law_295 ?_
  rw [nI_clamp (n := (4 * kc) + 2) (by omega)]
  refine g_runV (As := [.int (xs ((4 * kc) + 1)), .int (xs ((4 * kc) + 2))]) (rest := [.int r1]) (own := RL) (C := RX8) (T := TX8) (N := 20) 2 hx hb hml hown hts hK hz hP hL hS hlo hl.1 (c_X8_addSinger l mo S tf tn P C kp ((xs ((4 * kc) + 1))) ((xs ((4 * kc) + 2))) τ1 z1 hM1 hA.ok hA.okC hA.1.mz) gL_law_X8_addSinger rfl rfl rfl (by decide +kernel) ⟨Nat.le_of_ble_eq_true rfl, Nat.le_of_ble_eq_true rfl⟩ hm0 rfl rfl rfl (Nat.le_of_ble_eq_true rfl) dL_law_296 ⟨(show _ ≤ 600000 by omega), (show _ ≤ 7302250 by omega)⟩ (g_kxi0 (fun r2 τ2 H locs z2 hz hp2 hP hL hS => ?_))
  obtain ⟨hr9, hz9, hI9⟩ := law_act hp hp2 hmo hbo hA hP5 (fun S2 e => ox_addSinger hA.1 e)
  have hz := hz.trans hz9
  refine lv_icmp_eq (tgt := 840) hx hb dL_law_299 (by decide) (fun c299 => ?_) (fun c299 => by first | exact absurd hr9 c299 | exact absurd hr9.symm c299)
  exact kk τ2 z1 H locs hI9 hlo hz hP hL hS

set_option maxHeartbeats 4000000 in
set_option maxRecDepth 100000 in
theorem law_c6 {p : Program} {l : Launch} {e : Env} {s : State} {m : MethodId} {below : List Frame} {meth : Method} {c : Code} {Q : State → Prop} {D : va_G} {ka : Nat → ClassId} {B L o mo b kc : Nat} {xs : Nat → Int32} (hx : p.tables.exec = Jvm.exec) (hb : c.code = code) (hml : c.maxLocals = 4) (hown : s.vm.findClass RL = some m.cls) (hts : ∀ w ∈ wsL_law, w.before #[Value.ref B] s = true) (hK : gK D ka s) (hX : va_X B L xs s s.heap) (hBl : B < s.heap.size) (hL2 : L ≤ 2048) (hk : 4 * kc + 4 ≤ L) (hmo : mo = o + 39) (hbo : o + 55 ≤ b) {σ : gS} {z : Nat} {H : Heap} {locs : List Loc} {ls : Array Slot} (hI : LwI σ o mo b z) (hlo : s.heap.size ≤ z) (hz : H.size = z) (hP : gH D ka σ H) (hL : gL s.heap.size σ) (hS : va_S (gA s.heap.size) s.heap H locs) (hl : lv_has ls 4 [(0, .ref B), (1, .ref o), (2, .ref mo), (3, .int (nI (4 * kc)))]) (kk : ∀ (τ : gS) (z1 : Nat) (H1 : Heap) (locs1 : List Loc), LwI τ o mo b z1 → s.heap.size ≤ z1 → H1.size = z1 → gH D ka τ H1 → gL s.heap.size τ → va_S (gA s.heap.size) s.heap H1 locs1 → W p l e room_1 s m #[Value.ref B] below meth c H1 locs1 (100 + 17 * kc + 17) (12000 + 789 * kc + 789) Q (F0 m 840 ls [])) : W p l e room_1 s m #[Value.ref B] below meth c H locs (100 + 17 * kc) (12000 + 789 * kc) Q (F0 m 304 ls []) := by
  have hbA : ¬ gA s.heap.size B := Nat.not_le.mpr hBl
  obtain ⟨S, tf, tn, P, C, kp, hW, hM, hA⟩ := hI
  obtain ⟨hP5, htn⟩ := hM.p5
  obtain ⟨fo, ho0⟩ := hW.c0
  refine lv_aload_n hx hb dL_law_304 rfl (lv_at hl 1 rfl) ?_
  refine lv_aload_n hx hb dL_law_305 rfl (lv_at hl 0 rfl) ?_
  refine lv_iload_n hx hb dL_law_306 rfl (lv_at hl 3 rfl) ?_
  refine lv_iconst (v := (nI 1)) hx hb dL_law_307 (by decide) ?_
  refine lv_iadd hx hb dL_law_308 ?_
  refine g_top (nI_add (4 * kc) 1) ?_
  refine va_sld (i := nI ((4 * kc) + 1)) hx hb hX hBl hbA hS (vp_in_nI (by omega) (by omega)) dL_law_309 ?_
  rw [nI_clamp (n := (4 * kc) + 1) (by omega)]
  refine lv_aload_n hx hb dL_law_310 rfl (lv_at hl 0 rfl) ?_
  refine lv_iload_n hx hb dL_law_311 rfl (lv_at hl 3 rfl) ?_
  refine lv_iconst (v := (nI 2)) hx hb dL_law_312 (by decide) ?_
  refine lv_iadd hx hb dL_law_313 ?_
  refine g_top (nI_add (4 * kc) 2) ?_
  refine va_sld (i := nI ((4 * kc) + 2)) hx hb hX hBl hbA hS (vp_in_nI (by omega) (by omega)) dL_law_314 ?_
  rw [nI_clamp (n := (4 * kc) + 2) (by omega)]
  refine lv_if_eq (tgt := 322) hx hb dL_law_315 (by decide) (fun c315 => ?_) (fun c315 => ?_)
  · refine lv_iconst (v := (nI 0)) hx hb dL_law_322 (by decide) ?_
    refine g_top (y := (bI false)) rfl ?_
    refine g_runV (As := [.int (xs ((4 * kc) + 1)), .int (bI false)]) (rest := []) (own := RL) (C := RX7) (T := TX7) (N := 7) 2 hx hb hml hown hts hK hz hP hL hS hlo hl.1 (c_X7_setPresent l o b S tf tn P C kp ((xs ((4 * kc) + 1))) false σ z hW hA.ok) gL_law_X7_setPresent rfl rfl rfl (by decide +kernel) ⟨Nat.le_of_ble_eq_true rfl, Nat.le_of_ble_eq_true rfl⟩ ho0 rfl rfl rfl (Nat.le_of_ble_eq_true rfl) dL_law_323 ⟨(show _ ≤ 600000 by omega), (show _ ≤ 7302250 by omega)⟩ (g_kxi (fun r1 τ1 H locs z1 hz hp hP hL hS => ?_))
    have hlo : s.heap.size ≤ z1 := Nat.le_trans hlo hp.2.2.1
    have hM1 := lw_me hM hp.2.2.2.2 hmo hbo
    obtain ⟨fm, hm0⟩ := hM1.c0
    refine lv_aload_n hx hb dL_law_326 rfl (lv_at hl 2 rfl) ?_
    refine lv_aload_n hx hb dL_law_327 rfl (lv_at hl 0 rfl) ?_
    refine lv_iload_n hx hb dL_law_328 rfl (lv_at hl 3 rfl) ?_
    refine lv_iconst (v := (nI 1)) hx hb dL_law_329 (by decide) ?_
    refine lv_iadd hx hb dL_law_330 ?_
    refine g_top (nI_add (4 * kc) 1) ?_
    refine va_sld (i := nI ((4 * kc) + 1)) hx hb hX hBl hbA hS (vp_in_nI (by omega) (by omega)) dL_law_331 ?_
    rw [nI_clamp (n := (4 * kc) + 1) (by omega)]
    refine lv_aload_n hx hb dL_law_332 rfl (lv_at hl 0 rfl) ?_
    refine lv_iload_n hx hb dL_law_333 rfl (lv_at hl 3 rfl) ?_
    refine lv_iconst (v := (nI 2)) hx hb dL_law_334 (by decide) ?_
    refine lv_iadd hx hb dL_law_335 ?_
    refine g_top (nI_add (4 * kc) 2) ?_
    refine va_sld (i := nI ((4 * kc) + 2)) hx hb hX hBl hbA hS (vp_in_nI (by omega) (by omega)) dL_law_336 ?_
    rw [nI_clamp (n := (4 * kc) + 2) (by omega)]
    refine lv_if_eq (tgt := 344) hx hb dL_law_337 (by decide) (fun c337 => ?_) (fun c337 => ?_)
    · refine lv_iconst (v := (nI 0)) hx hb dL_law_344 (by decide) ?_
      refine g_top (y := (bI false)) rfl ?_
      refine g_runV (As := [.int (xs ((4 * kc) + 1)), .int (bI false)]) (rest := [.int r1]) (own := RL) (C := RX8) (T := TX8) (N := 20) 2 hx hb hml hown hts hK hz hP hL hS hlo hl.1 (c_X8_setPresent l mo S tf tn P C kp ((xs ((4 * kc) + 1))) false τ1 z1 hM1 hA.ok hA.okC hA.1.2.1) gL_law_X8_setPresent rfl rfl rfl (by decide +kernel) ⟨Nat.le_of_ble_eq_true rfl, Nat.le_of_ble_eq_true rfl⟩ hm0 rfl rfl rfl (Nat.le_of_ble_eq_true rfl) dL_law_345 ⟨(show _ ≤ 600000 by omega), (show _ ≤ 7302250 by omega)⟩ (g_kxi0 (fun r2 τ2 H locs z2 hz hp2 hP hL hS => ?_))
      obtain ⟨hr9, hz9, hI9⟩ := law_act hp hp2 hmo hbo hA hP5 (fun S2 e => ox_setPresent hA.1 e)
      have hz := hz.trans hz9
      refine lv_icmp_eq (tgt := 840) hx hb dL_law_348 (by decide) (fun c348 => ?_) (fun c348 => by first | exact absurd hr9 c348 | exact absurd hr9.symm c348)
      exact kk τ2 z1 H locs hI9 hlo hz hP hL hS
    · exact absurd c315 c337
  · refine lv_iconst (v := (nI 1)) hx hb dL_law_318 (by decide) ?_
    refine lv_goto (tgt := 323) hx hb dL_law_319 (by decide) ?_
    refine g_top (y := (bI true)) rfl ?_
    refine g_runV (As := [.int (xs ((4 * kc) + 1)), .int (bI true)]) (rest := []) (own := RL) (C := RX7) (T := TX7) (N := 7) 2 hx hb hml hown hts hK hz hP hL hS hlo hl.1 (c_X7_setPresent l o b S tf tn P C kp ((xs ((4 * kc) + 1))) true σ z hW hA.ok) gL_law_X7_setPresent rfl rfl rfl (by decide +kernel) ⟨Nat.le_of_ble_eq_true rfl, Nat.le_of_ble_eq_true rfl⟩ ho0 rfl rfl rfl (Nat.le_of_ble_eq_true rfl) dL_law_323 ⟨(show _ ≤ 600000 by omega), (show _ ≤ 7302250 by omega)⟩ (g_kxi (fun r1 τ1 H locs z1 hz hp hP hL hS => ?_))
    have hlo : s.heap.size ≤ z1 := Nat.le_trans hlo hp.2.2.1
    have hM1 := lw_me hM hp.2.2.2.2 hmo hbo
    obtain ⟨fm, hm0⟩ := hM1.c0
    refine lv_aload_n hx hb dL_law_326 rfl (lv_at hl 2 rfl) ?_
    refine lv_aload_n hx hb dL_law_327 rfl (lv_at hl 0 rfl) ?_
    refine lv_iload_n hx hb dL_law_328 rfl (lv_at hl 3 rfl) ?_
    refine lv_iconst (v := (nI 1)) hx hb dL_law_329 (by decide) ?_
    refine lv_iadd hx hb dL_law_330 ?_
    refine g_top (nI_add (4 * kc) 1) ?_
    refine va_sld (i := nI ((4 * kc) + 1)) hx hb hX hBl hbA hS (vp_in_nI (by omega) (by omega)) dL_law_331 ?_
    rw [nI_clamp (n := (4 * kc) + 1) (by omega)]
    refine lv_aload_n hx hb dL_law_332 rfl (lv_at hl 0 rfl) ?_
    refine lv_iload_n hx hb dL_law_333 rfl (lv_at hl 3 rfl) ?_
    refine lv_iconst (v := (nI 2)) hx hb dL_law_334 (by decide) ?_
    refine lv_iadd hx hb dL_law_335 ?_
    refine g_top (nI_add (4 * kc) 2) ?_
    refine va_sld (i := nI ((4 * kc) + 2)) hx hb hX hBl hbA hS (vp_in_nI (by omega) (by omega)) dL_law_336 ?_
    rw [nI_clamp (n := (4 * kc) + 2) (by omega)]
    refine lv_if_eq (tgt := 344) hx hb dL_law_337 (by decide) (fun c337 => ?_) (fun c337 => ?_)
    · exact absurd c337 c315
    · refine lv_iconst (v := (nI 1)) hx hb dL_law_340 (by decide) ?_
      refine lv_goto (tgt := 345) hx hb dL_law_341 (by decide) ?_
      refine g_top (y := (bI true)) rfl ?_
      refine g_runV (As := [.int (xs ((4 * kc) + 1)), .int (bI true)]) (rest := [.int r1]) (own := RL) (C := RX8) (T := TX8) (N := 20) 2 hx hb hml hown hts hK hz hP hL hS hlo hl.1 (c_X8_setPresent l mo S tf tn P C kp ((xs ((4 * kc) + 1))) true τ1 z1 hM1 hA.ok hA.okC hA.1.2.1) gL_law_X8_setPresent rfl rfl rfl (by decide +kernel) ⟨Nat.le_of_ble_eq_true rfl, Nat.le_of_ble_eq_true rfl⟩ hm0 rfl rfl rfl (Nat.le_of_ble_eq_true rfl) dL_law_345 ⟨(show _ ≤ 600000 by omega), (show _ ≤ 7302250 by omega)⟩ (g_kxi0 (fun r2 τ2 H locs z2 hz hp2 hP hL hS => ?_))
      obtain ⟨hr9, hz9, hI9⟩ := law_act hp hp2 hmo hbo hA hP5 (fun S2 e => ox_setPresent hA.1 e)
      have hz := hz.trans hz9
      refine lv_icmp_eq (tgt := 840) hx hb dL_law_348 (by decide) (fun c348 => ?_) (fun c348 => by first | exact absurd hr9 c348 | exact absurd hr9.symm c348)
      exact kk τ2 z1 H locs hI9 hlo hz hP hL hS

set_option maxHeartbeats 4000000 in
set_option maxRecDepth 100000 in
theorem law_c7 {p : Program} {l : Launch} {e : Env} {s : State} {m : MethodId} {below : List Frame} {meth : Method} {c : Code} {Q : State → Prop} {D : va_G} {ka : Nat → ClassId} {B L o mo b kc : Nat} {xs : Nat → Int32} (hx : p.tables.exec = Jvm.exec) (hb : c.code = code) (hml : c.maxLocals = 4) (hown : s.vm.findClass RL = some m.cls) (hts : ∀ w ∈ wsL_law, w.before #[Value.ref B] s = true) (hK : gK D ka s) (hX : va_X B L xs s s.heap) (hBl : B < s.heap.size) (hL2 : L ≤ 2048) (hk : 4 * kc + 4 ≤ L) (hmo : mo = o + 39) (hbo : o + 55 ≤ b) {σ : gS} {z : Nat} {H : Heap} {locs : List Loc} {ls : Array Slot} (hI : LwI σ o mo b z) (hlo : s.heap.size ≤ z) (hz : H.size = z) (hP : gH D ka σ H) (hL : gL s.heap.size σ) (hS : va_S (gA s.heap.size) s.heap H locs) (hl : lv_has ls 4 [(0, .ref B), (1, .ref o), (2, .ref mo), (3, .int (nI (4 * kc)))]) (kk : ∀ (τ : gS) (z1 : Nat) (H1 : Heap) (locs1 : List Loc), LwI τ o mo b z1 → s.heap.size ≤ z1 → H1.size = z1 → gH D ka τ H1 → gL s.heap.size τ → va_S (gA s.heap.size) s.heap H1 locs1 → W p l e room_1 s m #[Value.ref B] below meth c H1 locs1 (100 + 17 * kc + 17) (12000 + 789 * kc + 789) Q (F0 m 840 ls [])) : W p l e room_1 s m #[Value.ref B] below meth c H locs (100 + 17 * kc) (12000 + 789 * kc) Q (F0 m 353 ls []) := by
  have hbA : ¬ gA s.heap.size B := Nat.not_le.mpr hBl
  obtain ⟨S, tf, tn, P, C, kp, hW, hM, hA⟩ := hI
  obtain ⟨hP5, htn⟩ := hM.p5
  obtain ⟨fo, ho0⟩ := hW.c0
  refine lv_aload_n hx hb dL_law_353 rfl (lv_at hl 1 rfl) ?_
  refine lv_aload_n hx hb dL_law_354 rfl (lv_at hl 0 rfl) ?_
  refine lv_iload_n hx hb dL_law_355 rfl (lv_at hl 3 rfl) ?_
  refine lv_iconst (v := (nI 1)) hx hb dL_law_356 (by decide) ?_
  refine lv_iadd hx hb dL_law_357 ?_
  refine g_top (nI_add (4 * kc) 1) ?_
  refine va_sld (i := nI ((4 * kc) + 1)) hx hb hX hBl hbA hS (vp_in_nI (by omega) (by omega)) dL_law_358 ?_
  rw [nI_clamp (n := (4 * kc) + 1) (by omega)]
  refine lv_aload_n hx hb dL_law_359 rfl (lv_at hl 0 rfl) ?_
  refine lv_iload_n hx hb dL_law_360 rfl (lv_at hl 3 rfl) ?_
  refine lv_iconst (v := (nI 2)) hx hb dL_law_361 (by decide) ?_
  refine lv_iadd hx hb dL_law_362 ?_
  refine g_top (nI_add (4 * kc) 2) ?_
  refine va_sld (i := nI ((4 * kc) + 2)) hx hb hX hBl hbA hS (vp_in_nI (by omega) (by omega)) dL_law_363 ?_
  rw [nI_clamp (n := (4 * kc) + 2) (by omega)]
  refine lv_aload_n hx hb dL_law_364 rfl (lv_at hl 0 rfl) ?_
  refine lv_iload_n hx hb dL_law_365 rfl (lv_at hl 3 rfl) ?_
  refine lv_iconst (v := (nI 3)) hx hb dL_law_366 (by decide) ?_
  refine lv_iadd hx hb dL_law_367 ?_
  refine g_top (nI_add (4 * kc) 3) ?_
  refine va_sld (i := nI ((4 * kc) + 3)) hx hb hX hBl hbA hS (vp_in_nI (by omega) (by omega)) dL_law_368 ?_
  rw [nI_clamp (n := (4 * kc) + 3) (by omega)]
  refine g_runV (As := [.int (xs ((4 * kc) + 1)), .int (xs ((4 * kc) + 2)), .int (xs ((4 * kc) + 3))]) (rest := []) (own := RL) (C := RX7) (T := TX7) (N := 7) 3 hx hb hml hown hts hK hz hP hL hS hlo hl.1 (c_X7_addSolo l o b S tf tn P C kp ((xs ((4 * kc) + 1))) ((xs ((4 * kc) + 2))) ((xs ((4 * kc) + 3))) σ z hW hA.ok) gL_law_X7_addSolo rfl rfl rfl (by decide +kernel) ⟨Nat.le_of_ble_eq_true rfl, Nat.le_of_ble_eq_true rfl⟩ ho0 rfl rfl rfl (Nat.le_of_ble_eq_true rfl) dL_law_369 ⟨(show _ ≤ 600000 by omega), (show _ ≤ 7302250 by omega)⟩ (g_kxi (fun r1 τ1 H locs z1 hz hp hP hL hS => ?_))
  have hlo : s.heap.size ≤ z1 := Nat.le_trans hlo hp.2.2.1
  have hM1 := lw_me hM hp.2.2.2.2 hmo hbo
  obtain ⟨fm, hm0⟩ := hM1.c0
  refine lv_aload_n hx hb dL_law_372 rfl (lv_at hl 2 rfl) ?_
  refine lv_aload_n hx hb dL_law_373 rfl (lv_at hl 0 rfl) ?_
  refine lv_iload_n hx hb dL_law_374 rfl (lv_at hl 3 rfl) ?_
  refine lv_iconst (v := (nI 1)) hx hb dL_law_375 (by decide) ?_
  refine lv_iadd hx hb dL_law_376 ?_
  refine g_top (nI_add (4 * kc) 1) ?_
  refine va_sld (i := nI ((4 * kc) + 1)) hx hb hX hBl hbA hS (vp_in_nI (by omega) (by omega)) dL_law_377 ?_
  rw [nI_clamp (n := (4 * kc) + 1) (by omega)]
  refine lv_aload_n hx hb dL_law_378 rfl (lv_at hl 0 rfl) ?_
  refine lv_iload_n hx hb dL_law_379 rfl (lv_at hl 3 rfl) ?_
  refine lv_iconst (v := (nI 2)) hx hb dL_law_380 (by decide) ?_
  refine lv_iadd hx hb dL_law_381 ?_
  refine g_top (nI_add (4 * kc) 2) ?_
  refine va_sld (i := nI ((4 * kc) + 2)) hx hb hX hBl hbA hS (vp_in_nI (by omega) (by omega)) dL_law_382 ?_
  rw [nI_clamp (n := (4 * kc) + 2) (by omega)]
  refine lv_aload_n hx hb dL_law_383 rfl (lv_at hl 0 rfl) ?_
  refine lv_iload_n hx hb dL_law_384 rfl (lv_at hl 3 rfl) ?_
  refine lv_iconst (v := (nI 3)) hx hb dL_law_385 (by decide) ?_
  refine lv_iadd hx hb dL_law_386 ?_
  refine g_top (nI_add (4 * kc) 3) ?_
  refine va_sld (i := nI ((4 * kc) + 3)) hx hb hX hBl hbA hS (vp_in_nI (by omega) (by omega)) dL_law_387 ?_
  rw [nI_clamp (n := (4 * kc) + 3) (by omega)]
  refine g_runV (As := [.int (xs ((4 * kc) + 1)), .int (xs ((4 * kc) + 2)), .int (xs ((4 * kc) + 3))]) (rest := [.int r1]) (own := RL) (C := RX8) (T := TX8) (N := 20) 3 hx hb hml hown hts hK hz hP hL hS hlo hl.1 (c_X8_addSolo l mo S tf tn P C kp ((xs ((4 * kc) + 1))) ((xs ((4 * kc) + 2))) ((xs ((4 * kc) + 3))) τ1 z1 hM1 hA.ok hA.okC) gL_law_X8_addSolo rfl rfl rfl (by decide +kernel) ⟨Nat.le_of_ble_eq_true rfl, Nat.le_of_ble_eq_true rfl⟩ hm0 rfl rfl rfl (Nat.le_of_ble_eq_true rfl) dL_law_388 ⟨(show _ ≤ 600000 by omega), (show _ ≤ 7302250 by omega)⟩ (g_kxi0 (fun r2 τ2 H locs z2 hz hp2 hP hL hS => ?_))
  obtain ⟨hr9, hz9, hI9⟩ := law_act hp hp2 hmo hbo hA hP5 (fun S2 e => ox_addSolo hA.1 e)
  have hz := hz.trans hz9
  refine lv_icmp_eq (tgt := 840) hx hb dL_law_391 (by decide) (fun c391 => ?_) (fun c391 => by first | exact absurd hr9 c391 | exact absurd hr9.symm c391)
  exact kk τ2 z1 H locs hI9 hlo hz hP hL hS

set_option maxHeartbeats 4000000 in
set_option maxRecDepth 100000 in
theorem law_c8 {p : Program} {l : Launch} {e : Env} {s : State} {m : MethodId} {below : List Frame} {meth : Method} {c : Code} {Q : State → Prop} {D : va_G} {ka : Nat → ClassId} {B L o mo b kc : Nat} {xs : Nat → Int32} (hx : p.tables.exec = Jvm.exec) (hb : c.code = code) (hml : c.maxLocals = 4) (hown : s.vm.findClass RL = some m.cls) (hts : ∀ w ∈ wsL_law, w.before #[Value.ref B] s = true) (hK : gK D ka s) (hX : va_X B L xs s s.heap) (hBl : B < s.heap.size) (hL2 : L ≤ 2048) (hk : 4 * kc + 4 ≤ L) (hmo : mo = o + 39) (hbo : o + 55 ≤ b) {σ : gS} {z : Nat} {H : Heap} {locs : List Loc} {ls : Array Slot} (hI : LwI σ o mo b z) (hlo : s.heap.size ≤ z) (hz : H.size = z) (hP : gH D ka σ H) (hL : gL s.heap.size σ) (hS : va_S (gA s.heap.size) s.heap H locs) (hl : lv_has ls 4 [(0, .ref B), (1, .ref o), (2, .ref mo), (3, .int (nI (4 * kc)))]) (kk : ∀ (τ : gS) (z1 : Nat) (H1 : Heap) (locs1 : List Loc), LwI τ o mo b z1 → s.heap.size ≤ z1 → H1.size = z1 → gH D ka τ H1 → gL s.heap.size τ → va_S (gA s.heap.size) s.heap H1 locs1 → W p l e room_1 s m #[Value.ref B] below meth c H1 locs1 (100 + 17 * kc + 17) (12000 + 789 * kc + 789) Q (F0 m 840 ls [])) : W p l e room_1 s m #[Value.ref B] below meth c H locs (100 + 17 * kc) (12000 + 789 * kc) Q (F0 m 396 ls []) := by
  have hbA : ¬ gA s.heap.size B := Nat.not_le.mpr hBl
  obtain ⟨S, tf, tn, P, C, kp, hW, hM, hA⟩ := hI
  obtain ⟨hP5, htn⟩ := hM.p5
  obtain ⟨fo, ho0⟩ := hW.c0
  refine lv_aload_n hx hb dL_law_396 rfl (lv_at hl 1 rfl) ?_
  refine lv_aload_n hx hb dL_law_397 rfl (lv_at hl 0 rfl) ?_
  refine lv_iload_n hx hb dL_law_398 rfl (lv_at hl 3 rfl) ?_
  refine lv_iconst (v := (nI 1)) hx hb dL_law_399 (by decide) ?_
  refine lv_iadd hx hb dL_law_400 ?_
  refine g_top (nI_add (4 * kc) 1) ?_
  refine va_sld (i := nI ((4 * kc) + 1)) hx hb hX hBl hbA hS (vp_in_nI (by omega) (by omega)) dL_law_401 ?_
  rw [nI_clamp (n := (4 * kc) + 1) (by omega)]
  refine g_runV (As := [.int (xs ((4 * kc) + 1))]) (rest := []) (own := RL) (C := RX7) (T := TX7) (N := 7) 1 hx hb hml hown hts hK hz hP hL hS hlo hl.1 (c_X7_removeSolo l o b S tf tn P C kp ((xs ((4 * kc) + 1))) σ z hW hA.ok) gL_law_X7_removeSolo rfl rfl rfl (by decide +kernel) ⟨Nat.le_of_ble_eq_true rfl, Nat.le_of_ble_eq_true rfl⟩ ho0 rfl rfl rfl (Nat.le_of_ble_eq_true rfl) dL_law_402 ⟨(show _ ≤ 600000 by omega), (show _ ≤ 7302250 by omega)⟩ (g_kxi (fun r1 τ1 H locs z1 hz hp hP hL hS => ?_))
  have hlo : s.heap.size ≤ z1 := Nat.le_trans hlo hp.2.2.1
  have hM1 := lw_me hM hp.2.2.2.2 hmo hbo
  obtain ⟨fm, hm0⟩ := hM1.c0
  refine lv_aload_n hx hb dL_law_405 rfl (lv_at hl 2 rfl) ?_
  refine lv_aload_n hx hb dL_law_406 rfl (lv_at hl 0 rfl) ?_
  refine lv_iload_n hx hb dL_law_407 rfl (lv_at hl 3 rfl) ?_
  refine lv_iconst (v := (nI 1)) hx hb dL_law_408 (by decide) ?_
  refine lv_iadd hx hb dL_law_409 ?_
  refine g_top (nI_add (4 * kc) 1) ?_
  refine va_sld (i := nI ((4 * kc) + 1)) hx hb hX hBl hbA hS (vp_in_nI (by omega) (by omega)) dL_law_410 ?_
  rw [nI_clamp (n := (4 * kc) + 1) (by omega)]
  refine g_runV (As := [.int (xs ((4 * kc) + 1))]) (rest := [.int r1]) (own := RL) (C := RX8) (T := TX8) (N := 20) 1 hx hb hml hown hts hK hz hP hL hS hlo hl.1 (c_X8_removeSolo l mo S tf tn P C kp ((xs ((4 * kc) + 1))) τ1 z1 hM1 hA.ok hA.okC) gL_law_X8_removeSolo rfl rfl rfl (by decide +kernel) ⟨Nat.le_of_ble_eq_true rfl, Nat.le_of_ble_eq_true rfl⟩ hm0 rfl rfl rfl (Nat.le_of_ble_eq_true rfl) dL_law_411 ⟨(show _ ≤ 600000 by omega), (show _ ≤ 7302250 by omega)⟩ (g_kxi0 (fun r2 τ2 H locs z2 hz hp2 hP hL hS => ?_))
  obtain ⟨hr9, hz9, hI9⟩ := law_act hp hp2 hmo hbo hA hP5 (fun S2 e => ox_removeSolo hA.1 e)
  have hz := hz.trans hz9
  refine lv_icmp_eq (tgt := 840) hx hb dL_law_414 (by decide) (fun c414 => ?_) (fun c414 => by first | exact absurd hr9 c414 | exact absurd hr9.symm c414)
  exact kk τ2 z1 H locs hI9 hlo hz hP hL hS

set_option maxHeartbeats 4000000 in
set_option maxRecDepth 100000 in
theorem law_c9 {p : Program} {l : Launch} {e : Env} {s : State} {m : MethodId} {below : List Frame} {meth : Method} {c : Code} {Q : State → Prop} {D : va_G} {ka : Nat → ClassId} {B L o mo b kc : Nat} {xs : Nat → Int32} (hx : p.tables.exec = Jvm.exec) (hb : c.code = code) (hml : c.maxLocals = 4) (hown : s.vm.findClass RL = some m.cls) (hts : ∀ w ∈ wsL_law, w.before #[Value.ref B] s = true) (hK : gK D ka s) (hX : va_X B L xs s s.heap) (hBl : B < s.heap.size) (hL2 : L ≤ 2048) (hk : 4 * kc + 4 ≤ L) (hmo : mo = o + 39) (hbo : o + 55 ≤ b) {σ : gS} {z : Nat} {H : Heap} {locs : List Loc} {ls : Array Slot} (hI : LwI σ o mo b z) (hlo : s.heap.size ≤ z) (hz : H.size = z) (hP : gH D ka σ H) (hL : gL s.heap.size σ) (hS : va_S (gA s.heap.size) s.heap H locs) (hl : lv_has ls 4 [(0, .ref B), (1, .ref o), (2, .ref mo), (3, .int (nI (4 * kc)))]) (kk : ∀ (τ : gS) (z1 : Nat) (H1 : Heap) (locs1 : List Loc), LwI τ o mo b z1 → s.heap.size ≤ z1 → H1.size = z1 → gH D ka τ H1 → gL s.heap.size τ → va_S (gA s.heap.size) s.heap H1 locs1 → W p l e room_1 s m #[Value.ref B] below meth c H1 locs1 (100 + 17 * kc + 17) (12000 + 789 * kc + 789) Q (F0 m 840 ls [])) : W p l e room_1 s m #[Value.ref B] below meth c H locs (100 + 17 * kc) (12000 + 789 * kc) Q (F0 m 419 ls []) := by
  have hbA : ¬ gA s.heap.size B := Nat.not_le.mpr hBl
  obtain ⟨S, tf, tn, P, C, kp, hW, hM, hA⟩ := hI
  obtain ⟨hP5, htn⟩ := hM.p5
  obtain ⟨fo, ho0⟩ := hW.c0
  refine lv_aload_n hx hb dL_law_419 rfl (lv_at hl 1 rfl) ?_
  refine lv_aload_n hx hb dL_law_420 rfl (lv_at hl 0 rfl) ?_
  refine lv_iload_n hx hb dL_law_421 rfl (lv_at hl 3 rfl) ?_
  refine lv_iconst (v := (nI 1)) hx hb dL_law_422 (by decide) ?_
  refine lv_iadd hx hb dL_law_423 ?_
  refine g_top (nI_add (4 * kc) 1) ?_
  refine va_sld (i := nI ((4 * kc) + 1)) hx hb hX hBl hbA hS (vp_in_nI (by omega) (by omega)) dL_law_424 ?_
  rw [nI_clamp (n := (4 * kc) + 1) (by omega)]
  refine lv_aload_n hx hb dL_law_425 rfl (lv_at hl 0 rfl) ?_
  refine lv_iload_n hx hb dL_law_426 rfl (lv_at hl 3 rfl) ?_
  refine lv_iconst (v := (nI 2)) hx hb dL_law_427 (by decide) ?_
  refine lv_iadd hx hb dL_law_428 ?_
  refine g_top (nI_add (4 * kc) 2) ?_
  refine va_sld (i := nI ((4 * kc) + 2)) hx hb hX hBl hbA hS (vp_in_nI (by omega) (by omega)) dL_law_429 ?_
  rw [nI_clamp (n := (4 * kc) + 2) (by omega)]
  refine lv_aload_n hx hb dL_law_430 rfl (lv_at hl 0 rfl) ?_
  refine lv_iload_n hx hb dL_law_431 rfl (lv_at hl 3 rfl) ?_
  refine lv_iconst (v := (nI 3)) hx hb dL_law_432 (by decide) ?_
  refine lv_iadd hx hb dL_law_433 ?_
  refine g_top (nI_add (4 * kc) 3) ?_
  refine va_sld (i := nI ((4 * kc) + 3)) hx hb hX hBl hbA hS (vp_in_nI (by omega) (by omega)) dL_law_434 ?_
  rw [nI_clamp (n := (4 * kc) + 3) (by omega)]
  refine lv_if_eq (tgt := 442) hx hb dL_law_435 (by decide) (fun c435 => ?_) (fun c435 => ?_)
  · refine lv_iconst (v := (nI 0)) hx hb dL_law_442 (by decide) ?_
    refine g_top (y := (bI false)) rfl ?_
    refine g_runV (As := [.int (xs ((4 * kc) + 1)), .int (xs ((4 * kc) + 2)), .int (bI false)]) (rest := []) (own := RL) (C := RX7) (T := TX7) (N := 7) 3 hx hb hml hown hts hK hz hP hL hS hlo hl.1 (c_X7_mark l o b S tf tn P C kp ((xs ((4 * kc) + 1))) ((xs ((4 * kc) + 2))) false σ z hW hA.ok) gL_law_X7_mark rfl rfl rfl (by decide +kernel) ⟨Nat.le_of_ble_eq_true rfl, Nat.le_of_ble_eq_true rfl⟩ ho0 rfl rfl rfl (Nat.le_of_ble_eq_true rfl) dL_law_443 ⟨(show _ ≤ 600000 by omega), (show _ ≤ 7302250 by omega)⟩ (g_kxi (fun r1 τ1 H locs z1 hz hp hP hL hS => ?_))
    have hlo : s.heap.size ≤ z1 := Nat.le_trans hlo hp.2.2.1
    have hM1 := lw_me hM hp.2.2.2.2 hmo hbo
    obtain ⟨fm, hm0⟩ := hM1.c0
    refine lv_aload_n hx hb dL_law_446 rfl (lv_at hl 2 rfl) ?_
    refine lv_aload_n hx hb dL_law_447 rfl (lv_at hl 0 rfl) ?_
    refine lv_iload_n hx hb dL_law_448 rfl (lv_at hl 3 rfl) ?_
    refine lv_iconst (v := (nI 1)) hx hb dL_law_449 (by decide) ?_
    refine lv_iadd hx hb dL_law_450 ?_
    refine g_top (nI_add (4 * kc) 1) ?_
    refine va_sld (i := nI ((4 * kc) + 1)) hx hb hX hBl hbA hS (vp_in_nI (by omega) (by omega)) dL_law_451 ?_
    rw [nI_clamp (n := (4 * kc) + 1) (by omega)]
    refine lv_aload_n hx hb dL_law_452 rfl (lv_at hl 0 rfl) ?_
    refine lv_iload_n hx hb dL_law_453 rfl (lv_at hl 3 rfl) ?_
    refine lv_iconst (v := (nI 2)) hx hb dL_law_454 (by decide) ?_
    refine lv_iadd hx hb dL_law_455 ?_
    refine g_top (nI_add (4 * kc) 2) ?_
    refine va_sld (i := nI ((4 * kc) + 2)) hx hb hX hBl hbA hS (vp_in_nI (by omega) (by omega)) dL_law_456 ?_
    rw [nI_clamp (n := (4 * kc) + 2) (by omega)]
    refine lv_aload_n hx hb dL_law_457 rfl (lv_at hl 0 rfl) ?_
    refine lv_iload_n hx hb dL_law_458 rfl (lv_at hl 3 rfl) ?_
    refine lv_iconst (v := (nI 3)) hx hb dL_law_459 (by decide) ?_
    refine lv_iadd hx hb dL_law_460 ?_
    refine g_top (nI_add (4 * kc) 3) ?_
    refine va_sld (i := nI ((4 * kc) + 3)) hx hb hX hBl hbA hS (vp_in_nI (by omega) (by omega)) dL_law_461 ?_
    rw [nI_clamp (n := (4 * kc) + 3) (by omega)]
    refine lv_if_eq (tgt := 469) hx hb dL_law_462 (by decide) (fun c462 => ?_) (fun c462 => ?_)
    · refine lv_iconst (v := (nI 0)) hx hb dL_law_469 (by decide) ?_
      refine g_top (y := (bI false)) rfl ?_
      refine g_runV (As := [.int (xs ((4 * kc) + 1)), .int (xs ((4 * kc) + 2)), .int (bI false)]) (rest := [.int r1]) (own := RL) (C := RX8) (T := TX8) (N := 20) 3 hx hb hml hown hts hK hz hP hL hS hlo hl.1 (c_X8_mark l mo S tf tn P C kp ((xs ((4 * kc) + 1))) ((xs ((4 * kc) + 2))) false τ1 z1 hM1 hA.ok hA.okC) gL_law_X8_mark rfl rfl rfl (by decide +kernel) ⟨Nat.le_of_ble_eq_true rfl, Nat.le_of_ble_eq_true rfl⟩ hm0 rfl rfl rfl (Nat.le_of_ble_eq_true rfl) dL_law_470 ⟨(show _ ≤ 600000 by omega), (show _ ≤ 7302250 by omega)⟩ (g_kxi0 (fun r2 τ2 H locs z2 hz hp2 hP hL hS => ?_))
      obtain ⟨hr9, hz9, hI9⟩ := law_act hp hp2 hmo hbo hA hP5 (fun S2 e => ox_mark hA.1 e)
      have hz := hz.trans hz9
      refine lv_icmp_eq (tgt := 840) hx hb dL_law_473 (by decide) (fun c473 => ?_) (fun c473 => by first | exact absurd hr9 c473 | exact absurd hr9.symm c473)
      exact kk τ2 z1 H locs hI9 hlo hz hP hL hS
    · exact absurd c435 c462
  · refine lv_iconst (v := (nI 1)) hx hb dL_law_438 (by decide) ?_
    refine lv_goto (tgt := 443) hx hb dL_law_439 (by decide) ?_
    refine g_top (y := (bI true)) rfl ?_
    refine g_runV (As := [.int (xs ((4 * kc) + 1)), .int (xs ((4 * kc) + 2)), .int (bI true)]) (rest := []) (own := RL) (C := RX7) (T := TX7) (N := 7) 3 hx hb hml hown hts hK hz hP hL hS hlo hl.1 (c_X7_mark l o b S tf tn P C kp ((xs ((4 * kc) + 1))) ((xs ((4 * kc) + 2))) true σ z hW hA.ok) gL_law_X7_mark rfl rfl rfl (by decide +kernel) ⟨Nat.le_of_ble_eq_true rfl, Nat.le_of_ble_eq_true rfl⟩ ho0 rfl rfl rfl (Nat.le_of_ble_eq_true rfl) dL_law_443 ⟨(show _ ≤ 600000 by omega), (show _ ≤ 7302250 by omega)⟩ (g_kxi (fun r1 τ1 H locs z1 hz hp hP hL hS => ?_))
    have hlo : s.heap.size ≤ z1 := Nat.le_trans hlo hp.2.2.1
    have hM1 := lw_me hM hp.2.2.2.2 hmo hbo
    obtain ⟨fm, hm0⟩ := hM1.c0
    refine lv_aload_n hx hb dL_law_446 rfl (lv_at hl 2 rfl) ?_
    refine lv_aload_n hx hb dL_law_447 rfl (lv_at hl 0 rfl) ?_
    refine lv_iload_n hx hb dL_law_448 rfl (lv_at hl 3 rfl) ?_
    refine lv_iconst (v := (nI 1)) hx hb dL_law_449 (by decide) ?_
    refine lv_iadd hx hb dL_law_450 ?_
    refine g_top (nI_add (4 * kc) 1) ?_
    refine va_sld (i := nI ((4 * kc) + 1)) hx hb hX hBl hbA hS (vp_in_nI (by omega) (by omega)) dL_law_451 ?_
    rw [nI_clamp (n := (4 * kc) + 1) (by omega)]
    refine lv_aload_n hx hb dL_law_452 rfl (lv_at hl 0 rfl) ?_
    refine lv_iload_n hx hb dL_law_453 rfl (lv_at hl 3 rfl) ?_
    refine lv_iconst (v := (nI 2)) hx hb dL_law_454 (by decide) ?_
    refine lv_iadd hx hb dL_law_455 ?_
    refine g_top (nI_add (4 * kc) 2) ?_
    refine va_sld (i := nI ((4 * kc) + 2)) hx hb hX hBl hbA hS (vp_in_nI (by omega) (by omega)) dL_law_456 ?_
    rw [nI_clamp (n := (4 * kc) + 2) (by omega)]
    refine lv_aload_n hx hb dL_law_457 rfl (lv_at hl 0 rfl) ?_
    refine lv_iload_n hx hb dL_law_458 rfl (lv_at hl 3 rfl) ?_
    refine lv_iconst (v := (nI 3)) hx hb dL_law_459 (by decide) ?_
    refine lv_iadd hx hb dL_law_460 ?_
    refine g_top (nI_add (4 * kc) 3) ?_
    refine va_sld (i := nI ((4 * kc) + 3)) hx hb hX hBl hbA hS (vp_in_nI (by omega) (by omega)) dL_law_461 ?_
    rw [nI_clamp (n := (4 * kc) + 3) (by omega)]
    refine lv_if_eq (tgt := 469) hx hb dL_law_462 (by decide) (fun c462 => ?_) (fun c462 => ?_)
    · exact absurd c462 c435
    · refine lv_iconst (v := (nI 1)) hx hb dL_law_465 (by decide) ?_
      refine lv_goto (tgt := 470) hx hb dL_law_466 (by decide) ?_
      refine g_top (y := (bI true)) rfl ?_
      refine g_runV (As := [.int (xs ((4 * kc) + 1)), .int (xs ((4 * kc) + 2)), .int (bI true)]) (rest := [.int r1]) (own := RL) (C := RX8) (T := TX8) (N := 20) 3 hx hb hml hown hts hK hz hP hL hS hlo hl.1 (c_X8_mark l mo S tf tn P C kp ((xs ((4 * kc) + 1))) ((xs ((4 * kc) + 2))) true τ1 z1 hM1 hA.ok hA.okC) gL_law_X8_mark rfl rfl rfl (by decide +kernel) ⟨Nat.le_of_ble_eq_true rfl, Nat.le_of_ble_eq_true rfl⟩ hm0 rfl rfl rfl (Nat.le_of_ble_eq_true rfl) dL_law_470 ⟨(show _ ≤ 600000 by omega), (show _ ≤ 7302250 by omega)⟩ (g_kxi0 (fun r2 τ2 H locs z2 hz hp2 hP hL hS => ?_))
      obtain ⟨hr9, hz9, hI9⟩ := law_act hp hp2 hmo hbo hA hP5 (fun S2 e => ox_mark hA.1 e)
      have hz := hz.trans hz9
      refine lv_icmp_eq (tgt := 840) hx hb dL_law_473 (by decide) (fun c473 => ?_) (fun c473 => by first | exact absurd hr9 c473 | exact absurd hr9.symm c473)
      exact kk τ2 z1 H locs hI9 hlo hz hP hL hS

set_option maxHeartbeats 4000000 in
set_option maxRecDepth 100000 in
theorem law_c10 {p : Program} {l : Launch} {e : Env} {s : State} {m : MethodId} {below : List Frame} {meth : Method} {c : Code} {Q : State → Prop} {D : va_G} {ka : Nat → ClassId} {B L o mo b kc : Nat} {xs : Nat → Int32} (hx : p.tables.exec = Jvm.exec) (hb : c.code = code) (hml : c.maxLocals = 4) (hown : s.vm.findClass RL = some m.cls) (hts : ∀ w ∈ wsL_law, w.before #[Value.ref B] s = true) (hK : gK D ka s) (hX : va_X B L xs s s.heap) (hBl : B < s.heap.size) (hL2 : L ≤ 2048) (hk : 4 * kc + 4 ≤ L) (hmo : mo = o + 39) (hbo : o + 55 ≤ b) {σ : gS} {z : Nat} {H : Heap} {locs : List Loc} {ls : Array Slot} (hI : LwI σ o mo b z) (hlo : s.heap.size ≤ z) (hz : H.size = z) (hP : gH D ka σ H) (hL : gL s.heap.size σ) (hS : va_S (gA s.heap.size) s.heap H locs) (hl : lv_has ls 4 [(0, .ref B), (1, .ref o), (2, .ref mo), (3, .int (nI (4 * kc)))]) (kk : ∀ (τ : gS) (z1 : Nat) (H1 : Heap) (locs1 : List Loc), LwI τ o mo b z1 → s.heap.size ≤ z1 → H1.size = z1 → gH D ka τ H1 → gL s.heap.size τ → va_S (gA s.heap.size) s.heap H1 locs1 → W p l e room_1 s m #[Value.ref B] below meth c H1 locs1 (100 + 17 * kc + 17) (12000 + 789 * kc + 789) Q (F0 m 840 ls [])) : W p l e room_1 s m #[Value.ref B] below meth c H locs (100 + 17 * kc) (12000 + 789 * kc) Q (F0 m 478 ls []) := by
  have hbA : ¬ gA s.heap.size B := Nat.not_le.mpr hBl
  obtain ⟨S, tf, tn, P, C, kp, hW, hM, hA⟩ := hI
  obtain ⟨hP5, htn⟩ := hM.p5
  obtain ⟨fo, ho0⟩ := hW.c0
  refine lv_aload_n hx hb dL_law_478 rfl (lv_at hl 1 rfl) ?_
  refine lv_aload_n hx hb dL_law_479 rfl (lv_at hl 0 rfl) ?_
  refine lv_iload_n hx hb dL_law_480 rfl (lv_at hl 3 rfl) ?_
  refine lv_iconst (v := (nI 1)) hx hb dL_law_481 (by decide) ?_
  refine lv_iadd hx hb dL_law_482 ?_
  refine g_top (nI_add (4 * kc) 1) ?_
  refine va_sld (i := nI ((4 * kc) + 1)) hx hb hX hBl hbA hS (vp_in_nI (by omega) (by omega)) dL_law_483 ?_
  rw [nI_clamp (n := (4 * kc) + 1) (by omega)]
  refine g_runV (As := [.int (xs ((4 * kc) + 1))]) (rest := []) (own := RL) (C := RX7) (T := TX7) (N := 7) 1 hx hb hml hown hts hK hz hP hL hS hlo hl.1 (c_X7_setReserve l o b S tf tn P C kp ((xs ((4 * kc) + 1))) σ z hW hA.ok) gL_law_X7_setReserve rfl rfl rfl (by decide +kernel) ⟨Nat.le_of_ble_eq_true rfl, Nat.le_of_ble_eq_true rfl⟩ ho0 rfl rfl rfl (Nat.le_of_ble_eq_true rfl) dL_law_484 ⟨(show _ ≤ 600000 by omega), (show _ ≤ 7302250 by omega)⟩ (g_kxi (fun r1 τ1 H locs z1 hz hp hP hL hS => ?_))
  have hlo : s.heap.size ≤ z1 := Nat.le_trans hlo hp.2.2.1
  have hM1 := lw_me hM hp.2.2.2.2 hmo hbo
  obtain ⟨fm, hm0⟩ := hM1.c0
  refine lv_aload_n hx hb dL_law_487 rfl (lv_at hl 2 rfl) ?_
  refine lv_aload_n hx hb dL_law_488 rfl (lv_at hl 0 rfl) ?_
  refine lv_iload_n hx hb dL_law_489 rfl (lv_at hl 3 rfl) ?_
  refine lv_iconst (v := (nI 1)) hx hb dL_law_490 (by decide) ?_
  refine lv_iadd hx hb dL_law_491 ?_
  refine g_top (nI_add (4 * kc) 1) ?_
  refine va_sld (i := nI ((4 * kc) + 1)) hx hb hX hBl hbA hS (vp_in_nI (by omega) (by omega)) dL_law_492 ?_
  rw [nI_clamp (n := (4 * kc) + 1) (by omega)]
  refine g_runV (As := [.int (xs ((4 * kc) + 1))]) (rest := [.int r1]) (own := RL) (C := RX8) (T := TX8) (N := 20) 1 hx hb hml hown hts hK hz hP hL hS hlo hl.1 (c_X8_setReserve l mo S tf tn P C kp ((xs ((4 * kc) + 1))) τ1 z1 hM1 hA.ok hA.okC) gL_law_X8_setReserve rfl rfl rfl (by decide +kernel) ⟨Nat.le_of_ble_eq_true rfl, Nat.le_of_ble_eq_true rfl⟩ hm0 rfl rfl rfl (Nat.le_of_ble_eq_true rfl) dL_law_493 ⟨(show _ ≤ 600000 by omega), (show _ ≤ 7302250 by omega)⟩ (g_kxi0 (fun r2 τ2 H locs z2 hz hp2 hP hL hS => ?_))
  obtain ⟨hr9, hz9, hI9⟩ := law_act hp hp2 hmo hbo hA hP5 (fun S2 e => ox_setReserve hA.1 e)
  have hz := hz.trans hz9
  refine lv_icmp_eq (tgt := 840) hx hb dL_law_496 (by decide) (fun c496 => ?_) (fun c496 => by first | exact absurd hr9 c496 | exact absurd hr9.symm c496)
  exact kk τ2 z1 H locs hI9 hlo hz hP hL hS

set_option maxHeartbeats 4000000 in
set_option maxRecDepth 100000 in
theorem law_c11 {p : Program} {l : Launch} {e : Env} {s : State} {m : MethodId} {below : List Frame} {meth : Method} {c : Code} {Q : State → Prop} {D : va_G} {ka : Nat → ClassId} {B L o mo b kc : Nat} {xs : Nat → Int32} (hx : p.tables.exec = Jvm.exec) (hb : c.code = code) (hml : c.maxLocals = 4) (hown : s.vm.findClass RL = some m.cls) (hts : ∀ w ∈ wsL_law, w.before #[Value.ref B] s = true) (hK : gK D ka s) (hX : va_X B L xs s s.heap) (hBl : B < s.heap.size) (hL2 : L ≤ 2048) (hk : 4 * kc + 4 ≤ L) (hmo : mo = o + 39) (hbo : o + 55 ≤ b) {σ : gS} {z : Nat} {H : Heap} {locs : List Loc} {ls : Array Slot} (hI : LwI σ o mo b z) (hlo : s.heap.size ≤ z) (hz : H.size = z) (hP : gH D ka σ H) (hL : gL s.heap.size σ) (hS : va_S (gA s.heap.size) s.heap H locs) (hl : lv_has ls 4 [(0, .ref B), (1, .ref o), (2, .ref mo), (3, .int (nI (4 * kc)))]) (kk : ∀ (τ : gS) (z1 : Nat) (H1 : Heap) (locs1 : List Loc), LwI τ o mo b z1 → s.heap.size ≤ z1 → H1.size = z1 → gH D ka τ H1 → gL s.heap.size τ → va_S (gA s.heap.size) s.heap H1 locs1 → W p l e room_1 s m #[Value.ref B] below meth c H1 locs1 (100 + 17 * kc + 17) (12000 + 789 * kc + 789) Q (F0 m 840 ls [])) : W p l e room_1 s m #[Value.ref B] below meth c H locs (100 + 17 * kc) (12000 + 789 * kc) Q (F0 m 501 ls []) := by
  have hbA : ¬ gA s.heap.size B := Nat.not_le.mpr hBl
  obtain ⟨S, tf, tn, P, C, kp, hW, hM, hA⟩ := hI
  obtain ⟨hP5, htn⟩ := hM.p5
  obtain ⟨fo, ho0⟩ := hW.c0
  refine lv_aload_n hx hb dL_law_501 rfl (lv_at hl 1 rfl) ?_
  refine g_runV (As := []) (rest := []) (own := RL) (C := RX7) (T := TX7) (N := 7) 0 hx hb hml hown hts hK hz hP hL hS hlo hl.1 (c_X7_make l o b S tf tn P C kp (cntF (presB S) (sN S)) σ z hW hA.ok hA.1.np (Nat.le_trans (cntF_le _ _) hA.ok.2.1)) gL_law_X7_make rfl rfl rfl (by decide +kernel) ⟨Nat.le_of_ble_eq_true rfl, Nat.le_of_ble_eq_true rfl⟩ ho0 rfl rfl rfl (Nat.le_of_ble_eq_true rfl) dL_law_502 ⟨(show _ ≤ 600000 by omega), (show _ ≤ 7302250 by omega)⟩ (g_kxi (fun r1 τ1 H locs z1 hz hp hP hL hS => ?_))
  have hlo : s.heap.size ≤ z1 := Nat.le_trans hlo hp.2.2.1
  have hM1 := lw_me hM hp.2.2.2.2 hmo hbo
  obtain ⟨fm, hm0⟩ := hM1.c0
  refine lv_aload_n hx hb dL_law_505 rfl (lv_at hl 2 rfl) ?_
  refine g_runV (As := []) (rest := [.int r1]) (own := RL) (C := RX8) (T := TX8) (N := 20) 0 hx hb hml hown hts hK hz hP hL hS hlo hl.1 (c_X8_make l mo S tf tn P C kp (cntF (presB S) (sN S)) τ1 z1 hM1 hA.ok hA.okC hA.1.2.1 rfl (Nat.le_trans (cntF_le _ _) hA.ok.2.1)) gL_law_X8_make rfl rfl rfl (by decide +kernel) ⟨Nat.le_of_ble_eq_true rfl, Nat.le_of_ble_eq_true rfl⟩ hm0 rfl rfl rfl (Nat.le_of_ble_eq_true rfl) dL_law_506 ⟨(show _ ≤ 600000 by omega), (show _ ≤ 7302250 by omega)⟩ (g_kxi0 (fun r2 τ2 H locs z2 hz hp2 hP hL hS => ?_))
  obtain ⟨hr9, hz9, hI9⟩ := law_act hp hp2 hmo hbo hA hP5 (fun S2 e => ox_make hA.1 e)
  have hz := hz.trans hz9
  refine lv_icmp_eq (tgt := 840) hx hb dL_law_509 (by decide) (fun c509 => ?_) (fun c509 => by first | exact absurd hr9 c509 | exact absurd hr9.symm c509)
  exact kk τ2 z1 H locs hI9 hlo hz hP hL hS

set_option maxHeartbeats 4000000 in
set_option maxRecDepth 100000 in
theorem law_c12 {p : Program} {l : Launch} {e : Env} {s : State} {m : MethodId} {below : List Frame} {meth : Method} {c : Code} {Q : State → Prop} {D : va_G} {ka : Nat → ClassId} {B L o mo b kc : Nat} {xs : Nat → Int32} (hx : p.tables.exec = Jvm.exec) (hb : c.code = code) (hml : c.maxLocals = 4) (hown : s.vm.findClass RL = some m.cls) (hts : ∀ w ∈ wsL_law, w.before #[Value.ref B] s = true) (hK : gK D ka s) (hX : va_X B L xs s s.heap) (hBl : B < s.heap.size) (hL2 : L ≤ 2048) (hk : 4 * kc + 4 ≤ L) (hmo : mo = o + 39) (hbo : o + 55 ≤ b) {σ : gS} {z : Nat} {H : Heap} {locs : List Loc} {ls : Array Slot} (hI : LwI σ o mo b z) (hlo : s.heap.size ≤ z) (hz : H.size = z) (hP : gH D ka σ H) (hL : gL s.heap.size σ) (hS : va_S (gA s.heap.size) s.heap H locs) (hl : lv_has ls 4 [(0, .ref B), (1, .ref o), (2, .ref mo), (3, .int (nI (4 * kc)))]) (kk : ∀ (τ : gS) (z1 : Nat) (H1 : Heap) (locs1 : List Loc), LwI τ o mo b z1 → s.heap.size ≤ z1 → H1.size = z1 → gH D ka τ H1 → gL s.heap.size τ → va_S (gA s.heap.size) s.heap H1 locs1 → W p l e room_1 s m #[Value.ref B] below meth c H1 locs1 (100 + 17 * kc + 17) (12000 + 789 * kc + 789) Q (F0 m 840 ls [])) : W p l e room_1 s m #[Value.ref B] below meth c H locs (100 + 17 * kc) (12000 + 789 * kc) Q (F0 m 514 ls []) := by
  have hbA : ¬ gA s.heap.size B := Nat.not_le.mpr hBl
  obtain ⟨S, tf, tn, P, C, kp, hW, hM, hA⟩ := hI
  obtain ⟨hP5, htn⟩ := hM.p5
  obtain ⟨fo, ho0⟩ := hW.c0
  refine lv_aload_n hx hb dL_law_514 rfl (lv_at hl 1 rfl) ?_
  refine g_runV (As := []) (rest := []) (own := RL) (C := RX7) (T := TX7) (N := 7) 0 hx hb hml hown hts hK hz hP hL hS hlo hl.1 (c_X7_undo l o b S tf tn P C kp σ z hW hA.ok hA.okC) gL_law_X7_undo rfl rfl rfl (by decide +kernel) ⟨Nat.le_of_ble_eq_true rfl, Nat.le_of_ble_eq_true rfl⟩ ho0 rfl rfl rfl (Nat.le_of_ble_eq_true rfl) dL_law_515 ⟨(show _ ≤ 600000 by omega), (show _ ≤ 7302250 by omega)⟩ (g_kxi (fun r1 τ1 H locs z1 hz hp hP hL hS => ?_))
  have hlo : s.heap.size ≤ z1 := Nat.le_trans hlo hp.2.2.1
  have hM1 := lw_me hM hp.2.2.2.2 hmo hbo
  obtain ⟨fm, hm0⟩ := hM1.c0
  refine lv_aload_n hx hb dL_law_518 rfl (lv_at hl 2 rfl) ?_
  refine g_runV (As := []) (rest := [.int r1]) (own := RL) (C := RX8) (T := TX8) (N := 20) 0 hx hb hml hown hts hK hz hP hL hS hlo hl.1 (c_X8_undo l mo S tf tn P C kp τ1 z1 hM1 hA.ok hA.okC) gL_law_X8_undo rfl rfl rfl (by decide +kernel) ⟨Nat.le_of_ble_eq_true rfl, Nat.le_of_ble_eq_true rfl⟩ hm0 rfl rfl rfl (Nat.le_of_ble_eq_true rfl) dL_law_519 ⟨(show _ ≤ 600000 by omega), (show _ ≤ 7302250 by omega)⟩ (g_kxi0 (fun r2 τ2 H locs z2 hz hp2 hP hL hS => ?_))
  obtain ⟨hr9, hz9, hI9⟩ := law_tell hp hp2 hmo hbo hA.und
  have hz := hz.trans hz9
  refine lv_icmp_eq (tgt := 840) hx hb dL_law_522 (by decide) (fun c522 => ?_) (fun c522 => by first | exact absurd hr9 c522 | exact absurd hr9.symm c522)
  exact kk τ2 z1 H locs hI9 hlo hz hP hL hS

set_option maxHeartbeats 4000000 in
set_option maxRecDepth 100000 in
theorem law_c13 {p : Program} {l : Launch} {e : Env} {s : State} {m : MethodId} {below : List Frame} {meth : Method} {c : Code} {Q : State → Prop} {D : va_G} {ka : Nat → ClassId} {B L o mo b kc : Nat} {xs : Nat → Int32} (hx : p.tables.exec = Jvm.exec) (hb : c.code = code) (hml : c.maxLocals = 4) (hown : s.vm.findClass RL = some m.cls) (hts : ∀ w ∈ wsL_law, w.before #[Value.ref B] s = true) (hK : gK D ka s) (hX : va_X B L xs s s.heap) (hBl : B < s.heap.size) (hL2 : L ≤ 2048) (hk : 4 * kc + 4 ≤ L) (hmo : mo = o + 39) (hbo : o + 55 ≤ b) {σ : gS} {z : Nat} {H : Heap} {locs : List Loc} {ls : Array Slot} (hI : LwI σ o mo b z) (hlo : s.heap.size ≤ z) (hz : H.size = z) (hP : gH D ka σ H) (hL : gL s.heap.size σ) (hS : va_S (gA s.heap.size) s.heap H locs) (hl : lv_has ls 4 [(0, .ref B), (1, .ref o), (2, .ref mo), (3, .int (nI (4 * kc)))]) (kk : ∀ (τ : gS) (z1 : Nat) (H1 : Heap) (locs1 : List Loc), LwI τ o mo b z1 → s.heap.size ≤ z1 → H1.size = z1 → gH D ka τ H1 → gL s.heap.size τ → va_S (gA s.heap.size) s.heap H1 locs1 → W p l e room_1 s m #[Value.ref B] below meth c H1 locs1 (100 + 17 * kc + 17) (12000 + 789 * kc + 789) Q (F0 m 840 ls [])) : W p l e room_1 s m #[Value.ref B] below meth c H locs (100 + 17 * kc) (12000 + 789 * kc) Q (F0 m 527 ls []) := by
  have hbA : ¬ gA s.heap.size B := Nat.not_le.mpr hBl
  obtain ⟨S, tf, tn, P, C, kp, hW, hM, hA⟩ := hI
  obtain ⟨hP5, htn⟩ := hM.p5
  obtain ⟨fo, ho0⟩ := hW.c0
  refine lv_aload_n hx hb dL_law_527 rfl (lv_at hl 1 rfl) ?_
  refine lv_aload_n hx hb dL_law_528 rfl (lv_at hl 0 rfl) ?_
  refine lv_iload_n hx hb dL_law_529 rfl (lv_at hl 3 rfl) ?_
  refine lv_iconst (v := (nI 1)) hx hb dL_law_530 (by decide) ?_
  refine lv_iadd hx hb dL_law_531 ?_
  refine g_top (nI_add (4 * kc) 1) ?_
  refine va_sld (i := nI ((4 * kc) + 1)) hx hb hX hBl hbA hS (vp_in_nI (by omega) (by omega)) dL_law_532 ?_
  rw [nI_clamp (n := (4 * kc) + 1) (by omega)]
  refine g_runV (As := [.int (xs ((4 * kc) + 1))]) (rest := []) (own := RL) (C := RX7) (T := TX7) (N := 7) 1 hx hb hml hown hts hK hz hP hL hS hlo hl.1 (c_X7_keep l o b S tf tn P C kp ((xs ((4 * kc) + 1))) σ z hW hA.ok) gL_law_X7_keep rfl rfl rfl (by decide +kernel) ⟨Nat.le_of_ble_eq_true rfl, Nat.le_of_ble_eq_true rfl⟩ ho0 rfl rfl rfl (Nat.le_of_ble_eq_true rfl) dL_law_533 ⟨(show _ ≤ 600000 by omega), (show _ ≤ 7302250 by omega)⟩ (g_kxi (fun r1 τ1 H locs z1 hz hp hP hL hS => ?_))
  have hlo : s.heap.size ≤ z1 := Nat.le_trans hlo hp.2.2.1
  have hM1 := lw_me hM hp.2.2.2.2 hmo hbo
  obtain ⟨fm, hm0⟩ := hM1.c0
  refine lv_aload_n hx hb dL_law_536 rfl (lv_at hl 2 rfl) ?_
  refine lv_aload_n hx hb dL_law_537 rfl (lv_at hl 0 rfl) ?_
  refine lv_iload_n hx hb dL_law_538 rfl (lv_at hl 3 rfl) ?_
  refine lv_iconst (v := (nI 1)) hx hb dL_law_539 (by decide) ?_
  refine lv_iadd hx hb dL_law_540 ?_
  refine g_top (nI_add (4 * kc) 1) ?_
  refine va_sld (i := nI ((4 * kc) + 1)) hx hb hX hBl hbA hS (vp_in_nI (by omega) (by omega)) dL_law_541 ?_
  rw [nI_clamp (n := (4 * kc) + 1) (by omega)]
  refine g_runV (As := [.int (xs ((4 * kc) + 1))]) (rest := [.int r1]) (own := RL) (C := RX8) (T := TX8) (N := 20) 1 hx hb hml hown hts hK hz hP hL hS hlo hl.1 (c_X8_keep l mo S tf tn P C kp ((xs ((4 * kc) + 1))) τ1 z1 hM1 hA.ok hA.okC hA.okK) gL_law_X8_keep rfl rfl rfl (by decide +kernel) ⟨Nat.le_of_ble_eq_true rfl, Nat.le_of_ble_eq_true rfl⟩ hm0 rfl rfl rfl (Nat.le_of_ble_eq_true rfl) dL_law_542 ⟨(show _ ≤ 600000 by omega), (show _ ≤ 7302250 by omega)⟩ (g_kxi0 (fun r2 τ2 H locs z2 hz hp2 hP hL hS => ?_))
  obtain ⟨hr9, hz9, hI9⟩ := law_tell hp hp2 hmo hbo (hA.kee hP5)
  have hz := hz.trans hz9
  refine lv_icmp_eq (tgt := 840) hx hb dL_law_545 (by decide) (fun c545 => ?_) (fun c545 => by first | exact absurd hr9 c545 | exact absurd hr9.symm c545)
  exact kk τ2 z1 H locs hI9 hlo hz hP hL hS

set_option maxHeartbeats 4000000 in
set_option maxRecDepth 100000 in
theorem law_c14 {p : Program} {l : Launch} {e : Env} {s : State} {m : MethodId} {below : List Frame} {meth : Method} {c : Code} {Q : State → Prop} {D : va_G} {ka : Nat → ClassId} {B L o mo b kc : Nat} {xs : Nat → Int32} (hx : p.tables.exec = Jvm.exec) (hb : c.code = code) (hml : c.maxLocals = 4) (hown : s.vm.findClass RL = some m.cls) (hts : ∀ w ∈ wsL_law, w.before #[Value.ref B] s = true) (hK : gK D ka s) (hX : va_X B L xs s s.heap) (hBl : B < s.heap.size) (hL2 : L ≤ 2048) (hk : 4 * kc + 4 ≤ L) (hmo : mo = o + 39) (hbo : o + 55 ≤ b) {σ : gS} {z : Nat} {H : Heap} {locs : List Loc} {ls : Array Slot} (hI : LwI σ o mo b z) (hlo : s.heap.size ≤ z) (hz : H.size = z) (hP : gH D ka σ H) (hL : gL s.heap.size σ) (hS : va_S (gA s.heap.size) s.heap H locs) (hl : lv_has ls 4 [(0, .ref B), (1, .ref o), (2, .ref mo), (3, .int (nI (4 * kc)))]) (kk : ∀ (τ : gS) (z1 : Nat) (H1 : Heap) (locs1 : List Loc), LwI τ o mo b z1 → s.heap.size ≤ z1 → H1.size = z1 → gH D ka τ H1 → gL s.heap.size τ → va_S (gA s.heap.size) s.heap H1 locs1 → W p l e room_1 s m #[Value.ref B] below meth c H1 locs1 (100 + 17 * kc + 17) (12000 + 789 * kc + 789) Q (F0 m 840 ls [])) : W p l e room_1 s m #[Value.ref B] below meth c H locs (100 + 17 * kc) (12000 + 789 * kc) Q (F0 m 550 ls []) := by
  have hbA : ¬ gA s.heap.size B := Nat.not_le.mpr hBl
  obtain ⟨S, tf, tn, P, C, kp, hW, hM, hA⟩ := hI
  obtain ⟨hP5, htn⟩ := hM.p5
  obtain ⟨fo, ho0⟩ := hW.c0
  refine lv_aload_n hx hb dL_law_550 rfl (lv_at hl 1 rfl) ?_
  refine lv_aload_n hx hb dL_law_551 rfl (lv_at hl 0 rfl) ?_
  refine lv_iload_n hx hb dL_law_552 rfl (lv_at hl 3 rfl) ?_
  refine lv_iconst (v := (nI 1)) hx hb dL_law_553 (by decide) ?_
  refine lv_iadd hx hb dL_law_554 ?_
  refine g_top (nI_add (4 * kc) 1) ?_
  refine va_sld (i := nI ((4 * kc) + 1)) hx hb hX hBl hbA hS (vp_in_nI (by omega) (by omega)) dL_law_555 ?_
  rw [nI_clamp (n := (4 * kc) + 1) (by omega)]
  refine g_runV (As := [.int (xs ((4 * kc) + 1))]) (rest := []) (own := RL) (C := RX7) (T := TX7) (N := 7) 1 hx hb hml hown hts hK hz hP hL hS hlo hl.1 (c_X7_restore l o b S tf tn P C kp ((xs ((4 * kc) + 1))) σ z hW hA.ok hA.okK) gL_law_X7_restore rfl rfl rfl (by decide +kernel) ⟨Nat.le_of_ble_eq_true rfl, Nat.le_of_ble_eq_true rfl⟩ ho0 rfl rfl rfl (Nat.le_of_ble_eq_true rfl) dL_law_556 ⟨(show _ ≤ 600000 by omega), (show _ ≤ 7302250 by omega)⟩ (g_kxi (fun r1 τ1 H locs z1 hz hp hP hL hS => ?_))
  have hlo : s.heap.size ≤ z1 := Nat.le_trans hlo hp.2.2.1
  have hM1 := lw_me hM hp.2.2.2.2 hmo hbo
  obtain ⟨fm, hm0⟩ := hM1.c0
  refine lv_aload_n hx hb dL_law_559 rfl (lv_at hl 2 rfl) ?_
  refine lv_aload_n hx hb dL_law_560 rfl (lv_at hl 0 rfl) ?_
  refine lv_iload_n hx hb dL_law_561 rfl (lv_at hl 3 rfl) ?_
  refine lv_iconst (v := (nI 1)) hx hb dL_law_562 (by decide) ?_
  refine lv_iadd hx hb dL_law_563 ?_
  refine g_top (nI_add (4 * kc) 1) ?_
  refine va_sld (i := nI ((4 * kc) + 1)) hx hb hX hBl hbA hS (vp_in_nI (by omega) (by omega)) dL_law_564 ?_
  rw [nI_clamp (n := (4 * kc) + 1) (by omega)]
  refine g_runV (As := [.int (xs ((4 * kc) + 1))]) (rest := [.int r1]) (own := RL) (C := RX8) (T := TX8) (N := 20) 1 hx hb hml hown hts hK hz hP hL hS hlo hl.1 (c_X8_restore l mo S tf tn P C kp ((xs ((4 * kc) + 1))) τ1 z1 hM1 hA.ok hA.okC hA.okK) gL_law_X8_restore rfl rfl rfl (by decide +kernel) ⟨Nat.le_of_ble_eq_true rfl, Nat.le_of_ble_eq_true rfl⟩ hm0 rfl rfl rfl (Nat.le_of_ble_eq_true rfl) dL_law_565 ⟨(show _ ≤ 600000 by omega), (show _ ≤ 7302250 by omega)⟩ (g_kxi0 (fun r2 τ2 H locs z2 hz hp2 hP hL hS => ?_))
  obtain ⟨hr9, hz9, hI9⟩ := law_act hp hp2 hmo hbo hA hP5 (fun S2 e => ox_restore hA.2.2 e)
  have hz := hz.trans hz9
  refine lv_icmp_eq (tgt := 840) hx hb dL_law_568 (by decide) (fun c568 => ?_) (fun c568 => by first | exact absurd hr9 c568 | exact absurd hr9.symm c568)
  exact kk τ2 z1 H locs hI9 hlo hz hP hL hS

set_option maxHeartbeats 4000000 in
set_option maxRecDepth 100000 in
theorem law_c15 {p : Program} {l : Launch} {e : Env} {s : State} {m : MethodId} {below : List Frame} {meth : Method} {c : Code} {Q : State → Prop} {D : va_G} {ka : Nat → ClassId} {B L o mo b kc : Nat} {xs : Nat → Int32} (hx : p.tables.exec = Jvm.exec) (hb : c.code = code) (hml : c.maxLocals = 4) (hown : s.vm.findClass RL = some m.cls) (hts : ∀ w ∈ wsL_law, w.before #[Value.ref B] s = true) (hK : gK D ka s) (hX : va_X B L xs s s.heap) (hBl : B < s.heap.size) (hL2 : L ≤ 2048) (hk : 4 * kc + 4 ≤ L) (hmo : mo = o + 39) (hbo : o + 55 ≤ b) {σ : gS} {z : Nat} {H : Heap} {locs : List Loc} {ls : Array Slot} (hI : LwI σ o mo b z) (hlo : s.heap.size ≤ z) (hz : H.size = z) (hP : gH D ka σ H) (hL : gL s.heap.size σ) (hS : va_S (gA s.heap.size) s.heap H locs) (hl : lv_has ls 4 [(0, .ref B), (1, .ref o), (2, .ref mo), (3, .int (nI (4 * kc)))]) (kk : ∀ (τ : gS) (z1 : Nat) (H1 : Heap) (locs1 : List Loc), LwI τ o mo b z1 → s.heap.size ≤ z1 → H1.size = z1 → gH D ka τ H1 → gL s.heap.size τ → va_S (gA s.heap.size) s.heap H1 locs1 → W p l e room_1 s m #[Value.ref B] below meth c H1 locs1 (100 + 17 * kc + 17) (12000 + 789 * kc + 789) Q (F0 m 840 ls [])) : W p l e room_1 s m #[Value.ref B] below meth c H locs (100 + 17 * kc) (12000 + 789 * kc) Q (F0 m 573 ls []) := by
  have hbA : ¬ gA s.heap.size B := Nat.not_le.mpr hBl
  obtain ⟨S, tf, tn, P, C, kp, hW, hM, hA⟩ := hI
  obtain ⟨hP5, htn⟩ := hM.p5
  obtain ⟨fo, ho0⟩ := hW.c0
  refine lv_aload_n hx hb dL_law_573 rfl (lv_at hl 1 rfl) ?_
  refine lv_aload_n hx hb dL_law_574 rfl (lv_at hl 0 rfl) ?_
  refine lv_iload_n hx hb dL_law_575 rfl (lv_at hl 3 rfl) ?_
  refine lv_iconst (v := (nI 1)) hx hb dL_law_576 (by decide) ?_
  refine lv_iadd hx hb dL_law_577 ?_
  refine g_top (nI_add (4 * kc) 1) ?_
  refine va_sld (i := nI ((4 * kc) + 1)) hx hb hX hBl hbA hS (vp_in_nI (by omega) (by omega)) dL_law_578 ?_
  rw [nI_clamp (n := (4 * kc) + 1) (by omega)]
  refine lv_aload_n hx hb dL_law_579 rfl (lv_at hl 0 rfl) ?_
  refine lv_iload_n hx hb dL_law_580 rfl (lv_at hl 3 rfl) ?_
  refine lv_iconst (v := (nI 2)) hx hb dL_law_581 (by decide) ?_
  refine lv_iadd hx hb dL_law_582 ?_
  refine g_top (nI_add (4 * kc) 2) ?_
  refine va_sld (i := nI ((4 * kc) + 2)) hx hb hX hBl hbA hS (vp_in_nI (by omega) (by omega)) dL_law_583 ?_
  rw [nI_clamp (n := (4 * kc) + 2) (by omega)]
  refine g_runV (As := [.int (xs ((4 * kc) + 1)), .int (xs ((4 * kc) + 2))]) (rest := []) (own := RL) (C := RX7) (T := TX7) (N := 7) 2 hx hb hml hown hts hK hz hP hL hS hlo hl.1 (c_X7_beat l o b S tf tn P C kp ((xs ((4 * kc) + 1))) ((xs ((4 * kc) + 2))) σ z hW hA.ok) gL_law_X7_beat rfl rfl rfl (by decide +kernel) ⟨Nat.le_of_ble_eq_true rfl, Nat.le_of_ble_eq_true rfl⟩ ho0 rfl rfl rfl (Nat.le_of_ble_eq_true rfl) dL_law_584 ⟨(show _ ≤ 600000 by omega), (show _ ≤ 7302250 by omega)⟩ (g_kxi (fun r1 τ1 H locs z1 hz hp hP hL hS => ?_))
  have hlo : s.heap.size ≤ z1 := Nat.le_trans hlo hp.2.2.1
  have hM1 := lw_me hM hp.2.2.2.2 hmo hbo
  obtain ⟨fm, hm0⟩ := hM1.c0
  refine lv_aload_n hx hb dL_law_587 rfl (lv_at hl 2 rfl) ?_
  refine lv_aload_n hx hb dL_law_588 rfl (lv_at hl 0 rfl) ?_
  refine lv_iload_n hx hb dL_law_589 rfl (lv_at hl 3 rfl) ?_
  refine lv_iconst (v := (nI 1)) hx hb dL_law_590 (by decide) ?_
  refine lv_iadd hx hb dL_law_591 ?_
  refine g_top (nI_add (4 * kc) 1) ?_
  refine va_sld (i := nI ((4 * kc) + 1)) hx hb hX hBl hbA hS (vp_in_nI (by omega) (by omega)) dL_law_592 ?_
  rw [nI_clamp (n := (4 * kc) + 1) (by omega)]
  refine lv_aload_n hx hb dL_law_593 rfl (lv_at hl 0 rfl) ?_
  refine lv_iload_n hx hb dL_law_594 rfl (lv_at hl 3 rfl) ?_
  refine lv_iconst (v := (nI 2)) hx hb dL_law_595 (by decide) ?_
  refine lv_iadd hx hb dL_law_596 ?_
  refine g_top (nI_add (4 * kc) 2) ?_
  refine va_sld (i := nI ((4 * kc) + 2)) hx hb hX hBl hbA hS (vp_in_nI (by omega) (by omega)) dL_law_597 ?_
  rw [nI_clamp (n := (4 * kc) + 2) (by omega)]
  refine g_runV (As := [.int (xs ((4 * kc) + 1)), .int (xs ((4 * kc) + 2))]) (rest := [.int r1]) (own := RL) (C := RX8) (T := TX8) (N := 20) 2 hx hb hml hown hts hK hz hP hL hS hlo hl.1 (c_X8_beat l mo S tf tn P C kp ((xs ((4 * kc) + 1))) ((xs ((4 * kc) + 2))) τ1 z1 hM1 hA.ok hA.okC) gL_law_X8_beat rfl rfl rfl (by decide +kernel) ⟨Nat.le_of_ble_eq_true rfl, Nat.le_of_ble_eq_true rfl⟩ hm0 rfl rfl rfl (Nat.le_of_ble_eq_true rfl) dL_law_598 ⟨(show _ ≤ 600000 by omega), (show _ ≤ 7302250 by omega)⟩ (g_kxi0 (fun r2 τ2 H locs z2 hz hp2 hP hL hS => ?_))
  obtain ⟨hr9, hz9, hI9⟩ := law_tell hp hp2 hmo hbo hA
  have hz := hz.trans hz9
  refine lv_icmp_eq (tgt := 840) hx hb dL_law_601 (by decide) (fun c601 => ?_) (fun c601 => by first | exact absurd hr9 c601 | exact absurd hr9.symm c601)
  exact kk τ2 z1 H locs hI9 hlo hz hP hL hS

set_option maxHeartbeats 4000000 in
set_option maxRecDepth 100000 in
theorem law_c16 {p : Program} {l : Launch} {e : Env} {s : State} {m : MethodId} {below : List Frame} {meth : Method} {c : Code} {Q : State → Prop} {D : va_G} {ka : Nat → ClassId} {B L o mo b kc : Nat} {xs : Nat → Int32} (hx : p.tables.exec = Jvm.exec) (hb : c.code = code) (hml : c.maxLocals = 4) (hown : s.vm.findClass RL = some m.cls) (hts : ∀ w ∈ wsL_law, w.before #[Value.ref B] s = true) (hK : gK D ka s) (hX : va_X B L xs s s.heap) (hBl : B < s.heap.size) (hL2 : L ≤ 2048) (hk : 4 * kc + 4 ≤ L) (hmo : mo = o + 39) (hbo : o + 55 ≤ b) {σ : gS} {z : Nat} {H : Heap} {locs : List Loc} {ls : Array Slot} (hI : LwI σ o mo b z) (hlo : s.heap.size ≤ z) (hz : H.size = z) (hP : gH D ka σ H) (hL : gL s.heap.size σ) (hS : va_S (gA s.heap.size) s.heap H locs) (hl : lv_has ls 4 [(0, .ref B), (1, .ref o), (2, .ref mo), (3, .int (nI (4 * kc)))]) (kk : ∀ (τ : gS) (z1 : Nat) (H1 : Heap) (locs1 : List Loc), LwI τ o mo b z1 → s.heap.size ≤ z1 → H1.size = z1 → gH D ka τ H1 → gL s.heap.size τ → va_S (gA s.heap.size) s.heap H1 locs1 → W p l e room_1 s m #[Value.ref B] below meth c H1 locs1 (100 + 17 * kc + 17) (12000 + 789 * kc + 789) Q (F0 m 840 ls [])) : W p l e room_1 s m #[Value.ref B] below meth c H locs (100 + 17 * kc) (12000 + 789 * kc) Q (F0 m 606 ls []) := by
  have hbA : ¬ gA s.heap.size B := Nat.not_le.mpr hBl
  obtain ⟨S, tf, tn, P, C, kp, hW, hM, hA⟩ := hI
  obtain ⟨hP5, htn⟩ := hM.p5
  obtain ⟨fo, ho0⟩ := hW.c0
  refine lv_aload_n hx hb dL_law_606 rfl (lv_at hl 1 rfl) ?_
  refine lv_aload_n hx hb dL_law_607 rfl (lv_at hl 0 rfl) ?_
  refine lv_iload_n hx hb dL_law_608 rfl (lv_at hl 3 rfl) ?_
  refine lv_iconst (v := (nI 1)) hx hb dL_law_609 (by decide) ?_
  refine lv_iadd hx hb dL_law_610 ?_
  refine g_top (nI_add (4 * kc) 1) ?_
  refine va_sld (i := nI ((4 * kc) + 1)) hx hb hX hBl hbA hS (vp_in_nI (by omega) (by omega)) dL_law_611 ?_
  rw [nI_clamp (n := (4 * kc) + 1) (by omega)]
  refine lv_aload_n hx hb dL_law_612 rfl (lv_at hl 0 rfl) ?_
  refine lv_iload_n hx hb dL_law_613 rfl (lv_at hl 3 rfl) ?_
  refine lv_iconst (v := (nI 2)) hx hb dL_law_614 (by decide) ?_
  refine lv_iadd hx hb dL_law_615 ?_
  refine g_top (nI_add (4 * kc) 2) ?_
  refine va_sld (i := nI ((4 * kc) + 2)) hx hb hX hBl hbA hS (vp_in_nI (by omega) (by omega)) dL_law_616 ?_
  rw [nI_clamp (n := (4 * kc) + 2) (by omega)]
  refine g_runV (As := [.int (xs ((4 * kc) + 1)), .int (xs ((4 * kc) + 2))]) (rest := []) (own := RL) (C := RX7) (T := TX7) (N := 7) 2 hx hb hml hown hts hK hz hP hL hS hlo hl.1 (c_X7_singer l o b S tf tn P C kp ((xs ((4 * kc) + 1))) ((xs ((4 * kc) + 2))) σ z hW hA.ok) gL_law_X7_singer rfl rfl rfl (by decide +kernel) ⟨Nat.le_of_ble_eq_true rfl, Nat.le_of_ble_eq_true rfl⟩ ho0 rfl rfl rfl (Nat.le_of_ble_eq_true rfl) dL_law_617 ⟨(show _ ≤ 600000 by omega), (show _ ≤ 7302250 by omega)⟩ (g_kxi (fun r1 τ1 H locs z1 hz hp hP hL hS => ?_))
  have hlo : s.heap.size ≤ z1 := Nat.le_trans hlo hp.2.2.1
  have hM1 := lw_me hM hp.2.2.2.2 hmo hbo
  obtain ⟨fm, hm0⟩ := hM1.c0
  refine lv_aload_n hx hb dL_law_620 rfl (lv_at hl 2 rfl) ?_
  refine lv_aload_n hx hb dL_law_621 rfl (lv_at hl 0 rfl) ?_
  refine lv_iload_n hx hb dL_law_622 rfl (lv_at hl 3 rfl) ?_
  refine lv_iconst (v := (nI 1)) hx hb dL_law_623 (by decide) ?_
  refine lv_iadd hx hb dL_law_624 ?_
  refine g_top (nI_add (4 * kc) 1) ?_
  refine va_sld (i := nI ((4 * kc) + 1)) hx hb hX hBl hbA hS (vp_in_nI (by omega) (by omega)) dL_law_625 ?_
  rw [nI_clamp (n := (4 * kc) + 1) (by omega)]
  refine lv_aload_n hx hb dL_law_626 rfl (lv_at hl 0 rfl) ?_
  refine lv_iload_n hx hb dL_law_627 rfl (lv_at hl 3 rfl) ?_
  refine lv_iconst (v := (nI 2)) hx hb dL_law_628 (by decide) ?_
  refine lv_iadd hx hb dL_law_629 ?_
  refine g_top (nI_add (4 * kc) 2) ?_
  refine va_sld (i := nI ((4 * kc) + 2)) hx hb hX hBl hbA hS (vp_in_nI (by omega) (by omega)) dL_law_630 ?_
  rw [nI_clamp (n := (4 * kc) + 2) (by omega)]
  refine g_runV (As := [.int (xs ((4 * kc) + 1)), .int (xs ((4 * kc) + 2))]) (rest := [.int r1]) (own := RL) (C := RX8) (T := TX8) (N := 20) 2 hx hb hml hown hts hK hz hP hL hS hlo hl.1 (c_X8_singer l mo S tf tn P C kp ((xs ((4 * kc) + 1))) ((xs ((4 * kc) + 2))) τ1 z1 hM1 hA.ok hA.okC) gL_law_X8_singer rfl rfl rfl (by decide +kernel) ⟨Nat.le_of_ble_eq_true rfl, Nat.le_of_ble_eq_true rfl⟩ hm0 rfl rfl rfl (Nat.le_of_ble_eq_true rfl) dL_law_631 ⟨(show _ ≤ 600000 by omega), (show _ ≤ 7302250 by omega)⟩ (g_kxi0 (fun r2 τ2 H locs z2 hz hp2 hP hL hS => ?_))
  obtain ⟨hr9, hz9, hI9⟩ := law_tell hp hp2 hmo hbo hA
  have hz := hz.trans hz9
  refine lv_icmp_eq (tgt := 840) hx hb dL_law_634 (by decide) (fun c634 => ?_) (fun c634 => by first | exact absurd hr9 c634 | exact absurd hr9.symm c634)
  exact kk τ2 z1 H locs hI9 hlo hz hP hL hS

set_option maxHeartbeats 4000000 in
set_option maxRecDepth 100000 in
theorem law_c17 {p : Program} {l : Launch} {e : Env} {s : State} {m : MethodId} {below : List Frame} {meth : Method} {c : Code} {Q : State → Prop} {D : va_G} {ka : Nat → ClassId} {B L o mo b kc : Nat} {xs : Nat → Int32} (hx : p.tables.exec = Jvm.exec) (hb : c.code = code) (hml : c.maxLocals = 4) (hown : s.vm.findClass RL = some m.cls) (hts : ∀ w ∈ wsL_law, w.before #[Value.ref B] s = true) (hK : gK D ka s) (hX : va_X B L xs s s.heap) (hBl : B < s.heap.size) (hL2 : L ≤ 2048) (hk : 4 * kc + 4 ≤ L) (hmo : mo = o + 39) (hbo : o + 55 ≤ b) {σ : gS} {z : Nat} {H : Heap} {locs : List Loc} {ls : Array Slot} (hI : LwI σ o mo b z) (hlo : s.heap.size ≤ z) (hz : H.size = z) (hP : gH D ka σ H) (hL : gL s.heap.size σ) (hS : va_S (gA s.heap.size) s.heap H locs) (hl : lv_has ls 4 [(0, .ref B), (1, .ref o), (2, .ref mo), (3, .int (nI (4 * kc)))]) (kk : ∀ (τ : gS) (z1 : Nat) (H1 : Heap) (locs1 : List Loc), LwI τ o mo b z1 → s.heap.size ≤ z1 → H1.size = z1 → gH D ka τ H1 → gL s.heap.size τ → va_S (gA s.heap.size) s.heap H1 locs1 → W p l e room_1 s m #[Value.ref B] below meth c H1 locs1 (100 + 17 * kc + 17) (12000 + 789 * kc + 789) Q (F0 m 840 ls [])) : W p l e room_1 s m #[Value.ref B] below meth c H locs (100 + 17 * kc) (12000 + 789 * kc) Q (F0 m 639 ls []) := by
  have hbA : ¬ gA s.heap.size B := Nat.not_le.mpr hBl
  obtain ⟨S, tf, tn, P, C, kp, hW, hM, hA⟩ := hI
  obtain ⟨hP5, htn⟩ := hM.p5
  obtain ⟨fo, ho0⟩ := hW.c0
  refine lv_aload_n hx hb dL_law_639 rfl (lv_at hl 1 rfl) ?_
  refine lv_aload_n hx hb dL_law_640 rfl (lv_at hl 0 rfl) ?_
  refine lv_iload_n hx hb dL_law_641 rfl (lv_at hl 3 rfl) ?_
  refine lv_iconst (v := (nI 1)) hx hb dL_law_642 (by decide) ?_
  refine lv_iadd hx hb dL_law_643 ?_
  refine g_top (nI_add (4 * kc) 1) ?_
  refine va_sld (i := nI ((4 * kc) + 1)) hx hb hX hBl hbA hS (vp_in_nI (by omega) (by omega)) dL_law_644 ?_
  rw [nI_clamp (n := (4 * kc) + 1) (by omega)]
  refine lv_aload_n hx hb dL_law_645 rfl (lv_at hl 0 rfl) ?_
  refine lv_iload_n hx hb dL_law_646 rfl (lv_at hl 3 rfl) ?_
  refine lv_iconst (v := (nI 2)) hx hb dL_law_647 (by decide) ?_
  refine lv_iadd hx hb dL_law_648 ?_
  refine g_top (nI_add (4 * kc) 2) ?_
  refine va_sld (i := nI ((4 * kc) + 2)) hx hb hX hBl hbA hS (vp_in_nI (by omega) (by omega)) dL_law_649 ?_
  rw [nI_clamp (n := (4 * kc) + 2) (by omega)]
  refine g_runV (As := [.int (xs ((4 * kc) + 1)), .int (xs ((4 * kc) + 2))]) (rest := []) (own := RL) (C := RX7) (T := TX7) (N := 7) 2 hx hb hml hown hts hK hz hP hL hS hlo hl.1 (c_X7_does l o b S tf tn P C kp ((xs ((4 * kc) + 1))) ((xs ((4 * kc) + 2))) σ z hW hA.ok) gL_law_X7_does rfl rfl rfl (by decide +kernel) ⟨Nat.le_of_ble_eq_true rfl, Nat.le_of_ble_eq_true rfl⟩ ho0 rfl rfl rfl (Nat.le_of_ble_eq_true rfl) dL_law_650 ⟨(show _ ≤ 600000 by omega), (show _ ≤ 7302250 by omega)⟩ (g_kxi (fun r1 τ1 H locs z1 hz hp hP hL hS => ?_))
  have hlo : s.heap.size ≤ z1 := Nat.le_trans hlo hp.2.2.1
  have hM1 := lw_me hM hp.2.2.2.2 hmo hbo
  obtain ⟨fm, hm0⟩ := hM1.c0
  refine lv_aload_n hx hb dL_law_653 rfl (lv_at hl 2 rfl) ?_
  refine lv_aload_n hx hb dL_law_654 rfl (lv_at hl 0 rfl) ?_
  refine lv_iload_n hx hb dL_law_655 rfl (lv_at hl 3 rfl) ?_
  refine lv_iconst (v := (nI 1)) hx hb dL_law_656 (by decide) ?_
  refine lv_iadd hx hb dL_law_657 ?_
  refine g_top (nI_add (4 * kc) 1) ?_
  refine va_sld (i := nI ((4 * kc) + 1)) hx hb hX hBl hbA hS (vp_in_nI (by omega) (by omega)) dL_law_658 ?_
  rw [nI_clamp (n := (4 * kc) + 1) (by omega)]
  refine lv_aload_n hx hb dL_law_659 rfl (lv_at hl 0 rfl) ?_
  refine lv_iload_n hx hb dL_law_660 rfl (lv_at hl 3 rfl) ?_
  refine lv_iconst (v := (nI 2)) hx hb dL_law_661 (by decide) ?_
  refine lv_iadd hx hb dL_law_662 ?_
  refine g_top (nI_add (4 * kc) 2) ?_
  refine va_sld (i := nI ((4 * kc) + 2)) hx hb hX hBl hbA hS (vp_in_nI (by omega) (by omega)) dL_law_663 ?_
  rw [nI_clamp (n := (4 * kc) + 2) (by omega)]
  refine g_runV (As := [.int (xs ((4 * kc) + 1)), .int (xs ((4 * kc) + 2))]) (rest := [.int r1]) (own := RL) (C := RX8) (T := TX8) (N := 20) 2 hx hb hml hown hts hK hz hP hL hS hlo hl.1 (c_X8_does l mo S tf tn P C kp ((xs ((4 * kc) + 1))) ((xs ((4 * kc) + 2))) τ1 z1 hM1 hA.ok hA.okC) gL_law_X8_does rfl rfl rfl (by decide +kernel) ⟨Nat.le_of_ble_eq_true rfl, Nat.le_of_ble_eq_true rfl⟩ hm0 rfl rfl rfl (Nat.le_of_ble_eq_true rfl) dL_law_664 ⟨(show _ ≤ 600000 by omega), (show _ ≤ 7302250 by omega)⟩ (g_kxi0 (fun r2 τ2 H locs z2 hz hp2 hP hL hS => ?_))
  obtain ⟨hr9, hz9, hI9⟩ := law_tell hp hp2 hmo hbo hA
  have hz := hz.trans hz9
  refine lv_icmp_eq (tgt := 840) hx hb dL_law_667 (by decide) (fun c667 => ?_) (fun c667 => by first | exact absurd hr9 c667 | exact absurd hr9.symm c667)
  exact kk τ2 z1 H locs hI9 hlo hz hP hL hS

set_option maxHeartbeats 4000000 in
set_option maxRecDepth 100000 in
theorem law_c18 {p : Program} {l : Launch} {e : Env} {s : State} {m : MethodId} {below : List Frame} {meth : Method} {c : Code} {Q : State → Prop} {D : va_G} {ka : Nat → ClassId} {B L o mo b kc : Nat} {xs : Nat → Int32} (hx : p.tables.exec = Jvm.exec) (hb : c.code = code) (hml : c.maxLocals = 4) (hown : s.vm.findClass RL = some m.cls) (hts : ∀ w ∈ wsL_law, w.before #[Value.ref B] s = true) (hK : gK D ka s) (hX : va_X B L xs s s.heap) (hBl : B < s.heap.size) (hL2 : L ≤ 2048) (hk : 4 * kc + 4 ≤ L) (hmo : mo = o + 39) (hbo : o + 55 ≤ b) {σ : gS} {z : Nat} {H : Heap} {locs : List Loc} {ls : Array Slot} (hI : LwI σ o mo b z) (hlo : s.heap.size ≤ z) (hz : H.size = z) (hP : gH D ka σ H) (hL : gL s.heap.size σ) (hS : va_S (gA s.heap.size) s.heap H locs) (hl : lv_has ls 4 [(0, .ref B), (1, .ref o), (2, .ref mo), (3, .int (nI (4 * kc)))]) (kk : ∀ (τ : gS) (z1 : Nat) (H1 : Heap) (locs1 : List Loc), LwI τ o mo b z1 → s.heap.size ≤ z1 → H1.size = z1 → gH D ka τ H1 → gL s.heap.size τ → va_S (gA s.heap.size) s.heap H1 locs1 → W p l e room_1 s m #[Value.ref B] below meth c H1 locs1 (100 + 17 * kc + 17) (12000 + 789 * kc + 789) Q (F0 m 840 ls [])) : W p l e room_1 s m #[Value.ref B] below meth c H locs (100 + 17 * kc) (12000 + 789 * kc) Q (F0 m 672 ls []) := by
  have hbA : ¬ gA s.heap.size B := Nat.not_le.mpr hBl
  obtain ⟨S, tf, tn, P, C, kp, hW, hM, hA⟩ := hI
  obtain ⟨hP5, htn⟩ := hM.p5
  obtain ⟨fo, ho0⟩ := hW.c0
  refine lv_aload_n hx hb dL_law_672 rfl (lv_at hl 1 rfl) ?_
  refine lv_aload_n hx hb dL_law_673 rfl (lv_at hl 0 rfl) ?_
  refine lv_iload_n hx hb dL_law_674 rfl (lv_at hl 3 rfl) ?_
  refine lv_iconst (v := (nI 1)) hx hb dL_law_675 (by decide) ?_
  refine lv_iadd hx hb dL_law_676 ?_
  refine g_top (nI_add (4 * kc) 1) ?_
  refine va_sld (i := nI ((4 * kc) + 1)) hx hb hX hBl hbA hS (vp_in_nI (by omega) (by omega)) dL_law_677 ?_
  rw [nI_clamp (n := (4 * kc) + 1) (by omega)]
  refine lv_aload_n hx hb dL_law_678 rfl (lv_at hl 0 rfl) ?_
  refine lv_iload_n hx hb dL_law_679 rfl (lv_at hl 3 rfl) ?_
  refine lv_iconst (v := (nI 2)) hx hb dL_law_680 (by decide) ?_
  refine lv_iadd hx hb dL_law_681 ?_
  refine g_top (nI_add (4 * kc) 2) ?_
  refine va_sld (i := nI ((4 * kc) + 2)) hx hb hX hBl hbA hS (vp_in_nI (by omega) (by omega)) dL_law_682 ?_
  rw [nI_clamp (n := (4 * kc) + 2) (by omega)]
  refine g_runV (As := [.int (xs ((4 * kc) + 1)), .int (xs ((4 * kc) + 2))]) (rest := []) (own := RL) (C := RX7) (T := TX7) (N := 7) 2 hx hb hml hown hts hK hz hP hL hS hlo hl.1 (c_X7_left l o b S tf tn P C kp ((xs ((4 * kc) + 1))) ((xs ((4 * kc) + 2))) σ z hW hA.ok) gL_law_X7_left rfl rfl rfl (by decide +kernel) ⟨Nat.le_of_ble_eq_true rfl, Nat.le_of_ble_eq_true rfl⟩ ho0 rfl rfl rfl (Nat.le_of_ble_eq_true rfl) dL_law_683 ⟨(show _ ≤ 600000 by omega), (show _ ≤ 7302250 by omega)⟩ (g_kxi (fun r1 τ1 H locs z1 hz hp hP hL hS => ?_))
  have hlo : s.heap.size ≤ z1 := Nat.le_trans hlo hp.2.2.1
  have hM1 := lw_me hM hp.2.2.2.2 hmo hbo
  obtain ⟨fm, hm0⟩ := hM1.c0
  refine lv_aload_n hx hb dL_law_686 rfl (lv_at hl 2 rfl) ?_
  refine lv_aload_n hx hb dL_law_687 rfl (lv_at hl 0 rfl) ?_
  refine lv_iload_n hx hb dL_law_688 rfl (lv_at hl 3 rfl) ?_
  refine lv_iconst (v := (nI 1)) hx hb dL_law_689 (by decide) ?_
  refine lv_iadd hx hb dL_law_690 ?_
  refine g_top (nI_add (4 * kc) 1) ?_
  refine va_sld (i := nI ((4 * kc) + 1)) hx hb hX hBl hbA hS (vp_in_nI (by omega) (by omega)) dL_law_691 ?_
  rw [nI_clamp (n := (4 * kc) + 1) (by omega)]
  refine lv_aload_n hx hb dL_law_692 rfl (lv_at hl 0 rfl) ?_
  refine lv_iload_n hx hb dL_law_693 rfl (lv_at hl 3 rfl) ?_
  refine lv_iconst (v := (nI 2)) hx hb dL_law_694 (by decide) ?_
  refine lv_iadd hx hb dL_law_695 ?_
  refine g_top (nI_add (4 * kc) 2) ?_
  refine va_sld (i := nI ((4 * kc) + 2)) hx hb hX hBl hbA hS (vp_in_nI (by omega) (by omega)) dL_law_696 ?_
  rw [nI_clamp (n := (4 * kc) + 2) (by omega)]
  refine g_runV (As := [.int (xs ((4 * kc) + 1)), .int (xs ((4 * kc) + 2))]) (rest := [.int r1]) (own := RL) (C := RX8) (T := TX8) (N := 20) 2 hx hb hml hown hts hK hz hP hL hS hlo hl.1 (c_X8_left l mo S tf tn P C kp ((xs ((4 * kc) + 1))) ((xs ((4 * kc) + 2))) τ1 z1 hM1 hA.ok hA.okC) gL_law_X8_left rfl rfl rfl (by decide +kernel) ⟨Nat.le_of_ble_eq_true rfl, Nat.le_of_ble_eq_true rfl⟩ hm0 rfl rfl rfl (Nat.le_of_ble_eq_true rfl) dL_law_697 ⟨(show _ ≤ 600000 by omega), (show _ ≤ 7302250 by omega)⟩ (g_kxi0 (fun r2 τ2 H locs z2 hz hp2 hP hL hS => ?_))
  obtain ⟨hr9, hz9, hI9⟩ := law_tell hp hp2 hmo hbo hA
  have hz := hz.trans hz9
  refine lv_icmp_eq (tgt := 840) hx hb dL_law_700 (by decide) (fun c700 => ?_) (fun c700 => by first | exact absurd hr9 c700 | exact absurd hr9.symm c700)
  exact kk τ2 z1 H locs hI9 hlo hz hP hL hS

set_option maxHeartbeats 4000000 in
set_option maxRecDepth 100000 in
theorem law_c19 {p : Program} {l : Launch} {e : Env} {s : State} {m : MethodId} {below : List Frame} {meth : Method} {c : Code} {Q : State → Prop} {D : va_G} {ka : Nat → ClassId} {B L o mo b kc : Nat} {xs : Nat → Int32} (hx : p.tables.exec = Jvm.exec) (hb : c.code = code) (hml : c.maxLocals = 4) (hown : s.vm.findClass RL = some m.cls) (hts : ∀ w ∈ wsL_law, w.before #[Value.ref B] s = true) (hK : gK D ka s) (hX : va_X B L xs s s.heap) (hBl : B < s.heap.size) (hL2 : L ≤ 2048) (hk : 4 * kc + 4 ≤ L) (hmo : mo = o + 39) (hbo : o + 55 ≤ b) {σ : gS} {z : Nat} {H : Heap} {locs : List Loc} {ls : Array Slot} (hI : LwI σ o mo b z) (hlo : s.heap.size ≤ z) (hz : H.size = z) (hP : gH D ka σ H) (hL : gL s.heap.size σ) (hS : va_S (gA s.heap.size) s.heap H locs) (hl : lv_has ls 4 [(0, .ref B), (1, .ref o), (2, .ref mo), (3, .int (nI (4 * kc)))]) (kk : ∀ (τ : gS) (z1 : Nat) (H1 : Heap) (locs1 : List Loc), LwI τ o mo b z1 → s.heap.size ≤ z1 → H1.size = z1 → gH D ka τ H1 → gL s.heap.size τ → va_S (gA s.heap.size) s.heap H1 locs1 → W p l e room_1 s m #[Value.ref B] below meth c H1 locs1 (100 + 17 * kc + 17) (12000 + 789 * kc + 789) Q (F0 m 840 ls [])) : W p l e room_1 s m #[Value.ref B] below meth c H locs (100 + 17 * kc) (12000 + 789 * kc) Q (F0 m 705 ls []) := by
  have hbA : ¬ gA s.heap.size B := Nat.not_le.mpr hBl
  obtain ⟨S, tf, tn, P, C, kp, hW, hM, hA⟩ := hI
  obtain ⟨hP5, htn⟩ := hM.p5
  obtain ⟨fo, ho0⟩ := hW.c0
  refine lv_aload_n hx hb dL_law_705 rfl (lv_at hl 1 rfl) ?_
  refine lv_aload_n hx hb dL_law_706 rfl (lv_at hl 0 rfl) ?_
  refine lv_iload_n hx hb dL_law_707 rfl (lv_at hl 3 rfl) ?_
  refine lv_iconst (v := (nI 1)) hx hb dL_law_708 (by decide) ?_
  refine lv_iadd hx hb dL_law_709 ?_
  refine g_top (nI_add (4 * kc) 1) ?_
  refine va_sld (i := nI ((4 * kc) + 1)) hx hb hX hBl hbA hS (vp_in_nI (by omega) (by omega)) dL_law_710 ?_
  rw [nI_clamp (n := (4 * kc) + 1) (by omega)]
  refine lv_aload_n hx hb dL_law_711 rfl (lv_at hl 0 rfl) ?_
  refine lv_iload_n hx hb dL_law_712 rfl (lv_at hl 3 rfl) ?_
  refine lv_iconst (v := (nI 2)) hx hb dL_law_713 (by decide) ?_
  refine lv_iadd hx hb dL_law_714 ?_
  refine g_top (nI_add (4 * kc) 2) ?_
  refine va_sld (i := nI ((4 * kc) + 2)) hx hb hX hBl hbA hS (vp_in_nI (by omega) (by omega)) dL_law_715 ?_
  rw [nI_clamp (n := (4 * kc) + 2) (by omega)]
  refine g_runV (As := [.int (xs ((4 * kc) + 1)), .int (xs ((4 * kc) + 2))]) (rest := []) (own := RL) (C := RX7) (T := TX7) (N := 7) 2 hx hb hml hown hts hK hz hP hL hS hlo hl.1 (c_X7_solo l o b S tf tn P C kp ((xs ((4 * kc) + 1))) ((xs ((4 * kc) + 2))) σ z hW hA.ok) gL_law_X7_solo rfl rfl rfl (by decide +kernel) ⟨Nat.le_of_ble_eq_true rfl, Nat.le_of_ble_eq_true rfl⟩ ho0 rfl rfl rfl (Nat.le_of_ble_eq_true rfl) dL_law_716 ⟨(show _ ≤ 600000 by omega), (show _ ≤ 7302250 by omega)⟩ (g_kxi (fun r1 τ1 H locs z1 hz hp hP hL hS => ?_))
  have hlo : s.heap.size ≤ z1 := Nat.le_trans hlo hp.2.2.1
  have hM1 := lw_me hM hp.2.2.2.2 hmo hbo
  obtain ⟨fm, hm0⟩ := hM1.c0
  refine lv_aload_n hx hb dL_law_719 rfl (lv_at hl 2 rfl) ?_
  refine lv_aload_n hx hb dL_law_720 rfl (lv_at hl 0 rfl) ?_
  refine lv_iload_n hx hb dL_law_721 rfl (lv_at hl 3 rfl) ?_
  refine lv_iconst (v := (nI 1)) hx hb dL_law_722 (by decide) ?_
  refine lv_iadd hx hb dL_law_723 ?_
  refine g_top (nI_add (4 * kc) 1) ?_
  refine va_sld (i := nI ((4 * kc) + 1)) hx hb hX hBl hbA hS (vp_in_nI (by omega) (by omega)) dL_law_724 ?_
  rw [nI_clamp (n := (4 * kc) + 1) (by omega)]
  refine lv_aload_n hx hb dL_law_725 rfl (lv_at hl 0 rfl) ?_
  refine lv_iload_n hx hb dL_law_726 rfl (lv_at hl 3 rfl) ?_
  refine lv_iconst (v := (nI 2)) hx hb dL_law_727 (by decide) ?_
  refine lv_iadd hx hb dL_law_728 ?_
  refine g_top (nI_add (4 * kc) 2) ?_
  refine va_sld (i := nI ((4 * kc) + 2)) hx hb hX hBl hbA hS (vp_in_nI (by omega) (by omega)) dL_law_729 ?_
  rw [nI_clamp (n := (4 * kc) + 2) (by omega)]
  refine g_runV (As := [.int (xs ((4 * kc) + 1)), .int (xs ((4 * kc) + 2))]) (rest := [.int r1]) (own := RL) (C := RX8) (T := TX8) (N := 20) 2 hx hb hml hown hts hK hz hP hL hS hlo hl.1 (c_X8_solo l mo S tf tn P C kp ((xs ((4 * kc) + 1))) ((xs ((4 * kc) + 2))) τ1 z1 hM1 hA.ok hA.okC) gL_law_X8_solo rfl rfl rfl (by decide +kernel) ⟨Nat.le_of_ble_eq_true rfl, Nat.le_of_ble_eq_true rfl⟩ hm0 rfl rfl rfl (Nat.le_of_ble_eq_true rfl) dL_law_730 ⟨(show _ ≤ 600000 by omega), (show _ ≤ 7302250 by omega)⟩ (g_kxi0 (fun r2 τ2 H locs z2 hz hp2 hP hL hS => ?_))
  obtain ⟨hr9, hz9, hI9⟩ := law_tell hp hp2 hmo hbo hA
  have hz := hz.trans hz9
  refine lv_icmp_eq (tgt := 840) hx hb dL_law_733 (by decide) (fun c733 => ?_) (fun c733 => by first | exact absurd hr9 c733 | exact absurd hr9.symm c733)
  exact kk τ2 z1 H locs hI9 hlo hz hP hL hS

set_option maxHeartbeats 4000000 in
set_option maxRecDepth 100000 in
theorem law_c20 {p : Program} {l : Launch} {e : Env} {s : State} {m : MethodId} {below : List Frame} {meth : Method} {c : Code} {Q : State → Prop} {D : va_G} {ka : Nat → ClassId} {B L o mo b kc : Nat} {xs : Nat → Int32} (hx : p.tables.exec = Jvm.exec) (hb : c.code = code) (hml : c.maxLocals = 4) (hown : s.vm.findClass RL = some m.cls) (hts : ∀ w ∈ wsL_law, w.before #[Value.ref B] s = true) (hK : gK D ka s) (hX : va_X B L xs s s.heap) (hBl : B < s.heap.size) (hL2 : L ≤ 2048) (hk : 4 * kc + 4 ≤ L) (hmo : mo = o + 39) (hbo : o + 55 ≤ b) {σ : gS} {z : Nat} {H : Heap} {locs : List Loc} {ls : Array Slot} (hI : LwI σ o mo b z) (hlo : s.heap.size ≤ z) (hz : H.size = z) (hP : gH D ka σ H) (hL : gL s.heap.size σ) (hS : va_S (gA s.heap.size) s.heap H locs) (hl : lv_has ls 4 [(0, .ref B), (1, .ref o), (2, .ref mo), (3, .int (nI (4 * kc)))]) (kk : ∀ (τ : gS) (z1 : Nat) (H1 : Heap) (locs1 : List Loc), LwI τ o mo b z1 → s.heap.size ≤ z1 → H1.size = z1 → gH D ka τ H1 → gL s.heap.size τ → va_S (gA s.heap.size) s.heap H1 locs1 → W p l e room_1 s m #[Value.ref B] below meth c H1 locs1 (100 + 17 * kc + 17) (12000 + 789 * kc + 789) Q (F0 m 840 ls [])) : W p l e room_1 s m #[Value.ref B] below meth c H locs (100 + 17 * kc) (12000 + 789 * kc) Q (F0 m 738 ls []) := by
  have hbA : ¬ gA s.heap.size B := Nat.not_le.mpr hBl
  obtain ⟨S, tf, tn, P, C, kp, hW, hM, hA⟩ := hI
  obtain ⟨hP5, htn⟩ := hM.p5
  obtain ⟨fo, ho0⟩ := hW.c0
  refine lv_aload_n hx hb dL_law_738 rfl (lv_at hl 1 rfl) ?_
  refine lv_aload_n hx hb dL_law_739 rfl (lv_at hl 0 rfl) ?_
  refine lv_iload_n hx hb dL_law_740 rfl (lv_at hl 3 rfl) ?_
  refine lv_iconst (v := (nI 1)) hx hb dL_law_741 (by decide) ?_
  refine lv_iadd hx hb dL_law_742 ?_
  refine g_top (nI_add (4 * kc) 1) ?_
  refine va_sld (i := nI ((4 * kc) + 1)) hx hb hX hBl hbA hS (vp_in_nI (by omega) (by omega)) dL_law_743 ?_
  rw [nI_clamp (n := (4 * kc) + 1) (by omega)]
  refine lv_aload_n hx hb dL_law_744 rfl (lv_at hl 0 rfl) ?_
  refine lv_iload_n hx hb dL_law_745 rfl (lv_at hl 3 rfl) ?_
  refine lv_iconst (v := (nI 2)) hx hb dL_law_746 (by decide) ?_
  refine lv_iadd hx hb dL_law_747 ?_
  refine g_top (nI_add (4 * kc) 2) ?_
  refine va_sld (i := nI ((4 * kc) + 2)) hx hb hX hBl hbA hS (vp_in_nI (by omega) (by omega)) dL_law_748 ?_
  rw [nI_clamp (n := (4 * kc) + 2) (by omega)]
  refine g_runV (As := [.int (xs ((4 * kc) + 1)), .int (xs ((4 * kc) + 2))]) (rest := []) (own := RL) (C := RX7) (T := TX7) (N := 7) 2 hx hb hml hown hts hK hz hP hL hS hlo hl.1 (c_X7_fault l o b S tf tn P C kp ((xs ((4 * kc) + 1))) ((xs ((4 * kc) + 2))) (cnG (gF S)) σ z hW hA.ok (fun b q h1 h2 => gF_bc h1 hA.ok.2.1 h2) (fun b q => cntF_le _ 12)) gL_law_X7_fault rfl rfl rfl (by decide +kernel) ⟨Nat.le_of_ble_eq_true rfl, Nat.le_of_ble_eq_true rfl⟩ ho0 rfl rfl rfl (Nat.le_of_ble_eq_true rfl) dL_law_749 ⟨(show _ ≤ 600000 by omega), (show _ ≤ 7302250 by omega)⟩ (g_kxi (fun r1 τ1 H locs z1 hz hp hP hL hS => ?_))
  have hlo : s.heap.size ≤ z1 := Nat.le_trans hlo hp.2.2.1
  have hM1 := lw_me hM hp.2.2.2.2 hmo hbo
  obtain ⟨fm, hm0⟩ := hM1.c0
  refine lv_aload_n hx hb dL_law_752 rfl (lv_at hl 2 rfl) ?_
  refine lv_aload_n hx hb dL_law_753 rfl (lv_at hl 0 rfl) ?_
  refine lv_iload_n hx hb dL_law_754 rfl (lv_at hl 3 rfl) ?_
  refine lv_iconst (v := (nI 1)) hx hb dL_law_755 (by decide) ?_
  refine lv_iadd hx hb dL_law_756 ?_
  refine g_top (nI_add (4 * kc) 1) ?_
  refine va_sld (i := nI ((4 * kc) + 1)) hx hb hX hBl hbA hS (vp_in_nI (by omega) (by omega)) dL_law_757 ?_
  rw [nI_clamp (n := (4 * kc) + 1) (by omega)]
  refine lv_aload_n hx hb dL_law_758 rfl (lv_at hl 0 rfl) ?_
  refine lv_iload_n hx hb dL_law_759 rfl (lv_at hl 3 rfl) ?_
  refine lv_iconst (v := (nI 2)) hx hb dL_law_760 (by decide) ?_
  refine lv_iadd hx hb dL_law_761 ?_
  refine g_top (nI_add (4 * kc) 2) ?_
  refine va_sld (i := nI ((4 * kc) + 2)) hx hb hX hBl hbA hS (vp_in_nI (by omega) (by omega)) dL_law_762 ?_
  rw [nI_clamp (n := (4 * kc) + 2) (by omega)]
  refine g_runV (As := [.int (xs ((4 * kc) + 1)), .int (xs ((4 * kc) + 2))]) (rest := [.int r1]) (own := RL) (C := RX8) (T := TX8) (N := 20) 2 hx hb hml hown hts hK hz hP hL hS hlo hl.1 (c_X8_fault l mo S tf tn P C kp ((xs ((4 * kc) + 1))) ((xs ((4 * kc) + 2))) τ1 z1 hM1 hA.ok hA.okC) gL_law_X8_fault rfl rfl rfl (by decide +kernel) ⟨Nat.le_of_ble_eq_true rfl, Nat.le_of_ble_eq_true rfl⟩ hm0 rfl rfl rfl (Nat.le_of_ble_eq_true rfl) dL_law_763 ⟨(show _ ≤ 600000 by omega), (show _ ≤ 7302250 by omega)⟩ (g_kxi0 (fun r2 τ2 H locs z2 hz hp2 hP hL hS => ?_))
  obtain ⟨hr9, hz9, hI9⟩ := law_tell hp hp2 hmo hbo hA
  have hz := hz.trans hz9
  refine lv_icmp_eq (tgt := 840) hx hb dL_law_766 (by decide) (fun c766 => ?_) (fun c766 => by first | exact absurd hr9 c766 | exact absurd hr9.symm c766)
  exact kk τ2 z1 H locs hI9 hlo hz hP hL hS

set_option maxHeartbeats 4000000 in
set_option maxRecDepth 100000 in
theorem law_c21 {p : Program} {l : Launch} {e : Env} {s : State} {m : MethodId} {below : List Frame} {meth : Method} {c : Code} {Q : State → Prop} {D : va_G} {ka : Nat → ClassId} {B L o mo b kc : Nat} {xs : Nat → Int32} (hx : p.tables.exec = Jvm.exec) (hb : c.code = code) (hml : c.maxLocals = 4) (hown : s.vm.findClass RL = some m.cls) (hts : ∀ w ∈ wsL_law, w.before #[Value.ref B] s = true) (hK : gK D ka s) (hX : va_X B L xs s s.heap) (hBl : B < s.heap.size) (hL2 : L ≤ 2048) (hk : 4 * kc + 4 ≤ L) (hmo : mo = o + 39) (hbo : o + 55 ≤ b) {σ : gS} {z : Nat} {H : Heap} {locs : List Loc} {ls : Array Slot} (hI : LwI σ o mo b z) (hlo : s.heap.size ≤ z) (hz : H.size = z) (hP : gH D ka σ H) (hL : gL s.heap.size σ) (hS : va_S (gA s.heap.size) s.heap H locs) (hl : lv_has ls 4 [(0, .ref B), (1, .ref o), (2, .ref mo), (3, .int (nI (4 * kc)))]) (kk : ∀ (τ : gS) (z1 : Nat) (H1 : Heap) (locs1 : List Loc), LwI τ o mo b z1 → s.heap.size ≤ z1 → H1.size = z1 → gH D ka τ H1 → gL s.heap.size τ → va_S (gA s.heap.size) s.heap H1 locs1 → W p l e room_1 s m #[Value.ref B] below meth c H1 locs1 (100 + 17 * kc + 17) (12000 + 789 * kc + 789) Q (F0 m 840 ls [])) : W p l e room_1 s m #[Value.ref B] below meth c H locs (100 + 17 * kc) (12000 + 789 * kc) Q (F0 m 771 ls []) := by
  have hbA : ¬ gA s.heap.size B := Nat.not_le.mpr hBl
  obtain ⟨S, tf, tn, P, C, kp, hW, hM, hA⟩ := hI
  obtain ⟨hP5, htn⟩ := hM.p5
  obtain ⟨fo, ho0⟩ := hW.c0
  refine lv_aload_n hx hb dL_law_771 rfl (lv_at hl 1 rfl) ?_
  refine lv_aload_n hx hb dL_law_772 rfl (lv_at hl 0 rfl) ?_
  refine lv_iload_n hx hb dL_law_773 rfl (lv_at hl 3 rfl) ?_
  refine lv_iconst (v := (nI 1)) hx hb dL_law_774 (by decide) ?_
  refine lv_iadd hx hb dL_law_775 ?_
  refine g_top (nI_add (4 * kc) 1) ?_
  refine va_sld (i := nI ((4 * kc) + 1)) hx hb hX hBl hbA hS (vp_in_nI (by omega) (by omega)) dL_law_776 ?_
  rw [nI_clamp (n := (4 * kc) + 1) (by omega)]
  refine g_runV (As := [.int (xs ((4 * kc) + 1))]) (rest := []) (own := RL) (C := RX7) (T := TX7) (N := 7) 1 hx hb hml hown hts hK hz hP hL hS hlo hl.1 (c_X7_silentWithout l o b S tf tn P C kp ((xs ((4 * kc) + 1))) σ z hW hA.ok) gL_law_X7_silentWithout rfl rfl rfl (by decide +kernel) ⟨Nat.le_of_ble_eq_true rfl, Nat.le_of_ble_eq_true rfl⟩ ho0 rfl rfl rfl (Nat.le_of_ble_eq_true rfl) dL_law_777 ⟨(show _ ≤ 600000 by omega), (show _ ≤ 7302250 by omega)⟩ (g_kxi (fun r1 τ1 H locs z1 hz hp hP hL hS => ?_))
  have hlo : s.heap.size ≤ z1 := Nat.le_trans hlo hp.2.2.1
  have hM1 := lw_me hM hp.2.2.2.2 hmo hbo
  obtain ⟨fm, hm0⟩ := hM1.c0
  refine lv_aload_n hx hb dL_law_780 rfl (lv_at hl 2 rfl) ?_
  refine lv_aload_n hx hb dL_law_781 rfl (lv_at hl 0 rfl) ?_
  refine lv_iload_n hx hb dL_law_782 rfl (lv_at hl 3 rfl) ?_
  refine lv_iconst (v := (nI 1)) hx hb dL_law_783 (by decide) ?_
  refine lv_iadd hx hb dL_law_784 ?_
  refine g_top (nI_add (4 * kc) 1) ?_
  refine va_sld (i := nI ((4 * kc) + 1)) hx hb hX hBl hbA hS (vp_in_nI (by omega) (by omega)) dL_law_785 ?_
  rw [nI_clamp (n := (4 * kc) + 1) (by omega)]
  refine g_runV (As := [.int (xs ((4 * kc) + 1))]) (rest := [.int r1]) (own := RL) (C := RX8) (T := TX8) (N := 20) 1 hx hb hml hown hts hK hz hP hL hS hlo hl.1 (c_X8_silentWithout l mo S tf tn P C kp ((xs ((4 * kc) + 1))) τ1 z1 hM1 hA.ok hA.okC) gL_law_X8_silentWithout rfl rfl rfl (by decide +kernel) ⟨Nat.le_of_ble_eq_true rfl, Nat.le_of_ble_eq_true rfl⟩ hm0 rfl rfl rfl (Nat.le_of_ble_eq_true rfl) dL_law_786 ⟨(show _ ≤ 600000 by omega), (show _ ≤ 7302250 by omega)⟩ (g_kxi0 (fun r2 τ2 H locs z2 hz hp2 hP hL hS => ?_))
  obtain ⟨hr9, hz9, hI9⟩ := law_tell hp hp2 hmo hbo hA
  have hz := hz.trans hz9
  refine lv_icmp_eq (tgt := 840) hx hb dL_law_789 (by decide) (fun c789 => ?_) (fun c789 => by first | exact absurd hr9 c789 | exact absurd hr9.symm c789)
  exact kk τ2 z1 H locs hI9 hlo hz hP hL hS

set_option maxHeartbeats 4000000 in
set_option maxRecDepth 100000 in
theorem law_c22 {p : Program} {l : Launch} {e : Env} {s : State} {m : MethodId} {below : List Frame} {meth : Method} {c : Code} {Q : State → Prop} {D : va_G} {ka : Nat → ClassId} {B L o mo b kc : Nat} {xs : Nat → Int32} (hx : p.tables.exec = Jvm.exec) (hb : c.code = code) (hml : c.maxLocals = 4) (hown : s.vm.findClass RL = some m.cls) (hts : ∀ w ∈ wsL_law, w.before #[Value.ref B] s = true) (hK : gK D ka s) (hX : va_X B L xs s s.heap) (hBl : B < s.heap.size) (hL2 : L ≤ 2048) (hk : 4 * kc + 4 ≤ L) (hmo : mo = o + 39) (hbo : o + 55 ≤ b) {σ : gS} {z : Nat} {H : Heap} {locs : List Loc} {ls : Array Slot} (hI : LwI σ o mo b z) (hlo : s.heap.size ≤ z) (hz : H.size = z) (hP : gH D ka σ H) (hL : gL s.heap.size σ) (hS : va_S (gA s.heap.size) s.heap H locs) (hl : lv_has ls 4 [(0, .ref B), (1, .ref o), (2, .ref mo), (3, .int (nI (4 * kc)))]) (kk : ∀ (τ : gS) (z1 : Nat) (H1 : Heap) (locs1 : List Loc), LwI τ o mo b z1 → s.heap.size ≤ z1 → H1.size = z1 → gH D ka τ H1 → gL s.heap.size τ → va_S (gA s.heap.size) s.heap H1 locs1 → W p l e room_1 s m #[Value.ref B] below meth c H1 locs1 (100 + 17 * kc + 17) (12000 + 789 * kc + 789) Q (F0 m 840 ls [])) : W p l e room_1 s m #[Value.ref B] below meth c H locs (100 + 17 * kc) (12000 + 789 * kc) Q (F0 m 794 ls []) := by
  have hbA : ¬ gA s.heap.size B := Nat.not_le.mpr hBl
  obtain ⟨S, tf, tn, P, C, kp, hW, hM, hA⟩ := hI
  obtain ⟨hP5, htn⟩ := hM.p5
  obtain ⟨fo, ho0⟩ := hW.c0
  refine lv_aload_n hx hb dL_law_794 rfl (lv_at hl 1 rfl) ?_
  refine lv_aload_n hx hb dL_law_795 rfl (lv_at hl 0 rfl) ?_
  refine lv_iload_n hx hb dL_law_796 rfl (lv_at hl 3 rfl) ?_
  refine lv_iconst (v := (nI 1)) hx hb dL_law_797 (by decide) ?_
  refine lv_iadd hx hb dL_law_798 ?_
  refine g_top (nI_add (4 * kc) 1) ?_
  refine va_sld (i := nI ((4 * kc) + 1)) hx hb hX hBl hbA hS (vp_in_nI (by omega) (by omega)) dL_law_799 ?_
  rw [nI_clamp (n := (4 * kc) + 1) (by omega)]
  refine g_runV (As := [.int (xs ((4 * kc) + 1))]) (rest := []) (own := RL) (C := RX7) (T := TX7) (N := 7) 1 hx hb hml hown hts hK hz hP hL hS hlo hl.1 (c_X7_breathFor l o b S tf tn P C kp ((xs ((4 * kc) + 1))) σ z hW hA.ok) gL_law_X7_breathFor rfl rfl rfl (by decide +kernel) ⟨Nat.le_of_ble_eq_true rfl, Nat.le_of_ble_eq_true rfl⟩ ho0 rfl rfl rfl (Nat.le_of_ble_eq_true rfl) dL_law_800 ⟨(show _ ≤ 600000 by omega), (show _ ≤ 7302250 by omega)⟩ (g_kxi (fun r1 τ1 H locs z1 hz hp hP hL hS => ?_))
  have hlo : s.heap.size ≤ z1 := Nat.le_trans hlo hp.2.2.1
  have hM1 := lw_me hM hp.2.2.2.2 hmo hbo
  obtain ⟨fm, hm0⟩ := hM1.c0
  refine lv_aload_n hx hb dL_law_803 rfl (lv_at hl 2 rfl) ?_
  refine lv_aload_n hx hb dL_law_804 rfl (lv_at hl 0 rfl) ?_
  refine lv_iload_n hx hb dL_law_805 rfl (lv_at hl 3 rfl) ?_
  refine lv_iconst (v := (nI 1)) hx hb dL_law_806 (by decide) ?_
  refine lv_iadd hx hb dL_law_807 ?_
  refine g_top (nI_add (4 * kc) 1) ?_
  refine va_sld (i := nI ((4 * kc) + 1)) hx hb hX hBl hbA hS (vp_in_nI (by omega) (by omega)) dL_law_808 ?_
  rw [nI_clamp (n := (4 * kc) + 1) (by omega)]
  refine g_runV (As := [.int (xs ((4 * kc) + 1))]) (rest := [.int r1]) (own := RL) (C := RX8) (T := TX8) (N := 20) 1 hx hb hml hown hts hK hz hP hL hS hlo hl.1 (c_X8_breathFor l mo S tf tn P C kp ((xs ((4 * kc) + 1))) τ1 z1 hM1 hA.ok hA.okC) gL_law_X8_breathFor rfl rfl rfl (by decide +kernel) ⟨Nat.le_of_ble_eq_true rfl, Nat.le_of_ble_eq_true rfl⟩ hm0 rfl rfl rfl (Nat.le_of_ble_eq_true rfl) dL_law_809 ⟨(show _ ≤ 600000 by omega), (show _ ≤ 7302250 by omega)⟩ (g_kxi0 (fun r2 τ2 H locs z2 hz hp2 hP hL hS => ?_))
  obtain ⟨hr9, hz9, hI9⟩ := law_tell hp hp2 hmo hbo hA
  have hz := hz.trans hz9
  refine lv_icmp_eq (tgt := 840) hx hb dL_law_812 (by decide) (fun c812 => ?_) (fun c812 => by first | exact absurd hr9 c812 | exact absurd hr9.symm c812)
  exact kk τ2 z1 H locs hI9 hlo hz hP hL hS

set_option maxHeartbeats 4000000 in
set_option maxRecDepth 100000 in
theorem law_c23 {p : Program} {l : Launch} {e : Env} {s : State} {m : MethodId} {below : List Frame} {meth : Method} {c : Code} {Q : State → Prop} {D : va_G} {ka : Nat → ClassId} {B L o mo b kc : Nat} {xs : Nat → Int32} (hx : p.tables.exec = Jvm.exec) (hb : c.code = code) (hml : c.maxLocals = 4) (hown : s.vm.findClass RL = some m.cls) (hts : ∀ w ∈ wsL_law, w.before #[Value.ref B] s = true) (hK : gK D ka s) (hX : va_X B L xs s s.heap) (hBl : B < s.heap.size) (hL2 : L ≤ 2048) (hk : 4 * kc + 4 ≤ L) (hmo : mo = o + 39) (hbo : o + 55 ≤ b) {σ : gS} {z : Nat} {H : Heap} {locs : List Loc} {ls : Array Slot} (hI : LwI σ o mo b z) (hlo : s.heap.size ≤ z) (hz : H.size = z) (hP : gH D ka σ H) (hL : gL s.heap.size σ) (hS : va_S (gA s.heap.size) s.heap H locs) (hl : lv_has ls 4 [(0, .ref B), (1, .ref o), (2, .ref mo), (3, .int (nI (4 * kc)))]) (kk : ∀ (τ : gS) (z1 : Nat) (H1 : Heap) (locs1 : List Loc), LwI τ o mo b z1 → s.heap.size ≤ z1 → H1.size = z1 → gH D ka τ H1 → gL s.heap.size τ → va_S (gA s.heap.size) s.heap H1 locs1 → W p l e room_1 s m #[Value.ref B] below meth c H1 locs1 (100 + 17 * kc + 17) (12000 + 789 * kc + 789) Q (F0 m 840 ls [])) : W p l e room_1 s m #[Value.ref B] below meth c H locs (100 + 17 * kc) (12000 + 789 * kc) Q (F0 m 817 ls []) := by
  have hbA : ¬ gA s.heap.size B := Nat.not_le.mpr hBl
  obtain ⟨S, tf, tn, P, C, kp, hW, hM, hA⟩ := hI
  obtain ⟨hP5, htn⟩ := hM.p5
  obtain ⟨fo, ho0⟩ := hW.c0
  refine lv_aload_n hx hb dL_law_817 rfl (lv_at hl 1 rfl) ?_
  refine lv_aload_n hx hb dL_law_818 rfl (lv_at hl 0 rfl) ?_
  refine lv_iload_n hx hb dL_law_819 rfl (lv_at hl 3 rfl) ?_
  refine lv_iconst (v := (nI 1)) hx hb dL_law_820 (by decide) ?_
  refine lv_iadd hx hb dL_law_821 ?_
  refine g_top (nI_add (4 * kc) 1) ?_
  refine va_sld (i := nI ((4 * kc) + 1)) hx hb hX hBl hbA hS (vp_in_nI (by omega) (by omega)) dL_law_822 ?_
  rw [nI_clamp (n := (4 * kc) + 1) (by omega)]
  refine g_runV (As := [.int (xs ((4 * kc) + 1))]) (rest := []) (own := RL) (C := RX7) (T := TX7) (N := 7) 1 hx hb hml hown hts hK hz hP hL hS hlo hl.1 (c_X7_count l o b S tf tn P C kp ((xs ((4 * kc) + 1))) σ z hW hA.ok) gL_law_X7_count rfl rfl rfl (by decide +kernel) ⟨Nat.le_of_ble_eq_true rfl, Nat.le_of_ble_eq_true rfl⟩ ho0 rfl rfl rfl (Nat.le_of_ble_eq_true rfl) dL_law_823 ⟨(show _ ≤ 600000 by omega), (show _ ≤ 7302250 by omega)⟩ (g_kxi (fun r1 τ1 H locs z1 hz hp hP hL hS => ?_))
  have hlo : s.heap.size ≤ z1 := Nat.le_trans hlo hp.2.2.1
  have hM1 := lw_me hM hp.2.2.2.2 hmo hbo
  obtain ⟨fm, hm0⟩ := hM1.c0
  refine lv_aload_n hx hb dL_law_826 rfl (lv_at hl 2 rfl) ?_
  refine lv_aload_n hx hb dL_law_827 rfl (lv_at hl 0 rfl) ?_
  refine lv_iload_n hx hb dL_law_828 rfl (lv_at hl 3 rfl) ?_
  refine lv_iconst (v := (nI 1)) hx hb dL_law_829 (by decide) ?_
  refine lv_iadd hx hb dL_law_830 ?_
  refine g_top (nI_add (4 * kc) 1) ?_
  refine va_sld (i := nI ((4 * kc) + 1)) hx hb hX hBl hbA hS (vp_in_nI (by omega) (by omega)) dL_law_831 ?_
  rw [nI_clamp (n := (4 * kc) + 1) (by omega)]
  refine g_runV (As := [.int (xs ((4 * kc) + 1))]) (rest := [.int r1]) (own := RL) (C := RX8) (T := TX8) (N := 20) 1 hx hb hml hown hts hK hz hP hL hS hlo hl.1 (c_X8_count l mo S tf tn P C kp ((xs ((4 * kc) + 1))) τ1 z1 hM1 hA.ok hA.okC hA.1.2.1 hA.1.2.2) gL_law_X8_count rfl rfl rfl (by decide +kernel) ⟨Nat.le_of_ble_eq_true rfl, Nat.le_of_ble_eq_true rfl⟩ hm0 rfl rfl rfl (Nat.le_of_ble_eq_true rfl) dL_law_832 ⟨(show _ ≤ 600000 by omega), (show _ ≤ 7302250 by omega)⟩ (g_kxi0 (fun r2 τ2 H locs z2 hz hp2 hP hL hS => ?_))
  obtain ⟨hr9, hz9, hI9⟩ := law_tell hp hp2 hmo hbo hA
  have hz := hz.trans hz9
  refine lv_icmp_eq (tgt := 840) hx hb dL_law_835 (by decide) (fun c835 => ?_) (fun c835 => by first | exact absurd hr9 c835 | exact absurd hr9.symm c835)
  exact kk τ2 z1 H locs hI9 hlo hz hP hL hS
