set_option maxHeartbeats 4000000 in
set_option maxRecDepth 100000 in
theorem law_disp {p : Program} {l : Launch} {e : Env} {s : State} {m : MethodId} {below : List Frame} {meth : Method} {c : Code} {Q : State → Prop} {D : va_G} {ka : Nat → ClassId} {B o b lo : Nat} {ne cA sA : Nat} (hx : p.tables.exec = Jvm.exec) (hb : c.code = code) (hml : c.maxLocals = 15) (hown : s.vm.findClass RL = some m.cls) (hts : ∀ w ∈ wsL_law, w.before #[Value.ref B] s = true) (hK : gK D ka s) (hcA : cA ≤ 500000) (hsA : sA ≤ 6000000) {σ : gS} {z : Nat} {H : Heap} {locs : List Loc} {ls : Array Slot} {S : sS} {tf : Nat → Int32} {tn P : Nat} {C : Nat → sS} {kp : Nat → Bool} (hW : Wo σ o b S tf tn P C kp z) (hY : okY S) (hB1 : 0 < sB S) (hN1 : 0 < sN S) (hC : okC P C kp) (hlo : lo ≤ z) (hz : H.size = z) (hP : gH D ka σ H) (hL : gL lo σ) (hS : va_S (gA lo) s.heap H locs) {gg hh : Int32} {so jb iw : Nat} (hso14 : so < 14) (hjb : jb < sB S) (hiw : iw < sN S) (hl : lv_has ls 15 [(0, .ref B), (1, .ref o), (2, .int (nI ne)), (3, .int gg), (4, .int hh), (5, .int (nI so)), (6, .int (nI (sB S))), (7, .int (nI (sN S))), (8, .int (nI jb)), (9, .int (nI iw)), (10, .int (nI 1))]) (kk : ∀ (τ : gS) (z1 : Nat) (H1 : Heap) (locs1 : List Loc) (ls1 : Array Slot), LwJ τ o b z1 → lo ≤ z1 → H1.size = z1 → gH D ka τ H1 → gL lo τ → va_S (gA lo) s.heap H1 locs1 → lv_has ls1 15 [(0, .ref B), (1, .ref o), (2, .int (nI ne)), (10, .int (nI 1))] → W p l e room_1 s m #[Value.ref B] below meth c H1 locs1 (cA + 100) (sA + 4000) Q (F0 m 898 ls1 [])) : W p l e room_1 s m #[Value.ref B] below meth c H locs (cA) (sA) Q (F0 m 130 ls []) := by
  have hoz := hW.oz
  obtain ⟨⟨hB, hN, hKs, hRs⟩, -⟩ := id hY.1
  rcases (show so = 0 ∨ so = 1 ∨ so = 2 ∨ so = 3 ∨ so = 4 ∨ so = 5 ∨ so = 6 ∨ so = 7 ∨ so = 8 ∨ so = 9 ∨ so = 10 ∨ so = 11 ∨ so = 12 ∨ so = 13 by omega) with hso | hso | hso | hso | hso | hso | hso | hso | hso | hso | hso | hso | hso | hso
  · rw [hso] at hl
    refine lv_iload hx hb dL_law_130 (lv_at hl 5 rfl) ?_
    refine lv_if_ne (tgt := 147) hx hb dL_law_132 (by decide) (fun c132 => by first | exact absurd (by decide) c132 | exact absurd c132 (by decide)) (fun c132 => ?_)
    exact law_c0 (gg := gg) (hh := hh) hx hb hml hown hts hK hcA hsA hW hY hB1 hN1 hC hlo hz hP hL hS hjb hiw (lv_sub hl [0, 1, 2, 3, 4] rfl) kk
  · rw [hso] at hl
    refine lv_iload hx hb dL_law_130 (lv_at hl 5 rfl) ?_
    refine lv_if_ne (tgt := 147) hx hb dL_law_132 (by decide) (fun c132 => ?_) (fun c132 => by first | exact absurd (by decide) c132 | exact absurd c132 (by decide))
    refine lv_iload hx hb dL_law_147 (lv_at hl 5 rfl) ?_
    refine lv_iconst (v := (nI 1)) hx hb dL_law_149 (by decide) ?_
    refine lv_icmp_ne (tgt := 195) hx hb dL_law_150 (by decide) (fun c150 => by first | exact absurd (by decide) c150 | exact absurd c150 (by decide)) (fun c150 => ?_)
    exact law_c1 (gg := gg) (hh := hh) hx hb hml hown hts hK hcA hsA hW hY hB1 hN1 hC hlo hz hP hL hS hjb hiw (lv_sub hl [0, 1, 2, 3, 4, 7] rfl) kk
  · rw [hso] at hl
    refine lv_iload hx hb dL_law_130 (lv_at hl 5 rfl) ?_
    refine lv_if_ne (tgt := 147) hx hb dL_law_132 (by decide) (fun c132 => ?_) (fun c132 => by first | exact absurd (by decide) c132 | exact absurd c132 (by decide))
    refine lv_iload hx hb dL_law_147 (lv_at hl 5 rfl) ?_
    refine lv_iconst (v := (nI 1)) hx hb dL_law_149 (by decide) ?_
    refine lv_icmp_ne (tgt := 195) hx hb dL_law_150 (by decide) (fun c150 => ?_) (fun c150 => by first | exact absurd (by decide) c150 | exact absurd c150 (by decide))
    refine lv_iload hx hb dL_law_195 (lv_at hl 5 rfl) ?_
    refine lv_iconst (v := (nI 2)) hx hb dL_law_197 (by decide) ?_
    refine lv_icmp_ne (tgt := 314) hx hb dL_law_198 (by decide) (fun c198 => by first | exact absurd (by decide) c198 | exact absurd c198 (by decide)) (fun c198 => ?_)
    refine lv_iload hx hb dL_law_201 (lv_at hl 6 rfl) ?_
    refine g_if_le (tgt := 314) hx hb (by omega) dL_law_203 (by decide) (fun c203 => False.elim (by omega)) (fun c203 => ?_)
    exact law_c2 (gg := gg) (hh := hh) hx hb hml hown hts hK hcA hsA hW hY hB1 hN1 hC hlo hz hP hL hS hjb hiw (lv_sub hl [0, 1, 2, 3, 4, 6, 8] rfl) kk
  · rw [hso] at hl
    refine lv_iload hx hb dL_law_130 (lv_at hl 5 rfl) ?_
    refine lv_if_ne (tgt := 147) hx hb dL_law_132 (by decide) (fun c132 => ?_) (fun c132 => by first | exact absurd (by decide) c132 | exact absurd c132 (by decide))
    refine lv_iload hx hb dL_law_147 (lv_at hl 5 rfl) ?_
    refine lv_iconst (v := (nI 1)) hx hb dL_law_149 (by decide) ?_
    refine lv_icmp_ne (tgt := 195) hx hb dL_law_150 (by decide) (fun c150 => ?_) (fun c150 => by first | exact absurd (by decide) c150 | exact absurd c150 (by decide))
    refine lv_iload hx hb dL_law_195 (lv_at hl 5 rfl) ?_
    refine lv_iconst (v := (nI 2)) hx hb dL_law_197 (by decide) ?_
    refine lv_icmp_ne (tgt := 314) hx hb dL_law_198 (by decide) (fun c198 => ?_) (fun c198 => by first | exact absurd (by decide) c198 | exact absurd c198 (by decide))
    refine lv_iload hx hb dL_law_314 (lv_at hl 5 rfl) ?_
    refine lv_iconst (v := (nI 3)) hx hb dL_law_316 (by decide) ?_
    refine lv_icmp_ne (tgt := 377) hx hb dL_law_317 (by decide) (fun c317 => by first | exact absurd (by decide) c317 | exact absurd c317 (by decide)) (fun c317 => ?_)
    refine lv_iload hx hb dL_law_320 (lv_at hl 6 rfl) ?_
    refine g_if_le (tgt := 377) hx hb (by omega) dL_law_322 (by decide) (fun c322 => False.elim (by omega)) (fun c322 => ?_)
    exact law_c3 (gg := gg) (hh := hh) hx hb hml hown hts hK hcA hsA hW hY hB1 hN1 hC hlo hz hP hL hS hjb hiw (lv_sub hl [0, 1, 2, 4, 8] rfl) kk
  · rw [hso] at hl
    refine lv_iload hx hb dL_law_130 (lv_at hl 5 rfl) ?_
    refine lv_if_ne (tgt := 147) hx hb dL_law_132 (by decide) (fun c132 => ?_) (fun c132 => by first | exact absurd (by decide) c132 | exact absurd c132 (by decide))
    refine lv_iload hx hb dL_law_147 (lv_at hl 5 rfl) ?_
    refine lv_iconst (v := (nI 1)) hx hb dL_law_149 (by decide) ?_
    refine lv_icmp_ne (tgt := 195) hx hb dL_law_150 (by decide) (fun c150 => ?_) (fun c150 => by first | exact absurd (by decide) c150 | exact absurd c150 (by decide))
    refine lv_iload hx hb dL_law_195 (lv_at hl 5 rfl) ?_
    refine lv_iconst (v := (nI 2)) hx hb dL_law_197 (by decide) ?_
    refine lv_icmp_ne (tgt := 314) hx hb dL_law_198 (by decide) (fun c198 => ?_) (fun c198 => by first | exact absurd (by decide) c198 | exact absurd c198 (by decide))
    refine lv_iload hx hb dL_law_314 (lv_at hl 5 rfl) ?_
    refine lv_iconst (v := (nI 3)) hx hb dL_law_316 (by decide) ?_
    refine lv_icmp_ne (tgt := 377) hx hb dL_law_317 (by decide) (fun c317 => ?_) (fun c317 => by first | exact absurd (by decide) c317 | exact absurd c317 (by decide))
    refine lv_iload hx hb dL_law_377 (lv_at hl 5 rfl) ?_
    refine lv_iconst (v := (nI 4)) hx hb dL_law_379 (by decide) ?_
    refine lv_icmp_ne (tgt := 468) hx hb dL_law_380 (by decide) (fun c380 => by first | exact absurd (by decide) c380 | exact absurd c380 (by decide)) (fun c380 => ?_)
    exact law_c4 (gg := gg) (hh := hh) hx hb hml hown hts hK hcA hsA hW hY hB1 hN1 hC hlo hz hP hL hS hjb hiw (lv_sub hl [0, 1, 2, 4, 9] rfl) kk
  · rw [hso] at hl
    refine lv_iload hx hb dL_law_130 (lv_at hl 5 rfl) ?_
    refine lv_if_ne (tgt := 147) hx hb dL_law_132 (by decide) (fun c132 => ?_) (fun c132 => by first | exact absurd (by decide) c132 | exact absurd c132 (by decide))
    refine lv_iload hx hb dL_law_147 (lv_at hl 5 rfl) ?_
    refine lv_iconst (v := (nI 1)) hx hb dL_law_149 (by decide) ?_
    refine lv_icmp_ne (tgt := 195) hx hb dL_law_150 (by decide) (fun c150 => ?_) (fun c150 => by first | exact absurd (by decide) c150 | exact absurd c150 (by decide))
    refine lv_iload hx hb dL_law_195 (lv_at hl 5 rfl) ?_
    refine lv_iconst (v := (nI 2)) hx hb dL_law_197 (by decide) ?_
    refine lv_icmp_ne (tgt := 314) hx hb dL_law_198 (by decide) (fun c198 => ?_) (fun c198 => by first | exact absurd (by decide) c198 | exact absurd c198 (by decide))
    refine lv_iload hx hb dL_law_314 (lv_at hl 5 rfl) ?_
    refine lv_iconst (v := (nI 3)) hx hb dL_law_316 (by decide) ?_
    refine lv_icmp_ne (tgt := 377) hx hb dL_law_317 (by decide) (fun c317 => ?_) (fun c317 => by first | exact absurd (by decide) c317 | exact absurd c317 (by decide))
    refine lv_iload hx hb dL_law_377 (lv_at hl 5 rfl) ?_
    refine lv_iconst (v := (nI 4)) hx hb dL_law_379 (by decide) ?_
    refine lv_icmp_ne (tgt := 468) hx hb dL_law_380 (by decide) (fun c380 => ?_) (fun c380 => by first | exact absurd (by decide) c380 | exact absurd c380 (by decide))
    refine lv_iload hx hb dL_law_468 (lv_at hl 5 rfl) ?_
    refine lv_iconst (v := (nI 5)) hx hb dL_law_470 (by decide) ?_
    refine lv_icmp_ne (tgt := 617) hx hb dL_law_471 (by decide) (fun c471 => by first | exact absurd (by decide) c471 | exact absurd c471 (by decide)) (fun c471 => ?_)
    refine lv_iload hx hb dL_law_474 (lv_at hl 6 rfl) ?_
    refine g_if_le (tgt := 617) hx hb (by omega) dL_law_476 (by decide) (fun c476 => False.elim (by omega)) (fun c476 => ?_)
    exact law_c5 (gg := gg) (hh := hh) hx hb hml hown hts hK hcA hsA hW hY hB1 hN1 hC hlo hz hP hL hS hjb hiw (lv_sub hl [0, 1, 2, 4, 6, 8, 9] rfl) kk
  · rw [hso] at hl
    refine lv_iload hx hb dL_law_130 (lv_at hl 5 rfl) ?_
    refine lv_if_ne (tgt := 147) hx hb dL_law_132 (by decide) (fun c132 => ?_) (fun c132 => by first | exact absurd (by decide) c132 | exact absurd c132 (by decide))
    refine lv_iload hx hb dL_law_147 (lv_at hl 5 rfl) ?_
    refine lv_iconst (v := (nI 1)) hx hb dL_law_149 (by decide) ?_
    refine lv_icmp_ne (tgt := 195) hx hb dL_law_150 (by decide) (fun c150 => ?_) (fun c150 => by first | exact absurd (by decide) c150 | exact absurd c150 (by decide))
    refine lv_iload hx hb dL_law_195 (lv_at hl 5 rfl) ?_
    refine lv_iconst (v := (nI 2)) hx hb dL_law_197 (by decide) ?_
    refine lv_icmp_ne (tgt := 314) hx hb dL_law_198 (by decide) (fun c198 => ?_) (fun c198 => by first | exact absurd (by decide) c198 | exact absurd c198 (by decide))
    refine lv_iload hx hb dL_law_314 (lv_at hl 5 rfl) ?_
    refine lv_iconst (v := (nI 3)) hx hb dL_law_316 (by decide) ?_
    refine lv_icmp_ne (tgt := 377) hx hb dL_law_317 (by decide) (fun c317 => ?_) (fun c317 => by first | exact absurd (by decide) c317 | exact absurd c317 (by decide))
    refine lv_iload hx hb dL_law_377 (lv_at hl 5 rfl) ?_
    refine lv_iconst (v := (nI 4)) hx hb dL_law_379 (by decide) ?_
    refine lv_icmp_ne (tgt := 468) hx hb dL_law_380 (by decide) (fun c380 => ?_) (fun c380 => by first | exact absurd (by decide) c380 | exact absurd c380 (by decide))
    refine lv_iload hx hb dL_law_468 (lv_at hl 5 rfl) ?_
    refine lv_iconst (v := (nI 5)) hx hb dL_law_470 (by decide) ?_
    refine lv_icmp_ne (tgt := 617) hx hb dL_law_471 (by decide) (fun c471 => ?_) (fun c471 => by first | exact absurd (by decide) c471 | exact absurd c471 (by decide))
    refine lv_iload hx hb dL_law_617 (lv_at hl 5 rfl) ?_
    refine lv_bipush (v := (nI 6)) hx hb dL_law_619 (by decide) ?_
    refine lv_icmp_ne (tgt := 664) hx hb dL_law_621 (by decide) (fun c621 => by first | exact absurd (by decide) c621 | exact absurd c621 (by decide)) (fun c621 => ?_)
    exact law_c6 (gg := gg) (hh := hh) hx hb hml hown hts hK hcA hsA hW hY hB1 hN1 hC hlo hz hP hL hS hjb hiw (lv_sub hl [0, 1, 2, 4] rfl) kk
  · rw [hso] at hl
    refine lv_iload hx hb dL_law_130 (lv_at hl 5 rfl) ?_
    refine lv_if_ne (tgt := 147) hx hb dL_law_132 (by decide) (fun c132 => ?_) (fun c132 => by first | exact absurd (by decide) c132 | exact absurd c132 (by decide))
    refine lv_iload hx hb dL_law_147 (lv_at hl 5 rfl) ?_
    refine lv_iconst (v := (nI 1)) hx hb dL_law_149 (by decide) ?_
    refine lv_icmp_ne (tgt := 195) hx hb dL_law_150 (by decide) (fun c150 => ?_) (fun c150 => by first | exact absurd (by decide) c150 | exact absurd c150 (by decide))
    refine lv_iload hx hb dL_law_195 (lv_at hl 5 rfl) ?_
    refine lv_iconst (v := (nI 2)) hx hb dL_law_197 (by decide) ?_
    refine lv_icmp_ne (tgt := 314) hx hb dL_law_198 (by decide) (fun c198 => ?_) (fun c198 => by first | exact absurd (by decide) c198 | exact absurd c198 (by decide))
    refine lv_iload hx hb dL_law_314 (lv_at hl 5 rfl) ?_
    refine lv_iconst (v := (nI 3)) hx hb dL_law_316 (by decide) ?_
    refine lv_icmp_ne (tgt := 377) hx hb dL_law_317 (by decide) (fun c317 => ?_) (fun c317 => by first | exact absurd (by decide) c317 | exact absurd c317 (by decide))
    refine lv_iload hx hb dL_law_377 (lv_at hl 5 rfl) ?_
    refine lv_iconst (v := (nI 4)) hx hb dL_law_379 (by decide) ?_
    refine lv_icmp_ne (tgt := 468) hx hb dL_law_380 (by decide) (fun c380 => ?_) (fun c380 => by first | exact absurd (by decide) c380 | exact absurd c380 (by decide))
    refine lv_iload hx hb dL_law_468 (lv_at hl 5 rfl) ?_
    refine lv_iconst (v := (nI 5)) hx hb dL_law_470 (by decide) ?_
    refine lv_icmp_ne (tgt := 617) hx hb dL_law_471 (by decide) (fun c471 => ?_) (fun c471 => by first | exact absurd (by decide) c471 | exact absurd c471 (by decide))
    refine lv_iload hx hb dL_law_617 (lv_at hl 5 rfl) ?_
    refine lv_bipush (v := (nI 6)) hx hb dL_law_619 (by decide) ?_
    refine lv_icmp_ne (tgt := 664) hx hb dL_law_621 (by decide) (fun c621 => ?_) (fun c621 => by first | exact absurd (by decide) c621 | exact absurd c621 (by decide))
    refine lv_iload hx hb dL_law_664 (lv_at hl 5 rfl) ?_
    refine lv_bipush (v := (nI 10)) hx hb dL_law_666 (by decide) ?_
    refine lv_icmp_ge (tgt := 799) hx hb dL_law_668 (by decide) (fun c668 => by first | exact absurd (by decide) c668 | exact absurd c668 (by decide)) (fun c668 => ?_)
    refine lv_iload hx hb dL_law_671 (lv_at hl 6 rfl) ?_
    refine g_if_le (tgt := 799) hx hb (by omega) dL_law_673 (by decide) (fun c673 => False.elim (by omega)) (fun c673 => ?_)
    exact law_c7 (gg := gg) (hh := hh) hx hb hml hown hts hK hcA hsA hW hY hB1 hN1 hC hlo hz hP hL hS hjb hiw (lv_sub hl [0, 1, 2, 4, 8, 9] rfl) kk
  · rw [hso] at hl
    refine lv_iload hx hb dL_law_130 (lv_at hl 5 rfl) ?_
    refine lv_if_ne (tgt := 147) hx hb dL_law_132 (by decide) (fun c132 => ?_) (fun c132 => by first | exact absurd (by decide) c132 | exact absurd c132 (by decide))
    refine lv_iload hx hb dL_law_147 (lv_at hl 5 rfl) ?_
    refine lv_iconst (v := (nI 1)) hx hb dL_law_149 (by decide) ?_
    refine lv_icmp_ne (tgt := 195) hx hb dL_law_150 (by decide) (fun c150 => ?_) (fun c150 => by first | exact absurd (by decide) c150 | exact absurd c150 (by decide))
    refine lv_iload hx hb dL_law_195 (lv_at hl 5 rfl) ?_
    refine lv_iconst (v := (nI 2)) hx hb dL_law_197 (by decide) ?_
    refine lv_icmp_ne (tgt := 314) hx hb dL_law_198 (by decide) (fun c198 => ?_) (fun c198 => by first | exact absurd (by decide) c198 | exact absurd c198 (by decide))
    refine lv_iload hx hb dL_law_314 (lv_at hl 5 rfl) ?_
    refine lv_iconst (v := (nI 3)) hx hb dL_law_316 (by decide) ?_
    refine lv_icmp_ne (tgt := 377) hx hb dL_law_317 (by decide) (fun c317 => ?_) (fun c317 => by first | exact absurd (by decide) c317 | exact absurd c317 (by decide))
    refine lv_iload hx hb dL_law_377 (lv_at hl 5 rfl) ?_
    refine lv_iconst (v := (nI 4)) hx hb dL_law_379 (by decide) ?_
    refine lv_icmp_ne (tgt := 468) hx hb dL_law_380 (by decide) (fun c380 => ?_) (fun c380 => by first | exact absurd (by decide) c380 | exact absurd c380 (by decide))
    refine lv_iload hx hb dL_law_468 (lv_at hl 5 rfl) ?_
    refine lv_iconst (v := (nI 5)) hx hb dL_law_470 (by decide) ?_
    refine lv_icmp_ne (tgt := 617) hx hb dL_law_471 (by decide) (fun c471 => ?_) (fun c471 => by first | exact absurd (by decide) c471 | exact absurd c471 (by decide))
    refine lv_iload hx hb dL_law_617 (lv_at hl 5 rfl) ?_
    refine lv_bipush (v := (nI 6)) hx hb dL_law_619 (by decide) ?_
    refine lv_icmp_ne (tgt := 664) hx hb dL_law_621 (by decide) (fun c621 => ?_) (fun c621 => by first | exact absurd (by decide) c621 | exact absurd c621 (by decide))
    refine lv_iload hx hb dL_law_664 (lv_at hl 5 rfl) ?_
    refine lv_bipush (v := (nI 10)) hx hb dL_law_666 (by decide) ?_
    refine lv_icmp_ge (tgt := 799) hx hb dL_law_668 (by decide) (fun c668 => by first | exact absurd (by decide) c668 | exact absurd c668 (by decide)) (fun c668 => ?_)
    refine lv_iload hx hb dL_law_671 (lv_at hl 6 rfl) ?_
    refine g_if_le (tgt := 799) hx hb (by omega) dL_law_673 (by decide) (fun c673 => False.elim (by omega)) (fun c673 => ?_)
    exact law_c7 (gg := gg) (hh := hh) hx hb hml hown hts hK hcA hsA hW hY hB1 hN1 hC hlo hz hP hL hS hjb hiw (lv_sub hl [0, 1, 2, 4, 8, 9] rfl) kk
  · rw [hso] at hl
    refine lv_iload hx hb dL_law_130 (lv_at hl 5 rfl) ?_
    refine lv_if_ne (tgt := 147) hx hb dL_law_132 (by decide) (fun c132 => ?_) (fun c132 => by first | exact absurd (by decide) c132 | exact absurd c132 (by decide))
    refine lv_iload hx hb dL_law_147 (lv_at hl 5 rfl) ?_
    refine lv_iconst (v := (nI 1)) hx hb dL_law_149 (by decide) ?_
    refine lv_icmp_ne (tgt := 195) hx hb dL_law_150 (by decide) (fun c150 => ?_) (fun c150 => by first | exact absurd (by decide) c150 | exact absurd c150 (by decide))
    refine lv_iload hx hb dL_law_195 (lv_at hl 5 rfl) ?_
    refine lv_iconst (v := (nI 2)) hx hb dL_law_197 (by decide) ?_
    refine lv_icmp_ne (tgt := 314) hx hb dL_law_198 (by decide) (fun c198 => ?_) (fun c198 => by first | exact absurd (by decide) c198 | exact absurd c198 (by decide))
    refine lv_iload hx hb dL_law_314 (lv_at hl 5 rfl) ?_
    refine lv_iconst (v := (nI 3)) hx hb dL_law_316 (by decide) ?_
    refine lv_icmp_ne (tgt := 377) hx hb dL_law_317 (by decide) (fun c317 => ?_) (fun c317 => by first | exact absurd (by decide) c317 | exact absurd c317 (by decide))
    refine lv_iload hx hb dL_law_377 (lv_at hl 5 rfl) ?_
    refine lv_iconst (v := (nI 4)) hx hb dL_law_379 (by decide) ?_
    refine lv_icmp_ne (tgt := 468) hx hb dL_law_380 (by decide) (fun c380 => ?_) (fun c380 => by first | exact absurd (by decide) c380 | exact absurd c380 (by decide))
    refine lv_iload hx hb dL_law_468 (lv_at hl 5 rfl) ?_
    refine lv_iconst (v := (nI 5)) hx hb dL_law_470 (by decide) ?_
    refine lv_icmp_ne (tgt := 617) hx hb dL_law_471 (by decide) (fun c471 => ?_) (fun c471 => by first | exact absurd (by decide) c471 | exact absurd c471 (by decide))
    refine lv_iload hx hb dL_law_617 (lv_at hl 5 rfl) ?_
    refine lv_bipush (v := (nI 6)) hx hb dL_law_619 (by decide) ?_
    refine lv_icmp_ne (tgt := 664) hx hb dL_law_621 (by decide) (fun c621 => ?_) (fun c621 => by first | exact absurd (by decide) c621 | exact absurd c621 (by decide))
    refine lv_iload hx hb dL_law_664 (lv_at hl 5 rfl) ?_
    refine lv_bipush (v := (nI 10)) hx hb dL_law_666 (by decide) ?_
    refine lv_icmp_ge (tgt := 799) hx hb dL_law_668 (by decide) (fun c668 => by first | exact absurd (by decide) c668 | exact absurd c668 (by decide)) (fun c668 => ?_)
    refine lv_iload hx hb dL_law_671 (lv_at hl 6 rfl) ?_
    refine g_if_le (tgt := 799) hx hb (by omega) dL_law_673 (by decide) (fun c673 => False.elim (by omega)) (fun c673 => ?_)
    exact law_c7 (gg := gg) (hh := hh) hx hb hml hown hts hK hcA hsA hW hY hB1 hN1 hC hlo hz hP hL hS hjb hiw (lv_sub hl [0, 1, 2, 4, 8, 9] rfl) kk
  · rw [hso] at hl
    refine lv_iload hx hb dL_law_130 (lv_at hl 5 rfl) ?_
    refine lv_if_ne (tgt := 147) hx hb dL_law_132 (by decide) (fun c132 => ?_) (fun c132 => by first | exact absurd (by decide) c132 | exact absurd c132 (by decide))
    refine lv_iload hx hb dL_law_147 (lv_at hl 5 rfl) ?_
    refine lv_iconst (v := (nI 1)) hx hb dL_law_149 (by decide) ?_
    refine lv_icmp_ne (tgt := 195) hx hb dL_law_150 (by decide) (fun c150 => ?_) (fun c150 => by first | exact absurd (by decide) c150 | exact absurd c150 (by decide))
    refine lv_iload hx hb dL_law_195 (lv_at hl 5 rfl) ?_
    refine lv_iconst (v := (nI 2)) hx hb dL_law_197 (by decide) ?_
    refine lv_icmp_ne (tgt := 314) hx hb dL_law_198 (by decide) (fun c198 => ?_) (fun c198 => by first | exact absurd (by decide) c198 | exact absurd c198 (by decide))
    refine lv_iload hx hb dL_law_314 (lv_at hl 5 rfl) ?_
    refine lv_iconst (v := (nI 3)) hx hb dL_law_316 (by decide) ?_
    refine lv_icmp_ne (tgt := 377) hx hb dL_law_317 (by decide) (fun c317 => ?_) (fun c317 => by first | exact absurd (by decide) c317 | exact absurd c317 (by decide))
    refine lv_iload hx hb dL_law_377 (lv_at hl 5 rfl) ?_
    refine lv_iconst (v := (nI 4)) hx hb dL_law_379 (by decide) ?_
    refine lv_icmp_ne (tgt := 468) hx hb dL_law_380 (by decide) (fun c380 => ?_) (fun c380 => by first | exact absurd (by decide) c380 | exact absurd c380 (by decide))
    refine lv_iload hx hb dL_law_468 (lv_at hl 5 rfl) ?_
    refine lv_iconst (v := (nI 5)) hx hb dL_law_470 (by decide) ?_
    refine lv_icmp_ne (tgt := 617) hx hb dL_law_471 (by decide) (fun c471 => ?_) (fun c471 => by first | exact absurd (by decide) c471 | exact absurd c471 (by decide))
    refine lv_iload hx hb dL_law_617 (lv_at hl 5 rfl) ?_
    refine lv_bipush (v := (nI 6)) hx hb dL_law_619 (by decide) ?_
    refine lv_icmp_ne (tgt := 664) hx hb dL_law_621 (by decide) (fun c621 => ?_) (fun c621 => by first | exact absurd (by decide) c621 | exact absurd c621 (by decide))
    refine lv_iload hx hb dL_law_664 (lv_at hl 5 rfl) ?_
    refine lv_bipush (v := (nI 10)) hx hb dL_law_666 (by decide) ?_
    refine lv_icmp_ge (tgt := 799) hx hb dL_law_668 (by decide) (fun c668 => ?_) (fun c668 => by first | exact absurd (by decide) c668 | exact absurd c668 (by decide))
    refine lv_iload hx hb dL_law_799 (lv_at hl 5 rfl) ?_
    refine lv_bipush (v := (nI 10)) hx hb dL_law_801 (by decide) ?_
    refine lv_icmp_ne (tgt := 849) hx hb dL_law_803 (by decide) (fun c803 => by first | exact absurd (by decide) c803 | exact absurd c803 (by decide)) (fun c803 => ?_)
    exact law_c10 (gg := gg) (hh := hh) hx hb hml hown hts hK hcA hsA hW hY hB1 hN1 hC hlo hz hP hL hS hjb hiw (lv_sub hl [0, 1, 2, 4] rfl) kk
  · rw [hso] at hl
    refine lv_iload hx hb dL_law_130 (lv_at hl 5 rfl) ?_
    refine lv_if_ne (tgt := 147) hx hb dL_law_132 (by decide) (fun c132 => ?_) (fun c132 => by first | exact absurd (by decide) c132 | exact absurd c132 (by decide))
    refine lv_iload hx hb dL_law_147 (lv_at hl 5 rfl) ?_
    refine lv_iconst (v := (nI 1)) hx hb dL_law_149 (by decide) ?_
    refine lv_icmp_ne (tgt := 195) hx hb dL_law_150 (by decide) (fun c150 => ?_) (fun c150 => by first | exact absurd (by decide) c150 | exact absurd c150 (by decide))
    refine lv_iload hx hb dL_law_195 (lv_at hl 5 rfl) ?_
    refine lv_iconst (v := (nI 2)) hx hb dL_law_197 (by decide) ?_
    refine lv_icmp_ne (tgt := 314) hx hb dL_law_198 (by decide) (fun c198 => ?_) (fun c198 => by first | exact absurd (by decide) c198 | exact absurd c198 (by decide))
    refine lv_iload hx hb dL_law_314 (lv_at hl 5 rfl) ?_
    refine lv_iconst (v := (nI 3)) hx hb dL_law_316 (by decide) ?_
    refine lv_icmp_ne (tgt := 377) hx hb dL_law_317 (by decide) (fun c317 => ?_) (fun c317 => by first | exact absurd (by decide) c317 | exact absurd c317 (by decide))
    refine lv_iload hx hb dL_law_377 (lv_at hl 5 rfl) ?_
    refine lv_iconst (v := (nI 4)) hx hb dL_law_379 (by decide) ?_
    refine lv_icmp_ne (tgt := 468) hx hb dL_law_380 (by decide) (fun c380 => ?_) (fun c380 => by first | exact absurd (by decide) c380 | exact absurd c380 (by decide))
    refine lv_iload hx hb dL_law_468 (lv_at hl 5 rfl) ?_
    refine lv_iconst (v := (nI 5)) hx hb dL_law_470 (by decide) ?_
    refine lv_icmp_ne (tgt := 617) hx hb dL_law_471 (by decide) (fun c471 => ?_) (fun c471 => by first | exact absurd (by decide) c471 | exact absurd c471 (by decide))
    refine lv_iload hx hb dL_law_617 (lv_at hl 5 rfl) ?_
    refine lv_bipush (v := (nI 6)) hx hb dL_law_619 (by decide) ?_
    refine lv_icmp_ne (tgt := 664) hx hb dL_law_621 (by decide) (fun c621 => ?_) (fun c621 => by first | exact absurd (by decide) c621 | exact absurd c621 (by decide))
    refine lv_iload hx hb dL_law_664 (lv_at hl 5 rfl) ?_
    refine lv_bipush (v := (nI 10)) hx hb dL_law_666 (by decide) ?_
    refine lv_icmp_ge (tgt := 799) hx hb dL_law_668 (by decide) (fun c668 => ?_) (fun c668 => by first | exact absurd (by decide) c668 | exact absurd c668 (by decide))
    refine lv_iload hx hb dL_law_799 (lv_at hl 5 rfl) ?_
    refine lv_bipush (v := (nI 10)) hx hb dL_law_801 (by decide) ?_
    refine lv_icmp_ne (tgt := 849) hx hb dL_law_803 (by decide) (fun c803 => ?_) (fun c803 => by first | exact absurd (by decide) c803 | exact absurd c803 (by decide))
    refine lv_iload hx hb dL_law_849 (lv_at hl 5 rfl) ?_
    refine lv_bipush (v := (nI 11)) hx hb dL_law_851 (by decide) ?_
    refine lv_icmp_ne (tgt := 865) hx hb dL_law_853 (by decide) (fun c853 => by first | exact absurd (by decide) c853 | exact absurd c853 (by decide)) (fun c853 => ?_)
    exact law_c11 (gg := gg) (hh := hh) hx hb hml hown hts hK hcA hsA hW hY hB1 hN1 hC hlo hz hP hL hS hjb hiw (lv_sub hl [0, 1, 2] rfl) kk
  · rw [hso] at hl
    refine lv_iload hx hb dL_law_130 (lv_at hl 5 rfl) ?_
    refine lv_if_ne (tgt := 147) hx hb dL_law_132 (by decide) (fun c132 => ?_) (fun c132 => by first | exact absurd (by decide) c132 | exact absurd c132 (by decide))
    refine lv_iload hx hb dL_law_147 (lv_at hl 5 rfl) ?_
    refine lv_iconst (v := (nI 1)) hx hb dL_law_149 (by decide) ?_
    refine lv_icmp_ne (tgt := 195) hx hb dL_law_150 (by decide) (fun c150 => ?_) (fun c150 => by first | exact absurd (by decide) c150 | exact absurd c150 (by decide))
    refine lv_iload hx hb dL_law_195 (lv_at hl 5 rfl) ?_
    refine lv_iconst (v := (nI 2)) hx hb dL_law_197 (by decide) ?_
    refine lv_icmp_ne (tgt := 314) hx hb dL_law_198 (by decide) (fun c198 => ?_) (fun c198 => by first | exact absurd (by decide) c198 | exact absurd c198 (by decide))
    refine lv_iload hx hb dL_law_314 (lv_at hl 5 rfl) ?_
    refine lv_iconst (v := (nI 3)) hx hb dL_law_316 (by decide) ?_
    refine lv_icmp_ne (tgt := 377) hx hb dL_law_317 (by decide) (fun c317 => ?_) (fun c317 => by first | exact absurd (by decide) c317 | exact absurd c317 (by decide))
    refine lv_iload hx hb dL_law_377 (lv_at hl 5 rfl) ?_
    refine lv_iconst (v := (nI 4)) hx hb dL_law_379 (by decide) ?_
    refine lv_icmp_ne (tgt := 468) hx hb dL_law_380 (by decide) (fun c380 => ?_) (fun c380 => by first | exact absurd (by decide) c380 | exact absurd c380 (by decide))
    refine lv_iload hx hb dL_law_468 (lv_at hl 5 rfl) ?_
    refine lv_iconst (v := (nI 5)) hx hb dL_law_470 (by decide) ?_
    refine lv_icmp_ne (tgt := 617) hx hb dL_law_471 (by decide) (fun c471 => ?_) (fun c471 => by first | exact absurd (by decide) c471 | exact absurd c471 (by decide))
    refine lv_iload hx hb dL_law_617 (lv_at hl 5 rfl) ?_
    refine lv_bipush (v := (nI 6)) hx hb dL_law_619 (by decide) ?_
    refine lv_icmp_ne (tgt := 664) hx hb dL_law_621 (by decide) (fun c621 => ?_) (fun c621 => by first | exact absurd (by decide) c621 | exact absurd c621 (by decide))
    refine lv_iload hx hb dL_law_664 (lv_at hl 5 rfl) ?_
    refine lv_bipush (v := (nI 10)) hx hb dL_law_666 (by decide) ?_
    refine lv_icmp_ge (tgt := 799) hx hb dL_law_668 (by decide) (fun c668 => ?_) (fun c668 => by first | exact absurd (by decide) c668 | exact absurd c668 (by decide))
    refine lv_iload hx hb dL_law_799 (lv_at hl 5 rfl) ?_
    refine lv_bipush (v := (nI 10)) hx hb dL_law_801 (by decide) ?_
    refine lv_icmp_ne (tgt := 849) hx hb dL_law_803 (by decide) (fun c803 => ?_) (fun c803 => by first | exact absurd (by decide) c803 | exact absurd c803 (by decide))
    refine lv_iload hx hb dL_law_849 (lv_at hl 5 rfl) ?_
    refine lv_bipush (v := (nI 11)) hx hb dL_law_851 (by decide) ?_
    refine lv_icmp_ne (tgt := 865) hx hb dL_law_853 (by decide) (fun c853 => ?_) (fun c853 => by first | exact absurd (by decide) c853 | exact absurd c853 (by decide))
    refine lv_iload hx hb dL_law_865 (lv_at hl 5 rfl) ?_
    refine lv_bipush (v := (nI 12)) hx hb dL_law_867 (by decide) ?_
    refine lv_icmp_ne (tgt := 883) hx hb dL_law_869 (by decide) (fun c869 => by first | exact absurd (by decide) c869 | exact absurd c869 (by decide)) (fun c869 => ?_)
    exact law_c12 (gg := gg) (hh := hh) hx hb hml hown hts hK hcA hsA hW hY hB1 hN1 hC hlo hz hP hL hS hjb hiw (lv_sub hl [0, 1, 2, 9] rfl) kk
  · rw [hso] at hl
    refine lv_iload hx hb dL_law_130 (lv_at hl 5 rfl) ?_
    refine lv_if_ne (tgt := 147) hx hb dL_law_132 (by decide) (fun c132 => ?_) (fun c132 => by first | exact absurd (by decide) c132 | exact absurd c132 (by decide))
    refine lv_iload hx hb dL_law_147 (lv_at hl 5 rfl) ?_
    refine lv_iconst (v := (nI 1)) hx hb dL_law_149 (by decide) ?_
    refine lv_icmp_ne (tgt := 195) hx hb dL_law_150 (by decide) (fun c150 => ?_) (fun c150 => by first | exact absurd (by decide) c150 | exact absurd c150 (by decide))
    refine lv_iload hx hb dL_law_195 (lv_at hl 5 rfl) ?_
    refine lv_iconst (v := (nI 2)) hx hb dL_law_197 (by decide) ?_
    refine lv_icmp_ne (tgt := 314) hx hb dL_law_198 (by decide) (fun c198 => ?_) (fun c198 => by first | exact absurd (by decide) c198 | exact absurd c198 (by decide))
    refine lv_iload hx hb dL_law_314 (lv_at hl 5 rfl) ?_
    refine lv_iconst (v := (nI 3)) hx hb dL_law_316 (by decide) ?_
    refine lv_icmp_ne (tgt := 377) hx hb dL_law_317 (by decide) (fun c317 => ?_) (fun c317 => by first | exact absurd (by decide) c317 | exact absurd c317 (by decide))
    refine lv_iload hx hb dL_law_377 (lv_at hl 5 rfl) ?_
    refine lv_iconst (v := (nI 4)) hx hb dL_law_379 (by decide) ?_
    refine lv_icmp_ne (tgt := 468) hx hb dL_law_380 (by decide) (fun c380 => ?_) (fun c380 => by first | exact absurd (by decide) c380 | exact absurd c380 (by decide))
    refine lv_iload hx hb dL_law_468 (lv_at hl 5 rfl) ?_
    refine lv_iconst (v := (nI 5)) hx hb dL_law_470 (by decide) ?_
    refine lv_icmp_ne (tgt := 617) hx hb dL_law_471 (by decide) (fun c471 => ?_) (fun c471 => by first | exact absurd (by decide) c471 | exact absurd c471 (by decide))
    refine lv_iload hx hb dL_law_617 (lv_at hl 5 rfl) ?_
    refine lv_bipush (v := (nI 6)) hx hb dL_law_619 (by decide) ?_
    refine lv_icmp_ne (tgt := 664) hx hb dL_law_621 (by decide) (fun c621 => ?_) (fun c621 => by first | exact absurd (by decide) c621 | exact absurd c621 (by decide))
    refine lv_iload hx hb dL_law_664 (lv_at hl 5 rfl) ?_
    refine lv_bipush (v := (nI 10)) hx hb dL_law_666 (by decide) ?_
    refine lv_icmp_ge (tgt := 799) hx hb dL_law_668 (by decide) (fun c668 => ?_) (fun c668 => by first | exact absurd (by decide) c668 | exact absurd c668 (by decide))
    refine lv_iload hx hb dL_law_799 (lv_at hl 5 rfl) ?_
    refine lv_bipush (v := (nI 10)) hx hb dL_law_801 (by decide) ?_
    refine lv_icmp_ne (tgt := 849) hx hb dL_law_803 (by decide) (fun c803 => ?_) (fun c803 => by first | exact absurd (by decide) c803 | exact absurd c803 (by decide))
    refine lv_iload hx hb dL_law_849 (lv_at hl 5 rfl) ?_
    refine lv_bipush (v := (nI 11)) hx hb dL_law_851 (by decide) ?_
    refine lv_icmp_ne (tgt := 865) hx hb dL_law_853 (by decide) (fun c853 => ?_) (fun c853 => by first | exact absurd (by decide) c853 | exact absurd c853 (by decide))
    refine lv_iload hx hb dL_law_865 (lv_at hl 5 rfl) ?_
    refine lv_bipush (v := (nI 12)) hx hb dL_law_867 (by decide) ?_
    refine lv_icmp_ne (tgt := 883) hx hb dL_law_869 (by decide) (fun c869 => ?_) (fun c869 => by first | exact absurd (by decide) c869 | exact absurd c869 (by decide))
    refine lv_iload hx hb dL_law_883 (lv_at hl 5 rfl) ?_
    refine lv_bipush (v := (nI 13)) hx hb dL_law_885 (by decide) ?_
    refine lv_icmp_ne (tgt := 898) hx hb dL_law_887 (by decide) (fun c887 => by first | exact absurd (by decide) c887 | exact absurd c887 (by decide)) (fun c887 => ?_)
    exact law_c13 (gg := gg) (hh := hh) hx hb hml hown hts hK hcA hsA hW hY hB1 hN1 hC hlo hz hP hL hS hjb hiw (lv_sub hl [0, 1, 2, 9] rfl) kk

set_option maxHeartbeats 4000000 in
set_option maxRecDepth 100000 in
theorem law_tail {p : Program} {l : Launch} {e : Env} {s : State} {m : MethodId} {below : List Frame} {meth : Method} {c : Code} {Q : State → Prop} {D : va_G} {ka : Nat → ClassId} {B o b lo : Nat} {ne cA sA : Nat} (hx : p.tables.exec = Jvm.exec) (hb : c.code = code) (hml : c.maxLocals = 15) (hown : s.vm.findClass RL = some m.cls) (hts : ∀ w ∈ wsL_law, w.before #[Value.ref B] s = true) (hK : gK D ka s) (hcA : cA ≤ 500000) (hsA : sA ≤ 6000000) {σ : gS} {z : Nat} {H : Heap} {locs : List Loc} {ls : Array Slot} {S : sS} {tf : Nat → Int32} {tn P : Nat} {C : Nat → sS} {kp : Nat → Bool} (hW : Wo σ o b S tf tn P C kp z) (hY : okY S) (hB1 : 0 < sB S) (hN1 : 0 < sN S) (hC : okC P C kp) (hlo : lo ≤ z) (hz : H.size = z) (hP : gH D ka σ H) (hL : gL lo σ) (hS : va_S (gA lo) s.heap H locs)   (hl : lv_has ls 15 [(0, .ref B), (1, .ref o), (2, .int (nI ne)), (10, .int (nI 1))]) (kk : ∀ (τ : gS) (z1 : Nat) (H1 : Heap) (locs1 : List Loc) (ls1 : Array Slot), LwJ τ o b z1 → lo ≤ z1 → H1.size = z1 → gH D ka τ H1 → gL lo τ → va_S (gA lo) s.heap H1 locs1 → lv_has ls1 15 [(0, .ref B), (1, .ref o), (2, .int (nI (ne + 1)))] → W p l e room_1 s m #[Value.ref B] below meth c H1 locs1 (cA + 200) (sA + 1000) Q (F0 m 48 ls1 [])) : W p l e room_1 s m #[Value.ref B] below meth c H locs (cA) (sA) Q (F0 m 898 ls []) := by
  have hoz := hW.oz
  obtain ⟨⟨hB, hN, hKs, hRs⟩, -⟩ := id hY.1
  refine lv_iload hx hb dL_law_898 (lv_at hl 3 rfl) ?_
  refine lv_if_eq (tgt := 931) hx hb dL_law_900 (by decide) (fun c900 => by first | exact absurd (by decide) c900 | exact absurd c900 (by decide)) (fun c900 => ?_)
  refine lv_aload_n hx hb dL_law_903 rfl (lv_at hl 1 rfl) ?_
  refine g_runS (As := [.ref o]) (rest := []) (own := RL) 1 hx hb hml hown hts hK hz hP hL hS hlo hl.1 (c_L_singers l o b S tf tn P C kp z  σ z hW hY (by omega)) gL_law_L_singers rfl rfl rfl (by decide +kernel) ⟨Nat.le_of_ble_eq_true rfl, Nat.le_of_ble_eq_true rfl⟩ rfl rfl (Nat.le_of_ble_eq_true rfl) dL_law_904 ⟨(show cA + 0 ≤ 600000 by omega), (show sA + 0 ≤ 7302250 by omega)⟩ (g_kxi0 (fun r_1 τ_1 H locs z_1 hz hp hP hL hS => ?_))
  obtain ⟨hr_1, hW, hz_1, ha_1⟩ := hp
  have hz := hz.trans hz_1
  subst hr_1
  refine lv_if_eq (tgt := 931) hx hb dL_law_907 (by decide) (fun c907 => by first | exact absurd (by decide) c907 | exact absurd c907 (by decide)) (fun c907 => ?_)
  refine lv_aload_n hx hb dL_law_910 rfl (lv_at hl 1 rfl) ?_
  refine g_runS (As := [.ref o]) (rest := []) (own := RL) 1 hx hb hml hown hts hK hz hP hL hS hlo hl.1 (c_L_beats l o b S tf tn P C kp z  τ_1 z hW hY (by omega)) gL_law_L_beats rfl rfl rfl (by decide +kernel) ⟨Nat.le_of_ble_eq_true rfl, Nat.le_of_ble_eq_true rfl⟩ rfl rfl (Nat.le_of_ble_eq_true rfl) dL_law_911 ⟨(show cA + 96 ≤ 600000 by omega), (show sA + 384 ≤ 7302250 by omega)⟩ (g_kxi (fun r_2 τ_2 H locs z_2 hz hp hP hL hS => ?_))
  obtain ⟨hr_2, hW, hzl_2, hzu_2⟩ := hp
  subst hr_2
  have hlo : lo ≤ z_2 := Nat.le_trans hlo hzl_2
  refine lv_if_eq (tgt := 931) hx hb dL_law_914 (by decide) (fun c914 => by first | exact absurd (by decide) c914 | exact absurd c914 (by decide)) (fun c914 => ?_)
  refine lv_aload_n hx hb dL_law_917 rfl (lv_at hl 1 rfl) ?_
  refine g_runS (As := [.ref o]) (rest := []) (own := RL) 1 hx hb hml hown hts hK hz hP hL hS hlo hl.1 (c_L_faults l o b S tf tn P C kp z (poG (gF S)) τ_2 z_2 hW hY (by omega) (fun _ _ _ => rfl)) gL_law_L_faults rfl rfl rfl (by decide +kernel) ⟨Nat.le_of_ble_eq_true rfl, Nat.le_of_ble_eq_true rfl⟩ rfl rfl (Nat.le_of_ble_eq_true rfl) dL_law_918 ⟨(show cA + 96 + 1 ≤ 600000 by omega), (show sA + 384 + 4 ≤ 7302250 by omega)⟩ (g_kxi (fun r_3 τ_3 H locs z_3 hz hp hP hL hS => ?_))
  obtain ⟨hr_3, hW, hzl_3, hzu_3⟩ := hp
  subst hr_3
  have hlo : lo ≤ z_3 := Nat.le_trans hlo hzl_3
  refine lv_if_eq (tgt := 931) hx hb dL_law_921 (by decide) (fun c921 => by first | exact absurd (by decide) c921 | exact absurd c921 (by decide)) (fun c921 => ?_)
  refine lv_aload_n hx hb dL_law_924 rfl (lv_at hl 1 rfl) ?_
  refine g_runS (As := [.ref o]) (rest := []) (own := RL) 1 hx hb hml hown hts hK hz hP hL hS hlo hl.1 (c_L_solos l o b S tf tn P C kp z  τ_3 z_3 hW hY (by omega)) gL_law_L_solos rfl rfl rfl (by decide +kernel) ⟨Nat.le_of_ble_eq_true rfl, Nat.le_of_ble_eq_true rfl⟩ rfl rfl (Nat.le_of_ble_eq_true rfl) dL_law_925 ⟨(show cA + 96 + 1 + 0 ≤ 600000 by omega), (show sA + 384 + 4 + 0 ≤ 7302250 by omega)⟩ (g_kxi0 (fun r_4 τ_4 H locs z_4 hz hp hP hL hS => ?_))
  obtain ⟨hr_4, hW, hz_4, ha_4⟩ := hp
  have hz := hz.trans hz_4
  subst hr_4
  refine lv_if_ne (tgt := 933) hx hb dL_law_928 (by decide) (fun c928 => ?_) (fun c928 => by first | exact absurd (by decide) c928 | exact absurd c928 (by decide))
  refine lv_iinc (v := (nI (ne + 1))) (lv' := [(2, .int (nI (ne + 1))), (0, .ref B), (1, .ref o), (10, .int (nI 1))]) hx hb dL_law_933 hl (k := 2) rfl (g_inc ne 1) (by decide) rfl (fun ls hl => ?_)
  refine lv_goto (tgt := 48) hx hb dL_law_936 (by decide) ?_
  refine W.widen (k := cA + 200) (n := sA + 1000) (by omega) (by omega) ?_
  exact kk τ_4 z_3 H locs ls ⟨_, _, _, _, _, _, hW.up (by omega), hY, hB1, hN1, hC⟩ hlo hz hP hL hS (lv_sub hl [1, 2, 0] rfl)

set_option maxHeartbeats 4000000 in
set_option maxRecDepth 100000 in
theorem law_step {p : Program} {l : Launch} {e : Env} {s : State} {m : MethodId} {below : List Frame} {meth : Method} {c : Code} {Q : State → Prop} {D : va_G} {ka : Nat → ClassId} {B o b lo : Nat} {ne cA sA : Nat} (hx : p.tables.exec = Jvm.exec) (hb : c.code = code) (hml : c.maxLocals = 15) (hown : s.vm.findClass RL = some m.cls) (hts : ∀ w ∈ wsL_law, w.before #[Value.ref B] s = true) (hK : gK D ka s) (hcA : cA ≤ 400000) (hsA : sA ≤ 5000000) {σ : gS} {z : Nat} {H : Heap} {locs : List Loc} {ls : Array Slot} {S : sS} {tf : Nat → Int32} {tn P : Nat} {C : Nat → sS} {kp : Nat → Bool} (hW : Wo σ o b S tf tn P C kp z) (hY : okY S) (hB1 : 0 < sB S) (hN1 : 0 < sN S) (hC : okC P C kp) (hlo : lo ≤ z) (hz : H.size = z) (hP : gH D ka σ H) (hL : gL lo σ) (hS : va_S (gA lo) s.heap H locs) {L : Nat} {xs : Nat → Int32} (hX : va_X B L xs s s.heap) (hBl : B < s.heap.size) (hBlo : B < lo) (hL2 : L ≤ 260) (hne : ne < 30) (hl : lv_has ls 15 [(0, .ref B), (1, .ref o), (2, .int (nI ne))]) (kk : ∀ (τ : gS) (z1 : Nat) (H1 : Heap) (locs1 : List Loc) (ls1 : Array Slot), LwJ τ o b z1 → lo ≤ z1 → H1.size = z1 → gH D ka τ H1 → gL lo τ → va_S (gA lo) s.heap H1 locs1 → lv_has ls1 15 [(0, .ref B), (1, .ref o), (2, .int (nI (ne + 1)))] → W p l e room_1 s m #[Value.ref B] below meth c H1 locs1 (cA + 100 + 200) (sA + 4000 + 1000) Q (F0 m 48 ls1 [])) : W p l e room_1 s m #[Value.ref B] below meth c H locs (cA) (sA) Q (F0 m 54 ls []) := by
  have hoz := hW.oz
  obtain ⟨⟨hB, hN, hKs, hRs⟩, -⟩ := id hY.1
  refine lv_aload_n hx hb dL_law_54 rfl (lv_at hl 0 rfl) ?_
  refine lv_iconst (v := (nI 2)) hx hb dL_law_55 (by decide) ?_
  refine lv_iconst (v := (nI 2)) hx hb dL_law_56 (by decide) ?_
  refine lv_iload_n hx hb dL_law_57 rfl (lv_at hl 2 rfl) ?_
  refine lv_imul hx hb dL_law_58 ?_
  refine g_top (pk_mul 2 ne) ?_
  refine lv_iadd hx hb dL_law_59 ?_
  refine g_top (nI_add 2 (2 * ne)) ?_
  refine g_callc (rest := []) (va_runS (As := [.ref B, .int (nI (2 + (2 * ne)))]) (rest := []) ⟨hx, hb, hml, hown, hts⟩ (c_L_cell l B L (2 + (2 * ne)) lo xs (by omega) hL2 hBlo) (va_cwS 2 hts gL_law_L_cell rfl rfl rfl (by decide +kernel) ⟨Nat.le_of_ble_eq_true rfl, Nat.le_of_ble_eq_true rfl⟩) (cell_pre hX hBl hBlo hS) rfl rfl hl.1 rfl (lv_room (Nat.le_of_ble_eq_true rfl)) dL_law_60 ⟨(show cA + 0 ≤ 600000 by omega), (show sA + 0 ≤ 7302250 by omega)⟩) hS (fun r_1 locs hS => ?_)
  refine lv_istore_n (lv' := [(3, .int r_1), (0, .ref B), (1, .ref o), (2, .int (nI ne))]) hx hb dL_law_63 rfl hl (by decide) rfl (fun ls hl => ?_)
  refine lv_aload_n hx hb dL_law_64 rfl (lv_at hl 1 rfl) ?_
  refine lv_iconst (v := (nI 3)) hx hb dL_law_65 (by decide) ?_
  refine lv_iconst (v := (nI 2)) hx hb dL_law_66 (by decide) ?_
  refine lv_iload_n hx hb dL_law_67 rfl (lv_at hl 3 rfl) ?_
  refine lv_imul hx hb dL_law_68 ?_
  refine g_top (pk_mul 2 ne) ?_
  refine lv_iadd hx hb dL_law_69 ?_
  refine g_top (nI_add 3 (2 * ne)) ?_
  refine g_callc (rest := []) (va_runS (As := [.ref B, .int (nI (3 + (2 * ne)))]) (rest := []) ⟨hx, hb, hml, hown, hts⟩ (c_L_cell l B L (3 + (2 * ne)) lo xs (by omega) hL2 hBlo) (va_cwS 2 hts gL_law_L_cell rfl rfl rfl (by decide +kernel) ⟨Nat.le_of_ble_eq_true rfl, Nat.le_of_ble_eq_true rfl⟩) (cell_pre hX hBl hBlo hS) rfl rfl hl.1 rfl (lv_room (Nat.le_of_ble_eq_true rfl)) dL_law_70 ⟨(show cA + 0 ≤ 600000 by omega), (show sA + 0 ≤ 7302250 by omega)⟩) hS (fun r_2 locs hS => ?_)
  refine lv_istore (lv' := [(4, .int r_2), (3, .int r_1), (0, .ref B), (1, .ref o), (2, .int (nI ne))]) hx hb dL_law_73 hl (by decide) rfl (fun ls hl => ?_)
  refine lv_iload_n hx hb dL_law_75 rfl (lv_at hl 1 rfl) ?_
  refine lv_bipush (v := (nI 14)) hx hb dL_law_76 (by decide) ?_
  refine g_runS (As := [.int r_1, .int (nI 14)]) (rest := []) (own := RL) 2 hx hb hml hown hts hK hz hP hL hS hlo hl.1 (c_L_low l r_1 14 σ z (by omega) (by omega)) gL_law_L_low rfl rfl rfl (by decide +kernel) ⟨Nat.le_of_ble_eq_true rfl, Nat.le_of_ble_eq_true rfl⟩ rfl rfl (Nat.le_of_ble_eq_true rfl) dL_law_78 ⟨(show cA + 0 ≤ 600000 by omega), (show sA + 0 ≤ 7302250 by omega)⟩ (g_ki0 (fun H locs hz hP hL hS => ?_))
  obtain ⟨q_3, hq_3⟩ : ∃ q : Nat, q = lowN r_1 14 := ⟨_, rfl⟩
  have hql_3 : q_3 < 14 := by rw [hq_3]; exact lowN_lt _ (by omega)
  refine g_top (y := (nI q_3)) (by rw [hq_3]) ?_
  refine lv_istore (lv' := [(5, .int (nI q_3)), (4, .int r_2), (3, .int r_1), (0, .ref B), (1, .ref o), (2, .int (nI ne))]) hx hb dL_law_81 hl (by decide) rfl (fun ls hl => ?_)
  refine lv_iload_n hx hb dL_law_83 rfl (lv_at hl 2 rfl) ?_
  refine lv_iconst (v := (nI 4)) hx hb dL_law_84 (by decide) ?_
  refine lv_ishr hx hb dL_law_85 ?_
  refine lv_istore_n (lv' := [(3, .int (r_1 >>> ((nI 4) &&& 31))), (5, .int (nI q_3)), (4, .int r_2), (0, .ref B), (1, .ref o), (2, .int (nI ne))]) hx hb dL_law_86 rfl hl (by decide) rfl (fun ls hl => ?_)
  refine lv_aload_n hx hb dL_law_87 rfl (lv_at hl 4 rfl) ?_
  refine lv_iconst (v := (nI 0)) hx hb dL_law_88 (by decide) ?_
  refine g_runV (As := [.int (nI 0)]) (rest := []) (own := RL) (C := RX7) (T := TX7) (N := 7) 1 hx hb hml hown hts hK hz hP hL hS hlo hl.1 (c_X7_count l o b S tf tn P C kp z ((nI 0))  σ z hW hY.1.1 ) gL_law_X7_count rfl rfl rfl (by decide +kernel) ⟨Nat.le_of_ble_eq_true rfl, Nat.le_of_ble_eq_true rfl⟩ hW.c0 rfl rfl rfl (Nat.le_of_ble_eq_true rfl) dL_law_89 ⟨(show cA + 0 ≤ 600000 by omega), (show sA + 0 ≤ 7302250 by omega)⟩ (g_kxi0 (fun r_4 τ_4 H locs z_4 hz hp hP hL hS => ?_))
  obtain ⟨hr_4, hW, hz_4, ha_4⟩ := hp
  have hz := hz.trans hz_4
  subst hr_4
  refine g_top (y := (nI (sB S))) yc_0 ?_
  refine lv_istore (lv' := [(6, .int (nI (sB S))), (3, .int (r_1 >>> ((nI 4) &&& 31))), (5, .int (nI q_3)), (4, .int r_2), (0, .ref B), (1, .ref o), (2, .int (nI ne))]) hx hb dL_law_92 hl (by decide) rfl (fun ls hl => ?_)
  refine lv_aload_n hx hb dL_law_94 rfl (lv_at hl 5 rfl) ?_
  refine lv_iconst (v := (nI 3)) hx hb dL_law_95 (by decide) ?_
  refine g_runV (As := [.int (nI 3)]) (rest := []) (own := RL) (C := RX7) (T := TX7) (N := 7) 1 hx hb hml hown hts hK hz hP hL hS hlo hl.1 (c_X7_count l o b S tf tn P C kp z ((nI 3))  τ_4 z hW hY.1.1 ) gL_law_X7_count rfl rfl rfl (by decide +kernel) ⟨Nat.le_of_ble_eq_true rfl, Nat.le_of_ble_eq_true rfl⟩ hW.c0 rfl rfl rfl (Nat.le_of_ble_eq_true rfl) dL_law_96 ⟨(show cA + 0 ≤ 600000 by omega), (show sA + 0 ≤ 7302250 by omega)⟩ (g_kxi0 (fun r_5 τ_5 H locs z_5 hz hp hP hL hS => ?_))
  obtain ⟨hr_5, hW, hz_5, ha_5⟩ := hp
  have hz := hz.trans hz_5
  subst hr_5
  refine g_top (y := (nI (sN S))) yc_3 ?_
  refine lv_istore (lv' := [(7, .int (nI (sN S))), (6, .int (nI (sB S))), (3, .int (r_1 >>> ((nI 4) &&& 31))), (5, .int (nI q_3)), (4, .int r_2), (0, .ref B), (1, .ref o), (2, .int (nI ne))]) hx hb dL_law_99 hl (by decide) rfl (fun ls hl => ?_)
  refine lv_iload_n hx hb dL_law_101 rfl (lv_at hl 2 rfl) ?_
  refine lv_iload hx hb dL_law_102 (lv_at hl 1 rfl) ?_
  refine g_if_ne (tgt := 111) hx hb (by omega) dL_law_104 (by decide) (fun c104 => ?_) (fun c104 => False.elim (by omega))
  refine lv_iload hx hb dL_law_111 (lv_at hl 1 rfl) ?_
  refine g_runS (As := [.int (r_1 >>> ((nI 4) &&& 31)), .int (nI (sB S))]) (rest := []) (own := RL) 2 hx hb hml hown hts hK hz hP hL hS hlo hl.1 (c_L_low l ((r_1 >>> ((nI 4) &&& 31))) (sB S) τ_5 z (by omega) (by omega)) gL_law_L_low rfl rfl rfl (by decide +kernel) ⟨Nat.le_of_ble_eq_true rfl, Nat.le_of_ble_eq_true rfl⟩ rfl rfl (Nat.le_of_ble_eq_true rfl) dL_law_113 ⟨(show cA + 0 ≤ 600000 by omega), (show sA + 0 ≤ 7302250 by omega)⟩ (g_ki0 (fun H locs hz hP hL hS => ?_))
  obtain ⟨q_6, hq_6⟩ : ∃ q : Nat, q = lowN ((r_1 >>> ((nI 4) &&& 31))) (sB S) := ⟨_, rfl⟩
  have hql_6 : q_6 < sB S := by rw [hq_6]; exact lowN_lt _ (by omega)
  refine g_top (y := (nI q_6)) (by rw [hq_6]) ?_
  refine lv_istore (lv' := [(8, .int (nI q_6)), (7, .int (nI (sN S))), (6, .int (nI (sB S))), (3, .int (r_1 >>> ((nI 4) &&& 31))), (5, .int (nI q_3)), (4, .int r_2), (0, .ref B), (1, .ref o), (2, .int (nI ne))]) hx hb dL_law_116 hl (by decide) rfl (fun ls hl => ?_)
  refine lv_iload hx hb dL_law_118 (lv_at hl 5 rfl) ?_
  refine lv_iload hx hb dL_law_120 (lv_at hl 1 rfl) ?_
  refine g_runS (As := [.int r_2, .int (nI (sN S))]) (rest := []) (own := RL) 2 hx hb hml hown hts hK hz hP hL hS hlo hl.1 (c_L_low l r_2 (sN S) τ_5 z (by omega) (by omega)) gL_law_L_low rfl rfl rfl (by decide +kernel) ⟨Nat.le_of_ble_eq_true rfl, Nat.le_of_ble_eq_true rfl⟩ rfl rfl (Nat.le_of_ble_eq_true rfl) dL_law_122 ⟨(show cA + 0 ≤ 600000 by omega), (show sA + 0 ≤ 7302250 by omega)⟩ (g_ki0 (fun H locs hz hP hL hS => ?_))
  obtain ⟨q_7, hq_7⟩ : ∃ q : Nat, q = lowN r_2 (sN S) := ⟨_, rfl⟩
  have hql_7 : q_7 < sN S := by rw [hq_7]; exact lowN_lt _ (by omega)
  refine g_top (y := (nI q_7)) (by rw [hq_7]) ?_
  refine lv_istore (lv' := [(9, .int (nI q_7)), (8, .int (nI q_6)), (7, .int (nI (sN S))), (6, .int (nI (sB S))), (3, .int (r_1 >>> ((nI 4) &&& 31))), (5, .int (nI q_3)), (4, .int r_2), (0, .ref B), (1, .ref o), (2, .int (nI ne))]) hx hb dL_law_125 hl (by decide) rfl (fun ls hl => ?_)
  refine lv_iconst (v := (nI 1)) hx hb dL_law_127 (by decide) ?_
  refine lv_istore (lv' := [(10, .int (nI 1)), (9, .int (nI q_7)), (8, .int (nI q_6)), (7, .int (nI (sN S))), (6, .int (nI (sB S))), (3, .int (r_1 >>> ((nI 4) &&& 31))), (5, .int (nI q_3)), (4, .int r_2), (0, .ref B), (1, .ref o), (2, .int (nI ne))]) hx hb dL_law_128 hl (by decide) rfl (fun ls hl => ?_)
  exact law_disp (so := q_3) (jb := q_6) (iw := q_7) hx hb hml hown hts hK (by omega) (by omega) hW hY hB1 hN1 hC hlo hz hP hL hS (by omega) (by omega) (by omega) (lv_sub hl [8, 9, 10, 5, 7, 6, 4, 3, 2, 1, 0] rfl) (fun τ z1 H1 locs1 ls1 hJ hlo hz hP hL hS hl => by
    obtain ⟨S, tf, tn, P, C, kp, hW, hY, hB1, hN1, hC⟩ := hJ
    exact law_tail hx hb hml hown hts hK (by omega) (by omega) hW hY hB1 hN1 hC hlo hz hP hL hS hl kk)

set_option maxHeartbeats 4000000 in
set_option maxRecDepth 100000 in
theorem law_begin {p : Program} {l : Launch} {e : Env} {s : State} {m : MethodId} {below : List Frame} {meth : Method} {c : Code} {Q : State → Prop} {D : va_G} {ka : Nat → ClassId} {B o b lo : Nat} {ne cA sA : Nat} (hx : p.tables.exec = Jvm.exec) (hb : c.code = code) (hml : c.maxLocals = 15) (hown : s.vm.findClass RL = some m.cls) (hts : ∀ w ∈ wsL_law, w.before #[Value.ref B] s = true) (hK : gK D ka s) (hcA : cA ≤ 400000) (hsA : sA ≤ 5000000) {σ : gS} {z : Nat} {H : Heap} {locs : List Loc} {ls : Array Slot} {S : sS} {tf : Nat → Int32} {tn P : Nat} {C : Nat → sS} {kp : Nat → Bool} (hW : Wo σ o b S tf tn P C kp z) (hY : okY S) (hC : okC P C kp) (h80 : S 8 2 = 0) (hN0 : sN S = 0) (hlo : lo ≤ z) (hz : H.size = z) (hP : gH D ka σ H) (hL : gL lo σ) (hS : va_S (gA lo) s.heap H locs) {L : Nat} {xs : Nat → Int32} (hX : va_X B L xs s s.heap) (hBl : B < s.heap.size) (hBlo : B < lo) (hL2 : L ≤ 260)  (hl : lv_has ls 15 [(0, .ref B), (1, .ref o)]) (kk : ∀ (τ : gS) (z1 : Nat) (H1 : Heap) (locs1 : List Loc) (ls1 : Array Slot), LwJ τ o b z1 → lo ≤ z1 → H1.size = z1 → gH D ka τ H1 → gL lo τ → va_S (gA lo) s.heap H1 locs1 → lv_has ls1 15 [(0, .ref B), (1, .ref o), (2, .int (nI 0))] → W p l e room_1 s m #[Value.ref B] below meth c H1 locs1 (cA + 200) (sA + 5000) Q (F0 m 48 ls1 [])) : W p l e room_1 s m #[Value.ref B] below meth c H locs (cA) (sA) Q (F0 m 8 ls []) := by
  have hoz := hW.oz
  obtain ⟨⟨hB, hN, hKs, hRs⟩, -⟩ := id hY.1
  refine lv_aload_n hx hb dL_law_8 rfl (lv_at hl 1 rfl) ?_
  refine g_runV (As := []) (rest := []) (own := RL) (C := RX7) (T := TX7) (N := 7) 0 hx hb hml hown hts hK hz hP hL hS hlo hl.1 (c_X7_make l o b S tf tn P C kp 0 σ z (hW.up (by omega)) hY.1.1 (by rw [h80]; decide) (by omega)) gL_law_X7_make rfl rfl rfl (by decide +kernel) ⟨Nat.le_of_ble_eq_true rfl, Nat.le_of_ble_eq_true rfl⟩ hW.c0 rfl rfl rfl (Nat.le_of_ble_eq_true rfl) dL_law_9 ⟨(show cA + 17 ≤ 600000 by omega), (show sA + 789 ≤ 7302250 by omega)⟩ (g_kxi (fun r_1 τ_1 H locs z_1 hz hp hP hL hS => ?_))
  obtain ⟨hr_1, hW, hzl_1, hzu_1⟩ := wP_no (by rw [o_make, if_pos h80]) hp
  have hlo : lo ≤ z_1 := Nat.le_trans hlo hzl_1
  subst hr_1
  have hoz_1 := hW.oz
  refine lv_bipush (v := (-4)) hx hb dL_law_12 (by decide) ?_
  refine lv_icmp_ne (tgt := 44) hx hb dL_law_14 (by decide) (fun c14 => by first | exact absurd (by decide) c14 | exact absurd c14 (by decide)) (fun c14 => ?_)
  refine lv_aload_n hx hb dL_law_17 rfl (lv_at hl 1 rfl) ?_
  refine lv_bipush (v := (nI 10)) hx hb dL_law_18 (by decide) ?_
  refine lv_iconst (v := (nI 2)) hx hb dL_law_20 (by decide) ?_
  refine g_runV (As := [.int (nI 10), .int (nI 2)]) (rest := []) (own := RL) (C := RX7) (T := TX7) (N := 7) 2 hx hb hml hown hts hK hz hP hL hS hlo hl.1 (c_X7_addSinger l o b S tf tn P C kp ((nI 10)) ((nI 2)) τ_1 z_1 (hW.up (by omega)) hY.1.1) gL_law_X7_addSinger rfl rfl rfl (by decide +kernel) ⟨Nat.le_of_ble_eq_true rfl, Nat.le_of_ble_eq_true rfl⟩ hW.c0 rfl rfl rfl (Nat.le_of_ble_eq_true rfl) dL_law_21 ⟨(show cA + 17 + 17 ≤ 600000 by omega), (show sA + 789 + 789 ≤ 7302250 by omega)⟩ (g_kxi (fun r_2 τ_2 H locs z_2 hz hp hP hL hS => ?_))
  obtain ⟨S2, he, hY2, hB2, hN2⟩ := a_add hY (x := 10) (y := 2) ⟨by omega, by omega⟩ ⟨by omega, by omega⟩ (by omega)
  obtain ⟨hr_2, hW, hzl_2, hzu_2⟩ := wP_yes he hp
  have hC2 := hC.act hY.1.1 (show P ≤ 5 by omega)
  have hN21 : 0 < sN S2 := by omega
  obtain ⟨⟨hB9, hN9, hK9, hR9⟩, -⟩ := id hY2.1
  have hlo : lo ≤ z_2 := Nat.le_trans hlo hzl_2
  subst hr_2
  have hoz_2 := hW.oz
  refine g_if_ne (tgt := 44) hx hb (by omega) dL_law_24 (by decide) (fun c24 => False.elim (by omega)) (fun c24 => ?_)
  refine lv_aload_n hx hb dL_law_27 rfl (lv_at hl 1 rfl) ?_
  refine lv_aload_n hx hb dL_law_28 rfl (lv_at hl 0 rfl) ?_
  refine lv_iconst (v := (nI 0)) hx hb dL_law_29 (by decide) ?_
  refine g_callc (rest := [.ref o]) (va_runS (As := [.ref B, .int (nI 0)]) (rest := [.ref o]) ⟨hx, hb, hml, hown, hts⟩ (c_L_cell l B L 0 lo xs (by omega) hL2 hBlo) (va_cwS 2 hts gL_law_L_cell rfl rfl rfl (by decide +kernel) ⟨Nat.le_of_ble_eq_true rfl, Nat.le_of_ble_eq_true rfl⟩) (cell_pre hX hBl hBlo hS) rfl rfl hl.1 rfl (lv_room (Nat.le_of_ble_eq_true rfl)) dL_law_30 ⟨(show cA + 17 + 17 + 0 ≤ 600000 by omega), (show sA + 789 + 789 + 0 ≤ 7302250 by omega)⟩) hS (fun r_3 locs hS => ?_)
  refine lv_aload_n hx hb dL_law_33 rfl (lv_at hl 0 rfl) ?_
  refine lv_iconst (v := (nI 1)) hx hb dL_law_34 (by decide) ?_
  refine g_callc (rest := [.int r_3, .ref o]) (va_runS (As := [.ref B, .int (nI 1)]) (rest := [.int r_3, .ref o]) ⟨hx, hb, hml, hown, hts⟩ (c_L_cell l B L 1 lo xs (by omega) hL2 hBlo) (va_cwS 2 hts gL_law_L_cell rfl rfl rfl (by decide +kernel) ⟨Nat.le_of_ble_eq_true rfl, Nat.le_of_ble_eq_true rfl⟩) (cell_pre hX hBl hBlo hS) rfl rfl hl.1 rfl (lv_room (Nat.le_of_ble_eq_true rfl)) dL_law_35 ⟨(show cA + 17 + 17 + 0 ≤ 600000 by omega), (show sA + 789 + 789 + 0 ≤ 7302250 by omega)⟩) hS (fun r_4 locs hS => ?_)
  refine g_runS (As := [.ref o, .int r_3, .int r_4]) (rest := []) (own := RL) 3 hx hb hml hown hts hK hz hP hL hS hlo hl.1 (c_L_reads l o b S2 tf tn (recP P) (recS C P S) kp z_2 r_3 r_4 τ_2 z_2 hW hY2 (by omega) hC2) gL_law_L_reads rfl rfl rfl (by decide +kernel) ⟨Nat.le_of_ble_eq_true rfl, Nat.le_of_ble_eq_true rfl⟩ rfl rfl (Nat.le_of_ble_eq_true rfl) dL_law_38 ⟨(show cA + 17 + 17 + 19 ≤ 600000 by omega), (show sA + 789 + 789 + 917 ≤ 7302250 by omega)⟩ (g_kxi (fun r_5 τ_5 H locs z_5 hz hp hP hL hS => ?_))
  obtain ⟨hr_5, S3, tf3, tn3, P3, C3, hW, hY3, hB3, hN3, hC3, hzl_5, hzu_5⟩ := hp
  have hlo : lo ≤ z_5 := Nat.le_trans hlo hzl_5
  have hN31 : 0 < sN S3 := by omega
  subst hr_5
  refine lv_if_ne (tgt := 46) hx hb dL_law_41 (by decide) (fun c41 => ?_) (fun c41 => by first | exact absurd (by decide) c41 | exact absurd c41 (by decide))
  refine lv_iconst (v := (nI 0)) hx hb dL_law_46 (by decide) ?_
  refine lv_istore_n (lv' := [(2, .int (nI 0)), (0, .ref B), (1, .ref o)]) hx hb dL_law_47 rfl hl (by decide) rfl (fun ls hl => ?_)
  refine W.widen (k := cA + 200) (n := sA + 5000) (by omega) (by omega) ?_
  exact kk τ_5 z_5 H locs ls ⟨_, _, _, _, _, _, hW.up (by omega), hY3, hB3, hN31, hC3⟩ hlo hz hP hL hS (lv_sub hl [1, 2, 0] rfl)
