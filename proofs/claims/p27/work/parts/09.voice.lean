/-! what one singer does, beat by beat -/
def leftF (S : sS) (i : Nat) (br : Int32) : Nat → Int32
  | 0 => br
  | b + 1 => if doN S i b (leftF S i br b) = 0 then leftF S i br b - S 1 b else if leftF S i br b + S 4 i < br then leftF S i br b + S 4 i else br
def dosF (S : sS) (i : Nat) (br : Int32) (b : Nat) : Nat := doN S i b (leftF S i br b)
theorem dosF_lt (S : sS) (i : Nat) (br : Int32) (b : Nat) : dosF S i br b < 4 := doN_lt _ _ _ _
theorem leftF_0 {S : sS} {i : Nat} {br : Int32} {b : Nat} (h : dosF S i br b = 0) : leftF S i br b - S 1 b = leftF S i br (b + 1) := by rw [leftF]; exact (if_pos h).symm
theorem leftF_1 {S : sS} {i : Nat} {br : Int32} {b : Nat} (h : 0 < dosF S i br b) : (if leftF S i br b + S 4 i < br then leftF S i br b + S 4 i else br) = leftF S i br (b + 1) := by rw [leftF]; exact (if_neg (by show ¬ dosF S i br b = 0; omega)).symm
def lsF (w : Int32) (f : Nat → Int32) : Nat → Int32
  | 0 => w
  | k + 1 => if f k < lsF w f k then f k else lsF w f k
def rnF (d : Nat → Int32) : Nat → Nat
  | 0 => 0
  | k + 1 => if d k = 0 then rnF d k + 1 else 0
theorem rnF_le (d : Nat → Int32) : ∀ k, rnF d k ≤ k
  | 0 => Nat.le_refl 0
  | k + 1 => by
    have := rnF_le d k
    rw [rnF]
    split <;> omega
theorem rnF_t {d : Nat → Int32} {k : Nat} (h : d k = 0) : rnF d k + 1 = rnF d (k + 1) := by rw [rnF, if_pos h]
theorem rnF_f {d : Nat → Int32} {k : Nat} (h : ¬ d k = 0) : 0 = rnF d (k + 1) := by rw [rnF, if_neg h]
def lgF (d : Nat → Int32) : Nat → Nat
  | 0 => 0
  | k + 1 => max (lgF d k) (rnF d (k + 1))
theorem lgF_le (d : Nat → Int32) : ∀ k, lgF d k ≤ k
  | 0 => Nat.le_refl 0
  | k + 1 => by
    have := lgF_le d k
    have := rnF_le d (k + 1)
    rw [lgF]
    omega
theorem nX6_follow_X4 : ∀ w ∈ wsX40, w ∈ wsX6_follow := by decide +kernel
theorem nX6_follow_X6 : ∀ w ∈ wsX60, w ∈ wsX6_follow := by decide +kernel
set_option maxHeartbeats 4000000 in
set_option maxRecDepth 100000 in
theorem c_X6_follow (l : Launch) (v x : Nat) (S : sS) (i : Nat) (br : Int32) (d f : Nat → Int32) (b0 : Nat) (w0 : Int32) (σ : gS) (sz : Nat) (hSt : StAt σ x S) (hVo : VoAt σ v d f b0 w0) (hxv : x + 17 ≤ v ∨ v + 5 ≤ x) (hB : sB S ≤ 96) (hKs : sK S ≤ 8) (hi0 : i < 12) : gM l yX6_follow wsX6_follow ({ frames := 4, cells := 0, slots := 0, locals := 89 } : Room) 0 0 [.ref v, .ref x, .int (nI i), .int br] σ sz (gxv (fun τ n => n = sz ∧ VoAt τ v (cpyF d (fun j => nI (dosF S i br j)) (sB S)) (cpyF f (fun j => leftF S i br (j + 1)) (sB S)) (sB S) br ∧ gAs (gZo v 5) σ τ)) := by
  refine gM_of (cc := cX6_follow) (maxL := 8) (ret := none) (by decide) rfl (Nat.le_of_ble_eq_true rfl) ?_
  intro D ka lo hL hlo p e s m below meth c hx hb hr hts hown hml hlk hnm hK H locs ls hz hP hS hl
  have hl : lv_has ls 8 [(0, .ref v), (1, .ref x), (2, .int (nI i)), (3, .int br)] := hl
  have hown : s.vm.findClass RX6 = some m.cls := hown
  have hag : gAs (gZo v 5) σ σ := gAs.rf
  refine lv_aload_n hx hb dX6_follow_0 rfl (lv_at hl 0 rfl) ?_
  refine lv_aload_n hx hb dX6_follow_1 rfl (lv_at hl 1 rfl) ?_
  refine g_get (C := RX4) (T := TX4) (N := 13) hx hb hts hown hK hP hSt.c0 nX6_follow_X4 rfl 0 (by decide) (by decide +kernel) rfl (v := .int (nI (sB S))) rfl dX6_follow_2 ?_
  refine g_put (C := RX6) (T := TX6) (N := 4) hx hb hts hown hK hP hL hS hVo.c0 nX6_follow_X6 tyX6 tyX6_ok nmX6 rfl 2 (by decide) (by decide +kernel) rfl rfl (v := .int (nI (sB S))) rfl rfl (Nat.le_of_ble_eq_true rfl) dX6_follow_5 (fun H locs hq hP hL hS => ?_)
  have hz := hq.trans hz
  obtain ⟨σ1, e1⟩ : ∃ υ0 : gS, υ0 = gup σ v (gO 6 [.ref (v + 1), .ref (v + 3), .int (nI (sB S)), .int w0]) := ⟨_, rfl⟩
  have hP : gH D ka σ1 H := by rw [e1]; exact hP
  have hL : gL lo σ1 := by rw [e1]; exact hL
  have hSt := hSt.fr (τ := σ1) (fun q h1 h2 => gup_eq e1 (by omega))
  have hVo : VoAt σ1 v d f (sB S) w0 := by rw [e1]; exact hVo.p2 (sB S)
  have hag := hag.upe e1 (zo_0 (by decide))
  refine lv_aload_n hx hb dX6_follow_8 rfl (lv_at hl 0 rfl) ?_
  refine lv_iload_n hx hb dX6_follow_9 rfl (lv_at hl 3 rfl) ?_
  refine g_put (C := RX6) (T := TX6) (N := 4) hx hb hts hown hK hP hL hS hVo.c0 nX6_follow_X6 tyX6 tyX6_ok nmX6 rfl 3 (by decide) (by decide +kernel) rfl rfl (v := .int br) rfl rfl (Nat.le_of_ble_eq_true rfl) dX6_follow_10 (fun H locs hq hP hL hS => ?_)
  have hz := hq.trans hz
  obtain ⟨σ2, e2⟩ : ∃ υ0 : gS, υ0 = gup σ1 v (gO 6 [.ref (v + 1), .ref (v + 3), .int (nI (sB S)), .int br]) := ⟨_, rfl⟩
  have hP : gH D ka σ2 H := by rw [e2]; exact hP
  have hL : gL lo σ2 := by rw [e2]; exact hL
  have hSt := hSt.fr (τ := σ2) (fun q h1 h2 => gup_eq e2 (by omega))
  have hVo : VoAt σ2 v d f (sB S) br := by rw [e2]; exact hVo.p3 (br)
  have hag := hag.upe e2 (zo_0 (by decide))
  refine lv_aload_n hx hb dX6_follow_13 rfl (lv_at hl 1 rfl) ?_
  refine g_get (C := RX4) (T := TX4) (N := 13) hx hb hts hown hK hP hSt.c0 nX6_follow_X4 rfl 9 (by decide) (by decide +kernel) rfl (v := .ref (x + 9)) rfl dX6_follow_14 ?_
  refine lv_iload_n hx hb dX6_follow_17 rfl (lv_at hl 2 rfl) ?_
  refine g_runV (As := [.int (nI i)]) (rest := []) (own := RX6) (C := RX2) (T := TX2) (N := 1) 1 hx hb hml hown hts hK hz hP hL hS hlo hl.1 (c_X2_at l (x + 9) 12 i (S 4) σ2 sz ⟨hSt.c9, hSt.c10⟩ (by omega) (by omega)) gX6_follow_X2_at rfl rfl rfl (by decide +kernel) ⟨Nat.le_of_ble_eq_true rfl, Nat.le_of_ble_eq_true rfl⟩ hSt.c9 rfl rfl rfl (Nat.le_of_ble_eq_true rfl) dX6_follow_18 ⟨Nat.le_of_ble_eq_true rfl, Nat.le_of_ble_eq_true rfl⟩ (g_ki0 (fun H locs hz hP hL hS => ?_))
  refine lv_istore (lv' := [(4, .int ((S 4) i)), (0, .ref v), (1, .ref x), (2, .int (nI i)), (3, .int br)]) hx hb dX6_follow_21 hl (by decide) rfl (fun ls hl => ?_)
  refine lv_iload_n hx hb dX6_follow_23 rfl (lv_at hl 4 rfl) ?_
  refine lv_istore (lv' := [(5, .int br), (4, .int ((S 4) i)), (0, .ref v), (1, .ref x), (2, .int (nI i)), (3, .int br)]) hx hb dX6_follow_24 hl (by decide) rfl (fun ls hl => ?_)
  refine lv_iconst (v := (nI 0)) hx hb dX6_follow_26 (by decide) ?_
  refine lv_istore (lv' := [(6, .int (nI 0)), (5, .int br), (4, .int ((S 4) i)), (0, .ref v), (1, .ref x), (2, .int (nI i)), (3, .int br)]) hx hb dX6_follow_27 hl (by decide) rfl (fun ls hl => ?_)
  have lp : ∀ (fu_lp : Nat) (k : Nat), (k ≤ sB S) → (sB S - k < fu_lp) → ∀ (υ : gS), (StAt υ x S) → (VoAt υ v (cpyF d (fun j => nI (dosF S i br j)) k) (cpyF f (fun j => leftF S i br (j + 1)) k) (sB S) br) → (gAs (gZo v 5) σ υ) → gL lo υ → ∀ (H : Heap) (locs : List Loc) (ls : Array Slot), H.size = sz → gH D ka υ H → va_S (gA lo) s.heap H locs → lv_has ls 8 [(0, .ref v), (1, .ref x), (2, .int (nI i)), (3, .int br), (4, .int ((S 4) i)), (5, .int (leftF S i br k)), (6, .int (nI k))] → W p l e ({ frames := 4, cells := 0, slots := 0, locals := 89 } : Room) s m ([.ref v, .ref x, .int (nI i), .int br] : List Value).toArray below meth c H locs (0) (0) (MQ below (gQ D ka lo (gxv (fun τ n => n = sz ∧ VoAt τ v (cpyF d (fun j => nI (dosF S i br j)) (sB S)) (cpyF f (fun j => leftF S i br (j + 1)) (sB S)) (sB S) br ∧ gAs (gZo v 5) σ τ))) ([.ref v, .ref x, .int (nI i), .int br] : List Value).toArray s 0 0 (gA lo)) (F0 m 29 ls []) := by
    intro fu_lp
    induction fu_lp with
    | zero => intro k hk hm_lp; exact absurd hm_lp (Nat.not_lt_zero _)
    | succ fu_lp ih_lp =>
      intro k hk hm_lp υ hSt hVo hag hL H locs ls hz hP hS hl
      refine lv_iload hx hb dX6_follow_29 (lv_at hl 6 rfl) ?_
      refine lv_aload_n hx hb dX6_follow_31 rfl (lv_at hl 0 rfl) ?_
      refine g_get (C := RX6) (T := TX6) (N := 4) hx hb hts hown hK hP hVo.c0 nX6_follow_X6 rfl 2 (by decide) (by decide +kernel) rfl (v := .int (nI (sB S))) rfl dX6_follow_32 ?_
      refine g_icmp_ge (tgt := 110) (a := k) (b := sB S) hx hb (by omega) (by omega) dX6_follow_35 (by decide) (fun c35 => ?_) (fun c35 => ?_)
      · exact g_vret (z := sz) hx hb hr hlk hz hP hL hS dX6_follow_110 (gxv_i ⟨rfl, (show k = sB S by omega) ▸ hVo, hag⟩)
      · refine lv_aload_n hx hb dX6_follow_38 rfl (lv_at hl 1 rfl) ?_
        refine lv_iload_n hx hb dX6_follow_39 rfl (lv_at hl 2 rfl) ?_
        refine lv_iload hx hb dX6_follow_40 (lv_at hl 6 rfl) ?_
        refine lv_iload hx hb dX6_follow_42 (lv_at hl 5 rfl) ?_
        refine g_runV (As := [.int (nI i), .int (nI k), .int (leftF S i br k)]) (rest := []) (own := RX6) (C := RX4) (T := TX4) (N := 13) 3 hx hb hml hown hts hK hz hP hL hS hlo hl.1 (c_X4_doing l x S i k ((leftF S i br k)) υ sz hSt (by omega) (by omega) (by omega)) gX6_follow_X4_doing rfl rfl rfl (by decide +kernel) ⟨Nat.le_of_ble_eq_true rfl, Nat.le_of_ble_eq_true rfl⟩ hSt.c0 rfl rfl rfl (Nat.le_of_ble_eq_true rfl) dX6_follow_44 ⟨Nat.le_of_ble_eq_true rfl, Nat.le_of_ble_eq_true rfl⟩ (g_ki0 (fun H locs hz hP hL hS => ?_))
        refine g_top (y := (nI (dosF S i br k))) rfl ?_
        have hd4 := dosF_lt S i br k
        refine lv_istore (lv' := [(7, .int (nI (dosF S i br k))), (0, .ref v), (1, .ref x), (2, .int (nI i)), (3, .int br), (4, .int ((S 4) i)), (5, .int (leftF S i br k)), (6, .int (nI k))]) hx hb dX6_follow_47 hl (by decide) rfl (fun ls hl => ?_)
        refine lv_iload hx hb dX6_follow_49 (lv_at hl 0 rfl) ?_
        refine g_if_ne (tgt := 71) hx hb (by omega) dX6_follow_51 (by decide) (fun c51 => ?_) (fun c51 => ?_)
        · refine lv_iload_n hx hb dX6_follow_71 rfl (lv_at hl 4 rfl) ?_
          refine lv_iload hx hb dX6_follow_72 (lv_at hl 6 rfl) ?_
          refine lv_iload hx hb dX6_follow_74 (lv_at hl 5 rfl) ?_
          refine lv_iadd hx hb dX6_follow_76 ?_
          refine va_mmin hx hb (hml.trans hl.1.symm) hown (hts (.methodLink RX6 47 Lib.Math.min.name) (by decide +kernel)) (hts (.static Lib.Math.min.name) (by decide +kernel)) (hts (.initialized "java/lang/Math") (by decide +kernel)) (hts (.code Lib.Math.min.name Lib.Math.min.code 2 (some .int)) (by decide +kernel)) (Nat.le_of_ble_eq_true rfl) (Nat.le_of_ble_eq_true rfl) (Nat.le_of_ble_eq_true rfl) (Nat.le_of_ble_eq_true rfl) dX6_follow_77 ?_
          refine g_top (y := (leftF S i br (k + 1))) (leftF_1 c51) ?_
          refine lv_istore (lv' := [(5, .int (leftF S i br (k + 1))), (7, .int (nI (dosF S i br k))), (0, .ref v), (1, .ref x), (2, .int (nI i)), (3, .int br), (4, .int ((S 4) i)), (6, .int (nI k))]) hx hb dX6_follow_80 hl (by decide) rfl (fun ls hl => ?_)
          refine lv_aload_n hx hb dX6_follow_82 rfl (lv_at hl 2 rfl) ?_
          refine g_get (C := RX6) (T := TX6) (N := 4) hx hb hts hown hK hP hVo.c0 nX6_follow_X6 rfl 0 (by decide) (by decide +kernel) rfl (v := .ref (v + 1)) rfl dX6_follow_83 ?_
          refine lv_iload hx hb dX6_follow_86 (lv_at hl 7 rfl) ?_
          refine lv_iload hx hb dX6_follow_88 (lv_at hl 1 rfl) ?_
          refine g_runV (As := [.int (nI k), .int (nI (dosF S i br k))]) (rest := []) (own := RX6) (C := RX2) (T := TX2) (N := 1) 2 hx hb hml hown hts hK hz hP hL hS hlo hl.1 (c_X2_put l (v + 1) 96 k (cpyF d (fun j => nI (dosF S i br j)) k) ((nI (dosF S i br k))) υ sz ⟨hVo.c1, hVo.c2⟩ (by omega) (by omega)) gX6_follow_X2_put rfl rfl rfl (by decide +kernel) ⟨Nat.le_of_ble_eq_true rfl, Nat.le_of_ble_eq_true rfl⟩ hVo.c1 rfl rfl rfl (Nat.le_of_ble_eq_true rfl) dX6_follow_90 ⟨Nat.le_of_ble_eq_true rfl, Nat.le_of_ble_eq_true rfl⟩ (g_kv0 (fun H locs hz hP hL hS => ?_))
          obtain ⟨σ3, e3⟩ : ∃ υ0 : gS, υ0 = gup υ (v + 2) (gI 96 (upd (cpyF d (fun j => nI (dosF S i br j)) k) k ((nI (dosF S i br k))))) := ⟨_, rfl⟩
          have hP : gH D ka σ3 H := by rw [e3]; exact hP
          have hL : gL lo σ3 := by rw [e3]; exact hL
          have hSt := hSt.fr (τ := σ3) (fun q h1 h2 => gup_eq e3 (by omega))
          have hVo : VoAt σ3 v (upd (cpyF d (fun j => nI (dosF S i br j)) k) k ((nI (dosF S i br k)))) (cpyF f (fun j => leftF S i br (j + 1)) k) (sB S) br := by rw [e3]; exact hVo.w2 (upd (cpyF d (fun j => nI (dosF S i br j)) k) k ((nI (dosF S i br k))))
          have hag := hag.upe e3 (zo_k (by decide))
          refine lv_aload_n hx hb dX6_follow_93 rfl (lv_at hl 2 rfl) ?_
          refine g_get (C := RX6) (T := TX6) (N := 4) hx hb hts hown hK hP hVo.c0 nX6_follow_X6 rfl 1 (by decide) (by decide +kernel) rfl (v := .ref (v + 3)) rfl dX6_follow_94 ?_
          refine lv_iload hx hb dX6_follow_97 (lv_at hl 7 rfl) ?_
          refine lv_iload hx hb dX6_follow_99 (lv_at hl 0 rfl) ?_
          refine g_runV (As := [.int (nI k), .int (leftF S i br (k + 1))]) (rest := []) (own := RX6) (C := RX2) (T := TX2) (N := 1) 2 hx hb hml hown hts hK hz hP hL hS hlo hl.1 (c_X2_put l (v + 3) 96 k (cpyF f (fun j => leftF S i br (j + 1)) k) ((leftF S i br (k + 1))) σ3 sz ⟨hVo.c3, hVo.c4⟩ (by omega) (by omega)) gX6_follow_X2_put rfl rfl rfl (by decide +kernel) ⟨Nat.le_of_ble_eq_true rfl, Nat.le_of_ble_eq_true rfl⟩ hVo.c3 rfl rfl rfl (Nat.le_of_ble_eq_true rfl) dX6_follow_101 ⟨Nat.le_of_ble_eq_true rfl, Nat.le_of_ble_eq_true rfl⟩ (g_kv0 (fun H locs hz hP hL hS => ?_))
          obtain ⟨σ4, e4⟩ : ∃ υ0 : gS, υ0 = gup σ3 (v + 4) (gI 96 (upd (cpyF f (fun j => leftF S i br (j + 1)) k) k ((leftF S i br (k + 1))))) := ⟨_, rfl⟩
          have hP : gH D ka σ4 H := by rw [e4]; exact hP
          have hL : gL lo σ4 := by rw [e4]; exact hL
          have hSt := hSt.fr (τ := σ4) (fun q h1 h2 => gup_eq e4 (by omega))
          have hVo : VoAt σ4 v (upd (cpyF d (fun j => nI (dosF S i br j)) k) k ((nI (dosF S i br k)))) (upd (cpyF f (fun j => leftF S i br (j + 1)) k) k ((leftF S i br (k + 1)))) (sB S) br := by rw [e4]; exact hVo.w4 (upd (cpyF f (fun j => leftF S i br (j + 1)) k) k ((leftF S i br (k + 1))))
          have hag := hag.upe e4 (zo_k (by decide))
          refine lv_iinc (v := (nI (k + 1))) (lv' := [(6, .int (nI (k + 1))), (5, .int (leftF S i br (k + 1))), (7, .int (nI (dosF S i br k))), (0, .ref v), (1, .ref x), (2, .int (nI i)), (3, .int br), (4, .int ((S 4) i))]) hx hb dX6_follow_104 hl (k := 7) rfl (g_inc k 1) (by decide) rfl (fun ls hl => ?_)
          refine lv_goto (tgt := 29) hx hb dX6_follow_107 (by decide) ?_
          exact ih_lp (k + 1) (by omega) (by omega) σ4 hSt (by rw [← cpyF_s, ← cpyF_s]; exact hVo) hag hL H locs ls hz hP hS (lv_sub hl [3, 4, 5, 6, 7, 1, 0] rfl)
        · refine lv_iload hx hb dX6_follow_54 (lv_at hl 6 rfl) ?_
          refine lv_aload_n hx hb dX6_follow_56 rfl (lv_at hl 2 rfl) ?_
          refine g_get (C := RX4) (T := TX4) (N := 13) hx hb hts hown hK hP hSt.c0 nX6_follow_X4 rfl 6 (by decide) (by decide +kernel) rfl (v := .ref (x + 3)) rfl dX6_follow_57 ?_
          refine lv_iload hx hb dX6_follow_60 (lv_at hl 7 rfl) ?_
          refine g_runV (As := [.int (nI k)]) (rest := [.int (leftF S i br k)]) (own := RX6) (C := RX2) (T := TX2) (N := 1) 1 hx hb hml hown hts hK hz hP hL hS hlo hl.1 (c_X2_at l (x + 3) 96 k (S 1) υ sz ⟨hSt.c3, hSt.c4⟩ (by omega) (by omega)) gX6_follow_X2_at rfl rfl rfl (by decide +kernel) ⟨Nat.le_of_ble_eq_true rfl, Nat.le_of_ble_eq_true rfl⟩ hSt.c3 rfl rfl rfl (Nat.le_of_ble_eq_true rfl) dX6_follow_62 ⟨Nat.le_of_ble_eq_true rfl, Nat.le_of_ble_eq_true rfl⟩ (g_ki0 (fun H locs hz hP hL hS => ?_))
          refine lv_isub hx hb dX6_follow_65 ?_
          refine g_top (y := (leftF S i br (k + 1))) (leftF_0 c51) ?_
          refine lv_istore (lv' := [(5, .int (leftF S i br (k + 1))), (7, .int (nI (dosF S i br k))), (0, .ref v), (1, .ref x), (2, .int (nI i)), (3, .int br), (4, .int ((S 4) i)), (6, .int (nI k))]) hx hb dX6_follow_66 hl (by decide) rfl (fun ls hl => ?_)
          refine lv_goto (tgt := 82) hx hb dX6_follow_68 (by decide) ?_
          refine lv_aload_n hx hb dX6_follow_82 rfl (lv_at hl 2 rfl) ?_
          refine g_get (C := RX6) (T := TX6) (N := 4) hx hb hts hown hK hP hVo.c0 nX6_follow_X6 rfl 0 (by decide) (by decide +kernel) rfl (v := .ref (v + 1)) rfl dX6_follow_83 ?_
          refine lv_iload hx hb dX6_follow_86 (lv_at hl 7 rfl) ?_
          refine lv_iload hx hb dX6_follow_88 (lv_at hl 1 rfl) ?_
          refine g_runV (As := [.int (nI k), .int (nI (dosF S i br k))]) (rest := []) (own := RX6) (C := RX2) (T := TX2) (N := 1) 2 hx hb hml hown hts hK hz hP hL hS hlo hl.1 (c_X2_put l (v + 1) 96 k (cpyF d (fun j => nI (dosF S i br j)) k) ((nI (dosF S i br k))) υ sz ⟨hVo.c1, hVo.c2⟩ (by omega) (by omega)) gX6_follow_X2_put rfl rfl rfl (by decide +kernel) ⟨Nat.le_of_ble_eq_true rfl, Nat.le_of_ble_eq_true rfl⟩ hVo.c1 rfl rfl rfl (Nat.le_of_ble_eq_true rfl) dX6_follow_90 ⟨Nat.le_of_ble_eq_true rfl, Nat.le_of_ble_eq_true rfl⟩ (g_kv0 (fun H locs hz hP hL hS => ?_))
          obtain ⟨σ5, e5⟩ : ∃ υ0 : gS, υ0 = gup υ (v + 2) (gI 96 (upd (cpyF d (fun j => nI (dosF S i br j)) k) k ((nI (dosF S i br k))))) := ⟨_, rfl⟩
          have hP : gH D ka σ5 H := by rw [e5]; exact hP
          have hL : gL lo σ5 := by rw [e5]; exact hL
          have hSt := hSt.fr (τ := σ5) (fun q h1 h2 => gup_eq e5 (by omega))
          have hVo : VoAt σ5 v (upd (cpyF d (fun j => nI (dosF S i br j)) k) k ((nI (dosF S i br k)))) (cpyF f (fun j => leftF S i br (j + 1)) k) (sB S) br := by rw [e5]; exact hVo.w2 (upd (cpyF d (fun j => nI (dosF S i br j)) k) k ((nI (dosF S i br k))))
          have hag := hag.upe e5 (zo_k (by decide))
          refine lv_aload_n hx hb dX6_follow_93 rfl (lv_at hl 2 rfl) ?_
          refine g_get (C := RX6) (T := TX6) (N := 4) hx hb hts hown hK hP hVo.c0 nX6_follow_X6 rfl 1 (by decide) (by decide +kernel) rfl (v := .ref (v + 3)) rfl dX6_follow_94 ?_
          refine lv_iload hx hb dX6_follow_97 (lv_at hl 7 rfl) ?_
          refine lv_iload hx hb dX6_follow_99 (lv_at hl 0 rfl) ?_
          refine g_runV (As := [.int (nI k), .int (leftF S i br (k + 1))]) (rest := []) (own := RX6) (C := RX2) (T := TX2) (N := 1) 2 hx hb hml hown hts hK hz hP hL hS hlo hl.1 (c_X2_put l (v + 3) 96 k (cpyF f (fun j => leftF S i br (j + 1)) k) ((leftF S i br (k + 1))) σ5 sz ⟨hVo.c3, hVo.c4⟩ (by omega) (by omega)) gX6_follow_X2_put rfl rfl rfl (by decide +kernel) ⟨Nat.le_of_ble_eq_true rfl, Nat.le_of_ble_eq_true rfl⟩ hVo.c3 rfl rfl rfl (Nat.le_of_ble_eq_true rfl) dX6_follow_101 ⟨Nat.le_of_ble_eq_true rfl, Nat.le_of_ble_eq_true rfl⟩ (g_kv0 (fun H locs hz hP hL hS => ?_))
          obtain ⟨σ6, e6⟩ : ∃ υ0 : gS, υ0 = gup σ5 (v + 4) (gI 96 (upd (cpyF f (fun j => leftF S i br (j + 1)) k) k ((leftF S i br (k + 1))))) := ⟨_, rfl⟩
          have hP : gH D ka σ6 H := by rw [e6]; exact hP
          have hL : gL lo σ6 := by rw [e6]; exact hL
          have hSt := hSt.fr (τ := σ6) (fun q h1 h2 => gup_eq e6 (by omega))
          have hVo : VoAt σ6 v (upd (cpyF d (fun j => nI (dosF S i br j)) k) k ((nI (dosF S i br k)))) (upd (cpyF f (fun j => leftF S i br (j + 1)) k) k ((leftF S i br (k + 1)))) (sB S) br := by rw [e6]; exact hVo.w4 (upd (cpyF f (fun j => leftF S i br (j + 1)) k) k ((leftF S i br (k + 1))))
          have hag := hag.upe e6 (zo_k (by decide))
          refine lv_iinc (v := (nI (k + 1))) (lv' := [(6, .int (nI (k + 1))), (5, .int (leftF S i br (k + 1))), (7, .int (nI (dosF S i br k))), (0, .ref v), (1, .ref x), (2, .int (nI i)), (3, .int br), (4, .int ((S 4) i))]) hx hb dX6_follow_104 hl (k := 7) rfl (g_inc k 1) (by decide) rfl (fun ls hl => ?_)
          refine lv_goto (tgt := 29) hx hb dX6_follow_107 (by decide) ?_
          exact ih_lp (k + 1) (by omega) (by omega) σ6 hSt (by rw [← cpyF_s, ← cpyF_s]; exact hVo) hag hL H locs ls hz hP hS (lv_sub hl [3, 4, 5, 6, 7, 1, 0] rfl)
  exact lp _ 0 (by omega) (Nat.lt_succ_self _) σ2 hSt (by rw [cpyF_0, cpyF_0]; exact hVo) hag hL H locs ls hz hP hS (lv_sub hl [3, 4, 5, 6, 2, 1, 0] rfl)

theorem nX6_countDoing_X6 : ∀ w ∈ wsX60, w ∈ wsX6_countDoing := by decide +kernel
set_option maxHeartbeats 4000000 in
set_option maxRecDepth 100000 in
theorem c_X6_countDoing (l : Launch) (v : Nat) (d f : Nat → Int32) (b0 : Nat) (w0 : Int32) (q : Nat) (σ : gS) (sz : Nat) (hVo : VoAt σ v d f b0 w0) (hb0 : b0 ≤ 96) : gM l yX6_countDoing wsX6_countDoing ({ frames := 1, cells := 0, slots := 0, locals := 21 } : Room) 0 0 [.ref v, .int (nI q)] σ sz (gi (nI (cntF (fun j => decide (d j = nI q)) b0)) σ sz) := by
  refine gM_of (cc := cX6_countDoing) (maxL := 4) (ret := (some .int)) (by decide) rfl (Nat.le_of_ble_eq_true rfl) ?_
  intro D ka lo hL hlo p e s m below meth c hx hb hr hts hown hml hlk hnm hK H locs ls hz hP hS hl
  have hl : lv_has ls 4 [(0, .ref v), (1, .int (nI q))] := hl
  have hown : s.vm.findClass RX6 = some m.cls := hown
  refine lv_iconst (v := (nI 0)) hx hb dX6_countDoing_0 (by decide) ?_
  refine lv_istore_n (lv' := [(2, .int (nI 0)), (0, .ref v), (1, .int (nI q))]) hx hb dX6_countDoing_1 rfl hl (by decide) rfl (fun ls hl => ?_)
  refine lv_iconst (v := (nI 0)) hx hb dX6_countDoing_2 (by decide) ?_
  refine lv_istore_n (lv' := [(3, .int (nI 0)), (2, .int (nI 0)), (0, .ref v), (1, .int (nI q))]) hx hb dX6_countDoing_3 rfl hl (by decide) rfl (fun ls hl => ?_)
  have lp : ∀ (fu_lp : Nat) (k : Nat), (k ≤ b0) → (b0 - k < fu_lp) → ∀ (H : Heap) (locs : List Loc) (ls : Array Slot), H.size = sz → gH D ka σ H → va_S (gA lo) s.heap H locs → lv_has ls 4 [(0, .ref v), (1, .int (nI q)), (2, .int (nI (cntF (fun j => decide (d j = nI q)) k))), (3, .int (nI k))] → W p l e ({ frames := 1, cells := 0, slots := 0, locals := 21 } : Room) s m ([.ref v, .int (nI q)] : List Value).toArray below meth c H locs (0) (0) (MQ below (gQ D ka lo (gi (nI (cntF (fun j => decide (d j = nI q)) b0)) σ sz)) ([.ref v, .int (nI q)] : List Value).toArray s 0 0 (gA lo)) (F0 m 4 ls []) := by
    intro fu_lp
    induction fu_lp with
    | zero => intro k hk hm_lp; exact absurd hm_lp (Nat.not_lt_zero _)
    | succ fu_lp ih_lp =>
      intro k hk hm_lp H locs ls hz hP hS hl
      refine lv_iload_n hx hb dX6_countDoing_4 rfl (lv_at hl 3 rfl) ?_
      refine lv_aload_n hx hb dX6_countDoing_5 rfl (lv_at hl 0 rfl) ?_
      refine g_get (C := RX6) (T := TX6) (N := 4) hx hb hts hown hK hP hVo.c0 nX6_countDoing_X6 rfl 2 (by decide) (by decide +kernel) rfl (v := .int (nI b0)) rfl dX6_countDoing_6 ?_
      refine g_icmp_ge (tgt := 33) (a := k) (b := b0) hx hb (by omega) (by omega) dX6_countDoing_9 (by decide) (fun c9 => ?_) (fun c9 => ?_)
      · refine lv_iload_n hx hb dX6_countDoing_33 rfl (lv_at hl 2 rfl) ?_
        exact g_iret (z := sz) hx hb hr hlk hz hP hL hS dX6_countDoing_34 (gi_i (by rw [show k = b0 by omega]) rfl)
      · refine lv_aload_n hx hb dX6_countDoing_12 rfl (lv_at hl 0 rfl) ?_
        refine g_get (C := RX6) (T := TX6) (N := 4) hx hb hts hown hK hP hVo.c0 nX6_countDoing_X6 rfl 0 (by decide) (by decide +kernel) rfl (v := .ref (v + 1)) rfl dX6_countDoing_13 ?_
        refine lv_iload_n hx hb dX6_countDoing_16 rfl (lv_at hl 3 rfl) ?_
        refine g_runV (As := [.int (nI k)]) (rest := []) (own := RX6) (C := RX2) (T := TX2) (N := 1) 1 hx hb hml hown hts hK hz hP hL hS hlo hl.1 (c_X2_at l (v + 1) 96 k d σ sz ⟨hVo.c1, hVo.c2⟩ (by omega) (by omega)) gX6_countDoing_X2_at rfl rfl rfl (by decide +kernel) ⟨Nat.le_of_ble_eq_true rfl, Nat.le_of_ble_eq_true rfl⟩ hVo.c1 rfl rfl rfl (Nat.le_of_ble_eq_true rfl) dX6_countDoing_17 ⟨Nat.le_of_ble_eq_true rfl, Nat.le_of_ble_eq_true rfl⟩ (g_ki0 (fun H locs hz hP hL hS => ?_))
        refine lv_iload_n hx hb dX6_countDoing_20 rfl (lv_at hl 1 rfl) ?_
        refine lv_icmp_ne (tgt := 27) hx hb dX6_countDoing_21 (by decide) (fun c21 => ?_) (fun c21 => ?_)
        · refine lv_iinc (v := (nI (k + 1))) (lv' := [(3, .int (nI (k + 1))), (0, .ref v), (1, .int (nI q)), (2, .int (nI (cntF (fun j => decide (d j = nI q)) k)))]) hx hb dX6_countDoing_27 hl (k := 3) rfl (g_inc k 1) (by decide) rfl (fun ls hl => ?_)
          refine lv_goto (tgt := 4) hx hb dX6_countDoing_30 (by decide) ?_
          have e_2 : (nI (cntF (fun j => decide (d j = nI q)) k)) = (nI (cntF (fun j => decide (d j = nI q)) (k + 1))) := (by rw [cntF_f (p := fun j => decide (d j = nI q)) (decide_eq_false c21)])
          have hl := lv_sub hl (l' := [(0, .ref v), (1, .int (nI q)), (2, .int (nI (cntF (fun j => decide (d j = nI q)) k))), (3, .int (nI (k + 1)))]) [1, 2, 3, 0] rfl
          rw [e_2] at hl
          exact ih_lp (k + 1) (by omega) (by omega) H locs ls hz hP hS hl
        · refine lv_iinc (v := (nI (cntF (fun j => decide (d j = nI q)) k + 1))) (lv' := [(2, .int (nI (cntF (fun j => decide (d j = nI q)) k + 1))), (0, .ref v), (1, .int (nI q)), (3, .int (nI k))]) hx hb dX6_countDoing_24 hl (k := 2) rfl (g_inc (cntF (fun j => decide (d j = nI q)) k) 1) (by decide) rfl (fun ls hl => ?_)
          refine lv_iinc (v := (nI (k + 1))) (lv' := [(3, .int (nI (k + 1))), (2, .int (nI (cntF (fun j => decide (d j = nI q)) k + 1))), (0, .ref v), (1, .int (nI q))]) hx hb dX6_countDoing_27 hl (k := 3) rfl (g_inc k 1) (by decide) rfl (fun ls hl => ?_)
          refine lv_goto (tgt := 4) hx hb dX6_countDoing_30 (by decide) ?_
          have e_2 : (nI (cntF (fun j => decide (d j = nI q)) k + 1)) = (nI (cntF (fun j => decide (d j = nI q)) (k + 1))) := (by rw [cntF_t (p := fun j => decide (d j = nI q)) (decide_eq_true c21)])
          have hl := lv_sub hl (l' := [(0, .ref v), (1, .int (nI q)), (2, .int (nI (cntF (fun j => decide (d j = nI q)) k + 1))), (3, .int (nI (k + 1)))]) [2, 3, 1, 0] rfl
          rw [e_2] at hl
          exact ih_lp (k + 1) (by omega) (by omega) H locs ls hz hP hS hl
  exact lp _ 0 (by omega) (Nat.lt_succ_self _) H locs ls hz hP hS (lv_sub hl [2, 3, 1, 0] rfl)

theorem nX6_leastLeft_X6 : ∀ w ∈ wsX60, w ∈ wsX6_leastLeft := by decide +kernel
set_option maxHeartbeats 4000000 in
set_option maxRecDepth 100000 in
theorem c_X6_leastLeft (l : Launch) (v : Nat) (d f : Nat → Int32) (b0 : Nat) (w0 : Int32) (σ : gS) (sz : Nat) (hVo : VoAt σ v d f b0 w0) (hb0 : b0 ≤ 96) : gM l yX6_leastLeft wsX6_leastLeft ({ frames := 1, cells := 0, slots := 0, locals := 21 } : Room) 0 0 [.ref v] σ sz (gi (lsF w0 f b0) σ sz) := by
  refine gM_of (cc := cX6_leastLeft) (maxL := 3) (ret := (some .int)) (by decide) rfl (Nat.le_of_ble_eq_true rfl) ?_
  intro D ka lo hL hlo p e s m below meth c hx hb hr hts hown hml hlk hnm hK H locs ls hz hP hS hl
  have hl : lv_has ls 3 [(0, .ref v)] := hl
  have hown : s.vm.findClass RX6 = some m.cls := hown
  refine lv_aload_n hx hb dX6_leastLeft_0 rfl (lv_at hl 0 rfl) ?_
  refine g_get (C := RX6) (T := TX6) (N := 4) hx hb hts hown hK hP hVo.c0 nX6_leastLeft_X6 rfl 3 (by decide) (by decide +kernel) rfl (v := .int w0) rfl dX6_leastLeft_1 ?_
  refine lv_istore_n (lv' := [(1, .int w0), (0, .ref v)]) hx hb dX6_leastLeft_4 rfl hl (by decide) rfl (fun ls hl => ?_)
  refine lv_iconst (v := (nI 0)) hx hb dX6_leastLeft_5 (by decide) ?_
  refine lv_istore_n (lv' := [(2, .int (nI 0)), (1, .int w0), (0, .ref v)]) hx hb dX6_leastLeft_6 rfl hl (by decide) rfl (fun ls hl => ?_)
  have lp : ∀ (fu_lp : Nat) (k : Nat), (k ≤ b0) → (b0 - k < fu_lp) → ∀ (H : Heap) (locs : List Loc) (ls : Array Slot), H.size = sz → gH D ka σ H → va_S (gA lo) s.heap H locs → lv_has ls 3 [(0, .ref v), (1, .int (lsF w0 f k)), (2, .int (nI k))] → W p l e ({ frames := 1, cells := 0, slots := 0, locals := 21 } : Room) s m ([.ref v] : List Value).toArray below meth c H locs (0) (0) (MQ below (gQ D ka lo (gi (lsF w0 f b0) σ sz)) ([.ref v] : List Value).toArray s 0 0 (gA lo)) (F0 m 7 ls []) := by
    intro fu_lp
    induction fu_lp with
    | zero => intro k hk hm_lp; exact absurd hm_lp (Nat.not_lt_zero _)
    | succ fu_lp ih_lp =>
      intro k hk hm_lp H locs ls hz hP hS hl
      refine lv_iload_n hx hb dX6_leastLeft_7 rfl (lv_at hl 2 rfl) ?_
      refine lv_aload_n hx hb dX6_leastLeft_8 rfl (lv_at hl 0 rfl) ?_
      refine g_get (C := RX6) (T := TX6) (N := 4) hx hb hts hown hK hP hVo.c0 nX6_leastLeft_X6 rfl 2 (by decide) (by decide +kernel) rfl (v := .int (nI b0)) rfl dX6_leastLeft_9 ?_
      refine g_icmp_ge (tgt := 34) (a := k) (b := b0) hx hb (by omega) (by omega) dX6_leastLeft_12 (by decide) (fun c12 => ?_) (fun c12 => ?_)
      · refine lv_iload_n hx hb dX6_leastLeft_34 rfl (lv_at hl 1 rfl) ?_
        exact g_iret (z := sz) hx hb hr hlk hz hP hL hS dX6_leastLeft_35 (gi_i (by rw [show k = b0 by omega]) rfl)
      · refine lv_iload_n hx hb dX6_leastLeft_15 rfl (lv_at hl 1 rfl) ?_
        refine lv_aload_n hx hb dX6_leastLeft_16 rfl (lv_at hl 0 rfl) ?_
        refine g_get (C := RX6) (T := TX6) (N := 4) hx hb hts hown hK hP hVo.c0 nX6_leastLeft_X6 rfl 1 (by decide) (by decide +kernel) rfl (v := .ref (v + 3)) rfl dX6_leastLeft_17 ?_
        refine lv_iload_n hx hb dX6_leastLeft_20 rfl (lv_at hl 2 rfl) ?_
        refine g_runV (As := [.int (nI k)]) (rest := [.int (lsF w0 f k)]) (own := RX6) (C := RX2) (T := TX2) (N := 1) 1 hx hb hml hown hts hK hz hP hL hS hlo hl.1 (c_X2_at l (v + 3) 96 k f σ sz ⟨hVo.c3, hVo.c4⟩ (by omega) (by omega)) gX6_leastLeft_X2_at rfl rfl rfl (by decide +kernel) ⟨Nat.le_of_ble_eq_true rfl, Nat.le_of_ble_eq_true rfl⟩ hVo.c3 rfl rfl rfl (Nat.le_of_ble_eq_true rfl) dX6_leastLeft_21 ⟨Nat.le_of_ble_eq_true rfl, Nat.le_of_ble_eq_true rfl⟩ (g_ki0 (fun H locs hz hP hL hS => ?_))
        refine va_mmin hx hb (hml.trans hl.1.symm) hown (hts (.methodLink RX6 47 Lib.Math.min.name) (by decide +kernel)) (hts (.static Lib.Math.min.name) (by decide +kernel)) (hts (.initialized "java/lang/Math") (by decide +kernel)) (hts (.code Lib.Math.min.name Lib.Math.min.code 2 (some .int)) (by decide +kernel)) (Nat.le_of_ble_eq_true rfl) (Nat.le_of_ble_eq_true rfl) (Nat.le_of_ble_eq_true rfl) (Nat.le_of_ble_eq_true rfl) dX6_leastLeft_24 ?_
        refine lv_istore_n (lv' := [(1, .int (if (f k) < (lsF w0 f k) then (f k) else (lsF w0 f k))), (0, .ref v), (2, .int (nI k))]) hx hb dX6_leastLeft_27 rfl hl (by decide) rfl (fun ls hl => ?_)
        refine lv_iinc (v := (nI (k + 1))) (lv' := [(2, .int (nI (k + 1))), (1, .int (if (f k) < (lsF w0 f k) then (f k) else (lsF w0 f k))), (0, .ref v)]) hx hb dX6_leastLeft_28 hl (k := 2) rfl (g_inc k 1) (by decide) rfl (fun ls hl => ?_)
        refine lv_goto (tgt := 7) hx hb dX6_leastLeft_31 (by decide) ?_
        have e_1 : (if (f k) < (lsF w0 f k) then (f k) else (lsF w0 f k)) = (lsF w0 f (k + 1)) := rfl
        have hl := lv_sub hl (l' := [(0, .ref v), (1, .int (if (f k) < (lsF w0 f k) then (f k) else (lsF w0 f k))), (2, .int (nI (k + 1)))]) [2, 1, 0] rfl
        rw [e_1] at hl
        exact ih_lp (k + 1) (by omega) (by omega) H locs ls hz hP hS hl
  exact lp _ 0 (by omega) (Nat.lt_succ_self _) H locs ls hz hP hS (lv_sub hl [2, 1, 0] rfl)

theorem nX6_longestSung_X6 : ∀ w ∈ wsX60, w ∈ wsX6_longestSung := by decide +kernel
set_option maxHeartbeats 4000000 in
set_option maxRecDepth 100000 in
theorem c_X6_longestSung (l : Launch) (v : Nat) (d f : Nat → Int32) (b0 : Nat) (w0 : Int32) (σ : gS) (sz : Nat) (hVo : VoAt σ v d f b0 w0) (hb0 : b0 ≤ 96) : gM l yX6_longestSung wsX6_longestSung ({ frames := 1, cells := 0, slots := 0, locals := 21 } : Room) 0 0 [.ref v] σ sz (gi (nI (lgF d b0)) σ sz) := by
  refine gM_of (cc := cX6_longestSung) (maxL := 4) (ret := (some .int)) (by decide) rfl (Nat.le_of_ble_eq_true rfl) ?_
  intro D ka lo hL hlo p e s m below meth c hx hb hr hts hown hml hlk hnm hK H locs ls hz hP hS hl
  have hl : lv_has ls 4 [(0, .ref v)] := hl
  have hown : s.vm.findClass RX6 = some m.cls := hown
  refine lv_iconst (v := (nI 0)) hx hb dX6_longestSung_0 (by decide) ?_
  refine lv_istore_n (lv' := [(1, .int (nI 0)), (0, .ref v)]) hx hb dX6_longestSung_1 rfl hl (by decide) rfl (fun ls hl => ?_)
  refine lv_iconst (v := (nI 0)) hx hb dX6_longestSung_2 (by decide) ?_
  refine lv_istore_n (lv' := [(2, .int (nI 0)), (1, .int (nI 0)), (0, .ref v)]) hx hb dX6_longestSung_3 rfl hl (by decide) rfl (fun ls hl => ?_)
  refine lv_iconst (v := (nI 0)) hx hb dX6_longestSung_4 (by decide) ?_
  refine lv_istore_n (lv' := [(3, .int (nI 0)), (2, .int (nI 0)), (1, .int (nI 0)), (0, .ref v)]) hx hb dX6_longestSung_5 rfl hl (by decide) rfl (fun ls hl => ?_)
  have lp : ∀ (fu_lp : Nat) (k : Nat), (k ≤ b0) → (b0 - k < fu_lp) → ∀ (H : Heap) (locs : List Loc) (ls : Array Slot), H.size = sz → gH D ka σ H → va_S (gA lo) s.heap H locs → lv_has ls 4 [(0, .ref v), (1, .int (nI (lgF d k))), (2, .int (nI (rnF d k))), (3, .int (nI k))] → W p l e ({ frames := 1, cells := 0, slots := 0, locals := 21 } : Room) s m ([.ref v] : List Value).toArray below meth c H locs (0) (0) (MQ below (gQ D ka lo (gi (nI (lgF d b0)) σ sz)) ([.ref v] : List Value).toArray s 0 0 (gA lo)) (F0 m 6 ls []) := by
    intro fu_lp
    induction fu_lp with
    | zero => intro k hk hm_lp; exact absurd hm_lp (Nat.not_lt_zero _)
    | succ fu_lp ih_lp =>
      intro k hk hm_lp H locs ls hz hP hS hl
      refine lv_iload_n hx hb dX6_longestSung_6 rfl (lv_at hl 3 rfl) ?_
      refine lv_aload_n hx hb dX6_longestSung_7 rfl (lv_at hl 0 rfl) ?_
      refine g_get (C := RX6) (T := TX6) (N := 4) hx hb hts hown hK hP hVo.c0 nX6_longestSung_X6 rfl 2 (by decide) (by decide +kernel) rfl (v := .int (nI b0)) rfl dX6_longestSung_8 ?_
      refine g_icmp_ge (tgt := 45) (a := k) (b := b0) hx hb (by omega) (by omega) dX6_longestSung_11 (by decide) (fun c11 => ?_) (fun c11 => ?_)
      · refine lv_iload_n hx hb dX6_longestSung_45 rfl (lv_at hl 1 rfl) ?_
        exact g_iret (z := sz) hx hb hr hlk hz hP hL hS dX6_longestSung_46 (gi_i (by rw [show k = b0 by omega]) rfl)
      · refine lv_aload_n hx hb dX6_longestSung_14 rfl (lv_at hl 0 rfl) ?_
        refine g_get (C := RX6) (T := TX6) (N := 4) hx hb hts hown hK hP hVo.c0 nX6_longestSung_X6 rfl 0 (by decide) (by decide +kernel) rfl (v := .ref (v + 1)) rfl dX6_longestSung_15 ?_
        refine lv_iload_n hx hb dX6_longestSung_18 rfl (lv_at hl 3 rfl) ?_
        refine g_runV (As := [.int (nI k)]) (rest := []) (own := RX6) (C := RX2) (T := TX2) (N := 1) 1 hx hb hml hown hts hK hz hP hL hS hlo hl.1 (c_X2_at l (v + 1) 96 k d σ sz ⟨hVo.c1, hVo.c2⟩ (by omega) (by omega)) gX6_longestSung_X2_at rfl rfl rfl (by decide +kernel) ⟨Nat.le_of_ble_eq_true rfl, Nat.le_of_ble_eq_true rfl⟩ hVo.c1 rfl rfl rfl (Nat.le_of_ble_eq_true rfl) dX6_longestSung_19 ⟨Nat.le_of_ble_eq_true rfl, Nat.le_of_ble_eq_true rfl⟩ (g_ki0 (fun H locs hz hP hL hS => ?_))
        refine lv_if_ne (tgt := 31) hx hb dX6_longestSung_22 (by decide) (fun c22 => ?_) (fun c22 => ?_)
        · refine lv_iconst (v := (nI 0)) hx hb dX6_longestSung_31 (by decide) ?_
          have hr1 := rnF_le d (k + 1)
          have hr2 := lgF_le d k
          refine g_top (y := (nI (rnF d (k + 1)))) (congrArg nI (rnF_f c22)) ?_
          refine lv_istore_n (lv' := [(2, .int (nI (rnF d (k + 1)))), (0, .ref v), (1, .int (nI (lgF d k))), (3, .int (nI k))]) hx hb dX6_longestSung_32 rfl hl (by decide) rfl (fun ls hl => ?_)
          refine lv_iload_n hx hb dX6_longestSung_33 rfl (lv_at hl 2 rfl) ?_
          refine lv_iload_n hx hb dX6_longestSung_34 rfl (lv_at hl 0 rfl) ?_
          refine va_mmax hx hb (hml.trans hl.1.symm) hown (hts (.methodLink RX6 57 Lib.Math.max.name) (by decide +kernel)) (hts (.static Lib.Math.max.name) (by decide +kernel)) (hts (.initialized "java/lang/Math") (by decide +kernel)) (hts (.code Lib.Math.max.name Lib.Math.max.code 2 (some .int)) (by decide +kernel)) (Nat.le_of_ble_eq_true rfl) (Nat.le_of_ble_eq_true rfl) (Nat.le_of_ble_eq_true rfl) (Nat.le_of_ble_eq_true rfl) dX6_longestSung_35 ?_
          refine g_top (g_nmax (a := lgF d k) (b := rnF d (k + 1)) (by omega) (by omega)) ?_
          refine lv_istore_n (lv' := [(1, .int (nI (max (lgF d k) (rnF d (k + 1))))), (2, .int (nI (rnF d (k + 1)))), (0, .ref v), (3, .int (nI k))]) hx hb dX6_longestSung_38 rfl hl (by decide) rfl (fun ls hl => ?_)
          refine lv_iinc (v := (nI (k + 1))) (lv' := [(3, .int (nI (k + 1))), (1, .int (nI (max (lgF d k) (rnF d (k + 1))))), (2, .int (nI (rnF d (k + 1)))), (0, .ref v)]) hx hb dX6_longestSung_39 hl (k := 3) rfl (g_inc k 1) (by decide) rfl (fun ls hl => ?_)
          refine lv_goto (tgt := 6) hx hb dX6_longestSung_42 (by decide) ?_
          have e_1 : (nI (max (lgF d k) (rnF d (k + 1)))) = (nI (lgF d (k + 1))) := rfl
          have hl := lv_sub hl (l' := [(0, .ref v), (1, .int (nI (max (lgF d k) (rnF d (k + 1))))), (2, .int (nI (rnF d (k + 1)))), (3, .int (nI (k + 1)))]) [3, 1, 2, 0] rfl
          rw [e_1] at hl
          exact ih_lp (k + 1) (by omega) (by omega) H locs ls hz hP hS hl
        · refine lv_iload_n hx hb dX6_longestSung_25 rfl (lv_at hl 2 rfl) ?_
          refine lv_iconst (v := (nI 1)) hx hb dX6_longestSung_26 (by decide) ?_
          refine lv_iadd hx hb dX6_longestSung_27 ?_
          refine g_top (nI_add (rnF d k) 1) ?_
          refine lv_goto (tgt := 32) hx hb dX6_longestSung_28 (by decide) ?_
          have hr1 := rnF_le d (k + 1)
          have hr2 := lgF_le d k
          refine g_top (y := (nI (rnF d (k + 1)))) (congrArg nI (rnF_t c22)) ?_
          refine lv_istore_n (lv' := [(2, .int (nI (rnF d (k + 1)))), (0, .ref v), (1, .int (nI (lgF d k))), (3, .int (nI k))]) hx hb dX6_longestSung_32 rfl hl (by decide) rfl (fun ls hl => ?_)
          refine lv_iload_n hx hb dX6_longestSung_33 rfl (lv_at hl 2 rfl) ?_
          refine lv_iload_n hx hb dX6_longestSung_34 rfl (lv_at hl 0 rfl) ?_
          refine va_mmax hx hb (hml.trans hl.1.symm) hown (hts (.methodLink RX6 57 Lib.Math.max.name) (by decide +kernel)) (hts (.static Lib.Math.max.name) (by decide +kernel)) (hts (.initialized "java/lang/Math") (by decide +kernel)) (hts (.code Lib.Math.max.name Lib.Math.max.code 2 (some .int)) (by decide +kernel)) (Nat.le_of_ble_eq_true rfl) (Nat.le_of_ble_eq_true rfl) (Nat.le_of_ble_eq_true rfl) (Nat.le_of_ble_eq_true rfl) dX6_longestSung_35 ?_
          refine g_top (g_nmax (a := lgF d k) (b := rnF d (k + 1)) (by omega) (by omega)) ?_
          refine lv_istore_n (lv' := [(1, .int (nI (max (lgF d k) (rnF d (k + 1))))), (2, .int (nI (rnF d (k + 1)))), (0, .ref v), (3, .int (nI k))]) hx hb dX6_longestSung_38 rfl hl (by decide) rfl (fun ls hl => ?_)
          refine lv_iinc (v := (nI (k + 1))) (lv' := [(3, .int (nI (k + 1))), (1, .int (nI (max (lgF d k) (rnF d (k + 1))))), (2, .int (nI (rnF d (k + 1)))), (0, .ref v)]) hx hb dX6_longestSung_39 hl (k := 3) rfl (g_inc k 1) (by decide) rfl (fun ls hl => ?_)
          refine lv_goto (tgt := 6) hx hb dX6_longestSung_42 (by decide) ?_
          have e_1 : (nI (max (lgF d k) (rnF d (k + 1)))) = (nI (lgF d (k + 1))) := rfl
          have hl := lv_sub hl (l' := [(0, .ref v), (1, .int (nI (max (lgF d k) (rnF d (k + 1))))), (2, .int (nI (rnF d (k + 1)))), (3, .int (nI (k + 1)))]) [3, 1, 2, 0] rfl
          rw [e_1] at hl
          exact ih_lp (k + 1) (by omega) (by omega) H locs ls hz hP hS hl
  exact lp _ 0 (by omega) (Nat.lt_succ_self _) H locs ls hz hP hS (lv_sub hl [3, 2, 1, 0] rfl)

theorem nX6_init_X2 : ∀ w ∈ wsX20, w ∈ wsX6_init := by decide +kernel
theorem nX6_init_X6 : ∀ w ∈ wsX60, w ∈ wsX6_init := by decide +kernel
set_option maxHeartbeats 4000000 in
set_option maxRecDepth 100000 in
theorem c_X6_init (l : Launch) (v : Nat) (σ : gS) (h0 : σ v = gO 6 [.null, .null, .int 0, .int 0]) : gM l yX6_init wsX6_init ({ frames := 2, cells := 4, slots := 194, locals := 35 } : Room) 4 194 [.ref v] σ (v + 1) (gxv (fun τ n => n = v + 5 ∧ VoAt τ v (fun _ => 0) (fun _ => 0) 0 0 ∧ gAs (gZo v 5) σ τ)) := by
  refine gM_of (cc := cX6_init) (maxL := 1) (ret := none) (by decide) rfl (Nat.le_of_ble_eq_true rfl) ?_
  intro D ka lo hL hlo p e s m below meth c hx hb hr hts hown hml hlk hnm hK H locs ls hz hP hS hl
  have hl : lv_has ls 1 [(0, .ref v)] := hl
  have hown : s.vm.findClass RX6 = some m.cls := hown
  have hag : gAs (gZo v 5) σ σ := gAs.rf
  refine lv_aload_n hx hb dX6_init_0 rfl (lv_at hl 0 rfl) ?_
  refine W.objInit hx hb hown (hts (.methodLink RX6 3 objectInit) (by decide +kernel)) (hts (.instanceMethod objectInit) (by decide +kernel)) (hts (.code objectInit ⟨#[0xb1]⟩ 1 none) (by decide +kernel)) rfl (by rw [hml]; exact hl.1) rfl dX6_init_1 (Nat.le_of_ble_eq_true rfl) (Nat.le_of_ble_eq_true rfl) ?_
  refine W.eq (g2 := F0 m 4 ls []) rfl ?_
  refine lv_aload_n hx hb dX6_init_4 rfl (lv_at hl 0 rfl) ?_
  refine g_new (C := RX2) (T := TX2) (N := 1) (ci := 2) (fs := [.null]) hx hb hts hown hK hz hP hL hS hlo nX6_init_X2 tyX2 tyX2_ok rfl (by decide +kernel) (by decide +kernel) (by decide +kernel) rfl (Nat.le_of_ble_eq_true rfl) (Nat.le_of_ble_eq_true rfl) dX6_init_5 (fun H hz hP hL hS => ?_)
  have hlo : lo ≤ (v + 1) + 1 := Nat.le_succ_of_le hlo
  obtain ⟨σ1, e1⟩ : ∃ υ0 : gS, υ0 = gup σ (v + 1) (gO 2 [.null]) := ⟨_, rfl⟩
  have hP : gH D ka σ1 H := by rw [e1]; exact hP
  have hL : gL lo σ1 := by rw [e1]; exact hL
  have hag := hag.upe e1 (zo_k (by decide))
  refine lv_dup hx hb dX6_init_8 rfl ?_
  refine lv_bipush (v := (nI 96)) hx hb dX6_init_9 (by decide) ?_
  refine g_runI (b := (v + 1)) (As := [.int (nI 96)]) (rest := [.ref (v + 1), .ref v]) (own := RX6) 1 hx hb hml hown hts hK hz hP hL hS hlo hl.1 (c_X2_init l (v + 1) 96 σ1 (gup_here e1) (by decide)) gX6_init_X2_init rfl rfl rfl (by decide +kernel) (by decide +kernel) (by decide +kernel) rfl (by decide +kernel) ⟨Nat.le_of_ble_eq_true rfl, Nat.le_of_ble_eq_true rfl⟩ rfl rfl (Nat.le_of_ble_eq_true rfl) dX6_init_11 ⟨Nat.le_of_ble_eq_true rfl, Nat.le_of_ble_eq_true rfl⟩ (g_kv (fun H locs hz hP hL hS => ?_))
  have hz : H.size = (v + 3) := hz
  have hlo : lo ≤ (v + 3) := Nat.le_succ_of_le hlo
  obtain ⟨σ2, e2⟩ : ∃ υ0 : gS, υ0 = gup σ1 (v + 2) (gI 96 (fun _ => 0)) := ⟨_, rfl⟩
  have hag := hag.upe e2 (zo_k (by decide))
  obtain ⟨σ3, e3⟩ : ∃ υ0 : gS, υ0 = gup σ2 (v + 1) (gO 2 [.ref (v + 2)]) := ⟨_, rfl⟩
  have hag := hag.upe e3 (zo_k (by decide))
  have hP : gH D ka σ3 H := by rw [e3, e2]; exact hP
  have hL : gL lo σ3 := by rw [e3, e2]; exact hL
  refine g_putF (C := RX6) (T := TX6) (N := 4) hx hb hts hown hK hP hL hS (gup_off e3 (ad_0 1 (by decide)) (gup_off e2 (ad_0 2 (by decide)) (gup_off e1 (ad_0 1 (by decide)) h0))) nX6_init_X6 tyX6 tyX6_ok nmX6 rfl 0 (by decide) (by decide +kernel) rfl rfl hnm rfl (v := .ref (v + 1)) rfl rfl (Nat.le_of_ble_eq_true rfl) dX6_init_14 (fun H locs hq hP hL hS => ?_)
  have hz := hq.trans hz
  obtain ⟨σ4, e4⟩ : ∃ υ0 : gS, υ0 = gup σ3 v (gO 6 [.ref (v + 1), .null, .int (0), .int (0)]) := ⟨_, rfl⟩
  have hP : gH D ka σ4 H := by rw [e4]; exact hP
  have hL : gL lo σ4 := by rw [e4]; exact hL
  have hag := hag.upe e4 (zo_0 (by decide))
  refine lv_aload_n hx hb dX6_init_17 rfl (lv_at hl 0 rfl) ?_
  refine g_new (C := RX2) (T := TX2) (N := 1) (ci := 2) (fs := [.null]) hx hb hts hown hK hz hP hL hS hlo nX6_init_X2 tyX2 tyX2_ok rfl (by decide +kernel) (by decide +kernel) (by decide +kernel) rfl (Nat.le_of_ble_eq_true rfl) (Nat.le_of_ble_eq_true rfl) dX6_init_18 (fun H hz hP hL hS => ?_)
  have hlo : lo ≤ (v + 3) + 1 := Nat.le_succ_of_le hlo
  obtain ⟨σ5, e5⟩ : ∃ υ0 : gS, υ0 = gup σ4 (v + 3) (gO 2 [.null]) := ⟨_, rfl⟩
  have hP : gH D ka σ5 H := by rw [e5]; exact hP
  have hL : gL lo σ5 := by rw [e5]; exact hL
  have hag := hag.upe e5 (zo_k (by decide))
  refine lv_dup hx hb dX6_init_21 rfl ?_
  refine lv_bipush (v := (nI 96)) hx hb dX6_init_22 (by decide) ?_
  refine g_runI (b := (v + 3)) (As := [.int (nI 96)]) (rest := [.ref (v + 3), .ref v]) (own := RX6) 1 hx hb hml hown hts hK hz hP hL hS hlo hl.1 (c_X2_init l (v + 3) 96 σ5 (gup_here e5) (by decide)) gX6_init_X2_init rfl rfl rfl (by decide +kernel) (by decide +kernel) (by decide +kernel) rfl (by decide +kernel) ⟨Nat.le_of_ble_eq_true rfl, Nat.le_of_ble_eq_true rfl⟩ rfl rfl (Nat.le_of_ble_eq_true rfl) dX6_init_24 ⟨Nat.le_of_ble_eq_true rfl, Nat.le_of_ble_eq_true rfl⟩ (g_kv (fun H locs hz hP hL hS => ?_))
  have hz : H.size = (v + 5) := hz
  have hlo : lo ≤ (v + 5) := Nat.le_succ_of_le hlo
  obtain ⟨σ6, e6⟩ : ∃ υ0 : gS, υ0 = gup σ5 (v + 4) (gI 96 (fun _ => 0)) := ⟨_, rfl⟩
  have hag := hag.upe e6 (zo_k (by decide))
  obtain ⟨σ7, e7⟩ : ∃ υ0 : gS, υ0 = gup σ6 (v + 3) (gO 2 [.ref (v + 4)]) := ⟨_, rfl⟩
  have hag := hag.upe e7 (zo_k (by decide))
  have hP : gH D ka σ7 H := by rw [e7, e6]; exact hP
  have hL : gL lo σ7 := by rw [e7, e6]; exact hL
  refine g_putF (C := RX6) (T := TX6) (N := 4) hx hb hts hown hK hP hL hS (gup_off e7 (ad_0 3 (by decide)) (gup_off e6 (ad_0 4 (by decide)) (gup_off e5 (ad_0 3 (by decide)) (gup_here e4)))) nX6_init_X6 tyX6 tyX6_ok nmX6 rfl 1 (by decide) (by decide +kernel) rfl rfl hnm rfl (v := .ref (v + 3)) rfl rfl (Nat.le_of_ble_eq_true rfl) dX6_init_27 (fun H locs hq hP hL hS => ?_)
  have hz := hq.trans hz
  obtain ⟨σ8, e8⟩ : ∃ υ0 : gS, υ0 = gup σ7 v (gO 6 [.ref (v + 1), .ref (v + 3), .int (0), .int (0)]) := ⟨_, rfl⟩
  have hP : gH D ka σ8 H := by rw [e8]; exact hP
  have hL : gL lo σ8 := by rw [e8]; exact hL
  have hag := hag.upe e8 (zo_0 (by decide))
  refine W.widen (k := 4) (n := 194) (Nat.le_of_ble_eq_true rfl) (Nat.le_of_ble_eq_true rfl) ?_
  exact g_vret (z := (v + 5)) hx hb hr hlk hz hP hL hS dX6_init_30 (gxv_i ⟨rfl, ⟨(by rw [nI_0]; exact (gup_here e8)), (gup_off e8 (ad_1 1 (by decide)) (gup_off e7 (ad_2 (by decide : 1 ≠ 3)) (gup_off e6 (ad_2 (by decide : 1 ≠ 4)) (gup_off e5 (ad_2 (by decide : 1 ≠ 3)) (gup_off e4 (ad_1 1 (by decide)) (gup_here e3)))))), (gup_off e8 (ad_1 2 (by decide)) (gup_off e7 (ad_2 (by decide : 2 ≠ 3)) (gup_off e6 (ad_2 (by decide : 2 ≠ 4)) (gup_off e5 (ad_2 (by decide : 2 ≠ 3)) (gup_off e4 (ad_1 2 (by decide)) (gup_off e3 (ad_2 (by decide : 2 ≠ 1)) (gup_here e2))))))), (gup_off e8 (ad_1 3 (by decide)) (gup_here e7)), (gup_off e8 (ad_1 4 (by decide)) (gup_off e7 (ad_2 (by decide : 4 ≠ 3)) (gup_here e6)))⟩, hag⟩)
