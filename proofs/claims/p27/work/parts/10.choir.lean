/-! who sings, breathes, gasps, as sets; the faults -/
abbrev dosQ (S : sS) (i b : Nat) : Nat := dosF S i (S 3 i) b
def grpI (S : sS) (q b : Nat) : Nat → Int32
  | 0 => 0
  | n + 1 => if dosQ S n b = q then grpI S q b n ||| bitI n else grpI S q b n
def chP (S : sS) (q n k : Nat) : Nat → Int32 := fun b => if b < sB S then grpI S q b (if b < k then n + 1 else n) else 0
def chR (S : sS) (q : Nat) : Nat → Int32 := fun b => if b < sB S then grpI S q b (sN S) else 0
def colF (q j : Nat) (f : Nat → Int32) (b i : Nat) : Nat → Int32 := if q = j then upd f b (f b ||| bitI i) else f
theorem chP_0 (S : sS) (q : Nat) : chP S q 0 0 = fun _ => 0 := by
  funext b
  simp [chP, grpI]
theorem chP_s {S : sS} {q n k : Nat} (hk : k < sB S) : colF (dosQ S n k) q (chP S q n k) k n = chP S q n (k + 1) := by
  funext b
  by_cases hb : b = k
  · subst hb
    by_cases hq : dosQ S n b = q
    · simp [colF, chP, hq, upd, hk, grpI]
    · simp [colF, chP, hq, hk, grpI]
  · have e : chP S q n (k + 1) b = chP S q n k b := by
      simp only [chP]
      by_cases h2 : b < k
      · rw [if_pos h2, if_pos (show b < k + 1 by omega)]
      · rw [if_neg h2, if_neg (show ¬ b < k + 1 by omega)]
    rw [e]
    simp only [colF]
    split
    · simp [upd, hb]
    · rfl
theorem chP_e (S : sS) (q n : Nat) : chP S q n (sB S) = chP S q (n + 1) 0 := by
  funext b
  simp only [chP]
  by_cases h : b < sB S
  · rw [if_pos h, if_pos h, if_pos h, if_neg (by omega)]
  · rw [if_neg h, if_neg h]
theorem chP_r (S : sS) (q : Nat) : chP S q (sN S) 0 = chR S q := by
  funext b
  simp [chP, chR]
def thinB (S : sS) (a : Nat → Int32) (b : Nat) : Bool := decide (soloF S b = none) && !decide (firstI S b = nI b) && decide (bcI (a b) < nI 2)
def fltI (S : sS) (a1 a2 a3 : Nat → Int32) (b q : Nat) : Int32 :=
  if q = 0 then (if restB S b = false ∧ a1 b = 0 then nI 1 else nI 0) else if q = 1 then a3 b else if q = 2 then (if thinB S a1 b = true then a2 b else nI 0) else (if soloF S b = none then nI 0 else a2 b)
def innI (g : Nat → Int32) (lw : Nat) (acc : Int32) : Nat → Int32
  | 0 => acc
  | j + 1 => innI g lw acc j + bcI (g (lw + j))
def csuI (g : Nat → Nat → Int32) (lw n : Nat) : Nat → Int32
  | 0 => nI 0
  | b + 1 => innI (g b) lw (csuI g lw n b) n
def silB (S : sS) (a : Nat → Int32) (i j : Nat) : Bool := !restB S j && decide (a j &&& (bitI i ^^^ -1) = 0)
theorem sil_1 {S : sS} {a : Nat → Int32} {i j : Nat} (h : restB S j = true) : silB S a i j = false := by rw [silB, h]; rfl
theorem sil_2 {S : sS} {a : Nat → Int32} {i j : Nat} (h : ¬ a j &&& (bitI i ^^^ -1) = 0) : silB S a i j = false := by rw [silB, decide_eq_false h]; exact Bool.and_false _
theorem sil_3 {S : sS} {a : Nat → Int32} {i j : Nat} (h : restB S j = false) (h2 : a j &&& (bitI i ^^^ -1) = 0) : silB S a i j = true := by rw [silB, h, decide_eq_true h2]; rfl
/-- the member of a set with so many ahead of it -/
def memP (x : Int32) (p : Nat) (s : Nat) : Bool := hasB x s && decide (cntF (hasB x) s = p)
def memI (x : Int32) (p : Nat) : Int32 := oI (firstK (memP x p) 12 0)
def telQ (cn : Nat → Nat) : Nat → Nat → Nat → (Nat × Nat) ⊕ Nat
  | 0, _, a => .inr a
  | n + 1, q, a => if a < cn q then .inl (q, a) else telQ cn n (q + 1) (a - cn q)
def telB (cn : Nat → Nat → Nat) : Nat → Nat → Nat → Option (Nat × Nat × Nat)
  | 0, _, _ => none
  | n + 1, b, a => match telQ (cn b) 4 0 a with
    | .inl (q, a') => some (b, q, a')
    | .inr a' => telB cn n (b + 1) a'
def telO (q b : Nat) (s : Int32) (w : Nat) : Int32 := if w = 0 then nI q else if w = 1 then nI b else if q = 0 then -5 else s
def telI (S : sS) (a1 a2 a3 : Nat → Int32) (cn : Nat → Nat → Nat) (k w : Nat) : Int32 := match telB cn (sB S) 0 k with
  | none => -5
  | some (b, q, a') => telO q b (memI (fltI S a1 a2 a3 b q) a') w
theorem telQ_y {cn : Nat → Nat} {q a : Nat} (h : a < cn q) (hq : q < 4) : telQ cn (4 - q) q a = .inl (q, a) := by
  rw [show 4 - q = (3 - q) + 1 by omega, telQ, if_pos h]
theorem telQ_n {cn : Nat → Nat} {q a : Nat} (h : cn q ≤ a) (hq : q < 4) : telQ cn (4 - (q + 1)) (q + 1) (a - cn q) = telQ cn (4 - q) q a := by
  rw [show 4 - q = (4 - (q + 1)) + 1 by omega, telQ, if_neg (by omega)]
theorem telB_y {cn : Nat → Nat → Nat} {n b a q a' : Nat} (hb : b < n) (h : telQ (cn b) 4 0 a = .inl (q, a')) : telB cn (n - b) b a = some (b, q, a') := by
  rw [show n - b = (n - (b + 1)) + 1 by omega, telB, h]
theorem telB_n {cn : Nat → Nat → Nat} {n b a a' : Nat} (hb : b < n) (h : telQ (cn b) 4 0 a = .inr a') : telB cn (n - (b + 1)) (b + 1) a' = telB cn (n - b) b a := by
  rw [show n - b = (n - (b + 1)) + 1 by omega, telB, h]
theorem nX0_init_X0 : ∀ w ∈ wsX00, w ∈ wsX0_init := by decide +kernel
theorem nX0_init_X2 : ∀ w ∈ wsX20, w ∈ wsX0_init := by decide +kernel
set_option maxHeartbeats 4000000 in
set_option maxRecDepth 100000 in
theorem c_X0_init (l : Launch) (ch : Nat) (σ : gS) (h0 : σ ch = gO 0 [.null, .null, .null]) : gM l yX0_init wsX0_init ({ frames := 2, cells := 6, slots := 291, locals := 35 } : Room) 6 291 [.ref ch] σ (ch + 1) (gxv (fun τ n => n = ch + 7 ∧ ChAt τ ch (fun _ => 0) (fun _ => 0) (fun _ => 0) ∧ gAs (gZo ch 7) σ τ)) := by
  refine gM_of (cc := cX0_init) (maxL := 1) (ret := none) (by decide) rfl (Nat.le_of_ble_eq_true rfl) ?_
  intro D ka lo hL hlo p e s m below meth c hx hb hr hts hown hml hlk hnm hK H locs ls hz hP hS hl
  have hl : lv_has ls 1 [(0, .ref ch)] := hl
  have hown : s.vm.findClass RX0 = some m.cls := hown
  have hag : gAs (gZo ch 7) σ σ := gAs.rf
  refine lv_aload_n hx hb dX0_init_0 rfl (lv_at hl 0 rfl) ?_
  refine W.objInit hx hb hown (hts (.methodLink RX0 3 objectInit) (by decide +kernel)) (hts (.instanceMethod objectInit) (by decide +kernel)) (hts (.code objectInit ⟨#[0xb1]⟩ 1 none) (by decide +kernel)) rfl (by rw [hml]; exact hl.1) rfl dX0_init_1 (Nat.le_of_ble_eq_true rfl) (Nat.le_of_ble_eq_true rfl) ?_
  refine W.eq (g2 := F0 m 4 ls []) rfl ?_
  refine lv_aload_n hx hb dX0_init_4 rfl (lv_at hl 0 rfl) ?_
  refine g_new (C := RX2) (T := TX2) (N := 1) (ci := 2) (fs := [.null]) hx hb hts hown hK hz hP hL hS hlo nX0_init_X2 tyX2 tyX2_ok rfl (by decide +kernel) (by decide +kernel) (by decide +kernel) rfl (Nat.le_of_ble_eq_true rfl) (Nat.le_of_ble_eq_true rfl) dX0_init_5 (fun H hz hP hL hS => ?_)
  have hlo : lo ≤ (ch + 1) + 1 := Nat.le_succ_of_le hlo
  obtain ⟨σ1, e1⟩ : ∃ υ0 : gS, υ0 = gup σ (ch + 1) (gO 2 [.null]) := ⟨_, rfl⟩
  have hP : gH D ka σ1 H := by rw [e1]; exact hP
  have hL : gL lo σ1 := by rw [e1]; exact hL
  have hag := hag.upe e1 (zo_k (by decide))
  refine lv_dup hx hb dX0_init_8 rfl ?_
  refine lv_bipush (v := (nI 96)) hx hb dX0_init_9 (by decide) ?_
  refine g_runI (b := (ch + 1)) (As := [.int (nI 96)]) (rest := [.ref (ch + 1), .ref ch]) (own := RX0) 1 hx hb hml hown hts hK hz hP hL hS hlo hl.1 (c_X2_init l (ch + 1) 96 σ1 (gup_here e1) (by decide)) gX0_init_X2_init rfl rfl rfl (by decide +kernel) (by decide +kernel) (by decide +kernel) rfl (by decide +kernel) ⟨Nat.le_of_ble_eq_true rfl, Nat.le_of_ble_eq_true rfl⟩ rfl rfl (Nat.le_of_ble_eq_true rfl) dX0_init_11 ⟨Nat.le_of_ble_eq_true rfl, Nat.le_of_ble_eq_true rfl⟩ (g_kv (fun H locs hz hP hL hS => ?_))
  have hz : H.size = (ch + 3) := hz
  have hlo : lo ≤ (ch + 3) := Nat.le_succ_of_le hlo
  obtain ⟨σ2, e2⟩ : ∃ υ0 : gS, υ0 = gup σ1 (ch + 2) (gI 96 (fun _ => 0)) := ⟨_, rfl⟩
  have hag := hag.upe e2 (zo_k (by decide))
  obtain ⟨σ3, e3⟩ : ∃ υ0 : gS, υ0 = gup σ2 (ch + 1) (gO 2 [.ref (ch + 2)]) := ⟨_, rfl⟩
  have hag := hag.upe e3 (zo_k (by decide))
  have hP : gH D ka σ3 H := by rw [e3, e2]; exact hP
  have hL : gL lo σ3 := by rw [e3, e2]; exact hL
  refine g_putF (C := RX0) (T := TX0) (N := 3) hx hb hts hown hK hP hL hS (gup_off e3 (ad_0 1 (by decide)) (gup_off e2 (ad_0 2 (by decide)) (gup_off e1 (ad_0 1 (by decide)) h0))) nX0_init_X0 tyX0 tyX0_ok nmX0 rfl 0 (by decide) (by decide +kernel) rfl rfl hnm rfl (v := .ref (ch + 1)) rfl rfl (Nat.le_of_ble_eq_true rfl) dX0_init_14 (fun H locs hq hP hL hS => ?_)
  have hz := hq.trans hz
  obtain ⟨σ4, e4⟩ : ∃ υ0 : gS, υ0 = gup σ3 ch (gO 0 [.ref (ch + 1), .null, .null]) := ⟨_, rfl⟩
  have hP : gH D ka σ4 H := by rw [e4]; exact hP
  have hL : gL lo σ4 := by rw [e4]; exact hL
  have hag := hag.upe e4 (zo_0 (by decide))
  refine lv_aload_n hx hb dX0_init_17 rfl (lv_at hl 0 rfl) ?_
  refine g_new (C := RX2) (T := TX2) (N := 1) (ci := 2) (fs := [.null]) hx hb hts hown hK hz hP hL hS hlo nX0_init_X2 tyX2 tyX2_ok rfl (by decide +kernel) (by decide +kernel) (by decide +kernel) rfl (Nat.le_of_ble_eq_true rfl) (Nat.le_of_ble_eq_true rfl) dX0_init_18 (fun H hz hP hL hS => ?_)
  have hlo : lo ≤ (ch + 3) + 1 := Nat.le_succ_of_le hlo
  obtain ⟨σ5, e5⟩ : ∃ υ0 : gS, υ0 = gup σ4 (ch + 3) (gO 2 [.null]) := ⟨_, rfl⟩
  have hP : gH D ka σ5 H := by rw [e5]; exact hP
  have hL : gL lo σ5 := by rw [e5]; exact hL
  have hag := hag.upe e5 (zo_k (by decide))
  refine lv_dup hx hb dX0_init_21 rfl ?_
  refine lv_bipush (v := (nI 96)) hx hb dX0_init_22 (by decide) ?_
  refine g_runI (b := (ch + 3)) (As := [.int (nI 96)]) (rest := [.ref (ch + 3), .ref ch]) (own := RX0) 1 hx hb hml hown hts hK hz hP hL hS hlo hl.1 (c_X2_init l (ch + 3) 96 σ5 (gup_here e5) (by decide)) gX0_init_X2_init rfl rfl rfl (by decide +kernel) (by decide +kernel) (by decide +kernel) rfl (by decide +kernel) ⟨Nat.le_of_ble_eq_true rfl, Nat.le_of_ble_eq_true rfl⟩ rfl rfl (Nat.le_of_ble_eq_true rfl) dX0_init_24 ⟨Nat.le_of_ble_eq_true rfl, Nat.le_of_ble_eq_true rfl⟩ (g_kv (fun H locs hz hP hL hS => ?_))
  have hz : H.size = (ch + 5) := hz
  have hlo : lo ≤ (ch + 5) := Nat.le_succ_of_le hlo
  obtain ⟨σ6, e6⟩ : ∃ υ0 : gS, υ0 = gup σ5 (ch + 4) (gI 96 (fun _ => 0)) := ⟨_, rfl⟩
  have hag := hag.upe e6 (zo_k (by decide))
  obtain ⟨σ7, e7⟩ : ∃ υ0 : gS, υ0 = gup σ6 (ch + 3) (gO 2 [.ref (ch + 4)]) := ⟨_, rfl⟩
  have hag := hag.upe e7 (zo_k (by decide))
  have hP : gH D ka σ7 H := by rw [e7, e6]; exact hP
  have hL : gL lo σ7 := by rw [e7, e6]; exact hL
  refine g_putF (C := RX0) (T := TX0) (N := 3) hx hb hts hown hK hP hL hS (gup_off e7 (ad_0 3 (by decide)) (gup_off e6 (ad_0 4 (by decide)) (gup_off e5 (ad_0 3 (by decide)) (gup_here e4)))) nX0_init_X0 tyX0 tyX0_ok nmX0 rfl 1 (by decide) (by decide +kernel) rfl rfl hnm rfl (v := .ref (ch + 3)) rfl rfl (Nat.le_of_ble_eq_true rfl) dX0_init_27 (fun H locs hq hP hL hS => ?_)
  have hz := hq.trans hz
  obtain ⟨σ8, e8⟩ : ∃ υ0 : gS, υ0 = gup σ7 ch (gO 0 [.ref (ch + 1), .ref (ch + 3), .null]) := ⟨_, rfl⟩
  have hP : gH D ka σ8 H := by rw [e8]; exact hP
  have hL : gL lo σ8 := by rw [e8]; exact hL
  have hag := hag.upe e8 (zo_0 (by decide))
  refine lv_aload_n hx hb dX0_init_30 rfl (lv_at hl 0 rfl) ?_
  refine g_new (C := RX2) (T := TX2) (N := 1) (ci := 2) (fs := [.null]) hx hb hts hown hK hz hP hL hS hlo nX0_init_X2 tyX2 tyX2_ok rfl (by decide +kernel) (by decide +kernel) (by decide +kernel) rfl (Nat.le_of_ble_eq_true rfl) (Nat.le_of_ble_eq_true rfl) dX0_init_31 (fun H hz hP hL hS => ?_)
  have hlo : lo ≤ (ch + 5) + 1 := Nat.le_succ_of_le hlo
  obtain ⟨σ9, e9⟩ : ∃ υ0 : gS, υ0 = gup σ8 (ch + 5) (gO 2 [.null]) := ⟨_, rfl⟩
  have hP : gH D ka σ9 H := by rw [e9]; exact hP
  have hL : gL lo σ9 := by rw [e9]; exact hL
  have hag := hag.upe e9 (zo_k (by decide))
  refine lv_dup hx hb dX0_init_34 rfl ?_
  refine lv_bipush (v := (nI 96)) hx hb dX0_init_35 (by decide) ?_
  refine g_runI (b := (ch + 5)) (As := [.int (nI 96)]) (rest := [.ref (ch + 5), .ref ch]) (own := RX0) 1 hx hb hml hown hts hK hz hP hL hS hlo hl.1 (c_X2_init l (ch + 5) 96 σ9 (gup_here e9) (by decide)) gX0_init_X2_init rfl rfl rfl (by decide +kernel) (by decide +kernel) (by decide +kernel) rfl (by decide +kernel) ⟨Nat.le_of_ble_eq_true rfl, Nat.le_of_ble_eq_true rfl⟩ rfl rfl (Nat.le_of_ble_eq_true rfl) dX0_init_37 ⟨Nat.le_of_ble_eq_true rfl, Nat.le_of_ble_eq_true rfl⟩ (g_kv (fun H locs hz hP hL hS => ?_))
  have hz : H.size = (ch + 7) := hz
  have hlo : lo ≤ (ch + 7) := Nat.le_succ_of_le hlo
  obtain ⟨σ10, e10⟩ : ∃ υ0 : gS, υ0 = gup σ9 (ch + 6) (gI 96 (fun _ => 0)) := ⟨_, rfl⟩
  have hag := hag.upe e10 (zo_k (by decide))
  obtain ⟨σ11, e11⟩ : ∃ υ0 : gS, υ0 = gup σ10 (ch + 5) (gO 2 [.ref (ch + 6)]) := ⟨_, rfl⟩
  have hag := hag.upe e11 (zo_k (by decide))
  have hP : gH D ka σ11 H := by rw [e11, e10]; exact hP
  have hL : gL lo σ11 := by rw [e11, e10]; exact hL
  refine g_putF (C := RX0) (T := TX0) (N := 3) hx hb hts hown hK hP hL hS (gup_off e11 (ad_0 5 (by decide)) (gup_off e10 (ad_0 6 (by decide)) (gup_off e9 (ad_0 5 (by decide)) (gup_here e8)))) nX0_init_X0 tyX0 tyX0_ok nmX0 rfl 2 (by decide) (by decide +kernel) rfl rfl hnm rfl (v := .ref (ch + 5)) rfl rfl (Nat.le_of_ble_eq_true rfl) dX0_init_40 (fun H locs hq hP hL hS => ?_)
  have hz := hq.trans hz
  obtain ⟨σ12, e12⟩ : ∃ υ0 : gS, υ0 = gup σ11 ch (gO 0 [.ref (ch + 1), .ref (ch + 3), .ref (ch + 5)]) := ⟨_, rfl⟩
  have hP : gH D ka σ12 H := by rw [e12]; exact hP
  have hL : gL lo σ12 := by rw [e12]; exact hL
  have hag := hag.upe e12 (zo_0 (by decide))
  refine W.widen (k := 6) (n := 291) (Nat.le_of_ble_eq_true rfl) (Nat.le_of_ble_eq_true rfl) ?_
  exact g_vret (z := (ch + 7)) hx hb hr hlk hz hP hL hS dX0_init_43 (gxv_i ⟨rfl, ⟨(gup_here e12), (gup_off e12 (ad_1 1 (by decide)) (gup_off e11 (ad_2 (by decide : 1 ≠ 5)) (gup_off e10 (ad_2 (by decide : 1 ≠ 6)) (gup_off e9 (ad_2 (by decide : 1 ≠ 5)) (gup_off e8 (ad_1 1 (by decide)) (gup_off e7 (ad_2 (by decide : 1 ≠ 3)) (gup_off e6 (ad_2 (by decide : 1 ≠ 4)) (gup_off e5 (ad_2 (by decide : 1 ≠ 3)) (gup_off e4 (ad_1 1 (by decide)) (gup_here e3)))))))))), (gup_off e12 (ad_1 2 (by decide)) (gup_off e11 (ad_2 (by decide : 2 ≠ 5)) (gup_off e10 (ad_2 (by decide : 2 ≠ 6)) (gup_off e9 (ad_2 (by decide : 2 ≠ 5)) (gup_off e8 (ad_1 2 (by decide)) (gup_off e7 (ad_2 (by decide : 2 ≠ 3)) (gup_off e6 (ad_2 (by decide : 2 ≠ 4)) (gup_off e5 (ad_2 (by decide : 2 ≠ 3)) (gup_off e4 (ad_1 2 (by decide)) (gup_off e3 (ad_2 (by decide : 2 ≠ 1)) (gup_here e2))))))))))), (gup_off e12 (ad_1 3 (by decide)) (gup_off e11 (ad_2 (by decide : 3 ≠ 5)) (gup_off e10 (ad_2 (by decide : 3 ≠ 6)) (gup_off e9 (ad_2 (by decide : 3 ≠ 5)) (gup_off e8 (ad_1 3 (by decide)) (gup_here e7)))))), (gup_off e12 (ad_1 4 (by decide)) (gup_off e11 (ad_2 (by decide : 4 ≠ 5)) (gup_off e10 (ad_2 (by decide : 4 ≠ 6)) (gup_off e9 (ad_2 (by decide : 4 ≠ 5)) (gup_off e8 (ad_1 4 (by decide)) (gup_off e7 (ad_2 (by decide : 4 ≠ 3)) (gup_here e6))))))), (gup_off e12 (ad_1 5 (by decide)) (gup_here e11)), (gup_off e12 (ad_1 6 (by decide)) (gup_off e11 (ad_2 (by decide : 6 ≠ 5)) (gup_here e10)))⟩, hag⟩)

theorem nX0_collect_X0 : ∀ w ∈ wsX00, w ∈ wsX0_collect := by decide +kernel
set_option maxHeartbeats 4000000 in
set_option maxRecDepth 100000 in
theorem c_X0_collect (l : Launch) (ch i b q : Nat) (a1 a2 a3 : Nat → Int32) (σ : gS) (sz : Nat) (hCh : ChAt σ ch a1 a2 a3) (hb0 : b < 96) (hq0 : q < 4) : gM l yX0_collect wsX0_collect ({ frames := 1, cells := 0, slots := 0, locals := 22 } : Room) 0 0 [.ref ch, .int (nI i), .int (nI b), .int (nI q)] σ sz (gxv (fun τ n => n = sz ∧ ChAt τ ch (colF q 0 a1 b i) (colF q 1 a2 b i) (colF q 2 a3 b i) ∧ gAs (gZo ch 7) σ τ)) := by
  refine gM_of (cc := cX0_collect) (maxL := 4) (ret := none) (by decide) rfl (Nat.le_of_ble_eq_true rfl) ?_
  intro D ka lo hL hlo p e s m below meth c hx hb hr hts hown hml hlk hnm hK H locs ls hz hP hS hl
  have hl : lv_has ls 4 [(0, .ref ch), (1, .int (nI i)), (2, .int (nI b)), (3, .int (nI q))] := hl
  have hown : s.vm.findClass RX0 = some m.cls := hown
  have hag : gAs (gZo ch 7) σ σ := gAs.rf
  refine lv_iload_n hx hb dX0_collect_0 rfl (lv_at hl 3 rfl) ?_
  rcases (show q = 0 ∨ q = 1 ∨ q = 2 ∨ q = 3 by omega) with hq | hq | hq | hq
  · refine g_top (y := nI 0) (by rw [hq]) ?_
    refine lv_tableIn (tgt := 28) (off := 27) hx hb dX0_collect_1 (by decide) (by decide) (by decide) (by decide) ?_
    refine lv_aload_n hx hb dX0_collect_28 rfl (lv_at hl 0 rfl) ?_
    refine g_get (C := RX0) (T := TX0) (N := 3) hx hb hts hown hK hP hCh.c0 nX0_collect_X0 rfl 0 (by decide) (by decide +kernel) rfl (v := .ref (ch + 1)) rfl dX0_collect_29 ?_
    refine lv_iload_n hx hb dX0_collect_32 rfl (lv_at hl 2 rfl) ?_
    refine lv_aload_n hx hb dX0_collect_33 rfl (lv_at hl 0 rfl) ?_
    refine g_get (C := RX0) (T := TX0) (N := 3) hx hb hts hown hK hP hCh.c0 nX0_collect_X0 rfl 0 (by decide) (by decide +kernel) rfl (v := .ref (ch + 1)) rfl dX0_collect_34 ?_
    refine lv_iload_n hx hb dX0_collect_37 rfl (lv_at hl 2 rfl) ?_
    refine g_runV (As := [.int (nI b)]) (rest := [.int (nI b), .ref (ch + 1)]) (own := RX0) (C := RX2) (T := TX2) (N := 1) 1 hx hb hml hown hts hK hz hP hL hS hlo hl.1 (c_X2_at l (ch + 1) 96 b a1 σ sz ⟨hCh.c1, hCh.c2⟩ (by omega) (by omega)) gX0_collect_X2_at rfl rfl rfl (by decide +kernel) ⟨Nat.le_of_ble_eq_true rfl, Nat.le_of_ble_eq_true rfl⟩ hCh.c1 rfl rfl rfl (Nat.le_of_ble_eq_true rfl) dX0_collect_38 ⟨Nat.le_of_ble_eq_true rfl, Nat.le_of_ble_eq_true rfl⟩ (g_ki0 (fun H locs hz hP hL hS => ?_))
    refine lv_iload_n hx hb dX0_collect_41 rfl (lv_at hl 1 rfl) ?_
    refine g_runSN (As := [.int (nI i)]) (rest := [.int (a1 b), .int (nI b), .ref (ch + 1)]) (own := RX0) 1 hx hb hml hown hts hK hz hP hL hS hlo hl.1 (c_X7_bit l i σ sz) gX0_collect_X7_bit_n58 rfl rfl rfl (by decide +kernel) (by decide +kernel) (by decide +kernel) (by decide +kernel) ⟨Nat.le_of_ble_eq_true rfl, Nat.le_of_ble_eq_true rfl⟩ rfl rfl (Nat.le_of_ble_eq_true rfl) dX0_collect_42 ⟨Nat.le_of_ble_eq_true rfl, Nat.le_of_ble_eq_true rfl⟩ (g_ki0 (fun H locs hz hP hL hS => ?_))
    refine lv_ior hx hb dX0_collect_45 ?_
    refine g_runV (As := [.int (nI b), .int ((a1 b) ||| (bitI i))]) (rest := []) (own := RX0) (C := RX2) (T := TX2) (N := 1) 2 hx hb hml hown hts hK hz hP hL hS hlo hl.1 (c_X2_put l (ch + 1) 96 b a1 (((a1 b) ||| (bitI i))) σ sz ⟨hCh.c1, hCh.c2⟩ (by omega) (by omega)) gX0_collect_X2_put rfl rfl rfl (by decide +kernel) ⟨Nat.le_of_ble_eq_true rfl, Nat.le_of_ble_eq_true rfl⟩ hCh.c1 rfl rfl rfl (Nat.le_of_ble_eq_true rfl) dX0_collect_46 ⟨Nat.le_of_ble_eq_true rfl, Nat.le_of_ble_eq_true rfl⟩ (g_kv0 (fun H locs hz hP hL hS => ?_))
    obtain ⟨σ1, e1⟩ : ∃ υ0 : gS, υ0 = gup σ (ch + 2) (gI 96 (upd a1 b (((a1 b) ||| (bitI i))))) := ⟨_, rfl⟩
    have hP : gH D ka σ1 H := by rw [e1]; exact hP
    have hL : gL lo σ1 := by rw [e1]; exact hL
    have hCh : ChAt σ1 ch (upd a1 b (((a1 b) ||| (bitI i)))) a2 a3 := by rw [e1]; exact hCh.w2 (upd a1 b (((a1 b) ||| (bitI i))))
    have hag := hag.upe e1 (zo_k (by decide))
    refine lv_goto (tgt := 100) hx hb dX0_collect_49 (by decide) ?_
    exact g_vret (z := sz) hx hb hr hlk hz hP hL hS dX0_collect_100 (gxv_i ⟨rfl, (by simpa [colF, hq] using hCh), hag⟩)
  · refine g_top (y := nI 1) (by rw [hq]) ?_
    refine lv_tableIn (tgt := 52) (off := 51) hx hb dX0_collect_1 (by decide) (by decide) (by decide) (by decide) ?_
    refine lv_aload_n hx hb dX0_collect_52 rfl (lv_at hl 0 rfl) ?_
    refine g_get (C := RX0) (T := TX0) (N := 3) hx hb hts hown hK hP hCh.c0 nX0_collect_X0 rfl 1 (by decide) (by decide +kernel) rfl (v := .ref (ch + 3)) rfl dX0_collect_53 ?_
    refine lv_iload_n hx hb dX0_collect_56 rfl (lv_at hl 2 rfl) ?_
    refine lv_aload_n hx hb dX0_collect_57 rfl (lv_at hl 0 rfl) ?_
    refine g_get (C := RX0) (T := TX0) (N := 3) hx hb hts hown hK hP hCh.c0 nX0_collect_X0 rfl 1 (by decide) (by decide +kernel) rfl (v := .ref (ch + 3)) rfl dX0_collect_58 ?_
    refine lv_iload_n hx hb dX0_collect_61 rfl (lv_at hl 2 rfl) ?_
    refine g_runV (As := [.int (nI b)]) (rest := [.int (nI b), .ref (ch + 3)]) (own := RX0) (C := RX2) (T := TX2) (N := 1) 1 hx hb hml hown hts hK hz hP hL hS hlo hl.1 (c_X2_at l (ch + 3) 96 b a2 σ sz ⟨hCh.c3, hCh.c4⟩ (by omega) (by omega)) gX0_collect_X2_at rfl rfl rfl (by decide +kernel) ⟨Nat.le_of_ble_eq_true rfl, Nat.le_of_ble_eq_true rfl⟩ hCh.c3 rfl rfl rfl (Nat.le_of_ble_eq_true rfl) dX0_collect_62 ⟨Nat.le_of_ble_eq_true rfl, Nat.le_of_ble_eq_true rfl⟩ (g_ki0 (fun H locs hz hP hL hS => ?_))
    refine lv_iload_n hx hb dX0_collect_65 rfl (lv_at hl 1 rfl) ?_
    refine g_runSN (As := [.int (nI i)]) (rest := [.int (a2 b), .int (nI b), .ref (ch + 3)]) (own := RX0) 1 hx hb hml hown hts hK hz hP hL hS hlo hl.1 (c_X7_bit l i σ sz) gX0_collect_X7_bit_n58 rfl rfl rfl (by decide +kernel) (by decide +kernel) (by decide +kernel) (by decide +kernel) ⟨Nat.le_of_ble_eq_true rfl, Nat.le_of_ble_eq_true rfl⟩ rfl rfl (Nat.le_of_ble_eq_true rfl) dX0_collect_66 ⟨Nat.le_of_ble_eq_true rfl, Nat.le_of_ble_eq_true rfl⟩ (g_ki0 (fun H locs hz hP hL hS => ?_))
    refine lv_ior hx hb dX0_collect_69 ?_
    refine g_runV (As := [.int (nI b), .int ((a2 b) ||| (bitI i))]) (rest := []) (own := RX0) (C := RX2) (T := TX2) (N := 1) 2 hx hb hml hown hts hK hz hP hL hS hlo hl.1 (c_X2_put l (ch + 3) 96 b a2 (((a2 b) ||| (bitI i))) σ sz ⟨hCh.c3, hCh.c4⟩ (by omega) (by omega)) gX0_collect_X2_put rfl rfl rfl (by decide +kernel) ⟨Nat.le_of_ble_eq_true rfl, Nat.le_of_ble_eq_true rfl⟩ hCh.c3 rfl rfl rfl (Nat.le_of_ble_eq_true rfl) dX0_collect_70 ⟨Nat.le_of_ble_eq_true rfl, Nat.le_of_ble_eq_true rfl⟩ (g_kv0 (fun H locs hz hP hL hS => ?_))
    obtain ⟨σ2, e2⟩ : ∃ υ0 : gS, υ0 = gup σ (ch + 4) (gI 96 (upd a2 b (((a2 b) ||| (bitI i))))) := ⟨_, rfl⟩
    have hP : gH D ka σ2 H := by rw [e2]; exact hP
    have hL : gL lo σ2 := by rw [e2]; exact hL
    have hCh : ChAt σ2 ch a1 (upd a2 b (((a2 b) ||| (bitI i)))) a3 := by rw [e2]; exact hCh.w4 (upd a2 b (((a2 b) ||| (bitI i))))
    have hag := hag.upe e2 (zo_k (by decide))
    refine lv_goto (tgt := 100) hx hb dX0_collect_73 (by decide) ?_
    exact g_vret (z := sz) hx hb hr hlk hz hP hL hS dX0_collect_100 (gxv_i ⟨rfl, (by simpa [colF, hq] using hCh), hag⟩)
  · refine g_top (y := nI 2) (by rw [hq]) ?_
    refine lv_tableIn (tgt := 76) (off := 75) hx hb dX0_collect_1 (by decide) (by decide) (by decide) (by decide) ?_
    refine lv_aload_n hx hb dX0_collect_76 rfl (lv_at hl 0 rfl) ?_
    refine g_get (C := RX0) (T := TX0) (N := 3) hx hb hts hown hK hP hCh.c0 nX0_collect_X0 rfl 2 (by decide) (by decide +kernel) rfl (v := .ref (ch + 5)) rfl dX0_collect_77 ?_
    refine lv_iload_n hx hb dX0_collect_80 rfl (lv_at hl 2 rfl) ?_
    refine lv_aload_n hx hb dX0_collect_81 rfl (lv_at hl 0 rfl) ?_
    refine g_get (C := RX0) (T := TX0) (N := 3) hx hb hts hown hK hP hCh.c0 nX0_collect_X0 rfl 2 (by decide) (by decide +kernel) rfl (v := .ref (ch + 5)) rfl dX0_collect_82 ?_
    refine lv_iload_n hx hb dX0_collect_85 rfl (lv_at hl 2 rfl) ?_
    refine g_runV (As := [.int (nI b)]) (rest := [.int (nI b), .ref (ch + 5)]) (own := RX0) (C := RX2) (T := TX2) (N := 1) 1 hx hb hml hown hts hK hz hP hL hS hlo hl.1 (c_X2_at l (ch + 5) 96 b a3 σ sz ⟨hCh.c5, hCh.c6⟩ (by omega) (by omega)) gX0_collect_X2_at rfl rfl rfl (by decide +kernel) ⟨Nat.le_of_ble_eq_true rfl, Nat.le_of_ble_eq_true rfl⟩ hCh.c5 rfl rfl rfl (Nat.le_of_ble_eq_true rfl) dX0_collect_86 ⟨Nat.le_of_ble_eq_true rfl, Nat.le_of_ble_eq_true rfl⟩ (g_ki0 (fun H locs hz hP hL hS => ?_))
    refine lv_iload_n hx hb dX0_collect_89 rfl (lv_at hl 1 rfl) ?_
    refine g_runSN (As := [.int (nI i)]) (rest := [.int (a3 b), .int (nI b), .ref (ch + 5)]) (own := RX0) 1 hx hb hml hown hts hK hz hP hL hS hlo hl.1 (c_X7_bit l i σ sz) gX0_collect_X7_bit_n58 rfl rfl rfl (by decide +kernel) (by decide +kernel) (by decide +kernel) (by decide +kernel) ⟨Nat.le_of_ble_eq_true rfl, Nat.le_of_ble_eq_true rfl⟩ rfl rfl (Nat.le_of_ble_eq_true rfl) dX0_collect_90 ⟨Nat.le_of_ble_eq_true rfl, Nat.le_of_ble_eq_true rfl⟩ (g_ki0 (fun H locs hz hP hL hS => ?_))
    refine lv_ior hx hb dX0_collect_93 ?_
    refine g_runV (As := [.int (nI b), .int ((a3 b) ||| (bitI i))]) (rest := []) (own := RX0) (C := RX2) (T := TX2) (N := 1) 2 hx hb hml hown hts hK hz hP hL hS hlo hl.1 (c_X2_put l (ch + 5) 96 b a3 (((a3 b) ||| (bitI i))) σ sz ⟨hCh.c5, hCh.c6⟩ (by omega) (by omega)) gX0_collect_X2_put rfl rfl rfl (by decide +kernel) ⟨Nat.le_of_ble_eq_true rfl, Nat.le_of_ble_eq_true rfl⟩ hCh.c5 rfl rfl rfl (Nat.le_of_ble_eq_true rfl) dX0_collect_94 ⟨Nat.le_of_ble_eq_true rfl, Nat.le_of_ble_eq_true rfl⟩ (g_kv0 (fun H locs hz hP hL hS => ?_))
    obtain ⟨σ3, e3⟩ : ∃ υ0 : gS, υ0 = gup σ (ch + 6) (gI 96 (upd a3 b (((a3 b) ||| (bitI i))))) := ⟨_, rfl⟩
    have hP : gH D ka σ3 H := by rw [e3]; exact hP
    have hL : gL lo σ3 := by rw [e3]; exact hL
    have hCh : ChAt σ3 ch a1 a2 (upd a3 b (((a3 b) ||| (bitI i)))) := by rw [e3]; exact hCh.w6 (upd a3 b (((a3 b) ||| (bitI i))))
    have hag := hag.upe e3 (zo_k (by decide))
    refine lv_goto (tgt := 100) hx hb dX0_collect_97 (by decide) ?_
    exact g_vret (z := sz) hx hb hr hlk hz hP hL hS dX0_collect_100 (gxv_i ⟨rfl, (by simpa [colF, hq] using hCh), hag⟩)
  · refine g_top (y := nI 3) (by rw [hq]) ?_
    refine lv_tableOut (tgt := 100) hx hb dX0_collect_1 (by decide) (by decide) ?_
    exact g_vret (z := sz) hx hb hr hlk hz hP hL hS dX0_collect_100 (gxv_i ⟨rfl, (by simpa [colF, hq] using hCh), hag⟩)

theorem nX0_follow_X0 : ∀ w ∈ wsX00, w ∈ wsX0_follow := by decide +kernel
theorem nX0_follow_X4 : ∀ w ∈ wsX40, w ∈ wsX0_follow := by decide +kernel
theorem nX0_follow_X6 : ∀ w ∈ wsX60, w ∈ wsX0_follow := by decide +kernel
set_option maxHeartbeats 4000000 in
set_option maxRecDepth 100000 in
theorem c_X0_follow (l : Launch) (ch x v : Nat) (S : sS) (a1 a2 a3 d f : Nat → Int32) (b0 : Nat) (w0 : Int32) (σ : gS) (sz : Nat) (hSt : StAt σ x S) (hCh : ChAt σ ch a1 a2 a3) (hVo : VoAt σ v d f b0 w0) (hxv : x + 17 ≤ v ∨ v + 5 ≤ x) (hxc : x + 17 ≤ ch ∨ ch + 7 ≤ x) (hcv : ch + 7 ≤ v ∨ v + 5 ≤ ch) (hB : sB S ≤ 96) (hN : sN S ≤ 12) (hKs : sK S ≤ 8) : gM l yX0_follow wsX0_follow ({ frames := 5, cells := 0, slots := 0, locals := 116 } : Room) 0 0 [.ref ch, .ref x, .ref v] σ sz (gxv (fun τ n => n = sz ∧ ChAt τ ch (chR S 0) (chR S 1) (chR S 2) ∧ (∃ (d f : Nat → Int32) (b0 : Nat) (w0 : Int32), VoAt τ v d f b0 w0) ∧ gAs (fun q => gZo ch 7 q ∨ gZo v 5 q) σ τ)) := by
  refine gM_of (cc := cX0_follow) (maxL := 5) (ret := none) (by decide) rfl (Nat.le_of_ble_eq_true rfl) ?_
  intro D ka lo hL hlo p e s m below meth c hx hb hr hts hown hml hlk hnm hK H locs ls hz hP hS hl
  have hl : lv_has ls 5 [(0, .ref ch), (1, .ref x), (2, .ref v)] := hl
  have hown : s.vm.findClass RX0 = some m.cls := hown
  have hag : gAs (fun q => gZo ch 7 q ∨ gZo v 5 q) σ σ := gAs.rf
  refine lv_aload_n hx hb dX0_follow_0 rfl (lv_at hl 0 rfl) ?_
  refine g_get (C := RX0) (T := TX0) (N := 3) hx hb hts hown hK hP hCh.c0 nX0_follow_X0 rfl 0 (by decide) (by decide +kernel) rfl (v := .ref (ch + 1)) rfl dX0_follow_1 ?_
  refine g_runV (As := []) (rest := []) (own := RX0) (C := RX2) (T := TX2) (N := 1) 0 hx hb hml hown hts hK hz hP hL hS hlo hl.1 (c_X2_clear l (ch + 1) 96 a1 σ sz ⟨hCh.c1, hCh.c2⟩ (by omega)) gX0_follow_X2_clear rfl rfl rfl (by decide +kernel) ⟨Nat.le_of_ble_eq_true rfl, Nat.le_of_ble_eq_true rfl⟩ hCh.c1 rfl rfl rfl (Nat.le_of_ble_eq_true rfl) dX0_follow_4 ⟨Nat.le_of_ble_eq_true rfl, Nat.le_of_ble_eq_true rfl⟩ (g_kv0 (fun H locs hz hP hL hS => ?_))
  obtain ⟨σ1, e1⟩ : ∃ υ0 : gS, υ0 = gup σ (ch + 2) (gI 96 (fun _ => 0)) := ⟨_, rfl⟩
  have hP : gH D ka σ1 H := by rw [e1]; exact hP
  have hL : gL lo σ1 := by rw [e1]; exact hL
  have hSt := hSt.fr (τ := σ1) (fun q h1 h2 => gup_eq e1 (by omega))
  have hVo := hVo.fr (τ := σ1) (fun q h1 h2 => gup_eq e1 (by omega))
  have hCh : ChAt σ1 ch (fun _ => 0) a2 a3 := by rw [e1]; exact hCh.w2 (fun _ => 0)
  have hag := hag.upe e1 (.inl (zo_k (by decide)))
  refine lv_aload_n hx hb dX0_follow_7 rfl (lv_at hl 0 rfl) ?_
  refine g_get (C := RX0) (T := TX0) (N := 3) hx hb hts hown hK hP hCh.c0 nX0_follow_X0 rfl 1 (by decide) (by decide +kernel) rfl (v := .ref (ch + 3)) rfl dX0_follow_8 ?_
  refine g_runV (As := []) (rest := []) (own := RX0) (C := RX2) (T := TX2) (N := 1) 0 hx hb hml hown hts hK hz hP hL hS hlo hl.1 (c_X2_clear l (ch + 3) 96 a2 σ1 sz ⟨hCh.c3, hCh.c4⟩ (by omega)) gX0_follow_X2_clear rfl rfl rfl (by decide +kernel) ⟨Nat.le_of_ble_eq_true rfl, Nat.le_of_ble_eq_true rfl⟩ hCh.c3 rfl rfl rfl (Nat.le_of_ble_eq_true rfl) dX0_follow_11 ⟨Nat.le_of_ble_eq_true rfl, Nat.le_of_ble_eq_true rfl⟩ (g_kv0 (fun H locs hz hP hL hS => ?_))
  obtain ⟨σ2, e2⟩ : ∃ υ0 : gS, υ0 = gup σ1 (ch + 4) (gI 96 (fun _ => 0)) := ⟨_, rfl⟩
  have hP : gH D ka σ2 H := by rw [e2]; exact hP
  have hL : gL lo σ2 := by rw [e2]; exact hL
  have hSt := hSt.fr (τ := σ2) (fun q h1 h2 => gup_eq e2 (by omega))
  have hVo := hVo.fr (τ := σ2) (fun q h1 h2 => gup_eq e2 (by omega))
  have hCh : ChAt σ2 ch (fun _ => 0) (fun _ => 0) a3 := by rw [e2]; exact hCh.w4 (fun _ => 0)
  have hag := hag.upe e2 (.inl (zo_k (by decide)))
  refine lv_aload_n hx hb dX0_follow_14 rfl (lv_at hl 0 rfl) ?_
  refine g_get (C := RX0) (T := TX0) (N := 3) hx hb hts hown hK hP hCh.c0 nX0_follow_X0 rfl 2 (by decide) (by decide +kernel) rfl (v := .ref (ch + 5)) rfl dX0_follow_15 ?_
  refine g_runV (As := []) (rest := []) (own := RX0) (C := RX2) (T := TX2) (N := 1) 0 hx hb hml hown hts hK hz hP hL hS hlo hl.1 (c_X2_clear l (ch + 5) 96 a3 σ2 sz ⟨hCh.c5, hCh.c6⟩ (by omega)) gX0_follow_X2_clear rfl rfl rfl (by decide +kernel) ⟨Nat.le_of_ble_eq_true rfl, Nat.le_of_ble_eq_true rfl⟩ hCh.c5 rfl rfl rfl (Nat.le_of_ble_eq_true rfl) dX0_follow_18 ⟨Nat.le_of_ble_eq_true rfl, Nat.le_of_ble_eq_true rfl⟩ (g_kv0 (fun H locs hz hP hL hS => ?_))
  obtain ⟨σ3, e3⟩ : ∃ υ0 : gS, υ0 = gup σ2 (ch + 6) (gI 96 (fun _ => 0)) := ⟨_, rfl⟩
  have hP : gH D ka σ3 H := by rw [e3]; exact hP
  have hL : gL lo σ3 := by rw [e3]; exact hL
  have hSt := hSt.fr (τ := σ3) (fun q h1 h2 => gup_eq e3 (by omega))
  have hVo := hVo.fr (τ := σ3) (fun q h1 h2 => gup_eq e3 (by omega))
  have hCh : ChAt σ3 ch (fun _ => 0) (fun _ => 0) (fun _ => 0) := by rw [e3]; exact hCh.w6 (fun _ => 0)
  have hag := hag.upe e3 (.inl (zo_k (by decide)))
  refine lv_iconst (v := (nI 0)) hx hb dX0_follow_21 (by decide) ?_
  refine lv_istore_n (lv' := [(3, .int (nI 0)), (0, .ref ch), (1, .ref x), (2, .ref v)]) hx hb dX0_follow_22 rfl hl (by decide) rfl (fun ls hl => ?_)
  have lp : ∀ (fu_lp : Nat) (i : Nat), (i ≤ sN S) → (sN S - i < fu_lp) → ∀ (υ : gS), (StAt υ x S) → (∃ (d f : Nat → Int32) (b0 : Nat) (w0 : Int32), VoAt υ v d f b0 w0) → (ChAt υ ch (chP S 0 i 0) (chP S 1 i 0) (chP S 2 i 0)) → (gAs (fun q => gZo ch 7 q ∨ gZo v 5 q) σ υ) → gL lo υ → ∀ (H : Heap) (locs : List Loc) (ls : Array Slot), H.size = sz → gH D ka υ H → va_S (gA lo) s.heap H locs → lv_has ls 5 [(0, .ref ch), (1, .ref x), (2, .ref v), (3, .int (nI i))] → W p l e ({ frames := 5, cells := 0, slots := 0, locals := 116 } : Room) s m ([.ref ch, .ref x, .ref v] : List Value).toArray below meth c H locs (0) (0) (MQ below (gQ D ka lo (gxv (fun τ n => n = sz ∧ ChAt τ ch (chR S 0) (chR S 1) (chR S 2) ∧ (∃ (d f : Nat → Int32) (b0 : Nat) (w0 : Int32), VoAt τ v d f b0 w0) ∧ gAs (fun q => gZo ch 7 q ∨ gZo v 5 q) σ τ))) ([.ref ch, .ref x, .ref v] : List Value).toArray s 0 0 (gA lo)) (F0 m 23 ls []) := by
    intro fu_lp
    induction fu_lp with
    | zero => intro i hi hm_lp; exact absurd hm_lp (Nat.not_lt_zero _)
    | succ fu_lp ih_lp =>
      intro i hi hm_lp υ hSt hVo hCh hag hL H locs ls hz hP hS hl
      obtain ⟨d4, f4, b4, w4, hVo⟩ := hVo
      refine lv_iload_n hx hb dX0_follow_23 rfl (lv_at hl 3 rfl) ?_
      refine lv_aload_n hx hb dX0_follow_24 rfl (lv_at hl 1 rfl) ?_
      refine g_get (C := RX4) (T := TX4) (N := 13) hx hb hts hown hK hP hSt.c0 nX0_follow_X4 rfl 1 (by decide) (by decide +kernel) rfl (v := .int (nI (sN S))) rfl dX0_follow_25 ?_
      refine g_icmp_ge (tgt := 85) (a := i) (b := sN S) hx hb (by omega) (by omega) dX0_follow_28 (by decide) (fun c28 => ?_) (fun c28 => ?_)
      · have hVo0 : ∃ (d f : Nat → Int32) (b0 : Nat) (w0 : Int32), VoAt υ v d f b0 w0 := ⟨_, _, _, _, hVo⟩
        exact g_vret (z := sz) hx hb hr hlk hz hP hL hS dX0_follow_85 (gxv_i ⟨rfl, (by rw [show i = sN S by omega, chP_r, chP_r, chP_r] at hCh; exact hCh), hVo0, hag⟩)
      · refine lv_aload_n hx hb dX0_follow_31 rfl (lv_at hl 2 rfl) ?_
        refine lv_aload_n hx hb dX0_follow_32 rfl (lv_at hl 1 rfl) ?_
        refine lv_iload_n hx hb dX0_follow_33 rfl (lv_at hl 3 rfl) ?_
        refine lv_aload_n hx hb dX0_follow_34 rfl (lv_at hl 1 rfl) ?_
        refine g_get (C := RX4) (T := TX4) (N := 13) hx hb hts hown hK hP hSt.c0 nX0_follow_X4 rfl 8 (by decide) (by decide +kernel) rfl (v := .ref (x + 7)) rfl dX0_follow_35 ?_
        refine lv_iload_n hx hb dX0_follow_38 rfl (lv_at hl 3 rfl) ?_
        refine g_runV (As := [.int (nI i)]) (rest := [.int (nI i), .ref x, .ref v]) (own := RX0) (C := RX2) (T := TX2) (N := 1) 1 hx hb hml hown hts hK hz hP hL hS hlo hl.1 (c_X2_at l (x + 7) 12 i (S 3) υ sz ⟨hSt.c7, hSt.c8⟩ (by omega) (by omega)) gX0_follow_X2_at rfl rfl rfl (by decide +kernel) ⟨Nat.le_of_ble_eq_true rfl, Nat.le_of_ble_eq_true rfl⟩ hSt.c7 rfl rfl rfl (Nat.le_of_ble_eq_true rfl) dX0_follow_39 ⟨Nat.le_of_ble_eq_true rfl, Nat.le_of_ble_eq_true rfl⟩ (g_ki0 (fun H locs hz hP hL hS => ?_))
        refine g_runV (As := [.ref x, .int (nI i), .int ((S 3) i)]) (rest := []) (own := RX0) (C := RX6) (T := TX6) (N := 4) 3 hx hb hml hown hts hK hz hP hL hS hlo hl.1 (c_X6_follow l v x S i (((S 3) i)) d4 f4 b4 w4 υ sz hSt hVo (by omega) (by omega) (by omega) (by omega)) gX0_follow_X6_follow rfl rfl rfl (by decide +kernel) ⟨Nat.le_of_ble_eq_true rfl, Nat.le_of_ble_eq_true rfl⟩ hVo.c0 rfl rfl rfl (Nat.le_of_ble_eq_true rfl) dX0_follow_42 ⟨Nat.le_of_ble_eq_true rfl, Nat.le_of_ble_eq_true rfl⟩ (g_kxv0 (fun τ_5 H locs z1 hz hp hP hL hS => ?_))
        obtain ⟨hz1, h_6n, h_6a⟩ := hp
        have hz := hz.trans hz1
        have hSt := hSt.fr (τ := τ_5) (fun q h1 h2 => h_6a q (fun h => by have h3 := h.1; have h4 := h.2; omega))
        have hCh := hCh.fr (τ := τ_5) (fun q h1 h2 => h_6a q (fun h => by have h3 := h.1; have h4 := h.2; omega))
        have hVo := h_6n
        have hag := hag.tr h_6a (fun q h => .inr h)
        refine lv_iconst (v := (nI 0)) hx hb dX0_follow_45 (by decide) ?_
        refine lv_istore (lv' := [(4, .int (nI 0)), (0, .ref ch), (1, .ref x), (2, .ref v), (3, .int (nI i))]) hx hb dX0_follow_46 hl (by decide) rfl (fun ls hl => ?_)
        obtain ⟨d9, f9, b9, w9, hVo⟩ : ∃ (d9 f9 : Nat → Int32) (b9 : Nat) (w9 : Int32), VoAt τ_5 v (cpyF d9 (fun j => nI (dosF S i (S 3 i) j)) (sB S)) f9 b9 w9 := ⟨_, _, _, _, hVo⟩
        have lq : ∀ (fu_lq : Nat) (k : Nat), (k ≤ sB S) → (sB S - k < fu_lq) → ∀ (υ : gS), (StAt υ x S) → (VoAt υ v (cpyF d9 (fun j => nI (dosF S i (S 3 i) j)) (sB S)) f9 b9 w9) → (ChAt υ ch (chP S 0 i k) (chP S 1 i k) (chP S 2 i k)) → (gAs (fun q => gZo ch 7 q ∨ gZo v 5 q) σ υ) → gL lo υ → ∀ (H : Heap) (locs : List Loc) (ls : Array Slot), H.size = sz → gH D ka υ H → va_S (gA lo) s.heap H locs → lv_has ls 5 [(0, .ref ch), (1, .ref x), (2, .ref v), (3, .int (nI i)), (4, .int (nI k))] → W p l e ({ frames := 5, cells := 0, slots := 0, locals := 116 } : Room) s m ([.ref ch, .ref x, .ref v] : List Value).toArray below meth c H locs (0) (0) (MQ below (gQ D ka lo (gxv (fun τ n => n = sz ∧ ChAt τ ch (chR S 0) (chR S 1) (chR S 2) ∧ (∃ (d f : Nat → Int32) (b0 : Nat) (w0 : Int32), VoAt τ v d f b0 w0) ∧ gAs (fun q => gZo ch 7 q ∨ gZo v 5 q) σ τ))) ([.ref ch, .ref x, .ref v] : List Value).toArray s 0 0 (gA lo)) (F0 m 48 ls []) := by
          intro fu_lq
          induction fu_lq with
          | zero => intro k hk hm_lq; exact absurd hm_lq (Nat.not_lt_zero _)
          | succ fu_lq ih_lq =>
            intro k hk hm_lq υ hSt hVo hCh hag hL H locs ls hz hP hS hl
            have hd4 := dosF_lt S i (S 3 i) k
            refine lv_iload hx hb dX0_follow_48 (lv_at hl 4 rfl) ?_
            refine lv_aload_n hx hb dX0_follow_50 rfl (lv_at hl 1 rfl) ?_
            refine g_get (C := RX4) (T := TX4) (N := 13) hx hb hts hown hK hP hSt.c0 nX0_follow_X4 rfl 0 (by decide) (by decide +kernel) rfl (v := .int (nI (sB S))) rfl dX0_follow_51 ?_
            refine g_icmp_ge (tgt := 79) (a := k) (b := sB S) hx hb (by omega) (by omega) dX0_follow_54 (by decide) (fun c54 => ?_) (fun c54 => ?_)
            · refine lv_iinc (v := (nI (i + 1))) (lv' := [(3, .int (nI (i + 1))), (0, .ref ch), (1, .ref x), (2, .ref v), (4, .int (nI k))]) hx hb dX0_follow_79 hl (k := 3) rfl (g_inc i 1) (by decide) rfl (fun ls hl => ?_)
              refine lv_goto (tgt := 23) hx hb dX0_follow_82 (by decide) ?_
              exact ih_lp (i + 1) (by omega) (by omega) υ hSt ⟨_, _, _, _, hVo⟩ (by rw [show k = sB S by omega, chP_e, chP_e, chP_e] at hCh; exact hCh) hag hL H locs ls hz hP hS (lv_sub hl [1, 2, 3, 0] rfl)
            · refine lv_aload_n hx hb dX0_follow_57 rfl (lv_at hl 0 rfl) ?_
              refine lv_iload_n hx hb dX0_follow_58 rfl (lv_at hl 3 rfl) ?_
              refine lv_iload hx hb dX0_follow_59 (lv_at hl 4 rfl) ?_
              refine lv_aload_n hx hb dX0_follow_61 rfl (lv_at hl 2 rfl) ?_
              refine g_get (C := RX6) (T := TX6) (N := 4) hx hb hts hown hK hP hVo.c0 nX0_follow_X6 rfl 0 (by decide) (by decide +kernel) rfl (v := .ref (v + 1)) rfl dX0_follow_62 ?_
              refine lv_iload hx hb dX0_follow_65 (lv_at hl 4 rfl) ?_
              refine g_runV (As := [.int (nI k)]) (rest := [.int (nI k), .int (nI i), .ref ch]) (own := RX0) (C := RX2) (T := TX2) (N := 1) 1 hx hb hml hown hts hK hz hP hL hS hlo hl.1 (c_X2_at l (v + 1) 96 k (cpyF d9 (fun j => nI (dosF S i (S 3 i) j)) (sB S)) υ sz ⟨hVo.c1, hVo.c2⟩ (by omega) (by omega)) gX0_follow_X2_at rfl rfl rfl (by decide +kernel) ⟨Nat.le_of_ble_eq_true rfl, Nat.le_of_ble_eq_true rfl⟩ hVo.c1 rfl rfl rfl (Nat.le_of_ble_eq_true rfl) dX0_follow_67 ⟨Nat.le_of_ble_eq_true rfl, Nat.le_of_ble_eq_true rfl⟩ (g_ki0 (fun H locs hz hP hL hS => ?_))
              refine g_top (y := (nI (dosQ S i k))) (if_pos (show k < sB S by omega)) ?_
              refine g_runV (As := [.int (nI i), .int (nI k), .int (nI (dosQ S i k))]) (rest := []) (own := RX0) (C := RX0) (T := TX0) (N := 3) 3 hx hb hml hown hts hK hz hP hL hS hlo hl.1 (c_X0_collect l ch i k (dosQ S i k) (chP S 0 i k) (chP S 1 i k) (chP S 2 i k) υ sz hCh (by omega) (by omega)) gX0_follow_X0_collect rfl rfl rfl (by decide +kernel) ⟨Nat.le_of_ble_eq_true rfl, Nat.le_of_ble_eq_true rfl⟩ hCh.c0 rfl rfl rfl (Nat.le_of_ble_eq_true rfl) dX0_follow_70 ⟨Nat.le_of_ble_eq_true rfl, Nat.le_of_ble_eq_true rfl⟩ (g_kxv0 (fun τ_7 H locs z1 hz hp hP hL hS => ?_))
              obtain ⟨hz1, h_8n, h_8a⟩ := hp
              have hz := hz.trans hz1
              have hSt := hSt.fr (τ := τ_7) (fun q h1 h2 => h_8a q (fun h => by have h3 := h.1; have h4 := h.2; omega))
              have hVo := hVo.fr (τ := τ_7) (fun q h1 h2 => h_8a q (fun h => by have h3 := h.1; have h4 := h.2; omega))
              have hCh := h_8n
              have hag := hag.tr h_8a (fun q h => .inl h)
              refine lv_iinc (v := (nI (k + 1))) (lv' := [(4, .int (nI (k + 1))), (0, .ref ch), (1, .ref x), (2, .ref v), (3, .int (nI i))]) hx hb dX0_follow_73 hl (k := 4) rfl (g_inc k 1) (by decide) rfl (fun ls hl => ?_)
              refine lv_goto (tgt := 48) hx hb dX0_follow_76 (by decide) ?_
              exact ih_lq (k + 1) (by omega) (by omega) τ_7 hSt hVo (by rw [← chP_s (by omega), ← chP_s (by omega), ← chP_s (by omega)]; exact hCh) hag hL H locs ls hz hP hS (lv_sub hl [1, 2, 3, 4, 0] rfl)
        exact lq _ 0 (by omega) (Nat.lt_succ_self _) τ_5 hSt hVo hCh hag hL H locs ls hz hP hS (lv_sub hl [1, 2, 3, 4, 0] rfl)
  exact lp _ 0 (by omega) (Nat.lt_succ_self _) σ3 hSt ⟨_, _, _, _, hVo⟩ (by rw [chP_0, chP_0, chP_0]; exact hCh) hag hL H locs ls hz hP hS (lv_sub hl [1, 2, 3, 0] rfl)

theorem nX0_isThinInside_X0 : ∀ w ∈ wsX00, w ∈ wsX0_isThinInside := by decide +kernel
set_option maxHeartbeats 4000000 in
set_option maxRecDepth 100000 in
theorem c_X0_isThinInside (l : Launch) (ch x : Nat) (S : sS) (a1 a2 a3 : Nat → Int32) (b : Nat) (σ : gS) (sz : Nat) (hCh : ChAt σ ch a1 a2 a3) (hSt : StAt σ x S) (hb0 : b < 96) (hKs : sK S ≤ 8) : gM l yX0_isThinInside wsX0_isThinInside ({ frames := 3, cells := 0, slots := 0, locals := 64 } : Room) 0 0 [.ref ch, .ref x, .int (nI b)] σ sz (gi (bI (thinB S a1 b)) σ sz) := by
  refine gM_of (cc := cX0_isThinInside) (maxL := 3) (ret := (some .boolean)) (by decide) rfl (Nat.le_of_ble_eq_true rfl) ?_
  intro D ka lo hL hlo p e s m below meth c hx hb hr hts hown hml hlk hnm hK H locs ls hz hP hS hl
  have hl : lv_has ls 3 [(0, .ref ch), (1, .ref x), (2, .int (nI b))] := hl
  have hown : s.vm.findClass RX0 = some m.cls := hown
  refine lv_aload_n hx hb dX0_isThinInside_0 rfl (lv_at hl 1 rfl) ?_
  refine lv_iload_n hx hb dX0_isThinInside_1 rfl (lv_at hl 2 rfl) ?_
  refine g_runV (As := [.int (nI b)]) (rest := []) (own := RX0) (C := RX4) (T := TX4) (N := 13) 1 hx hb hml hown hts hK hz hP hL hS hlo hl.1 (c_X4_soloAt l x S b σ sz hSt (by omega)) gX0_isThinInside_X4_soloAt rfl rfl rfl (by decide +kernel) ⟨Nat.le_of_ble_eq_true rfl, Nat.le_of_ble_eq_true rfl⟩ hSt.c0 rfl rfl rfl (Nat.le_of_ble_eq_true rfl) dX0_isThinInside_2 ⟨Nat.le_of_ble_eq_true rfl, Nat.le_of_ble_eq_true rfl⟩ (g_ki0 (fun H locs hz hP hL hS => ?_))
  rcases hso : soloF S b with _ | so
  · refine g_top (y := (-5)) rfl ?_
    refine lv_bipush (v := (-5)) hx hb dX0_isThinInside_5 (by decide) ?_
    refine lv_icmp_ne (tgt := 38) hx hb dX0_isThinInside_7 (by decide) (fun c7 => absurd rfl c7) (fun c7 => ?_)
    refine lv_aload_n hx hb dX0_isThinInside_10 rfl (lv_at hl 1 rfl) ?_
    refine lv_iload_n hx hb dX0_isThinInside_11 rfl (lv_at hl 2 rfl) ?_
    refine g_runV (As := [.int (nI b)]) (rest := []) (own := RX0) (C := RX4) (T := TX4) (N := 13) 1 hx hb hml hown hts hK hz hP hL hS hlo hl.1 (c_X4_firstOfSyllable l x S b σ sz hSt (by omega)) gX0_isThinInside_X4_firstOfSyllable rfl rfl rfl (by decide +kernel) ⟨Nat.le_of_ble_eq_true rfl, Nat.le_of_ble_eq_true rfl⟩ hSt.c0 rfl rfl rfl (Nat.le_of_ble_eq_true rfl) dX0_isThinInside_12 ⟨Nat.le_of_ble_eq_true rfl, Nat.le_of_ble_eq_true rfl⟩ (g_ki0 (fun H locs hz hP hL hS => ?_))
    refine lv_iload_n hx hb dX0_isThinInside_15 rfl (lv_at hl 2 rfl) ?_
    refine lv_icmp_eq (tgt := 38) hx hb dX0_isThinInside_16 (by decide) (fun c16 => ?_) (fun c16 => ?_)
    · refine lv_iconst (v := (nI 0)) hx hb dX0_isThinInside_38 (by decide) ?_
      exact g_zret (z := sz) hx hb hr hlk hz hP hL hS rfl dX0_isThinInside_39 (gi_i (by simp [thinB, bI, nI_0, show nI 1 = (1 : Int32) from rfl, hso, c16]) rfl)
    · refine lv_aload_n hx hb dX0_isThinInside_19 rfl (lv_at hl 0 rfl) ?_
      refine g_get (C := RX0) (T := TX0) (N := 3) hx hb hts hown hK hP hCh.c0 nX0_isThinInside_X0 rfl 0 (by decide) (by decide +kernel) rfl (v := .ref (ch + 1)) rfl dX0_isThinInside_20 ?_
      refine lv_iload_n hx hb dX0_isThinInside_23 rfl (lv_at hl 2 rfl) ?_
      refine g_runV (As := [.int (nI b)]) (rest := []) (own := RX0) (C := RX2) (T := TX2) (N := 1) 1 hx hb hml hown hts hK hz hP hL hS hlo hl.1 (c_X2_at l (ch + 1) 96 b a1 σ sz ⟨hCh.c1, hCh.c2⟩ (by omega) (by omega)) gX0_isThinInside_X2_at rfl rfl rfl (by decide +kernel) ⟨Nat.le_of_ble_eq_true rfl, Nat.le_of_ble_eq_true rfl⟩ hCh.c1 rfl rfl rfl (Nat.le_of_ble_eq_true rfl) dX0_isThinInside_24 ⟨Nat.le_of_ble_eq_true rfl, Nat.le_of_ble_eq_true rfl⟩ (g_ki0 (fun H locs hz hP hL hS => ?_))
      refine g_runS (As := [.int (a1 b)]) (rest := []) (own := RX0) 1 hx hb hml hown hts hK hz hP hL hS hlo hl.1 (c_J6_bitCount_0f7a4 l ((a1 b)) σ sz) gX0_isThinInside_J6_bitCount_0f7a4 rfl rfl rfl (by decide +kernel) ⟨Nat.le_of_ble_eq_true rfl, Nat.le_of_ble_eq_true rfl⟩ rfl rfl (Nat.le_of_ble_eq_true rfl) dX0_isThinInside_27 ⟨Nat.le_of_ble_eq_true rfl, Nat.le_of_ble_eq_true rfl⟩ (g_ki0 (fun H locs hz hP hL hS => ?_))
      refine lv_iconst (v := (nI 2)) hx hb dX0_isThinInside_30 (by decide) ?_
      refine lv_icmp_ge (tgt := 38) hx hb dX0_isThinInside_31 (by decide) (fun c31 => ?_) (fun c31 => ?_)
      · refine lv_iconst (v := (nI 0)) hx hb dX0_isThinInside_38 (by decide) ?_
        exact g_zret (z := sz) hx hb hr hlk hz hP hL hS rfl dX0_isThinInside_39 (gi_i (by simp [thinB, bI, nI_0, show nI 1 = (1 : Int32) from rfl, hso, c16, Int32.not_lt.mpr c31]) rfl)
      · refine lv_iconst (v := (nI 1)) hx hb dX0_isThinInside_34 (by decide) ?_
        refine lv_goto (tgt := 39) hx hb dX0_isThinInside_35 (by decide) ?_
        exact g_zret (z := sz) hx hb hr hlk hz hP hL hS rfl dX0_isThinInside_39 (gi_i (by simp [thinB, bI, nI_0, show nI 1 = (1 : Int32) from rfl, hso, c16, Int32.not_le.mp c31]) rfl)
  · refine g_top (y := (nI so)) rfl ?_
    have hso2 := soloF_lt hso
    refine lv_bipush (v := (-5)) hx hb dX0_isThinInside_5 (by decide) ?_
    refine lv_icmp_ne (tgt := 38) hx hb dX0_isThinInside_7 (by decide) (fun c7 => ?_) (fun c7 => absurd c7 (g_ne5 (by omega)))
    refine lv_iconst (v := (nI 0)) hx hb dX0_isThinInside_38 (by decide) ?_
    exact g_zret (z := sz) hx hb hr hlk hz hP hL hS rfl dX0_isThinInside_39 (gi_i (by simp [thinB, bI, nI_0, show nI 1 = (1 : Int32) from rfl, hso]) rfl)

theorem nX0_faultsAt_X0 : ∀ w ∈ wsX00, w ∈ wsX0_faultsAt := by decide +kernel
set_option maxHeartbeats 4000000 in
set_option maxRecDepth 100000 in
theorem c_X0_faultsAt (l : Launch) (ch x : Nat) (S : sS) (a1 a2 a3 : Nat → Int32) (b q : Nat) (σ : gS) (sz : Nat) (hCh : ChAt σ ch a1 a2 a3) (hSt : StAt σ x S) (hb0 : b < 96) (hq0 : q < 4) (hKs : sK S ≤ 8) : gM l yX0_faultsAt wsX0_faultsAt ({ frames := 4, cells := 0, slots := 0, locals := 86 } : Room) 0 0 [.ref ch, .ref x, .int (nI b), .int (nI q)] σ sz (gi (fltI S a1 a2 a3 b q) σ sz) := by
  refine gM_of (cc := cX0_faultsAt) (maxL := 4) (ret := (some .int)) (by decide) rfl (Nat.le_of_ble_eq_true rfl) ?_
  intro D ka lo hL hlo p e s m below meth c hx hb hr hts hown hml hlk hnm hK H locs ls hz hP hS hl
  have hl : lv_has ls 4 [(0, .ref ch), (1, .ref x), (2, .int (nI b)), (3, .int (nI q))] := hl
  have hown : s.vm.findClass RX0 = some m.cls := hown
  refine lv_iload_n hx hb dX0_faultsAt_0 rfl (lv_at hl 3 rfl) ?_
  rcases (show q = 0 ∨ q = 1 ∨ q = 2 ∨ q = 3 by omega) with hq | hq | hq | hq
  · refine g_top (y := nI 0) (by rw [hq]) ?_
    refine lv_tableIn (tgt := 32) (off := 31) hx hb dX0_faultsAt_1 (by decide) (by decide) (by decide) (by decide) ?_
    refine lv_aload_n hx hb dX0_faultsAt_32 rfl (lv_at hl 1 rfl) ?_
    refine lv_iload_n hx hb dX0_faultsAt_33 rfl (lv_at hl 2 rfl) ?_
    refine g_runV (As := [.int (nI b)]) (rest := []) (own := RX0) (C := RX4) (T := TX4) (N := 13) 1 hx hb hml hown hts hK hz hP hL hS hlo hl.1 (c_X4_isRest l x S b σ sz hSt (by omega)) gX0_faultsAt_X4_isRest rfl rfl rfl (by decide +kernel) ⟨Nat.le_of_ble_eq_true rfl, Nat.le_of_ble_eq_true rfl⟩ hSt.c0 rfl rfl rfl (Nat.le_of_ble_eq_true rfl) dX0_faultsAt_34 ⟨Nat.le_of_ble_eq_true rfl, Nat.le_of_ble_eq_true rfl⟩ (g_ki0 (fun H locs hz hP hL hS => ?_))
    refine g_ifb_ne (tgt := 55) hx hb dX0_faultsAt_37 (by decide) (fun c37 => ?_) (fun c37 => ?_)
    · refine lv_iconst (v := (nI 0)) hx hb dX0_faultsAt_55 (by decide) ?_
      exact g_iret (z := sz) hx hb hr hlk hz hP hL hS dX0_faultsAt_56 (gi_i (by simp [fltI, hq, c37]) rfl)
    · refine lv_aload_n hx hb dX0_faultsAt_40 rfl (lv_at hl 0 rfl) ?_
      refine g_get (C := RX0) (T := TX0) (N := 3) hx hb hts hown hK hP hCh.c0 nX0_faultsAt_X0 rfl 0 (by decide) (by decide +kernel) rfl (v := .ref (ch + 1)) rfl dX0_faultsAt_41 ?_
      refine lv_iload_n hx hb dX0_faultsAt_44 rfl (lv_at hl 2 rfl) ?_
      refine g_runV (As := [.int (nI b)]) (rest := []) (own := RX0) (C := RX2) (T := TX2) (N := 1) 1 hx hb hml hown hts hK hz hP hL hS hlo hl.1 (c_X2_at l (ch + 1) 96 b a1 σ sz ⟨hCh.c1, hCh.c2⟩ (by omega) (by omega)) gX0_faultsAt_X2_at rfl rfl rfl (by decide +kernel) ⟨Nat.le_of_ble_eq_true rfl, Nat.le_of_ble_eq_true rfl⟩ hCh.c1 rfl rfl rfl (Nat.le_of_ble_eq_true rfl) dX0_faultsAt_45 ⟨Nat.le_of_ble_eq_true rfl, Nat.le_of_ble_eq_true rfl⟩ (g_ki0 (fun H locs hz hP hL hS => ?_))
      refine lv_if_ne (tgt := 55) hx hb dX0_faultsAt_48 (by decide) (fun c48 => ?_) (fun c48 => ?_)
      · refine lv_iconst (v := (nI 0)) hx hb dX0_faultsAt_55 (by decide) ?_
        exact g_iret (z := sz) hx hb hr hlk hz hP hL hS dX0_faultsAt_56 (gi_i (by simp [fltI, hq, c37, c48]) rfl)
      · refine lv_iconst (v := (nI 1)) hx hb dX0_faultsAt_51 (by decide) ?_
        refine lv_goto (tgt := 56) hx hb dX0_faultsAt_52 (by decide) ?_
        exact g_iret (z := sz) hx hb hr hlk hz hP hL hS dX0_faultsAt_56 (gi_i (by simp [fltI, hq, c37, c48]) rfl)
  · refine g_top (y := nI 1) (by rw [hq]) ?_
    refine lv_tableIn (tgt := 57) (off := 56) hx hb dX0_faultsAt_1 (by decide) (by decide) (by decide) (by decide) ?_
    refine lv_aload_n hx hb dX0_faultsAt_57 rfl (lv_at hl 0 rfl) ?_
    refine g_get (C := RX0) (T := TX0) (N := 3) hx hb hts hown hK hP hCh.c0 nX0_faultsAt_X0 rfl 2 (by decide) (by decide +kernel) rfl (v := .ref (ch + 5)) rfl dX0_faultsAt_58 ?_
    refine lv_iload_n hx hb dX0_faultsAt_61 rfl (lv_at hl 2 rfl) ?_
    refine g_runV (As := [.int (nI b)]) (rest := []) (own := RX0) (C := RX2) (T := TX2) (N := 1) 1 hx hb hml hown hts hK hz hP hL hS hlo hl.1 (c_X2_at l (ch + 5) 96 b a3 σ sz ⟨hCh.c5, hCh.c6⟩ (by omega) (by omega)) gX0_faultsAt_X2_at rfl rfl rfl (by decide +kernel) ⟨Nat.le_of_ble_eq_true rfl, Nat.le_of_ble_eq_true rfl⟩ hCh.c5 rfl rfl rfl (Nat.le_of_ble_eq_true rfl) dX0_faultsAt_62 ⟨Nat.le_of_ble_eq_true rfl, Nat.le_of_ble_eq_true rfl⟩ (g_ki0 (fun H locs hz hP hL hS => ?_))
    exact g_iret (z := sz) hx hb hr hlk hz hP hL hS dX0_faultsAt_65 (gi_i (by simp [fltI, hq]) rfl)
  · refine g_top (y := nI 2) (by rw [hq]) ?_
    refine lv_tableIn (tgt := 66) (off := 65) hx hb dX0_faultsAt_1 (by decide) (by decide) (by decide) (by decide) ?_
    refine lv_aload_n hx hb dX0_faultsAt_66 rfl (lv_at hl 0 rfl) ?_
    refine lv_aload_n hx hb dX0_faultsAt_67 rfl (lv_at hl 1 rfl) ?_
    refine lv_iload_n hx hb dX0_faultsAt_68 rfl (lv_at hl 2 rfl) ?_
    refine g_runV (As := [.ref x, .int (nI b)]) (rest := []) (own := RX0) (C := RX0) (T := TX0) (N := 3) 2 hx hb hml hown hts hK hz hP hL hS hlo hl.1 (c_X0_isThinInside l ch x S a1 a2 a3 b σ sz hCh hSt (by omega) (by omega)) gX0_faultsAt_X0_isThinInside rfl rfl rfl (by decide +kernel) ⟨Nat.le_of_ble_eq_true rfl, Nat.le_of_ble_eq_true rfl⟩ hCh.c0 rfl rfl rfl (Nat.le_of_ble_eq_true rfl) dX0_faultsAt_69 ⟨Nat.le_of_ble_eq_true rfl, Nat.le_of_ble_eq_true rfl⟩ (g_ki0 (fun H locs hz hP hL hS => ?_))
    refine g_ifb_eq (tgt := 86) hx hb dX0_faultsAt_72 (by decide) (fun c72 => ?_) (fun c72 => ?_)
    · refine lv_iconst (v := (nI 0)) hx hb dX0_faultsAt_86 (by decide) ?_
      exact g_iret (z := sz) hx hb hr hlk hz hP hL hS dX0_faultsAt_87 (gi_i (by simp [fltI, hq, c72]) rfl)
    · refine lv_aload_n hx hb dX0_faultsAt_75 rfl (lv_at hl 0 rfl) ?_
      refine g_get (C := RX0) (T := TX0) (N := 3) hx hb hts hown hK hP hCh.c0 nX0_faultsAt_X0 rfl 1 (by decide) (by decide +kernel) rfl (v := .ref (ch + 3)) rfl dX0_faultsAt_76 ?_
      refine lv_iload_n hx hb dX0_faultsAt_79 rfl (lv_at hl 2 rfl) ?_
      refine g_runV (As := [.int (nI b)]) (rest := []) (own := RX0) (C := RX2) (T := TX2) (N := 1) 1 hx hb hml hown hts hK hz hP hL hS hlo hl.1 (c_X2_at l (ch + 3) 96 b a2 σ sz ⟨hCh.c3, hCh.c4⟩ (by omega) (by omega)) gX0_faultsAt_X2_at rfl rfl rfl (by decide +kernel) ⟨Nat.le_of_ble_eq_true rfl, Nat.le_of_ble_eq_true rfl⟩ hCh.c3 rfl rfl rfl (Nat.le_of_ble_eq_true rfl) dX0_faultsAt_80 ⟨Nat.le_of_ble_eq_true rfl, Nat.le_of_ble_eq_true rfl⟩ (g_ki0 (fun H locs hz hP hL hS => ?_))
      refine lv_goto (tgt := 87) hx hb dX0_faultsAt_83 (by decide) ?_
      exact g_iret (z := sz) hx hb hr hlk hz hP hL hS dX0_faultsAt_87 (gi_i (by simp [fltI, hq, c72]) rfl)
  · refine g_top (y := nI 3) (by rw [hq]) ?_
    refine lv_tableIn (tgt := 88) (off := 87) hx hb dX0_faultsAt_1 (by decide) (by decide) (by decide) (by decide) ?_
    refine lv_aload_n hx hb dX0_faultsAt_88 rfl (lv_at hl 1 rfl) ?_
    refine lv_iload_n hx hb dX0_faultsAt_89 rfl (lv_at hl 2 rfl) ?_
    refine g_runV (As := [.int (nI b)]) (rest := []) (own := RX0) (C := RX4) (T := TX4) (N := 13) 1 hx hb hml hown hts hK hz hP hL hS hlo hl.1 (c_X4_soloAt l x S b σ sz hSt (by omega)) gX0_faultsAt_X4_soloAt rfl rfl rfl (by decide +kernel) ⟨Nat.le_of_ble_eq_true rfl, Nat.le_of_ble_eq_true rfl⟩ hSt.c0 rfl rfl rfl (Nat.le_of_ble_eq_true rfl) dX0_faultsAt_90 ⟨Nat.le_of_ble_eq_true rfl, Nat.le_of_ble_eq_true rfl⟩ (g_ki0 (fun H locs hz hP hL hS => ?_))
    rcases hso : soloF S b with _ | so
    · refine g_top (y := (-5)) rfl ?_
      refine lv_bipush (v := (-5)) hx hb dX0_faultsAt_93 (by decide) ?_
      refine lv_icmp_eq (tgt := 109) hx hb dX0_faultsAt_95 (by decide) (fun c95 => ?_) (fun c95 => absurd rfl c95)
      refine lv_iconst (v := (nI 0)) hx hb dX0_faultsAt_109 (by decide) ?_
      exact g_iret (z := sz) hx hb hr hlk hz hP hL hS dX0_faultsAt_110 (gi_i (by simp [fltI, hq, hso]) rfl)
    · refine g_top (y := (nI so)) rfl ?_
      have hso2 := soloF_lt hso
      refine lv_bipush (v := (-5)) hx hb dX0_faultsAt_93 (by decide) ?_
      refine lv_icmp_eq (tgt := 109) hx hb dX0_faultsAt_95 (by decide) (fun c95 => absurd c95 (g_ne5 (by omega))) (fun c95 => ?_)
      refine lv_aload_n hx hb dX0_faultsAt_98 rfl (lv_at hl 0 rfl) ?_
      refine g_get (C := RX0) (T := TX0) (N := 3) hx hb hts hown hK hP hCh.c0 nX0_faultsAt_X0 rfl 1 (by decide) (by decide +kernel) rfl (v := .ref (ch + 3)) rfl dX0_faultsAt_99 ?_
      refine lv_iload_n hx hb dX0_faultsAt_102 rfl (lv_at hl 2 rfl) ?_
      refine g_runV (As := [.int (nI b)]) (rest := []) (own := RX0) (C := RX2) (T := TX2) (N := 1) 1 hx hb hml hown hts hK hz hP hL hS hlo hl.1 (c_X2_at l (ch + 3) 96 b a2 σ sz ⟨hCh.c3, hCh.c4⟩ (by omega) (by omega)) gX0_faultsAt_X2_at rfl rfl rfl (by decide +kernel) ⟨Nat.le_of_ble_eq_true rfl, Nat.le_of_ble_eq_true rfl⟩ hCh.c3 rfl rfl rfl (Nat.le_of_ble_eq_true rfl) dX0_faultsAt_103 ⟨Nat.le_of_ble_eq_true rfl, Nat.le_of_ble_eq_true rfl⟩ (g_ki0 (fun H locs hz hP hL hS => ?_))
      refine lv_goto (tgt := 110) hx hb dX0_faultsAt_106 (by decide) ?_
      exact g_iret (z := sz) hx hb hr hlk hz hP hL hS dX0_faultsAt_110 (gi_i (by simp [fltI, hq, hso]) rfl)

theorem nX0_countSilentWithout_X0 : ∀ w ∈ wsX00, w ∈ wsX0_countSilentWithout := by decide +kernel
theorem nX0_countSilentWithout_X4 : ∀ w ∈ wsX40, w ∈ wsX0_countSilentWithout := by decide +kernel
set_option maxHeartbeats 4000000 in
set_option maxRecDepth 100000 in
theorem c_X0_countSilentWithout (l : Launch) (ch x : Nat) (S : sS) (a1 a2 a3 : Nat → Int32) (i : Nat) (σ : gS) (sz : Nat) (hCh : ChAt σ ch a1 a2 a3) (hSt : StAt σ x S) (hB : sB S ≤ 96) : gM l yX0_countSilentWithout wsX0_countSilentWithout ({ frames := 2, cells := 0, slots := 0, locals := 42 } : Room) 0 0 [.ref ch, .ref x, .int (nI i)] σ sz (gi (nI (cntF (silB S a1 i) (sB S))) σ sz) := by
  refine gM_of (cc := cX0_countSilentWithout) (maxL := 5) (ret := (some .int)) (by decide) rfl (Nat.le_of_ble_eq_true rfl) ?_
  intro D ka lo hL hlo p e s m below meth c hx hb hr hts hown hml hlk hnm hK H locs ls hz hP hS hl
  have hl : lv_has ls 5 [(0, .ref ch), (1, .ref x), (2, .int (nI i))] := hl
  have hown : s.vm.findClass RX0 = some m.cls := hown
  refine lv_iconst (v := (nI 0)) hx hb dX0_countSilentWithout_0 (by decide) ?_
  refine lv_istore_n (lv' := [(3, .int (nI 0)), (0, .ref ch), (1, .ref x), (2, .int (nI i))]) hx hb dX0_countSilentWithout_1 rfl hl (by decide) rfl (fun ls hl => ?_)
  refine lv_iconst (v := (nI 0)) hx hb dX0_countSilentWithout_2 (by decide) ?_
  refine lv_istore (lv' := [(4, .int (nI 0)), (3, .int (nI 0)), (0, .ref ch), (1, .ref x), (2, .int (nI i))]) hx hb dX0_countSilentWithout_3 hl (by decide) rfl (fun ls hl => ?_)
  have lp : ∀ (fu_lp : Nat) (k : Nat), (k ≤ sB S) → (sB S - k < fu_lp) → ∀ (H : Heap) (locs : List Loc) (ls : Array Slot), H.size = sz → gH D ka σ H → va_S (gA lo) s.heap H locs → lv_has ls 5 [(0, .ref ch), (1, .ref x), (2, .int (nI i)), (3, .int (nI (cntF (silB S a1 i) k))), (4, .int (nI k))] → W p l e ({ frames := 2, cells := 0, slots := 0, locals := 42 } : Room) s m ([.ref ch, .ref x, .int (nI i)] : List Value).toArray below meth c H locs (0) (0) (MQ below (gQ D ka lo (gi (nI (cntF (silB S a1 i) (sB S))) σ sz)) ([.ref ch, .ref x, .int (nI i)] : List Value).toArray s 0 0 (gA lo)) (F0 m 5 ls []) := by
    intro fu_lp
    induction fu_lp with
    | zero => intro k hk hm_lp; exact absurd hm_lp (Nat.not_lt_zero _)
    | succ fu_lp ih_lp =>
      intro k hk hm_lp H locs ls hz hP hS hl
      refine lv_iload hx hb dX0_countSilentWithout_5 (lv_at hl 4 rfl) ?_
      refine lv_aload_n hx hb dX0_countSilentWithout_7 rfl (lv_at hl 1 rfl) ?_
      refine g_get (C := RX4) (T := TX4) (N := 13) hx hb hts hown hK hP hSt.c0 nX0_countSilentWithout_X4 rfl 0 (by decide) (by decide +kernel) rfl (v := .int (nI (sB S))) rfl dX0_countSilentWithout_8 ?_
      refine g_icmp_ge (tgt := 51) (a := k) (b := sB S) hx hb (by omega) (by omega) dX0_countSilentWithout_11 (by decide) (fun c11 => ?_) (fun c11 => ?_)
      · refine lv_iload_n hx hb dX0_countSilentWithout_51 rfl (lv_at hl 3 rfl) ?_
        exact g_iret (z := sz) hx hb hr hlk hz hP hL hS dX0_countSilentWithout_52 (gi_i (by rw [show k = sB S by omega]) rfl)
      · refine lv_aload_n hx hb dX0_countSilentWithout_14 rfl (lv_at hl 1 rfl) ?_
        refine lv_iload hx hb dX0_countSilentWithout_15 (lv_at hl 4 rfl) ?_
        refine g_runV (As := [.int (nI k)]) (rest := []) (own := RX0) (C := RX4) (T := TX4) (N := 13) 1 hx hb hml hown hts hK hz hP hL hS hlo hl.1 (c_X4_isRest l x S k σ sz hSt (by omega)) gX0_countSilentWithout_X4_isRest rfl rfl rfl (by decide +kernel) ⟨Nat.le_of_ble_eq_true rfl, Nat.le_of_ble_eq_true rfl⟩ hSt.c0 rfl rfl rfl (Nat.le_of_ble_eq_true rfl) dX0_countSilentWithout_17 ⟨Nat.le_of_ble_eq_true rfl, Nat.le_of_ble_eq_true rfl⟩ (g_ki0 (fun H locs hz hP hL hS => ?_))
        refine g_ifb_ne (tgt := 45) hx hb dX0_countSilentWithout_20 (by decide) (fun c20 => ?_) (fun c20 => ?_)
        · refine lv_iinc (v := (nI (k + 1))) (lv' := [(4, .int (nI (k + 1))), (0, .ref ch), (1, .ref x), (2, .int (nI i)), (3, .int (nI (cntF (silB S a1 i) k)))]) hx hb dX0_countSilentWithout_45 hl (k := 4) rfl (g_inc k 1) (by decide) rfl (fun ls hl => ?_)
          refine lv_goto (tgt := 5) hx hb dX0_countSilentWithout_48 (by decide) ?_
          have e_3 : (nI (cntF (silB S a1 i) k)) = (nI (cntF (silB S a1 i) (k + 1))) := (by rw [cntF_f (p := silB S a1 i) (sil_1 c20)])
          have hl := lv_sub hl (l' := [(0, .ref ch), (1, .ref x), (2, .int (nI i)), (3, .int (nI (cntF (silB S a1 i) k))), (4, .int (nI (k + 1)))]) [1, 2, 3, 4, 0] rfl
          rw [e_3] at hl
          exact ih_lp (k + 1) (by omega) (by omega) H locs ls hz hP hS hl
        · refine lv_aload_n hx hb dX0_countSilentWithout_23 rfl (lv_at hl 0 rfl) ?_
          refine g_get (C := RX0) (T := TX0) (N := 3) hx hb hts hown hK hP hCh.c0 nX0_countSilentWithout_X0 rfl 0 (by decide) (by decide +kernel) rfl (v := .ref (ch + 1)) rfl dX0_countSilentWithout_24 ?_
          refine lv_iload hx hb dX0_countSilentWithout_27 (lv_at hl 4 rfl) ?_
          refine g_runV (As := [.int (nI k)]) (rest := []) (own := RX0) (C := RX2) (T := TX2) (N := 1) 1 hx hb hml hown hts hK hz hP hL hS hlo hl.1 (c_X2_at l (ch + 1) 96 k a1 σ sz ⟨hCh.c1, hCh.c2⟩ (by omega) (by omega)) gX0_countSilentWithout_X2_at rfl rfl rfl (by decide +kernel) ⟨Nat.le_of_ble_eq_true rfl, Nat.le_of_ble_eq_true rfl⟩ hCh.c1 rfl rfl rfl (Nat.le_of_ble_eq_true rfl) dX0_countSilentWithout_29 ⟨Nat.le_of_ble_eq_true rfl, Nat.le_of_ble_eq_true rfl⟩ (g_ki0 (fun H locs hz hP hL hS => ?_))
          refine lv_iload_n hx hb dX0_countSilentWithout_32 rfl (lv_at hl 2 rfl) ?_
          refine g_runSN (As := [.int (nI i)]) (rest := [.int (a1 k)]) (own := RX0) 1 hx hb hml hown hts hK hz hP hL hS hlo hl.1 (c_X7_bit l i σ sz) gX0_countSilentWithout_X7_bit_n58 rfl rfl rfl (by decide +kernel) (by decide +kernel) (by decide +kernel) (by decide +kernel) ⟨Nat.le_of_ble_eq_true rfl, Nat.le_of_ble_eq_true rfl⟩ rfl rfl (Nat.le_of_ble_eq_true rfl) dX0_countSilentWithout_33 ⟨Nat.le_of_ble_eq_true rfl, Nat.le_of_ble_eq_true rfl⟩ (g_ki0 (fun H locs hz hP hL hS => ?_))
          refine lv_iconst (v := (-1)) hx hb dX0_countSilentWithout_36 (by decide) ?_
          refine lv_ixor hx hb dX0_countSilentWithout_37 ?_
          refine lv_iand hx hb dX0_countSilentWithout_38 ?_
          refine lv_if_ne (tgt := 45) hx hb dX0_countSilentWithout_39 (by decide) (fun c39 => ?_) (fun c39 => ?_)
          · refine lv_iinc (v := (nI (k + 1))) (lv' := [(4, .int (nI (k + 1))), (0, .ref ch), (1, .ref x), (2, .int (nI i)), (3, .int (nI (cntF (silB S a1 i) k)))]) hx hb dX0_countSilentWithout_45 hl (k := 4) rfl (g_inc k 1) (by decide) rfl (fun ls hl => ?_)
            refine lv_goto (tgt := 5) hx hb dX0_countSilentWithout_48 (by decide) ?_
            have e_3 : (nI (cntF (silB S a1 i) k)) = (nI (cntF (silB S a1 i) (k + 1))) := (by rw [cntF_f (p := silB S a1 i) (sil_2 c39)])
            have hl := lv_sub hl (l' := [(0, .ref ch), (1, .ref x), (2, .int (nI i)), (3, .int (nI (cntF (silB S a1 i) k))), (4, .int (nI (k + 1)))]) [1, 2, 3, 4, 0] rfl
            rw [e_3] at hl
            exact ih_lp (k + 1) (by omega) (by omega) H locs ls hz hP hS hl
          · refine lv_iinc (v := (nI (cntF (silB S a1 i) k + 1))) (lv' := [(3, .int (nI (cntF (silB S a1 i) k + 1))), (0, .ref ch), (1, .ref x), (2, .int (nI i)), (4, .int (nI k))]) hx hb dX0_countSilentWithout_42 hl (k := 3) rfl (g_inc (cntF (silB S a1 i) k) 1) (by decide) rfl (fun ls hl => ?_)
            refine lv_iinc (v := (nI (k + 1))) (lv' := [(4, .int (nI (k + 1))), (3, .int (nI (cntF (silB S a1 i) k + 1))), (0, .ref ch), (1, .ref x), (2, .int (nI i))]) hx hb dX0_countSilentWithout_45 hl (k := 4) rfl (g_inc k 1) (by decide) rfl (fun ls hl => ?_)
            refine lv_goto (tgt := 5) hx hb dX0_countSilentWithout_48 (by decide) ?_
            have e_3 : (nI (cntF (silB S a1 i) k + 1)) = (nI (cntF (silB S a1 i) (k + 1))) := (by rw [cntF_t (p := silB S a1 i) (sil_3 c20 c39)])
            have hl := lv_sub hl (l' := [(0, .ref ch), (1, .ref x), (2, .int (nI i)), (3, .int (nI (cntF (silB S a1 i) k + 1))), (4, .int (nI (k + 1)))]) [2, 3, 4, 1, 0] rfl
            rw [e_3] at hl
            exact ih_lp (k + 1) (by omega) (by omega) H locs ls hz hP hS hl
  exact lp _ 0 (by omega) (Nat.lt_succ_self _) H locs ls hz hP hS (lv_sub hl [2, 3, 4, 1, 0] rfl)

theorem nX0_countFaults_X4 : ∀ w ∈ wsX40, w ∈ wsX0_countFaults := by decide +kernel
set_option maxHeartbeats 4000000 in
set_option maxRecDepth 100000 in
theorem c_X0_countFaults (l : Launch) (ch x : Nat) (S : sS) (a1 a2 a3 : Nat → Int32) (lw hg : Nat) (σ : gS) (sz : Nat) (hCh : ChAt σ ch a1 a2 a3) (hSt : StAt σ x S) (hB : sB S ≤ 96) (hKs : sK S ≤ 8) (hlh : lw ≤ hg + 1) (hh : hg < 4) : gM l yX0_countFaults wsX0_countFaults ({ frames := 5, cells := 0, slots := 0, locals := 109 } : Room) 0 0 [.ref ch, .ref x, .int (nI lw), .int (nI hg)] σ sz (gi (csuI (fltI S a1 a2 a3) lw (hg + 1 - lw) (sB S)) σ sz) := by
  refine gM_of (cc := cX0_countFaults) (maxL := 7) (ret := (some .int)) (by decide) rfl (Nat.le_of_ble_eq_true rfl) ?_
  intro D ka lo hL hlo p e s m below meth c hx hb hr hts hown hml hlk hnm hK H locs ls hz hP hS hl
  have hl : lv_has ls 7 [(0, .ref ch), (1, .ref x), (2, .int (nI lw)), (3, .int (nI hg))] := hl
  have hown : s.vm.findClass RX0 = some m.cls := hown
  refine lv_iconst (v := (nI 0)) hx hb dX0_countFaults_0 (by decide) ?_
  refine lv_istore (lv' := [(4, .int (nI 0)), (0, .ref ch), (1, .ref x), (2, .int (nI lw)), (3, .int (nI hg))]) hx hb dX0_countFaults_1 hl (by decide) rfl (fun ls hl => ?_)
  refine lv_iconst (v := (nI 0)) hx hb dX0_countFaults_3 (by decide) ?_
  refine lv_istore (lv' := [(5, .int (nI 0)), (4, .int (nI 0)), (0, .ref ch), (1, .ref x), (2, .int (nI lw)), (3, .int (nI hg))]) hx hb dX0_countFaults_4 hl (by decide) rfl (fun ls hl => ?_)
  have lp : ∀ (fu_lp : Nat) (k : Nat), (k ≤ sB S) → (sB S - k < fu_lp) → ∀ (H : Heap) (locs : List Loc) (ls : Array Slot), H.size = sz → gH D ka σ H → va_S (gA lo) s.heap H locs → lv_has ls 7 [(0, .ref ch), (1, .ref x), (2, .int (nI lw)), (3, .int (nI hg)), (4, .int (csuI (fltI S a1 a2 a3) lw (hg + 1 - lw) k)), (5, .int (nI k))] → W p l e ({ frames := 5, cells := 0, slots := 0, locals := 109 } : Room) s m ([.ref ch, .ref x, .int (nI lw), .int (nI hg)] : List Value).toArray below meth c H locs (0) (0) (MQ below (gQ D ka lo (gi (csuI (fltI S a1 a2 a3) lw (hg + 1 - lw) (sB S)) σ sz)) ([.ref ch, .ref x, .int (nI lw), .int (nI hg)] : List Value).toArray s 0 0 (gA lo)) (F0 m 6 ls []) := by
    intro fu_lp
    induction fu_lp with
    | zero => intro k hk hm_lp; exact absurd hm_lp (Nat.not_lt_zero _)
    | succ fu_lp ih_lp =>
      intro k hk hm_lp H locs ls hz hP hS hl
      refine lv_iload hx hb dX0_countFaults_6 (lv_at hl 5 rfl) ?_
      refine lv_aload_n hx hb dX0_countFaults_8 rfl (lv_at hl 1 rfl) ?_
      refine g_get (C := RX4) (T := TX4) (N := 13) hx hb hts hown hK hP hSt.c0 nX0_countFaults_X4 rfl 0 (by decide) (by decide +kernel) rfl (v := .int (nI (sB S))) rfl dX0_countFaults_9 ?_
      refine g_icmp_ge (tgt := 53) (a := k) (b := sB S) hx hb (by omega) (by omega) dX0_countFaults_12 (by decide) (fun c12 => ?_) (fun c12 => ?_)
      · refine lv_iload hx hb dX0_countFaults_53 (lv_at hl 4 rfl) ?_
        exact g_iret (z := sz) hx hb hr hlk hz hP hL hS dX0_countFaults_55 (gi_i (by rw [show k = sB S by omega]) rfl)
      · refine lv_iload_n hx hb dX0_countFaults_15 rfl (lv_at hl 2 rfl) ?_
        refine lv_istore (lv' := [(6, .int (nI lw)), (0, .ref ch), (1, .ref x), (2, .int (nI lw)), (3, .int (nI hg)), (4, .int (csuI (fltI S a1 a2 a3) lw (hg + 1 - lw) k)), (5, .int (nI k))]) hx hb dX0_countFaults_16 hl (by decide) rfl (fun ls hl => ?_)
        have lq : ∀ (fu_lq : Nat) (j : Nat), (lw + j ≤ hg + 1) → (hg + 1 - lw - j < fu_lq) → ∀ (H : Heap) (locs : List Loc) (ls : Array Slot), H.size = sz → gH D ka σ H → va_S (gA lo) s.heap H locs → lv_has ls 7 [(0, .ref ch), (1, .ref x), (2, .int (nI lw)), (3, .int (nI hg)), (4, .int (innI ((fltI S a1 a2 a3) k) lw (csuI (fltI S a1 a2 a3) lw (hg + 1 - lw) k) j)), (5, .int (nI k)), (6, .int (nI (lw + j)))] → W p l e ({ frames := 5, cells := 0, slots := 0, locals := 109 } : Room) s m ([.ref ch, .ref x, .int (nI lw), .int (nI hg)] : List Value).toArray below meth c H locs (0) (0) (MQ below (gQ D ka lo (gi (csuI (fltI S a1 a2 a3) lw (hg + 1 - lw) (sB S)) σ sz)) ([.ref ch, .ref x, .int (nI lw), .int (nI hg)] : List Value).toArray s 0 0 (gA lo)) (F0 m 18 ls []) := by
          intro fu_lq
          induction fu_lq with
          | zero => intro j hj hm_lq; exact absurd hm_lq (Nat.not_lt_zero _)
          | succ fu_lq ih_lq =>
            intro j hj hm_lq H locs ls hz hP hS hl
            refine lv_iload hx hb dX0_countFaults_18 (lv_at hl 6 rfl) ?_
            refine lv_iload_n hx hb dX0_countFaults_20 rfl (lv_at hl 3 rfl) ?_
            refine g_icmp_gt (tgt := 47) (a := lw + j) (b := hg) hx hb (by omega) (by omega) dX0_countFaults_21 (by decide) (fun c21 => ?_) (fun c21 => ?_)
            · refine lv_iinc (v := (nI (k + 1))) (lv' := [(5, .int (nI (k + 1))), (0, .ref ch), (1, .ref x), (2, .int (nI lw)), (3, .int (nI hg)), (4, .int (innI ((fltI S a1 a2 a3) k) lw (csuI (fltI S a1 a2 a3) lw (hg + 1 - lw) k) j)), (6, .int (nI (lw + j)))]) hx hb dX0_countFaults_47 hl (k := 5) rfl (g_inc k 1) (by decide) rfl (fun ls hl => ?_)
              refine lv_goto (tgt := 6) hx hb dX0_countFaults_50 (by decide) ?_
              have e_4 : (innI ((fltI S a1 a2 a3) k) lw (csuI (fltI S a1 a2 a3) lw (hg + 1 - lw) k) j) = (csuI (fltI S a1 a2 a3) lw (hg + 1 - lw) (k + 1)) := (by rw [csuI, show j = hg + 1 - lw by omega])
              have hl := lv_sub hl (l' := [(0, .ref ch), (1, .ref x), (2, .int (nI lw)), (3, .int (nI hg)), (4, .int (innI ((fltI S a1 a2 a3) k) lw (csuI (fltI S a1 a2 a3) lw (hg + 1 - lw) k) j)), (5, .int (nI (k + 1)))]) [1, 2, 3, 4, 5, 0] rfl
              rw [e_4] at hl
              exact ih_lp (k + 1) (by omega) (by omega) H locs ls hz hP hS hl
            · refine lv_iload hx hb dX0_countFaults_24 (lv_at hl 4 rfl) ?_
              refine lv_aload_n hx hb dX0_countFaults_26 rfl (lv_at hl 0 rfl) ?_
              refine lv_aload_n hx hb dX0_countFaults_27 rfl (lv_at hl 1 rfl) ?_
              refine lv_iload hx hb dX0_countFaults_28 (lv_at hl 5 rfl) ?_
              refine lv_iload hx hb dX0_countFaults_30 (lv_at hl 6 rfl) ?_
              refine g_runV (As := [.ref x, .int (nI k), .int (nI (lw + j))]) (rest := [.int (innI ((fltI S a1 a2 a3) k) lw (csuI (fltI S a1 a2 a3) lw (hg + 1 - lw) k) j)]) (own := RX0) (C := RX0) (T := TX0) (N := 3) 3 hx hb hml hown hts hK hz hP hL hS hlo hl.1 (c_X0_faultsAt l ch x S a1 a2 a3 k (lw + j) σ sz hCh hSt (by omega) (by omega) (by omega)) gX0_countFaults_X0_faultsAt rfl rfl rfl (by decide +kernel) ⟨Nat.le_of_ble_eq_true rfl, Nat.le_of_ble_eq_true rfl⟩ hCh.c0 rfl rfl rfl (Nat.le_of_ble_eq_true rfl) dX0_countFaults_32 ⟨Nat.le_of_ble_eq_true rfl, Nat.le_of_ble_eq_true rfl⟩ (g_ki0 (fun H locs hz hP hL hS => ?_))
              refine g_runS (As := [.int (fltI S a1 a2 a3 k (lw + j))]) (rest := [.int (innI ((fltI S a1 a2 a3) k) lw (csuI (fltI S a1 a2 a3) lw (hg + 1 - lw) k) j)]) (own := RX0) 1 hx hb hml hown hts hK hz hP hL hS hlo hl.1 (c_J6_bitCount_0f7a4 l ((fltI S a1 a2 a3 k (lw + j))) σ sz) gX0_countFaults_J6_bitCount_0f7a4 rfl rfl rfl (by decide +kernel) ⟨Nat.le_of_ble_eq_true rfl, Nat.le_of_ble_eq_true rfl⟩ rfl rfl (Nat.le_of_ble_eq_true rfl) dX0_countFaults_35 ⟨Nat.le_of_ble_eq_true rfl, Nat.le_of_ble_eq_true rfl⟩ (g_ki0 (fun H locs hz hP hL hS => ?_))
              refine lv_iadd hx hb dX0_countFaults_38 ?_
              refine lv_istore (lv' := [(4, .int ((innI ((fltI S a1 a2 a3) k) lw (csuI (fltI S a1 a2 a3) lw (hg + 1 - lw) k) j) + (bcI ((fltI S a1 a2 a3 k (lw + j)))))), (0, .ref ch), (1, .ref x), (2, .int (nI lw)), (3, .int (nI hg)), (5, .int (nI k)), (6, .int (nI (lw + j)))]) hx hb dX0_countFaults_39 hl (by decide) rfl (fun ls hl => ?_)
              refine lv_iinc (v := (nI (lw + j + 1))) (lv' := [(6, .int (nI (lw + j + 1))), (4, .int ((innI ((fltI S a1 a2 a3) k) lw (csuI (fltI S a1 a2 a3) lw (hg + 1 - lw) k) j) + (bcI ((fltI S a1 a2 a3 k (lw + j)))))), (0, .ref ch), (1, .ref x), (2, .int (nI lw)), (3, .int (nI hg)), (5, .int (nI k))]) hx hb dX0_countFaults_41 hl (k := 6) rfl (g_inc (lw + j) 1) (by decide) rfl (fun ls hl => ?_)
              refine lv_goto (tgt := 18) hx hb dX0_countFaults_44 (by decide) ?_
              have e_4 : ((innI ((fltI S a1 a2 a3) k) lw (csuI (fltI S a1 a2 a3) lw (hg + 1 - lw) k) j) + (bcI ((fltI S a1 a2 a3 k (lw + j))))) = (innI ((fltI S a1 a2 a3) k) lw (csuI (fltI S a1 a2 a3) lw (hg + 1 - lw) k) (j + 1)) := rfl
              have hl := lv_sub hl (l' := [(0, .ref ch), (1, .ref x), (2, .int (nI lw)), (3, .int (nI hg)), (4, .int ((innI ((fltI S a1 a2 a3) k) lw (csuI (fltI S a1 a2 a3) lw (hg + 1 - lw) k) j) + (bcI ((fltI S a1 a2 a3 k (lw + j)))))), (5, .int (nI k)), (6, .int (nI (lw + j + 1)))]) [2, 3, 4, 5, 1, 6, 0] rfl
              rw [e_4] at hl
              exact ih_lq (j + 1) (by omega) (by omega) H locs ls hz hP hS hl
        exact lq _ 0 (by omega) (Nat.lt_succ_self _) H locs ls hz hP hS (lv_sub hl [1, 2, 3, 4, 5, 6, 0] rfl)
  exact lp _ 0 (by omega) (Nat.lt_succ_self _) H locs ls hz hP hS (lv_sub hl [2, 3, 4, 5, 1, 0] rfl)

set_option maxHeartbeats 4000000 in
set_option maxRecDepth 100000 in
theorem c_X0_memberAt (l : Launch) (y0 : Int32) (p0 : Nat) (σ : gS) (sz : Nat) (hp0 : p0 < 2147483648) : gM l yX0_memberAt wsX0_memberAt ({ frames := 1, cells := 0, slots := 0, locals := 21 } : Room) 0 0 [.int y0, .int (nI p0)] σ sz (gi (memI y0 p0) σ sz) := by
  refine gM_of (cc := cX0_memberAt) (maxL := 4) (ret := (some .int)) (by decide) rfl (Nat.le_of_ble_eq_true rfl) ?_
  intro D ka lo hL hlo p e s m below meth c hx hb hr hts hown hml hlk hnm hK H locs ls hz hP hS hl
  have hl : lv_has ls 4 [(0, .int y0), (1, .int (nI p0))] := hl
  have hown : s.vm.findClass RX0 = some m.cls := hown
  refine lv_iconst (v := (nI 0)) hx hb dX0_memberAt_0 (by decide) ?_
  refine lv_istore_n (lv' := [(2, .int (nI 0)), (0, .int y0), (1, .int (nI p0))]) hx hb dX0_memberAt_1 rfl hl (by decide) rfl (fun ls hl => ?_)
  refine lv_iconst (v := (nI 0)) hx hb dX0_memberAt_2 (by decide) ?_
  refine lv_istore_n (lv' := [(3, .int (nI 0)), (2, .int (nI 0)), (0, .int y0), (1, .int (nI p0))]) hx hb dX0_memberAt_3 rfl hl (by decide) rfl (fun ls hl => ?_)
  have lp : ∀ (fu_lp : Nat) (k : Nat), (k ≤ 12) → (firstK (memP y0 p0) (12 - k) k = firstK (memP y0 p0) 12 0) → (12 - k < fu_lp) → ∀ (H : Heap) (locs : List Loc) (ls : Array Slot), H.size = sz → gH D ka σ H → va_S (gA lo) s.heap H locs → lv_has ls 4 [(0, .int y0), (1, .int (nI p0)), (2, .int (nI (cntF (hasB y0) k))), (3, .int (nI k))] → W p l e ({ frames := 1, cells := 0, slots := 0, locals := 21 } : Room) s m ([.int y0, .int (nI p0)] : List Value).toArray below meth c H locs (0) (0) (MQ below (gQ D ka lo (gi (memI y0 p0) σ sz)) ([.int y0, .int (nI p0)] : List Value).toArray s 0 0 (gA lo)) (F0 m 4 ls []) := by
    intro fu_lp
    induction fu_lp with
    | zero => intro k hk hs hm_lp; exact absurd hm_lp (Nat.not_lt_zero _)
    | succ fu_lp ih_lp =>
      intro k hk hs hm_lp H locs ls hz hP hS hl
      refine lv_iload_n hx hb dX0_memberAt_4 rfl (lv_at hl 3 rfl) ?_
      refine lv_bipush (v := (nI 12)) hx hb dX0_memberAt_5 (by decide) ?_
      refine g_icmp_ge (tgt := 34) (a := k) (b := 12) hx hb (by omega) (by omega) dX0_memberAt_7 (by decide) (fun c7 => ?_) (fun c7 => ?_)
      · refine lv_bipush (v := (-5)) hx hb dX0_memberAt_34 (by decide) ?_
        exact g_iret (z := sz) hx hb hr hlk hz hP hL hS dX0_memberAt_36 (gi_i (by rw [memI, ← hs, fK_e (by omega)]; rfl) rfl)
      · have hcl := cntF_le (hasB y0) k
        refine lv_iload_n hx hb dX0_memberAt_10 rfl (lv_at hl 0 rfl) ?_
        refine lv_iload_n hx hb dX0_memberAt_11 rfl (lv_at hl 3 rfl) ?_
        refine g_runSN (As := [.int y0, .int (nI k)]) (rest := []) (own := RX0) 2 hx hb hml hown hts hK hz hP hL hS hlo hl.1 (c_X7_contains l y0 k σ sz) gX0_memberAt_X7_contains_n96 rfl rfl rfl (by decide +kernel) (by decide +kernel) (by decide +kernel) (by decide +kernel) ⟨Nat.le_of_ble_eq_true rfl, Nat.le_of_ble_eq_true rfl⟩ rfl rfl (Nat.le_of_ble_eq_true rfl) dX0_memberAt_12 ⟨Nat.le_of_ble_eq_true rfl, Nat.le_of_ble_eq_true rfl⟩ (g_ki0 (fun H locs hz hP hL hS => ?_))
        refine g_ifb_eq (tgt := 28) hx hb dX0_memberAt_15 (by decide) (fun c15 => ?_) (fun c15 => ?_)
        · refine lv_iinc (v := (nI (k + 1))) (lv' := [(3, .int (nI (k + 1))), (0, .int y0), (1, .int (nI p0)), (2, .int (nI (cntF (hasB y0) k)))]) hx hb dX0_memberAt_28 hl (k := 3) rfl (g_inc k 1) (by decide) rfl (fun ls hl => ?_)
          refine lv_goto (tgt := 4) hx hb dX0_memberAt_31 (by decide) ?_
          have e_2 : (nI (cntF (hasB y0) k)) = (nI (cntF (hasB y0) (k + 1))) := (by rw [cntF_f c15])
          have hl := lv_sub hl (l' := [(0, .int y0), (1, .int (nI p0)), (2, .int (nI (cntF (hasB y0) k))), (3, .int (nI (k + 1)))]) [1, 2, 3, 0] rfl
          rw [e_2] at hl
          exact ih_lp (k + 1) (by omega) ((fK_s (p := memP y0 p0) (by omega) (by simp [memP, c15])).trans hs) (by omega) H locs ls hz hP hS hl
        · refine lv_iload_n hx hb dX0_memberAt_18 rfl (lv_at hl 2 rfl) ?_
          refine lv_iload_n hx hb dX0_memberAt_19 rfl (lv_at hl 1 rfl) ?_
          refine g_icmp_ne (tgt := 25) (a := cntF (hasB y0) k) (b := p0) hx hb (by omega) (by omega) dX0_memberAt_20 (by decide) (fun c20 => ?_) (fun c20 => ?_)
          · refine lv_iinc (v := (nI (cntF (hasB y0) k + 1))) (lv' := [(2, .int (nI (cntF (hasB y0) k + 1))), (0, .int y0), (1, .int (nI p0)), (3, .int (nI k))]) hx hb dX0_memberAt_25 hl (k := 2) rfl (g_inc (cntF (hasB y0) k) 1) (by decide) rfl (fun ls hl => ?_)
            refine lv_iinc (v := (nI (k + 1))) (lv' := [(3, .int (nI (k + 1))), (2, .int (nI (cntF (hasB y0) k + 1))), (0, .int y0), (1, .int (nI p0))]) hx hb dX0_memberAt_28 hl (k := 3) rfl (g_inc k 1) (by decide) rfl (fun ls hl => ?_)
            refine lv_goto (tgt := 4) hx hb dX0_memberAt_31 (by decide) ?_
            have e_2 : (nI (cntF (hasB y0) k + 1)) = (nI (cntF (hasB y0) (k + 1))) := (by rw [cntF_t c15])
            have hl := lv_sub hl (l' := [(0, .int y0), (1, .int (nI p0)), (2, .int (nI (cntF (hasB y0) k + 1))), (3, .int (nI (k + 1)))]) [2, 3, 1, 0] rfl
            rw [e_2] at hl
            exact ih_lp (k + 1) (by omega) ((fK_s (p := memP y0 p0) (by omega) (by simp [memP, c20])).trans hs) (by omega) H locs ls hz hP hS hl
          · refine lv_iload_n hx hb dX0_memberAt_23 rfl (lv_at hl 3 rfl) ?_
            exact g_iret (z := sz) hx hb hr hlk hz hP hL hS dX0_memberAt_24 (gi_i (by rw [memI, ← hs, fK_y (by omega) (by simp [memP, c15, c20])]; rfl) rfl)
  exact lp _ 0 (by omega) rfl (Nat.lt_succ_self _) H locs ls hz hP hS (lv_sub hl [2, 3, 1, 0] rfl)

set_option maxHeartbeats 4000000 in
set_option maxRecDepth 100000 in
theorem c_X0_tellOne (l : Launch) (q b w0 : Nat) (s0 : Int32) (σ : gS) (sz : Nat) (hq0 : q < 4) (hw0 : w0 < 3) : gM l yX0_tellOne wsX0_tellOne ({ frames := 0, cells := 0, slots := 0, locals := 0 } : Room) 0 0 [.int (nI q), .int (nI b), .int s0, .int (nI w0)] σ sz (gi (telO q b s0 w0) σ sz) := by
  refine gM_of (cc := cX0_tellOne) (maxL := 4) (ret := (some .int)) (by decide) rfl (Nat.le_of_ble_eq_true rfl) ?_
  intro D ka lo hL hlo p e s m below meth c hx hb hr hts hown hml hlk hnm hK H locs ls hz hP hS hl
  have hl : lv_has ls 4 [(0, .int (nI q)), (1, .int (nI b)), (2, .int s0), (3, .int (nI w0))] := hl
  have hown : s.vm.findClass RX0 = some m.cls := hown
  refine lv_iload_n hx hb dX0_tellOne_0 rfl (lv_at hl 3 rfl) ?_
  rcases (show w0 = 0 ∨ w0 = 1 ∨ w0 = 2 by omega) with hw | hw | hw
  · refine g_top (y := nI 0) (by rw [hw]) ?_
    refine lv_lookup (tgt := 28) (off := 27) hx hb dX0_tellOne_1 (by decide) (by decide) (by decide) ?_
    refine lv_iload_n hx hb dX0_tellOne_28 rfl (lv_at hl 0 rfl) ?_
    exact g_iret (z := sz) hx hb hr hlk hz hP hL hS dX0_tellOne_29 (gi_i (by simp [telO, hw]) rfl)
  · refine g_top (y := nI 1) (by rw [hw]) ?_
    refine lv_lookup (tgt := 30) (off := 29) hx hb dX0_tellOne_1 (by decide) (by decide) (by decide) ?_
    refine lv_iload_n hx hb dX0_tellOne_30 rfl (lv_at hl 1 rfl) ?_
    exact g_iret (z := sz) hx hb hr hlk hz hP hL hS dX0_tellOne_31 (gi_i (by simp [telO, hw]) rfl)
  · refine g_top (y := nI 2) (by rw [hw]) ?_
    refine lv_lookup (tgt := 32) (off := 31) hx hb dX0_tellOne_1 (by decide) (by decide) (by decide) ?_
    refine lv_iload_n hx hb dX0_tellOne_32 rfl (lv_at hl 0 rfl) ?_
    refine g_if_ne (tgt := 41) hx hb (by omega) dX0_tellOne_33 (by decide) (fun c33 => ?_) (fun c33 => ?_)
    · refine lv_iload_n hx hb dX0_tellOne_41 rfl (lv_at hl 2 rfl) ?_
      exact g_iret (z := sz) hx hb hr hlk hz hP hL hS dX0_tellOne_42 (gi_i (by simp [telO, hw, Nat.ne_of_gt c33]) rfl)
    · refine lv_bipush (v := (-5)) hx hb dX0_tellOne_36 (by decide) ?_
      refine lv_goto (tgt := 42) hx hb dX0_tellOne_38 (by decide) ?_
      exact g_iret (z := sz) hx hb hr hlk hz hP hL hS dX0_tellOne_42 (gi_i (by simp [telO, hw, c33]) rfl)

theorem nX0_tellFault_X4 : ∀ w ∈ wsX40, w ∈ wsX0_tellFault := by decide +kernel
set_option maxHeartbeats 4000000 in
set_option maxRecDepth 100000 in
theorem c_X0_tellFault (l : Launch) (ch x : Nat) (S : sS) (a1 a2 a3 : Nat → Int32) (k w0 : Nat) (cn : Nat → Nat → Nat) (σ : gS) (sz : Nat) (hCh : ChAt σ ch a1 a2 a3) (hSt : StAt σ x S) (hB : sB S ≤ 96) (hKs : sK S ≤ 8) (hk0 : k < 2147483648) (hw0 : w0 < 3) (hcn : ∀ b q, b < sB S → q < 4 → bcI (fltI S a1 a2 a3 b q) = nI (cn b q)) (hc : ∀ b q, cn b q ≤ 12) : gM l yX0_tellFault wsX0_tellFault ({ frames := 5, cells := 0, slots := 0, locals := 109 } : Room) 0 0 [.ref ch, .ref x, .int (nI k), .int (nI w0)] σ sz (gi (telI S a1 a2 a3 cn k w0) σ sz) := by
  refine gM_of (cc := cX0_tellFault) (maxL := 9) (ret := (some .int)) (by decide) rfl (Nat.le_of_ble_eq_true rfl) ?_
  intro D ka lo hL hlo p e s m below meth c hx hb hr hts hown hml hlk hnm hK H locs ls hz hP hS hl
  have hl : lv_has ls 9 [(0, .ref ch), (1, .ref x), (2, .int (nI k)), (3, .int (nI w0))] := hl
  have hown : s.vm.findClass RX0 = some m.cls := hown
  refine lv_iload_n hx hb dX0_tellFault_0 rfl (lv_at hl 2 rfl) ?_
  refine lv_istore (lv' := [(4, .int (nI k)), (0, .ref ch), (1, .ref x), (2, .int (nI k)), (3, .int (nI w0))]) hx hb dX0_tellFault_1 hl (by decide) rfl (fun ls hl => ?_)
  refine lv_iconst (v := (nI 0)) hx hb dX0_tellFault_3 (by decide) ?_
  refine lv_istore (lv' := [(5, .int (nI 0)), (4, .int (nI k)), (0, .ref ch), (1, .ref x), (2, .int (nI k)), (3, .int (nI w0))]) hx hb dX0_tellFault_4 hl (by decide) rfl (fun ls hl => ?_)
  have lp : ∀ (fu_lp : Nat) (b : Nat) (a : Nat), (b ≤ sB S) → (a < 2147483648) → (telB cn (sB S - b) b a = telB cn (sB S) 0 k) → (sB S - b < fu_lp) → ∀ (H : Heap) (locs : List Loc) (ls : Array Slot), H.size = sz → gH D ka σ H → va_S (gA lo) s.heap H locs → lv_has ls 9 [(0, .ref ch), (1, .ref x), (2, .int (nI k)), (3, .int (nI w0)), (4, .int (nI a)), (5, .int (nI b))] → W p l e ({ frames := 5, cells := 0, slots := 0, locals := 109 } : Room) s m ([.ref ch, .ref x, .int (nI k), .int (nI w0)] : List Value).toArray below meth c H locs (0) (0) (MQ below (gQ D ka lo (gi (telI S a1 a2 a3 cn k w0) σ sz)) ([.ref ch, .ref x, .int (nI k), .int (nI w0)] : List Value).toArray s 0 0 (gA lo)) (F0 m 6 ls []) := by
    intro fu_lp
    induction fu_lp with
    | zero => intro b a hk ha hs hm_lp; exact absurd hm_lp (Nat.not_lt_zero _)
    | succ fu_lp ih_lp =>
      intro b a hk ha hs hm_lp H locs ls hz hP hS hl
      refine lv_iload hx hb dX0_tellFault_6 (lv_at hl 5 rfl) ?_
      refine lv_aload_n hx hb dX0_tellFault_8 rfl (lv_at hl 1 rfl) ?_
      refine g_get (C := RX4) (T := TX4) (N := 13) hx hb hts hown hK hP hSt.c0 nX0_tellFault_X4 rfl 0 (by decide) (by decide +kernel) rfl (v := .int (nI (sB S))) rfl dX0_tellFault_9 ?_
      refine g_icmp_ge (tgt := 84) (a := b) (b := sB S) hx hb (by omega) (by omega) dX0_tellFault_12 (by decide) (fun c12 => ?_) (fun c12 => ?_)
      · refine lv_bipush (v := (-5)) hx hb dX0_tellFault_84 (by decide) ?_
        exact g_iret (z := sz) hx hb hr hlk hz hP hL hS dX0_tellFault_86 (gi_i (by rw [telI, ← hs, show sB S - b = 0 by omega]; rfl) rfl)
      · refine lv_iconst (v := (nI 0)) hx hb dX0_tellFault_15 (by decide) ?_
        refine lv_istore (lv' := [(6, .int (nI 0)), (0, .ref ch), (1, .ref x), (2, .int (nI k)), (3, .int (nI w0)), (4, .int (nI a)), (5, .int (nI b))]) hx hb dX0_tellFault_16 hl (by decide) rfl (fun ls hl => ?_)
        have lq : ∀ (fu_lq : Nat) (q : Nat) (a1q : Nat), (q ≤ 4) → (a1q < 2147483648) → (telQ (cn b) (4 - q) q a1q = telQ (cn b) 4 0 a) → (4 - q < fu_lq) → ∀ (H : Heap) (locs : List Loc) (ls : Array Slot), H.size = sz → gH D ka σ H → va_S (gA lo) s.heap H locs → lv_has ls 9 [(0, .ref ch), (1, .ref x), (2, .int (nI k)), (3, .int (nI w0)), (4, .int (nI a1q)), (5, .int (nI b)), (6, .int (nI q))] → W p l e ({ frames := 5, cells := 0, slots := 0, locals := 109 } : Room) s m ([.ref ch, .ref x, .int (nI k), .int (nI w0)] : List Value).toArray below meth c H locs (0) (0) (MQ below (gQ D ka lo (gi (telI S a1 a2 a3 cn k w0) σ sz)) ([.ref ch, .ref x, .int (nI k), .int (nI w0)] : List Value).toArray s 0 0 (gA lo)) (F0 m 18 ls []) := by
          intro fu_lq
          induction fu_lq with
          | zero => intro q a1q hq ha1 ht hm_lq; exact absurd hm_lq (Nat.not_lt_zero _)
          | succ fu_lq ih_lq =>
            intro q a1q hq ha1 ht hm_lq H locs ls hz hP hS hl
            refine lv_iload hx hb dX0_tellFault_18 (lv_at hl 6 rfl) ?_
            refine lv_iconst (v := (nI 3)) hx hb dX0_tellFault_20 (by decide) ?_
            refine g_icmp_gt (tgt := 78) (a := q) (b := 3) hx hb (by omega) (by omega) dX0_tellFault_21 (by decide) (fun c21 => ?_) (fun c21 => ?_)
            · refine lv_iinc (v := (nI (b + 1))) (lv' := [(5, .int (nI (b + 1))), (0, .ref ch), (1, .ref x), (2, .int (nI k)), (3, .int (nI w0)), (4, .int (nI a1q)), (6, .int (nI q))]) hx hb dX0_tellFault_78 hl (k := 5) rfl (g_inc b 1) (by decide) rfl (fun ls hl => ?_)
              refine lv_goto (tgt := 6) hx hb dX0_tellFault_81 (by decide) ?_
              exact ih_lp (b + 1) a1q (by omega) (by omega) ((telB_n (by omega) (ht.symm.trans (by rw [show 4 - q = 0 by omega]; rfl))).trans hs) (by omega) H locs ls hz hP hS (lv_sub hl [1, 2, 3, 4, 5, 0] rfl)
            · refine lv_aload_n hx hb dX0_tellFault_24 rfl (lv_at hl 0 rfl) ?_
              refine lv_aload_n hx hb dX0_tellFault_25 rfl (lv_at hl 1 rfl) ?_
              refine lv_iload hx hb dX0_tellFault_26 (lv_at hl 5 rfl) ?_
              refine lv_iload hx hb dX0_tellFault_28 (lv_at hl 6 rfl) ?_
              refine g_runV (As := [.ref x, .int (nI b), .int (nI q)]) (rest := []) (own := RX0) (C := RX0) (T := TX0) (N := 3) 3 hx hb hml hown hts hK hz hP hL hS hlo hl.1 (c_X0_faultsAt l ch x S a1 a2 a3 b q σ sz hCh hSt (by omega) (by omega) (by omega)) gX0_tellFault_X0_faultsAt rfl rfl rfl (by decide +kernel) ⟨Nat.le_of_ble_eq_true rfl, Nat.le_of_ble_eq_true rfl⟩ hCh.c0 rfl rfl rfl (Nat.le_of_ble_eq_true rfl) dX0_tellFault_30 ⟨Nat.le_of_ble_eq_true rfl, Nat.le_of_ble_eq_true rfl⟩ (g_ki0 (fun H locs hz hP hL hS => ?_))
              refine lv_istore (lv' := [(7, .int (fltI S a1 a2 a3 b q)), (0, .ref ch), (1, .ref x), (2, .int (nI k)), (3, .int (nI w0)), (4, .int (nI a1q)), (5, .int (nI b)), (6, .int (nI q))]) hx hb dX0_tellFault_33 hl (by decide) rfl (fun ls hl => ?_)
              refine lv_iload hx hb dX0_tellFault_35 (lv_at hl 0 rfl) ?_
              refine g_runS (As := [.int (fltI S a1 a2 a3 b q)]) (rest := []) (own := RX0) 1 hx hb hml hown hts hK hz hP hL hS hlo hl.1 (c_J6_bitCount_0f7a4 l ((fltI S a1 a2 a3 b q)) σ sz) gX0_tellFault_J6_bitCount_0f7a4 rfl rfl rfl (by decide +kernel) ⟨Nat.le_of_ble_eq_true rfl, Nat.le_of_ble_eq_true rfl⟩ rfl rfl (Nat.le_of_ble_eq_true rfl) dX0_tellFault_37 ⟨Nat.le_of_ble_eq_true rfl, Nat.le_of_ble_eq_true rfl⟩ (g_ki0 (fun H locs hz hP hL hS => ?_))
              refine g_top (y := (nI (cn b q))) (hcn b q (by omega) (by omega)) ?_
              have hc12 := hc b q
              refine lv_istore (lv' := [(8, .int (nI (cn b q))), (7, .int (fltI S a1 a2 a3 b q)), (0, .ref ch), (1, .ref x), (2, .int (nI k)), (3, .int (nI w0)), (4, .int (nI a1q)), (5, .int (nI b)), (6, .int (nI q))]) hx hb dX0_tellFault_40 hl (by decide) rfl (fun ls hl => ?_)
              refine lv_iload hx hb dX0_tellFault_42 (lv_at hl 6 rfl) ?_
              refine lv_iload hx hb dX0_tellFault_44 (lv_at hl 0 rfl) ?_
              refine g_icmp_ge (tgt := 65) (a := a1q) (b := cn b q) hx hb (by omega) (by omega) dX0_tellFault_46 (by decide) (fun c46 => ?_) (fun c46 => ?_)
              · refine lv_iload hx hb dX0_tellFault_65 (lv_at hl 6 rfl) ?_
                refine lv_iload hx hb dX0_tellFault_67 (lv_at hl 0 rfl) ?_
                refine lv_isub hx hb dX0_tellFault_69 ?_
                refine g_top (pk_sub (by omega : cn b q ≤ a1q)) ?_
                refine lv_istore (lv' := [(4, .int (nI (a1q - (cn b q)))), (8, .int (nI (cn b q))), (7, .int (fltI S a1 a2 a3 b q)), (0, .ref ch), (1, .ref x), (2, .int (nI k)), (3, .int (nI w0)), (5, .int (nI b)), (6, .int (nI q))]) hx hb dX0_tellFault_70 hl (by decide) rfl (fun ls hl => ?_)
                refine lv_iinc (v := (nI (q + 1))) (lv' := [(6, .int (nI (q + 1))), (4, .int (nI (a1q - (cn b q)))), (8, .int (nI (cn b q))), (7, .int (fltI S a1 a2 a3 b q)), (0, .ref ch), (1, .ref x), (2, .int (nI k)), (3, .int (nI w0)), (5, .int (nI b))]) hx hb dX0_tellFault_72 hl (k := 8) rfl (g_inc q 1) (by decide) rfl (fun ls hl => ?_)
                refine lv_goto (tgt := 18) hx hb dX0_tellFault_75 (by decide) ?_
                exact ih_lq (q + 1) (a1q - cn b q) (by omega) (by omega) ((telQ_n c46 (by omega)).trans ht) (by omega) H locs ls hz hP hS (lv_sub hl [4, 5, 6, 7, 1, 8, 0] rfl)
              · refine lv_iload hx hb dX0_tellFault_49 (lv_at hl 8 rfl) ?_
                refine lv_iload hx hb dX0_tellFault_51 (lv_at hl 7 rfl) ?_
                refine lv_iload hx hb dX0_tellFault_53 (lv_at hl 1 rfl) ?_
                refine lv_iload hx hb dX0_tellFault_55 (lv_at hl 6 rfl) ?_
                refine g_runS (As := [.int (fltI S a1 a2 a3 b q), .int (nI a1q)]) (rest := [.int (nI b), .int (nI q)]) (own := RX0) 2 hx hb hml hown hts hK hz hP hL hS hlo hl.1 (c_X0_memberAt l ((fltI S a1 a2 a3 b q)) a1q σ sz (by omega)) gX0_tellFault_X0_memberAt rfl rfl rfl (by decide +kernel) ⟨Nat.le_of_ble_eq_true rfl, Nat.le_of_ble_eq_true rfl⟩ rfl rfl (Nat.le_of_ble_eq_true rfl) dX0_tellFault_57 ⟨Nat.le_of_ble_eq_true rfl, Nat.le_of_ble_eq_true rfl⟩ (g_ki0 (fun H locs hz hP hL hS => ?_))
                refine lv_iload_n hx hb dX0_tellFault_60 rfl (lv_at hl 5 rfl) ?_
                refine g_runS (As := [.int (nI q), .int (nI b), .int (memI ((fltI S a1 a2 a3 b q)) a1q), .int (nI w0)]) (rest := []) (own := RX0) 4 hx hb hml hown hts hK hz hP hL hS hlo hl.1 (c_X0_tellOne l q b w0 ((memI ((fltI S a1 a2 a3 b q)) a1q)) σ sz (by omega) (by omega)) gX0_tellFault_X0_tellOne rfl rfl rfl (by decide +kernel) ⟨Nat.le_of_ble_eq_true rfl, Nat.le_of_ble_eq_true rfl⟩ rfl rfl (Nat.le_of_ble_eq_true rfl) dX0_tellFault_61 ⟨Nat.le_of_ble_eq_true rfl, Nat.le_of_ble_eq_true rfl⟩ (g_ki0 (fun H locs hz hP hL hS => ?_))
                exact g_iret (z := sz) hx hb hr hlk hz hP hL hS dX0_tellFault_64 (gi_i (by rw [telI, ← hs, telB_y (by omega) ((ht.symm).trans (telQ_y c46 (by omega)))]) rfl)
        exact lq _ 0 a (by omega) ha rfl (Nat.lt_succ_self _) H locs ls hz hP hS (lv_sub hl [1, 2, 3, 4, 5, 6, 0] rfl)
  exact lp _ 0 k (by omega) hk0 rfl (Nat.lt_succ_self _) H locs ls hz hP hS (lv_sub hl [2, 3, 4, 5, 1, 0] rfl)
