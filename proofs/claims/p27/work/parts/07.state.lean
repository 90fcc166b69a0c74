/-! what a state's score, singers, solos and marks say -/
def restB (S : sS) (b : Nat) : Bool := decide (S 0 b = 0)
def presB (S : sS) (i : Nat) : Bool := hasB (S 8 2) i
def markB (S : sS) (i b : Nat) : Bool := hasB (S 2 b) i
def inN (a : Int32) (n : Nat) : Bool := decide (0 ≤ a) && decide (a < nI n)
theorem inN_f1 {a : Int32} {n : Nat} (h : a < 0) : inN a n = false := by simp [inN, Int32.not_le.mpr h]
theorem inN_f2 {a : Int32} {n : Nat} (h : nI n ≤ a) : inN a n = false := by simp [inN, Int32.not_lt.mpr h]
theorem inN_t {a : Int32} {n : Nat} (h : ¬ a < 0) (h2 : ¬ nI n ≤ a) : inN a n = true := by simp [inN, Int32.not_lt.mp h, Int32.not_le.mp h2]
theorem inN_of {a : Int32} {n : Nat} (h : inN a n = true) (hn : n < 2147483648) : ∃ k : Nat, k < n ∧ a = nI k := by
  simp only [inN, Bool.and_eq_true, decide_eq_true_eq] at h
  obtain ⟨k, hk, rfl⟩ := nI_of (Int32.not_lt.mpr h.1)
  exact ⟨k, (nI_ltI hk hn).mp h.2, rfl⟩
theorem inN_nI {k n : Nat} (h : k < n) (hn : n < 2147483648) : inN (nI k) n = true := by
  have h1 : (0 : Int32) ≤ nI k := nI_pos' (by omega)
  simp [inN, h1, (nI_ltI (by omega) hn).mpr h]
def sylF (S : sS) : Nat → Nat
  | 0 => 0
  | b + 1 => if S 0 (b + 1) = nI 1 ∧ restB S b = false then sylF S b else b + 1
theorem sylF_le (S : sS) : ∀ b, sylF S b ≤ b
  | 0 => Nat.le_refl 0
  | b + 1 => by
    rw [sylF]
    split
    · exact Nat.le_trans (sylF_le S b) (Nat.le_succ b)
    · exact Nat.le_refl _
theorem sylF_1 {S : sS} {f : Nat} (h : ¬ S 0 f = nI 1) : sylF S f = f := by
  cases f with
  | zero => rfl
  | succ g => rw [sylF, if_neg (fun q => h q.1)]
theorem sylF_2 {S : sS} {f : Nat} (h0 : 0 < f) (h : restB S (f - 1) = true) : sylF S f = f := by
  obtain ⟨g, rfl⟩ : ∃ g, f = g + 1 := ⟨f - 1, by omega⟩
  rw [Nat.add_sub_cancel] at h
  rw [sylF, if_neg (fun q => by rw [h] at q; cases q.2)]
theorem sylF_s {S : sS} {f : Nat} (h0 : 0 < f) (h1 : S 0 f = nI 1) (h : restB S (f - 1) = false) : sylF S (f - 1) = sylF S f := by
  obtain ⟨g, rfl⟩ : ∃ g, f = g + 1 := ⟨f - 1, by omega⟩
  rw [Nat.add_sub_cancel] at h ⊢
  rw [sylF, if_pos ⟨h1, h⟩]
def firstI (S : sS) (b : Nat) : Int32 := if restB S b = true then -5 else nI (sylF S b)
theorem firstI_r {S : sS} {b : Nat} (h : restB S b = true) : firstI S b = -5 := if_pos h
theorem firstI_n {S : sS} {b : Nat} (h : restB S b = false) : firstI S b = nI (sylF S b) := if_neg (by rw [h]; decide)
def cntF (p : Nat → Bool) : Nat → Nat
  | 0 => 0
  | n + 1 => cntF p n + (if p n = true then 1 else 0)
theorem cntF_t {p : Nat → Bool} {n : Nat} (h : p n = true) : cntF p (n + 1) = cntF p n + 1 := by rw [cntF, if_pos h]
theorem cntF_f {p : Nat → Bool} {n : Nat} (h : p n = false) : cntF p (n + 1) = cntF p n := by rw [cntF, if_neg (by rw [h]; decide)]; rfl
theorem cntF_le (p : Nat → Bool) : ∀ n, cntF p n ≤ n
  | 0 => Nat.le_refl 0
  | n + 1 => by
    have := cntF_le p n
    rw [cntF]
    split <;> omega
def smI (f : Nat → Int32) : Nat → Int32
  | 0 => nI 0
  | n + 1 => smI f n + f n
def firstK (p : Nat → Bool) : Nat → Nat → Option Nat
  | 0, _ => none
  | n + 1, k => if p k = true then some k else firstK p n (k + 1)
theorem fK_s {p : Nat → Bool} {n k : Nat} (h : k < n) (hp : p k = false) : firstK p (n - (k + 1)) (k + 1) = firstK p (n - k) k := by
  rw [show n - k = (n - (k + 1)) + 1 by omega, firstK, if_neg (by rw [hp]; decide)]
theorem fK_e {p : Nat → Bool} {n k : Nat} (h : n ≤ k) : firstK p (n - k) k = none := by rw [show n - k = 0 by omega, firstK]
theorem fK_y {p : Nat → Bool} {n k : Nat} (h : k < n) (hp : p k = true) : firstK p (n - k) k = some k := by
  rw [show n - k = (n - (k + 1)) + 1 by omega, firstK, if_pos hp]
theorem fK_lt {p : Nat → Bool} : ∀ {n k r : Nat}, firstK p n k = some r → k ≤ r ∧ r < k + n ∧ p r = true
  | 0, k, r, h => by simp [firstK] at h
  | n + 1, k, r, h => by
    rw [firstK] at h
    split at h
    · cases h; exact ⟨Nat.le_refl _, by omega, by assumption⟩
    · obtain ⟨h1, h2, h3⟩ := fK_lt h
      exact ⟨by omega, by omega, h3⟩
def oI (o : Option Nat) : Int32 := match o with
  | none => -5
  | some k => nI k
def cov (S : sS) (b k : Nat) : Bool := decide (S 6 k ≤ nI b) && decide (nI b ≤ S 7 k)
theorem cov_1 {S : sS} {b k : Nat} (h : nI b < S 6 k) : cov S b k = false := by simp [cov, Int32.not_le.mpr h]
theorem cov_2 {S : sS} {b k : Nat} (h : S 7 k < nI b) : cov S b k = false := by simp [cov, Int32.not_le.mpr h]
theorem cov_3 {S : sS} {b k : Nat} (h : ¬ nI b < S 6 k) (h2 : ¬ S 7 k < nI b) : cov S b k = true := by simp [cov, Int32.not_lt.mp h, Int32.not_lt.mp h2]
def soloF (S : sS) (b : Nat) : Option Nat := firstK (cov S b) (sK S) 0
theorem soloF_lt {S : sS} {b k : Nat} (h : soloF S b = some k) : k < sK S := by
  have := fK_lt h
  omega
def ovl (S : sS) (fr to k : Nat) : Bool := decide (S 6 k ≤ nI to) && decide (nI fr ≤ S 7 k)
theorem ovl_1 {S : sS} {fr to k : Nat} (h : nI to < S 6 k) : ovl S fr to k = false := by simp [ovl, Int32.not_le.mpr h]
theorem ovl_2 {S : sS} {fr to k : Nat} (h : S 7 k < nI fr) : ovl S fr to k = false := by simp [ovl, Int32.not_le.mpr h]
theorem ovl_3 {S : sS} {fr to k : Nat} (h : ¬ nI to < S 6 k) (h2 : ¬ S 7 k < nI fr) : ovl S fr to k = true := by simp [ovl, Int32.not_lt.mp h, Int32.not_lt.mp h2]
def ovF (S : sS) (fr to : Nat) : Bool := (firstK (ovl S fr to) (sK S) 0).isSome
def soloOk (S : sS) (i b : Nat) : Bool := match soloF S b with
  | none => true
  | some k => decide (S 5 k = nI i)
def toSing (S : sS) (i b : Nat) : Bool := !restB S b && presB S i && soloOk S i b
def doN (S : sS) (i b : Nat) (lf : Int32) : Nat := if toSing S i b = true then (if markB S i b = true then 1 else if lf < S 1 b then 2 else 0) else 3
theorem doN_lt (S : sS) (i b : Nat) (lf : Int32) : doN S i b lf < 4 := by
  unfold doN
  split
  · split
    · decide
    · split <;> decide
  · decide
def lonF (S : sS) : Nat → Nat
  | 0 => 0
  | b + 1 => if restB S b = true then lonF S b else max (lonF S b) (b - sylF S b + 1)
theorem lonF_le (S : sS) : ∀ b, lonF S b ≤ b
  | 0 => Nat.le_refl 0
  | b + 1 => by
    have := lonF_le S b
    have := sylF_le S b
    rw [lonF]
    split <;> omega
theorem g_ne5 {a : Nat} (h : a < 2147483648) : nI a ≠ -5 := fun q => by
  have h1 := nI_pos' h
  rw [q] at h1
  exact absurd h1 (by decide)
theorem g_nmax {a b : Nat} (ha : a < 2147483648) (hb : b < 2147483648) : (if nI a < nI b then nI b else nI a) = nI (max a b) := by
  by_cases h : a < b
  · rw [if_pos ((nI_ltI ha hb).mpr h), Nat.max_eq_right (by omega)]
  · rw [if_neg (fun q => h ((nI_ltI ha hb).mp q)), Nat.max_eq_left (by omega)]
theorem g_nmin {a b : Nat} (ha : a < 2147483648) (hb : b < 2147483648) : (if nI b < nI a then nI b else nI a) = nI (min a b) := by
  by_cases h : b < a
  · rw [if_pos ((nI_ltI hb ha).mpr h), Nat.min_eq_right (by omega)]
  · rw [if_neg (fun q => h ((nI_ltI hb ha).mp q)), Nat.min_eq_left (by omega)]
theorem nX4_hasBeat_X4 : ∀ w ∈ wsX40, w ∈ wsX4_hasBeat := by decide +kernel
set_option maxHeartbeats 4000000 in
set_option maxRecDepth 100000 in
theorem c_X4_hasBeat (l : Launch) (x : Nat) (S : sS) (a : Int32) (σ : gS) (sz : Nat) (hSt : StAt σ x S) : gM l yX4_hasBeat wsX4_hasBeat ({ frames := 0, cells := 0, slots := 0, locals := 0 } : Room) 0 0 [.ref x, .int a] σ sz (gi (bI (inN a (sB S))) σ sz) := by
  refine gM_of (cc := cX4_hasBeat) (maxL := 2) (ret := (some .boolean)) (by decide) rfl (Nat.le_of_ble_eq_true rfl) ?_
  intro D ka lo hL hlo p e s m below meth c hx hb hr hts hown hml hlk hnm hK H locs ls hz hP hS hl
  have hl : lv_has ls 2 [(0, .ref x), (1, .int a)] := hl
  have hown : s.vm.findClass RX4 = some m.cls := hown
  refine lv_iload_n hx hb dX4_hasBeat_0 rfl (lv_at hl 1 rfl) ?_
  refine lv_if_lt (tgt := 16) hx hb dX4_hasBeat_1 (by decide) (fun c1 => ?_) (fun c1 => ?_)
  · refine lv_iconst (v := (nI 0)) hx hb dX4_hasBeat_16 (by decide) ?_
    exact g_zret (z := sz) hx hb hr hlk hz hP hL hS rfl dX4_hasBeat_17 (gi_i (by rw [inN_f1 c1]; rfl) rfl)
  · refine lv_iload_n hx hb dX4_hasBeat_4 rfl (lv_at hl 1 rfl) ?_
    refine lv_aload_n hx hb dX4_hasBeat_5 rfl (lv_at hl 0 rfl) ?_
    refine g_get (C := RX4) (T := TX4) (N := 13) hx hb hts hown hK hP hSt.c0 nX4_hasBeat_X4 rfl 0 (by decide) (by decide +kernel) rfl (v := .int (nI (sB S))) rfl dX4_hasBeat_6 ?_
    refine lv_icmp_ge (tgt := 16) hx hb dX4_hasBeat_9 (by decide) (fun c9 => ?_) (fun c9 => ?_)
    · refine lv_iconst (v := (nI 0)) hx hb dX4_hasBeat_16 (by decide) ?_
      exact g_zret (z := sz) hx hb hr hlk hz hP hL hS rfl dX4_hasBeat_17 (gi_i (by rw [inN_f2 c9]; rfl) rfl)
    · refine lv_iconst (v := (nI 1)) hx hb dX4_hasBeat_12 (by decide) ?_
      refine lv_goto (tgt := 17) hx hb dX4_hasBeat_13 (by decide) ?_
      exact g_zret (z := sz) hx hb hr hlk hz hP hL hS rfl dX4_hasBeat_17 (gi_i (by rw [inN_t c1 c9]; rfl) rfl)

theorem nX4_hasSinger_X4 : ∀ w ∈ wsX40, w ∈ wsX4_hasSinger := by decide +kernel
set_option maxHeartbeats 4000000 in
set_option maxRecDepth 100000 in
theorem c_X4_hasSinger (l : Launch) (x : Nat) (S : sS) (a : Int32) (σ : gS) (sz : Nat) (hSt : StAt σ x S) : gM l yX4_hasSinger wsX4_hasSinger ({ frames := 0, cells := 0, slots := 0, locals := 0 } : Room) 0 0 [.ref x, .int a] σ sz (gi (bI (inN a (sN S))) σ sz) := by
  refine gM_of (cc := cX4_hasSinger) (maxL := 2) (ret := (some .boolean)) (by decide) rfl (Nat.le_of_ble_eq_true rfl) ?_
  intro D ka lo hL hlo p e s m below meth c hx hb hr hts hown hml hlk hnm hK H locs ls hz hP hS hl
  have hl : lv_has ls 2 [(0, .ref x), (1, .int a)] := hl
  have hown : s.vm.findClass RX4 = some m.cls := hown
  refine lv_iload_n hx hb dX4_hasSinger_0 rfl (lv_at hl 1 rfl) ?_
  refine lv_if_lt (tgt := 16) hx hb dX4_hasSinger_1 (by decide) (fun c1 => ?_) (fun c1 => ?_)
  · refine lv_iconst (v := (nI 0)) hx hb dX4_hasSinger_16 (by decide) ?_
    exact g_zret (z := sz) hx hb hr hlk hz hP hL hS rfl dX4_hasSinger_17 (gi_i (by rw [inN_f1 c1]; rfl) rfl)
  · refine lv_iload_n hx hb dX4_hasSinger_4 rfl (lv_at hl 1 rfl) ?_
    refine lv_aload_n hx hb dX4_hasSinger_5 rfl (lv_at hl 0 rfl) ?_
    refine g_get (C := RX4) (T := TX4) (N := 13) hx hb hts hown hK hP hSt.c0 nX4_hasSinger_X4 rfl 1 (by decide) (by decide +kernel) rfl (v := .int (nI (sN S))) rfl dX4_hasSinger_6 ?_
    refine lv_icmp_ge (tgt := 16) hx hb dX4_hasSinger_9 (by decide) (fun c9 => ?_) (fun c9 => ?_)
    · refine lv_iconst (v := (nI 0)) hx hb dX4_hasSinger_16 (by decide) ?_
      exact g_zret (z := sz) hx hb hr hlk hz hP hL hS rfl dX4_hasSinger_17 (gi_i (by rw [inN_f2 c9]; rfl) rfl)
    · refine lv_iconst (v := (nI 1)) hx hb dX4_hasSinger_12 (by decide) ?_
      refine lv_goto (tgt := 17) hx hb dX4_hasSinger_13 (by decide) ?_
      exact g_zret (z := sz) hx hb hr hlk hz hP hL hS rfl dX4_hasSinger_17 (gi_i (by rw [inN_t c1 c9]; rfl) rfl)

theorem nX4_hasSolo_X4 : ∀ w ∈ wsX40, w ∈ wsX4_hasSolo := by decide +kernel
set_option maxHeartbeats 4000000 in
set_option maxRecDepth 100000 in
theorem c_X4_hasSolo (l : Launch) (x : Nat) (S : sS) (a : Int32) (σ : gS) (sz : Nat) (hSt : StAt σ x S) : gM l yX4_hasSolo wsX4_hasSolo ({ frames := 0, cells := 0, slots := 0, locals := 0 } : Room) 0 0 [.ref x, .int a] σ sz (gi (bI (inN a (sK S))) σ sz) := by
  refine gM_of (cc := cX4_hasSolo) (maxL := 2) (ret := (some .boolean)) (by decide) rfl (Nat.le_of_ble_eq_true rfl) ?_
  intro D ka lo hL hlo p e s m below meth c hx hb hr hts hown hml hlk hnm hK H locs ls hz hP hS hl
  have hl : lv_has ls 2 [(0, .ref x), (1, .int a)] := hl
  have hown : s.vm.findClass RX4 = some m.cls := hown
  refine lv_iload_n hx hb dX4_hasSolo_0 rfl (lv_at hl 1 rfl) ?_
  refine lv_if_lt (tgt := 16) hx hb dX4_hasSolo_1 (by decide) (fun c1 => ?_) (fun c1 => ?_)
  · refine lv_iconst (v := (nI 0)) hx hb dX4_hasSolo_16 (by decide) ?_
    exact g_zret (z := sz) hx hb hr hlk hz hP hL hS rfl dX4_hasSolo_17 (gi_i (by rw [inN_f1 c1]; rfl) rfl)
  · refine lv_iload_n hx hb dX4_hasSolo_4 rfl (lv_at hl 1 rfl) ?_
    refine lv_aload_n hx hb dX4_hasSolo_5 rfl (lv_at hl 0 rfl) ?_
    refine g_get (C := RX4) (T := TX4) (N := 13) hx hb hts hown hK hP hSt.c0 nX4_hasSolo_X4 rfl 3 (by decide) (by decide +kernel) rfl (v := .int (nI (sK S))) rfl dX4_hasSolo_6 ?_
    refine lv_icmp_ge (tgt := 16) hx hb dX4_hasSolo_9 (by decide) (fun c9 => ?_) (fun c9 => ?_)
    · refine lv_iconst (v := (nI 0)) hx hb dX4_hasSolo_16 (by decide) ?_
      exact g_zret (z := sz) hx hb hr hlk hz hP hL hS rfl dX4_hasSolo_17 (gi_i (by rw [inN_f2 c9]; rfl) rfl)
    · refine lv_iconst (v := (nI 1)) hx hb dX4_hasSolo_12 (by decide) ?_
      refine lv_goto (tgt := 17) hx hb dX4_hasSolo_13 (by decide) ?_
      exact g_zret (z := sz) hx hb hr hlk hz hP hL hS rfl dX4_hasSolo_17 (gi_i (by rw [inN_t c1 c9]; rfl) rfl)

theorem nX4_isRest_X4 : ∀ w ∈ wsX40, w ∈ wsX4_isRest := by decide +kernel
set_option maxHeartbeats 4000000 in
set_option maxRecDepth 100000 in
theorem c_X4_isRest (l : Launch) (x : Nat) (S : sS) (b : Nat) (σ : gS) (sz : Nat) (hSt : StAt σ x S) (hb0 : b < 96) : gM l yX4_isRest wsX4_isRest ({ frames := 1, cells := 0, slots := 0, locals := 21 } : Room) 0 0 [.ref x, .int (nI b)] σ sz (gi (bI (restB S b)) σ sz) := by
  refine gM_of (cc := cX4_isRest) (maxL := 2) (ret := (some .boolean)) (by decide) rfl (Nat.le_of_ble_eq_true rfl) ?_
  intro D ka lo hL hlo p e s m below meth c hx hb hr hts hown hml hlk hnm hK H locs ls hz hP hS hl
  have hl : lv_has ls 2 [(0, .ref x), (1, .int (nI b))] := hl
  have hown : s.vm.findClass RX4 = some m.cls := hown
  refine lv_aload_n hx hb dX4_isRest_0 rfl (lv_at hl 0 rfl) ?_
  refine g_get (C := RX4) (T := TX4) (N := 13) hx hb hts hown hK hP hSt.c0 nX4_isRest_X4 rfl 5 (by decide) (by decide +kernel) rfl (v := .ref (x + 1)) rfl dX4_isRest_1 ?_
  refine lv_iload_n hx hb dX4_isRest_4 rfl (lv_at hl 1 rfl) ?_
  refine g_runV (As := [.int (nI b)]) (rest := []) (own := RX4) (C := RX2) (T := TX2) (N := 1) 1 hx hb hml hown hts hK hz hP hL hS hlo hl.1 (c_X2_at l (x + 1) 96 b (S 0) σ sz ⟨hSt.c1, hSt.c2⟩ (by omega) (by omega)) gX4_isRest_X2_at rfl rfl rfl (by decide +kernel) ⟨Nat.le_of_ble_eq_true rfl, Nat.le_of_ble_eq_true rfl⟩ hSt.c1 rfl rfl rfl (Nat.le_of_ble_eq_true rfl) dX4_isRest_5 ⟨Nat.le_of_ble_eq_true rfl, Nat.le_of_ble_eq_true rfl⟩ (g_ki0 (fun H locs hz hP hL hS => ?_))
  refine lv_if_ne (tgt := 15) hx hb dX4_isRest_8 (by decide) (fun c8 => ?_) (fun c8 => ?_)
  · refine lv_iconst (v := (nI 0)) hx hb dX4_isRest_15 (by decide) ?_
    exact g_zret (z := sz) hx hb hr hlk hz hP hL hS rfl dX4_isRest_16 (gi_i (by simp [restB, c8, bI, nI_0, show nI 1 = (1 : Int32) from rfl]) rfl)
  · refine lv_iconst (v := (nI 1)) hx hb dX4_isRest_11 (by decide) ?_
    refine lv_goto (tgt := 16) hx hb dX4_isRest_12 (by decide) ?_
    exact g_zret (z := sz) hx hb hr hlk hz hP hL hS rfl dX4_isRest_16 (gi_i (by simp [restB, c8, bI, nI_0, show nI 1 = (1 : Int32) from rfl]) rfl)

theorem nX4_firstOfSyllable_X4 : ∀ w ∈ wsX40, w ∈ wsX4_firstOfSyllable := by decide +kernel
set_option maxHeartbeats 4000000 in
set_option maxRecDepth 100000 in
theorem c_X4_firstOfSyllable (l : Launch) (x : Nat) (S : sS) (b : Nat) (σ : gS) (sz : Nat) (hSt : StAt σ x S) (hb0 : b < 96) : gM l yX4_firstOfSyllable wsX4_firstOfSyllable ({ frames := 2, cells := 0, slots := 0, locals := 42 } : Room) 0 0 [.ref x, .int (nI b)] σ sz (gi (firstI S b) σ sz) := by
  refine gM_of (cc := cX4_firstOfSyllable) (maxL := 3) (ret := (some .int)) (by decide) rfl (Nat.le_of_ble_eq_true rfl) ?_
  intro D ka lo hL hlo p e s m below meth c hx hb hr hts hown hml hlk hnm hK H locs ls hz hP hS hl
  have hl : lv_has ls 3 [(0, .ref x), (1, .int (nI b))] := hl
  have hown : s.vm.findClass RX4 = some m.cls := hown
  refine lv_aload_n hx hb dX4_firstOfSyllable_0 rfl (lv_at hl 0 rfl) ?_
  refine lv_iload_n hx hb dX4_firstOfSyllable_1 rfl (lv_at hl 1 rfl) ?_
  refine g_runV (As := [.int (nI b)]) (rest := []) (own := RX4) (C := RX4) (T := TX4) (N := 13) 1 hx hb hml hown hts hK hz hP hL hS hlo hl.1 (c_X4_isRest l x S b σ sz hSt (by omega)) gX4_firstOfSyllable_X4_isRest rfl rfl rfl (by decide +kernel) ⟨Nat.le_of_ble_eq_true rfl, Nat.le_of_ble_eq_true rfl⟩ hSt.c0 rfl rfl rfl (Nat.le_of_ble_eq_true rfl) dX4_firstOfSyllable_2 ⟨Nat.le_of_ble_eq_true rfl, Nat.le_of_ble_eq_true rfl⟩ (g_ki0 (fun H locs hz hP hL hS => ?_))
  refine g_ifb_eq (tgt := 11) hx hb dX4_firstOfSyllable_5 (by decide) (fun c5 => ?_) (fun c5 => ?_)
  · refine lv_iload_n hx hb dX4_firstOfSyllable_11 rfl (lv_at hl 1 rfl) ?_
    refine lv_istore_n (lv' := [(2, .int (nI b)), (0, .ref x), (1, .int (nI b))]) hx hb dX4_firstOfSyllable_12 rfl hl (by decide) rfl (fun ls hl => ?_)
    have lp : ∀ (fu_lp : Nat) (f : Nat), (f ≤ b) → (sylF S f = sylF S b) → (f < fu_lp) → ∀ (H : Heap) (locs : List Loc) (ls : Array Slot), H.size = sz → gH D ka σ H → va_S (gA lo) s.heap H locs → lv_has ls 3 [(0, .ref x), (1, .int (nI b)), (2, .int (nI f))] → W p l e ({ frames := 2, cells := 0, slots := 0, locals := 42 } : Room) s m ([.ref x, .int (nI b)] : List Value).toArray below meth c H locs (0) (0) (MQ below (gQ D ka lo (gi (firstI S b) σ sz)) ([.ref x, .int (nI b)] : List Value).toArray s 0 0 (gA lo)) (F0 m 13 ls []) := by
      intro fu_lp
      induction fu_lp with
      | zero => intro f hf hs hm_lp; exact absurd hm_lp (Nat.not_lt_zero _)
      | succ fu_lp ih_lp =>
        intro f hf hs hm_lp H locs ls hz hP hS hl
        refine lv_iload_n hx hb dX4_firstOfSyllable_13 rfl (lv_at hl 2 rfl) ?_
        refine g_if_le (tgt := 45) hx hb (by omega) dX4_firstOfSyllable_14 (by decide) (fun c14 => ?_) (fun c14 => ?_)
        · refine lv_iload_n hx hb dX4_firstOfSyllable_45 rfl (lv_at hl 2 rfl) ?_
          exact g_iret (z := sz) hx hb hr hlk hz hP hL hS dX4_firstOfSyllable_46 (gi_i (by subst c14; rw [firstI_n c5, ← hs]; rfl) rfl)
        · refine lv_aload_n hx hb dX4_firstOfSyllable_17 rfl (lv_at hl 0 rfl) ?_
          refine g_get (C := RX4) (T := TX4) (N := 13) hx hb hts hown hK hP hSt.c0 nX4_firstOfSyllable_X4 rfl 5 (by decide) (by decide +kernel) rfl (v := .ref (x + 1)) rfl dX4_firstOfSyllable_18 ?_
          refine lv_iload_n hx hb dX4_firstOfSyllable_21 rfl (lv_at hl 2 rfl) ?_
          refine g_runV (As := [.int (nI f)]) (rest := []) (own := RX4) (C := RX2) (T := TX2) (N := 1) 1 hx hb hml hown hts hK hz hP hL hS hlo hl.1 (c_X2_at l (x + 1) 96 f (S 0) σ sz ⟨hSt.c1, hSt.c2⟩ (by omega) (by omega)) gX4_firstOfSyllable_X2_at rfl rfl rfl (by decide +kernel) ⟨Nat.le_of_ble_eq_true rfl, Nat.le_of_ble_eq_true rfl⟩ hSt.c1 rfl rfl rfl (Nat.le_of_ble_eq_true rfl) dX4_firstOfSyllable_22 ⟨Nat.le_of_ble_eq_true rfl, Nat.le_of_ble_eq_true rfl⟩ (g_ki0 (fun H locs hz hP hL hS => ?_))
          refine lv_iconst (v := (nI 1)) hx hb dX4_firstOfSyllable_25 (by decide) ?_
          refine lv_icmp_ne (tgt := 45) hx hb dX4_firstOfSyllable_26 (by decide) (fun c26 => ?_) (fun c26 => ?_)
          · refine lv_iload_n hx hb dX4_firstOfSyllable_45 rfl (lv_at hl 2 rfl) ?_
            exact g_iret (z := sz) hx hb hr hlk hz hP hL hS dX4_firstOfSyllable_46 (gi_i (by rw [firstI_n c5, ← hs, sylF_1 c26]) rfl)
          · refine lv_aload_n hx hb dX4_firstOfSyllable_29 rfl (lv_at hl 0 rfl) ?_
            refine lv_iload_n hx hb dX4_firstOfSyllable_30 rfl (lv_at hl 2 rfl) ?_
            refine lv_iconst (v := (nI 1)) hx hb dX4_firstOfSyllable_31 (by decide) ?_
            refine lv_isub hx hb dX4_firstOfSyllable_32 ?_
            refine g_top (pk_sub (by omega : 1 ≤ f)) ?_
            refine g_runV (As := [.int (nI (f - 1))]) (rest := []) (own := RX4) (C := RX4) (T := TX4) (N := 13) 1 hx hb hml hown hts hK hz hP hL hS hlo hl.1 (c_X4_isRest l x S (f - 1) σ sz hSt (by omega)) gX4_firstOfSyllable_X4_isRest rfl rfl rfl (by decide +kernel) ⟨Nat.le_of_ble_eq_true rfl, Nat.le_of_ble_eq_true rfl⟩ hSt.c0 rfl rfl rfl (Nat.le_of_ble_eq_true rfl) dX4_firstOfSyllable_33 ⟨Nat.le_of_ble_eq_true rfl, Nat.le_of_ble_eq_true rfl⟩ (g_ki0 (fun H locs hz hP hL hS => ?_))
            refine g_ifb_ne (tgt := 45) hx hb dX4_firstOfSyllable_36 (by decide) (fun c36 => ?_) (fun c36 => ?_)
            · refine lv_iload_n hx hb dX4_firstOfSyllable_45 rfl (lv_at hl 2 rfl) ?_
              exact g_iret (z := sz) hx hb hr hlk hz hP hL hS dX4_firstOfSyllable_46 (gi_i (by rw [firstI_n c5, ← hs, sylF_2 c14 c36]) rfl)
            · refine lv_iinc (v := (nI (f - 1))) (lv' := [(2, .int (nI (f - 1))), (0, .ref x), (1, .int (nI b))]) hx hb dX4_firstOfSyllable_39 hl (k := 2) rfl (g_dec (by omega)) (by decide) rfl (fun ls hl => ?_)
              refine lv_goto (tgt := 13) hx hb dX4_firstOfSyllable_42 (by decide) ?_
              exact ih_lp (f - 1) (by omega) ((sylF_s c14 c26 c36).trans hs) (by omega) H locs ls hz hP hS (lv_sub hl [1, 2, 0] rfl)
    exact lp _ b (Nat.le_refl _) rfl (Nat.lt_succ_self _) H locs ls hz hP hS (lv_sub hl [1, 2, 0] rfl)
  · refine lv_bipush (v := (-5)) hx hb dX4_firstOfSyllable_8 (by decide) ?_
    exact g_iret (z := sz) hx hb hr hlk hz hP hL hS dX4_firstOfSyllable_10 (gi_i (firstI_r c5).symm rfl)

theorem nX4_countRests_X4 : ∀ w ∈ wsX40, w ∈ wsX4_countRests := by decide +kernel
set_option maxHeartbeats 4000000 in
set_option maxRecDepth 100000 in
theorem c_X4_countRests (l : Launch) (x : Nat) (S : sS) (σ : gS) (sz : Nat) (hSt : StAt σ x S) (hB : sB S ≤ 96) : gM l yX4_countRests wsX4_countRests ({ frames := 2, cells := 0, slots := 0, locals := 42 } : Room) 0 0 [.ref x] σ sz (gi (nI (cntF (fun b => restB S b) (sB S))) σ sz) := by
  refine gM_of (cc := cX4_countRests) (maxL := 3) (ret := (some .int)) (by decide) rfl (Nat.le_of_ble_eq_true rfl) ?_
  intro D ka lo hL hlo p e s m below meth c hx hb hr hts hown hml hlk hnm hK H locs ls hz hP hS hl
  have hl : lv_has ls 3 [(0, .ref x)] := hl
  have hown : s.vm.findClass RX4 = some m.cls := hown
  refine lv_iconst (v := (nI 0)) hx hb dX4_countRests_0 (by decide) ?_
  refine lv_istore_n (lv' := [(1, .int (nI 0)), (0, .ref x)]) hx hb dX4_countRests_1 rfl hl (by decide) rfl (fun ls hl => ?_)
  refine lv_iconst (v := (nI 0)) hx hb dX4_countRests_2 (by decide) ?_
  refine lv_istore_n (lv' := [(2, .int (nI 0)), (1, .int (nI 0)), (0, .ref x)]) hx hb dX4_countRests_3 rfl hl (by decide) rfl (fun ls hl => ?_)
  have lp : ∀ (fu_lp : Nat) (k : Nat), (k ≤ sB S) → (sB S - k < fu_lp) → ∀ (H : Heap) (locs : List Loc) (ls : Array Slot), H.size = sz → gH D ka σ H → va_S (gA lo) s.heap H locs → lv_has ls 3 [(0, .ref x), (1, .int (nI (cntF (fun b => restB S b) k))), (2, .int (nI k))] → W p l e ({ frames := 2, cells := 0, slots := 0, locals := 42 } : Room) s m ([.ref x] : List Value).toArray below meth c H locs (0) (0) (MQ below (gQ D ka lo (gi (nI (cntF (fun b => restB S b) (sB S))) σ sz)) ([.ref x] : List Value).toArray s 0 0 (gA lo)) (F0 m 4 ls []) := by
    intro fu_lp
    induction fu_lp with
    | zero => intro k hk hm_lp; exact absurd hm_lp (Nat.not_lt_zero _)
    | succ fu_lp ih_lp =>
      intro k hk hm_lp H locs ls hz hP hS hl
      refine lv_iload_n hx hb dX4_countRests_4 rfl (lv_at hl 2 rfl) ?_
      refine lv_aload_n hx hb dX4_countRests_5 rfl (lv_at hl 0 rfl) ?_
      refine g_get (C := RX4) (T := TX4) (N := 13) hx hb hts hown hK hP hSt.c0 nX4_countRests_X4 rfl 0 (by decide) (by decide +kernel) rfl (v := .int (nI (sB S))) rfl dX4_countRests_6 ?_
      refine g_icmp_ge (tgt := 29) (a := k) (b := sB S) hx hb (by omega) (by omega) dX4_countRests_9 (by decide) (fun c9 => ?_) (fun c9 => ?_)
      · refine lv_iload_n hx hb dX4_countRests_29 rfl (lv_at hl 1 rfl) ?_
        exact g_iret (z := sz) hx hb hr hlk hz hP hL hS dX4_countRests_30 (gi_i (by rw [show k = sB S by omega]) rfl)
      · refine lv_aload_n hx hb dX4_countRests_12 rfl (lv_at hl 0 rfl) ?_
        refine lv_iload_n hx hb dX4_countRests_13 rfl (lv_at hl 2 rfl) ?_
        refine g_runV (As := [.int (nI k)]) (rest := []) (own := RX4) (C := RX4) (T := TX4) (N := 13) 1 hx hb hml hown hts hK hz hP hL hS hlo hl.1 (c_X4_isRest l x S k σ sz hSt (by omega)) gX4_countRests_X4_isRest rfl rfl rfl (by decide +kernel) ⟨Nat.le_of_ble_eq_true rfl, Nat.le_of_ble_eq_true rfl⟩ hSt.c0 rfl rfl rfl (Nat.le_of_ble_eq_true rfl) dX4_countRests_14 ⟨Nat.le_of_ble_eq_true rfl, Nat.le_of_ble_eq_true rfl⟩ (g_ki0 (fun H locs hz hP hL hS => ?_))
        refine g_ifb_eq (tgt := 23) hx hb dX4_countRests_17 (by decide) (fun c17 => ?_) (fun c17 => ?_)
        · refine lv_iinc (v := (nI (k + 1))) (lv' := [(2, .int (nI (k + 1))), (0, .ref x), (1, .int (nI (cntF (fun b => restB S b) k)))]) hx hb dX4_countRests_23 hl (k := 2) rfl (g_inc k 1) (by decide) rfl (fun ls hl => ?_)
          refine lv_goto (tgt := 4) hx hb dX4_countRests_26 (by decide) ?_
          have e_1 : (nI (cntF (fun b => restB S b) k)) = (nI (cntF (fun b => restB S b) (k + 1))) := (by rw [cntF_f (p := fun b => restB S b) (c17)])
          have hl := lv_sub hl (l' := [(0, .ref x), (1, .int (nI (cntF (fun b => restB S b) k))), (2, .int (nI (k + 1)))]) [1, 2, 0] rfl
          rw [e_1] at hl
          exact ih_lp (k + 1) (by omega) (by omega) H locs ls hz hP hS hl
        · refine lv_iinc (v := (nI (cntF (fun b => restB S b) k + 1))) (lv' := [(1, .int (nI (cntF (fun b => restB S b) k + 1))), (0, .ref x), (2, .int (nI k))]) hx hb dX4_countRests_20 hl (k := 1) rfl (g_inc (cntF (fun b => restB S b) k) 1) (by decide) rfl (fun ls hl => ?_)
          refine lv_iinc (v := (nI (k + 1))) (lv' := [(2, .int (nI (k + 1))), (1, .int (nI (cntF (fun b => restB S b) k + 1))), (0, .ref x)]) hx hb dX4_countRests_23 hl (k := 2) rfl (g_inc k 1) (by decide) rfl (fun ls hl => ?_)
          refine lv_goto (tgt := 4) hx hb dX4_countRests_26 (by decide) ?_
          have e_1 : (nI (cntF (fun b => restB S b) k + 1)) = (nI (cntF (fun b => restB S b) (k + 1))) := (by rw [cntF_t (p := fun b => restB S b) (c17)])
          have hl := lv_sub hl (l' := [(0, .ref x), (1, .int (nI (cntF (fun b => restB S b) k + 1))), (2, .int (nI (k + 1)))]) [2, 1, 0] rfl
          rw [e_1] at hl
          exact ih_lp (k + 1) (by omega) (by omega) H locs ls hz hP hS hl
  exact lp _ 0 (by omega) (Nat.lt_succ_self _) H locs ls hz hP hS (lv_sub hl [2, 1, 0] rfl)

theorem nX4_countSyllables_X4 : ∀ w ∈ wsX40, w ∈ wsX4_countSyllables := by decide +kernel
set_option maxHeartbeats 4000000 in
set_option maxRecDepth 100000 in
theorem c_X4_countSyllables (l : Launch) (x : Nat) (S : sS) (σ : gS) (sz : Nat) (hSt : StAt σ x S) (hB : sB S ≤ 96) : gM l yX4_countSyllables wsX4_countSyllables ({ frames := 3, cells := 0, slots := 0, locals := 64 } : Room) 0 0 [.ref x] σ sz (gi (nI (cntF (fun b => decide (firstI S b = nI b)) (sB S))) σ sz) := by
  refine gM_of (cc := cX4_countSyllables) (maxL := 3) (ret := (some .int)) (by decide) rfl (Nat.le_of_ble_eq_true rfl) ?_
  intro D ka lo hL hlo p e s m below meth c hx hb hr hts hown hml hlk hnm hK H locs ls hz hP hS hl
  have hl : lv_has ls 3 [(0, .ref x)] := hl
  have hown : s.vm.findClass RX4 = some m.cls := hown
  refine lv_iconst (v := (nI 0)) hx hb dX4_countSyllables_0 (by decide) ?_
  refine lv_istore_n (lv' := [(1, .int (nI 0)), (0, .ref x)]) hx hb dX4_countSyllables_1 rfl hl (by decide) rfl (fun ls hl => ?_)
  refine lv_iconst (v := (nI 0)) hx hb dX4_countSyllables_2 (by decide) ?_
  refine lv_istore_n (lv' := [(2, .int (nI 0)), (1, .int (nI 0)), (0, .ref x)]) hx hb dX4_countSyllables_3 rfl hl (by decide) rfl (fun ls hl => ?_)
  have lp : ∀ (fu_lp : Nat) (k : Nat), (k ≤ sB S) → (sB S - k < fu_lp) → ∀ (H : Heap) (locs : List Loc) (ls : Array Slot), H.size = sz → gH D ka σ H → va_S (gA lo) s.heap H locs → lv_has ls 3 [(0, .ref x), (1, .int (nI (cntF (fun b => decide (firstI S b = nI b)) k))), (2, .int (nI k))] → W p l e ({ frames := 3, cells := 0, slots := 0, locals := 64 } : Room) s m ([.ref x] : List Value).toArray below meth c H locs (0) (0) (MQ below (gQ D ka lo (gi (nI (cntF (fun b => decide (firstI S b = nI b)) (sB S))) σ sz)) ([.ref x] : List Value).toArray s 0 0 (gA lo)) (F0 m 4 ls []) := by
    intro fu_lp
    induction fu_lp with
    | zero => intro k hk hm_lp; exact absurd hm_lp (Nat.not_lt_zero _)
    | succ fu_lp ih_lp =>
      intro k hk hm_lp H locs ls hz hP hS hl
      refine lv_iload_n hx hb dX4_countSyllables_4 rfl (lv_at hl 2 rfl) ?_
      refine lv_aload_n hx hb dX4_countSyllables_5 rfl (lv_at hl 0 rfl) ?_
      refine g_get (C := RX4) (T := TX4) (N := 13) hx hb hts hown hK hP hSt.c0 nX4_countSyllables_X4 rfl 0 (by decide) (by decide +kernel) rfl (v := .int (nI (sB S))) rfl dX4_countSyllables_6 ?_
      refine g_icmp_ge (tgt := 30) (a := k) (b := sB S) hx hb (by omega) (by omega) dX4_countSyllables_9 (by decide) (fun c9 => ?_) (fun c9 => ?_)
      · refine lv_iload_n hx hb dX4_countSyllables_30 rfl (lv_at hl 1 rfl) ?_
        exact g_iret (z := sz) hx hb hr hlk hz hP hL hS dX4_countSyllables_31 (gi_i (by rw [show k = sB S by omega]) rfl)
      · refine lv_aload_n hx hb dX4_countSyllables_12 rfl (lv_at hl 0 rfl) ?_
        refine lv_iload_n hx hb dX4_countSyllables_13 rfl (lv_at hl 2 rfl) ?_
        refine g_runV (As := [.int (nI k)]) (rest := []) (own := RX4) (C := RX4) (T := TX4) (N := 13) 1 hx hb hml hown hts hK hz hP hL hS hlo hl.1 (c_X4_firstOfSyllable l x S k σ sz hSt (by omega)) gX4_countSyllables_X4_firstOfSyllable rfl rfl rfl (by decide +kernel) ⟨Nat.le_of_ble_eq_true rfl, Nat.le_of_ble_eq_true rfl⟩ hSt.c0 rfl rfl rfl (Nat.le_of_ble_eq_true rfl) dX4_countSyllables_14 ⟨Nat.le_of_ble_eq_true rfl, Nat.le_of_ble_eq_true rfl⟩ (g_ki0 (fun H locs hz hP hL hS => ?_))
        refine lv_iload_n hx hb dX4_countSyllables_17 rfl (lv_at hl 2 rfl) ?_
        refine lv_icmp_ne (tgt := 24) hx hb dX4_countSyllables_18 (by decide) (fun c18 => ?_) (fun c18 => ?_)
        · refine lv_iinc (v := (nI (k + 1))) (lv' := [(2, .int (nI (k + 1))), (0, .ref x), (1, .int (nI (cntF (fun b => decide (firstI S b = nI b)) k)))]) hx hb dX4_countSyllables_24 hl (k := 2) rfl (g_inc k 1) (by decide) rfl (fun ls hl => ?_)
          refine lv_goto (tgt := 4) hx hb dX4_countSyllables_27 (by decide) ?_
          have e_1 : (nI (cntF (fun b => decide (firstI S b = nI b)) k)) = (nI (cntF (fun b => decide (firstI S b = nI b)) (k + 1))) := (by rw [cntF_f (p := fun b => decide (firstI S b = nI b)) (decide_eq_false c18)])
          have hl := lv_sub hl (l' := [(0, .ref x), (1, .int (nI (cntF (fun b => decide (firstI S b = nI b)) k))), (2, .int (nI (k + 1)))]) [1, 2, 0] rfl
          rw [e_1] at hl
          exact ih_lp (k + 1) (by omega) (by omega) H locs ls hz hP hS hl
        · refine lv_iinc (v := (nI (cntF (fun b => decide (firstI S b = nI b)) k + 1))) (lv' := [(1, .int (nI (cntF (fun b => decide (firstI S b = nI b)) k + 1))), (0, .ref x), (2, .int (nI k))]) hx hb dX4_countSyllables_21 hl (k := 1) rfl (g_inc (cntF (fun b => decide (firstI S b = nI b)) k) 1) (by decide) rfl (fun ls hl => ?_)
          refine lv_iinc (v := (nI (k + 1))) (lv' := [(2, .int (nI (k + 1))), (1, .int (nI (cntF (fun b => decide (firstI S b = nI b)) k + 1))), (0, .ref x)]) hx hb dX4_countSyllables_24 hl (k := 2) rfl (g_inc k 1) (by decide) rfl (fun ls hl => ?_)
          refine lv_goto (tgt := 4) hx hb dX4_countSyllables_27 (by decide) ?_
          have e_1 : (nI (cntF (fun b => decide (firstI S b = nI b)) k + 1)) = (nI (cntF (fun b => decide (firstI S b = nI b)) (k + 1))) := (by rw [cntF_t (p := fun b => decide (firstI S b = nI b)) (decide_eq_true c18)])
          have hl := lv_sub hl (l' := [(0, .ref x), (1, .int (nI (cntF (fun b => decide (firstI S b = nI b)) k + 1))), (2, .int (nI (k + 1)))]) [2, 1, 0] rfl
          rw [e_1] at hl
          exact ih_lp (k + 1) (by omega) (by omega) H locs ls hz hP hS hl
  exact lp _ 0 (by omega) (Nat.lt_succ_self _) H locs ls hz hP hS (lv_sub hl [2, 1, 0] rfl)

theorem nX4_longestSyllable_X4 : ∀ w ∈ wsX40, w ∈ wsX4_longestSyllable := by decide +kernel
set_option maxHeartbeats 4000000 in
set_option maxRecDepth 100000 in
theorem c_X4_longestSyllable (l : Launch) (x : Nat) (S : sS) (σ : gS) (sz : Nat) (hSt : StAt σ x S) (hB : sB S ≤ 96) : gM l yX4_longestSyllable wsX4_longestSyllable ({ frames := 3, cells := 0, slots := 0, locals := 64 } : Room) 0 0 [.ref x] σ sz (gi (nI (lonF S (sB S))) σ sz) := by
  refine gM_of (cc := cX4_longestSyllable) (maxL := 3) (ret := (some .int)) (by decide) rfl (Nat.le_of_ble_eq_true rfl) ?_
  intro D ka lo hL hlo p e s m below meth c hx hb hr hts hown hml hlk hnm hK H locs ls hz hP hS hl
  have hl : lv_has ls 3 [(0, .ref x)] := hl
  have hown : s.vm.findClass RX4 = some m.cls := hown
  refine lv_iconst (v := (nI 0)) hx hb dX4_longestSyllable_0 (by decide) ?_
  refine lv_istore_n (lv' := [(1, .int (nI 0)), (0, .ref x)]) hx hb dX4_longestSyllable_1 rfl hl (by decide) rfl (fun ls hl => ?_)
  refine lv_iconst (v := (nI 0)) hx hb dX4_longestSyllable_2 (by decide) ?_
  refine lv_istore_n (lv' := [(2, .int (nI 0)), (1, .int (nI 0)), (0, .ref x)]) hx hb dX4_longestSyllable_3 rfl hl (by decide) rfl (fun ls hl => ?_)
  have lp : ∀ (fu_lp : Nat) (k : Nat), (k ≤ sB S) → (sB S - k < fu_lp) → ∀ (H : Heap) (locs : List Loc) (ls : Array Slot), H.size = sz → gH D ka σ H → va_S (gA lo) s.heap H locs → lv_has ls 3 [(0, .ref x), (1, .int (nI (lonF S k))), (2, .int (nI k))] → W p l e ({ frames := 3, cells := 0, slots := 0, locals := 64 } : Room) s m ([.ref x] : List Value).toArray below meth c H locs (0) (0) (MQ below (gQ D ka lo (gi (nI (lonF S (sB S))) σ sz)) ([.ref x] : List Value).toArray s 0 0 (gA lo)) (F0 m 4 ls []) := by
    intro fu_lp
    induction fu_lp with
    | zero => intro k hk hm_lp; exact absurd hm_lp (Nat.not_lt_zero _)
    | succ fu_lp ih_lp =>
      intro k hk hm_lp H locs ls hz hP hS hl
      refine lv_iload_n hx hb dX4_longestSyllable_4 rfl (lv_at hl 2 rfl) ?_
      refine lv_aload_n hx hb dX4_longestSyllable_5 rfl (lv_at hl 0 rfl) ?_
      refine g_get (C := RX4) (T := TX4) (N := 13) hx hb hts hown hK hP hSt.c0 nX4_longestSyllable_X4 rfl 0 (by decide) (by decide +kernel) rfl (v := .int (nI (sB S))) rfl dX4_longestSyllable_6 ?_
      refine g_icmp_ge (tgt := 40) (a := k) (b := sB S) hx hb (by omega) (by omega) dX4_longestSyllable_9 (by decide) (fun c9 => ?_) (fun c9 => ?_)
      · refine lv_iload_n hx hb dX4_longestSyllable_40 rfl (lv_at hl 1 rfl) ?_
        exact g_iret (z := sz) hx hb hr hlk hz hP hL hS dX4_longestSyllable_41 (gi_i (by rw [show k = sB S by omega]) rfl)
      · refine lv_aload_n hx hb dX4_longestSyllable_12 rfl (lv_at hl 0 rfl) ?_
        refine lv_iload_n hx hb dX4_longestSyllable_13 rfl (lv_at hl 2 rfl) ?_
        refine g_runV (As := [.int (nI k)]) (rest := []) (own := RX4) (C := RX4) (T := TX4) (N := 13) 1 hx hb hml hown hts hK hz hP hL hS hlo hl.1 (c_X4_isRest l x S k σ sz hSt (by omega)) gX4_longestSyllable_X4_isRest rfl rfl rfl (by decide +kernel) ⟨Nat.le_of_ble_eq_true rfl, Nat.le_of_ble_eq_true rfl⟩ hSt.c0 rfl rfl rfl (Nat.le_of_ble_eq_true rfl) dX4_longestSyllable_14 ⟨Nat.le_of_ble_eq_true rfl, Nat.le_of_ble_eq_true rfl⟩ (g_ki0 (fun H locs hz hP hL hS => ?_))
        refine g_ifb_ne (tgt := 34) hx hb dX4_longestSyllable_17 (by decide) (fun c17 => ?_) (fun c17 => ?_)
        · refine lv_iinc (v := (nI (k + 1))) (lv' := [(2, .int (nI (k + 1))), (0, .ref x), (1, .int (nI (lonF S k)))]) hx hb dX4_longestSyllable_34 hl (k := 2) rfl (g_inc k 1) (by decide) rfl (fun ls hl => ?_)
          refine lv_goto (tgt := 4) hx hb dX4_longestSyllable_37 (by decide) ?_
          have e_1 : (nI (lonF S k)) = (nI (lonF S (k + 1))) := (by rw [lonF, if_pos c17])
          have hl := lv_sub hl (l' := [(0, .ref x), (1, .int (nI (lonF S k))), (2, .int (nI (k + 1)))]) [1, 2, 0] rfl
          rw [e_1] at hl
          exact ih_lp (k + 1) (by omega) (by omega) H locs ls hz hP hS hl
        · refine lv_iload_n hx hb dX4_longestSyllable_20 rfl (lv_at hl 1 rfl) ?_
          refine lv_iload_n hx hb dX4_longestSyllable_21 rfl (lv_at hl 2 rfl) ?_
          refine lv_aload_n hx hb dX4_longestSyllable_22 rfl (lv_at hl 0 rfl) ?_
          refine lv_iload_n hx hb dX4_longestSyllable_23 rfl (lv_at hl 2 rfl) ?_
          refine g_runV (As := [.int (nI k)]) (rest := [.int (nI k), .int (nI (lonF S k))]) (own := RX4) (C := RX4) (T := TX4) (N := 13) 1 hx hb hml hown hts hK hz hP hL hS hlo hl.1 (c_X4_firstOfSyllable l x S k σ sz hSt (by omega)) gX4_longestSyllable_X4_firstOfSyllable rfl rfl rfl (by decide +kernel) ⟨Nat.le_of_ble_eq_true rfl, Nat.le_of_ble_eq_true rfl⟩ hSt.c0 rfl rfl rfl (Nat.le_of_ble_eq_true rfl) dX4_longestSyllable_24 ⟨Nat.le_of_ble_eq_true rfl, Nat.le_of_ble_eq_true rfl⟩ (g_ki0 (fun H locs hz hP hL hS => ?_))
          refine g_top (y := (nI (sylF S k))) (firstI_n c17) ?_
          have hsy := sylF_le S k
          have hlo2 := lonF_le S k
          refine lv_isub hx hb dX4_longestSyllable_27 ?_
          refine g_top (pk_sub (by omega : sylF S k ≤ k)) ?_
          refine lv_iconst (v := (nI 1)) hx hb dX4_longestSyllable_28 (by decide) ?_
          refine lv_iadd hx hb dX4_longestSyllable_29 ?_
          refine g_top (nI_add (k - (sylF S k)) 1) ?_
          refine va_mmax hx hb (hml.trans hl.1.symm) hown (hts (.methodLink RX4 79 Lib.Math.max.name) (by decide +kernel)) (hts (.static Lib.Math.max.name) (by decide +kernel)) (hts (.initialized "java/lang/Math") (by decide +kernel)) (hts (.code Lib.Math.max.name Lib.Math.max.code 2 (some .int)) (by decide +kernel)) (Nat.le_of_ble_eq_true rfl) (Nat.le_of_ble_eq_true rfl) (Nat.le_of_ble_eq_true rfl) (Nat.le_of_ble_eq_true rfl) dX4_longestSyllable_30 ?_
          refine g_top (g_nmax (a := lonF S k) (b := (k - (sylF S k)) + 1) (by omega) (by omega)) ?_
          refine lv_istore_n (lv' := [(1, .int (nI (max (lonF S k) ((k - (sylF S k)) + 1)))), (0, .ref x), (2, .int (nI k))]) hx hb dX4_longestSyllable_33 rfl hl (by decide) rfl (fun ls hl => ?_)
          refine lv_iinc (v := (nI (k + 1))) (lv' := [(2, .int (nI (k + 1))), (1, .int (nI (max (lonF S k) ((k - (sylF S k)) + 1)))), (0, .ref x)]) hx hb dX4_longestSyllable_34 hl (k := 2) rfl (g_inc k 1) (by decide) rfl (fun ls hl => ?_)
          refine lv_goto (tgt := 4) hx hb dX4_longestSyllable_37 (by decide) ?_
          have e_1 : (nI (max (lonF S k) ((k - (sylF S k)) + 1))) = (nI (lonF S (k + 1))) := (by rw [lonF, if_neg (by rw [c17]; decide)])
          have hl := lv_sub hl (l' := [(0, .ref x), (1, .int (nI (max (lonF S k) ((k - (sylF S k)) + 1)))), (2, .int (nI (k + 1)))]) [2, 1, 0] rfl
          rw [e_1] at hl
          exact ih_lp (k + 1) (by omega) (by omega) H locs ls hz hP hS hl
  exact lp _ 0 (by omega) (Nat.lt_succ_self _) H locs ls hz hP hS (lv_sub hl [2, 1, 0] rfl)

theorem nX4_isPresent_X4 : ∀ w ∈ wsX40, w ∈ wsX4_isPresent := by decide +kernel
set_option maxHeartbeats 4000000 in
set_option maxRecDepth 100000 in
theorem c_X4_isPresent (l : Launch) (x : Nat) (S : sS) (i : Nat) (σ : gS) (sz : Nat) (hSt : StAt σ x S) : gM l yX4_isPresent wsX4_isPresent ({ frames := 1, cells := 0, slots := 0, locals := 21 } : Room) 0 0 [.ref x, .int (nI i)] σ sz (gi (bI (presB S i)) σ sz) := by
  refine gM_of (cc := cX4_isPresent) (maxL := 2) (ret := (some .boolean)) (by decide) rfl (Nat.le_of_ble_eq_true rfl) ?_
  intro D ka lo hL hlo p e s m below meth c hx hb hr hts hown hml hlk hnm hK H locs ls hz hP hS hl
  have hl : lv_has ls 2 [(0, .ref x), (1, .int (nI i))] := hl
  have hown : s.vm.findClass RX4 = some m.cls := hown
  refine lv_aload_n hx hb dX4_isPresent_0 rfl (lv_at hl 0 rfl) ?_
  refine g_get (C := RX4) (T := TX4) (N := 13) hx hb hts hown hK hP hSt.c0 nX4_isPresent_X4 rfl 2 (by decide) (by decide +kernel) rfl (v := .int (S 8 2)) rfl dX4_isPresent_1 ?_
  refine lv_iload_n hx hb dX4_isPresent_4 rfl (lv_at hl 1 rfl) ?_
  refine g_runSN (As := [.int (S 8 2), .int (nI i)]) (rest := []) (own := RX4) 2 hx hb hml hown hts hK hz hP hL hS hlo hl.1 (c_X7_contains l ((S 8 2)) i σ sz) gX4_isPresent_X7_contains_n88 rfl rfl rfl (by decide +kernel) (by decide +kernel) (by decide +kernel) (by decide +kernel) ⟨Nat.le_of_ble_eq_true rfl, Nat.le_of_ble_eq_true rfl⟩ rfl rfl (Nat.le_of_ble_eq_true rfl) dX4_isPresent_5 ⟨Nat.le_of_ble_eq_true rfl, Nat.le_of_ble_eq_true rfl⟩ (g_ki0 (fun H locs hz hP hL hS => ?_))
  exact g_zret (z := sz) hx hb hr hlk hz hP hL hS (bI_n _) dX4_isPresent_8 (gi_i rfl rfl)

theorem nX4_countPresent_X4 : ∀ w ∈ wsX40, w ∈ wsX4_countPresent := by decide +kernel
set_option maxHeartbeats 4000000 in
set_option maxRecDepth 100000 in
theorem c_X4_countPresent (l : Launch) (x : Nat) (S : sS) (σ : gS) (sz : Nat) (hSt : StAt σ x S) : gM l yX4_countPresent wsX4_countPresent ({ frames := 1, cells := 0, slots := 0, locals := 20 } : Room) 0 0 [.ref x] σ sz (gi (bcI (S 8 2)) σ sz) := by
  refine gM_of (cc := cX4_countPresent) (maxL := 1) (ret := (some .int)) (by decide) rfl (Nat.le_of_ble_eq_true rfl) ?_
  intro D ka lo hL hlo p e s m below meth c hx hb hr hts hown hml hlk hnm hK H locs ls hz hP hS hl
  have hl : lv_has ls 1 [(0, .ref x)] := hl
  have hown : s.vm.findClass RX4 = some m.cls := hown
  refine lv_aload_n hx hb dX4_countPresent_0 rfl (lv_at hl 0 rfl) ?_
  refine g_get (C := RX4) (T := TX4) (N := 13) hx hb hts hown hK hP hSt.c0 nX4_countPresent_X4 rfl 2 (by decide) (by decide +kernel) rfl (v := .int (S 8 2)) rfl dX4_countPresent_1 ?_
  refine g_runS (As := [.int (S 8 2)]) (rest := []) (own := RX4) 1 hx hb hml hown hts hK hz hP hL hS hlo hl.1 (c_J6_bitCount_0f7a4 l ((S 8 2)) σ sz) gX4_countPresent_J6_bitCount_0f7a4 rfl rfl rfl (by decide +kernel) ⟨Nat.le_of_ble_eq_true rfl, Nat.le_of_ble_eq_true rfl⟩ rfl rfl (Nat.le_of_ble_eq_true rfl) dX4_countPresent_4 ⟨Nat.le_of_ble_eq_true rfl, Nat.le_of_ble_eq_true rfl⟩ (g_ki0 (fun H locs hz hP hL hS => ?_))
  exact g_iret (z := sz) hx hb hr hlk hz hP hL hS dX4_countPresent_7 (gi_i rfl rfl)

theorem nX4_soloAt_X4 : ∀ w ∈ wsX40, w ∈ wsX4_soloAt := by decide +kernel
set_option maxHeartbeats 4000000 in
set_option maxRecDepth 100000 in
theorem c_X4_soloAt (l : Launch) (x : Nat) (S : sS) (b : Nat) (σ : gS) (sz : Nat) (hSt : StAt σ x S) (hKs : sK S ≤ 8) : gM l yX4_soloAt wsX4_soloAt ({ frames := 1, cells := 0, slots := 0, locals := 21 } : Room) 0 0 [.ref x, .int (nI b)] σ sz (gi (oI (soloF S b)) σ sz) := by
  refine gM_of (cc := cX4_soloAt) (maxL := 3) (ret := (some .int)) (by decide) rfl (Nat.le_of_ble_eq_true rfl) ?_
  intro D ka lo hL hlo p e s m below meth c hx hb hr hts hown hml hlk hnm hK H locs ls hz hP hS hl
  have hl : lv_has ls 3 [(0, .ref x), (1, .int (nI b))] := hl
  have hown : s.vm.findClass RX4 = some m.cls := hown
  refine lv_iconst (v := (nI 0)) hx hb dX4_soloAt_0 (by decide) ?_
  refine lv_istore_n (lv' := [(2, .int (nI 0)), (0, .ref x), (1, .int (nI b))]) hx hb dX4_soloAt_1 rfl hl (by decide) rfl (fun ls hl => ?_)
  have lp : ∀ (fu_lp : Nat) (k : Nat), (k ≤ sK S) → (firstK (cov S b) (sK S - k) k = firstK (cov S b) (sK S) 0) → (sK S - k < fu_lp) → ∀ (H : Heap) (locs : List Loc) (ls : Array Slot), H.size = sz → gH D ka σ H → va_S (gA lo) s.heap H locs → lv_has ls 3 [(0, .ref x), (1, .int (nI b)), (2, .int (nI k))] → W p l e ({ frames := 1, cells := 0, slots := 0, locals := 21 } : Room) s m ([.ref x, .int (nI b)] : List Value).toArray below meth c H locs (0) (0) (MQ below (gQ D ka lo (gi (oI (soloF S b)) σ sz)) ([.ref x, .int (nI b)] : List Value).toArray s 0 0 (gA lo)) (F0 m 2 ls []) := by
    intro fu_lp
    induction fu_lp with
    | zero => intro k hk hs hm_lp; exact absurd hm_lp (Nat.not_lt_zero _)
    | succ fu_lp ih_lp =>
      intro k hk hs hm_lp H locs ls hz hP hS hl
      refine lv_iload_n hx hb dX4_soloAt_2 rfl (lv_at hl 2 rfl) ?_
      refine lv_aload_n hx hb dX4_soloAt_3 rfl (lv_at hl 0 rfl) ?_
      refine g_get (C := RX4) (T := TX4) (N := 13) hx hb hts hown hK hP hSt.c0 nX4_soloAt_X4 rfl 3 (by decide) (by decide +kernel) rfl (v := .int (nI (sK S))) rfl dX4_soloAt_4 ?_
      refine g_icmp_ge (tgt := 42) (a := k) (b := sK S) hx hb (by omega) (by omega) dX4_soloAt_7 (by decide) (fun c7 => ?_) (fun c7 => ?_)
      · refine lv_bipush (v := (-5)) hx hb dX4_soloAt_42 (by decide) ?_
        exact g_iret (z := sz) hx hb hr hlk hz hP hL hS dX4_soloAt_44 (gi_i (by rw [soloF, ← hs, fK_e (by omega)]; rfl) rfl)
      · refine lv_aload_n hx hb dX4_soloAt_10 rfl (lv_at hl 0 rfl) ?_
        refine g_get (C := RX4) (T := TX4) (N := 13) hx hb hts hown hK hP hSt.c0 nX4_soloAt_X4 rfl 11 (by decide) (by decide +kernel) rfl (v := .ref (x + 13)) rfl dX4_soloAt_11 ?_
        refine lv_iload_n hx hb dX4_soloAt_14 rfl (lv_at hl 2 rfl) ?_
        refine g_runV (As := [.int (nI k)]) (rest := []) (own := RX4) (C := RX2) (T := TX2) (N := 1) 1 hx hb hml hown hts hK hz hP hL hS hlo hl.1 (c_X2_at l (x + 13) 8 k (S 6) σ sz ⟨hSt.c13, hSt.c14⟩ (by omega) (by omega)) gX4_soloAt_X2_at rfl rfl rfl (by decide +kernel) ⟨Nat.le_of_ble_eq_true rfl, Nat.le_of_ble_eq_true rfl⟩ hSt.c13 rfl rfl rfl (Nat.le_of_ble_eq_true rfl) dX4_soloAt_15 ⟨Nat.le_of_ble_eq_true rfl, Nat.le_of_ble_eq_true rfl⟩ (g_ki0 (fun H locs hz hP hL hS => ?_))
        refine lv_iload_n hx hb dX4_soloAt_18 rfl (lv_at hl 1 rfl) ?_
        refine lv_icmp_gt (tgt := 36) hx hb dX4_soloAt_19 (by decide) (fun c19 => ?_) (fun c19 => ?_)
        · refine lv_iinc (v := (nI (k + 1))) (lv' := [(2, .int (nI (k + 1))), (0, .ref x), (1, .int (nI b))]) hx hb dX4_soloAt_36 hl (k := 2) rfl (g_inc k 1) (by decide) rfl (fun ls hl => ?_)
          refine lv_goto (tgt := 2) hx hb dX4_soloAt_39 (by decide) ?_
          exact ih_lp (k + 1) (by omega) ((fK_s (p := cov S b) (by omega) (cov_1 c19)).trans hs) (by omega) H locs ls hz hP hS (lv_sub hl [1, 2, 0] rfl)
        · refine lv_iload_n hx hb dX4_soloAt_22 rfl (lv_at hl 1 rfl) ?_
          refine lv_aload_n hx hb dX4_soloAt_23 rfl (lv_at hl 0 rfl) ?_
          refine g_get (C := RX4) (T := TX4) (N := 13) hx hb hts hown hK hP hSt.c0 nX4_soloAt_X4 rfl 12 (by decide) (by decide +kernel) rfl (v := .ref (x + 15)) rfl dX4_soloAt_24 ?_
          refine lv_iload_n hx hb dX4_soloAt_27 rfl (lv_at hl 2 rfl) ?_
          refine g_runV (As := [.int (nI k)]) (rest := [.int (nI b)]) (own := RX4) (C := RX2) (T := TX2) (N := 1) 1 hx hb hml hown hts hK hz hP hL hS hlo hl.1 (c_X2_at l (x + 15) 8 k (S 7) σ sz ⟨hSt.c15, hSt.c16⟩ (by omega) (by omega)) gX4_soloAt_X2_at rfl rfl rfl (by decide +kernel) ⟨Nat.le_of_ble_eq_true rfl, Nat.le_of_ble_eq_true rfl⟩ hSt.c15 rfl rfl rfl (Nat.le_of_ble_eq_true rfl) dX4_soloAt_28 ⟨Nat.le_of_ble_eq_true rfl, Nat.le_of_ble_eq_true rfl⟩ (g_ki0 (fun H locs hz hP hL hS => ?_))
          refine lv_icmp_gt (tgt := 36) hx hb dX4_soloAt_31 (by decide) (fun c31 => ?_) (fun c31 => ?_)
          · refine lv_iinc (v := (nI (k + 1))) (lv' := [(2, .int (nI (k + 1))), (0, .ref x), (1, .int (nI b))]) hx hb dX4_soloAt_36 hl (k := 2) rfl (g_inc k 1) (by decide) rfl (fun ls hl => ?_)
            refine lv_goto (tgt := 2) hx hb dX4_soloAt_39 (by decide) ?_
            exact ih_lp (k + 1) (by omega) ((fK_s (p := cov S b) (by omega) (cov_2 c31)).trans hs) (by omega) H locs ls hz hP hS (lv_sub hl [1, 2, 0] rfl)
          · refine lv_iload_n hx hb dX4_soloAt_34 rfl (lv_at hl 2 rfl) ?_
            exact g_iret (z := sz) hx hb hr hlk hz hP hL hS dX4_soloAt_35 (gi_i (by rw [soloF, ← hs, fK_y (by omega) (cov_3 c19 c31)]; rfl) rfl)
  exact lp _ 0 (by omega) rfl (Nat.lt_succ_self _) H locs ls hz hP hS (lv_sub hl [1, 2, 0] rfl)

theorem nX4_overlapsSolo_X4 : ∀ w ∈ wsX40, w ∈ wsX4_overlapsSolo := by decide +kernel
set_option maxHeartbeats 4000000 in
set_option maxRecDepth 100000 in
theorem c_X4_overlapsSolo (l : Launch) (x : Nat) (S : sS) (fr to : Nat) (σ : gS) (sz : Nat) (hSt : StAt σ x S) (hKs : sK S ≤ 8) : gM l yX4_overlapsSolo wsX4_overlapsSolo ({ frames := 1, cells := 0, slots := 0, locals := 21 } : Room) 0 0 [.ref x, .int (nI fr), .int (nI to)] σ sz (gi (bI (ovF S fr to)) σ sz) := by
  refine gM_of (cc := cX4_overlapsSolo) (maxL := 4) (ret := (some .boolean)) (by decide) rfl (Nat.le_of_ble_eq_true rfl) ?_
  intro D ka lo hL hlo p e s m below meth c hx hb hr hts hown hml hlk hnm hK H locs ls hz hP hS hl
  have hl : lv_has ls 4 [(0, .ref x), (1, .int (nI fr)), (2, .int (nI to))] := hl
  have hown : s.vm.findClass RX4 = some m.cls := hown
  refine lv_iconst (v := (nI 0)) hx hb dX4_overlapsSolo_0 (by decide) ?_
  refine lv_istore_n (lv' := [(3, .int (nI 0)), (0, .ref x), (1, .int (nI fr)), (2, .int (nI to))]) hx hb dX4_overlapsSolo_1 rfl hl (by decide) rfl (fun ls hl => ?_)
  have lp : ∀ (fu_lp : Nat) (k : Nat), (k ≤ sK S) → (firstK (ovl S fr to) (sK S - k) k = firstK (ovl S fr to) (sK S) 0) → (sK S - k < fu_lp) → ∀ (H : Heap) (locs : List Loc) (ls : Array Slot), H.size = sz → gH D ka σ H → va_S (gA lo) s.heap H locs → lv_has ls 4 [(0, .ref x), (1, .int (nI fr)), (2, .int (nI to)), (3, .int (nI k))] → W p l e ({ frames := 1, cells := 0, slots := 0, locals := 21 } : Room) s m ([.ref x, .int (nI fr), .int (nI to)] : List Value).toArray below meth c H locs (0) (0) (MQ below (gQ D ka lo (gi (bI (ovF S fr to)) σ sz)) ([.ref x, .int (nI fr), .int (nI to)] : List Value).toArray s 0 0 (gA lo)) (F0 m 2 ls []) := by
    intro fu_lp
    induction fu_lp with
    | zero => intro k hk hs hm_lp; exact absurd hm_lp (Nat.not_lt_zero _)
    | succ fu_lp ih_lp =>
      intro k hk hs hm_lp H locs ls hz hP hS hl
      refine lv_iload_n hx hb dX4_overlapsSolo_2 rfl (lv_at hl 3 rfl) ?_
      refine lv_aload_n hx hb dX4_overlapsSolo_3 rfl (lv_at hl 0 rfl) ?_
      refine g_get (C := RX4) (T := TX4) (N := 13) hx hb hts hown hK hP hSt.c0 nX4_overlapsSolo_X4 rfl 3 (by decide) (by decide +kernel) rfl (v := .int (nI (sK S))) rfl dX4_overlapsSolo_4 ?_
      refine g_icmp_ge (tgt := 42) (a := k) (b := sK S) hx hb (by omega) (by omega) dX4_overlapsSolo_7 (by decide) (fun c7 => ?_) (fun c7 => ?_)
      · refine lv_iconst (v := (nI 0)) hx hb dX4_overlapsSolo_42 (by decide) ?_
        exact g_zret (z := sz) hx hb hr hlk hz hP hL hS rfl dX4_overlapsSolo_43 (gi_i (by rw [ovF, ← hs, fK_e (by omega)]; rfl) rfl)
      · refine lv_aload_n hx hb dX4_overlapsSolo_10 rfl (lv_at hl 0 rfl) ?_
        refine g_get (C := RX4) (T := TX4) (N := 13) hx hb hts hown hK hP hSt.c0 nX4_overlapsSolo_X4 rfl 11 (by decide) (by decide +kernel) rfl (v := .ref (x + 13)) rfl dX4_overlapsSolo_11 ?_
        refine lv_iload_n hx hb dX4_overlapsSolo_14 rfl (lv_at hl 3 rfl) ?_
        refine g_runV (As := [.int (nI k)]) (rest := []) (own := RX4) (C := RX2) (T := TX2) (N := 1) 1 hx hb hml hown hts hK hz hP hL hS hlo hl.1 (c_X2_at l (x + 13) 8 k (S 6) σ sz ⟨hSt.c13, hSt.c14⟩ (by omega) (by omega)) gX4_overlapsSolo_X2_at rfl rfl rfl (by decide +kernel) ⟨Nat.le_of_ble_eq_true rfl, Nat.le_of_ble_eq_true rfl⟩ hSt.c13 rfl rfl rfl (Nat.le_of_ble_eq_true rfl) dX4_overlapsSolo_15 ⟨Nat.le_of_ble_eq_true rfl, Nat.le_of_ble_eq_true rfl⟩ (g_ki0 (fun H locs hz hP hL hS => ?_))
        refine lv_iload_n hx hb dX4_overlapsSolo_18 rfl (lv_at hl 2 rfl) ?_
        refine lv_icmp_gt (tgt := 36) hx hb dX4_overlapsSolo_19 (by decide) (fun c19 => ?_) (fun c19 => ?_)
        · refine lv_iinc (v := (nI (k + 1))) (lv' := [(3, .int (nI (k + 1))), (0, .ref x), (1, .int (nI fr)), (2, .int (nI to))]) hx hb dX4_overlapsSolo_36 hl (k := 3) rfl (g_inc k 1) (by decide) rfl (fun ls hl => ?_)
          refine lv_goto (tgt := 2) hx hb dX4_overlapsSolo_39 (by decide) ?_
          exact ih_lp (k + 1) (by omega) ((fK_s (p := ovl S fr to) (by omega) (ovl_1 c19)).trans hs) (by omega) H locs ls hz hP hS (lv_sub hl [1, 2, 3, 0] rfl)
        · refine lv_iload_n hx hb dX4_overlapsSolo_22 rfl (lv_at hl 1 rfl) ?_
          refine lv_aload_n hx hb dX4_overlapsSolo_23 rfl (lv_at hl 0 rfl) ?_
          refine g_get (C := RX4) (T := TX4) (N := 13) hx hb hts hown hK hP hSt.c0 nX4_overlapsSolo_X4 rfl 12 (by decide) (by decide +kernel) rfl (v := .ref (x + 15)) rfl dX4_overlapsSolo_24 ?_
          refine lv_iload_n hx hb dX4_overlapsSolo_27 rfl (lv_at hl 3 rfl) ?_
          refine g_runV (As := [.int (nI k)]) (rest := [.int (nI fr)]) (own := RX4) (C := RX2) (T := TX2) (N := 1) 1 hx hb hml hown hts hK hz hP hL hS hlo hl.1 (c_X2_at l (x + 15) 8 k (S 7) σ sz ⟨hSt.c15, hSt.c16⟩ (by omega) (by omega)) gX4_overlapsSolo_X2_at rfl rfl rfl (by decide +kernel) ⟨Nat.le_of_ble_eq_true rfl, Nat.le_of_ble_eq_true rfl⟩ hSt.c15 rfl rfl rfl (Nat.le_of_ble_eq_true rfl) dX4_overlapsSolo_28 ⟨Nat.le_of_ble_eq_true rfl, Nat.le_of_ble_eq_true rfl⟩ (g_ki0 (fun H locs hz hP hL hS => ?_))
          refine lv_icmp_gt (tgt := 36) hx hb dX4_overlapsSolo_31 (by decide) (fun c31 => ?_) (fun c31 => ?_)
          · refine lv_iinc (v := (nI (k + 1))) (lv' := [(3, .int (nI (k + 1))), (0, .ref x), (1, .int (nI fr)), (2, .int (nI to))]) hx hb dX4_overlapsSolo_36 hl (k := 3) rfl (g_inc k 1) (by decide) rfl (fun ls hl => ?_)
            refine lv_goto (tgt := 2) hx hb dX4_overlapsSolo_39 (by decide) ?_
            exact ih_lp (k + 1) (by omega) ((fK_s (p := ovl S fr to) (by omega) (ovl_2 c31)).trans hs) (by omega) H locs ls hz hP hS (lv_sub hl [1, 2, 3, 0] rfl)
          · refine lv_iconst (v := (nI 1)) hx hb dX4_overlapsSolo_34 (by decide) ?_
            exact g_zret (z := sz) hx hb hr hlk hz hP hL hS rfl dX4_overlapsSolo_35 (gi_i (by rw [ovF, ← hs, fK_y (by omega) (ovl_3 c19 c31)]; rfl) rfl)
  exact lp _ 0 (by omega) rfl (Nat.lt_succ_self _) H locs ls hz hP hS (lv_sub hl [1, 2, 3, 0] rfl)

theorem nX4_isMarked_X4 : ∀ w ∈ wsX40, w ∈ wsX4_isMarked := by decide +kernel
set_option maxHeartbeats 4000000 in
set_option maxRecDepth 100000 in
theorem c_X4_isMarked (l : Launch) (x : Nat) (S : sS) (i b : Nat) (σ : gS) (sz : Nat) (hSt : StAt σ x S) (hb0 : b < 96) : gM l yX4_isMarked wsX4_isMarked ({ frames := 1, cells := 0, slots := 0, locals := 21 } : Room) 0 0 [.ref x, .int (nI i), .int (nI b)] σ sz (gi (bI (markB S i b)) σ sz) := by
  refine gM_of (cc := cX4_isMarked) (maxL := 3) (ret := (some .boolean)) (by decide) rfl (Nat.le_of_ble_eq_true rfl) ?_
  intro D ka lo hL hlo p e s m below meth c hx hb hr hts hown hml hlk hnm hK H locs ls hz hP hS hl
  have hl : lv_has ls 3 [(0, .ref x), (1, .int (nI i)), (2, .int (nI b))] := hl
  have hown : s.vm.findClass RX4 = some m.cls := hown
  refine lv_aload_n hx hb dX4_isMarked_0 rfl (lv_at hl 0 rfl) ?_
  refine g_get (C := RX4) (T := TX4) (N := 13) hx hb hts hown hK hP hSt.c0 nX4_isMarked_X4 rfl 7 (by decide) (by decide +kernel) rfl (v := .ref (x + 5)) rfl dX4_isMarked_1 ?_
  refine lv_iload_n hx hb dX4_isMarked_4 rfl (lv_at hl 2 rfl) ?_
  refine g_runV (As := [.int (nI b)]) (rest := []) (own := RX4) (C := RX2) (T := TX2) (N := 1) 1 hx hb hml hown hts hK hz hP hL hS hlo hl.1 (c_X2_at l (x + 5) 96 b (S 2) σ sz ⟨hSt.c5, hSt.c6⟩ (by omega) (by omega)) gX4_isMarked_X2_at rfl rfl rfl (by decide +kernel) ⟨Nat.le_of_ble_eq_true rfl, Nat.le_of_ble_eq_true rfl⟩ hSt.c5 rfl rfl rfl (Nat.le_of_ble_eq_true rfl) dX4_isMarked_5 ⟨Nat.le_of_ble_eq_true rfl, Nat.le_of_ble_eq_true rfl⟩ (g_ki0 (fun H locs hz hP hL hS => ?_))
  refine lv_iload_n hx hb dX4_isMarked_8 rfl (lv_at hl 1 rfl) ?_
  refine g_runSN (As := [.int ((S 2) b), .int (nI i)]) (rest := []) (own := RX4) 2 hx hb hml hown hts hK hz hP hL hS hlo hl.1 (c_X7_contains l (((S 2) b)) i σ sz) gX4_isMarked_X7_contains_n88 rfl rfl rfl (by decide +kernel) (by decide +kernel) (by decide +kernel) (by decide +kernel) ⟨Nat.le_of_ble_eq_true rfl, Nat.le_of_ble_eq_true rfl⟩ rfl rfl (Nat.le_of_ble_eq_true rfl) dX4_isMarked_9 ⟨Nat.le_of_ble_eq_true rfl, Nat.le_of_ble_eq_true rfl⟩ (g_ki0 (fun H locs hz hP hL hS => ?_))
  exact g_zret (z := sz) hx hb hr hlk hz hP hL hS (bI_n _) dX4_isMarked_12 (gi_i rfl rfl)

theorem nX4_countMarks_X4 : ∀ w ∈ wsX40, w ∈ wsX4_countMarks := by decide +kernel
set_option maxHeartbeats 4000000 in
set_option maxRecDepth 100000 in
theorem c_X4_countMarks (l : Launch) (x : Nat) (S : sS) (σ : gS) (sz : Nat) (hSt : StAt σ x S) (hB : sB S ≤ 96) : gM l yX4_countMarks wsX4_countMarks ({ frames := 1, cells := 0, slots := 0, locals := 21 } : Room) 0 0 [.ref x] σ sz (gi (smI (fun b => bcI (S 2 b)) (sB S)) σ sz) := by
  refine gM_of (cc := cX4_countMarks) (maxL := 3) (ret := (some .int)) (by decide) rfl (Nat.le_of_ble_eq_true rfl) ?_
  intro D ka lo hL hlo p e s m below meth c hx hb hr hts hown hml hlk hnm hK H locs ls hz hP hS hl
  have hl : lv_has ls 3 [(0, .ref x)] := hl
  have hown : s.vm.findClass RX4 = some m.cls := hown
  refine lv_iconst (v := (nI 0)) hx hb dX4_countMarks_0 (by decide) ?_
  refine lv_istore_n (lv' := [(1, .int (nI 0)), (0, .ref x)]) hx hb dX4_countMarks_1 rfl hl (by decide) rfl (fun ls hl => ?_)
  refine lv_iconst (v := (nI 0)) hx hb dX4_countMarks_2 (by decide) ?_
  refine lv_istore_n (lv' := [(2, .int (nI 0)), (1, .int (nI 0)), (0, .ref x)]) hx hb dX4_countMarks_3 rfl hl (by decide) rfl (fun ls hl => ?_)
  have lp : ∀ (fu_lp : Nat) (k : Nat), (k ≤ sB S) → (sB S - k < fu_lp) → ∀ (H : Heap) (locs : List Loc) (ls : Array Slot), H.size = sz → gH D ka σ H → va_S (gA lo) s.heap H locs → lv_has ls 3 [(0, .ref x), (1, .int (smI (fun b => bcI (S 2 b)) k)), (2, .int (nI k))] → W p l e ({ frames := 1, cells := 0, slots := 0, locals := 21 } : Room) s m ([.ref x] : List Value).toArray below meth c H locs (0) (0) (MQ below (gQ D ka lo (gi (smI (fun b => bcI (S 2 b)) (sB S)) σ sz)) ([.ref x] : List Value).toArray s 0 0 (gA lo)) (F0 m 4 ls []) := by
    intro fu_lp
    induction fu_lp with
    | zero => intro k hk hm_lp; exact absurd hm_lp (Nat.not_lt_zero _)
    | succ fu_lp ih_lp =>
      intro k hk hm_lp H locs ls hz hP hS hl
      refine lv_iload_n hx hb dX4_countMarks_4 rfl (lv_at hl 2 rfl) ?_
      refine lv_aload_n hx hb dX4_countMarks_5 rfl (lv_at hl 0 rfl) ?_
      refine g_get (C := RX4) (T := TX4) (N := 13) hx hb hts hown hK hP hSt.c0 nX4_countMarks_X4 rfl 0 (by decide) (by decide +kernel) rfl (v := .int (nI (sB S))) rfl dX4_countMarks_6 ?_
      refine g_icmp_ge (tgt := 32) (a := k) (b := sB S) hx hb (by omega) (by omega) dX4_countMarks_9 (by decide) (fun c9 => ?_) (fun c9 => ?_)
      · refine lv_iload_n hx hb dX4_countMarks_32 rfl (lv_at hl 1 rfl) ?_
        exact g_iret (z := sz) hx hb hr hlk hz hP hL hS dX4_countMarks_33 (gi_i (by rw [show k = sB S by omega]) rfl)
      · refine lv_iload_n hx hb dX4_countMarks_12 rfl (lv_at hl 1 rfl) ?_
        refine lv_aload_n hx hb dX4_countMarks_13 rfl (lv_at hl 0 rfl) ?_
        refine g_get (C := RX4) (T := TX4) (N := 13) hx hb hts hown hK hP hSt.c0 nX4_countMarks_X4 rfl 7 (by decide) (by decide +kernel) rfl (v := .ref (x + 5)) rfl dX4_countMarks_14 ?_
        refine lv_iload_n hx hb dX4_countMarks_17 rfl (lv_at hl 2 rfl) ?_
        refine g_runV (As := [.int (nI k)]) (rest := [.int (smI (fun b => bcI (S 2 b)) k)]) (own := RX4) (C := RX2) (T := TX2) (N := 1) 1 hx hb hml hown hts hK hz hP hL hS hlo hl.1 (c_X2_at l (x + 5) 96 k (S 2) σ sz ⟨hSt.c5, hSt.c6⟩ (by omega) (by omega)) gX4_countMarks_X2_at rfl rfl rfl (by decide +kernel) ⟨Nat.le_of_ble_eq_true rfl, Nat.le_of_ble_eq_true rfl⟩ hSt.c5 rfl rfl rfl (Nat.le_of_ble_eq_true rfl) dX4_countMarks_18 ⟨Nat.le_of_ble_eq_true rfl, Nat.le_of_ble_eq_true rfl⟩ (g_ki0 (fun H locs hz hP hL hS => ?_))
        refine g_runS (As := [.int ((S 2) k)]) (rest := [.int (smI (fun b => bcI (S 2 b)) k)]) (own := RX4) 1 hx hb hml hown hts hK hz hP hL hS hlo hl.1 (c_J6_bitCount_0f7a4 l (((S 2) k)) σ sz) gX4_countMarks_J6_bitCount_0f7a4 rfl rfl rfl (by decide +kernel) ⟨Nat.le_of_ble_eq_true rfl, Nat.le_of_ble_eq_true rfl⟩ rfl rfl (Nat.le_of_ble_eq_true rfl) dX4_countMarks_21 ⟨Nat.le_of_ble_eq_true rfl, Nat.le_of_ble_eq_true rfl⟩ (g_ki0 (fun H locs hz hP hL hS => ?_))
        refine lv_iadd hx hb dX4_countMarks_24 ?_
        refine lv_istore_n (lv' := [(1, .int ((smI (fun b => bcI (S 2 b)) k) + (bcI (((S 2) k))))), (0, .ref x), (2, .int (nI k))]) hx hb dX4_countMarks_25 rfl hl (by decide) rfl (fun ls hl => ?_)
        refine lv_iinc (v := (nI (k + 1))) (lv' := [(2, .int (nI (k + 1))), (1, .int ((smI (fun b => bcI (S 2 b)) k) + (bcI (((S 2) k))))), (0, .ref x)]) hx hb dX4_countMarks_26 hl (k := 2) rfl (g_inc k 1) (by decide) rfl (fun ls hl => ?_)
        refine lv_goto (tgt := 4) hx hb dX4_countMarks_29 (by decide) ?_
        have e_1 : ((smI (fun b => bcI (S 2 b)) k) + (bcI (((S 2) k)))) = (smI (fun b => bcI (S 2 b)) (k + 1)) := rfl
        have hl := lv_sub hl (l' := [(0, .ref x), (1, .int ((smI (fun b => bcI (S 2 b)) k) + (bcI (((S 2) k))))), (2, .int (nI (k + 1)))]) [2, 1, 0] rfl
        rw [e_1] at hl
        exact ih_lp (k + 1) (by omega) (by omega) H locs ls hz hP hS hl
  exact lp _ 0 (by omega) (Nat.lt_succ_self _) H locs ls hz hP hS (lv_sub hl [2, 1, 0] rfl)

theorem nX4_countMarksOf_X4 : ∀ w ∈ wsX40, w ∈ wsX4_countMarksOf := by decide +kernel
set_option maxHeartbeats 4000000 in
set_option maxRecDepth 100000 in
theorem c_X4_countMarksOf (l : Launch) (x : Nat) (S : sS) (i : Nat) (σ : gS) (sz : Nat) (hSt : StAt σ x S) (hB : sB S ≤ 96) : gM l yX4_countMarksOf wsX4_countMarksOf ({ frames := 2, cells := 0, slots := 0, locals := 43 } : Room) 0 0 [.ref x, .int (nI i)] σ sz (gi (nI (cntF (fun b => markB S i b) (sB S))) σ sz) := by
  refine gM_of (cc := cX4_countMarksOf) (maxL := 4) (ret := (some .int)) (by decide) rfl (Nat.le_of_ble_eq_true rfl) ?_
  intro D ka lo hL hlo p e s m below meth c hx hb hr hts hown hml hlk hnm hK H locs ls hz hP hS hl
  have hl : lv_has ls 4 [(0, .ref x), (1, .int (nI i))] := hl
  have hown : s.vm.findClass RX4 = some m.cls := hown
  refine lv_iconst (v := (nI 0)) hx hb dX4_countMarksOf_0 (by decide) ?_
  refine lv_istore_n (lv' := [(2, .int (nI 0)), (0, .ref x), (1, .int (nI i))]) hx hb dX4_countMarksOf_1 rfl hl (by decide) rfl (fun ls hl => ?_)
  refine lv_iconst (v := (nI 0)) hx hb dX4_countMarksOf_2 (by decide) ?_
  refine lv_istore_n (lv' := [(3, .int (nI 0)), (2, .int (nI 0)), (0, .ref x), (1, .int (nI i))]) hx hb dX4_countMarksOf_3 rfl hl (by decide) rfl (fun ls hl => ?_)
  have lp : ∀ (fu_lp : Nat) (k : Nat), (k ≤ sB S) → (sB S - k < fu_lp) → ∀ (H : Heap) (locs : List Loc) (ls : Array Slot), H.size = sz → gH D ka σ H → va_S (gA lo) s.heap H locs → lv_has ls 4 [(0, .ref x), (1, .int (nI i)), (2, .int (nI (cntF (fun b => markB S i b) k))), (3, .int (nI k))] → W p l e ({ frames := 2, cells := 0, slots := 0, locals := 43 } : Room) s m ([.ref x, .int (nI i)] : List Value).toArray below meth c H locs (0) (0) (MQ below (gQ D ka lo (gi (nI (cntF (fun b => markB S i b) (sB S))) σ sz)) ([.ref x, .int (nI i)] : List Value).toArray s 0 0 (gA lo)) (F0 m 4 ls []) := by
    intro fu_lp
    induction fu_lp with
    | zero => intro k hk hm_lp; exact absurd hm_lp (Nat.not_lt_zero _)
    | succ fu_lp ih_lp =>
      intro k hk hm_lp H locs ls hz hP hS hl
      refine lv_iload_n hx hb dX4_countMarksOf_4 rfl (lv_at hl 3 rfl) ?_
      refine lv_aload_n hx hb dX4_countMarksOf_5 rfl (lv_at hl 0 rfl) ?_
      refine g_get (C := RX4) (T := TX4) (N := 13) hx hb hts hown hK hP hSt.c0 nX4_countMarksOf_X4 rfl 0 (by decide) (by decide +kernel) rfl (v := .int (nI (sB S))) rfl dX4_countMarksOf_6 ?_
      refine g_icmp_ge (tgt := 30) (a := k) (b := sB S) hx hb (by omega) (by omega) dX4_countMarksOf_9 (by decide) (fun c9 => ?_) (fun c9 => ?_)
      · refine lv_iload_n hx hb dX4_countMarksOf_30 rfl (lv_at hl 2 rfl) ?_
        exact g_iret (z := sz) hx hb hr hlk hz hP hL hS dX4_countMarksOf_31 (gi_i (by rw [show k = sB S by omega]) rfl)
      · refine lv_aload_n hx hb dX4_countMarksOf_12 rfl (lv_at hl 0 rfl) ?_
        refine lv_iload_n hx hb dX4_countMarksOf_13 rfl (lv_at hl 1 rfl) ?_
        refine lv_iload_n hx hb dX4_countMarksOf_14 rfl (lv_at hl 3 rfl) ?_
        refine g_runV (As := [.int (nI i), .int (nI k)]) (rest := []) (own := RX4) (C := RX4) (T := TX4) (N := 13) 2 hx hb hml hown hts hK hz hP hL hS hlo hl.1 (c_X4_isMarked l x S i k σ sz hSt (by omega)) gX4_countMarksOf_X4_isMarked rfl rfl rfl (by decide +kernel) ⟨Nat.le_of_ble_eq_true rfl, Nat.le_of_ble_eq_true rfl⟩ hSt.c0 rfl rfl rfl (Nat.le_of_ble_eq_true rfl) dX4_countMarksOf_15 ⟨Nat.le_of_ble_eq_true rfl, Nat.le_of_ble_eq_true rfl⟩ (g_ki0 (fun H locs hz hP hL hS => ?_))
        refine g_ifb_eq (tgt := 24) hx hb dX4_countMarksOf_18 (by decide) (fun c18 => ?_) (fun c18 => ?_)
        · refine lv_iinc (v := (nI (k + 1))) (lv' := [(3, .int (nI (k + 1))), (0, .ref x), (1, .int (nI i)), (2, .int (nI (cntF (fun b => markB S i b) k)))]) hx hb dX4_countMarksOf_24 hl (k := 3) rfl (g_inc k 1) (by decide) rfl (fun ls hl => ?_)
          refine lv_goto (tgt := 4) hx hb dX4_countMarksOf_27 (by decide) ?_
          have e_2 : (nI (cntF (fun b => markB S i b) k)) = (nI (cntF (fun b => markB S i b) (k + 1))) := (by rw [cntF_f (p := fun b => markB S i b) (c18)])
          have hl := lv_sub hl (l' := [(0, .ref x), (1, .int (nI i)), (2, .int (nI (cntF (fun b => markB S i b) k))), (3, .int (nI (k + 1)))]) [1, 2, 3, 0] rfl
          rw [e_2] at hl
          exact ih_lp (k + 1) (by omega) (by omega) H locs ls hz hP hS hl
        · refine lv_iinc (v := (nI (cntF (fun b => markB S i b) k + 1))) (lv' := [(2, .int (nI (cntF (fun b => markB S i b) k + 1))), (0, .ref x), (1, .int (nI i)), (3, .int (nI k))]) hx hb dX4_countMarksOf_21 hl (k := 2) rfl (g_inc (cntF (fun b => markB S i b) k) 1) (by decide) rfl (fun ls hl => ?_)
          refine lv_iinc (v := (nI (k + 1))) (lv' := [(3, .int (nI (k + 1))), (2, .int (nI (cntF (fun b => markB S i b) k + 1))), (0, .ref x), (1, .int (nI i))]) hx hb dX4_countMarksOf_24 hl (k := 3) rfl (g_inc k 1) (by decide) rfl (fun ls hl => ?_)
          refine lv_goto (tgt := 4) hx hb dX4_countMarksOf_27 (by decide) ?_
          have e_2 : (nI (cntF (fun b => markB S i b) k + 1)) = (nI (cntF (fun b => markB S i b) (k + 1))) := (by rw [cntF_t (p := fun b => markB S i b) (c18)])
          have hl := lv_sub hl (l' := [(0, .ref x), (1, .int (nI i)), (2, .int (nI (cntF (fun b => markB S i b) k + 1))), (3, .int (nI (k + 1)))]) [2, 3, 1, 0] rfl
          rw [e_2] at hl
          exact ih_lp (k + 1) (by omega) (by omega) H locs ls hz hP hS hl
  exact lp _ 0 (by omega) (Nat.lt_succ_self _) H locs ls hz hP hS (lv_sub hl [2, 3, 1, 0] rfl)

theorem nX4_hasToSing_X4 : ∀ w ∈ wsX40, w ∈ wsX4_hasToSing := by decide +kernel
set_option maxHeartbeats 4000000 in
set_option maxRecDepth 100000 in
theorem c_X4_hasToSing (l : Launch) (x : Nat) (S : sS) (i b : Nat) (σ : gS) (sz : Nat) (hSt : StAt σ x S) (hb0 : b < 96) (hi0 : i < 2147483648) (hKs : sK S ≤ 8) : gM l yX4_hasToSing wsX4_hasToSing ({ frames := 2, cells := 0, slots := 0, locals := 43 } : Room) 0 0 [.ref x, .int (nI i), .int (nI b)] σ sz (gi (bI (toSing S i b)) σ sz) := by
  refine gM_of (cc := cX4_hasToSing) (maxL := 4) (ret := (some .boolean)) (by decide) rfl (Nat.le_of_ble_eq_true rfl) ?_
  intro D ka lo hL hlo p e s m below meth c hx hb hr hts hown hml hlk hnm hK H locs ls hz hP hS hl
  have hl : lv_has ls 4 [(0, .ref x), (1, .int (nI i)), (2, .int (nI b))] := hl
  have hown : s.vm.findClass RX4 = some m.cls := hown
  refine lv_aload_n hx hb dX4_hasToSing_0 rfl (lv_at hl 0 rfl) ?_
  refine lv_iload_n hx hb dX4_hasToSing_1 rfl (lv_at hl 2 rfl) ?_
  refine g_runV (As := [.int (nI b)]) (rest := []) (own := RX4) (C := RX4) (T := TX4) (N := 13) 1 hx hb hml hown hts hK hz hP hL hS hlo hl.1 (c_X4_isRest l x S b σ sz hSt (by omega)) gX4_hasToSing_X4_isRest rfl rfl rfl (by decide +kernel) ⟨Nat.le_of_ble_eq_true rfl, Nat.le_of_ble_eq_true rfl⟩ hSt.c0 rfl rfl rfl (Nat.le_of_ble_eq_true rfl) dX4_hasToSing_2 ⟨Nat.le_of_ble_eq_true rfl, Nat.le_of_ble_eq_true rfl⟩ (g_ki0 (fun H locs hz hP hL hS => ?_))
  refine g_ifb_ne (tgt := 16) hx hb dX4_hasToSing_5 (by decide) (fun c5 => ?_) (fun c5 => ?_)
  · refine lv_iconst (v := (nI 0)) hx hb dX4_hasToSing_16 (by decide) ?_
    exact g_zret (z := sz) hx hb hr hlk hz hP hL hS rfl dX4_hasToSing_17 (gi_i (by simp [toSing, soloOk, bI, nI_0, show nI 1 = (1 : Int32) from rfl, c5]) rfl)
  · refine lv_aload_n hx hb dX4_hasToSing_8 rfl (lv_at hl 0 rfl) ?_
    refine lv_iload_n hx hb dX4_hasToSing_9 rfl (lv_at hl 1 rfl) ?_
    refine g_runV (As := [.int (nI i)]) (rest := []) (own := RX4) (C := RX4) (T := TX4) (N := 13) 1 hx hb hml hown hts hK hz hP hL hS hlo hl.1 (c_X4_isPresent l x S i σ sz hSt) gX4_hasToSing_X4_isPresent rfl rfl rfl (by decide +kernel) ⟨Nat.le_of_ble_eq_true rfl, Nat.le_of_ble_eq_true rfl⟩ hSt.c0 rfl rfl rfl (Nat.le_of_ble_eq_true rfl) dX4_hasToSing_10 ⟨Nat.le_of_ble_eq_true rfl, Nat.le_of_ble_eq_true rfl⟩ (g_ki0 (fun H locs hz hP hL hS => ?_))
    refine g_ifb_ne (tgt := 18) hx hb dX4_hasToSing_13 (by decide) (fun c13 => ?_) (fun c13 => ?_)
    · refine lv_aload_n hx hb dX4_hasToSing_18 rfl (lv_at hl 0 rfl) ?_
      refine lv_iload_n hx hb dX4_hasToSing_19 rfl (lv_at hl 2 rfl) ?_
      refine g_runV (As := [.int (nI b)]) (rest := []) (own := RX4) (C := RX4) (T := TX4) (N := 13) 1 hx hb hml hown hts hK hz hP hL hS hlo hl.1 (c_X4_soloAt l x S b σ sz hSt (by omega)) gX4_hasToSing_X4_soloAt rfl rfl rfl (by decide +kernel) ⟨Nat.le_of_ble_eq_true rfl, Nat.le_of_ble_eq_true rfl⟩ hSt.c0 rfl rfl rfl (Nat.le_of_ble_eq_true rfl) dX4_hasToSing_20 ⟨Nat.le_of_ble_eq_true rfl, Nat.le_of_ble_eq_true rfl⟩ (g_ki0 (fun H locs hz hP hL hS => ?_))
      rcases hso : soloF S b with _ | so
      · refine g_top (y := (-5)) rfl ?_
        refine lv_istore_n (lv' := [(3, .int (-5)), (0, .ref x), (1, .int (nI i)), (2, .int (nI b))]) hx hb dX4_hasToSing_23 rfl hl (by decide) rfl (fun ls hl => ?_)
        refine lv_iload_n hx hb dX4_hasToSing_24 rfl (lv_at hl 0 rfl) ?_
        refine lv_bipush (v := (-5)) hx hb dX4_hasToSing_25 (by decide) ?_
        refine lv_icmp_eq (tgt := 42) hx hb dX4_hasToSing_27 (by decide) (fun c27 => ?_) (fun c27 => absurd rfl c27)
        refine lv_iconst (v := (nI 1)) hx hb dX4_hasToSing_42 (by decide) ?_
        refine lv_goto (tgt := 47) hx hb dX4_hasToSing_43 (by decide) ?_
        exact g_zret (z := sz) hx hb hr hlk hz hP hL hS rfl dX4_hasToSing_47 (gi_i (by simp [toSing, soloOk, bI, nI_0, show nI 1 = (1 : Int32) from rfl, c5, c13, hso]) rfl)
      · refine g_top (y := (nI so)) rfl ?_
        have hso2 := soloF_lt hso
        refine lv_istore_n (lv' := [(3, .int (nI so)), (0, .ref x), (1, .int (nI i)), (2, .int (nI b))]) hx hb dX4_hasToSing_23 rfl hl (by decide) rfl (fun ls hl => ?_)
        refine lv_iload_n hx hb dX4_hasToSing_24 rfl (lv_at hl 0 rfl) ?_
        refine lv_bipush (v := (-5)) hx hb dX4_hasToSing_25 (by decide) ?_
        refine lv_icmp_eq (tgt := 42) hx hb dX4_hasToSing_27 (by decide) (fun c27 => absurd c27 (g_ne5 (by omega))) (fun c27 => ?_)
        refine lv_aload_n hx hb dX4_hasToSing_30 rfl (lv_at hl 1 rfl) ?_
        refine g_get (C := RX4) (T := TX4) (N := 13) hx hb hts hown hK hP hSt.c0 nX4_hasToSing_X4 rfl 10 (by decide) (by decide +kernel) rfl (v := .ref (x + 11)) rfl dX4_hasToSing_31 ?_
        refine lv_iload_n hx hb dX4_hasToSing_34 rfl (lv_at hl 0 rfl) ?_
        refine g_runV (As := [.int (nI so)]) (rest := []) (own := RX4) (C := RX2) (T := TX2) (N := 1) 1 hx hb hml hown hts hK hz hP hL hS hlo hl.1 (c_X2_at l (x + 11) 8 so (S 5) σ sz ⟨hSt.c11, hSt.c12⟩ (by omega) (by omega)) gX4_hasToSing_X2_at rfl rfl rfl (by decide +kernel) ⟨Nat.le_of_ble_eq_true rfl, Nat.le_of_ble_eq_true rfl⟩ hSt.c11 rfl rfl rfl (Nat.le_of_ble_eq_true rfl) dX4_hasToSing_35 ⟨Nat.le_of_ble_eq_true rfl, Nat.le_of_ble_eq_true rfl⟩ (g_ki0 (fun H locs hz hP hL hS => ?_))
        refine lv_iload_n hx hb dX4_hasToSing_38 rfl (lv_at hl 2 rfl) ?_
        refine lv_icmp_ne (tgt := 46) hx hb dX4_hasToSing_39 (by decide) (fun c39 => ?_) (fun c39 => ?_)
        · refine lv_iconst (v := (nI 0)) hx hb dX4_hasToSing_46 (by decide) ?_
          exact g_zret (z := sz) hx hb hr hlk hz hP hL hS rfl dX4_hasToSing_47 (gi_i (by simp [toSing, soloOk, bI, nI_0, show nI 1 = (1 : Int32) from rfl, c5, c13, hso, c39, c39]) rfl)
        · refine lv_iconst (v := (nI 1)) hx hb dX4_hasToSing_42 (by decide) ?_
          refine lv_goto (tgt := 47) hx hb dX4_hasToSing_43 (by decide) ?_
          exact g_zret (z := sz) hx hb hr hlk hz hP hL hS rfl dX4_hasToSing_47 (gi_i (by simp [toSing, soloOk, bI, nI_0, show nI 1 = (1 : Int32) from rfl, c5, c13, hso, c39, c39]) rfl)
    · refine lv_iconst (v := (nI 0)) hx hb dX4_hasToSing_16 (by decide) ?_
      exact g_zret (z := sz) hx hb hr hlk hz hP hL hS rfl dX4_hasToSing_17 (gi_i (by simp [toSing, soloOk, bI, nI_0, show nI 1 = (1 : Int32) from rfl, c5, c13]) rfl)

theorem nX4_doing_X4 : ∀ w ∈ wsX40, w ∈ wsX4_doing := by decide +kernel
set_option maxHeartbeats 4000000 in
set_option maxRecDepth 100000 in
theorem c_X4_doing (l : Launch) (x : Nat) (S : sS) (i b : Nat) (lf : Int32) (σ : gS) (sz : Nat) (hSt : StAt σ x S) (hb0 : b < 96) (hi0 : i < 2147483648) (hKs : sK S ≤ 8) : gM l yX4_doing wsX4_doing ({ frames := 3, cells := 0, slots := 0, locals := 66 } : Room) 0 0 [.ref x, .int (nI i), .int (nI b), .int lf] σ sz (gi (nI (doN S i b lf)) σ sz) := by
  refine gM_of (cc := cX4_doing) (maxL := 4) (ret := (some .int)) (by decide) rfl (Nat.le_of_ble_eq_true rfl) ?_
  intro D ka lo hL hlo p e s m below meth c hx hb hr hts hown hml hlk hnm hK H locs ls hz hP hS hl
  have hl : lv_has ls 4 [(0, .ref x), (1, .int (nI i)), (2, .int (nI b)), (3, .int lf)] := hl
  have hown : s.vm.findClass RX4 = some m.cls := hown
  refine lv_aload_n hx hb dX4_doing_0 rfl (lv_at hl 0 rfl) ?_
  refine lv_iload_n hx hb dX4_doing_1 rfl (lv_at hl 1 rfl) ?_
  refine lv_iload_n hx hb dX4_doing_2 rfl (lv_at hl 2 rfl) ?_
  refine g_runV (As := [.int (nI i), .int (nI b)]) (rest := []) (own := RX4) (C := RX4) (T := TX4) (N := 13) 2 hx hb hml hown hts hK hz hP hL hS hlo hl.1 (c_X4_hasToSing l x S i b σ sz hSt (by omega) (by omega) (by omega)) gX4_doing_X4_hasToSing rfl rfl rfl (by decide +kernel) ⟨Nat.le_of_ble_eq_true rfl, Nat.le_of_ble_eq_true rfl⟩ hSt.c0 rfl rfl rfl (Nat.le_of_ble_eq_true rfl) dX4_doing_3 ⟨Nat.le_of_ble_eq_true rfl, Nat.le_of_ble_eq_true rfl⟩ (g_ki0 (fun H locs hz hP hL hS => ?_))
  refine g_ifb_ne (tgt := 11) hx hb dX4_doing_6 (by decide) (fun c6 => ?_) (fun c6 => ?_)
  · refine lv_aload_n hx hb dX4_doing_11 rfl (lv_at hl 0 rfl) ?_
    refine lv_iload_n hx hb dX4_doing_12 rfl (lv_at hl 1 rfl) ?_
    refine lv_iload_n hx hb dX4_doing_13 rfl (lv_at hl 2 rfl) ?_
    refine g_runV (As := [.int (nI i), .int (nI b)]) (rest := []) (own := RX4) (C := RX4) (T := TX4) (N := 13) 2 hx hb hml hown hts hK hz hP hL hS hlo hl.1 (c_X4_isMarked l x S i b σ sz hSt (by omega)) gX4_doing_X4_isMarked rfl rfl rfl (by decide +kernel) ⟨Nat.le_of_ble_eq_true rfl, Nat.le_of_ble_eq_true rfl⟩ hSt.c0 rfl rfl rfl (Nat.le_of_ble_eq_true rfl) dX4_doing_14 ⟨Nat.le_of_ble_eq_true rfl, Nat.le_of_ble_eq_true rfl⟩ (g_ki0 (fun H locs hz hP hL hS => ?_))
    refine g_ifb_eq (tgt := 22) hx hb dX4_doing_17 (by decide) (fun c17 => ?_) (fun c17 => ?_)
    · refine lv_iload_n hx hb dX4_doing_22 rfl (lv_at hl 3 rfl) ?_
      refine lv_aload_n hx hb dX4_doing_23 rfl (lv_at hl 0 rfl) ?_
      refine g_get (C := RX4) (T := TX4) (N := 13) hx hb hts hown hK hP hSt.c0 nX4_doing_X4 rfl 6 (by decide) (by decide +kernel) rfl (v := .ref (x + 3)) rfl dX4_doing_24 ?_
      refine lv_iload_n hx hb dX4_doing_27 rfl (lv_at hl 2 rfl) ?_
      refine g_runV (As := [.int (nI b)]) (rest := [.int lf]) (own := RX4) (C := RX2) (T := TX2) (N := 1) 1 hx hb hml hown hts hK hz hP hL hS hlo hl.1 (c_X2_at l (x + 3) 96 b (S 1) σ sz ⟨hSt.c3, hSt.c4⟩ (by omega) (by omega)) gX4_doing_X2_at rfl rfl rfl (by decide +kernel) ⟨Nat.le_of_ble_eq_true rfl, Nat.le_of_ble_eq_true rfl⟩ hSt.c3 rfl rfl rfl (Nat.le_of_ble_eq_true rfl) dX4_doing_28 ⟨Nat.le_of_ble_eq_true rfl, Nat.le_of_ble_eq_true rfl⟩ (g_ki0 (fun H locs hz hP hL hS => ?_))
      refine lv_icmp_ge (tgt := 38) hx hb dX4_doing_31 (by decide) (fun c31 => ?_) (fun c31 => ?_)
      · refine lv_iconst (v := (nI 0)) hx hb dX4_doing_38 (by decide) ?_
        exact g_iret (z := sz) hx hb hr hlk hz hP hL hS dX4_doing_39 (gi_i (by simp [doN, c6, c17, Int32.not_lt.mpr c31]) rfl)
      · refine lv_iconst (v := (nI 2)) hx hb dX4_doing_34 (by decide) ?_
        refine lv_goto (tgt := 39) hx hb dX4_doing_35 (by decide) ?_
        exact g_iret (z := sz) hx hb hr hlk hz hP hL hS dX4_doing_39 (gi_i (by simp [doN, c6, c17, Int32.not_le.mp c31]) rfl)
    · refine lv_iconst (v := (nI 1)) hx hb dX4_doing_20 (by decide) ?_
      exact g_iret (z := sz) hx hb hr hlk hz hP hL hS dX4_doing_21 (gi_i (by simp [doN, c6, c17]) rfl)
  · refine lv_iconst (v := (nI 3)) hx hb dX4_doing_9 (by decide) ?_
    exact g_iret (z := sz) hx hb hr hlk hz hP hL hS dX4_doing_10 (gi_i (by simp [doN, c6]) rfl)
