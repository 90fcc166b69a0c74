/-! texts as the law types them -/
def sgnL (its : Nat) : Int32 := if its = 0 then nI 46 else if its = 1 then nI 45 else nI 111
def loN (its fo : Nat) : Int32 := if 0 < its ∧ 0 < fo then nI fo else nI 2
/-- what may stand behind an item: the end, or a new item's sign -/
def Nx (y : Int32) : Prop := y = -1 ∨ y = nI 45 ∨ y = nI 46 ∨ y = nI 111
theorem nx_s {its : Nat} : Nx (sgnL its) := by
  rw [sgnL]
  split
  · exact Or.inr (Or.inr (Or.inl rfl))
  · split
    · exact Or.inr (Or.inl rfl)
    · exact Or.inr (Or.inr (Or.inr rfl))
theorem Nx.d {y : Int32} (h : Nx y) : inB y (nI 48) (nI 57) = false ∧ inB y (nI 49) (nI 53) = false ∧ y ≠ nI 120 := by
  rcases h with h | h | h | h <;> rw [h] <;> decide
theorem x_d : inB (nI 120) (nI 48) (nI 57) = false ∧ inB (nI 120) (nI 49) (nI 53) = false := by decide
theorem so_sgn {its : Nat} (h : its < 3) : soI (sgnL its) = nI its := by
  rcases (show its = 0 ∨ its = 1 ∨ its = 2 by omega) with e | e | e <;> rw [e] <;> decide
theorem sg_in {g : Nat → Int32} {n a : Nat} (h : a < n) : sgI g n a = g a := by rw [sgI, if_pos h]
theorem sg_out {g : Nat → Int32} {n a : Nat} (h : n ≤ a) : sgI g n a = -1 := by rw [sgI, if_neg (by omega)]
/-- the loudness of an item that lies there -/
theorem it_lo {g : Nat → Int32} {n a its fo a4 : Nat} (hits : its < 3)
    (hl : (0 < its ∧ 0 < fo ∧ fo ≤ 5 ∧ a4 = a + 2 ∧ a + 1 < n ∧ g (a + 1) = nI (48 + fo)) ∨ ((its = 0 ∨ fo = 0) ∧ a4 = a + 1 ∧ inB (sgI g n a4) (nI 49) (nI 53) = false)) :
    loF g n (a + 1) (nI its) = (loN its fo, a4) := by
  rcases hl with ⟨h1, h2, h3, h4, h5, h6⟩ | ⟨h1, h2, h3⟩
  · rw [lo_y (d := fo) (fun q => by have := (nI_leI (b := 0) (by omega) (by decide)).mp q; omega) (dg_k (by omega) h5 h6) h2 h3, loN, if_pos ⟨h1, h2⟩, h4]
  · have e : loN its fo = nI 2 := by rw [loN, if_neg (by omega)]
    rw [e, h2]
    rw [h2] at h3
    exact lo_n h3
theorem it_go {g : Nat → Int32} {n a its fo ti a4 a5 : Nat} (ha : a < n) (hs : g a = sgnL its) (hits : its < 3)
    (hl : (0 < its ∧ 0 < fo ∧ fo ≤ 5 ∧ a4 = a + 2 ∧ a + 1 < n ∧ g (a + 1) = nI (48 + fo)) ∨ ((its = 0 ∨ fo = 0) ∧ a4 = a + 1 ∧ inB (sgI g n a4) (nI 49) (nI 53) = false))
    (ht : (ti = 1 ∧ a5 = a4 ∧ sgI g n a4 ≠ nI 120) ∨ (2 ≤ ti ∧ ti ≤ 9 ∧ a5 = a4 + 2 ∧ a4 + 1 < n ∧ g a4 = nI 120 ∧ g (a4 + 1) = nI (48 + ti) ∧ inB (sgI g n a5) (nI 48) (nI 57) = false)) :
    itF g n a = (true, a5, nI its, loN its fo, ti) := by
  have e0 : sgI g n a = sgnL its := by rw [sg_in ha, hs]
  have e1 : soI (sgI g n a) = nI its := by rw [e0, so_sgn hits]
  have e2 : ¬ soI (sgI g n a) < 0 := by rw [e1]; exact Int32.not_lt.mpr (nI_pos' (by omega))
  have e3 : loF g n (a + 1) (soI (sgI g n a)) = (loN its fo, a4) := by rw [e1]; exact it_lo hits hl
  rcases ht with ⟨h1, h2, h3⟩ | ⟨h1, h2, h3, h4, h5, h6, h7⟩
  · rw [it_1 e2 e3 h3, e1, h1, h2]
  · rw [it_x e2 e3 (by rw [sg_in (by omega), h5]), tm_1 (dg_k (by omega) h4 h6) (by omega) (dg_0 (by rw [show a4 + 1 + 1 = a5 by omega]; exact h7)), e1, h3, decide_eq_true (show ti ≠ 1 by omega)]
/-- an x with nothing that counts behind it -/
theorem it_bad {g : Nat → Int32} {n a its fo a4 : Nat} (ha : a < n) (hs : g a = sgnL its) (hits : its < 3)
    (hl : (0 < its ∧ 0 < fo ∧ fo ≤ 5 ∧ a4 = a + 2 ∧ a + 1 < n ∧ g (a + 1) = nI (48 + fo)) ∨ ((its = 0 ∨ fo = 0) ∧ a4 = a + 1 ∧ inB (sgI g n a4) (nI 49) (nI 53) = false))
    (h4 : a4 < n) (hx : g a4 = nI 120) (hd : inB (sgI g n (a4 + 1)) (nI 48) (nI 57) = false) : (itF g n a).1 = false ∧ (itF g n a).2.1 = a4 + 1 := by
  have e1 : soI (sgI g n a) = nI its := by rw [sg_in ha, hs, so_sgn hits]
  have e2 : ¬ soI (sgI g n a) < 0 := by rw [e1]; exact Int32.not_lt.mpr (nI_pos' (by omega))
  have e3 : loF g n (a + 1) (soI (sgI g n a)) = (loN its fo, a4) := by rw [e1]; exact it_lo hits hl
  have e4 : tmF g n (a4 + 1) = (false, a4 + 1, 0) := by simp [tmF, dg_0 hd]
  rw [it_x e2 e3 (by rw [sg_in h4, hx]), e4]
  exact ⟨rfl, rfl⟩
/-- k items are read to the place a, and give V -/
def LyI (S0 : sS) (f : Nat → Int32) (k a : Nat) (V : sS) : Prop := ∀ (g : Nat → Int32) (n : Nat), (∀ j, j < a → g j = f j) → a ≤ n → n ≤ 60 → Nx (sgI g n a) → wrF g n 60 0 S0 = wrF g n (60 - k) a V ∧ paF g n 60 0 0 none = paF g n (60 - k) a (sB V) none
/-- an x x behind the items is a fault there -/
def LyX (f : Nat → Int32) (a : Nat) : Prop := ∀ g : Nat → Int32, (∀ j, j < a → g j = f j) → g a = nI 120 → g (a + 1) = nI 120 → a + 2 ≤ 60 → ∃ p, ffI g (a + 2) = nI p ∧ a ≤ p ∧ p ≤ a + 1
theorem LyI.z {S0 : sS} (h : sB S0 = 0) (f : Nat → Int32) : LyI S0 f 0 0 S0 := fun g n _ _ _ _ => ⟨rfl, by rw [h]⟩
/-- the item at a: sign, loudness, times, up to a5 -/
def ItA (t : Nat → Int32) (a its fo ti a4 a5 : Nat) : Prop := t a = sgnL its ∧ its < 3 ∧ ((0 < its ∧ 0 < fo ∧ fo ≤ 5 ∧ a4 = a + 2 ∧ t (a + 1) = nI (48 + fo)) ∨ ((its = 0 ∨ fo = 0) ∧ a4 = a + 1)) ∧ ((ti = 1 ∧ a5 = a4) ∨ (2 ≤ ti ∧ ti ≤ 9 ∧ a5 = a4 + 2 ∧ t a4 = nI 120 ∧ t (a4 + 1) = nI (48 + ti)))
theorem ItA.go {t g : Nat → Int32} {a its fo ti a4 a5 n : Nat} (h : ItA t a its fo ti a4 a5) (hg : ∀ j, j < a5 → g j = t j) (h5 : a5 ≤ n) (hx : inB (sgI g n a5) (nI 48) (nI 57) = false ∧ inB (sgI g n a5) (nI 49) (nI 53) = false ∧ (ti = 1 → sgI g n a5 ≠ nI 120)) : a < n ∧ itF g n a = (true, a5, nI its, loN its fo, ti) := by
  obtain ⟨h1, h2, h3, h4⟩ := h
  have ha5 : a < a5 := by
    rcases h3 with q | q <;> rcases h4 with r | r <;> omega
  refine ⟨by omega, it_go (a4 := a4) (by omega) (by rw [hg a ha5, h1]) h2 ?_ ?_⟩
  · rcases h3 with ⟨q1, q2, q3, q4, q5⟩ | ⟨q1, q2⟩
    · refine Or.inl ⟨q1, q2, q3, q4, ?_, ?_⟩
      · rcases h4 with r | r <;> omega
      · rw [hg (a + 1) (by rcases h4 with r | r <;> omega), q5]
    · refine Or.inr ⟨q1, q2, ?_⟩
      rcases h4 with ⟨r1, r2⟩ | ⟨r1, r2, r3, r4, r5⟩
      · rw [← r2]; exact hx.2.1
      · rw [sg_in (by omega), hg a4 (by omega), r4]; exact x_d.2
  · rcases h4 with ⟨r1, r2⟩ | ⟨r1, r2, r3, r4, r5⟩
    · exact Or.inl ⟨r1, r2, by rw [← r2]; exact hx.2.2 r1⟩
    · exact Or.inr ⟨r1, r2, r3, by omega, by rw [hg a4 (by omega), r4], by rw [hg (a4 + 1) (by omega), r5], hx.1⟩
theorem ItA.lt {t : Nat → Int32} {a its fo ti a4 a5 : Nat} (h : ItA t a its fo ti a4 a5) : a < a5 ∧ a5 ≤ a + 4 ∧ 1 ≤ ti ∧ ti ≤ 9 := by
  obtain ⟨h1, h2, h3, h4⟩ := h
  rcases h3 with q | q <;> rcases h4 with r | r <;> omega
theorem LyI.step {S0 V : sS} {f t : Nat → Int32} {k a its fo ti a4 a5 : Nat} (h : LyI S0 f k a V) (hf : ∀ j, j < a → t j = f j) (hi : ItA t a its fo ti a4 a5) (hk : k < 60) (hB : sB V + ti ≤ 96) : LyI S0 t (k + 1) a5 (appF V (nI its) (loN its fo) ti) := fun g n hg h5 hn hx => by
  have hl := hi.lt
  obtain ⟨ha, hit⟩ := hi.go hg h5 ⟨hx.d.1, hx.d.2.1, fun _ => hx.d.2.2⟩
  have hsa : sgI g n a = sgnL its := by rw [sg_in ha, hg a (by omega), hi.1]
  obtain ⟨e1, e2⟩ := h g n (fun j hj => by rw [hg j (by omega), hf j hj]) (by omega) hn (by rw [hsa]; exact nx_s)
  have h1 : (itF g n a).1 = true := by rw [hit]
  have w := wrF_s (S := V) hk ha h1
  have p := paF_s (su := sB V) (tm := none) hk ha h1
  rw [hit] at w p
  rw [if_neg (show ¬ (96 < sB V + ti ∧ (none : Option Nat) = none) by omega)] at p
  rw [e1, e2, ← w, ← p, appF_B V _ _ ti (by omega)]
  exact ⟨rfl, rfl⟩
theorem LyX.step {S0 V : sS} {f t : Nat → Int32} {k a its fo ti a4 a5 : Nat} (h : LyI S0 f k a V) (hf : ∀ j, j < a → t j = f j) (hi : ItA t a its fo ti a4 a5) (hk : k + 1 < 60) (hB : sB V + ti ≤ 96) : LyX t a5 := fun g hg hx hx2 hn => by
  have hl := hi.lt
  have s1 : sgI g (a5 + 2) a5 = nI 120 := by rw [sg_in (by omega), hx]
  have s2 : sgI g (a5 + 2) (a5 + 1) = nI 120 := by rw [sg_in (by omega), hx2]
  have hsa : sgI g (a5 + 2) a = sgnL its := by rw [sg_in (by omega), hg a (by omega), hi.1]
  obtain ⟨-, e2⟩ := h g (a5 + 2) (fun j hj => by rw [hg j (by omega), hf j hj]) (by omega) hn (by rw [hsa]; exact nx_s)
  rw [ffI, if_neg (by omega), e2]
  by_cases c : ti = 1
  · obtain ⟨h1, h2, h3, h4⟩ := hi
    have h5 : a5 = a4 := by rcases h4 with r | r <;> omega
    have hb := it_bad (g := g) (n := a5 + 2) (a := a) (its := its) (fo := fo) (a4 := a4) (by omega) (by rw [hg a (by omega), h1]) h2 (by
      rcases h3 with ⟨q1, q2, q3, q4, q5⟩ | ⟨q1, q2⟩
      · exact Or.inl ⟨q1, q2, q3, q4, by omega, by rw [hg (a + 1) (by omega), q5]⟩
      · exact Or.inr ⟨q1, q2, by rw [← h5, s1]; exact x_d.2⟩) (by omega) (by rw [← h5, hx]) (by rw [← h5, s2]; exact x_d.1)
    refine ⟨a5 + 1, ?_, by omega, by omega⟩
    rw [paF_f2 (by omega) (by omega) hb.1 hb.2, h5]
  · obtain ⟨ha, hit⟩ := hi.go (n := a5 + 2) hg (by omega) ⟨by rw [s1]; exact x_d.1, by rw [s1]; exact x_d.2, fun q => absurd q c⟩
    have p := paF_s (su := sB V) (tm := none) (by omega : k < 60) ha (show (itF g (a5 + 2) a).1 = true by rw [hit])
    rw [hit] at p
    rw [if_neg (show ¬ (96 < sB V + ti ∧ (none : Option Nat) = none) by omega)] at p
    rw [← p]
    have hb := it_n (f := g) (n := a5 + 2) (a := a5) (by rw [s1]; decide)
    refine ⟨a5, ?_, by omega, by omega⟩
    show paF g (a5 + 2) (60 - (k + 1)) a5 (sB V + ti) none = nI a5
    exact paF_f2 hk (by omega) hb.1 hb.2
/-- an item with an x and nothing behind it -/
theorem rd_x {S0 V : sS} {f t : Nat → Int32} {k a its fo a4 : Nat} (h : LyI S0 f k a V) (hf : ∀ j, j < a → t j = f j) (hs : t a = sgnL its) (hits : its < 3) (hl : (0 < its ∧ 0 < fo ∧ fo ≤ 5 ∧ a4 = a + 2 ∧ t (a + 1) = nI (48 + fo)) ∨ ((its = 0 ∨ fo = 0) ∧ a4 = a + 1)) (hx : t a4 = nI 120) (hk : k < 60) (hn : a4 + 1 ≤ 60) : ffI t (a4 + 1) = nI (a4 + 1) := by
  have h4 : a < a4 := by rcases hl with q | q <;> omega
  have hsa : sgI t (a4 + 1) a = sgnL its := by rw [sg_in (by omega), hs]
  obtain ⟨-, e2⟩ := h t (a4 + 1) hf (by omega) hn (by rw [hsa]; exact nx_s)
  have hb := it_bad (g := t) (n := a4 + 1) (a := a) (its := its) (fo := fo) (a4 := a4) (by omega) hs hits (by
    rcases hl with ⟨q1, q2, q3, q4, q5⟩ | ⟨q1, q2⟩
    · exact Or.inl ⟨q1, q2, q3, q4, by omega, q5⟩
    · exact Or.inr ⟨q1, q2, by rw [sg_in (by omega), hx]; exact x_d.2⟩) (by omega) hx (by rw [sg_out (Nat.le_refl _)]; decide)
  rw [ffI, if_neg (by omega), e2, paF_f2 hk (by omega) hb.1 hb.2]
theorem rd_ok {S0 V : sS} {f : Nat → Int32} {k a : Nat} (h : LyI S0 f k a V) (ha : 0 < a) (hn : a ≤ 60) : ffI f a < 0 ∧ wrF f a 60 0 S0 = V := by
  obtain ⟨e1, e2⟩ := h f a (fun _ _ => rfl) (Nat.le_refl _) hn (by rw [sg_out (Nat.le_refl _)]; exact Or.inl rfl)
  constructor
  · rw [ffI, if_neg (by omega), e2, paF_e (Or.inr (Nat.le_refl _))]; decide
  · rw [e1, wrF_e (Or.inr (Nat.le_refl _))]
theorem ff_0 (f : Nat → Int32) : ffI f 0 = nI 0 := if_pos rfl
/-! the state that is read -/
def VOk (S0 V : sS) : Prop := (∀ j, 2 ≤ j → j ≠ 8 → V j = S0 j) ∧ (∀ i, i ≠ 0 → V 8 i = S0 8 i) ∧ (∀ b, b < sB V → V 0 b = nI (tk (V 0 b)) ∧ tk (V 0 b) ≤ 2) ∧ ∀ b, b < sB V → V 1 b = nI (tk (V 1 b)) ∧ 1 ≤ tk (V 1 b) ∧ tk (V 1 b) ≤ 5
theorem VOk.z {S0 : sS} (h : sB S0 = 0) : VOk S0 S0 := ⟨fun _ _ _ => rfl, fun _ _ => rfl, fun b hb => absurd hb (by omega), fun b hb => absurd hb (by omega)⟩
theorem ap_0 {V : sS} {so lo : Int32} {t : Nat} : appF V so lo (t + 1) 0 = upd (appF V so lo t 0) (sB (appF V so lo t)) so := rfl
theorem ap_1 {V : sS} {so lo : Int32} {t : Nat} : appF V so lo (t + 1) 1 = upd (appF V so lo t 1) (sB (appF V so lo t)) lo := rfl
theorem VOk.s {S0 V : sS} {so lo : Nat} (h : VOk S0 V) (hs : so ≤ 2) (h1 : 1 ≤ lo) (h5 : lo ≤ 5) : ∀ {t : Nat}, sB V + t < 2147483648 → VOk S0 (appF V (nI so) (nI lo) t)
  | 0, _ => h
  | t + 1, hb => by
    have ih := VOk.s h hs h1 h5 (t := t) (by omega)
    have eB := appF_B V (nI so) (nI lo) t (by omega)
    have eB2 := appF_B V (nI so) (nI lo) (t + 1) (by omega)
    refine ⟨fun j hj h8 => by rw [appF_o V _ _ hj h8 (t + 1)]; exact h.1 j hj h8, fun i hi => by rw [appF_8 V _ _ hi (t + 1)]; exact h.2.1 i hi, fun b hb2 => ?_, fun b hb2 => ?_⟩
    · rw [ap_0]
      by_cases c : b = sB (appF V (nI so) (nI lo) t)
      · rw [c, upd_s, tk_n (by omega)]; exact ⟨rfl, hs⟩
      · rw [upd_n c]; exact ih.2.2.1 b (by omega)
    · rw [ap_1]
      by_cases c : b = sB (appF V (nI so) (nI lo) t)
      · rw [c, upd_s, tk_n (by omega)]; exact ⟨rfl, h1, h5⟩
      · rw [upd_n c]; exact ih.2.2.2 b (by omega)
theorem VOk.it {S0 V : sS} {its fo ti : Nat} (h : VOk S0 V) (hs : its < 3) (hf : fo ≤ 5) (hb : sB V + ti < 2147483648) : VOk S0 (appF V (nI its) (loN its fo) ti) := by
  by_cases c : 0 < its ∧ 0 < fo
  · rw [loN, if_pos c]; exact h.s (by omega) (by omega) (by omega) hb
  · rw [loN, if_neg c]; exact h.s (by omega) (by omega) (by omega) hb
/-- the law's own rows -/
def vrow (V : sS) (r : Nat) : Nat → Int32 := fun q => if q < sB V then V r q else 0
theorem vrow_0 {V : sS} (h : sB V = 0) (r : Nat) : vrow V r = fun _ => 0 := by
  funext q; rw [vrow, if_neg (by omega)]
theorem vrow_s0 {V : sS} {so lo : Int32} {t : Nat} (h : sB V + t + 1 < 2147483648) : upd (vrow (appF V so lo t) 0) (sB V + t) so = vrow (appF V so lo (t + 1)) 0 := by
  have e1 := appF_B V so lo t (by omega)
  have e2 := appF_B V so lo (t + 1) (by omega)
  funext q
  show upd (vrow (appF V so lo t) 0) (sB V + t) so q = (if q < sB (appF V so lo (t + 1)) then appF V so lo (t + 1) 0 q else 0)
  rw [e2, ap_0, e1]
  by_cases c : q = sB V + t
  · rw [c, upd_s, if_pos (by omega), upd_s]
  · rw [upd_n c, upd_n c]
    show (if q < sB (appF V so lo t) then appF V so lo t 0 q else 0) = _
    rw [e1]
    by_cases c2 : q < sB V + t
    · rw [if_pos c2, if_pos (by omega)]
    · rw [if_neg c2, if_neg (by omega)]
theorem vrow_s1 {V : sS} {so lo : Int32} {t : Nat} (h : sB V + t + 1 < 2147483648) : upd (vrow (appF V so lo t) 1) (sB V + t) lo = vrow (appF V so lo (t + 1)) 1 := by
  have e1 := appF_B V so lo t (by omega)
  have e2 := appF_B V so lo (t + 1) (by omega)
  funext q
  show upd (vrow (appF V so lo t) 1) (sB V + t) lo q = (if q < sB (appF V so lo (t + 1)) then appF V so lo (t + 1) 1 q else 0)
  rw [e2, ap_1, e1]
  by_cases c : q = sB V + t
  · rw [c, upd_s, if_pos (by omega), upd_s]
  · rw [upd_n c, upd_n c]
    show (if q < sB (appF V so lo t) then appF V so lo t 1 q else 0) = _
    rw [e1]
    by_cases c2 : q < sB V + t
    · rw [if_pos c2, if_pos (by omega)]
    · rw [if_neg c2, if_neg (by omega)]
theorem rd_okY {S V : sS} (h : okY S) {f : Nat → Int32} {n : Nat} (hn : n ≤ 60) (hf : ffI f n < 0) (e : wrF f n 60 0 (clearS S) = V) (hV : VOk (clearS S) V) : okY V ∧ sN V = sN S ∧ sK V = 0 ∧ suF (fun x => cntF (markB V x) (sB V)) (sN V) = 0 := by
  have h1 : okX V := by rw [← e]; exact h.1.readV hn hf
  have eN : sN V = sN S := by show (V 8 1).toNatClampNeg = _; rw [hV.2.1 1 (by decide)]; rfl
  have eK : sK V = 0 := by show (V 8 3).toNatClampNeg = _; rw [hV.2.1 3 (by decide)]; rfl
  have e3 : V 3 = S 3 := hV.1 3 (by decide) (by decide)
  have e4 : V 4 = S 4 := hV.1 4 (by decide) (by decide)
  have e2 : V 2 = fun _ => 0 := hV.1 2 (by decide) (by decide)
  refine ⟨⟨h1, hV.2.2.1, hV.2.2.2, fun i hi => by rw [e3]; exact h.br (by omega), fun i hi => by rw [e4]; exact h.rc (by omega), fun k hk => absurd hk (by omega), fun k hk => absurd hk (by omega)⟩, eN, eK, ?_⟩
  have hz : ∀ x, cntF (markB V x) (sB V) = 0 := fun x => cntF_0.mpr (fun b _ => by show hasB (V 2 b) x = false; rw [e2]; exact hb_0 x)
  rw [suF_c (g := fun _ => 0) (fun x _ => hz x)]
  exact Nat.le_zero.mp (Nat.le_trans (suF_le (g := fun _ => 0) (c := 0) (fun _ => Nat.le_refl 0) _) (by omega))
theorem m100 : ∀ a, a < 62 → ∀ p, p < 62 → a ≤ p → ¬ ((-99 : Int32) - nI (a + 2) + nI 1 < -100 - nI p) := by decide +kernel
theorem mm0 : (-100 : Int32) - nI 0 = -100 := by decide
theorem upd_lt {f : Nat → Int32} {a j : Nat} {v : Int32} (h : j < a) : upd f a v j = f j := upd_n (by omega)
