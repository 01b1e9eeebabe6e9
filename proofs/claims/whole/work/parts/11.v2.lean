/-! what the public methods answer and do (sp_..), and when they throw what (sx_..) -/
def sp_in (n : Nat) (x : Int32) : Prop := ∃ j, j < n ∧ x = nI j
def sp_pr (y : Int32) : Prop := 1 ≤ y ∧ y ≤ 255
def sx_create (F : Nat → Nat → Int32) (x y : Int32) (E : String) : Prop := (E = xE_I ∧ ¬ sp_in 16 x) ∨ (E = xE_A ∧ sp_in 16 x ∧ ¬ sp_pr y) ∨ (E = xE_S ∧ sp_pr y ∧ ∃ t, t < 16 ∧ x = nI t ∧ ¬ F 0 t = 0)
def sp_create (nL : Nat) (F : Nat → Nat → Int32) (ls x y r : Int32) (u : xS) : Prop := ∃ t E2, t < 16 ∧ x = nI t ∧ sp_pr y ∧ F 0 t = 0 ∧ pq_Eff (xs_hd nL (xs_rd (va_up F 1 (upd (F 1) t y)) ls t)) (upd (F 1) t y) E2 ∧ u = (va_up (xs_rd (va_up F 1 (upd (F 1) t y)) ls t) 2 E2, ls + 1) ∧ r = pq_enc (xs_fm u.1 1 (-1))
def sx_priority (F : Nat → Nat → Int32) (x y : Int32) (E : String) : Prop := (E = xE_I ∧ ¬ sp_in 16 x) ∨ (E = xE_A ∧ sp_in 16 x ∧ ¬ sp_pr y) ∨ (E = xE_S ∧ sp_pr y ∧ ∃ t, t < 16 ∧ x = nI t ∧ F 0 t = 0)
def sp_priority (nL : Nat) (F : Nat → Nat → Int32) (ls x y r : Int32) (u : xS) : Prop := ∃ t E2, t < 16 ∧ x = nI t ∧ sp_pr y ∧ ¬ F 0 t = 0 ∧ pq_Eff (xs_hd nL F) (upd (F 1) t y) E2 ∧ u = (va_up (va_up F 1 (upd (F 1) t y)) 2 E2, ls) ∧ r = F 1 t
def sx_lock (nL : Nat) (F : Nat → Nat → Int32) (x : Int32) (E : String) : Prop := (E = xE_I ∧ ¬ sp_in nL x) ∨ (E = xE_S ∧ sp_in nL x ∧ xs_fm F 1 (-1) = none) ∨ (E = xE_A ∧ ∃ k t, k < nL ∧ x = nI k ∧ xs_fm F 1 (-1) = some t ∧ xs_ww nL F t k)
def sp_lock (nL : Nat) (F : Nat → Nat → Int32) (ls x r : Int32) (u : xS) : Prop := ∃ k t, k < nL ∧ x = nI k ∧ t < 16 ∧ xs_fm F 1 (-1) = some t ∧ ¬ xs_ww nL F t k ∧ ((F 8 k = -1 ∧ r = 0 ∧ u = (va_up F 8 (upd (F 8) k (nI t)), ls)) ∨ (¬ F 8 k = -1 ∧ r = 1 ∧ ∃ E2, pq_Eff (xs_hd nL (xs_en F ls t 2 (nI k))) (F 1) E2 ∧ u = (va_up (xs_en F ls t 2 (nI k)) 2 E2, ls + 1)))
def sx_unlock (nL : Nat) (F : Nat → Nat → Int32) (x : Int32) (E : String) : Prop := (E = xE_I ∧ ¬ sp_in nL x) ∨ (E = xE_S ∧ sp_in nL x ∧ xs_fm F 1 (-1) = none) ∨ (E = xE_A ∧ ∃ k t, k < nL ∧ x = nI k ∧ t < 16 ∧ xs_fm F 1 (-1) = some t ∧ ¬ F 8 k = nI t)
def sp_unlock (nL : Nat) (F : Nat → Nat → Int32) (ls x r : Int32) (u : xS) : Prop := ∃ k t, k < nL ∧ x = nI k ∧ t < 16 ∧ xs_fm F 1 (-1) = some t ∧ F 8 k = nI t ∧ ((xs_fm F 2 (nI k) = none ∧ r = -1 ∧ ∃ E2, pq_Eff (xs_hd nL (va_up F 8 (upd (F 8) k (-1)))) (F 1) E2 ∧ u = (va_up (va_up F 8 (upd (F 8) k (-1))) 2 E2, ls)) ∨
  (∃ j, xs_fm F 2 (nI k) = some j ∧ j < 16 ∧ r = nI j ∧ ∃ E2, pq_Eff (xs_hd nL (xs_rd (va_up F 8 (upd (F 8) k (nI j))) ls j)) (F 1) E2 ∧ u = (va_up (xs_rd (va_up F 8 (upd (F 8) k (nI j))) ls j) 2 E2, ls + 1)))
def sx_run (n : Nat) (F : Nat → Nat → Int32) (x : Int32) (E : String) : Prop := (E = xE_I ∧ ¬ sp_in n x) ∨ (E = xE_S ∧ sp_in n x ∧ xs_fm F 1 (-1) = none)
def sp_down (nC : Nat) (F : Nat → Nat → Int32) (ls x r : Int32) (u : xS) : Prop := ∃ k t, k < nC ∧ x = nI k ∧ t < 16 ∧ xs_fm F 1 (-1) = some t ∧ ((¬ F 9 k ≤ 0 ∧ r = 0 ∧ u = (va_up F 9 (upd (F 9) k (F 9 k - 1)), ls)) ∨ (F 9 k ≤ 0 ∧ r = 1 ∧ u = (xs_en F ls t 3 (nI k), ls + 1)))
def sx_up (nC : Nat) (F : Nat → Nat → Int32) (x : Int32) (E : String) : Prop := (E = xE_I ∧ ¬ sp_in nC x) ∨ (E = xE_U ∧ ∃ k, k < nC ∧ x = nI k ∧ xs_fm F 3 (nI k) = none ∧ ¬ F 9 k < 1000)
def sp_up (nC : Nat) (F : Nat → Nat → Int32) (ls x r : Int32) (u : xS) : Prop := ∃ k, k < nC ∧ x = nI k ∧ ((∃ j, xs_fm F 3 (nI k) = some j ∧ j < 16 ∧ r = nI j ∧ u = (xs_rd F ls j, ls + 1)) ∨ (xs_fm F 3 (nI k) = none ∧ F 9 k < 1000 ∧ r = -1 ∧ u = (va_up F 9 (upd (F 9) k (F 9 k + 1)), ls)))
/-- every box holds four words at most -/
def sp_fi (nB : Nat) (F : Nat → Nat → Int32) : Prop := ∀ k, k < nB → ∃ f, f ≤ 4 ∧ F 10 k = nI f
def sp_send (nB : Nat) (F : Nat → Nat → Int32) (ls x y r : Int32) (u : xS) : Prop := ∃ k t, k < nB ∧ x = nI k ∧ t < 16 ∧ xs_fm F 1 (-1) = some t ∧ ((∃ j, xs_fm F 5 (nI k) = some j ∧ j < 16 ∧ r = 0 ∧ u = (xs_rd (va_up F 6 (upd (F 6) j y)) ls j, ls + 1)) ∨
  (xs_fm F 5 (nI k) = none ∧ ∃ f, f ≤ 4 ∧ F 10 k = nI f ∧ ((f < 4 ∧ r = 0 ∧ u = (va_up (va_up F 11 (upd (F 11) (4 * k + f) y)) 10 (upd (F 10) k (nI (f + 1))), ls)) ∨ (f = 4 ∧ r = 1 ∧ u = (xs_en (va_up F 7 (upd (F 7) t y)) ls t 4 (nI k), ls + 1)))))
/-- a word taken out of a box -/
abbrev xs_tk (F : Nat → Nat → Int32) (k g t : Nat) : Nat → Nat → Int32 := va_up (va_up (va_up F 11 (va_cpy (F 11) (F 11) (4 * k + 1) (4 * k) 3)) 10 (upd (F 10) k (nI g))) 6 (upd (F 6) t (F 11 (4 * k)))
abbrev xs_tp (F : Nat → Nat → Int32) (k g t j : Nat) : Nat → Nat → Int32 := va_up (va_up (xs_tk F k g t) 11 (upd (va_cpy (F 11) (F 11) (4 * k + 1) (4 * k) 3) (4 * k + g) (F 7 j))) 10 (upd (upd (F 10) k (nI g)) k (nI (g + 1)))
def sp_receive (nB : Nat) (F : Nat → Nat → Int32) (ls x r : Int32) (u : xS) : Prop := ∃ k t, k < nB ∧ x = nI k ∧ t < 16 ∧ xs_fm F 1 (-1) = some t ∧ ((F 10 k = 0 ∧ r = 1 ∧ u = (xs_en F ls t 5 (nI k), ls + 1)) ∨
  (∃ g, g ≤ 3 ∧ F 10 k = nI (g + 1) ∧ r = 0 ∧ ((xs_fm F 4 (nI k) = none ∧ u = (xs_tk F k g t, ls)) ∨ (∃ j, xs_fm F 4 (nI k) = some j ∧ j < 16 ∧ u = (xs_rd (xs_tp F k g t j) ls j, ls + 1)))))
def sx_sleep (F : Nat → Nat → Int32) (x : Int32) (E : String) : Prop := (E = xE_S ∧ xs_fm F 1 (-1) = none) ∨ (E = xE_A ∧ (∃ t, xs_fm F 1 (-1) = some t) ∧ ¬ (1 ≤ x ∧ x ≤ 1000))
def sp_sleep (F : Nat → Nat → Int32) (ls x r : Int32) (u : xS) : Prop := ∃ t, t < 16 ∧ xs_fm F 1 (-1) = some t ∧ 1 ≤ x ∧ x ≤ 1000 ∧ u = (va_up (xs_en F ls t 6 (-1)) 5 (upd (F 5) t x), ls + 1) ∧ r = pq_enc (xs_fm u.1 1 (-1))
def sx_end (nL : Nat) (F : Nat → Nat → Int32) (E : String) : Prop := (E = xE_S ∧ xs_fm F 1 (-1) = none) ∨ (E = xE_A ∧ ∃ t, t < 16 ∧ xs_fm F 1 (-1) = some t ∧ ¬ pq_cnt (fun k => decide (F 8 k = nI t)) nL = 0)
abbrev xs_fr (F : Nat → Nat → Int32) (t : Nat) : Nat → Nat → Int32 := va_up (va_up (va_up F 0 (upd (F 0) t 0)) 1 (upd (F 1) t 0)) 6 (upd (F 6) t 0)
def sp_end (nL : Nat) (F : Nat → Nat → Int32) (ls r : Int32) (u : xS) : Prop := ∃ t E2, t < 16 ∧ xs_fm F 1 (-1) = some t ∧ pq_cnt (fun k => decide (F 8 k = nI t)) nL = 0 ∧ pq_Eff (xs_hd nL (xs_fr F t)) (upd (F 1) t 0) E2 ∧ u = (va_up (xs_fr F t) 2 E2, ls) ∧ r = pq_enc (xs_fm u.1 1 (-1))
def sx_tick (x : Int32) (E : String) : Prop := E = xE_A ∧ ¬ (0 ≤ x ∧ x ≤ 1000)
def sp_tick (F : Nat → Nat → Int32) (ls x r : Int32) (u : xS) : Prop := 0 ≤ x ∧ x ≤ 1000 ∧ ∃ z, z = xs_wk x 16 (F, ls) ∧ r = nI z.1 ∧ ∃ T5, (∀ t, t < 16 → T5 t = if z.2.1 0 t = 6 then z.2.1 5 t - x else z.2.1 5 t) ∧ u = (va_up z.2.1 5 T5, z.2.2)
def sx_told (x y : Int32) (E : String) : Prop := (E = xE_I ∧ ¬ sp_in 16 x) ∨ (E = xE_A ∧ sp_in 16 x ∧ (y.toInt < 0 ∨ 6 < y.toInt))
def sp_told (nL : Nat) (F : Nat → Nat → Int32) (x y r : Int32) : Prop := ∃ t, t < 16 ∧ x = nI t ∧ ((y = 0 ∧ r = F 0 t) ∨ (y = 1 ∧ r = F 1 t) ∨ (y = 2 ∧ r = F 2 t) ∨ (y = 3 ∧ r = F 4 t) ∨ (y = 4 ∧ r = F 5 t) ∨ (y = 5 ∧ r = F 6 t) ∨ (y = 6 ∧ r = nI (pq_cnt (fun k => decide (F 8 k = nI t)) nL)))
def sx_first (nL nC nB : Nat) (x y : Int32) (E : String) : Prop := (E = xE_A ∧ (x.toInt < 2 ∨ 5 < x.toInt)) ∨ (E = xE_I ∧ ((x = 2 ∧ ¬ sp_in nL y) ∨ (x = 3 ∧ ¬ sp_in nC y) ∨ ((x = 4 ∨ x = 5) ∧ ¬ sp_in nB y)))
def sp_first (nL nC nB : Nat) (F : Nat → Nat → Int32) (x y r : Int32) : Prop := ((x = 2 ∧ sp_in nL y) ∨ (x = 3 ∧ sp_in nC y) ∨ ((x = 4 ∨ x = 5) ∧ sp_in nB y)) ∧ r = pq_enc (xs_fm F x y)
theorem zn_sw7 (y : Int32) : y = 0 ∨ y = 1 ∨ y = 2 ∨ y = 3 ∨ y = 4 ∨ y = 5 ∨ y = 6 ∨ (y.toInt < 0 ∨ 6 < y.toInt) := by
  by_cases h : y.toInt < 0 ∨ 6 < y.toInt
  · exact Or.inr (Or.inr (Or.inr (Or.inr (Or.inr (Or.inr (Or.inr h))))))
  · have h0 : (0 : Int32).toInt = 0 := by decide
    have h1 : (1 : Int32).toInt = 1 := by decide
    have h2 : (2 : Int32).toInt = 2 := by decide
    have h3 : (3 : Int32).toInt = 3 := by decide
    have h4 : (4 : Int32).toInt = 4 := by decide
    have h5 : (5 : Int32).toInt = 5 := by decide
    have h6 : (6 : Int32).toInt = 6 := by decide
    rcases (show y.toInt = 0 ∨ y.toInt = 1 ∨ y.toInt = 2 ∨ y.toInt = 3 ∨ y.toInt = 4 ∨ y.toInt = 5 ∨ y.toInt = 6 by omega) with e | e | e | e | e | e | e
    · exact Or.inl (Int32.toInt_inj.mp (e.trans h0.symm))
    · exact Or.inr (Or.inl (Int32.toInt_inj.mp (e.trans h1.symm)))
    · exact Or.inr (Or.inr (Or.inl (Int32.toInt_inj.mp (e.trans h2.symm))))
    · exact Or.inr (Or.inr (Or.inr (Or.inl (Int32.toInt_inj.mp (e.trans h3.symm)))))
    · exact Or.inr (Or.inr (Or.inr (Or.inr (Or.inl (Int32.toInt_inj.mp (e.trans h4.symm))))))
    · exact Or.inr (Or.inr (Or.inr (Or.inr (Or.inr (Or.inl (Int32.toInt_inj.mp (e.trans h5.symm)))))))
    · exact Or.inr (Or.inr (Or.inr (Or.inr (Or.inr (Or.inr (Or.inl (Int32.toInt_inj.mp (e.trans h6.symm))))))))
theorem zn_sw4 (y : Int32) : y = 2 ∨ y = 3 ∨ y = 4 ∨ y = 5 ∨ (y.toInt < 2 ∨ 5 < y.toInt) := by
  rcases zn_sw7 y with e | e | e | e | e | e | e | e
  · exact Or.inr (Or.inr (Or.inr (Or.inr (Or.inl (by rw [e]; decide)))))
  · exact Or.inr (Or.inr (Or.inr (Or.inr (Or.inl (by rw [e]; decide)))))
  · exact Or.inl e
  · exact Or.inr (Or.inl e)
  · exact Or.inr (Or.inr (Or.inl e))
  · exact Or.inr (Or.inr (Or.inr (Or.inl e)))
  · exact Or.inr (Or.inr (Or.inr (Or.inr (Or.inr (by rw [e]; decide)))))
  · exact Or.inr (Or.inr (Or.inr (Or.inr (by omega))))
theorem xs_ow_up {nL : Nat} {O : Nat → Int32} (h : xs_ow nL O) {k : Nat} {v : Int32} (hv : v = -1 ∨ ∃ j, j < 16 ∧ v = nI j) : xs_ow nL (upd O k v) := by
  intro i hi
  unfold upd
  split
  · exact hv
  · exact h i hi
set_option maxHeartbeats 1000000 in
set_option maxRecDepth 100000 in
/-- create -/
theorem cX_create (l : Launch) (hlT : l.stackTraces = false) (D : va_G) (h : Nat) (a : Nat → Nat) (cA : Nat → ClassId) (nL nC nB sz : Nat) (hn : nL ≤ 8 ∧ nC ≤ 8 ∧ nB ≤ 8) (F : Nat → Nat → Int32) (ls : Int32) (x y : Int32) (hO : xs_ow nL (F 8)) : vx_Met l yX0_create wsX0_create ({ frames := 7, cells := 3, slots := 18, locals := 102 }) (va_Pc [.ref h, .int x, .int y] (zx_Pre D vwCl (xT cA) (xW h a cA nL nC nB F ls) sz)) (va_Qi (fun (r : Int32) (u : xS) => sp_create nL F ls x y r u) (zz_At D vwCl (xT cA) (fun u : xS => xW h a cA nL nC nB u.1 u.2) (va_A (xW h a cA nL nC nB F ls) sz)) (va_A (xW h a cA nL nC nB F ls) sz)) (zx_X D vwCl (xT cA) (xW h a cA nL nC nB F ls) (fun E => sx_create F x y E) (va_A (xW h a cA nL nC nB F ls) sz)) 3 18 (va_A (xW h a cA nL nC nB F ls) sz) := by
  obtain ⟨hnL, hnC, hnB⟩ := hn
  have hn : nL ≤ 8 ∧ nC ≤ 8 ∧ nB ≤ 8 := ⟨hnL, hnC, hnB⟩
  refine zx_of (Qc := fun A => va_Qi (fun (r : Int32) (u : xS) => sp_create nL F ls x y r u) (zz_At D vwCl (xT cA) (fun u : xS => xW h a cA nL nC nB u.1 u.2) A) A) (XC := fun A => zx_X D vwCl (xT cA) (xW h a cA nL nC nB F ls) (fun E => sx_create F x y E) A) (by decide) rfl (Nat.le_of_ble_eq_true rfl) ?_
  intro p e s m args below meth c A H locs ls0 hx hb hr hml hown hts hlocks ht hT hA hP hK hD hS hl
  have hown : s.vm.findClass RX0 = some m.cls := hown
  have hl : lv_has ls0 3 [(0, .ref h), (1, .int x), (2, .int y)] := hl
  have hin : ∀ w ∈ u_ws RX0 TX0 13, w ∈ wsX0_create := by decide +kernel
  have hf9 := hts (.fieldLink RX0 9 "PriorityCore" "states" "[I") (by decide +kernel)
  have hf13 := hts (.fieldLink RX0 13 "PriorityCore" "bases" "[I") (by decide +kernel)
  refine lv_iload_n hx hb dX0_create_0 rfl (lv_at hl 1 rfl) ?_
  refine zx_cs ht hlocks hK (fun E hE => Or.inl hE) (Nat.le_of_ble_eq_true rfl) (Nat.le_of_ble_eq_true rfl) (vx_runS (As := [.int x]) (rest := []) ⟨hx, hb, hml, hown, hts⟩ (cX_requireTask l hlT D H.size x) (va_cwS 1 hts gX0_create_X0_requireTask rfl rfl rfl (by decide +kernel) ⟨(Nat.le_of_ble_eq_true rfl), (Nat.le_of_ble_eq_true rfl)⟩) (zx_pS (hP.sub (ws' := []) [] rfl) (hK.sub (tys' := []) [] rfl) (hD.sub (ws' := []) [] (by decide) rfl) hA hS hT) rfl rfl hl.1 rfl (lv_room (Nat.le_of_ble_eq_true rfl)) dX0_create_1 ⟨(Nat.le_of_ble_eq_true rfl), (Nat.le_of_ble_eq_true rfl)⟩) hP rfl hD hS hA (fun H locs hw hP hD hS => ?_)
  have hT16 := hw
  have hP : va_P D vwCl (xW h a cA nL nC nB F ls) H := hP
  have hD : va_D A (xW h a cA nL nC nB F ls) := hD
  refine lv_iload_n hx hb dX0_create_4 rfl (lv_at hl 2 rfl) ?_
  refine zx_cs ht hlocks hK (fun E hE => Or.inr (Or.inl ⟨hE.1, hT16, hE.2⟩)) (Nat.le_of_ble_eq_true rfl) (Nat.le_of_ble_eq_true rfl) (vx_runS (As := [.int y]) (rest := []) ⟨hx, hb, hml, hown, hts⟩ (cX_requirePriority l hlT D H.size y) (va_cwS 1 hts gX0_create_X0_requirePriority rfl rfl rfl (by decide +kernel) ⟨(Nat.le_of_ble_eq_true rfl), (Nat.le_of_ble_eq_true rfl)⟩) (zx_pS (hP.sub (ws' := []) [] rfl) (hK.sub (tys' := []) [] rfl) (hD.sub (ws' := []) [] (by decide) rfl) hA hS hT) rfl rfl hl.1 rfl (lv_room (Nat.le_of_ble_eq_true rfl)) dX0_create_5 ⟨(Nat.le_of_ble_eq_true rfl), (Nat.le_of_ble_eq_true rfl)⟩) hP rfl hD hS hA (fun H locs hw hP hD hS => ?_)
  have hpr : sp_pr y := hw
  have hP : va_P D vwCl (xW h a cA nL nC nB F ls) H := hP
  have hD : va_D A (xW h a cA nL nC nB F ls) := hD
  obtain ⟨t, ht16, hxe⟩ := hT16
  subst hxe
  have hl : lv_has ls0 3 [(0, .ref h), (1, .int (nI t)), (2, .int y)] := hl
  refine lv_aload_n hx hb dX0_create_8 rfl (lv_at hl 0 rfl) ?_
  refine va_get (D := D) (ci := 0) (v := .ref (a 0)) (C := RX0) (T := TX0) (N := 13) hx hb hts hin hown hK hP 0 rfl rfl 0 (by decide) hf9 (fun _ h9 => h9) rfl dX0_create_9 ?_
  refine lv_iload_n hx hb dX0_create_12 rfl (lv_at hl 1 rfl) ?_
  refine zz_iald hx hb hK hP 1 0 rfl rfl (ht16) (by decide) dX0_create_13 ?_
  refine lv_if_eq (tgt := 27) hx hb dX0_create_14 (by decide) (fun c14 => ?_) (fun c14 => ?_)
  · refine lv_aload_n hx hb dX0_create_27 rfl (lv_at hl 0 rfl) ?_
    refine va_get (D := D) (ci := 0) (v := .ref (a 1)) (C := RX0) (T := TX0) (N := 13) hx hb hts hin hown hK hP 0 rfl rfl 1 (by decide) hf13 (fun _ h9 => h9) rfl dX0_create_28 ?_
    refine lv_iload_n hx hb dX0_create_31 rfl (lv_at hl 1 rfl) ?_
    refine lv_iload_n hx hb dX0_create_32 rfl (lv_at hl 2 rfl) ?_
    refine zz_iast (ws' := xW h a cA nL nC nB (va_up F 1 (upd (F 1) t y)) ls) hx hb hK hP hD hS 2 1 rfl rfl (ht16) (by decide) rfl dX0_create_33 (fun H locs hP hD hS => ?_)
    refine lv_aload_n hx hb dX0_create_34 rfl (lv_at hl 0 rfl) ?_
    refine lv_iload_n hx hb dX0_create_35 rfl (lv_at hl 1 rfl) ?_
    refine zz_cv (va_runV (As := [.int (nI t)]) (rest := []) ⟨hx, hb, hml, hown, hts⟩ (cX_becomeReady l D h a cA nL nC nB H.size hn (va_up F 1 (upd (F 1) t y)) ls t ht16) (cwV 1 hts gX0_create_X0_becomeReady rfl rfl rfl (by decide +kernel) ⟨(Nat.le_of_ble_eq_true rfl), (Nat.le_of_ble_eq_true rfl)⟩) (zz_pV hP hK hD (va_recv hK hP (ci := 0) (q0 := 0) rfl rfl)) rfl rfl hl.1 rfl (lv_room (Nat.le_of_ble_eq_true rfl)) dX0_create_36 ⟨(Nat.le_of_ble_eq_true rfl), (Nat.le_of_ble_eq_true rfl)⟩) hD hS hA (fun u H locs hw hP hD hS => ?_)
    subst hw
    have hP : va_P D vwCl (xW h a cA nL nC nB (xs_rd (va_up F 1 (upd (F 1) t y)) ls t) (ls + 1)) H := hP
    have hD : va_D A (xW h a cA nL nC nB (xs_rd (va_up F 1 (upd (F 1) t y)) ls t) (ls + 1)) := hD
    refine lv_aload_n hx hb dX0_create_39 rfl (lv_at hl 0 rfl) ?_
    refine zz_cv (va_runV (As := []) (rest := []) ⟨hx, hb, hml, hown, hts⟩ (cX_settlePriorities l D h a cA nL nC nB H.size hn (xs_rd (va_up F 1 (upd (F 1) t y)) ls t) (ls + 1) (show xs_ow nL (F 8) from hO)) (cwV 0 hts gX0_create_X0_settlePriorities rfl rfl rfl (by decide +kernel) ⟨(Nat.le_of_ble_eq_true rfl), (Nat.le_of_ble_eq_true rfl)⟩) (zz_pV hP hK hD (va_recv hK hP (ci := 0) (q0 := 0) rfl rfl)) rfl rfl hl.1 rfl (lv_room (Nat.le_of_ble_eq_true rfl)) dX0_create_40 ⟨(Nat.le_of_ble_eq_true rfl), (Nat.le_of_ble_eq_true rfl)⟩) hD hS hA (fun u H locs hw hP hD hS => ?_)
    obtain ⟨E2, hu, hEf⟩ := hw
    subst hu
    have hP : va_P D vwCl (xW h a cA nL nC nB (va_up (xs_rd (va_up F 1 (upd (F 1) t y)) ls t) 2 E2) (ls + 1)) H := hP
    have hD : va_D A (xW h a cA nL nC nB (va_up (xs_rd (va_up F 1 (upd (F 1) t y)) ls t) 2 E2) (ls + 1)) := hD
    refine lv_aload_n hx hb dX0_create_43 rfl (lv_at hl 0 rfl) ?_
    refine zz_ci (va_runV (As := []) (rest := []) ⟨hx, hb, hml, hown, hts⟩ (cX_running l D h a cA nL nC nB H.size hn (va_up (xs_rd (va_up F 1 (upd (F 1) t y)) ls t) 2 E2) (ls + 1) ) (cwV 0 hts gX0_create_X0_running rfl rfl rfl (by decide +kernel) ⟨(Nat.le_of_ble_eq_true rfl), (Nat.le_of_ble_eq_true rfl)⟩) (zz_pV hP hK hD (va_recv hK hP (ci := 0) (q0 := 0) rfl rfl)) rfl rfl hl.1 rfl (lv_room (Nat.le_of_ble_eq_true rfl)) dX0_create_44 ⟨(Nat.le_of_ble_eq_true rfl), (Nat.le_of_ble_eq_true rfl)⟩) hD hS hA (fun r u H locs hw hP hD hS => ?_)
    subst hw
    have hP : va_P D vwCl (xW h a cA nL nC nB (va_up (xs_rd (va_up F 1 (upd (F 1) t y)) ls t) 2 E2) (ls + 1)) H := hP
    have hD : va_D A (xW h a cA nL nC nB (va_up (xs_rd (va_up F 1 (upd (F 1) t y)) ls t) 2 E2) (ls + 1)) := hD
    exact W.widen (Nat.le_of_ble_eq_true rfl) (Nat.le_of_ble_eq_true rfl) (vx_ret (zz_ri (va_up (xs_rd (va_up F 1 (upd (F 1) t y)) ls t) 2 E2, ls + 1) hx hb hr hlocks hP hK hD hS (⟨t, E2, ht16, rfl, hpr, c14, hEf, rfl, rfl⟩) dX0_create_47))
  · exact zx_throw (E := xE_S) hx hb hlT hown (by decide +kernel) (hts (.classLink RX0 60 xE_S) (by decide +kernel)) (hts (.initialized xE_S) (by decide +kernel)) (zx_hat hT.2.2.2.2.2.1 hT.2.2.2 (fun w hw => hts w ((by decide +kernel : ∀ w ∈ (vx_atS RX0 64 xE_S ["java/lang/RuntimeException", "java/lang/Exception"]).filter goodWord, w ∈ wsX0_create) w hw)) zx_h2S) zx_gS hT (List.mem_of_getElem? (i := 0) rfl) ht hlocks hP hK hD hS (hml.trans hl.1.symm) dX0_create_17 dX0_create_20 dX0_create_21 dX0_create_23 dX0_create_26 (Nat.le_of_ble_eq_true rfl) (Nat.le_of_ble_eq_true rfl) (Nat.le_of_ble_eq_true rfl) (Nat.le_of_ble_eq_true rfl) (Nat.le_of_ble_eq_true rfl) (Nat.le_of_ble_eq_true rfl) (Or.inr (Or.inr ⟨rfl, hpr, t, ht16, rfl, c14⟩))
set_option maxHeartbeats 1000000 in
set_option maxRecDepth 100000 in
/-- priority -/
theorem cX_priority (l : Launch) (hlT : l.stackTraces = false) (D : va_G) (h : Nat) (a : Nat → Nat) (cA : Nat → ClassId) (nL nC nB sz : Nat) (hn : nL ≤ 8 ∧ nC ≤ 8 ∧ nB ≤ 8) (F : Nat → Nat → Int32) (ls : Int32) (x y : Int32) (hO : xs_ow nL (F 8)) : vx_Met l yX0_priority wsX0_priority ({ frames := 7, cells := 3, slots := 18, locals := 102 }) (va_Pc [.ref h, .int x, .int y] (zx_Pre D vwCl (xT cA) (xW h a cA nL nC nB F ls) sz)) (va_Qi (fun (r : Int32) (u : xS) => sp_priority nL F ls x y r u) (zz_At D vwCl (xT cA) (fun u : xS => xW h a cA nL nC nB u.1 u.2) (va_A (xW h a cA nL nC nB F ls) sz)) (va_A (xW h a cA nL nC nB F ls) sz)) (zx_X D vwCl (xT cA) (xW h a cA nL nC nB F ls) (fun E => sx_priority F x y E) (va_A (xW h a cA nL nC nB F ls) sz)) 3 18 (va_A (xW h a cA nL nC nB F ls) sz) := by
  obtain ⟨hnL, hnC, hnB⟩ := hn
  have hn : nL ≤ 8 ∧ nC ≤ 8 ∧ nB ≤ 8 := ⟨hnL, hnC, hnB⟩
  refine zx_of (Qc := fun A => va_Qi (fun (r : Int32) (u : xS) => sp_priority nL F ls x y r u) (zz_At D vwCl (xT cA) (fun u : xS => xW h a cA nL nC nB u.1 u.2) A) A) (XC := fun A => zx_X D vwCl (xT cA) (xW h a cA nL nC nB F ls) (fun E => sx_priority F x y E) A) (by decide) rfl (Nat.le_of_ble_eq_true rfl) ?_
  intro p e s m args below meth c A H locs ls0 hx hb hr hml hown hts hlocks ht hT hA hP hK hD hS hl
  have hown : s.vm.findClass RX0 = some m.cls := hown
  have hl : lv_has ls0 4 [(0, .ref h), (1, .int x), (2, .int y)] := hl
  have hin : ∀ w ∈ u_ws RX0 TX0 13, w ∈ wsX0_priority := by decide +kernel
  have hf9 := hts (.fieldLink RX0 9 "PriorityCore" "states" "[I") (by decide +kernel)
  have hf13 := hts (.fieldLink RX0 13 "PriorityCore" "bases" "[I") (by decide +kernel)
  refine lv_iload_n hx hb dX0_priority_0 rfl (lv_at hl 1 rfl) ?_
  refine zx_cs ht hlocks hK (fun E hE => Or.inl hE) (Nat.le_of_ble_eq_true rfl) (Nat.le_of_ble_eq_true rfl) (vx_runS (As := [.int x]) (rest := []) ⟨hx, hb, hml, hown, hts⟩ (cX_requireTask l hlT D H.size x) (va_cwS 1 hts gX0_priority_X0_requireTask rfl rfl rfl (by decide +kernel) ⟨(Nat.le_of_ble_eq_true rfl), (Nat.le_of_ble_eq_true rfl)⟩) (zx_pS (hP.sub (ws' := []) [] rfl) (hK.sub (tys' := []) [] rfl) (hD.sub (ws' := []) [] (by decide) rfl) hA hS hT) rfl rfl hl.1 rfl (lv_room (Nat.le_of_ble_eq_true rfl)) dX0_priority_1 ⟨(Nat.le_of_ble_eq_true rfl), (Nat.le_of_ble_eq_true rfl)⟩) hP rfl hD hS hA (fun H locs hw hP hD hS => ?_)
  have hT16 := hw
  have hP : va_P D vwCl (xW h a cA nL nC nB F ls) H := hP
  have hD : va_D A (xW h a cA nL nC nB F ls) := hD
  refine lv_iload_n hx hb dX0_priority_4 rfl (lv_at hl 2 rfl) ?_
  refine zx_cs ht hlocks hK (fun E hE => Or.inr (Or.inl ⟨hE.1, hT16, hE.2⟩)) (Nat.le_of_ble_eq_true rfl) (Nat.le_of_ble_eq_true rfl) (vx_runS (As := [.int y]) (rest := []) ⟨hx, hb, hml, hown, hts⟩ (cX_requirePriority l hlT D H.size y) (va_cwS 1 hts gX0_priority_X0_requirePriority rfl rfl rfl (by decide +kernel) ⟨(Nat.le_of_ble_eq_true rfl), (Nat.le_of_ble_eq_true rfl)⟩) (zx_pS (hP.sub (ws' := []) [] rfl) (hK.sub (tys' := []) [] rfl) (hD.sub (ws' := []) [] (by decide) rfl) hA hS hT) rfl rfl hl.1 rfl (lv_room (Nat.le_of_ble_eq_true rfl)) dX0_priority_5 ⟨(Nat.le_of_ble_eq_true rfl), (Nat.le_of_ble_eq_true rfl)⟩) hP rfl hD hS hA (fun H locs hw hP hD hS => ?_)
  have hpr : sp_pr y := hw
  have hP : va_P D vwCl (xW h a cA nL nC nB F ls) H := hP
  have hD : va_D A (xW h a cA nL nC nB F ls) := hD
  obtain ⟨t, ht16, hxe⟩ := hT16
  subst hxe
  have hl : lv_has ls0 4 [(0, .ref h), (1, .int (nI t)), (2, .int y)] := hl
  refine lv_aload_n hx hb dX0_priority_8 rfl (lv_at hl 0 rfl) ?_
  refine va_get (D := D) (ci := 0) (v := .ref (a 0)) (C := RX0) (T := TX0) (N := 13) hx hb hts hin hown hK hP 0 rfl rfl 0 (by decide) hf9 (fun _ h9 => h9) rfl dX0_priority_9 ?_
  refine lv_iload_n hx hb dX0_priority_12 rfl (lv_at hl 1 rfl) ?_
  refine zz_iald hx hb hK hP 1 0 rfl rfl (ht16) (by decide) dX0_priority_13 ?_
  refine lv_if_ne (tgt := 27) hx hb dX0_priority_14 (by decide) (fun c14 => ?_) (fun c14 => ?_)
  · refine lv_aload_n hx hb dX0_priority_27 rfl (lv_at hl 0 rfl) ?_
    refine va_get (D := D) (ci := 0) (v := .ref (a 1)) (C := RX0) (T := TX0) (N := 13) hx hb hts hin hown hK hP 0 rfl rfl 1 (by decide) hf13 (fun _ h9 => h9) rfl dX0_priority_28 ?_
    refine lv_iload_n hx hb dX0_priority_31 rfl (lv_at hl 1 rfl) ?_
    refine zz_iald hx hb hK hP 2 1 rfl rfl (ht16) (by decide) dX0_priority_32 ?_
    refine lv_istore_n (lv' := [(3, .int ((F 1) t)), (0, .ref h), (1, .int (nI t)), (2, .int y)]) hx hb dX0_priority_33 rfl hl (by decide) rfl (fun ls0 hl => ?_)
    refine lv_aload_n hx hb dX0_priority_34 rfl (lv_at hl 1 rfl) ?_
    refine va_get (D := D) (ci := 0) (v := .ref (a 1)) (C := RX0) (T := TX0) (N := 13) hx hb hts hin hown hK hP 0 rfl rfl 1 (by decide) hf13 (fun _ h9 => h9) rfl dX0_priority_35 ?_
    refine lv_iload_n hx hb dX0_priority_38 rfl (lv_at hl 2 rfl) ?_
    refine lv_iload_n hx hb dX0_priority_39 rfl (lv_at hl 3 rfl) ?_
    refine zz_iast (ws' := xW h a cA nL nC nB (va_up F 1 (upd (F 1) t y)) ls) hx hb hK hP hD hS 2 1 rfl rfl (ht16) (by decide) rfl dX0_priority_40 (fun H locs hP hD hS => ?_)
    refine lv_aload_n hx hb dX0_priority_41 rfl (lv_at hl 1 rfl) ?_
    refine zz_cv (va_runV (As := []) (rest := []) ⟨hx, hb, hml, hown, hts⟩ (cX_settlePriorities l D h a cA nL nC nB H.size hn (va_up F 1 (upd (F 1) t y)) ls (show xs_ow nL (F 8) from hO)) (cwV 0 hts gX0_priority_X0_settlePriorities rfl rfl rfl (by decide +kernel) ⟨(Nat.le_of_ble_eq_true rfl), (Nat.le_of_ble_eq_true rfl)⟩) (zz_pV hP hK hD (va_recv hK hP (ci := 0) (q0 := 0) rfl rfl)) rfl rfl hl.1 rfl (lv_room (Nat.le_of_ble_eq_true rfl)) dX0_priority_42 ⟨(Nat.le_of_ble_eq_true rfl), (Nat.le_of_ble_eq_true rfl)⟩) hD hS hA (fun u H locs hw hP hD hS => ?_)
    obtain ⟨E2, hu, hEf⟩ := hw
    subst hu
    have hP : va_P D vwCl (xW h a cA nL nC nB (va_up (va_up F 1 (upd (F 1) t y)) 2 E2) ls) H := hP
    have hD : va_D A (xW h a cA nL nC nB (va_up (va_up F 1 (upd (F 1) t y)) 2 E2) ls) := hD
    refine lv_iload_n hx hb dX0_priority_45 rfl (lv_at hl 0 rfl) ?_
    exact W.widen (Nat.le_of_ble_eq_true rfl) (Nat.le_of_ble_eq_true rfl) (vx_ret (zz_ri (va_up (va_up F 1 (upd (F 1) t y)) 2 E2, ls) hx hb hr hlocks hP hK hD hS (⟨t, E2, ht16, rfl, hpr, c14, hEf, rfl, rfl⟩) dX0_priority_46))
  · exact zx_throw (E := xE_S) hx hb hlT hown (by decide +kernel) (hts (.classLink RX0 60 xE_S) (by decide +kernel)) (hts (.initialized xE_S) (by decide +kernel)) (zx_hat hT.2.2.2.2.2.1 hT.2.2.2 (fun w hw => hts w ((by decide +kernel : ∀ w ∈ (vx_atS RX0 64 xE_S ["java/lang/RuntimeException", "java/lang/Exception"]).filter goodWord, w ∈ wsX0_priority) w hw)) zx_h2S) zx_gS hT (List.mem_of_getElem? (i := 1) rfl) ht hlocks hP hK hD hS (hml.trans hl.1.symm) dX0_priority_17 dX0_priority_20 dX0_priority_21 dX0_priority_23 dX0_priority_26 (Nat.le_of_ble_eq_true rfl) (Nat.le_of_ble_eq_true rfl) (Nat.le_of_ble_eq_true rfl) (Nat.le_of_ble_eq_true rfl) (Nat.le_of_ble_eq_true rfl) (Nat.le_of_ble_eq_true rfl) (Or.inr (Or.inr ⟨rfl, hpr, t, ht16, rfl, c14⟩))
set_option maxHeartbeats 1000000 in
set_option maxRecDepth 100000 in
/-- lock -/
theorem cX_lock (l : Launch) (hlT : l.stackTraces = false) (D : va_G) (h : Nat) (a : Nat → Nat) (cA : Nat → ClassId) (nL nC nB sz : Nat) (hn : nL ≤ 8 ∧ nC ≤ 8 ∧ nB ≤ 8) (F : Nat → Nat → Int32) (ls : Int32) (x : Int32) (hO : xs_ow nL (F 8)) : vx_Met l yX0_lock wsX0_lock ({ frames := 7, cells := 3, slots := 18, locals := 103 }) (va_Pc [.ref h, .int x] (zx_Pre D vwCl (xT cA) (xW h a cA nL nC nB F ls) sz)) (va_Qi (fun (r : Int32) (u : xS) => sp_lock nL F ls x r u) (zz_At D vwCl (xT cA) (fun u : xS => xW h a cA nL nC nB u.1 u.2) (va_A (xW h a cA nL nC nB F ls) sz)) (va_A (xW h a cA nL nC nB F ls) sz)) (zx_X D vwCl (xT cA) (xW h a cA nL nC nB F ls) (fun E => sx_lock nL F x E) (va_A (xW h a cA nL nC nB F ls) sz)) 3 18 (va_A (xW h a cA nL nC nB F ls) sz) := by
  obtain ⟨hnL, hnC, hnB⟩ := hn
  have hn : nL ≤ 8 ∧ nC ≤ 8 ∧ nB ≤ 8 := ⟨hnL, hnC, hnB⟩
  refine zx_of (Qc := fun A => va_Qi (fun (r : Int32) (u : xS) => sp_lock nL F ls x r u) (zz_At D vwCl (xT cA) (fun u : xS => xW h a cA nL nC nB u.1 u.2) A) A) (XC := fun A => zx_X D vwCl (xT cA) (xW h a cA nL nC nB F ls) (fun E => sx_lock nL F x E) A) (by decide) rfl (Nat.le_of_ble_eq_true rfl) ?_
  intro p e s m args below meth c A H locs ls0 hx hb hr hml hown hts hlocks ht hT hA hP hK hD hS hl
  have hown : s.vm.findClass RX0 = some m.cls := hown
  have hl : lv_has ls0 3 [(0, .ref h), (1, .int x)] := hl
  have hin : ∀ w ∈ u_ws RX0 TX0 13, w ∈ wsX0_lock := by decide +kernel
  have hf38 := hts (.fieldLink RX0 38 "PriorityCore" "owners" "[I") (by decide +kernel)
  refine lv_aload_n hx hb dX0_lock_0 rfl (lv_at hl 0 rfl) ?_
  refine lv_iload_n hx hb dX0_lock_1 rfl (lv_at hl 1 rfl) ?_
  refine zx_cv ht hlocks hK (fun E hE => Or.inl hE) (Nat.le_of_ble_eq_true rfl) (Nat.le_of_ble_eq_true rfl) (vx_runV (As := [.int x]) (rest := []) ⟨hx, hb, hml, hown, hts⟩ (cX_requireLock l hlT D h a cA nL nC nB H.size hn F ls x) (cwV 1 hts gX0_lock_X0_requireLock rfl rfl rfl (by decide +kernel) ⟨(Nat.le_of_ble_eq_true rfl), (Nat.le_of_ble_eq_true rfl)⟩) (zx_pV hP hK hD hA hS hT (va_recv hK hP (ci := 0) (q0 := 0) rfl rfl)) rfl rfl hl.1 rfl (lv_room (Nat.le_of_ble_eq_true rfl)) dX0_lock_2 ⟨(Nat.le_of_ble_eq_true rfl), (Nat.le_of_ble_eq_true rfl)⟩) rfl hD hS hA (fun u H locs hw hP hD hS => ?_)
  have hxi : sp_in nL x := hw
  have hin9 := hxi
  have hP : va_P D vwCl (xW h a cA nL nC nB F ls) H := hP
  have hD : va_D A (xW h a cA nL nC nB F ls) := hD
  refine lv_aload_n hx hb dX0_lock_5 rfl (lv_at hl 0 rfl) ?_
  refine zx_ci ht hlocks hK (fun E hE => Or.inr (Or.inl ⟨hE.1, hxi, hE.2⟩)) (Nat.le_of_ble_eq_true rfl) (Nat.le_of_ble_eq_true rfl) (vx_runV (As := []) (rest := []) ⟨hx, hb, hml, hown, hts⟩ (cX_requireRunning l hlT D h a cA nL nC nB H.size hn F ls ) (cwV 0 hts gX0_lock_X0_requireRunning rfl rfl rfl (by decide +kernel) ⟨(Nat.le_of_ble_eq_true rfl), (Nat.le_of_ble_eq_true rfl)⟩) (zx_pV hP hK hD hA hS hT (va_recv hK hP (ci := 0) (q0 := 0) rfl rfl)) rfl rfl hl.1 rfl (lv_room (Nat.le_of_ble_eq_true rfl)) dX0_lock_6 ⟨(Nat.le_of_ble_eq_true rfl), (Nat.le_of_ble_eq_true rfl)⟩) rfl hD hS hA (fun r u H locs hw hP hD hS => ?_)
  obtain ⟨t, ht16, hfm, hre⟩ := hw
  subst hre
  have hP : va_P D vwCl (xW h a cA nL nC nB F ls) H := hP
  have hD : va_D A (xW h a cA nL nC nB F ls) := hD
  obtain ⟨k, hk, hxe⟩ := hxi
  subst hxe
  have hl : lv_has ls0 3 [(0, .ref h), (1, .int (nI k))] := hl
  refine lv_istore_n (lv' := [(2, .int (nI t)), (0, .ref h), (1, .int (nI k))]) hx hb dX0_lock_9 rfl hl (by decide) rfl (fun ls0 hl => ?_)
  refine lv_aload_n hx hb dX0_lock_10 rfl (lv_at hl 1 rfl) ?_
  refine lv_iload_n hx hb dX0_lock_11 rfl (lv_at hl 0 rfl) ?_
  refine lv_iload_n hx hb dX0_lock_12 rfl (lv_at hl 2 rfl) ?_
  refine zz_ci (va_runV (As := [.int (nI t), .int (nI k)]) (rest := []) ⟨hx, hb, hml, hown, hts⟩ (cX_wouldWaitForItself l D h a cA nL nC nB H.size hn F ls t k ht16 hk hO) (cwV 2 hts gX0_lock_X0_wouldWaitForItself rfl rfl rfl (by decide +kernel) ⟨(Nat.le_of_ble_eq_true rfl), (Nat.le_of_ble_eq_true rfl)⟩) (zz_pV hP hK hD (va_recv hK hP (ci := 0) (q0 := 0) rfl rfl)) rfl rfl hl.1 rfl (lv_room (Nat.le_of_ble_eq_true rfl)) dX0_lock_13 ⟨(Nat.le_of_ble_eq_true rfl), (Nat.le_of_ble_eq_true rfl)⟩) hD hS hA (fun r u H locs hw hP hD hS => ?_)
  have hP : va_P D vwCl (xW h a cA nL nC nB F ls) H := hP
  have hD : va_D A (xW h a cA nL nC nB F ls) := hD
  refine lv_if_eq (tgt := 29) hx hb dX0_lock_16 (by decide) (fun c16 => ?_) (fun c16 => ?_)
  · have hww : ¬ xs_ww nL F t k := by
      rcases hw with q | q
      · exact absurd (q.1.symm.trans c16) (by decide)
      · exact q.2
    refine lv_aload_n hx hb dX0_lock_29 rfl (lv_at hl 1 rfl) ?_
    refine va_get (D := D) (ci := 0) (v := .ref (a 8)) (C := RX0) (T := TX0) (N := 13) hx hb hts hin hown hK hP 0 rfl rfl 8 (by decide) hf38 (fun _ h9 => h9) rfl dX0_lock_30 ?_
    refine lv_iload_n hx hb dX0_lock_33 rfl (lv_at hl 2 rfl) ?_
    refine zz_iald hx hb hK hP 9 8 rfl rfl (hk) (by omega) dX0_lock_34 ?_
    refine lv_iconst (v := (-1)) hx hb dX0_lock_35 (by decide) ?_
    refine lv_icmp_ne (tgt := 48) hx hb dX0_lock_36 (by decide) (fun c36 => ?_) (fun c36 => ?_)
    · refine lv_aload_n hx hb dX0_lock_48 rfl (lv_at hl 1 rfl) ?_
      refine lv_iload_n hx hb dX0_lock_49 rfl (lv_at hl 0 rfl) ?_
      refine lv_iconst (v := 2) hx hb dX0_lock_50 (by decide) ?_
      refine lv_iload_n hx hb dX0_lock_51 rfl (lv_at hl 2 rfl) ?_
      refine zz_cv (va_runV (As := [.int (nI t), .int 2, .int (nI k)]) (rest := []) ⟨hx, hb, hml, hown, hts⟩ (cX_enter l D h a cA nL nC nB H.size hn F ls t 2 (nI k) ht16) (cwV 3 hts gX0_lock_X0_enter rfl rfl rfl (by decide +kernel) ⟨(Nat.le_of_ble_eq_true rfl), (Nat.le_of_ble_eq_true rfl)⟩) (zz_pV hP hK hD (va_recv hK hP (ci := 0) (q0 := 0) rfl rfl)) rfl rfl hl.1 rfl (lv_room (Nat.le_of_ble_eq_true rfl)) dX0_lock_52 ⟨(Nat.le_of_ble_eq_true rfl), (Nat.le_of_ble_eq_true rfl)⟩) hD hS hA (fun u H locs hw hP hD hS => ?_)
      subst hw
      have hP : va_P D vwCl (xW h a cA nL nC nB (xs_en F ls t 2 (nI k)) (ls + 1)) H := hP
      have hD : va_D A (xW h a cA nL nC nB (xs_en F ls t 2 (nI k)) (ls + 1)) := hD
      refine lv_aload_n hx hb dX0_lock_55 rfl (lv_at hl 1 rfl) ?_
      refine zz_cv (va_runV (As := []) (rest := []) ⟨hx, hb, hml, hown, hts⟩ (cX_settlePriorities l D h a cA nL nC nB H.size hn (xs_en F ls t 2 (nI k)) (ls + 1) (show xs_ow nL (F 8) from hO)) (cwV 0 hts gX0_lock_X0_settlePriorities rfl rfl rfl (by decide +kernel) ⟨(Nat.le_of_ble_eq_true rfl), (Nat.le_of_ble_eq_true rfl)⟩) (zz_pV hP hK hD (va_recv hK hP (ci := 0) (q0 := 0) rfl rfl)) rfl rfl hl.1 rfl (lv_room (Nat.le_of_ble_eq_true rfl)) dX0_lock_56 ⟨(Nat.le_of_ble_eq_true rfl), (Nat.le_of_ble_eq_true rfl)⟩) hD hS hA (fun u H locs hw hP hD hS => ?_)
      obtain ⟨E2, hu, hEf⟩ := hw
      subst hu
      have hP : va_P D vwCl (xW h a cA nL nC nB (va_up (xs_en F ls t 2 (nI k)) 2 E2) (ls + 1)) H := hP
      have hD : va_D A (xW h a cA nL nC nB (va_up (xs_en F ls t 2 (nI k)) 2 E2) (ls + 1)) := hD
      refine lv_iconst (v := 1) hx hb dX0_lock_59 (by decide) ?_
      exact W.widen (Nat.le_of_ble_eq_true rfl) (Nat.le_of_ble_eq_true rfl) (vx_ret (zz_ri (va_up (xs_en F ls t 2 (nI k)) 2 E2, ls + 1) hx hb hr hlocks hP hK hD hS (⟨k, t, hk, rfl, ht16, hfm, hww, Or.inr ⟨c36, rfl, E2, hEf, rfl⟩⟩) dX0_lock_60))
    · refine lv_aload_n hx hb dX0_lock_39 rfl (lv_at hl 1 rfl) ?_
      refine va_get (D := D) (ci := 0) (v := .ref (a 8)) (C := RX0) (T := TX0) (N := 13) hx hb hts hin hown hK hP 0 rfl rfl 8 (by decide) hf38 (fun _ h9 => h9) rfl dX0_lock_40 ?_
      refine lv_iload_n hx hb dX0_lock_43 rfl (lv_at hl 2 rfl) ?_
      refine lv_iload_n hx hb dX0_lock_44 rfl (lv_at hl 0 rfl) ?_
      refine zz_iast (ws' := xW h a cA nL nC nB (va_up F 8 (upd (F 8) k (nI t))) ls) hx hb hK hP hD hS 9 8 rfl rfl (hk) (by omega) rfl dX0_lock_45 (fun H locs hP hD hS => ?_)
      refine lv_iconst (v := 0) hx hb dX0_lock_46 (by decide) ?_
      exact W.widen (Nat.le_of_ble_eq_true rfl) (Nat.le_of_ble_eq_true rfl) (vx_ret (zz_ri (va_up F 8 (upd (F 8) k (nI t)), ls) hx hb hr hlocks hP hK hD hS (⟨k, t, hk, rfl, ht16, hfm, hww, Or.inl ⟨c36, rfl, rfl⟩⟩) dX0_lock_47))
  · have hww : xs_ww nL F t k := by
      rcases hw with q | q
      · exact q.2
      · exact absurd q.1 c16
    exact zx_throw (E := xE_A) hx hb hlT hown (by decide +kernel) (hts (.classLink RX0 89 xE_A) (by decide +kernel)) (hts (.initialized xE_A) (by decide +kernel)) (zx_hat hT.2.2.2.2.1 hT.2.2.2 (fun w hw => hts w ((by decide +kernel : ∀ w ∈ (vx_atS RX0 93 xE_A ["java/lang/RuntimeException", "java/lang/Exception"]).filter goodWord, w ∈ wsX0_lock) w hw)) zx_h2A) zx_gA hT (List.mem_of_getElem? (i := 2) rfl) ht hlocks hP hK hD hS (hml.trans hl.1.symm) dX0_lock_19 dX0_lock_22 dX0_lock_23 dX0_lock_25 dX0_lock_28 (Nat.le_of_ble_eq_true rfl) (Nat.le_of_ble_eq_true rfl) (Nat.le_of_ble_eq_true rfl) (Nat.le_of_ble_eq_true rfl) (Nat.le_of_ble_eq_true rfl) (Nat.le_of_ble_eq_true rfl) (Or.inr (Or.inr ⟨rfl, k, t, hk, rfl, hfm, hww⟩))
set_option maxHeartbeats 1000000 in
set_option maxRecDepth 100000 in
/-- unlock -/
theorem cX_unlock (l : Launch) (hlT : l.stackTraces = false) (D : va_G) (h : Nat) (a : Nat → Nat) (cA : Nat → ClassId) (nL nC nB sz : Nat) (hn : nL ≤ 8 ∧ nC ≤ 8 ∧ nB ≤ 8) (F : Nat → Nat → Int32) (ls : Int32) (x : Int32) (hO : xs_ow nL (F 8)) : vx_Met l yX0_unlock wsX0_unlock ({ frames := 7, cells := 3, slots := 18, locals := 103 }) (va_Pc [.ref h, .int x] (zx_Pre D vwCl (xT cA) (xW h a cA nL nC nB F ls) sz)) (va_Qi (fun (r : Int32) (u : xS) => sp_unlock nL F ls x r u) (zz_At D vwCl (xT cA) (fun u : xS => xW h a cA nL nC nB u.1 u.2) (va_A (xW h a cA nL nC nB F ls) sz)) (va_A (xW h a cA nL nC nB F ls) sz)) (zx_X D vwCl (xT cA) (xW h a cA nL nC nB F ls) (fun E => sx_unlock nL F x E) (va_A (xW h a cA nL nC nB F ls) sz)) 3 18 (va_A (xW h a cA nL nC nB F ls) sz) := by
  obtain ⟨hnL, hnC, hnB⟩ := hn
  have hn : nL ≤ 8 ∧ nC ≤ 8 ∧ nB ≤ 8 := ⟨hnL, hnC, hnB⟩
  refine zx_of (Qc := fun A => va_Qi (fun (r : Int32) (u : xS) => sp_unlock nL F ls x r u) (zz_At D vwCl (xT cA) (fun u : xS => xW h a cA nL nC nB u.1 u.2) A) A) (XC := fun A => zx_X D vwCl (xT cA) (xW h a cA nL nC nB F ls) (fun E => sx_unlock nL F x E) A) (by decide) rfl (Nat.le_of_ble_eq_true rfl) ?_
  intro p e s m args below meth c A H locs ls0 hx hb hr hml hown hts hlocks ht hT hA hP hK hD hS hl
  have hown : s.vm.findClass RX0 = some m.cls := hown
  have hl : lv_has ls0 4 [(0, .ref h), (1, .int x)] := hl
  have hin : ∀ w ∈ u_ws RX0 TX0 13, w ∈ wsX0_unlock := by decide +kernel
  have hf38 := hts (.fieldLink RX0 38 "PriorityCore" "owners" "[I") (by decide +kernel)
  refine lv_aload_n hx hb dX0_unlock_0 rfl (lv_at hl 0 rfl) ?_
  refine lv_iload_n hx hb dX0_unlock_1 rfl (lv_at hl 1 rfl) ?_
  refine zx_cv ht hlocks hK (fun E hE => Or.inl hE) (Nat.le_of_ble_eq_true rfl) (Nat.le_of_ble_eq_true rfl) (vx_runV (As := [.int x]) (rest := []) ⟨hx, hb, hml, hown, hts⟩ (cX_requireLock l hlT D h a cA nL nC nB H.size hn F ls x) (cwV 1 hts gX0_unlock_X0_requireLock rfl rfl rfl (by decide +kernel) ⟨(Nat.le_of_ble_eq_true rfl), (Nat.le_of_ble_eq_true rfl)⟩) (zx_pV hP hK hD hA hS hT (va_recv hK hP (ci := 0) (q0 := 0) rfl rfl)) rfl rfl hl.1 rfl (lv_room (Nat.le_of_ble_eq_true rfl)) dX0_unlock_2 ⟨(Nat.le_of_ble_eq_true rfl), (Nat.le_of_ble_eq_true rfl)⟩) rfl hD hS hA (fun u H locs hw hP hD hS => ?_)
  have hxi : sp_in nL x := hw
  have hin9 := hxi
  have hP : va_P D vwCl (xW h a cA nL nC nB F ls) H := hP
  have hD : va_D A (xW h a cA nL nC nB F ls) := hD
  refine lv_aload_n hx hb dX0_unlock_5 rfl (lv_at hl 0 rfl) ?_
  refine zx_ci ht hlocks hK (fun E hE => Or.inr (Or.inl ⟨hE.1, hxi, hE.2⟩)) (Nat.le_of_ble_eq_true rfl) (Nat.le_of_ble_eq_true rfl) (vx_runV (As := []) (rest := []) ⟨hx, hb, hml, hown, hts⟩ (cX_requireRunning l hlT D h a cA nL nC nB H.size hn F ls ) (cwV 0 hts gX0_unlock_X0_requireRunning rfl rfl rfl (by decide +kernel) ⟨(Nat.le_of_ble_eq_true rfl), (Nat.le_of_ble_eq_true rfl)⟩) (zx_pV hP hK hD hA hS hT (va_recv hK hP (ci := 0) (q0 := 0) rfl rfl)) rfl rfl hl.1 rfl (lv_room (Nat.le_of_ble_eq_true rfl)) dX0_unlock_6 ⟨(Nat.le_of_ble_eq_true rfl), (Nat.le_of_ble_eq_true rfl)⟩) rfl hD hS hA (fun r u H locs hw hP hD hS => ?_)
  obtain ⟨t, ht16, hfm, hre⟩ := hw
  subst hre
  have hP : va_P D vwCl (xW h a cA nL nC nB F ls) H := hP
  have hD : va_D A (xW h a cA nL nC nB F ls) := hD
  obtain ⟨k, hk, hxe⟩ := hxi
  subst hxe
  have hl : lv_has ls0 4 [(0, .ref h), (1, .int (nI k))] := hl
  refine lv_istore_n (lv' := [(2, .int (nI t)), (0, .ref h), (1, .int (nI k))]) hx hb dX0_unlock_9 rfl hl (by decide) rfl (fun ls0 hl => ?_)
  refine lv_aload_n hx hb dX0_unlock_10 rfl (lv_at hl 1 rfl) ?_
  refine va_get (D := D) (ci := 0) (v := .ref (a 8)) (C := RX0) (T := TX0) (N := 13) hx hb hts hin hown hK hP 0 rfl rfl 8 (by decide) hf38 (fun _ h9 => h9) rfl dX0_unlock_11 ?_
  refine lv_iload_n hx hb dX0_unlock_14 rfl (lv_at hl 2 rfl) ?_
  refine zz_iald hx hb hK hP 9 8 rfl rfl (hk) (by omega) dX0_unlock_15 ?_
  refine lv_iload_n hx hb dX0_unlock_16 rfl (lv_at hl 0 rfl) ?_
  refine lv_icmp_eq (tgt := 30) hx hb dX0_unlock_17 (by decide) (fun c17 => ?_) (fun c17 => ?_)
  · refine lv_aload_n hx hb dX0_unlock_30 rfl (lv_at hl 1 rfl) ?_
    refine lv_iconst (v := 2) hx hb dX0_unlock_31 (by decide) ?_
    refine lv_iload_n hx hb dX0_unlock_32 rfl (lv_at hl 2 rfl) ?_
    refine zz_ci (va_runV (As := [.int 2, .int (nI k)]) (rest := []) ⟨hx, hb, hml, hown, hts⟩ (cX_foremost l D h a cA nL nC nB H.size hn F ls 2 (nI k)) (cwV 2 hts gX0_unlock_X0_foremost rfl rfl rfl (by decide +kernel) ⟨(Nat.le_of_ble_eq_true rfl), (Nat.le_of_ble_eq_true rfl)⟩) (zz_pV hP hK hD (va_recv hK hP (ci := 0) (q0 := 0) rfl rfl)) rfl rfl hl.1 rfl (lv_room (Nat.le_of_ble_eq_true rfl)) dX0_unlock_33 ⟨(Nat.le_of_ble_eq_true rfl), (Nat.le_of_ble_eq_true rfl)⟩) hD hS hA (fun r u H locs hw hP hD hS => ?_)
    subst hw
    have hP : va_P D vwCl (xW h a cA nL nC nB F ls) H := hP
    have hD : va_D A (xW h a cA nL nC nB F ls) := hD
    refine lv_istore_n (lv' := [(3, .int (pq_enc (xs_fm F 2 (nI k)))), (2, .int (nI t)), (0, .ref h), (1, .int (nI k))]) hx hb dX0_unlock_36 rfl hl (by decide) rfl (fun ls0 hl => ?_)
    refine lv_aload_n hx hb dX0_unlock_37 rfl (lv_at hl 2 rfl) ?_
    refine va_get (D := D) (ci := 0) (v := .ref (a 8)) (C := RX0) (T := TX0) (N := 13) hx hb hts hin hown hK hP 0 rfl rfl 8 (by decide) hf38 (fun _ h9 => h9) rfl dX0_unlock_38 ?_
    refine lv_iload_n hx hb dX0_unlock_41 rfl (lv_at hl 3 rfl) ?_
    refine lv_iload_n hx hb dX0_unlock_42 rfl (lv_at hl 0 rfl) ?_
    refine zz_iast (ws' := xW h a cA nL nC nB (va_up F 8 (upd (F 8) k (pq_enc (xs_fm F 2 (nI k))))) ls) hx hb hK hP hD hS 9 8 rfl rfl (hk) (by omega) rfl dX0_unlock_43 (fun H locs hP hD hS => ?_)
    refine lv_iload_n hx hb dX0_unlock_44 rfl (lv_at hl 0 rfl) ?_
    refine lv_iconst (v := (-1)) hx hb dX0_unlock_45 (by decide) ?_
    refine lv_icmp_eq (tgt := 54) hx hb dX0_unlock_46 (by decide) (fun c46 => ?_) (fun c46 => ?_)
    · have hno : xs_fm F 2 (nI k) = none := (pq_enc_m1 (fun n q => xs_fm_lt q)).mp c46
      rw [hno] at hl hP hD
      have hl : lv_has ls0 4 [(3, .int (-1)), (2, .int (nI t)), (0, .ref h), (1, .int (nI k))] := hl
      have hP : va_P D vwCl (xW h a cA nL nC nB (va_up F 8 (upd (F 8) k (-1))) ls) H := hP
      have hD : va_D A (xW h a cA nL nC nB (va_up F 8 (upd (F 8) k (-1))) ls) := hD
      refine lv_aload_n hx hb dX0_unlock_54 rfl (lv_at hl 2 rfl) ?_
      refine zz_cv (va_runV (As := []) (rest := []) ⟨hx, hb, hml, hown, hts⟩ (cX_settlePriorities l D h a cA nL nC nB H.size hn (va_up F 8 (upd (F 8) k (-1))) ls (show xs_ow nL (upd (F 8) k (-1)) from xs_ow_up hO (Or.inl rfl))) (cwV 0 hts gX0_unlock_X0_settlePriorities rfl rfl rfl (by decide +kernel) ⟨(Nat.le_of_ble_eq_true rfl), (Nat.le_of_ble_eq_true rfl)⟩) (zz_pV hP hK hD (va_recv hK hP (ci := 0) (q0 := 0) rfl rfl)) rfl rfl hl.1 rfl (lv_room (Nat.le_of_ble_eq_true rfl)) dX0_unlock_55 ⟨(Nat.le_of_ble_eq_true rfl), (Nat.le_of_ble_eq_true rfl)⟩) hD hS hA (fun u H locs hw hP hD hS => ?_)
      obtain ⟨E2, hu, hEf⟩ := hw
      subst hu
      have hP : va_P D vwCl (xW h a cA nL nC nB (va_up (va_up F 8 (upd (F 8) k (-1))) 2 E2) ls) H := hP
      have hD : va_D A (xW h a cA nL nC nB (va_up (va_up F 8 (upd (F 8) k (-1))) 2 E2) ls) := hD
      refine lv_iload_n hx hb dX0_unlock_58 rfl (lv_at hl 0 rfl) ?_
      exact W.widen (Nat.le_of_ble_eq_true rfl) (Nat.le_of_ble_eq_true rfl) (vx_ret (zz_ri (va_up (va_up F 8 (upd (F 8) k (-1))) 2 E2, ls) hx hb hr hlocks hP hK hD hS (⟨k, t, hk, rfl, ht16, hfm, c17, Or.inl ⟨hno, rfl, E2, hEf, rfl⟩⟩) dX0_unlock_59))
    · obtain ⟨j, hj⟩ : ∃ j, xs_fm F 2 (nI k) = some j := by
        cases q : xs_fm F 2 (nI k) with
        | none => exact absurd (by rw [q]; rfl) c46
        | some j => exact ⟨j, rfl⟩
      have hj16 : j < 16 := xs_fm_lt hj
      rw [hj] at hl hP hD
      have hl : lv_has ls0 4 [(3, .int (nI j)), (2, .int (nI t)), (0, .ref h), (1, .int (nI k))] := hl
      have hP : va_P D vwCl (xW h a cA nL nC nB (va_up F 8 (upd (F 8) k (nI j))) ls) H := hP
      have hD : va_D A (xW h a cA nL nC nB (va_up F 8 (upd (F 8) k (nI j))) ls) := hD
      refine lv_aload_n hx hb dX0_unlock_49 rfl (lv_at hl 2 rfl) ?_
      refine lv_iload_n hx hb dX0_unlock_50 rfl (lv_at hl 0 rfl) ?_
      refine zz_cv (va_runV (As := [.int (nI j)]) (rest := []) ⟨hx, hb, hml, hown, hts⟩ (cX_becomeReady l D h a cA nL nC nB H.size hn (va_up F 8 (upd (F 8) k (nI j))) ls j hj16) (cwV 1 hts gX0_unlock_X0_becomeReady rfl rfl rfl (by decide +kernel) ⟨(Nat.le_of_ble_eq_true rfl), (Nat.le_of_ble_eq_true rfl)⟩) (zz_pV hP hK hD (va_recv hK hP (ci := 0) (q0 := 0) rfl rfl)) rfl rfl hl.1 rfl (lv_room (Nat.le_of_ble_eq_true rfl)) dX0_unlock_51 ⟨(Nat.le_of_ble_eq_true rfl), (Nat.le_of_ble_eq_true rfl)⟩) hD hS hA (fun u H locs hw hP hD hS => ?_)
      subst hw
      have hP : va_P D vwCl (xW h a cA nL nC nB (xs_rd (va_up F 8 (upd (F 8) k (nI j))) ls j) (ls + 1)) H := hP
      have hD : va_D A (xW h a cA nL nC nB (xs_rd (va_up F 8 (upd (F 8) k (nI j))) ls j) (ls + 1)) := hD
      refine lv_aload_n hx hb dX0_unlock_54 rfl (lv_at hl 2 rfl) ?_
      refine zz_cv (va_runV (As := []) (rest := []) ⟨hx, hb, hml, hown, hts⟩ (cX_settlePriorities l D h a cA nL nC nB H.size hn (xs_rd (va_up F 8 (upd (F 8) k (nI j))) ls j) (ls + 1) (show xs_ow nL (upd (F 8) k (nI j)) from xs_ow_up hO (Or.inr ⟨j, hj16, rfl⟩))) (cwV 0 hts gX0_unlock_X0_settlePriorities rfl rfl rfl (by decide +kernel) ⟨(Nat.le_of_ble_eq_true rfl), (Nat.le_of_ble_eq_true rfl)⟩) (zz_pV hP hK hD (va_recv hK hP (ci := 0) (q0 := 0) rfl rfl)) rfl rfl hl.1 rfl (lv_room (Nat.le_of_ble_eq_true rfl)) dX0_unlock_55 ⟨(Nat.le_of_ble_eq_true rfl), (Nat.le_of_ble_eq_true rfl)⟩) hD hS hA (fun u H locs hw hP hD hS => ?_)
      obtain ⟨E2, hu, hEf⟩ := hw
      subst hu
      have hP : va_P D vwCl (xW h a cA nL nC nB (va_up (xs_rd (va_up F 8 (upd (F 8) k (nI j))) ls j) 2 E2) (ls + 1)) H := hP
      have hD : va_D A (xW h a cA nL nC nB (va_up (xs_rd (va_up F 8 (upd (F 8) k (nI j))) ls j) 2 E2) (ls + 1)) := hD
      refine lv_iload_n hx hb dX0_unlock_58 rfl (lv_at hl 0 rfl) ?_
      exact W.widen (Nat.le_of_ble_eq_true rfl) (Nat.le_of_ble_eq_true rfl) (vx_ret (zz_ri (va_up (xs_rd (va_up F 8 (upd (F 8) k (nI j))) ls j) 2 E2, ls + 1) hx hb hr hlocks hP hK hD hS (⟨k, t, hk, rfl, ht16, hfm, c17, Or.inr ⟨j, hj, hj16, rfl, E2, hEf, rfl⟩⟩) dX0_unlock_59))
  · exact zx_throw (E := xE_A) hx hb hlT hown (by decide +kernel) (hts (.classLink RX0 89 xE_A) (by decide +kernel)) (hts (.initialized xE_A) (by decide +kernel)) (zx_hat hT.2.2.2.2.1 hT.2.2.2 (fun w hw => hts w ((by decide +kernel : ∀ w ∈ (vx_atS RX0 93 xE_A ["java/lang/RuntimeException", "java/lang/Exception"]).filter goodWord, w ∈ wsX0_unlock) w hw)) zx_h2A) zx_gA hT (List.mem_of_getElem? (i := 3) rfl) ht hlocks hP hK hD hS (hml.trans hl.1.symm) dX0_unlock_20 dX0_unlock_23 dX0_unlock_24 dX0_unlock_26 dX0_unlock_29 (Nat.le_of_ble_eq_true rfl) (Nat.le_of_ble_eq_true rfl) (Nat.le_of_ble_eq_true rfl) (Nat.le_of_ble_eq_true rfl) (Nat.le_of_ble_eq_true rfl) (Nat.le_of_ble_eq_true rfl) (Or.inr (Or.inr ⟨rfl, k, t, hk, rfl, ht16, hfm, c17⟩))
