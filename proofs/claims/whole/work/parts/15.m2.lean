/-! what M's methods answer and do -/
theorem pq_enc_ge {o : Option Nat} (h : ∀ n, o = some n → n < 16) (q : 0 ≤ pq_enc o) : ∃ t, t < 16 ∧ o = some t := by
  cases e : o with
  | none => subst e; exact absurd q (by decide)
  | some t => exact ⟨t, h t e, rfl⟩
theorem pq_enc_ng {o : Option Nat} (h : ∀ n, o = some n → n < 16) (q : ¬ 0 ≤ pq_enc o) : o = none := (pq_enc_lt h).mp (Int32.not_le.mp q)
def ms_new (G : Nat → Nat → Int32) : Prop := (∀ j, j < 16 → G 0 j = 0 ∧ G 1 j = 0 ∧ G 5 j = 0 ∧ G 3 j = 0) ∧ ∀ k, k < 8 → G 6 k = -1 ∧ G 7 k = 0 ∧ G 8 k = 0
def mp_create (F : Nat → Nat → Int32) (sp : Nat → Int64) (ck : Int64) (x y r : Int32) (u : mS) : Prop := (¬ sp_in 16 x ∧ u = (F, sp, 1, ck)) ∨ (sp_in 16 x ∧ ¬ sp_pr y ∧ u = (F, sp, 2, ck)) ∨ (sp_pr y ∧ ∃ t, t < 16 ∧ x = nI t ∧ ¬ F 0 t = 0 ∧ u = (F, sp, 3, ck)) ∨
  (sp_pr y ∧ ∃ t E nx, t < 16 ∧ x = nI t ∧ F 0 t = 0 ∧ ms_fo (ms_en (va_up (va_up F 1 (upd (F 1) t y)) 5 (upd (F 5) t 0)) t 1 0) (vp_updL sp t (ck + 1)) 1 0 E nx ∧ u = (va_up (ms_en (va_up (va_up F 1 (upd (F 1) t y)) 5 (upd (F 5) t 0)) t 1 0) 10 E, vp_updL sp t (ck + 1), 0, ck + 1) ∧ r = pq_enc nx)
def mp_priority (F : Nat → Nat → Int32) (sp : Nat → Int64) (ck : Int64) (x y r : Int32) (u : mS) : Prop := (¬ sp_in 16 x ∧ u = (F, sp, 1, ck)) ∨ (sp_in 16 x ∧ ¬ sp_pr y ∧ u = (F, sp, 2, ck)) ∨ (sp_pr y ∧ ∃ t, t < 16 ∧ x = nI t ∧ F 0 t = 0 ∧ u = (F, sp, 3, ck)) ∨ (sp_pr y ∧ ∃ t, t < 16 ∧ x = nI t ∧ ¬ F 0 t = 0 ∧ u = (va_up F 1 (upd (F 1) t y), sp, 0, ck) ∧ r = F 1 t)
def mp_lock (nL : Nat) (F : Nat → Nat → Int32) (sp : Nat → Int64) (ck : Int64) (x r : Int32) (u : mS) : Prop := ∃ E nx, ms_fo F sp 1 0 E nx ∧ ((¬ sp_in nL x ∧ u = (va_up F 10 E, sp, 1, ck)) ∨ (sp_in nL x ∧ nx = none ∧ u = (va_up F 10 E, sp, 2, ck)) ∨
  (∃ k t, k < nL ∧ x = nI k ∧ t < 16 ∧ nx = some t ∧ ((ms_ww F t k ∧ u = (va_up F 10 E, sp, 3, ck)) ∨ (¬ ms_ww F t k ∧ F 6 k < 0 ∧ r = 0 ∧ u = (va_up (va_up F 10 E) 6 (upd (F 6) k (nI t)), sp, 0, ck)) ∨ (¬ ms_ww F t k ∧ ¬ F 6 k < 0 ∧ r = 1 ∧ u = (ms_en (va_up F 10 E) t 2 (nI k), vp_updL sp t (ck + 1), 0, ck + 1)))))
def mp_unlock (nL : Nat) (F : Nat → Nat → Int32) (sp : Nat → Int64) (ck : Int64) (x r : Int32) (u : mS) : Prop := ∃ E nx, ms_fo F sp 1 0 E nx ∧ ((¬ sp_in nL x ∧ u = (va_up F 10 E, sp, 1, ck)) ∨ (sp_in nL x ∧ nx = none ∧ u = (va_up F 10 E, sp, 2, ck)) ∨
  (∃ k t, k < nL ∧ x = nI k ∧ t < 16 ∧ nx = some t ∧ ((¬ F 6 k = nI t ∧ u = (va_up F 10 E, sp, 3, ck)) ∨ (F 6 k = nI t ∧ ∃ E2 n2, ms_fo F sp 2 (nI k) E2 n2 ∧ ((n2 = none ∧ r = -1 ∧ u = (va_up (va_up F 10 E2) 6 (upd (F 6) k (-1)), sp, 0, ck)) ∨ (∃ j, j < 16 ∧ n2 = some j ∧ r = nI j ∧ u = (ms_en (va_up (va_up F 10 E2) 6 (upd (F 6) k (nI j))) j 1 0, vp_updL sp j (ck + 1), 0, ck + 1)))))))
def mp_down (nC : Nat) (F : Nat → Nat → Int32) (sp : Nat → Int64) (ck : Int64) (x r : Int32) (u : mS) : Prop := ∃ E nx, ms_fo F sp 1 0 E nx ∧ ((¬ sp_in nC x ∧ u = (va_up F 10 E, sp, 1, ck)) ∨ (sp_in nC x ∧ nx = none ∧ u = (va_up F 10 E, sp, 2, ck)) ∨
  (∃ k t, k < nC ∧ x = nI k ∧ t < 16 ∧ nx = some t ∧ ((¬ F 7 k ≤ 0 ∧ r = 0 ∧ u = (va_up (va_up F 10 E) 7 (upd (F 7) k (F 7 k - 1)), sp, 0, ck)) ∨ (F 7 k ≤ 0 ∧ r = 1 ∧ u = (ms_en (va_up F 10 E) t 3 (nI k), vp_updL sp t (ck + 1), 0, ck + 1)))))
def mp_up (nC : Nat) (F : Nat → Nat → Int32) (sp : Nat → Int64) (ck : Int64) (x r : Int32) (u : mS) : Prop := (¬ sp_in nC x ∧ u = (F, sp, 1, ck)) ∨ (∃ k E n2, k < nC ∧ x = nI k ∧ ms_fo F sp 3 (nI k) E n2 ∧ ((n2 = none ∧ F 7 k = 1000 ∧ u = (va_up F 10 E, sp, 2, ck)) ∨ (n2 = none ∧ ¬ F 7 k = 1000 ∧ r = -1 ∧ u = (va_up (va_up F 10 E) 7 (upd (F 7) k (F 7 k + 1)), sp, 0, ck)) ∨ (∃ j, j < 16 ∧ n2 = some j ∧ r = nI j ∧ u = (ms_en (va_up F 10 E) j 1 0, vp_updL sp j (ck + 1), 0, ck + 1))))
def ms_fi (nB : Nat) (F : Nat → Nat → Int32) : Prop := ∀ k, k < nB → ∃ f, f ≤ 4 ∧ F 8 k = nI f
def mp_send (nB : Nat) (F : Nat → Nat → Int32) (sp : Nat → Int64) (ck : Int64) (x y r : Int32) (u : mS) : Prop := ∃ E nx, ms_fo F sp 1 0 E nx ∧ ((¬ sp_in nB x ∧ u = (va_up F 10 E, sp, 1, ck)) ∨ (sp_in nB x ∧ nx = none ∧ u = (va_up F 10 E, sp, 2, ck)) ∨
  (∃ k t E2 n2, k < nB ∧ x = nI k ∧ t < 16 ∧ nx = some t ∧ ms_fo F sp 5 (nI k) E2 n2 ∧ ((∃ j, j < 16 ∧ n2 = some j ∧ r = 0 ∧ u = (ms_en (va_up (va_up F 10 E2) 5 (upd (F 5) j y)) j 1 0, vp_updL sp j (ck + 1), 0, ck + 1)) ∨ (n2 = none ∧ ∃ f, f ≤ 4 ∧ F 8 k = nI f ∧ ((f < 4 ∧ r = 0 ∧ u = (va_up (va_up (va_up F 10 E2) 9 (upd (F 9) (4 * k + f) y)) 8 (upd (F 8) k (nI (f + 1))), sp, 0, ck)) ∨ (f = 4 ∧ r = 1 ∧ u = (ms_en (va_up (va_up F 10 E2) 4 (upd (F 4) t y)) t 4 (nI k), vp_updL sp t (ck + 1), 0, ck + 1)))))))
def ms_sh (F : Nat → Nat → Int32) (k g : Nat) (V : Nat → Int32) : Prop := (∀ j, j < g → V (4 * k + j) = F 9 (4 * k + j + 1)) ∧ ∀ p, (p < 4 * k ∨ 4 * k + g ≤ p) → V p = F 9 p
theorem ms_sh_1 {F : Nat → Nat → Int32} {k g : Nat} {V : Nat → Int32} (h : ms_sh F k g V) : ms_sh F k (g + 1) (upd V (4 * k + g) (V (4 * k + g + 1))) := by
  refine ⟨fun j hj => ?_, fun p hp => ?_⟩
  · unfold upd
    split
    · rename_i e
      rw [show j = g by omega]
      exact h.2 _ (by omega)
    · exact h.1 j (by omega)
  · unfold upd
    rw [if_neg (by omega)]
    exact h.2 p (by omega)
def mp_receive (nB : Nat) (F : Nat → Nat → Int32) (sp : Nat → Int64) (ck : Int64) (x r : Int32) (u : mS) : Prop := ∃ E nx, ms_fo F sp 1 0 E nx ∧ ((¬ sp_in nB x ∧ u = (va_up F 10 E, sp, 1, ck)) ∨ (sp_in nB x ∧ nx = none ∧ u = (va_up F 10 E, sp, 2, ck)) ∨
  (∃ k t, k < nB ∧ x = nI k ∧ t < 16 ∧ nx = some t ∧ ((F 8 k = 0 ∧ r = 1 ∧ u = (ms_en (va_up F 10 E) t 5 (nI k), vp_updL sp t (ck + 1), 0, ck + 1)) ∨ (∃ g V E2 n2, g ≤ 3 ∧ F 8 k = nI (g + 1) ∧ r = 0 ∧ ms_sh F k g V ∧ ms_fo F sp 4 (nI k) E2 n2 ∧
    ((n2 = none ∧ u = (va_up (va_up (va_up (va_up F 10 E2) 5 (upd (F 5) t (F 9 (4 * k)))) 8 (upd (F 8) k (nI g))) 9 V, sp, 0, ck)) ∨ (∃ j, j < 16 ∧ n2 = some j ∧ u = (ms_en (va_up (va_up (va_up (va_up F 10 E2) 5 (upd (F 5) t (F 9 (4 * k)))) 8 (upd (upd (F 8) k (nI g)) k (nI (g + 1)))) 9 (upd V (4 * k + g) (F 4 j))) j 1 0, vp_updL sp j (ck + 1), 0, ck + 1)))))))
def mp_sleep (F : Nat → Nat → Int32) (sp : Nat → Int64) (ck : Int64) (x r : Int32) (u : mS) : Prop := ∃ E nx, ms_fo F sp 1 0 E nx ∧ ((nx = none ∧ u = (va_up F 10 E, sp, 1, ck)) ∨ ((∃ t, nx = some t) ∧ ¬ (1 ≤ x ∧ x ≤ 1000) ∧ u = (va_up F 10 E, sp, 2, ck)) ∨
  (∃ t E2 n2, t < 16 ∧ nx = some t ∧ 1 ≤ x ∧ x ≤ 1000 ∧ ms_fo (ms_en (va_up F 3 (upd (F 3) t x)) t 6 0) (vp_updL sp t (ck + 1)) 1 0 E2 n2 ∧ u = (va_up (ms_en (va_up F 3 (upd (F 3) t x)) t 6 0) 10 E2, vp_updL sp t (ck + 1), 0, ck + 1) ∧ r = pq_enc n2))
abbrev ms_fr (F : Nat → Nat → Int32) (t : Nat) : Nat → Nat → Int32 := va_up (va_up (va_up F 0 (upd (F 0) t 0)) 1 (upd (F 1) t 0)) 5 (upd (F 5) t 0)
def mp_end (nL : Nat) (F : Nat → Nat → Int32) (sp : Nat → Int64) (ck : Int64) (r : Int32) (u : mS) : Prop := ∃ E nx, ms_fo F sp 1 0 E nx ∧ ((nx = none ∧ u = (va_up F 10 E, sp, 1, ck)) ∨ (∃ t, t < 16 ∧ nx = some t ∧ ((¬ pq_cnt (fun k => decide (F 6 k = nI t)) nL = 0 ∧ u = (va_up F 10 E, sp, 2, ck)) ∨
  (pq_cnt (fun k => decide (F 6 k = nI t)) nL = 0 ∧ ∃ E2 n2, ms_fo (ms_fr F t) sp 1 0 E2 n2 ∧ u = (va_up (ms_fr F t) 10 E2, sp, 0, ck) ∧ r = pq_enc n2))))
def mp_told (nL : Nat) (F : Nat → Nat → Int32) (sp : Nat → Int64) (ck : Int64) (x y r : Int32) (u : mS) : Prop := (¬ sp_in 16 x ∧ u = (F, sp, 1, ck)) ∨ (sp_in 16 x ∧ (y < 0 ∨ ¬ y ≤ 6) ∧ u = (F, sp, 2, ck)) ∨ (∃ t E, t < 16 ∧ x = nI t ∧ pq_Eff (ms_h F) (F 1) E ∧ u = (va_up F 10 E, sp, 0, ck) ∧
  ((y = 0 ∧ r = F 0 t) ∨ (y = 1 ∧ r = F 1 t) ∨ (y = 2 ∧ r = E t) ∨ (y = 3 ∧ r = if 2 ≤ F 0 t ∧ F 0 t ≤ 5 then F 2 t else -1) ∨ (y = 4 ∧ r = if F 0 t = 6 then F 3 t else 0) ∨ (y = 5 ∧ r = F 5 t) ∨ (y = 6 ∧ r = nI (pq_cnt (fun k => decide (F 6 k = nI t)) nL))))
def mp_get (n c : Nat) (F : Nat → Nat → Int32) (sp : Nat → Int64) (ck : Int64) (x r : Int32) (u : mS) : Prop := (¬ sp_in n x ∧ u = (F, sp, 1, ck)) ∨ (∃ k, k < n ∧ x = nI k ∧ r = F c k ∧ u = (F, sp, 0, ck))
def mp_first (nL nC nB : Nat) (F : Nat → Nat → Int32) (sp : Nat → Int64) (ck : Int64) (x y r : Int32) (u : mS) : Prop := ((x < 2 ∨ ¬ x ≤ 5) ∧ u = (F, sp, 1, ck)) ∨ (2 ≤ x ∧ x ≤ 5 ∧ ¬ sp_in (if x = 2 then nL else if x = 3 then nC else nB) y ∧ u = (F, sp, 2, ck)) ∨ (2 ≤ x ∧ x ≤ 5 ∧ sp_in (if x = 2 then nL else if x = 3 then nC else nB) y ∧ ∃ E nx, ms_fo F sp x y E nx ∧ r = pq_enc nx ∧ u = (va_up F 10 E, sp, 0, ck))
set_option maxHeartbeats 1000000 in
set_option maxRecDepth 100000 in
/-- cM_clear -/
theorem cM_clear (l : Launch) (D : va_G) (h : Nat) (a : Nat → Nat) (cA : Nat → ClassId) (nL nC nB sz : Nat) (hn : nL ≤ 8 ∧ nC ≤ 8 ∧ nB ≤ 8) (F : Nat → Nat → Int32) (sp : Nat → Int64) (cd : Int32) (ck : Int64)   : Met l yX1_clear wsX1_clear ({ frames := 0, cells := 0, slots := 0, locals := 0 }) (va_Pc [.ref h] (zz_Pre D vwCl (mT cA) (mW h a cA nL nC nB F sp cd ck) sz)) (va_Qv (fun (u : mS) => ms_new u.1 ∧ u.2.2.1 = 0 ∧ u.2.2.2 = 0) (zz_At D vwCl (mT cA) (fun u : mS => mW h a cA nL nC nB u.1 u.2.1 u.2.2.1 u.2.2.2) (va_A (mW h a cA nL nC nB F sp cd ck) sz)) (va_A (mW h a cA nL nC nB F sp cd ck) sz)) 0 0 (va_A (mW h a cA nL nC nB F sp cd ck) sz) := by
  obtain ⟨hnL, hnC, hnB⟩ := hn
  have hn : nL ≤ 8 ∧ nC ≤ 8 ∧ nB ≤ 8 := ⟨hnL, hnC, hnB⟩
  refine zz_of (Qc := fun A => va_Qv (fun (u : mS) => ms_new u.1 ∧ u.2.2.1 = 0 ∧ u.2.2.2 = 0) (zz_At D vwCl (mT cA) (fun u : mS => mW h a cA nL nC nB u.1 u.2.1 u.2.2.1 u.2.2.2) A) A) (by decide) rfl (Nat.le_of_ble_eq_true rfl) ?_
  intro p e s m args below meth c A H locs ls0 hx hb hr hml hown hts hlocks hnm hA hP hK hD hS hl
  have hown : s.vm.findClass RX1 = some m.cls := hown
  have hl : lv_has ls0 2 [(0, .ref h)] := hl
  have hin : ∀ w ∈ u_ws RX1 TX1 17, w ∈ wsX1_clear := by decide +kernel
  have hf7 := hts (.fieldLink RX1 7 "PriorityCoreModel" "states" "[I") (by decide +kernel)
  have hf13 := hts (.fieldLink RX1 13 "PriorityCoreModel" "bases" "[I") (by decide +kernel)
  have hf23 := hts (.fieldLink RX1 23 "PriorityCoreModel" "ticks" "[I") (by decide +kernel)
  have hf29 := hts (.fieldLink RX1 29 "PriorityCoreModel" "got" "[I") (by decide +kernel)
  have hf32 := hts (.fieldLink RX1 32 "PriorityCoreModel" "owners" "[I") (by decide +kernel)
  have hf35 := hts (.fieldLink RX1 35 "PriorityCoreModel" "counts" "[I") (by decide +kernel)
  have hf38 := hts (.fieldLink RX1 38 "PriorityCoreModel" "wordCounts" "[I") (by decide +kernel)
  have hf64 := hts (.fieldLink RX1 64 "PriorityCoreModel" "code" "I") (by decide +kernel)
  have hf67 := hts (.fieldLink RX1 67 "PriorityCoreModel" "clock" "J") (by decide +kernel)
  refine lv_aload_n hx hb dX1_clear_0 rfl (lv_at hl 0 rfl) ?_
  refine lv_iconst (v := 0) hx hb dX1_clear_1 (by decide) ?_
  refine va_put (D := D) (ci := 1) (v := .int 0) (ty := .int) (C := RX1) (T := TX1) (N := 17) hx hb hts hin tyX1 tyX1_ok nmX1 hown hK hP hD hS 0 rfl rfl 3 (by decide) hf64 (fun _ h9 => h9) rfl (by decide +kernel) rfl rfl (Nat.le_of_ble_eq_true rfl) dX1_clear_2 (fun H locs hP hD hS => ?_)
  have hP : va_P D vwCl (mW h a cA nL nC nB F sp 0 ck) H := hP
  have hD : va_D A (mW h a cA nL nC nB F sp 0 ck) := hD
  refine lv_aload_n hx hb dX1_clear_5 rfl (lv_at hl 0 rfl) ?_
  refine lv_lconst (v := 0) hx hb dX1_clear_6 (by decide) ?_
  refine va_put (D := D) (ci := 1) (v := .long 0) (ty := .long) (C := RX1) (T := TX1) (N := 17) hx hb hts hin tyX1 tyX1_ok nmX1 hown hK hP hD hS 0 rfl rfl 4 (by decide) hf67 (fun _ h9 => h9) rfl (by decide +kernel) rfl rfl (Nat.le_of_ble_eq_true rfl) dX1_clear_7 (fun H locs hP hD hS => ?_)
  have hP : va_P D vwCl (mW h a cA nL nC nB F sp 0 0) H := hP
  have hD : va_D A (mW h a cA nL nC nB F sp 0 0) := hD
  refine lv_iconst (v := nI 0) hx hb dX1_clear_10 (by decide) ?_
  refine lv_istore_n (lv' := [(1, .int (nI 0)), (0, .ref h)]) hx hb dX1_clear_11 rfl hl (by decide) rfl (fun ls0 hl => ?_)
  have lp12 : ∀ (n12 : Nat) (i : Nat) (R0 R1 R3 R5 : Nat → Int32), (i ≤ 16) → (17 ≤ i + n12) → (∀ j, j < i → R0 j = 0 ∧ R1 j = 0 ∧ R5 j = 0 ∧ R3 j = 0) → ∀ (H : Heap) (locs : List Loc) (ls0 : Array Slot), va_P D vwCl (mW h a cA nL nC nB (va_up (va_up (va_up (va_up F 0 R0) 1 R1) 3 R3) 5 R5) sp 0 0) H → va_D A (mW h a cA nL nC nB (va_up (va_up (va_up (va_up F 0 R0) 1 R1) 3 R3) 5 R5) sp 0 0) → va_S A s.heap H locs → lv_has ls0 2 [(0, .ref h), (1, .int (nI i))] → W p l e ({ frames := 0, cells := 0, slots := 0, locals := 0 }) s m args below meth c H locs 0 0 (MQ below (va_Qv (fun (u : mS) => ms_new u.1 ∧ u.2.2.1 = 0 ∧ u.2.2.2 = 0) (zz_At D vwCl (mT cA) (fun u : mS => mW h a cA nL nC nB u.1 u.2.1 u.2.2.1 u.2.2.2) A) A) args s 0 0 A) (F0 m 12 ls0 []) := by
    intro n12
    induction n12 with
    | zero =>
      intro i R0 R1 R3 R5 hi hm hE
      exact absurd True.intro (by omega)
    | succ n12 ih12 =>
      intro i R0 R1 R3 R5 hi hm hE H locs ls0 hP hD hS hl
      refine lv_iload_n hx hb dX1_clear_12 rfl (lv_at hl 1 rfl) ?_
      refine lv_bipush (v := 16) hx hb dX1_clear_13 (by decide) ?_
      refine lv_icmp_ge (tgt := 52) hx hb dX1_clear_15 (by decide) (fun c15 => ?_) (fun c15 => ?_)
      · have hi2 : i = 16 := Nat.le_antisymm hi (zn_ge rfl (by omega) (by decide) c15)
        rw [hi2] at hE
        refine lv_iconst (v := nI 0) hx hb dX1_clear_52 (by decide) ?_
        refine lv_istore_n (lv' := [(1, .int (nI 0)), (0, .ref h)]) hx hb dX1_clear_53 rfl hl (by decide) rfl (fun ls0 hl => ?_)
        have lp54 : ∀ (n54 : Nat) (i8 : Nat) (R6 R7 R8 : Nat → Int32), (i8 ≤ 8) → (9 ≤ i8 + n54) → (∀ j, j < i8 → R6 j = -1 ∧ R7 j = 0 ∧ R8 j = 0) → ∀ (H : Heap) (locs : List Loc) (ls0 : Array Slot), va_P D vwCl (mW h a cA nL nC nB (va_up (va_up (va_up (va_up (va_up (va_up (va_up F 0 R0) 1 R1) 3 R3) 5 R5) 6 R6) 7 R7) 8 R8) sp 0 0) H → va_D A (mW h a cA nL nC nB (va_up (va_up (va_up (va_up (va_up (va_up (va_up F 0 R0) 1 R1) 3 R3) 5 R5) 6 R6) 7 R7) 8 R8) sp 0 0) → va_S A s.heap H locs → lv_has ls0 2 [(0, .ref h), (1, .int (nI i8))] → W p l e ({ frames := 0, cells := 0, slots := 0, locals := 0 }) s m args below meth c H locs 0 0 (MQ below (va_Qv (fun (u : mS) => ms_new u.1 ∧ u.2.2.1 = 0 ∧ u.2.2.2 = 0) (zz_At D vwCl (mT cA) (fun u : mS => mW h a cA nL nC nB u.1 u.2.1 u.2.2.1 u.2.2.2) A) A) args s 0 0 A) (F0 m 54 ls0 []) := by
          intro n54
          induction n54 with
          | zero =>
            intro i8 R6 R7 R8 hi8 hm8 hG
            exact absurd True.intro (by omega)
          | succ n54 ih54 =>
            intro i8 R6 R7 R8 hi8 hm8 hG H locs ls0 hP hD hS hl
            refine lv_iload_n hx hb dX1_clear_54 rfl (lv_at hl 1 rfl) ?_
            refine lv_bipush (v := 8) hx hb dX1_clear_55 (by decide) ?_
            refine lv_icmp_ge (tgt := 87) hx hb dX1_clear_57 (by decide) (fun c57 => ?_) (fun c57 => ?_)
            · have hi2 : i8 = 8 := Nat.le_antisymm hi8 (zn_ge rfl (by omega) (by decide) c57)
              rw [hi2] at hG
              exact zz_rv (va_up (va_up (va_up (va_up (va_up (va_up (va_up F 0 R0) 1 R1) 3 R3) 5 R5) 6 R6) 7 R7) 8 R8, sp, 0, 0) hx hb hr hlocks hP hK hD hS (⟨⟨hE, hG⟩, rfl, rfl⟩) dX1_clear_87
            · have hi9 : i8 < 8 := zn_lt rfl (by omega) (by decide) c57
              refine lv_aload_n hx hb dX1_clear_60 rfl (lv_at hl 0 rfl) ?_
              refine va_get (D := D) (ci := 1) (v := .ref (a 6)) (C := RX1) (T := TX1) (N := 17) hx hb hts hin hown hK hP 0 rfl rfl 12 (by decide) hf32 (fun _ h9 => h9) rfl dX1_clear_61 ?_
              refine lv_iload_n hx hb dX1_clear_64 rfl (lv_at hl 1 rfl) ?_
              refine lv_iconst (v := (-1)) hx hb dX1_clear_65 (by decide) ?_
              refine zz_iast (ws' := mW h a cA nL nC nB (va_up (va_up (va_up (va_up (va_up (va_up (va_up F 0 R0) 1 R1) 3 R3) 5 R5) 6 (upd R6 i8 (-1))) 7 R7) 8 R8) sp 0 0) hx hb hK hP hD hS 7 6 rfl rfl (hi9) (by decide) rfl dX1_clear_66 (fun H locs hP hD hS => ?_)
              refine lv_aload_n hx hb dX1_clear_67 rfl (lv_at hl 0 rfl) ?_
              refine va_get (D := D) (ci := 1) (v := .ref (a 7)) (C := RX1) (T := TX1) (N := 17) hx hb hts hin hown hK hP 0 rfl rfl 13 (by decide) hf35 (fun _ h9 => h9) rfl dX1_clear_68 ?_
              refine lv_iload_n hx hb dX1_clear_71 rfl (lv_at hl 1 rfl) ?_
              refine lv_iconst (v := 0) hx hb dX1_clear_72 (by decide) ?_
              refine zz_iast (ws' := mW h a cA nL nC nB (va_up (va_up (va_up (va_up (va_up (va_up (va_up F 0 R0) 1 R1) 3 R3) 5 R5) 6 (upd R6 i8 (-1))) 7 (upd R7 i8 0)) 8 R8) sp 0 0) hx hb hK hP hD hS 8 7 rfl rfl (hi9) (by decide) rfl dX1_clear_73 (fun H locs hP hD hS => ?_)
              refine lv_aload_n hx hb dX1_clear_74 rfl (lv_at hl 0 rfl) ?_
              refine va_get (D := D) (ci := 1) (v := .ref (a 8)) (C := RX1) (T := TX1) (N := 17) hx hb hts hin hown hK hP 0 rfl rfl 14 (by decide) hf38 (fun _ h9 => h9) rfl dX1_clear_75 ?_
              refine lv_iload_n hx hb dX1_clear_78 rfl (lv_at hl 1 rfl) ?_
              refine lv_iconst (v := 0) hx hb dX1_clear_79 (by decide) ?_
              refine zz_iast (ws' := mW h a cA nL nC nB (va_up (va_up (va_up (va_up (va_up (va_up (va_up F 0 R0) 1 R1) 3 R3) 5 R5) 6 (upd R6 i8 (-1))) 7 (upd R7 i8 0)) 8 (upd R8 i8 0)) sp 0 0) hx hb hK hP hD hS 9 8 rfl rfl (hi9) (by decide) rfl dX1_clear_80 (fun H locs hP hD hS => ?_)
              refine lv_iinc (v := nI (i8 + 1)) (lv' := [(1, .int (nI (i8 + 1))), (0, .ref h)]) hx hb dX1_clear_81 hl (k := 1) rfl (nI_1 _) (by decide) rfl (fun ls0 hl => ?_)
              refine lv_goto (tgt := 54) hx hb dX1_clear_84 (by decide) ?_
              exact ih54 (i8 + 1) _ _ _ (by omega) (by omega) (fun j hj => by unfold upd; split; exact ⟨rfl, rfl, rfl⟩; exact hG j (by omega)) H locs ls0 hP hD hS (lv_sub hl [1, 0] rfl)
        exact lp54 9 0 (F 6) (F 7) (F 8) (by omega) (by omega) (fun j hj => absurd hj (by omega)) H locs ls0 hP hD hS (lv_sub hl [1, 0] rfl)
      · have hi16 : i < 16 := zn_lt rfl (by omega) (by decide) c15
        refine lv_aload_n hx hb dX1_clear_18 rfl (lv_at hl 0 rfl) ?_
        refine va_get (D := D) (ci := 1) (v := .ref (a 0)) (C := RX1) (T := TX1) (N := 17) hx hb hts hin hown hK hP 0 rfl rfl 5 (by decide) hf7 (fun _ h9 => h9) rfl dX1_clear_19 ?_
        refine lv_iload_n hx hb dX1_clear_22 rfl (lv_at hl 1 rfl) ?_
        refine lv_iconst (v := 0) hx hb dX1_clear_23 (by decide) ?_
        refine zz_iast (ws' := mW h a cA nL nC nB (va_up (va_up (va_up (va_up F 0 (upd R0 i 0)) 1 R1) 3 R3) 5 R5) sp 0 0) hx hb hK hP hD hS 1 0 rfl rfl (hi16) (by decide) rfl dX1_clear_24 (fun H locs hP hD hS => ?_)
        refine lv_aload_n hx hb dX1_clear_25 rfl (lv_at hl 0 rfl) ?_
        refine va_get (D := D) (ci := 1) (v := .ref (a 1)) (C := RX1) (T := TX1) (N := 17) hx hb hts hin hown hK hP 0 rfl rfl 6 (by decide) hf13 (fun _ h9 => h9) rfl dX1_clear_26 ?_
        refine lv_iload_n hx hb dX1_clear_29 rfl (lv_at hl 1 rfl) ?_
        refine lv_iconst (v := 0) hx hb dX1_clear_30 (by decide) ?_
        refine zz_iast (ws' := mW h a cA nL nC nB (va_up (va_up (va_up (va_up F 0 (upd R0 i 0)) 1 (upd R1 i 0)) 3 R3) 5 R5) sp 0 0) hx hb hK hP hD hS 2 1 rfl rfl (hi16) (by decide) rfl dX1_clear_31 (fun H locs hP hD hS => ?_)
        refine lv_aload_n hx hb dX1_clear_32 rfl (lv_at hl 0 rfl) ?_
        refine va_get (D := D) (ci := 1) (v := .ref (a 5)) (C := RX1) (T := TX1) (N := 17) hx hb hts hin hown hK hP 0 rfl rfl 11 (by decide) hf29 (fun _ h9 => h9) rfl dX1_clear_33 ?_
        refine lv_iload_n hx hb dX1_clear_36 rfl (lv_at hl 1 rfl) ?_
        refine lv_iconst (v := 0) hx hb dX1_clear_37 (by decide) ?_
        refine zz_iast (ws' := mW h a cA nL nC nB (va_up (va_up (va_up (va_up F 0 (upd R0 i 0)) 1 (upd R1 i 0)) 3 R3) 5 (upd R5 i 0)) sp 0 0) hx hb hK hP hD hS 6 5 rfl rfl (hi16) (by decide) rfl dX1_clear_38 (fun H locs hP hD hS => ?_)
        refine lv_aload_n hx hb dX1_clear_39 rfl (lv_at hl 0 rfl) ?_
        refine va_get (D := D) (ci := 1) (v := .ref (a 3)) (C := RX1) (T := TX1) (N := 17) hx hb hts hin hown hK hP 0 rfl rfl 9 (by decide) hf23 (fun _ h9 => h9) rfl dX1_clear_40 ?_
        refine lv_iload_n hx hb dX1_clear_43 rfl (lv_at hl 1 rfl) ?_
        refine lv_iconst (v := 0) hx hb dX1_clear_44 (by decide) ?_
        refine zz_iast (ws' := mW h a cA nL nC nB (va_up (va_up (va_up (va_up F 0 (upd R0 i 0)) 1 (upd R1 i 0)) 3 (upd R3 i 0)) 5 (upd R5 i 0)) sp 0 0) hx hb hK hP hD hS 4 3 rfl rfl (hi16) (by decide) rfl dX1_clear_45 (fun H locs hP hD hS => ?_)
        refine lv_iinc (v := nI (i + 1)) (lv' := [(1, .int (nI (i + 1))), (0, .ref h)]) hx hb dX1_clear_46 hl (k := 1) rfl (nI_1 _) (by decide) rfl (fun ls0 hl => ?_)
        refine lv_goto (tgt := 12) hx hb dX1_clear_49 (by decide) ?_
        exact ih12 (i + 1) _ _ _ _ (by omega) (by omega) (fun j hj => by unfold upd; split; exact ⟨rfl, rfl, rfl, rfl⟩; exact hE j (by omega)) H locs ls0 hP hD hS (lv_sub hl [1, 0] rfl)
  exact lp12 17 0 (F 0) (F 1) (F 3) (F 5) (by omega) (by omega) (fun j hj => absurd hj (by omega)) H locs ls0 hP hD hS (lv_sub hl [1, 0] rfl)
theorem ms_I_en {F : Nat → Nat → Int32} (h : ms_I F) {t : Nat} {st tg : Int32} (h2 : ¬ st = 2) (h0 : ¬ st = 0) {B : Nat → Int32} (hB : ∀ s, ¬ s = t → B s = F 1 s) {G : Nat → Nat → Int32} (g0 : G 0 = upd (F 0) t st) (g1 : G 1 = B) (g2 : G 2 = upd (F 2) t tg) (g6 : G 6 = F 6) : ms_I G := by
  refine ⟨fun s hs e => ?_, fun s hs e => ?_, by rw [g6]; exact h.2.2⟩
  · rw [g0] at e
    by_cases c : s = t
    · rw [c, pk_us] at e; exact absurd e h2
    · rw [pk_un c] at e
      rw [g2, pk_un c, g6]
      exact h.1 s hs e
  · rw [g0] at e
    by_cases c : s = t
    · rw [c, pk_us] at e; exact absurd e h0
    · rw [pk_un c] at e
      rw [g1, hB s c]
      exact h.2.1 s hs e
theorem ms_I_fr {F : Nat → Nat → Int32} (h : ms_I F) (t : Nat) : ms_I (ms_fr F t) := by
  refine ⟨fun s hs e => ?_, fun s hs e => ?_, h.2.2⟩
  · have e' : upd (F 0) t 0 s = 2 := e
    by_cases c : s = t
    · rw [c, pk_us] at e'; exact absurd e' (by decide)
    · rw [pk_un c] at e'
      exact h.1 s hs e'
  · have e' : upd (F 0) t 0 s = 0 := e
    show upd (F 1) t 0 s = 0
    by_cases c : s = t
    · rw [c, pk_us]
    · rw [pk_un c] at e' ⊢
      exact h.2.1 s hs e'
theorem pk_un' {f : Nat → Int32} {k : Nat} {x : Int32} : ∀ s, ¬ s = k → upd f k x s = f s := fun s h => pk_un h
set_option maxHeartbeats 1000000 in
set_option maxRecDepth 100000 in
/-- cM_create -/
theorem cM_create (l : Launch) (D : va_G) (h : Nat) (a : Nat → Nat) (cA : Nat → ClassId) (nL nC nB sz : Nat) (hn : nL ≤ 8 ∧ nC ≤ 8 ∧ nB ≤ 8) (F : Nat → Nat → Int32) (sp : Nat → Int64) (cd : Int32) (ck : Int64) (x y : Int32) (hI : ms_I F) : Met l yX1_create wsX1_create ({ frames := 3, cells := 0, slots := 0, locals := 69 }) (va_Pc [.ref h, .int x, .int y] (zz_Pre D vwCl (mT cA) (mW h a cA nL nC nB F sp cd ck) sz)) (va_Qi (fun (r : Int32) (u : mS) => mp_create F sp ck x y r u) (zz_At D vwCl (mT cA) (fun u : mS => mW h a cA nL nC nB u.1 u.2.1 u.2.2.1 u.2.2.2) (va_A (mW h a cA nL nC nB F sp cd ck) sz)) (va_A (mW h a cA nL nC nB F sp cd ck) sz)) 0 0 (va_A (mW h a cA nL nC nB F sp cd ck) sz) := by
  obtain ⟨hnL, hnC, hnB⟩ := hn
  have hn : nL ≤ 8 ∧ nC ≤ 8 ∧ nB ≤ 8 := ⟨hnL, hnC, hnB⟩
  refine zz_of (Qc := fun A => va_Qi (fun (r : Int32) (u : mS) => mp_create F sp ck x y r u) (zz_At D vwCl (mT cA) (fun u : mS => mW h a cA nL nC nB u.1 u.2.1 u.2.2.1 u.2.2.2) A) A) (by decide) rfl (Nat.le_of_ble_eq_true rfl) ?_
  intro p e s m args below meth c A H locs ls0 hx hb hr hml hown hts hlocks hnm hA hP hK hD hS hl
  have hown : s.vm.findClass RX1 = some m.cls := hown
  have hl : lv_has ls0 3 [(0, .ref h), (1, .int x), (2, .int y)] := hl
  have hin : ∀ w ∈ u_ws RX1 TX1 17, w ∈ wsX1_create := by decide +kernel
  have hf7 := hts (.fieldLink RX1 7 "PriorityCoreModel" "states" "[I") (by decide +kernel)
  have hf13 := hts (.fieldLink RX1 13 "PriorityCoreModel" "bases" "[I") (by decide +kernel)
  have hf29 := hts (.fieldLink RX1 29 "PriorityCoreModel" "got" "[I") (by decide +kernel)
  have hf64 := hts (.fieldLink RX1 64 "PriorityCoreModel" "code" "I") (by decide +kernel)
  refine lv_aload_n hx hb dX1_create_0 rfl (lv_at hl 0 rfl) ?_
  refine lv_iload_n hx hb dX1_create_1 rfl (lv_at hl 1 rfl) ?_
  refine zz_pi (w := []) (wr := mW h a cA nL nC nB F sp cd ck) (va_runS (As := [.int x]) (rest := [.ref h]) ⟨hx, hb, hml, hown, hts⟩ (cM_isTask l D H.size x) (va_cwS 1 hts gX1_create_X1_isTask rfl rfl rfl (by decide +kernel) ⟨(Nat.le_of_ble_eq_true rfl), (Nat.le_of_ble_eq_true rfl)⟩) (zz_pS (hP.sub (ws' := []) [] rfl) (hK.sub (tys' := []) [] rfl) (hD.sub (ws' := []) [] (by decide) rfl)) rfl rfl hl.1 rfl (lv_room (Nat.le_of_ble_eq_true rfl)) dX1_create_2 ⟨(Nat.le_of_ble_eq_true rfl), (Nat.le_of_ble_eq_true rfl)⟩) hP hD hS hA [] [0, 1, 2, 3, 4, 5, 6, 7, 8, 9, 10, 11, 12] rfl rfl (by decide) (by decide) (fun r u H locs hw hP hD hS => ?_)
  have hP : va_P D vwCl (mW h a cA nL nC nB F sp cd ck) H := hP
  have hD : va_D A (mW h a cA nL nC nB F sp cd ck) := hD
  refine lv_if_ne (tgt := 12) hx hb dX1_create_5 (by decide) (fun c5 => ?_) (fun c5 => ?_)
  · have hti : sp_in 16 x := by
      rcases hw with q | q
      · exact q.2
      · exact absurd q.1 c5
    refine lv_iload_n hx hb dX1_create_12 rfl (lv_at hl 2 rfl) ?_
    refine zz_pi (w := []) (wr := mW h a cA nL nC nB F sp cd ck) (va_runS (As := [.int y]) (rest := [.ref h]) ⟨hx, hb, hml, hown, hts⟩ (cM_isPriority l D H.size y) (va_cwS 1 hts gX1_create_X1_isPriority rfl rfl rfl (by decide +kernel) ⟨(Nat.le_of_ble_eq_true rfl), (Nat.le_of_ble_eq_true rfl)⟩) (zz_pS (hP.sub (ws' := []) [] rfl) (hK.sub (tys' := []) [] rfl) (hD.sub (ws' := []) [] (by decide) rfl)) rfl rfl hl.1 rfl (lv_room (Nat.le_of_ble_eq_true rfl)) dX1_create_13 ⟨(Nat.le_of_ble_eq_true rfl), (Nat.le_of_ble_eq_true rfl)⟩) hP hD hS hA [] [0, 1, 2, 3, 4, 5, 6, 7, 8, 9, 10, 11, 12] rfl rfl (by decide) (by decide) (fun r u H locs hw hP hD hS => ?_)
    have hP : va_P D vwCl (mW h a cA nL nC nB F sp cd ck) H := hP
    have hD : va_D A (mW h a cA nL nC nB F sp cd ck) := hD
    refine lv_if_ne (tgt := 23) hx hb dX1_create_16 (by decide) (fun c16 => ?_) (fun c16 => ?_)
    · have hpr : sp_pr y := by
        rcases hw with q | q
        · exact q.2
        · exact absurd q.1 c16
      obtain ⟨t, ht16, hxe⟩ := hti
      subst hxe
      have hl : lv_has ls0 3 [(0, .ref h), (1, .int (nI t)), (2, .int y)] := hl
      refine lv_aload_n hx hb dX1_create_23 rfl (lv_at hl 0 rfl) ?_
      refine va_get (D := D) (ci := 1) (v := .ref (a 0)) (C := RX1) (T := TX1) (N := 17) hx hb hts hin hown hK hP 0 rfl rfl 5 (by decide) hf7 (fun _ h9 => h9) rfl dX1_create_24 ?_
      refine lv_iload_n hx hb dX1_create_27 rfl (lv_at hl 1 rfl) ?_
      refine zz_iald hx hb hK hP 1 0 rfl rfl (ht16) (by decide) dX1_create_28 ?_
      refine lv_if_eq (tgt := 36) hx hb dX1_create_29 (by decide) (fun c29 => ?_) (fun c29 => ?_)
      · refine lv_iconst (v := 0) hx hb dX1_create_36 (by decide) ?_
        refine va_put (D := D) (ci := 1) (v := .int 0) (ty := .int) (C := RX1) (T := TX1) (N := 17) hx hb hts hin tyX1 tyX1_ok nmX1 hown hK hP hD hS 0 rfl rfl 3 (by decide) hf64 (fun _ h9 => h9) rfl (by decide +kernel) rfl rfl (Nat.le_of_ble_eq_true rfl) dX1_create_37 (fun H locs hP hD hS => ?_)
        have hP : va_P D vwCl (mW h a cA nL nC nB F sp 0 ck) H := hP
        have hD : va_D A (mW h a cA nL nC nB F sp 0 ck) := hD
        refine lv_aload_n hx hb dX1_create_40 rfl (lv_at hl 0 rfl) ?_
        refine va_get (D := D) (ci := 1) (v := .int 0) (C := RX1) (T := TX1) (N := 17) hx hb hts hin hown hK hP 0 rfl rfl 3 (by decide) hf64 (fun _ h9 => h9) rfl dX1_create_41 ?_
        refine lv_if_le (tgt := 49) hx hb dX1_create_44 (by decide) (fun c44 => ?_) (fun c44 => ?_)
        · refine lv_aload_n hx hb dX1_create_49 rfl (lv_at hl 0 rfl) ?_
          refine va_get (D := D) (ci := 1) (v := .ref (a 1)) (C := RX1) (T := TX1) (N := 17) hx hb hts hin hown hK hP 0 rfl rfl 6 (by decide) hf13 (fun _ h9 => h9) rfl dX1_create_50 ?_
          refine lv_iload_n hx hb dX1_create_53 rfl (lv_at hl 1 rfl) ?_
          refine lv_iload_n hx hb dX1_create_54 rfl (lv_at hl 2 rfl) ?_
          refine zz_iast (ws' := mW h a cA nL nC nB (va_up F 1 (upd (F 1) t y)) sp 0 ck) hx hb hK hP hD hS 2 1 rfl rfl (ht16) (by decide) rfl dX1_create_55 (fun H locs hP hD hS => ?_)
          refine lv_aload_n hx hb dX1_create_56 rfl (lv_at hl 0 rfl) ?_
          refine va_get (D := D) (ci := 1) (v := .ref (a 5)) (C := RX1) (T := TX1) (N := 17) hx hb hts hin hown hK hP 0 rfl rfl 11 (by decide) hf29 (fun _ h9 => h9) rfl dX1_create_57 ?_
          refine lv_iload_n hx hb dX1_create_60 rfl (lv_at hl 1 rfl) ?_
          refine lv_iconst (v := 0) hx hb dX1_create_61 (by decide) ?_
          refine zz_iast (ws' := mW h a cA nL nC nB (va_up (va_up F 1 (upd (F 1) t y)) 5 (upd (F 5) t 0)) sp 0 ck) hx hb hK hP hD hS 6 5 rfl rfl (ht16) (by decide) rfl dX1_create_62 (fun H locs hP hD hS => ?_)
          refine lv_aload_n hx hb dX1_create_63 rfl (lv_at hl 0 rfl) ?_
          refine lv_iload_n hx hb dX1_create_64 rfl (lv_at hl 1 rfl) ?_
          refine lv_iconst (v := 1) hx hb dX1_create_65 (by decide) ?_
          refine lv_iconst (v := 0) hx hb dX1_create_66 (by decide) ?_
          refine zz_cv (va_runV (As := [.int (nI t), .int 1, .int 0]) (rest := []) ⟨hx, hb, hml, hown, hts⟩ (cM_enter l D h a cA nL nC nB H.size hn (va_up (va_up F 1 (upd (F 1) t y)) 5 (upd (F 5) t 0)) sp 0 ck t 1 0 ht16) (cwV 3 hts gX1_create_X1_enter rfl rfl rfl (by decide +kernel) ⟨(Nat.le_of_ble_eq_true rfl), (Nat.le_of_ble_eq_true rfl)⟩) (zz_pV hP hK hD (va_recv hK hP (ci := 1) (q0 := 0) rfl rfl)) rfl rfl hl.1 rfl (lv_room (Nat.le_of_ble_eq_true rfl)) dX1_create_67 ⟨(Nat.le_of_ble_eq_true rfl), (Nat.le_of_ble_eq_true rfl)⟩) hD hS hA (fun u H locs hw hP hD hS => ?_)
          subst hw
          have hP : va_P D vwCl (mW h a cA nL nC nB (va_up (va_up (va_up (va_up F 1 (upd (F 1) t y)) 5 (upd (F 5) t 0)) 0 (upd (F 0) t 1)) 2 (upd (F 2) t 0)) (vp_updL sp t (ck + 1)) 0 (ck + 1)) H := hP
          have hD : va_D A (mW h a cA nL nC nB (va_up (va_up (va_up (va_up F 1 (upd (F 1) t y)) 5 (upd (F 5) t 0)) 0 (upd (F 0) t 1)) 2 (upd (F 2) t 0)) (vp_updL sp t (ck + 1)) 0 (ck + 1)) := hD
          refine lv_aload_n hx hb dX1_create_70 rfl (lv_at hl 0 rfl) ?_
          refine zz_ci (va_runV (As := []) (rest := []) ⟨hx, hb, hml, hown, hts⟩ (cM_runs l D h a cA nL nC nB H.size hn (va_up (va_up (va_up (va_up F 1 (upd (F 1) t y)) 5 (upd (F 5) t 0)) 0 (upd (F 0) t 1)) 2 (upd (F 2) t 0)) (vp_updL sp t (ck + 1)) 0 (ck + 1) (ms_I_en hI (by decide) (by decide) pk_un' rfl rfl rfl rfl)) (cwV 0 hts gX1_create_X1_runs rfl rfl rfl (by decide +kernel) ⟨(Nat.le_of_ble_eq_true rfl), (Nat.le_of_ble_eq_true rfl)⟩) (zz_pV hP hK hD (va_recv hK hP (ci := 1) (q0 := 0) rfl rfl)) rfl rfl hl.1 rfl (lv_room (Nat.le_of_ble_eq_true rfl)) dX1_create_71 ⟨(Nat.le_of_ble_eq_true rfl), (Nat.le_of_ble_eq_true rfl)⟩) hD hS hA (fun r u H locs hw hP hD hS => ?_)
          obtain ⟨E, nx, hu, hfo, hre⟩ := hw
          subst hu
          subst hre
          have hP : va_P D vwCl (mW h a cA nL nC nB (va_up (ms_en (va_up (va_up F 1 (upd (F 1) t y)) 5 (upd (F 5) t 0)) t 1 0) 10 E) (vp_updL sp t (ck + 1)) 0 (ck + 1)) H := hP
          have hD : va_D A (mW h a cA nL nC nB (va_up (ms_en (va_up (va_up F 1 (upd (F 1) t y)) 5 (upd (F 5) t 0)) t 1 0) 10 E) (vp_updL sp t (ck + 1)) 0 (ck + 1)) := hD
          exact zz_ri (va_up (ms_en (va_up (va_up F 1 (upd (F 1) t y)) 5 (upd (F 5) t 0)) t 1 0) 10 E, vp_updL sp t (ck + 1), 0, ck + 1) hx hb hr hlocks hP hK hD hS (Or.inr (Or.inr (Or.inr ⟨hpr, t, E, nx, ht16, rfl, c29, hfo, rfl, rfl⟩))) dX1_create_74
        · exact absurd (by decide) c44
      · refine lv_iconst (v := 3) hx hb dX1_create_32 (by decide) ?_
        refine lv_goto (tgt := 37) hx hb dX1_create_33 (by decide) ?_
        refine va_put (D := D) (ci := 1) (v := .int 3) (ty := .int) (C := RX1) (T := TX1) (N := 17) hx hb hts hin tyX1 tyX1_ok nmX1 hown hK hP hD hS 0 rfl rfl 3 (by decide) hf64 (fun _ h9 => h9) rfl (by decide +kernel) rfl rfl (Nat.le_of_ble_eq_true rfl) dX1_create_37 (fun H locs hP hD hS => ?_)
        have hP : va_P D vwCl (mW h a cA nL nC nB F sp 3 ck) H := hP
        have hD : va_D A (mW h a cA nL nC nB F sp 3 ck) := hD
        refine lv_aload_n hx hb dX1_create_40 rfl (lv_at hl 0 rfl) ?_
        refine va_get (D := D) (ci := 1) (v := .int 3) (C := RX1) (T := TX1) (N := 17) hx hb hts hin hown hK hP 0 rfl rfl 3 (by decide) hf64 (fun _ h9 => h9) rfl dX1_create_41 ?_
        refine lv_if_le (tgt := 49) hx hb dX1_create_44 (by decide) (fun c44 => ?_) (fun c44 => ?_)
        · exact absurd c44 (by decide)
        · refine lv_iconst (v := 0) hx hb dX1_create_47 (by decide) ?_
          exact zz_ri (F, sp, 3, ck) hx hb hr hlocks hP hK hD hS (Or.inr (Or.inr (Or.inl ⟨hpr, t, ht16, rfl, c29, rfl⟩))) dX1_create_48
    · have hpr : ¬ sp_pr y := by
        rcases hw with q | q
        · exact absurd (q.1.symm.trans c16) (by decide)
        · exact q.2
      refine lv_iconst (v := 2) hx hb dX1_create_19 (by decide) ?_
      refine lv_goto (tgt := 37) hx hb dX1_create_20 (by decide) ?_
      refine va_put (D := D) (ci := 1) (v := .int 2) (ty := .int) (C := RX1) (T := TX1) (N := 17) hx hb hts hin tyX1 tyX1_ok nmX1 hown hK hP hD hS 0 rfl rfl 3 (by decide) hf64 (fun _ h9 => h9) rfl (by decide +kernel) rfl rfl (Nat.le_of_ble_eq_true rfl) dX1_create_37 (fun H locs hP hD hS => ?_)
      have hP : va_P D vwCl (mW h a cA nL nC nB F sp 2 ck) H := hP
      have hD : va_D A (mW h a cA nL nC nB F sp 2 ck) := hD
      refine lv_aload_n hx hb dX1_create_40 rfl (lv_at hl 0 rfl) ?_
      refine va_get (D := D) (ci := 1) (v := .int 2) (C := RX1) (T := TX1) (N := 17) hx hb hts hin hown hK hP 0 rfl rfl 3 (by decide) hf64 (fun _ h9 => h9) rfl dX1_create_41 ?_
      refine lv_if_le (tgt := 49) hx hb dX1_create_44 (by decide) (fun c44 => ?_) (fun c44 => ?_)
      · exact absurd c44 (by decide)
      · refine lv_iconst (v := 0) hx hb dX1_create_47 (by decide) ?_
        exact zz_ri (F, sp, 2, ck) hx hb hr hlocks hP hK hD hS (Or.inr (Or.inl ⟨hti, hpr, rfl⟩)) dX1_create_48
  · have hti : ¬ sp_in 16 x := by
      rcases hw with q | q
      · exact absurd (q.1.symm.trans c5) (by decide)
      · exact q.2
    refine lv_iconst (v := 1) hx hb dX1_create_8 (by decide) ?_
    refine lv_goto (tgt := 37) hx hb dX1_create_9 (by decide) ?_
    refine va_put (D := D) (ci := 1) (v := .int 1) (ty := .int) (C := RX1) (T := TX1) (N := 17) hx hb hts hin tyX1 tyX1_ok nmX1 hown hK hP hD hS 0 rfl rfl 3 (by decide) hf64 (fun _ h9 => h9) rfl (by decide +kernel) rfl rfl (Nat.le_of_ble_eq_true rfl) dX1_create_37 (fun H locs hP hD hS => ?_)
    have hP : va_P D vwCl (mW h a cA nL nC nB F sp 1 ck) H := hP
    have hD : va_D A (mW h a cA nL nC nB F sp 1 ck) := hD
    refine lv_aload_n hx hb dX1_create_40 rfl (lv_at hl 0 rfl) ?_
    refine va_get (D := D) (ci := 1) (v := .int 1) (C := RX1) (T := TX1) (N := 17) hx hb hts hin hown hK hP 0 rfl rfl 3 (by decide) hf64 (fun _ h9 => h9) rfl dX1_create_41 ?_
    refine lv_if_le (tgt := 49) hx hb dX1_create_44 (by decide) (fun c44 => ?_) (fun c44 => ?_)
    · exact absurd c44 (by decide)
    · refine lv_iconst (v := 0) hx hb dX1_create_47 (by decide) ?_
      exact zz_ri (F, sp, 1, ck) hx hb hr hlocks hP hK hD hS (Or.inl ⟨hti, rfl⟩) dX1_create_48
set_option maxHeartbeats 1000000 in
set_option maxRecDepth 100000 in
/-- cM_priority -/
theorem cM_priority (l : Launch) (D : va_G) (h : Nat) (a : Nat → Nat) (cA : Nat → ClassId) (nL nC nB sz : Nat) (hn : nL ≤ 8 ∧ nC ≤ 8 ∧ nB ≤ 8) (F : Nat → Nat → Int32) (sp : Nat → Int64) (cd : Int32) (ck : Int64) (x y : Int32)  : Met l yX1_priority wsX1_priority ({ frames := 1, cells := 0, slots := 0, locals := 20 }) (va_Pc [.ref h, .int x, .int y] (zz_Pre D vwCl (mT cA) (mW h a cA nL nC nB F sp cd ck) sz)) (va_Qi (fun (r : Int32) (u : mS) => mp_priority F sp ck x y r u) (zz_At D vwCl (mT cA) (fun u : mS => mW h a cA nL nC nB u.1 u.2.1 u.2.2.1 u.2.2.2) (va_A (mW h a cA nL nC nB F sp cd ck) sz)) (va_A (mW h a cA nL nC nB F sp cd ck) sz)) 0 0 (va_A (mW h a cA nL nC nB F sp cd ck) sz) := by
  obtain ⟨hnL, hnC, hnB⟩ := hn
  have hn : nL ≤ 8 ∧ nC ≤ 8 ∧ nB ≤ 8 := ⟨hnL, hnC, hnB⟩
  refine zz_of (Qc := fun A => va_Qi (fun (r : Int32) (u : mS) => mp_priority F sp ck x y r u) (zz_At D vwCl (mT cA) (fun u : mS => mW h a cA nL nC nB u.1 u.2.1 u.2.2.1 u.2.2.2) A) A) (by decide) rfl (Nat.le_of_ble_eq_true rfl) ?_
  intro p e s m args below meth c A H locs ls0 hx hb hr hml hown hts hlocks hnm hA hP hK hD hS hl
  have hown : s.vm.findClass RX1 = some m.cls := hown
  have hl : lv_has ls0 4 [(0, .ref h), (1, .int x), (2, .int y)] := hl
  have hin : ∀ w ∈ u_ws RX1 TX1 17, w ∈ wsX1_priority := by decide +kernel
  have hf7 := hts (.fieldLink RX1 7 "PriorityCoreModel" "states" "[I") (by decide +kernel)
  have hf13 := hts (.fieldLink RX1 13 "PriorityCoreModel" "bases" "[I") (by decide +kernel)
  have hf64 := hts (.fieldLink RX1 64 "PriorityCoreModel" "code" "I") (by decide +kernel)
  refine lv_aload_n hx hb dX1_priority_0 rfl (lv_at hl 0 rfl) ?_
  refine lv_iload_n hx hb dX1_priority_1 rfl (lv_at hl 1 rfl) ?_
  refine zz_pi (w := []) (wr := mW h a cA nL nC nB F sp cd ck) (va_runS (As := [.int x]) (rest := [.ref h]) ⟨hx, hb, hml, hown, hts⟩ (cM_isTask l D H.size x) (va_cwS 1 hts gX1_priority_X1_isTask rfl rfl rfl (by decide +kernel) ⟨(Nat.le_of_ble_eq_true rfl), (Nat.le_of_ble_eq_true rfl)⟩) (zz_pS (hP.sub (ws' := []) [] rfl) (hK.sub (tys' := []) [] rfl) (hD.sub (ws' := []) [] (by decide) rfl)) rfl rfl hl.1 rfl (lv_room (Nat.le_of_ble_eq_true rfl)) dX1_priority_2 ⟨(Nat.le_of_ble_eq_true rfl), (Nat.le_of_ble_eq_true rfl)⟩) hP hD hS hA [] [0, 1, 2, 3, 4, 5, 6, 7, 8, 9, 10, 11, 12] rfl rfl (by decide) (by decide) (fun r u H locs hw hP hD hS => ?_)
  have hP : va_P D vwCl (mW h a cA nL nC nB F sp cd ck) H := hP
  have hD : va_D A (mW h a cA nL nC nB F sp cd ck) := hD
  refine lv_if_ne (tgt := 12) hx hb dX1_priority_5 (by decide) (fun c5 => ?_) (fun c5 => ?_)
  · have hti : sp_in 16 x := by
      rcases hw with q | q
      · exact q.2
      · exact absurd q.1 c5
    refine lv_iload_n hx hb dX1_priority_12 rfl (lv_at hl 2 rfl) ?_
    refine zz_pi (w := []) (wr := mW h a cA nL nC nB F sp cd ck) (va_runS (As := [.int y]) (rest := [.ref h]) ⟨hx, hb, hml, hown, hts⟩ (cM_isPriority l D H.size y) (va_cwS 1 hts gX1_priority_X1_isPriority rfl rfl rfl (by decide +kernel) ⟨(Nat.le_of_ble_eq_true rfl), (Nat.le_of_ble_eq_true rfl)⟩) (zz_pS (hP.sub (ws' := []) [] rfl) (hK.sub (tys' := []) [] rfl) (hD.sub (ws' := []) [] (by decide) rfl)) rfl rfl hl.1 rfl (lv_room (Nat.le_of_ble_eq_true rfl)) dX1_priority_13 ⟨(Nat.le_of_ble_eq_true rfl), (Nat.le_of_ble_eq_true rfl)⟩) hP hD hS hA [] [0, 1, 2, 3, 4, 5, 6, 7, 8, 9, 10, 11, 12] rfl rfl (by decide) (by decide) (fun r u H locs hw hP hD hS => ?_)
    have hP : va_P D vwCl (mW h a cA nL nC nB F sp cd ck) H := hP
    have hD : va_D A (mW h a cA nL nC nB F sp cd ck) := hD
    refine lv_if_ne (tgt := 23) hx hb dX1_priority_16 (by decide) (fun c16 => ?_) (fun c16 => ?_)
    · have hpr : sp_pr y := by
        rcases hw with q | q
        · exact q.2
        · exact absurd q.1 c16
      obtain ⟨t, ht16, hxe⟩ := hti
      subst hxe
      have hl : lv_has ls0 4 [(0, .ref h), (1, .int (nI t)), (2, .int y)] := hl
      refine lv_aload_n hx hb dX1_priority_23 rfl (lv_at hl 0 rfl) ?_
      refine va_get (D := D) (ci := 1) (v := .ref (a 0)) (C := RX1) (T := TX1) (N := 17) hx hb hts hin hown hK hP 0 rfl rfl 5 (by decide) hf7 (fun _ h9 => h9) rfl dX1_priority_24 ?_
      refine lv_iload_n hx hb dX1_priority_27 rfl (lv_at hl 1 rfl) ?_
      refine zz_iald hx hb hK hP 1 0 rfl rfl (ht16) (by decide) dX1_priority_28 ?_
      refine lv_if_ne (tgt := 36) hx hb dX1_priority_29 (by decide) (fun c29 => ?_) (fun c29 => ?_)
      · refine lv_iconst (v := 0) hx hb dX1_priority_36 (by decide) ?_
        refine va_put (D := D) (ci := 1) (v := .int 0) (ty := .int) (C := RX1) (T := TX1) (N := 17) hx hb hts hin tyX1 tyX1_ok nmX1 hown hK hP hD hS 0 rfl rfl 3 (by decide) hf64 (fun _ h9 => h9) rfl (by decide +kernel) rfl rfl (Nat.le_of_ble_eq_true rfl) dX1_priority_37 (fun H locs hP hD hS => ?_)
        have hP : va_P D vwCl (mW h a cA nL nC nB F sp 0 ck) H := hP
        have hD : va_D A (mW h a cA nL nC nB F sp 0 ck) := hD
        refine lv_aload_n hx hb dX1_priority_40 rfl (lv_at hl 0 rfl) ?_
        refine va_get (D := D) (ci := 1) (v := .int 0) (C := RX1) (T := TX1) (N := 17) hx hb hts hin hown hK hP 0 rfl rfl 3 (by decide) hf64 (fun _ h9 => h9) rfl dX1_priority_41 ?_
        refine lv_if_le (tgt := 49) hx hb dX1_priority_44 (by decide) (fun c44 => ?_) (fun c44 => ?_)
        · refine lv_aload_n hx hb dX1_priority_49 rfl (lv_at hl 0 rfl) ?_
          refine va_get (D := D) (ci := 1) (v := .ref (a 1)) (C := RX1) (T := TX1) (N := 17) hx hb hts hin hown hK hP 0 rfl rfl 6 (by decide) hf13 (fun _ h9 => h9) rfl dX1_priority_50 ?_
          refine lv_iload_n hx hb dX1_priority_53 rfl (lv_at hl 1 rfl) ?_
          refine zz_iald hx hb hK hP 2 1 rfl rfl (ht16) (by decide) dX1_priority_54 ?_
          refine lv_istore_n (lv' := [(3, .int ((F 1) t)), (0, .ref h), (1, .int (nI t)), (2, .int y)]) hx hb dX1_priority_55 rfl hl (by decide) rfl (fun ls0 hl => ?_)
          refine lv_aload_n hx hb dX1_priority_56 rfl (lv_at hl 1 rfl) ?_
          refine va_get (D := D) (ci := 1) (v := .ref (a 1)) (C := RX1) (T := TX1) (N := 17) hx hb hts hin hown hK hP 0 rfl rfl 6 (by decide) hf13 (fun _ h9 => h9) rfl dX1_priority_57 ?_
          refine lv_iload_n hx hb dX1_priority_60 rfl (lv_at hl 2 rfl) ?_
          refine lv_iload_n hx hb dX1_priority_61 rfl (lv_at hl 3 rfl) ?_
          refine zz_iast (ws' := mW h a cA nL nC nB (va_up F 1 (upd (F 1) t y)) sp 0 ck) hx hb hK hP hD hS 2 1 rfl rfl (ht16) (by decide) rfl dX1_priority_62 (fun H locs hP hD hS => ?_)
          refine lv_iload_n hx hb dX1_priority_63 rfl (lv_at hl 0 rfl) ?_
          exact zz_ri (va_up F 1 (upd (F 1) t y), sp, 0, ck) hx hb hr hlocks hP hK hD hS (Or.inr (Or.inr (Or.inr ⟨hpr, t, ht16, rfl, c29, rfl, rfl⟩))) dX1_priority_64
        · exact absurd (by decide) c44
      · refine lv_iconst (v := 3) hx hb dX1_priority_32 (by decide) ?_
        refine lv_goto (tgt := 37) hx hb dX1_priority_33 (by decide) ?_
        refine va_put (D := D) (ci := 1) (v := .int 3) (ty := .int) (C := RX1) (T := TX1) (N := 17) hx hb hts hin tyX1 tyX1_ok nmX1 hown hK hP hD hS 0 rfl rfl 3 (by decide) hf64 (fun _ h9 => h9) rfl (by decide +kernel) rfl rfl (Nat.le_of_ble_eq_true rfl) dX1_priority_37 (fun H locs hP hD hS => ?_)
        have hP : va_P D vwCl (mW h a cA nL nC nB F sp 3 ck) H := hP
        have hD : va_D A (mW h a cA nL nC nB F sp 3 ck) := hD
        refine lv_aload_n hx hb dX1_priority_40 rfl (lv_at hl 0 rfl) ?_
        refine va_get (D := D) (ci := 1) (v := .int 3) (C := RX1) (T := TX1) (N := 17) hx hb hts hin hown hK hP 0 rfl rfl 3 (by decide) hf64 (fun _ h9 => h9) rfl dX1_priority_41 ?_
        refine lv_if_le (tgt := 49) hx hb dX1_priority_44 (by decide) (fun c44 => ?_) (fun c44 => ?_)
        · exact absurd c44 (by decide)
        · refine lv_iconst (v := 0) hx hb dX1_priority_47 (by decide) ?_
          exact zz_ri (F, sp, 3, ck) hx hb hr hlocks hP hK hD hS (Or.inr (Or.inr (Or.inl ⟨hpr, t, ht16, rfl, c29, rfl⟩))) dX1_priority_48
    · have hpr : ¬ sp_pr y := by
        rcases hw with q | q
        · exact absurd (q.1.symm.trans c16) (by decide)
        · exact q.2
      refine lv_iconst (v := 2) hx hb dX1_priority_19 (by decide) ?_
      refine lv_goto (tgt := 37) hx hb dX1_priority_20 (by decide) ?_
      refine va_put (D := D) (ci := 1) (v := .int 2) (ty := .int) (C := RX1) (T := TX1) (N := 17) hx hb hts hin tyX1 tyX1_ok nmX1 hown hK hP hD hS 0 rfl rfl 3 (by decide) hf64 (fun _ h9 => h9) rfl (by decide +kernel) rfl rfl (Nat.le_of_ble_eq_true rfl) dX1_priority_37 (fun H locs hP hD hS => ?_)
      have hP : va_P D vwCl (mW h a cA nL nC nB F sp 2 ck) H := hP
      have hD : va_D A (mW h a cA nL nC nB F sp 2 ck) := hD
      refine lv_aload_n hx hb dX1_priority_40 rfl (lv_at hl 0 rfl) ?_
      refine va_get (D := D) (ci := 1) (v := .int 2) (C := RX1) (T := TX1) (N := 17) hx hb hts hin hown hK hP 0 rfl rfl 3 (by decide) hf64 (fun _ h9 => h9) rfl dX1_priority_41 ?_
      refine lv_if_le (tgt := 49) hx hb dX1_priority_44 (by decide) (fun c44 => ?_) (fun c44 => ?_)
      · exact absurd c44 (by decide)
      · refine lv_iconst (v := 0) hx hb dX1_priority_47 (by decide) ?_
        exact zz_ri (F, sp, 2, ck) hx hb hr hlocks hP hK hD hS (Or.inr (Or.inl ⟨hti, hpr, rfl⟩)) dX1_priority_48
  · have hti : ¬ sp_in 16 x := by
      rcases hw with q | q
      · exact absurd (q.1.symm.trans c5) (by decide)
      · exact q.2
    refine lv_iconst (v := 1) hx hb dX1_priority_8 (by decide) ?_
    refine lv_goto (tgt := 37) hx hb dX1_priority_9 (by decide) ?_
    refine va_put (D := D) (ci := 1) (v := .int 1) (ty := .int) (C := RX1) (T := TX1) (N := 17) hx hb hts hin tyX1 tyX1_ok nmX1 hown hK hP hD hS 0 rfl rfl 3 (by decide) hf64 (fun _ h9 => h9) rfl (by decide +kernel) rfl rfl (Nat.le_of_ble_eq_true rfl) dX1_priority_37 (fun H locs hP hD hS => ?_)
    have hP : va_P D vwCl (mW h a cA nL nC nB F sp 1 ck) H := hP
    have hD : va_D A (mW h a cA nL nC nB F sp 1 ck) := hD
    refine lv_aload_n hx hb dX1_priority_40 rfl (lv_at hl 0 rfl) ?_
    refine va_get (D := D) (ci := 1) (v := .int 1) (C := RX1) (T := TX1) (N := 17) hx hb hts hin hown hK hP 0 rfl rfl 3 (by decide) hf64 (fun _ h9 => h9) rfl dX1_priority_41 ?_
    refine lv_if_le (tgt := 49) hx hb dX1_priority_44 (by decide) (fun c44 => ?_) (fun c44 => ?_)
    · exact absurd c44 (by decide)
    · refine lv_iconst (v := 0) hx hb dX1_priority_47 (by decide) ?_
      exact zz_ri (F, sp, 1, ck) hx hb hr hlocks hP hK hD hS (Or.inl ⟨hti, rfl⟩) dX1_priority_48
set_option maxHeartbeats 1000000 in
set_option maxRecDepth 100000 in
/-- cM_leadsTo -/
theorem cM_leadsTo (l : Launch) (D : va_G) (h : Nat) (a : Nat → Nat) (cA : Nat → ClassId) (nL nC nB sz : Nat) (hn : nL ≤ 8 ∧ nC ≤ 8 ∧ nB ≤ 8) (F : Nat → Nat → Int32) (sp : Nat → Int64) (cd : Int32) (ck : Int64) (k t : Nat) (hI : ms_I F) (hk : k < 8) (ht : t < 16) : Met l yX1_leadsTo wsX1_leadsTo ({ frames := 0, cells := 0, slots := 0, locals := 0 }) (va_Pc [.ref h, .int (nI k), .int (nI t)] (zz_Pre D vwCl (mT cA) (mW h a cA nL nC nB F sp cd ck) sz)) (va_Qi (fun (r : Int32) (u : Unit) => (r = 1 ∧ ms_ww F t k) ∨ (r = 0 ∧ ¬ ms_ww F t k)) (zz_At D vwCl (mT cA) (fun _ : Unit => mW h a cA nL nC nB F sp cd ck) (va_A (mW h a cA nL nC nB F sp cd ck) sz)) (va_A (mW h a cA nL nC nB F sp cd ck) sz)) 0 0 (va_A (mW h a cA nL nC nB F sp cd ck) sz) := by
  obtain ⟨hnL, hnC, hnB⟩ := hn
  have hn : nL ≤ 8 ∧ nC ≤ 8 ∧ nB ≤ 8 := ⟨hnL, hnC, hnB⟩
  refine zz_of (Qc := fun A => va_Qi (fun (r : Int32) (u : Unit) => (r = 1 ∧ ms_ww F t k) ∨ (r = 0 ∧ ¬ ms_ww F t k)) (zz_At D vwCl (mT cA) (fun _ : Unit => mW h a cA nL nC nB F sp cd ck) A) A) (by decide) rfl (Nat.le_of_ble_eq_true rfl) ?_
  intro p e s m args below meth c A H locs ls0 hx hb hr hml hown hts hlocks hnm hA hP hK hD hS hl
  have hown : s.vm.findClass RX1 = some m.cls := hown
  have hl : lv_has ls0 5 [(0, .ref h), (1, .int (nI k)), (2, .int (nI t))] := hl
  have hin : ∀ w ∈ u_ws RX1 TX1 17, w ∈ wsX1_leadsTo := by decide +kernel
  have hf7 := hts (.fieldLink RX1 7 "PriorityCoreModel" "states" "[I") (by decide +kernel)
  have hf20 := hts (.fieldLink RX1 20 "PriorityCoreModel" "things" "[I") (by decide +kernel)
  have hf32 := hts (.fieldLink RX1 32 "PriorityCoreModel" "owners" "[I") (by decide +kernel)
  refine lv_aload_n hx hb dX1_leadsTo_0 rfl (lv_at hl 0 rfl) ?_
  refine va_get (D := D) (ci := 1) (v := .ref (a 6)) (C := RX1) (T := TX1) (N := 17) hx hb hts hin hown hK hP 0 rfl rfl 12 (by decide) hf32 (fun _ h9 => h9) rfl dX1_leadsTo_1 ?_
  refine lv_iload_n hx hb dX1_leadsTo_4 rfl (lv_at hl 1 rfl) ?_
  refine zz_iald hx hb hK hP 7 6 rfl rfl (hk) (by decide) dX1_leadsTo_5 ?_
  refine zz_top (y := pq_enc (ms_ch F k 0)) (ms_ch_0 hI hk) ?_
  refine lv_istore_n (lv' := [(3, .int (pq_enc (ms_ch F k 0))), (0, .ref h), (1, .int (nI k)), (2, .int (nI t))]) hx hb dX1_leadsTo_6 rfl hl (by decide) rfl (fun ls0 hl => ?_)
  refine lv_iconst (v := nI 0) hx hb dX1_leadsTo_7 (by decide) ?_
  refine lv_istore (lv' := [(4, .int (nI 0)), (3, .int (pq_enc (ms_ch F k 0))), (0, .ref h), (1, .int (nI k)), (2, .int (nI t))]) hx hb dX1_leadsTo_8 hl (by decide) rfl (fun ls0 hl => ?_)
  have lp10 : ∀ (n10 : Nat) (i : Nat), (i ≤ 16) → (17 ≤ i + n10) → (∀ j, j < i → ¬ ms_ch F k j = some t) → ∀ (H : Heap) (locs : List Loc) (ls0 : Array Slot), va_P D vwCl (mW h a cA nL nC nB F sp cd ck) H → va_D A (mW h a cA nL nC nB F sp cd ck) → va_S A s.heap H locs → lv_has ls0 5 [(0, .ref h), (1, .int (nI k)), (2, .int (nI t)), (3, .int (pq_enc (ms_ch F k i))), (4, .int (nI i))] → W p l e ({ frames := 0, cells := 0, slots := 0, locals := 0 }) s m args below meth c H locs 0 0 (MQ below (va_Qi (fun (r : Int32) (u : Unit) => (r = 1 ∧ ms_ww F t k) ∨ (r = 0 ∧ ¬ ms_ww F t k)) (zz_At D vwCl (mT cA) (fun _ : Unit => mW h a cA nL nC nB F sp cd ck) A) A) args s 0 0 A) (F0 m 10 ls0 []) := by
    intro n10
    induction n10 with
    | zero =>
      intro i hi hm hE
      exact absurd True.intro (by omega)
    | succ n10 ih10 =>
      intro i hi hm hE H locs ls0 hP hD hS hl
      refine lv_iload_n hx hb dX1_leadsTo_10 rfl (lv_at hl 3 rfl) ?_
      refine lv_if_lt (tgt := 54) hx hb dX1_leadsTo_11 (by decide) (fun c11 => ?_) (fun c11 => ?_)
      · have hno : ms_ch F k i = none := (pq_enc_lt (fun n q => ms_ch_lt hI hk q)).mp c11
        refine lv_iload_n hx hb dX1_leadsTo_54 rfl (lv_at hl 3 rfl) ?_
        refine lv_iload_n hx hb dX1_leadsTo_55 rfl (lv_at hl 2 rfl) ?_
        refine lv_icmp_ne (tgt := 63) hx hb dX1_leadsTo_56 (by decide) (fun c56 => ?_) (fun c56 => ?_)
        · refine lv_iconst (v := 0) hx hb dX1_leadsTo_63 (by decide) ?_
          exact zz_rz () hx hb hr hlocks (rfl) hP hK hD hS (Or.inr ⟨rfl, fun ⟨j, hj, ej⟩ => by rcases Nat.lt_or_ge j i with z | z; exact hE j z ej; (rw [ms_ch_none hno j z] at ej; cases ej)⟩) dX1_leadsTo_64
        · rw [hno] at c56
          exact absurd c56.symm (pq_m1 (by omega))
      · obtain ⟨b, hb16, hpk⟩ := pq_enc_ge (fun n q => ms_ch_lt hI hk q) (Int32.not_lt.mp c11)
        rw [hpk] at hl
        have hl : lv_has ls0 5 [(0, .ref h), (1, .int (nI k)), (2, .int (nI t)), (3, .int (nI b)), (4, .int (nI i))] := hl
        refine lv_iload_n hx hb dX1_leadsTo_14 rfl (lv_at hl 3 rfl) ?_
        refine lv_iload_n hx hb dX1_leadsTo_15 rfl (lv_at hl 2 rfl) ?_
        refine lv_icmp_eq (tgt := 54) hx hb dX1_leadsTo_16 (by decide) (fun c16 => ?_) (fun c16 => ?_)
        · have hbt : b = t := (nI_eq (by omega) (by omega)).mp c16
          refine lv_iload_n hx hb dX1_leadsTo_54 rfl (lv_at hl 3 rfl) ?_
          refine lv_iload_n hx hb dX1_leadsTo_55 rfl (lv_at hl 2 rfl) ?_
          refine lv_icmp_ne (tgt := 63) hx hb dX1_leadsTo_56 (by decide) (fun c56 => ?_) (fun c56 => ?_)
          · exact absurd (by rw [hbt]) c56
          · refine lv_iconst (v := 1) hx hb dX1_leadsTo_59 (by decide) ?_
            refine lv_goto (tgt := 64) hx hb dX1_leadsTo_60 (by decide) ?_
            exact zz_rz () hx hb hr hlocks (rfl) hP hK hD hS (Or.inl ⟨rfl, i, hi, by rw [hpk, hbt]⟩) dX1_leadsTo_64
        · have hbt : ¬ b = t := fun q => c16 (by rw [q])
          refine lv_aload_n hx hb dX1_leadsTo_19 rfl (lv_at hl 0 rfl) ?_
          refine va_get (D := D) (ci := 1) (v := .ref (a 0)) (C := RX1) (T := TX1) (N := 17) hx hb hts hin hown hK hP 0 rfl rfl 5 (by decide) hf7 (fun _ h9 => h9) rfl dX1_leadsTo_20 ?_
          refine lv_iload_n hx hb dX1_leadsTo_23 rfl (lv_at hl 3 rfl) ?_
          refine zz_iald hx hb hK hP 1 0 rfl rfl (hb16) (by decide) dX1_leadsTo_24 ?_
          refine lv_iconst (v := 2) hx hb dX1_leadsTo_25 (by decide) ?_
          refine lv_icmp_ne (tgt := 54) hx hb dX1_leadsTo_26 (by decide) (fun c26 => ?_) (fun c26 => ?_)
          · refine lv_iload_n hx hb dX1_leadsTo_54 rfl (lv_at hl 3 rfl) ?_
            refine lv_iload_n hx hb dX1_leadsTo_55 rfl (lv_at hl 2 rfl) ?_
            refine lv_icmp_ne (tgt := 63) hx hb dX1_leadsTo_56 (by decide) (fun c56 => ?_) (fun c56 => ?_)
            · refine lv_iconst (v := 0) hx hb dX1_leadsTo_63 (by decide) ?_
              exact zz_rz () hx hb hr hlocks (rfl) hP hK hD hS (Or.inr ⟨rfl, fun ⟨j, hj, ej⟩ => by rcases Nat.lt_or_ge j i with z | z; exact hE j z ej; (rcases Nat.lt_or_eq_of_le z with z2 | z2; (rw [ms_ch_none (show ms_ch F k (i + 1) = none by rw [ms_ch_s, hpk]; exact (ms_h_eq hb16).trans (ms_hd_no c26)) j z2] at ej; cases ej); (subst z2; rw [hpk] at ej; exact hbt (Option.some.inj ej)))⟩) dX1_leadsTo_64
            · exact absurd ((nI_eq (by omega) (by omega)).mp c56) hbt
          · obtain ⟨k3, o, hk3, ho, e1, e2⟩ := hI.1 b hb16 c26
            have hho : ms_h F b = some o := (ms_h_eq hb16).trans (ms_hd_eq c26 hk3 ho e1 e2)
            refine lv_iload hx hb dX1_leadsTo_29 (lv_at hl 4 rfl) ?_
            refine lv_bipush (v := 16) hx hb dX1_leadsTo_31 (by decide) ?_
            refine lv_icmp_ge (tgt := 54) hx hb dX1_leadsTo_33 (by decide) (fun c33 => ?_) (fun c33 => ?_)
            · have hi2 : i = 16 := Nat.le_antisymm hi (zn_ge rfl (by omega) (by decide) c33)
              refine lv_iload_n hx hb dX1_leadsTo_54 rfl (lv_at hl 3 rfl) ?_
              refine lv_iload_n hx hb dX1_leadsTo_55 rfl (lv_at hl 2 rfl) ?_
              refine lv_icmp_ne (tgt := 63) hx hb dX1_leadsTo_56 (by decide) (fun c56 => ?_) (fun c56 => ?_)
              · refine lv_iconst (v := 0) hx hb dX1_leadsTo_63 (by decide) ?_
                exact zz_rz () hx hb hr hlocks (rfl) hP hK hD hS (Or.inr ⟨rfl, fun ⟨j, hj, ej⟩ => by rcases Nat.lt_or_ge j i with z | z; exact hE j z ej; (have z2 : j = i := (by omega); subst z2; rw [hpk] at ej; exact hbt (Option.some.inj ej))⟩) dX1_leadsTo_64
              · exact absurd ((nI_eq (by omega) (by omega)).mp c56) hbt
            · have hi16 : i < 16 := zn_lt rfl (by omega) (by decide) c33
              refine lv_aload_n hx hb dX1_leadsTo_36 rfl (lv_at hl 0 rfl) ?_
              refine va_get (D := D) (ci := 1) (v := .ref (a 6)) (C := RX1) (T := TX1) (N := 17) hx hb hts hin hown hK hP 0 rfl rfl 12 (by decide) hf32 (fun _ h9 => h9) rfl dX1_leadsTo_37 ?_
              refine lv_aload_n hx hb dX1_leadsTo_40 rfl (lv_at hl 0 rfl) ?_
              refine va_get (D := D) (ci := 1) (v := .ref (a 2)) (C := RX1) (T := TX1) (N := 17) hx hb hts hin hown hK hP 0 rfl rfl 8 (by decide) hf20 (fun _ h9 => h9) rfl dX1_leadsTo_41 ?_
              refine lv_iload_n hx hb dX1_leadsTo_44 rfl (lv_at hl 3 rfl) ?_
              refine zz_iald hx hb hK hP 3 2 rfl rfl (hb16) (by decide) dX1_leadsTo_45 ?_
              refine zz_top (y := nI k3) (e1) ?_
              refine zz_iald hx hb hK hP 7 6 rfl rfl (hk3) (by decide) dX1_leadsTo_46 ?_
              refine zz_top (y := pq_enc (ms_ch F k (i + 1))) (e2.trans (by rw [ms_ch_s, hpk]; show nI o = pq_enc (ms_h F b); rw [hho]; rfl)) ?_
              refine lv_istore_n (lv' := [(3, .int (pq_enc (ms_ch F k (i + 1)))), (0, .ref h), (1, .int (nI k)), (2, .int (nI t)), (4, .int (nI i))]) hx hb dX1_leadsTo_47 rfl hl (by decide) rfl (fun ls0 hl => ?_)
              refine lv_iinc (v := nI (i + 1)) (lv' := [(4, .int (nI (i + 1))), (3, .int (pq_enc (ms_ch F k (i + 1)))), (0, .ref h), (1, .int (nI k)), (2, .int (nI t))]) hx hb dX1_leadsTo_48 hl (k := 4) rfl (nI_1 _) (by decide) rfl (fun ls0 hl => ?_)
              refine lv_goto (tgt := 10) hx hb dX1_leadsTo_51 (by decide) ?_
              exact ih10 (i + 1) (by omega) (by omega) (fun j hj => by rcases Nat.lt_or_eq_of_le (Nat.le_of_lt_succ hj) with z | z; exact hE j z; (subst z; rw [hpk]; exact fun q => hbt (Option.some.inj q))) H locs ls0 hP hD hS (lv_sub hl [2, 3, 4, 1, 0] rfl)
  exact lp10 17 0 (by omega) (by omega) (fun j hj => absurd hj (by omega)) H locs ls0 hP hD hS (lv_sub hl [2, 3, 4, 1, 0] rfl)
