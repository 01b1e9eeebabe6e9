theorem zn_lt4 {f : Nat} (h : f < 4) : nI f < 4 := show nI f < nI 4 from nI_lt h (by decide)
set_option maxHeartbeats 1000000 in
set_option maxRecDepth 100000 in
/-- putBehind -/
theorem cX_putBehind_y (l : Launch) (D : va_G) (h : Nat) (a : Nat → Nat) (cA : Nat → ClassId) (nL nC nB sz : Nat) (hn : nL ≤ 8 ∧ nC ≤ 8 ∧ nB ≤ 8) (F : Nat → Nat → Int32) (ls : Int32) (b f : Nat) (x : Int32) (hbB : b < nB) (hf : f < 4) (hF : F 10 b = nI f) : Met l yX0_putBehind wsX0_putBehind ({ frames := 0, cells := 0, slots := 0, locals := 0 }) (va_Pc [.ref h, .int (nI b), .int x] (zz_Pre D vwCl (xT cA) (xW h a cA nL nC nB F ls) sz)) (va_Qi (fun (r : Int32) (u : xS) => r = 1 ∧ u = (va_up (va_up F 11 (upd (F 11) (4 * b + f) x)) 10 (upd (F 10) b (nI (f + 1))), ls)) (zz_At D vwCl (xT cA) (fun u : xS => xW h a cA nL nC nB u.1 u.2) (va_A (xW h a cA nL nC nB F ls) sz)) (va_A (xW h a cA nL nC nB F ls) sz)) 0 0 (va_A (xW h a cA nL nC nB F ls) sz) := by
  obtain ⟨hnL, hnC, hnB⟩ := hn
  have hn : nL ≤ 8 ∧ nC ≤ 8 ∧ nB ≤ 8 := ⟨hnL, hnC, hnB⟩
  refine zz_of (Qc := fun A => va_Qi (fun (r : Int32) (u : xS) => r = 1 ∧ u = (va_up (va_up F 11 (upd (F 11) (4 * b + f) x)) 10 (upd (F 10) b (nI (f + 1))), ls)) (zz_At D vwCl (xT cA) (fun u : xS => xW h a cA nL nC nB u.1 u.2) A) A) (by decide) rfl (Nat.le_of_ble_eq_true rfl) ?_
  intro p e s m args below meth c A H locs ls0 hx hb hr hml hown hts hlocks hnm hA hP hK hD hS hl
  have hown : s.vm.findClass RX0 = some m.cls := hown
  have hl : lv_has ls0 4 [(0, .ref h), (1, .int (nI b)), (2, .int x)] := hl
  have hin : ∀ w ∈ u_ws RX0 TX0 13, w ∈ wsX0_putBehind := by decide +kernel
  have hf44 := hts (.fieldLink RX0 44 "PriorityCore" "fills" "[I") (by decide +kernel)
  have hf47 := hts (.fieldLink RX0 47 "PriorityCore" "store" "[I") (by decide +kernel)
  refine lv_aload_n hx hb dX0_putBehind_0 rfl (lv_at hl 0 rfl) ?_
  refine va_get (D := D) (ci := 0) (v := .ref (a 10)) (C := RX0) (T := TX0) (N := 13) hx hb hts hin hown hK hP 0 rfl rfl 10 (by decide) hf44 (fun _ h9 => h9) rfl dX0_putBehind_1 ?_
  refine lv_iload_n hx hb dX0_putBehind_4 rfl (lv_at hl 1 rfl) ?_
  refine zz_iald hx hb hK hP 11 10 rfl rfl (hbB) (by omega) dX0_putBehind_5 ?_
  refine zz_top (y := nI f) (hF) ?_
  refine lv_istore_n (lv' := [(3, .int (nI f)), (0, .ref h), (1, .int (nI b)), (2, .int x)]) hx hb dX0_putBehind_6 rfl hl (by decide) rfl (fun ls0 hl => ?_)
  refine lv_iload_n hx hb dX0_putBehind_7 rfl (lv_at hl 0 rfl) ?_
  refine lv_iconst (v := 4) hx hb dX0_putBehind_8 (by decide) ?_
  refine lv_icmp_lt (tgt := 14) hx hb dX0_putBehind_9 (by decide) (fun c9 => ?_) (fun c9 => ?_)
  · refine lv_aload_n hx hb dX0_putBehind_14 rfl (lv_at hl 1 rfl) ?_
    refine va_get (D := D) (ci := 0) (v := .ref (a 11)) (C := RX0) (T := TX0) (N := 13) hx hb hts hin hown hK hP 0 rfl rfl 11 (by decide) hf47 (fun _ h9 => h9) rfl dX0_putBehind_15 ?_
    refine lv_iload_n hx hb dX0_putBehind_18 rfl (lv_at hl 2 rfl) ?_
    refine lv_iconst (v := 4) hx hb dX0_putBehind_19 (by decide) ?_
    refine lv_imul hx hb dX0_putBehind_20 ?_
    refine zz_top (y := nI (4 * b)) (by rw [show (4 : Int32) = nI 4 from rfl, pk_mul, Nat.mul_comm]) ?_
    refine lv_iload_n hx hb dX0_putBehind_21 rfl (lv_at hl 0 rfl) ?_
    refine lv_iadd hx hb dX0_putBehind_22 ?_
    refine zz_top (y := nI (4 * b + f)) (nI_add _ _) ?_
    refine lv_iload_n hx hb dX0_putBehind_23 rfl (lv_at hl 3 rfl) ?_
    refine zz_iast (ws' := xW h a cA nL nC nB (va_up F 11 (upd (F 11) (4 * b + f) x)) ls) hx hb hK hP hD hS 12 11 rfl rfl (by omega) (by omega) rfl dX0_putBehind_24 (fun H locs hP hD hS => ?_)
    refine lv_aload_n hx hb dX0_putBehind_25 rfl (lv_at hl 1 rfl) ?_
    refine va_get (D := D) (ci := 0) (v := .ref (a 10)) (C := RX0) (T := TX0) (N := 13) hx hb hts hin hown hK hP 0 rfl rfl 10 (by decide) hf44 (fun _ h9 => h9) rfl dX0_putBehind_26 ?_
    refine lv_iload_n hx hb dX0_putBehind_29 rfl (lv_at hl 2 rfl) ?_
    refine lv_iload_n hx hb dX0_putBehind_30 rfl (lv_at hl 0 rfl) ?_
    refine lv_iconst (v := 1) hx hb dX0_putBehind_31 (by decide) ?_
    refine lv_iadd hx hb dX0_putBehind_32 ?_
    refine zz_top (y := nI (f + 1)) (nI_1 _) ?_
    refine zz_iast (ws' := xW h a cA nL nC nB (va_up (va_up F 11 (upd (F 11) (4 * b + f) x)) 10 (upd (F 10) b (nI (f + 1)))) ls) hx hb hK hP hD hS 11 10 rfl rfl (hbB) (by omega) rfl dX0_putBehind_33 (fun H locs hP hD hS => ?_)
    refine lv_iconst (v := 1) hx hb dX0_putBehind_34 (by decide) ?_
    exact zz_rz (va_up (va_up F 11 (upd (F 11) (4 * b + f) x)) 10 (upd (F 10) b (nI (f + 1))), ls) hx hb hr hlocks (rfl) hP hK hD hS (⟨rfl, rfl⟩) dX0_putBehind_35
  · exact absurd (zn_lt4 hf) c9
set_option maxHeartbeats 1000000 in
set_option maxRecDepth 100000 in
/-- putBehind -/
theorem cX_putBehind_n (l : Launch) (D : va_G) (h : Nat) (a : Nat → Nat) (cA : Nat → ClassId) (nL nC nB sz : Nat) (hn : nL ≤ 8 ∧ nC ≤ 8 ∧ nB ≤ 8) (F : Nat → Nat → Int32) (ls : Int32) (b : Nat) (x : Int32) (hbB : b < nB) (hF : F 10 b = nI 4) : Met l yX0_putBehind wsX0_putBehind ({ frames := 0, cells := 0, slots := 0, locals := 0 }) (va_Pc [.ref h, .int (nI b), .int x] (zz_Pre D vwCl (xT cA) (xW h a cA nL nC nB F ls) sz)) (va_Qi (fun (r : Int32) (u : Unit) => r = 0) (zz_At D vwCl (xT cA) (fun _ : Unit => xW h a cA nL nC nB F ls) (va_A (xW h a cA nL nC nB F ls) sz)) (va_A (xW h a cA nL nC nB F ls) sz)) 0 0 (va_A (xW h a cA nL nC nB F ls) sz) := by
  obtain ⟨hnL, hnC, hnB⟩ := hn
  have hn : nL ≤ 8 ∧ nC ≤ 8 ∧ nB ≤ 8 := ⟨hnL, hnC, hnB⟩
  refine zz_of (Qc := fun A => va_Qi (fun (r : Int32) (u : Unit) => r = 0) (zz_At D vwCl (xT cA) (fun _ : Unit => xW h a cA nL nC nB F ls) A) A) (by decide) rfl (Nat.le_of_ble_eq_true rfl) ?_
  intro p e s m args below meth c A H locs ls0 hx hb hr hml hown hts hlocks hnm hA hP hK hD hS hl
  have hown : s.vm.findClass RX0 = some m.cls := hown
  have hl : lv_has ls0 4 [(0, .ref h), (1, .int (nI b)), (2, .int x)] := hl
  have hin : ∀ w ∈ u_ws RX0 TX0 13, w ∈ wsX0_putBehind := by decide +kernel
  have hf44 := hts (.fieldLink RX0 44 "PriorityCore" "fills" "[I") (by decide +kernel)
  refine lv_aload_n hx hb dX0_putBehind_0 rfl (lv_at hl 0 rfl) ?_
  refine va_get (D := D) (ci := 0) (v := .ref (a 10)) (C := RX0) (T := TX0) (N := 13) hx hb hts hin hown hK hP 0 rfl rfl 10 (by decide) hf44 (fun _ h9 => h9) rfl dX0_putBehind_1 ?_
  refine lv_iload_n hx hb dX0_putBehind_4 rfl (lv_at hl 1 rfl) ?_
  refine zz_iald hx hb hK hP 11 10 rfl rfl (hbB) (by omega) dX0_putBehind_5 ?_
  refine zz_top (y := nI 4) (hF) ?_
  refine lv_istore_n (lv' := [(3, .int (nI 4)), (0, .ref h), (1, .int (nI b)), (2, .int x)]) hx hb dX0_putBehind_6 rfl hl (by decide) rfl (fun ls0 hl => ?_)
  refine lv_iload_n hx hb dX0_putBehind_7 rfl (lv_at hl 0 rfl) ?_
  refine lv_iconst (v := 4) hx hb dX0_putBehind_8 (by decide) ?_
  refine lv_icmp_lt (tgt := 14) hx hb dX0_putBehind_9 (by decide) (fun c9 => ?_) (fun c9 => ?_)
  · exact absurd c9 (by decide)
  · refine lv_iconst (v := 0) hx hb dX0_putBehind_12 (by decide) ?_
    exact zz_rz () hx hb hr hlocks (rfl) hP hK hD hS (rfl) dX0_putBehind_13
set_option maxHeartbeats 1000000 in
set_option maxRecDepth 100000 in
/-- down -/
theorem cX_down (l : Launch) (hlT : l.stackTraces = false) (D : va_G) (h : Nat) (a : Nat → Nat) (cA : Nat → ClassId) (nL nC nB sz : Nat) (hn : nL ≤ 8 ∧ nC ≤ 8 ∧ nB ≤ 8) (F : Nat → Nat → Int32) (ls : Int32) (x : Int32)  : vx_Met l yX0_down wsX0_down ({ frames := 7, cells := 2, slots := 12, locals := 103 }) (va_Pc [.ref h, .int x] (zx_Pre D vwCl (xT cA) (xW h a cA nL nC nB F ls) sz)) (va_Qi (fun (r : Int32) (u : xS) => sp_down nC F ls x r u) (zz_At D vwCl (xT cA) (fun u : xS => xW h a cA nL nC nB u.1 u.2) (va_A (xW h a cA nL nC nB F ls) sz)) (va_A (xW h a cA nL nC nB F ls) sz)) (zx_X D vwCl (xT cA) (xW h a cA nL nC nB F ls) (fun E => sx_run nC F x E) (va_A (xW h a cA nL nC nB F ls) sz)) 2 12 (va_A (xW h a cA nL nC nB F ls) sz) := by
  obtain ⟨hnL, hnC, hnB⟩ := hn
  have hn : nL ≤ 8 ∧ nC ≤ 8 ∧ nB ≤ 8 := ⟨hnL, hnC, hnB⟩
  refine zx_of (Qc := fun A => va_Qi (fun (r : Int32) (u : xS) => sp_down nC F ls x r u) (zz_At D vwCl (xT cA) (fun u : xS => xW h a cA nL nC nB u.1 u.2) A) A) (XC := fun A => zx_X D vwCl (xT cA) (xW h a cA nL nC nB F ls) (fun E => sx_run nC F x E) A) (by decide) rfl (Nat.le_of_ble_eq_true rfl) ?_
  intro p e s m args below meth c A H locs ls0 hx hb hr hml hown hts hlocks ht hT hA hP hK hD hS hl
  have hown : s.vm.findClass RX0 = some m.cls := hown
  have hl : lv_has ls0 3 [(0, .ref h), (1, .int x)] := hl
  have hin : ∀ w ∈ u_ws RX0 TX0 13, w ∈ wsX0_down := by decide +kernel
  have hf41 := hts (.fieldLink RX0 41 "PriorityCore" "numbers" "[I") (by decide +kernel)
  refine lv_aload_n hx hb dX0_down_0 rfl (lv_at hl 0 rfl) ?_
  refine lv_iload_n hx hb dX0_down_1 rfl (lv_at hl 1 rfl) ?_
  refine zx_cv ht hlocks hK (fun E hE => Or.inl hE) (Nat.le_of_ble_eq_true rfl) (Nat.le_of_ble_eq_true rfl) (vx_runV (As := [.int x]) (rest := []) ⟨hx, hb, hml, hown, hts⟩ (cX_requireCounter l hlT D h a cA nL nC nB H.size hn F ls x) (cwV 1 hts gX0_down_X0_requireCounter rfl rfl rfl (by decide +kernel) ⟨(Nat.le_of_ble_eq_true rfl), (Nat.le_of_ble_eq_true rfl)⟩) (zx_pV hP hK hD hA hS hT (va_recv hK hP (ci := 0) (q0 := 0) rfl rfl)) rfl rfl hl.1 rfl (lv_room (Nat.le_of_ble_eq_true rfl)) dX0_down_2 ⟨(Nat.le_of_ble_eq_true rfl), (Nat.le_of_ble_eq_true rfl)⟩) rfl hD hS hA (fun u H locs hw hP hD hS => ?_)
  have hxi : sp_in nC x := hw
  have hin9 := hxi
  have hP : va_P D vwCl (xW h a cA nL nC nB F ls) H := hP
  have hD : va_D A (xW h a cA nL nC nB F ls) := hD
  refine lv_aload_n hx hb dX0_down_5 rfl (lv_at hl 0 rfl) ?_
  refine zx_ci ht hlocks hK (fun E hE => Or.inr ⟨hE.1, hxi, hE.2⟩) (Nat.le_of_ble_eq_true rfl) (Nat.le_of_ble_eq_true rfl) (vx_runV (As := []) (rest := []) ⟨hx, hb, hml, hown, hts⟩ (cX_requireRunning l hlT D h a cA nL nC nB H.size hn F ls ) (cwV 0 hts gX0_down_X0_requireRunning rfl rfl rfl (by decide +kernel) ⟨(Nat.le_of_ble_eq_true rfl), (Nat.le_of_ble_eq_true rfl)⟩) (zx_pV hP hK hD hA hS hT (va_recv hK hP (ci := 0) (q0 := 0) rfl rfl)) rfl rfl hl.1 rfl (lv_room (Nat.le_of_ble_eq_true rfl)) dX0_down_6 ⟨(Nat.le_of_ble_eq_true rfl), (Nat.le_of_ble_eq_true rfl)⟩) rfl hD hS hA (fun r u H locs hw hP hD hS => ?_)
  obtain ⟨t, ht16, hfm, hre⟩ := hw
  subst hre
  have hP : va_P D vwCl (xW h a cA nL nC nB F ls) H := hP
  have hD : va_D A (xW h a cA nL nC nB F ls) := hD
  obtain ⟨k, hk, hxe⟩ := hxi
  subst hxe
  have hl : lv_has ls0 3 [(0, .ref h), (1, .int (nI k))] := hl
  refine lv_istore_n (lv' := [(2, .int (nI t)), (0, .ref h), (1, .int (nI k))]) hx hb dX0_down_9 rfl hl (by decide) rfl (fun ls0 hl => ?_)
  refine lv_aload_n hx hb dX0_down_10 rfl (lv_at hl 1 rfl) ?_
  refine va_get (D := D) (ci := 0) (v := .ref (a 9)) (C := RX0) (T := TX0) (N := 13) hx hb hts hin hown hK hP 0 rfl rfl 9 (by decide) hf41 (fun _ h9 => h9) rfl dX0_down_11 ?_
  refine lv_iload_n hx hb dX0_down_14 rfl (lv_at hl 2 rfl) ?_
  refine zz_iald hx hb hK hP 10 9 rfl rfl (hk) (by omega) dX0_down_15 ?_
  refine lv_if_le (tgt := 31) hx hb dX0_down_16 (by decide) (fun c16 => ?_) (fun c16 => ?_)
  · refine lv_aload_n hx hb dX0_down_31 rfl (lv_at hl 1 rfl) ?_
    refine lv_iload_n hx hb dX0_down_32 rfl (lv_at hl 0 rfl) ?_
    refine lv_iconst (v := 3) hx hb dX0_down_33 (by decide) ?_
    refine lv_iload_n hx hb dX0_down_34 rfl (lv_at hl 2 rfl) ?_
    refine zz_cv (va_runV (As := [.int (nI t), .int 3, .int (nI k)]) (rest := []) ⟨hx, hb, hml, hown, hts⟩ (cX_enter l D h a cA nL nC nB H.size hn F ls t 3 (nI k) ht16) (cwV 3 hts gX0_down_X0_enter rfl rfl rfl (by decide +kernel) ⟨(Nat.le_of_ble_eq_true rfl), (Nat.le_of_ble_eq_true rfl)⟩) (zz_pV hP hK hD (va_recv hK hP (ci := 0) (q0 := 0) rfl rfl)) rfl rfl hl.1 rfl (lv_room (Nat.le_of_ble_eq_true rfl)) dX0_down_35 ⟨(Nat.le_of_ble_eq_true rfl), (Nat.le_of_ble_eq_true rfl)⟩) hD hS hA (fun u H locs hw hP hD hS => ?_)
    subst hw
    have hP : va_P D vwCl (xW h a cA nL nC nB (va_up (va_up (va_up F 0 (upd (F 0) t 3)) 4 (upd (F 4) t (nI k))) 3 (upd (F 3) t (ls + 1))) (ls + 1)) H := hP
    have hD : va_D A (xW h a cA nL nC nB (va_up (va_up (va_up F 0 (upd (F 0) t 3)) 4 (upd (F 4) t (nI k))) 3 (upd (F 3) t (ls + 1))) (ls + 1)) := hD
    refine lv_iconst (v := 1) hx hb dX0_down_38 (by decide) ?_
    exact W.widen (Nat.le_of_ble_eq_true rfl) (Nat.le_of_ble_eq_true rfl) (vx_ret (zz_ri (va_up (va_up (va_up F 0 (upd (F 0) t 3)) 4 (upd (F 4) t (nI k))) 3 (upd (F 3) t (ls + 1)), ls + 1) hx hb hr hlocks hP hK hD hS (⟨k, t, hk, rfl, ht16, hfm, Or.inr ⟨c16, rfl, rfl⟩⟩) dX0_down_39))
  · refine lv_aload_n hx hb dX0_down_19 rfl (lv_at hl 1 rfl) ?_
    refine va_get (D := D) (ci := 0) (v := .ref (a 9)) (C := RX0) (T := TX0) (N := 13) hx hb hts hin hown hK hP 0 rfl rfl 9 (by decide) hf41 (fun _ h9 => h9) rfl dX0_down_20 ?_
    refine lv_iload_n hx hb dX0_down_23 rfl (lv_at hl 2 rfl) ?_
    refine lv_dup2_11 hx hb dX0_down_24 rfl rfl ?_
    refine zz_iald hx hb hK hP 10 9 rfl rfl (hk) (by omega) dX0_down_25 ?_
    refine lv_iconst (v := 1) hx hb dX0_down_26 (by decide) ?_
    refine lv_isub hx hb dX0_down_27 ?_
    refine zz_iast (ws' := xW h a cA nL nC nB (va_up F 9 (upd (F 9) k (((F 9) k) - 1))) ls) hx hb hK hP hD hS 10 9 rfl rfl (hk) (by omega) rfl dX0_down_28 (fun H locs hP hD hS => ?_)
    refine lv_iconst (v := 0) hx hb dX0_down_29 (by decide) ?_
    exact W.widen (Nat.le_of_ble_eq_true rfl) (Nat.le_of_ble_eq_true rfl) (vx_ret (zz_ri (va_up F 9 (upd (F 9) k (((F 9) k) - 1)), ls) hx hb hr hlocks hP hK hD hS (⟨k, t, hk, rfl, ht16, hfm, Or.inl ⟨c16, rfl, rfl⟩⟩) dX0_down_30))
set_option maxHeartbeats 1000000 in
set_option maxRecDepth 100000 in
/-- up -/
theorem cX_up (l : Launch) (hlT : l.stackTraces = false) (D : va_G) (h : Nat) (a : Nat → Nat) (cA : Nat → ClassId) (nL nC nB sz : Nat) (hn : nL ≤ 8 ∧ nC ≤ 8 ∧ nB ≤ 8) (F : Nat → Nat → Int32) (ls : Int32) (x : Int32)  : vx_Met l yX0_up wsX0_up ({ frames := 7, cells := 2, slots := 12, locals := 103 }) (va_Pc [.ref h, .int x] (zx_Pre D vwCl (xT cA) (xW h a cA nL nC nB F ls) sz)) (va_Qi (fun (r : Int32) (u : xS) => sp_up nC F ls x r u) (zz_At D vwCl (xT cA) (fun u : xS => xW h a cA nL nC nB u.1 u.2) (va_A (xW h a cA nL nC nB F ls) sz)) (va_A (xW h a cA nL nC nB F ls) sz)) (zx_X D vwCl (xT cA) (xW h a cA nL nC nB F ls) (fun E => sx_up nC F x E) (va_A (xW h a cA nL nC nB F ls) sz)) 2 12 (va_A (xW h a cA nL nC nB F ls) sz) := by
  obtain ⟨hnL, hnC, hnB⟩ := hn
  have hn : nL ≤ 8 ∧ nC ≤ 8 ∧ nB ≤ 8 := ⟨hnL, hnC, hnB⟩
  refine zx_of (Qc := fun A => va_Qi (fun (r : Int32) (u : xS) => sp_up nC F ls x r u) (zz_At D vwCl (xT cA) (fun u : xS => xW h a cA nL nC nB u.1 u.2) A) A) (XC := fun A => zx_X D vwCl (xT cA) (xW h a cA nL nC nB F ls) (fun E => sx_up nC F x E) A) (by decide) rfl (Nat.le_of_ble_eq_true rfl) ?_
  intro p e s m args below meth c A H locs ls0 hx hb hr hml hown hts hlocks ht hT hA hP hK hD hS hl
  have hown : s.vm.findClass RX0 = some m.cls := hown
  have hl : lv_has ls0 3 [(0, .ref h), (1, .int x)] := hl
  have hin : ∀ w ∈ u_ws RX0 TX0 13, w ∈ wsX0_up := by decide +kernel
  have hf41 := hts (.fieldLink RX0 41 "PriorityCore" "numbers" "[I") (by decide +kernel)
  refine lv_aload_n hx hb dX0_up_0 rfl (lv_at hl 0 rfl) ?_
  refine lv_iload_n hx hb dX0_up_1 rfl (lv_at hl 1 rfl) ?_
  refine zx_cv ht hlocks hK (fun E hE => Or.inl hE) (Nat.le_of_ble_eq_true rfl) (Nat.le_of_ble_eq_true rfl) (vx_runV (As := [.int x]) (rest := []) ⟨hx, hb, hml, hown, hts⟩ (cX_requireCounter l hlT D h a cA nL nC nB H.size hn F ls x) (cwV 1 hts gX0_up_X0_requireCounter rfl rfl rfl (by decide +kernel) ⟨(Nat.le_of_ble_eq_true rfl), (Nat.le_of_ble_eq_true rfl)⟩) (zx_pV hP hK hD hA hS hT (va_recv hK hP (ci := 0) (q0 := 0) rfl rfl)) rfl rfl hl.1 rfl (lv_room (Nat.le_of_ble_eq_true rfl)) dX0_up_2 ⟨(Nat.le_of_ble_eq_true rfl), (Nat.le_of_ble_eq_true rfl)⟩) rfl hD hS hA (fun u H locs hw hP hD hS => ?_)
  have hxi : sp_in nC x := hw
  have hin9 := hxi
  have hP : va_P D vwCl (xW h a cA nL nC nB F ls) H := hP
  have hD : va_D A (xW h a cA nL nC nB F ls) := hD
  obtain ⟨k, hk, hxe⟩ := hxi
  subst hxe
  have hl : lv_has ls0 3 [(0, .ref h), (1, .int (nI k))] := hl
  refine lv_aload_n hx hb dX0_up_5 rfl (lv_at hl 0 rfl) ?_
  refine lv_iconst (v := 3) hx hb dX0_up_6 (by decide) ?_
  refine lv_iload_n hx hb dX0_up_7 rfl (lv_at hl 1 rfl) ?_
  refine zz_ci (va_runV (As := [.int 3, .int (nI k)]) (rest := []) ⟨hx, hb, hml, hown, hts⟩ (cX_foremost l D h a cA nL nC nB H.size hn F ls 3 (nI k)) (cwV 2 hts gX0_up_X0_foremost rfl rfl rfl (by decide +kernel) ⟨(Nat.le_of_ble_eq_true rfl), (Nat.le_of_ble_eq_true rfl)⟩) (zz_pV hP hK hD (va_recv hK hP (ci := 0) (q0 := 0) rfl rfl)) rfl rfl hl.1 rfl (lv_room (Nat.le_of_ble_eq_true rfl)) dX0_up_8 ⟨(Nat.le_of_ble_eq_true rfl), (Nat.le_of_ble_eq_true rfl)⟩) hD hS hA (fun r u H locs hw hP hD hS => ?_)
  subst hw
  have hP : va_P D vwCl (xW h a cA nL nC nB F ls) H := hP
  have hD : va_D A (xW h a cA nL nC nB F ls) := hD
  refine lv_istore_n (lv' := [(2, .int (pq_enc (xs_fm F 3 (nI k)))), (0, .ref h), (1, .int (nI k))]) hx hb dX0_up_11 rfl hl (by decide) rfl (fun ls0 hl => ?_)
  refine lv_iload_n hx hb dX0_up_12 rfl (lv_at hl 0 rfl) ?_
  refine lv_iconst (v := (-1)) hx hb dX0_up_13 (by decide) ?_
  refine lv_icmp_eq (tgt := 24) hx hb dX0_up_14 (by decide) (fun c14 => ?_) (fun c14 => ?_)
  · have hno : xs_fm F 3 (nI k) = none := (pq_enc_m1 (fun n q => xs_fm_lt q)).mp c14
    refine lv_aload_n hx hb dX0_up_24 rfl (lv_at hl 1 rfl) ?_
    refine va_get (D := D) (ci := 0) (v := .ref (a 9)) (C := RX0) (T := TX0) (N := 13) hx hb hts hin hown hK hP 0 rfl rfl 9 (by decide) hf41 (fun _ h9 => h9) rfl dX0_up_25 ?_
    refine lv_iload_n hx hb dX0_up_28 rfl (lv_at hl 2 rfl) ?_
    refine zz_iald hx hb hK hP 10 9 rfl rfl (hk) (by omega) dX0_up_29 ?_
    refine lv_sipush (v := 1000) hx hb dX0_up_30 (by decide) ?_
    refine lv_icmp_lt (tgt := 46) hx hb dX0_up_33 (by decide) (fun c33 => ?_) (fun c33 => ?_)
    · refine lv_aload_n hx hb dX0_up_46 rfl (lv_at hl 1 rfl) ?_
      refine va_get (D := D) (ci := 0) (v := .ref (a 9)) (C := RX0) (T := TX0) (N := 13) hx hb hts hin hown hK hP 0 rfl rfl 9 (by decide) hf41 (fun _ h9 => h9) rfl dX0_up_47 ?_
      refine lv_iload_n hx hb dX0_up_50 rfl (lv_at hl 2 rfl) ?_
      refine lv_dup2_11 hx hb dX0_up_51 rfl rfl ?_
      refine zz_iald hx hb hK hP 10 9 rfl rfl (hk) (by omega) dX0_up_52 ?_
      refine lv_iconst (v := 1) hx hb dX0_up_53 (by decide) ?_
      refine lv_iadd hx hb dX0_up_54 ?_
      refine zz_iast (ws' := xW h a cA nL nC nB (va_up F 9 (upd (F 9) k (((F 9) k) + 1))) ls) hx hb hK hP hD hS 10 9 rfl rfl (hk) (by omega) rfl dX0_up_55 (fun H locs hP hD hS => ?_)
      refine lv_iconst (v := (-1)) hx hb dX0_up_56 (by decide) ?_
      exact W.widen (Nat.le_of_ble_eq_true rfl) (Nat.le_of_ble_eq_true rfl) (vx_ret (zz_ri (va_up F 9 (upd (F 9) k (((F 9) k) + 1)), ls) hx hb hr hlocks hP hK hD hS (⟨k, hk, rfl, Or.inr ⟨hno, c33, rfl, rfl⟩⟩) dX0_up_57))
    · exact zx_throw (E := xE_U) hx hb hlT hown (by decide +kernel) (hts (.classLink RX0 107 xE_U) (by decide +kernel)) (hts (.initialized xE_U) (by decide +kernel)) (zx_hat hT.2.2.2.2.2.2.1 hT.2.2.2 (fun w hw => hts w ((by decide +kernel : ∀ w ∈ (vx_atS RX0 111 xE_U ["java/lang/RuntimeException", "java/lang/Exception"]).filter goodWord, w ∈ wsX0_up) w hw)) zx_h2U) zx_gU hT (List.mem_of_getElem? (i := 4) rfl) ht hlocks hP hK hD hS (hml.trans hl.1.symm) dX0_up_36 dX0_up_39 dX0_up_40 dX0_up_42 dX0_up_45 (Nat.le_of_ble_eq_true rfl) (Nat.le_of_ble_eq_true rfl) (Nat.le_of_ble_eq_true rfl) (Nat.le_of_ble_eq_true rfl) (Nat.le_of_ble_eq_true rfl) (Nat.le_of_ble_eq_true rfl) (Or.inr ⟨rfl, k, hk, rfl, hno, c33⟩)
  · obtain ⟨j, hj⟩ : ∃ j, xs_fm F 3 (nI k) = some j := by
      cases q : xs_fm F 3 (nI k) with
      | none => exact absurd (by rw [q]; rfl) c14
      | some j => exact ⟨j, rfl⟩
    have hj16 : j < 16 := xs_fm_lt hj
    rw [hj] at hl
    have hl : lv_has ls0 3 [(2, .int (nI j)), (0, .ref h), (1, .int (nI k))] := hl
    refine lv_aload_n hx hb dX0_up_17 rfl (lv_at hl 1 rfl) ?_
    refine lv_iload_n hx hb dX0_up_18 rfl (lv_at hl 0 rfl) ?_
    refine zz_cv (va_runV (As := [.int (nI j)]) (rest := []) ⟨hx, hb, hml, hown, hts⟩ (cX_becomeReady l D h a cA nL nC nB H.size hn F ls j hj16) (cwV 1 hts gX0_up_X0_becomeReady rfl rfl rfl (by decide +kernel) ⟨(Nat.le_of_ble_eq_true rfl), (Nat.le_of_ble_eq_true rfl)⟩) (zz_pV hP hK hD (va_recv hK hP (ci := 0) (q0 := 0) rfl rfl)) rfl rfl hl.1 rfl (lv_room (Nat.le_of_ble_eq_true rfl)) dX0_up_19 ⟨(Nat.le_of_ble_eq_true rfl), (Nat.le_of_ble_eq_true rfl)⟩) hD hS hA (fun u H locs hw hP hD hS => ?_)
    subst hw
    have hP : va_P D vwCl (xW h a cA nL nC nB (xs_rd F ls j) (ls + 1)) H := hP
    have hD : va_D A (xW h a cA nL nC nB (xs_rd F ls j) (ls + 1)) := hD
    refine lv_iload_n hx hb dX0_up_22 rfl (lv_at hl 0 rfl) ?_
    exact W.widen (Nat.le_of_ble_eq_true rfl) (Nat.le_of_ble_eq_true rfl) (vx_ret (zz_ri (xs_rd F ls j, ls + 1) hx hb hr hlocks hP hK hD hS (⟨k, hk, rfl, Or.inl ⟨j, hj, hj16, rfl, rfl⟩⟩) dX0_up_23))
set_option maxHeartbeats 1000000 in
set_option maxRecDepth 100000 in
/-- send -/
theorem cX_send (l : Launch) (hlT : l.stackTraces = false) (D : va_G) (h : Nat) (a : Nat → Nat) (cA : Nat → ClassId) (nL nC nB sz : Nat) (hn : nL ≤ 8 ∧ nC ≤ 8 ∧ nB ≤ 8) (F : Nat → Nat → Int32) (ls : Int32) (x y : Int32) (hFi : sp_fi nB F) : vx_Met l yX0_send wsX0_send ({ frames := 7, cells := 2, slots := 12, locals := 103 }) (va_Pc [.ref h, .int x, .int y] (zx_Pre D vwCl (xT cA) (xW h a cA nL nC nB F ls) sz)) (va_Qi (fun (r : Int32) (u : xS) => sp_send nB F ls x y r u) (zz_At D vwCl (xT cA) (fun u : xS => xW h a cA nL nC nB u.1 u.2) (va_A (xW h a cA nL nC nB F ls) sz)) (va_A (xW h a cA nL nC nB F ls) sz)) (zx_X D vwCl (xT cA) (xW h a cA nL nC nB F ls) (fun E => sx_run nB F x E) (va_A (xW h a cA nL nC nB F ls) sz)) 2 12 (va_A (xW h a cA nL nC nB F ls) sz) := by
  obtain ⟨hnL, hnC, hnB⟩ := hn
  have hn : nL ≤ 8 ∧ nC ≤ 8 ∧ nB ≤ 8 := ⟨hnL, hnC, hnB⟩
  refine zx_of (Qc := fun A => va_Qi (fun (r : Int32) (u : xS) => sp_send nB F ls x y r u) (zz_At D vwCl (xT cA) (fun u : xS => xW h a cA nL nC nB u.1 u.2) A) A) (XC := fun A => zx_X D vwCl (xT cA) (xW h a cA nL nC nB F ls) (fun E => sx_run nB F x E) A) (by decide) rfl (Nat.le_of_ble_eq_true rfl) ?_
  intro p e s m args below meth c A H locs ls0 hx hb hr hml hown hts hlocks ht hT hA hP hK hD hS hl
  have hown : s.vm.findClass RX0 = some m.cls := hown
  have hl : lv_has ls0 5 [(0, .ref h), (1, .int x), (2, .int y)] := hl
  have hin : ∀ w ∈ u_ws RX0 TX0 13, w ∈ wsX0_send := by decide +kernel
  have hf28 := hts (.fieldLink RX0 28 "PriorityCore" "gotWords" "[I") (by decide +kernel)
  have hf31 := hts (.fieldLink RX0 31 "PriorityCore" "sentWords" "[I") (by decide +kernel)
  refine lv_aload_n hx hb dX0_send_0 rfl (lv_at hl 0 rfl) ?_
  refine lv_iload_n hx hb dX0_send_1 rfl (lv_at hl 1 rfl) ?_
  refine zx_cv ht hlocks hK (fun E hE => Or.inl hE) (Nat.le_of_ble_eq_true rfl) (Nat.le_of_ble_eq_true rfl) (vx_runV (As := [.int x]) (rest := []) ⟨hx, hb, hml, hown, hts⟩ (cX_requireBox l hlT D h a cA nL nC nB H.size hn F ls x) (cwV 1 hts gX0_send_X0_requireBox rfl rfl rfl (by decide +kernel) ⟨(Nat.le_of_ble_eq_true rfl), (Nat.le_of_ble_eq_true rfl)⟩) (zx_pV hP hK hD hA hS hT (va_recv hK hP (ci := 0) (q0 := 0) rfl rfl)) rfl rfl hl.1 rfl (lv_room (Nat.le_of_ble_eq_true rfl)) dX0_send_2 ⟨(Nat.le_of_ble_eq_true rfl), (Nat.le_of_ble_eq_true rfl)⟩) rfl hD hS hA (fun u H locs hw hP hD hS => ?_)
  have hxi : sp_in nB x := hw
  have hin9 := hxi
  have hP : va_P D vwCl (xW h a cA nL nC nB F ls) H := hP
  have hD : va_D A (xW h a cA nL nC nB F ls) := hD
  refine lv_aload_n hx hb dX0_send_5 rfl (lv_at hl 0 rfl) ?_
  refine zx_ci ht hlocks hK (fun E hE => Or.inr ⟨hE.1, hxi, hE.2⟩) (Nat.le_of_ble_eq_true rfl) (Nat.le_of_ble_eq_true rfl) (vx_runV (As := []) (rest := []) ⟨hx, hb, hml, hown, hts⟩ (cX_requireRunning l hlT D h a cA nL nC nB H.size hn F ls ) (cwV 0 hts gX0_send_X0_requireRunning rfl rfl rfl (by decide +kernel) ⟨(Nat.le_of_ble_eq_true rfl), (Nat.le_of_ble_eq_true rfl)⟩) (zx_pV hP hK hD hA hS hT (va_recv hK hP (ci := 0) (q0 := 0) rfl rfl)) rfl rfl hl.1 rfl (lv_room (Nat.le_of_ble_eq_true rfl)) dX0_send_6 ⟨(Nat.le_of_ble_eq_true rfl), (Nat.le_of_ble_eq_true rfl)⟩) rfl hD hS hA (fun r u H locs hw hP hD hS => ?_)
  obtain ⟨t, ht16, hfm, hre⟩ := hw
  subst hre
  have hP : va_P D vwCl (xW h a cA nL nC nB F ls) H := hP
  have hD : va_D A (xW h a cA nL nC nB F ls) := hD
  obtain ⟨k, hk, hxe⟩ := hxi
  subst hxe
  have hl : lv_has ls0 5 [(0, .ref h), (1, .int (nI k)), (2, .int y)] := hl
  refine lv_istore_n (lv' := [(3, .int (nI t)), (0, .ref h), (1, .int (nI k)), (2, .int y)]) hx hb dX0_send_9 rfl hl (by decide) rfl (fun ls0 hl => ?_)
  refine lv_aload_n hx hb dX0_send_10 rfl (lv_at hl 1 rfl) ?_
  refine lv_iconst (v := 5) hx hb dX0_send_11 (by decide) ?_
  refine lv_iload_n hx hb dX0_send_12 rfl (lv_at hl 2 rfl) ?_
  refine zz_ci (va_runV (As := [.int 5, .int (nI k)]) (rest := []) ⟨hx, hb, hml, hown, hts⟩ (cX_foremost l D h a cA nL nC nB H.size hn F ls 5 (nI k)) (cwV 2 hts gX0_send_X0_foremost rfl rfl rfl (by decide +kernel) ⟨(Nat.le_of_ble_eq_true rfl), (Nat.le_of_ble_eq_true rfl)⟩) (zz_pV hP hK hD (va_recv hK hP (ci := 0) (q0 := 0) rfl rfl)) rfl rfl hl.1 rfl (lv_room (Nat.le_of_ble_eq_true rfl)) dX0_send_13 ⟨(Nat.le_of_ble_eq_true rfl), (Nat.le_of_ble_eq_true rfl)⟩) hD hS hA (fun r u H locs hw hP hD hS => ?_)
  subst hw
  have hP : va_P D vwCl (xW h a cA nL nC nB F ls) H := hP
  have hD : va_D A (xW h a cA nL nC nB F ls) := hD
  refine lv_istore (lv' := [(4, .int (pq_enc (xs_fm F 5 (nI k)))), (3, .int (nI t)), (0, .ref h), (1, .int (nI k)), (2, .int y)]) hx hb dX0_send_16 hl (by decide) rfl (fun ls0 hl => ?_)
  refine lv_iload hx hb dX0_send_18 (lv_at hl 0 rfl) ?_
  refine lv_iconst (v := (-1)) hx hb dX0_send_20 (by decide) ?_
  refine lv_icmp_eq (tgt := 40) hx hb dX0_send_21 (by decide) (fun c21 => ?_) (fun c21 => ?_)
  · have hno : xs_fm F 5 (nI k) = none := (pq_enc_m1 (fun n q => xs_fm_lt q)).mp c21
    obtain ⟨f, hf4, hFf⟩ := hFi k hk
    rcases Nat.lt_or_ge f 4 with hlt | hge
    · refine lv_aload_n hx hb dX0_send_40 rfl (lv_at hl 2 rfl) ?_
      refine lv_iload_n hx hb dX0_send_41 rfl (lv_at hl 3 rfl) ?_
      refine lv_iload_n hx hb dX0_send_42 rfl (lv_at hl 4 rfl) ?_
      refine zz_ci (va_runV (As := [.int (nI k), .int y]) (rest := []) ⟨hx, hb, hml, hown, hts⟩ (cX_putBehind_y l D h a cA nL nC nB H.size hn F ls k f y hk hlt hFf) (cwV 2 hts gX0_send_X0_putBehind rfl rfl rfl (by decide +kernel) ⟨(Nat.le_of_ble_eq_true rfl), (Nat.le_of_ble_eq_true rfl)⟩) (zz_pV hP hK hD (va_recv hK hP (ci := 0) (q0 := 0) rfl rfl)) rfl rfl hl.1 rfl (lv_room (Nat.le_of_ble_eq_true rfl)) dX0_send_43 ⟨(Nat.le_of_ble_eq_true rfl), (Nat.le_of_ble_eq_true rfl)⟩) hD hS hA (fun r u H locs hw hP hD hS => ?_)
      obtain ⟨hr1, hu⟩ := hw
      subst hr1
      subst hu
      have hP : va_P D vwCl (xW h a cA nL nC nB (va_up (va_up F 11 (upd (F 11) (4 * k + f) y)) 10 (upd (F 10) k (nI (f + 1)))) ls) H := hP
      have hD : va_D A (xW h a cA nL nC nB (va_up (va_up F 11 (upd (F 11) (4 * k + f) y)) 10 (upd (F 10) k (nI (f + 1)))) ls) := hD
      refine lv_if_eq (tgt := 51) hx hb dX0_send_46 (by decide) (fun c46 => ?_) (fun c46 => ?_)
      · exact absurd c46 (by decide)
      · refine lv_iconst (v := 0) hx hb dX0_send_49 (by decide) ?_
        exact W.widen (Nat.le_of_ble_eq_true rfl) (Nat.le_of_ble_eq_true rfl) (vx_ret (zz_ri (va_up (va_up F 11 (upd (F 11) (4 * k + f) y)) 10 (upd (F 10) k (nI (f + 1))), ls) hx hb hr hlocks hP hK hD hS (⟨k, t, hk, rfl, ht16, hfm, Or.inr ⟨hno, f, hf4, hFf, Or.inl ⟨hlt, rfl, rfl⟩⟩⟩) dX0_send_50))
    · have hf4e : f = 4 := by omega
      refine lv_aload_n hx hb dX0_send_40 rfl (lv_at hl 2 rfl) ?_
      refine lv_iload_n hx hb dX0_send_41 rfl (lv_at hl 3 rfl) ?_
      refine lv_iload_n hx hb dX0_send_42 rfl (lv_at hl 4 rfl) ?_
      refine zz_ci (va_runV (As := [.int (nI k), .int y]) (rest := []) ⟨hx, hb, hml, hown, hts⟩ (cX_putBehind_n l D h a cA nL nC nB H.size hn F ls k y hk (hFf.trans (by rw [hf4e]))) (cwV 2 hts gX0_send_X0_putBehind rfl rfl rfl (by decide +kernel) ⟨(Nat.le_of_ble_eq_true rfl), (Nat.le_of_ble_eq_true rfl)⟩) (zz_pV hP hK hD (va_recv hK hP (ci := 0) (q0 := 0) rfl rfl)) rfl rfl hl.1 rfl (lv_room (Nat.le_of_ble_eq_true rfl)) dX0_send_43 ⟨(Nat.le_of_ble_eq_true rfl), (Nat.le_of_ble_eq_true rfl)⟩) hD hS hA (fun r u H locs hw hP hD hS => ?_)
      subst hw
      have hP : va_P D vwCl (xW h a cA nL nC nB F ls) H := hP
      have hD : va_D A (xW h a cA nL nC nB F ls) := hD
      refine lv_if_eq (tgt := 51) hx hb dX0_send_46 (by decide) (fun c46 => ?_) (fun c46 => ?_)
      · refine lv_aload_n hx hb dX0_send_51 rfl (lv_at hl 2 rfl) ?_
        refine va_get (D := D) (ci := 0) (v := .ref (a 7)) (C := RX0) (T := TX0) (N := 13) hx hb hts hin hown hK hP 0 rfl rfl 7 (by decide) hf31 (fun _ h9 => h9) rfl dX0_send_52 ?_
        refine lv_iload_n hx hb dX0_send_55 rfl (lv_at hl 1 rfl) ?_
        refine lv_iload_n hx hb dX0_send_56 rfl (lv_at hl 4 rfl) ?_
        refine zz_iast (ws' := xW h a cA nL nC nB (va_up F 7 (upd (F 7) t y)) ls) hx hb hK hP hD hS 8 7 rfl rfl (ht16) (by decide) rfl dX0_send_57 (fun H locs hP hD hS => ?_)
        refine lv_aload_n hx hb dX0_send_58 rfl (lv_at hl 2 rfl) ?_
        refine lv_iload_n hx hb dX0_send_59 rfl (lv_at hl 1 rfl) ?_
        refine lv_iconst (v := 4) hx hb dX0_send_60 (by decide) ?_
        refine lv_iload_n hx hb dX0_send_61 rfl (lv_at hl 3 rfl) ?_
        refine zz_cv (va_runV (As := [.int (nI t), .int 4, .int (nI k)]) (rest := []) ⟨hx, hb, hml, hown, hts⟩ (cX_enter l D h a cA nL nC nB H.size hn (va_up F 7 (upd (F 7) t y)) ls t 4 (nI k) ht16) (cwV 3 hts gX0_send_X0_enter rfl rfl rfl (by decide +kernel) ⟨(Nat.le_of_ble_eq_true rfl), (Nat.le_of_ble_eq_true rfl)⟩) (zz_pV hP hK hD (va_recv hK hP (ci := 0) (q0 := 0) rfl rfl)) rfl rfl hl.1 rfl (lv_room (Nat.le_of_ble_eq_true rfl)) dX0_send_62 ⟨(Nat.le_of_ble_eq_true rfl), (Nat.le_of_ble_eq_true rfl)⟩) hD hS hA (fun u H locs hw hP hD hS => ?_)
        subst hw
        have hP : va_P D vwCl (xW h a cA nL nC nB (xs_en (va_up F 7 (upd (F 7) t y)) ls t 4 (nI k)) (ls + 1)) H := hP
        have hD : va_D A (xW h a cA nL nC nB (xs_en (va_up F 7 (upd (F 7) t y)) ls t 4 (nI k)) (ls + 1)) := hD
        refine lv_iconst (v := 1) hx hb dX0_send_65 (by decide) ?_
        exact W.widen (Nat.le_of_ble_eq_true rfl) (Nat.le_of_ble_eq_true rfl) (vx_ret (zz_ri (xs_en (va_up F 7 (upd (F 7) t y)) ls t 4 (nI k), ls + 1) hx hb hr hlocks hP hK hD hS (⟨k, t, hk, rfl, ht16, hfm, Or.inr ⟨hno, f, hf4, hFf, Or.inr ⟨hf4e, rfl, rfl⟩⟩⟩) dX0_send_66))
      · exact absurd rfl c46
  · obtain ⟨j, hj⟩ : ∃ j, xs_fm F 5 (nI k) = some j := by
      cases q : xs_fm F 5 (nI k) with
      | none => exact absurd (by rw [q]; rfl) c21
      | some j => exact ⟨j, rfl⟩
    have hj16 : j < 16 := xs_fm_lt hj
    rw [hj] at hl
    have hl : lv_has ls0 5 [(4, .int (nI j)), (3, .int (nI t)), (0, .ref h), (1, .int (nI k)), (2, .int y)] := hl
    refine lv_aload_n hx hb dX0_send_24 rfl (lv_at hl 2 rfl) ?_
    refine va_get (D := D) (ci := 0) (v := .ref (a 6)) (C := RX0) (T := TX0) (N := 13) hx hb hts hin hown hK hP 0 rfl rfl 6 (by decide) hf28 (fun _ h9 => h9) rfl dX0_send_25 ?_
    refine lv_iload hx hb dX0_send_28 (lv_at hl 0 rfl) ?_
    refine lv_iload_n hx hb dX0_send_30 rfl (lv_at hl 4 rfl) ?_
    refine zz_iast (ws' := xW h a cA nL nC nB (va_up F 6 (upd (F 6) j y)) ls) hx hb hK hP hD hS 7 6 rfl rfl (hj16) (by decide) rfl dX0_send_31 (fun H locs hP hD hS => ?_)
    refine lv_aload_n hx hb dX0_send_32 rfl (lv_at hl 2 rfl) ?_
    refine lv_iload hx hb dX0_send_33 (lv_at hl 0 rfl) ?_
    refine zz_cv (va_runV (As := [.int (nI j)]) (rest := []) ⟨hx, hb, hml, hown, hts⟩ (cX_becomeReady l D h a cA nL nC nB H.size hn (va_up F 6 (upd (F 6) j y)) ls j hj16) (cwV 1 hts gX0_send_X0_becomeReady rfl rfl rfl (by decide +kernel) ⟨(Nat.le_of_ble_eq_true rfl), (Nat.le_of_ble_eq_true rfl)⟩) (zz_pV hP hK hD (va_recv hK hP (ci := 0) (q0 := 0) rfl rfl)) rfl rfl hl.1 rfl (lv_room (Nat.le_of_ble_eq_true rfl)) dX0_send_35 ⟨(Nat.le_of_ble_eq_true rfl), (Nat.le_of_ble_eq_true rfl)⟩) hD hS hA (fun u H locs hw hP hD hS => ?_)
    subst hw
    have hP : va_P D vwCl (xW h a cA nL nC nB (xs_rd (va_up F 6 (upd (F 6) j y)) ls j) (ls + 1)) H := hP
    have hD : va_D A (xW h a cA nL nC nB (xs_rd (va_up F 6 (upd (F 6) j y)) ls j) (ls + 1)) := hD
    refine lv_iconst (v := 0) hx hb dX0_send_38 (by decide) ?_
    exact W.widen (Nat.le_of_ble_eq_true rfl) (Nat.le_of_ble_eq_true rfl) (vx_ret (zz_ri (xs_rd (va_up F 6 (upd (F 6) j y)) ls j, ls + 1) hx hb hr hlocks hP hK hD hS (⟨k, t, hk, rfl, ht16, hfm, Or.inl ⟨j, hj, hj16, rfl, rfl⟩⟩) dX0_send_39))
set_option maxHeartbeats 1000000 in
set_option maxRecDepth 100000 in
/-- receive -/
theorem cX_receive (l : Launch) (hlT : l.stackTraces = false) (D : va_G) (h : Nat) (a : Nat → Nat) (cA : Nat → ClassId) (nL nC nB sz : Nat) (hn : nL ≤ 8 ∧ nC ≤ 8 ∧ nB ≤ 8) (F : Nat → Nat → Int32) (ls : Int32) (x : Int32) (hFi : sp_fi nB F) : vx_Met l yX0_receive wsX0_receive ({ frames := 7, cells := 2, slots := 12, locals := 103 }) (va_Pc [.ref h, .int x] (zx_Pre D vwCl (xT cA) (xW h a cA nL nC nB F ls) sz)) (va_Qi (fun (r : Int32) (u : xS) => sp_receive nB F ls x r u) (zz_At D vwCl (xT cA) (fun u : xS => xW h a cA nL nC nB u.1 u.2) (va_A (xW h a cA nL nC nB F ls) sz)) (va_A (xW h a cA nL nC nB F ls) sz)) (zx_X D vwCl (xT cA) (xW h a cA nL nC nB F ls) (fun E => sx_run nB F x E) (va_A (xW h a cA nL nC nB F ls) sz)) 2 12 (va_A (xW h a cA nL nC nB F ls) sz) := by
  obtain ⟨hnL, hnC, hnB⟩ := hn
  have hn : nL ≤ 8 ∧ nC ≤ 8 ∧ nB ≤ 8 := ⟨hnL, hnC, hnB⟩
  refine zx_of (Qc := fun A => va_Qi (fun (r : Int32) (u : xS) => sp_receive nB F ls x r u) (zz_At D vwCl (xT cA) (fun u : xS => xW h a cA nL nC nB u.1 u.2) A) A) (XC := fun A => zx_X D vwCl (xT cA) (xW h a cA nL nC nB F ls) (fun E => sx_run nB F x E) A) (by decide) rfl (Nat.le_of_ble_eq_true rfl) ?_
  intro p e s m args below meth c A H locs ls0 hx hb hr hml hown hts hlocks ht hT hA hP hK hD hS hl
  have hown : s.vm.findClass RX0 = some m.cls := hown
  have hl : lv_has ls0 4 [(0, .ref h), (1, .int x)] := hl
  have hin : ∀ w ∈ u_ws RX0 TX0 13, w ∈ wsX0_receive := by decide +kernel
  have hf28 := hts (.fieldLink RX0 28 "PriorityCore" "gotWords" "[I") (by decide +kernel)
  have hf31 := hts (.fieldLink RX0 31 "PriorityCore" "sentWords" "[I") (by decide +kernel)
  have hf44 := hts (.fieldLink RX0 44 "PriorityCore" "fills" "[I") (by decide +kernel)
  refine lv_aload_n hx hb dX0_receive_0 rfl (lv_at hl 0 rfl) ?_
  refine lv_iload_n hx hb dX0_receive_1 rfl (lv_at hl 1 rfl) ?_
  refine zx_cv ht hlocks hK (fun E hE => Or.inl hE) (Nat.le_of_ble_eq_true rfl) (Nat.le_of_ble_eq_true rfl) (vx_runV (As := [.int x]) (rest := []) ⟨hx, hb, hml, hown, hts⟩ (cX_requireBox l hlT D h a cA nL nC nB H.size hn F ls x) (cwV 1 hts gX0_receive_X0_requireBox rfl rfl rfl (by decide +kernel) ⟨(Nat.le_of_ble_eq_true rfl), (Nat.le_of_ble_eq_true rfl)⟩) (zx_pV hP hK hD hA hS hT (va_recv hK hP (ci := 0) (q0 := 0) rfl rfl)) rfl rfl hl.1 rfl (lv_room (Nat.le_of_ble_eq_true rfl)) dX0_receive_2 ⟨(Nat.le_of_ble_eq_true rfl), (Nat.le_of_ble_eq_true rfl)⟩) rfl hD hS hA (fun u H locs hw hP hD hS => ?_)
  have hxi : sp_in nB x := hw
  have hin9 := hxi
  have hP : va_P D vwCl (xW h a cA nL nC nB F ls) H := hP
  have hD : va_D A (xW h a cA nL nC nB F ls) := hD
  refine lv_aload_n hx hb dX0_receive_5 rfl (lv_at hl 0 rfl) ?_
  refine zx_ci ht hlocks hK (fun E hE => Or.inr ⟨hE.1, hxi, hE.2⟩) (Nat.le_of_ble_eq_true rfl) (Nat.le_of_ble_eq_true rfl) (vx_runV (As := []) (rest := []) ⟨hx, hb, hml, hown, hts⟩ (cX_requireRunning l hlT D h a cA nL nC nB H.size hn F ls ) (cwV 0 hts gX0_receive_X0_requireRunning rfl rfl rfl (by decide +kernel) ⟨(Nat.le_of_ble_eq_true rfl), (Nat.le_of_ble_eq_true rfl)⟩) (zx_pV hP hK hD hA hS hT (va_recv hK hP (ci := 0) (q0 := 0) rfl rfl)) rfl rfl hl.1 rfl (lv_room (Nat.le_of_ble_eq_true rfl)) dX0_receive_6 ⟨(Nat.le_of_ble_eq_true rfl), (Nat.le_of_ble_eq_true rfl)⟩) rfl hD hS hA (fun r u H locs hw hP hD hS => ?_)
  obtain ⟨t, ht16, hfm, hre⟩ := hw
  subst hre
  have hP : va_P D vwCl (xW h a cA nL nC nB F ls) H := hP
  have hD : va_D A (xW h a cA nL nC nB F ls) := hD
  obtain ⟨k, hk, hxe⟩ := hxi
  subst hxe
  have hl : lv_has ls0 4 [(0, .ref h), (1, .int (nI k))] := hl
  refine lv_istore_n (lv' := [(2, .int (nI t)), (0, .ref h), (1, .int (nI k))]) hx hb dX0_receive_9 rfl hl (by decide) rfl (fun ls0 hl => ?_)
  refine lv_aload_n hx hb dX0_receive_10 rfl (lv_at hl 1 rfl) ?_
  refine va_get (D := D) (ci := 0) (v := .ref (a 10)) (C := RX0) (T := TX0) (N := 13) hx hb hts hin hown hK hP 0 rfl rfl 10 (by decide) hf44 (fun _ h9 => h9) rfl dX0_receive_11 ?_
  refine lv_iload_n hx hb dX0_receive_14 rfl (lv_at hl 2 rfl) ?_
  refine zz_iald hx hb hK hP 11 10 rfl rfl (hk) (by omega) dX0_receive_15 ?_
  refine lv_if_ne (tgt := 28) hx hb dX0_receive_16 (by decide) (fun c16 => ?_) (fun c16 => ?_)
  · obtain ⟨f, hf4, hFf⟩ := hFi k hk
    obtain ⟨g, hg⟩ : ∃ g, f = g + 1 := by
      cases f with
      | zero => exact absurd hFf c16
      | succ g => exact ⟨g, rfl⟩
    subst hg
    have hg3 : g ≤ 3 := by omega
    refine lv_aload_n hx hb dX0_receive_28 rfl (lv_at hl 1 rfl) ?_
    refine va_get (D := D) (ci := 0) (v := .ref (a 6)) (C := RX0) (T := TX0) (N := 13) hx hb hts hin hown hK hP 0 rfl rfl 6 (by decide) hf28 (fun _ h9 => h9) rfl dX0_receive_29 ?_
    refine lv_iload_n hx hb dX0_receive_32 rfl (lv_at hl 0 rfl) ?_
    refine lv_aload_n hx hb dX0_receive_33 rfl (lv_at hl 1 rfl) ?_
    refine lv_iload_n hx hb dX0_receive_34 rfl (lv_at hl 2 rfl) ?_
    refine zz_ci (va_runV (As := [.int (nI k)]) (rest := [.int (nI t), .ref (a 6)]) ⟨hx, hb, hml, hown, hts⟩ (cX_takeFront l D h a cA nL nC nB H.size hn F ls k g hk hg3 hFf) (cwV 1 hts gX0_receive_X0_takeFront rfl rfl rfl (by decide +kernel) ⟨(Nat.le_of_ble_eq_true rfl), (Nat.le_of_ble_eq_true rfl)⟩) (zz_pV hP hK hD (va_recv hK hP (ci := 0) (q0 := 0) rfl rfl)) rfl rfl hl.1 rfl (lv_room (Nat.le_of_ble_eq_true rfl)) dX0_receive_35 ⟨(Nat.le_of_ble_eq_true rfl), (Nat.le_of_ble_eq_true rfl)⟩) hD hS hA (fun r u H locs hw hP hD hS => ?_)
    obtain ⟨hr1, hu⟩ := hw
    subst hr1
    subst hu
    have hP : va_P D vwCl (xW h a cA nL nC nB (va_up (va_up F 11 (va_cpy (F 11) (F 11) (4 * k + 1) (4 * k) 3)) 10 (upd (F 10) k (nI g))) ls) H := hP
    have hD : va_D A (xW h a cA nL nC nB (va_up (va_up F 11 (va_cpy (F 11) (F 11) (4 * k + 1) (4 * k) 3)) 10 (upd (F 10) k (nI g))) ls) := hD
    refine zz_iast (ws' := xW h a cA nL nC nB (va_up (va_up (va_up F 11 (va_cpy (F 11) (F 11) (4 * k + 1) (4 * k) 3)) 10 (upd (F 10) k (nI g))) 6 (upd (F 6) t (F 11 (4 * k)))) ls) hx hb hK hP hD hS 7 6 rfl rfl (ht16) (by decide) rfl dX0_receive_38 (fun H locs hP hD hS => ?_)
    refine lv_aload_n hx hb dX0_receive_39 rfl (lv_at hl 1 rfl) ?_
    refine lv_iconst (v := 4) hx hb dX0_receive_40 (by decide) ?_
    refine lv_iload_n hx hb dX0_receive_41 rfl (lv_at hl 2 rfl) ?_
    refine zz_ci (va_runV (As := [.int 4, .int (nI k)]) (rest := []) ⟨hx, hb, hml, hown, hts⟩ (cX_foremost l D h a cA nL nC nB H.size hn (va_up (va_up (va_up F 11 (va_cpy (F 11) (F 11) (4 * k + 1) (4 * k) 3)) 10 (upd (F 10) k (nI g))) 6 (upd (F 6) t (F 11 (4 * k)))) ls 4 (nI k)) (cwV 2 hts gX0_receive_X0_foremost rfl rfl rfl (by decide +kernel) ⟨(Nat.le_of_ble_eq_true rfl), (Nat.le_of_ble_eq_true rfl)⟩) (zz_pV hP hK hD (va_recv hK hP (ci := 0) (q0 := 0) rfl rfl)) rfl rfl hl.1 rfl (lv_room (Nat.le_of_ble_eq_true rfl)) dX0_receive_42 ⟨(Nat.le_of_ble_eq_true rfl), (Nat.le_of_ble_eq_true rfl)⟩) hD hS hA (fun r u H locs hw hP hD hS => ?_)
    have hw : r = pq_enc (xs_fm F 4 (nI k)) := hw
    subst hw
    have hP : va_P D vwCl (xW h a cA nL nC nB (va_up (va_up (va_up F 11 (va_cpy (F 11) (F 11) (4 * k + 1) (4 * k) 3)) 10 (upd (F 10) k (nI g))) 6 (upd (F 6) t (F 11 (4 * k)))) ls) H := hP
    have hD : va_D A (xW h a cA nL nC nB (va_up (va_up (va_up F 11 (va_cpy (F 11) (F 11) (4 * k + 1) (4 * k) 3)) 10 (upd (F 10) k (nI g))) 6 (upd (F 6) t (F 11 (4 * k)))) ls) := hD
    refine lv_istore_n (lv' := [(3, .int (pq_enc (xs_fm F 4 (nI k)))), (2, .int (nI t)), (0, .ref h), (1, .int (nI k))]) hx hb dX0_receive_45 rfl hl (by decide) rfl (fun ls0 hl => ?_)
    refine lv_iload_n hx hb dX0_receive_46 rfl (lv_at hl 0 rfl) ?_
    refine lv_iconst (v := (-1)) hx hb dX0_receive_47 (by decide) ?_
    refine lv_icmp_eq (tgt := 70) hx hb dX0_receive_48 (by decide) (fun c48 => ?_) (fun c48 => ?_)
    · have hno : xs_fm F 4 (nI k) = none := (pq_enc_m1 (fun n q => xs_fm_lt q)).mp c48
      refine lv_iconst (v := 0) hx hb dX0_receive_70 (by decide) ?_
      exact W.widen (Nat.le_of_ble_eq_true rfl) (Nat.le_of_ble_eq_true rfl) (vx_ret (zz_ri (va_up (va_up (va_up F 11 (va_cpy (F 11) (F 11) (4 * k + 1) (4 * k) 3)) 10 (upd (F 10) k (nI g))) 6 (upd (F 6) t (F 11 (4 * k))), ls) hx hb hr hlocks hP hK hD hS (⟨k, t, hk, rfl, ht16, hfm, Or.inr ⟨g, hg3, hFf, rfl, Or.inl ⟨hno, rfl⟩⟩⟩) dX0_receive_71))
    · obtain ⟨j, hj⟩ : ∃ j, xs_fm F 4 (nI k) = some j := by
        cases q : xs_fm F 4 (nI k) with
        | none => exact absurd (by rw [q]; rfl) c48
        | some j => exact ⟨j, rfl⟩
      have hj16 : j < 16 := xs_fm_lt hj
      rw [hj] at hl
      have hl : lv_has ls0 4 [(3, .int (nI j)), (2, .int (nI t)), (0, .ref h), (1, .int (nI k))] := hl
      refine lv_aload_n hx hb dX0_receive_51 rfl (lv_at hl 2 rfl) ?_
      refine lv_iload_n hx hb dX0_receive_52 rfl (lv_at hl 3 rfl) ?_
      refine lv_aload_n hx hb dX0_receive_53 rfl (lv_at hl 2 rfl) ?_
      refine va_get (D := D) (ci := 0) (v := .ref (a 7)) (C := RX0) (T := TX0) (N := 13) hx hb hts hin hown hK hP 0 rfl rfl 7 (by decide) hf31 (fun _ h9 => h9) rfl dX0_receive_54 ?_
      refine lv_iload_n hx hb dX0_receive_57 rfl (lv_at hl 0 rfl) ?_
      refine zz_iald hx hb hK hP 8 7 rfl rfl (hj16) (by decide) dX0_receive_58 ?_
      refine zz_ci (va_runV (As := [.int (nI k), .int ((F 7) j)]) (rest := []) ⟨hx, hb, hml, hown, hts⟩ (cX_putBehind_y l D h a cA nL nC nB H.size hn (va_up (va_up (va_up F 11 (va_cpy (F 11) (F 11) (4 * k + 1) (4 * k) 3)) 10 (upd (F 10) k (nI g))) 6 (upd (F 6) t (F 11 (4 * k)))) ls k g (F 7 j) hk (by omega) (show upd (F 10) k (nI g) k = nI g from pk_us)) (cwV 2 hts gX0_receive_X0_putBehind rfl rfl rfl (by decide +kernel) ⟨(Nat.le_of_ble_eq_true rfl), (Nat.le_of_ble_eq_true rfl)⟩) (zz_pV hP hK hD (va_recv hK hP (ci := 0) (q0 := 0) rfl rfl)) rfl rfl hl.1 rfl (lv_room (Nat.le_of_ble_eq_true rfl)) dX0_receive_59 ⟨(Nat.le_of_ble_eq_true rfl), (Nat.le_of_ble_eq_true rfl)⟩) hD hS hA (fun r u H locs hw hP hD hS => ?_)
      obtain ⟨hr1, hu⟩ := hw
      subst hr1
      subst hu
      have hP : va_P D vwCl (xW h a cA nL nC nB (xs_tp F k g t j) ls) H := hP
      have hD : va_D A (xW h a cA nL nC nB (xs_tp F k g t j) ls) := hD
      refine lv_if_eq (tgt := 70) hx hb dX0_receive_62 (by decide) (fun c62 => ?_) (fun c62 => ?_)
      · exact absurd c62 (by decide)
      · refine lv_aload_n hx hb dX0_receive_65 rfl (lv_at hl 2 rfl) ?_
        refine lv_iload_n hx hb dX0_receive_66 rfl (lv_at hl 0 rfl) ?_
        refine zz_cv (va_runV (As := [.int (nI j)]) (rest := []) ⟨hx, hb, hml, hown, hts⟩ (cX_becomeReady l D h a cA nL nC nB H.size hn (xs_tp F k g t j) ls j hj16) (cwV 1 hts gX0_receive_X0_becomeReady rfl rfl rfl (by decide +kernel) ⟨(Nat.le_of_ble_eq_true rfl), (Nat.le_of_ble_eq_true rfl)⟩) (zz_pV hP hK hD (va_recv hK hP (ci := 0) (q0 := 0) rfl rfl)) rfl rfl hl.1 rfl (lv_room (Nat.le_of_ble_eq_true rfl)) dX0_receive_67 ⟨(Nat.le_of_ble_eq_true rfl), (Nat.le_of_ble_eq_true rfl)⟩) hD hS hA (fun u H locs hw hP hD hS => ?_)
        subst hw
        have hP : va_P D vwCl (xW h a cA nL nC nB (xs_rd (xs_tp F k g t j) ls j) (ls + 1)) H := hP
        have hD : va_D A (xW h a cA nL nC nB (xs_rd (xs_tp F k g t j) ls j) (ls + 1)) := hD
        refine lv_iconst (v := 0) hx hb dX0_receive_70 (by decide) ?_
        exact W.widen (Nat.le_of_ble_eq_true rfl) (Nat.le_of_ble_eq_true rfl) (vx_ret (zz_ri (xs_rd (xs_tp F k g t j) ls j, ls + 1) hx hb hr hlocks hP hK hD hS (⟨k, t, hk, rfl, ht16, hfm, Or.inr ⟨g, hg3, hFf, rfl, Or.inr ⟨j, hj, hj16, rfl⟩⟩⟩) dX0_receive_71))
  · refine lv_aload_n hx hb dX0_receive_19 rfl (lv_at hl 1 rfl) ?_
    refine lv_iload_n hx hb dX0_receive_20 rfl (lv_at hl 0 rfl) ?_
    refine lv_iconst (v := 5) hx hb dX0_receive_21 (by decide) ?_
    refine lv_iload_n hx hb dX0_receive_22 rfl (lv_at hl 2 rfl) ?_
    refine zz_cv (va_runV (As := [.int (nI t), .int 5, .int (nI k)]) (rest := []) ⟨hx, hb, hml, hown, hts⟩ (cX_enter l D h a cA nL nC nB H.size hn F ls t 5 (nI k) ht16) (cwV 3 hts gX0_receive_X0_enter rfl rfl rfl (by decide +kernel) ⟨(Nat.le_of_ble_eq_true rfl), (Nat.le_of_ble_eq_true rfl)⟩) (zz_pV hP hK hD (va_recv hK hP (ci := 0) (q0 := 0) rfl rfl)) rfl rfl hl.1 rfl (lv_room (Nat.le_of_ble_eq_true rfl)) dX0_receive_23 ⟨(Nat.le_of_ble_eq_true rfl), (Nat.le_of_ble_eq_true rfl)⟩) hD hS hA (fun u H locs hw hP hD hS => ?_)
    subst hw
    have hP : va_P D vwCl (xW h a cA nL nC nB (va_up (va_up (va_up F 0 (upd (F 0) t 5)) 4 (upd (F 4) t (nI k))) 3 (upd (F 3) t (ls + 1))) (ls + 1)) H := hP
    have hD : va_D A (xW h a cA nL nC nB (va_up (va_up (va_up F 0 (upd (F 0) t 5)) 4 (upd (F 4) t (nI k))) 3 (upd (F 3) t (ls + 1))) (ls + 1)) := hD
    refine lv_iconst (v := 1) hx hb dX0_receive_26 (by decide) ?_
    exact W.widen (Nat.le_of_ble_eq_true rfl) (Nat.le_of_ble_eq_true rfl) (vx_ret (zz_ri (va_up (va_up (va_up F 0 (upd (F 0) t 5)) 4 (upd (F 4) t (nI k))) 3 (upd (F 3) t (ls + 1)), ls + 1) hx hb hr hlocks hP hK hD hS (⟨k, t, hk, rfl, ht16, hfm, Or.inl ⟨c16, rfl, rfl⟩⟩) dX0_receive_27))
set_option maxHeartbeats 1000000 in
set_option maxRecDepth 100000 in
/-- sleep -/
theorem cX_sleep (l : Launch) (hlT : l.stackTraces = false) (D : va_G) (h : Nat) (a : Nat → Nat) (cA : Nat → ClassId) (nL nC nB sz : Nat) (hn : nL ≤ 8 ∧ nC ≤ 8 ∧ nB ≤ 8) (F : Nat → Nat → Int32) (ls : Int32) (x : Int32)  : vx_Met l yX0_sleep wsX0_sleep ({ frames := 7, cells := 2, slots := 12, locals := 103 }) (va_Pc [.ref h, .int x] (zx_Pre D vwCl (xT cA) (xW h a cA nL nC nB F ls) sz)) (va_Qi (fun (r : Int32) (u : xS) => sp_sleep F ls x r u) (zz_At D vwCl (xT cA) (fun u : xS => xW h a cA nL nC nB u.1 u.2) (va_A (xW h a cA nL nC nB F ls) sz)) (va_A (xW h a cA nL nC nB F ls) sz)) (zx_X D vwCl (xT cA) (xW h a cA nL nC nB F ls) (fun E => sx_sleep F x E) (va_A (xW h a cA nL nC nB F ls) sz)) 2 12 (va_A (xW h a cA nL nC nB F ls) sz) := by
  obtain ⟨hnL, hnC, hnB⟩ := hn
  have hn : nL ≤ 8 ∧ nC ≤ 8 ∧ nB ≤ 8 := ⟨hnL, hnC, hnB⟩
  refine zx_of (Qc := fun A => va_Qi (fun (r : Int32) (u : xS) => sp_sleep F ls x r u) (zz_At D vwCl (xT cA) (fun u : xS => xW h a cA nL nC nB u.1 u.2) A) A) (XC := fun A => zx_X D vwCl (xT cA) (xW h a cA nL nC nB F ls) (fun E => sx_sleep F x E) A) (by decide) rfl (Nat.le_of_ble_eq_true rfl) ?_
  intro p e s m args below meth c A H locs ls0 hx hb hr hml hown hts hlocks ht hT hA hP hK hD hS hl
  have hown : s.vm.findClass RX0 = some m.cls := hown
  have hl : lv_has ls0 3 [(0, .ref h), (1, .int x)] := hl
  have hin : ∀ w ∈ u_ws RX0 TX0 13, w ∈ wsX0_sleep := by decide +kernel
  have hf25 := hts (.fieldLink RX0 25 "PriorityCore" "ticksLeft" "[I") (by decide +kernel)
  refine lv_aload_n hx hb dX0_sleep_0 rfl (lv_at hl 0 rfl) ?_
  refine zx_ci ht hlocks hK (fun E hE => Or.inl hE) (Nat.le_of_ble_eq_true rfl) (Nat.le_of_ble_eq_true rfl) (vx_runV (As := []) (rest := []) ⟨hx, hb, hml, hown, hts⟩ (cX_requireRunning l hlT D h a cA nL nC nB H.size hn F ls ) (cwV 0 hts gX0_sleep_X0_requireRunning rfl rfl rfl (by decide +kernel) ⟨(Nat.le_of_ble_eq_true rfl), (Nat.le_of_ble_eq_true rfl)⟩) (zx_pV hP hK hD hA hS hT (va_recv hK hP (ci := 0) (q0 := 0) rfl rfl)) rfl rfl hl.1 rfl (lv_room (Nat.le_of_ble_eq_true rfl)) dX0_sleep_1 ⟨(Nat.le_of_ble_eq_true rfl), (Nat.le_of_ble_eq_true rfl)⟩) rfl hD hS hA (fun r u H locs hw hP hD hS => ?_)
  obtain ⟨t, ht16, hfm, hre⟩ := hw
  subst hre
  have hP : va_P D vwCl (xW h a cA nL nC nB F ls) H := hP
  have hD : va_D A (xW h a cA nL nC nB F ls) := hD
  refine lv_istore_n (lv' := [(2, .int (nI t)), (0, .ref h), (1, .int x)]) hx hb dX0_sleep_4 rfl hl (by decide) rfl (fun ls0 hl => ?_)
  refine lv_iload_n hx hb dX0_sleep_5 rfl (lv_at hl 2 rfl) ?_
  refine lv_iconst (v := 1) hx hb dX0_sleep_6 (by decide) ?_
  refine lv_icmp_lt (tgt := 17) hx hb dX0_sleep_7 (by decide) (fun c7 => ?_) (fun c7 => ?_)
  · exact zx_throw (E := xE_A) hx hb hlT hown (by decide +kernel) (hts (.classLink RX0 89 xE_A) (by decide +kernel)) (hts (.initialized xE_A) (by decide +kernel)) (zx_hat hT.2.2.2.2.1 hT.2.2.2 (fun w hw => hts w ((by decide +kernel : ∀ w ∈ (vx_atS RX0 93 xE_A ["java/lang/RuntimeException", "java/lang/Exception"]).filter goodWord, w ∈ wsX0_sleep) w hw)) zx_h2A) zx_gA hT (List.mem_of_getElem? (i := 5) rfl) ht hlocks hP hK hD hS (hml.trans hl.1.symm) dX0_sleep_17 dX0_sleep_20 dX0_sleep_21 dX0_sleep_23 dX0_sleep_26 (Nat.le_of_ble_eq_true rfl) (Nat.le_of_ble_eq_true rfl) (Nat.le_of_ble_eq_true rfl) (Nat.le_of_ble_eq_true rfl) (Nat.le_of_ble_eq_true rfl) (Nat.le_of_ble_eq_true rfl) (Or.inr ⟨rfl, ⟨t, hfm⟩, fun q => Int32.not_le.mpr c7 q.1⟩)
  · refine lv_iload_n hx hb dX0_sleep_10 rfl (lv_at hl 2 rfl) ?_
    refine lv_sipush (v := 1000) hx hb dX0_sleep_11 (by decide) ?_
    refine lv_icmp_le (tgt := 27) hx hb dX0_sleep_14 (by decide) (fun c14 => ?_) (fun c14 => ?_)
    · refine lv_aload_n hx hb dX0_sleep_27 rfl (lv_at hl 1 rfl) ?_
      refine lv_iload_n hx hb dX0_sleep_28 rfl (lv_at hl 0 rfl) ?_
      refine lv_bipush (v := 6) hx hb dX0_sleep_29 (by decide) ?_
      refine lv_iconst (v := (-1)) hx hb dX0_sleep_31 (by decide) ?_
      refine zz_cv (va_runV (As := [.int (nI t), .int 6, .int (-1)]) (rest := []) ⟨hx, hb, hml, hown, hts⟩ (cX_enter l D h a cA nL nC nB H.size hn F ls t 6 (-1) ht16) (cwV 3 hts gX0_sleep_X0_enter rfl rfl rfl (by decide +kernel) ⟨(Nat.le_of_ble_eq_true rfl), (Nat.le_of_ble_eq_true rfl)⟩) (zz_pV hP hK hD (va_recv hK hP (ci := 0) (q0 := 0) rfl rfl)) rfl rfl hl.1 rfl (lv_room (Nat.le_of_ble_eq_true rfl)) dX0_sleep_32 ⟨(Nat.le_of_ble_eq_true rfl), (Nat.le_of_ble_eq_true rfl)⟩) hD hS hA (fun u H locs hw hP hD hS => ?_)
      subst hw
      have hP : va_P D vwCl (xW h a cA nL nC nB (va_up (va_up (va_up F 0 (upd (F 0) t 6)) 4 (upd (F 4) t (-1))) 3 (upd (F 3) t (ls + 1))) (ls + 1)) H := hP
      have hD : va_D A (xW h a cA nL nC nB (va_up (va_up (va_up F 0 (upd (F 0) t 6)) 4 (upd (F 4) t (-1))) 3 (upd (F 3) t (ls + 1))) (ls + 1)) := hD
      refine lv_aload_n hx hb dX0_sleep_35 rfl (lv_at hl 1 rfl) ?_
      refine va_get (D := D) (ci := 0) (v := .ref (a 5)) (C := RX0) (T := TX0) (N := 13) hx hb hts hin hown hK hP 0 rfl rfl 5 (by decide) hf25 (fun _ h9 => h9) rfl dX0_sleep_36 ?_
      refine lv_iload_n hx hb dX0_sleep_39 rfl (lv_at hl 0 rfl) ?_
      refine lv_iload_n hx hb dX0_sleep_40 rfl (lv_at hl 2 rfl) ?_
      refine zz_iast (ws' := xW h a cA nL nC nB (va_up (va_up (va_up (va_up F 0 (upd (F 0) t 6)) 4 (upd (F 4) t (-1))) 3 (upd (F 3) t (ls + 1))) 5 (upd (F 5) t x)) (ls + 1)) hx hb hK hP hD hS 6 5 rfl rfl (ht16) (by decide) rfl dX0_sleep_41 (fun H locs hP hD hS => ?_)
      refine lv_aload_n hx hb dX0_sleep_42 rfl (lv_at hl 1 rfl) ?_
      refine zz_ci (va_runV (As := []) (rest := []) ⟨hx, hb, hml, hown, hts⟩ (cX_running l D h a cA nL nC nB H.size hn (va_up (va_up (va_up (va_up F 0 (upd (F 0) t 6)) 4 (upd (F 4) t (-1))) 3 (upd (F 3) t (ls + 1))) 5 (upd (F 5) t x)) (ls + 1) ) (cwV 0 hts gX0_sleep_X0_running rfl rfl rfl (by decide +kernel) ⟨(Nat.le_of_ble_eq_true rfl), (Nat.le_of_ble_eq_true rfl)⟩) (zz_pV hP hK hD (va_recv hK hP (ci := 0) (q0 := 0) rfl rfl)) rfl rfl hl.1 rfl (lv_room (Nat.le_of_ble_eq_true rfl)) dX0_sleep_43 ⟨(Nat.le_of_ble_eq_true rfl), (Nat.le_of_ble_eq_true rfl)⟩) hD hS hA (fun r u H locs hw hP hD hS => ?_)
      subst hw
      have hP : va_P D vwCl (xW h a cA nL nC nB (va_up (va_up (va_up (va_up F 0 (upd (F 0) t 6)) 4 (upd (F 4) t (-1))) 3 (upd (F 3) t (ls + 1))) 5 (upd (F 5) t x)) (ls + 1)) H := hP
      have hD : va_D A (xW h a cA nL nC nB (va_up (va_up (va_up (va_up F 0 (upd (F 0) t 6)) 4 (upd (F 4) t (-1))) 3 (upd (F 3) t (ls + 1))) 5 (upd (F 5) t x)) (ls + 1)) := hD
      exact W.widen (Nat.le_of_ble_eq_true rfl) (Nat.le_of_ble_eq_true rfl) (vx_ret (zz_ri (va_up (va_up (va_up (va_up F 0 (upd (F 0) t 6)) 4 (upd (F 4) t (-1))) 3 (upd (F 3) t (ls + 1))) 5 (upd (F 5) t x), ls + 1) hx hb hr hlocks hP hK hD hS (⟨t, ht16, hfm, Int32.not_lt.mp c7, c14, rfl, rfl⟩) dX0_sleep_46))
    · exact zx_throw (E := xE_A) hx hb hlT hown (by decide +kernel) (hts (.classLink RX0 89 xE_A) (by decide +kernel)) (hts (.initialized xE_A) (by decide +kernel)) (zx_hat hT.2.2.2.2.1 hT.2.2.2 (fun w hw => hts w ((by decide +kernel : ∀ w ∈ (vx_atS RX0 93 xE_A ["java/lang/RuntimeException", "java/lang/Exception"]).filter goodWord, w ∈ wsX0_sleep) w hw)) zx_h2A) zx_gA hT (List.mem_of_getElem? (i := 5) rfl) ht hlocks hP hK hD hS (hml.trans hl.1.symm) dX0_sleep_17 dX0_sleep_20 dX0_sleep_21 dX0_sleep_23 dX0_sleep_26 (Nat.le_of_ble_eq_true rfl) (Nat.le_of_ble_eq_true rfl) (Nat.le_of_ble_eq_true rfl) (Nat.le_of_ble_eq_true rfl) (Nat.le_of_ble_eq_true rfl) (Nat.le_of_ble_eq_true rfl) (Or.inr ⟨rfl, ⟨t, hfm⟩, fun q => c14 q.2⟩)
set_option maxHeartbeats 1000000 in
set_option maxRecDepth 100000 in
/-- end -/
theorem cX_end (l : Launch) (hlT : l.stackTraces = false) (D : va_G) (h : Nat) (a : Nat → Nat) (cA : Nat → ClassId) (nL nC nB sz : Nat) (hn : nL ≤ 8 ∧ nC ≤ 8 ∧ nB ≤ 8) (F : Nat → Nat → Int32) (ls : Int32)  (hO : xs_ow nL (F 8)) : vx_Met l yX0_end wsX0_end ({ frames := 7, cells := 2, slots := 12, locals := 103 }) (va_Pc [.ref h] (zx_Pre D vwCl (xT cA) (xW h a cA nL nC nB F ls) sz)) (va_Qi (fun (r : Int32) (u : xS) => sp_end nL F ls r u) (zz_At D vwCl (xT cA) (fun u : xS => xW h a cA nL nC nB u.1 u.2) (va_A (xW h a cA nL nC nB F ls) sz)) (va_A (xW h a cA nL nC nB F ls) sz)) (zx_X D vwCl (xT cA) (xW h a cA nL nC nB F ls) (fun E => sx_end nL F E) (va_A (xW h a cA nL nC nB F ls) sz)) 2 12 (va_A (xW h a cA nL nC nB F ls) sz) := by
  obtain ⟨hnL, hnC, hnB⟩ := hn
  have hn : nL ≤ 8 ∧ nC ≤ 8 ∧ nB ≤ 8 := ⟨hnL, hnC, hnB⟩
  refine zx_of (Qc := fun A => va_Qi (fun (r : Int32) (u : xS) => sp_end nL F ls r u) (zz_At D vwCl (xT cA) (fun u : xS => xW h a cA nL nC nB u.1 u.2) A) A) (XC := fun A => zx_X D vwCl (xT cA) (xW h a cA nL nC nB F ls) (fun E => sx_end nL F E) A) (by decide) rfl (Nat.le_of_ble_eq_true rfl) ?_
  intro p e s m args below meth c A H locs ls0 hx hb hr hml hown hts hlocks ht hT hA hP hK hD hS hl
  have hown : s.vm.findClass RX0 = some m.cls := hown
  have hl : lv_has ls0 2 [(0, .ref h)] := hl
  have hin : ∀ w ∈ u_ws RX0 TX0 13, w ∈ wsX0_end := by decide +kernel
  have hf9 := hts (.fieldLink RX0 9 "PriorityCore" "states" "[I") (by decide +kernel)
  have hf13 := hts (.fieldLink RX0 13 "PriorityCore" "bases" "[I") (by decide +kernel)
  have hf28 := hts (.fieldLink RX0 28 "PriorityCore" "gotWords" "[I") (by decide +kernel)
  refine lv_aload_n hx hb dX0_end_0 rfl (lv_at hl 0 rfl) ?_
  refine zx_ci ht hlocks hK (fun E hE => Or.inl hE) (Nat.le_of_ble_eq_true rfl) (Nat.le_of_ble_eq_true rfl) (vx_runV (As := []) (rest := []) ⟨hx, hb, hml, hown, hts⟩ (cX_requireRunning l hlT D h a cA nL nC nB H.size hn F ls ) (cwV 0 hts gX0_end_X0_requireRunning rfl rfl rfl (by decide +kernel) ⟨(Nat.le_of_ble_eq_true rfl), (Nat.le_of_ble_eq_true rfl)⟩) (zx_pV hP hK hD hA hS hT (va_recv hK hP (ci := 0) (q0 := 0) rfl rfl)) rfl rfl hl.1 rfl (lv_room (Nat.le_of_ble_eq_true rfl)) dX0_end_1 ⟨(Nat.le_of_ble_eq_true rfl), (Nat.le_of_ble_eq_true rfl)⟩) rfl hD hS hA (fun r u H locs hw hP hD hS => ?_)
  obtain ⟨t, ht16, hfm, hre⟩ := hw
  subst hre
  have hP : va_P D vwCl (xW h a cA nL nC nB F ls) H := hP
  have hD : va_D A (xW h a cA nL nC nB F ls) := hD
  refine lv_istore_n (lv' := [(1, .int (nI t)), (0, .ref h)]) hx hb dX0_end_4 rfl hl (by decide) rfl (fun ls0 hl => ?_)
  refine lv_aload_n hx hb dX0_end_5 rfl (lv_at hl 1 rfl) ?_
  refine lv_iload_n hx hb dX0_end_6 rfl (lv_at hl 0 rfl) ?_
  refine zz_ci (va_runV (As := [.int (nI t)]) (rest := []) ⟨hx, hb, hml, hown, hts⟩ (cX_locksOwnedBy l D h a cA nL nC nB H.size hn F ls (nI t)) (cwV 1 hts gX0_end_X0_locksOwnedBy rfl rfl rfl (by decide +kernel) ⟨(Nat.le_of_ble_eq_true rfl), (Nat.le_of_ble_eq_true rfl)⟩) (zz_pV hP hK hD (va_recv hK hP (ci := 0) (q0 := 0) rfl rfl)) rfl rfl hl.1 rfl (lv_room (Nat.le_of_ble_eq_true rfl)) dX0_end_7 ⟨(Nat.le_of_ble_eq_true rfl), (Nat.le_of_ble_eq_true rfl)⟩) hD hS hA (fun r u H locs hw hP hD hS => ?_)
  subst hw
  have hP : va_P D vwCl (xW h a cA nL nC nB F ls) H := hP
  have hD : va_D A (xW h a cA nL nC nB F ls) := hD
  refine lv_if_le (tgt := 23) hx hb dX0_end_10 (by decide) (fun c10 => ?_) (fun c10 => ?_)
  · have hc0 : pq_cnt (fun k => decide (F 8 k = nI t)) nL = 0 := by
      have hcl := pq_cnt_le (fun k => decide (F 8 k = nI t)) nL
      have hle : pq_cnt (fun k => decide (F 8 k = nI t)) nL ≤ 0 := (nI_leI (by omega) (by decide)).mp (show nI _ ≤ nI 0 from c10)
      omega
    refine lv_aload_n hx hb dX0_end_23 rfl (lv_at hl 1 rfl) ?_
    refine va_get (D := D) (ci := 0) (v := .ref (a 0)) (C := RX0) (T := TX0) (N := 13) hx hb hts hin hown hK hP 0 rfl rfl 0 (by decide) hf9 (fun _ h9 => h9) rfl dX0_end_24 ?_
    refine lv_iload_n hx hb dX0_end_27 rfl (lv_at hl 0 rfl) ?_
    refine lv_iconst (v := 0) hx hb dX0_end_28 (by decide) ?_
    refine zz_iast (ws' := xW h a cA nL nC nB (va_up F 0 (upd (F 0) t 0)) ls) hx hb hK hP hD hS 1 0 rfl rfl (ht16) (by decide) rfl dX0_end_29 (fun H locs hP hD hS => ?_)
    refine lv_aload_n hx hb dX0_end_30 rfl (lv_at hl 1 rfl) ?_
    refine va_get (D := D) (ci := 0) (v := .ref (a 1)) (C := RX0) (T := TX0) (N := 13) hx hb hts hin hown hK hP 0 rfl rfl 1 (by decide) hf13 (fun _ h9 => h9) rfl dX0_end_31 ?_
    refine lv_iload_n hx hb dX0_end_34 rfl (lv_at hl 0 rfl) ?_
    refine lv_iconst (v := 0) hx hb dX0_end_35 (by decide) ?_
    refine zz_iast (ws' := xW h a cA nL nC nB (va_up (va_up F 0 (upd (F 0) t 0)) 1 (upd (F 1) t 0)) ls) hx hb hK hP hD hS 2 1 rfl rfl (ht16) (by decide) rfl dX0_end_36 (fun H locs hP hD hS => ?_)
    refine lv_aload_n hx hb dX0_end_37 rfl (lv_at hl 1 rfl) ?_
    refine va_get (D := D) (ci := 0) (v := .ref (a 6)) (C := RX0) (T := TX0) (N := 13) hx hb hts hin hown hK hP 0 rfl rfl 6 (by decide) hf28 (fun _ h9 => h9) rfl dX0_end_38 ?_
    refine lv_iload_n hx hb dX0_end_41 rfl (lv_at hl 0 rfl) ?_
    refine lv_iconst (v := 0) hx hb dX0_end_42 (by decide) ?_
    refine zz_iast (ws' := xW h a cA nL nC nB (va_up (va_up (va_up F 0 (upd (F 0) t 0)) 1 (upd (F 1) t 0)) 6 (upd (F 6) t 0)) ls) hx hb hK hP hD hS 7 6 rfl rfl (ht16) (by decide) rfl dX0_end_43 (fun H locs hP hD hS => ?_)
    refine lv_aload_n hx hb dX0_end_44 rfl (lv_at hl 1 rfl) ?_
    refine zz_cv (va_runV (As := []) (rest := []) ⟨hx, hb, hml, hown, hts⟩ (cX_settlePriorities l D h a cA nL nC nB H.size hn (va_up (va_up (va_up F 0 (upd (F 0) t 0)) 1 (upd (F 1) t 0)) 6 (upd (F 6) t 0)) ls (show xs_ow nL (F 8) from hO)) (cwV 0 hts gX0_end_X0_settlePriorities rfl rfl rfl (by decide +kernel) ⟨(Nat.le_of_ble_eq_true rfl), (Nat.le_of_ble_eq_true rfl)⟩) (zz_pV hP hK hD (va_recv hK hP (ci := 0) (q0 := 0) rfl rfl)) rfl rfl hl.1 rfl (lv_room (Nat.le_of_ble_eq_true rfl)) dX0_end_45 ⟨(Nat.le_of_ble_eq_true rfl), (Nat.le_of_ble_eq_true rfl)⟩) hD hS hA (fun u H locs hw hP hD hS => ?_)
    obtain ⟨E2, hu, hEf⟩ := hw
    subst hu
    have hP : va_P D vwCl (xW h a cA nL nC nB (va_up (xs_fr F t) 2 E2) ls) H := hP
    have hD : va_D A (xW h a cA nL nC nB (va_up (xs_fr F t) 2 E2) ls) := hD
    refine lv_aload_n hx hb dX0_end_48 rfl (lv_at hl 1 rfl) ?_
    refine zz_ci (va_runV (As := []) (rest := []) ⟨hx, hb, hml, hown, hts⟩ (cX_running l D h a cA nL nC nB H.size hn (va_up (xs_fr F t) 2 E2) ls ) (cwV 0 hts gX0_end_X0_running rfl rfl rfl (by decide +kernel) ⟨(Nat.le_of_ble_eq_true rfl), (Nat.le_of_ble_eq_true rfl)⟩) (zz_pV hP hK hD (va_recv hK hP (ci := 0) (q0 := 0) rfl rfl)) rfl rfl hl.1 rfl (lv_room (Nat.le_of_ble_eq_true rfl)) dX0_end_49 ⟨(Nat.le_of_ble_eq_true rfl), (Nat.le_of_ble_eq_true rfl)⟩) hD hS hA (fun r u H locs hw hP hD hS => ?_)
    subst hw
    have hP : va_P D vwCl (xW h a cA nL nC nB (va_up (xs_fr F t) 2 E2) ls) H := hP
    have hD : va_D A (xW h a cA nL nC nB (va_up (xs_fr F t) 2 E2) ls) := hD
    exact W.widen (Nat.le_of_ble_eq_true rfl) (Nat.le_of_ble_eq_true rfl) (vx_ret (zz_ri (va_up (xs_fr F t) 2 E2, ls) hx hb hr hlocks hP hK hD hS (⟨t, E2, ht16, hfm, hc0, hEf, rfl, rfl⟩) dX0_end_52))
  · have hc0 : ¬ pq_cnt (fun k => decide (F 8 k = nI t)) nL = 0 := fun q => c10 (by rw [q]; decide)
    exact zx_throw (E := xE_A) hx hb hlT hown (by decide +kernel) (hts (.classLink RX0 89 xE_A) (by decide +kernel)) (hts (.initialized xE_A) (by decide +kernel)) (zx_hat hT.2.2.2.2.1 hT.2.2.2 (fun w hw => hts w ((by decide +kernel : ∀ w ∈ (vx_atS RX0 93 xE_A ["java/lang/RuntimeException", "java/lang/Exception"]).filter goodWord, w ∈ wsX0_end) w hw)) zx_h2A) zx_gA hT (List.mem_of_getElem? (i := 6) rfl) ht hlocks hP hK hD hS (hml.trans hl.1.symm) dX0_end_13 dX0_end_16 dX0_end_17 dX0_end_19 dX0_end_22 (Nat.le_of_ble_eq_true rfl) (Nat.le_of_ble_eq_true rfl) (Nat.le_of_ble_eq_true rfl) (Nat.le_of_ble_eq_true rfl) (Nat.le_of_ble_eq_true rfl) (Nat.le_of_ble_eq_true rfl) (Or.inr ⟨rfl, t, ht16, hfm, hc0⟩)
theorem sp_ti1 {G : Nat → Nat → Int32} {T5 : Nat → Int32} {x : Int32} {i : Nat} (h : ∀ t, t < 16 → T5 t = if t < i ∧ G 0 t = 6 then G 5 t - x else G 5 t) (c : ¬ G 0 i = 6) : ∀ t, t < 16 → T5 t = if t < i + 1 ∧ G 0 t = 6 then G 5 t - x else G 5 t := by
  intro t ht
  rw [h t ht]
  by_cases e : t = i
  · subst e
    rw [if_neg (fun q => c q.2), if_neg (fun q => c q.2)]
  · simp [show t < i + 1 ↔ t < i by omega]
theorem sp_ti2 {G : Nat → Nat → Int32} {T5 : Nat → Int32} {x : Int32} {i : Nat} (h : ∀ t, t < 16 → T5 t = if t < i ∧ G 0 t = 6 then G 5 t - x else G 5 t) (hi : i < 16) (c : G 0 i = 6) : ∀ t, t < 16 → upd T5 i (T5 i - x) t = if t < i + 1 ∧ G 0 t = 6 then G 5 t - x else G 5 t := by
  intro t ht
  unfold upd
  by_cases e : t = i
  · subst e
    rw [if_pos rfl, h t ht, if_neg (fun q => by omega), if_pos ⟨by omega, c⟩]
  · rw [if_neg e, h t ht]
    simp [show t < i + 1 ↔ t < i by omega]
set_option maxHeartbeats 1000000 in
set_option maxRecDepth 100000 in
/-- tick -/
theorem cX_tick (l : Launch) (hlT : l.stackTraces = false) (D : va_G) (h : Nat) (a : Nat → Nat) (cA : Nat → ClassId) (nL nC nB sz : Nat) (hn : nL ≤ 8 ∧ nC ≤ 8 ∧ nB ≤ 8) (F : Nat → Nat → Int32) (ls : Int32) (x : Int32)  : vx_Met l yX0_tick wsX0_tick ({ frames := 6, cells := 1, slots := 6, locals := 82 }) (va_Pc [.ref h, .int x] (zx_Pre D vwCl (xT cA) (xW h a cA nL nC nB F ls) sz)) (va_Qi (fun (r : Int32) (u : xS) => sp_tick F ls x r u) (zz_At D vwCl (xT cA) (fun u : xS => xW h a cA nL nC nB u.1 u.2) (va_A (xW h a cA nL nC nB F ls) sz)) (va_A (xW h a cA nL nC nB F ls) sz)) (zx_X D vwCl (xT cA) (xW h a cA nL nC nB F ls) (fun E => sx_tick x E) (va_A (xW h a cA nL nC nB F ls) sz)) 1 6 (va_A (xW h a cA nL nC nB F ls) sz) := by
  obtain ⟨hnL, hnC, hnB⟩ := hn
  have hn : nL ≤ 8 ∧ nC ≤ 8 ∧ nB ≤ 8 := ⟨hnL, hnC, hnB⟩
  refine zx_of (Qc := fun A => va_Qi (fun (r : Int32) (u : xS) => sp_tick F ls x r u) (zz_At D vwCl (xT cA) (fun u : xS => xW h a cA nL nC nB u.1 u.2) A) A) (XC := fun A => zx_X D vwCl (xT cA) (xW h a cA nL nC nB F ls) (fun E => sx_tick x E) A) (by decide) rfl (Nat.le_of_ble_eq_true rfl) ?_
  intro p e s m args below meth c A H locs ls0 hx hb hr hml hown hts hlocks ht hT hA hP hK hD hS hl
  have hown : s.vm.findClass RX0 = some m.cls := hown
  have hl : lv_has ls0 4 [(0, .ref h), (1, .int x)] := hl
  have hin : ∀ w ∈ u_ws RX0 TX0 13, w ∈ wsX0_tick := by decide +kernel
  have hf9 := hts (.fieldLink RX0 9 "PriorityCore" "states" "[I") (by decide +kernel)
  have hf25 := hts (.fieldLink RX0 25 "PriorityCore" "ticksLeft" "[I") (by decide +kernel)
  refine lv_iload_n hx hb dX0_tick_0 rfl (lv_at hl 1 rfl) ?_
  refine lv_if_lt (tgt := 11) hx hb dX0_tick_1 (by decide) (fun c1 => ?_) (fun c1 => ?_)
  · exact zx_throw (E := xE_A) hx hb hlT hown (by decide +kernel) (hts (.classLink RX0 89 xE_A) (by decide +kernel)) (hts (.initialized xE_A) (by decide +kernel)) (zx_hat hT.2.2.2.2.1 hT.2.2.2 (fun w hw => hts w ((by decide +kernel : ∀ w ∈ (vx_atS RX0 93 xE_A ["java/lang/RuntimeException", "java/lang/Exception"]).filter goodWord, w ∈ wsX0_tick) w hw)) zx_h2A) zx_gA hT (List.mem_of_getElem? (i := 7) rfl) ht hlocks hP hK hD hS (hml.trans hl.1.symm) dX0_tick_11 dX0_tick_14 dX0_tick_15 dX0_tick_17 dX0_tick_20 (Nat.le_of_ble_eq_true rfl) (Nat.le_of_ble_eq_true rfl) (Nat.le_of_ble_eq_true rfl) (Nat.le_of_ble_eq_true rfl) (Nat.le_of_ble_eq_true rfl) (Nat.le_of_ble_eq_true rfl) (⟨rfl, fun q => Int32.not_lt.mpr q.1 c1⟩)
  · refine lv_iload_n hx hb dX0_tick_4 rfl (lv_at hl 1 rfl) ?_
    refine lv_sipush (v := 1000) hx hb dX0_tick_5 (by decide) ?_
    refine lv_icmp_le (tgt := 21) hx hb dX0_tick_8 (by decide) (fun c8 => ?_) (fun c8 => ?_)
    · refine lv_aload_n hx hb dX0_tick_21 rfl (lv_at hl 0 rfl) ?_
      refine lv_iload_n hx hb dX0_tick_22 rfl (lv_at hl 1 rfl) ?_
      obtain ⟨z, hz⟩ : ∃ z, z = xs_wk x 16 (F, ls) := ⟨_, rfl⟩
      refine zz_ci (va_runV (As := [.int x]) (rest := []) ⟨hx, hb, hml, hown, hts⟩ (cX_wakeWithin l D h a cA nL nC nB H.size hn F ls x z hz) (cwV 1 hts gX0_tick_X0_wakeWithin rfl rfl rfl (by decide +kernel) ⟨(Nat.le_of_ble_eq_true rfl), (Nat.le_of_ble_eq_true rfl)⟩) (zz_pV hP hK hD (va_recv hK hP (ci := 0) (q0 := 0) rfl rfl)) rfl rfl hl.1 rfl (lv_room (Nat.le_of_ble_eq_true rfl)) dX0_tick_23 ⟨(Nat.le_of_ble_eq_true rfl), (Nat.le_of_ble_eq_true rfl)⟩) hD hS hA (fun r u H locs hw hP hD hS => ?_)
      obtain ⟨hr1, hu⟩ := hw
      subst hr1
      subst hu
      have hP : va_P D vwCl (xW h a cA nL nC nB z.2.1 z.2.2) H := hP
      have hD : va_D A (xW h a cA nL nC nB z.2.1 z.2.2) := hD
      refine lv_istore_n (lv' := [(2, .int (nI z.1)), (0, .ref h), (1, .int x)]) hx hb dX0_tick_26 rfl hl (by decide) rfl (fun ls0 hl => ?_)
      refine lv_iconst (v := nI 0) hx hb dX0_tick_27 (by decide) ?_
      refine lv_istore_n (lv' := [(3, .int (nI 0)), (2, .int (nI z.1)), (0, .ref h), (1, .int x)]) hx hb dX0_tick_28 rfl hl (by decide) rfl (fun ls0 hl => ?_)
      have lp29 : ∀ (n29 : Nat) (i : Nat) (T5 : Nat → Int32), (i ≤ 16) → (17 ≤ i + n29) → (∀ t, t < 16 → T5 t = if t < i ∧ z.2.1 0 t = 6 then z.2.1 5 t - x else z.2.1 5 t) → ∀ (H : Heap) (locs : List Loc) (ls0 : Array Slot), va_P D vwCl (xW h a cA nL nC nB (va_up z.2.1 5 T5) z.2.2) H → va_D A (xW h a cA nL nC nB (va_up z.2.1 5 T5) z.2.2) → va_S A s.heap H locs → lv_has ls0 4 [(0, .ref h), (1, .int x), (2, .int (nI z.1)), (3, .int (nI i))] → W p l e ({ frames := 6, cells := 1, slots := 6, locals := 82 }) s m args below meth c H locs 0 0 (vx_MQ below (va_Qi (fun (r : Int32) (u : xS) => sp_tick F ls x r u) (zz_At D vwCl (xT cA) (fun u : xS => xW h a cA nL nC nB u.1 u.2) A) A) (zx_X D vwCl (xT cA) (xW h a cA nL nC nB F ls) (fun E => sx_tick x E) A) args s 1 6 A) (F0 m 29 ls0 []) := by
        intro n29
        induction n29 with
        | zero =>
          intro i T5 hi hm hE
          exact absurd True.intro (by omega)
        | succ n29 ih29 =>
          intro i T5 hi hm hE H locs ls0 hP hD hS hl
          refine lv_iload_n hx hb dX0_tick_29 rfl (lv_at hl 3 rfl) ?_
          refine lv_bipush (v := 16) hx hb dX0_tick_30 (by decide) ?_
          refine lv_icmp_ge (tgt := 62) hx hb dX0_tick_32 (by decide) (fun c32 => ?_) (fun c32 => ?_)
          · have hi2 : i = 16 := Nat.le_antisymm hi (zn_ge rfl (by omega) (by decide) c32)
            subst hi2
            refine lv_iload_n hx hb dX0_tick_62 rfl (lv_at hl 2 rfl) ?_
            exact W.widen (Nat.le_of_ble_eq_true rfl) (Nat.le_of_ble_eq_true rfl) (vx_ret (zz_ri (va_up z.2.1 5 T5, z.2.2) hx hb hr hlocks hP hK hD hS (⟨Int32.not_lt.mp c1, c8, z, hz, rfl, T5, fun t ht => by rw [hE t ht]; simp [ht], rfl⟩) dX0_tick_63))
          · have hi16 : i < 16 := zn_lt rfl (by omega) (by decide) c32
            refine lv_aload_n hx hb dX0_tick_35 rfl (lv_at hl 0 rfl) ?_
            refine va_get (D := D) (ci := 0) (v := .ref (a 0)) (C := RX0) (T := TX0) (N := 13) hx hb hts hin hown hK hP 0 rfl rfl 0 (by decide) hf9 (fun _ h9 => h9) rfl dX0_tick_36 ?_
            refine lv_iload_n hx hb dX0_tick_39 rfl (lv_at hl 3 rfl) ?_
            refine zz_iald hx hb hK hP 1 0 rfl rfl (hi16) (by decide) dX0_tick_40 ?_
            refine lv_bipush (v := 6) hx hb dX0_tick_41 (by decide) ?_
            refine lv_icmp_ne (tgt := 56) hx hb dX0_tick_43 (by decide) (fun c43 => ?_) (fun c43 => ?_)
            · refine lv_iinc (v := nI (i + 1)) (lv' := [(3, .int (nI (i + 1))), (0, .ref h), (1, .int x), (2, .int (nI z.1))]) hx hb dX0_tick_56 hl (k := 3) rfl (nI_1 _) (by decide) rfl (fun ls0 hl => ?_)
              refine lv_goto (tgt := 29) hx hb dX0_tick_59 (by decide) ?_
              exact ih29 (i + 1) _ (by omega) (by omega) (sp_ti1 hE c43) H locs ls0 hP hD hS (lv_sub hl [1, 2, 3, 0] rfl)
            · refine lv_aload_n hx hb dX0_tick_46 rfl (lv_at hl 0 rfl) ?_
              refine va_get (D := D) (ci := 0) (v := .ref (a 5)) (C := RX0) (T := TX0) (N := 13) hx hb hts hin hown hK hP 0 rfl rfl 5 (by decide) hf25 (fun _ h9 => h9) rfl dX0_tick_47 ?_
              refine lv_iload_n hx hb dX0_tick_50 rfl (lv_at hl 3 rfl) ?_
              refine lv_dup2_11 hx hb dX0_tick_51 rfl rfl ?_
              refine zz_iald hx hb hK hP 6 5 rfl rfl (hi16) (by decide) dX0_tick_52 ?_
              refine lv_iload_n hx hb dX0_tick_53 rfl (lv_at hl 1 rfl) ?_
              refine lv_isub hx hb dX0_tick_54 ?_
              refine zz_iast (ws' := xW h a cA nL nC nB (va_up z.2.1 5 (upd T5 i ((T5 i) - x))) z.2.2) hx hb hK hP hD hS 6 5 rfl rfl (hi16) (by decide) rfl dX0_tick_55 (fun H locs hP hD hS => ?_)
              refine lv_iinc (v := nI (i + 1)) (lv' := [(3, .int (nI (i + 1))), (0, .ref h), (1, .int x), (2, .int (nI z.1))]) hx hb dX0_tick_56 hl (k := 3) rfl (nI_1 _) (by decide) rfl (fun ls0 hl => ?_)
              refine lv_goto (tgt := 29) hx hb dX0_tick_59 (by decide) ?_
              exact ih29 (i + 1) _ (by omega) (by omega) (sp_ti2 hE hi16 c43) H locs ls0 hP hD hS (lv_sub hl [1, 2, 3, 0] rfl)
      exact lp29 17 0 (z.2.1 5) (by omega) (by omega) (fun t ht => by rw [if_neg (fun q => by omega)]) H locs ls0 hP hD hS (lv_sub hl [2, 3, 1, 0] rfl)
    · exact zx_throw (E := xE_A) hx hb hlT hown (by decide +kernel) (hts (.classLink RX0 89 xE_A) (by decide +kernel)) (hts (.initialized xE_A) (by decide +kernel)) (zx_hat hT.2.2.2.2.1 hT.2.2.2 (fun w hw => hts w ((by decide +kernel : ∀ w ∈ (vx_atS RX0 93 xE_A ["java/lang/RuntimeException", "java/lang/Exception"]).filter goodWord, w ∈ wsX0_tick) w hw)) zx_h2A) zx_gA hT (List.mem_of_getElem? (i := 7) rfl) ht hlocks hP hK hD hS (hml.trans hl.1.symm) dX0_tick_11 dX0_tick_14 dX0_tick_15 dX0_tick_17 dX0_tick_20 (Nat.le_of_ble_eq_true rfl) (Nat.le_of_ble_eq_true rfl) (Nat.le_of_ble_eq_true rfl) (Nat.le_of_ble_eq_true rfl) (Nat.le_of_ble_eq_true rfl) (Nat.le_of_ble_eq_true rfl) (⟨rfl, fun q => c8 q.2⟩)
set_option maxHeartbeats 1000000 in
set_option maxRecDepth 100000 in
/-- told -/
theorem cX_told (l : Launch) (hlT : l.stackTraces = false) (D : va_G) (h : Nat) (a : Nat → Nat) (cA : Nat → ClassId) (nL nC nB sz : Nat) (hn : nL ≤ 8 ∧ nC ≤ 8 ∧ nB ≤ 8) (F : Nat → Nat → Int32) (ls : Int32) (x y : Int32)  : vx_Met l yX0_told wsX0_told ({ frames := 7, cells := 2, slots := 12, locals := 102 }) (va_Pc [.ref h, .int x, .int y] (zx_Pre D vwCl (xT cA) (xW h a cA nL nC nB F ls) sz)) (va_Qi (fun (r : Int32) (u : Unit) => sp_told nL F x y r) (zz_At D vwCl (xT cA) (fun _ : Unit => xW h a cA nL nC nB F ls) (va_A (xW h a cA nL nC nB F ls) sz)) (va_A (xW h a cA nL nC nB F ls) sz)) (zx_X D vwCl (xT cA) (xW h a cA nL nC nB F ls) (fun E => sx_told x y E) (va_A (xW h a cA nL nC nB F ls) sz)) 2 12 (va_A (xW h a cA nL nC nB F ls) sz) := by
  obtain ⟨hnL, hnC, hnB⟩ := hn
  have hn : nL ≤ 8 ∧ nC ≤ 8 ∧ nB ≤ 8 := ⟨hnL, hnC, hnB⟩
  refine zx_of (Qc := fun A => va_Qi (fun (r : Int32) (u : Unit) => sp_told nL F x y r) (zz_At D vwCl (xT cA) (fun _ : Unit => xW h a cA nL nC nB F ls) A) A) (XC := fun A => zx_X D vwCl (xT cA) (xW h a cA nL nC nB F ls) (fun E => sx_told x y E) A) (by decide) rfl (Nat.le_of_ble_eq_true rfl) ?_
  intro p e s m args below meth c A H locs ls0 hx hb hr hml hown hts hlocks ht hT hA hP hK hD hS hl
  have hown : s.vm.findClass RX0 = some m.cls := hown
  have hl : lv_has ls0 3 [(0, .ref h), (1, .int x), (2, .int y)] := hl
  have hin : ∀ w ∈ u_ws RX0 TX0 13, w ∈ wsX0_told := by decide +kernel
  have hf9 := hts (.fieldLink RX0 9 "PriorityCore" "states" "[I") (by decide +kernel)
  have hf13 := hts (.fieldLink RX0 13 "PriorityCore" "bases" "[I") (by decide +kernel)
  have hf16 := hts (.fieldLink RX0 16 "PriorityCore" "effectives" "[I") (by decide +kernel)
  have hf22 := hts (.fieldLink RX0 22 "PriorityCore" "targets" "[I") (by decide +kernel)
  have hf25 := hts (.fieldLink RX0 25 "PriorityCore" "ticksLeft" "[I") (by decide +kernel)
  have hf28 := hts (.fieldLink RX0 28 "PriorityCore" "gotWords" "[I") (by decide +kernel)
  refine lv_iload_n hx hb dX0_told_0 rfl (lv_at hl 1 rfl) ?_
  refine zx_cs ht hlocks hK (fun E hE => Or.inl hE) (Nat.le_of_ble_eq_true rfl) (Nat.le_of_ble_eq_true rfl) (vx_runS (As := [.int x]) (rest := []) ⟨hx, hb, hml, hown, hts⟩ (cX_requireTask l hlT D H.size x) (va_cwS 1 hts gX0_told_X0_requireTask rfl rfl rfl (by decide +kernel) ⟨(Nat.le_of_ble_eq_true rfl), (Nat.le_of_ble_eq_true rfl)⟩) (zx_pS (hP.sub (ws' := []) [] rfl) (hK.sub (tys' := []) [] rfl) (hD.sub (ws' := []) [] (by decide) rfl) hA hS hT) rfl rfl hl.1 rfl (lv_room (Nat.le_of_ble_eq_true rfl)) dX0_told_1 ⟨(Nat.le_of_ble_eq_true rfl), (Nat.le_of_ble_eq_true rfl)⟩) hP rfl hD hS hA (fun H locs hw hP hD hS => ?_)
  have hT16 := hw
  have hP : va_P D vwCl (xW h a cA nL nC nB F ls) H := hP
  have hD : va_D A (xW h a cA nL nC nB F ls) := hD
  obtain ⟨t, ht16, hxe⟩ := hT16
  subst hxe
  have hl : lv_has ls0 3 [(0, .ref h), (1, .int (nI t)), (2, .int y)] := hl
  refine lv_iload_n hx hb dX0_told_4 rfl (lv_at hl 2 rfl) ?_
  rcases zn_sw7 y with rfl | rfl | rfl | rfl | rfl | rfl | rfl | e
  · have hl : lv_has ls0 3 [(0, .ref h), (1, .int (nI t)), (2, .int 0)] := hl
    refine lv_tableIn (tgt := 48) hx hb dX0_told_5 (by decide) (by decide) (off := 43) rfl (by decide) ?_
    refine lv_aload_n hx hb dX0_told_48 rfl (lv_at hl 0 rfl) ?_
    refine va_get (D := D) (ci := 0) (v := .ref (a 0)) (C := RX0) (T := TX0) (N := 13) hx hb hts hin hown hK hP 0 rfl rfl 0 (by decide) hf9 (fun _ h9 => h9) rfl dX0_told_49 ?_
    refine lv_iload_n hx hb dX0_told_52 rfl (lv_at hl 1 rfl) ?_
    refine zz_iald hx hb hK hP 1 0 rfl rfl (ht16) (by decide) dX0_told_53 ?_
    exact W.widen (Nat.le_of_ble_eq_true rfl) (Nat.le_of_ble_eq_true rfl) (vx_ret (zz_ri () hx hb hr hlocks hP hK hD hS (⟨t, ht16, rfl, Or.inl ⟨rfl, rfl⟩⟩) dX0_told_54))
  · have hl : lv_has ls0 3 [(0, .ref h), (1, .int (nI t)), (2, .int 1)] := hl
    refine lv_tableIn (tgt := 55) hx hb dX0_told_5 (by decide) (by decide) (off := 50) rfl (by decide) ?_
    refine lv_aload_n hx hb dX0_told_55 rfl (lv_at hl 0 rfl) ?_
    refine va_get (D := D) (ci := 0) (v := .ref (a 1)) (C := RX0) (T := TX0) (N := 13) hx hb hts hin hown hK hP 0 rfl rfl 1 (by decide) hf13 (fun _ h9 => h9) rfl dX0_told_56 ?_
    refine lv_iload_n hx hb dX0_told_59 rfl (lv_at hl 1 rfl) ?_
    refine zz_iald hx hb hK hP 2 1 rfl rfl (ht16) (by decide) dX0_told_60 ?_
    exact W.widen (Nat.le_of_ble_eq_true rfl) (Nat.le_of_ble_eq_true rfl) (vx_ret (zz_ri () hx hb hr hlocks hP hK hD hS (⟨t, ht16, rfl, Or.inr (Or.inl ⟨rfl, rfl⟩)⟩) dX0_told_61))
  · have hl : lv_has ls0 3 [(0, .ref h), (1, .int (nI t)), (2, .int 2)] := hl
    refine lv_tableIn (tgt := 62) hx hb dX0_told_5 (by decide) (by decide) (off := 57) rfl (by decide) ?_
    refine lv_aload_n hx hb dX0_told_62 rfl (lv_at hl 0 rfl) ?_
    refine va_get (D := D) (ci := 0) (v := .ref (a 2)) (C := RX0) (T := TX0) (N := 13) hx hb hts hin hown hK hP 0 rfl rfl 2 (by decide) hf16 (fun _ h9 => h9) rfl dX0_told_63 ?_
    refine lv_iload_n hx hb dX0_told_66 rfl (lv_at hl 1 rfl) ?_
    refine zz_iald hx hb hK hP 3 2 rfl rfl (ht16) (by decide) dX0_told_67 ?_
    exact W.widen (Nat.le_of_ble_eq_true rfl) (Nat.le_of_ble_eq_true rfl) (vx_ret (zz_ri () hx hb hr hlocks hP hK hD hS (⟨t, ht16, rfl, Or.inr (Or.inr (Or.inl ⟨rfl, rfl⟩))⟩) dX0_told_68))
  · have hl : lv_has ls0 3 [(0, .ref h), (1, .int (nI t)), (2, .int 3)] := hl
    refine lv_tableIn (tgt := 69) hx hb dX0_told_5 (by decide) (by decide) (off := 64) rfl (by decide) ?_
    refine lv_aload_n hx hb dX0_told_69 rfl (lv_at hl 0 rfl) ?_
    refine va_get (D := D) (ci := 0) (v := .ref (a 4)) (C := RX0) (T := TX0) (N := 13) hx hb hts hin hown hK hP 0 rfl rfl 4 (by decide) hf22 (fun _ h9 => h9) rfl dX0_told_70 ?_
    refine lv_iload_n hx hb dX0_told_73 rfl (lv_at hl 1 rfl) ?_
    refine zz_iald hx hb hK hP 5 4 rfl rfl (ht16) (by decide) dX0_told_74 ?_
    exact W.widen (Nat.le_of_ble_eq_true rfl) (Nat.le_of_ble_eq_true rfl) (vx_ret (zz_ri () hx hb hr hlocks hP hK hD hS (⟨t, ht16, rfl, Or.inr (Or.inr (Or.inr (Or.inl ⟨rfl, rfl⟩)))⟩) dX0_told_75))
  · have hl : lv_has ls0 3 [(0, .ref h), (1, .int (nI t)), (2, .int 4)] := hl
    refine lv_tableIn (tgt := 76) hx hb dX0_told_5 (by decide) (by decide) (off := 71) rfl (by decide) ?_
    refine lv_aload_n hx hb dX0_told_76 rfl (lv_at hl 0 rfl) ?_
    refine va_get (D := D) (ci := 0) (v := .ref (a 5)) (C := RX0) (T := TX0) (N := 13) hx hb hts hin hown hK hP 0 rfl rfl 5 (by decide) hf25 (fun _ h9 => h9) rfl dX0_told_77 ?_
    refine lv_iload_n hx hb dX0_told_80 rfl (lv_at hl 1 rfl) ?_
    refine zz_iald hx hb hK hP 6 5 rfl rfl (ht16) (by decide) dX0_told_81 ?_
    exact W.widen (Nat.le_of_ble_eq_true rfl) (Nat.le_of_ble_eq_true rfl) (vx_ret (zz_ri () hx hb hr hlocks hP hK hD hS (⟨t, ht16, rfl, Or.inr (Or.inr (Or.inr (Or.inr (Or.inl ⟨rfl, rfl⟩))))⟩) dX0_told_82))
  · have hl : lv_has ls0 3 [(0, .ref h), (1, .int (nI t)), (2, .int 5)] := hl
    refine lv_tableIn (tgt := 83) hx hb dX0_told_5 (by decide) (by decide) (off := 78) rfl (by decide) ?_
    refine lv_aload_n hx hb dX0_told_83 rfl (lv_at hl 0 rfl) ?_
    refine va_get (D := D) (ci := 0) (v := .ref (a 6)) (C := RX0) (T := TX0) (N := 13) hx hb hts hin hown hK hP 0 rfl rfl 6 (by decide) hf28 (fun _ h9 => h9) rfl dX0_told_84 ?_
    refine lv_iload_n hx hb dX0_told_87 rfl (lv_at hl 1 rfl) ?_
    refine zz_iald hx hb hK hP 7 6 rfl rfl (ht16) (by decide) dX0_told_88 ?_
    exact W.widen (Nat.le_of_ble_eq_true rfl) (Nat.le_of_ble_eq_true rfl) (vx_ret (zz_ri () hx hb hr hlocks hP hK hD hS (⟨t, ht16, rfl, Or.inr (Or.inr (Or.inr (Or.inr (Or.inr (Or.inl ⟨rfl, rfl⟩)))))⟩) dX0_told_89))
  · have hl : lv_has ls0 3 [(0, .ref h), (1, .int (nI t)), (2, .int 6)] := hl
    refine lv_tableIn (tgt := 90) hx hb dX0_told_5 (by decide) (by decide) (off := 85) rfl (by decide) ?_
    refine lv_aload_n hx hb dX0_told_90 rfl (lv_at hl 0 rfl) ?_
    refine lv_iload_n hx hb dX0_told_91 rfl (lv_at hl 1 rfl) ?_
    refine zz_ci (va_runV (As := [.int (nI t)]) (rest := []) ⟨hx, hb, hml, hown, hts⟩ (cX_locksOwnedBy l D h a cA nL nC nB H.size hn F ls (nI t)) (cwV 1 hts gX0_told_X0_locksOwnedBy rfl rfl rfl (by decide +kernel) ⟨(Nat.le_of_ble_eq_true rfl), (Nat.le_of_ble_eq_true rfl)⟩) (zz_pV hP hK hD (va_recv hK hP (ci := 0) (q0 := 0) rfl rfl)) rfl rfl hl.1 rfl (lv_room (Nat.le_of_ble_eq_true rfl)) dX0_told_92 ⟨(Nat.le_of_ble_eq_true rfl), (Nat.le_of_ble_eq_true rfl)⟩) hD hS hA (fun r u H locs hw hP hD hS => ?_)
    subst hw
    have hP : va_P D vwCl (xW h a cA nL nC nB F ls) H := hP
    have hD : va_D A (xW h a cA nL nC nB F ls) := hD
    exact W.widen (Nat.le_of_ble_eq_true rfl) (Nat.le_of_ble_eq_true rfl) (vx_ret (zz_ri () hx hb hr hlocks hP hK hD hS (⟨t, ht16, rfl, Or.inr (Or.inr (Or.inr (Or.inr (Or.inr (Or.inr (⟨rfl, rfl⟩))))))⟩) dX0_told_95))
  · refine lv_tableOut (tgt := 96) hx hb dX0_told_5 e (by decide) ?_
    exact zx_throw (E := xE_A) hx hb hlT hown (by decide +kernel) (hts (.classLink RX0 89 xE_A) (by decide +kernel)) (hts (.initialized xE_A) (by decide +kernel)) (zx_hat hT.2.2.2.2.1 hT.2.2.2 (fun w hw => hts w ((by decide +kernel : ∀ w ∈ (vx_atS RX0 93 xE_A ["java/lang/RuntimeException", "java/lang/Exception"]).filter goodWord, w ∈ wsX0_told) w hw)) zx_h2A) zx_gA hT (List.mem_of_getElem? (i := 8) rfl) ht hlocks hP hK hD hS (hml.trans hl.1.symm) dX0_told_96 dX0_told_99 dX0_told_100 dX0_told_102 dX0_told_105 (Nat.le_of_ble_eq_true rfl) (Nat.le_of_ble_eq_true rfl) (Nat.le_of_ble_eq_true rfl) (Nat.le_of_ble_eq_true rfl) (Nat.le_of_ble_eq_true rfl) (Nat.le_of_ble_eq_true rfl) (Or.inr ⟨rfl, ⟨t, ht16, rfl⟩, e⟩)
set_option maxHeartbeats 1000000 in
set_option maxRecDepth 100000 in
/-- owner -/
theorem cX_owner (l : Launch) (hlT : l.stackTraces = false) (D : va_G) (h : Nat) (a : Nat → Nat) (cA : Nat → ClassId) (nL nC nB sz : Nat) (hn : nL ≤ 8 ∧ nC ≤ 8 ∧ nB ≤ 8) (F : Nat → Nat → Int32) (ls : Int32) (x : Int32)  : vx_Met l yX0_owner wsX0_owner ({ frames := 7, cells := 1, slots := 6, locals := 103 }) (va_Pc [.ref h, .int x] (zx_Pre D vwCl (xT cA) (xW h a cA nL nC nB F ls) sz)) (va_Qi (fun (r : Int32) (u : Unit) => ∃ k, k < nL ∧ x = nI k ∧ r = F 8 k) (zz_At D vwCl (xT cA) (fun _ : Unit => xW h a cA nL nC nB F ls) (va_A (xW h a cA nL nC nB F ls) sz)) (va_A (xW h a cA nL nC nB F ls) sz)) (zx_X D vwCl (xT cA) (xW h a cA nL nC nB F ls) (fun E => E = xE_I ∧ ¬ sp_in nL x) (va_A (xW h a cA nL nC nB F ls) sz)) 1 6 (va_A (xW h a cA nL nC nB F ls) sz) := by
  obtain ⟨hnL, hnC, hnB⟩ := hn
  have hn : nL ≤ 8 ∧ nC ≤ 8 ∧ nB ≤ 8 := ⟨hnL, hnC, hnB⟩
  refine zx_of (Qc := fun A => va_Qi (fun (r : Int32) (u : Unit) => ∃ k, k < nL ∧ x = nI k ∧ r = F 8 k) (zz_At D vwCl (xT cA) (fun _ : Unit => xW h a cA nL nC nB F ls) A) A) (XC := fun A => zx_X D vwCl (xT cA) (xW h a cA nL nC nB F ls) (fun E => E = xE_I ∧ ¬ sp_in nL x) A) (by decide) rfl (Nat.le_of_ble_eq_true rfl) ?_
  intro p e s m args below meth c A H locs ls0 hx hb hr hml hown hts hlocks ht hT hA hP hK hD hS hl
  have hown : s.vm.findClass RX0 = some m.cls := hown
  have hl : lv_has ls0 2 [(0, .ref h), (1, .int x)] := hl
  have hin : ∀ w ∈ u_ws RX0 TX0 13, w ∈ wsX0_owner := by decide +kernel
  have hf38 := hts (.fieldLink RX0 38 "PriorityCore" "owners" "[I") (by decide +kernel)
  refine lv_aload_n hx hb dX0_owner_0 rfl (lv_at hl 0 rfl) ?_
  refine lv_iload_n hx hb dX0_owner_1 rfl (lv_at hl 1 rfl) ?_
  refine zx_cv ht hlocks hK (fun E hE => hE) (Nat.le_of_ble_eq_true rfl) (Nat.le_of_ble_eq_true rfl) (vx_runV (As := [.int x]) (rest := []) ⟨hx, hb, hml, hown, hts⟩ (cX_requireLock l hlT D h a cA nL nC nB H.size hn F ls x) (cwV 1 hts gX0_owner_X0_requireLock rfl rfl rfl (by decide +kernel) ⟨(Nat.le_of_ble_eq_true rfl), (Nat.le_of_ble_eq_true rfl)⟩) (zx_pV hP hK hD hA hS hT (va_recv hK hP (ci := 0) (q0 := 0) rfl rfl)) rfl rfl hl.1 rfl (lv_room (Nat.le_of_ble_eq_true rfl)) dX0_owner_2 ⟨(Nat.le_of_ble_eq_true rfl), (Nat.le_of_ble_eq_true rfl)⟩) rfl hD hS hA (fun u H locs hw hP hD hS => ?_)
  have hxi : sp_in nL x := hw
  have hP : va_P D vwCl (xW h a cA nL nC nB F ls) H := hP
  have hD : va_D A (xW h a cA nL nC nB F ls) := hD
  obtain ⟨k, hk, hxe⟩ := hxi
  subst hxe
  have hl : lv_has ls0 2 [(0, .ref h), (1, .int (nI k))] := hl
  refine lv_aload_n hx hb dX0_owner_5 rfl (lv_at hl 0 rfl) ?_
  refine va_get (D := D) (ci := 0) (v := .ref (a 8)) (C := RX0) (T := TX0) (N := 13) hx hb hts hin hown hK hP 0 rfl rfl 8 (by decide) hf38 (fun _ h9 => h9) rfl dX0_owner_6 ?_
  refine lv_iload_n hx hb dX0_owner_9 rfl (lv_at hl 1 rfl) ?_
  refine zz_iald hx hb hK hP 9 8 rfl rfl (hk) (by omega) dX0_owner_10 ?_
  exact W.widen (Nat.le_of_ble_eq_true rfl) (Nat.le_of_ble_eq_true rfl) (vx_ret (zz_ri () hx hb hr hlocks hP hK hD hS (⟨k, hk, rfl, rfl⟩) dX0_owner_11))
set_option maxHeartbeats 1000000 in
set_option maxRecDepth 100000 in
/-- count -/
theorem cX_count (l : Launch) (hlT : l.stackTraces = false) (D : va_G) (h : Nat) (a : Nat → Nat) (cA : Nat → ClassId) (nL nC nB sz : Nat) (hn : nL ≤ 8 ∧ nC ≤ 8 ∧ nB ≤ 8) (F : Nat → Nat → Int32) (ls : Int32) (x : Int32)  : vx_Met l yX0_count wsX0_count ({ frames := 7, cells := 1, slots := 6, locals := 103 }) (va_Pc [.ref h, .int x] (zx_Pre D vwCl (xT cA) (xW h a cA nL nC nB F ls) sz)) (va_Qi (fun (r : Int32) (u : Unit) => ∃ k, k < nC ∧ x = nI k ∧ r = F 9 k) (zz_At D vwCl (xT cA) (fun _ : Unit => xW h a cA nL nC nB F ls) (va_A (xW h a cA nL nC nB F ls) sz)) (va_A (xW h a cA nL nC nB F ls) sz)) (zx_X D vwCl (xT cA) (xW h a cA nL nC nB F ls) (fun E => E = xE_I ∧ ¬ sp_in nC x) (va_A (xW h a cA nL nC nB F ls) sz)) 1 6 (va_A (xW h a cA nL nC nB F ls) sz) := by
  obtain ⟨hnL, hnC, hnB⟩ := hn
  have hn : nL ≤ 8 ∧ nC ≤ 8 ∧ nB ≤ 8 := ⟨hnL, hnC, hnB⟩
  refine zx_of (Qc := fun A => va_Qi (fun (r : Int32) (u : Unit) => ∃ k, k < nC ∧ x = nI k ∧ r = F 9 k) (zz_At D vwCl (xT cA) (fun _ : Unit => xW h a cA nL nC nB F ls) A) A) (XC := fun A => zx_X D vwCl (xT cA) (xW h a cA nL nC nB F ls) (fun E => E = xE_I ∧ ¬ sp_in nC x) A) (by decide) rfl (Nat.le_of_ble_eq_true rfl) ?_
  intro p e s m args below meth c A H locs ls0 hx hb hr hml hown hts hlocks ht hT hA hP hK hD hS hl
  have hown : s.vm.findClass RX0 = some m.cls := hown
  have hl : lv_has ls0 2 [(0, .ref h), (1, .int x)] := hl
  have hin : ∀ w ∈ u_ws RX0 TX0 13, w ∈ wsX0_count := by decide +kernel
  have hf41 := hts (.fieldLink RX0 41 "PriorityCore" "numbers" "[I") (by decide +kernel)
  refine lv_aload_n hx hb dX0_count_0 rfl (lv_at hl 0 rfl) ?_
  refine lv_iload_n hx hb dX0_count_1 rfl (lv_at hl 1 rfl) ?_
  refine zx_cv ht hlocks hK (fun E hE => hE) (Nat.le_of_ble_eq_true rfl) (Nat.le_of_ble_eq_true rfl) (vx_runV (As := [.int x]) (rest := []) ⟨hx, hb, hml, hown, hts⟩ (cX_requireCounter l hlT D h a cA nL nC nB H.size hn F ls x) (cwV 1 hts gX0_count_X0_requireCounter rfl rfl rfl (by decide +kernel) ⟨(Nat.le_of_ble_eq_true rfl), (Nat.le_of_ble_eq_true rfl)⟩) (zx_pV hP hK hD hA hS hT (va_recv hK hP (ci := 0) (q0 := 0) rfl rfl)) rfl rfl hl.1 rfl (lv_room (Nat.le_of_ble_eq_true rfl)) dX0_count_2 ⟨(Nat.le_of_ble_eq_true rfl), (Nat.le_of_ble_eq_true rfl)⟩) rfl hD hS hA (fun u H locs hw hP hD hS => ?_)
  have hxi : sp_in nC x := hw
  have hP : va_P D vwCl (xW h a cA nL nC nB F ls) H := hP
  have hD : va_D A (xW h a cA nL nC nB F ls) := hD
  obtain ⟨k, hk, hxe⟩ := hxi
  subst hxe
  have hl : lv_has ls0 2 [(0, .ref h), (1, .int (nI k))] := hl
  refine lv_aload_n hx hb dX0_count_5 rfl (lv_at hl 0 rfl) ?_
  refine va_get (D := D) (ci := 0) (v := .ref (a 9)) (C := RX0) (T := TX0) (N := 13) hx hb hts hin hown hK hP 0 rfl rfl 9 (by decide) hf41 (fun _ h9 => h9) rfl dX0_count_6 ?_
  refine lv_iload_n hx hb dX0_count_9 rfl (lv_at hl 1 rfl) ?_
  refine zz_iald hx hb hK hP 10 9 rfl rfl (hk) (by omega) dX0_count_10 ?_
  exact W.widen (Nat.le_of_ble_eq_true rfl) (Nat.le_of_ble_eq_true rfl) (vx_ret (zz_ri () hx hb hr hlocks hP hK hD hS (⟨k, hk, rfl, rfl⟩) dX0_count_11))
set_option maxHeartbeats 1000000 in
set_option maxRecDepth 100000 in
/-- words -/
theorem cX_words (l : Launch) (hlT : l.stackTraces = false) (D : va_G) (h : Nat) (a : Nat → Nat) (cA : Nat → ClassId) (nL nC nB sz : Nat) (hn : nL ≤ 8 ∧ nC ≤ 8 ∧ nB ≤ 8) (F : Nat → Nat → Int32) (ls : Int32) (x : Int32)  : vx_Met l yX0_words wsX0_words ({ frames := 7, cells := 1, slots := 6, locals := 103 }) (va_Pc [.ref h, .int x] (zx_Pre D vwCl (xT cA) (xW h a cA nL nC nB F ls) sz)) (va_Qi (fun (r : Int32) (u : Unit) => ∃ k, k < nB ∧ x = nI k ∧ r = F 10 k) (zz_At D vwCl (xT cA) (fun _ : Unit => xW h a cA nL nC nB F ls) (va_A (xW h a cA nL nC nB F ls) sz)) (va_A (xW h a cA nL nC nB F ls) sz)) (zx_X D vwCl (xT cA) (xW h a cA nL nC nB F ls) (fun E => E = xE_I ∧ ¬ sp_in nB x) (va_A (xW h a cA nL nC nB F ls) sz)) 1 6 (va_A (xW h a cA nL nC nB F ls) sz) := by
  obtain ⟨hnL, hnC, hnB⟩ := hn
  have hn : nL ≤ 8 ∧ nC ≤ 8 ∧ nB ≤ 8 := ⟨hnL, hnC, hnB⟩
  refine zx_of (Qc := fun A => va_Qi (fun (r : Int32) (u : Unit) => ∃ k, k < nB ∧ x = nI k ∧ r = F 10 k) (zz_At D vwCl (xT cA) (fun _ : Unit => xW h a cA nL nC nB F ls) A) A) (XC := fun A => zx_X D vwCl (xT cA) (xW h a cA nL nC nB F ls) (fun E => E = xE_I ∧ ¬ sp_in nB x) A) (by decide) rfl (Nat.le_of_ble_eq_true rfl) ?_
  intro p e s m args below meth c A H locs ls0 hx hb hr hml hown hts hlocks ht hT hA hP hK hD hS hl
  have hown : s.vm.findClass RX0 = some m.cls := hown
  have hl : lv_has ls0 2 [(0, .ref h), (1, .int x)] := hl
  have hin : ∀ w ∈ u_ws RX0 TX0 13, w ∈ wsX0_words := by decide +kernel
  have hf44 := hts (.fieldLink RX0 44 "PriorityCore" "fills" "[I") (by decide +kernel)
  refine lv_aload_n hx hb dX0_words_0 rfl (lv_at hl 0 rfl) ?_
  refine lv_iload_n hx hb dX0_words_1 rfl (lv_at hl 1 rfl) ?_
  refine zx_cv ht hlocks hK (fun E hE => hE) (Nat.le_of_ble_eq_true rfl) (Nat.le_of_ble_eq_true rfl) (vx_runV (As := [.int x]) (rest := []) ⟨hx, hb, hml, hown, hts⟩ (cX_requireBox l hlT D h a cA nL nC nB H.size hn F ls x) (cwV 1 hts gX0_words_X0_requireBox rfl rfl rfl (by decide +kernel) ⟨(Nat.le_of_ble_eq_true rfl), (Nat.le_of_ble_eq_true rfl)⟩) (zx_pV hP hK hD hA hS hT (va_recv hK hP (ci := 0) (q0 := 0) rfl rfl)) rfl rfl hl.1 rfl (lv_room (Nat.le_of_ble_eq_true rfl)) dX0_words_2 ⟨(Nat.le_of_ble_eq_true rfl), (Nat.le_of_ble_eq_true rfl)⟩) rfl hD hS hA (fun u H locs hw hP hD hS => ?_)
  have hxi : sp_in nB x := hw
  have hP : va_P D vwCl (xW h a cA nL nC nB F ls) H := hP
  have hD : va_D A (xW h a cA nL nC nB F ls) := hD
  obtain ⟨k, hk, hxe⟩ := hxi
  subst hxe
  have hl : lv_has ls0 2 [(0, .ref h), (1, .int (nI k))] := hl
  refine lv_aload_n hx hb dX0_words_5 rfl (lv_at hl 0 rfl) ?_
  refine va_get (D := D) (ci := 0) (v := .ref (a 10)) (C := RX0) (T := TX0) (N := 13) hx hb hts hin hown hK hP 0 rfl rfl 10 (by decide) hf44 (fun _ h9 => h9) rfl dX0_words_6 ?_
  refine lv_iload_n hx hb dX0_words_9 rfl (lv_at hl 1 rfl) ?_
  refine zz_iald hx hb hK hP 11 10 rfl rfl (hk) (by omega) dX0_words_10 ?_
  exact W.widen (Nat.le_of_ble_eq_true rfl) (Nat.le_of_ble_eq_true rfl) (vx_ret (zz_ri () hx hb hr hlocks hP hK hD hS (⟨k, hk, rfl, rfl⟩) dX0_words_11))
set_option maxHeartbeats 1000000 in
set_option maxRecDepth 100000 in
/-- first -/
theorem cX_first (l : Launch) (hlT : l.stackTraces = false) (D : va_G) (h : Nat) (a : Nat → Nat) (cA : Nat → ClassId) (nL nC nB sz : Nat) (hn : nL ≤ 8 ∧ nC ≤ 8 ∧ nB ≤ 8) (F : Nat → Nat → Int32) (ls : Int32) (x y : Int32)  : vx_Met l yX0_first wsX0_first ({ frames := 7, cells := 4, slots := 24, locals := 103 }) (va_Pc [.ref h, .int x, .int y] (zx_Pre D vwCl (xT cA) (xW h a cA nL nC nB F ls) sz)) (va_Qi (fun (r : Int32) (u : Unit) => sp_first nL nC nB F x y r) (zz_At D vwCl (xT cA) (fun _ : Unit => xW h a cA nL nC nB F ls) (va_A (xW h a cA nL nC nB F ls) sz)) (va_A (xW h a cA nL nC nB F ls) sz)) (zx_X D vwCl (xT cA) (xW h a cA nL nC nB F ls) (fun E => sx_first nL nC nB x y E) (va_A (xW h a cA nL nC nB F ls) sz)) 4 24 (va_A (xW h a cA nL nC nB F ls) sz) := by
  obtain ⟨hnL, hnC, hnB⟩ := hn
  have hn : nL ≤ 8 ∧ nC ≤ 8 ∧ nB ≤ 8 := ⟨hnL, hnC, hnB⟩
  refine zx_of (Qc := fun A => va_Qi (fun (r : Int32) (u : Unit) => sp_first nL nC nB F x y r) (zz_At D vwCl (xT cA) (fun _ : Unit => xW h a cA nL nC nB F ls) A) A) (XC := fun A => zx_X D vwCl (xT cA) (xW h a cA nL nC nB F ls) (fun E => sx_first nL nC nB x y E) A) (by decide) rfl (Nat.le_of_ble_eq_true rfl) ?_
  intro p e s m args below meth c A H locs ls0 hx hb hr hml hown hts hlocks ht hT hA hP hK hD hS hl
  have hown : s.vm.findClass RX0 = some m.cls := hown
  have hl : lv_has ls0 3 [(0, .ref h), (1, .int x), (2, .int y)] := hl
  refine lv_iload_n hx hb dX0_first_0 rfl (lv_at hl 1 rfl) ?_
  rcases zn_sw4 x with rfl | rfl | rfl | rfl | e
  · have hl : lv_has ls0 3 [(0, .ref h), (1, .int 2), (2, .int y)] := hl
    refine lv_tableIn (tgt := 32) hx hb dX0_first_1 (by decide) (by decide) (off := 31) rfl (by decide) ?_
    refine lv_aload_n hx hb dX0_first_32 rfl (lv_at hl 0 rfl) ?_
    refine lv_iload_n hx hb dX0_first_33 rfl (lv_at hl 2 rfl) ?_
    refine zx_cv ht hlocks hK (fun E hE => Or.inr ⟨hE.1, Or.inl ⟨rfl, hE.2⟩⟩) (Nat.le_of_ble_eq_true rfl) (Nat.le_of_ble_eq_true rfl) (vx_runV (As := [.int y]) (rest := []) ⟨hx, hb, hml, hown, hts⟩ (cX_requireLock l hlT D h a cA nL nC nB H.size hn F ls y) (cwV 1 hts gX0_first_X0_requireLock rfl rfl rfl (by decide +kernel) ⟨(Nat.le_of_ble_eq_true rfl), (Nat.le_of_ble_eq_true rfl)⟩) (zx_pV hP hK hD hA hS hT (va_recv hK hP (ci := 0) (q0 := 0) rfl rfl)) rfl rfl hl.1 rfl (lv_room (Nat.le_of_ble_eq_true rfl)) dX0_first_34 ⟨(Nat.le_of_ble_eq_true rfl), (Nat.le_of_ble_eq_true rfl)⟩) rfl hD hS hA (fun u H locs hw hP hD hS => ?_)
    have hyi : sp_in nL y := hw
    have hP : va_P D vwCl (xW h a cA nL nC nB F ls) H := hP
    have hD : va_D A (xW h a cA nL nC nB F ls) := hD
    refine lv_goto (tgt := 66) hx hb dX0_first_37 (by decide) ?_
    refine lv_aload_n hx hb dX0_first_66 rfl (lv_at hl 0 rfl) ?_
    refine lv_iload_n hx hb dX0_first_67 rfl (lv_at hl 1 rfl) ?_
    refine lv_iload_n hx hb dX0_first_68 rfl (lv_at hl 2 rfl) ?_
    refine zz_ci (va_runV (As := [.int 2, .int y]) (rest := []) ⟨hx, hb, hml, hown, hts⟩ (cX_foremost l D h a cA nL nC nB H.size hn F ls 2 y) (cwV 2 hts gX0_first_X0_foremost rfl rfl rfl (by decide +kernel) ⟨(Nat.le_of_ble_eq_true rfl), (Nat.le_of_ble_eq_true rfl)⟩) (zz_pV hP hK hD (va_recv hK hP (ci := 0) (q0 := 0) rfl rfl)) rfl rfl hl.1 rfl (lv_room (Nat.le_of_ble_eq_true rfl)) dX0_first_69 ⟨(Nat.le_of_ble_eq_true rfl), (Nat.le_of_ble_eq_true rfl)⟩) hD hS hA (fun r u H locs hw hP hD hS => ?_)
    subst hw
    have hP : va_P D vwCl (xW h a cA nL nC nB F ls) H := hP
    have hD : va_D A (xW h a cA nL nC nB F ls) := hD
    exact W.widen (Nat.le_of_ble_eq_true rfl) (Nat.le_of_ble_eq_true rfl) (vx_ret (zz_ri () hx hb hr hlocks hP hK hD hS (⟨Or.inl ⟨rfl, hyi⟩, rfl⟩) dX0_first_72))
  · have hl : lv_has ls0 3 [(0, .ref h), (1, .int 3), (2, .int y)] := hl
    refine lv_tableIn (tgt := 40) hx hb dX0_first_1 (by decide) (by decide) (off := 39) rfl (by decide) ?_
    refine lv_aload_n hx hb dX0_first_40 rfl (lv_at hl 0 rfl) ?_
    refine lv_iload_n hx hb dX0_first_41 rfl (lv_at hl 2 rfl) ?_
    refine zx_cv ht hlocks hK (fun E hE => Or.inr ⟨hE.1, Or.inr (Or.inl ⟨rfl, hE.2⟩)⟩) (Nat.le_of_ble_eq_true rfl) (Nat.le_of_ble_eq_true rfl) (vx_runV (As := [.int y]) (rest := []) ⟨hx, hb, hml, hown, hts⟩ (cX_requireCounter l hlT D h a cA nL nC nB H.size hn F ls y) (cwV 1 hts gX0_first_X0_requireCounter rfl rfl rfl (by decide +kernel) ⟨(Nat.le_of_ble_eq_true rfl), (Nat.le_of_ble_eq_true rfl)⟩) (zx_pV hP hK hD hA hS hT (va_recv hK hP (ci := 0) (q0 := 0) rfl rfl)) rfl rfl hl.1 rfl (lv_room (Nat.le_of_ble_eq_true rfl)) dX0_first_42 ⟨(Nat.le_of_ble_eq_true rfl), (Nat.le_of_ble_eq_true rfl)⟩) rfl hD hS hA (fun u H locs hw hP hD hS => ?_)
    have hyi : sp_in nC y := hw
    have hP : va_P D vwCl (xW h a cA nL nC nB F ls) H := hP
    have hD : va_D A (xW h a cA nL nC nB F ls) := hD
    refine lv_goto (tgt := 66) hx hb dX0_first_45 (by decide) ?_
    refine lv_aload_n hx hb dX0_first_66 rfl (lv_at hl 0 rfl) ?_
    refine lv_iload_n hx hb dX0_first_67 rfl (lv_at hl 1 rfl) ?_
    refine lv_iload_n hx hb dX0_first_68 rfl (lv_at hl 2 rfl) ?_
    refine zz_ci (va_runV (As := [.int 3, .int y]) (rest := []) ⟨hx, hb, hml, hown, hts⟩ (cX_foremost l D h a cA nL nC nB H.size hn F ls 3 y) (cwV 2 hts gX0_first_X0_foremost rfl rfl rfl (by decide +kernel) ⟨(Nat.le_of_ble_eq_true rfl), (Nat.le_of_ble_eq_true rfl)⟩) (zz_pV hP hK hD (va_recv hK hP (ci := 0) (q0 := 0) rfl rfl)) rfl rfl hl.1 rfl (lv_room (Nat.le_of_ble_eq_true rfl)) dX0_first_69 ⟨(Nat.le_of_ble_eq_true rfl), (Nat.le_of_ble_eq_true rfl)⟩) hD hS hA (fun r u H locs hw hP hD hS => ?_)
    subst hw
    have hP : va_P D vwCl (xW h a cA nL nC nB F ls) H := hP
    have hD : va_D A (xW h a cA nL nC nB F ls) := hD
    exact W.widen (Nat.le_of_ble_eq_true rfl) (Nat.le_of_ble_eq_true rfl) (vx_ret (zz_ri () hx hb hr hlocks hP hK hD hS (⟨Or.inr (Or.inl ⟨rfl, hyi⟩), rfl⟩) dX0_first_72))
  · have hl : lv_has ls0 3 [(0, .ref h), (1, .int 4), (2, .int y)] := hl
    refine lv_tableIn (tgt := 48) hx hb dX0_first_1 (by decide) (by decide) (off := 47) rfl (by decide) ?_
    refine lv_aload_n hx hb dX0_first_48 rfl (lv_at hl 0 rfl) ?_
    refine lv_iload_n hx hb dX0_first_49 rfl (lv_at hl 2 rfl) ?_
    refine zx_cv ht hlocks hK (fun E hE => Or.inr ⟨hE.1, Or.inr (Or.inr ⟨Or.inl rfl, hE.2⟩)⟩) (Nat.le_of_ble_eq_true rfl) (Nat.le_of_ble_eq_true rfl) (vx_runV (As := [.int y]) (rest := []) ⟨hx, hb, hml, hown, hts⟩ (cX_requireBox l hlT D h a cA nL nC nB H.size hn F ls y) (cwV 1 hts gX0_first_X0_requireBox rfl rfl rfl (by decide +kernel) ⟨(Nat.le_of_ble_eq_true rfl), (Nat.le_of_ble_eq_true rfl)⟩) (zx_pV hP hK hD hA hS hT (va_recv hK hP (ci := 0) (q0 := 0) rfl rfl)) rfl rfl hl.1 rfl (lv_room (Nat.le_of_ble_eq_true rfl)) dX0_first_50 ⟨(Nat.le_of_ble_eq_true rfl), (Nat.le_of_ble_eq_true rfl)⟩) rfl hD hS hA (fun u H locs hw hP hD hS => ?_)
    have hyi : sp_in nB y := hw
    have hP : va_P D vwCl (xW h a cA nL nC nB F ls) H := hP
    have hD : va_D A (xW h a cA nL nC nB F ls) := hD
    refine lv_goto (tgt := 66) hx hb dX0_first_53 (by decide) ?_
    refine lv_aload_n hx hb dX0_first_66 rfl (lv_at hl 0 rfl) ?_
    refine lv_iload_n hx hb dX0_first_67 rfl (lv_at hl 1 rfl) ?_
    refine lv_iload_n hx hb dX0_first_68 rfl (lv_at hl 2 rfl) ?_
    refine zz_ci (va_runV (As := [.int 4, .int y]) (rest := []) ⟨hx, hb, hml, hown, hts⟩ (cX_foremost l D h a cA nL nC nB H.size hn F ls 4 y) (cwV 2 hts gX0_first_X0_foremost rfl rfl rfl (by decide +kernel) ⟨(Nat.le_of_ble_eq_true rfl), (Nat.le_of_ble_eq_true rfl)⟩) (zz_pV hP hK hD (va_recv hK hP (ci := 0) (q0 := 0) rfl rfl)) rfl rfl hl.1 rfl (lv_room (Nat.le_of_ble_eq_true rfl)) dX0_first_69 ⟨(Nat.le_of_ble_eq_true rfl), (Nat.le_of_ble_eq_true rfl)⟩) hD hS hA (fun r u H locs hw hP hD hS => ?_)
    subst hw
    have hP : va_P D vwCl (xW h a cA nL nC nB F ls) H := hP
    have hD : va_D A (xW h a cA nL nC nB F ls) := hD
    exact W.widen (Nat.le_of_ble_eq_true rfl) (Nat.le_of_ble_eq_true rfl) (vx_ret (zz_ri () hx hb hr hlocks hP hK hD hS (⟨Or.inr (Or.inr ⟨Or.inl rfl, hyi⟩), rfl⟩) dX0_first_72))
  · have hl : lv_has ls0 3 [(0, .ref h), (1, .int 5), (2, .int y)] := hl
    refine lv_tableIn (tgt := 48) hx hb dX0_first_1 (by decide) (by decide) (off := 47) rfl (by decide) ?_
    refine lv_aload_n hx hb dX0_first_48 rfl (lv_at hl 0 rfl) ?_
    refine lv_iload_n hx hb dX0_first_49 rfl (lv_at hl 2 rfl) ?_
    refine zx_cv ht hlocks hK (fun E hE => Or.inr ⟨hE.1, Or.inr (Or.inr ⟨Or.inr rfl, hE.2⟩)⟩) (Nat.le_of_ble_eq_true rfl) (Nat.le_of_ble_eq_true rfl) (vx_runV (As := [.int y]) (rest := []) ⟨hx, hb, hml, hown, hts⟩ (cX_requireBox l hlT D h a cA nL nC nB H.size hn F ls y) (cwV 1 hts gX0_first_X0_requireBox rfl rfl rfl (by decide +kernel) ⟨(Nat.le_of_ble_eq_true rfl), (Nat.le_of_ble_eq_true rfl)⟩) (zx_pV hP hK hD hA hS hT (va_recv hK hP (ci := 0) (q0 := 0) rfl rfl)) rfl rfl hl.1 rfl (lv_room (Nat.le_of_ble_eq_true rfl)) dX0_first_50 ⟨(Nat.le_of_ble_eq_true rfl), (Nat.le_of_ble_eq_true rfl)⟩) rfl hD hS hA (fun u H locs hw hP hD hS => ?_)
    have hyi : sp_in nB y := hw
    have hP : va_P D vwCl (xW h a cA nL nC nB F ls) H := hP
    have hD : va_D A (xW h a cA nL nC nB F ls) := hD
    refine lv_goto (tgt := 66) hx hb dX0_first_53 (by decide) ?_
    refine lv_aload_n hx hb dX0_first_66 rfl (lv_at hl 0 rfl) ?_
    refine lv_iload_n hx hb dX0_first_67 rfl (lv_at hl 1 rfl) ?_
    refine lv_iload_n hx hb dX0_first_68 rfl (lv_at hl 2 rfl) ?_
    refine zz_ci (va_runV (As := [.int 5, .int y]) (rest := []) ⟨hx, hb, hml, hown, hts⟩ (cX_foremost l D h a cA nL nC nB H.size hn F ls 5 y) (cwV 2 hts gX0_first_X0_foremost rfl rfl rfl (by decide +kernel) ⟨(Nat.le_of_ble_eq_true rfl), (Nat.le_of_ble_eq_true rfl)⟩) (zz_pV hP hK hD (va_recv hK hP (ci := 0) (q0 := 0) rfl rfl)) rfl rfl hl.1 rfl (lv_room (Nat.le_of_ble_eq_true rfl)) dX0_first_69 ⟨(Nat.le_of_ble_eq_true rfl), (Nat.le_of_ble_eq_true rfl)⟩) hD hS hA (fun r u H locs hw hP hD hS => ?_)
    subst hw
    have hP : va_P D vwCl (xW h a cA nL nC nB F ls) H := hP
    have hD : va_D A (xW h a cA nL nC nB F ls) := hD
    exact W.widen (Nat.le_of_ble_eq_true rfl) (Nat.le_of_ble_eq_true rfl) (vx_ret (zz_ri () hx hb hr hlocks hP hK hD hS (⟨Or.inr (Or.inr ⟨Or.inr rfl, hyi⟩), rfl⟩) dX0_first_72))
  · refine lv_tableOut (tgt := 56) hx hb dX0_first_1 e (by decide) ?_
    exact zx_throw (E := xE_A) hx hb hlT hown (by decide +kernel) (hts (.classLink RX0 89 xE_A) (by decide +kernel)) (hts (.initialized xE_A) (by decide +kernel)) (zx_hat hT.2.2.2.2.1 hT.2.2.2 (fun w hw => hts w ((by decide +kernel : ∀ w ∈ (vx_atS RX0 93 xE_A ["java/lang/RuntimeException", "java/lang/Exception"]).filter goodWord, w ∈ wsX0_first) w hw)) zx_h2A) zx_gA hT (List.mem_of_getElem? (i := 9) rfl) ht hlocks hP hK hD hS (hml.trans hl.1.symm) dX0_first_56 dX0_first_59 dX0_first_60 dX0_first_62 dX0_first_65 (Nat.le_of_ble_eq_true rfl) (Nat.le_of_ble_eq_true rfl) (Nat.le_of_ble_eq_true rfl) (Nat.le_of_ble_eq_true rfl) (Nat.le_of_ble_eq_true rfl) (Nat.le_of_ble_eq_true rfl) (Or.inl ⟨rfl, e⟩)
