theorem zn_ix {x : Int32} {n : Nat} (hn : n < 2 ^ 31) (h1 : ¬ x < 0) (h2 : x < nI n) : ∃ j, j < n ∧ x = nI j := by
  rcases pk_ix x hn with c | c | c
  · exact absurd c h1
  · exact absurd c (Int32.not_le.mpr h2)
  · exact c
theorem zn_no1 {x : Int32} {n : Nat} (hn : n < 2 ^ 31) (h : x < 0) : ¬ ∃ j, j < n ∧ x = nI j := fun ⟨j, hj, e⟩ => by rw [e] at h; exact nI_pos (by omega) h
theorem zn_no2 {x : Int32} {n : Nat} (hn : n < 2 ^ 31) (h : ¬ x < nI n) : ¬ ∃ j, j < n ∧ x = nI j := fun ⟨j, hj, e⟩ => by rw [e] at h; exact h (nI_lt hj hn)
set_option maxHeartbeats 1000000 in
set_option maxRecDepth 100000 in
/-- requireTask -/
theorem cX_requireTask (l : Launch) (hlT : l.stackTraces = false) (D : va_G) (sz : Nat) (x : Int32)  : vx_Met l yX0_requireTask wsX0_requireTask ({ frames := 6, cells := 1, slots := 6, locals := 82 }) (va_Pc [.int x] (zx_Pre D vwCl ([]) ([]) sz)) (va_Qv (fun (u : Unit) => (∃ j, j < 16 ∧ x = nI j)) (zz_At D vwCl ([]) (fun _ : Unit => []) (va_A ([]) sz)) (va_A ([]) sz)) (zx_X D vwCl ([]) ([]) (fun E => E = xE_I ∧ ¬ (∃ j, j < 16 ∧ x = nI j)) (va_A ([]) sz)) 1 6 (va_A ([]) sz) := by
  refine zx_of (Qc := fun A => va_Qv (fun (u : Unit) => (∃ j, j < 16 ∧ x = nI j)) (zz_At D vwCl ([]) (fun _ : Unit => []) A) A) (XC := fun A => zx_X D vwCl ([]) ([]) (fun E => E = xE_I ∧ ¬ (∃ j, j < 16 ∧ x = nI j)) A) (by decide) rfl (Nat.le_of_ble_eq_true rfl) ?_
  intro p e s m args below meth c A H locs ls0 hx hb hr hml hown hts hlocks ht hT hA hP hK hD hS hl
  have hown : s.vm.findClass RX0 = some m.cls := hown
  have hl : lv_has ls0 1 [(0, .int x)] := hl
  refine lv_iload_n hx hb dX0_requireTask_0 rfl (lv_at hl 0 rfl) ?_
  refine lv_if_lt (tgt := 10) hx hb dX0_requireTask_1 (by decide) (fun c1 => ?_) (fun c1 => ?_)
  · exact zx_throw (E := xE_I) hx hb hlT hown (by decide +kernel) (hts (.classLink RX0 155 xE_I) (by decide +kernel)) (hts (.initialized xE_I) (by decide +kernel)) (zx_hat hT.2.2.2.1 hT.2.2.2 (fun w hw => hts w ((by decide +kernel : ∀ w ∈ (vx_atS RX0 159 xE_I ["java/lang/RuntimeException", "java/lang/Exception"]).filter goodWord, w ∈ wsX0_requireTask) w hw)) zx_h2I) zx_gI hT (List.mem_of_getElem? (i := 10) rfl) ht hlocks hP hK hD hS (hml.trans hl.1.symm) dX0_requireTask_10 dX0_requireTask_13 dX0_requireTask_14 dX0_requireTask_16 dX0_requireTask_19 (Nat.le_of_ble_eq_true rfl) (Nat.le_of_ble_eq_true rfl) (Nat.le_of_ble_eq_true rfl) (Nat.le_of_ble_eq_true rfl) (Nat.le_of_ble_eq_true rfl) (Nat.le_of_ble_eq_true rfl) (⟨rfl, zn_no1 (by decide) c1⟩)
  · refine lv_iload_n hx hb dX0_requireTask_4 rfl (lv_at hl 0 rfl) ?_
    refine lv_bipush (v := 16) hx hb dX0_requireTask_5 (by decide) ?_
    refine lv_icmp_lt (tgt := 20) hx hb dX0_requireTask_7 (by decide) (fun c7 => ?_) (fun c7 => ?_)
    · exact W.widen (Nat.le_of_ble_eq_true rfl) (Nat.le_of_ble_eq_true rfl) (vx_ret (zz_rv () hx hb hr hlocks hP hK hD hS (zn_ix (n := 16) (by decide) c1 c7) dX0_requireTask_20))
    · exact zx_throw (E := xE_I) hx hb hlT hown (by decide +kernel) (hts (.classLink RX0 155 xE_I) (by decide +kernel)) (hts (.initialized xE_I) (by decide +kernel)) (zx_hat hT.2.2.2.1 hT.2.2.2 (fun w hw => hts w ((by decide +kernel : ∀ w ∈ (vx_atS RX0 159 xE_I ["java/lang/RuntimeException", "java/lang/Exception"]).filter goodWord, w ∈ wsX0_requireTask) w hw)) zx_h2I) zx_gI hT (List.mem_of_getElem? (i := 10) rfl) ht hlocks hP hK hD hS (hml.trans hl.1.symm) dX0_requireTask_10 dX0_requireTask_13 dX0_requireTask_14 dX0_requireTask_16 dX0_requireTask_19 (Nat.le_of_ble_eq_true rfl) (Nat.le_of_ble_eq_true rfl) (Nat.le_of_ble_eq_true rfl) (Nat.le_of_ble_eq_true rfl) (Nat.le_of_ble_eq_true rfl) (Nat.le_of_ble_eq_true rfl) (⟨rfl, zn_no2 (n := 16) (by decide) c7⟩)
set_option maxHeartbeats 1000000 in
set_option maxRecDepth 100000 in
/-- requirePriority -/
theorem cX_requirePriority (l : Launch) (hlT : l.stackTraces = false) (D : va_G) (sz : Nat) (x : Int32)  : vx_Met l yX0_requirePriority wsX0_requirePriority ({ frames := 6, cells := 1, slots := 6, locals := 82 }) (va_Pc [.int x] (zx_Pre D vwCl ([]) ([]) sz)) (va_Qv (fun (u : Unit) => 1 ≤ x ∧ x ≤ 255) (zz_At D vwCl ([]) (fun _ : Unit => []) (va_A ([]) sz)) (va_A ([]) sz)) (zx_X D vwCl ([]) ([]) (fun E => E = xE_A ∧ ¬ (1 ≤ x ∧ x ≤ 255)) (va_A ([]) sz)) 1 6 (va_A ([]) sz) := by
  refine zx_of (Qc := fun A => va_Qv (fun (u : Unit) => 1 ≤ x ∧ x ≤ 255) (zz_At D vwCl ([]) (fun _ : Unit => []) A) A) (XC := fun A => zx_X D vwCl ([]) ([]) (fun E => E = xE_A ∧ ¬ (1 ≤ x ∧ x ≤ 255)) A) (by decide) rfl (Nat.le_of_ble_eq_true rfl) ?_
  intro p e s m args below meth c A H locs ls0 hx hb hr hml hown hts hlocks ht hT hA hP hK hD hS hl
  have hown : s.vm.findClass RX0 = some m.cls := hown
  have hl : lv_has ls0 1 [(0, .int x)] := hl
  refine lv_iload_n hx hb dX0_requirePriority_0 rfl (lv_at hl 0 rfl) ?_
  refine lv_iconst (v := 1) hx hb dX0_requirePriority_1 (by decide) ?_
  refine lv_icmp_lt (tgt := 12) hx hb dX0_requirePriority_2 (by decide) (fun c2 => ?_) (fun c2 => ?_)
  · exact zx_throw (E := xE_A) hx hb hlT hown (by decide +kernel) (hts (.classLink RX0 89 xE_A) (by decide +kernel)) (hts (.initialized xE_A) (by decide +kernel)) (zx_hat hT.2.2.2.2.1 hT.2.2.2 (fun w hw => hts w ((by decide +kernel : ∀ w ∈ (vx_atS RX0 93 xE_A ["java/lang/RuntimeException", "java/lang/Exception"]).filter goodWord, w ∈ wsX0_requirePriority) w hw)) zx_h2A) zx_gA hT (List.mem_of_getElem? (i := 11) rfl) ht hlocks hP hK hD hS (hml.trans hl.1.symm) dX0_requirePriority_12 dX0_requirePriority_15 dX0_requirePriority_16 dX0_requirePriority_18 dX0_requirePriority_21 (Nat.le_of_ble_eq_true rfl) (Nat.le_of_ble_eq_true rfl) (Nat.le_of_ble_eq_true rfl) (Nat.le_of_ble_eq_true rfl) (Nat.le_of_ble_eq_true rfl) (Nat.le_of_ble_eq_true rfl) (⟨rfl, fun q => Int32.not_le.mpr c2 q.1⟩)
  · refine lv_iload_n hx hb dX0_requirePriority_5 rfl (lv_at hl 0 rfl) ?_
    refine lv_sipush (v := 255) hx hb dX0_requirePriority_6 (by decide) ?_
    refine lv_icmp_le (tgt := 22) hx hb dX0_requirePriority_9 (by decide) (fun c9 => ?_) (fun c9 => ?_)
    · exact W.widen (Nat.le_of_ble_eq_true rfl) (Nat.le_of_ble_eq_true rfl) (vx_ret (zz_rv () hx hb hr hlocks hP hK hD hS (⟨Int32.not_lt.mp c2, c9⟩) dX0_requirePriority_22))
    · exact zx_throw (E := xE_A) hx hb hlT hown (by decide +kernel) (hts (.classLink RX0 89 xE_A) (by decide +kernel)) (hts (.initialized xE_A) (by decide +kernel)) (zx_hat hT.2.2.2.2.1 hT.2.2.2 (fun w hw => hts w ((by decide +kernel : ∀ w ∈ (vx_atS RX0 93 xE_A ["java/lang/RuntimeException", "java/lang/Exception"]).filter goodWord, w ∈ wsX0_requirePriority) w hw)) zx_h2A) zx_gA hT (List.mem_of_getElem? (i := 11) rfl) ht hlocks hP hK hD hS (hml.trans hl.1.symm) dX0_requirePriority_12 dX0_requirePriority_15 dX0_requirePriority_16 dX0_requirePriority_18 dX0_requirePriority_21 (Nat.le_of_ble_eq_true rfl) (Nat.le_of_ble_eq_true rfl) (Nat.le_of_ble_eq_true rfl) (Nat.le_of_ble_eq_true rfl) (Nat.le_of_ble_eq_true rfl) (Nat.le_of_ble_eq_true rfl) (⟨rfl, fun q => c9 q.2⟩)
set_option maxHeartbeats 1000000 in
set_option maxRecDepth 100000 in
/-- requireLock -/
theorem cX_requireLock (l : Launch) (hlT : l.stackTraces = false) (D : va_G) (h : Nat) (a : Nat → Nat) (cA : Nat → ClassId) (nL nC nB sz : Nat) (hn : nL ≤ 8 ∧ nC ≤ 8 ∧ nB ≤ 8) (F : Nat → Nat → Int32) (ls : Int32) (x : Int32)  : vx_Met l yX0_requireLock wsX0_requireLock ({ frames := 6, cells := 1, slots := 6, locals := 82 }) (va_Pc [.ref h, .int x] (zx_Pre D vwCl (xT cA) (xW h a cA nL nC nB F ls) sz)) (va_Qv (fun (u : Unit) => (∃ j, j < nL ∧ x = nI j)) (zz_At D vwCl (xT cA) (fun _ : Unit => xW h a cA nL nC nB F ls) (va_A (xW h a cA nL nC nB F ls) sz)) (va_A (xW h a cA nL nC nB F ls) sz)) (zx_X D vwCl (xT cA) (xW h a cA nL nC nB F ls) (fun E => E = xE_I ∧ ¬ (∃ j, j < nL ∧ x = nI j)) (va_A (xW h a cA nL nC nB F ls) sz)) 1 6 (va_A (xW h a cA nL nC nB F ls) sz) := by
  obtain ⟨hnL, hnC, hnB⟩ := hn
  have hn : nL ≤ 8 ∧ nC ≤ 8 ∧ nB ≤ 8 := ⟨hnL, hnC, hnB⟩
  refine zx_of (Qc := fun A => va_Qv (fun (u : Unit) => (∃ j, j < nL ∧ x = nI j)) (zz_At D vwCl (xT cA) (fun _ : Unit => xW h a cA nL nC nB F ls) A) A) (XC := fun A => zx_X D vwCl (xT cA) (xW h a cA nL nC nB F ls) (fun E => E = xE_I ∧ ¬ (∃ j, j < nL ∧ x = nI j)) A) (by decide) rfl (Nat.le_of_ble_eq_true rfl) ?_
  intro p e s m args below meth c A H locs ls0 hx hb hr hml hown hts hlocks ht hT hA hP hK hD hS hl
  have hown : s.vm.findClass RX0 = some m.cls := hown
  have hl : lv_has ls0 2 [(0, .ref h), (1, .int x)] := hl
  have hin : ∀ w ∈ u_ws RX0 TX0 13, w ∈ wsX0_requireLock := by decide +kernel
  have hf38 := hts (.fieldLink RX0 38 "PriorityCore" "owners" "[I") (by decide +kernel)
  refine lv_iload_n hx hb dX0_requireLock_0 rfl (lv_at hl 1 rfl) ?_
  refine lv_if_lt (tgt := 13) hx hb dX0_requireLock_1 (by decide) (fun c1 => ?_) (fun c1 => ?_)
  · exact zx_throw (E := xE_I) hx hb hlT hown (by decide +kernel) (hts (.classLink RX0 155 xE_I) (by decide +kernel)) (hts (.initialized xE_I) (by decide +kernel)) (zx_hat hT.2.2.2.1 hT.2.2.2 (fun w hw => hts w ((by decide +kernel : ∀ w ∈ (vx_atS RX0 159 xE_I ["java/lang/RuntimeException", "java/lang/Exception"]).filter goodWord, w ∈ wsX0_requireLock) w hw)) zx_h2I) zx_gI hT (List.mem_of_getElem? (i := 12) rfl) ht hlocks hP hK hD hS (hml.trans hl.1.symm) dX0_requireLock_13 dX0_requireLock_16 dX0_requireLock_17 dX0_requireLock_19 dX0_requireLock_22 (Nat.le_of_ble_eq_true rfl) (Nat.le_of_ble_eq_true rfl) (Nat.le_of_ble_eq_true rfl) (Nat.le_of_ble_eq_true rfl) (Nat.le_of_ble_eq_true rfl) (Nat.le_of_ble_eq_true rfl) (⟨rfl, zn_no1 (by omega) c1⟩)
  · refine lv_iload_n hx hb dX0_requireLock_4 rfl (lv_at hl 1 rfl) ?_
    refine lv_aload_n hx hb dX0_requireLock_5 rfl (lv_at hl 0 rfl) ?_
    refine va_get (D := D) (ci := 0) (v := .ref (a 8)) (C := RX0) (T := TX0) (N := 13) hx hb hts hin hown hK hP 0 rfl rfl 8 (by decide) hf38 (fun _ h9 => h9) rfl dX0_requireLock_6 ?_
    refine va_alen hx hb hK hP 9 8 rfl rfl (v := nI nL) rfl dX0_requireLock_9 ?_
    refine lv_icmp_lt (tgt := 23) hx hb dX0_requireLock_10 (by decide) (fun c10 => ?_) (fun c10 => ?_)
    · exact W.widen (Nat.le_of_ble_eq_true rfl) (Nat.le_of_ble_eq_true rfl) (vx_ret (zz_rv () hx hb hr hlocks hP hK hD hS (zn_ix (by omega) c1 c10) dX0_requireLock_23))
    · exact zx_throw (E := xE_I) hx hb hlT hown (by decide +kernel) (hts (.classLink RX0 155 xE_I) (by decide +kernel)) (hts (.initialized xE_I) (by decide +kernel)) (zx_hat hT.2.2.2.1 hT.2.2.2 (fun w hw => hts w ((by decide +kernel : ∀ w ∈ (vx_atS RX0 159 xE_I ["java/lang/RuntimeException", "java/lang/Exception"]).filter goodWord, w ∈ wsX0_requireLock) w hw)) zx_h2I) zx_gI hT (List.mem_of_getElem? (i := 12) rfl) ht hlocks hP hK hD hS (hml.trans hl.1.symm) dX0_requireLock_13 dX0_requireLock_16 dX0_requireLock_17 dX0_requireLock_19 dX0_requireLock_22 (Nat.le_of_ble_eq_true rfl) (Nat.le_of_ble_eq_true rfl) (Nat.le_of_ble_eq_true rfl) (Nat.le_of_ble_eq_true rfl) (Nat.le_of_ble_eq_true rfl) (Nat.le_of_ble_eq_true rfl) (⟨rfl, zn_no2 (by omega) c10⟩)
set_option maxHeartbeats 1000000 in
set_option maxRecDepth 100000 in
/-- requireCounter -/
theorem cX_requireCounter (l : Launch) (hlT : l.stackTraces = false) (D : va_G) (h : Nat) (a : Nat → Nat) (cA : Nat → ClassId) (nL nC nB sz : Nat) (hn : nL ≤ 8 ∧ nC ≤ 8 ∧ nB ≤ 8) (F : Nat → Nat → Int32) (ls : Int32) (x : Int32)  : vx_Met l yX0_requireCounter wsX0_requireCounter ({ frames := 6, cells := 1, slots := 6, locals := 82 }) (va_Pc [.ref h, .int x] (zx_Pre D vwCl (xT cA) (xW h a cA nL nC nB F ls) sz)) (va_Qv (fun (u : Unit) => (∃ j, j < nC ∧ x = nI j)) (zz_At D vwCl (xT cA) (fun _ : Unit => xW h a cA nL nC nB F ls) (va_A (xW h a cA nL nC nB F ls) sz)) (va_A (xW h a cA nL nC nB F ls) sz)) (zx_X D vwCl (xT cA) (xW h a cA nL nC nB F ls) (fun E => E = xE_I ∧ ¬ (∃ j, j < nC ∧ x = nI j)) (va_A (xW h a cA nL nC nB F ls) sz)) 1 6 (va_A (xW h a cA nL nC nB F ls) sz) := by
  obtain ⟨hnL, hnC, hnB⟩ := hn
  have hn : nL ≤ 8 ∧ nC ≤ 8 ∧ nB ≤ 8 := ⟨hnL, hnC, hnB⟩
  refine zx_of (Qc := fun A => va_Qv (fun (u : Unit) => (∃ j, j < nC ∧ x = nI j)) (zz_At D vwCl (xT cA) (fun _ : Unit => xW h a cA nL nC nB F ls) A) A) (XC := fun A => zx_X D vwCl (xT cA) (xW h a cA nL nC nB F ls) (fun E => E = xE_I ∧ ¬ (∃ j, j < nC ∧ x = nI j)) A) (by decide) rfl (Nat.le_of_ble_eq_true rfl) ?_
  intro p e s m args below meth c A H locs ls0 hx hb hr hml hown hts hlocks ht hT hA hP hK hD hS hl
  have hown : s.vm.findClass RX0 = some m.cls := hown
  have hl : lv_has ls0 2 [(0, .ref h), (1, .int x)] := hl
  have hin : ∀ w ∈ u_ws RX0 TX0 13, w ∈ wsX0_requireCounter := by decide +kernel
  have hf41 := hts (.fieldLink RX0 41 "PriorityCore" "numbers" "[I") (by decide +kernel)
  refine lv_iload_n hx hb dX0_requireCounter_0 rfl (lv_at hl 1 rfl) ?_
  refine lv_if_lt (tgt := 13) hx hb dX0_requireCounter_1 (by decide) (fun c1 => ?_) (fun c1 => ?_)
  · exact zx_throw (E := xE_I) hx hb hlT hown (by decide +kernel) (hts (.classLink RX0 155 xE_I) (by decide +kernel)) (hts (.initialized xE_I) (by decide +kernel)) (zx_hat hT.2.2.2.1 hT.2.2.2 (fun w hw => hts w ((by decide +kernel : ∀ w ∈ (vx_atS RX0 159 xE_I ["java/lang/RuntimeException", "java/lang/Exception"]).filter goodWord, w ∈ wsX0_requireCounter) w hw)) zx_h2I) zx_gI hT (List.mem_of_getElem? (i := 13) rfl) ht hlocks hP hK hD hS (hml.trans hl.1.symm) dX0_requireCounter_13 dX0_requireCounter_16 dX0_requireCounter_17 dX0_requireCounter_19 dX0_requireCounter_22 (Nat.le_of_ble_eq_true rfl) (Nat.le_of_ble_eq_true rfl) (Nat.le_of_ble_eq_true rfl) (Nat.le_of_ble_eq_true rfl) (Nat.le_of_ble_eq_true rfl) (Nat.le_of_ble_eq_true rfl) (⟨rfl, zn_no1 (by omega) c1⟩)
  · refine lv_iload_n hx hb dX0_requireCounter_4 rfl (lv_at hl 1 rfl) ?_
    refine lv_aload_n hx hb dX0_requireCounter_5 rfl (lv_at hl 0 rfl) ?_
    refine va_get (D := D) (ci := 0) (v := .ref (a 9)) (C := RX0) (T := TX0) (N := 13) hx hb hts hin hown hK hP 0 rfl rfl 9 (by decide) hf41 (fun _ h9 => h9) rfl dX0_requireCounter_6 ?_
    refine va_alen hx hb hK hP 10 9 rfl rfl (v := nI nC) rfl dX0_requireCounter_9 ?_
    refine lv_icmp_lt (tgt := 23) hx hb dX0_requireCounter_10 (by decide) (fun c10 => ?_) (fun c10 => ?_)
    · exact W.widen (Nat.le_of_ble_eq_true rfl) (Nat.le_of_ble_eq_true rfl) (vx_ret (zz_rv () hx hb hr hlocks hP hK hD hS (zn_ix (by omega) c1 c10) dX0_requireCounter_23))
    · exact zx_throw (E := xE_I) hx hb hlT hown (by decide +kernel) (hts (.classLink RX0 155 xE_I) (by decide +kernel)) (hts (.initialized xE_I) (by decide +kernel)) (zx_hat hT.2.2.2.1 hT.2.2.2 (fun w hw => hts w ((by decide +kernel : ∀ w ∈ (vx_atS RX0 159 xE_I ["java/lang/RuntimeException", "java/lang/Exception"]).filter goodWord, w ∈ wsX0_requireCounter) w hw)) zx_h2I) zx_gI hT (List.mem_of_getElem? (i := 13) rfl) ht hlocks hP hK hD hS (hml.trans hl.1.symm) dX0_requireCounter_13 dX0_requireCounter_16 dX0_requireCounter_17 dX0_requireCounter_19 dX0_requireCounter_22 (Nat.le_of_ble_eq_true rfl) (Nat.le_of_ble_eq_true rfl) (Nat.le_of_ble_eq_true rfl) (Nat.le_of_ble_eq_true rfl) (Nat.le_of_ble_eq_true rfl) (Nat.le_of_ble_eq_true rfl) (⟨rfl, zn_no2 (by omega) c10⟩)
set_option maxHeartbeats 1000000 in
set_option maxRecDepth 100000 in
/-- requireBox -/
theorem cX_requireBox (l : Launch) (hlT : l.stackTraces = false) (D : va_G) (h : Nat) (a : Nat → Nat) (cA : Nat → ClassId) (nL nC nB sz : Nat) (hn : nL ≤ 8 ∧ nC ≤ 8 ∧ nB ≤ 8) (F : Nat → Nat → Int32) (ls : Int32) (x : Int32)  : vx_Met l yX0_requireBox wsX0_requireBox ({ frames := 6, cells := 1, slots := 6, locals := 82 }) (va_Pc [.ref h, .int x] (zx_Pre D vwCl (xT cA) (xW h a cA nL nC nB F ls) sz)) (va_Qv (fun (u : Unit) => (∃ j, j < nB ∧ x = nI j)) (zz_At D vwCl (xT cA) (fun _ : Unit => xW h a cA nL nC nB F ls) (va_A (xW h a cA nL nC nB F ls) sz)) (va_A (xW h a cA nL nC nB F ls) sz)) (zx_X D vwCl (xT cA) (xW h a cA nL nC nB F ls) (fun E => E = xE_I ∧ ¬ (∃ j, j < nB ∧ x = nI j)) (va_A (xW h a cA nL nC nB F ls) sz)) 1 6 (va_A (xW h a cA nL nC nB F ls) sz) := by
  obtain ⟨hnL, hnC, hnB⟩ := hn
  have hn : nL ≤ 8 ∧ nC ≤ 8 ∧ nB ≤ 8 := ⟨hnL, hnC, hnB⟩
  refine zx_of (Qc := fun A => va_Qv (fun (u : Unit) => (∃ j, j < nB ∧ x = nI j)) (zz_At D vwCl (xT cA) (fun _ : Unit => xW h a cA nL nC nB F ls) A) A) (XC := fun A => zx_X D vwCl (xT cA) (xW h a cA nL nC nB F ls) (fun E => E = xE_I ∧ ¬ (∃ j, j < nB ∧ x = nI j)) A) (by decide) rfl (Nat.le_of_ble_eq_true rfl) ?_
  intro p e s m args below meth c A H locs ls0 hx hb hr hml hown hts hlocks ht hT hA hP hK hD hS hl
  have hown : s.vm.findClass RX0 = some m.cls := hown
  have hl : lv_has ls0 2 [(0, .ref h), (1, .int x)] := hl
  have hin : ∀ w ∈ u_ws RX0 TX0 13, w ∈ wsX0_requireBox := by decide +kernel
  have hf44 := hts (.fieldLink RX0 44 "PriorityCore" "fills" "[I") (by decide +kernel)
  refine lv_iload_n hx hb dX0_requireBox_0 rfl (lv_at hl 1 rfl) ?_
  refine lv_if_lt (tgt := 13) hx hb dX0_requireBox_1 (by decide) (fun c1 => ?_) (fun c1 => ?_)
  · exact zx_throw (E := xE_I) hx hb hlT hown (by decide +kernel) (hts (.classLink RX0 155 xE_I) (by decide +kernel)) (hts (.initialized xE_I) (by decide +kernel)) (zx_hat hT.2.2.2.1 hT.2.2.2 (fun w hw => hts w ((by decide +kernel : ∀ w ∈ (vx_atS RX0 159 xE_I ["java/lang/RuntimeException", "java/lang/Exception"]).filter goodWord, w ∈ wsX0_requireBox) w hw)) zx_h2I) zx_gI hT (List.mem_of_getElem? (i := 14) rfl) ht hlocks hP hK hD hS (hml.trans hl.1.symm) dX0_requireBox_13 dX0_requireBox_16 dX0_requireBox_17 dX0_requireBox_19 dX0_requireBox_22 (Nat.le_of_ble_eq_true rfl) (Nat.le_of_ble_eq_true rfl) (Nat.le_of_ble_eq_true rfl) (Nat.le_of_ble_eq_true rfl) (Nat.le_of_ble_eq_true rfl) (Nat.le_of_ble_eq_true rfl) (⟨rfl, zn_no1 (by omega) c1⟩)
  · refine lv_iload_n hx hb dX0_requireBox_4 rfl (lv_at hl 1 rfl) ?_
    refine lv_aload_n hx hb dX0_requireBox_5 rfl (lv_at hl 0 rfl) ?_
    refine va_get (D := D) (ci := 0) (v := .ref (a 10)) (C := RX0) (T := TX0) (N := 13) hx hb hts hin hown hK hP 0 rfl rfl 10 (by decide) hf44 (fun _ h9 => h9) rfl dX0_requireBox_6 ?_
    refine va_alen hx hb hK hP 11 10 rfl rfl (v := nI nB) rfl dX0_requireBox_9 ?_
    refine lv_icmp_lt (tgt := 23) hx hb dX0_requireBox_10 (by decide) (fun c10 => ?_) (fun c10 => ?_)
    · exact W.widen (Nat.le_of_ble_eq_true rfl) (Nat.le_of_ble_eq_true rfl) (vx_ret (zz_rv () hx hb hr hlocks hP hK hD hS (zn_ix (by omega) c1 c10) dX0_requireBox_23))
    · exact zx_throw (E := xE_I) hx hb hlT hown (by decide +kernel) (hts (.classLink RX0 155 xE_I) (by decide +kernel)) (hts (.initialized xE_I) (by decide +kernel)) (zx_hat hT.2.2.2.1 hT.2.2.2 (fun w hw => hts w ((by decide +kernel : ∀ w ∈ (vx_atS RX0 159 xE_I ["java/lang/RuntimeException", "java/lang/Exception"]).filter goodWord, w ∈ wsX0_requireBox) w hw)) zx_h2I) zx_gI hT (List.mem_of_getElem? (i := 14) rfl) ht hlocks hP hK hD hS (hml.trans hl.1.symm) dX0_requireBox_13 dX0_requireBox_16 dX0_requireBox_17 dX0_requireBox_19 dX0_requireBox_22 (Nat.le_of_ble_eq_true rfl) (Nat.le_of_ble_eq_true rfl) (Nat.le_of_ble_eq_true rfl) (Nat.le_of_ble_eq_true rfl) (Nat.le_of_ble_eq_true rfl) (Nat.le_of_ble_eq_true rfl) (⟨rfl, zn_no2 (by omega) c10⟩)
set_option maxHeartbeats 1000000 in
set_option maxRecDepth 100000 in
/-- requireRunning -/
theorem cX_requireRunning (l : Launch) (hlT : l.stackTraces = false) (D : va_G) (h : Nat) (a : Nat → Nat) (cA : Nat → ClassId) (nL nC nB sz : Nat) (hn : nL ≤ 8 ∧ nC ≤ 8 ∧ nB ≤ 8) (F : Nat → Nat → Int32) (ls : Int32)   : vx_Met l yX0_requireRunning wsX0_requireRunning ({ frames := 6, cells := 1, slots := 6, locals := 82 }) (va_Pc [.ref h] (zx_Pre D vwCl (xT cA) (xW h a cA nL nC nB F ls) sz)) (va_Qi (fun (r : Int32) (u : Unit) => ∃ t, t < 16 ∧ xs_fm F 1 (-1) = some t ∧ r = nI t) (zz_At D vwCl (xT cA) (fun _ : Unit => xW h a cA nL nC nB F ls) (va_A (xW h a cA nL nC nB F ls) sz)) (va_A (xW h a cA nL nC nB F ls) sz)) (zx_X D vwCl (xT cA) (xW h a cA nL nC nB F ls) (fun E => E = xE_S ∧ xs_fm F 1 (-1) = none) (va_A (xW h a cA nL nC nB F ls) sz)) 1 6 (va_A (xW h a cA nL nC nB F ls) sz) := by
  obtain ⟨hnL, hnC, hnB⟩ := hn
  have hn : nL ≤ 8 ∧ nC ≤ 8 ∧ nB ≤ 8 := ⟨hnL, hnC, hnB⟩
  refine zx_of (Qc := fun A => va_Qi (fun (r : Int32) (u : Unit) => ∃ t, t < 16 ∧ xs_fm F 1 (-1) = some t ∧ r = nI t) (zz_At D vwCl (xT cA) (fun _ : Unit => xW h a cA nL nC nB F ls) A) A) (XC := fun A => zx_X D vwCl (xT cA) (xW h a cA nL nC nB F ls) (fun E => E = xE_S ∧ xs_fm F 1 (-1) = none) A) (by decide) rfl (Nat.le_of_ble_eq_true rfl) ?_
  intro p e s m args below meth c A H locs ls0 hx hb hr hml hown hts hlocks ht hT hA hP hK hD hS hl
  have hown : s.vm.findClass RX0 = some m.cls := hown
  have hl : lv_has ls0 2 [(0, .ref h)] := hl
  refine lv_aload_n hx hb dX0_requireRunning_0 rfl (lv_at hl 0 rfl) ?_
  refine zz_ci (va_runV (As := []) (rest := []) ⟨hx, hb, hml, hown, hts⟩ (cX_running l D h a cA nL nC nB H.size hn F ls ) (cwV 0 hts gX0_requireRunning_X0_running rfl rfl rfl (by decide +kernel) ⟨(Nat.le_of_ble_eq_true rfl), (Nat.le_of_ble_eq_true rfl)⟩) (zz_pV hP hK hD (va_recv hK hP (ci := 0) (q0 := 0) rfl rfl)) rfl rfl hl.1 rfl (lv_room (Nat.le_of_ble_eq_true rfl)) dX0_requireRunning_1 ⟨(Nat.le_of_ble_eq_true rfl), (Nat.le_of_ble_eq_true rfl)⟩) hD hS hA (fun r u H locs hw hP hD hS => ?_)
  subst hw
  have hP : va_P D vwCl (xW h a cA nL nC nB F ls) H := hP
  have hD : va_D A (xW h a cA nL nC nB F ls) := hD
  refine lv_istore_n (lv' := [(1, .int (pq_enc (xs_fm F 1 (-1)))), (0, .ref h)]) hx hb dX0_requireRunning_4 rfl hl (by decide) rfl (fun ls0 hl => ?_)
  refine lv_iload_n hx hb dX0_requireRunning_5 rfl (lv_at hl 0 rfl) ?_
  refine lv_iconst (v := (-1)) hx hb dX0_requireRunning_6 (by decide) ?_
  refine lv_icmp_ne (tgt := 20) hx hb dX0_requireRunning_7 (by decide) (fun c7 => ?_) (fun c7 => ?_)
  · refine lv_iload_n hx hb dX0_requireRunning_20 rfl (lv_at hl 0 rfl) ?_
    exact W.widen (Nat.le_of_ble_eq_true rfl) (Nat.le_of_ble_eq_true rfl) (vx_ret (zz_ri () hx hb hr hlocks hP hK hD hS (by cases q : xs_fm F 1 (-1) with | none => exact absurd (by rw [q]; rfl) c7 | some t => exact ⟨t, xs_fm_lt q, rfl, rfl⟩) dX0_requireRunning_21))
  · have hno : xs_fm F 1 (-1) = none := (pq_enc_m1 (fun n q => xs_fm_lt q)).mp c7
    exact zx_throw (E := xE_S) hx hb hlT hown (by decide +kernel) (hts (.classLink RX0 60 xE_S) (by decide +kernel)) (hts (.initialized xE_S) (by decide +kernel)) (zx_hat hT.2.2.2.2.2.1 hT.2.2.2 (fun w hw => hts w ((by decide +kernel : ∀ w ∈ (vx_atS RX0 64 xE_S ["java/lang/RuntimeException", "java/lang/Exception"]).filter goodWord, w ∈ wsX0_requireRunning) w hw)) zx_h2S) zx_gS hT (List.mem_of_getElem? (i := 15) rfl) ht hlocks hP hK hD hS (hml.trans hl.1.symm) dX0_requireRunning_10 dX0_requireRunning_13 dX0_requireRunning_14 dX0_requireRunning_16 dX0_requireRunning_19 (Nat.le_of_ble_eq_true rfl) (Nat.le_of_ble_eq_true rfl) (Nat.le_of_ble_eq_true rfl) (Nat.le_of_ble_eq_true rfl) (Nat.le_of_ble_eq_true rfl) (Nat.le_of_ble_eq_true rfl) (⟨rfl, hno⟩)
