set_option maxHeartbeats 1000000 in
set_option maxRecDepth 100000 in
/-- cM_end -/
theorem cM_end (l : Launch) (D : va_G) (h : Nat) (a : Nat → Nat) (cA : Nat → ClassId) (nL nC nB sz : Nat) (hn : nL ≤ 8 ∧ nC ≤ 8 ∧ nB ≤ 8) (F : Nat → Nat → Int32) (sp : Nat → Int64) (cd : Int32) (ck : Int64)  (hI : ms_I F) : Met l yX1_end wsX1_end ({ frames := 3, cells := 0, slots := 0, locals := 69 }) (va_Pc [.ref h] (zz_Pre D vwCl (mT cA) (mW h a cA nL nC nB F sp cd ck) sz)) (va_Qi (fun (r : Int32) (u : mS) => mp_end nL F sp ck r u) (zz_At D vwCl (mT cA) (fun u : mS => mW h a cA nL nC nB u.1 u.2.1 u.2.2.1 u.2.2.2) (va_A (mW h a cA nL nC nB F sp cd ck) sz)) (va_A (mW h a cA nL nC nB F sp cd ck) sz)) 0 0 (va_A (mW h a cA nL nC nB F sp cd ck) sz) := by
  obtain ⟨hnL, hnC, hnB⟩ := hn
  have hn : nL ≤ 8 ∧ nC ≤ 8 ∧ nB ≤ 8 := ⟨hnL, hnC, hnB⟩
  refine zz_of (Qc := fun A => va_Qi (fun (r : Int32) (u : mS) => mp_end nL F sp ck r u) (zz_At D vwCl (mT cA) (fun u : mS => mW h a cA nL nC nB u.1 u.2.1 u.2.2.1 u.2.2.2) A) A) (by decide) rfl (Nat.le_of_ble_eq_true rfl) ?_
  intro p e s m args below meth c A H locs ls0 hx hb hr hml hown hts hlocks hnm hA hP hK hD hS hl
  have hown : s.vm.findClass RX1 = some m.cls := hown
  have hl : lv_has ls0 2 [(0, .ref h)] := hl
  have hin : ∀ w ∈ u_ws RX1 TX1 17, w ∈ wsX1_end := by decide +kernel
  have hf7 := hts (.fieldLink RX1 7 "PriorityCoreModel" "states" "[I") (by decide +kernel)
  have hf13 := hts (.fieldLink RX1 13 "PriorityCoreModel" "bases" "[I") (by decide +kernel)
  have hf29 := hts (.fieldLink RX1 29 "PriorityCoreModel" "got" "[I") (by decide +kernel)
  have hf64 := hts (.fieldLink RX1 64 "PriorityCoreModel" "code" "I") (by decide +kernel)
  refine lv_aload_n hx hb dX1_end_0 rfl (lv_at hl 0 rfl) ?_
  refine zz_ci (va_runV (As := []) (rest := []) ⟨hx, hb, hml, hown, hts⟩ (cM_runs l D h a cA nL nC nB H.size hn F sp cd ck hI) (cwV 0 hts gX1_end_X1_runs rfl rfl rfl (by decide +kernel) ⟨(Nat.le_of_ble_eq_true rfl), (Nat.le_of_ble_eq_true rfl)⟩) (zz_pV hP hK hD (va_recv hK hP (ci := 1) (q0 := 0) rfl rfl)) rfl rfl hl.1 rfl (lv_room (Nat.le_of_ble_eq_true rfl)) dX1_end_1 ⟨(Nat.le_of_ble_eq_true rfl), (Nat.le_of_ble_eq_true rfl)⟩) hD hS hA (fun r u H locs hw hP hD hS => ?_)
  obtain ⟨E, nx, hu, hfo, hre⟩ := hw
  subst hu
  subst hre
  have hP : va_P D vwCl (mW h a cA nL nC nB (va_up F 10 E) sp cd ck) H := hP
  have hD : va_D A (mW h a cA nL nC nB (va_up F 10 E) sp cd ck) := hD
  refine lv_istore_n (lv' := [(1, .int (pq_enc nx)), (0, .ref h)]) hx hb dX1_end_4 rfl hl (by decide) rfl (fun ls0 hl => ?_)
  refine lv_aload_n hx hb dX1_end_5 rfl (lv_at hl 1 rfl) ?_
  refine lv_iload_n hx hb dX1_end_6 rfl (lv_at hl 0 rfl) ?_
  refine lv_if_ge (tgt := 14) hx hb dX1_end_7 (by decide) (fun c7 => ?_) (fun c7 => ?_)
  · obtain ⟨t, ht16, hnxt⟩ := pq_enc_ge (ms_fo_lt hfo) c7
    subst hnxt
    have hl : lv_has ls0 2 [(1, .int (nI t)), (0, .ref h)] := hl
    refine lv_aload_n hx hb dX1_end_14 rfl (lv_at hl 1 rfl) ?_
    refine lv_iload_n hx hb dX1_end_15 rfl (lv_at hl 0 rfl) ?_
    refine zz_ci (va_runV (As := [.int (nI t)]) (rest := [.ref h]) ⟨hx, hb, hml, hown, hts⟩ (cM_owned l D h a cA nL nC nB H.size hn (va_up F 10 E) sp cd ck (nI t)) (cwV 1 hts gX1_end_X1_owned rfl rfl rfl (by decide +kernel) ⟨(Nat.le_of_ble_eq_true rfl), (Nat.le_of_ble_eq_true rfl)⟩) (zz_pV hP hK hD (va_recv hK hP (ci := 1) (q0 := 0) rfl rfl)) rfl rfl hl.1 rfl (lv_room (Nat.le_of_ble_eq_true rfl)) dX1_end_16 ⟨(Nat.le_of_ble_eq_true rfl), (Nat.le_of_ble_eq_true rfl)⟩) hD hS hA (fun r u H locs hw hP hD hS => ?_)
    subst hw
    have hP : va_P D vwCl (mW h a cA nL nC nB (va_up F 10 E) sp cd ck) H := hP
    have hD : va_D A (mW h a cA nL nC nB (va_up F 10 E) sp cd ck) := hD
    refine lv_if_le (tgt := 26) hx hb dX1_end_19 (by decide) (fun c19 => ?_) (fun c19 => ?_)
    · have hc0 : pq_cnt (fun k => decide (F 6 k = nI t)) nL = 0 := by
        have hcl := pq_cnt_le (fun k => decide (F 6 k = nI t)) nL
        have hle : pq_cnt (fun k => decide (F 6 k = nI t)) nL ≤ 0 := (nI_leI (by omega) (by decide)).mp (show nI _ ≤ nI 0 from c19)
        omega
      refine lv_iconst (v := 0) hx hb dX1_end_26 (by decide) ?_
      refine va_put (D := D) (ci := 1) (v := .int 0) (ty := .int) (C := RX1) (T := TX1) (N := 17) hx hb hts hin tyX1 tyX1_ok nmX1 hown hK hP hD hS 0 rfl rfl 3 (by decide) hf64 (fun _ h9 => h9) rfl (by decide +kernel) rfl rfl (Nat.le_of_ble_eq_true rfl) dX1_end_27 (fun H locs hP hD hS => ?_)
      have hP : va_P D vwCl (mW h a cA nL nC nB (va_up F 10 E) sp 0 ck) H := hP
      have hD : va_D A (mW h a cA nL nC nB (va_up F 10 E) sp 0 ck) := hD
      refine lv_aload_n hx hb dX1_end_30 rfl (lv_at hl 1 rfl) ?_
      refine va_get (D := D) (ci := 1) (v := .int 0) (C := RX1) (T := TX1) (N := 17) hx hb hts hin hown hK hP 0 rfl rfl 3 (by decide) hf64 (fun _ h9 => h9) rfl dX1_end_31 ?_
      refine lv_if_le (tgt := 39) hx hb dX1_end_34 (by decide) (fun c34 => ?_) (fun c34 => ?_)
      · refine lv_aload_n hx hb dX1_end_39 rfl (lv_at hl 1 rfl) ?_
        refine va_get (D := D) (ci := 1) (v := .ref (a 0)) (C := RX1) (T := TX1) (N := 17) hx hb hts hin hown hK hP 0 rfl rfl 5 (by decide) hf7 (fun _ h9 => h9) rfl dX1_end_40 ?_
        refine lv_iload_n hx hb dX1_end_43 rfl (lv_at hl 0 rfl) ?_
        refine lv_iconst (v := 0) hx hb dX1_end_44 (by decide) ?_
        refine zz_iast (ws' := mW h a cA nL nC nB (va_up (va_up F 10 E) 0 (upd (F 0) t 0)) sp 0 ck) hx hb hK hP hD hS 1 0 rfl rfl (ht16) (by decide) rfl dX1_end_45 (fun H locs hP hD hS => ?_)
        refine lv_aload_n hx hb dX1_end_46 rfl (lv_at hl 1 rfl) ?_
        refine va_get (D := D) (ci := 1) (v := .ref (a 1)) (C := RX1) (T := TX1) (N := 17) hx hb hts hin hown hK hP 0 rfl rfl 6 (by decide) hf13 (fun _ h9 => h9) rfl dX1_end_47 ?_
        refine lv_iload_n hx hb dX1_end_50 rfl (lv_at hl 0 rfl) ?_
        refine lv_iconst (v := 0) hx hb dX1_end_51 (by decide) ?_
        refine zz_iast (ws' := mW h a cA nL nC nB (va_up (va_up (va_up F 10 E) 0 (upd (F 0) t 0)) 1 (upd (F 1) t 0)) sp 0 ck) hx hb hK hP hD hS 2 1 rfl rfl (ht16) (by decide) rfl dX1_end_52 (fun H locs hP hD hS => ?_)
        refine lv_aload_n hx hb dX1_end_53 rfl (lv_at hl 1 rfl) ?_
        refine va_get (D := D) (ci := 1) (v := .ref (a 5)) (C := RX1) (T := TX1) (N := 17) hx hb hts hin hown hK hP 0 rfl rfl 11 (by decide) hf29 (fun _ h9 => h9) rfl dX1_end_54 ?_
        refine lv_iload_n hx hb dX1_end_57 rfl (lv_at hl 0 rfl) ?_
        refine lv_iconst (v := 0) hx hb dX1_end_58 (by decide) ?_
        refine zz_iast (ws' := mW h a cA nL nC nB (va_up (va_up (va_up (va_up F 10 E) 0 (upd (F 0) t 0)) 1 (upd (F 1) t 0)) 5 (upd (F 5) t 0)) sp 0 ck) hx hb hK hP hD hS 6 5 rfl rfl (ht16) (by decide) rfl dX1_end_59 (fun H locs hP hD hS => ?_)
        refine lv_aload_n hx hb dX1_end_60 rfl (lv_at hl 1 rfl) ?_
        refine zz_ci (va_runV (As := []) (rest := []) ⟨hx, hb, hml, hown, hts⟩ (cM_runs l D h a cA nL nC nB H.size hn (va_up (va_up (va_up (va_up F 10 E) 0 (upd (F 0) t 0)) 1 (upd (F 1) t 0)) 5 (upd (F 5) t 0)) sp 0 ck (show ms_I (ms_fr F t) from ms_I_fr hI t)) (cwV 0 hts gX1_end_X1_runs rfl rfl rfl (by decide +kernel) ⟨(Nat.le_of_ble_eq_true rfl), (Nat.le_of_ble_eq_true rfl)⟩) (zz_pV hP hK hD (va_recv hK hP (ci := 1) (q0 := 0) rfl rfl)) rfl rfl hl.1 rfl (lv_room (Nat.le_of_ble_eq_true rfl)) dX1_end_61 ⟨(Nat.le_of_ble_eq_true rfl), (Nat.le_of_ble_eq_true rfl)⟩) hD hS hA (fun r u H locs hw hP hD hS => ?_)
        obtain ⟨E2, n2, hu, hfo2, hre⟩ := hw
        subst hu
        subst hre
        have hfo2 : ms_fo (ms_fr F t) sp 1 0 E2 n2 := hfo2
        have hP : va_P D vwCl (mW h a cA nL nC nB (va_up (ms_fr F t) 10 E2) sp 0 ck) H := hP
        have hD : va_D A (mW h a cA nL nC nB (va_up (ms_fr F t) 10 E2) sp 0 ck) := hD
        exact zz_ri (va_up (ms_fr F t) 10 E2, sp, 0, ck) hx hb hr hlocks hP hK hD hS (⟨E, _, hfo, Or.inr ⟨t, ht16, rfl, Or.inr ⟨hc0, E2, n2, hfo2, rfl, rfl⟩⟩⟩) dX1_end_64
      · exact absurd (by decide) c34
    · have c19 : ¬ nI (pq_cnt (fun k => decide (F 6 k = nI t)) nL) ≤ 0 := c19
      have hc0 : ¬ pq_cnt (fun k => decide (F 6 k = nI t)) nL = 0 := fun q => c19 (by rw [q]; decide)
      refine lv_iconst (v := 2) hx hb dX1_end_22 (by decide) ?_
      refine lv_goto (tgt := 27) hx hb dX1_end_23 (by decide) ?_
      refine va_put (D := D) (ci := 1) (v := .int 2) (ty := .int) (C := RX1) (T := TX1) (N := 17) hx hb hts hin tyX1 tyX1_ok nmX1 hown hK hP hD hS 0 rfl rfl 3 (by decide) hf64 (fun _ h9 => h9) rfl (by decide +kernel) rfl rfl (Nat.le_of_ble_eq_true rfl) dX1_end_27 (fun H locs hP hD hS => ?_)
      have hP : va_P D vwCl (mW h a cA nL nC nB (va_up F 10 E) sp 2 ck) H := hP
      have hD : va_D A (mW h a cA nL nC nB (va_up F 10 E) sp 2 ck) := hD
      refine lv_aload_n hx hb dX1_end_30 rfl (lv_at hl 1 rfl) ?_
      refine va_get (D := D) (ci := 1) (v := .int 2) (C := RX1) (T := TX1) (N := 17) hx hb hts hin hown hK hP 0 rfl rfl 3 (by decide) hf64 (fun _ h9 => h9) rfl dX1_end_31 ?_
      refine lv_if_le (tgt := 39) hx hb dX1_end_34 (by decide) (fun c34 => ?_) (fun c34 => ?_)
      · exact absurd c34 (by decide)
      · refine lv_iconst (v := 0) hx hb dX1_end_37 (by decide) ?_
        exact zz_ri (va_up F 10 E, sp, 2, ck) hx hb hr hlocks hP hK hD hS (⟨E, _, hfo, Or.inr ⟨t, ht16, rfl, Or.inl ⟨hc0, rfl⟩⟩⟩) dX1_end_38
  · have hnonx : nx = none := pq_enc_ng (ms_fo_lt hfo) c7
    refine lv_iconst (v := 1) hx hb dX1_end_10 (by decide) ?_
    refine lv_goto (tgt := 27) hx hb dX1_end_11 (by decide) ?_
    refine va_put (D := D) (ci := 1) (v := .int 1) (ty := .int) (C := RX1) (T := TX1) (N := 17) hx hb hts hin tyX1 tyX1_ok nmX1 hown hK hP hD hS 0 rfl rfl 3 (by decide) hf64 (fun _ h9 => h9) rfl (by decide +kernel) rfl rfl (Nat.le_of_ble_eq_true rfl) dX1_end_27 (fun H locs hP hD hS => ?_)
    have hP : va_P D vwCl (mW h a cA nL nC nB (va_up F 10 E) sp 1 ck) H := hP
    have hD : va_D A (mW h a cA nL nC nB (va_up F 10 E) sp 1 ck) := hD
    refine lv_aload_n hx hb dX1_end_30 rfl (lv_at hl 1 rfl) ?_
    refine va_get (D := D) (ci := 1) (v := .int 1) (C := RX1) (T := TX1) (N := 17) hx hb hts hin hown hK hP 0 rfl rfl 3 (by decide) hf64 (fun _ h9 => h9) rfl dX1_end_31 ?_
    refine lv_if_le (tgt := 39) hx hb dX1_end_34 (by decide) (fun c34 => ?_) (fun c34 => ?_)
    · exact absurd c34 (by decide)
    · refine lv_iconst (v := 0) hx hb dX1_end_37 (by decide) ?_
      exact zz_ri (va_up F 10 E, sp, 1, ck) hx hb hr hlocks hP hK hD hS (⟨E, nx, hfo, Or.inl ⟨hnonx, rfl⟩⟩) dX1_end_38
set_option maxHeartbeats 1000000 in
set_option maxRecDepth 100000 in
/-- cM_running -/
theorem cM_running (l : Launch) (D : va_G) (h : Nat) (a : Nat → Nat) (cA : Nat → ClassId) (nL nC nB sz : Nat) (hn : nL ≤ 8 ∧ nC ≤ 8 ∧ nB ≤ 8) (F : Nat → Nat → Int32) (sp : Nat → Int64) (cd : Int32) (ck : Int64)  (hI : ms_I F) : Met l yX1_running wsX1_running ({ frames := 3, cells := 0, slots := 0, locals := 69 }) (va_Pc [.ref h] (zz_Pre D vwCl (mT cA) (mW h a cA nL nC nB F sp cd ck) sz)) (va_Qi (fun (r : Int32) (u : mS) => ∃ E nx, ms_fo F sp 1 0 E nx ∧ r = pq_enc nx ∧ u = (va_up F 10 E, sp, 0, ck)) (zz_At D vwCl (mT cA) (fun u : mS => mW h a cA nL nC nB u.1 u.2.1 u.2.2.1 u.2.2.2) (va_A (mW h a cA nL nC nB F sp cd ck) sz)) (va_A (mW h a cA nL nC nB F sp cd ck) sz)) 0 0 (va_A (mW h a cA nL nC nB F sp cd ck) sz) := by
  obtain ⟨hnL, hnC, hnB⟩ := hn
  have hn : nL ≤ 8 ∧ nC ≤ 8 ∧ nB ≤ 8 := ⟨hnL, hnC, hnB⟩
  refine zz_of (Qc := fun A => va_Qi (fun (r : Int32) (u : mS) => ∃ E nx, ms_fo F sp 1 0 E nx ∧ r = pq_enc nx ∧ u = (va_up F 10 E, sp, 0, ck)) (zz_At D vwCl (mT cA) (fun u : mS => mW h a cA nL nC nB u.1 u.2.1 u.2.2.1 u.2.2.2) A) A) (by decide) rfl (Nat.le_of_ble_eq_true rfl) ?_
  intro p e s m args below meth c A H locs ls0 hx hb hr hml hown hts hlocks hnm hA hP hK hD hS hl
  have hown : s.vm.findClass RX1 = some m.cls := hown
  have hl : lv_has ls0 1 [(0, .ref h)] := hl
  have hin : ∀ w ∈ u_ws RX1 TX1 17, w ∈ wsX1_running := by decide +kernel
  have hf64 := hts (.fieldLink RX1 64 "PriorityCoreModel" "code" "I") (by decide +kernel)
  refine lv_aload_n hx hb dX1_running_0 rfl (lv_at hl 0 rfl) ?_
  refine lv_iconst (v := 0) hx hb dX1_running_1 (by decide) ?_
  refine va_put (D := D) (ci := 1) (v := .int 0) (ty := .int) (C := RX1) (T := TX1) (N := 17) hx hb hts hin tyX1 tyX1_ok nmX1 hown hK hP hD hS 0 rfl rfl 3 (by decide) hf64 (fun _ h9 => h9) rfl (by decide +kernel) rfl rfl (Nat.le_of_ble_eq_true rfl) dX1_running_2 (fun H locs hP hD hS => ?_)
  have hP : va_P D vwCl (mW h a cA nL nC nB F sp 0 ck) H := hP
  have hD : va_D A (mW h a cA nL nC nB F sp 0 ck) := hD
  refine lv_aload_n hx hb dX1_running_5 rfl (lv_at hl 0 rfl) ?_
  refine zz_ci (va_runV (As := []) (rest := []) ⟨hx, hb, hml, hown, hts⟩ (cM_runs l D h a cA nL nC nB H.size hn F sp 0 ck hI) (cwV 0 hts gX1_running_X1_runs rfl rfl rfl (by decide +kernel) ⟨(Nat.le_of_ble_eq_true rfl), (Nat.le_of_ble_eq_true rfl)⟩) (zz_pV hP hK hD (va_recv hK hP (ci := 1) (q0 := 0) rfl rfl)) rfl rfl hl.1 rfl (lv_room (Nat.le_of_ble_eq_true rfl)) dX1_running_6 ⟨(Nat.le_of_ble_eq_true rfl), (Nat.le_of_ble_eq_true rfl)⟩) hD hS hA (fun r u H locs hw hP hD hS => ?_)
  obtain ⟨E, nx, hu, hfo, hre⟩ := hw
  subst hu
  subst hre
  have hP : va_P D vwCl (mW h a cA nL nC nB (va_up F 10 E) sp 0 ck) H := hP
  have hD : va_D A (mW h a cA nL nC nB (va_up F 10 E) sp 0 ck) := hD
  exact zz_ri (va_up F 10 E, sp, 0, ck) hx hb hr hlocks hP hK hD hS (⟨E, nx, hfo, rfl, rfl⟩) dX1_running_9
set_option maxHeartbeats 1000000 in
set_option maxRecDepth 100000 in
/-- cM_told -/
theorem cM_told (l : Launch) (D : va_G) (h : Nat) (a : Nat → Nat) (cA : Nat → ClassId) (nL nC nB sz : Nat) (hn : nL ≤ 8 ∧ nC ≤ 8 ∧ nB ≤ 8) (F : Nat → Nat → Int32) (sp : Nat → Int64) (cd : Int32) (ck : Int64) (x y : Int32) (hI : ms_I F) : Met l yX1_told wsX1_told ({ frames := 1, cells := 0, slots := 0, locals := 23 }) (va_Pc [.ref h, .int x, .int y] (zz_Pre D vwCl (mT cA) (mW h a cA nL nC nB F sp cd ck) sz)) (va_Qi (fun (r : Int32) (u : mS) => mp_told nL F sp ck x y r u) (zz_At D vwCl (mT cA) (fun u : mS => mW h a cA nL nC nB u.1 u.2.1 u.2.2.1 u.2.2.2) (va_A (mW h a cA nL nC nB F sp cd ck) sz)) (va_A (mW h a cA nL nC nB F sp cd ck) sz)) 0 0 (va_A (mW h a cA nL nC nB F sp cd ck) sz) := by
  obtain ⟨hnL, hnC, hnB⟩ := hn
  have hn : nL ≤ 8 ∧ nC ≤ 8 ∧ nB ≤ 8 := ⟨hnL, hnC, hnB⟩
  refine zz_of (Qc := fun A => va_Qi (fun (r : Int32) (u : mS) => mp_told nL F sp ck x y r u) (zz_At D vwCl (mT cA) (fun u : mS => mW h a cA nL nC nB u.1 u.2.1 u.2.2.1 u.2.2.2) A) A) (by decide) rfl (Nat.le_of_ble_eq_true rfl) ?_
  intro p e s m args below meth c A H locs ls0 hx hb hr hml hown hts hlocks hnm hA hP hK hD hS hl
  have hown : s.vm.findClass RX1 = some m.cls := hown
  have hl : lv_has ls0 3 [(0, .ref h), (1, .int x), (2, .int y)] := hl
  have hin : ∀ w ∈ u_ws RX1 TX1 17, w ∈ wsX1_told := by decide +kernel
  have hf7 := hts (.fieldLink RX1 7 "PriorityCoreModel" "states" "[I") (by decide +kernel)
  have hf13 := hts (.fieldLink RX1 13 "PriorityCoreModel" "bases" "[I") (by decide +kernel)
  have hf20 := hts (.fieldLink RX1 20 "PriorityCoreModel" "things" "[I") (by decide +kernel)
  have hf23 := hts (.fieldLink RX1 23 "PriorityCoreModel" "ticks" "[I") (by decide +kernel)
  have hf29 := hts (.fieldLink RX1 29 "PriorityCoreModel" "got" "[I") (by decide +kernel)
  have hf44 := hts (.fieldLink RX1 44 "PriorityCoreModel" "effective" "[I") (by decide +kernel)
  have hf64 := hts (.fieldLink RX1 64 "PriorityCoreModel" "code" "I") (by decide +kernel)
  refine lv_aload_n hx hb dX1_told_0 rfl (lv_at hl 0 rfl) ?_
  refine lv_iload_n hx hb dX1_told_1 rfl (lv_at hl 1 rfl) ?_
  refine zz_pi (w := []) (wr := mW h a cA nL nC nB F sp cd ck) (va_runS (As := [.int x]) (rest := [.ref h]) ⟨hx, hb, hml, hown, hts⟩ (cM_isTask l D H.size x) (va_cwS 1 hts gX1_told_X1_isTask rfl rfl rfl (by decide +kernel) ⟨(Nat.le_of_ble_eq_true rfl), (Nat.le_of_ble_eq_true rfl)⟩) (zz_pS (hP.sub (ws' := []) [] rfl) (hK.sub (tys' := []) [] rfl) (hD.sub (ws' := []) [] (by decide) rfl)) rfl rfl hl.1 rfl (lv_room (Nat.le_of_ble_eq_true rfl)) dX1_told_2 ⟨(Nat.le_of_ble_eq_true rfl), (Nat.le_of_ble_eq_true rfl)⟩) hP hD hS hA [] [0, 1, 2, 3, 4, 5, 6, 7, 8, 9, 10, 11, 12] rfl rfl (by decide) (by decide) (fun r u H locs hw hP hD hS => ?_)
  have hP : va_P D vwCl (mW h a cA nL nC nB F sp cd ck) H := hP
  have hD : va_D A (mW h a cA nL nC nB F sp cd ck) := hD
  refine lv_if_ne (tgt := 12) hx hb dX1_told_5 (by decide) (fun c5 => ?_) (fun c5 => ?_)
  · have hti : sp_in 16 x := by
      rcases hw with q | q
      · exact q.2
      · exact absurd q.1 c5
    refine lv_iload_n hx hb dX1_told_12 rfl (lv_at hl 2 rfl) ?_
    refine lv_if_lt (tgt := 22) hx hb dX1_told_13 (by decide) (fun c13 => ?_) (fun c13 => ?_)
    · have hby : y < 0 ∨ ¬ y ≤ 6 := Or.inl c13
      refine lv_iconst (v := 2) hx hb dX1_told_22 (by decide) ?_
      refine lv_goto (tgt := 27) hx hb dX1_told_23 (by decide) ?_
      refine va_put (D := D) (ci := 1) (v := .int 2) (ty := .int) (C := RX1) (T := TX1) (N := 17) hx hb hts hin tyX1 tyX1_ok nmX1 hown hK hP hD hS 0 rfl rfl 3 (by decide) hf64 (fun _ h9 => h9) rfl (by decide +kernel) rfl rfl (Nat.le_of_ble_eq_true rfl) dX1_told_27 (fun H locs hP hD hS => ?_)
      have hP : va_P D vwCl (mW h a cA nL nC nB F sp 2 ck) H := hP
      have hD : va_D A (mW h a cA nL nC nB F sp 2 ck) := hD
      refine lv_aload_n hx hb dX1_told_30 rfl (lv_at hl 0 rfl) ?_
      refine va_get (D := D) (ci := 1) (v := .int 2) (C := RX1) (T := TX1) (N := 17) hx hb hts hin hown hK hP 0 rfl rfl 3 (by decide) hf64 (fun _ h9 => h9) rfl dX1_told_31 ?_
      refine lv_if_le (tgt := 39) hx hb dX1_told_34 (by decide) (fun c34 => ?_) (fun c34 => ?_)
      · exact absurd c34 (by decide)
      · refine lv_iconst (v := 0) hx hb dX1_told_37 (by decide) ?_
        exact zz_ri (F, sp, 2, ck) hx hb hr hlocks hP hK hD hS (Or.inr (Or.inl ⟨hti, hby, rfl⟩)) dX1_told_38
    · refine lv_iload_n hx hb dX1_told_16 rfl (lv_at hl 2 rfl) ?_
      refine lv_bipush (v := 6) hx hb dX1_told_17 (by decide) ?_
      refine lv_icmp_le (tgt := 26) hx hb dX1_told_19 (by decide) (fun c19 => ?_) (fun c19 => ?_)
      · obtain ⟨t, ht16, hxe⟩ := hti
        subst hxe
        have hl : lv_has ls0 3 [(0, .ref h), (1, .int (nI t)), (2, .int y)] := hl
        refine lv_iconst (v := 0) hx hb dX1_told_26 (by decide) ?_
        refine va_put (D := D) (ci := 1) (v := .int 0) (ty := .int) (C := RX1) (T := TX1) (N := 17) hx hb hts hin tyX1 tyX1_ok nmX1 hown hK hP hD hS 0 rfl rfl 3 (by decide) hf64 (fun _ h9 => h9) rfl (by decide +kernel) rfl rfl (Nat.le_of_ble_eq_true rfl) dX1_told_27 (fun H locs hP hD hS => ?_)
        have hP : va_P D vwCl (mW h a cA nL nC nB F sp 0 ck) H := hP
        have hD : va_D A (mW h a cA nL nC nB F sp 0 ck) := hD
        refine lv_aload_n hx hb dX1_told_30 rfl (lv_at hl 0 rfl) ?_
        refine va_get (D := D) (ci := 1) (v := .int 0) (C := RX1) (T := TX1) (N := 17) hx hb hts hin hown hK hP 0 rfl rfl 3 (by decide) hf64 (fun _ h9 => h9) rfl dX1_told_31 ?_
        refine lv_if_le (tgt := 39) hx hb dX1_told_34 (by decide) (fun c34 => ?_) (fun c34 => ?_)
        · refine lv_aload_n hx hb dX1_told_39 rfl (lv_at hl 0 rfl) ?_
          refine zz_cv (va_runV (As := []) (rest := []) ⟨hx, hb, hml, hown, hts⟩ (cM_findEffective l D h a cA nL nC nB H.size hn F sp 0 ck hI) (cwV 0 hts gX1_told_X1_findEffective rfl rfl rfl (by decide +kernel) ⟨(Nat.le_of_ble_eq_true rfl), (Nat.le_of_ble_eq_true rfl)⟩) (zz_pV hP hK hD (va_recv hK hP (ci := 1) (q0 := 0) rfl rfl)) rfl rfl hl.1 rfl (lv_room (Nat.le_of_ble_eq_true rfl)) dX1_told_40 ⟨(Nat.le_of_ble_eq_true rfl), (Nat.le_of_ble_eq_true rfl)⟩) hD hS hA (fun u H locs hw hP hD hS => ?_)
          obtain ⟨E, hu, hEf⟩ := hw
          subst hu
          have hP : va_P D vwCl (mW h a cA nL nC nB (va_up F 10 E) sp 0 ck) H := hP
          have hD : va_D A (mW h a cA nL nC nB (va_up F 10 E) sp 0 ck) := hD
          refine lv_iload_n hx hb dX1_told_43 rfl (lv_at hl 2 rfl) ?_
          rcases zn_sw7 y with rfl | rfl | rfl | rfl | rfl | rfl | rfl | e
          · have hl : lv_has ls0 3 [(0, .ref h), (1, .int (nI t)), (2, .int 0)] := hl
            refine lv_tableIn (tgt := 84) hx hb dX1_told_44 (by decide) (by decide) (off := 40) rfl (by decide) ?_
            refine lv_aload_n hx hb dX1_told_84 rfl (lv_at hl 0 rfl) ?_
            refine va_get (D := D) (ci := 1) (v := .ref (a 0)) (C := RX1) (T := TX1) (N := 17) hx hb hts hin hown hK hP 0 rfl rfl 5 (by decide) hf7 (fun _ h9 => h9) rfl dX1_told_85 ?_
            refine lv_iload_n hx hb dX1_told_88 rfl (lv_at hl 1 rfl) ?_
            refine zz_iald hx hb hK hP 1 0 rfl rfl (ht16) (by decide) dX1_told_89 ?_
            exact zz_ri (va_up F 10 E, sp, 0, ck) hx hb hr hlocks hP hK hD hS (Or.inr (Or.inr ⟨t, E, ht16, rfl, hEf, rfl, Or.inl ⟨rfl, rfl⟩⟩)) dX1_told_90
          · have hl : lv_has ls0 3 [(0, .ref h), (1, .int (nI t)), (2, .int 1)] := hl
            refine lv_tableIn (tgt := 91) hx hb dX1_told_44 (by decide) (by decide) (off := 47) rfl (by decide) ?_
            refine lv_aload_n hx hb dX1_told_91 rfl (lv_at hl 0 rfl) ?_
            refine va_get (D := D) (ci := 1) (v := .ref (a 1)) (C := RX1) (T := TX1) (N := 17) hx hb hts hin hown hK hP 0 rfl rfl 6 (by decide) hf13 (fun _ h9 => h9) rfl dX1_told_92 ?_
            refine lv_iload_n hx hb dX1_told_95 rfl (lv_at hl 1 rfl) ?_
            refine zz_iald hx hb hK hP 2 1 rfl rfl (ht16) (by decide) dX1_told_96 ?_
            exact zz_ri (va_up F 10 E, sp, 0, ck) hx hb hr hlocks hP hK hD hS (Or.inr (Or.inr ⟨t, E, ht16, rfl, hEf, rfl, Or.inr (Or.inl ⟨rfl, rfl⟩)⟩)) dX1_told_97
          · have hl : lv_has ls0 3 [(0, .ref h), (1, .int (nI t)), (2, .int 2)] := hl
            refine lv_tableIn (tgt := 98) hx hb dX1_told_44 (by decide) (by decide) (off := 54) rfl (by decide) ?_
            refine lv_aload_n hx hb dX1_told_98 rfl (lv_at hl 0 rfl) ?_
            refine va_get (D := D) (ci := 1) (v := .ref (a 10)) (C := RX1) (T := TX1) (N := 17) hx hb hts hin hown hK hP 0 rfl rfl 16 (by decide) hf44 (fun _ h9 => h9) rfl dX1_told_99 ?_
            refine lv_iload_n hx hb dX1_told_102 rfl (lv_at hl 1 rfl) ?_
            refine zz_iald hx hb hK hP 11 10 rfl rfl (ht16) (by decide) dX1_told_103 ?_
            exact zz_ri (va_up F 10 E, sp, 0, ck) hx hb hr hlocks hP hK hD hS (Or.inr (Or.inr ⟨t, E, ht16, rfl, hEf, rfl, Or.inr (Or.inr (Or.inl ⟨rfl, rfl⟩))⟩)) dX1_told_104
          · have hl : lv_has ls0 3 [(0, .ref h), (1, .int (nI t)), (2, .int 3)] := hl
            refine lv_tableIn (tgt := 105) hx hb dX1_told_44 (by decide) (by decide) (off := 61) rfl (by decide) ?_
            refine lv_aload_n hx hb dX1_told_105 rfl (lv_at hl 0 rfl) ?_
            refine va_get (D := D) (ci := 1) (v := .ref (a 0)) (C := RX1) (T := TX1) (N := 17) hx hb hts hin hown hK hP 0 rfl rfl 5 (by decide) hf7 (fun _ h9 => h9) rfl dX1_told_106 ?_
            refine lv_iload_n hx hb dX1_told_109 rfl (lv_at hl 1 rfl) ?_
            refine zz_iald hx hb hK hP 1 0 rfl rfl (ht16) (by decide) dX1_told_110 ?_
            refine lv_iconst (v := 2) hx hb dX1_told_111 (by decide) ?_
            refine lv_icmp_lt (tgt := 134) hx hb dX1_told_112 (by decide) (fun c112 => ?_) (fun c112 => ?_)
            · refine lv_iconst (v := (-1)) hx hb dX1_told_134 (by decide) ?_
              exact zz_ri (va_up F 10 E, sp, 0, ck) hx hb hr hlocks hP hK hD hS (Or.inr (Or.inr ⟨t, E, ht16, rfl, hEf, rfl, Or.inr (Or.inr (Or.inr (Or.inl ⟨rfl, by rw [if_neg (fun q => Int32.not_le.mpr c112 q.1)]⟩)))⟩)) dX1_told_135
            · refine lv_aload_n hx hb dX1_told_115 rfl (lv_at hl 0 rfl) ?_
              refine va_get (D := D) (ci := 1) (v := .ref (a 0)) (C := RX1) (T := TX1) (N := 17) hx hb hts hin hown hK hP 0 rfl rfl 5 (by decide) hf7 (fun _ h9 => h9) rfl dX1_told_116 ?_
              refine lv_iload_n hx hb dX1_told_119 rfl (lv_at hl 1 rfl) ?_
              refine zz_iald hx hb hK hP 1 0 rfl rfl (ht16) (by decide) dX1_told_120 ?_
              refine lv_iconst (v := 5) hx hb dX1_told_121 (by decide) ?_
              refine lv_icmp_gt (tgt := 134) hx hb dX1_told_122 (by decide) (fun c122 => ?_) (fun c122 => ?_)
              · refine lv_iconst (v := (-1)) hx hb dX1_told_134 (by decide) ?_
                exact zz_ri (va_up F 10 E, sp, 0, ck) hx hb hr hlocks hP hK hD hS (Or.inr (Or.inr ⟨t, E, ht16, rfl, hEf, rfl, Or.inr (Or.inr (Or.inr (Or.inl ⟨rfl, by rw [if_neg (fun q => Int32.not_le.mpr c122 q.2)]⟩)))⟩)) dX1_told_135
              · refine lv_aload_n hx hb dX1_told_125 rfl (lv_at hl 0 rfl) ?_
                refine va_get (D := D) (ci := 1) (v := .ref (a 2)) (C := RX1) (T := TX1) (N := 17) hx hb hts hin hown hK hP 0 rfl rfl 8 (by decide) hf20 (fun _ h9 => h9) rfl dX1_told_126 ?_
                refine lv_iload_n hx hb dX1_told_129 rfl (lv_at hl 1 rfl) ?_
                refine zz_iald hx hb hK hP 3 2 rfl rfl (ht16) (by decide) dX1_told_130 ?_
                refine lv_goto (tgt := 135) hx hb dX1_told_131 (by decide) ?_
                exact zz_ri (va_up F 10 E, sp, 0, ck) hx hb hr hlocks hP hK hD hS (Or.inr (Or.inr ⟨t, E, ht16, rfl, hEf, rfl, Or.inr (Or.inr (Or.inr (Or.inl ⟨rfl, by rw [if_pos ⟨Int32.not_lt.mp c112, Int32.not_lt.mp c122⟩]; rfl⟩)))⟩)) dX1_told_135
          · have hl : lv_has ls0 3 [(0, .ref h), (1, .int (nI t)), (2, .int 4)] := hl
            refine lv_tableIn (tgt := 136) hx hb dX1_told_44 (by decide) (by decide) (off := 92) rfl (by decide) ?_
            refine lv_aload_n hx hb dX1_told_136 rfl (lv_at hl 0 rfl) ?_
            refine va_get (D := D) (ci := 1) (v := .ref (a 0)) (C := RX1) (T := TX1) (N := 17) hx hb hts hin hown hK hP 0 rfl rfl 5 (by decide) hf7 (fun _ h9 => h9) rfl dX1_told_137 ?_
            refine lv_iload_n hx hb dX1_told_140 rfl (lv_at hl 1 rfl) ?_
            refine zz_iald hx hb hK hP 1 0 rfl rfl (ht16) (by decide) dX1_told_141 ?_
            refine lv_bipush (v := 6) hx hb dX1_told_142 (by decide) ?_
            refine lv_icmp_ne (tgt := 156) hx hb dX1_told_144 (by decide) (fun c144 => ?_) (fun c144 => ?_)
            · have c144 : ¬ F 0 t = 6 := c144
              refine lv_iconst (v := 0) hx hb dX1_told_156 (by decide) ?_
              exact zz_ri (va_up F 10 E, sp, 0, ck) hx hb hr hlocks hP hK hD hS (Or.inr (Or.inr ⟨t, E, ht16, rfl, hEf, rfl, Or.inr (Or.inr (Or.inr (Or.inr (Or.inl ⟨rfl, by rw [if_neg c144]⟩))))⟩)) dX1_told_157
            · have c144 : F 0 t = 6 := c144
              refine lv_aload_n hx hb dX1_told_147 rfl (lv_at hl 0 rfl) ?_
              refine va_get (D := D) (ci := 1) (v := .ref (a 3)) (C := RX1) (T := TX1) (N := 17) hx hb hts hin hown hK hP 0 rfl rfl 9 (by decide) hf23 (fun _ h9 => h9) rfl dX1_told_148 ?_
              refine lv_iload_n hx hb dX1_told_151 rfl (lv_at hl 1 rfl) ?_
              refine zz_iald hx hb hK hP 4 3 rfl rfl (ht16) (by decide) dX1_told_152 ?_
              refine lv_goto (tgt := 157) hx hb dX1_told_153 (by decide) ?_
              exact zz_ri (va_up F 10 E, sp, 0, ck) hx hb hr hlocks hP hK hD hS (Or.inr (Or.inr ⟨t, E, ht16, rfl, hEf, rfl, Or.inr (Or.inr (Or.inr (Or.inr (Or.inl ⟨rfl, by rw [if_pos c144]; rfl⟩))))⟩)) dX1_told_157
          · have hl : lv_has ls0 3 [(0, .ref h), (1, .int (nI t)), (2, .int 5)] := hl
            refine lv_tableIn (tgt := 158) hx hb dX1_told_44 (by decide) (by decide) (off := 114) rfl (by decide) ?_
            refine lv_aload_n hx hb dX1_told_158 rfl (lv_at hl 0 rfl) ?_
            refine va_get (D := D) (ci := 1) (v := .ref (a 5)) (C := RX1) (T := TX1) (N := 17) hx hb hts hin hown hK hP 0 rfl rfl 11 (by decide) hf29 (fun _ h9 => h9) rfl dX1_told_159 ?_
            refine lv_iload_n hx hb dX1_told_162 rfl (lv_at hl 1 rfl) ?_
            refine zz_iald hx hb hK hP 6 5 rfl rfl (ht16) (by decide) dX1_told_163 ?_
            exact zz_ri (va_up F 10 E, sp, 0, ck) hx hb hr hlocks hP hK hD hS (Or.inr (Or.inr ⟨t, E, ht16, rfl, hEf, rfl, Or.inr (Or.inr (Or.inr (Or.inr (Or.inr (Or.inl ⟨rfl, rfl⟩)))))⟩)) dX1_told_164
          · have hl : lv_has ls0 3 [(0, .ref h), (1, .int (nI t)), (2, .int 6)] := hl
            refine lv_tableOut (tgt := 165) hx hb dX1_told_44 (by decide) (by decide) ?_
            refine lv_aload_n hx hb dX1_told_165 rfl (lv_at hl 0 rfl) ?_
            refine lv_iload_n hx hb dX1_told_166 rfl (lv_at hl 1 rfl) ?_
            refine zz_ci (va_runV (As := [.int (nI t)]) (rest := []) ⟨hx, hb, hml, hown, hts⟩ (cM_owned l D h a cA nL nC nB H.size hn (va_up F 10 E) sp 0 ck (nI t)) (cwV 1 hts gX1_told_X1_owned rfl rfl rfl (by decide +kernel) ⟨(Nat.le_of_ble_eq_true rfl), (Nat.le_of_ble_eq_true rfl)⟩) (zz_pV hP hK hD (va_recv hK hP (ci := 1) (q0 := 0) rfl rfl)) rfl rfl hl.1 rfl (lv_room (Nat.le_of_ble_eq_true rfl)) dX1_told_167 ⟨(Nat.le_of_ble_eq_true rfl), (Nat.le_of_ble_eq_true rfl)⟩) hD hS hA (fun r u H locs hw hP hD hS => ?_)
            subst hw
            have hP : va_P D vwCl (mW h a cA nL nC nB (va_up F 10 E) sp 0 ck) H := hP
            have hD : va_D A (mW h a cA nL nC nB (va_up F 10 E) sp 0 ck) := hD
            exact zz_ri (va_up F 10 E, sp, 0, ck) hx hb hr hlocks hP hK hD hS (Or.inr (Or.inr ⟨t, E, ht16, rfl, hEf, rfl, Or.inr (Or.inr (Or.inr (Or.inr (Or.inr (Or.inr (⟨rfl, rfl⟩))))))⟩)) dX1_told_170
          · rw [Int32.lt_iff_toInt_lt] at c13
            rw [Int32.le_iff_toInt_le] at c19
            have a0 : (0 : Int32).toInt = 0 := by decide
            have a6 : (6 : Int32).toInt = 6 := by decide
            exact absurd e (by omega)
        · exact absurd (by decide) c34
      · have hby : y < 0 ∨ ¬ y ≤ 6 := Or.inr c19
        refine lv_iconst (v := 2) hx hb dX1_told_22 (by decide) ?_
        refine lv_goto (tgt := 27) hx hb dX1_told_23 (by decide) ?_
        refine va_put (D := D) (ci := 1) (v := .int 2) (ty := .int) (C := RX1) (T := TX1) (N := 17) hx hb hts hin tyX1 tyX1_ok nmX1 hown hK hP hD hS 0 rfl rfl 3 (by decide) hf64 (fun _ h9 => h9) rfl (by decide +kernel) rfl rfl (Nat.le_of_ble_eq_true rfl) dX1_told_27 (fun H locs hP hD hS => ?_)
        have hP : va_P D vwCl (mW h a cA nL nC nB F sp 2 ck) H := hP
        have hD : va_D A (mW h a cA nL nC nB F sp 2 ck) := hD
        refine lv_aload_n hx hb dX1_told_30 rfl (lv_at hl 0 rfl) ?_
        refine va_get (D := D) (ci := 1) (v := .int 2) (C := RX1) (T := TX1) (N := 17) hx hb hts hin hown hK hP 0 rfl rfl 3 (by decide) hf64 (fun _ h9 => h9) rfl dX1_told_31 ?_
        refine lv_if_le (tgt := 39) hx hb dX1_told_34 (by decide) (fun c34 => ?_) (fun c34 => ?_)
        · exact absurd c34 (by decide)
        · refine lv_iconst (v := 0) hx hb dX1_told_37 (by decide) ?_
          exact zz_ri (F, sp, 2, ck) hx hb hr hlocks hP hK hD hS (Or.inr (Or.inl ⟨hti, hby, rfl⟩)) dX1_told_38
  · have hti : ¬ sp_in 16 x := by
      rcases hw with q | q
      · exact absurd (q.1.symm.trans c5) (by decide)
      · exact q.2
    refine lv_iconst (v := 1) hx hb dX1_told_8 (by decide) ?_
    refine lv_goto (tgt := 27) hx hb dX1_told_9 (by decide) ?_
    refine va_put (D := D) (ci := 1) (v := .int 1) (ty := .int) (C := RX1) (T := TX1) (N := 17) hx hb hts hin tyX1 tyX1_ok nmX1 hown hK hP hD hS 0 rfl rfl 3 (by decide) hf64 (fun _ h9 => h9) rfl (by decide +kernel) rfl rfl (Nat.le_of_ble_eq_true rfl) dX1_told_27 (fun H locs hP hD hS => ?_)
    have hP : va_P D vwCl (mW h a cA nL nC nB F sp 1 ck) H := hP
    have hD : va_D A (mW h a cA nL nC nB F sp 1 ck) := hD
    refine lv_aload_n hx hb dX1_told_30 rfl (lv_at hl 0 rfl) ?_
    refine va_get (D := D) (ci := 1) (v := .int 1) (C := RX1) (T := TX1) (N := 17) hx hb hts hin hown hK hP 0 rfl rfl 3 (by decide) hf64 (fun _ h9 => h9) rfl dX1_told_31 ?_
    refine lv_if_le (tgt := 39) hx hb dX1_told_34 (by decide) (fun c34 => ?_) (fun c34 => ?_)
    · exact absurd c34 (by decide)
    · refine lv_iconst (v := 0) hx hb dX1_told_37 (by decide) ?_
      exact zz_ri (F, sp, 1, ck) hx hb hr hlocks hP hK hD hS (Or.inl ⟨hti, rfl⟩) dX1_told_38
set_option maxHeartbeats 1000000 in
set_option maxRecDepth 100000 in
/-- cM_owner -/
theorem cM_owner (l : Launch) (D : va_G) (h : Nat) (a : Nat → Nat) (cA : Nat → ClassId) (nL nC nB sz : Nat) (hn : nL ≤ 8 ∧ nC ≤ 8 ∧ nB ≤ 8) (F : Nat → Nat → Int32) (sp : Nat → Int64) (cd : Int32) (ck : Int64) (x : Int32)  : Met l yX1_owner wsX1_owner ({ frames := 0, cells := 0, slots := 0, locals := 0 }) (va_Pc [.ref h, .int x] (zz_Pre D vwCl (mT cA) (mW h a cA nL nC nB F sp cd ck) sz)) (va_Qi (fun (r : Int32) (u : mS) => mp_get nL 6 F sp ck x r u) (zz_At D vwCl (mT cA) (fun u : mS => mW h a cA nL nC nB u.1 u.2.1 u.2.2.1 u.2.2.2) (va_A (mW h a cA nL nC nB F sp cd ck) sz)) (va_A (mW h a cA nL nC nB F sp cd ck) sz)) 0 0 (va_A (mW h a cA nL nC nB F sp cd ck) sz) := by
  obtain ⟨hnL, hnC, hnB⟩ := hn
  have hn : nL ≤ 8 ∧ nC ≤ 8 ∧ nB ≤ 8 := ⟨hnL, hnC, hnB⟩
  refine zz_of (Qc := fun A => va_Qi (fun (r : Int32) (u : mS) => mp_get nL 6 F sp ck x r u) (zz_At D vwCl (mT cA) (fun u : mS => mW h a cA nL nC nB u.1 u.2.1 u.2.2.1 u.2.2.2) A) A) (by decide) rfl (Nat.le_of_ble_eq_true rfl) ?_
  intro p e s m args below meth c A H locs ls0 hx hb hr hml hown hts hlocks hnm hA hP hK hD hS hl
  have hown : s.vm.findClass RX1 = some m.cls := hown
  have hl : lv_has ls0 2 [(0, .ref h), (1, .int x)] := hl
  have hin : ∀ w ∈ u_ws RX1 TX1 17, w ∈ wsX1_owner := by decide +kernel
  have hf32 := hts (.fieldLink RX1 32 "PriorityCoreModel" "owners" "[I") (by decide +kernel)
  have hf51 := hts (.fieldLink RX1 51 "PriorityCoreModel" "locks" "I") (by decide +kernel)
  have hf64 := hts (.fieldLink RX1 64 "PriorityCoreModel" "code" "I") (by decide +kernel)
  refine lv_aload_n hx hb dX1_owner_0 rfl (lv_at hl 0 rfl) ?_
  refine lv_iload_n hx hb dX1_owner_1 rfl (lv_at hl 1 rfl) ?_
  refine lv_if_lt (tgt := 17) hx hb dX1_owner_2 (by decide) (fun c2 => ?_) (fun c2 => ?_)
  · have hxn : ¬ sp_in nL x := zn_no1 (by omega) c2
    refine lv_iconst (v := 1) hx hb dX1_owner_17 (by decide) ?_
    refine va_put (D := D) (ci := 1) (v := .int 1) (ty := .int) (C := RX1) (T := TX1) (N := 17) hx hb hts hin tyX1 tyX1_ok nmX1 hown hK hP hD hS 0 rfl rfl 3 (by decide) hf64 (fun _ h9 => h9) rfl (by decide +kernel) rfl rfl (Nat.le_of_ble_eq_true rfl) dX1_owner_18 (fun H locs hP hD hS => ?_)
    have hP : va_P D vwCl (mW h a cA nL nC nB F sp 1 ck) H := hP
    have hD : va_D A (mW h a cA nL nC nB F sp 1 ck) := hD
    refine lv_aload_n hx hb dX1_owner_21 rfl (lv_at hl 0 rfl) ?_
    refine va_get (D := D) (ci := 1) (v := .int 1) (C := RX1) (T := TX1) (N := 17) hx hb hts hin hown hK hP 0 rfl rfl 3 (by decide) hf64 (fun _ h9 => h9) rfl dX1_owner_22 ?_
    refine lv_if_le (tgt := 32) hx hb dX1_owner_25 (by decide) (fun c25 => ?_) (fun c25 => ?_)
    · exact absurd c25 (by decide)
    · refine lv_iconst (v := 0) hx hb dX1_owner_28 (by decide) ?_
      refine lv_goto (tgt := 38) hx hb dX1_owner_29 (by decide) ?_
      exact zz_ri (F, sp, 1, ck) hx hb hr hlocks hP hK hD hS (Or.inl ⟨hxn, rfl⟩) dX1_owner_38
  · refine lv_iload_n hx hb dX1_owner_5 rfl (lv_at hl 1 rfl) ?_
    refine lv_aload_n hx hb dX1_owner_6 rfl (lv_at hl 0 rfl) ?_
    refine va_get (D := D) (ci := 1) (v := .int (nI nL)) (C := RX1) (T := TX1) (N := 17) hx hb hts hin hown hK hP 0 rfl rfl 0 (by decide) hf51 (fun _ h9 => h9) rfl dX1_owner_7 ?_
    refine lv_icmp_ge (tgt := 17) hx hb dX1_owner_10 (by decide) (fun c10 => ?_) (fun c10 => ?_)
    · have hxn : ¬ sp_in nL x := zn_no2 (by omega) (Int32.not_lt.mpr c10)
      refine lv_iconst (v := 1) hx hb dX1_owner_17 (by decide) ?_
      refine va_put (D := D) (ci := 1) (v := .int 1) (ty := .int) (C := RX1) (T := TX1) (N := 17) hx hb hts hin tyX1 tyX1_ok nmX1 hown hK hP hD hS 0 rfl rfl 3 (by decide) hf64 (fun _ h9 => h9) rfl (by decide +kernel) rfl rfl (Nat.le_of_ble_eq_true rfl) dX1_owner_18 (fun H locs hP hD hS => ?_)
      have hP : va_P D vwCl (mW h a cA nL nC nB F sp 1 ck) H := hP
      have hD : va_D A (mW h a cA nL nC nB F sp 1 ck) := hD
      refine lv_aload_n hx hb dX1_owner_21 rfl (lv_at hl 0 rfl) ?_
      refine va_get (D := D) (ci := 1) (v := .int 1) (C := RX1) (T := TX1) (N := 17) hx hb hts hin hown hK hP 0 rfl rfl 3 (by decide) hf64 (fun _ h9 => h9) rfl dX1_owner_22 ?_
      refine lv_if_le (tgt := 32) hx hb dX1_owner_25 (by decide) (fun c25 => ?_) (fun c25 => ?_)
      · exact absurd c25 (by decide)
      · refine lv_iconst (v := 0) hx hb dX1_owner_28 (by decide) ?_
        refine lv_goto (tgt := 38) hx hb dX1_owner_29 (by decide) ?_
        exact zz_ri (F, sp, 1, ck) hx hb hr hlocks hP hK hD hS (Or.inl ⟨hxn, rfl⟩) dX1_owner_38
    · have hxi : sp_in nL x := zn_ix (by omega) c2 (Int32.not_le.mp c10)
      have hxj := hxi
      obtain ⟨k, hk, hxe⟩ := hxi
      subst hxe
      have hl : lv_has ls0 2 [(0, .ref h), (1, .int (nI k))] := hl
      refine lv_iconst (v := 0) hx hb dX1_owner_13 (by decide) ?_
      refine lv_goto (tgt := 18) hx hb dX1_owner_14 (by decide) ?_
      refine va_put (D := D) (ci := 1) (v := .int 0) (ty := .int) (C := RX1) (T := TX1) (N := 17) hx hb hts hin tyX1 tyX1_ok nmX1 hown hK hP hD hS 0 rfl rfl 3 (by decide) hf64 (fun _ h9 => h9) rfl (by decide +kernel) rfl rfl (Nat.le_of_ble_eq_true rfl) dX1_owner_18 (fun H locs hP hD hS => ?_)
      have hP : va_P D vwCl (mW h a cA nL nC nB F sp 0 ck) H := hP
      have hD : va_D A (mW h a cA nL nC nB F sp 0 ck) := hD
      refine lv_aload_n hx hb dX1_owner_21 rfl (lv_at hl 0 rfl) ?_
      refine va_get (D := D) (ci := 1) (v := .int 0) (C := RX1) (T := TX1) (N := 17) hx hb hts hin hown hK hP 0 rfl rfl 3 (by decide) hf64 (fun _ h9 => h9) rfl dX1_owner_22 ?_
      refine lv_if_le (tgt := 32) hx hb dX1_owner_25 (by decide) (fun c25 => ?_) (fun c25 => ?_)
      · refine lv_aload_n hx hb dX1_owner_32 rfl (lv_at hl 0 rfl) ?_
        refine va_get (D := D) (ci := 1) (v := .ref (a 6)) (C := RX1) (T := TX1) (N := 17) hx hb hts hin hown hK hP 0 rfl rfl 12 (by decide) hf32 (fun _ h9 => h9) rfl dX1_owner_33 ?_
        refine lv_iload_n hx hb dX1_owner_36 rfl (lv_at hl 1 rfl) ?_
        refine zz_iald hx hb hK hP 7 6 rfl rfl (by omega) (by decide) dX1_owner_37 ?_
        exact zz_ri (F, sp, 0, ck) hx hb hr hlocks hP hK hD hS (Or.inr ⟨k, hk, rfl, rfl, rfl⟩) dX1_owner_38
      · exact absurd (by decide) c25
set_option maxHeartbeats 1000000 in
set_option maxRecDepth 100000 in
/-- cM_count -/
theorem cM_count (l : Launch) (D : va_G) (h : Nat) (a : Nat → Nat) (cA : Nat → ClassId) (nL nC nB sz : Nat) (hn : nL ≤ 8 ∧ nC ≤ 8 ∧ nB ≤ 8) (F : Nat → Nat → Int32) (sp : Nat → Int64) (cd : Int32) (ck : Int64) (x : Int32)  : Met l yX1_count wsX1_count ({ frames := 0, cells := 0, slots := 0, locals := 0 }) (va_Pc [.ref h, .int x] (zz_Pre D vwCl (mT cA) (mW h a cA nL nC nB F sp cd ck) sz)) (va_Qi (fun (r : Int32) (u : mS) => mp_get nC 7 F sp ck x r u) (zz_At D vwCl (mT cA) (fun u : mS => mW h a cA nL nC nB u.1 u.2.1 u.2.2.1 u.2.2.2) (va_A (mW h a cA nL nC nB F sp cd ck) sz)) (va_A (mW h a cA nL nC nB F sp cd ck) sz)) 0 0 (va_A (mW h a cA nL nC nB F sp cd ck) sz) := by
  obtain ⟨hnL, hnC, hnB⟩ := hn
  have hn : nL ≤ 8 ∧ nC ≤ 8 ∧ nB ≤ 8 := ⟨hnL, hnC, hnB⟩
  refine zz_of (Qc := fun A => va_Qi (fun (r : Int32) (u : mS) => mp_get nC 7 F sp ck x r u) (zz_At D vwCl (mT cA) (fun u : mS => mW h a cA nL nC nB u.1 u.2.1 u.2.2.1 u.2.2.2) A) A) (by decide) rfl (Nat.le_of_ble_eq_true rfl) ?_
  intro p e s m args below meth c A H locs ls0 hx hb hr hml hown hts hlocks hnm hA hP hK hD hS hl
  have hown : s.vm.findClass RX1 = some m.cls := hown
  have hl : lv_has ls0 2 [(0, .ref h), (1, .int x)] := hl
  have hin : ∀ w ∈ u_ws RX1 TX1 17, w ∈ wsX1_count := by decide +kernel
  have hf35 := hts (.fieldLink RX1 35 "PriorityCoreModel" "counts" "[I") (by decide +kernel)
  have hf55 := hts (.fieldLink RX1 55 "PriorityCoreModel" "counters" "I") (by decide +kernel)
  have hf64 := hts (.fieldLink RX1 64 "PriorityCoreModel" "code" "I") (by decide +kernel)
  refine lv_aload_n hx hb dX1_count_0 rfl (lv_at hl 0 rfl) ?_
  refine lv_iload_n hx hb dX1_count_1 rfl (lv_at hl 1 rfl) ?_
  refine lv_if_lt (tgt := 17) hx hb dX1_count_2 (by decide) (fun c2 => ?_) (fun c2 => ?_)
  · have hxn : ¬ sp_in nC x := zn_no1 (by omega) c2
    refine lv_iconst (v := 1) hx hb dX1_count_17 (by decide) ?_
    refine va_put (D := D) (ci := 1) (v := .int 1) (ty := .int) (C := RX1) (T := TX1) (N := 17) hx hb hts hin tyX1 tyX1_ok nmX1 hown hK hP hD hS 0 rfl rfl 3 (by decide) hf64 (fun _ h9 => h9) rfl (by decide +kernel) rfl rfl (Nat.le_of_ble_eq_true rfl) dX1_count_18 (fun H locs hP hD hS => ?_)
    have hP : va_P D vwCl (mW h a cA nL nC nB F sp 1 ck) H := hP
    have hD : va_D A (mW h a cA nL nC nB F sp 1 ck) := hD
    refine lv_aload_n hx hb dX1_count_21 rfl (lv_at hl 0 rfl) ?_
    refine va_get (D := D) (ci := 1) (v := .int 1) (C := RX1) (T := TX1) (N := 17) hx hb hts hin hown hK hP 0 rfl rfl 3 (by decide) hf64 (fun _ h9 => h9) rfl dX1_count_22 ?_
    refine lv_if_le (tgt := 32) hx hb dX1_count_25 (by decide) (fun c25 => ?_) (fun c25 => ?_)
    · exact absurd c25 (by decide)
    · refine lv_iconst (v := 0) hx hb dX1_count_28 (by decide) ?_
      refine lv_goto (tgt := 38) hx hb dX1_count_29 (by decide) ?_
      exact zz_ri (F, sp, 1, ck) hx hb hr hlocks hP hK hD hS (Or.inl ⟨hxn, rfl⟩) dX1_count_38
  · refine lv_iload_n hx hb dX1_count_5 rfl (lv_at hl 1 rfl) ?_
    refine lv_aload_n hx hb dX1_count_6 rfl (lv_at hl 0 rfl) ?_
    refine va_get (D := D) (ci := 1) (v := .int (nI nC)) (C := RX1) (T := TX1) (N := 17) hx hb hts hin hown hK hP 0 rfl rfl 1 (by decide) hf55 (fun _ h9 => h9) rfl dX1_count_7 ?_
    refine lv_icmp_ge (tgt := 17) hx hb dX1_count_10 (by decide) (fun c10 => ?_) (fun c10 => ?_)
    · have hxn : ¬ sp_in nC x := zn_no2 (by omega) (Int32.not_lt.mpr c10)
      refine lv_iconst (v := 1) hx hb dX1_count_17 (by decide) ?_
      refine va_put (D := D) (ci := 1) (v := .int 1) (ty := .int) (C := RX1) (T := TX1) (N := 17) hx hb hts hin tyX1 tyX1_ok nmX1 hown hK hP hD hS 0 rfl rfl 3 (by decide) hf64 (fun _ h9 => h9) rfl (by decide +kernel) rfl rfl (Nat.le_of_ble_eq_true rfl) dX1_count_18 (fun H locs hP hD hS => ?_)
      have hP : va_P D vwCl (mW h a cA nL nC nB F sp 1 ck) H := hP
      have hD : va_D A (mW h a cA nL nC nB F sp 1 ck) := hD
      refine lv_aload_n hx hb dX1_count_21 rfl (lv_at hl 0 rfl) ?_
      refine va_get (D := D) (ci := 1) (v := .int 1) (C := RX1) (T := TX1) (N := 17) hx hb hts hin hown hK hP 0 rfl rfl 3 (by decide) hf64 (fun _ h9 => h9) rfl dX1_count_22 ?_
      refine lv_if_le (tgt := 32) hx hb dX1_count_25 (by decide) (fun c25 => ?_) (fun c25 => ?_)
      · exact absurd c25 (by decide)
      · refine lv_iconst (v := 0) hx hb dX1_count_28 (by decide) ?_
        refine lv_goto (tgt := 38) hx hb dX1_count_29 (by decide) ?_
        exact zz_ri (F, sp, 1, ck) hx hb hr hlocks hP hK hD hS (Or.inl ⟨hxn, rfl⟩) dX1_count_38
    · have hxi : sp_in nC x := zn_ix (by omega) c2 (Int32.not_le.mp c10)
      have hxj := hxi
      obtain ⟨k, hk, hxe⟩ := hxi
      subst hxe
      have hl : lv_has ls0 2 [(0, .ref h), (1, .int (nI k))] := hl
      refine lv_iconst (v := 0) hx hb dX1_count_13 (by decide) ?_
      refine lv_goto (tgt := 18) hx hb dX1_count_14 (by decide) ?_
      refine va_put (D := D) (ci := 1) (v := .int 0) (ty := .int) (C := RX1) (T := TX1) (N := 17) hx hb hts hin tyX1 tyX1_ok nmX1 hown hK hP hD hS 0 rfl rfl 3 (by decide) hf64 (fun _ h9 => h9) rfl (by decide +kernel) rfl rfl (Nat.le_of_ble_eq_true rfl) dX1_count_18 (fun H locs hP hD hS => ?_)
      have hP : va_P D vwCl (mW h a cA nL nC nB F sp 0 ck) H := hP
      have hD : va_D A (mW h a cA nL nC nB F sp 0 ck) := hD
      refine lv_aload_n hx hb dX1_count_21 rfl (lv_at hl 0 rfl) ?_
      refine va_get (D := D) (ci := 1) (v := .int 0) (C := RX1) (T := TX1) (N := 17) hx hb hts hin hown hK hP 0 rfl rfl 3 (by decide) hf64 (fun _ h9 => h9) rfl dX1_count_22 ?_
      refine lv_if_le (tgt := 32) hx hb dX1_count_25 (by decide) (fun c25 => ?_) (fun c25 => ?_)
      · refine lv_aload_n hx hb dX1_count_32 rfl (lv_at hl 0 rfl) ?_
        refine va_get (D := D) (ci := 1) (v := .ref (a 7)) (C := RX1) (T := TX1) (N := 17) hx hb hts hin hown hK hP 0 rfl rfl 13 (by decide) hf35 (fun _ h9 => h9) rfl dX1_count_33 ?_
        refine lv_iload_n hx hb dX1_count_36 rfl (lv_at hl 1 rfl) ?_
        refine zz_iald hx hb hK hP 8 7 rfl rfl (by omega) (by decide) dX1_count_37 ?_
        exact zz_ri (F, sp, 0, ck) hx hb hr hlocks hP hK hD hS (Or.inr ⟨k, hk, rfl, rfl, rfl⟩) dX1_count_38
      · exact absurd (by decide) c25
set_option maxHeartbeats 1000000 in
set_option maxRecDepth 100000 in
/-- cM_words -/
theorem cM_words (l : Launch) (D : va_G) (h : Nat) (a : Nat → Nat) (cA : Nat → ClassId) (nL nC nB sz : Nat) (hn : nL ≤ 8 ∧ nC ≤ 8 ∧ nB ≤ 8) (F : Nat → Nat → Int32) (sp : Nat → Int64) (cd : Int32) (ck : Int64) (x : Int32)  : Met l yX1_words wsX1_words ({ frames := 0, cells := 0, slots := 0, locals := 0 }) (va_Pc [.ref h, .int x] (zz_Pre D vwCl (mT cA) (mW h a cA nL nC nB F sp cd ck) sz)) (va_Qi (fun (r : Int32) (u : mS) => mp_get nB 8 F sp ck x r u) (zz_At D vwCl (mT cA) (fun u : mS => mW h a cA nL nC nB u.1 u.2.1 u.2.2.1 u.2.2.2) (va_A (mW h a cA nL nC nB F sp cd ck) sz)) (va_A (mW h a cA nL nC nB F sp cd ck) sz)) 0 0 (va_A (mW h a cA nL nC nB F sp cd ck) sz) := by
  obtain ⟨hnL, hnC, hnB⟩ := hn
  have hn : nL ≤ 8 ∧ nC ≤ 8 ∧ nB ≤ 8 := ⟨hnL, hnC, hnB⟩
  refine zz_of (Qc := fun A => va_Qi (fun (r : Int32) (u : mS) => mp_get nB 8 F sp ck x r u) (zz_At D vwCl (mT cA) (fun u : mS => mW h a cA nL nC nB u.1 u.2.1 u.2.2.1 u.2.2.2) A) A) (by decide) rfl (Nat.le_of_ble_eq_true rfl) ?_
  intro p e s m args below meth c A H locs ls0 hx hb hr hml hown hts hlocks hnm hA hP hK hD hS hl
  have hown : s.vm.findClass RX1 = some m.cls := hown
  have hl : lv_has ls0 2 [(0, .ref h), (1, .int x)] := hl
  have hin : ∀ w ∈ u_ws RX1 TX1 17, w ∈ wsX1_words := by decide +kernel
  have hf38 := hts (.fieldLink RX1 38 "PriorityCoreModel" "wordCounts" "[I") (by decide +kernel)
  have hf58 := hts (.fieldLink RX1 58 "PriorityCoreModel" "boxes" "I") (by decide +kernel)
  have hf64 := hts (.fieldLink RX1 64 "PriorityCoreModel" "code" "I") (by decide +kernel)
  refine lv_aload_n hx hb dX1_words_0 rfl (lv_at hl 0 rfl) ?_
  refine lv_iload_n hx hb dX1_words_1 rfl (lv_at hl 1 rfl) ?_
  refine lv_if_lt (tgt := 17) hx hb dX1_words_2 (by decide) (fun c2 => ?_) (fun c2 => ?_)
  · have hxn : ¬ sp_in nB x := zn_no1 (by omega) c2
    refine lv_iconst (v := 1) hx hb dX1_words_17 (by decide) ?_
    refine va_put (D := D) (ci := 1) (v := .int 1) (ty := .int) (C := RX1) (T := TX1) (N := 17) hx hb hts hin tyX1 tyX1_ok nmX1 hown hK hP hD hS 0 rfl rfl 3 (by decide) hf64 (fun _ h9 => h9) rfl (by decide +kernel) rfl rfl (Nat.le_of_ble_eq_true rfl) dX1_words_18 (fun H locs hP hD hS => ?_)
    have hP : va_P D vwCl (mW h a cA nL nC nB F sp 1 ck) H := hP
    have hD : va_D A (mW h a cA nL nC nB F sp 1 ck) := hD
    refine lv_aload_n hx hb dX1_words_21 rfl (lv_at hl 0 rfl) ?_
    refine va_get (D := D) (ci := 1) (v := .int 1) (C := RX1) (T := TX1) (N := 17) hx hb hts hin hown hK hP 0 rfl rfl 3 (by decide) hf64 (fun _ h9 => h9) rfl dX1_words_22 ?_
    refine lv_if_le (tgt := 32) hx hb dX1_words_25 (by decide) (fun c25 => ?_) (fun c25 => ?_)
    · exact absurd c25 (by decide)
    · refine lv_iconst (v := 0) hx hb dX1_words_28 (by decide) ?_
      refine lv_goto (tgt := 38) hx hb dX1_words_29 (by decide) ?_
      exact zz_ri (F, sp, 1, ck) hx hb hr hlocks hP hK hD hS (Or.inl ⟨hxn, rfl⟩) dX1_words_38
  · refine lv_iload_n hx hb dX1_words_5 rfl (lv_at hl 1 rfl) ?_
    refine lv_aload_n hx hb dX1_words_6 rfl (lv_at hl 0 rfl) ?_
    refine va_get (D := D) (ci := 1) (v := .int (nI nB)) (C := RX1) (T := TX1) (N := 17) hx hb hts hin hown hK hP 0 rfl rfl 2 (by decide) hf58 (fun _ h9 => h9) rfl dX1_words_7 ?_
    refine lv_icmp_ge (tgt := 17) hx hb dX1_words_10 (by decide) (fun c10 => ?_) (fun c10 => ?_)
    · have hxn : ¬ sp_in nB x := zn_no2 (by omega) (Int32.not_lt.mpr c10)
      refine lv_iconst (v := 1) hx hb dX1_words_17 (by decide) ?_
      refine va_put (D := D) (ci := 1) (v := .int 1) (ty := .int) (C := RX1) (T := TX1) (N := 17) hx hb hts hin tyX1 tyX1_ok nmX1 hown hK hP hD hS 0 rfl rfl 3 (by decide) hf64 (fun _ h9 => h9) rfl (by decide +kernel) rfl rfl (Nat.le_of_ble_eq_true rfl) dX1_words_18 (fun H locs hP hD hS => ?_)
      have hP : va_P D vwCl (mW h a cA nL nC nB F sp 1 ck) H := hP
      have hD : va_D A (mW h a cA nL nC nB F sp 1 ck) := hD
      refine lv_aload_n hx hb dX1_words_21 rfl (lv_at hl 0 rfl) ?_
      refine va_get (D := D) (ci := 1) (v := .int 1) (C := RX1) (T := TX1) (N := 17) hx hb hts hin hown hK hP 0 rfl rfl 3 (by decide) hf64 (fun _ h9 => h9) rfl dX1_words_22 ?_
      refine lv_if_le (tgt := 32) hx hb dX1_words_25 (by decide) (fun c25 => ?_) (fun c25 => ?_)
      · exact absurd c25 (by decide)
      · refine lv_iconst (v := 0) hx hb dX1_words_28 (by decide) ?_
        refine lv_goto (tgt := 38) hx hb dX1_words_29 (by decide) ?_
        exact zz_ri (F, sp, 1, ck) hx hb hr hlocks hP hK hD hS (Or.inl ⟨hxn, rfl⟩) dX1_words_38
    · have hxi : sp_in nB x := zn_ix (by omega) c2 (Int32.not_le.mp c10)
      have hxj := hxi
      obtain ⟨k, hk, hxe⟩ := hxi
      subst hxe
      have hl : lv_has ls0 2 [(0, .ref h), (1, .int (nI k))] := hl
      refine lv_iconst (v := 0) hx hb dX1_words_13 (by decide) ?_
      refine lv_goto (tgt := 18) hx hb dX1_words_14 (by decide) ?_
      refine va_put (D := D) (ci := 1) (v := .int 0) (ty := .int) (C := RX1) (T := TX1) (N := 17) hx hb hts hin tyX1 tyX1_ok nmX1 hown hK hP hD hS 0 rfl rfl 3 (by decide) hf64 (fun _ h9 => h9) rfl (by decide +kernel) rfl rfl (Nat.le_of_ble_eq_true rfl) dX1_words_18 (fun H locs hP hD hS => ?_)
      have hP : va_P D vwCl (mW h a cA nL nC nB F sp 0 ck) H := hP
      have hD : va_D A (mW h a cA nL nC nB F sp 0 ck) := hD
      refine lv_aload_n hx hb dX1_words_21 rfl (lv_at hl 0 rfl) ?_
      refine va_get (D := D) (ci := 1) (v := .int 0) (C := RX1) (T := TX1) (N := 17) hx hb hts hin hown hK hP 0 rfl rfl 3 (by decide) hf64 (fun _ h9 => h9) rfl dX1_words_22 ?_
      refine lv_if_le (tgt := 32) hx hb dX1_words_25 (by decide) (fun c25 => ?_) (fun c25 => ?_)
      · refine lv_aload_n hx hb dX1_words_32 rfl (lv_at hl 0 rfl) ?_
        refine va_get (D := D) (ci := 1) (v := .ref (a 8)) (C := RX1) (T := TX1) (N := 17) hx hb hts hin hown hK hP 0 rfl rfl 14 (by decide) hf38 (fun _ h9 => h9) rfl dX1_words_33 ?_
        refine lv_iload_n hx hb dX1_words_36 rfl (lv_at hl 1 rfl) ?_
        refine zz_iald hx hb hK hP 9 8 rfl rfl (by omega) (by decide) dX1_words_37 ?_
        exact zz_ri (F, sp, 0, ck) hx hb hr hlocks hP hK hD hS (Or.inr ⟨k, hk, rfl, rfl, rfl⟩) dX1_words_38
      · exact absurd (by decide) c25
set_option maxHeartbeats 1000000 in
set_option maxRecDepth 100000 in
/-- cM_first -/
theorem cM_first (l : Launch) (D : va_G) (h : Nat) (a : Nat → Nat) (cA : Nat → ClassId) (nL nC nB sz : Nat) (hn : nL ≤ 8 ∧ nC ≤ 8 ∧ nB ≤ 8) (F : Nat → Nat → Int32) (sp : Nat → Int64) (cd : Int32) (ck : Int64) (x y : Int32) (hI : ms_I F) : Met l yX1_first wsX1_first ({ frames := 2, cells := 0, slots := 0, locals := 49 }) (va_Pc [.ref h, .int x, .int y] (zz_Pre D vwCl (mT cA) (mW h a cA nL nC nB F sp cd ck) sz)) (va_Qi (fun (r : Int32) (u : mS) => mp_first nL nC nB F sp ck x y r u) (zz_At D vwCl (mT cA) (fun u : mS => mW h a cA nL nC nB u.1 u.2.1 u.2.2.1 u.2.2.2) (va_A (mW h a cA nL nC nB F sp cd ck) sz)) (va_A (mW h a cA nL nC nB F sp cd ck) sz)) 0 0 (va_A (mW h a cA nL nC nB F sp cd ck) sz) := by
  obtain ⟨hnL, hnC, hnB⟩ := hn
  have hn : nL ≤ 8 ∧ nC ≤ 8 ∧ nB ≤ 8 := ⟨hnL, hnC, hnB⟩
  refine zz_of (Qc := fun A => va_Qi (fun (r : Int32) (u : mS) => mp_first nL nC nB F sp ck x y r u) (zz_At D vwCl (mT cA) (fun u : mS => mW h a cA nL nC nB u.1 u.2.1 u.2.2.1 u.2.2.2) A) A) (by decide) rfl (Nat.le_of_ble_eq_true rfl) ?_
  intro p e s m args below meth c A H locs ls0 hx hb hr hml hown hts hlocks hnm hA hP hK hD hS hl
  have hown : s.vm.findClass RX1 = some m.cls := hown
  have hl : lv_has ls0 4 [(0, .ref h), (1, .int x), (2, .int y)] := hl
  have hin : ∀ w ∈ u_ws RX1 TX1 17, w ∈ wsX1_first := by decide +kernel
  have hf51 := hts (.fieldLink RX1 51 "PriorityCoreModel" "locks" "I") (by decide +kernel)
  have hf55 := hts (.fieldLink RX1 55 "PriorityCoreModel" "counters" "I") (by decide +kernel)
  have hf58 := hts (.fieldLink RX1 58 "PriorityCoreModel" "boxes" "I") (by decide +kernel)
  have hf64 := hts (.fieldLink RX1 64 "PriorityCoreModel" "code" "I") (by decide +kernel)
  refine lv_iload_n hx hb dX1_first_0 rfl (lv_at hl 1 rfl) ?_
  refine lv_iconst (v := 2) hx hb dX1_first_1 (by decide) ?_
  refine lv_icmp_ne (tgt := 12) hx hb dX1_first_2 (by decide) (fun c2 => ?_) (fun c2 => ?_)
  · refine lv_iload_n hx hb dX1_first_12 rfl (lv_at hl 1 rfl) ?_
    refine lv_iconst (v := 3) hx hb dX1_first_13 (by decide) ?_
    refine lv_icmp_ne (tgt := 24) hx hb dX1_first_14 (by decide) (fun c14 => ?_) (fun c14 => ?_)
    · have hmy : (if x = 2 then nL else if x = 3 then nC else nB) = nB := by rw [if_neg c2, if_neg c14]
      refine lv_aload_n hx hb dX1_first_24 rfl (lv_at hl 0 rfl) ?_
      refine va_get (D := D) (ci := 1) (v := .int (nI nB)) (C := RX1) (T := TX1) (N := 17) hx hb hts hin hown hK hP 0 rfl rfl 2 (by decide) hf58 (fun _ h9 => h9) rfl dX1_first_25 ?_
      refine lv_istore_n (lv' := [(3, .int (nI nB)), (0, .ref h), (1, .int x), (2, .int y)]) hx hb dX1_first_28 rfl hl (by decide) rfl (fun ls0 hl => ?_)
      refine lv_aload_n hx hb dX1_first_29 rfl (lv_at hl 1 rfl) ?_
      refine lv_iload_n hx hb dX1_first_30 rfl (lv_at hl 2 rfl) ?_
      refine lv_iconst (v := 2) hx hb dX1_first_31 (by decide) ?_
      refine lv_icmp_lt (tgt := 40) hx hb dX1_first_32 (by decide) (fun c32 => ?_) (fun c32 => ?_)
      · have hbx : x < 2 ∨ ¬ x ≤ 5 := Or.inl c32
        refine lv_iconst (v := 1) hx hb dX1_first_40 (by decide) ?_
        refine lv_goto (tgt := 58) hx hb dX1_first_41 (by decide) ?_
        refine va_put (D := D) (ci := 1) (v := .int 1) (ty := .int) (C := RX1) (T := TX1) (N := 17) hx hb hts hin tyX1 tyX1_ok nmX1 hown hK hP hD hS 0 rfl rfl 3 (by decide) hf64 (fun _ h9 => h9) rfl (by decide +kernel) rfl rfl (Nat.le_of_ble_eq_true rfl) dX1_first_58 (fun H locs hP hD hS => ?_)
        have hP : va_P D vwCl (mW h a cA nL nC nB F sp 1 ck) H := hP
        have hD : va_D A (mW h a cA nL nC nB F sp 1 ck) := hD
        refine lv_aload_n hx hb dX1_first_61 rfl (lv_at hl 1 rfl) ?_
        refine va_get (D := D) (ci := 1) (v := .int 1) (C := RX1) (T := TX1) (N := 17) hx hb hts hin hown hK hP 0 rfl rfl 3 (by decide) hf64 (fun _ h9 => h9) rfl dX1_first_62 ?_
        refine lv_if_le (tgt := 72) hx hb dX1_first_65 (by decide) (fun c65 => ?_) (fun c65 => ?_)
        · exact absurd c65 (by decide)
        · refine lv_iconst (v := 0) hx hb dX1_first_68 (by decide) ?_
          refine lv_goto (tgt := 78) hx hb dX1_first_69 (by decide) ?_
          exact zz_ri (F, sp, 1, ck) hx hb hr hlocks hP hK hD hS (Or.inl ⟨hbx, rfl⟩) dX1_first_78
      · refine lv_iload_n hx hb dX1_first_35 rfl (lv_at hl 2 rfl) ?_
        refine lv_iconst (v := 5) hx hb dX1_first_36 (by decide) ?_
        refine lv_icmp_le (tgt := 44) hx hb dX1_first_37 (by decide) (fun c37 => ?_) (fun c37 => ?_)
        · refine lv_iload_n hx hb dX1_first_44 rfl (lv_at hl 3 rfl) ?_
          refine lv_if_lt (tgt := 53) hx hb dX1_first_45 (by decide) (fun c45 => ?_) (fun c45 => ?_)
          · have hyn : ¬ sp_in (if x = 2 then nL else if x = 3 then nC else nB) y := by rw [hmy]; exact zn_no1 (by omega) c45
            refine lv_iconst (v := 2) hx hb dX1_first_53 (by decide) ?_
            refine lv_goto (tgt := 58) hx hb dX1_first_54 (by decide) ?_
            refine va_put (D := D) (ci := 1) (v := .int 2) (ty := .int) (C := RX1) (T := TX1) (N := 17) hx hb hts hin tyX1 tyX1_ok nmX1 hown hK hP hD hS 0 rfl rfl 3 (by decide) hf64 (fun _ h9 => h9) rfl (by decide +kernel) rfl rfl (Nat.le_of_ble_eq_true rfl) dX1_first_58 (fun H locs hP hD hS => ?_)
            have hP : va_P D vwCl (mW h a cA nL nC nB F sp 2 ck) H := hP
            have hD : va_D A (mW h a cA nL nC nB F sp 2 ck) := hD
            refine lv_aload_n hx hb dX1_first_61 rfl (lv_at hl 1 rfl) ?_
            refine va_get (D := D) (ci := 1) (v := .int 2) (C := RX1) (T := TX1) (N := 17) hx hb hts hin hown hK hP 0 rfl rfl 3 (by decide) hf64 (fun _ h9 => h9) rfl dX1_first_62 ?_
            refine lv_if_le (tgt := 72) hx hb dX1_first_65 (by decide) (fun c65 => ?_) (fun c65 => ?_)
            · exact absurd c65 (by decide)
            · refine lv_iconst (v := 0) hx hb dX1_first_68 (by decide) ?_
              refine lv_goto (tgt := 78) hx hb dX1_first_69 (by decide) ?_
              exact zz_ri (F, sp, 2, ck) hx hb hr hlocks hP hK hD hS (Or.inr (Or.inl ⟨Int32.not_lt.mp c32, c37, hyn, rfl⟩)) dX1_first_78
          · refine lv_iload_n hx hb dX1_first_48 rfl (lv_at hl 3 rfl) ?_
            refine lv_iload_n hx hb dX1_first_49 rfl (lv_at hl 0 rfl) ?_
            refine lv_icmp_lt (tgt := 57) hx hb dX1_first_50 (by decide) (fun c50 => ?_) (fun c50 => ?_)
            · have hyi : sp_in (if x = 2 then nL else if x = 3 then nC else nB) y := by rw [hmy]; exact zn_ix (by omega) c45 c50
              refine lv_iconst (v := 0) hx hb dX1_first_57 (by decide) ?_
              refine va_put (D := D) (ci := 1) (v := .int 0) (ty := .int) (C := RX1) (T := TX1) (N := 17) hx hb hts hin tyX1 tyX1_ok nmX1 hown hK hP hD hS 0 rfl rfl 3 (by decide) hf64 (fun _ h9 => h9) rfl (by decide +kernel) rfl rfl (Nat.le_of_ble_eq_true rfl) dX1_first_58 (fun H locs hP hD hS => ?_)
              have hP : va_P D vwCl (mW h a cA nL nC nB F sp 0 ck) H := hP
              have hD : va_D A (mW h a cA nL nC nB F sp 0 ck) := hD
              refine lv_aload_n hx hb dX1_first_61 rfl (lv_at hl 1 rfl) ?_
              refine va_get (D := D) (ci := 1) (v := .int 0) (C := RX1) (T := TX1) (N := 17) hx hb hts hin hown hK hP 0 rfl rfl 3 (by decide) hf64 (fun _ h9 => h9) rfl dX1_first_62 ?_
              refine lv_if_le (tgt := 72) hx hb dX1_first_65 (by decide) (fun c65 => ?_) (fun c65 => ?_)
              · refine lv_aload_n hx hb dX1_first_72 rfl (lv_at hl 1 rfl) ?_
                refine lv_iload_n hx hb dX1_first_73 rfl (lv_at hl 2 rfl) ?_
                refine lv_iload_n hx hb dX1_first_74 rfl (lv_at hl 3 rfl) ?_
                refine zz_ci (va_runV (As := [.int x, .int y]) (rest := []) ⟨hx, hb, hml, hown, hts⟩ (cM_firstOf l D h a cA nL nC nB H.size hn F sp 0 ck x y hI) (cwV 2 hts gX1_first_X1_firstOf rfl rfl rfl (by decide +kernel) ⟨(Nat.le_of_ble_eq_true rfl), (Nat.le_of_ble_eq_true rfl)⟩) (zz_pV hP hK hD (va_recv hK hP (ci := 1) (q0 := 0) rfl rfl)) rfl rfl hl.1 rfl (lv_room (Nat.le_of_ble_eq_true rfl)) dX1_first_75 ⟨(Nat.le_of_ble_eq_true rfl), (Nat.le_of_ble_eq_true rfl)⟩) hD hS hA (fun r u H locs hw hP hD hS => ?_)
                obtain ⟨E2, n2, hu, hfo2, hre⟩ := hw
                subst hu
                subst hre
                have hfo2 : ms_fo F sp x y E2 n2 := hfo2
                have hP : va_P D vwCl (mW h a cA nL nC nB (va_up F 10 E2) sp 0 ck) H := hP
                have hD : va_D A (mW h a cA nL nC nB (va_up F 10 E2) sp 0 ck) := hD
                exact zz_ri (va_up F 10 E2, sp, 0, ck) hx hb hr hlocks hP hK hD hS (Or.inr (Or.inr ⟨Int32.not_lt.mp c32, c37, hyi, E2, n2, hfo2, rfl, rfl⟩)) dX1_first_78
              · exact absurd (by decide) c65
            · have hyn : ¬ sp_in (if x = 2 then nL else if x = 3 then nC else nB) y := by rw [hmy]; exact zn_no2 (by omega) c50
              refine lv_iconst (v := 2) hx hb dX1_first_53 (by decide) ?_
              refine lv_goto (tgt := 58) hx hb dX1_first_54 (by decide) ?_
              refine va_put (D := D) (ci := 1) (v := .int 2) (ty := .int) (C := RX1) (T := TX1) (N := 17) hx hb hts hin tyX1 tyX1_ok nmX1 hown hK hP hD hS 0 rfl rfl 3 (by decide) hf64 (fun _ h9 => h9) rfl (by decide +kernel) rfl rfl (Nat.le_of_ble_eq_true rfl) dX1_first_58 (fun H locs hP hD hS => ?_)
              have hP : va_P D vwCl (mW h a cA nL nC nB F sp 2 ck) H := hP
              have hD : va_D A (mW h a cA nL nC nB F sp 2 ck) := hD
              refine lv_aload_n hx hb dX1_first_61 rfl (lv_at hl 1 rfl) ?_
              refine va_get (D := D) (ci := 1) (v := .int 2) (C := RX1) (T := TX1) (N := 17) hx hb hts hin hown hK hP 0 rfl rfl 3 (by decide) hf64 (fun _ h9 => h9) rfl dX1_first_62 ?_
              refine lv_if_le (tgt := 72) hx hb dX1_first_65 (by decide) (fun c65 => ?_) (fun c65 => ?_)
              · exact absurd c65 (by decide)
              · refine lv_iconst (v := 0) hx hb dX1_first_68 (by decide) ?_
                refine lv_goto (tgt := 78) hx hb dX1_first_69 (by decide) ?_
                exact zz_ri (F, sp, 2, ck) hx hb hr hlocks hP hK hD hS (Or.inr (Or.inl ⟨Int32.not_lt.mp c32, c37, hyn, rfl⟩)) dX1_first_78
        · have hbx : x < 2 ∨ ¬ x ≤ 5 := Or.inr c37
          refine lv_iconst (v := 1) hx hb dX1_first_40 (by decide) ?_
          refine lv_goto (tgt := 58) hx hb dX1_first_41 (by decide) ?_
          refine va_put (D := D) (ci := 1) (v := .int 1) (ty := .int) (C := RX1) (T := TX1) (N := 17) hx hb hts hin tyX1 tyX1_ok nmX1 hown hK hP hD hS 0 rfl rfl 3 (by decide) hf64 (fun _ h9 => h9) rfl (by decide +kernel) rfl rfl (Nat.le_of_ble_eq_true rfl) dX1_first_58 (fun H locs hP hD hS => ?_)
          have hP : va_P D vwCl (mW h a cA nL nC nB F sp 1 ck) H := hP
          have hD : va_D A (mW h a cA nL nC nB F sp 1 ck) := hD
          refine lv_aload_n hx hb dX1_first_61 rfl (lv_at hl 1 rfl) ?_
          refine va_get (D := D) (ci := 1) (v := .int 1) (C := RX1) (T := TX1) (N := 17) hx hb hts hin hown hK hP 0 rfl rfl 3 (by decide) hf64 (fun _ h9 => h9) rfl dX1_first_62 ?_
          refine lv_if_le (tgt := 72) hx hb dX1_first_65 (by decide) (fun c65 => ?_) (fun c65 => ?_)
          · exact absurd c65 (by decide)
          · refine lv_iconst (v := 0) hx hb dX1_first_68 (by decide) ?_
            refine lv_goto (tgt := 78) hx hb dX1_first_69 (by decide) ?_
            exact zz_ri (F, sp, 1, ck) hx hb hr hlocks hP hK hD hS (Or.inl ⟨hbx, rfl⟩) dX1_first_78
    · have hmy : (if x = 2 then nL else if x = 3 then nC else nB) = nC := by rw [if_neg c2, if_pos c14]
      refine lv_aload_n hx hb dX1_first_17 rfl (lv_at hl 0 rfl) ?_
      refine va_get (D := D) (ci := 1) (v := .int (nI nC)) (C := RX1) (T := TX1) (N := 17) hx hb hts hin hown hK hP 0 rfl rfl 1 (by decide) hf55 (fun _ h9 => h9) rfl dX1_first_18 ?_
      refine lv_goto (tgt := 28) hx hb dX1_first_21 (by decide) ?_
      refine lv_istore_n (lv' := [(3, .int (nI nC)), (0, .ref h), (1, .int x), (2, .int y)]) hx hb dX1_first_28 rfl hl (by decide) rfl (fun ls0 hl => ?_)
      refine lv_aload_n hx hb dX1_first_29 rfl (lv_at hl 1 rfl) ?_
      refine lv_iload_n hx hb dX1_first_30 rfl (lv_at hl 2 rfl) ?_
      refine lv_iconst (v := 2) hx hb dX1_first_31 (by decide) ?_
      refine lv_icmp_lt (tgt := 40) hx hb dX1_first_32 (by decide) (fun c32 => ?_) (fun c32 => ?_)
      · have hbx : x < 2 ∨ ¬ x ≤ 5 := Or.inl c32
        refine lv_iconst (v := 1) hx hb dX1_first_40 (by decide) ?_
        refine lv_goto (tgt := 58) hx hb dX1_first_41 (by decide) ?_
        refine va_put (D := D) (ci := 1) (v := .int 1) (ty := .int) (C := RX1) (T := TX1) (N := 17) hx hb hts hin tyX1 tyX1_ok nmX1 hown hK hP hD hS 0 rfl rfl 3 (by decide) hf64 (fun _ h9 => h9) rfl (by decide +kernel) rfl rfl (Nat.le_of_ble_eq_true rfl) dX1_first_58 (fun H locs hP hD hS => ?_)
        have hP : va_P D vwCl (mW h a cA nL nC nB F sp 1 ck) H := hP
        have hD : va_D A (mW h a cA nL nC nB F sp 1 ck) := hD
        refine lv_aload_n hx hb dX1_first_61 rfl (lv_at hl 1 rfl) ?_
        refine va_get (D := D) (ci := 1) (v := .int 1) (C := RX1) (T := TX1) (N := 17) hx hb hts hin hown hK hP 0 rfl rfl 3 (by decide) hf64 (fun _ h9 => h9) rfl dX1_first_62 ?_
        refine lv_if_le (tgt := 72) hx hb dX1_first_65 (by decide) (fun c65 => ?_) (fun c65 => ?_)
        · exact absurd c65 (by decide)
        · refine lv_iconst (v := 0) hx hb dX1_first_68 (by decide) ?_
          refine lv_goto (tgt := 78) hx hb dX1_first_69 (by decide) ?_
          exact zz_ri (F, sp, 1, ck) hx hb hr hlocks hP hK hD hS (Or.inl ⟨hbx, rfl⟩) dX1_first_78
      · refine lv_iload_n hx hb dX1_first_35 rfl (lv_at hl 2 rfl) ?_
        refine lv_iconst (v := 5) hx hb dX1_first_36 (by decide) ?_
        refine lv_icmp_le (tgt := 44) hx hb dX1_first_37 (by decide) (fun c37 => ?_) (fun c37 => ?_)
        · refine lv_iload_n hx hb dX1_first_44 rfl (lv_at hl 3 rfl) ?_
          refine lv_if_lt (tgt := 53) hx hb dX1_first_45 (by decide) (fun c45 => ?_) (fun c45 => ?_)
          · have hyn : ¬ sp_in (if x = 2 then nL else if x = 3 then nC else nB) y := by rw [hmy]; exact zn_no1 (by omega) c45
            refine lv_iconst (v := 2) hx hb dX1_first_53 (by decide) ?_
            refine lv_goto (tgt := 58) hx hb dX1_first_54 (by decide) ?_
            refine va_put (D := D) (ci := 1) (v := .int 2) (ty := .int) (C := RX1) (T := TX1) (N := 17) hx hb hts hin tyX1 tyX1_ok nmX1 hown hK hP hD hS 0 rfl rfl 3 (by decide) hf64 (fun _ h9 => h9) rfl (by decide +kernel) rfl rfl (Nat.le_of_ble_eq_true rfl) dX1_first_58 (fun H locs hP hD hS => ?_)
            have hP : va_P D vwCl (mW h a cA nL nC nB F sp 2 ck) H := hP
            have hD : va_D A (mW h a cA nL nC nB F sp 2 ck) := hD
            refine lv_aload_n hx hb dX1_first_61 rfl (lv_at hl 1 rfl) ?_
            refine va_get (D := D) (ci := 1) (v := .int 2) (C := RX1) (T := TX1) (N := 17) hx hb hts hin hown hK hP 0 rfl rfl 3 (by decide) hf64 (fun _ h9 => h9) rfl dX1_first_62 ?_
            refine lv_if_le (tgt := 72) hx hb dX1_first_65 (by decide) (fun c65 => ?_) (fun c65 => ?_)
            · exact absurd c65 (by decide)
            · refine lv_iconst (v := 0) hx hb dX1_first_68 (by decide) ?_
              refine lv_goto (tgt := 78) hx hb dX1_first_69 (by decide) ?_
              exact zz_ri (F, sp, 2, ck) hx hb hr hlocks hP hK hD hS (Or.inr (Or.inl ⟨Int32.not_lt.mp c32, c37, hyn, rfl⟩)) dX1_first_78
          · refine lv_iload_n hx hb dX1_first_48 rfl (lv_at hl 3 rfl) ?_
            refine lv_iload_n hx hb dX1_first_49 rfl (lv_at hl 0 rfl) ?_
            refine lv_icmp_lt (tgt := 57) hx hb dX1_first_50 (by decide) (fun c50 => ?_) (fun c50 => ?_)
            · have hyi : sp_in (if x = 2 then nL else if x = 3 then nC else nB) y := by rw [hmy]; exact zn_ix (by omega) c45 c50
              refine lv_iconst (v := 0) hx hb dX1_first_57 (by decide) ?_
              refine va_put (D := D) (ci := 1) (v := .int 0) (ty := .int) (C := RX1) (T := TX1) (N := 17) hx hb hts hin tyX1 tyX1_ok nmX1 hown hK hP hD hS 0 rfl rfl 3 (by decide) hf64 (fun _ h9 => h9) rfl (by decide +kernel) rfl rfl (Nat.le_of_ble_eq_true rfl) dX1_first_58 (fun H locs hP hD hS => ?_)
              have hP : va_P D vwCl (mW h a cA nL nC nB F sp 0 ck) H := hP
              have hD : va_D A (mW h a cA nL nC nB F sp 0 ck) := hD
              refine lv_aload_n hx hb dX1_first_61 rfl (lv_at hl 1 rfl) ?_
              refine va_get (D := D) (ci := 1) (v := .int 0) (C := RX1) (T := TX1) (N := 17) hx hb hts hin hown hK hP 0 rfl rfl 3 (by decide) hf64 (fun _ h9 => h9) rfl dX1_first_62 ?_
              refine lv_if_le (tgt := 72) hx hb dX1_first_65 (by decide) (fun c65 => ?_) (fun c65 => ?_)
              · refine lv_aload_n hx hb dX1_first_72 rfl (lv_at hl 1 rfl) ?_
                refine lv_iload_n hx hb dX1_first_73 rfl (lv_at hl 2 rfl) ?_
                refine lv_iload_n hx hb dX1_first_74 rfl (lv_at hl 3 rfl) ?_
                refine zz_ci (va_runV (As := [.int x, .int y]) (rest := []) ⟨hx, hb, hml, hown, hts⟩ (cM_firstOf l D h a cA nL nC nB H.size hn F sp 0 ck x y hI) (cwV 2 hts gX1_first_X1_firstOf rfl rfl rfl (by decide +kernel) ⟨(Nat.le_of_ble_eq_true rfl), (Nat.le_of_ble_eq_true rfl)⟩) (zz_pV hP hK hD (va_recv hK hP (ci := 1) (q0 := 0) rfl rfl)) rfl rfl hl.1 rfl (lv_room (Nat.le_of_ble_eq_true rfl)) dX1_first_75 ⟨(Nat.le_of_ble_eq_true rfl), (Nat.le_of_ble_eq_true rfl)⟩) hD hS hA (fun r u H locs hw hP hD hS => ?_)
                obtain ⟨E2, n2, hu, hfo2, hre⟩ := hw
                subst hu
                subst hre
                have hfo2 : ms_fo F sp x y E2 n2 := hfo2
                have hP : va_P D vwCl (mW h a cA nL nC nB (va_up F 10 E2) sp 0 ck) H := hP
                have hD : va_D A (mW h a cA nL nC nB (va_up F 10 E2) sp 0 ck) := hD
                exact zz_ri (va_up F 10 E2, sp, 0, ck) hx hb hr hlocks hP hK hD hS (Or.inr (Or.inr ⟨Int32.not_lt.mp c32, c37, hyi, E2, n2, hfo2, rfl, rfl⟩)) dX1_first_78
              · exact absurd (by decide) c65
            · have hyn : ¬ sp_in (if x = 2 then nL else if x = 3 then nC else nB) y := by rw [hmy]; exact zn_no2 (by omega) c50
              refine lv_iconst (v := 2) hx hb dX1_first_53 (by decide) ?_
              refine lv_goto (tgt := 58) hx hb dX1_first_54 (by decide) ?_
              refine va_put (D := D) (ci := 1) (v := .int 2) (ty := .int) (C := RX1) (T := TX1) (N := 17) hx hb hts hin tyX1 tyX1_ok nmX1 hown hK hP hD hS 0 rfl rfl 3 (by decide) hf64 (fun _ h9 => h9) rfl (by decide +kernel) rfl rfl (Nat.le_of_ble_eq_true rfl) dX1_first_58 (fun H locs hP hD hS => ?_)
              have hP : va_P D vwCl (mW h a cA nL nC nB F sp 2 ck) H := hP
              have hD : va_D A (mW h a cA nL nC nB F sp 2 ck) := hD
              refine lv_aload_n hx hb dX1_first_61 rfl (lv_at hl 1 rfl) ?_
              refine va_get (D := D) (ci := 1) (v := .int 2) (C := RX1) (T := TX1) (N := 17) hx hb hts hin hown hK hP 0 rfl rfl 3 (by decide) hf64 (fun _ h9 => h9) rfl dX1_first_62 ?_
              refine lv_if_le (tgt := 72) hx hb dX1_first_65 (by decide) (fun c65 => ?_) (fun c65 => ?_)
              · exact absurd c65 (by decide)
              · refine lv_iconst (v := 0) hx hb dX1_first_68 (by decide) ?_
                refine lv_goto (tgt := 78) hx hb dX1_first_69 (by decide) ?_
                exact zz_ri (F, sp, 2, ck) hx hb hr hlocks hP hK hD hS (Or.inr (Or.inl ⟨Int32.not_lt.mp c32, c37, hyn, rfl⟩)) dX1_first_78
        · have hbx : x < 2 ∨ ¬ x ≤ 5 := Or.inr c37
          refine lv_iconst (v := 1) hx hb dX1_first_40 (by decide) ?_
          refine lv_goto (tgt := 58) hx hb dX1_first_41 (by decide) ?_
          refine va_put (D := D) (ci := 1) (v := .int 1) (ty := .int) (C := RX1) (T := TX1) (N := 17) hx hb hts hin tyX1 tyX1_ok nmX1 hown hK hP hD hS 0 rfl rfl 3 (by decide) hf64 (fun _ h9 => h9) rfl (by decide +kernel) rfl rfl (Nat.le_of_ble_eq_true rfl) dX1_first_58 (fun H locs hP hD hS => ?_)
          have hP : va_P D vwCl (mW h a cA nL nC nB F sp 1 ck) H := hP
          have hD : va_D A (mW h a cA nL nC nB F sp 1 ck) := hD
          refine lv_aload_n hx hb dX1_first_61 rfl (lv_at hl 1 rfl) ?_
          refine va_get (D := D) (ci := 1) (v := .int 1) (C := RX1) (T := TX1) (N := 17) hx hb hts hin hown hK hP 0 rfl rfl 3 (by decide) hf64 (fun _ h9 => h9) rfl dX1_first_62 ?_
          refine lv_if_le (tgt := 72) hx hb dX1_first_65 (by decide) (fun c65 => ?_) (fun c65 => ?_)
          · exact absurd c65 (by decide)
          · refine lv_iconst (v := 0) hx hb dX1_first_68 (by decide) ?_
            refine lv_goto (tgt := 78) hx hb dX1_first_69 (by decide) ?_
            exact zz_ri (F, sp, 1, ck) hx hb hr hlocks hP hK hD hS (Or.inl ⟨hbx, rfl⟩) dX1_first_78
  · have hmy : (if x = 2 then nL else if x = 3 then nC else nB) = nL := by rw [if_pos c2]
    refine lv_aload_n hx hb dX1_first_5 rfl (lv_at hl 0 rfl) ?_
    refine va_get (D := D) (ci := 1) (v := .int (nI nL)) (C := RX1) (T := TX1) (N := 17) hx hb hts hin hown hK hP 0 rfl rfl 0 (by decide) hf51 (fun _ h9 => h9) rfl dX1_first_6 ?_
    refine lv_goto (tgt := 28) hx hb dX1_first_9 (by decide) ?_
    refine lv_istore_n (lv' := [(3, .int (nI nL)), (0, .ref h), (1, .int x), (2, .int y)]) hx hb dX1_first_28 rfl hl (by decide) rfl (fun ls0 hl => ?_)
    refine lv_aload_n hx hb dX1_first_29 rfl (lv_at hl 1 rfl) ?_
    refine lv_iload_n hx hb dX1_first_30 rfl (lv_at hl 2 rfl) ?_
    refine lv_iconst (v := 2) hx hb dX1_first_31 (by decide) ?_
    refine lv_icmp_lt (tgt := 40) hx hb dX1_first_32 (by decide) (fun c32 => ?_) (fun c32 => ?_)
    · have hbx : x < 2 ∨ ¬ x ≤ 5 := Or.inl c32
      refine lv_iconst (v := 1) hx hb dX1_first_40 (by decide) ?_
      refine lv_goto (tgt := 58) hx hb dX1_first_41 (by decide) ?_
      refine va_put (D := D) (ci := 1) (v := .int 1) (ty := .int) (C := RX1) (T := TX1) (N := 17) hx hb hts hin tyX1 tyX1_ok nmX1 hown hK hP hD hS 0 rfl rfl 3 (by decide) hf64 (fun _ h9 => h9) rfl (by decide +kernel) rfl rfl (Nat.le_of_ble_eq_true rfl) dX1_first_58 (fun H locs hP hD hS => ?_)
      have hP : va_P D vwCl (mW h a cA nL nC nB F sp 1 ck) H := hP
      have hD : va_D A (mW h a cA nL nC nB F sp 1 ck) := hD
      refine lv_aload_n hx hb dX1_first_61 rfl (lv_at hl 1 rfl) ?_
      refine va_get (D := D) (ci := 1) (v := .int 1) (C := RX1) (T := TX1) (N := 17) hx hb hts hin hown hK hP 0 rfl rfl 3 (by decide) hf64 (fun _ h9 => h9) rfl dX1_first_62 ?_
      refine lv_if_le (tgt := 72) hx hb dX1_first_65 (by decide) (fun c65 => ?_) (fun c65 => ?_)
      · exact absurd c65 (by decide)
      · refine lv_iconst (v := 0) hx hb dX1_first_68 (by decide) ?_
        refine lv_goto (tgt := 78) hx hb dX1_first_69 (by decide) ?_
        exact zz_ri (F, sp, 1, ck) hx hb hr hlocks hP hK hD hS (Or.inl ⟨hbx, rfl⟩) dX1_first_78
    · refine lv_iload_n hx hb dX1_first_35 rfl (lv_at hl 2 rfl) ?_
      refine lv_iconst (v := 5) hx hb dX1_first_36 (by decide) ?_
      refine lv_icmp_le (tgt := 44) hx hb dX1_first_37 (by decide) (fun c37 => ?_) (fun c37 => ?_)
      · refine lv_iload_n hx hb dX1_first_44 rfl (lv_at hl 3 rfl) ?_
        refine lv_if_lt (tgt := 53) hx hb dX1_first_45 (by decide) (fun c45 => ?_) (fun c45 => ?_)
        · have hyn : ¬ sp_in (if x = 2 then nL else if x = 3 then nC else nB) y := by rw [hmy]; exact zn_no1 (by omega) c45
          refine lv_iconst (v := 2) hx hb dX1_first_53 (by decide) ?_
          refine lv_goto (tgt := 58) hx hb dX1_first_54 (by decide) ?_
          refine va_put (D := D) (ci := 1) (v := .int 2) (ty := .int) (C := RX1) (T := TX1) (N := 17) hx hb hts hin tyX1 tyX1_ok nmX1 hown hK hP hD hS 0 rfl rfl 3 (by decide) hf64 (fun _ h9 => h9) rfl (by decide +kernel) rfl rfl (Nat.le_of_ble_eq_true rfl) dX1_first_58 (fun H locs hP hD hS => ?_)
          have hP : va_P D vwCl (mW h a cA nL nC nB F sp 2 ck) H := hP
          have hD : va_D A (mW h a cA nL nC nB F sp 2 ck) := hD
          refine lv_aload_n hx hb dX1_first_61 rfl (lv_at hl 1 rfl) ?_
          refine va_get (D := D) (ci := 1) (v := .int 2) (C := RX1) (T := TX1) (N := 17) hx hb hts hin hown hK hP 0 rfl rfl 3 (by decide) hf64 (fun _ h9 => h9) rfl dX1_first_62 ?_
          refine lv_if_le (tgt := 72) hx hb dX1_first_65 (by decide) (fun c65 => ?_) (fun c65 => ?_)
          · exact absurd c65 (by decide)
          · refine lv_iconst (v := 0) hx hb dX1_first_68 (by decide) ?_
            refine lv_goto (tgt := 78) hx hb dX1_first_69 (by decide) ?_
            exact zz_ri (F, sp, 2, ck) hx hb hr hlocks hP hK hD hS (Or.inr (Or.inl ⟨Int32.not_lt.mp c32, c37, hyn, rfl⟩)) dX1_first_78
        · refine lv_iload_n hx hb dX1_first_48 rfl (lv_at hl 3 rfl) ?_
          refine lv_iload_n hx hb dX1_first_49 rfl (lv_at hl 0 rfl) ?_
          refine lv_icmp_lt (tgt := 57) hx hb dX1_first_50 (by decide) (fun c50 => ?_) (fun c50 => ?_)
          · have hyi : sp_in (if x = 2 then nL else if x = 3 then nC else nB) y := by rw [hmy]; exact zn_ix (by omega) c45 c50
            refine lv_iconst (v := 0) hx hb dX1_first_57 (by decide) ?_
            refine va_put (D := D) (ci := 1) (v := .int 0) (ty := .int) (C := RX1) (T := TX1) (N := 17) hx hb hts hin tyX1 tyX1_ok nmX1 hown hK hP hD hS 0 rfl rfl 3 (by decide) hf64 (fun _ h9 => h9) rfl (by decide +kernel) rfl rfl (Nat.le_of_ble_eq_true rfl) dX1_first_58 (fun H locs hP hD hS => ?_)
            have hP : va_P D vwCl (mW h a cA nL nC nB F sp 0 ck) H := hP
            have hD : va_D A (mW h a cA nL nC nB F sp 0 ck) := hD
            refine lv_aload_n hx hb dX1_first_61 rfl (lv_at hl 1 rfl) ?_
            refine va_get (D := D) (ci := 1) (v := .int 0) (C := RX1) (T := TX1) (N := 17) hx hb hts hin hown hK hP 0 rfl rfl 3 (by decide) hf64 (fun _ h9 => h9) rfl dX1_first_62 ?_
            refine lv_if_le (tgt := 72) hx hb dX1_first_65 (by decide) (fun c65 => ?_) (fun c65 => ?_)
            · refine lv_aload_n hx hb dX1_first_72 rfl (lv_at hl 1 rfl) ?_
              refine lv_iload_n hx hb dX1_first_73 rfl (lv_at hl 2 rfl) ?_
              refine lv_iload_n hx hb dX1_first_74 rfl (lv_at hl 3 rfl) ?_
              refine zz_ci (va_runV (As := [.int x, .int y]) (rest := []) ⟨hx, hb, hml, hown, hts⟩ (cM_firstOf l D h a cA nL nC nB H.size hn F sp 0 ck x y hI) (cwV 2 hts gX1_first_X1_firstOf rfl rfl rfl (by decide +kernel) ⟨(Nat.le_of_ble_eq_true rfl), (Nat.le_of_ble_eq_true rfl)⟩) (zz_pV hP hK hD (va_recv hK hP (ci := 1) (q0 := 0) rfl rfl)) rfl rfl hl.1 rfl (lv_room (Nat.le_of_ble_eq_true rfl)) dX1_first_75 ⟨(Nat.le_of_ble_eq_true rfl), (Nat.le_of_ble_eq_true rfl)⟩) hD hS hA (fun r u H locs hw hP hD hS => ?_)
              obtain ⟨E2, n2, hu, hfo2, hre⟩ := hw
              subst hu
              subst hre
              have hfo2 : ms_fo F sp x y E2 n2 := hfo2
              have hP : va_P D vwCl (mW h a cA nL nC nB (va_up F 10 E2) sp 0 ck) H := hP
              have hD : va_D A (mW h a cA nL nC nB (va_up F 10 E2) sp 0 ck) := hD
              exact zz_ri (va_up F 10 E2, sp, 0, ck) hx hb hr hlocks hP hK hD hS (Or.inr (Or.inr ⟨Int32.not_lt.mp c32, c37, hyi, E2, n2, hfo2, rfl, rfl⟩)) dX1_first_78
            · exact absurd (by decide) c65
          · have hyn : ¬ sp_in (if x = 2 then nL else if x = 3 then nC else nB) y := by rw [hmy]; exact zn_no2 (by omega) c50
            refine lv_iconst (v := 2) hx hb dX1_first_53 (by decide) ?_
            refine lv_goto (tgt := 58) hx hb dX1_first_54 (by decide) ?_
            refine va_put (D := D) (ci := 1) (v := .int 2) (ty := .int) (C := RX1) (T := TX1) (N := 17) hx hb hts hin tyX1 tyX1_ok nmX1 hown hK hP hD hS 0 rfl rfl 3 (by decide) hf64 (fun _ h9 => h9) rfl (by decide +kernel) rfl rfl (Nat.le_of_ble_eq_true rfl) dX1_first_58 (fun H locs hP hD hS => ?_)
            have hP : va_P D vwCl (mW h a cA nL nC nB F sp 2 ck) H := hP
            have hD : va_D A (mW h a cA nL nC nB F sp 2 ck) := hD
            refine lv_aload_n hx hb dX1_first_61 rfl (lv_at hl 1 rfl) ?_
            refine va_get (D := D) (ci := 1) (v := .int 2) (C := RX1) (T := TX1) (N := 17) hx hb hts hin hown hK hP 0 rfl rfl 3 (by decide) hf64 (fun _ h9 => h9) rfl dX1_first_62 ?_
            refine lv_if_le (tgt := 72) hx hb dX1_first_65 (by decide) (fun c65 => ?_) (fun c65 => ?_)
            · exact absurd c65 (by decide)
            · refine lv_iconst (v := 0) hx hb dX1_first_68 (by decide) ?_
              refine lv_goto (tgt := 78) hx hb dX1_first_69 (by decide) ?_
              exact zz_ri (F, sp, 2, ck) hx hb hr hlocks hP hK hD hS (Or.inr (Or.inl ⟨Int32.not_lt.mp c32, c37, hyn, rfl⟩)) dX1_first_78
      · have hbx : x < 2 ∨ ¬ x ≤ 5 := Or.inr c37
        refine lv_iconst (v := 1) hx hb dX1_first_40 (by decide) ?_
        refine lv_goto (tgt := 58) hx hb dX1_first_41 (by decide) ?_
        refine va_put (D := D) (ci := 1) (v := .int 1) (ty := .int) (C := RX1) (T := TX1) (N := 17) hx hb hts hin tyX1 tyX1_ok nmX1 hown hK hP hD hS 0 rfl rfl 3 (by decide) hf64 (fun _ h9 => h9) rfl (by decide +kernel) rfl rfl (Nat.le_of_ble_eq_true rfl) dX1_first_58 (fun H locs hP hD hS => ?_)
        have hP : va_P D vwCl (mW h a cA nL nC nB F sp 1 ck) H := hP
        have hD : va_D A (mW h a cA nL nC nB F sp 1 ck) := hD
        refine lv_aload_n hx hb dX1_first_61 rfl (lv_at hl 1 rfl) ?_
        refine va_get (D := D) (ci := 1) (v := .int 1) (C := RX1) (T := TX1) (N := 17) hx hb hts hin hown hK hP 0 rfl rfl 3 (by decide) hf64 (fun _ h9 => h9) rfl dX1_first_62 ?_
        refine lv_if_le (tgt := 72) hx hb dX1_first_65 (by decide) (fun c65 => ?_) (fun c65 => ?_)
        · exact absurd c65 (by decide)
        · refine lv_iconst (v := 0) hx hb dX1_first_68 (by decide) ?_
          refine lv_goto (tgt := 78) hx hb dX1_first_69 (by decide) ?_
          exact zz_ri (F, sp, 1, ck) hx hb hr hlocks hP hK hD hS (Or.inl ⟨hbx, rfl⟩) dX1_first_78
set_option maxHeartbeats 1000000 in
set_option maxRecDepth 100000 in
/-- cM_tick -/
theorem cM_tick (l : Launch) (D : va_G) (h : Nat) (a : Nat → Nat) (cA : Nat → ClassId) (nL nC nB sz : Nat) (hn : nL ≤ 8 ∧ nC ≤ 8 ∧ nB ≤ 8) (F : Nat → Nat → Int32) (sp : Nat → Int64) (cd : Int32) (ck : Int64) (x : Int32) (T : Nat → Nat) (hT : tk_T (F 0) (F 3) T) : Met l yX1_tick wsX1_tick ({ frames := 1, cells := 0, slots := 0, locals := 23 }) (va_Pc [.ref h, .int x] (zz_Pre D vwCl (mT cA) (mW h a cA nL nC nB F sp cd ck) sz)) (va_Qi (fun (r : Int32) (u : mS) => mp_tick F sp ck T x r u) (zz_At D vwCl (mT cA) (fun u : mS => mW h a cA nL nC nB u.1 u.2.1 u.2.2.1 u.2.2.2) (va_A (mW h a cA nL nC nB F sp cd ck) sz)) (va_A (mW h a cA nL nC nB F sp cd ck) sz)) 0 0 (va_A (mW h a cA nL nC nB F sp cd ck) sz) := by
  obtain ⟨hnL, hnC, hnB⟩ := hn
  have hn : nL ≤ 8 ∧ nC ≤ 8 ∧ nB ≤ 8 := ⟨hnL, hnC, hnB⟩
  refine zz_of (Qc := fun A => va_Qi (fun (r : Int32) (u : mS) => mp_tick F sp ck T x r u) (zz_At D vwCl (mT cA) (fun u : mS => mW h a cA nL nC nB u.1 u.2.1 u.2.2.1 u.2.2.2) A) A) (by decide) rfl (Nat.le_of_ble_eq_true rfl) ?_
  intro p e s m args below meth c A H locs ls0 hx hb hr hml hown hts hlocks hnm hA hP hK hD hS hl
  have hown : s.vm.findClass RX1 = some m.cls := hown
  have hl : lv_has ls0 5 [(0, .ref h), (1, .int x)] := hl
  have hin : ∀ w ∈ u_ws RX1 TX1 17, w ∈ wsX1_tick := by decide +kernel
  have hf7 := hts (.fieldLink RX1 7 "PriorityCoreModel" "states" "[I") (by decide +kernel)
  have hf23 := hts (.fieldLink RX1 23 "PriorityCoreModel" "ticks" "[I") (by decide +kernel)
  have hf64 := hts (.fieldLink RX1 64 "PriorityCoreModel" "code" "I") (by decide +kernel)
  refine lv_aload_n hx hb dX1_tick_0 rfl (lv_at hl 0 rfl) ?_
  refine lv_iload_n hx hb dX1_tick_1 rfl (lv_at hl 1 rfl) ?_
  refine lv_if_lt (tgt := 12) hx hb dX1_tick_2 (by decide) (fun c2 => ?_) (fun c2 => ?_)
  · have hbx : ¬ (0 ≤ x ∧ x ≤ 1000) := fun q => Int32.not_lt.mpr q.1 c2
    refine lv_iconst (v := 1) hx hb dX1_tick_12 (by decide) ?_
    refine lv_goto (tgt := 17) hx hb dX1_tick_13 (by decide) ?_
    refine va_put (D := D) (ci := 1) (v := .int 1) (ty := .int) (C := RX1) (T := TX1) (N := 17) hx hb hts hin tyX1 tyX1_ok nmX1 hown hK hP hD hS 0 rfl rfl 3 (by decide) hf64 (fun _ h9 => h9) rfl (by decide +kernel) rfl rfl (Nat.le_of_ble_eq_true rfl) dX1_tick_17 (fun H locs hP hD hS => ?_)
    have hP : va_P D vwCl (mW h a cA nL nC nB F sp 1 ck) H := hP
    have hD : va_D A (mW h a cA nL nC nB F sp 1 ck) := hD
    refine lv_aload_n hx hb dX1_tick_20 rfl (lv_at hl 0 rfl) ?_
    refine va_get (D := D) (ci := 1) (v := .int 1) (C := RX1) (T := TX1) (N := 17) hx hb hts hin hown hK hP 0 rfl rfl 3 (by decide) hf64 (fun _ h9 => h9) rfl dX1_tick_21 ?_
    refine lv_if_le (tgt := 29) hx hb dX1_tick_24 (by decide) (fun c24 => ?_) (fun c24 => ?_)
    · exact absurd c24 (by decide)
    · refine lv_iconst (v := 0) hx hb dX1_tick_27 (by decide) ?_
      exact zz_ri (F, sp, 1, ck) hx hb hr hlocks hP hK hD hS (Or.inl ⟨hbx, rfl⟩) dX1_tick_28
  · refine lv_iload_n hx hb dX1_tick_5 rfl (lv_at hl 1 rfl) ?_
    refine lv_sipush (v := 1000) hx hb dX1_tick_6 (by decide) ?_
    refine lv_icmp_le (tgt := 16) hx hb dX1_tick_9 (by decide) (fun c9 => ?_) (fun c9 => ?_)
    · obtain ⟨mm, hm1, hxm⟩ : ∃ mm, mm ≤ 1000 ∧ x = nI mm := nI_of2 (by decide) c2 c9
      subst hxm
      have hl : lv_has ls0 5 [(0, .ref h), (1, .int (nI mm))] := hl
      refine lv_iconst (v := 0) hx hb dX1_tick_16 (by decide) ?_
      refine va_put (D := D) (ci := 1) (v := .int 0) (ty := .int) (C := RX1) (T := TX1) (N := 17) hx hb hts hin tyX1 tyX1_ok nmX1 hown hK hP hD hS 0 rfl rfl 3 (by decide) hf64 (fun _ h9 => h9) rfl (by decide +kernel) rfl rfl (Nat.le_of_ble_eq_true rfl) dX1_tick_17 (fun H locs hP hD hS => ?_)
      have hP : va_P D vwCl (mW h a cA nL nC nB F sp 0 ck) H := hP
      have hD : va_D A (mW h a cA nL nC nB F sp 0 ck) := hD
      refine lv_aload_n hx hb dX1_tick_20 rfl (lv_at hl 0 rfl) ?_
      refine va_get (D := D) (ci := 1) (v := .int 0) (C := RX1) (T := TX1) (N := 17) hx hb hts hin hown hK hP 0 rfl rfl 3 (by decide) hf64 (fun _ h9 => h9) rfl dX1_tick_21 ?_
      refine lv_if_le (tgt := 29) hx hb dX1_tick_24 (by decide) (fun c24 => ?_) (fun c24 => ?_)
      · refine lv_iconst (v := nI 0) hx hb dX1_tick_29 (by decide) ?_
        refine lv_istore_n (lv' := [(2, .int (nI 0)), (0, .ref h), (1, .int (nI mm))]) hx hb dX1_tick_30 rfl hl (by decide) rfl (fun ls0 hl => ?_)
        refine lv_iconst (v := nI 0) hx hb dX1_tick_31 (by decide) ?_
        refine lv_istore_n (lv' := [(3, .int (nI 0)), (2, .int (nI 0)), (0, .ref h), (1, .int (nI mm))]) hx hb dX1_tick_32 rfl hl (by decide) rfl (fun ls0 hl => ?_)
        have lp33 : ∀ (n33 : Nat) (k : Nat) (R0 R2 R3 : Nat → Int32) (q : Nat → Int64), (k ≤ mm) → (mm + 1 ≤ k + n33) → (tk_I F sp ck T k 0 R0 R2 R3 q) → ∀ (H : Heap) (locs : List Loc) (ls0 : Array Slot), va_P D vwCl (mW h a cA nL nC nB (va_up (va_up (va_up F 0 R0) 2 R2) 3 R3) q 0 (ck + lN (tk_n (F 0) T k 0))) H → va_D A (mW h a cA nL nC nB (va_up (va_up (va_up F 0 R0) 2 R2) 3 R3) q 0 (ck + lN (tk_n (F 0) T k 0))) → va_S A s.heap H locs → lv_has ls0 5 [(0, .ref h), (1, .int (nI mm)), (2, .int (nI (tk_n (F 0) T k 0))), (3, .int (nI k))] → W p l e ({ frames := 1, cells := 0, slots := 0, locals := 23 }) s m args below meth c H locs 0 0 (MQ below (va_Qi (fun (r : Int32) (u : mS) => mp_tick F sp ck T (nI mm) r u) (zz_At D vwCl (mT cA) (fun u : mS => mW h a cA nL nC nB u.1 u.2.1 u.2.2.1 u.2.2.2) A) A) args s 0 0 A) (F0 m 33 ls0 []) := by
          intro n33
          induction n33 with
          | zero =>
            intro k R0 R2 R3 q hk hm hE
            exact absurd True.intro (by omega)
          | succ n33 ih33 =>
            intro k R0 R2 R3 q hk hm hE H locs ls0 hP hD hS hl
            refine lv_iload_n hx hb dX1_tick_33 rfl (lv_at hl 3 rfl) ?_
            refine lv_iload_n hx hb dX1_tick_34 rfl (lv_at hl 1 rfl) ?_
            refine lv_icmp_ge (tgt := 104) hx hb dX1_tick_35 (by decide) (fun c35 => ?_) (fun c35 => ?_)
            · have hk2 : k = mm := Nat.le_antisymm hk (zn_ge rfl (by omega) (by omega) c35)
              subst hk2
              refine lv_iload_n hx hb dX1_tick_104 rfl (lv_at hl 2 rfl) ?_
              exact zz_ri (va_up (va_up (va_up F 0 R0) 2 R2) 3 R3, q, 0, ck + lN (tk_n (F 0) T k 0)) hx hb hr hlocks hP hK hD hS (Or.inr ⟨_, R0, R2, R3, q, hm1, rfl, hE, rfl, rfl⟩) dX1_tick_105
            · have hkm : k < mm := zn_lt rfl (by omega) (by omega) c35
              refine lv_iconst (v := nI 0) hx hb dX1_tick_38 (by decide) ?_
              refine lv_istore (lv' := [(4, .int (nI 0)), (0, .ref h), (1, .int (nI mm)), (2, .int (nI (tk_n (F 0) T k 0))), (3, .int (nI k))]) hx hb dX1_tick_39 hl (by decide) rfl (fun ls0 hl => ?_)
              have lp41 : ∀ (n41 : Nat) (i : Nat) (R0 R2 R3 : Nat → Int32) (q : Nat → Int64), (i ≤ 16) → (17 ≤ i + n41) → (tk_I F sp ck T k i R0 R2 R3 q) → ∀ (H : Heap) (locs : List Loc) (ls0 : Array Slot), va_P D vwCl (mW h a cA nL nC nB (va_up (va_up (va_up F 0 R0) 2 R2) 3 R3) q 0 (ck + lN (tk_n (F 0) T k i))) H → va_D A (mW h a cA nL nC nB (va_up (va_up (va_up F 0 R0) 2 R2) 3 R3) q 0 (ck + lN (tk_n (F 0) T k i))) → va_S A s.heap H locs → lv_has ls0 5 [(0, .ref h), (1, .int (nI mm)), (2, .int (nI (tk_n (F 0) T k i))), (3, .int (nI k)), (4, .int (nI i))] → W p l e ({ frames := 1, cells := 0, slots := 0, locals := 23 }) s m args below meth c H locs 0 0 (MQ below (va_Qi (fun (r : Int32) (u : mS) => mp_tick F sp ck T (nI mm) r u) (zz_At D vwCl (mT cA) (fun u : mS => mW h a cA nL nC nB u.1 u.2.1 u.2.2.1 u.2.2.2) A) A) args s 0 0 A) (F0 m 41 ls0 []) := by
                intro n41
                induction n41 with
                | zero =>
                  intro i R0 R2 R3 q hi hm2 hE
                  exact absurd True.intro (by omega)
                | succ n41 ih41 =>
                  intro i R0 R2 R3 q hi hm2 hE H locs ls0 hP hD hS hl
                  refine lv_iload hx hb dX1_tick_41 (lv_at hl 4 rfl) ?_
                  refine lv_bipush (v := 16) hx hb dX1_tick_43 (by decide) ?_
                  refine lv_icmp_ge (tgt := 98) hx hb dX1_tick_45 (by decide) (fun c45 => ?_) (fun c45 => ?_)
                  · have hi2 : i = 16 := Nat.le_antisymm hi (zn_ge rfl (by omega) (by decide) c45)
                    refine lv_iinc (v := nI (k + 1)) (lv' := [(3, .int (nI (k + 1))), (0, .ref h), (1, .int (nI mm)), (2, .int (nI (tk_n (F 0) T k i))), (4, .int (nI i))]) hx hb dX1_tick_98 hl (k := 3) rfl (nI_1 _) (by decide) rfl (fun ls0 hl => ?_)
                    refine lv_goto (tgt := 33) hx hb dX1_tick_101 (by decide) ?_
                    rw [hi2] at hE hl hP hD
                    rw [← tk_n_turn] at hP hD
                    exact ih33 (k + 1) _ _ _ _ (by omega) (by omega) (tk_I_turn hE) H locs ls0 hP hD hS (by rw [tk_n_turn]; exact lv_sub hl [1, 2, 3, 0] rfl)
                  · have hi16 : i < 16 := zn_lt rfl (by omega) (by decide) c45
                    refine lv_aload_n hx hb dX1_tick_48 rfl (lv_at hl 0 rfl) ?_
                    refine va_get (D := D) (ci := 1) (v := .ref (a 0)) (C := RX1) (T := TX1) (N := 17) hx hb hts hin hown hK hP 0 rfl rfl 5 (by decide) hf7 (fun _ h9 => h9) rfl dX1_tick_49 ?_
                    refine lv_iload hx hb dX1_tick_52 (lv_at hl 4 rfl) ?_
                    refine zz_iald hx hb hK hP 1 0 rfl rfl (hi16) (by decide) dX1_tick_54 ?_
                    refine lv_bipush (v := 6) hx hb dX1_tick_55 (by decide) ?_
                    refine lv_icmp_ne (tgt := 92) hx hb dX1_tick_57 (by decide) (fun c57 => ?_) (fun c57 => ?_)
                    · refine lv_iinc (v := nI (i + 1)) (lv' := [(4, .int (nI (i + 1))), (0, .ref h), (1, .int (nI mm)), (2, .int (nI (tk_n (F 0) T k i))), (3, .int (nI k))]) hx hb dX1_tick_92 hl (k := 4) rfl (nI_1 _) (by decide) rfl (fun ls0 hl => ?_)
                      refine lv_goto (tgt := 41) hx hb dX1_tick_95 (by decide) ?_
                      have hs := tk_a hi16 hE c57
                      have hP2 := hP
                      have hD2 := hD
                      rw [← hs.2] at hP2 hD2
                      have hs1 := hs.1
                      try rw [← hs.2] at hs1
                      exact ih41 (i + 1) _ _ _ _ (by omega) (by omega) hs1 H locs ls0 hP2 hD2 hS (by rw [hs.2]; exact lv_sub hl [1, 2, 3, 4, 0] rfl)
                    · obtain ⟨h6, hkT, hR3, hwf⟩ := tk_six hi16 hE c57
                      refine lv_aload_n hx hb dX1_tick_60 rfl (lv_at hl 0 rfl) ?_
                      refine va_get (D := D) (ci := 1) (v := .ref (a 3)) (C := RX1) (T := TX1) (N := 17) hx hb hts hin hown hK hP 0 rfl rfl 9 (by decide) hf23 (fun _ h9 => h9) rfl dX1_tick_61 ?_
                      refine lv_iload hx hb dX1_tick_64 (lv_at hl 4 rfl) ?_
                      refine lv_dup2_11 hx hb dX1_tick_66 rfl rfl ?_
                      refine zz_iald hx hb hK hP 4 3 rfl rfl (hi16) (by decide) dX1_tick_67 ?_
                      refine zz_top (y := nI (T i - k)) (hR3) ?_
                      refine lv_iconst (v := 1) hx hb dX1_tick_68 (by decide) ?_
                      refine lv_isub hx hb dX1_tick_69 ?_
                      refine zz_top (y := nI (T i - k - 1)) (pk_sub (b := 1) (by omega)) ?_
                      refine zz_iast (ws' := mW h a cA nL nC nB (va_up (va_up (va_up F 0 R0) 2 R2) 3 (upd R3 i (nI (T i - k - 1)))) q 0 (ck + lN (tk_n (F 0) T k i))) hx hb hK hP hD hS 4 3 rfl rfl (hi16) (by decide) rfl dX1_tick_70 (fun H locs hP hD hS => ?_)
                      refine lv_aload_n hx hb dX1_tick_71 rfl (lv_at hl 0 rfl) ?_
                      refine va_get (D := D) (ci := 1) (v := .ref (a 3)) (C := RX1) (T := TX1) (N := 17) hx hb hts hin hown hK hP 0 rfl rfl 9 (by decide) hf23 (fun _ h9 => h9) rfl dX1_tick_72 ?_
                      refine lv_iload hx hb dX1_tick_75 (lv_at hl 4 rfl) ?_
                      refine zz_iald hx hb hK hP 4 3 rfl rfl (hi16) (by decide) dX1_tick_77 ?_
                      refine zz_top (y := nI (T i - k - 1)) (pk_us) ?_
                      refine lv_if_ne (tgt := 92) hx hb dX1_tick_78 (by decide) (fun c78 => ?_) (fun c78 => ?_)
                      · refine lv_iinc (v := nI (i + 1)) (lv' := [(4, .int (nI (i + 1))), (0, .ref h), (1, .int (nI mm)), (2, .int (nI (tk_n (F 0) T k i))), (3, .int (nI k))]) hx hb dX1_tick_92 hl (k := 4) rfl (nI_1 _) (by decide) rfl (fun ls0 hl => ?_)
                        refine lv_goto (tgt := 41) hx hb dX1_tick_95 (by decide) ?_
                        have hs := tk_b hi16 hE (fun q => c78 (by rw [show T i - k - 1 = 0 by omega]; rfl))
                        have hP2 := hP
                        have hD2 := hD
                        rw [← hs.2] at hP2 hD2
                        have hs1 := hs.1
                        try rw [← hs.2] at hs1
                        exact ih41 (i + 1) _ _ _ _ (by omega) (by omega) hs1 H locs ls0 hP2 hD2 hS (by rw [hs.2]; exact lv_sub hl [1, 2, 3, 4, 0] rfl)
                      · have hTk : T i = k + 1 := by
                          have q : T i - k - 1 = 0 := (nI_eq (b := 0) (by have := (hT i hi16 h6).2; omega) (by decide)).mp c78
                          omega
                        refine lv_aload_n hx hb dX1_tick_81 rfl (lv_at hl 0 rfl) ?_
                        refine lv_iload hx hb dX1_tick_82 (lv_at hl 4 rfl) ?_
                        refine lv_iconst (v := 1) hx hb dX1_tick_84 (by decide) ?_
                        refine lv_iconst (v := 0) hx hb dX1_tick_85 (by decide) ?_
                        refine zz_cv (va_runV (As := [.int (nI i), .int 1, .int 0]) (rest := []) ⟨hx, hb, hml, hown, hts⟩ (cM_enter l D h a cA nL nC nB H.size hn (va_up (va_up (va_up F 0 R0) 2 R2) 3 (upd R3 i (nI (T i - k - 1)))) q 0 (ck + lN (tk_n (F 0) T k i)) i 1 0 hi16) (cwV 3 hts gX1_tick_X1_enter rfl rfl rfl (by decide +kernel) ⟨(Nat.le_of_ble_eq_true rfl), (Nat.le_of_ble_eq_true rfl)⟩) (zz_pV hP hK hD (va_recv hK hP (ci := 1) (q0 := 0) rfl rfl)) rfl rfl hl.1 rfl (lv_room (Nat.le_of_ble_eq_true rfl)) dX1_tick_86 ⟨(Nat.le_of_ble_eq_true rfl), (Nat.le_of_ble_eq_true rfl)⟩) hD hS hA (fun u H locs hw hP hD hS => ?_)
                        subst hw
                        have hP : va_P D vwCl (mW h a cA nL nC nB (va_up (va_up (va_up F 0 (upd R0 i 1)) 2 (upd R2 i 0)) 3 (upd R3 i (nI (T i - k - 1)))) (vp_updL q i (ck + lN (tk_n (F 0) T k i) + 1)) 0 (ck + lN (tk_n (F 0) T k i) + 1)) H := hP
                        have hD : va_D A (mW h a cA nL nC nB (va_up (va_up (va_up F 0 (upd R0 i 1)) 2 (upd R2 i 0)) 3 (upd R3 i (nI (T i - k - 1)))) (vp_updL q i (ck + lN (tk_n (F 0) T k i) + 1)) 0 (ck + lN (tk_n (F 0) T k i) + 1)) := hD
                        refine lv_iinc (v := nI (tk_n (F 0) T k i + 1)) (lv' := [(2, .int (nI (tk_n (F 0) T k i + 1))), (0, .ref h), (1, .int (nI mm)), (3, .int (nI k)), (4, .int (nI i))]) hx hb dX1_tick_89 hl (k := 2) rfl (nI_1 _) (by decide) rfl (fun ls0 hl => ?_)
                        refine lv_iinc (v := nI (i + 1)) (lv' := [(4, .int (nI (i + 1))), (2, .int (nI (tk_n (F 0) T k i + 1))), (0, .ref h), (1, .int (nI mm)), (3, .int (nI k))]) hx hb dX1_tick_92 hl (k := 4) rfl (nI_1 _) (by decide) rfl (fun ls0 hl => ?_)
                        refine lv_goto (tgt := 41) hx hb dX1_tick_95 (by decide) ?_
                        have hs := tk_c (x := nI (T i - k - 1)) hi16 hE h6 hTk
                        have hP2 := hP
                        have hD2 := hD
                        rw [show ck + lN (tk_n (F 0) T k i) + 1 = ck + lN (tk_n (F 0) T k (i + 1)) by rw [hs.2, Int64.add_assoc, lN_1]] at hP2 hD2
                        have hs1 := hs.1
                        try rw [show ck + lN (tk_n (F 0) T k i) + 1 = ck + lN (tk_n (F 0) T k (i + 1)) by rw [hs.2, Int64.add_assoc, lN_1]] at hs1
                        exact ih41 (i + 1) _ _ _ _ (by omega) (by omega) hs1 H locs ls0 hP2 hD2 hS (by rw [hs.2]; exact lv_sub hl [2, 3, 1, 4, 0] rfl)
              exact lp41 17 0 R0 R2 R3 q (by omega) (by omega) hE H locs ls0 hP hD hS (lv_sub hl [1, 2, 3, 4, 0] rfl)
        have e0 : tk_n (F 0) T 0 0 = 0 := tk_n0 hT
        have ec0 : ck + lN (tk_n (F 0) T 0 0) = ck := by rw [e0]; exact Int64.add_zero ck
        have hP : va_P D vwCl (mW h a cA nL nC nB (va_up (va_up (va_up F 0 (F 0)) 2 (F 2)) 3 (F 3)) sp 0 (ck + lN (tk_n (F 0) T 0 0))) H := by rw [ec0]; exact hP
        have hD : va_D A (mW h a cA nL nC nB (va_up (va_up (va_up F 0 (F 0)) 2 (F 2)) 3 (F 3)) sp 0 (ck + lN (tk_n (F 0) T 0 0))) := by rw [ec0]; exact hD
        exact lp33 (mm + 1) 0 (F 0) (F 2) (F 3) sp (by omega) (by omega) (tk_0 hT) H locs ls0 hP hD hS (by rw [e0]; exact lv_sub hl [2, 3, 1, 0] rfl)
      · exact absurd (by decide) c24
    · have hbx : ¬ (0 ≤ x ∧ x ≤ 1000) := fun q => c9 q.2
      refine lv_iconst (v := 1) hx hb dX1_tick_12 (by decide) ?_
      refine lv_goto (tgt := 17) hx hb dX1_tick_13 (by decide) ?_
      refine va_put (D := D) (ci := 1) (v := .int 1) (ty := .int) (C := RX1) (T := TX1) (N := 17) hx hb hts hin tyX1 tyX1_ok nmX1 hown hK hP hD hS 0 rfl rfl 3 (by decide) hf64 (fun _ h9 => h9) rfl (by decide +kernel) rfl rfl (Nat.le_of_ble_eq_true rfl) dX1_tick_17 (fun H locs hP hD hS => ?_)
      have hP : va_P D vwCl (mW h a cA nL nC nB F sp 1 ck) H := hP
      have hD : va_D A (mW h a cA nL nC nB F sp 1 ck) := hD
      refine lv_aload_n hx hb dX1_tick_20 rfl (lv_at hl 0 rfl) ?_
      refine va_get (D := D) (ci := 1) (v := .int 1) (C := RX1) (T := TX1) (N := 17) hx hb hts hin hown hK hP 0 rfl rfl 3 (by decide) hf64 (fun _ h9 => h9) rfl dX1_tick_21 ?_
      refine lv_if_le (tgt := 29) hx hb dX1_tick_24 (by decide) (fun c24 => ?_) (fun c24 => ?_)
      · exact absurd c24 (by decide)
      · refine lv_iconst (v := 0) hx hb dX1_tick_27 (by decide) ?_
        exact zz_ri (F, sp, 1, ck) hx hb hr hlocks hP hK hD hS (Or.inl ⟨hbx, rfl⟩) dX1_tick_28
