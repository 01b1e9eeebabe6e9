set_option maxHeartbeats 1000000 in
set_option maxRecDepth 100000 in
/-- cM_cut -/
theorem cM_cut (l : Launch) (D : va_G) (sz : Nat) (x : Int32)  : Met l yX1_cut wsX1_cut ({ frames := 0, cells := 0, slots := 0, locals := 0 }) (va_Pc [.int x] (zz_Pre D vwCl ([]) ([]) sz)) (va_Qi (fun (r : Int32) (u : Unit) => r = nI (pq_cut x)) (zz_At D vwCl ([]) (fun _ : Unit => []) (va_A ([]) sz)) (va_A ([]) sz)) 0 0 (va_A ([]) sz) := by
  refine zz_of (Qc := fun A => va_Qi (fun (r : Int32) (u : Unit) => r = nI (pq_cut x)) (zz_At D vwCl ([]) (fun _ : Unit => []) A) A) (by decide) rfl (Nat.le_of_ble_eq_true rfl) ?_
  intro p e s m args below meth c A H locs ls0 hx hb hr hml hown hts hlocks hnm hA hP hK hD hS hl
  have hown : s.vm.findClass RX1 = some m.cls := hown
  have hl : lv_has ls0 1 [(0, .int x)] := hl
  refine lv_iload_n hx hb dX1_cut_0 rfl (lv_at hl 0 rfl) ?_
  refine lv_if_ge (tgt := 8) hx hb dX1_cut_1 (by decide) (fun c1 => ?_) (fun c1 => ?_)
  · have c1 : ¬ x < 0 := Int32.not_lt.mpr c1
    refine lv_iload_n hx hb dX1_cut_8 rfl (lv_at hl 0 rfl) ?_
    refine lv_bipush (v := 8) hx hb dX1_cut_9 (by decide) ?_
    refine lv_icmp_le (tgt := 19) hx hb dX1_cut_11 (by decide) (fun c11 => ?_) (fun c11 => ?_)
    · refine lv_iload_n hx hb dX1_cut_19 rfl (lv_at hl 0 rfl) ?_
      exact zz_ri () hx hb hr hlocks hP hK hD hS (pq_cut_mid c1 c11) dX1_cut_20
    · refine lv_bipush (v := 8) hx hb dX1_cut_14 (by decide) ?_
      refine lv_goto (tgt := 20) hx hb dX1_cut_16 (by decide) ?_
      exact zz_ri () hx hb hr hlocks hP hK hD hS (pq_cut_hi c11) dX1_cut_20
  · refine lv_iconst (v := 0) hx hb dX1_cut_4 (by decide) ?_
    refine lv_goto (tgt := 20) hx hb dX1_cut_5 (by decide) ?_
    exact zz_ri () hx hb hr hlocks hP hK hD hS (pq_cut_lo (Int32.not_le.mp c1)) dX1_cut_20
set_option maxHeartbeats 1000000 in
set_option maxRecDepth 100000 in
/-- cM_thrown -/
theorem cM_thrown (l : Launch) (D : va_G) (h : Nat) (a : Nat → Nat) (cA : Nat → ClassId) (nL nC nB sz : Nat) (hn : nL ≤ 8 ∧ nC ≤ 8 ∧ nB ≤ 8) (F : Nat → Nat → Int32) (sp : Nat → Int64) (cd : Int32) (ck : Int64)   : Met l yX1_thrown wsX1_thrown ({ frames := 0, cells := 0, slots := 0, locals := 0 }) (va_Pc [.ref h] (zz_Pre D vwCl (mT cA) (mW h a cA nL nC nB F sp cd ck) sz)) (va_Qi (fun (r : Int32) (u : Unit) => r = cd) (zz_At D vwCl (mT cA) (fun _ : Unit => mW h a cA nL nC nB F sp cd ck) (va_A (mW h a cA nL nC nB F sp cd ck) sz)) (va_A (mW h a cA nL nC nB F sp cd ck) sz)) 0 0 (va_A (mW h a cA nL nC nB F sp cd ck) sz) := by
  obtain ⟨hnL, hnC, hnB⟩ := hn
  have hn : nL ≤ 8 ∧ nC ≤ 8 ∧ nB ≤ 8 := ⟨hnL, hnC, hnB⟩
  refine zz_of (Qc := fun A => va_Qi (fun (r : Int32) (u : Unit) => r = cd) (zz_At D vwCl (mT cA) (fun _ : Unit => mW h a cA nL nC nB F sp cd ck) A) A) (by decide) rfl (Nat.le_of_ble_eq_true rfl) ?_
  intro p e s m args below meth c A H locs ls0 hx hb hr hml hown hts hlocks hnm hA hP hK hD hS hl
  have hown : s.vm.findClass RX1 = some m.cls := hown
  have hl : lv_has ls0 1 [(0, .ref h)] := hl
  have hin : ∀ w ∈ u_ws RX1 TX1 17, w ∈ wsX1_thrown := by decide +kernel
  have hf64 := hts (.fieldLink RX1 64 "PriorityCoreModel" "code" "I") (by decide +kernel)
  refine lv_aload_n hx hb dX1_thrown_0 rfl (lv_at hl 0 rfl) ?_
  refine va_get (D := D) (ci := 1) (v := .int cd) (C := RX1) (T := TX1) (N := 17) hx hb hts hin hown hK hP 0 rfl rfl 3 (by decide) hf64 (fun _ h9 => h9) rfl dX1_thrown_1 ?_
  exact zz_ri () hx hb hr hlocks hP hK hD hS (rfl) dX1_thrown_4
set_option maxHeartbeats 1000000 in
set_option maxRecDepth 100000 in
/-- cM_isTask -/
theorem cM_isTask (l : Launch) (D : va_G) (sz : Nat) (x : Int32)  : Met l yX1_isTask wsX1_isTask ({ frames := 0, cells := 0, slots := 0, locals := 0 }) (va_Pc [.int x] (zz_Pre D vwCl ([]) ([]) sz)) (va_Qi (fun (r : Int32) (u : Unit) => (r = 1 ∧ sp_in 16 x) ∨ (r = 0 ∧ ¬ sp_in 16 x)) (zz_At D vwCl ([]) (fun _ : Unit => []) (va_A ([]) sz)) (va_A ([]) sz)) 0 0 (va_A ([]) sz) := by
  refine zz_of (Qc := fun A => va_Qi (fun (r : Int32) (u : Unit) => (r = 1 ∧ sp_in 16 x) ∨ (r = 0 ∧ ¬ sp_in 16 x)) (zz_At D vwCl ([]) (fun _ : Unit => []) A) A) (by decide) rfl (Nat.le_of_ble_eq_true rfl) ?_
  intro p e s m args below meth c A H locs ls0 hx hb hr hml hown hts hlocks hnm hA hP hK hD hS hl
  have hown : s.vm.findClass RX1 = some m.cls := hown
  have hl : lv_has ls0 1 [(0, .int x)] := hl
  refine lv_iload_n hx hb dX1_isTask_0 rfl (lv_at hl 0 rfl) ?_
  refine lv_if_lt (tgt := 14) hx hb dX1_isTask_1 (by decide) (fun c1 => ?_) (fun c1 => ?_)
  · refine lv_iconst (v := 0) hx hb dX1_isTask_14 (by decide) ?_
    exact zz_rz () hx hb hr hlocks (rfl) hP hK hD hS (Or.inr ⟨rfl, zn_no1 (by decide) c1⟩) dX1_isTask_15
  · refine lv_iload_n hx hb dX1_isTask_4 rfl (lv_at hl 0 rfl) ?_
    refine lv_bipush (v := 16) hx hb dX1_isTask_5 (by decide) ?_
    refine lv_icmp_ge (tgt := 14) hx hb dX1_isTask_7 (by decide) (fun c7 => ?_) (fun c7 => ?_)
    · refine lv_iconst (v := 0) hx hb dX1_isTask_14 (by decide) ?_
      exact zz_rz () hx hb hr hlocks (rfl) hP hK hD hS (Or.inr ⟨rfl, zn_no2 (n := 16) (by decide) (Int32.not_lt.mpr c7)⟩) dX1_isTask_15
    · refine lv_iconst (v := 1) hx hb dX1_isTask_10 (by decide) ?_
      refine lv_goto (tgt := 15) hx hb dX1_isTask_11 (by decide) ?_
      exact zz_rz () hx hb hr hlocks (rfl) hP hK hD hS (Or.inl ⟨rfl, zn_ix (n := 16) (by decide) c1 (Int32.not_le.mp c7)⟩) dX1_isTask_15
set_option maxHeartbeats 1000000 in
set_option maxRecDepth 100000 in
/-- cM_isPriority -/
theorem cM_isPriority (l : Launch) (D : va_G) (sz : Nat) (x : Int32)  : Met l yX1_isPriority wsX1_isPriority ({ frames := 0, cells := 0, slots := 0, locals := 0 }) (va_Pc [.int x] (zz_Pre D vwCl ([]) ([]) sz)) (va_Qi (fun (r : Int32) (u : Unit) => (r = 1 ∧ sp_pr x) ∨ (r = 0 ∧ ¬ sp_pr x)) (zz_At D vwCl ([]) (fun _ : Unit => []) (va_A ([]) sz)) (va_A ([]) sz)) 0 0 (va_A ([]) sz) := by
  refine zz_of (Qc := fun A => va_Qi (fun (r : Int32) (u : Unit) => (r = 1 ∧ sp_pr x) ∨ (r = 0 ∧ ¬ sp_pr x)) (zz_At D vwCl ([]) (fun _ : Unit => []) A) A) (by decide) rfl (Nat.le_of_ble_eq_true rfl) ?_
  intro p e s m args below meth c A H locs ls0 hx hb hr hml hown hts hlocks hnm hA hP hK hD hS hl
  have hown : s.vm.findClass RX1 = some m.cls := hown
  have hl : lv_has ls0 1 [(0, .int x)] := hl
  refine lv_iload_n hx hb dX1_isPriority_0 rfl (lv_at hl 0 rfl) ?_
  refine lv_iconst (v := 1) hx hb dX1_isPriority_1 (by decide) ?_
  refine lv_icmp_lt (tgt := 16) hx hb dX1_isPriority_2 (by decide) (fun c2 => ?_) (fun c2 => ?_)
  · refine lv_iconst (v := 0) hx hb dX1_isPriority_16 (by decide) ?_
    exact zz_rz () hx hb hr hlocks (rfl) hP hK hD hS (Or.inr ⟨rfl, fun q => Int32.not_le.mpr c2 q.1⟩) dX1_isPriority_17
  · refine lv_iload_n hx hb dX1_isPriority_5 rfl (lv_at hl 0 rfl) ?_
    refine lv_sipush (v := 255) hx hb dX1_isPriority_6 (by decide) ?_
    refine lv_icmp_gt (tgt := 16) hx hb dX1_isPriority_9 (by decide) (fun c9 => ?_) (fun c9 => ?_)
    · refine lv_iconst (v := 0) hx hb dX1_isPriority_16 (by decide) ?_
      exact zz_rz () hx hb hr hlocks (rfl) hP hK hD hS (Or.inr ⟨rfl, fun q => Int32.not_le.mpr c9 q.2⟩) dX1_isPriority_17
    · refine lv_iconst (v := 1) hx hb dX1_isPriority_12 (by decide) ?_
      refine lv_goto (tgt := 17) hx hb dX1_isPriority_13 (by decide) ?_
      exact zz_rz () hx hb hr hlocks (rfl) hP hK hD hS (Or.inl ⟨rfl, Int32.not_lt.mp c2, Int32.not_lt.mp c9⟩) dX1_isPriority_17
set_option maxHeartbeats 1000000 in
set_option maxRecDepth 100000 in
/-- cM_findEffective -/
theorem cM_findEffective (l : Launch) (D : va_G) (h : Nat) (a : Nat → Nat) (cA : Nat → ClassId) (nL nC nB sz : Nat) (hn : nL ≤ 8 ∧ nC ≤ 8 ∧ nB ≤ 8) (F : Nat → Nat → Int32) (sp : Nat → Int64) (cd : Int32) (ck : Int64)  (hI : ms_I F) : Met l yX1_findEffective wsX1_findEffective ({ frames := 0, cells := 0, slots := 0, locals := 0 }) (va_Pc [.ref h] (zz_Pre D vwCl (mT cA) (mW h a cA nL nC nB F sp cd ck) sz)) (va_Qv (fun (u : mS) => ∃ E, u = (va_up F 10 E, sp, cd, ck) ∧ pq_Eff (ms_h F) (F 1) E) (zz_At D vwCl (mT cA) (fun u : mS => mW h a cA nL nC nB u.1 u.2.1 u.2.2.1 u.2.2.2) (va_A (mW h a cA nL nC nB F sp cd ck) sz)) (va_A (mW h a cA nL nC nB F sp cd ck) sz)) 0 0 (va_A (mW h a cA nL nC nB F sp cd ck) sz) := by
  obtain ⟨hnL, hnC, hnB⟩ := hn
  have hn : nL ≤ 8 ∧ nC ≤ 8 ∧ nB ≤ 8 := ⟨hnL, hnC, hnB⟩
  refine zz_of (Qc := fun A => va_Qv (fun (u : mS) => ∃ E, u = (va_up F 10 E, sp, cd, ck) ∧ pq_Eff (ms_h F) (F 1) E) (zz_At D vwCl (mT cA) (fun u : mS => mW h a cA nL nC nB u.1 u.2.1 u.2.2.1 u.2.2.2) A) A) (by decide) rfl (Nat.le_of_ble_eq_true rfl) ?_
  intro p e s m args below meth c A H locs ls0 hx hb hr hml hown hts hlocks hnm hA hP hK hD hS hl
  have hown : s.vm.findClass RX1 = some m.cls := hown
  have hl : lv_has ls0 4 [(0, .ref h)] := hl
  have hin : ∀ w ∈ u_ws RX1 TX1 17, w ∈ wsX1_findEffective := by decide +kernel
  have hf7 := hts (.fieldLink RX1 7 "PriorityCoreModel" "states" "[I") (by decide +kernel)
  have hf13 := hts (.fieldLink RX1 13 "PriorityCoreModel" "bases" "[I") (by decide +kernel)
  have hf20 := hts (.fieldLink RX1 20 "PriorityCoreModel" "things" "[I") (by decide +kernel)
  have hf32 := hts (.fieldLink RX1 32 "PriorityCoreModel" "owners" "[I") (by decide +kernel)
  have hf44 := hts (.fieldLink RX1 44 "PriorityCoreModel" "effective" "[I") (by decide +kernel)
  refine lv_iconst (v := nI 0) hx hb dX1_findEffective_0 (by decide) ?_
  refine lv_istore_n (lv' := [(1, .int (nI 0)), (0, .ref h)]) hx hb dX1_findEffective_1 rfl hl (by decide) rfl (fun ls0 hl => ?_)
  have lp2 : ∀ (n2 : Nat) (i : Nat) (E : Nat → Int32), (i ≤ 16) → (17 ≤ i + n2) → (∀ t, t < i → E t = F 1 t) → ∀ (H : Heap) (locs : List Loc) (ls0 : Array Slot), va_P D vwCl (mW h a cA nL nC nB (va_up F 10 E) sp cd ck) H → va_D A (mW h a cA nL nC nB (va_up F 10 E) sp cd ck) → va_S A s.heap H locs → lv_has ls0 4 [(0, .ref h), (1, .int (nI i))] → W p l e ({ frames := 0, cells := 0, slots := 0, locals := 0 }) s m args below meth c H locs 0 0 (MQ below (va_Qv (fun (u : mS) => ∃ E, u = (va_up F 10 E, sp, cd, ck) ∧ pq_Eff (ms_h F) (F 1) E) (zz_At D vwCl (mT cA) (fun u : mS => mW h a cA nL nC nB u.1 u.2.1 u.2.2.1 u.2.2.2) A) A) args s 0 0 A) (F0 m 2 ls0 []) := by
    intro n2
    induction n2 with
    | zero =>
      intro i E hi hm hE
      exact absurd True.intro (by omega)
    | succ n2 ih2 =>
      intro i E hi hm hE H locs ls0 hP hD hS hl
      refine lv_iload_n hx hb dX1_findEffective_2 rfl (lv_at hl 1 rfl) ?_
      refine lv_bipush (v := 16) hx hb dX1_findEffective_3 (by decide) ?_
      refine lv_icmp_ge (tgt := 39) hx hb dX1_findEffective_5 (by decide) (fun c5 => ?_) (fun c5 => ?_)
      · have hi2 : i = 16 := Nat.le_antisymm hi (zn_ge rfl (by omega) (by decide) c5)
        subst hi2
        refine lv_iconst (v := nI 0) hx hb dX1_findEffective_39 (by decide) ?_
        refine lv_istore_n (lv' := [(1, .int (nI 0)), (0, .ref h)]) hx hb dX1_findEffective_40 rfl hl (by decide) rfl (fun ls0 hl => ?_)
        have lp41 : ∀ (n41 : Nat) (k2 : Nat) (E : Nat → Int32), (k2 ≤ 16) → (17 ≤ k2 + n41) → (ms_fe (ms_h F) (F 1) k2 0 E) → ∀ (H : Heap) (locs : List Loc) (ls0 : Array Slot), va_P D vwCl (mW h a cA nL nC nB (va_up F 10 E) sp cd ck) H → va_D A (mW h a cA nL nC nB (va_up F 10 E) sp cd ck) → va_S A s.heap H locs → lv_has ls0 4 [(0, .ref h), (1, .int (nI k2))] → W p l e ({ frames := 0, cells := 0, slots := 0, locals := 0 }) s m args below meth c H locs 0 0 (MQ below (va_Qv (fun (u : mS) => ∃ E, u = (va_up F 10 E, sp, cd, ck) ∧ pq_Eff (ms_h F) (F 1) E) (zz_At D vwCl (mT cA) (fun u : mS => mW h a cA nL nC nB u.1 u.2.1 u.2.2.1 u.2.2.2) A) A) args s 0 0 A) (F0 m 41 ls0 []) := by
          intro n41
          induction n41 with
          | zero =>
            intro k2 E hk hm hE
            exact absurd True.intro (by omega)
          | succ n41 ih41 =>
            intro k2 E hk hm hE H locs ls0 hP hD hS hl
            refine lv_iload_n hx hb dX1_findEffective_41 rfl (lv_at hl 1 rfl) ?_
            refine lv_bipush (v := 16) hx hb dX1_findEffective_42 (by decide) ?_
            refine lv_icmp_ge (tgt := 125) hx hb dX1_findEffective_44 (by decide) (fun c44 => ?_) (fun c44 => ?_)
            · have hk2 : k2 = 16 := Nat.le_antisymm hk (zn_ge rfl (by omega) (by decide) c44)
              subst hk2
              exact zz_rv (va_up F 10 E, sp, cd, ck) hx hb hr hlocks hP hK hD hS (⟨E, rfl, ms_fe_end (ms_h_lt hI) hE⟩) dX1_findEffective_125
            · have hk16 : k2 < 16 := zn_lt rfl (by omega) (by decide) c44
              refine lv_iconst (v := nI 0) hx hb dX1_findEffective_47 (by decide) ?_
              refine lv_istore_n (lv' := [(2, .int (nI 0)), (0, .ref h), (1, .int (nI k2))]) hx hb dX1_findEffective_48 rfl hl (by decide) rfl (fun ls0 hl => ?_)
              have lp49 : ∀ (n49 : Nat) (i : Nat) (E : Nat → Int32), (i ≤ 16) → (17 ≤ i + n49) → (ms_fe (ms_h F) (F 1) k2 i E) → ∀ (H : Heap) (locs : List Loc) (ls0 : Array Slot), va_P D vwCl (mW h a cA nL nC nB (va_up F 10 E) sp cd ck) H → va_D A (mW h a cA nL nC nB (va_up F 10 E) sp cd ck) → va_S A s.heap H locs → lv_has ls0 4 [(0, .ref h), (1, .int (nI k2)), (2, .int (nI i))] → W p l e ({ frames := 0, cells := 0, slots := 0, locals := 0 }) s m args below meth c H locs 0 0 (MQ below (va_Qv (fun (u : mS) => ∃ E, u = (va_up F 10 E, sp, cd, ck) ∧ pq_Eff (ms_h F) (F 1) E) (zz_At D vwCl (mT cA) (fun u : mS => mW h a cA nL nC nB u.1 u.2.1 u.2.2.1 u.2.2.2) A) A) args s 0 0 A) (F0 m 49 ls0 []) := by
                intro n49
                induction n49 with
                | zero =>
                  intro i E hi hm hE
                  exact absurd True.intro (by omega)
                | succ n49 ih49 =>
                  intro i E hi hm hE H locs ls0 hP hD hS hl
                  refine lv_iload_n hx hb dX1_findEffective_49 rfl (lv_at hl 2 rfl) ?_
                  refine lv_bipush (v := 16) hx hb dX1_findEffective_50 (by decide) ?_
                  refine lv_icmp_ge (tgt := 119) hx hb dX1_findEffective_52 (by decide) (fun c52 => ?_) (fun c52 => ?_)
                  · have hi2 : i = 16 := Nat.le_antisymm hi (zn_ge rfl (by omega) (by decide) c52)
                    rw [hi2] at hE
                    refine lv_iinc (v := nI (k2 + 1)) (lv' := [(1, .int (nI (k2 + 1))), (0, .ref h), (2, .int (nI i))]) hx hb dX1_findEffective_119 hl (k := 1) rfl (nI_1 _) (by decide) rfl (fun ls0 hl => ?_)
                    refine lv_goto (tgt := 41) hx hb dX1_findEffective_122 (by decide) ?_
                    exact ih41 (k2 + 1) E (by omega) (by omega) (ms_fe_t (ms_h_lt hI) hE) H locs ls0 hP hD hS (lv_sub hl [1, 0] rfl)
                  · have hi16 : i < 16 := zn_lt rfl (by omega) (by decide) c52
                    refine lv_aload_n hx hb dX1_findEffective_55 rfl (lv_at hl 0 rfl) ?_
                    refine va_get (D := D) (ci := 1) (v := .ref (a 0)) (C := RX1) (T := TX1) (N := 17) hx hb hts hin hown hK hP 0 rfl rfl 5 (by decide) hf7 (fun _ h9 => h9) rfl dX1_findEffective_56 ?_
                    refine lv_iload_n hx hb dX1_findEffective_59 rfl (lv_at hl 2 rfl) ?_
                    refine zz_iald hx hb hK hP 1 0 rfl rfl (hi16) (by decide) dX1_findEffective_60 ?_
                    refine lv_iconst (v := 2) hx hb dX1_findEffective_61 (by decide) ?_
                    refine lv_icmp_ne (tgt := 113) hx hb dX1_findEffective_62 (by decide) (fun c62 => ?_) (fun c62 => ?_)
                    · refine lv_iinc (v := nI (i + 1)) (lv' := [(2, .int (nI (i + 1))), (0, .ref h), (1, .int (nI k2))]) hx hb dX1_findEffective_113 hl (k := 2) rfl (nI_1 _) (by decide) rfl (fun ls0 hl => ?_)
                      refine lv_goto (tgt := 49) hx hb dX1_findEffective_116 (by decide) ?_
                      exact ih49 (i + 1) _ (by omega) (by omega) (ms_fe_n hE ((ms_h_eq hi16).trans (ms_hd_no c62))) H locs ls0 hP hD hS (lv_sub hl [1, 2, 0] rfl)
                    · obtain ⟨k, o, hk, ho, e1, e2⟩ := hI.1 i hi16 c62
                      have hho : ms_h F i = some o := (ms_h_eq hi16).trans (ms_hd_eq c62 hk ho e1 e2)
                      refine lv_aload_n hx hb dX1_findEffective_65 rfl (lv_at hl 0 rfl) ?_
                      refine va_get (D := D) (ci := 1) (v := .ref (a 6)) (C := RX1) (T := TX1) (N := 17) hx hb hts hin hown hK hP 0 rfl rfl 12 (by decide) hf32 (fun _ h9 => h9) rfl dX1_findEffective_66 ?_
                      refine lv_aload_n hx hb dX1_findEffective_69 rfl (lv_at hl 0 rfl) ?_
                      refine va_get (D := D) (ci := 1) (v := .ref (a 2)) (C := RX1) (T := TX1) (N := 17) hx hb hts hin hown hK hP 0 rfl rfl 8 (by decide) hf20 (fun _ h9 => h9) rfl dX1_findEffective_70 ?_
                      refine lv_iload_n hx hb dX1_findEffective_73 rfl (lv_at hl 2 rfl) ?_
                      refine zz_iald hx hb hK hP 3 2 rfl rfl (hi16) (by decide) dX1_findEffective_74 ?_
                      refine zz_top (y := nI k) (e1) ?_
                      refine zz_iald hx hb hK hP 7 6 rfl rfl (hk) (by decide) dX1_findEffective_75 ?_
                      refine zz_top (y := nI o) (e2) ?_
                      refine lv_istore_n (lv' := [(3, .int (nI o)), (0, .ref h), (1, .int (nI k2)), (2, .int (nI i))]) hx hb dX1_findEffective_76 rfl hl (by decide) rfl (fun ls0 hl => ?_)
                      refine lv_aload_n hx hb dX1_findEffective_77 rfl (lv_at hl 1 rfl) ?_
                      refine va_get (D := D) (ci := 1) (v := .ref (a 10)) (C := RX1) (T := TX1) (N := 17) hx hb hts hin hown hK hP 0 rfl rfl 16 (by decide) hf44 (fun _ h9 => h9) rfl dX1_findEffective_78 ?_
                      refine lv_iload_n hx hb dX1_findEffective_81 rfl (lv_at hl 0 rfl) ?_
                      refine lv_aload_n hx hb dX1_findEffective_82 rfl (lv_at hl 1 rfl) ?_
                      refine va_get (D := D) (ci := 1) (v := .ref (a 10)) (C := RX1) (T := TX1) (N := 17) hx hb hts hin hown hK hP 0 rfl rfl 16 (by decide) hf44 (fun _ h9 => h9) rfl dX1_findEffective_83 ?_
                      refine lv_iload_n hx hb dX1_findEffective_86 rfl (lv_at hl 3 rfl) ?_
                      refine zz_iald hx hb hK hP 11 10 rfl rfl (hi16) (by decide) dX1_findEffective_87 ?_
                      refine lv_aload_n hx hb dX1_findEffective_88 rfl (lv_at hl 1 rfl) ?_
                      refine va_get (D := D) (ci := 1) (v := .ref (a 10)) (C := RX1) (T := TX1) (N := 17) hx hb hts hin hown hK hP 0 rfl rfl 16 (by decide) hf44 (fun _ h9 => h9) rfl dX1_findEffective_89 ?_
                      refine lv_iload_n hx hb dX1_findEffective_92 rfl (lv_at hl 0 rfl) ?_
                      refine zz_iald hx hb hK hP 11 10 rfl rfl (ho) (by decide) dX1_findEffective_93 ?_
                      refine lv_icmp_le (tgt := 106) hx hb dX1_findEffective_94 (by decide) (fun c94 => ?_) (fun c94 => ?_)
                      · have c94 : E i ≤ E o := c94
                        refine lv_aload_n hx hb dX1_findEffective_106 rfl (lv_at hl 1 rfl) ?_
                        refine va_get (D := D) (ci := 1) (v := .ref (a 10)) (C := RX1) (T := TX1) (N := 17) hx hb hts hin hown hK hP 0 rfl rfl 16 (by decide) hf44 (fun _ h9 => h9) rfl dX1_findEffective_107 ?_
                        refine lv_iload_n hx hb dX1_findEffective_110 rfl (lv_at hl 0 rfl) ?_
                        refine zz_iald hx hb hK hP 11 10 rfl rfl (ho) (by decide) dX1_findEffective_111 ?_
                        refine zz_iast (ws' := mW h a cA nL nC nB (va_up F 10 (upd E o (E o))) sp cd ck) hx hb hK hP hD hS 11 10 rfl rfl (ho) (by decide) rfl dX1_findEffective_112 (fun H locs hP hD hS => ?_)
                        refine lv_iinc (v := nI (i + 1)) (lv' := [(2, .int (nI (i + 1))), (3, .int (nI o)), (0, .ref h), (1, .int (nI k2))]) hx hb dX1_findEffective_113 hl (k := 3) rfl (nI_1 _) (by decide) rfl (fun ls0 hl => ?_)
                        refine lv_goto (tgt := 49) hx hb dX1_findEffective_116 (by decide) ?_
                        exact ih49 (i + 1) _ (by omega) (by omega) (ms_fe_s hi16 hE hho (Int.le_refl _) (by rw [Int32.le_iff_toInt_le] at c94; exact c94) (Or.inl rfl)) H locs ls0 hP hD hS (lv_sub hl [2, 3, 0] rfl)
                      · have c94 : ¬ E i ≤ E o := c94
                        refine lv_aload_n hx hb dX1_findEffective_97 rfl (lv_at hl 1 rfl) ?_
                        refine va_get (D := D) (ci := 1) (v := .ref (a 10)) (C := RX1) (T := TX1) (N := 17) hx hb hts hin hown hK hP 0 rfl rfl 16 (by decide) hf44 (fun _ h9 => h9) rfl dX1_findEffective_98 ?_
                        refine lv_iload_n hx hb dX1_findEffective_101 rfl (lv_at hl 3 rfl) ?_
                        refine zz_iald hx hb hK hP 11 10 rfl rfl (hi16) (by decide) dX1_findEffective_102 ?_
                        refine lv_goto (tgt := 112) hx hb dX1_findEffective_103 (by decide) ?_
                        refine zz_iast (ws' := mW h a cA nL nC nB (va_up F 10 (upd E o (E i))) sp cd ck) hx hb hK hP hD hS 11 10 rfl rfl (ho) (by decide) rfl dX1_findEffective_112 (fun H locs hP hD hS => ?_)
                        refine lv_iinc (v := nI (i + 1)) (lv' := [(2, .int (nI (i + 1))), (3, .int (nI o)), (0, .ref h), (1, .int (nI k2))]) hx hb dX1_findEffective_113 hl (k := 3) rfl (nI_1 _) (by decide) rfl (fun ls0 hl => ?_)
                        refine lv_goto (tgt := 49) hx hb dX1_findEffective_116 (by decide) ?_
                        exact ih49 (i + 1) _ (by omega) (by omega) (ms_fe_s hi16 hE hho (by rw [Int32.le_iff_toInt_le] at c94; omega) (Int.le_refl _) (Or.inr rfl)) H locs ls0 hP hD hS (lv_sub hl [2, 3, 0] rfl)
              exact lp49 17 0 E (by omega) (by omega) hE H locs ls0 hP hD hS (lv_sub hl [1, 2, 0] rfl)
        exact lp41 17 0 E (by omega) (by omega) (ms_fe_0 hE) H locs ls0 hP hD hS (lv_sub hl [1, 0] rfl)
      · have hi16 : i < 16 := zn_lt rfl (by omega) (by decide) c5
        refine lv_aload_n hx hb dX1_findEffective_8 rfl (lv_at hl 0 rfl) ?_
        refine va_get (D := D) (ci := 1) (v := .ref (a 10)) (C := RX1) (T := TX1) (N := 17) hx hb hts hin hown hK hP 0 rfl rfl 16 (by decide) hf44 (fun _ h9 => h9) rfl dX1_findEffective_9 ?_
        refine lv_iload_n hx hb dX1_findEffective_12 rfl (lv_at hl 1 rfl) ?_
        refine lv_aload_n hx hb dX1_findEffective_13 rfl (lv_at hl 0 rfl) ?_
        refine va_get (D := D) (ci := 1) (v := .ref (a 0)) (C := RX1) (T := TX1) (N := 17) hx hb hts hin hown hK hP 0 rfl rfl 5 (by decide) hf7 (fun _ h9 => h9) rfl dX1_findEffective_14 ?_
        refine lv_iload_n hx hb dX1_findEffective_17 rfl (lv_at hl 1 rfl) ?_
        refine zz_iald hx hb hK hP 1 0 rfl rfl (hi16) (by decide) dX1_findEffective_18 ?_
        refine lv_if_ne (tgt := 26) hx hb dX1_findEffective_19 (by decide) (fun c19 => ?_) (fun c19 => ?_)
        · refine lv_aload_n hx hb dX1_findEffective_26 rfl (lv_at hl 0 rfl) ?_
          refine va_get (D := D) (ci := 1) (v := .ref (a 1)) (C := RX1) (T := TX1) (N := 17) hx hb hts hin hown hK hP 0 rfl rfl 6 (by decide) hf13 (fun _ h9 => h9) rfl dX1_findEffective_27 ?_
          refine lv_iload_n hx hb dX1_findEffective_30 rfl (lv_at hl 1 rfl) ?_
          refine zz_iald hx hb hK hP 2 1 rfl rfl (hi16) (by decide) dX1_findEffective_31 ?_
          refine zz_iast (ws' := mW h a cA nL nC nB (va_up F 10 (upd E i ((F 1) i))) sp cd ck) hx hb hK hP hD hS 11 10 rfl rfl (hi16) (by decide) rfl dX1_findEffective_32 (fun H locs hP hD hS => ?_)
          refine lv_iinc (v := nI (i + 1)) (lv' := [(1, .int (nI (i + 1))), (0, .ref h)]) hx hb dX1_findEffective_33 hl (k := 1) rfl (nI_1 _) (by decide) rfl (fun ls0 hl => ?_)
          refine lv_goto (tgt := 2) hx hb dX1_findEffective_36 (by decide) ?_
          exact ih2 (i + 1) _ (by omega) (by omega) (fun t ht => by unfold upd; split; (rename_i q; subst q; rfl); exact hE t (by omega)) H locs ls0 hP hD hS (lv_sub hl [1, 0] rfl)
        · have e9 : F 1 i = 0 := hI.2.1 i hi16 c19
          refine lv_iconst (v := 0) hx hb dX1_findEffective_22 (by decide) ?_
          refine lv_goto (tgt := 32) hx hb dX1_findEffective_23 (by decide) ?_
          refine zz_iast (ws' := mW h a cA nL nC nB (va_up F 10 (upd E i 0)) sp cd ck) hx hb hK hP hD hS 11 10 rfl rfl (hi16) (by decide) rfl dX1_findEffective_32 (fun H locs hP hD hS => ?_)
          refine lv_iinc (v := nI (i + 1)) (lv' := [(1, .int (nI (i + 1))), (0, .ref h)]) hx hb dX1_findEffective_33 hl (k := 1) rfl (nI_1 _) (by decide) rfl (fun ls0 hl => ?_)
          refine lv_goto (tgt := 2) hx hb dX1_findEffective_36 (by decide) ?_
          exact ih2 (i + 1) _ (by omega) (by omega) (fun t ht => by unfold upd; split; (rename_i q; subst q; exact e9.symm); exact hE t (by omega)) H locs ls0 hP hD hS (lv_sub hl [1, 0] rfl)
  exact lp2 17 0 (F 10) (by omega) (by omega) (fun t ht => absurd ht (by omega)) H locs ls0 hP hD hS (lv_sub hl [1, 0] rfl)
theorem zl_lt {x y : Int64} (h : ¬ 0 ≤ lg_cmp x y) : x < y := Int64.not_le.mp (fun q => h ((lg_cmp_ge x y).mpr q))
theorem zl_ge {x y : Int64} (h : 0 ≤ lg_cmp x y) : ¬ x < y := Int64.not_lt.mpr ((lg_cmp_ge x y).mp h)
set_option maxHeartbeats 1000000 in
set_option maxRecDepth 100000 in
/-- cM_firstOf -/
theorem cM_firstOf (l : Launch) (D : va_G) (h : Nat) (a : Nat → Nat) (cA : Nat → ClassId) (nL nC nB sz : Nat) (hn : nL ≤ 8 ∧ nC ≤ 8 ∧ nB ≤ 8) (F : Nat → Nat → Int32) (sp : Nat → Int64) (cd : Int32) (ck : Int64) (st tg : Int32) (hI : ms_I F) : Met l yX1_firstOf wsX1_firstOf ({ frames := 1, cells := 0, slots := 0, locals := 23 }) (va_Pc [.ref h, .int st, .int tg] (zz_Pre D vwCl (mT cA) (mW h a cA nL nC nB F sp cd ck) sz)) (va_Qi (fun (r : Int32) (u : mS) => ∃ E nx, u = (va_up F 10 E, sp, cd, ck) ∧ ms_fo F sp st tg E nx ∧ r = pq_enc nx) (zz_At D vwCl (mT cA) (fun u : mS => mW h a cA nL nC nB u.1 u.2.1 u.2.2.1 u.2.2.2) (va_A (mW h a cA nL nC nB F sp cd ck) sz)) (va_A (mW h a cA nL nC nB F sp cd ck) sz)) 0 0 (va_A (mW h a cA nL nC nB F sp cd ck) sz) := by
  obtain ⟨hnL, hnC, hnB⟩ := hn
  have hn : nL ≤ 8 ∧ nC ≤ 8 ∧ nB ≤ 8 := ⟨hnL, hnC, hnB⟩
  refine zz_of (Qc := fun A => va_Qi (fun (r : Int32) (u : mS) => ∃ E nx, u = (va_up F 10 E, sp, cd, ck) ∧ ms_fo F sp st tg E nx ∧ r = pq_enc nx) (zz_At D vwCl (mT cA) (fun u : mS => mW h a cA nL nC nB u.1 u.2.1 u.2.2.1 u.2.2.2) A) A) (by decide) rfl (Nat.le_of_ble_eq_true rfl) ?_
  intro p e s m args below meth c A H locs ls0 hx hb hr hml hown hts hlocks hnm hA hP hK hD hS hl
  have hown : s.vm.findClass RX1 = some m.cls := hown
  have hl : lv_has ls0 7 [(0, .ref h), (1, .int st), (2, .int tg)] := hl
  have hin : ∀ w ∈ u_ws RX1 TX1 17, w ∈ wsX1_firstOf := by decide +kernel
  have hf7 := hts (.fieldLink RX1 7 "PriorityCoreModel" "states" "[I") (by decide +kernel)
  have hf16 := hts (.fieldLink RX1 16 "PriorityCoreModel" "stamps" "[J") (by decide +kernel)
  have hf20 := hts (.fieldLink RX1 20 "PriorityCoreModel" "things" "[I") (by decide +kernel)
  have hf44 := hts (.fieldLink RX1 44 "PriorityCoreModel" "effective" "[I") (by decide +kernel)
  refine lv_aload_n hx hb dX1_firstOf_0 rfl (lv_at hl 0 rfl) ?_
  refine zz_cv (va_runV (As := []) (rest := []) ⟨hx, hb, hml, hown, hts⟩ (cM_findEffective l D h a cA nL nC nB H.size hn F sp cd ck hI) (cwV 0 hts gX1_firstOf_X1_findEffective rfl rfl rfl (by decide +kernel) ⟨(Nat.le_of_ble_eq_true rfl), (Nat.le_of_ble_eq_true rfl)⟩) (zz_pV hP hK hD (va_recv hK hP (ci := 1) (q0 := 0) rfl rfl)) rfl rfl hl.1 rfl (lv_room (Nat.le_of_ble_eq_true rfl)) dX1_firstOf_1 ⟨(Nat.le_of_ble_eq_true rfl), (Nat.le_of_ble_eq_true rfl)⟩) hD hS hA (fun u H locs hw hP hD hS => ?_)
  obtain ⟨E, hu, hEf⟩ := hw
  subst hu
  have hP : va_P D vwCl (mW h a cA nL nC nB (va_up F 10 E) sp cd ck) H := hP
  have hD : va_D A (mW h a cA nL nC nB (va_up F 10 E) sp cd ck) := hD
  refine lv_iconst (v := (-1)) hx hb dX1_firstOf_4 (by decide) ?_
  refine lv_istore_n (lv' := [(3, .int (-1)), (0, .ref h), (1, .int st), (2, .int tg)]) hx hb dX1_firstOf_5 rfl hl (by decide) rfl (fun ls0 hl => ?_)
  refine lv_iconst (v := nI 0) hx hb dX1_firstOf_6 (by decide) ?_
  refine lv_istore (lv' := [(4, .int (nI 0)), (3, .int (-1)), (0, .ref h), (1, .int st), (2, .int tg)]) hx hb dX1_firstOf_7 hl (by decide) rfl (fun ls0 hl => ?_)
  have lp9 : ∀ (n9 : Nat) (i : Nat), (i ≤ 16) → (17 ≤ i + n9) → ∀ (H : Heap) (locs : List Loc) (ls0 : Array Slot), va_P D vwCl (mW h a cA nL nC nB (va_up F 10 E) sp cd ck) H → va_D A (mW h a cA nL nC nB (va_up F 10 E) sp cd ck) → va_S A s.heap H locs → lv_has ls0 7 [(0, .ref h), (1, .int st), (2, .int tg), (3, .int (pq_enc (pq_pick (ms_ok F st tg) (ms_bf E sp) i))), (4, .int (nI i))] → W p l e ({ frames := 1, cells := 0, slots := 0, locals := 23 }) s m args below meth c H locs 0 0 (MQ below (va_Qi (fun (r : Int32) (u : mS) => ∃ E nx, u = (va_up F 10 E, sp, cd, ck) ∧ ms_fo F sp st tg E nx ∧ r = pq_enc nx) (zz_At D vwCl (mT cA) (fun u : mS => mW h a cA nL nC nB u.1 u.2.1 u.2.2.1 u.2.2.2) A) A) args s 0 0 A) (F0 m 9 ls0 []) := by
    intro n9
    induction n9 with
    | zero =>
      intro i hi hm
      exact absurd True.intro (by omega)
    | succ n9 ih9 =>
      intro i hi hm H locs ls0 hP hD hS hl
      refine lv_iload hx hb dX1_firstOf_9 (lv_at hl 4 rfl) ?_
      refine lv_bipush (v := 16) hx hb dX1_firstOf_11 (by decide) ?_
      refine lv_icmp_ge (tgt := 133) hx hb dX1_firstOf_13 (by decide) (fun c13 => ?_) (fun c13 => ?_)
      · have hi2 : i = 16 := Nat.le_antisymm hi (zn_ge rfl (by omega) (by decide) c13)
        subst hi2
        refine lv_iload_n hx hb dX1_firstOf_133 rfl (lv_at hl 3 rfl) ?_
        exact zz_ri (va_up F 10 E, sp, cd, ck) hx hb hr hlocks hP hK hD hS (⟨E, _, rfl, ⟨hEf, rfl⟩, rfl⟩) dX1_firstOf_134
      · have hi16 : i < 16 := zn_lt rfl (by omega) (by decide) c13
        refine lv_aload_n hx hb dX1_firstOf_16 rfl (lv_at hl 0 rfl) ?_
        refine va_get (D := D) (ci := 1) (v := .ref (a 0)) (C := RX1) (T := TX1) (N := 17) hx hb hts hin hown hK hP 0 rfl rfl 5 (by decide) hf7 (fun _ h9 => h9) rfl dX1_firstOf_17 ?_
        refine lv_iload hx hb dX1_firstOf_20 (lv_at hl 4 rfl) ?_
        refine zz_iald hx hb hK hP 1 0 rfl rfl (hi16) (by decide) dX1_firstOf_22 ?_
        refine lv_iload_n hx hb dX1_firstOf_23 rfl (lv_at hl 1 rfl) ?_
        refine lv_icmp_ne (tgt := 47) hx hb dX1_firstOf_24 (by decide) (fun c24 => ?_) (fun c24 => ?_)
        · refine lv_iconst (v := 0) hx hb dX1_firstOf_47 (by decide) ?_
          refine lv_istore (lv' := [(5, .int 0), (0, .ref h), (1, .int st), (2, .int tg), (3, .int (pq_enc (pq_pick (ms_ok F st tg) (ms_bf E sp) i))), (4, .int (nI i))]) hx hb dX1_firstOf_48 hl (by decide) rfl (fun ls0 hl => ?_)
          refine lv_iload_n hx hb dX1_firstOf_50 rfl (lv_at hl 4 rfl) ?_
          refine lv_if_lt (tgt := 103) hx hb dX1_firstOf_51 (by decide) (fun c51 => ?_) (fun c51 => ?_)
          · have hpk : pq_pick (ms_ok F st tg) (ms_bf E sp) i = none := (pq_enc_lt (fun n q => Nat.lt_of_lt_of_le (pq_pick_lt q).1 hi)).mp c51
            refine lv_iconst (v := 1) hx hb dX1_firstOf_103 (by decide) ?_
            refine lv_goto (tgt := 108) hx hb dX1_firstOf_104 (by decide) ?_
            refine lv_istore (lv' := [(6, .int 1), (5, .int 0), (0, .ref h), (1, .int st), (2, .int tg), (3, .int (pq_enc (pq_pick (ms_ok F st tg) (ms_bf E sp) i))), (4, .int (nI i))]) hx hb dX1_firstOf_108 hl (by decide) rfl (fun ls0 hl => ?_)
            refine lv_iload hx hb dX1_firstOf_110 (lv_at hl 1 rfl) ?_
            refine lv_if_eq (tgt := 125) hx hb dX1_firstOf_112 (by decide) (fun c112 => ?_) (fun c112 => ?_)
            · refine lv_iload_n hx hb dX1_firstOf_125 rfl (lv_at hl 5 rfl) ?_
              refine lv_istore_n (lv' := [(3, .int (pq_enc (pq_pick (ms_ok F st tg) (ms_bf E sp) i))), (6, .int 1), (5, .int 0), (0, .ref h), (1, .int st), (2, .int tg), (4, .int (nI i))]) hx hb dX1_firstOf_126 rfl hl (by decide) rfl (fun ls0 hl => ?_)
              refine lv_iinc (v := nI (i + 1)) (lv' := [(4, .int (nI (i + 1))), (3, .int (pq_enc (pq_pick (ms_ok F st tg) (ms_bf E sp) i))), (6, .int 1), (5, .int 0), (0, .ref h), (1, .int st), (2, .int tg)]) hx hb dX1_firstOf_127 hl (k := 6) rfl (nI_1 _) (by decide) rfl (fun ls0 hl => ?_)
              refine lv_goto (tgt := 9) hx hb dX1_firstOf_130 (by decide) ?_
              have ep : pq_pick (ms_ok F st tg) (ms_bf E sp) (i + 1) = _ := pq_st_no (decide_eq_false (fun q => c24 q.1))
              exact ih9 (i + 1) (by omega) (by omega) H locs ls0 hP hD hS (by rw [ep]; exact lv_sub hl [4, 5, 6, 1, 0] rfl)
            · exact absurd rfl c112
          · obtain ⟨b, hpk⟩ : ∃ b, pq_pick (ms_ok F st tg) (ms_bf E sp) i = some b := by
              cases q : pq_pick (ms_ok F st tg) (ms_bf E sp) i with
              | none => exact absurd (show pq_enc (pq_pick (ms_ok F st tg) (ms_bf E sp) i) < 0 by rw [q]; decide) c51
              | some b => exact ⟨b, rfl⟩
            have hb16 : b < 16 := Nat.lt_of_lt_of_le (pq_pick_lt hpk).1 hi
            rw [hpk] at hl
            have hl : lv_has ls0 7 [(5, .int 0), (0, .ref h), (1, .int st), (2, .int tg), (3, .int (nI b)), (4, .int (nI i))] := hl
            refine lv_aload_n hx hb dX1_firstOf_54 rfl (lv_at hl 1 rfl) ?_
            refine va_get (D := D) (ci := 1) (v := .ref (a 10)) (C := RX1) (T := TX1) (N := 17) hx hb hts hin hown hK hP 0 rfl rfl 16 (by decide) hf44 (fun _ h9 => h9) rfl dX1_firstOf_55 ?_
            refine lv_iload hx hb dX1_firstOf_58 (lv_at hl 5 rfl) ?_
            refine zz_iald hx hb hK hP 11 10 rfl rfl (hi16) (by decide) dX1_firstOf_60 ?_
            refine lv_aload_n hx hb dX1_firstOf_61 rfl (lv_at hl 1 rfl) ?_
            refine va_get (D := D) (ci := 1) (v := .ref (a 10)) (C := RX1) (T := TX1) (N := 17) hx hb hts hin hown hK hP 0 rfl rfl 16 (by decide) hf44 (fun _ h9 => h9) rfl dX1_firstOf_62 ?_
            refine lv_iload_n hx hb dX1_firstOf_65 rfl (lv_at hl 4 rfl) ?_
            refine zz_iald hx hb hK hP 11 10 rfl rfl (hb16) (by decide) dX1_firstOf_66 ?_
            refine lv_icmp_gt (tgt := 103) hx hb dX1_firstOf_67 (by decide) (fun c67 => ?_) (fun c67 => ?_)
            · refine lv_iconst (v := 1) hx hb dX1_firstOf_103 (by decide) ?_
              refine lv_goto (tgt := 108) hx hb dX1_firstOf_104 (by decide) ?_
              refine lv_istore (lv' := [(6, .int 1), (5, .int 0), (0, .ref h), (1, .int st), (2, .int tg), (3, .int (nI b)), (4, .int (nI i))]) hx hb dX1_firstOf_108 hl (by decide) rfl (fun ls0 hl => ?_)
              refine lv_iload hx hb dX1_firstOf_110 (lv_at hl 1 rfl) ?_
              refine lv_if_eq (tgt := 125) hx hb dX1_firstOf_112 (by decide) (fun c112 => ?_) (fun c112 => ?_)
              · refine lv_iload_n hx hb dX1_firstOf_125 rfl (lv_at hl 5 rfl) ?_
                refine lv_istore_n (lv' := [(3, .int (nI b)), (6, .int 1), (5, .int 0), (0, .ref h), (1, .int st), (2, .int tg), (4, .int (nI i))]) hx hb dX1_firstOf_126 rfl hl (by decide) rfl (fun ls0 hl => ?_)
                refine lv_iinc (v := nI (i + 1)) (lv' := [(4, .int (nI (i + 1))), (3, .int (nI b)), (6, .int 1), (5, .int 0), (0, .ref h), (1, .int st), (2, .int tg)]) hx hb dX1_firstOf_127 hl (k := 6) rfl (nI_1 _) (by decide) rfl (fun ls0 hl => ?_)
                refine lv_goto (tgt := 9) hx hb dX1_firstOf_130 (by decide) ?_
                have ep : pq_pick (ms_ok F st tg) (ms_bf E sp) (i + 1) = _ := (pq_st_no (decide_eq_false (fun q => c24 q.1))).trans hpk
                exact ih9 (i + 1) (by omega) (by omega) H locs ls0 hP hD hS (by rw [ep]; exact lv_sub hl [4, 5, 6, 1, 0] rfl)
              · exact absurd rfl c112
            · refine lv_aload_n hx hb dX1_firstOf_70 rfl (lv_at hl 1 rfl) ?_
              refine va_get (D := D) (ci := 1) (v := .ref (a 10)) (C := RX1) (T := TX1) (N := 17) hx hb hts hin hown hK hP 0 rfl rfl 16 (by decide) hf44 (fun _ h9 => h9) rfl dX1_firstOf_71 ?_
              refine lv_iload hx hb dX1_firstOf_74 (lv_at hl 5 rfl) ?_
              refine zz_iald hx hb hK hP 11 10 rfl rfl (hi16) (by decide) dX1_firstOf_76 ?_
              refine lv_aload_n hx hb dX1_firstOf_77 rfl (lv_at hl 1 rfl) ?_
              refine va_get (D := D) (ci := 1) (v := .ref (a 10)) (C := RX1) (T := TX1) (N := 17) hx hb hts hin hown hK hP 0 rfl rfl 16 (by decide) hf44 (fun _ h9 => h9) rfl dX1_firstOf_78 ?_
              refine lv_iload_n hx hb dX1_firstOf_81 rfl (lv_at hl 4 rfl) ?_
              refine zz_iald hx hb hK hP 11 10 rfl rfl (hb16) (by decide) dX1_firstOf_82 ?_
              refine lv_icmp_ne (tgt := 107) hx hb dX1_firstOf_83 (by decide) (fun c83 => ?_) (fun c83 => ?_)
              · refine lv_iconst (v := 0) hx hb dX1_firstOf_107 (by decide) ?_
                refine lv_istore (lv' := [(6, .int 0), (5, .int 0), (0, .ref h), (1, .int st), (2, .int tg), (3, .int (nI b)), (4, .int (nI i))]) hx hb dX1_firstOf_108 hl (by decide) rfl (fun ls0 hl => ?_)
                refine lv_iload hx hb dX1_firstOf_110 (lv_at hl 1 rfl) ?_
                refine lv_if_eq (tgt := 125) hx hb dX1_firstOf_112 (by decide) (fun c112 => ?_) (fun c112 => ?_)
                · refine lv_iload_n hx hb dX1_firstOf_125 rfl (lv_at hl 5 rfl) ?_
                  refine lv_istore_n (lv' := [(3, .int (nI b)), (6, .int 0), (5, .int 0), (0, .ref h), (1, .int st), (2, .int tg), (4, .int (nI i))]) hx hb dX1_firstOf_126 rfl hl (by decide) rfl (fun ls0 hl => ?_)
                  refine lv_iinc (v := nI (i + 1)) (lv' := [(4, .int (nI (i + 1))), (3, .int (nI b)), (6, .int 0), (5, .int 0), (0, .ref h), (1, .int st), (2, .int tg)]) hx hb dX1_firstOf_127 hl (k := 6) rfl (nI_1 _) (by decide) rfl (fun ls0 hl => ?_)
                  refine lv_goto (tgt := 9) hx hb dX1_firstOf_130 (by decide) ?_
                  have ep : pq_pick (ms_ok F st tg) (ms_bf E sp) (i + 1) = _ := (pq_st_no (decide_eq_false (fun q => c24 q.1))).trans hpk
                  exact ih9 (i + 1) (by omega) (by omega) H locs ls0 hP hD hS (by rw [ep]; exact lv_sub hl [4, 5, 6, 1, 0] rfl)
                · exact absurd rfl c112
              · refine lv_aload_n hx hb dX1_firstOf_86 rfl (lv_at hl 1 rfl) ?_
                refine va_get (D := D) (ci := 1) (v := .ref (a 11)) (C := RX1) (T := TX1) (N := 17) hx hb hts hin hown hK hP 0 rfl rfl 7 (by decide) hf16 (fun _ h9 => h9) rfl dX1_firstOf_87 ?_
                refine lv_iload hx hb dX1_firstOf_90 (lv_at hl 5 rfl) ?_
                refine zz_lald hx hb hK hP 12 11 rfl rfl (hi16) (by decide) dX1_firstOf_92 ?_
                refine lv_aload_n hx hb dX1_firstOf_93 rfl (lv_at hl 1 rfl) ?_
                refine va_get (D := D) (ci := 1) (v := .ref (a 11)) (C := RX1) (T := TX1) (N := 17) hx hb hts hin hown hK hP 0 rfl rfl 7 (by decide) hf16 (fun _ h9 => h9) rfl dX1_firstOf_94 ?_
                refine lv_iload_n hx hb dX1_firstOf_97 rfl (lv_at hl 4 rfl) ?_
                refine zz_lald hx hb hK hP 12 11 rfl rfl (hb16) (by decide) dX1_firstOf_98 ?_
                refine W.lcmp hx hb dX1_firstOf_99 ?_
                refine lv_if_ge (tgt := 107) hx hb dX1_firstOf_100 (by decide) (fun c100 => ?_) (fun c100 => ?_)
                · refine lv_iconst (v := 0) hx hb dX1_firstOf_107 (by decide) ?_
                  refine lv_istore (lv' := [(6, .int 0), (5, .int 0), (0, .ref h), (1, .int st), (2, .int tg), (3, .int (nI b)), (4, .int (nI i))]) hx hb dX1_firstOf_108 hl (by decide) rfl (fun ls0 hl => ?_)
                  refine lv_iload hx hb dX1_firstOf_110 (lv_at hl 1 rfl) ?_
                  refine lv_if_eq (tgt := 125) hx hb dX1_firstOf_112 (by decide) (fun c112 => ?_) (fun c112 => ?_)
                  · refine lv_iload_n hx hb dX1_firstOf_125 rfl (lv_at hl 5 rfl) ?_
                    refine lv_istore_n (lv' := [(3, .int (nI b)), (6, .int 0), (5, .int 0), (0, .ref h), (1, .int st), (2, .int tg), (4, .int (nI i))]) hx hb dX1_firstOf_126 rfl hl (by decide) rfl (fun ls0 hl => ?_)
                    refine lv_iinc (v := nI (i + 1)) (lv' := [(4, .int (nI (i + 1))), (3, .int (nI b)), (6, .int 0), (5, .int 0), (0, .ref h), (1, .int st), (2, .int tg)]) hx hb dX1_firstOf_127 hl (k := 6) rfl (nI_1 _) (by decide) rfl (fun ls0 hl => ?_)
                    refine lv_goto (tgt := 9) hx hb dX1_firstOf_130 (by decide) ?_
                    have ep : pq_pick (ms_ok F st tg) (ms_bf E sp) (i + 1) = _ := (pq_st_no (decide_eq_false (fun q => c24 q.1))).trans hpk
                    exact ih9 (i + 1) (by omega) (by omega) H locs ls0 hP hD hS (by rw [ep]; exact lv_sub hl [4, 5, 6, 1, 0] rfl)
                  · exact absurd rfl c112
                · refine lv_iconst (v := 1) hx hb dX1_firstOf_103 (by decide) ?_
                  refine lv_goto (tgt := 108) hx hb dX1_firstOf_104 (by decide) ?_
                  refine lv_istore (lv' := [(6, .int 1), (5, .int 0), (0, .ref h), (1, .int st), (2, .int tg), (3, .int (nI b)), (4, .int (nI i))]) hx hb dX1_firstOf_108 hl (by decide) rfl (fun ls0 hl => ?_)
                  refine lv_iload hx hb dX1_firstOf_110 (lv_at hl 1 rfl) ?_
                  refine lv_if_eq (tgt := 125) hx hb dX1_firstOf_112 (by decide) (fun c112 => ?_) (fun c112 => ?_)
                  · refine lv_iload_n hx hb dX1_firstOf_125 rfl (lv_at hl 5 rfl) ?_
                    refine lv_istore_n (lv' := [(3, .int (nI b)), (6, .int 1), (5, .int 0), (0, .ref h), (1, .int st), (2, .int tg), (4, .int (nI i))]) hx hb dX1_firstOf_126 rfl hl (by decide) rfl (fun ls0 hl => ?_)
                    refine lv_iinc (v := nI (i + 1)) (lv' := [(4, .int (nI (i + 1))), (3, .int (nI b)), (6, .int 1), (5, .int 0), (0, .ref h), (1, .int st), (2, .int tg)]) hx hb dX1_firstOf_127 hl (k := 6) rfl (nI_1 _) (by decide) rfl (fun ls0 hl => ?_)
                    refine lv_goto (tgt := 9) hx hb dX1_firstOf_130 (by decide) ?_
                    have ep : pq_pick (ms_ok F st tg) (ms_bf E sp) (i + 1) = _ := (pq_st_no (decide_eq_false (fun q => c24 q.1))).trans hpk
                    exact ih9 (i + 1) (by omega) (by omega) H locs ls0 hP hD hS (by rw [ep]; exact lv_sub hl [4, 5, 6, 1, 0] rfl)
                  · exact absurd rfl c112
        · refine lv_iload_n hx hb dX1_firstOf_27 rfl (lv_at hl 1 rfl) ?_
          refine lv_iconst (v := 1) hx hb dX1_firstOf_28 (by decide) ?_
          refine lv_icmp_eq (tgt := 43) hx hb dX1_firstOf_29 (by decide) (fun c29 => ?_) (fun c29 => ?_)
          · refine lv_iconst (v := 1) hx hb dX1_firstOf_43 (by decide) ?_
            refine lv_goto (tgt := 48) hx hb dX1_firstOf_44 (by decide) ?_
            refine lv_istore (lv' := [(5, .int 1), (0, .ref h), (1, .int st), (2, .int tg), (3, .int (pq_enc (pq_pick (ms_ok F st tg) (ms_bf E sp) i))), (4, .int (nI i))]) hx hb dX1_firstOf_48 hl (by decide) rfl (fun ls0 hl => ?_)
            refine lv_iload_n hx hb dX1_firstOf_50 rfl (lv_at hl 4 rfl) ?_
            refine lv_if_lt (tgt := 103) hx hb dX1_firstOf_51 (by decide) (fun c51 => ?_) (fun c51 => ?_)
            · have hpk : pq_pick (ms_ok F st tg) (ms_bf E sp) i = none := (pq_enc_lt (fun n q => Nat.lt_of_lt_of_le (pq_pick_lt q).1 hi)).mp c51
              refine lv_iconst (v := 1) hx hb dX1_firstOf_103 (by decide) ?_
              refine lv_goto (tgt := 108) hx hb dX1_firstOf_104 (by decide) ?_
              refine lv_istore (lv' := [(6, .int 1), (5, .int 1), (0, .ref h), (1, .int st), (2, .int tg), (3, .int (pq_enc (pq_pick (ms_ok F st tg) (ms_bf E sp) i))), (4, .int (nI i))]) hx hb dX1_firstOf_108 hl (by decide) rfl (fun ls0 hl => ?_)
              refine lv_iload hx hb dX1_firstOf_110 (lv_at hl 1 rfl) ?_
              refine lv_if_eq (tgt := 125) hx hb dX1_firstOf_112 (by decide) (fun c112 => ?_) (fun c112 => ?_)
              · exact absurd c112 (by decide)
              · refine lv_iload hx hb dX1_firstOf_115 (lv_at hl 0 rfl) ?_
                refine lv_if_eq (tgt := 125) hx hb dX1_firstOf_117 (by decide) (fun c117 => ?_) (fun c117 => ?_)
                · exact absurd c117 (by decide)
                · refine lv_iload hx hb dX1_firstOf_120 (lv_at hl 6 rfl) ?_
                  refine lv_goto (tgt := 126) hx hb dX1_firstOf_122 (by decide) ?_
                  refine lv_istore_n (lv' := [(3, .int (nI i)), (6, .int 1), (5, .int 1), (0, .ref h), (1, .int st), (2, .int tg), (4, .int (nI i))]) hx hb dX1_firstOf_126 rfl hl (by decide) rfl (fun ls0 hl => ?_)
                  refine lv_iinc (v := nI (i + 1)) (lv' := [(4, .int (nI (i + 1))), (3, .int (nI i)), (6, .int 1), (5, .int 1), (0, .ref h), (1, .int st), (2, .int tg)]) hx hb dX1_firstOf_127 hl (k := 6) rfl (nI_1 _) (by decide) rfl (fun ls0 hl => ?_)
                  refine lv_goto (tgt := 9) hx hb dX1_firstOf_130 (by decide) ?_
                  have ep : pq_pick (ms_ok F st tg) (ms_bf E sp) (i + 1) = _ := pq_st_0 (show ms_ok F st tg i = true from decide_eq_true ⟨c24, Or.inl c29⟩) hpk
                  exact ih9 (i + 1) (by omega) (by omega) H locs ls0 hP hD hS (by rw [ep]; exact lv_sub hl [4, 5, 6, 1, 0] rfl)
            · obtain ⟨b, hpk⟩ : ∃ b, pq_pick (ms_ok F st tg) (ms_bf E sp) i = some b := by
                cases q : pq_pick (ms_ok F st tg) (ms_bf E sp) i with
                | none => exact absurd (show pq_enc (pq_pick (ms_ok F st tg) (ms_bf E sp) i) < 0 by rw [q]; decide) c51
                | some b => exact ⟨b, rfl⟩
              have hb16 : b < 16 := Nat.lt_of_lt_of_le (pq_pick_lt hpk).1 hi
              rw [hpk] at hl
              have hl : lv_has ls0 7 [(5, .int 1), (0, .ref h), (1, .int st), (2, .int tg), (3, .int (nI b)), (4, .int (nI i))] := hl
              refine lv_aload_n hx hb dX1_firstOf_54 rfl (lv_at hl 1 rfl) ?_
              refine va_get (D := D) (ci := 1) (v := .ref (a 10)) (C := RX1) (T := TX1) (N := 17) hx hb hts hin hown hK hP 0 rfl rfl 16 (by decide) hf44 (fun _ h9 => h9) rfl dX1_firstOf_55 ?_
              refine lv_iload hx hb dX1_firstOf_58 (lv_at hl 5 rfl) ?_
              refine zz_iald hx hb hK hP 11 10 rfl rfl (hi16) (by decide) dX1_firstOf_60 ?_
              refine lv_aload_n hx hb dX1_firstOf_61 rfl (lv_at hl 1 rfl) ?_
              refine va_get (D := D) (ci := 1) (v := .ref (a 10)) (C := RX1) (T := TX1) (N := 17) hx hb hts hin hown hK hP 0 rfl rfl 16 (by decide) hf44 (fun _ h9 => h9) rfl dX1_firstOf_62 ?_
              refine lv_iload_n hx hb dX1_firstOf_65 rfl (lv_at hl 4 rfl) ?_
              refine zz_iald hx hb hK hP 11 10 rfl rfl (hb16) (by decide) dX1_firstOf_66 ?_
              refine lv_icmp_gt (tgt := 103) hx hb dX1_firstOf_67 (by decide) (fun c67 => ?_) (fun c67 => ?_)
              · refine lv_iconst (v := 1) hx hb dX1_firstOf_103 (by decide) ?_
                refine lv_goto (tgt := 108) hx hb dX1_firstOf_104 (by decide) ?_
                refine lv_istore (lv' := [(6, .int 1), (5, .int 1), (0, .ref h), (1, .int st), (2, .int tg), (3, .int (nI b)), (4, .int (nI i))]) hx hb dX1_firstOf_108 hl (by decide) rfl (fun ls0 hl => ?_)
                refine lv_iload hx hb dX1_firstOf_110 (lv_at hl 1 rfl) ?_
                refine lv_if_eq (tgt := 125) hx hb dX1_firstOf_112 (by decide) (fun c112 => ?_) (fun c112 => ?_)
                · exact absurd c112 (by decide)
                · refine lv_iload hx hb dX1_firstOf_115 (lv_at hl 0 rfl) ?_
                  refine lv_if_eq (tgt := 125) hx hb dX1_firstOf_117 (by decide) (fun c117 => ?_) (fun c117 => ?_)
                  · exact absurd c117 (by decide)
                  · refine lv_iload hx hb dX1_firstOf_120 (lv_at hl 6 rfl) ?_
                    refine lv_goto (tgt := 126) hx hb dX1_firstOf_122 (by decide) ?_
                    refine lv_istore_n (lv' := [(3, .int (nI i)), (6, .int 1), (5, .int 1), (0, .ref h), (1, .int st), (2, .int tg), (4, .int (nI i))]) hx hb dX1_firstOf_126 rfl hl (by decide) rfl (fun ls0 hl => ?_)
                    refine lv_iinc (v := nI (i + 1)) (lv' := [(4, .int (nI (i + 1))), (3, .int (nI i)), (6, .int 1), (5, .int 1), (0, .ref h), (1, .int st), (2, .int tg)]) hx hb dX1_firstOf_127 hl (k := 6) rfl (nI_1 _) (by decide) rfl (fun ls0 hl => ?_)
                    refine lv_goto (tgt := 9) hx hb dX1_firstOf_130 (by decide) ?_
                    have ep : pq_pick (ms_ok F st tg) (ms_bf E sp) (i + 1) = _ := pq_st_1 (show ms_ok F st tg i = true from decide_eq_true ⟨c24, Or.inl c29⟩) hpk (decide_eq_true (Or.inl c67))
                    exact ih9 (i + 1) (by omega) (by omega) H locs ls0 hP hD hS (by rw [ep]; exact lv_sub hl [4, 5, 6, 1, 0] rfl)
              · refine lv_aload_n hx hb dX1_firstOf_70 rfl (lv_at hl 1 rfl) ?_
                refine va_get (D := D) (ci := 1) (v := .ref (a 10)) (C := RX1) (T := TX1) (N := 17) hx hb hts hin hown hK hP 0 rfl rfl 16 (by decide) hf44 (fun _ h9 => h9) rfl dX1_firstOf_71 ?_
                refine lv_iload hx hb dX1_firstOf_74 (lv_at hl 5 rfl) ?_
                refine zz_iald hx hb hK hP 11 10 rfl rfl (hi16) (by decide) dX1_firstOf_76 ?_
                refine lv_aload_n hx hb dX1_firstOf_77 rfl (lv_at hl 1 rfl) ?_
                refine va_get (D := D) (ci := 1) (v := .ref (a 10)) (C := RX1) (T := TX1) (N := 17) hx hb hts hin hown hK hP 0 rfl rfl 16 (by decide) hf44 (fun _ h9 => h9) rfl dX1_firstOf_78 ?_
                refine lv_iload_n hx hb dX1_firstOf_81 rfl (lv_at hl 4 rfl) ?_
                refine zz_iald hx hb hK hP 11 10 rfl rfl (hb16) (by decide) dX1_firstOf_82 ?_
                refine lv_icmp_ne (tgt := 107) hx hb dX1_firstOf_83 (by decide) (fun c83 => ?_) (fun c83 => ?_)
                · refine lv_iconst (v := 0) hx hb dX1_firstOf_107 (by decide) ?_
                  refine lv_istore (lv' := [(6, .int 0), (5, .int 1), (0, .ref h), (1, .int st), (2, .int tg), (3, .int (nI b)), (4, .int (nI i))]) hx hb dX1_firstOf_108 hl (by decide) rfl (fun ls0 hl => ?_)
                  refine lv_iload hx hb dX1_firstOf_110 (lv_at hl 1 rfl) ?_
                  refine lv_if_eq (tgt := 125) hx hb dX1_firstOf_112 (by decide) (fun c112 => ?_) (fun c112 => ?_)
                  · exact absurd c112 (by decide)
                  · refine lv_iload hx hb dX1_firstOf_115 (lv_at hl 0 rfl) ?_
                    refine lv_if_eq (tgt := 125) hx hb dX1_firstOf_117 (by decide) (fun c117 => ?_) (fun c117 => ?_)
                    · refine lv_iload_n hx hb dX1_firstOf_125 rfl (lv_at hl 5 rfl) ?_
                      refine lv_istore_n (lv' := [(3, .int (nI b)), (6, .int 0), (5, .int 1), (0, .ref h), (1, .int st), (2, .int tg), (4, .int (nI i))]) hx hb dX1_firstOf_126 rfl hl (by decide) rfl (fun ls0 hl => ?_)
                      refine lv_iinc (v := nI (i + 1)) (lv' := [(4, .int (nI (i + 1))), (3, .int (nI b)), (6, .int 0), (5, .int 1), (0, .ref h), (1, .int st), (2, .int tg)]) hx hb dX1_firstOf_127 hl (k := 6) rfl (nI_1 _) (by decide) rfl (fun ls0 hl => ?_)
                      refine lv_goto (tgt := 9) hx hb dX1_firstOf_130 (by decide) ?_
                      have ep : pq_pick (ms_ok F st tg) (ms_bf E sp) (i + 1) = _ := pq_st_2 hpk (decide_eq_false (fun q => q.elim (fun z => c67 z) (fun z => c83 z.1)))
                      exact ih9 (i + 1) (by omega) (by omega) H locs ls0 hP hD hS (by rw [ep]; exact lv_sub hl [4, 5, 6, 1, 0] rfl)
                    · exact absurd rfl c117
                · refine lv_aload_n hx hb dX1_firstOf_86 rfl (lv_at hl 1 rfl) ?_
                  refine va_get (D := D) (ci := 1) (v := .ref (a 11)) (C := RX1) (T := TX1) (N := 17) hx hb hts hin hown hK hP 0 rfl rfl 7 (by decide) hf16 (fun _ h9 => h9) rfl dX1_firstOf_87 ?_
                  refine lv_iload hx hb dX1_firstOf_90 (lv_at hl 5 rfl) ?_
                  refine zz_lald hx hb hK hP 12 11 rfl rfl (hi16) (by decide) dX1_firstOf_92 ?_
                  refine lv_aload_n hx hb dX1_firstOf_93 rfl (lv_at hl 1 rfl) ?_
                  refine va_get (D := D) (ci := 1) (v := .ref (a 11)) (C := RX1) (T := TX1) (N := 17) hx hb hts hin hown hK hP 0 rfl rfl 7 (by decide) hf16 (fun _ h9 => h9) rfl dX1_firstOf_94 ?_
                  refine lv_iload_n hx hb dX1_firstOf_97 rfl (lv_at hl 4 rfl) ?_
                  refine zz_lald hx hb hK hP 12 11 rfl rfl (hb16) (by decide) dX1_firstOf_98 ?_
                  refine W.lcmp hx hb dX1_firstOf_99 ?_
                  refine lv_if_ge (tgt := 107) hx hb dX1_firstOf_100 (by decide) (fun c100 => ?_) (fun c100 => ?_)
                  · refine lv_iconst (v := 0) hx hb dX1_firstOf_107 (by decide) ?_
                    refine lv_istore (lv' := [(6, .int 0), (5, .int 1), (0, .ref h), (1, .int st), (2, .int tg), (3, .int (nI b)), (4, .int (nI i))]) hx hb dX1_firstOf_108 hl (by decide) rfl (fun ls0 hl => ?_)
                    refine lv_iload hx hb dX1_firstOf_110 (lv_at hl 1 rfl) ?_
                    refine lv_if_eq (tgt := 125) hx hb dX1_firstOf_112 (by decide) (fun c112 => ?_) (fun c112 => ?_)
                    · exact absurd c112 (by decide)
                    · refine lv_iload hx hb dX1_firstOf_115 (lv_at hl 0 rfl) ?_
                      refine lv_if_eq (tgt := 125) hx hb dX1_firstOf_117 (by decide) (fun c117 => ?_) (fun c117 => ?_)
                      · refine lv_iload_n hx hb dX1_firstOf_125 rfl (lv_at hl 5 rfl) ?_
                        refine lv_istore_n (lv' := [(3, .int (nI b)), (6, .int 0), (5, .int 1), (0, .ref h), (1, .int st), (2, .int tg), (4, .int (nI i))]) hx hb dX1_firstOf_126 rfl hl (by decide) rfl (fun ls0 hl => ?_)
                        refine lv_iinc (v := nI (i + 1)) (lv' := [(4, .int (nI (i + 1))), (3, .int (nI b)), (6, .int 0), (5, .int 1), (0, .ref h), (1, .int st), (2, .int tg)]) hx hb dX1_firstOf_127 hl (k := 6) rfl (nI_1 _) (by decide) rfl (fun ls0 hl => ?_)
                        refine lv_goto (tgt := 9) hx hb dX1_firstOf_130 (by decide) ?_
                        have ep : pq_pick (ms_ok F st tg) (ms_bf E sp) (i + 1) = _ := pq_st_2 hpk (decide_eq_false (fun q => q.elim (fun z => c67 z) (fun z => zl_ge c100 z.2)))
                        exact ih9 (i + 1) (by omega) (by omega) H locs ls0 hP hD hS (by rw [ep]; exact lv_sub hl [4, 5, 6, 1, 0] rfl)
                      · exact absurd rfl c117
                  · refine lv_iconst (v := 1) hx hb dX1_firstOf_103 (by decide) ?_
                    refine lv_goto (tgt := 108) hx hb dX1_firstOf_104 (by decide) ?_
                    refine lv_istore (lv' := [(6, .int 1), (5, .int 1), (0, .ref h), (1, .int st), (2, .int tg), (3, .int (nI b)), (4, .int (nI i))]) hx hb dX1_firstOf_108 hl (by decide) rfl (fun ls0 hl => ?_)
                    refine lv_iload hx hb dX1_firstOf_110 (lv_at hl 1 rfl) ?_
                    refine lv_if_eq (tgt := 125) hx hb dX1_firstOf_112 (by decide) (fun c112 => ?_) (fun c112 => ?_)
                    · exact absurd c112 (by decide)
                    · refine lv_iload hx hb dX1_firstOf_115 (lv_at hl 0 rfl) ?_
                      refine lv_if_eq (tgt := 125) hx hb dX1_firstOf_117 (by decide) (fun c117 => ?_) (fun c117 => ?_)
                      · exact absurd c117 (by decide)
                      · refine lv_iload hx hb dX1_firstOf_120 (lv_at hl 6 rfl) ?_
                        refine lv_goto (tgt := 126) hx hb dX1_firstOf_122 (by decide) ?_
                        refine lv_istore_n (lv' := [(3, .int (nI i)), (6, .int 1), (5, .int 1), (0, .ref h), (1, .int st), (2, .int tg), (4, .int (nI i))]) hx hb dX1_firstOf_126 rfl hl (by decide) rfl (fun ls0 hl => ?_)
                        refine lv_iinc (v := nI (i + 1)) (lv' := [(4, .int (nI (i + 1))), (3, .int (nI i)), (6, .int 1), (5, .int 1), (0, .ref h), (1, .int st), (2, .int tg)]) hx hb dX1_firstOf_127 hl (k := 6) rfl (nI_1 _) (by decide) rfl (fun ls0 hl => ?_)
                        refine lv_goto (tgt := 9) hx hb dX1_firstOf_130 (by decide) ?_
                        have ep : pq_pick (ms_ok F st tg) (ms_bf E sp) (i + 1) = _ := pq_st_1 (show ms_ok F st tg i = true from decide_eq_true ⟨c24, Or.inl c29⟩) hpk (decide_eq_true (Or.inr ⟨c83, zl_lt c100⟩))
                        exact ih9 (i + 1) (by omega) (by omega) H locs ls0 hP hD hS (by rw [ep]; exact lv_sub hl [4, 5, 6, 1, 0] rfl)
          · refine lv_aload_n hx hb dX1_firstOf_32 rfl (lv_at hl 0 rfl) ?_
            refine va_get (D := D) (ci := 1) (v := .ref (a 2)) (C := RX1) (T := TX1) (N := 17) hx hb hts hin hown hK hP 0 rfl rfl 8 (by decide) hf20 (fun _ h9 => h9) rfl dX1_firstOf_33 ?_
            refine lv_iload hx hb dX1_firstOf_36 (lv_at hl 4 rfl) ?_
            refine zz_iald hx hb hK hP 3 2 rfl rfl (hi16) (by decide) dX1_firstOf_38 ?_
            refine lv_iload_n hx hb dX1_firstOf_39 rfl (lv_at hl 2 rfl) ?_
            refine lv_icmp_ne (tgt := 47) hx hb dX1_firstOf_40 (by decide) (fun c40 => ?_) (fun c40 => ?_)
            · refine lv_iconst (v := 0) hx hb dX1_firstOf_47 (by decide) ?_
              refine lv_istore (lv' := [(5, .int 0), (0, .ref h), (1, .int st), (2, .int tg), (3, .int (pq_enc (pq_pick (ms_ok F st tg) (ms_bf E sp) i))), (4, .int (nI i))]) hx hb dX1_firstOf_48 hl (by decide) rfl (fun ls0 hl => ?_)
              refine lv_iload_n hx hb dX1_firstOf_50 rfl (lv_at hl 4 rfl) ?_
              refine lv_if_lt (tgt := 103) hx hb dX1_firstOf_51 (by decide) (fun c51 => ?_) (fun c51 => ?_)
              · have hpk : pq_pick (ms_ok F st tg) (ms_bf E sp) i = none := (pq_enc_lt (fun n q => Nat.lt_of_lt_of_le (pq_pick_lt q).1 hi)).mp c51
                refine lv_iconst (v := 1) hx hb dX1_firstOf_103 (by decide) ?_
                refine lv_goto (tgt := 108) hx hb dX1_firstOf_104 (by decide) ?_
                refine lv_istore (lv' := [(6, .int 1), (5, .int 0), (0, .ref h), (1, .int st), (2, .int tg), (3, .int (pq_enc (pq_pick (ms_ok F st tg) (ms_bf E sp) i))), (4, .int (nI i))]) hx hb dX1_firstOf_108 hl (by decide) rfl (fun ls0 hl => ?_)
                refine lv_iload hx hb dX1_firstOf_110 (lv_at hl 1 rfl) ?_
                refine lv_if_eq (tgt := 125) hx hb dX1_firstOf_112 (by decide) (fun c112 => ?_) (fun c112 => ?_)
                · refine lv_iload_n hx hb dX1_firstOf_125 rfl (lv_at hl 5 rfl) ?_
                  refine lv_istore_n (lv' := [(3, .int (pq_enc (pq_pick (ms_ok F st tg) (ms_bf E sp) i))), (6, .int 1), (5, .int 0), (0, .ref h), (1, .int st), (2, .int tg), (4, .int (nI i))]) hx hb dX1_firstOf_126 rfl hl (by decide) rfl (fun ls0 hl => ?_)
                  refine lv_iinc (v := nI (i + 1)) (lv' := [(4, .int (nI (i + 1))), (3, .int (pq_enc (pq_pick (ms_ok F st tg) (ms_bf E sp) i))), (6, .int 1), (5, .int 0), (0, .ref h), (1, .int st), (2, .int tg)]) hx hb dX1_firstOf_127 hl (k := 6) rfl (nI_1 _) (by decide) rfl (fun ls0 hl => ?_)
                  refine lv_goto (tgt := 9) hx hb dX1_firstOf_130 (by decide) ?_
                  have ep : pq_pick (ms_ok F st tg) (ms_bf E sp) (i + 1) = _ := pq_st_no (decide_eq_false (fun q => q.2.elim c29 c40))
                  exact ih9 (i + 1) (by omega) (by omega) H locs ls0 hP hD hS (by rw [ep]; exact lv_sub hl [4, 5, 6, 1, 0] rfl)
                · exact absurd rfl c112
              · obtain ⟨b, hpk⟩ : ∃ b, pq_pick (ms_ok F st tg) (ms_bf E sp) i = some b := by
                  cases q : pq_pick (ms_ok F st tg) (ms_bf E sp) i with
                  | none => exact absurd (show pq_enc (pq_pick (ms_ok F st tg) (ms_bf E sp) i) < 0 by rw [q]; decide) c51
                  | some b => exact ⟨b, rfl⟩
                have hb16 : b < 16 := Nat.lt_of_lt_of_le (pq_pick_lt hpk).1 hi
                rw [hpk] at hl
                have hl : lv_has ls0 7 [(5, .int 0), (0, .ref h), (1, .int st), (2, .int tg), (3, .int (nI b)), (4, .int (nI i))] := hl
                refine lv_aload_n hx hb dX1_firstOf_54 rfl (lv_at hl 1 rfl) ?_
                refine va_get (D := D) (ci := 1) (v := .ref (a 10)) (C := RX1) (T := TX1) (N := 17) hx hb hts hin hown hK hP 0 rfl rfl 16 (by decide) hf44 (fun _ h9 => h9) rfl dX1_firstOf_55 ?_
                refine lv_iload hx hb dX1_firstOf_58 (lv_at hl 5 rfl) ?_
                refine zz_iald hx hb hK hP 11 10 rfl rfl (hi16) (by decide) dX1_firstOf_60 ?_
                refine lv_aload_n hx hb dX1_firstOf_61 rfl (lv_at hl 1 rfl) ?_
                refine va_get (D := D) (ci := 1) (v := .ref (a 10)) (C := RX1) (T := TX1) (N := 17) hx hb hts hin hown hK hP 0 rfl rfl 16 (by decide) hf44 (fun _ h9 => h9) rfl dX1_firstOf_62 ?_
                refine lv_iload_n hx hb dX1_firstOf_65 rfl (lv_at hl 4 rfl) ?_
                refine zz_iald hx hb hK hP 11 10 rfl rfl (hb16) (by decide) dX1_firstOf_66 ?_
                refine lv_icmp_gt (tgt := 103) hx hb dX1_firstOf_67 (by decide) (fun c67 => ?_) (fun c67 => ?_)
                · refine lv_iconst (v := 1) hx hb dX1_firstOf_103 (by decide) ?_
                  refine lv_goto (tgt := 108) hx hb dX1_firstOf_104 (by decide) ?_
                  refine lv_istore (lv' := [(6, .int 1), (5, .int 0), (0, .ref h), (1, .int st), (2, .int tg), (3, .int (nI b)), (4, .int (nI i))]) hx hb dX1_firstOf_108 hl (by decide) rfl (fun ls0 hl => ?_)
                  refine lv_iload hx hb dX1_firstOf_110 (lv_at hl 1 rfl) ?_
                  refine lv_if_eq (tgt := 125) hx hb dX1_firstOf_112 (by decide) (fun c112 => ?_) (fun c112 => ?_)
                  · refine lv_iload_n hx hb dX1_firstOf_125 rfl (lv_at hl 5 rfl) ?_
                    refine lv_istore_n (lv' := [(3, .int (nI b)), (6, .int 1), (5, .int 0), (0, .ref h), (1, .int st), (2, .int tg), (4, .int (nI i))]) hx hb dX1_firstOf_126 rfl hl (by decide) rfl (fun ls0 hl => ?_)
                    refine lv_iinc (v := nI (i + 1)) (lv' := [(4, .int (nI (i + 1))), (3, .int (nI b)), (6, .int 1), (5, .int 0), (0, .ref h), (1, .int st), (2, .int tg)]) hx hb dX1_firstOf_127 hl (k := 6) rfl (nI_1 _) (by decide) rfl (fun ls0 hl => ?_)
                    refine lv_goto (tgt := 9) hx hb dX1_firstOf_130 (by decide) ?_
                    have ep : pq_pick (ms_ok F st tg) (ms_bf E sp) (i + 1) = _ := (pq_st_no (decide_eq_false (fun q => q.2.elim c29 c40))).trans hpk
                    exact ih9 (i + 1) (by omega) (by omega) H locs ls0 hP hD hS (by rw [ep]; exact lv_sub hl [4, 5, 6, 1, 0] rfl)
                  · exact absurd rfl c112
                · refine lv_aload_n hx hb dX1_firstOf_70 rfl (lv_at hl 1 rfl) ?_
                  refine va_get (D := D) (ci := 1) (v := .ref (a 10)) (C := RX1) (T := TX1) (N := 17) hx hb hts hin hown hK hP 0 rfl rfl 16 (by decide) hf44 (fun _ h9 => h9) rfl dX1_firstOf_71 ?_
                  refine lv_iload hx hb dX1_firstOf_74 (lv_at hl 5 rfl) ?_
                  refine zz_iald hx hb hK hP 11 10 rfl rfl (hi16) (by decide) dX1_firstOf_76 ?_
                  refine lv_aload_n hx hb dX1_firstOf_77 rfl (lv_at hl 1 rfl) ?_
                  refine va_get (D := D) (ci := 1) (v := .ref (a 10)) (C := RX1) (T := TX1) (N := 17) hx hb hts hin hown hK hP 0 rfl rfl 16 (by decide) hf44 (fun _ h9 => h9) rfl dX1_firstOf_78 ?_
                  refine lv_iload_n hx hb dX1_firstOf_81 rfl (lv_at hl 4 rfl) ?_
                  refine zz_iald hx hb hK hP 11 10 rfl rfl (hb16) (by decide) dX1_firstOf_82 ?_
                  refine lv_icmp_ne (tgt := 107) hx hb dX1_firstOf_83 (by decide) (fun c83 => ?_) (fun c83 => ?_)
                  · refine lv_iconst (v := 0) hx hb dX1_firstOf_107 (by decide) ?_
                    refine lv_istore (lv' := [(6, .int 0), (5, .int 0), (0, .ref h), (1, .int st), (2, .int tg), (3, .int (nI b)), (4, .int (nI i))]) hx hb dX1_firstOf_108 hl (by decide) rfl (fun ls0 hl => ?_)
                    refine lv_iload hx hb dX1_firstOf_110 (lv_at hl 1 rfl) ?_
                    refine lv_if_eq (tgt := 125) hx hb dX1_firstOf_112 (by decide) (fun c112 => ?_) (fun c112 => ?_)
                    · refine lv_iload_n hx hb dX1_firstOf_125 rfl (lv_at hl 5 rfl) ?_
                      refine lv_istore_n (lv' := [(3, .int (nI b)), (6, .int 0), (5, .int 0), (0, .ref h), (1, .int st), (2, .int tg), (4, .int (nI i))]) hx hb dX1_firstOf_126 rfl hl (by decide) rfl (fun ls0 hl => ?_)
                      refine lv_iinc (v := nI (i + 1)) (lv' := [(4, .int (nI (i + 1))), (3, .int (nI b)), (6, .int 0), (5, .int 0), (0, .ref h), (1, .int st), (2, .int tg)]) hx hb dX1_firstOf_127 hl (k := 6) rfl (nI_1 _) (by decide) rfl (fun ls0 hl => ?_)
                      refine lv_goto (tgt := 9) hx hb dX1_firstOf_130 (by decide) ?_
                      have ep : pq_pick (ms_ok F st tg) (ms_bf E sp) (i + 1) = _ := (pq_st_no (decide_eq_false (fun q => q.2.elim c29 c40))).trans hpk
                      exact ih9 (i + 1) (by omega) (by omega) H locs ls0 hP hD hS (by rw [ep]; exact lv_sub hl [4, 5, 6, 1, 0] rfl)
                    · exact absurd rfl c112
                  · refine lv_aload_n hx hb dX1_firstOf_86 rfl (lv_at hl 1 rfl) ?_
                    refine va_get (D := D) (ci := 1) (v := .ref (a 11)) (C := RX1) (T := TX1) (N := 17) hx hb hts hin hown hK hP 0 rfl rfl 7 (by decide) hf16 (fun _ h9 => h9) rfl dX1_firstOf_87 ?_
                    refine lv_iload hx hb dX1_firstOf_90 (lv_at hl 5 rfl) ?_
                    refine zz_lald hx hb hK hP 12 11 rfl rfl (hi16) (by decide) dX1_firstOf_92 ?_
                    refine lv_aload_n hx hb dX1_firstOf_93 rfl (lv_at hl 1 rfl) ?_
                    refine va_get (D := D) (ci := 1) (v := .ref (a 11)) (C := RX1) (T := TX1) (N := 17) hx hb hts hin hown hK hP 0 rfl rfl 7 (by decide) hf16 (fun _ h9 => h9) rfl dX1_firstOf_94 ?_
                    refine lv_iload_n hx hb dX1_firstOf_97 rfl (lv_at hl 4 rfl) ?_
                    refine zz_lald hx hb hK hP 12 11 rfl rfl (hb16) (by decide) dX1_firstOf_98 ?_
                    refine W.lcmp hx hb dX1_firstOf_99 ?_
                    refine lv_if_ge (tgt := 107) hx hb dX1_firstOf_100 (by decide) (fun c100 => ?_) (fun c100 => ?_)
                    · refine lv_iconst (v := 0) hx hb dX1_firstOf_107 (by decide) ?_
                      refine lv_istore (lv' := [(6, .int 0), (5, .int 0), (0, .ref h), (1, .int st), (2, .int tg), (3, .int (nI b)), (4, .int (nI i))]) hx hb dX1_firstOf_108 hl (by decide) rfl (fun ls0 hl => ?_)
                      refine lv_iload hx hb dX1_firstOf_110 (lv_at hl 1 rfl) ?_
                      refine lv_if_eq (tgt := 125) hx hb dX1_firstOf_112 (by decide) (fun c112 => ?_) (fun c112 => ?_)
                      · refine lv_iload_n hx hb dX1_firstOf_125 rfl (lv_at hl 5 rfl) ?_
                        refine lv_istore_n (lv' := [(3, .int (nI b)), (6, .int 0), (5, .int 0), (0, .ref h), (1, .int st), (2, .int tg), (4, .int (nI i))]) hx hb dX1_firstOf_126 rfl hl (by decide) rfl (fun ls0 hl => ?_)
                        refine lv_iinc (v := nI (i + 1)) (lv' := [(4, .int (nI (i + 1))), (3, .int (nI b)), (6, .int 0), (5, .int 0), (0, .ref h), (1, .int st), (2, .int tg)]) hx hb dX1_firstOf_127 hl (k := 6) rfl (nI_1 _) (by decide) rfl (fun ls0 hl => ?_)
                        refine lv_goto (tgt := 9) hx hb dX1_firstOf_130 (by decide) ?_
                        have ep : pq_pick (ms_ok F st tg) (ms_bf E sp) (i + 1) = _ := (pq_st_no (decide_eq_false (fun q => q.2.elim c29 c40))).trans hpk
                        exact ih9 (i + 1) (by omega) (by omega) H locs ls0 hP hD hS (by rw [ep]; exact lv_sub hl [4, 5, 6, 1, 0] rfl)
                      · exact absurd rfl c112
                    · refine lv_iconst (v := 1) hx hb dX1_firstOf_103 (by decide) ?_
                      refine lv_goto (tgt := 108) hx hb dX1_firstOf_104 (by decide) ?_
                      refine lv_istore (lv' := [(6, .int 1), (5, .int 0), (0, .ref h), (1, .int st), (2, .int tg), (3, .int (nI b)), (4, .int (nI i))]) hx hb dX1_firstOf_108 hl (by decide) rfl (fun ls0 hl => ?_)
                      refine lv_iload hx hb dX1_firstOf_110 (lv_at hl 1 rfl) ?_
                      refine lv_if_eq (tgt := 125) hx hb dX1_firstOf_112 (by decide) (fun c112 => ?_) (fun c112 => ?_)
                      · refine lv_iload_n hx hb dX1_firstOf_125 rfl (lv_at hl 5 rfl) ?_
                        refine lv_istore_n (lv' := [(3, .int (nI b)), (6, .int 1), (5, .int 0), (0, .ref h), (1, .int st), (2, .int tg), (4, .int (nI i))]) hx hb dX1_firstOf_126 rfl hl (by decide) rfl (fun ls0 hl => ?_)
                        refine lv_iinc (v := nI (i + 1)) (lv' := [(4, .int (nI (i + 1))), (3, .int (nI b)), (6, .int 1), (5, .int 0), (0, .ref h), (1, .int st), (2, .int tg)]) hx hb dX1_firstOf_127 hl (k := 6) rfl (nI_1 _) (by decide) rfl (fun ls0 hl => ?_)
                        refine lv_goto (tgt := 9) hx hb dX1_firstOf_130 (by decide) ?_
                        have ep : pq_pick (ms_ok F st tg) (ms_bf E sp) (i + 1) = _ := (pq_st_no (decide_eq_false (fun q => q.2.elim c29 c40))).trans hpk
                        exact ih9 (i + 1) (by omega) (by omega) H locs ls0 hP hD hS (by rw [ep]; exact lv_sub hl [4, 5, 6, 1, 0] rfl)
                      · exact absurd rfl c112
            · refine lv_iconst (v := 1) hx hb dX1_firstOf_43 (by decide) ?_
              refine lv_goto (tgt := 48) hx hb dX1_firstOf_44 (by decide) ?_
              refine lv_istore (lv' := [(5, .int 1), (0, .ref h), (1, .int st), (2, .int tg), (3, .int (pq_enc (pq_pick (ms_ok F st tg) (ms_bf E sp) i))), (4, .int (nI i))]) hx hb dX1_firstOf_48 hl (by decide) rfl (fun ls0 hl => ?_)
              refine lv_iload_n hx hb dX1_firstOf_50 rfl (lv_at hl 4 rfl) ?_
              refine lv_if_lt (tgt := 103) hx hb dX1_firstOf_51 (by decide) (fun c51 => ?_) (fun c51 => ?_)
              · have hpk : pq_pick (ms_ok F st tg) (ms_bf E sp) i = none := (pq_enc_lt (fun n q => Nat.lt_of_lt_of_le (pq_pick_lt q).1 hi)).mp c51
                refine lv_iconst (v := 1) hx hb dX1_firstOf_103 (by decide) ?_
                refine lv_goto (tgt := 108) hx hb dX1_firstOf_104 (by decide) ?_
                refine lv_istore (lv' := [(6, .int 1), (5, .int 1), (0, .ref h), (1, .int st), (2, .int tg), (3, .int (pq_enc (pq_pick (ms_ok F st tg) (ms_bf E sp) i))), (4, .int (nI i))]) hx hb dX1_firstOf_108 hl (by decide) rfl (fun ls0 hl => ?_)
                refine lv_iload hx hb dX1_firstOf_110 (lv_at hl 1 rfl) ?_
                refine lv_if_eq (tgt := 125) hx hb dX1_firstOf_112 (by decide) (fun c112 => ?_) (fun c112 => ?_)
                · exact absurd c112 (by decide)
                · refine lv_iload hx hb dX1_firstOf_115 (lv_at hl 0 rfl) ?_
                  refine lv_if_eq (tgt := 125) hx hb dX1_firstOf_117 (by decide) (fun c117 => ?_) (fun c117 => ?_)
                  · exact absurd c117 (by decide)
                  · refine lv_iload hx hb dX1_firstOf_120 (lv_at hl 6 rfl) ?_
                    refine lv_goto (tgt := 126) hx hb dX1_firstOf_122 (by decide) ?_
                    refine lv_istore_n (lv' := [(3, .int (nI i)), (6, .int 1), (5, .int 1), (0, .ref h), (1, .int st), (2, .int tg), (4, .int (nI i))]) hx hb dX1_firstOf_126 rfl hl (by decide) rfl (fun ls0 hl => ?_)
                    refine lv_iinc (v := nI (i + 1)) (lv' := [(4, .int (nI (i + 1))), (3, .int (nI i)), (6, .int 1), (5, .int 1), (0, .ref h), (1, .int st), (2, .int tg)]) hx hb dX1_firstOf_127 hl (k := 6) rfl (nI_1 _) (by decide) rfl (fun ls0 hl => ?_)
                    refine lv_goto (tgt := 9) hx hb dX1_firstOf_130 (by decide) ?_
                    have ep : pq_pick (ms_ok F st tg) (ms_bf E sp) (i + 1) = _ := pq_st_0 (show ms_ok F st tg i = true from decide_eq_true ⟨c24, Or.inr c40⟩) hpk
                    exact ih9 (i + 1) (by omega) (by omega) H locs ls0 hP hD hS (by rw [ep]; exact lv_sub hl [4, 5, 6, 1, 0] rfl)
              · obtain ⟨b, hpk⟩ : ∃ b, pq_pick (ms_ok F st tg) (ms_bf E sp) i = some b := by
                  cases q : pq_pick (ms_ok F st tg) (ms_bf E sp) i with
                  | none => exact absurd (show pq_enc (pq_pick (ms_ok F st tg) (ms_bf E sp) i) < 0 by rw [q]; decide) c51
                  | some b => exact ⟨b, rfl⟩
                have hb16 : b < 16 := Nat.lt_of_lt_of_le (pq_pick_lt hpk).1 hi
                rw [hpk] at hl
                have hl : lv_has ls0 7 [(5, .int 1), (0, .ref h), (1, .int st), (2, .int tg), (3, .int (nI b)), (4, .int (nI i))] := hl
                refine lv_aload_n hx hb dX1_firstOf_54 rfl (lv_at hl 1 rfl) ?_
                refine va_get (D := D) (ci := 1) (v := .ref (a 10)) (C := RX1) (T := TX1) (N := 17) hx hb hts hin hown hK hP 0 rfl rfl 16 (by decide) hf44 (fun _ h9 => h9) rfl dX1_firstOf_55 ?_
                refine lv_iload hx hb dX1_firstOf_58 (lv_at hl 5 rfl) ?_
                refine zz_iald hx hb hK hP 11 10 rfl rfl (hi16) (by decide) dX1_firstOf_60 ?_
                refine lv_aload_n hx hb dX1_firstOf_61 rfl (lv_at hl 1 rfl) ?_
                refine va_get (D := D) (ci := 1) (v := .ref (a 10)) (C := RX1) (T := TX1) (N := 17) hx hb hts hin hown hK hP 0 rfl rfl 16 (by decide) hf44 (fun _ h9 => h9) rfl dX1_firstOf_62 ?_
                refine lv_iload_n hx hb dX1_firstOf_65 rfl (lv_at hl 4 rfl) ?_
                refine zz_iald hx hb hK hP 11 10 rfl rfl (hb16) (by decide) dX1_firstOf_66 ?_
                refine lv_icmp_gt (tgt := 103) hx hb dX1_firstOf_67 (by decide) (fun c67 => ?_) (fun c67 => ?_)
                · refine lv_iconst (v := 1) hx hb dX1_firstOf_103 (by decide) ?_
                  refine lv_goto (tgt := 108) hx hb dX1_firstOf_104 (by decide) ?_
                  refine lv_istore (lv' := [(6, .int 1), (5, .int 1), (0, .ref h), (1, .int st), (2, .int tg), (3, .int (nI b)), (4, .int (nI i))]) hx hb dX1_firstOf_108 hl (by decide) rfl (fun ls0 hl => ?_)
                  refine lv_iload hx hb dX1_firstOf_110 (lv_at hl 1 rfl) ?_
                  refine lv_if_eq (tgt := 125) hx hb dX1_firstOf_112 (by decide) (fun c112 => ?_) (fun c112 => ?_)
                  · exact absurd c112 (by decide)
                  · refine lv_iload hx hb dX1_firstOf_115 (lv_at hl 0 rfl) ?_
                    refine lv_if_eq (tgt := 125) hx hb dX1_firstOf_117 (by decide) (fun c117 => ?_) (fun c117 => ?_)
                    · exact absurd c117 (by decide)
                    · refine lv_iload hx hb dX1_firstOf_120 (lv_at hl 6 rfl) ?_
                      refine lv_goto (tgt := 126) hx hb dX1_firstOf_122 (by decide) ?_
                      refine lv_istore_n (lv' := [(3, .int (nI i)), (6, .int 1), (5, .int 1), (0, .ref h), (1, .int st), (2, .int tg), (4, .int (nI i))]) hx hb dX1_firstOf_126 rfl hl (by decide) rfl (fun ls0 hl => ?_)
                      refine lv_iinc (v := nI (i + 1)) (lv' := [(4, .int (nI (i + 1))), (3, .int (nI i)), (6, .int 1), (5, .int 1), (0, .ref h), (1, .int st), (2, .int tg)]) hx hb dX1_firstOf_127 hl (k := 6) rfl (nI_1 _) (by decide) rfl (fun ls0 hl => ?_)
                      refine lv_goto (tgt := 9) hx hb dX1_firstOf_130 (by decide) ?_
                      have ep : pq_pick (ms_ok F st tg) (ms_bf E sp) (i + 1) = _ := pq_st_1 (show ms_ok F st tg i = true from decide_eq_true ⟨c24, Or.inr c40⟩) hpk (decide_eq_true (Or.inl c67))
                      exact ih9 (i + 1) (by omega) (by omega) H locs ls0 hP hD hS (by rw [ep]; exact lv_sub hl [4, 5, 6, 1, 0] rfl)
                · refine lv_aload_n hx hb dX1_firstOf_70 rfl (lv_at hl 1 rfl) ?_
                  refine va_get (D := D) (ci := 1) (v := .ref (a 10)) (C := RX1) (T := TX1) (N := 17) hx hb hts hin hown hK hP 0 rfl rfl 16 (by decide) hf44 (fun _ h9 => h9) rfl dX1_firstOf_71 ?_
                  refine lv_iload hx hb dX1_firstOf_74 (lv_at hl 5 rfl) ?_
                  refine zz_iald hx hb hK hP 11 10 rfl rfl (hi16) (by decide) dX1_firstOf_76 ?_
                  refine lv_aload_n hx hb dX1_firstOf_77 rfl (lv_at hl 1 rfl) ?_
                  refine va_get (D := D) (ci := 1) (v := .ref (a 10)) (C := RX1) (T := TX1) (N := 17) hx hb hts hin hown hK hP 0 rfl rfl 16 (by decide) hf44 (fun _ h9 => h9) rfl dX1_firstOf_78 ?_
                  refine lv_iload_n hx hb dX1_firstOf_81 rfl (lv_at hl 4 rfl) ?_
                  refine zz_iald hx hb hK hP 11 10 rfl rfl (hb16) (by decide) dX1_firstOf_82 ?_
                  refine lv_icmp_ne (tgt := 107) hx hb dX1_firstOf_83 (by decide) (fun c83 => ?_) (fun c83 => ?_)
                  · refine lv_iconst (v := 0) hx hb dX1_firstOf_107 (by decide) ?_
                    refine lv_istore (lv' := [(6, .int 0), (5, .int 1), (0, .ref h), (1, .int st), (2, .int tg), (3, .int (nI b)), (4, .int (nI i))]) hx hb dX1_firstOf_108 hl (by decide) rfl (fun ls0 hl => ?_)
                    refine lv_iload hx hb dX1_firstOf_110 (lv_at hl 1 rfl) ?_
                    refine lv_if_eq (tgt := 125) hx hb dX1_firstOf_112 (by decide) (fun c112 => ?_) (fun c112 => ?_)
                    · exact absurd c112 (by decide)
                    · refine lv_iload hx hb dX1_firstOf_115 (lv_at hl 0 rfl) ?_
                      refine lv_if_eq (tgt := 125) hx hb dX1_firstOf_117 (by decide) (fun c117 => ?_) (fun c117 => ?_)
                      · refine lv_iload_n hx hb dX1_firstOf_125 rfl (lv_at hl 5 rfl) ?_
                        refine lv_istore_n (lv' := [(3, .int (nI b)), (6, .int 0), (5, .int 1), (0, .ref h), (1, .int st), (2, .int tg), (4, .int (nI i))]) hx hb dX1_firstOf_126 rfl hl (by decide) rfl (fun ls0 hl => ?_)
                        refine lv_iinc (v := nI (i + 1)) (lv' := [(4, .int (nI (i + 1))), (3, .int (nI b)), (6, .int 0), (5, .int 1), (0, .ref h), (1, .int st), (2, .int tg)]) hx hb dX1_firstOf_127 hl (k := 6) rfl (nI_1 _) (by decide) rfl (fun ls0 hl => ?_)
                        refine lv_goto (tgt := 9) hx hb dX1_firstOf_130 (by decide) ?_
                        have ep : pq_pick (ms_ok F st tg) (ms_bf E sp) (i + 1) = _ := pq_st_2 hpk (decide_eq_false (fun q => q.elim (fun z => c67 z) (fun z => c83 z.1)))
                        exact ih9 (i + 1) (by omega) (by omega) H locs ls0 hP hD hS (by rw [ep]; exact lv_sub hl [4, 5, 6, 1, 0] rfl)
                      · exact absurd rfl c117
                  · refine lv_aload_n hx hb dX1_firstOf_86 rfl (lv_at hl 1 rfl) ?_
                    refine va_get (D := D) (ci := 1) (v := .ref (a 11)) (C := RX1) (T := TX1) (N := 17) hx hb hts hin hown hK hP 0 rfl rfl 7 (by decide) hf16 (fun _ h9 => h9) rfl dX1_firstOf_87 ?_
                    refine lv_iload hx hb dX1_firstOf_90 (lv_at hl 5 rfl) ?_
                    refine zz_lald hx hb hK hP 12 11 rfl rfl (hi16) (by decide) dX1_firstOf_92 ?_
                    refine lv_aload_n hx hb dX1_firstOf_93 rfl (lv_at hl 1 rfl) ?_
                    refine va_get (D := D) (ci := 1) (v := .ref (a 11)) (C := RX1) (T := TX1) (N := 17) hx hb hts hin hown hK hP 0 rfl rfl 7 (by decide) hf16 (fun _ h9 => h9) rfl dX1_firstOf_94 ?_
                    refine lv_iload_n hx hb dX1_firstOf_97 rfl (lv_at hl 4 rfl) ?_
                    refine zz_lald hx hb hK hP 12 11 rfl rfl (hb16) (by decide) dX1_firstOf_98 ?_
                    refine W.lcmp hx hb dX1_firstOf_99 ?_
                    refine lv_if_ge (tgt := 107) hx hb dX1_firstOf_100 (by decide) (fun c100 => ?_) (fun c100 => ?_)
                    · refine lv_iconst (v := 0) hx hb dX1_firstOf_107 (by decide) ?_
                      refine lv_istore (lv' := [(6, .int 0), (5, .int 1), (0, .ref h), (1, .int st), (2, .int tg), (3, .int (nI b)), (4, .int (nI i))]) hx hb dX1_firstOf_108 hl (by decide) rfl (fun ls0 hl => ?_)
                      refine lv_iload hx hb dX1_firstOf_110 (lv_at hl 1 rfl) ?_
                      refine lv_if_eq (tgt := 125) hx hb dX1_firstOf_112 (by decide) (fun c112 => ?_) (fun c112 => ?_)
                      · exact absurd c112 (by decide)
                      · refine lv_iload hx hb dX1_firstOf_115 (lv_at hl 0 rfl) ?_
                        refine lv_if_eq (tgt := 125) hx hb dX1_firstOf_117 (by decide) (fun c117 => ?_) (fun c117 => ?_)
                        · refine lv_iload_n hx hb dX1_firstOf_125 rfl (lv_at hl 5 rfl) ?_
                          refine lv_istore_n (lv' := [(3, .int (nI b)), (6, .int 0), (5, .int 1), (0, .ref h), (1, .int st), (2, .int tg), (4, .int (nI i))]) hx hb dX1_firstOf_126 rfl hl (by decide) rfl (fun ls0 hl => ?_)
                          refine lv_iinc (v := nI (i + 1)) (lv' := [(4, .int (nI (i + 1))), (3, .int (nI b)), (6, .int 0), (5, .int 1), (0, .ref h), (1, .int st), (2, .int tg)]) hx hb dX1_firstOf_127 hl (k := 6) rfl (nI_1 _) (by decide) rfl (fun ls0 hl => ?_)
                          refine lv_goto (tgt := 9) hx hb dX1_firstOf_130 (by decide) ?_
                          have ep : pq_pick (ms_ok F st tg) (ms_bf E sp) (i + 1) = _ := pq_st_2 hpk (decide_eq_false (fun q => q.elim (fun z => c67 z) (fun z => zl_ge c100 z.2)))
                          exact ih9 (i + 1) (by omega) (by omega) H locs ls0 hP hD hS (by rw [ep]; exact lv_sub hl [4, 5, 6, 1, 0] rfl)
                        · exact absurd rfl c117
                    · refine lv_iconst (v := 1) hx hb dX1_firstOf_103 (by decide) ?_
                      refine lv_goto (tgt := 108) hx hb dX1_firstOf_104 (by decide) ?_
                      refine lv_istore (lv' := [(6, .int 1), (5, .int 1), (0, .ref h), (1, .int st), (2, .int tg), (3, .int (nI b)), (4, .int (nI i))]) hx hb dX1_firstOf_108 hl (by decide) rfl (fun ls0 hl => ?_)
                      refine lv_iload hx hb dX1_firstOf_110 (lv_at hl 1 rfl) ?_
                      refine lv_if_eq (tgt := 125) hx hb dX1_firstOf_112 (by decide) (fun c112 => ?_) (fun c112 => ?_)
                      · exact absurd c112 (by decide)
                      · refine lv_iload hx hb dX1_firstOf_115 (lv_at hl 0 rfl) ?_
                        refine lv_if_eq (tgt := 125) hx hb dX1_firstOf_117 (by decide) (fun c117 => ?_) (fun c117 => ?_)
                        · exact absurd c117 (by decide)
                        · refine lv_iload hx hb dX1_firstOf_120 (lv_at hl 6 rfl) ?_
                          refine lv_goto (tgt := 126) hx hb dX1_firstOf_122 (by decide) ?_
                          refine lv_istore_n (lv' := [(3, .int (nI i)), (6, .int 1), (5, .int 1), (0, .ref h), (1, .int st), (2, .int tg), (4, .int (nI i))]) hx hb dX1_firstOf_126 rfl hl (by decide) rfl (fun ls0 hl => ?_)
                          refine lv_iinc (v := nI (i + 1)) (lv' := [(4, .int (nI (i + 1))), (3, .int (nI i)), (6, .int 1), (5, .int 1), (0, .ref h), (1, .int st), (2, .int tg)]) hx hb dX1_firstOf_127 hl (k := 6) rfl (nI_1 _) (by decide) rfl (fun ls0 hl => ?_)
                          refine lv_goto (tgt := 9) hx hb dX1_firstOf_130 (by decide) ?_
                          have ep : pq_pick (ms_ok F st tg) (ms_bf E sp) (i + 1) = _ := pq_st_1 (show ms_ok F st tg i = true from decide_eq_true ⟨c24, Or.inr c40⟩) hpk (decide_eq_true (Or.inr ⟨c83, zl_lt c100⟩))
                          exact ih9 (i + 1) (by omega) (by omega) H locs ls0 hP hD hS (by rw [ep]; exact lv_sub hl [4, 5, 6, 1, 0] rfl)
  exact lp9 17 0 (by omega) (by omega) H locs ls0 hP hD hS (lv_sub hl [2, 3, 4, 1, 0] rfl)
set_option maxHeartbeats 1000000 in
set_option maxRecDepth 100000 in
/-- cM_runs -/
theorem cM_runs (l : Launch) (D : va_G) (h : Nat) (a : Nat → Nat) (cA : Nat → ClassId) (nL nC nB sz : Nat) (hn : nL ≤ 8 ∧ nC ≤ 8 ∧ nB ≤ 8) (F : Nat → Nat → Int32) (sp : Nat → Int64) (cd : Int32) (ck : Int64)  (hI : ms_I F) : Met l yX1_runs wsX1_runs ({ frames := 2, cells := 0, slots := 0, locals := 49 }) (va_Pc [.ref h] (zz_Pre D vwCl (mT cA) (mW h a cA nL nC nB F sp cd ck) sz)) (va_Qi (fun (r : Int32) (u : mS) => ∃ E nx, u = (va_up F 10 E, sp, cd, ck) ∧ ms_fo F sp 1 0 E nx ∧ r = pq_enc nx) (zz_At D vwCl (mT cA) (fun u : mS => mW h a cA nL nC nB u.1 u.2.1 u.2.2.1 u.2.2.2) (va_A (mW h a cA nL nC nB F sp cd ck) sz)) (va_A (mW h a cA nL nC nB F sp cd ck) sz)) 0 0 (va_A (mW h a cA nL nC nB F sp cd ck) sz) := by
  obtain ⟨hnL, hnC, hnB⟩ := hn
  have hn : nL ≤ 8 ∧ nC ≤ 8 ∧ nB ≤ 8 := ⟨hnL, hnC, hnB⟩
  refine zz_of (Qc := fun A => va_Qi (fun (r : Int32) (u : mS) => ∃ E nx, u = (va_up F 10 E, sp, cd, ck) ∧ ms_fo F sp 1 0 E nx ∧ r = pq_enc nx) (zz_At D vwCl (mT cA) (fun u : mS => mW h a cA nL nC nB u.1 u.2.1 u.2.2.1 u.2.2.2) A) A) (by decide) rfl (Nat.le_of_ble_eq_true rfl) ?_
  intro p e s m args below meth c A H locs ls0 hx hb hr hml hown hts hlocks hnm hA hP hK hD hS hl
  have hown : s.vm.findClass RX1 = some m.cls := hown
  have hl : lv_has ls0 1 [(0, .ref h)] := hl
  refine lv_aload_n hx hb dX1_runs_0 rfl (lv_at hl 0 rfl) ?_
  refine lv_iconst (v := 1) hx hb dX1_runs_1 (by decide) ?_
  refine lv_iconst (v := 0) hx hb dX1_runs_2 (by decide) ?_
  refine zz_ci (va_runV (As := [.int 1, .int 0]) (rest := []) ⟨hx, hb, hml, hown, hts⟩ (cM_firstOf l D h a cA nL nC nB H.size hn F sp cd ck 1 0 hI) (cwV 2 hts gX1_runs_X1_firstOf rfl rfl rfl (by decide +kernel) ⟨(Nat.le_of_ble_eq_true rfl), (Nat.le_of_ble_eq_true rfl)⟩) (zz_pV hP hK hD (va_recv hK hP (ci := 1) (q0 := 0) rfl rfl)) rfl rfl hl.1 rfl (lv_room (Nat.le_of_ble_eq_true rfl)) dX1_runs_3 ⟨(Nat.le_of_ble_eq_true rfl), (Nat.le_of_ble_eq_true rfl)⟩) hD hS hA (fun r u H locs hw hP hD hS => ?_)
  obtain ⟨E, nx, hu, hfo, hre⟩ := hw
  subst hu
  subst hre
  have hP : va_P D vwCl (mW h a cA nL nC nB (va_up F 10 E) sp cd ck) H := hP
  have hD : va_D A (mW h a cA nL nC nB (va_up F 10 E) sp cd ck) := hD
  exact zz_ri (va_up F 10 E, sp, cd, ck) hx hb hr hlocks hP hK hD hS (⟨E, nx, rfl, hfo, rfl⟩) dX1_runs_6
set_option maxHeartbeats 1000000 in
set_option maxRecDepth 100000 in
/-- cM_enter -/
theorem cM_enter (l : Launch) (D : va_G) (h : Nat) (a : Nat → Nat) (cA : Nat → ClassId) (nL nC nB sz : Nat) (hn : nL ≤ 8 ∧ nC ≤ 8 ∧ nB ≤ 8) (F : Nat → Nat → Int32) (sp : Nat → Int64) (cd : Int32) (ck : Int64) (t : Nat) (st tg : Int32) (ht : t < 16) : Met l yX1_enter wsX1_enter ({ frames := 0, cells := 0, slots := 0, locals := 0 }) (va_Pc [.ref h, .int (nI t), .int st, .int tg] (zz_Pre D vwCl (mT cA) (mW h a cA nL nC nB F sp cd ck) sz)) (va_Qv (fun (u : mS) => u = (ms_en F t st tg, vp_updL sp t (ck + 1), cd, ck + 1)) (zz_At D vwCl (mT cA) (fun u : mS => mW h a cA nL nC nB u.1 u.2.1 u.2.2.1 u.2.2.2) (va_A (mW h a cA nL nC nB F sp cd ck) sz)) (va_A (mW h a cA nL nC nB F sp cd ck) sz)) 0 0 (va_A (mW h a cA nL nC nB F sp cd ck) sz) := by
  obtain ⟨hnL, hnC, hnB⟩ := hn
  have hn : nL ≤ 8 ∧ nC ≤ 8 ∧ nB ≤ 8 := ⟨hnL, hnC, hnB⟩
  refine zz_of (Qc := fun A => va_Qv (fun (u : mS) => u = (ms_en F t st tg, vp_updL sp t (ck + 1), cd, ck + 1)) (zz_At D vwCl (mT cA) (fun u : mS => mW h a cA nL nC nB u.1 u.2.1 u.2.2.1 u.2.2.2) A) A) (by decide) rfl (Nat.le_of_ble_eq_true rfl) ?_
  intro p e s m args below meth c A H locs ls0 hx hb hr hml hown hts hlocks hnm hA hP hK hD hS hl
  have hown : s.vm.findClass RX1 = some m.cls := hown
  have hl : lv_has ls0 4 [(0, .ref h), (1, .int (nI t)), (2, .int st), (3, .int tg)] := hl
  have hin : ∀ w ∈ u_ws RX1 TX1 17, w ∈ wsX1_enter := by decide +kernel
  have hf7 := hts (.fieldLink RX1 7 "PriorityCoreModel" "states" "[I") (by decide +kernel)
  have hf16 := hts (.fieldLink RX1 16 "PriorityCoreModel" "stamps" "[J") (by decide +kernel)
  have hf20 := hts (.fieldLink RX1 20 "PriorityCoreModel" "things" "[I") (by decide +kernel)
  have hf67 := hts (.fieldLink RX1 67 "PriorityCoreModel" "clock" "J") (by decide +kernel)
  refine lv_aload_n hx hb dX1_enter_0 rfl (lv_at hl 0 rfl) ?_
  refine va_get (D := D) (ci := 1) (v := .ref (a 0)) (C := RX1) (T := TX1) (N := 17) hx hb hts hin hown hK hP 0 rfl rfl 5 (by decide) hf7 (fun _ h9 => h9) rfl dX1_enter_1 ?_
  refine lv_iload_n hx hb dX1_enter_4 rfl (lv_at hl 1 rfl) ?_
  refine lv_iload_n hx hb dX1_enter_5 rfl (lv_at hl 2 rfl) ?_
  refine zz_iast (ws' := mW h a cA nL nC nB (va_up F 0 (upd (F 0) t st)) sp cd ck) hx hb hK hP hD hS 1 0 rfl rfl (ht) (by decide) rfl dX1_enter_6 (fun H locs hP hD hS => ?_)
  refine lv_aload_n hx hb dX1_enter_7 rfl (lv_at hl 0 rfl) ?_
  refine va_get (D := D) (ci := 1) (v := .ref (a 2)) (C := RX1) (T := TX1) (N := 17) hx hb hts hin hown hK hP 0 rfl rfl 8 (by decide) hf20 (fun _ h9 => h9) rfl dX1_enter_8 ?_
  refine lv_iload_n hx hb dX1_enter_11 rfl (lv_at hl 1 rfl) ?_
  refine lv_iload_n hx hb dX1_enter_12 rfl (lv_at hl 3 rfl) ?_
  refine zz_iast (ws' := mW h a cA nL nC nB (va_up (va_up F 0 (upd (F 0) t st)) 2 (upd (F 2) t tg)) sp cd ck) hx hb hK hP hD hS 3 2 rfl rfl (ht) (by decide) rfl dX1_enter_13 (fun H locs hP hD hS => ?_)
  refine lv_aload_n hx hb dX1_enter_14 rfl (lv_at hl 0 rfl) ?_
  refine lv_dup hx hb dX1_enter_15 rfl ?_
  refine va_get (D := D) (ci := 1) (v := .long ck) (C := RX1) (T := TX1) (N := 17) hx hb hts hin hown hK hP 0 rfl rfl 4 (by decide) hf67 (fun _ h9 => h9) rfl dX1_enter_16 ?_
  refine lv_lconst (v := 1) hx hb dX1_enter_19 (by decide) ?_
  refine lv_ladd hx hb dX1_enter_20 ?_
  refine va_put (D := D) (ci := 1) (v := .long (ck + 1)) (ty := .long) (C := RX1) (T := TX1) (N := 17) hx hb hts hin tyX1 tyX1_ok nmX1 hown hK hP hD hS 0 rfl rfl 4 (by decide) hf67 (fun _ h9 => h9) rfl (by decide +kernel) rfl rfl (Nat.le_of_ble_eq_true rfl) dX1_enter_21 (fun H locs hP hD hS => ?_)
  have hP : va_P D vwCl (mW h a cA nL nC nB (va_up (va_up F 0 (upd (F 0) t st)) 2 (upd (F 2) t tg)) sp cd (ck + 1)) H := hP
  have hD : va_D A (mW h a cA nL nC nB (va_up (va_up F 0 (upd (F 0) t st)) 2 (upd (F 2) t tg)) sp cd (ck + 1)) := hD
  refine lv_aload_n hx hb dX1_enter_24 rfl (lv_at hl 0 rfl) ?_
  refine va_get (D := D) (ci := 1) (v := .ref (a 11)) (C := RX1) (T := TX1) (N := 17) hx hb hts hin hown hK hP 0 rfl rfl 7 (by decide) hf16 (fun _ h9 => h9) rfl dX1_enter_25 ?_
  refine lv_iload_n hx hb dX1_enter_28 rfl (lv_at hl 1 rfl) ?_
  refine lv_aload_n hx hb dX1_enter_29 rfl (lv_at hl 0 rfl) ?_
  refine va_get (D := D) (ci := 1) (v := .long (ck + 1)) (C := RX1) (T := TX1) (N := 17) hx hb hts hin hown hK hP 0 rfl rfl 4 (by decide) hf67 (fun _ h9 => h9) rfl dX1_enter_30 ?_
  refine zz_last (ws' := mW h a cA nL nC nB (va_up (va_up F 0 (upd (F 0) t st)) 2 (upd (F 2) t tg)) (vp_updL sp t (ck + 1)) cd (ck + 1)) hx hb hK hP hD hS 12 11 rfl rfl (ht) (by decide) rfl dX1_enter_33 (fun H locs hP hD hS => ?_)
  exact zz_rv (va_up (va_up F 0 (upd (F 0) t st)) 2 (upd (F 2) t tg), vp_updL sp t (ck + 1), cd, ck + 1) hx hb hr hlocks hP hK hD hS (rfl) dX1_enter_34
