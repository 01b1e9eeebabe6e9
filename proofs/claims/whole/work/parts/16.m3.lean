set_option maxHeartbeats 1000000 in
set_option maxRecDepth 100000 in
/-- cM_lock -/
theorem cM_lock (l : Launch) (D : va_G) (h : Nat) (a : Nat → Nat) (cA : Nat → ClassId) (nL nC nB sz : Nat) (hn : nL ≤ 8 ∧ nC ≤ 8 ∧ nB ≤ 8) (F : Nat → Nat → Int32) (sp : Nat → Int64) (cd : Int32) (ck : Int64) (x : Int32) (hI : ms_I F) : Met l yX1_lock wsX1_lock ({ frames := 3, cells := 0, slots := 0, locals := 69 }) (va_Pc [.ref h, .int x] (zz_Pre D vwCl (mT cA) (mW h a cA nL nC nB F sp cd ck) sz)) (va_Qi (fun (r : Int32) (u : mS) => mp_lock nL F sp ck x r u) (zz_At D vwCl (mT cA) (fun u : mS => mW h a cA nL nC nB u.1 u.2.1 u.2.2.1 u.2.2.2) (va_A (mW h a cA nL nC nB F sp cd ck) sz)) (va_A (mW h a cA nL nC nB F sp cd ck) sz)) 0 0 (va_A (mW h a cA nL nC nB F sp cd ck) sz) := by
  obtain ⟨hnL, hnC, hnB⟩ := hn
  have hn : nL ≤ 8 ∧ nC ≤ 8 ∧ nB ≤ 8 := ⟨hnL, hnC, hnB⟩
  refine zz_of (Qc := fun A => va_Qi (fun (r : Int32) (u : mS) => mp_lock nL F sp ck x r u) (zz_At D vwCl (mT cA) (fun u : mS => mW h a cA nL nC nB u.1 u.2.1 u.2.2.1 u.2.2.2) A) A) (by decide) rfl (Nat.le_of_ble_eq_true rfl) ?_
  intro p e s m args below meth c A H locs ls0 hx hb hr hml hown hts hlocks hnm hA hP hK hD hS hl
  have hown : s.vm.findClass RX1 = some m.cls := hown
  have hl : lv_has ls0 4 [(0, .ref h), (1, .int x)] := hl
  have hin : ∀ w ∈ u_ws RX1 TX1 17, w ∈ wsX1_lock := by decide +kernel
  have hf32 := hts (.fieldLink RX1 32 "PriorityCoreModel" "owners" "[I") (by decide +kernel)
  have hf51 := hts (.fieldLink RX1 51 "PriorityCoreModel" "locks" "I") (by decide +kernel)
  have hf64 := hts (.fieldLink RX1 64 "PriorityCoreModel" "code" "I") (by decide +kernel)
  refine lv_aload_n hx hb dX1_lock_0 rfl (lv_at hl 0 rfl) ?_
  refine zz_ci (va_runV (As := []) (rest := []) ⟨hx, hb, hml, hown, hts⟩ (cM_runs l D h a cA nL nC nB H.size hn F sp cd ck hI) (cwV 0 hts gX1_lock_X1_runs rfl rfl rfl (by decide +kernel) ⟨(Nat.le_of_ble_eq_true rfl), (Nat.le_of_ble_eq_true rfl)⟩) (zz_pV hP hK hD (va_recv hK hP (ci := 1) (q0 := 0) rfl rfl)) rfl rfl hl.1 rfl (lv_room (Nat.le_of_ble_eq_true rfl)) dX1_lock_1 ⟨(Nat.le_of_ble_eq_true rfl), (Nat.le_of_ble_eq_true rfl)⟩) hD hS hA (fun r u H locs hw hP hD hS => ?_)
  obtain ⟨E, nx, hu, hfo, hre⟩ := hw
  subst hu
  subst hre
  have hP : va_P D vwCl (mW h a cA nL nC nB (va_up F 10 E) sp cd ck) H := hP
  have hD : va_D A (mW h a cA nL nC nB (va_up F 10 E) sp cd ck) := hD
  refine lv_istore_n (lv' := [(2, .int (pq_enc nx)), (0, .ref h), (1, .int x)]) hx hb dX1_lock_4 rfl hl (by decide) rfl (fun ls0 hl => ?_)
  refine lv_iload_n hx hb dX1_lock_5 rfl (lv_at hl 2 rfl) ?_
  refine lv_if_lt (tgt := 21) hx hb dX1_lock_6 (by decide) (fun c6 => ?_) (fun c6 => ?_)
  · have hxn : ¬ sp_in nL x := zn_no1 (by omega) c6
    refine lv_iconst (v := 0) hx hb dX1_lock_21 (by decide) ?_
    refine lv_istore_n (lv' := [(3, .int 0), (2, .int (pq_enc nx)), (0, .ref h), (1, .int x)]) hx hb dX1_lock_22 rfl hl (by decide) rfl (fun ls0 hl => ?_)
    refine lv_aload_n hx hb dX1_lock_23 rfl (lv_at hl 2 rfl) ?_
    refine lv_iload_n hx hb dX1_lock_24 rfl (lv_at hl 0 rfl) ?_
    refine lv_if_ne (tgt := 32) hx hb dX1_lock_25 (by decide) (fun c25 => ?_) (fun c25 => ?_)
    · exact absurd rfl c25
    · refine lv_iconst (v := 1) hx hb dX1_lock_28 (by decide) ?_
      refine lv_goto (tgt := 54) hx hb dX1_lock_29 (by decide) ?_
      refine va_put (D := D) (ci := 1) (v := .int 1) (ty := .int) (C := RX1) (T := TX1) (N := 17) hx hb hts hin tyX1 tyX1_ok nmX1 hown hK hP hD hS 0 rfl rfl 3 (by decide) hf64 (fun _ h9 => h9) rfl (by decide +kernel) rfl rfl (Nat.le_of_ble_eq_true rfl) dX1_lock_54 (fun H locs hP hD hS => ?_)
      have hP : va_P D vwCl (mW h a cA nL nC nB (va_up F 10 E) sp 1 ck) H := hP
      have hD : va_D A (mW h a cA nL nC nB (va_up F 10 E) sp 1 ck) := hD
      refine lv_aload_n hx hb dX1_lock_57 rfl (lv_at hl 2 rfl) ?_
      refine va_get (D := D) (ci := 1) (v := .int 1) (C := RX1) (T := TX1) (N := 17) hx hb hts hin hown hK hP 0 rfl rfl 3 (by decide) hf64 (fun _ h9 => h9) rfl dX1_lock_58 ?_
      refine lv_if_le (tgt := 66) hx hb dX1_lock_61 (by decide) (fun c61 => ?_) (fun c61 => ?_)
      · exact absurd c61 (by decide)
      · refine lv_iconst (v := 0) hx hb dX1_lock_64 (by decide) ?_
        exact zz_ri (va_up F 10 E, sp, 1, ck) hx hb hr hlocks hP hK hD hS (⟨E, nx, hfo, Or.inl ⟨hxn, rfl⟩⟩) dX1_lock_65
  · refine lv_iload_n hx hb dX1_lock_9 rfl (lv_at hl 2 rfl) ?_
    refine lv_aload_n hx hb dX1_lock_10 rfl (lv_at hl 1 rfl) ?_
    refine va_get (D := D) (ci := 1) (v := .int (nI nL)) (C := RX1) (T := TX1) (N := 17) hx hb hts hin hown hK hP 0 rfl rfl 0 (by decide) hf51 (fun _ h9 => h9) rfl dX1_lock_11 ?_
    refine lv_icmp_ge (tgt := 21) hx hb dX1_lock_14 (by decide) (fun c14 => ?_) (fun c14 => ?_)
    · have hxn : ¬ sp_in nL x := zn_no2 (by omega) (Int32.not_lt.mpr c14)
      refine lv_iconst (v := 0) hx hb dX1_lock_21 (by decide) ?_
      refine lv_istore_n (lv' := [(3, .int 0), (2, .int (pq_enc nx)), (0, .ref h), (1, .int x)]) hx hb dX1_lock_22 rfl hl (by decide) rfl (fun ls0 hl => ?_)
      refine lv_aload_n hx hb dX1_lock_23 rfl (lv_at hl 2 rfl) ?_
      refine lv_iload_n hx hb dX1_lock_24 rfl (lv_at hl 0 rfl) ?_
      refine lv_if_ne (tgt := 32) hx hb dX1_lock_25 (by decide) (fun c25 => ?_) (fun c25 => ?_)
      · exact absurd rfl c25
      · refine lv_iconst (v := 1) hx hb dX1_lock_28 (by decide) ?_
        refine lv_goto (tgt := 54) hx hb dX1_lock_29 (by decide) ?_
        refine va_put (D := D) (ci := 1) (v := .int 1) (ty := .int) (C := RX1) (T := TX1) (N := 17) hx hb hts hin tyX1 tyX1_ok nmX1 hown hK hP hD hS 0 rfl rfl 3 (by decide) hf64 (fun _ h9 => h9) rfl (by decide +kernel) rfl rfl (Nat.le_of_ble_eq_true rfl) dX1_lock_54 (fun H locs hP hD hS => ?_)
        have hP : va_P D vwCl (mW h a cA nL nC nB (va_up F 10 E) sp 1 ck) H := hP
        have hD : va_D A (mW h a cA nL nC nB (va_up F 10 E) sp 1 ck) := hD
        refine lv_aload_n hx hb dX1_lock_57 rfl (lv_at hl 2 rfl) ?_
        refine va_get (D := D) (ci := 1) (v := .int 1) (C := RX1) (T := TX1) (N := 17) hx hb hts hin hown hK hP 0 rfl rfl 3 (by decide) hf64 (fun _ h9 => h9) rfl dX1_lock_58 ?_
        refine lv_if_le (tgt := 66) hx hb dX1_lock_61 (by decide) (fun c61 => ?_) (fun c61 => ?_)
        · exact absurd c61 (by decide)
        · refine lv_iconst (v := 0) hx hb dX1_lock_64 (by decide) ?_
          exact zz_ri (va_up F 10 E, sp, 1, ck) hx hb hr hlocks hP hK hD hS (⟨E, nx, hfo, Or.inl ⟨hxn, rfl⟩⟩) dX1_lock_65
    · have hxi : sp_in nL x := zn_ix (by omega) c6 (Int32.not_le.mp c14)
      have hxj := hxi
      obtain ⟨k, hk, hxe⟩ := hxi
      subst hxe
      have hl : lv_has ls0 4 [(2, .int (pq_enc nx)), (0, .ref h), (1, .int (nI k))] := hl
      refine lv_iconst (v := 1) hx hb dX1_lock_17 (by decide) ?_
      refine lv_goto (tgt := 22) hx hb dX1_lock_18 (by decide) ?_
      refine lv_istore_n (lv' := [(3, .int 1), (2, .int (pq_enc nx)), (0, .ref h), (1, .int (nI k))]) hx hb dX1_lock_22 rfl hl (by decide) rfl (fun ls0 hl => ?_)
      refine lv_aload_n hx hb dX1_lock_23 rfl (lv_at hl 2 rfl) ?_
      refine lv_iload_n hx hb dX1_lock_24 rfl (lv_at hl 0 rfl) ?_
      refine lv_if_ne (tgt := 32) hx hb dX1_lock_25 (by decide) (fun c25 => ?_) (fun c25 => ?_)
      · refine lv_iload_n hx hb dX1_lock_32 rfl (lv_at hl 1 rfl) ?_
        refine lv_if_ge (tgt := 40) hx hb dX1_lock_33 (by decide) (fun c33 => ?_) (fun c33 => ?_)
        · obtain ⟨t, ht16, hnxt⟩ := pq_enc_ge (ms_fo_lt hfo) c33
          subst hnxt
          have hl : lv_has ls0 4 [(3, .int 1), (2, .int (nI t)), (0, .ref h), (1, .int (nI k))] := hl
          refine lv_aload_n hx hb dX1_lock_40 rfl (lv_at hl 2 rfl) ?_
          refine lv_iload_n hx hb dX1_lock_41 rfl (lv_at hl 3 rfl) ?_
          refine lv_iload_n hx hb dX1_lock_42 rfl (lv_at hl 1 rfl) ?_
          refine zz_ci (va_runV (As := [.int (nI k), .int (nI t)]) (rest := [.ref h]) ⟨hx, hb, hml, hown, hts⟩ (cM_leadsTo l D h a cA nL nC nB H.size hn (va_up F 10 E) sp cd ck k t hI (by omega) ht16) (cwV 2 hts gX1_lock_X1_leadsTo rfl rfl rfl (by decide +kernel) ⟨(Nat.le_of_ble_eq_true rfl), (Nat.le_of_ble_eq_true rfl)⟩) (zz_pV hP hK hD (va_recv hK hP (ci := 1) (q0 := 0) rfl rfl)) rfl rfl hl.1 rfl (lv_room (Nat.le_of_ble_eq_true rfl)) dX1_lock_43 ⟨(Nat.le_of_ble_eq_true rfl), (Nat.le_of_ble_eq_true rfl)⟩) hD hS hA (fun r u H locs hw hP hD hS => ?_)
          have hP : va_P D vwCl (mW h a cA nL nC nB (va_up F 10 E) sp cd ck) H := hP
          have hD : va_D A (mW h a cA nL nC nB (va_up F 10 E) sp cd ck) := hD
          refine lv_if_eq (tgt := 53) hx hb dX1_lock_46 (by decide) (fun c46 => ?_) (fun c46 => ?_)
          · have hww : ¬ ms_ww F t k := by
              rcases hw with q | q
              · exact absurd (q.1.symm.trans c46) (by decide)
              · exact q.2
            refine lv_iconst (v := 0) hx hb dX1_lock_53 (by decide) ?_
            refine va_put (D := D) (ci := 1) (v := .int 0) (ty := .int) (C := RX1) (T := TX1) (N := 17) hx hb hts hin tyX1 tyX1_ok nmX1 hown hK hP hD hS 0 rfl rfl 3 (by decide) hf64 (fun _ h9 => h9) rfl (by decide +kernel) rfl rfl (Nat.le_of_ble_eq_true rfl) dX1_lock_54 (fun H locs hP hD hS => ?_)
            have hP : va_P D vwCl (mW h a cA nL nC nB (va_up F 10 E) sp 0 ck) H := hP
            have hD : va_D A (mW h a cA nL nC nB (va_up F 10 E) sp 0 ck) := hD
            refine lv_aload_n hx hb dX1_lock_57 rfl (lv_at hl 2 rfl) ?_
            refine va_get (D := D) (ci := 1) (v := .int 0) (C := RX1) (T := TX1) (N := 17) hx hb hts hin hown hK hP 0 rfl rfl 3 (by decide) hf64 (fun _ h9 => h9) rfl dX1_lock_58 ?_
            refine lv_if_le (tgt := 66) hx hb dX1_lock_61 (by decide) (fun c61 => ?_) (fun c61 => ?_)
            · refine lv_aload_n hx hb dX1_lock_66 rfl (lv_at hl 2 rfl) ?_
              refine va_get (D := D) (ci := 1) (v := .ref (a 6)) (C := RX1) (T := TX1) (N := 17) hx hb hts hin hown hK hP 0 rfl rfl 12 (by decide) hf32 (fun _ h9 => h9) rfl dX1_lock_67 ?_
              refine lv_iload_n hx hb dX1_lock_70 rfl (lv_at hl 3 rfl) ?_
              refine zz_iald hx hb hK hP 7 6 rfl rfl (by omega) (by decide) dX1_lock_71 ?_
              refine lv_if_ge (tgt := 84) hx hb dX1_lock_72 (by decide) (fun c72 => ?_) (fun c72 => ?_)
              · have hge : ¬ F 6 k < 0 := Int32.not_lt.mpr c72
                refine lv_aload_n hx hb dX1_lock_84 rfl (lv_at hl 2 rfl) ?_
                refine lv_iload_n hx hb dX1_lock_85 rfl (lv_at hl 1 rfl) ?_
                refine lv_iconst (v := 2) hx hb dX1_lock_86 (by decide) ?_
                refine lv_iload_n hx hb dX1_lock_87 rfl (lv_at hl 3 rfl) ?_
                refine zz_cv (va_runV (As := [.int (nI t), .int 2, .int (nI k)]) (rest := []) ⟨hx, hb, hml, hown, hts⟩ (cM_enter l D h a cA nL nC nB H.size hn (va_up F 10 E) sp 0 ck t 2 (nI k) ht16) (cwV 3 hts gX1_lock_X1_enter rfl rfl rfl (by decide +kernel) ⟨(Nat.le_of_ble_eq_true rfl), (Nat.le_of_ble_eq_true rfl)⟩) (zz_pV hP hK hD (va_recv hK hP (ci := 1) (q0 := 0) rfl rfl)) rfl rfl hl.1 rfl (lv_room (Nat.le_of_ble_eq_true rfl)) dX1_lock_88 ⟨(Nat.le_of_ble_eq_true rfl), (Nat.le_of_ble_eq_true rfl)⟩) hD hS hA (fun u H locs hw hP hD hS => ?_)
                subst hw
                have hP : va_P D vwCl (mW h a cA nL nC nB (va_up (va_up (va_up F 10 E) 0 (upd (F 0) t 2)) 2 (upd (F 2) t (nI k))) (vp_updL sp t (ck + 1)) 0 (ck + 1)) H := hP
                have hD : va_D A (mW h a cA nL nC nB (va_up (va_up (va_up F 10 E) 0 (upd (F 0) t 2)) 2 (upd (F 2) t (nI k))) (vp_updL sp t (ck + 1)) 0 (ck + 1)) := hD
                refine lv_iconst (v := 1) hx hb dX1_lock_91 (by decide) ?_
                exact zz_ri (va_up (va_up (va_up F 10 E) 0 (upd (F 0) t 2)) 2 (upd (F 2) t (nI k)), vp_updL sp t (ck + 1), 0, ck + 1) hx hb hr hlocks hP hK hD hS (⟨E, _, hfo, Or.inr (Or.inr ⟨k, t, hk, rfl, ht16, rfl, Or.inr (Or.inr ⟨hww, hge, rfl, rfl⟩)⟩)⟩) dX1_lock_92
              · have hlt : F 6 k < 0 := Int32.not_le.mp c72
                refine lv_aload_n hx hb dX1_lock_75 rfl (lv_at hl 2 rfl) ?_
                refine va_get (D := D) (ci := 1) (v := .ref (a 6)) (C := RX1) (T := TX1) (N := 17) hx hb hts hin hown hK hP 0 rfl rfl 12 (by decide) hf32 (fun _ h9 => h9) rfl dX1_lock_76 ?_
                refine lv_iload_n hx hb dX1_lock_79 rfl (lv_at hl 3 rfl) ?_
                refine lv_iload_n hx hb dX1_lock_80 rfl (lv_at hl 1 rfl) ?_
                refine zz_iast (ws' := mW h a cA nL nC nB (va_up (va_up F 10 E) 6 (upd (F 6) k (nI t))) sp 0 ck) hx hb hK hP hD hS 7 6 rfl rfl (by omega) (by decide) rfl dX1_lock_81 (fun H locs hP hD hS => ?_)
                refine lv_iconst (v := 0) hx hb dX1_lock_82 (by decide) ?_
                exact zz_ri (va_up (va_up F 10 E) 6 (upd (F 6) k (nI t)), sp, 0, ck) hx hb hr hlocks hP hK hD hS (⟨E, _, hfo, Or.inr (Or.inr ⟨k, t, hk, rfl, ht16, rfl, Or.inr (Or.inl ⟨hww, hlt, rfl, rfl⟩)⟩)⟩) dX1_lock_83
            · exact absurd (by decide) c61
          · have hww : ms_ww F t k := by
              rcases hw with q | q
              · exact q.2
              · exact absurd q.1 c46
            refine lv_iconst (v := 3) hx hb dX1_lock_49 (by decide) ?_
            refine lv_goto (tgt := 54) hx hb dX1_lock_50 (by decide) ?_
            refine va_put (D := D) (ci := 1) (v := .int 3) (ty := .int) (C := RX1) (T := TX1) (N := 17) hx hb hts hin tyX1 tyX1_ok nmX1 hown hK hP hD hS 0 rfl rfl 3 (by decide) hf64 (fun _ h9 => h9) rfl (by decide +kernel) rfl rfl (Nat.le_of_ble_eq_true rfl) dX1_lock_54 (fun H locs hP hD hS => ?_)
            have hP : va_P D vwCl (mW h a cA nL nC nB (va_up F 10 E) sp 3 ck) H := hP
            have hD : va_D A (mW h a cA nL nC nB (va_up F 10 E) sp 3 ck) := hD
            refine lv_aload_n hx hb dX1_lock_57 rfl (lv_at hl 2 rfl) ?_
            refine va_get (D := D) (ci := 1) (v := .int 3) (C := RX1) (T := TX1) (N := 17) hx hb hts hin hown hK hP 0 rfl rfl 3 (by decide) hf64 (fun _ h9 => h9) rfl dX1_lock_58 ?_
            refine lv_if_le (tgt := 66) hx hb dX1_lock_61 (by decide) (fun c61 => ?_) (fun c61 => ?_)
            · exact absurd c61 (by decide)
            · refine lv_iconst (v := 0) hx hb dX1_lock_64 (by decide) ?_
              exact zz_ri (va_up F 10 E, sp, 3, ck) hx hb hr hlocks hP hK hD hS (⟨E, _, hfo, Or.inr (Or.inr ⟨k, t, hk, rfl, ht16, rfl, Or.inl ⟨hww, rfl⟩⟩)⟩) dX1_lock_65
        · have hnonx : nx = none := pq_enc_ng (ms_fo_lt hfo) c33
          refine lv_iconst (v := 2) hx hb dX1_lock_36 (by decide) ?_
          refine lv_goto (tgt := 54) hx hb dX1_lock_37 (by decide) ?_
          refine va_put (D := D) (ci := 1) (v := .int 2) (ty := .int) (C := RX1) (T := TX1) (N := 17) hx hb hts hin tyX1 tyX1_ok nmX1 hown hK hP hD hS 0 rfl rfl 3 (by decide) hf64 (fun _ h9 => h9) rfl (by decide +kernel) rfl rfl (Nat.le_of_ble_eq_true rfl) dX1_lock_54 (fun H locs hP hD hS => ?_)
          have hP : va_P D vwCl (mW h a cA nL nC nB (va_up F 10 E) sp 2 ck) H := hP
          have hD : va_D A (mW h a cA nL nC nB (va_up F 10 E) sp 2 ck) := hD
          refine lv_aload_n hx hb dX1_lock_57 rfl (lv_at hl 2 rfl) ?_
          refine va_get (D := D) (ci := 1) (v := .int 2) (C := RX1) (T := TX1) (N := 17) hx hb hts hin hown hK hP 0 rfl rfl 3 (by decide) hf64 (fun _ h9 => h9) rfl dX1_lock_58 ?_
          refine lv_if_le (tgt := 66) hx hb dX1_lock_61 (by decide) (fun c61 => ?_) (fun c61 => ?_)
          · exact absurd c61 (by decide)
          · refine lv_iconst (v := 0) hx hb dX1_lock_64 (by decide) ?_
            exact zz_ri (va_up F 10 E, sp, 2, ck) hx hb hr hlocks hP hK hD hS (⟨E, nx, hfo, Or.inr (Or.inl ⟨hxj, hnonx, rfl⟩)⟩) dX1_lock_65
      · exact absurd c25 (by decide)
set_option maxHeartbeats 1000000 in
set_option maxRecDepth 100000 in
/-- cM_unlock -/
theorem cM_unlock (l : Launch) (D : va_G) (h : Nat) (a : Nat → Nat) (cA : Nat → ClassId) (nL nC nB sz : Nat) (hn : nL ≤ 8 ∧ nC ≤ 8 ∧ nB ≤ 8) (F : Nat → Nat → Int32) (sp : Nat → Int64) (cd : Int32) (ck : Int64) (x : Int32) (hI : ms_I F) : Met l yX1_unlock wsX1_unlock ({ frames := 3, cells := 0, slots := 0, locals := 69 }) (va_Pc [.ref h, .int x] (zz_Pre D vwCl (mT cA) (mW h a cA nL nC nB F sp cd ck) sz)) (va_Qi (fun (r : Int32) (u : mS) => mp_unlock nL F sp ck x r u) (zz_At D vwCl (mT cA) (fun u : mS => mW h a cA nL nC nB u.1 u.2.1 u.2.2.1 u.2.2.2) (va_A (mW h a cA nL nC nB F sp cd ck) sz)) (va_A (mW h a cA nL nC nB F sp cd ck) sz)) 0 0 (va_A (mW h a cA nL nC nB F sp cd ck) sz) := by
  obtain ⟨hnL, hnC, hnB⟩ := hn
  have hn : nL ≤ 8 ∧ nC ≤ 8 ∧ nB ≤ 8 := ⟨hnL, hnC, hnB⟩
  refine zz_of (Qc := fun A => va_Qi (fun (r : Int32) (u : mS) => mp_unlock nL F sp ck x r u) (zz_At D vwCl (mT cA) (fun u : mS => mW h a cA nL nC nB u.1 u.2.1 u.2.2.1 u.2.2.2) A) A) (by decide) rfl (Nat.le_of_ble_eq_true rfl) ?_
  intro p e s m args below meth c A H locs ls0 hx hb hr hml hown hts hlocks hnm hA hP hK hD hS hl
  have hown : s.vm.findClass RX1 = some m.cls := hown
  have hl : lv_has ls0 5 [(0, .ref h), (1, .int x)] := hl
  have hin : ∀ w ∈ u_ws RX1 TX1 17, w ∈ wsX1_unlock := by decide +kernel
  have hf32 := hts (.fieldLink RX1 32 "PriorityCoreModel" "owners" "[I") (by decide +kernel)
  have hf51 := hts (.fieldLink RX1 51 "PriorityCoreModel" "locks" "I") (by decide +kernel)
  have hf64 := hts (.fieldLink RX1 64 "PriorityCoreModel" "code" "I") (by decide +kernel)
  refine lv_aload_n hx hb dX1_unlock_0 rfl (lv_at hl 0 rfl) ?_
  refine zz_ci (va_runV (As := []) (rest := []) ⟨hx, hb, hml, hown, hts⟩ (cM_runs l D h a cA nL nC nB H.size hn F sp cd ck hI) (cwV 0 hts gX1_unlock_X1_runs rfl rfl rfl (by decide +kernel) ⟨(Nat.le_of_ble_eq_true rfl), (Nat.le_of_ble_eq_true rfl)⟩) (zz_pV hP hK hD (va_recv hK hP (ci := 1) (q0 := 0) rfl rfl)) rfl rfl hl.1 rfl (lv_room (Nat.le_of_ble_eq_true rfl)) dX1_unlock_1 ⟨(Nat.le_of_ble_eq_true rfl), (Nat.le_of_ble_eq_true rfl)⟩) hD hS hA (fun r u H locs hw hP hD hS => ?_)
  obtain ⟨E, nx, hu, hfo, hre⟩ := hw
  subst hu
  subst hre
  have hP : va_P D vwCl (mW h a cA nL nC nB (va_up F 10 E) sp cd ck) H := hP
  have hD : va_D A (mW h a cA nL nC nB (va_up F 10 E) sp cd ck) := hD
  refine lv_istore_n (lv' := [(2, .int (pq_enc nx)), (0, .ref h), (1, .int x)]) hx hb dX1_unlock_4 rfl hl (by decide) rfl (fun ls0 hl => ?_)
  refine lv_iload_n hx hb dX1_unlock_5 rfl (lv_at hl 2 rfl) ?_
  refine lv_if_lt (tgt := 21) hx hb dX1_unlock_6 (by decide) (fun c6 => ?_) (fun c6 => ?_)
  · have hxn : ¬ sp_in nL x := zn_no1 (by omega) c6
    refine lv_iconst (v := 0) hx hb dX1_unlock_21 (by decide) ?_
    refine lv_istore_n (lv' := [(3, .int 0), (2, .int (pq_enc nx)), (0, .ref h), (1, .int x)]) hx hb dX1_unlock_22 rfl hl (by decide) rfl (fun ls0 hl => ?_)
    refine lv_aload_n hx hb dX1_unlock_23 rfl (lv_at hl 2 rfl) ?_
    refine lv_iload_n hx hb dX1_unlock_24 rfl (lv_at hl 0 rfl) ?_
    refine lv_if_ne (tgt := 32) hx hb dX1_unlock_25 (by decide) (fun c25 => ?_) (fun c25 => ?_)
    · exact absurd rfl c25
    · refine lv_iconst (v := 1) hx hb dX1_unlock_28 (by decide) ?_
      refine lv_goto (tgt := 55) hx hb dX1_unlock_29 (by decide) ?_
      refine va_put (D := D) (ci := 1) (v := .int 1) (ty := .int) (C := RX1) (T := TX1) (N := 17) hx hb hts hin tyX1 tyX1_ok nmX1 hown hK hP hD hS 0 rfl rfl 3 (by decide) hf64 (fun _ h9 => h9) rfl (by decide +kernel) rfl rfl (Nat.le_of_ble_eq_true rfl) dX1_unlock_55 (fun H locs hP hD hS => ?_)
      have hP : va_P D vwCl (mW h a cA nL nC nB (va_up F 10 E) sp 1 ck) H := hP
      have hD : va_D A (mW h a cA nL nC nB (va_up F 10 E) sp 1 ck) := hD
      refine lv_aload_n hx hb dX1_unlock_58 rfl (lv_at hl 2 rfl) ?_
      refine va_get (D := D) (ci := 1) (v := .int 1) (C := RX1) (T := TX1) (N := 17) hx hb hts hin hown hK hP 0 rfl rfl 3 (by decide) hf64 (fun _ h9 => h9) rfl dX1_unlock_59 ?_
      refine lv_if_le (tgt := 67) hx hb dX1_unlock_62 (by decide) (fun c62 => ?_) (fun c62 => ?_)
      · exact absurd c62 (by decide)
      · refine lv_iconst (v := 0) hx hb dX1_unlock_65 (by decide) ?_
        exact zz_ri (va_up F 10 E, sp, 1, ck) hx hb hr hlocks hP hK hD hS (⟨E, nx, hfo, Or.inl ⟨hxn, rfl⟩⟩) dX1_unlock_66
  · refine lv_iload_n hx hb dX1_unlock_9 rfl (lv_at hl 2 rfl) ?_
    refine lv_aload_n hx hb dX1_unlock_10 rfl (lv_at hl 1 rfl) ?_
    refine va_get (D := D) (ci := 1) (v := .int (nI nL)) (C := RX1) (T := TX1) (N := 17) hx hb hts hin hown hK hP 0 rfl rfl 0 (by decide) hf51 (fun _ h9 => h9) rfl dX1_unlock_11 ?_
    refine lv_icmp_ge (tgt := 21) hx hb dX1_unlock_14 (by decide) (fun c14 => ?_) (fun c14 => ?_)
    · have hxn : ¬ sp_in nL x := zn_no2 (by omega) (Int32.not_lt.mpr c14)
      refine lv_iconst (v := 0) hx hb dX1_unlock_21 (by decide) ?_
      refine lv_istore_n (lv' := [(3, .int 0), (2, .int (pq_enc nx)), (0, .ref h), (1, .int x)]) hx hb dX1_unlock_22 rfl hl (by decide) rfl (fun ls0 hl => ?_)
      refine lv_aload_n hx hb dX1_unlock_23 rfl (lv_at hl 2 rfl) ?_
      refine lv_iload_n hx hb dX1_unlock_24 rfl (lv_at hl 0 rfl) ?_
      refine lv_if_ne (tgt := 32) hx hb dX1_unlock_25 (by decide) (fun c25 => ?_) (fun c25 => ?_)
      · exact absurd rfl c25
      · refine lv_iconst (v := 1) hx hb dX1_unlock_28 (by decide) ?_
        refine lv_goto (tgt := 55) hx hb dX1_unlock_29 (by decide) ?_
        refine va_put (D := D) (ci := 1) (v := .int 1) (ty := .int) (C := RX1) (T := TX1) (N := 17) hx hb hts hin tyX1 tyX1_ok nmX1 hown hK hP hD hS 0 rfl rfl 3 (by decide) hf64 (fun _ h9 => h9) rfl (by decide +kernel) rfl rfl (Nat.le_of_ble_eq_true rfl) dX1_unlock_55 (fun H locs hP hD hS => ?_)
        have hP : va_P D vwCl (mW h a cA nL nC nB (va_up F 10 E) sp 1 ck) H := hP
        have hD : va_D A (mW h a cA nL nC nB (va_up F 10 E) sp 1 ck) := hD
        refine lv_aload_n hx hb dX1_unlock_58 rfl (lv_at hl 2 rfl) ?_
        refine va_get (D := D) (ci := 1) (v := .int 1) (C := RX1) (T := TX1) (N := 17) hx hb hts hin hown hK hP 0 rfl rfl 3 (by decide) hf64 (fun _ h9 => h9) rfl dX1_unlock_59 ?_
        refine lv_if_le (tgt := 67) hx hb dX1_unlock_62 (by decide) (fun c62 => ?_) (fun c62 => ?_)
        · exact absurd c62 (by decide)
        · refine lv_iconst (v := 0) hx hb dX1_unlock_65 (by decide) ?_
          exact zz_ri (va_up F 10 E, sp, 1, ck) hx hb hr hlocks hP hK hD hS (⟨E, nx, hfo, Or.inl ⟨hxn, rfl⟩⟩) dX1_unlock_66
    · have hxi : sp_in nL x := zn_ix (by omega) c6 (Int32.not_le.mp c14)
      have hxj := hxi
      obtain ⟨k, hk, hxe⟩ := hxi
      subst hxe
      have hl : lv_has ls0 5 [(2, .int (pq_enc nx)), (0, .ref h), (1, .int (nI k))] := hl
      refine lv_iconst (v := 1) hx hb dX1_unlock_17 (by decide) ?_
      refine lv_goto (tgt := 22) hx hb dX1_unlock_18 (by decide) ?_
      refine lv_istore_n (lv' := [(3, .int 1), (2, .int (pq_enc nx)), (0, .ref h), (1, .int (nI k))]) hx hb dX1_unlock_22 rfl hl (by decide) rfl (fun ls0 hl => ?_)
      refine lv_aload_n hx hb dX1_unlock_23 rfl (lv_at hl 2 rfl) ?_
      refine lv_iload_n hx hb dX1_unlock_24 rfl (lv_at hl 0 rfl) ?_
      refine lv_if_ne (tgt := 32) hx hb dX1_unlock_25 (by decide) (fun c25 => ?_) (fun c25 => ?_)
      · refine lv_iload_n hx hb dX1_unlock_32 rfl (lv_at hl 1 rfl) ?_
        refine lv_if_ge (tgt := 40) hx hb dX1_unlock_33 (by decide) (fun c33 => ?_) (fun c33 => ?_)
        · obtain ⟨t, ht16, hnxt⟩ := pq_enc_ge (ms_fo_lt hfo) c33
          subst hnxt
          have hl : lv_has ls0 5 [(3, .int 1), (2, .int (nI t)), (0, .ref h), (1, .int (nI k))] := hl
          refine lv_aload_n hx hb dX1_unlock_40 rfl (lv_at hl 2 rfl) ?_
          refine va_get (D := D) (ci := 1) (v := .ref (a 6)) (C := RX1) (T := TX1) (N := 17) hx hb hts hin hown hK hP 0 rfl rfl 12 (by decide) hf32 (fun _ h9 => h9) rfl dX1_unlock_41 ?_
          refine lv_iload_n hx hb dX1_unlock_44 rfl (lv_at hl 3 rfl) ?_
          refine zz_iald hx hb hK hP 7 6 rfl rfl (by omega) (by decide) dX1_unlock_45 ?_
          refine lv_iload_n hx hb dX1_unlock_46 rfl (lv_at hl 1 rfl) ?_
          refine lv_icmp_eq (tgt := 54) hx hb dX1_unlock_47 (by decide) (fun c47 => ?_) (fun c47 => ?_)
          · refine lv_iconst (v := 0) hx hb dX1_unlock_54 (by decide) ?_
            refine va_put (D := D) (ci := 1) (v := .int 0) (ty := .int) (C := RX1) (T := TX1) (N := 17) hx hb hts hin tyX1 tyX1_ok nmX1 hown hK hP hD hS 0 rfl rfl 3 (by decide) hf64 (fun _ h9 => h9) rfl (by decide +kernel) rfl rfl (Nat.le_of_ble_eq_true rfl) dX1_unlock_55 (fun H locs hP hD hS => ?_)
            have hP : va_P D vwCl (mW h a cA nL nC nB (va_up F 10 E) sp 0 ck) H := hP
            have hD : va_D A (mW h a cA nL nC nB (va_up F 10 E) sp 0 ck) := hD
            refine lv_aload_n hx hb dX1_unlock_58 rfl (lv_at hl 2 rfl) ?_
            refine va_get (D := D) (ci := 1) (v := .int 0) (C := RX1) (T := TX1) (N := 17) hx hb hts hin hown hK hP 0 rfl rfl 3 (by decide) hf64 (fun _ h9 => h9) rfl dX1_unlock_59 ?_
            refine lv_if_le (tgt := 67) hx hb dX1_unlock_62 (by decide) (fun c62 => ?_) (fun c62 => ?_)
            · refine lv_aload_n hx hb dX1_unlock_67 rfl (lv_at hl 2 rfl) ?_
              refine lv_iconst (v := 2) hx hb dX1_unlock_68 (by decide) ?_
              refine lv_iload_n hx hb dX1_unlock_69 rfl (lv_at hl 3 rfl) ?_
              refine zz_ci (va_runV (As := [.int 2, .int (nI k)]) (rest := []) ⟨hx, hb, hml, hown, hts⟩ (cM_firstOf l D h a cA nL nC nB H.size hn (va_up F 10 E) sp 0 ck 2 (nI k) hI) (cwV 2 hts gX1_unlock_X1_firstOf rfl rfl rfl (by decide +kernel) ⟨(Nat.le_of_ble_eq_true rfl), (Nat.le_of_ble_eq_true rfl)⟩) (zz_pV hP hK hD (va_recv hK hP (ci := 1) (q0 := 0) rfl rfl)) rfl rfl hl.1 rfl (lv_room (Nat.le_of_ble_eq_true rfl)) dX1_unlock_70 ⟨(Nat.le_of_ble_eq_true rfl), (Nat.le_of_ble_eq_true rfl)⟩) hD hS hA (fun r u H locs hw hP hD hS => ?_)
              obtain ⟨E2, n2, hu, hfo2, hre⟩ := hw
              subst hu
              subst hre
              have hfo2 : ms_fo F sp 2 (nI k) E2 n2 := hfo2
              have hP : va_P D vwCl (mW h a cA nL nC nB (va_up F 10 E2) sp 0 ck) H := hP
              have hD : va_D A (mW h a cA nL nC nB (va_up F 10 E2) sp 0 ck) := hD
              refine lv_istore (lv' := [(4, .int (pq_enc n2)), (3, .int 1), (2, .int (nI t)), (0, .ref h), (1, .int (nI k))]) hx hb dX1_unlock_73 hl (by decide) rfl (fun ls0 hl => ?_)
              refine lv_aload_n hx hb dX1_unlock_75 rfl (lv_at hl 3 rfl) ?_
              refine va_get (D := D) (ci := 1) (v := .ref (a 6)) (C := RX1) (T := TX1) (N := 17) hx hb hts hin hown hK hP 0 rfl rfl 12 (by decide) hf32 (fun _ h9 => h9) rfl dX1_unlock_76 ?_
              refine lv_iload_n hx hb dX1_unlock_79 rfl (lv_at hl 4 rfl) ?_
              refine lv_iload hx hb dX1_unlock_80 (lv_at hl 0 rfl) ?_
              refine zz_iast (ws' := mW h a cA nL nC nB (va_up (va_up F 10 E2) 6 (upd (F 6) k (pq_enc n2))) sp 0 ck) hx hb hK hP hD hS 7 6 rfl rfl (by omega) (by decide) rfl dX1_unlock_82 (fun H locs hP hD hS => ?_)
              refine lv_iload hx hb dX1_unlock_83 (lv_at hl 0 rfl) ?_
              refine lv_if_lt (tgt := 96) hx hb dX1_unlock_85 (by decide) (fun c85 => ?_) (fun c85 => ?_)
              · have hnon2 : n2 = none := (pq_enc_lt (ms_fo_lt hfo2)).mp c85
                subst hnon2
                have hl : lv_has ls0 5 [(4, .int (-1)), (3, .int 1), (2, .int (nI t)), (0, .ref h), (1, .int (nI k))] := hl
                have hP : va_P D vwCl (mW h a cA nL nC nB (va_up (va_up F 10 E2) 6 (upd (F 6) k (-1))) sp 0 ck) H := hP
                have hD : va_D A (mW h a cA nL nC nB (va_up (va_up F 10 E2) 6 (upd (F 6) k (-1))) sp 0 ck) := hD
                refine lv_iload hx hb dX1_unlock_96 (lv_at hl 0 rfl) ?_
                exact zz_ri (va_up (va_up F 10 E2) 6 (upd (F 6) k (-1)), sp, 0, ck) hx hb hr hlocks hP hK hD hS (⟨E, _, hfo, Or.inr (Or.inr ⟨k, t, hk, rfl, ht16, rfl, Or.inr ⟨c47, E2, _, hfo2, Or.inl ⟨rfl, rfl, rfl⟩⟩⟩)⟩) dX1_unlock_98
              · obtain ⟨j, hj16, hnxj⟩ := pq_enc_ge (ms_fo_lt hfo2) (Int32.not_lt.mp c85)
                subst hnxj
                have hl : lv_has ls0 5 [(4, .int (nI j)), (3, .int 1), (2, .int (nI t)), (0, .ref h), (1, .int (nI k))] := hl
                have hP : va_P D vwCl (mW h a cA nL nC nB (va_up (va_up F 10 E2) 6 (upd (F 6) k (nI j))) sp 0 ck) H := hP
                have hD : va_D A (mW h a cA nL nC nB (va_up (va_up F 10 E2) 6 (upd (F 6) k (nI j))) sp 0 ck) := hD
                refine lv_aload_n hx hb dX1_unlock_88 rfl (lv_at hl 3 rfl) ?_
                refine lv_iload hx hb dX1_unlock_89 (lv_at hl 0 rfl) ?_
                refine lv_iconst (v := 1) hx hb dX1_unlock_91 (by decide) ?_
                refine lv_iconst (v := 0) hx hb dX1_unlock_92 (by decide) ?_
                refine zz_cv (va_runV (As := [.int (nI j), .int 1, .int 0]) (rest := []) ⟨hx, hb, hml, hown, hts⟩ (cM_enter l D h a cA nL nC nB H.size hn (va_up (va_up F 10 E2) 6 (upd (F 6) k (nI j))) sp 0 ck j 1 0 hj16) (cwV 3 hts gX1_unlock_X1_enter rfl rfl rfl (by decide +kernel) ⟨(Nat.le_of_ble_eq_true rfl), (Nat.le_of_ble_eq_true rfl)⟩) (zz_pV hP hK hD (va_recv hK hP (ci := 1) (q0 := 0) rfl rfl)) rfl rfl hl.1 rfl (lv_room (Nat.le_of_ble_eq_true rfl)) dX1_unlock_93 ⟨(Nat.le_of_ble_eq_true rfl), (Nat.le_of_ble_eq_true rfl)⟩) hD hS hA (fun u H locs hw hP hD hS => ?_)
                subst hw
                have hP : va_P D vwCl (mW h a cA nL nC nB (va_up (va_up (va_up (va_up F 10 E2) 6 (upd (F 6) k (nI j))) 0 (upd (F 0) j 1)) 2 (upd (F 2) j 0)) (vp_updL sp j (ck + 1)) 0 (ck + 1)) H := hP
                have hD : va_D A (mW h a cA nL nC nB (va_up (va_up (va_up (va_up F 10 E2) 6 (upd (F 6) k (nI j))) 0 (upd (F 0) j 1)) 2 (upd (F 2) j 0)) (vp_updL sp j (ck + 1)) 0 (ck + 1)) := hD
                refine lv_iload hx hb dX1_unlock_96 (lv_at hl 0 rfl) ?_
                exact zz_ri (va_up (va_up (va_up (va_up F 10 E2) 6 (upd (F 6) k (nI j))) 0 (upd (F 0) j 1)) 2 (upd (F 2) j 0), vp_updL sp j (ck + 1), 0, ck + 1) hx hb hr hlocks hP hK hD hS (⟨E, _, hfo, Or.inr (Or.inr ⟨k, t, hk, rfl, ht16, rfl, Or.inr ⟨c47, E2, _, hfo2, Or.inr ⟨j, hj16, rfl, rfl, rfl⟩⟩⟩)⟩) dX1_unlock_98
            · exact absurd (by decide) c62
          · refine lv_iconst (v := 3) hx hb dX1_unlock_50 (by decide) ?_
            refine lv_goto (tgt := 55) hx hb dX1_unlock_51 (by decide) ?_
            refine va_put (D := D) (ci := 1) (v := .int 3) (ty := .int) (C := RX1) (T := TX1) (N := 17) hx hb hts hin tyX1 tyX1_ok nmX1 hown hK hP hD hS 0 rfl rfl 3 (by decide) hf64 (fun _ h9 => h9) rfl (by decide +kernel) rfl rfl (Nat.le_of_ble_eq_true rfl) dX1_unlock_55 (fun H locs hP hD hS => ?_)
            have hP : va_P D vwCl (mW h a cA nL nC nB (va_up F 10 E) sp 3 ck) H := hP
            have hD : va_D A (mW h a cA nL nC nB (va_up F 10 E) sp 3 ck) := hD
            refine lv_aload_n hx hb dX1_unlock_58 rfl (lv_at hl 2 rfl) ?_
            refine va_get (D := D) (ci := 1) (v := .int 3) (C := RX1) (T := TX1) (N := 17) hx hb hts hin hown hK hP 0 rfl rfl 3 (by decide) hf64 (fun _ h9 => h9) rfl dX1_unlock_59 ?_
            refine lv_if_le (tgt := 67) hx hb dX1_unlock_62 (by decide) (fun c62 => ?_) (fun c62 => ?_)
            · exact absurd c62 (by decide)
            · refine lv_iconst (v := 0) hx hb dX1_unlock_65 (by decide) ?_
              exact zz_ri (va_up F 10 E, sp, 3, ck) hx hb hr hlocks hP hK hD hS (⟨E, _, hfo, Or.inr (Or.inr ⟨k, t, hk, rfl, ht16, rfl, Or.inl ⟨c47, rfl⟩⟩)⟩) dX1_unlock_66
        · have hnonx : nx = none := pq_enc_ng (ms_fo_lt hfo) c33
          refine lv_iconst (v := 2) hx hb dX1_unlock_36 (by decide) ?_
          refine lv_goto (tgt := 55) hx hb dX1_unlock_37 (by decide) ?_
          refine va_put (D := D) (ci := 1) (v := .int 2) (ty := .int) (C := RX1) (T := TX1) (N := 17) hx hb hts hin tyX1 tyX1_ok nmX1 hown hK hP hD hS 0 rfl rfl 3 (by decide) hf64 (fun _ h9 => h9) rfl (by decide +kernel) rfl rfl (Nat.le_of_ble_eq_true rfl) dX1_unlock_55 (fun H locs hP hD hS => ?_)
          have hP : va_P D vwCl (mW h a cA nL nC nB (va_up F 10 E) sp 2 ck) H := hP
          have hD : va_D A (mW h a cA nL nC nB (va_up F 10 E) sp 2 ck) := hD
          refine lv_aload_n hx hb dX1_unlock_58 rfl (lv_at hl 2 rfl) ?_
          refine va_get (D := D) (ci := 1) (v := .int 2) (C := RX1) (T := TX1) (N := 17) hx hb hts hin hown hK hP 0 rfl rfl 3 (by decide) hf64 (fun _ h9 => h9) rfl dX1_unlock_59 ?_
          refine lv_if_le (tgt := 67) hx hb dX1_unlock_62 (by decide) (fun c62 => ?_) (fun c62 => ?_)
          · exact absurd c62 (by decide)
          · refine lv_iconst (v := 0) hx hb dX1_unlock_65 (by decide) ?_
            exact zz_ri (va_up F 10 E, sp, 2, ck) hx hb hr hlocks hP hK hD hS (⟨E, nx, hfo, Or.inr (Or.inl ⟨hxj, hnonx, rfl⟩)⟩) dX1_unlock_66
      · exact absurd c25 (by decide)
set_option maxHeartbeats 1000000 in
set_option maxRecDepth 100000 in
/-- cM_down -/
theorem cM_down (l : Launch) (D : va_G) (h : Nat) (a : Nat → Nat) (cA : Nat → ClassId) (nL nC nB sz : Nat) (hn : nL ≤ 8 ∧ nC ≤ 8 ∧ nB ≤ 8) (F : Nat → Nat → Int32) (sp : Nat → Int64) (cd : Int32) (ck : Int64) (x : Int32) (hI : ms_I F) : Met l yX1_down wsX1_down ({ frames := 3, cells := 0, slots := 0, locals := 69 }) (va_Pc [.ref h, .int x] (zz_Pre D vwCl (mT cA) (mW h a cA nL nC nB F sp cd ck) sz)) (va_Qi (fun (r : Int32) (u : mS) => mp_down nC F sp ck x r u) (zz_At D vwCl (mT cA) (fun u : mS => mW h a cA nL nC nB u.1 u.2.1 u.2.2.1 u.2.2.2) (va_A (mW h a cA nL nC nB F sp cd ck) sz)) (va_A (mW h a cA nL nC nB F sp cd ck) sz)) 0 0 (va_A (mW h a cA nL nC nB F sp cd ck) sz) := by
  obtain ⟨hnL, hnC, hnB⟩ := hn
  have hn : nL ≤ 8 ∧ nC ≤ 8 ∧ nB ≤ 8 := ⟨hnL, hnC, hnB⟩
  refine zz_of (Qc := fun A => va_Qi (fun (r : Int32) (u : mS) => mp_down nC F sp ck x r u) (zz_At D vwCl (mT cA) (fun u : mS => mW h a cA nL nC nB u.1 u.2.1 u.2.2.1 u.2.2.2) A) A) (by decide) rfl (Nat.le_of_ble_eq_true rfl) ?_
  intro p e s m args below meth c A H locs ls0 hx hb hr hml hown hts hlocks hnm hA hP hK hD hS hl
  have hown : s.vm.findClass RX1 = some m.cls := hown
  have hl : lv_has ls0 3 [(0, .ref h), (1, .int x)] := hl
  have hin : ∀ w ∈ u_ws RX1 TX1 17, w ∈ wsX1_down := by decide +kernel
  have hf35 := hts (.fieldLink RX1 35 "PriorityCoreModel" "counts" "[I") (by decide +kernel)
  have hf55 := hts (.fieldLink RX1 55 "PriorityCoreModel" "counters" "I") (by decide +kernel)
  have hf64 := hts (.fieldLink RX1 64 "PriorityCoreModel" "code" "I") (by decide +kernel)
  refine lv_aload_n hx hb dX1_down_0 rfl (lv_at hl 0 rfl) ?_
  refine zz_ci (va_runV (As := []) (rest := []) ⟨hx, hb, hml, hown, hts⟩ (cM_runs l D h a cA nL nC nB H.size hn F sp cd ck hI) (cwV 0 hts gX1_down_X1_runs rfl rfl rfl (by decide +kernel) ⟨(Nat.le_of_ble_eq_true rfl), (Nat.le_of_ble_eq_true rfl)⟩) (zz_pV hP hK hD (va_recv hK hP (ci := 1) (q0 := 0) rfl rfl)) rfl rfl hl.1 rfl (lv_room (Nat.le_of_ble_eq_true rfl)) dX1_down_1 ⟨(Nat.le_of_ble_eq_true rfl), (Nat.le_of_ble_eq_true rfl)⟩) hD hS hA (fun r u H locs hw hP hD hS => ?_)
  obtain ⟨E, nx, hu, hfo, hre⟩ := hw
  subst hu
  subst hre
  have hP : va_P D vwCl (mW h a cA nL nC nB (va_up F 10 E) sp cd ck) H := hP
  have hD : va_D A (mW h a cA nL nC nB (va_up F 10 E) sp cd ck) := hD
  refine lv_istore_n (lv' := [(2, .int (pq_enc nx)), (0, .ref h), (1, .int x)]) hx hb dX1_down_4 rfl hl (by decide) rfl (fun ls0 hl => ?_)
  refine lv_aload_n hx hb dX1_down_5 rfl (lv_at hl 1 rfl) ?_
  refine lv_iload_n hx hb dX1_down_6 rfl (lv_at hl 2 rfl) ?_
  refine lv_if_lt (tgt := 18) hx hb dX1_down_7 (by decide) (fun c7 => ?_) (fun c7 => ?_)
  · have hxn : ¬ sp_in nC x := zn_no1 (by omega) c7
    refine lv_iconst (v := 1) hx hb dX1_down_18 (by decide) ?_
    refine lv_goto (tgt := 31) hx hb dX1_down_19 (by decide) ?_
    refine va_put (D := D) (ci := 1) (v := .int 1) (ty := .int) (C := RX1) (T := TX1) (N := 17) hx hb hts hin tyX1 tyX1_ok nmX1 hown hK hP hD hS 0 rfl rfl 3 (by decide) hf64 (fun _ h9 => h9) rfl (by decide +kernel) rfl rfl (Nat.le_of_ble_eq_true rfl) dX1_down_31 (fun H locs hP hD hS => ?_)
    have hP : va_P D vwCl (mW h a cA nL nC nB (va_up F 10 E) sp 1 ck) H := hP
    have hD : va_D A (mW h a cA nL nC nB (va_up F 10 E) sp 1 ck) := hD
    refine lv_aload_n hx hb dX1_down_34 rfl (lv_at hl 1 rfl) ?_
    refine va_get (D := D) (ci := 1) (v := .int 1) (C := RX1) (T := TX1) (N := 17) hx hb hts hin hown hK hP 0 rfl rfl 3 (by decide) hf64 (fun _ h9 => h9) rfl dX1_down_35 ?_
    refine lv_if_le (tgt := 43) hx hb dX1_down_38 (by decide) (fun c38 => ?_) (fun c38 => ?_)
    · exact absurd c38 (by decide)
    · refine lv_iconst (v := 0) hx hb dX1_down_41 (by decide) ?_
      exact zz_ri (va_up F 10 E, sp, 1, ck) hx hb hr hlocks hP hK hD hS (⟨E, nx, hfo, Or.inl ⟨hxn, rfl⟩⟩) dX1_down_42
  · refine lv_iload_n hx hb dX1_down_10 rfl (lv_at hl 2 rfl) ?_
    refine lv_aload_n hx hb dX1_down_11 rfl (lv_at hl 1 rfl) ?_
    refine va_get (D := D) (ci := 1) (v := .int (nI nC)) (C := RX1) (T := TX1) (N := 17) hx hb hts hin hown hK hP 0 rfl rfl 1 (by decide) hf55 (fun _ h9 => h9) rfl dX1_down_12 ?_
    refine lv_icmp_lt (tgt := 22) hx hb dX1_down_15 (by decide) (fun c15 => ?_) (fun c15 => ?_)
    · have hxi : sp_in nC x := zn_ix (by omega) c7 c15
      have hxj := hxi
      obtain ⟨k, hk, hxe⟩ := hxi
      subst hxe
      have hl : lv_has ls0 3 [(2, .int (pq_enc nx)), (0, .ref h), (1, .int (nI k))] := hl
      refine lv_iload_n hx hb dX1_down_22 rfl (lv_at hl 0 rfl) ?_
      refine lv_if_ge (tgt := 30) hx hb dX1_down_23 (by decide) (fun c23 => ?_) (fun c23 => ?_)
      · obtain ⟨t, ht16, hnxt⟩ := pq_enc_ge (ms_fo_lt hfo) c23
        subst hnxt
        have hl : lv_has ls0 3 [(2, .int (nI t)), (0, .ref h), (1, .int (nI k))] := hl
        refine lv_iconst (v := 0) hx hb dX1_down_30 (by decide) ?_
        refine va_put (D := D) (ci := 1) (v := .int 0) (ty := .int) (C := RX1) (T := TX1) (N := 17) hx hb hts hin tyX1 tyX1_ok nmX1 hown hK hP hD hS 0 rfl rfl 3 (by decide) hf64 (fun _ h9 => h9) rfl (by decide +kernel) rfl rfl (Nat.le_of_ble_eq_true rfl) dX1_down_31 (fun H locs hP hD hS => ?_)
        have hP : va_P D vwCl (mW h a cA nL nC nB (va_up F 10 E) sp 0 ck) H := hP
        have hD : va_D A (mW h a cA nL nC nB (va_up F 10 E) sp 0 ck) := hD
        refine lv_aload_n hx hb dX1_down_34 rfl (lv_at hl 1 rfl) ?_
        refine va_get (D := D) (ci := 1) (v := .int 0) (C := RX1) (T := TX1) (N := 17) hx hb hts hin hown hK hP 0 rfl rfl 3 (by decide) hf64 (fun _ h9 => h9) rfl dX1_down_35 ?_
        refine lv_if_le (tgt := 43) hx hb dX1_down_38 (by decide) (fun c38 => ?_) (fun c38 => ?_)
        · refine lv_aload_n hx hb dX1_down_43 rfl (lv_at hl 1 rfl) ?_
          refine va_get (D := D) (ci := 1) (v := .ref (a 7)) (C := RX1) (T := TX1) (N := 17) hx hb hts hin hown hK hP 0 rfl rfl 13 (by decide) hf35 (fun _ h9 => h9) rfl dX1_down_44 ?_
          refine lv_iload_n hx hb dX1_down_47 rfl (lv_at hl 2 rfl) ?_
          refine zz_iald hx hb hK hP 8 7 rfl rfl (by omega) (by decide) dX1_down_48 ?_
          refine lv_if_le (tgt := 64) hx hb dX1_down_49 (by decide) (fun c49 => ?_) (fun c49 => ?_)
          · refine lv_aload_n hx hb dX1_down_64 rfl (lv_at hl 1 rfl) ?_
            refine lv_iload_n hx hb dX1_down_65 rfl (lv_at hl 0 rfl) ?_
            refine lv_iconst (v := 3) hx hb dX1_down_66 (by decide) ?_
            refine lv_iload_n hx hb dX1_down_67 rfl (lv_at hl 2 rfl) ?_
            refine zz_cv (va_runV (As := [.int (nI t), .int 3, .int (nI k)]) (rest := []) ⟨hx, hb, hml, hown, hts⟩ (cM_enter l D h a cA nL nC nB H.size hn (va_up F 10 E) sp 0 ck t 3 (nI k) ht16) (cwV 3 hts gX1_down_X1_enter rfl rfl rfl (by decide +kernel) ⟨(Nat.le_of_ble_eq_true rfl), (Nat.le_of_ble_eq_true rfl)⟩) (zz_pV hP hK hD (va_recv hK hP (ci := 1) (q0 := 0) rfl rfl)) rfl rfl hl.1 rfl (lv_room (Nat.le_of_ble_eq_true rfl)) dX1_down_68 ⟨(Nat.le_of_ble_eq_true rfl), (Nat.le_of_ble_eq_true rfl)⟩) hD hS hA (fun u H locs hw hP hD hS => ?_)
            subst hw
            have hP : va_P D vwCl (mW h a cA nL nC nB (va_up (va_up (va_up F 10 E) 0 (upd (F 0) t 3)) 2 (upd (F 2) t (nI k))) (vp_updL sp t (ck + 1)) 0 (ck + 1)) H := hP
            have hD : va_D A (mW h a cA nL nC nB (va_up (va_up (va_up F 10 E) 0 (upd (F 0) t 3)) 2 (upd (F 2) t (nI k))) (vp_updL sp t (ck + 1)) 0 (ck + 1)) := hD
            refine lv_iconst (v := 1) hx hb dX1_down_71 (by decide) ?_
            exact zz_ri (va_up (va_up (va_up F 10 E) 0 (upd (F 0) t 3)) 2 (upd (F 2) t (nI k)), vp_updL sp t (ck + 1), 0, ck + 1) hx hb hr hlocks hP hK hD hS (⟨E, _, hfo, Or.inr (Or.inr ⟨k, t, hk, rfl, ht16, rfl, Or.inr ⟨c49, rfl, rfl⟩⟩)⟩) dX1_down_72
          · refine lv_aload_n hx hb dX1_down_52 rfl (lv_at hl 1 rfl) ?_
            refine va_get (D := D) (ci := 1) (v := .ref (a 7)) (C := RX1) (T := TX1) (N := 17) hx hb hts hin hown hK hP 0 rfl rfl 13 (by decide) hf35 (fun _ h9 => h9) rfl dX1_down_53 ?_
            refine lv_iload_n hx hb dX1_down_56 rfl (lv_at hl 2 rfl) ?_
            refine lv_dup2_11 hx hb dX1_down_57 rfl rfl ?_
            refine zz_iald hx hb hK hP 8 7 rfl rfl (by omega) (by decide) dX1_down_58 ?_
            refine lv_iconst (v := 1) hx hb dX1_down_59 (by decide) ?_
            refine lv_isub hx hb dX1_down_60 ?_
            refine zz_iast (ws' := mW h a cA nL nC nB (va_up (va_up F 10 E) 7 (upd (F 7) k (((F 7) k) - 1))) sp 0 ck) hx hb hK hP hD hS 8 7 rfl rfl (by omega) (by decide) rfl dX1_down_61 (fun H locs hP hD hS => ?_)
            refine lv_iconst (v := 0) hx hb dX1_down_62 (by decide) ?_
            exact zz_ri (va_up (va_up F 10 E) 7 (upd (F 7) k (((F 7) k) - 1)), sp, 0, ck) hx hb hr hlocks hP hK hD hS (⟨E, _, hfo, Or.inr (Or.inr ⟨k, t, hk, rfl, ht16, rfl, Or.inl ⟨c49, rfl, rfl⟩⟩)⟩) dX1_down_63
        · exact absurd (by decide) c38
      · have hnonx : nx = none := pq_enc_ng (ms_fo_lt hfo) c23
        refine lv_iconst (v := 2) hx hb dX1_down_26 (by decide) ?_
        refine lv_goto (tgt := 31) hx hb dX1_down_27 (by decide) ?_
        refine va_put (D := D) (ci := 1) (v := .int 2) (ty := .int) (C := RX1) (T := TX1) (N := 17) hx hb hts hin tyX1 tyX1_ok nmX1 hown hK hP hD hS 0 rfl rfl 3 (by decide) hf64 (fun _ h9 => h9) rfl (by decide +kernel) rfl rfl (Nat.le_of_ble_eq_true rfl) dX1_down_31 (fun H locs hP hD hS => ?_)
        have hP : va_P D vwCl (mW h a cA nL nC nB (va_up F 10 E) sp 2 ck) H := hP
        have hD : va_D A (mW h a cA nL nC nB (va_up F 10 E) sp 2 ck) := hD
        refine lv_aload_n hx hb dX1_down_34 rfl (lv_at hl 1 rfl) ?_
        refine va_get (D := D) (ci := 1) (v := .int 2) (C := RX1) (T := TX1) (N := 17) hx hb hts hin hown hK hP 0 rfl rfl 3 (by decide) hf64 (fun _ h9 => h9) rfl dX1_down_35 ?_
        refine lv_if_le (tgt := 43) hx hb dX1_down_38 (by decide) (fun c38 => ?_) (fun c38 => ?_)
        · exact absurd c38 (by decide)
        · refine lv_iconst (v := 0) hx hb dX1_down_41 (by decide) ?_
          exact zz_ri (va_up F 10 E, sp, 2, ck) hx hb hr hlocks hP hK hD hS (⟨E, nx, hfo, Or.inr (Or.inl ⟨hxj, hnonx, rfl⟩)⟩) dX1_down_42
    · have hxn : ¬ sp_in nC x := zn_no2 (by omega) c15
      refine lv_iconst (v := 1) hx hb dX1_down_18 (by decide) ?_
      refine lv_goto (tgt := 31) hx hb dX1_down_19 (by decide) ?_
      refine va_put (D := D) (ci := 1) (v := .int 1) (ty := .int) (C := RX1) (T := TX1) (N := 17) hx hb hts hin tyX1 tyX1_ok nmX1 hown hK hP hD hS 0 rfl rfl 3 (by decide) hf64 (fun _ h9 => h9) rfl (by decide +kernel) rfl rfl (Nat.le_of_ble_eq_true rfl) dX1_down_31 (fun H locs hP hD hS => ?_)
      have hP : va_P D vwCl (mW h a cA nL nC nB (va_up F 10 E) sp 1 ck) H := hP
      have hD : va_D A (mW h a cA nL nC nB (va_up F 10 E) sp 1 ck) := hD
      refine lv_aload_n hx hb dX1_down_34 rfl (lv_at hl 1 rfl) ?_
      refine va_get (D := D) (ci := 1) (v := .int 1) (C := RX1) (T := TX1) (N := 17) hx hb hts hin hown hK hP 0 rfl rfl 3 (by decide) hf64 (fun _ h9 => h9) rfl dX1_down_35 ?_
      refine lv_if_le (tgt := 43) hx hb dX1_down_38 (by decide) (fun c38 => ?_) (fun c38 => ?_)
      · exact absurd c38 (by decide)
      · refine lv_iconst (v := 0) hx hb dX1_down_41 (by decide) ?_
        exact zz_ri (va_up F 10 E, sp, 1, ck) hx hb hr hlocks hP hK hD hS (⟨E, nx, hfo, Or.inl ⟨hxn, rfl⟩⟩) dX1_down_42
set_option maxHeartbeats 1000000 in
set_option maxRecDepth 100000 in
/-- cM_up -/
theorem cM_up (l : Launch) (D : va_G) (h : Nat) (a : Nat → Nat) (cA : Nat → ClassId) (nL nC nB sz : Nat) (hn : nL ≤ 8 ∧ nC ≤ 8 ∧ nB ≤ 8) (F : Nat → Nat → Int32) (sp : Nat → Int64) (cd : Int32) (ck : Int64) (x : Int32) (hI : ms_I F) : Met l yX1_up wsX1_up ({ frames := 2, cells := 0, slots := 0, locals := 49 }) (va_Pc [.ref h, .int x] (zz_Pre D vwCl (mT cA) (mW h a cA nL nC nB F sp cd ck) sz)) (va_Qi (fun (r : Int32) (u : mS) => mp_up nC F sp ck x r u) (zz_At D vwCl (mT cA) (fun u : mS => mW h a cA nL nC nB u.1 u.2.1 u.2.2.1 u.2.2.2) (va_A (mW h a cA nL nC nB F sp cd ck) sz)) (va_A (mW h a cA nL nC nB F sp cd ck) sz)) 0 0 (va_A (mW h a cA nL nC nB F sp cd ck) sz) := by
  obtain ⟨hnL, hnC, hnB⟩ := hn
  have hn : nL ≤ 8 ∧ nC ≤ 8 ∧ nB ≤ 8 := ⟨hnL, hnC, hnB⟩
  refine zz_of (Qc := fun A => va_Qi (fun (r : Int32) (u : mS) => mp_up nC F sp ck x r u) (zz_At D vwCl (mT cA) (fun u : mS => mW h a cA nL nC nB u.1 u.2.1 u.2.2.1 u.2.2.2) A) A) (by decide) rfl (Nat.le_of_ble_eq_true rfl) ?_
  intro p e s m args below meth c A H locs ls0 hx hb hr hml hown hts hlocks hnm hA hP hK hD hS hl
  have hown : s.vm.findClass RX1 = some m.cls := hown
  have hl : lv_has ls0 3 [(0, .ref h), (1, .int x)] := hl
  have hin : ∀ w ∈ u_ws RX1 TX1 17, w ∈ wsX1_up := by decide +kernel
  have hf35 := hts (.fieldLink RX1 35 "PriorityCoreModel" "counts" "[I") (by decide +kernel)
  have hf55 := hts (.fieldLink RX1 55 "PriorityCoreModel" "counters" "I") (by decide +kernel)
  have hf64 := hts (.fieldLink RX1 64 "PriorityCoreModel" "code" "I") (by decide +kernel)
  refine lv_aload_n hx hb dX1_up_0 rfl (lv_at hl 0 rfl) ?_
  refine lv_iload_n hx hb dX1_up_1 rfl (lv_at hl 1 rfl) ?_
  refine lv_if_lt (tgt := 13) hx hb dX1_up_2 (by decide) (fun c2 => ?_) (fun c2 => ?_)
  · have hxn : ¬ sp_in nC x := zn_no1 (by omega) c2
    refine lv_iconst (v := 1) hx hb dX1_up_13 (by decide) ?_
    refine lv_goto (tgt := 18) hx hb dX1_up_14 (by decide) ?_
    refine va_put (D := D) (ci := 1) (v := .int 1) (ty := .int) (C := RX1) (T := TX1) (N := 17) hx hb hts hin tyX1 tyX1_ok nmX1 hown hK hP hD hS 0 rfl rfl 3 (by decide) hf64 (fun _ h9 => h9) rfl (by decide +kernel) rfl rfl (Nat.le_of_ble_eq_true rfl) dX1_up_18 (fun H locs hP hD hS => ?_)
    have hP : va_P D vwCl (mW h a cA nL nC nB F sp 1 ck) H := hP
    have hD : va_D A (mW h a cA nL nC nB F sp 1 ck) := hD
    refine lv_aload_n hx hb dX1_up_21 rfl (lv_at hl 0 rfl) ?_
    refine va_get (D := D) (ci := 1) (v := .int 1) (C := RX1) (T := TX1) (N := 17) hx hb hts hin hown hK hP 0 rfl rfl 3 (by decide) hf64 (fun _ h9 => h9) rfl dX1_up_22 ?_
    refine lv_if_le (tgt := 30) hx hb dX1_up_25 (by decide) (fun c25 => ?_) (fun c25 => ?_)
    · exact absurd c25 (by decide)
    · refine lv_iconst (v := 0) hx hb dX1_up_28 (by decide) ?_
      exact zz_ri (F, sp, 1, ck) hx hb hr hlocks hP hK hD hS (Or.inl ⟨hxn, rfl⟩) dX1_up_29
  · refine lv_iload_n hx hb dX1_up_5 rfl (lv_at hl 1 rfl) ?_
    refine lv_aload_n hx hb dX1_up_6 rfl (lv_at hl 0 rfl) ?_
    refine va_get (D := D) (ci := 1) (v := .int (nI nC)) (C := RX1) (T := TX1) (N := 17) hx hb hts hin hown hK hP 0 rfl rfl 1 (by decide) hf55 (fun _ h9 => h9) rfl dX1_up_7 ?_
    refine lv_icmp_lt (tgt := 17) hx hb dX1_up_10 (by decide) (fun c10 => ?_) (fun c10 => ?_)
    · have hxi : sp_in nC x := zn_ix (by omega) c2 c10
      have hxj := hxi
      obtain ⟨k, hk, hxe⟩ := hxi
      subst hxe
      have hl : lv_has ls0 3 [(0, .ref h), (1, .int (nI k))] := hl
      refine lv_iconst (v := 0) hx hb dX1_up_17 (by decide) ?_
      refine va_put (D := D) (ci := 1) (v := .int 0) (ty := .int) (C := RX1) (T := TX1) (N := 17) hx hb hts hin tyX1 tyX1_ok nmX1 hown hK hP hD hS 0 rfl rfl 3 (by decide) hf64 (fun _ h9 => h9) rfl (by decide +kernel) rfl rfl (Nat.le_of_ble_eq_true rfl) dX1_up_18 (fun H locs hP hD hS => ?_)
      have hP : va_P D vwCl (mW h a cA nL nC nB F sp 0 ck) H := hP
      have hD : va_D A (mW h a cA nL nC nB F sp 0 ck) := hD
      refine lv_aload_n hx hb dX1_up_21 rfl (lv_at hl 0 rfl) ?_
      refine va_get (D := D) (ci := 1) (v := .int 0) (C := RX1) (T := TX1) (N := 17) hx hb hts hin hown hK hP 0 rfl rfl 3 (by decide) hf64 (fun _ h9 => h9) rfl dX1_up_22 ?_
      refine lv_if_le (tgt := 30) hx hb dX1_up_25 (by decide) (fun c25 => ?_) (fun c25 => ?_)
      · refine lv_aload_n hx hb dX1_up_30 rfl (lv_at hl 0 rfl) ?_
        refine lv_iconst (v := 3) hx hb dX1_up_31 (by decide) ?_
        refine lv_iload_n hx hb dX1_up_32 rfl (lv_at hl 1 rfl) ?_
        refine zz_ci (va_runV (As := [.int 3, .int (nI k)]) (rest := []) ⟨hx, hb, hml, hown, hts⟩ (cM_firstOf l D h a cA nL nC nB H.size hn F sp 0 ck 3 (nI k) hI) (cwV 2 hts gX1_up_X1_firstOf rfl rfl rfl (by decide +kernel) ⟨(Nat.le_of_ble_eq_true rfl), (Nat.le_of_ble_eq_true rfl)⟩) (zz_pV hP hK hD (va_recv hK hP (ci := 1) (q0 := 0) rfl rfl)) rfl rfl hl.1 rfl (lv_room (Nat.le_of_ble_eq_true rfl)) dX1_up_33 ⟨(Nat.le_of_ble_eq_true rfl), (Nat.le_of_ble_eq_true rfl)⟩) hD hS hA (fun r u H locs hw hP hD hS => ?_)
        obtain ⟨E2, n2, hu, hfo2, hre⟩ := hw
        subst hu
        subst hre
        have hfo2 : ms_fo F sp 3 (nI k) E2 n2 := hfo2
        have hP : va_P D vwCl (mW h a cA nL nC nB (va_up F 10 E2) sp 0 ck) H := hP
        have hD : va_D A (mW h a cA nL nC nB (va_up F 10 E2) sp 0 ck) := hD
        refine lv_istore_n (lv' := [(2, .int (pq_enc n2)), (0, .ref h), (1, .int (nI k))]) hx hb dX1_up_36 rfl hl (by decide) rfl (fun ls0 hl => ?_)
        refine lv_iload_n hx hb dX1_up_37 rfl (lv_at hl 0 rfl) ?_
        refine lv_if_ge (tgt := 60) hx hb dX1_up_38 (by decide) (fun c38 => ?_) (fun c38 => ?_)
        · obtain ⟨j, hj16, hnxj⟩ := pq_enc_ge (ms_fo_lt hfo2) c38
          subst hnxj
          have hl : lv_has ls0 3 [(2, .int (nI j)), (0, .ref h), (1, .int (nI k))] := hl
          refine lv_iload_n hx hb dX1_up_60 rfl (lv_at hl 0 rfl) ?_
          refine lv_if_ge (tgt := 77) hx hb dX1_up_61 (by decide) (fun c61 => ?_) (fun c61 => ?_)
          · refine lv_aload_n hx hb dX1_up_77 rfl (lv_at hl 1 rfl) ?_
            refine lv_iload_n hx hb dX1_up_78 rfl (lv_at hl 0 rfl) ?_
            refine lv_iconst (v := 1) hx hb dX1_up_79 (by decide) ?_
            refine lv_iconst (v := 0) hx hb dX1_up_80 (by decide) ?_
            refine zz_cv (va_runV (As := [.int (nI j), .int 1, .int 0]) (rest := []) ⟨hx, hb, hml, hown, hts⟩ (cM_enter l D h a cA nL nC nB H.size hn (va_up F 10 E2) sp 0 ck j 1 0 hj16) (cwV 3 hts gX1_up_X1_enter rfl rfl rfl (by decide +kernel) ⟨(Nat.le_of_ble_eq_true rfl), (Nat.le_of_ble_eq_true rfl)⟩) (zz_pV hP hK hD (va_recv hK hP (ci := 1) (q0 := 0) rfl rfl)) rfl rfl hl.1 rfl (lv_room (Nat.le_of_ble_eq_true rfl)) dX1_up_81 ⟨(Nat.le_of_ble_eq_true rfl), (Nat.le_of_ble_eq_true rfl)⟩) hD hS hA (fun u H locs hw hP hD hS => ?_)
            subst hw
            have hP : va_P D vwCl (mW h a cA nL nC nB (va_up (va_up (va_up F 10 E2) 0 (upd (F 0) j 1)) 2 (upd (F 2) j 0)) (vp_updL sp j (ck + 1)) 0 (ck + 1)) H := hP
            have hD : va_D A (mW h a cA nL nC nB (va_up (va_up (va_up F 10 E2) 0 (upd (F 0) j 1)) 2 (upd (F 2) j 0)) (vp_updL sp j (ck + 1)) 0 (ck + 1)) := hD
            refine lv_iload_n hx hb dX1_up_84 rfl (lv_at hl 0 rfl) ?_
            exact zz_ri (va_up (va_up (va_up F 10 E2) 0 (upd (F 0) j 1)) 2 (upd (F 2) j 0), vp_updL sp j (ck + 1), 0, ck + 1) hx hb hr hlocks hP hK hD hS (Or.inr ⟨k, E2, _, hk, rfl, hfo2, Or.inr (Or.inr ⟨j, hj16, rfl, rfl, rfl⟩)⟩) dX1_up_85
          · exact absurd (nI_pos' (by omega)) c61
        · have hnon2 : n2 = none := pq_enc_ng (ms_fo_lt hfo2) c38
          subst hnon2
          have hl : lv_has ls0 3 [(2, .int (-1)), (0, .ref h), (1, .int (nI k))] := hl
          refine lv_aload_n hx hb dX1_up_41 rfl (lv_at hl 1 rfl) ?_
          refine va_get (D := D) (ci := 1) (v := .ref (a 7)) (C := RX1) (T := TX1) (N := 17) hx hb hts hin hown hK hP 0 rfl rfl 13 (by decide) hf35 (fun _ h9 => h9) rfl dX1_up_42 ?_
          refine lv_iload_n hx hb dX1_up_45 rfl (lv_at hl 2 rfl) ?_
          refine zz_iald hx hb hK hP 8 7 rfl rfl (by omega) (by decide) dX1_up_46 ?_
          refine lv_sipush (v := 1000) hx hb dX1_up_47 (by decide) ?_
          refine lv_icmp_ne (tgt := 60) hx hb dX1_up_50 (by decide) (fun c50 => ?_) (fun c50 => ?_)
          · refine lv_iload_n hx hb dX1_up_60 rfl (lv_at hl 0 rfl) ?_
            refine lv_if_ge (tgt := 77) hx hb dX1_up_61 (by decide) (fun c61 => ?_) (fun c61 => ?_)
            · exact absurd c61 (by decide)
            · refine lv_aload_n hx hb dX1_up_64 rfl (lv_at hl 1 rfl) ?_
              refine va_get (D := D) (ci := 1) (v := .ref (a 7)) (C := RX1) (T := TX1) (N := 17) hx hb hts hin hown hK hP 0 rfl rfl 13 (by decide) hf35 (fun _ h9 => h9) rfl dX1_up_65 ?_
              refine lv_iload_n hx hb dX1_up_68 rfl (lv_at hl 2 rfl) ?_
              refine lv_dup2_11 hx hb dX1_up_69 rfl rfl ?_
              refine zz_iald hx hb hK hP 8 7 rfl rfl (by omega) (by decide) dX1_up_70 ?_
              refine lv_iconst (v := 1) hx hb dX1_up_71 (by decide) ?_
              refine lv_iadd hx hb dX1_up_72 ?_
              refine zz_iast (ws' := mW h a cA nL nC nB (va_up (va_up F 10 E2) 7 (upd (F 7) k (((F 7) k) + 1))) sp 0 ck) hx hb hK hP hD hS 8 7 rfl rfl (by omega) (by decide) rfl dX1_up_73 (fun H locs hP hD hS => ?_)
              refine lv_goto (tgt := 84) hx hb dX1_up_74 (by decide) ?_
              refine lv_iload_n hx hb dX1_up_84 rfl (lv_at hl 0 rfl) ?_
              exact zz_ri (va_up (va_up F 10 E2) 7 (upd (F 7) k (((F 7) k) + 1)), sp, 0, ck) hx hb hr hlocks hP hK hD hS (Or.inr ⟨k, E2, _, hk, rfl, hfo2, Or.inr (Or.inl ⟨rfl, c50, rfl, rfl⟩)⟩) dX1_up_85
          · refine lv_aload_n hx hb dX1_up_53 rfl (lv_at hl 1 rfl) ?_
            refine lv_iconst (v := 2) hx hb dX1_up_54 (by decide) ?_
            refine va_put (D := D) (ci := 1) (v := .int 2) (ty := .int) (C := RX1) (T := TX1) (N := 17) hx hb hts hin tyX1 tyX1_ok nmX1 hown hK hP hD hS 0 rfl rfl 3 (by decide) hf64 (fun _ h9 => h9) rfl (by decide +kernel) rfl rfl (Nat.le_of_ble_eq_true rfl) dX1_up_55 (fun H locs hP hD hS => ?_)
            have hP : va_P D vwCl (mW h a cA nL nC nB (va_up F 10 E2) sp 2 ck) H := hP
            have hD : va_D A (mW h a cA nL nC nB (va_up F 10 E2) sp 2 ck) := hD
            refine lv_iconst (v := 0) hx hb dX1_up_58 (by decide) ?_
            exact zz_ri (va_up F 10 E2, sp, 2, ck) hx hb hr hlocks hP hK hD hS (Or.inr ⟨k, E2, _, hk, rfl, hfo2, Or.inl ⟨rfl, c50, rfl⟩⟩) dX1_up_59
      · exact absurd (by decide) c25
    · have hxn : ¬ sp_in nC x := zn_no2 (by omega) c10
      refine lv_iconst (v := 1) hx hb dX1_up_13 (by decide) ?_
      refine lv_goto (tgt := 18) hx hb dX1_up_14 (by decide) ?_
      refine va_put (D := D) (ci := 1) (v := .int 1) (ty := .int) (C := RX1) (T := TX1) (N := 17) hx hb hts hin tyX1 tyX1_ok nmX1 hown hK hP hD hS 0 rfl rfl 3 (by decide) hf64 (fun _ h9 => h9) rfl (by decide +kernel) rfl rfl (Nat.le_of_ble_eq_true rfl) dX1_up_18 (fun H locs hP hD hS => ?_)
      have hP : va_P D vwCl (mW h a cA nL nC nB F sp 1 ck) H := hP
      have hD : va_D A (mW h a cA nL nC nB F sp 1 ck) := hD
      refine lv_aload_n hx hb dX1_up_21 rfl (lv_at hl 0 rfl) ?_
      refine va_get (D := D) (ci := 1) (v := .int 1) (C := RX1) (T := TX1) (N := 17) hx hb hts hin hown hK hP 0 rfl rfl 3 (by decide) hf64 (fun _ h9 => h9) rfl dX1_up_22 ?_
      refine lv_if_le (tgt := 30) hx hb dX1_up_25 (by decide) (fun c25 => ?_) (fun c25 => ?_)
      · exact absurd c25 (by decide)
      · refine lv_iconst (v := 0) hx hb dX1_up_28 (by decide) ?_
        exact zz_ri (F, sp, 1, ck) hx hb hr hlocks hP hK hD hS (Or.inl ⟨hxn, rfl⟩) dX1_up_29
set_option maxHeartbeats 1000000 in
set_option maxRecDepth 100000 in
/-- cM_put -/
theorem cM_put (l : Launch) (D : va_G) (h : Nat) (a : Nat → Nat) (cA : Nat → ClassId) (nL nC nB sz : Nat) (hn : nL ≤ 8 ∧ nC ≤ 8 ∧ nB ≤ 8) (F : Nat → Nat → Int32) (sp : Nat → Int64) (cd : Int32) (ck : Int64) (b f : Nat) (x : Int32) (hb8 : b < 8) (hf : f < 4) (hF : F 8 b = nI f) : Met l yX1_put wsX1_put ({ frames := 0, cells := 0, slots := 0, locals := 0 }) (va_Pc [.ref h, .int (nI b), .int x] (zz_Pre D vwCl (mT cA) (mW h a cA nL nC nB F sp cd ck) sz)) (va_Qv (fun (u : mS) => u = (va_up (va_up F 9 (upd (F 9) (4 * b + f) x)) 8 (upd (F 8) b (nI (f + 1))), sp, cd, ck)) (zz_At D vwCl (mT cA) (fun u : mS => mW h a cA nL nC nB u.1 u.2.1 u.2.2.1 u.2.2.2) (va_A (mW h a cA nL nC nB F sp cd ck) sz)) (va_A (mW h a cA nL nC nB F sp cd ck) sz)) 0 0 (va_A (mW h a cA nL nC nB F sp cd ck) sz) := by
  obtain ⟨hnL, hnC, hnB⟩ := hn
  have hn : nL ≤ 8 ∧ nC ≤ 8 ∧ nB ≤ 8 := ⟨hnL, hnC, hnB⟩
  refine zz_of (Qc := fun A => va_Qv (fun (u : mS) => u = (va_up (va_up F 9 (upd (F 9) (4 * b + f) x)) 8 (upd (F 8) b (nI (f + 1))), sp, cd, ck)) (zz_At D vwCl (mT cA) (fun u : mS => mW h a cA nL nC nB u.1 u.2.1 u.2.2.1 u.2.2.2) A) A) (by decide) rfl (Nat.le_of_ble_eq_true rfl) ?_
  intro p e s m args below meth c A H locs ls0 hx hb hr hml hown hts hlocks hnm hA hP hK hD hS hl
  have hown : s.vm.findClass RX1 = some m.cls := hown
  have hl : lv_has ls0 3 [(0, .ref h), (1, .int (nI b)), (2, .int x)] := hl
  have hin : ∀ w ∈ u_ws RX1 TX1 17, w ∈ wsX1_put := by decide +kernel
  have hf38 := hts (.fieldLink RX1 38 "PriorityCoreModel" "wordCounts" "[I") (by decide +kernel)
  have hf41 := hts (.fieldLink RX1 41 "PriorityCoreModel" "words" "[I") (by decide +kernel)
  refine lv_aload_n hx hb dX1_put_0 rfl (lv_at hl 0 rfl) ?_
  refine va_get (D := D) (ci := 1) (v := .ref (a 9)) (C := RX1) (T := TX1) (N := 17) hx hb hts hin hown hK hP 0 rfl rfl 15 (by decide) hf41 (fun _ h9 => h9) rfl dX1_put_1 ?_
  refine lv_iconst (v := 4) hx hb dX1_put_4 (by decide) ?_
  refine lv_iload_n hx hb dX1_put_5 rfl (lv_at hl 1 rfl) ?_
  refine lv_imul hx hb dX1_put_6 ?_
  refine zz_top (y := nI (4 * b)) (by rw [show (4 : Int32) = nI 4 from rfl, pk_mul]) ?_
  refine lv_aload_n hx hb dX1_put_7 rfl (lv_at hl 0 rfl) ?_
  refine va_get (D := D) (ci := 1) (v := .ref (a 8)) (C := RX1) (T := TX1) (N := 17) hx hb hts hin hown hK hP 0 rfl rfl 14 (by decide) hf38 (fun _ h9 => h9) rfl dX1_put_8 ?_
  refine lv_iload_n hx hb dX1_put_11 rfl (lv_at hl 1 rfl) ?_
  refine zz_iald hx hb hK hP 9 8 rfl rfl (hb8) (by decide) dX1_put_12 ?_
  refine zz_top (y := nI f) (hF) ?_
  refine lv_iadd hx hb dX1_put_13 ?_
  refine zz_top (y := nI (4 * b + f)) (nI_add _ _) ?_
  refine lv_iload_n hx hb dX1_put_14 rfl (lv_at hl 2 rfl) ?_
  refine zz_iast (ws' := mW h a cA nL nC nB (va_up F 9 (upd (F 9) (4 * b + f) x)) sp cd ck) hx hb hK hP hD hS 10 9 rfl rfl (by omega) (by decide) rfl dX1_put_15 (fun H locs hP hD hS => ?_)
  refine lv_aload_n hx hb dX1_put_16 rfl (lv_at hl 0 rfl) ?_
  refine va_get (D := D) (ci := 1) (v := .ref (a 8)) (C := RX1) (T := TX1) (N := 17) hx hb hts hin hown hK hP 0 rfl rfl 14 (by decide) hf38 (fun _ h9 => h9) rfl dX1_put_17 ?_
  refine lv_iload_n hx hb dX1_put_20 rfl (lv_at hl 1 rfl) ?_
  refine lv_dup2_11 hx hb dX1_put_21 rfl rfl ?_
  refine zz_iald hx hb hK hP 9 8 rfl rfl (hb8) (by decide) dX1_put_22 ?_
  refine zz_top (y := nI f) (hF) ?_
  refine lv_iconst (v := 1) hx hb dX1_put_23 (by decide) ?_
  refine lv_iadd hx hb dX1_put_24 ?_
  refine zz_top (y := nI (f + 1)) (nI_1 _) ?_
  refine zz_iast (ws' := mW h a cA nL nC nB (va_up (va_up F 9 (upd (F 9) (4 * b + f) x)) 8 (upd (F 8) b (nI (f + 1)))) sp cd ck) hx hb hK hP hD hS 9 8 rfl rfl (hb8) (by decide) rfl dX1_put_25 (fun H locs hP hD hS => ?_)
  exact zz_rv (va_up (va_up F 9 (upd (F 9) (4 * b + f) x)) 8 (upd (F 8) b (nI (f + 1))), sp, cd, ck) hx hb hr hlocks hP hK hD hS (rfl) dX1_put_26
set_option maxHeartbeats 1000000 in
set_option maxRecDepth 100000 in
/-- cM_send -/
theorem cM_send (l : Launch) (D : va_G) (h : Nat) (a : Nat → Nat) (cA : Nat → ClassId) (nL nC nB sz : Nat) (hn : nL ≤ 8 ∧ nC ≤ 8 ∧ nB ≤ 8) (F : Nat → Nat → Int32) (sp : Nat → Int64) (cd : Int32) (ck : Int64) (x y : Int32) (hI : ms_I F) (hFi : ms_fi nB F) : Met l yX1_send wsX1_send ({ frames := 3, cells := 0, slots := 0, locals := 69 }) (va_Pc [.ref h, .int x, .int y] (zz_Pre D vwCl (mT cA) (mW h a cA nL nC nB F sp cd ck) sz)) (va_Qi (fun (r : Int32) (u : mS) => mp_send nB F sp ck x y r u) (zz_At D vwCl (mT cA) (fun u : mS => mW h a cA nL nC nB u.1 u.2.1 u.2.2.1 u.2.2.2) (va_A (mW h a cA nL nC nB F sp cd ck) sz)) (va_A (mW h a cA nL nC nB F sp cd ck) sz)) 0 0 (va_A (mW h a cA nL nC nB F sp cd ck) sz) := by
  obtain ⟨hnL, hnC, hnB⟩ := hn
  have hn : nL ≤ 8 ∧ nC ≤ 8 ∧ nB ≤ 8 := ⟨hnL, hnC, hnB⟩
  refine zz_of (Qc := fun A => va_Qi (fun (r : Int32) (u : mS) => mp_send nB F sp ck x y r u) (zz_At D vwCl (mT cA) (fun u : mS => mW h a cA nL nC nB u.1 u.2.1 u.2.2.1 u.2.2.2) A) A) (by decide) rfl (Nat.le_of_ble_eq_true rfl) ?_
  intro p e s m args below meth c A H locs ls0 hx hb hr hml hown hts hlocks hnm hA hP hK hD hS hl
  have hown : s.vm.findClass RX1 = some m.cls := hown
  have hl : lv_has ls0 5 [(0, .ref h), (1, .int x), (2, .int y)] := hl
  have hin : ∀ w ∈ u_ws RX1 TX1 17, w ∈ wsX1_send := by decide +kernel
  have hf26 := hts (.fieldLink RX1 26 "PriorityCoreModel" "sent" "[I") (by decide +kernel)
  have hf29 := hts (.fieldLink RX1 29 "PriorityCoreModel" "got" "[I") (by decide +kernel)
  have hf38 := hts (.fieldLink RX1 38 "PriorityCoreModel" "wordCounts" "[I") (by decide +kernel)
  have hf58 := hts (.fieldLink RX1 58 "PriorityCoreModel" "boxes" "I") (by decide +kernel)
  have hf64 := hts (.fieldLink RX1 64 "PriorityCoreModel" "code" "I") (by decide +kernel)
  refine lv_aload_n hx hb dX1_send_0 rfl (lv_at hl 0 rfl) ?_
  refine zz_ci (va_runV (As := []) (rest := []) ⟨hx, hb, hml, hown, hts⟩ (cM_runs l D h a cA nL nC nB H.size hn F sp cd ck hI) (cwV 0 hts gX1_send_X1_runs rfl rfl rfl (by decide +kernel) ⟨(Nat.le_of_ble_eq_true rfl), (Nat.le_of_ble_eq_true rfl)⟩) (zz_pV hP hK hD (va_recv hK hP (ci := 1) (q0 := 0) rfl rfl)) rfl rfl hl.1 rfl (lv_room (Nat.le_of_ble_eq_true rfl)) dX1_send_1 ⟨(Nat.le_of_ble_eq_true rfl), (Nat.le_of_ble_eq_true rfl)⟩) hD hS hA (fun r u H locs hw hP hD hS => ?_)
  obtain ⟨E, nx, hu, hfo, hre⟩ := hw
  subst hu
  subst hre
  have hP : va_P D vwCl (mW h a cA nL nC nB (va_up F 10 E) sp cd ck) H := hP
  have hD : va_D A (mW h a cA nL nC nB (va_up F 10 E) sp cd ck) := hD
  refine lv_istore_n (lv' := [(3, .int (pq_enc nx)), (0, .ref h), (1, .int x), (2, .int y)]) hx hb dX1_send_4 rfl hl (by decide) rfl (fun ls0 hl => ?_)
  refine lv_aload_n hx hb dX1_send_5 rfl (lv_at hl 1 rfl) ?_
  refine lv_iload_n hx hb dX1_send_6 rfl (lv_at hl 2 rfl) ?_
  refine lv_if_lt (tgt := 18) hx hb dX1_send_7 (by decide) (fun c7 => ?_) (fun c7 => ?_)
  · have hxn : ¬ sp_in nB x := zn_no1 (by omega) c7
    refine lv_iconst (v := 1) hx hb dX1_send_18 (by decide) ?_
    refine lv_goto (tgt := 31) hx hb dX1_send_19 (by decide) ?_
    refine va_put (D := D) (ci := 1) (v := .int 1) (ty := .int) (C := RX1) (T := TX1) (N := 17) hx hb hts hin tyX1 tyX1_ok nmX1 hown hK hP hD hS 0 rfl rfl 3 (by decide) hf64 (fun _ h9 => h9) rfl (by decide +kernel) rfl rfl (Nat.le_of_ble_eq_true rfl) dX1_send_31 (fun H locs hP hD hS => ?_)
    have hP : va_P D vwCl (mW h a cA nL nC nB (va_up F 10 E) sp 1 ck) H := hP
    have hD : va_D A (mW h a cA nL nC nB (va_up F 10 E) sp 1 ck) := hD
    refine lv_aload_n hx hb dX1_send_34 rfl (lv_at hl 1 rfl) ?_
    refine va_get (D := D) (ci := 1) (v := .int 1) (C := RX1) (T := TX1) (N := 17) hx hb hts hin hown hK hP 0 rfl rfl 3 (by decide) hf64 (fun _ h9 => h9) rfl dX1_send_35 ?_
    refine lv_if_le (tgt := 43) hx hb dX1_send_38 (by decide) (fun c38 => ?_) (fun c38 => ?_)
    · exact absurd c38 (by decide)
    · refine lv_iconst (v := 0) hx hb dX1_send_41 (by decide) ?_
      exact zz_ri (va_up F 10 E, sp, 1, ck) hx hb hr hlocks hP hK hD hS (⟨E, nx, hfo, Or.inl ⟨hxn, rfl⟩⟩) dX1_send_42
  · refine lv_iload_n hx hb dX1_send_10 rfl (lv_at hl 2 rfl) ?_
    refine lv_aload_n hx hb dX1_send_11 rfl (lv_at hl 1 rfl) ?_
    refine va_get (D := D) (ci := 1) (v := .int (nI nB)) (C := RX1) (T := TX1) (N := 17) hx hb hts hin hown hK hP 0 rfl rfl 2 (by decide) hf58 (fun _ h9 => h9) rfl dX1_send_12 ?_
    refine lv_icmp_lt (tgt := 22) hx hb dX1_send_15 (by decide) (fun c15 => ?_) (fun c15 => ?_)
    · have hxi : sp_in nB x := zn_ix (by omega) c7 c15
      have hxj := hxi
      obtain ⟨k, hk, hxe⟩ := hxi
      subst hxe
      have hl : lv_has ls0 5 [(3, .int (pq_enc nx)), (0, .ref h), (1, .int (nI k)), (2, .int y)] := hl
      refine lv_iload_n hx hb dX1_send_22 rfl (lv_at hl 0 rfl) ?_
      refine lv_if_ge (tgt := 30) hx hb dX1_send_23 (by decide) (fun c23 => ?_) (fun c23 => ?_)
      · obtain ⟨t, ht16, hnxt⟩ := pq_enc_ge (ms_fo_lt hfo) c23
        subst hnxt
        have hl : lv_has ls0 5 [(3, .int (nI t)), (0, .ref h), (1, .int (nI k)), (2, .int y)] := hl
        refine lv_iconst (v := 0) hx hb dX1_send_30 (by decide) ?_
        refine va_put (D := D) (ci := 1) (v := .int 0) (ty := .int) (C := RX1) (T := TX1) (N := 17) hx hb hts hin tyX1 tyX1_ok nmX1 hown hK hP hD hS 0 rfl rfl 3 (by decide) hf64 (fun _ h9 => h9) rfl (by decide +kernel) rfl rfl (Nat.le_of_ble_eq_true rfl) dX1_send_31 (fun H locs hP hD hS => ?_)
        have hP : va_P D vwCl (mW h a cA nL nC nB (va_up F 10 E) sp 0 ck) H := hP
        have hD : va_D A (mW h a cA nL nC nB (va_up F 10 E) sp 0 ck) := hD
        refine lv_aload_n hx hb dX1_send_34 rfl (lv_at hl 1 rfl) ?_
        refine va_get (D := D) (ci := 1) (v := .int 0) (C := RX1) (T := TX1) (N := 17) hx hb hts hin hown hK hP 0 rfl rfl 3 (by decide) hf64 (fun _ h9 => h9) rfl dX1_send_35 ?_
        refine lv_if_le (tgt := 43) hx hb dX1_send_38 (by decide) (fun c38 => ?_) (fun c38 => ?_)
        · refine lv_aload_n hx hb dX1_send_43 rfl (lv_at hl 1 rfl) ?_
          refine lv_iconst (v := 5) hx hb dX1_send_44 (by decide) ?_
          refine lv_iload_n hx hb dX1_send_45 rfl (lv_at hl 2 rfl) ?_
          refine zz_ci (va_runV (As := [.int 5, .int (nI k)]) (rest := []) ⟨hx, hb, hml, hown, hts⟩ (cM_firstOf l D h a cA nL nC nB H.size hn (va_up F 10 E) sp 0 ck 5 (nI k) hI) (cwV 2 hts gX1_send_X1_firstOf rfl rfl rfl (by decide +kernel) ⟨(Nat.le_of_ble_eq_true rfl), (Nat.le_of_ble_eq_true rfl)⟩) (zz_pV hP hK hD (va_recv hK hP (ci := 1) (q0 := 0) rfl rfl)) rfl rfl hl.1 rfl (lv_room (Nat.le_of_ble_eq_true rfl)) dX1_send_46 ⟨(Nat.le_of_ble_eq_true rfl), (Nat.le_of_ble_eq_true rfl)⟩) hD hS hA (fun r u H locs hw hP hD hS => ?_)
          obtain ⟨E2, n2, hu, hfo2, hre⟩ := hw
          subst hu
          subst hre
          have hfo2 : ms_fo F sp 5 (nI k) E2 n2 := hfo2
          have hP : va_P D vwCl (mW h a cA nL nC nB (va_up F 10 E2) sp 0 ck) H := hP
          have hD : va_D A (mW h a cA nL nC nB (va_up F 10 E2) sp 0 ck) := hD
          refine lv_istore (lv' := [(4, .int (pq_enc n2)), (3, .int (nI t)), (0, .ref h), (1, .int (nI k)), (2, .int y)]) hx hb dX1_send_49 hl (by decide) rfl (fun ls0 hl => ?_)
          refine lv_iload hx hb dX1_send_51 (lv_at hl 0 rfl) ?_
          refine lv_if_lt (tgt := 74) hx hb dX1_send_53 (by decide) (fun c53 => ?_) (fun c53 => ?_)
          · have hnon2 : n2 = none := (pq_enc_lt (ms_fo_lt hfo2)).mp c53
            obtain ⟨f, hf4, hFf⟩ := hFi k hk
            refine lv_aload_n hx hb dX1_send_74 rfl (lv_at hl 2 rfl) ?_
            refine va_get (D := D) (ci := 1) (v := .ref (a 8)) (C := RX1) (T := TX1) (N := 17) hx hb hts hin hown hK hP 0 rfl rfl 14 (by decide) hf38 (fun _ h9 => h9) rfl dX1_send_75 ?_
            refine lv_iload_n hx hb dX1_send_78 rfl (lv_at hl 3 rfl) ?_
            refine zz_iald hx hb hK hP 9 8 rfl rfl (by omega) (by decide) dX1_send_79 ?_
            refine zz_top (y := nI f) (hFf) ?_
            refine lv_iconst (v := 4) hx hb dX1_send_80 (by decide) ?_
            refine lv_icmp_ge (tgt := 92) hx hb dX1_send_81 (by decide) (fun c81 => ?_) (fun c81 => ?_)
            · have hf4e : f = 4 := by
                have q := (nI_leI (a := 4) (b := f) (by decide) (by omega)).mp c81
                omega
              refine lv_aload_n hx hb dX1_send_92 rfl (lv_at hl 2 rfl) ?_
              refine va_get (D := D) (ci := 1) (v := .ref (a 4)) (C := RX1) (T := TX1) (N := 17) hx hb hts hin hown hK hP 0 rfl rfl 10 (by decide) hf26 (fun _ h9 => h9) rfl dX1_send_93 ?_
              refine lv_iload_n hx hb dX1_send_96 rfl (lv_at hl 1 rfl) ?_
              refine lv_iload_n hx hb dX1_send_97 rfl (lv_at hl 4 rfl) ?_
              refine zz_iast (ws' := mW h a cA nL nC nB (va_up (va_up F 10 E2) 4 (upd (F 4) t y)) sp 0 ck) hx hb hK hP hD hS 5 4 rfl rfl (ht16) (by decide) rfl dX1_send_98 (fun H locs hP hD hS => ?_)
              refine lv_aload_n hx hb dX1_send_99 rfl (lv_at hl 2 rfl) ?_
              refine lv_iload_n hx hb dX1_send_100 rfl (lv_at hl 1 rfl) ?_
              refine lv_iconst (v := 4) hx hb dX1_send_101 (by decide) ?_
              refine lv_iload_n hx hb dX1_send_102 rfl (lv_at hl 3 rfl) ?_
              refine zz_cv (va_runV (As := [.int (nI t), .int 4, .int (nI k)]) (rest := []) ⟨hx, hb, hml, hown, hts⟩ (cM_enter l D h a cA nL nC nB H.size hn (va_up (va_up F 10 E2) 4 (upd (F 4) t y)) sp 0 ck t 4 (nI k) ht16) (cwV 3 hts gX1_send_X1_enter rfl rfl rfl (by decide +kernel) ⟨(Nat.le_of_ble_eq_true rfl), (Nat.le_of_ble_eq_true rfl)⟩) (zz_pV hP hK hD (va_recv hK hP (ci := 1) (q0 := 0) rfl rfl)) rfl rfl hl.1 rfl (lv_room (Nat.le_of_ble_eq_true rfl)) dX1_send_103 ⟨(Nat.le_of_ble_eq_true rfl), (Nat.le_of_ble_eq_true rfl)⟩) hD hS hA (fun u H locs hw hP hD hS => ?_)
              subst hw
              have hP : va_P D vwCl (mW h a cA nL nC nB (va_up (va_up (va_up (va_up F 10 E2) 4 (upd (F 4) t y)) 0 (upd (F 0) t 4)) 2 (upd (F 2) t (nI k))) (vp_updL sp t (ck + 1)) 0 (ck + 1)) H := hP
              have hD : va_D A (mW h a cA nL nC nB (va_up (va_up (va_up (va_up F 10 E2) 4 (upd (F 4) t y)) 0 (upd (F 0) t 4)) 2 (upd (F 2) t (nI k))) (vp_updL sp t (ck + 1)) 0 (ck + 1)) := hD
              refine lv_iconst (v := 1) hx hb dX1_send_106 (by decide) ?_
              exact zz_ri (va_up (va_up (va_up (va_up F 10 E2) 4 (upd (F 4) t y)) 0 (upd (F 0) t 4)) 2 (upd (F 2) t (nI k)), vp_updL sp t (ck + 1), 0, ck + 1) hx hb hr hlocks hP hK hD hS (⟨E, _, hfo, Or.inr (Or.inr ⟨k, t, E2, _, hk, rfl, ht16, rfl, hfo2, Or.inr ⟨hnon2, f, hf4, hFf, Or.inr ⟨hf4e, rfl, rfl⟩⟩⟩)⟩) dX1_send_107
            · have hlt : f < 4 := zn_lt (n := 4) rfl (by omega) (by decide) c81
              refine lv_aload_n hx hb dX1_send_84 rfl (lv_at hl 2 rfl) ?_
              refine lv_iload_n hx hb dX1_send_85 rfl (lv_at hl 3 rfl) ?_
              refine lv_iload_n hx hb dX1_send_86 rfl (lv_at hl 4 rfl) ?_
              refine zz_cv (va_runV (As := [.int (nI k), .int y]) (rest := []) ⟨hx, hb, hml, hown, hts⟩ (cM_put l D h a cA nL nC nB H.size hn (va_up F 10 E2) sp 0 ck k f y (by omega) (by omega) (hFf)) (cwV 2 hts gX1_send_X1_put rfl rfl rfl (by decide +kernel) ⟨(Nat.le_of_ble_eq_true rfl), (Nat.le_of_ble_eq_true rfl)⟩) (zz_pV hP hK hD (va_recv hK hP (ci := 1) (q0 := 0) rfl rfl)) rfl rfl hl.1 rfl (lv_room (Nat.le_of_ble_eq_true rfl)) dX1_send_87 ⟨(Nat.le_of_ble_eq_true rfl), (Nat.le_of_ble_eq_true rfl)⟩) hD hS hA (fun u H locs hw hP hD hS => ?_)
              subst hw
              have hP : va_P D vwCl (mW h a cA nL nC nB (va_up (va_up (va_up F 10 E2) 9 (upd (F 9) (4 * k + f) y)) 8 (upd (F 8) k (nI (f + 1)))) sp 0 ck) H := hP
              have hD : va_D A (mW h a cA nL nC nB (va_up (va_up (va_up F 10 E2) 9 (upd (F 9) (4 * k + f) y)) 8 (upd (F 8) k (nI (f + 1)))) sp 0 ck) := hD
              refine lv_iconst (v := 0) hx hb dX1_send_90 (by decide) ?_
              exact zz_ri (va_up (va_up (va_up F 10 E2) 9 (upd (F 9) (4 * k + f) y)) 8 (upd (F 8) k (nI (f + 1))), sp, 0, ck) hx hb hr hlocks hP hK hD hS (⟨E, _, hfo, Or.inr (Or.inr ⟨k, t, E2, _, hk, rfl, ht16, rfl, hfo2, Or.inr ⟨hnon2, f, hf4, hFf, Or.inl ⟨hlt, rfl, rfl⟩⟩⟩)⟩) dX1_send_91
          · obtain ⟨j, hj16, hnxj⟩ := pq_enc_ge (ms_fo_lt hfo2) (Int32.not_lt.mp c53)
            subst hnxj
            have hl : lv_has ls0 5 [(4, .int (nI j)), (3, .int (nI t)), (0, .ref h), (1, .int (nI k)), (2, .int y)] := hl
            refine lv_aload_n hx hb dX1_send_56 rfl (lv_at hl 2 rfl) ?_
            refine va_get (D := D) (ci := 1) (v := .ref (a 5)) (C := RX1) (T := TX1) (N := 17) hx hb hts hin hown hK hP 0 rfl rfl 11 (by decide) hf29 (fun _ h9 => h9) rfl dX1_send_57 ?_
            refine lv_iload hx hb dX1_send_60 (lv_at hl 0 rfl) ?_
            refine lv_iload_n hx hb dX1_send_62 rfl (lv_at hl 4 rfl) ?_
            refine zz_iast (ws' := mW h a cA nL nC nB (va_up (va_up F 10 E2) 5 (upd (F 5) j y)) sp 0 ck) hx hb hK hP hD hS 6 5 rfl rfl (hj16) (by decide) rfl dX1_send_63 (fun H locs hP hD hS => ?_)
            refine lv_aload_n hx hb dX1_send_64 rfl (lv_at hl 2 rfl) ?_
            refine lv_iload hx hb dX1_send_65 (lv_at hl 0 rfl) ?_
            refine lv_iconst (v := 1) hx hb dX1_send_67 (by decide) ?_
            refine lv_iconst (v := 0) hx hb dX1_send_68 (by decide) ?_
            refine zz_cv (va_runV (As := [.int (nI j), .int 1, .int 0]) (rest := []) ⟨hx, hb, hml, hown, hts⟩ (cM_enter l D h a cA nL nC nB H.size hn (va_up (va_up F 10 E2) 5 (upd (F 5) j y)) sp 0 ck j 1 0 hj16) (cwV 3 hts gX1_send_X1_enter rfl rfl rfl (by decide +kernel) ⟨(Nat.le_of_ble_eq_true rfl), (Nat.le_of_ble_eq_true rfl)⟩) (zz_pV hP hK hD (va_recv hK hP (ci := 1) (q0 := 0) rfl rfl)) rfl rfl hl.1 rfl (lv_room (Nat.le_of_ble_eq_true rfl)) dX1_send_69 ⟨(Nat.le_of_ble_eq_true rfl), (Nat.le_of_ble_eq_true rfl)⟩) hD hS hA (fun u H locs hw hP hD hS => ?_)
            subst hw
            have hP : va_P D vwCl (mW h a cA nL nC nB (va_up (va_up (va_up (va_up F 10 E2) 5 (upd (F 5) j y)) 0 (upd (F 0) j 1)) 2 (upd (F 2) j 0)) (vp_updL sp j (ck + 1)) 0 (ck + 1)) H := hP
            have hD : va_D A (mW h a cA nL nC nB (va_up (va_up (va_up (va_up F 10 E2) 5 (upd (F 5) j y)) 0 (upd (F 0) j 1)) 2 (upd (F 2) j 0)) (vp_updL sp j (ck + 1)) 0 (ck + 1)) := hD
            refine lv_iconst (v := 0) hx hb dX1_send_72 (by decide) ?_
            exact zz_ri (va_up (va_up (va_up (va_up F 10 E2) 5 (upd (F 5) j y)) 0 (upd (F 0) j 1)) 2 (upd (F 2) j 0), vp_updL sp j (ck + 1), 0, ck + 1) hx hb hr hlocks hP hK hD hS (⟨E, _, hfo, Or.inr (Or.inr ⟨k, t, E2, _, hk, rfl, ht16, rfl, hfo2, Or.inl ⟨j, hj16, rfl, rfl, rfl⟩⟩)⟩) dX1_send_73
        · exact absurd (by decide) c38
      · have hnonx : nx = none := pq_enc_ng (ms_fo_lt hfo) c23
        refine lv_iconst (v := 2) hx hb dX1_send_26 (by decide) ?_
        refine lv_goto (tgt := 31) hx hb dX1_send_27 (by decide) ?_
        refine va_put (D := D) (ci := 1) (v := .int 2) (ty := .int) (C := RX1) (T := TX1) (N := 17) hx hb hts hin tyX1 tyX1_ok nmX1 hown hK hP hD hS 0 rfl rfl 3 (by decide) hf64 (fun _ h9 => h9) rfl (by decide +kernel) rfl rfl (Nat.le_of_ble_eq_true rfl) dX1_send_31 (fun H locs hP hD hS => ?_)
        have hP : va_P D vwCl (mW h a cA nL nC nB (va_up F 10 E) sp 2 ck) H := hP
        have hD : va_D A (mW h a cA nL nC nB (va_up F 10 E) sp 2 ck) := hD
        refine lv_aload_n hx hb dX1_send_34 rfl (lv_at hl 1 rfl) ?_
        refine va_get (D := D) (ci := 1) (v := .int 2) (C := RX1) (T := TX1) (N := 17) hx hb hts hin hown hK hP 0 rfl rfl 3 (by decide) hf64 (fun _ h9 => h9) rfl dX1_send_35 ?_
        refine lv_if_le (tgt := 43) hx hb dX1_send_38 (by decide) (fun c38 => ?_) (fun c38 => ?_)
        · exact absurd c38 (by decide)
        · refine lv_iconst (v := 0) hx hb dX1_send_41 (by decide) ?_
          exact zz_ri (va_up F 10 E, sp, 2, ck) hx hb hr hlocks hP hK hD hS (⟨E, nx, hfo, Or.inr (Or.inl ⟨hxj, hnonx, rfl⟩)⟩) dX1_send_42
    · have hxn : ¬ sp_in nB x := zn_no2 (by omega) c15
      refine lv_iconst (v := 1) hx hb dX1_send_18 (by decide) ?_
      refine lv_goto (tgt := 31) hx hb dX1_send_19 (by decide) ?_
      refine va_put (D := D) (ci := 1) (v := .int 1) (ty := .int) (C := RX1) (T := TX1) (N := 17) hx hb hts hin tyX1 tyX1_ok nmX1 hown hK hP hD hS 0 rfl rfl 3 (by decide) hf64 (fun _ h9 => h9) rfl (by decide +kernel) rfl rfl (Nat.le_of_ble_eq_true rfl) dX1_send_31 (fun H locs hP hD hS => ?_)
      have hP : va_P D vwCl (mW h a cA nL nC nB (va_up F 10 E) sp 1 ck) H := hP
      have hD : va_D A (mW h a cA nL nC nB (va_up F 10 E) sp 1 ck) := hD
      refine lv_aload_n hx hb dX1_send_34 rfl (lv_at hl 1 rfl) ?_
      refine va_get (D := D) (ci := 1) (v := .int 1) (C := RX1) (T := TX1) (N := 17) hx hb hts hin hown hK hP 0 rfl rfl 3 (by decide) hf64 (fun _ h9 => h9) rfl dX1_send_35 ?_
      refine lv_if_le (tgt := 43) hx hb dX1_send_38 (by decide) (fun c38 => ?_) (fun c38 => ?_)
      · exact absurd c38 (by decide)
      · refine lv_iconst (v := 0) hx hb dX1_send_41 (by decide) ?_
        exact zz_ri (va_up F 10 E, sp, 1, ck) hx hb hr hlocks hP hK hD hS (⟨E, nx, hfo, Or.inl ⟨hxn, rfl⟩⟩) dX1_send_42
set_option maxHeartbeats 1000000 in
set_option maxRecDepth 100000 in
/-- cM_receive -/
theorem cM_receive (l : Launch) (D : va_G) (h : Nat) (a : Nat → Nat) (cA : Nat → ClassId) (nL nC nB sz : Nat) (hn : nL ≤ 8 ∧ nC ≤ 8 ∧ nB ≤ 8) (F : Nat → Nat → Int32) (sp : Nat → Int64) (cd : Int32) (ck : Int64) (x : Int32) (hI : ms_I F) (hFi : ms_fi nB F) : Met l yX1_receive wsX1_receive ({ frames := 3, cells := 0, slots := 0, locals := 69 }) (va_Pc [.ref h, .int x] (zz_Pre D vwCl (mT cA) (mW h a cA nL nC nB F sp cd ck) sz)) (va_Qi (fun (r : Int32) (u : mS) => mp_receive nB F sp ck x r u) (zz_At D vwCl (mT cA) (fun u : mS => mW h a cA nL nC nB u.1 u.2.1 u.2.2.1 u.2.2.2) (va_A (mW h a cA nL nC nB F sp cd ck) sz)) (va_A (mW h a cA nL nC nB F sp cd ck) sz)) 0 0 (va_A (mW h a cA nL nC nB F sp cd ck) sz) := by
  obtain ⟨hnL, hnC, hnB⟩ := hn
  have hn : nL ≤ 8 ∧ nC ≤ 8 ∧ nB ≤ 8 := ⟨hnL, hnC, hnB⟩
  refine zz_of (Qc := fun A => va_Qi (fun (r : Int32) (u : mS) => mp_receive nB F sp ck x r u) (zz_At D vwCl (mT cA) (fun u : mS => mW h a cA nL nC nB u.1 u.2.1 u.2.2.1 u.2.2.2) A) A) (by decide) rfl (Nat.le_of_ble_eq_true rfl) ?_
  intro p e s m args below meth c A H locs ls0 hx hb hr hml hown hts hlocks hnm hA hP hK hD hS hl
  have hown : s.vm.findClass RX1 = some m.cls := hown
  have hl : lv_has ls0 4 [(0, .ref h), (1, .int x)] := hl
  have hin : ∀ w ∈ u_ws RX1 TX1 17, w ∈ wsX1_receive := by decide +kernel
  have hf26 := hts (.fieldLink RX1 26 "PriorityCoreModel" "sent" "[I") (by decide +kernel)
  have hf29 := hts (.fieldLink RX1 29 "PriorityCoreModel" "got" "[I") (by decide +kernel)
  have hf38 := hts (.fieldLink RX1 38 "PriorityCoreModel" "wordCounts" "[I") (by decide +kernel)
  have hf41 := hts (.fieldLink RX1 41 "PriorityCoreModel" "words" "[I") (by decide +kernel)
  have hf58 := hts (.fieldLink RX1 58 "PriorityCoreModel" "boxes" "I") (by decide +kernel)
  have hf64 := hts (.fieldLink RX1 64 "PriorityCoreModel" "code" "I") (by decide +kernel)
  refine lv_aload_n hx hb dX1_receive_0 rfl (lv_at hl 0 rfl) ?_
  refine zz_ci (va_runV (As := []) (rest := []) ⟨hx, hb, hml, hown, hts⟩ (cM_runs l D h a cA nL nC nB H.size hn F sp cd ck hI) (cwV 0 hts gX1_receive_X1_runs rfl rfl rfl (by decide +kernel) ⟨(Nat.le_of_ble_eq_true rfl), (Nat.le_of_ble_eq_true rfl)⟩) (zz_pV hP hK hD (va_recv hK hP (ci := 1) (q0 := 0) rfl rfl)) rfl rfl hl.1 rfl (lv_room (Nat.le_of_ble_eq_true rfl)) dX1_receive_1 ⟨(Nat.le_of_ble_eq_true rfl), (Nat.le_of_ble_eq_true rfl)⟩) hD hS hA (fun r u H locs hw hP hD hS => ?_)
  obtain ⟨E, nx, hu, hfo, hre⟩ := hw
  subst hu
  subst hre
  have hP : va_P D vwCl (mW h a cA nL nC nB (va_up F 10 E) sp cd ck) H := hP
  have hD : va_D A (mW h a cA nL nC nB (va_up F 10 E) sp cd ck) := hD
  refine lv_istore_n (lv' := [(2, .int (pq_enc nx)), (0, .ref h), (1, .int x)]) hx hb dX1_receive_4 rfl hl (by decide) rfl (fun ls0 hl => ?_)
  refine lv_aload_n hx hb dX1_receive_5 rfl (lv_at hl 1 rfl) ?_
  refine lv_iload_n hx hb dX1_receive_6 rfl (lv_at hl 2 rfl) ?_
  refine lv_if_lt (tgt := 18) hx hb dX1_receive_7 (by decide) (fun c7 => ?_) (fun c7 => ?_)
  · have hxn : ¬ sp_in nB x := zn_no1 (by omega) c7
    refine lv_iconst (v := 1) hx hb dX1_receive_18 (by decide) ?_
    refine lv_goto (tgt := 31) hx hb dX1_receive_19 (by decide) ?_
    refine va_put (D := D) (ci := 1) (v := .int 1) (ty := .int) (C := RX1) (T := TX1) (N := 17) hx hb hts hin tyX1 tyX1_ok nmX1 hown hK hP hD hS 0 rfl rfl 3 (by decide) hf64 (fun _ h9 => h9) rfl (by decide +kernel) rfl rfl (Nat.le_of_ble_eq_true rfl) dX1_receive_31 (fun H locs hP hD hS => ?_)
    have hP : va_P D vwCl (mW h a cA nL nC nB (va_up F 10 E) sp 1 ck) H := hP
    have hD : va_D A (mW h a cA nL nC nB (va_up F 10 E) sp 1 ck) := hD
    refine lv_aload_n hx hb dX1_receive_34 rfl (lv_at hl 1 rfl) ?_
    refine va_get (D := D) (ci := 1) (v := .int 1) (C := RX1) (T := TX1) (N := 17) hx hb hts hin hown hK hP 0 rfl rfl 3 (by decide) hf64 (fun _ h9 => h9) rfl dX1_receive_35 ?_
    refine lv_if_le (tgt := 43) hx hb dX1_receive_38 (by decide) (fun c38 => ?_) (fun c38 => ?_)
    · exact absurd c38 (by decide)
    · refine lv_iconst (v := 0) hx hb dX1_receive_41 (by decide) ?_
      exact zz_ri (va_up F 10 E, sp, 1, ck) hx hb hr hlocks hP hK hD hS (⟨E, nx, hfo, Or.inl ⟨hxn, rfl⟩⟩) dX1_receive_42
  · refine lv_iload_n hx hb dX1_receive_10 rfl (lv_at hl 2 rfl) ?_
    refine lv_aload_n hx hb dX1_receive_11 rfl (lv_at hl 1 rfl) ?_
    refine va_get (D := D) (ci := 1) (v := .int (nI nB)) (C := RX1) (T := TX1) (N := 17) hx hb hts hin hown hK hP 0 rfl rfl 2 (by decide) hf58 (fun _ h9 => h9) rfl dX1_receive_12 ?_
    refine lv_icmp_lt (tgt := 22) hx hb dX1_receive_15 (by decide) (fun c15 => ?_) (fun c15 => ?_)
    · have hxi : sp_in nB x := zn_ix (by omega) c7 c15
      have hxj := hxi
      obtain ⟨k, hk, hxe⟩ := hxi
      subst hxe
      have hl : lv_has ls0 4 [(2, .int (pq_enc nx)), (0, .ref h), (1, .int (nI k))] := hl
      refine lv_iload_n hx hb dX1_receive_22 rfl (lv_at hl 0 rfl) ?_
      refine lv_if_ge (tgt := 30) hx hb dX1_receive_23 (by decide) (fun c23 => ?_) (fun c23 => ?_)
      · obtain ⟨t, ht16, hnxt⟩ := pq_enc_ge (ms_fo_lt hfo) c23
        subst hnxt
        have hl : lv_has ls0 4 [(2, .int (nI t)), (0, .ref h), (1, .int (nI k))] := hl
        refine lv_iconst (v := 0) hx hb dX1_receive_30 (by decide) ?_
        refine va_put (D := D) (ci := 1) (v := .int 0) (ty := .int) (C := RX1) (T := TX1) (N := 17) hx hb hts hin tyX1 tyX1_ok nmX1 hown hK hP hD hS 0 rfl rfl 3 (by decide) hf64 (fun _ h9 => h9) rfl (by decide +kernel) rfl rfl (Nat.le_of_ble_eq_true rfl) dX1_receive_31 (fun H locs hP hD hS => ?_)
        have hP : va_P D vwCl (mW h a cA nL nC nB (va_up F 10 E) sp 0 ck) H := hP
        have hD : va_D A (mW h a cA nL nC nB (va_up F 10 E) sp 0 ck) := hD
        refine lv_aload_n hx hb dX1_receive_34 rfl (lv_at hl 1 rfl) ?_
        refine va_get (D := D) (ci := 1) (v := .int 0) (C := RX1) (T := TX1) (N := 17) hx hb hts hin hown hK hP 0 rfl rfl 3 (by decide) hf64 (fun _ h9 => h9) rfl dX1_receive_35 ?_
        refine lv_if_le (tgt := 43) hx hb dX1_receive_38 (by decide) (fun c38 => ?_) (fun c38 => ?_)
        · refine lv_aload_n hx hb dX1_receive_43 rfl (lv_at hl 1 rfl) ?_
          refine va_get (D := D) (ci := 1) (v := .ref (a 8)) (C := RX1) (T := TX1) (N := 17) hx hb hts hin hown hK hP 0 rfl rfl 14 (by decide) hf38 (fun _ h9 => h9) rfl dX1_receive_44 ?_
          refine lv_iload_n hx hb dX1_receive_47 rfl (lv_at hl 2 rfl) ?_
          refine zz_iald hx hb hK hP 9 8 rfl rfl (by omega) (by decide) dX1_receive_48 ?_
          refine lv_if_ne (tgt := 61) hx hb dX1_receive_49 (by decide) (fun c49 => ?_) (fun c49 => ?_)
          · obtain ⟨f, hf4, hFf⟩ := hFi k hk
            obtain ⟨g, hg⟩ : ∃ g, f = g + 1 := by
              cases f with
              | zero => exact absurd hFf c49
              | succ g => exact ⟨g, rfl⟩
            subst hg
            have hg3 : g ≤ 3 := by omega
            refine lv_aload_n hx hb dX1_receive_61 rfl (lv_at hl 1 rfl) ?_
            refine va_get (D := D) (ci := 1) (v := .ref (a 5)) (C := RX1) (T := TX1) (N := 17) hx hb hts hin hown hK hP 0 rfl rfl 11 (by decide) hf29 (fun _ h9 => h9) rfl dX1_receive_62 ?_
            refine lv_iload_n hx hb dX1_receive_65 rfl (lv_at hl 0 rfl) ?_
            refine lv_aload_n hx hb dX1_receive_66 rfl (lv_at hl 1 rfl) ?_
            refine va_get (D := D) (ci := 1) (v := .ref (a 9)) (C := RX1) (T := TX1) (N := 17) hx hb hts hin hown hK hP 0 rfl rfl 15 (by decide) hf41 (fun _ h9 => h9) rfl dX1_receive_67 ?_
            refine lv_iconst (v := 4) hx hb dX1_receive_70 (by decide) ?_
            refine lv_iload_n hx hb dX1_receive_71 rfl (lv_at hl 2 rfl) ?_
            refine lv_imul hx hb dX1_receive_72 ?_
            refine zz_top (y := nI (4 * k)) (by rw [show (4 : Int32) = nI 4 from rfl, pk_mul]) ?_
            refine zz_iald hx hb hK hP 10 9 rfl rfl (by omega) (by decide) dX1_receive_73 ?_
            refine zz_iast (ws' := mW h a cA nL nC nB (va_up (va_up F 10 E) 5 (upd (F 5) t ((F 9) (4 * k)))) sp 0 ck) hx hb hK hP hD hS 6 5 rfl rfl (ht16) (by decide) rfl dX1_receive_74 (fun H locs hP hD hS => ?_)
            refine lv_aload_n hx hb dX1_receive_75 rfl (lv_at hl 1 rfl) ?_
            refine va_get (D := D) (ci := 1) (v := .ref (a 8)) (C := RX1) (T := TX1) (N := 17) hx hb hts hin hown hK hP 0 rfl rfl 14 (by decide) hf38 (fun _ h9 => h9) rfl dX1_receive_76 ?_
            refine lv_iload_n hx hb dX1_receive_79 rfl (lv_at hl 2 rfl) ?_
            refine lv_dup2_11 hx hb dX1_receive_80 rfl rfl ?_
            refine zz_iald hx hb hK hP 9 8 rfl rfl (by omega) (by decide) dX1_receive_81 ?_
            refine zz_top (y := nI (g + 1)) (hFf) ?_
            refine lv_iconst (v := 1) hx hb dX1_receive_82 (by decide) ?_
            refine lv_isub hx hb dX1_receive_83 ?_
            refine zz_top (y := nI g) (nI_pred _) ?_
            refine zz_iast (ws' := mW h a cA nL nC nB (va_up (va_up (va_up F 10 E) 5 (upd (F 5) t ((F 9) (4 * k)))) 8 (upd (F 8) k (nI g))) sp 0 ck) hx hb hK hP hD hS 9 8 rfl rfl (by omega) (by decide) rfl dX1_receive_84 (fun H locs hP hD hS => ?_)
            refine lv_iconst (v := nI 0) hx hb dX1_receive_85 (by decide) ?_
            refine lv_istore_n (lv' := [(3, .int (nI 0)), (2, .int (nI t)), (0, .ref h), (1, .int (nI k))]) hx hb dX1_receive_86 rfl hl (by decide) rfl (fun ls0 hl => ?_)
            have lp87 : ∀ (n87 : Nat) (i : Nat) (V : Nat → Int32), (i ≤ g) → (g + 1 ≤ i + n87) → (ms_sh F k i V) → ∀ (H : Heap) (locs : List Loc) (ls0 : Array Slot), va_P D vwCl (mW h a cA nL nC nB (va_up (va_up (va_up (va_up F 10 E) 5 (upd (F 5) t (F 9 (4 * k)))) 8 (upd (F 8) k (nI g))) 9 V) sp 0 ck) H → va_D A (mW h a cA nL nC nB (va_up (va_up (va_up (va_up F 10 E) 5 (upd (F 5) t (F 9 (4 * k)))) 8 (upd (F 8) k (nI g))) 9 V) sp 0 ck) → va_S A s.heap H locs → lv_has ls0 4 [(0, .ref h), (1, .int (nI k)), (2, .int (nI t)), (3, .int (nI i))] → W p l e ({ frames := 3, cells := 0, slots := 0, locals := 69 }) s m args below meth c H locs 0 0 (MQ below (va_Qi (fun (r : Int32) (u : mS) => mp_receive nB F sp ck (nI k) r u) (zz_At D vwCl (mT cA) (fun u : mS => mW h a cA nL nC nB u.1 u.2.1 u.2.2.1 u.2.2.2) A) A) args s 0 0 A) (F0 m 87 ls0 []) := by
              intro n87
              induction n87 with
              | zero =>
                intro i V hi hm hE
                exact absurd True.intro (by omega)
              | succ n87 ih87 =>
                intro i V hi hm hE H locs ls0 hP hD hS hl
                refine lv_iload_n hx hb dX1_receive_87 rfl (lv_at hl 3 rfl) ?_
                refine lv_aload_n hx hb dX1_receive_88 rfl (lv_at hl 0 rfl) ?_
                refine va_get (D := D) (ci := 1) (v := .ref (a 8)) (C := RX1) (T := TX1) (N := 17) hx hb hts hin hown hK hP 0 rfl rfl 14 (by decide) hf38 (fun _ h9 => h9) rfl dX1_receive_89 ?_
                refine lv_iload_n hx hb dX1_receive_92 rfl (lv_at hl 1 rfl) ?_
                refine zz_iald hx hb hK hP 9 8 rfl rfl (by omega) (by decide) dX1_receive_93 ?_
                refine zz_top (y := nI g) (pk_us) ?_
                refine lv_icmp_ge (tgt := 125) hx hb dX1_receive_94 (by decide) (fun c94 => ?_) (fun c94 => ?_)
                · have hi2 : i = g := Nat.le_antisymm hi (zn_ge rfl (by omega) (by omega) c94)
                  rw [hi2] at hE
                  refine lv_aload_n hx hb dX1_receive_125 rfl (lv_at hl 0 rfl) ?_
                  refine lv_iconst (v := 4) hx hb dX1_receive_126 (by decide) ?_
                  refine lv_iload_n hx hb dX1_receive_127 rfl (lv_at hl 1 rfl) ?_
                  refine zz_ci (va_runV (As := [.int 4, .int (nI k)]) (rest := []) ⟨hx, hb, hml, hown, hts⟩ (cM_firstOf l D h a cA nL nC nB H.size hn (va_up (va_up (va_up (va_up F 10 E) 5 (upd (F 5) t (F 9 (4 * k)))) 8 (upd (F 8) k (nI g))) 9 V) sp 0 ck 4 (nI k) hI) (cwV 2 hts gX1_receive_X1_firstOf rfl rfl rfl (by decide +kernel) ⟨(Nat.le_of_ble_eq_true rfl), (Nat.le_of_ble_eq_true rfl)⟩) (zz_pV hP hK hD (va_recv hK hP (ci := 1) (q0 := 0) rfl rfl)) rfl rfl hl.1 rfl (lv_room (Nat.le_of_ble_eq_true rfl)) dX1_receive_128 ⟨(Nat.le_of_ble_eq_true rfl), (Nat.le_of_ble_eq_true rfl)⟩) hD hS hA (fun r u H locs hw hP hD hS => ?_)
                  obtain ⟨E2, n2, hu, hfo2, hre⟩ := hw
                  subst hu
                  subst hre
                  have hfo2 : ms_fo F sp 4 (nI k) E2 n2 := hfo2
                  have hP : va_P D vwCl (mW h a cA nL nC nB (va_up (va_up (va_up (va_up F 10 E2) 5 (upd (F 5) t (F 9 (4 * k)))) 8 (upd (F 8) k (nI g))) 9 V) sp 0 ck) H := hP
                  have hD : va_D A (mW h a cA nL nC nB (va_up (va_up (va_up (va_up F 10 E2) 5 (upd (F 5) t (F 9 (4 * k)))) 8 (upd (F 8) k (nI g))) 9 V) sp 0 ck) := hD
                  refine lv_istore_n (lv' := [(3, .int (pq_enc n2)), (0, .ref h), (1, .int (nI k)), (2, .int (nI t))]) hx hb dX1_receive_131 rfl hl (by decide) rfl (fun ls0 hl => ?_)
                  refine lv_iload_n hx hb dX1_receive_132 rfl (lv_at hl 0 rfl) ?_
                  refine lv_if_lt (tgt := 154) hx hb dX1_receive_133 (by decide) (fun c133 => ?_) (fun c133 => ?_)
                  · have hnon2 : n2 = none := (pq_enc_lt (ms_fo_lt hfo2)).mp c133
                    refine lv_iconst (v := 0) hx hb dX1_receive_154 (by decide) ?_
                    exact zz_ri (va_up (va_up (va_up (va_up F 10 E2) 5 (upd (F 5) t (F 9 (4 * k)))) 8 (upd (F 8) k (nI g))) 9 V, sp, 0, ck) hx hb hr hlocks hP hK hD hS (⟨E, _, hfo, Or.inr (Or.inr ⟨k, t, hk, rfl, ht16, rfl, Or.inr ⟨g, V, E2, _, hg3, hFf, rfl, hE, hfo2, Or.inl ⟨hnon2, rfl⟩⟩⟩)⟩) dX1_receive_155
                  · obtain ⟨j, hj16, hnxj⟩ := pq_enc_ge (ms_fo_lt hfo2) (Int32.not_lt.mp c133)
                    subst hnxj
                    have hl : lv_has ls0 4 [(3, .int (nI j)), (0, .ref h), (1, .int (nI k)), (2, .int (nI t))] := hl
                    refine lv_aload_n hx hb dX1_receive_136 rfl (lv_at hl 1 rfl) ?_
                    refine lv_iload_n hx hb dX1_receive_137 rfl (lv_at hl 2 rfl) ?_
                    refine lv_aload_n hx hb dX1_receive_138 rfl (lv_at hl 1 rfl) ?_
                    refine va_get (D := D) (ci := 1) (v := .ref (a 4)) (C := RX1) (T := TX1) (N := 17) hx hb hts hin hown hK hP 0 rfl rfl 10 (by decide) hf26 (fun _ h9 => h9) rfl dX1_receive_139 ?_
                    refine lv_iload_n hx hb dX1_receive_142 rfl (lv_at hl 0 rfl) ?_
                    refine zz_iald hx hb hK hP 5 4 rfl rfl (hj16) (by decide) dX1_receive_143 ?_
                    refine zz_cv (va_runV (As := [.int (nI k), .int ((F 4) j)]) (rest := []) ⟨hx, hb, hml, hown, hts⟩ (cM_put l D h a cA nL nC nB H.size hn (va_up (va_up (va_up (va_up F 10 E2) 5 (upd (F 5) t (F 9 (4 * k)))) 8 (upd (F 8) k (nI g))) 9 V) sp 0 ck k g ((F 4) j) (by omega) (by omega) (show upd (F 8) k (nI g) k = nI g from pk_us)) (cwV 2 hts gX1_receive_X1_put rfl rfl rfl (by decide +kernel) ⟨(Nat.le_of_ble_eq_true rfl), (Nat.le_of_ble_eq_true rfl)⟩) (zz_pV hP hK hD (va_recv hK hP (ci := 1) (q0 := 0) rfl rfl)) rfl rfl hl.1 rfl (lv_room (Nat.le_of_ble_eq_true rfl)) dX1_receive_144 ⟨(Nat.le_of_ble_eq_true rfl), (Nat.le_of_ble_eq_true rfl)⟩) hD hS hA (fun u H locs hw hP hD hS => ?_)
                    subst hw
                    have hP : va_P D vwCl (mW h a cA nL nC nB (va_up (va_up (va_up (va_up F 10 E2) 5 (upd (F 5) t (F 9 (4 * k)))) 8 (upd (upd (F 8) k (nI g)) k (nI (g + 1)))) 9 (upd V (4 * k + g) ((F 4) j))) sp 0 ck) H := hP
                    have hD : va_D A (mW h a cA nL nC nB (va_up (va_up (va_up (va_up F 10 E2) 5 (upd (F 5) t (F 9 (4 * k)))) 8 (upd (upd (F 8) k (nI g)) k (nI (g + 1)))) 9 (upd V (4 * k + g) ((F 4) j))) sp 0 ck) := hD
                    refine lv_aload_n hx hb dX1_receive_147 rfl (lv_at hl 1 rfl) ?_
                    refine lv_iload_n hx hb dX1_receive_148 rfl (lv_at hl 0 rfl) ?_
                    refine lv_iconst (v := 1) hx hb dX1_receive_149 (by decide) ?_
                    refine lv_iconst (v := 0) hx hb dX1_receive_150 (by decide) ?_
                    refine zz_cv (va_runV (As := [.int (nI j), .int 1, .int 0]) (rest := []) ⟨hx, hb, hml, hown, hts⟩ (cM_enter l D h a cA nL nC nB H.size hn (va_up (va_up (va_up (va_up F 10 E2) 5 (upd (F 5) t (F 9 (4 * k)))) 8 (upd (upd (F 8) k (nI g)) k (nI (g + 1)))) 9 (upd V (4 * k + g) ((F 4) j))) sp 0 ck j 1 0 hj16) (cwV 3 hts gX1_receive_X1_enter rfl rfl rfl (by decide +kernel) ⟨(Nat.le_of_ble_eq_true rfl), (Nat.le_of_ble_eq_true rfl)⟩) (zz_pV hP hK hD (va_recv hK hP (ci := 1) (q0 := 0) rfl rfl)) rfl rfl hl.1 rfl (lv_room (Nat.le_of_ble_eq_true rfl)) dX1_receive_151 ⟨(Nat.le_of_ble_eq_true rfl), (Nat.le_of_ble_eq_true rfl)⟩) hD hS hA (fun u H locs hw hP hD hS => ?_)
                    subst hw
                    have hP : va_P D vwCl (mW h a cA nL nC nB (va_up (va_up (va_up (va_up (va_up (va_up F 10 E2) 5 (upd (F 5) t (F 9 (4 * k)))) 8 (upd (upd (F 8) k (nI g)) k (nI (g + 1)))) 9 (upd V (4 * k + g) ((F 4) j))) 0 (upd (F 0) j 1)) 2 (upd (F 2) j 0)) (vp_updL sp j (ck + 1)) 0 (ck + 1)) H := hP
                    have hD : va_D A (mW h a cA nL nC nB (va_up (va_up (va_up (va_up (va_up (va_up F 10 E2) 5 (upd (F 5) t (F 9 (4 * k)))) 8 (upd (upd (F 8) k (nI g)) k (nI (g + 1)))) 9 (upd V (4 * k + g) ((F 4) j))) 0 (upd (F 0) j 1)) 2 (upd (F 2) j 0)) (vp_updL sp j (ck + 1)) 0 (ck + 1)) := hD
                    refine lv_iconst (v := 0) hx hb dX1_receive_154 (by decide) ?_
                    exact zz_ri (va_up (va_up (va_up (va_up (va_up (va_up F 10 E2) 5 (upd (F 5) t (F 9 (4 * k)))) 8 (upd (upd (F 8) k (nI g)) k (nI (g + 1)))) 9 (upd V (4 * k + g) ((F 4) j))) 0 (upd (F 0) j 1)) 2 (upd (F 2) j 0), vp_updL sp j (ck + 1), 0, ck + 1) hx hb hr hlocks hP hK hD hS (⟨E, _, hfo, Or.inr (Or.inr ⟨k, t, hk, rfl, ht16, rfl, Or.inr ⟨g, V, E2, _, hg3, hFf, rfl, hE, hfo2, Or.inr ⟨j, hj16, rfl, rfl⟩⟩⟩)⟩) dX1_receive_155
                · have hig : i < g := zn_lt rfl (by omega) (by omega) c94
                  refine lv_aload_n hx hb dX1_receive_97 rfl (lv_at hl 0 rfl) ?_
                  refine va_get (D := D) (ci := 1) (v := .ref (a 9)) (C := RX1) (T := TX1) (N := 17) hx hb hts hin hown hK hP 0 rfl rfl 15 (by decide) hf41 (fun _ h9 => h9) rfl dX1_receive_98 ?_
                  refine lv_iconst (v := 4) hx hb dX1_receive_101 (by decide) ?_
                  refine lv_iload_n hx hb dX1_receive_102 rfl (lv_at hl 1 rfl) ?_
                  refine lv_imul hx hb dX1_receive_103 ?_
                  refine zz_top (y := nI (4 * k)) (by rw [show (4 : Int32) = nI 4 from rfl, pk_mul]) ?_
                  refine lv_iload_n hx hb dX1_receive_104 rfl (lv_at hl 3 rfl) ?_
                  refine lv_iadd hx hb dX1_receive_105 ?_
                  refine zz_top (y := nI (4 * k + i)) (nI_add _ _) ?_
                  refine lv_aload_n hx hb dX1_receive_106 rfl (lv_at hl 0 rfl) ?_
                  refine va_get (D := D) (ci := 1) (v := .ref (a 9)) (C := RX1) (T := TX1) (N := 17) hx hb hts hin hown hK hP 0 rfl rfl 15 (by decide) hf41 (fun _ h9 => h9) rfl dX1_receive_107 ?_
                  refine lv_iconst (v := 4) hx hb dX1_receive_110 (by decide) ?_
                  refine lv_iload_n hx hb dX1_receive_111 rfl (lv_at hl 1 rfl) ?_
                  refine lv_imul hx hb dX1_receive_112 ?_
                  refine zz_top (y := nI (4 * k)) (by rw [show (4 : Int32) = nI 4 from rfl, pk_mul]) ?_
                  refine lv_iload_n hx hb dX1_receive_113 rfl (lv_at hl 3 rfl) ?_
                  refine lv_iadd hx hb dX1_receive_114 ?_
                  refine zz_top (y := nI (4 * k + i)) (nI_add _ _) ?_
                  refine lv_iconst (v := 1) hx hb dX1_receive_115 (by decide) ?_
                  refine lv_iadd hx hb dX1_receive_116 ?_
                  refine zz_top (y := nI (4 * k + i + 1)) (nI_1 _) ?_
                  refine zz_iald hx hb hK hP 10 9 rfl rfl (by omega) (by decide) dX1_receive_117 ?_
                  refine zz_iast (ws' := mW h a cA nL nC nB (va_up (va_up (va_up (va_up F 10 E) 5 (upd (F 5) t (F 9 (4 * k)))) 8 (upd (F 8) k (nI g))) 9 (upd V (4 * k + i) (V (4 * k + i + 1)))) sp 0 ck) hx hb hK hP hD hS 10 9 rfl rfl (by omega) (by decide) rfl dX1_receive_118 (fun H locs hP hD hS => ?_)
                  refine lv_iinc (v := nI (i + 1)) (lv' := [(3, .int (nI (i + 1))), (0, .ref h), (1, .int (nI k)), (2, .int (nI t))]) hx hb dX1_receive_119 hl (k := 3) rfl (nI_1 _) (by decide) rfl (fun ls0 hl => ?_)
                  refine lv_goto (tgt := 87) hx hb dX1_receive_122 (by decide) ?_
                  exact ih87 (i + 1) _ (by omega) (by omega) (ms_sh_1 hE) H locs ls0 hP hD hS (lv_sub hl [1, 2, 3, 0] rfl)
            exact lp87 (g + 1) 0 (F 9) (by omega) (by omega) ⟨fun j hj => absurd hj (by omega), fun _ _ => rfl⟩ H locs ls0 hP hD hS (lv_sub hl [2, 3, 1, 0] rfl)
          · refine lv_aload_n hx hb dX1_receive_52 rfl (lv_at hl 1 rfl) ?_
            refine lv_iload_n hx hb dX1_receive_53 rfl (lv_at hl 0 rfl) ?_
            refine lv_iconst (v := 5) hx hb dX1_receive_54 (by decide) ?_
            refine lv_iload_n hx hb dX1_receive_55 rfl (lv_at hl 2 rfl) ?_
            refine zz_cv (va_runV (As := [.int (nI t), .int 5, .int (nI k)]) (rest := []) ⟨hx, hb, hml, hown, hts⟩ (cM_enter l D h a cA nL nC nB H.size hn (va_up F 10 E) sp 0 ck t 5 (nI k) ht16) (cwV 3 hts gX1_receive_X1_enter rfl rfl rfl (by decide +kernel) ⟨(Nat.le_of_ble_eq_true rfl), (Nat.le_of_ble_eq_true rfl)⟩) (zz_pV hP hK hD (va_recv hK hP (ci := 1) (q0 := 0) rfl rfl)) rfl rfl hl.1 rfl (lv_room (Nat.le_of_ble_eq_true rfl)) dX1_receive_56 ⟨(Nat.le_of_ble_eq_true rfl), (Nat.le_of_ble_eq_true rfl)⟩) hD hS hA (fun u H locs hw hP hD hS => ?_)
            subst hw
            have hP : va_P D vwCl (mW h a cA nL nC nB (va_up (va_up (va_up F 10 E) 0 (upd (F 0) t 5)) 2 (upd (F 2) t (nI k))) (vp_updL sp t (ck + 1)) 0 (ck + 1)) H := hP
            have hD : va_D A (mW h a cA nL nC nB (va_up (va_up (va_up F 10 E) 0 (upd (F 0) t 5)) 2 (upd (F 2) t (nI k))) (vp_updL sp t (ck + 1)) 0 (ck + 1)) := hD
            refine lv_iconst (v := 1) hx hb dX1_receive_59 (by decide) ?_
            exact zz_ri (va_up (va_up (va_up F 10 E) 0 (upd (F 0) t 5)) 2 (upd (F 2) t (nI k)), vp_updL sp t (ck + 1), 0, ck + 1) hx hb hr hlocks hP hK hD hS (⟨E, _, hfo, Or.inr (Or.inr ⟨k, t, hk, rfl, ht16, rfl, Or.inl ⟨c49, rfl, rfl⟩⟩)⟩) dX1_receive_60
        · exact absurd (by decide) c38
      · have hnonx : nx = none := pq_enc_ng (ms_fo_lt hfo) c23
        refine lv_iconst (v := 2) hx hb dX1_receive_26 (by decide) ?_
        refine lv_goto (tgt := 31) hx hb dX1_receive_27 (by decide) ?_
        refine va_put (D := D) (ci := 1) (v := .int 2) (ty := .int) (C := RX1) (T := TX1) (N := 17) hx hb hts hin tyX1 tyX1_ok nmX1 hown hK hP hD hS 0 rfl rfl 3 (by decide) hf64 (fun _ h9 => h9) rfl (by decide +kernel) rfl rfl (Nat.le_of_ble_eq_true rfl) dX1_receive_31 (fun H locs hP hD hS => ?_)
        have hP : va_P D vwCl (mW h a cA nL nC nB (va_up F 10 E) sp 2 ck) H := hP
        have hD : va_D A (mW h a cA nL nC nB (va_up F 10 E) sp 2 ck) := hD
        refine lv_aload_n hx hb dX1_receive_34 rfl (lv_at hl 1 rfl) ?_
        refine va_get (D := D) (ci := 1) (v := .int 2) (C := RX1) (T := TX1) (N := 17) hx hb hts hin hown hK hP 0 rfl rfl 3 (by decide) hf64 (fun _ h9 => h9) rfl dX1_receive_35 ?_
        refine lv_if_le (tgt := 43) hx hb dX1_receive_38 (by decide) (fun c38 => ?_) (fun c38 => ?_)
        · exact absurd c38 (by decide)
        · refine lv_iconst (v := 0) hx hb dX1_receive_41 (by decide) ?_
          exact zz_ri (va_up F 10 E, sp, 2, ck) hx hb hr hlocks hP hK hD hS (⟨E, nx, hfo, Or.inr (Or.inl ⟨hxj, hnonx, rfl⟩)⟩) dX1_receive_42
    · have hxn : ¬ sp_in nB x := zn_no2 (by omega) c15
      refine lv_iconst (v := 1) hx hb dX1_receive_18 (by decide) ?_
      refine lv_goto (tgt := 31) hx hb dX1_receive_19 (by decide) ?_
      refine va_put (D := D) (ci := 1) (v := .int 1) (ty := .int) (C := RX1) (T := TX1) (N := 17) hx hb hts hin tyX1 tyX1_ok nmX1 hown hK hP hD hS 0 rfl rfl 3 (by decide) hf64 (fun _ h9 => h9) rfl (by decide +kernel) rfl rfl (Nat.le_of_ble_eq_true rfl) dX1_receive_31 (fun H locs hP hD hS => ?_)
      have hP : va_P D vwCl (mW h a cA nL nC nB (va_up F 10 E) sp 1 ck) H := hP
      have hD : va_D A (mW h a cA nL nC nB (va_up F 10 E) sp 1 ck) := hD
      refine lv_aload_n hx hb dX1_receive_34 rfl (lv_at hl 1 rfl) ?_
      refine va_get (D := D) (ci := 1) (v := .int 1) (C := RX1) (T := TX1) (N := 17) hx hb hts hin hown hK hP 0 rfl rfl 3 (by decide) hf64 (fun _ h9 => h9) rfl dX1_receive_35 ?_
      refine lv_if_le (tgt := 43) hx hb dX1_receive_38 (by decide) (fun c38 => ?_) (fun c38 => ?_)
      · exact absurd c38 (by decide)
      · refine lv_iconst (v := 0) hx hb dX1_receive_41 (by decide) ?_
        exact zz_ri (va_up F 10 E, sp, 1, ck) hx hb hr hlocks hP hK hD hS (⟨E, nx, hfo, Or.inl ⟨hxn, rfl⟩⟩) dX1_receive_42
set_option maxHeartbeats 1000000 in
set_option maxRecDepth 100000 in
/-- cM_sleep -/
theorem cM_sleep (l : Launch) (D : va_G) (h : Nat) (a : Nat → Nat) (cA : Nat → ClassId) (nL nC nB sz : Nat) (hn : nL ≤ 8 ∧ nC ≤ 8 ∧ nB ≤ 8) (F : Nat → Nat → Int32) (sp : Nat → Int64) (cd : Int32) (ck : Int64) (x : Int32) (hI : ms_I F) : Met l yX1_sleep wsX1_sleep ({ frames := 3, cells := 0, slots := 0, locals := 69 }) (va_Pc [.ref h, .int x] (zz_Pre D vwCl (mT cA) (mW h a cA nL nC nB F sp cd ck) sz)) (va_Qi (fun (r : Int32) (u : mS) => mp_sleep F sp ck x r u) (zz_At D vwCl (mT cA) (fun u : mS => mW h a cA nL nC nB u.1 u.2.1 u.2.2.1 u.2.2.2) (va_A (mW h a cA nL nC nB F sp cd ck) sz)) (va_A (mW h a cA nL nC nB F sp cd ck) sz)) 0 0 (va_A (mW h a cA nL nC nB F sp cd ck) sz) := by
  obtain ⟨hnL, hnC, hnB⟩ := hn
  have hn : nL ≤ 8 ∧ nC ≤ 8 ∧ nB ≤ 8 := ⟨hnL, hnC, hnB⟩
  refine zz_of (Qc := fun A => va_Qi (fun (r : Int32) (u : mS) => mp_sleep F sp ck x r u) (zz_At D vwCl (mT cA) (fun u : mS => mW h a cA nL nC nB u.1 u.2.1 u.2.2.1 u.2.2.2) A) A) (by decide) rfl (Nat.le_of_ble_eq_true rfl) ?_
  intro p e s m args below meth c A H locs ls0 hx hb hr hml hown hts hlocks hnm hA hP hK hD hS hl
  have hown : s.vm.findClass RX1 = some m.cls := hown
  have hl : lv_has ls0 3 [(0, .ref h), (1, .int x)] := hl
  have hin : ∀ w ∈ u_ws RX1 TX1 17, w ∈ wsX1_sleep := by decide +kernel
  have hf23 := hts (.fieldLink RX1 23 "PriorityCoreModel" "ticks" "[I") (by decide +kernel)
  have hf64 := hts (.fieldLink RX1 64 "PriorityCoreModel" "code" "I") (by decide +kernel)
  refine lv_aload_n hx hb dX1_sleep_0 rfl (lv_at hl 0 rfl) ?_
  refine zz_ci (va_runV (As := []) (rest := []) ⟨hx, hb, hml, hown, hts⟩ (cM_runs l D h a cA nL nC nB H.size hn F sp cd ck hI) (cwV 0 hts gX1_sleep_X1_runs rfl rfl rfl (by decide +kernel) ⟨(Nat.le_of_ble_eq_true rfl), (Nat.le_of_ble_eq_true rfl)⟩) (zz_pV hP hK hD (va_recv hK hP (ci := 1) (q0 := 0) rfl rfl)) rfl rfl hl.1 rfl (lv_room (Nat.le_of_ble_eq_true rfl)) dX1_sleep_1 ⟨(Nat.le_of_ble_eq_true rfl), (Nat.le_of_ble_eq_true rfl)⟩) hD hS hA (fun r u H locs hw hP hD hS => ?_)
  obtain ⟨E, nx, hu, hfo, hre⟩ := hw
  subst hu
  subst hre
  have hP : va_P D vwCl (mW h a cA nL nC nB (va_up F 10 E) sp cd ck) H := hP
  have hD : va_D A (mW h a cA nL nC nB (va_up F 10 E) sp cd ck) := hD
  refine lv_istore_n (lv' := [(2, .int (pq_enc nx)), (0, .ref h), (1, .int x)]) hx hb dX1_sleep_4 rfl hl (by decide) rfl (fun ls0 hl => ?_)
  refine lv_aload_n hx hb dX1_sleep_5 rfl (lv_at hl 1 rfl) ?_
  refine lv_iload_n hx hb dX1_sleep_6 rfl (lv_at hl 0 rfl) ?_
  refine lv_if_ge (tgt := 14) hx hb dX1_sleep_7 (by decide) (fun c7 => ?_) (fun c7 => ?_)
  · obtain ⟨t, ht16, hnxt⟩ := pq_enc_ge (ms_fo_lt hfo) c7
    subst hnxt
    have hl : lv_has ls0 3 [(2, .int (nI t)), (0, .ref h), (1, .int x)] := hl
    refine lv_iload_n hx hb dX1_sleep_14 rfl (lv_at hl 2 rfl) ?_
    refine lv_iconst (v := 1) hx hb dX1_sleep_15 (by decide) ?_
    refine lv_icmp_lt (tgt := 26) hx hb dX1_sleep_16 (by decide) (fun c16 => ?_) (fun c16 => ?_)
    · have hbad : ¬ (1 ≤ x ∧ x ≤ 1000) := fun q => Int32.not_le.mpr c16 q.1
      refine lv_iconst (v := 2) hx hb dX1_sleep_26 (by decide) ?_
      refine lv_goto (tgt := 31) hx hb dX1_sleep_27 (by decide) ?_
      refine va_put (D := D) (ci := 1) (v := .int 2) (ty := .int) (C := RX1) (T := TX1) (N := 17) hx hb hts hin tyX1 tyX1_ok nmX1 hown hK hP hD hS 0 rfl rfl 3 (by decide) hf64 (fun _ h9 => h9) rfl (by decide +kernel) rfl rfl (Nat.le_of_ble_eq_true rfl) dX1_sleep_31 (fun H locs hP hD hS => ?_)
      have hP : va_P D vwCl (mW h a cA nL nC nB (va_up F 10 E) sp 2 ck) H := hP
      have hD : va_D A (mW h a cA nL nC nB (va_up F 10 E) sp 2 ck) := hD
      refine lv_aload_n hx hb dX1_sleep_34 rfl (lv_at hl 1 rfl) ?_
      refine va_get (D := D) (ci := 1) (v := .int 2) (C := RX1) (T := TX1) (N := 17) hx hb hts hin hown hK hP 0 rfl rfl 3 (by decide) hf64 (fun _ h9 => h9) rfl dX1_sleep_35 ?_
      refine lv_if_le (tgt := 43) hx hb dX1_sleep_38 (by decide) (fun c38 => ?_) (fun c38 => ?_)
      · exact absurd c38 (by decide)
      · refine lv_iconst (v := 0) hx hb dX1_sleep_41 (by decide) ?_
        exact zz_ri (va_up F 10 E, sp, 2, ck) hx hb hr hlocks hP hK hD hS (⟨E, _, hfo, Or.inr (Or.inl ⟨⟨t, rfl⟩, hbad, rfl⟩)⟩) dX1_sleep_42
    · refine lv_iload_n hx hb dX1_sleep_19 rfl (lv_at hl 2 rfl) ?_
      refine lv_sipush (v := 1000) hx hb dX1_sleep_20 (by decide) ?_
      refine lv_icmp_le (tgt := 30) hx hb dX1_sleep_23 (by decide) (fun c23 => ?_) (fun c23 => ?_)
      · refine lv_iconst (v := 0) hx hb dX1_sleep_30 (by decide) ?_
        refine va_put (D := D) (ci := 1) (v := .int 0) (ty := .int) (C := RX1) (T := TX1) (N := 17) hx hb hts hin tyX1 tyX1_ok nmX1 hown hK hP hD hS 0 rfl rfl 3 (by decide) hf64 (fun _ h9 => h9) rfl (by decide +kernel) rfl rfl (Nat.le_of_ble_eq_true rfl) dX1_sleep_31 (fun H locs hP hD hS => ?_)
        have hP : va_P D vwCl (mW h a cA nL nC nB (va_up F 10 E) sp 0 ck) H := hP
        have hD : va_D A (mW h a cA nL nC nB (va_up F 10 E) sp 0 ck) := hD
        refine lv_aload_n hx hb dX1_sleep_34 rfl (lv_at hl 1 rfl) ?_
        refine va_get (D := D) (ci := 1) (v := .int 0) (C := RX1) (T := TX1) (N := 17) hx hb hts hin hown hK hP 0 rfl rfl 3 (by decide) hf64 (fun _ h9 => h9) rfl dX1_sleep_35 ?_
        refine lv_if_le (tgt := 43) hx hb dX1_sleep_38 (by decide) (fun c38 => ?_) (fun c38 => ?_)
        · refine lv_aload_n hx hb dX1_sleep_43 rfl (lv_at hl 1 rfl) ?_
          refine va_get (D := D) (ci := 1) (v := .ref (a 3)) (C := RX1) (T := TX1) (N := 17) hx hb hts hin hown hK hP 0 rfl rfl 9 (by decide) hf23 (fun _ h9 => h9) rfl dX1_sleep_44 ?_
          refine lv_iload_n hx hb dX1_sleep_47 rfl (lv_at hl 0 rfl) ?_
          refine lv_iload_n hx hb dX1_sleep_48 rfl (lv_at hl 2 rfl) ?_
          refine zz_iast (ws' := mW h a cA nL nC nB (va_up (va_up F 10 E) 3 (upd (F 3) t x)) sp 0 ck) hx hb hK hP hD hS 4 3 rfl rfl (ht16) (by decide) rfl dX1_sleep_49 (fun H locs hP hD hS => ?_)
          refine lv_aload_n hx hb dX1_sleep_50 rfl (lv_at hl 1 rfl) ?_
          refine lv_iload_n hx hb dX1_sleep_51 rfl (lv_at hl 0 rfl) ?_
          refine lv_bipush (v := 6) hx hb dX1_sleep_52 (by decide) ?_
          refine lv_iconst (v := 0) hx hb dX1_sleep_54 (by decide) ?_
          refine zz_cv (va_runV (As := [.int (nI t), .int 6, .int 0]) (rest := []) ⟨hx, hb, hml, hown, hts⟩ (cM_enter l D h a cA nL nC nB H.size hn (va_up (va_up F 10 E) 3 (upd (F 3) t x)) sp 0 ck t 6 0 ht16) (cwV 3 hts gX1_sleep_X1_enter rfl rfl rfl (by decide +kernel) ⟨(Nat.le_of_ble_eq_true rfl), (Nat.le_of_ble_eq_true rfl)⟩) (zz_pV hP hK hD (va_recv hK hP (ci := 1) (q0 := 0) rfl rfl)) rfl rfl hl.1 rfl (lv_room (Nat.le_of_ble_eq_true rfl)) dX1_sleep_55 ⟨(Nat.le_of_ble_eq_true rfl), (Nat.le_of_ble_eq_true rfl)⟩) hD hS hA (fun u H locs hw hP hD hS => ?_)
          subst hw
          have hP : va_P D vwCl (mW h a cA nL nC nB (va_up (va_up (va_up (va_up F 10 E) 3 (upd (F 3) t x)) 0 (upd (F 0) t 6)) 2 (upd (F 2) t 0)) (vp_updL sp t (ck + 1)) 0 (ck + 1)) H := hP
          have hD : va_D A (mW h a cA nL nC nB (va_up (va_up (va_up (va_up F 10 E) 3 (upd (F 3) t x)) 0 (upd (F 0) t 6)) 2 (upd (F 2) t 0)) (vp_updL sp t (ck + 1)) 0 (ck + 1)) := hD
          refine lv_aload_n hx hb dX1_sleep_58 rfl (lv_at hl 1 rfl) ?_
          refine zz_ci (va_runV (As := []) (rest := []) ⟨hx, hb, hml, hown, hts⟩ (cM_runs l D h a cA nL nC nB H.size hn (va_up (va_up (va_up (va_up F 10 E) 3 (upd (F 3) t x)) 0 (upd (F 0) t 6)) 2 (upd (F 2) t 0)) (vp_updL sp t (ck + 1)) 0 (ck + 1) (ms_I_en hI (by decide) (by decide) (fun _ _ => rfl) rfl rfl rfl rfl)) (cwV 0 hts gX1_sleep_X1_runs rfl rfl rfl (by decide +kernel) ⟨(Nat.le_of_ble_eq_true rfl), (Nat.le_of_ble_eq_true rfl)⟩) (zz_pV hP hK hD (va_recv hK hP (ci := 1) (q0 := 0) rfl rfl)) rfl rfl hl.1 rfl (lv_room (Nat.le_of_ble_eq_true rfl)) dX1_sleep_59 ⟨(Nat.le_of_ble_eq_true rfl), (Nat.le_of_ble_eq_true rfl)⟩) hD hS hA (fun r u H locs hw hP hD hS => ?_)
          obtain ⟨E2, n2, hu, hfo2, hre⟩ := hw
          subst hu
          subst hre
          have hfo2 : ms_fo (ms_en (va_up F 3 (upd (F 3) t x)) t 6 0) (vp_updL sp t (ck + 1)) 1 0 E2 n2 := hfo2
          have hP : va_P D vwCl (mW h a cA nL nC nB (va_up (ms_en (va_up F 3 (upd (F 3) t x)) t 6 0) 10 E2) (vp_updL sp t (ck + 1)) 0 (ck + 1)) H := hP
          have hD : va_D A (mW h a cA nL nC nB (va_up (ms_en (va_up F 3 (upd (F 3) t x)) t 6 0) 10 E2) (vp_updL sp t (ck + 1)) 0 (ck + 1)) := hD
          exact zz_ri (va_up (ms_en (va_up F 3 (upd (F 3) t x)) t 6 0) 10 E2, vp_updL sp t (ck + 1), 0, ck + 1) hx hb hr hlocks hP hK hD hS (⟨E, _, hfo, Or.inr (Or.inr ⟨t, E2, n2, ht16, rfl, Int32.not_lt.mp c16, c23, hfo2, rfl, rfl⟩)⟩) dX1_sleep_62
        · exact absurd (by decide) c38
      · have hbad : ¬ (1 ≤ x ∧ x ≤ 1000) := fun q => c23 q.2
        refine lv_iconst (v := 2) hx hb dX1_sleep_26 (by decide) ?_
        refine lv_goto (tgt := 31) hx hb dX1_sleep_27 (by decide) ?_
        refine va_put (D := D) (ci := 1) (v := .int 2) (ty := .int) (C := RX1) (T := TX1) (N := 17) hx hb hts hin tyX1 tyX1_ok nmX1 hown hK hP hD hS 0 rfl rfl 3 (by decide) hf64 (fun _ h9 => h9) rfl (by decide +kernel) rfl rfl (Nat.le_of_ble_eq_true rfl) dX1_sleep_31 (fun H locs hP hD hS => ?_)
        have hP : va_P D vwCl (mW h a cA nL nC nB (va_up F 10 E) sp 2 ck) H := hP
        have hD : va_D A (mW h a cA nL nC nB (va_up F 10 E) sp 2 ck) := hD
        refine lv_aload_n hx hb dX1_sleep_34 rfl (lv_at hl 1 rfl) ?_
        refine va_get (D := D) (ci := 1) (v := .int 2) (C := RX1) (T := TX1) (N := 17) hx hb hts hin hown hK hP 0 rfl rfl 3 (by decide) hf64 (fun _ h9 => h9) rfl dX1_sleep_35 ?_
        refine lv_if_le (tgt := 43) hx hb dX1_sleep_38 (by decide) (fun c38 => ?_) (fun c38 => ?_)
        · exact absurd c38 (by decide)
        · refine lv_iconst (v := 0) hx hb dX1_sleep_41 (by decide) ?_
          exact zz_ri (va_up F 10 E, sp, 2, ck) hx hb hr hlocks hP hK hD hS (⟨E, _, hfo, Or.inr (Or.inl ⟨⟨t, rfl⟩, hbad, rfl⟩)⟩) dX1_sleep_42
  · have hnonx : nx = none := pq_enc_ng (ms_fo_lt hfo) c7
    refine lv_iconst (v := 1) hx hb dX1_sleep_10 (by decide) ?_
    refine lv_goto (tgt := 31) hx hb dX1_sleep_11 (by decide) ?_
    refine va_put (D := D) (ci := 1) (v := .int 1) (ty := .int) (C := RX1) (T := TX1) (N := 17) hx hb hts hin tyX1 tyX1_ok nmX1 hown hK hP hD hS 0 rfl rfl 3 (by decide) hf64 (fun _ h9 => h9) rfl (by decide +kernel) rfl rfl (Nat.le_of_ble_eq_true rfl) dX1_sleep_31 (fun H locs hP hD hS => ?_)
    have hP : va_P D vwCl (mW h a cA nL nC nB (va_up F 10 E) sp 1 ck) H := hP
    have hD : va_D A (mW h a cA nL nC nB (va_up F 10 E) sp 1 ck) := hD
    refine lv_aload_n hx hb dX1_sleep_34 rfl (lv_at hl 1 rfl) ?_
    refine va_get (D := D) (ci := 1) (v := .int 1) (C := RX1) (T := TX1) (N := 17) hx hb hts hin hown hK hP 0 rfl rfl 3 (by decide) hf64 (fun _ h9 => h9) rfl dX1_sleep_35 ?_
    refine lv_if_le (tgt := 43) hx hb dX1_sleep_38 (by decide) (fun c38 => ?_) (fun c38 => ?_)
    · exact absurd c38 (by decide)
    · refine lv_iconst (v := 0) hx hb dX1_sleep_41 (by decide) ?_
      exact zz_ri (va_up F 10 E, sp, 1, ck) hx hb hr hlocks hP hK hD hS (⟨E, nx, hfo, Or.inl ⟨hnonx, rfl⟩⟩) dX1_sleep_42
set_option maxHeartbeats 1000000 in
set_option maxRecDepth 100000 in
/-- cM_owned -/
theorem cM_owned (l : Launch) (D : va_G) (h : Nat) (a : Nat → Nat) (cA : Nat → ClassId) (nL nC nB sz : Nat) (hn : nL ≤ 8 ∧ nC ≤ 8 ∧ nB ≤ 8) (F : Nat → Nat → Int32) (sp : Nat → Int64) (cd : Int32) (ck : Int64) (x : Int32)  : Met l yX1_owned wsX1_owned ({ frames := 0, cells := 0, slots := 0, locals := 0 }) (va_Pc [.ref h, .int x] (zz_Pre D vwCl (mT cA) (mW h a cA nL nC nB F sp cd ck) sz)) (va_Qi (fun (r : Int32) (u : Unit) => r = nI (pq_cnt (fun k => decide (F 6 k = x)) nL)) (zz_At D vwCl (mT cA) (fun _ : Unit => mW h a cA nL nC nB F sp cd ck) (va_A (mW h a cA nL nC nB F sp cd ck) sz)) (va_A (mW h a cA nL nC nB F sp cd ck) sz)) 0 0 (va_A (mW h a cA nL nC nB F sp cd ck) sz) := by
  obtain ⟨hnL, hnC, hnB⟩ := hn
  have hn : nL ≤ 8 ∧ nC ≤ 8 ∧ nB ≤ 8 := ⟨hnL, hnC, hnB⟩
  refine zz_of (Qc := fun A => va_Qi (fun (r : Int32) (u : Unit) => r = nI (pq_cnt (fun k => decide (F 6 k = x)) nL)) (zz_At D vwCl (mT cA) (fun _ : Unit => mW h a cA nL nC nB F sp cd ck) A) A) (by decide) rfl (Nat.le_of_ble_eq_true rfl) ?_
  intro p e s m args below meth c A H locs ls0 hx hb hr hml hown hts hlocks hnm hA hP hK hD hS hl
  have hown : s.vm.findClass RX1 = some m.cls := hown
  have hl : lv_has ls0 4 [(0, .ref h), (1, .int x)] := hl
  have hin : ∀ w ∈ u_ws RX1 TX1 17, w ∈ wsX1_owned := by decide +kernel
  have hf32 := hts (.fieldLink RX1 32 "PriorityCoreModel" "owners" "[I") (by decide +kernel)
  have hf51 := hts (.fieldLink RX1 51 "PriorityCoreModel" "locks" "I") (by decide +kernel)
  refine lv_iconst (v := nI 0) hx hb dX1_owned_0 (by decide) ?_
  refine lv_istore_n (lv' := [(2, .int (nI 0)), (0, .ref h), (1, .int x)]) hx hb dX1_owned_1 rfl hl (by decide) rfl (fun ls0 hl => ?_)
  refine lv_iconst (v := nI 0) hx hb dX1_owned_2 (by decide) ?_
  refine lv_istore_n (lv' := [(3, .int (nI 0)), (2, .int (nI 0)), (0, .ref h), (1, .int x)]) hx hb dX1_owned_3 rfl hl (by decide) rfl (fun ls0 hl => ?_)
  have lp4 : ∀ (n4 : Nat) (i : Nat), (i ≤ nL) → (nL + 1 ≤ i + n4) → ∀ (H : Heap) (locs : List Loc) (ls0 : Array Slot), va_P D vwCl (mW h a cA nL nC nB F sp cd ck) H → va_D A (mW h a cA nL nC nB F sp cd ck) → va_S A s.heap H locs → lv_has ls0 4 [(0, .ref h), (1, .int x), (2, .int (nI (pq_cnt (fun k => decide (F 6 k = x)) i))), (3, .int (nI i))] → W p l e ({ frames := 0, cells := 0, slots := 0, locals := 0 }) s m args below meth c H locs 0 0 (MQ below (va_Qi (fun (r : Int32) (u : Unit) => r = nI (pq_cnt (fun k => decide (F 6 k = x)) nL)) (zz_At D vwCl (mT cA) (fun _ : Unit => mW h a cA nL nC nB F sp cd ck) A) A) args s 0 0 A) (F0 m 4 ls0 []) := by
    intro n4
    induction n4 with
    | zero =>
      intro i hi hm
      exact absurd True.intro (by omega)
    | succ n4 ih4 =>
      intro i hi hm H locs ls0 hP hD hS hl
      refine lv_iload_n hx hb dX1_owned_4 rfl (lv_at hl 3 rfl) ?_
      refine lv_aload_n hx hb dX1_owned_5 rfl (lv_at hl 0 rfl) ?_
      refine va_get (D := D) (ci := 1) (v := .int (nI nL)) (C := RX1) (T := TX1) (N := 17) hx hb hts hin hown hK hP 0 rfl rfl 0 (by decide) hf51 (fun _ h9 => h9) rfl dX1_owned_6 ?_
      refine lv_icmp_ge (tgt := 36) hx hb dX1_owned_9 (by decide) (fun c9 => ?_) (fun c9 => ?_)
      · have hi2 : i = nL := Nat.le_antisymm hi (zn_ge rfl (by omega) (by omega) c9)
        subst hi2
        refine lv_iload_n hx hb dX1_owned_36 rfl (lv_at hl 2 rfl) ?_
        exact zz_ri () hx hb hr hlocks hP hK hD hS (rfl) dX1_owned_37
      · have hil : i < nL := zn_lt rfl (by omega) (by omega) c9
        refine lv_iload_n hx hb dX1_owned_12 rfl (lv_at hl 2 rfl) ?_
        refine lv_aload_n hx hb dX1_owned_13 rfl (lv_at hl 0 rfl) ?_
        refine va_get (D := D) (ci := 1) (v := .ref (a 6)) (C := RX1) (T := TX1) (N := 17) hx hb hts hin hown hK hP 0 rfl rfl 12 (by decide) hf32 (fun _ h9 => h9) rfl dX1_owned_14 ?_
        refine lv_iload_n hx hb dX1_owned_17 rfl (lv_at hl 3 rfl) ?_
        refine zz_iald hx hb hK hP 7 6 rfl rfl (by omega) (by decide) dX1_owned_18 ?_
        refine lv_iload_n hx hb dX1_owned_19 rfl (lv_at hl 1 rfl) ?_
        refine lv_icmp_ne (tgt := 27) hx hb dX1_owned_20 (by decide) (fun c20 => ?_) (fun c20 => ?_)
        · refine lv_iconst (v := 0) hx hb dX1_owned_27 (by decide) ?_
          refine lv_iadd hx hb dX1_owned_28 ?_
          refine zz_top (y := nI (pq_cnt (fun k => decide (F 6 k = x)) i + 0)) (nI_add _ 0) ?_
          refine lv_istore_n (lv' := [(2, .int (nI (pq_cnt (fun k => decide (F 6 k = x)) i + 0))), (0, .ref h), (1, .int x), (3, .int (nI i))]) hx hb dX1_owned_29 rfl hl (by decide) rfl (fun ls0 hl => ?_)
          refine lv_iinc (v := nI (i + 1)) (lv' := [(3, .int (nI (i + 1))), (2, .int (nI (pq_cnt (fun k => decide (F 6 k = x)) i + 0))), (0, .ref h), (1, .int x)]) hx hb dX1_owned_30 hl (k := 3) rfl (nI_1 _) (by decide) rfl (fun ls0 hl => ?_)
          refine lv_goto (tgt := 4) hx hb dX1_owned_33 (by decide) ?_
          have ep := pq_cnt_f (p := fun k => decide (F 6 k = x)) (decide_eq_false c20)
          exact ih4 (i + 1) (by omega) (by omega) H locs ls0 hP hD hS (by rw [ep]; exact lv_sub hl [2, 3, 1, 0] rfl)
        · refine lv_iconst (v := 1) hx hb dX1_owned_23 (by decide) ?_
          refine lv_goto (tgt := 28) hx hb dX1_owned_24 (by decide) ?_
          refine lv_iadd hx hb dX1_owned_28 ?_
          refine zz_top (y := nI (pq_cnt (fun k => decide (F 6 k = x)) i + 1)) (nI_add _ 1) ?_
          refine lv_istore_n (lv' := [(2, .int (nI (pq_cnt (fun k => decide (F 6 k = x)) i + 1))), (0, .ref h), (1, .int x), (3, .int (nI i))]) hx hb dX1_owned_29 rfl hl (by decide) rfl (fun ls0 hl => ?_)
          refine lv_iinc (v := nI (i + 1)) (lv' := [(3, .int (nI (i + 1))), (2, .int (nI (pq_cnt (fun k => decide (F 6 k = x)) i + 1))), (0, .ref h), (1, .int x)]) hx hb dX1_owned_30 hl (k := 3) rfl (nI_1 _) (by decide) rfl (fun ls0 hl => ?_)
          refine lv_goto (tgt := 4) hx hb dX1_owned_33 (by decide) ?_
          have ep := pq_cnt_t (p := fun k => decide (F 6 k = x)) (decide_eq_true c20)
          exact ih4 (i + 1) (by omega) (by omega) H locs ls0 hP hD hS (by rw [ep]; exact lv_sub hl [2, 3, 1, 0] rfl)
  exact lp4 (nL + 1) 0 (by omega) (by omega) H locs ls0 hP hD hS (lv_sub hl [2, 3, 1, 0] rfl)
