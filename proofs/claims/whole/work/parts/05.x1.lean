theorem xs_bf_1 {F : Nat → Nat → Int32} {i j : Nat} (c : ¬ F 2 i = F 2 j) (h : ¬ F 2 i ≤ F 2 j) : (1 : Int32) = if xs_bf F i j then 1 else 0 := by
  have e : xs_bf F i j = true := by rw [xs_bf, if_neg c]; exact decide_eq_true (Int32.not_le.mp h)
  rw [e]; rfl
theorem xs_bf_2 {F : Nat → Nat → Int32} {i j : Nat} (c : ¬ F 2 i = F 2 j) (h : F 2 i ≤ F 2 j) : (0 : Int32) = if xs_bf F i j then 1 else 0 := by
  have e : xs_bf F i j = false := by rw [xs_bf, if_neg c]; exact decide_eq_false (Int32.not_lt.mpr h)
  rw [e]; rfl
theorem xs_bf_3 {F : Nat → Nat → Int32} {i j : Nat} (c : F 2 i = F 2 j) (h : ¬ F 3 j ≤ F 3 i) : (1 : Int32) = if xs_bf F i j then 1 else 0 := by
  have e : xs_bf F i j = true := by rw [xs_bf, if_pos c]; exact decide_eq_true (Int32.not_le.mp h)
  rw [e]; rfl
theorem xs_bf_4 {F : Nat → Nat → Int32} {i j : Nat} (c : F 2 i = F 2 j) (h : F 3 j ≤ F 3 i) : (0 : Int32) = if xs_bf F i j then 1 else 0 := by
  have e : xs_bf F i j = false := by rw [xs_bf, if_pos c]; exact decide_eq_false (Int32.not_lt.mpr h)
  rw [e]; rfl
set_option maxHeartbeats 1000000 in
set_option maxRecDepth 100000 in
/-- comesBefore -/
theorem cX_comesBefore (l : Launch) (D : va_G) (h : Nat) (a : Nat → Nat) (cA : Nat → ClassId) (nL nC nB sz : Nat) (hn : nL ≤ 8 ∧ nC ≤ 8 ∧ nB ≤ 8) (F : Nat → Nat → Int32) (ls : Int32) (i j : Nat) (hi : i < 16) (hj : j < 16) : Met l yX0_comesBefore wsX0_comesBefore ({ frames := 0, cells := 0, slots := 0, locals := 0 }) (va_Pc [.ref h, .int (nI i), .int (nI j)] (zz_Pre D vwCl (xT cA) (xW h a cA nL nC nB F ls) sz)) (va_Qi (fun (r : Int32) (u : Unit) => r = if xs_bf F i j then 1 else 0) (zz_At D vwCl (xT cA) (fun _ : Unit => xW h a cA nL nC nB F ls) (va_A (xW h a cA nL nC nB F ls) sz)) (va_A (xW h a cA nL nC nB F ls) sz)) 0 0 (va_A (xW h a cA nL nC nB F ls) sz) := by
  obtain ⟨hnL, hnC, hnB⟩ := hn
  have hn : nL ≤ 8 ∧ nC ≤ 8 ∧ nB ≤ 8 := ⟨hnL, hnC, hnB⟩
  refine zz_of (Qc := fun A => va_Qi (fun (r : Int32) (u : Unit) => r = if xs_bf F i j then 1 else 0) (zz_At D vwCl (xT cA) (fun _ : Unit => xW h a cA nL nC nB F ls) A) A) (by decide) rfl (Nat.le_of_ble_eq_true rfl) ?_
  intro p e s m args below meth c A H locs ls0 hx hb hr hml hown hts hlocks hnm hA hP hK hD hS hl
  have hown : s.vm.findClass RX0 = some m.cls := hown
  have hl : lv_has ls0 3 [(0, .ref h), (1, .int (nI i)), (2, .int (nI j))] := hl
  have hin : ∀ w ∈ u_ws RX0 TX0 13, w ∈ wsX0_comesBefore := by decide +kernel
  have hf16 := hts (.fieldLink RX0 16 "PriorityCore" "effectives" "[I") (by decide +kernel)
  have hf19 := hts (.fieldLink RX0 19 "PriorityCore" "stamps" "[I") (by decide +kernel)
  refine lv_aload_n hx hb dX0_comesBefore_0 rfl (lv_at hl 0 rfl) ?_
  refine va_get (D := D) (ci := 0) (v := .ref (a 2)) (C := RX0) (T := TX0) (N := 13) hx hb hts hin hown hK hP 0 rfl rfl 2 (by decide) hf16 (fun _ h9 => h9) rfl dX0_comesBefore_1 ?_
  refine lv_iload_n hx hb dX0_comesBefore_4 rfl (lv_at hl 1 rfl) ?_
  refine zz_iald hx hb hK hP 3 2 rfl rfl (hi) (by decide) dX0_comesBefore_5 ?_
  refine lv_aload_n hx hb dX0_comesBefore_6 rfl (lv_at hl 0 rfl) ?_
  refine va_get (D := D) (ci := 0) (v := .ref (a 2)) (C := RX0) (T := TX0) (N := 13) hx hb hts hin hown hK hP 0 rfl rfl 2 (by decide) hf16 (fun _ h9 => h9) rfl dX0_comesBefore_7 ?_
  refine lv_iload_n hx hb dX0_comesBefore_10 rfl (lv_at hl 2 rfl) ?_
  refine zz_iald hx hb hK hP 3 2 rfl rfl (hj) (by decide) dX0_comesBefore_11 ?_
  refine lv_icmp_eq (tgt := 36) hx hb dX0_comesBefore_12 (by decide) (fun c12 => ?_) (fun c12 => ?_)
  · refine lv_aload_n hx hb dX0_comesBefore_36 rfl (lv_at hl 0 rfl) ?_
    refine va_get (D := D) (ci := 0) (v := .ref (a 3)) (C := RX0) (T := TX0) (N := 13) hx hb hts hin hown hK hP 0 rfl rfl 3 (by decide) hf19 (fun _ h9 => h9) rfl dX0_comesBefore_37 ?_
    refine lv_iload_n hx hb dX0_comesBefore_40 rfl (lv_at hl 1 rfl) ?_
    refine zz_iald hx hb hK hP 4 3 rfl rfl (hi) (by decide) dX0_comesBefore_41 ?_
    refine lv_aload_n hx hb dX0_comesBefore_42 rfl (lv_at hl 0 rfl) ?_
    refine va_get (D := D) (ci := 0) (v := .ref (a 3)) (C := RX0) (T := TX0) (N := 13) hx hb hts hin hown hK hP 0 rfl rfl 3 (by decide) hf19 (fun _ h9 => h9) rfl dX0_comesBefore_43 ?_
    refine lv_iload_n hx hb dX0_comesBefore_46 rfl (lv_at hl 2 rfl) ?_
    refine zz_iald hx hb hK hP 4 3 rfl rfl (hj) (by decide) dX0_comesBefore_47 ?_
    refine lv_icmp_ge (tgt := 55) hx hb dX0_comesBefore_48 (by decide) (fun c48 => ?_) (fun c48 => ?_)
    · refine lv_iconst (v := 0) hx hb dX0_comesBefore_55 (by decide) ?_
      exact zz_rz () hx hb hr hlocks (rfl) hP hK hD hS (xs_bf_4 c12 c48) dX0_comesBefore_56
    · refine lv_iconst (v := 1) hx hb dX0_comesBefore_51 (by decide) ?_
      refine lv_goto (tgt := 56) hx hb dX0_comesBefore_52 (by decide) ?_
      exact zz_rz () hx hb hr hlocks (rfl) hP hK hD hS (xs_bf_3 c12 c48) dX0_comesBefore_56
  · refine lv_aload_n hx hb dX0_comesBefore_15 rfl (lv_at hl 0 rfl) ?_
    refine va_get (D := D) (ci := 0) (v := .ref (a 2)) (C := RX0) (T := TX0) (N := 13) hx hb hts hin hown hK hP 0 rfl rfl 2 (by decide) hf16 (fun _ h9 => h9) rfl dX0_comesBefore_16 ?_
    refine lv_iload_n hx hb dX0_comesBefore_19 rfl (lv_at hl 1 rfl) ?_
    refine zz_iald hx hb hK hP 3 2 rfl rfl (hi) (by decide) dX0_comesBefore_20 ?_
    refine lv_aload_n hx hb dX0_comesBefore_21 rfl (lv_at hl 0 rfl) ?_
    refine va_get (D := D) (ci := 0) (v := .ref (a 2)) (C := RX0) (T := TX0) (N := 13) hx hb hts hin hown hK hP 0 rfl rfl 2 (by decide) hf16 (fun _ h9 => h9) rfl dX0_comesBefore_22 ?_
    refine lv_iload_n hx hb dX0_comesBefore_25 rfl (lv_at hl 2 rfl) ?_
    refine zz_iald hx hb hK hP 3 2 rfl rfl (hj) (by decide) dX0_comesBefore_26 ?_
    refine lv_icmp_le (tgt := 34) hx hb dX0_comesBefore_27 (by decide) (fun c27 => ?_) (fun c27 => ?_)
    · refine lv_iconst (v := 0) hx hb dX0_comesBefore_34 (by decide) ?_
      exact zz_rz () hx hb hr hlocks (rfl) hP hK hD hS (xs_bf_2 c12 c27) dX0_comesBefore_35
    · refine lv_iconst (v := 1) hx hb dX0_comesBefore_30 (by decide) ?_
      refine lv_goto (tgt := 35) hx hb dX0_comesBefore_31 (by decide) ?_
      exact zz_rz () hx hb hr hlocks (rfl) hP hK hD hS (xs_bf_1 c12 c27) dX0_comesBefore_35
theorem xs_pk_no {F : Nat → Nat → Int32} {st tg : Int32} {i : Nat} (h : ¬ (F 0 i = st ∧ F 4 i = tg)) : pq_pick (xs_ok F st tg) (xs_bf F) (i + 1) = pq_pick (xs_ok F st tg) (xs_bf F) i := by
  have e : xs_ok F st tg i = false := decide_eq_false h
  show (match pq_pick (xs_ok F st tg) (xs_bf F) i with | none => if xs_ok F st tg i then some i else none | some b => if xs_ok F st tg i && xs_bf F i b then some i else some b) = _
  cases pq_pick (xs_ok F st tg) (xs_bf F) i <;> simp [e]
theorem xs_pk_0 {F : Nat → Nat → Int32} {st tg : Int32} {i : Nat} (h : F 0 i = st ∧ F 4 i = tg) (hp : pq_pick (xs_ok F st tg) (xs_bf F) i = none) : pq_pick (xs_ok F st tg) (xs_bf F) (i + 1) = some i := by
  have e : xs_ok F st tg i = true := decide_eq_true h
  show (match pq_pick (xs_ok F st tg) (xs_bf F) i with | none => if xs_ok F st tg i then some i else none | some b => if xs_ok F st tg i && xs_bf F i b then some i else some b) = _
  rw [hp]; simp [e]
theorem xs_pk_1 {F : Nat → Nat → Int32} {st tg : Int32} {i b : Nat} (h : F 0 i = st ∧ F 4 i = tg) (hp : pq_pick (xs_ok F st tg) (xs_bf F) i = some b) : pq_pick (xs_ok F st tg) (xs_bf F) (i + 1) = if xs_bf F i b then some i else some b := by
  have e : xs_ok F st tg i = true := decide_eq_true h
  show (match pq_pick (xs_ok F st tg) (xs_bf F) i with | none => if xs_ok F st tg i then some i else none | some b => if xs_ok F st tg i && xs_bf F i b then some i else some b) = _
  rw [hp]; simp [e]
theorem xs_zo {b : Bool} (h : (if b then (1 : Int32) else 0) = 0) : b = false := by cases b <;> simp_all
theorem xs_zn {b : Bool} (h : ¬ (if b then (1 : Int32) else 0) = 0) : b = true := by cases b <;> simp_all
set_option maxHeartbeats 1000000 in
set_option maxRecDepth 100000 in
/-- foremost -/
theorem cX_foremost (l : Launch) (D : va_G) (h : Nat) (a : Nat → Nat) (cA : Nat → ClassId) (nL nC nB sz : Nat) (hn : nL ≤ 8 ∧ nC ≤ 8 ∧ nB ≤ 8) (F : Nat → Nat → Int32) (ls : Int32) (st tg : Int32)  : Met l yX0_foremost wsX0_foremost ({ frames := 1, cells := 0, slots := 0, locals := 22 }) (va_Pc [.ref h, .int st, .int tg] (zz_Pre D vwCl (xT cA) (xW h a cA nL nC nB F ls) sz)) (va_Qi (fun (r : Int32) (u : Unit) => r = pq_enc (xs_fm F st tg)) (zz_At D vwCl (xT cA) (fun _ : Unit => xW h a cA nL nC nB F ls) (va_A (xW h a cA nL nC nB F ls) sz)) (va_A (xW h a cA nL nC nB F ls) sz)) 0 0 (va_A (xW h a cA nL nC nB F ls) sz) := by
  obtain ⟨hnL, hnC, hnB⟩ := hn
  have hn : nL ≤ 8 ∧ nC ≤ 8 ∧ nB ≤ 8 := ⟨hnL, hnC, hnB⟩
  refine zz_of (Qc := fun A => va_Qi (fun (r : Int32) (u : Unit) => r = pq_enc (xs_fm F st tg)) (zz_At D vwCl (xT cA) (fun _ : Unit => xW h a cA nL nC nB F ls) A) A) (by decide) rfl (Nat.le_of_ble_eq_true rfl) ?_
  intro p e s m args below meth c A H locs ls0 hx hb hr hml hown hts hlocks hnm hA hP hK hD hS hl
  have hown : s.vm.findClass RX0 = some m.cls := hown
  have hl : lv_has ls0 5 [(0, .ref h), (1, .int st), (2, .int tg)] := hl
  have hin : ∀ w ∈ u_ws RX0 TX0 13, w ∈ wsX0_foremost := by decide +kernel
  have hf9 := hts (.fieldLink RX0 9 "PriorityCore" "states" "[I") (by decide +kernel)
  have hf22 := hts (.fieldLink RX0 22 "PriorityCore" "targets" "[I") (by decide +kernel)
  refine lv_iconst (v := (-1)) hx hb dX0_foremost_0 (by decide) ?_
  refine lv_istore_n (lv' := [(3, .int (-1)), (0, .ref h), (1, .int st), (2, .int tg)]) hx hb dX0_foremost_1 rfl hl (by decide) rfl (fun ls0 hl => ?_)
  refine lv_iconst (v := nI 0) hx hb dX0_foremost_2 (by decide) ?_
  refine lv_istore (lv' := [(4, .int (nI 0)), (3, .int (-1)), (0, .ref h), (1, .int st), (2, .int tg)]) hx hb dX0_foremost_3 hl (by decide) rfl (fun ls0 hl => ?_)
  have lp5 : ∀ (n5 : Nat) (i : Nat), (i ≤ 16) → (17 ≤ i + n5) → ∀ (H : Heap) (locs : List Loc) (ls0 : Array Slot), va_P D vwCl (xW h a cA nL nC nB F ls) H → va_D A (xW h a cA nL nC nB F ls) → va_S A s.heap H locs → lv_has ls0 5 [(0, .ref h), (1, .int st), (2, .int tg), (3, .int (pq_enc (pq_pick (xs_ok F st tg) (xs_bf F) i))), (4, .int (nI i))] → W p l e ({ frames := 1, cells := 0, slots := 0, locals := 22 }) s m args below meth c H locs 0 0 (MQ below (va_Qi (fun (r : Int32) (u : Unit) => r = pq_enc (xs_fm F st tg)) (zz_At D vwCl (xT cA) (fun _ : Unit => xW h a cA nL nC nB F ls) A) A) args s 0 0 A) (F0 m 5 ls0 []) := by
    intro n5
    induction n5 with
    | zero =>
      intro i hi hm
      exact absurd True.intro (by omega)
    | succ n5 ih5 =>
      intro i hi hm H locs ls0 hP hD hS hl
      refine lv_iload hx hb dX0_foremost_5 (lv_at hl 4 rfl) ?_
      refine lv_bipush (v := 16) hx hb dX0_foremost_7 (by decide) ?_
      refine lv_icmp_ge (tgt := 58) hx hb dX0_foremost_9 (by decide) (fun c9 => ?_) (fun c9 => ?_)
      · have hi2 : i = 16 := Nat.le_antisymm hi (zn_ge rfl (by omega) (by decide) c9)
        refine lv_iload_n hx hb dX0_foremost_58 rfl (lv_at hl 3 rfl) ?_
        exact zz_ri () hx hb hr hlocks hP hK hD hS (by rw [hi2]; rfl) dX0_foremost_59
      · have hi16 : i < 16 := zn_lt rfl (by omega) (by decide) c9
        refine lv_aload_n hx hb dX0_foremost_12 rfl (lv_at hl 0 rfl) ?_
        refine va_get (D := D) (ci := 0) (v := .ref (a 0)) (C := RX0) (T := TX0) (N := 13) hx hb hts hin hown hK hP 0 rfl rfl 0 (by decide) hf9 (fun _ h9 => h9) rfl dX0_foremost_13 ?_
        refine lv_iload hx hb dX0_foremost_16 (lv_at hl 4 rfl) ?_
        refine zz_iald hx hb hK hP 1 0 rfl rfl (hi16) (by decide) dX0_foremost_18 ?_
        refine lv_iload_n hx hb dX0_foremost_19 rfl (lv_at hl 1 rfl) ?_
        refine lv_icmp_ne (tgt := 52) hx hb dX0_foremost_20 (by decide) (fun c20 => ?_) (fun c20 => ?_)
        · refine lv_iinc (v := nI (i + 1)) (lv' := [(4, .int (nI (i + 1))), (0, .ref h), (1, .int st), (2, .int tg), (3, .int (pq_enc (pq_pick (xs_ok F st tg) (xs_bf F) i)))]) hx hb dX0_foremost_52 hl (k := 4) rfl (nI_1 _) (by decide) rfl (fun ls0 hl => ?_)
          refine lv_goto (tgt := 5) hx hb dX0_foremost_55 (by decide) ?_
          have ep := xs_pk_no (F := F) (st := st) (tg := tg) (i := i) (fun q => c20 q.1)
          exact ih5 (i + 1) (by omega) (by omega) H locs ls0 hP hD hS (by rw [ep]; exact lv_sub hl [1, 2, 3, 4, 0] rfl)
        · refine lv_aload_n hx hb dX0_foremost_23 rfl (lv_at hl 0 rfl) ?_
          refine va_get (D := D) (ci := 0) (v := .ref (a 4)) (C := RX0) (T := TX0) (N := 13) hx hb hts hin hown hK hP 0 rfl rfl 4 (by decide) hf22 (fun _ h9 => h9) rfl dX0_foremost_24 ?_
          refine lv_iload hx hb dX0_foremost_27 (lv_at hl 4 rfl) ?_
          refine zz_iald hx hb hK hP 5 4 rfl rfl (hi16) (by decide) dX0_foremost_29 ?_
          refine lv_iload_n hx hb dX0_foremost_30 rfl (lv_at hl 2 rfl) ?_
          refine lv_icmp_ne (tgt := 52) hx hb dX0_foremost_31 (by decide) (fun c31 => ?_) (fun c31 => ?_)
          · refine lv_iinc (v := nI (i + 1)) (lv' := [(4, .int (nI (i + 1))), (0, .ref h), (1, .int st), (2, .int tg), (3, .int (pq_enc (pq_pick (xs_ok F st tg) (xs_bf F) i)))]) hx hb dX0_foremost_52 hl (k := 4) rfl (nI_1 _) (by decide) rfl (fun ls0 hl => ?_)
            refine lv_goto (tgt := 5) hx hb dX0_foremost_55 (by decide) ?_
            have ep := xs_pk_no (F := F) (st := st) (tg := tg) (i := i) (fun q => c31 q.2)
            exact ih5 (i + 1) (by omega) (by omega) H locs ls0 hP hD hS (by rw [ep]; exact lv_sub hl [1, 2, 3, 4, 0] rfl)
          · refine lv_iload_n hx hb dX0_foremost_34 rfl (lv_at hl 3 rfl) ?_
            refine lv_iconst (v := (-1)) hx hb dX0_foremost_35 (by decide) ?_
            refine lv_icmp_eq (tgt := 49) hx hb dX0_foremost_36 (by decide) (fun c36 => ?_) (fun c36 => ?_)
            · have hpk : pq_pick (xs_ok F st tg) (xs_bf F) i = none := (pq_enc_m1 (fun n q => Nat.lt_of_lt_of_le (pq_pick_lt q).1 hi)).mp c36
              refine lv_iload hx hb dX0_foremost_49 (lv_at hl 4 rfl) ?_
              refine lv_istore_n (lv' := [(3, .int (nI i)), (0, .ref h), (1, .int st), (2, .int tg), (4, .int (nI i))]) hx hb dX0_foremost_51 rfl hl (by decide) rfl (fun ls0 hl => ?_)
              refine lv_iinc (v := nI (i + 1)) (lv' := [(4, .int (nI (i + 1))), (3, .int (nI i)), (0, .ref h), (1, .int st), (2, .int tg)]) hx hb dX0_foremost_52 hl (k := 4) rfl (nI_1 _) (by decide) rfl (fun ls0 hl => ?_)
              refine lv_goto (tgt := 5) hx hb dX0_foremost_55 (by decide) ?_
              have ep := xs_pk_0 ⟨c20, c31⟩ hpk
              exact ih5 (i + 1) (by omega) (by omega) H locs ls0 hP hD hS (by rw [ep]; exact lv_sub hl [2, 3, 4, 1, 0] rfl)
            · obtain ⟨b, hpk⟩ : ∃ b, pq_pick (xs_ok F st tg) (xs_bf F) i = some b := by
                cases q : pq_pick (xs_ok F st tg) (xs_bf F) i with
                | none => exact absurd (by rw [q]; rfl) c36
                | some b => exact ⟨b, rfl⟩
              have hb16 : b < 16 := Nat.lt_of_lt_of_le (pq_pick_lt hpk).1 hi
              rw [hpk] at hl
              have hl : lv_has ls0 5 [(0, .ref h), (1, .int st), (2, .int tg), (3, .int (nI b)), (4, .int (nI i))] := hl
              refine lv_aload_n hx hb dX0_foremost_39 rfl (lv_at hl 0 rfl) ?_
              refine lv_iload hx hb dX0_foremost_40 (lv_at hl 4 rfl) ?_
              refine lv_iload_n hx hb dX0_foremost_42 rfl (lv_at hl 3 rfl) ?_
              refine zz_ci (va_runV (As := [.int (nI i), .int (nI b)]) (rest := []) ⟨hx, hb, hml, hown, hts⟩ (cX_comesBefore l D h a cA nL nC nB H.size hn F ls i b hi16 hb16) (cwV 2 hts gX0_foremost_X0_comesBefore rfl rfl rfl (by decide +kernel) ⟨(Nat.le_of_ble_eq_true rfl), (Nat.le_of_ble_eq_true rfl)⟩) (zz_pV hP hK hD (va_recv hK hP (ci := 0) (q0 := 0) rfl rfl)) rfl rfl hl.1 rfl (lv_room (Nat.le_of_ble_eq_true rfl)) dX0_foremost_43 ⟨(Nat.le_of_ble_eq_true rfl), (Nat.le_of_ble_eq_true rfl)⟩) hD hS hA (fun r u H locs hw hP hD hS => ?_)
              subst hw
              have hP : va_P D vwCl (xW h a cA nL nC nB F ls) H := hP
              have hD : va_D A (xW h a cA nL nC nB F ls) := hD
              refine lv_if_eq (tgt := 52) hx hb dX0_foremost_46 (by decide) (fun c46 => ?_) (fun c46 => ?_)
              · refine lv_iinc (v := nI (i + 1)) (lv' := [(4, .int (nI (i + 1))), (0, .ref h), (1, .int st), (2, .int tg), (3, .int (nI b))]) hx hb dX0_foremost_52 hl (k := 4) rfl (nI_1 _) (by decide) rfl (fun ls0 hl => ?_)
                refine lv_goto (tgt := 5) hx hb dX0_foremost_55 (by decide) ?_
                have ep := (xs_pk_1 ⟨c20, c31⟩ hpk).trans (by rw [xs_zo c46])
                exact ih5 (i + 1) (by omega) (by omega) H locs ls0 hP hD hS (by rw [ep]; exact lv_sub hl [1, 2, 3, 4, 0] rfl)
              · refine lv_iload hx hb dX0_foremost_49 (lv_at hl 4 rfl) ?_
                refine lv_istore_n (lv' := [(3, .int (nI i)), (0, .ref h), (1, .int st), (2, .int tg), (4, .int (nI i))]) hx hb dX0_foremost_51 rfl hl (by decide) rfl (fun ls0 hl => ?_)
                refine lv_iinc (v := nI (i + 1)) (lv' := [(4, .int (nI (i + 1))), (3, .int (nI i)), (0, .ref h), (1, .int st), (2, .int tg)]) hx hb dX0_foremost_52 hl (k := 4) rfl (nI_1 _) (by decide) rfl (fun ls0 hl => ?_)
                refine lv_goto (tgt := 5) hx hb dX0_foremost_55 (by decide) ?_
                have ep := (xs_pk_1 ⟨c20, c31⟩ hpk).trans (by rw [xs_zn c46])
                exact ih5 (i + 1) (by omega) (by omega) H locs ls0 hP hD hS (by rw [ep]; exact lv_sub hl [2, 3, 4, 1, 0] rfl)
  exact lp5 17 0 (by omega) (by omega) H locs ls0 hP hD hS (lv_sub hl [2, 3, 4, 1, 0] rfl)
set_option maxHeartbeats 1000000 in
set_option maxRecDepth 100000 in
/-- running -/
theorem cX_running (l : Launch) (D : va_G) (h : Nat) (a : Nat → Nat) (cA : Nat → ClassId) (nL nC nB sz : Nat) (hn : nL ≤ 8 ∧ nC ≤ 8 ∧ nB ≤ 8) (F : Nat → Nat → Int32) (ls : Int32)   : Met l yX0_running wsX0_running ({ frames := 2, cells := 0, slots := 0, locals := 46 }) (va_Pc [.ref h] (zz_Pre D vwCl (xT cA) (xW h a cA nL nC nB F ls) sz)) (va_Qi (fun (r : Int32) (u : Unit) => r = pq_enc (xs_fm F 1 (-1))) (zz_At D vwCl (xT cA) (fun _ : Unit => xW h a cA nL nC nB F ls) (va_A (xW h a cA nL nC nB F ls) sz)) (va_A (xW h a cA nL nC nB F ls) sz)) 0 0 (va_A (xW h a cA nL nC nB F ls) sz) := by
  obtain ⟨hnL, hnC, hnB⟩ := hn
  have hn : nL ≤ 8 ∧ nC ≤ 8 ∧ nB ≤ 8 := ⟨hnL, hnC, hnB⟩
  refine zz_of (Qc := fun A => va_Qi (fun (r : Int32) (u : Unit) => r = pq_enc (xs_fm F 1 (-1))) (zz_At D vwCl (xT cA) (fun _ : Unit => xW h a cA nL nC nB F ls) A) A) (by decide) rfl (Nat.le_of_ble_eq_true rfl) ?_
  intro p e s m args below meth c A H locs ls0 hx hb hr hml hown hts hlocks hnm hA hP hK hD hS hl
  have hown : s.vm.findClass RX0 = some m.cls := hown
  have hl : lv_has ls0 1 [(0, .ref h)] := hl
  refine lv_aload_n hx hb dX0_running_0 rfl (lv_at hl 0 rfl) ?_
  refine lv_iconst (v := 1) hx hb dX0_running_1 (by decide) ?_
  refine lv_iconst (v := (-1)) hx hb dX0_running_2 (by decide) ?_
  refine zz_ci (va_runV (As := [.int 1, .int (-1)]) (rest := []) ⟨hx, hb, hml, hown, hts⟩ (cX_foremost l D h a cA nL nC nB H.size hn F ls 1 (-1)) (cwV 2 hts gX0_running_X0_foremost rfl rfl rfl (by decide +kernel) ⟨(Nat.le_of_ble_eq_true rfl), (Nat.le_of_ble_eq_true rfl)⟩) (zz_pV hP hK hD (va_recv hK hP (ci := 0) (q0 := 0) rfl rfl)) rfl rfl hl.1 rfl (lv_room (Nat.le_of_ble_eq_true rfl)) dX0_running_3 ⟨(Nat.le_of_ble_eq_true rfl), (Nat.le_of_ble_eq_true rfl)⟩) hD hS hA (fun r u H locs hw hP hD hS => ?_)
  subst hw
  have hP : va_P D vwCl (xW h a cA nL nC nB F ls) H := hP
  have hD : va_D A (xW h a cA nL nC nB F ls) := hD
  exact zz_ri () hx hb hr hlocks hP hK hD hS (rfl) dX0_running_6
set_option maxHeartbeats 1000000 in
set_option maxRecDepth 100000 in
/-- enter -/
theorem cX_enter (l : Launch) (D : va_G) (h : Nat) (a : Nat → Nat) (cA : Nat → ClassId) (nL nC nB sz : Nat) (hn : nL ≤ 8 ∧ nC ≤ 8 ∧ nB ≤ 8) (F : Nat → Nat → Int32) (ls : Int32) (t : Nat) (st tg : Int32) (ht : t < 16) : Met l yX0_enter wsX0_enter ({ frames := 0, cells := 0, slots := 0, locals := 0 }) (va_Pc [.ref h, .int (nI t), .int st, .int tg] (zz_Pre D vwCl (xT cA) (xW h a cA nL nC nB F ls) sz)) (va_Qv (fun (u : xS) => u = (xs_en F ls t st tg, ls + 1)) (zz_At D vwCl (xT cA) (fun u : xS => xW h a cA nL nC nB u.1 u.2) (va_A (xW h a cA nL nC nB F ls) sz)) (va_A (xW h a cA nL nC nB F ls) sz)) 0 0 (va_A (xW h a cA nL nC nB F ls) sz) := by
  obtain ⟨hnL, hnC, hnB⟩ := hn
  have hn : nL ≤ 8 ∧ nC ≤ 8 ∧ nB ≤ 8 := ⟨hnL, hnC, hnB⟩
  refine zz_of (Qc := fun A => va_Qv (fun (u : xS) => u = (xs_en F ls t st tg, ls + 1)) (zz_At D vwCl (xT cA) (fun u : xS => xW h a cA nL nC nB u.1 u.2) A) A) (by decide) rfl (Nat.le_of_ble_eq_true rfl) ?_
  intro p e s m args below meth c A H locs ls0 hx hb hr hml hown hts hlocks hnm hA hP hK hD hS hl
  have hown : s.vm.findClass RX0 = some m.cls := hown
  have hl : lv_has ls0 4 [(0, .ref h), (1, .int (nI t)), (2, .int st), (3, .int tg)] := hl
  have hin : ∀ w ∈ u_ws RX0 TX0 13, w ∈ wsX0_enter := by decide +kernel
  have hf9 := hts (.fieldLink RX0 9 "PriorityCore" "states" "[I") (by decide +kernel)
  have hf19 := hts (.fieldLink RX0 19 "PriorityCore" "stamps" "[I") (by decide +kernel)
  have hf22 := hts (.fieldLink RX0 22 "PriorityCore" "targets" "[I") (by decide +kernel)
  have hf143 := hts (.fieldLink RX0 143 "PriorityCore" "lastStamp" "I") (by decide +kernel)
  refine lv_aload_n hx hb dX0_enter_0 rfl (lv_at hl 0 rfl) ?_
  refine va_get (D := D) (ci := 0) (v := .ref (a 0)) (C := RX0) (T := TX0) (N := 13) hx hb hts hin hown hK hP 0 rfl rfl 0 (by decide) hf9 (fun _ h9 => h9) rfl dX0_enter_1 ?_
  refine lv_iload_n hx hb dX0_enter_4 rfl (lv_at hl 1 rfl) ?_
  refine lv_iload_n hx hb dX0_enter_5 rfl (lv_at hl 2 rfl) ?_
  refine zz_iast (ws' := xW h a cA nL nC nB (va_up F 0 (upd (F 0) t st)) ls) hx hb hK hP hD hS 1 0 rfl rfl (ht) (by decide) rfl dX0_enter_6 (fun H locs hP hD hS => ?_)
  refine lv_aload_n hx hb dX0_enter_7 rfl (lv_at hl 0 rfl) ?_
  refine va_get (D := D) (ci := 0) (v := .ref (a 4)) (C := RX0) (T := TX0) (N := 13) hx hb hts hin hown hK hP 0 rfl rfl 4 (by decide) hf22 (fun _ h9 => h9) rfl dX0_enter_8 ?_
  refine lv_iload_n hx hb dX0_enter_11 rfl (lv_at hl 1 rfl) ?_
  refine lv_iload_n hx hb dX0_enter_12 rfl (lv_at hl 3 rfl) ?_
  refine zz_iast (ws' := xW h a cA nL nC nB (va_up (va_up F 0 (upd (F 0) t st)) 4 (upd (F 4) t tg)) ls) hx hb hK hP hD hS 5 4 rfl rfl (ht) (by decide) rfl dX0_enter_13 (fun H locs hP hD hS => ?_)
  refine lv_aload_n hx hb dX0_enter_14 rfl (lv_at hl 0 rfl) ?_
  refine lv_dup hx hb dX0_enter_15 rfl ?_
  refine va_get (D := D) (ci := 0) (v := .int ls) (C := RX0) (T := TX0) (N := 13) hx hb hts hin hown hK hP 0 rfl rfl 12 (by decide) hf143 (fun _ h9 => h9) rfl dX0_enter_16 ?_
  refine lv_iconst (v := 1) hx hb dX0_enter_19 (by decide) ?_
  refine lv_iadd hx hb dX0_enter_20 ?_
  refine va_put (D := D) (ci := 0) (v := .int (ls + 1)) (ty := .int) (C := RX0) (T := TX0) (N := 13) hx hb hts hin tyX0 tyX0_ok nmX0 hown hK hP hD hS 0 rfl rfl 12 (by decide) hf143 (fun _ h9 => h9) rfl (by decide +kernel) rfl rfl (Nat.le_of_ble_eq_true rfl) dX0_enter_21 (fun H locs hP hD hS => ?_)
  have hP : va_P D vwCl (xW h a cA nL nC nB (va_up (va_up F 0 (upd (F 0) t st)) 4 (upd (F 4) t tg)) (ls + 1)) H := hP
  have hD : va_D A (xW h a cA nL nC nB (va_up (va_up F 0 (upd (F 0) t st)) 4 (upd (F 4) t tg)) (ls + 1)) := hD
  refine lv_aload_n hx hb dX0_enter_24 rfl (lv_at hl 0 rfl) ?_
  refine va_get (D := D) (ci := 0) (v := .ref (a 3)) (C := RX0) (T := TX0) (N := 13) hx hb hts hin hown hK hP 0 rfl rfl 3 (by decide) hf19 (fun _ h9 => h9) rfl dX0_enter_25 ?_
  refine lv_iload_n hx hb dX0_enter_28 rfl (lv_at hl 1 rfl) ?_
  refine lv_aload_n hx hb dX0_enter_29 rfl (lv_at hl 0 rfl) ?_
  refine va_get (D := D) (ci := 0) (v := .int (ls + 1)) (C := RX0) (T := TX0) (N := 13) hx hb hts hin hown hK hP 0 rfl rfl 12 (by decide) hf143 (fun _ h9 => h9) rfl dX0_enter_30 ?_
  refine zz_iast (ws' := xW h a cA nL nC nB (va_up (va_up (va_up F 0 (upd (F 0) t st)) 4 (upd (F 4) t tg)) 3 (upd (F 3) t (ls + 1))) (ls + 1)) hx hb hK hP hD hS 4 3 rfl rfl (ht) (by decide) rfl dX0_enter_33 (fun H locs hP hD hS => ?_)
  exact zz_rv (va_up (va_up (va_up F 0 (upd (F 0) t st)) 4 (upd (F 4) t tg)) 3 (upd (F 3) t (ls + 1)), ls + 1) hx hb hr hlocks hP hK hD hS (rfl) dX0_enter_34
set_option maxHeartbeats 1000000 in
set_option maxRecDepth 100000 in
/-- becomeReady -/
theorem cX_becomeReady (l : Launch) (D : va_G) (h : Nat) (a : Nat → Nat) (cA : Nat → ClassId) (nL nC nB sz : Nat) (hn : nL ≤ 8 ∧ nC ≤ 8 ∧ nB ≤ 8) (F : Nat → Nat → Int32) (ls : Int32) (t : Nat) (ht : t < 16) : Met l yX0_becomeReady wsX0_becomeReady ({ frames := 1, cells := 0, slots := 0, locals := 23 }) (va_Pc [.ref h, .int (nI t)] (zz_Pre D vwCl (xT cA) (xW h a cA nL nC nB F ls) sz)) (va_Qv (fun (u : xS) => u = (xs_rd F ls t, ls + 1)) (zz_At D vwCl (xT cA) (fun u : xS => xW h a cA nL nC nB u.1 u.2) (va_A (xW h a cA nL nC nB F ls) sz)) (va_A (xW h a cA nL nC nB F ls) sz)) 0 0 (va_A (xW h a cA nL nC nB F ls) sz) := by
  obtain ⟨hnL, hnC, hnB⟩ := hn
  have hn : nL ≤ 8 ∧ nC ≤ 8 ∧ nB ≤ 8 := ⟨hnL, hnC, hnB⟩
  refine zz_of (Qc := fun A => va_Qv (fun (u : xS) => u = (xs_rd F ls t, ls + 1)) (zz_At D vwCl (xT cA) (fun u : xS => xW h a cA nL nC nB u.1 u.2) A) A) (by decide) rfl (Nat.le_of_ble_eq_true rfl) ?_
  intro p e s m args below meth c A H locs ls0 hx hb hr hml hown hts hlocks hnm hA hP hK hD hS hl
  have hown : s.vm.findClass RX0 = some m.cls := hown
  have hl : lv_has ls0 2 [(0, .ref h), (1, .int (nI t))] := hl
  have hin : ∀ w ∈ u_ws RX0 TX0 13, w ∈ wsX0_becomeReady := by decide +kernel
  have hf25 := hts (.fieldLink RX0 25 "PriorityCore" "ticksLeft" "[I") (by decide +kernel)
  refine lv_aload_n hx hb dX0_becomeReady_0 rfl (lv_at hl 0 rfl) ?_
  refine lv_iload_n hx hb dX0_becomeReady_1 rfl (lv_at hl 1 rfl) ?_
  refine lv_iconst (v := 1) hx hb dX0_becomeReady_2 (by decide) ?_
  refine lv_iconst (v := (-1)) hx hb dX0_becomeReady_3 (by decide) ?_
  refine zz_cv (va_runV (As := [.int (nI t), .int 1, .int (-1)]) (rest := []) ⟨hx, hb, hml, hown, hts⟩ (cX_enter l D h a cA nL nC nB H.size hn F ls t 1 (-1) ht) (cwV 3 hts gX0_becomeReady_X0_enter rfl rfl rfl (by decide +kernel) ⟨(Nat.le_of_ble_eq_true rfl), (Nat.le_of_ble_eq_true rfl)⟩) (zz_pV hP hK hD (va_recv hK hP (ci := 0) (q0 := 0) rfl rfl)) rfl rfl hl.1 rfl (lv_room (Nat.le_of_ble_eq_true rfl)) dX0_becomeReady_4 ⟨(Nat.le_of_ble_eq_true rfl), (Nat.le_of_ble_eq_true rfl)⟩) hD hS hA (fun u H locs hw hP hD hS => ?_)
  subst hw
  have hP : va_P D vwCl (xW h a cA nL nC nB (va_up (va_up (va_up F 0 (upd (F 0) t 1)) 4 (upd (F 4) t (-1))) 3 (upd (F 3) t (ls + 1))) (ls + 1)) H := hP
  have hD : va_D A (xW h a cA nL nC nB (va_up (va_up (va_up F 0 (upd (F 0) t 1)) 4 (upd (F 4) t (-1))) 3 (upd (F 3) t (ls + 1))) (ls + 1)) := hD
  refine lv_aload_n hx hb dX0_becomeReady_7 rfl (lv_at hl 0 rfl) ?_
  refine va_get (D := D) (ci := 0) (v := .ref (a 5)) (C := RX0) (T := TX0) (N := 13) hx hb hts hin hown hK hP 0 rfl rfl 5 (by decide) hf25 (fun _ h9 => h9) rfl dX0_becomeReady_8 ?_
  refine lv_iload_n hx hb dX0_becomeReady_11 rfl (lv_at hl 1 rfl) ?_
  refine lv_iconst (v := 0) hx hb dX0_becomeReady_12 (by decide) ?_
  refine zz_iast (ws' := xW h a cA nL nC nB (va_up (va_up (va_up (va_up F 0 (upd (F 0) t 1)) 4 (upd (F 4) t (-1))) 3 (upd (F 3) t (ls + 1))) 5 (upd (F 5) t 0)) (ls + 1)) hx hb hK hP hD hS 6 5 rfl rfl (ht) (by decide) rfl dX0_becomeReady_13 (fun H locs hP hD hS => ?_)
  exact zz_rv (va_up (va_up (va_up (va_up F 0 (upd (F 0) t 1)) 4 (upd (F 4) t (-1))) 3 (upd (F 3) t (ls + 1))) 5 (upd (F 5) t 0), ls + 1) hx hb hr hlocks hP hK hD hS (rfl) dX0_becomeReady_14
