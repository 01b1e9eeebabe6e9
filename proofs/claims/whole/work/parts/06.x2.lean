theorem pq_cnt_t {p : Nat → Bool} {n : Nat} (h : p n = true) : pq_cnt p (n + 1) = pq_cnt p n + 1 := by show pq_cnt p n + _ = _; rw [h]; rfl
theorem pq_cnt_f {p : Nat → Bool} {n : Nat} (h : p n = false) : pq_cnt p (n + 1) = pq_cnt p n := by show pq_cnt p n + _ = _; rw [h]; rfl
theorem xs_ch_0 {nL : Nat} {F : Nat → Nat → Int32} {k : Nat} (h : xs_ow nL (F 8)) (hk : k < nL) : F 8 k = pq_enc (xs_ch nL F k 0) := by
  have q := (h.dec hk).1
  unfold xs_ch
  cases e : pq_dec (F 8 k) with
  | none => rw [e] at q; exact q.symm
  | some o => rw [e] at q; exact q.symm
set_option maxHeartbeats 1000000 in
set_option maxRecDepth 100000 in
/-- holderAheadOf -/
theorem cX_holderAheadOf (l : Launch) (D : va_G) (h : Nat) (a : Nat → Nat) (cA : Nat → ClassId) (nL nC nB sz : Nat) (hn : nL ≤ 8 ∧ nC ≤ 8 ∧ nB ≤ 8) (F : Nat → Nat → Int32) (ls : Int32) (t : Nat) (ht : t < 16) (hO : xs_ow nL (F 8)) : Met l yX0_holderAheadOf wsX0_holderAheadOf ({ frames := 0, cells := 0, slots := 0, locals := 0 }) (va_Pc [.ref h, .int (nI t)] (zz_Pre D vwCl (xT cA) (xW h a cA nL nC nB F ls) sz)) (va_Qi (fun (r : Int32) (u : Unit) => r = pq_enc (xs_hd nL F t)) (zz_At D vwCl (xT cA) (fun _ : Unit => xW h a cA nL nC nB F ls) (va_A (xW h a cA nL nC nB F ls) sz)) (va_A (xW h a cA nL nC nB F ls) sz)) 0 0 (va_A (xW h a cA nL nC nB F ls) sz) := by
  obtain ⟨hnL, hnC, hnB⟩ := hn
  have hn : nL ≤ 8 ∧ nC ≤ 8 ∧ nB ≤ 8 := ⟨hnL, hnC, hnB⟩
  refine zz_of (Qc := fun A => va_Qi (fun (r : Int32) (u : Unit) => r = pq_enc (xs_hd nL F t)) (zz_At D vwCl (xT cA) (fun _ : Unit => xW h a cA nL nC nB F ls) A) A) (by decide) rfl (Nat.le_of_ble_eq_true rfl) ?_
  intro p e s m args below meth c A H locs ls0 hx hb hr hml hown hts hlocks hnm hA hP hK hD hS hl
  have hown : s.vm.findClass RX0 = some m.cls := hown
  have hl : lv_has ls0 3 [(0, .ref h), (1, .int (nI t))] := hl
  have hin : ∀ w ∈ u_ws RX0 TX0 13, w ∈ wsX0_holderAheadOf := by decide +kernel
  have hf9 := hts (.fieldLink RX0 9 "PriorityCore" "states" "[I") (by decide +kernel)
  have hf22 := hts (.fieldLink RX0 22 "PriorityCore" "targets" "[I") (by decide +kernel)
  have hf38 := hts (.fieldLink RX0 38 "PriorityCore" "owners" "[I") (by decide +kernel)
  refine lv_aload_n hx hb dX0_holderAheadOf_0 rfl (lv_at hl 0 rfl) ?_
  refine va_get (D := D) (ci := 0) (v := .ref (a 0)) (C := RX0) (T := TX0) (N := 13) hx hb hts hin hown hK hP 0 rfl rfl 0 (by decide) hf9 (fun _ h9 => h9) rfl dX0_holderAheadOf_1 ?_
  refine lv_iload_n hx hb dX0_holderAheadOf_4 rfl (lv_at hl 1 rfl) ?_
  refine zz_iald hx hb hK hP 1 0 rfl rfl (ht) (by decide) dX0_holderAheadOf_5 ?_
  refine lv_iconst (v := 2) hx hb dX0_holderAheadOf_6 (by decide) ?_
  refine lv_icmp_eq (tgt := 12) hx hb dX0_holderAheadOf_7 (by decide) (fun c7 => ?_) (fun c7 => ?_)
  · refine lv_aload_n hx hb dX0_holderAheadOf_12 rfl (lv_at hl 0 rfl) ?_
    refine va_get (D := D) (ci := 0) (v := .ref (a 4)) (C := RX0) (T := TX0) (N := 13) hx hb hts hin hown hK hP 0 rfl rfl 4 (by decide) hf22 (fun _ h9 => h9) rfl dX0_holderAheadOf_13 ?_
    refine lv_iload_n hx hb dX0_holderAheadOf_16 rfl (lv_at hl 1 rfl) ?_
    refine zz_iald hx hb hK hP 5 4 rfl rfl (ht) (by decide) dX0_holderAheadOf_17 ?_
    refine lv_istore_n (lv' := [(2, .int ((F 4) t)), (0, .ref h), (1, .int (nI t))]) hx hb dX0_holderAheadOf_18 rfl hl (by decide) rfl (fun ls0 hl => ?_)
    refine lv_iload_n hx hb dX0_holderAheadOf_19 rfl (lv_at hl 0 rfl) ?_
    refine lv_if_lt (tgt := 41) hx hb dX0_holderAheadOf_20 (by decide) (fun c20 => ?_) (fun c20 => ?_)
    · refine lv_iconst (v := (-1)) hx hb dX0_holderAheadOf_41 (by decide) ?_
      exact zz_ri () hx hb hr hlocks hP hK hD hS (by rw [xs_hd, if_neg (fun q => q.2.1 c20)]; rfl) dX0_holderAheadOf_42
    · refine lv_iload_n hx hb dX0_holderAheadOf_23 rfl (lv_at hl 0 rfl) ?_
      refine lv_aload_n hx hb dX0_holderAheadOf_24 rfl (lv_at hl 1 rfl) ?_
      refine va_get (D := D) (ci := 0) (v := .ref (a 8)) (C := RX0) (T := TX0) (N := 13) hx hb hts hin hown hK hP 0 rfl rfl 8 (by decide) hf38 (fun _ h9 => h9) rfl dX0_holderAheadOf_25 ?_
      refine va_alen hx hb hK hP 9 8 rfl rfl (v := nI nL) rfl dX0_holderAheadOf_28 ?_
      refine lv_icmp_ge (tgt := 41) hx hb dX0_holderAheadOf_29 (by decide) (fun c29 => ?_) (fun c29 => ?_)
      · refine lv_iconst (v := (-1)) hx hb dX0_holderAheadOf_41 (by decide) ?_
        exact zz_ri () hx hb hr hlocks hP hK hD hS (by rw [xs_hd, if_neg (fun q => q.2.2 c29)]; rfl) dX0_holderAheadOf_42
      · obtain ⟨j, hj, ej⟩ : ∃ j, j < nL ∧ F 4 t = nI j := by
          rcases pk_ix (F 4 t) (n := nL) (by omega) with q | q | q
          · exact absurd q c20
          · exact absurd q c29
          · exact q
        rw [ej] at hl
        have hl : lv_has ls0 3 [(2, .int (nI j)), (0, .ref h), (1, .int (nI t))] := hl
        refine lv_aload_n hx hb dX0_holderAheadOf_32 rfl (lv_at hl 1 rfl) ?_
        refine va_get (D := D) (ci := 0) (v := .ref (a 8)) (C := RX0) (T := TX0) (N := 13) hx hb hts hin hown hK hP 0 rfl rfl 8 (by decide) hf38 (fun _ h9 => h9) rfl dX0_holderAheadOf_33 ?_
        refine lv_iload_n hx hb dX0_holderAheadOf_36 rfl (lv_at hl 0 rfl) ?_
        refine zz_iald hx hb hK hP 9 8 rfl rfl (hj) (by omega) dX0_holderAheadOf_37 ?_
        refine lv_goto (tgt := 42) hx hb dX0_holderAheadOf_38 (by decide) ?_
        exact zz_ri () hx hb hr hlocks hP hK hD hS (by rw [xs_hd, if_pos ⟨c7, c20, c29⟩, ej, nI_clamp (by omega)]; exact (hO.dec hj).1.symm) dX0_holderAheadOf_42
  · refine lv_iconst (v := (-1)) hx hb dX0_holderAheadOf_10 (by decide) ?_
    exact zz_ri () hx hb hr hlocks hP hK hD hS (by rw [xs_hd, if_neg (fun q => c7 q.1)]; rfl) dX0_holderAheadOf_11
set_option maxHeartbeats 1000000 in
set_option maxRecDepth 100000 in
/-- passOnBase -/
theorem cX_passOnBase (l : Launch) (D : va_G) (h : Nat) (a : Nat → Nat) (cA : Nat → ClassId) (nL nC nB sz : Nat) (hn : nL ≤ 8 ∧ nC ≤ 8 ∧ nB ≤ 8) (F : Nat → Nat → Int32) (ls : Int32) (t : Nat) (ht : t < 16) (hO : xs_ow nL (F 8)) : Met l yX0_passOnBase wsX0_passOnBase ({ frames := 1, cells := 0, slots := 0, locals := 22 }) (va_Pc [.ref h, .int (nI t)] (zz_Pre D vwCl (xT cA) (xW h a cA nL nC nB F ls) sz)) (va_Qv (fun (u : xS) => ∃ E, u = (va_up F 2 E, ls) ∧ xs_po (xs_hd nL F) (F 1 t) (F 2) t 16 E) (zz_At D vwCl (xT cA) (fun u : xS => xW h a cA nL nC nB u.1 u.2) (va_A (xW h a cA nL nC nB F ls) sz)) (va_A (xW h a cA nL nC nB F ls) sz)) 0 0 (va_A (xW h a cA nL nC nB F ls) sz) := by
  obtain ⟨hnL, hnC, hnB⟩ := hn
  have hn : nL ≤ 8 ∧ nC ≤ 8 ∧ nB ≤ 8 := ⟨hnL, hnC, hnB⟩
  refine zz_of (Qc := fun A => va_Qv (fun (u : xS) => ∃ E, u = (va_up F 2 E, ls) ∧ xs_po (xs_hd nL F) (F 1 t) (F 2) t 16 E) (zz_At D vwCl (xT cA) (fun u : xS => xW h a cA nL nC nB u.1 u.2) A) A) (by decide) rfl (Nat.le_of_ble_eq_true rfl) ?_
  intro p e s m args below meth c A H locs ls0 hx hb hr hml hown hts hlocks hnm hA hP hK hD hS hl
  have hown : s.vm.findClass RX0 = some m.cls := hown
  have hl : lv_has ls0 4 [(0, .ref h), (1, .int (nI t))] := hl
  have hin : ∀ w ∈ u_ws RX0 TX0 13, w ∈ wsX0_passOnBase := by decide +kernel
  have hf13 := hts (.fieldLink RX0 13 "PriorityCore" "bases" "[I") (by decide +kernel)
  have hf16 := hts (.fieldLink RX0 16 "PriorityCore" "effectives" "[I") (by decide +kernel)
  refine lv_aload_n hx hb dX0_passOnBase_0 rfl (lv_at hl 0 rfl) ?_
  refine lv_iload_n hx hb dX0_passOnBase_1 rfl (lv_at hl 1 rfl) ?_
  refine zz_ci (va_runV (As := [.int (nI t)]) (rest := []) ⟨hx, hb, hml, hown, hts⟩ (cX_holderAheadOf l D h a cA nL nC nB H.size hn F ls t ht hO) (cwV 1 hts gX0_passOnBase_X0_holderAheadOf rfl rfl rfl (by decide +kernel) ⟨(Nat.le_of_ble_eq_true rfl), (Nat.le_of_ble_eq_true rfl)⟩) (zz_pV hP hK hD (va_recv hK hP (ci := 0) (q0 := 0) rfl rfl)) rfl rfl hl.1 rfl (lv_room (Nat.le_of_ble_eq_true rfl)) dX0_passOnBase_2 ⟨(Nat.le_of_ble_eq_true rfl), (Nat.le_of_ble_eq_true rfl)⟩) hD hS hA (fun r u H locs hw hP hD hS => ?_)
  subst hw
  have hP : va_P D vwCl (xW h a cA nL nC nB F ls) H := hP
  have hD : va_D A (xW h a cA nL nC nB F ls) := hD
  refine lv_istore_n (lv' := [(2, .int (pq_enc (xs_hd nL F t))), (0, .ref h), (1, .int (nI t))]) hx hb dX0_passOnBase_5 rfl hl (by decide) rfl (fun ls0 hl => ?_)
  refine lv_iconst (v := nI 0) hx hb dX0_passOnBase_6 (by decide) ?_
  refine lv_istore_n (lv' := [(3, .int (nI 0)), (2, .int (pq_enc (xs_hd nL F t))), (0, .ref h), (1, .int (nI t))]) hx hb dX0_passOnBase_7 rfl hl (by decide) rfl (fun ls0 hl => ?_)
  have lp8 : ∀ (n8 : Nat) (k : Nat) (E : Nat → Int32), (k ≤ 16) → (17 ≤ k + n8) → (xs_po (xs_hd nL F) (F 1 t) (F 2) t k E) → ∀ (H : Heap) (locs : List Loc) (ls0 : Array Slot), va_P D vwCl (xW h a cA nL nC nB (va_up F 2 E) ls) H → va_D A (xW h a cA nL nC nB (va_up F 2 E) ls) → va_S A s.heap H locs → lv_has ls0 4 [(0, .ref h), (1, .int (nI t)), (2, .int (pq_enc (pq_it (xs_hd nL F) (k + 1) t))), (3, .int (nI k))] → W p l e ({ frames := 1, cells := 0, slots := 0, locals := 22 }) s m args below meth c H locs 0 0 (MQ below (va_Qv (fun (u : xS) => ∃ E, u = (va_up F 2 E, ls) ∧ xs_po (xs_hd nL F) (F 1 t) (F 2) t 16 E) (zz_At D vwCl (xT cA) (fun u : xS => xW h a cA nL nC nB u.1 u.2) A) A) args s 0 0 A) (F0 m 8 ls0 []) := by
    intro n8
    induction n8 with
    | zero =>
      intro k E hk hm hE
      exact absurd True.intro (by omega)
    | succ n8 ih8 =>
      intro k E hk hm hE H locs ls0 hP hD hS hl
      refine lv_iload_n hx hb dX0_passOnBase_8 rfl (lv_at hl 3 rfl) ?_
      refine lv_bipush (v := 16) hx hb dX0_passOnBase_9 (by decide) ?_
      refine lv_icmp_ge (tgt := 52) hx hb dX0_passOnBase_11 (by decide) (fun c11 => ?_) (fun c11 => ?_)
      · exact zz_rv (va_up F 2 E, ls) hx hb hr hlocks hP hK hD hS (⟨E, rfl, by have hk16 : k = 16 := Nat.le_antisymm hk (zn_ge rfl (by omega) (by decide) c11); subst hk16; exact hE⟩) dX0_passOnBase_52
      · have hk16 : k < 16 := zn_lt rfl (by omega) (by decide) c11
        refine lv_iload_n hx hb dX0_passOnBase_14 rfl (lv_at hl 2 rfl) ?_
        refine lv_iconst (v := (-1)) hx hb dX0_passOnBase_15 (by decide) ?_
        refine lv_icmp_eq (tgt := 52) hx hb dX0_passOnBase_16 (by decide) (fun c16 => ?_) (fun c16 => ?_)
        · exact zz_rv (va_up F 2 E, ls) hx hb hr hlocks hP hK hD hS (⟨E, rfl, xs_po_end hE ((pq_enc_m1 (fun n q => pq_it_lt (xs_hd_lt hnL hO) ht q)).mp c16)⟩) dX0_passOnBase_52
        · obtain ⟨b, hpk⟩ : ∃ b, pq_it (xs_hd nL F) (k + 1) t = some b := by
            cases q : pq_it (xs_hd nL F) (k + 1) t with
            | none => exact absurd (by rw [q]; rfl) c16
            | some b => exact ⟨b, rfl⟩
          have hb16 : b < 16 := pq_it_lt (xs_hd_lt hnL hO) ht hpk
          rw [hpk] at hl
          have hl : lv_has ls0 4 [(0, .ref h), (1, .int (nI t)), (2, .int (nI b)), (3, .int (nI k))] := hl
          refine lv_aload_n hx hb dX0_passOnBase_19 rfl (lv_at hl 0 rfl) ?_
          refine va_get (D := D) (ci := 0) (v := .ref (a 2)) (C := RX0) (T := TX0) (N := 13) hx hb hts hin hown hK hP 0 rfl rfl 2 (by decide) hf16 (fun _ h9 => h9) rfl dX0_passOnBase_20 ?_
          refine lv_iload_n hx hb dX0_passOnBase_23 rfl (lv_at hl 2 rfl) ?_
          refine lv_aload_n hx hb dX0_passOnBase_24 rfl (lv_at hl 0 rfl) ?_
          refine va_get (D := D) (ci := 0) (v := .ref (a 2)) (C := RX0) (T := TX0) (N := 13) hx hb hts hin hown hK hP 0 rfl rfl 2 (by decide) hf16 (fun _ h9 => h9) rfl dX0_passOnBase_25 ?_
          refine lv_iload_n hx hb dX0_passOnBase_28 rfl (lv_at hl 2 rfl) ?_
          refine zz_iald hx hb hK hP 3 2 rfl rfl (hb16) (by decide) dX0_passOnBase_29 ?_
          refine lv_aload_n hx hb dX0_passOnBase_30 rfl (lv_at hl 0 rfl) ?_
          refine va_get (D := D) (ci := 0) (v := .ref (a 1)) (C := RX0) (T := TX0) (N := 13) hx hb hts hin hown hK hP 0 rfl rfl 1 (by decide) hf13 (fun _ h9 => h9) rfl dX0_passOnBase_31 ?_
          refine lv_iload_n hx hb dX0_passOnBase_34 rfl (lv_at hl 1 rfl) ?_
          refine zz_iald hx hb hK hP 2 1 rfl rfl (ht) (by decide) dX0_passOnBase_35 ?_
          refine va_mmax hx hb (hml.trans hl.1.symm) hown (hts (.methodLink RX0 152 Lib.Math.max.name) (by decide +kernel)) (hts (.static Lib.Math.max.name) (by decide +kernel)) (hts (.initialized "java/lang/Math") (by decide +kernel)) (hts _ (List.mem_cons_of_mem _ (List.mem_append_left _ (List.mem_of_getElem? (i := 5) rfl)))) (Nat.le_of_ble_eq_true rfl) (Nat.le_of_ble_eq_true rfl) (Nat.zero_le _) (Nat.zero_le _) dX0_passOnBase_36 ?_
          refine zz_iast (ws' := xW h a cA nL nC nB (va_up F 2 (upd E b (if E b < (F 1) t then (F 1) t else E b))) ls) hx hb hK hP hD hS 3 2 rfl rfl (hb16) (by decide) rfl dX0_passOnBase_39 (fun H locs hP hD hS => ?_)
          refine lv_aload_n hx hb dX0_passOnBase_40 rfl (lv_at hl 0 rfl) ?_
          refine lv_iload_n hx hb dX0_passOnBase_41 rfl (lv_at hl 2 rfl) ?_
          refine zz_ci (va_runV (As := [.int (nI b)]) (rest := []) ⟨hx, hb, hml, hown, hts⟩ (cX_holderAheadOf l D h a cA nL nC nB H.size hn (va_up F 2 (upd E b (if E b < (F 1) t then (F 1) t else E b))) ls b hb16 hO) (cwV 1 hts gX0_passOnBase_X0_holderAheadOf rfl rfl rfl (by decide +kernel) ⟨(Nat.le_of_ble_eq_true rfl), (Nat.le_of_ble_eq_true rfl)⟩) (zz_pV hP hK hD (va_recv hK hP (ci := 0) (q0 := 0) rfl rfl)) rfl rfl hl.1 rfl (lv_room (Nat.le_of_ble_eq_true rfl)) dX0_passOnBase_42 ⟨(Nat.le_of_ble_eq_true rfl), (Nat.le_of_ble_eq_true rfl)⟩) hD hS hA (fun r u H locs hw hP hD hS => ?_)
          have hw : r = pq_enc (pq_it (xs_hd nL F) (k + 2) t) := hw.trans (congrArg pq_enc (show xs_hd nL F b = (pq_it (xs_hd nL F) (k + 1) t).bind (xs_hd nL F) by rw [hpk]; rfl))
          subst hw
          have hP : va_P D vwCl (xW h a cA nL nC nB (va_up F 2 (upd E b (if E b < (F 1) t then (F 1) t else E b))) ls) H := hP
          have hD : va_D A (xW h a cA nL nC nB (va_up F 2 (upd E b (if E b < (F 1) t then (F 1) t else E b))) ls) := hD
          refine lv_istore_n (lv' := [(2, .int (pq_enc (pq_it (xs_hd nL F) (k + 2) t))), (0, .ref h), (1, .int (nI t)), (3, .int (nI k))]) hx hb dX0_passOnBase_45 rfl hl (by decide) rfl (fun ls0 hl => ?_)
          refine lv_iinc (v := nI (k + 1)) (lv' := [(3, .int (nI (k + 1))), (2, .int (pq_enc (pq_it (xs_hd nL F) (k + 2) t))), (0, .ref h), (1, .int (nI t))]) hx hb dX0_passOnBase_46 hl (k := 3) rfl (nI_1 _) (by decide) rfl (fun ls0 hl => ?_)
          refine lv_goto (tgt := 8) hx hb dX0_passOnBase_49 (by decide) ?_
          exact ih8 (k + 1) _ (by omega) (by omega) (xs_po_1 hE hpk) H locs ls0 hP hD hS (lv_sub hl [2, 3, 1, 0] rfl)
  exact lp8 17 0 (F 2) (by omega) (by omega) xs_po_0 H locs ls0 hP hD hS (lv_sub hl [2, 3, 1, 0] rfl)
set_option maxHeartbeats 1000000 in
set_option maxRecDepth 100000 in
/-- settlePriorities -/
theorem cX_settlePriorities (l : Launch) (D : va_G) (h : Nat) (a : Nat → Nat) (cA : Nat → ClassId) (nL nC nB sz : Nat) (hn : nL ≤ 8 ∧ nC ≤ 8 ∧ nB ≤ 8) (F : Nat → Nat → Int32) (ls : Int32)  (hO : xs_ow nL (F 8)) : Met l yX0_settlePriorities wsX0_settlePriorities ({ frames := 2, cells := 0, slots := 0, locals := 45 }) (va_Pc [.ref h] (zz_Pre D vwCl (xT cA) (xW h a cA nL nC nB F ls) sz)) (va_Qv (fun (u : xS) => ∃ E, u = (va_up F 2 E, ls) ∧ pq_Eff (xs_hd nL F) (F 1) E) (zz_At D vwCl (xT cA) (fun u : xS => xW h a cA nL nC nB u.1 u.2) (va_A (xW h a cA nL nC nB F ls) sz)) (va_A (xW h a cA nL nC nB F ls) sz)) 0 0 (va_A (xW h a cA nL nC nB F ls) sz) := by
  obtain ⟨hnL, hnC, hnB⟩ := hn
  have hn : nL ≤ 8 ∧ nC ≤ 8 ∧ nB ≤ 8 := ⟨hnL, hnC, hnB⟩
  refine zz_of (Qc := fun A => va_Qv (fun (u : xS) => ∃ E, u = (va_up F 2 E, ls) ∧ pq_Eff (xs_hd nL F) (F 1) E) (zz_At D vwCl (xT cA) (fun u : xS => xW h a cA nL nC nB u.1 u.2) A) A) (by decide) rfl (Nat.le_of_ble_eq_true rfl) ?_
  intro p e s m args below meth c A H locs ls0 hx hb hr hml hown hts hlocks hnm hA hP hK hD hS hl
  have hown : s.vm.findClass RX0 = some m.cls := hown
  have hl : lv_has ls0 2 [(0, .ref h)] := hl
  have hin : ∀ w ∈ u_ws RX0 TX0 13, w ∈ wsX0_settlePriorities := by decide +kernel
  have hf13 := hts (.fieldLink RX0 13 "PriorityCore" "bases" "[I") (by decide +kernel)
  have hf16 := hts (.fieldLink RX0 16 "PriorityCore" "effectives" "[I") (by decide +kernel)
  refine lv_aload_n hx hb dX0_settlePriorities_0 rfl (lv_at hl 0 rfl) ?_
  refine va_get (D := D) (ci := 0) (v := .ref (a 1)) (C := RX0) (T := TX0) (N := 13) hx hb hts hin hown hK hP 0 rfl rfl 1 (by decide) hf13 (fun _ h9 => h9) rfl dX0_settlePriorities_1 ?_
  refine lv_iconst (v := nI 0) hx hb dX0_settlePriorities_4 (by decide) ?_
  refine lv_aload_n hx hb dX0_settlePriorities_5 rfl (lv_at hl 0 rfl) ?_
  refine va_get (D := D) (ci := 0) (v := .ref (a 2)) (C := RX0) (T := TX0) (N := 13) hx hb hts hin hown hK hP 0 rfl rfl 2 (by decide) hf16 (fun _ h9 => h9) rfl dX0_settlePriorities_6 ?_
  refine lv_iconst (v := nI 0) hx hb dX0_settlePriorities_9 (by decide) ?_
  refine lv_bipush (v := nI 16) hx hb dX0_settlePriorities_10 (by decide) ?_
  refine zz_copyi (ws' := xW h a cA nL nC nB (va_up F 2 (va_cpy (F 1) (F 2) 0 0 16)) ls) hx hb (hml.trans hl.1.symm) hown (hts (.methodLink RX0 173 arraycopyName) (by decide +kernel)) (hts (.native arraycopyName) (by decide +kernel)) (hts (.static arraycopyName) (by decide +kernel)) (hts (.initialized "java/lang/System") (by decide +kernel)) hK hP hD hS 2 3 1 2 rfl rfl rfl rfl (by decide) (by decide) (by decide) (by decide) (by decide) rfl (Nat.le_of_ble_eq_true rfl) (Nat.le_of_ble_eq_true rfl) dX0_settlePriorities_12 (fun H locs hP hD hS => ?_)
  refine lv_iconst (v := nI 0) hx hb dX0_settlePriorities_15 (by decide) ?_
  refine lv_istore_n (lv' := [(1, .int (nI 0)), (0, .ref h)]) hx hb dX0_settlePriorities_16 rfl hl (by decide) rfl (fun ls0 hl => ?_)
  have lp17 : ∀ (n17 : Nat) (i : Nat) (E : Nat → Int32), (i ≤ 16) → (17 ≤ i + n17) → (xs_se (xs_hd nL F) (F 1) i E) → ∀ (H : Heap) (locs : List Loc) (ls0 : Array Slot), va_P D vwCl (xW h a cA nL nC nB (va_up F 2 E) ls) H → va_D A (xW h a cA nL nC nB (va_up F 2 E) ls) → va_S A s.heap H locs → lv_has ls0 2 [(0, .ref h), (1, .int (nI i))] → W p l e ({ frames := 2, cells := 0, slots := 0, locals := 45 }) s m args below meth c H locs 0 0 (MQ below (va_Qv (fun (u : xS) => ∃ E, u = (va_up F 2 E, ls) ∧ pq_Eff (xs_hd nL F) (F 1) E) (zz_At D vwCl (xT cA) (fun u : xS => xW h a cA nL nC nB u.1 u.2) A) A) args s 0 0 A) (F0 m 17 ls0 []) := by
    intro n17
    induction n17 with
    | zero =>
      intro i E hi hm hE
      exact absurd True.intro (by omega)
    | succ n17 ih17 =>
      intro i E hi hm hE H locs ls0 hP hD hS hl
      refine lv_iload_n hx hb dX0_settlePriorities_17 rfl (lv_at hl 1 rfl) ?_
      refine lv_bipush (v := 16) hx hb dX0_settlePriorities_18 (by decide) ?_
      refine lv_icmp_ge (tgt := 34) hx hb dX0_settlePriorities_20 (by decide) (fun c20 => ?_) (fun c20 => ?_)
      · have hi2 : i = 16 := Nat.le_antisymm hi (zn_ge rfl (by omega) (by decide) c20)
        subst hi2
        exact zz_rv (va_up F 2 E, ls) hx hb hr hlocks hP hK hD hS (⟨E, rfl, xs_se_end (xs_hd_lt hnL hO) hE⟩) dX0_settlePriorities_34
      · have hi16 : i < 16 := zn_lt rfl (by omega) (by decide) c20
        refine lv_aload_n hx hb dX0_settlePriorities_23 rfl (lv_at hl 0 rfl) ?_
        refine lv_iload_n hx hb dX0_settlePriorities_24 rfl (lv_at hl 1 rfl) ?_
        refine zz_cv (va_runV (As := [.int (nI i)]) (rest := []) ⟨hx, hb, hml, hown, hts⟩ (cX_passOnBase l D h a cA nL nC nB H.size hn (va_up F 2 E) ls i hi16 hO) (cwV 1 hts gX0_settlePriorities_X0_passOnBase rfl rfl rfl (by decide +kernel) ⟨(Nat.le_of_ble_eq_true rfl), (Nat.le_of_ble_eq_true rfl)⟩) (zz_pV hP hK hD (va_recv hK hP (ci := 0) (q0 := 0) rfl rfl)) rfl rfl hl.1 rfl (lv_room (Nat.le_of_ble_eq_true rfl)) dX0_settlePriorities_25 ⟨(Nat.le_of_ble_eq_true rfl), (Nat.le_of_ble_eq_true rfl)⟩) hD hS hA (fun u H locs hw hP hD hS => ?_)
        obtain ⟨E2, hu, hpo⟩ := hw
        subst hu
        have hP : va_P D vwCl (xW h a cA nL nC nB (va_up F 2 E2) ls) H := hP
        have hD : va_D A (xW h a cA nL nC nB (va_up F 2 E2) ls) := hD
        refine lv_iinc (v := nI (i + 1)) (lv' := [(1, .int (nI (i + 1))), (0, .ref h)]) hx hb dX0_settlePriorities_28 hl (k := 1) rfl (nI_1 _) (by decide) rfl (fun ls0 hl => ?_)
        refine lv_goto (tgt := 17) hx hb dX0_settlePriorities_31 (by decide) ?_
        exact ih17 (i + 1) E2 (by omega) (by omega) (xs_se_1 (xs_hd_lt hnL hO) hi16 hE hpo) H locs ls0 hP hD hS (lv_sub hl [1, 0] rfl)
  exact lp17 17 0 _ (by omega) (by omega) xs_se_0 H locs ls0 hP hD hS (lv_sub hl [1, 0] rfl)
set_option maxHeartbeats 1000000 in
set_option maxRecDepth 100000 in
/-- wouldWaitForItself -/
theorem cX_wouldWaitForItself (l : Launch) (D : va_G) (h : Nat) (a : Nat → Nat) (cA : Nat → ClassId) (nL nC nB sz : Nat) (hn : nL ≤ 8 ∧ nC ≤ 8 ∧ nB ≤ 8) (F : Nat → Nat → Int32) (ls : Int32) (t k : Nat) (ht : t < 16) (hk : k < nL) (hO : xs_ow nL (F 8)) : Met l yX0_wouldWaitForItself wsX0_wouldWaitForItself ({ frames := 1, cells := 0, slots := 0, locals := 22 }) (va_Pc [.ref h, .int (nI t), .int (nI k)] (zz_Pre D vwCl (xT cA) (xW h a cA nL nC nB F ls) sz)) (va_Qi (fun (r : Int32) (u : Unit) => (r = 1 ∧ xs_ww nL F t k) ∨ (r = 0 ∧ ¬ xs_ww nL F t k)) (zz_At D vwCl (xT cA) (fun _ : Unit => xW h a cA nL nC nB F ls) (va_A (xW h a cA nL nC nB F ls) sz)) (va_A (xW h a cA nL nC nB F ls) sz)) 0 0 (va_A (xW h a cA nL nC nB F ls) sz) := by
  obtain ⟨hnL, hnC, hnB⟩ := hn
  have hn : nL ≤ 8 ∧ nC ≤ 8 ∧ nB ≤ 8 := ⟨hnL, hnC, hnB⟩
  refine zz_of (Qc := fun A => va_Qi (fun (r : Int32) (u : Unit) => (r = 1 ∧ xs_ww nL F t k) ∨ (r = 0 ∧ ¬ xs_ww nL F t k)) (zz_At D vwCl (xT cA) (fun _ : Unit => xW h a cA nL nC nB F ls) A) A) (by decide) rfl (Nat.le_of_ble_eq_true rfl) ?_
  intro p e s m args below meth c A H locs ls0 hx hb hr hml hown hts hlocks hnm hA hP hK hD hS hl
  have hown : s.vm.findClass RX0 = some m.cls := hown
  have hl : lv_has ls0 5 [(0, .ref h), (1, .int (nI t)), (2, .int (nI k))] := hl
  have hin : ∀ w ∈ u_ws RX0 TX0 13, w ∈ wsX0_wouldWaitForItself := by decide +kernel
  have hf38 := hts (.fieldLink RX0 38 "PriorityCore" "owners" "[I") (by decide +kernel)
  refine lv_aload_n hx hb dX0_wouldWaitForItself_0 rfl (lv_at hl 0 rfl) ?_
  refine va_get (D := D) (ci := 0) (v := .ref (a 8)) (C := RX0) (T := TX0) (N := 13) hx hb hts hin hown hK hP 0 rfl rfl 8 (by decide) hf38 (fun _ h9 => h9) rfl dX0_wouldWaitForItself_1 ?_
  refine lv_iload_n hx hb dX0_wouldWaitForItself_4 rfl (lv_at hl 2 rfl) ?_
  refine zz_iald hx hb hK hP 9 8 rfl rfl (hk) (by omega) dX0_wouldWaitForItself_5 ?_
  refine zz_top (y := pq_enc (xs_ch nL F k 0)) (xs_ch_0 hO hk) ?_
  refine lv_istore_n (lv' := [(3, .int (pq_enc (xs_ch nL F k 0))), (0, .ref h), (1, .int (nI t)), (2, .int (nI k))]) hx hb dX0_wouldWaitForItself_6 rfl hl (by decide) rfl (fun ls0 hl => ?_)
  refine lv_iconst (v := nI 0) hx hb dX0_wouldWaitForItself_7 (by decide) ?_
  refine lv_istore (lv' := [(4, .int (nI 0)), (3, .int (pq_enc (xs_ch nL F k 0))), (0, .ref h), (1, .int (nI t)), (2, .int (nI k))]) hx hb dX0_wouldWaitForItself_8 hl (by decide) rfl (fun ls0 hl => ?_)
  have lp10 : ∀ (n10 : Nat) (i : Nat), (i ≤ 16) → (17 ≤ i + n10) → (∀ j, j < i → ¬ xs_ch nL F k j = some t) → ∀ (H : Heap) (locs : List Loc) (ls0 : Array Slot), va_P D vwCl (xW h a cA nL nC nB F ls) H → va_D A (xW h a cA nL nC nB F ls) → va_S A s.heap H locs → lv_has ls0 5 [(0, .ref h), (1, .int (nI t)), (2, .int (nI k)), (3, .int (pq_enc (xs_ch nL F k i))), (4, .int (nI i))] → W p l e ({ frames := 1, cells := 0, slots := 0, locals := 22 }) s m args below meth c H locs 0 0 (MQ below (va_Qi (fun (r : Int32) (u : Unit) => (r = 1 ∧ xs_ww nL F t k) ∨ (r = 0 ∧ ¬ xs_ww nL F t k)) (zz_At D vwCl (xT cA) (fun _ : Unit => xW h a cA nL nC nB F ls) A) A) args s 0 0 A) (F0 m 10 ls0 []) := by
    intro n10
    induction n10 with
    | zero =>
      intro i hi hm hE
      exact absurd True.intro (by omega)
    | succ n10 ih10 =>
      intro i hi hm hE H locs ls0 hP hD hS hl
      refine lv_iload hx hb dX0_wouldWaitForItself_10 (lv_at hl 4 rfl) ?_
      refine lv_bipush (v := 16) hx hb dX0_wouldWaitForItself_12 (by decide) ?_
      refine lv_icmp_ge (tgt := 41) hx hb dX0_wouldWaitForItself_14 (by decide) (fun c14 => ?_) (fun c14 => ?_)
      · refine lv_iconst (v := 0) hx hb dX0_wouldWaitForItself_41 (by decide) ?_
        exact zz_rz () hx hb hr hlocks (rfl) hP hK hD hS (Or.inr ⟨rfl, fun ⟨j, hj, ej⟩ => (show ¬ xs_ch nL F k j = some t by have hi2 : i = 16 := Nat.le_antisymm hi (zn_ge rfl (by omega) (by decide) c14); subst hi2; exact hE j hj) ej⟩) dX0_wouldWaitForItself_42
      · have hi16 : i < 16 := zn_lt rfl (by omega) (by decide) c14
        refine lv_iload_n hx hb dX0_wouldWaitForItself_17 rfl (lv_at hl 3 rfl) ?_
        refine lv_iconst (v := (-1)) hx hb dX0_wouldWaitForItself_18 (by decide) ?_
        refine lv_icmp_eq (tgt := 41) hx hb dX0_wouldWaitForItself_19 (by decide) (fun c19 => ?_) (fun c19 => ?_)
        · refine lv_iconst (v := 0) hx hb dX0_wouldWaitForItself_41 (by decide) ?_
          exact zz_rz () hx hb hr hlocks (rfl) hP hK hD hS (Or.inr ⟨rfl, fun ⟨j, hj, ej⟩ => (show ¬ xs_ch nL F k j = some t by have hno := (pq_enc_m1 (fun n q => xs_ch_lt hnL hO hk q)).mp c19; rcases Nat.lt_or_ge j i with z | z; exact hE j z; (intro q; rw [xs_ch_none hno j z] at q; cases q)) ej⟩) dX0_wouldWaitForItself_42
        · obtain ⟨b, hpk⟩ : ∃ b, xs_ch nL F k i = some b := by
            cases q : xs_ch nL F k i with
            | none => exact absurd (by rw [q]; rfl) c19
            | some b => exact ⟨b, rfl⟩
          have hb16 : b < 16 := xs_ch_lt hnL hO hk hpk
          rw [hpk] at hl
          have hl : lv_has ls0 5 [(0, .ref h), (1, .int (nI t)), (2, .int (nI k)), (3, .int (nI b)), (4, .int (nI i))] := hl
          refine lv_iload_n hx hb dX0_wouldWaitForItself_22 rfl (lv_at hl 3 rfl) ?_
          refine lv_iload_n hx hb dX0_wouldWaitForItself_23 rfl (lv_at hl 1 rfl) ?_
          refine lv_icmp_ne (tgt := 29) hx hb dX0_wouldWaitForItself_24 (by decide) (fun c24 => ?_) (fun c24 => ?_)
          · have hbt : ¬ b = t := fun q => c24 (by rw [q])
            refine lv_aload_n hx hb dX0_wouldWaitForItself_29 rfl (lv_at hl 0 rfl) ?_
            refine lv_iload_n hx hb dX0_wouldWaitForItself_30 rfl (lv_at hl 3 rfl) ?_
            refine zz_ci (va_runV (As := [.int (nI b)]) (rest := []) ⟨hx, hb, hml, hown, hts⟩ (cX_holderAheadOf l D h a cA nL nC nB H.size hn F ls b hb16 hO) (cwV 1 hts gX0_wouldWaitForItself_X0_holderAheadOf rfl rfl rfl (by decide +kernel) ⟨(Nat.le_of_ble_eq_true rfl), (Nat.le_of_ble_eq_true rfl)⟩) (zz_pV hP hK hD (va_recv hK hP (ci := 0) (q0 := 0) rfl rfl)) rfl rfl hl.1 rfl (lv_room (Nat.le_of_ble_eq_true rfl)) dX0_wouldWaitForItself_31 ⟨(Nat.le_of_ble_eq_true rfl), (Nat.le_of_ble_eq_true rfl)⟩) hD hS hA (fun r u H locs hw hP hD hS => ?_)
            have hw : r = pq_enc (xs_ch nL F k (i + 1)) := hw.trans (congrArg pq_enc (by rw [xs_ch_s, hpk]; rfl))
            subst hw
            have hP : va_P D vwCl (xW h a cA nL nC nB F ls) H := hP
            have hD : va_D A (xW h a cA nL nC nB F ls) := hD
            refine lv_istore_n (lv' := [(3, .int (pq_enc (xs_ch nL F k (i + 1)))), (0, .ref h), (1, .int (nI t)), (2, .int (nI k)), (4, .int (nI i))]) hx hb dX0_wouldWaitForItself_34 rfl hl (by decide) rfl (fun ls0 hl => ?_)
            refine lv_iinc (v := nI (i + 1)) (lv' := [(4, .int (nI (i + 1))), (3, .int (pq_enc (xs_ch nL F k (i + 1)))), (0, .ref h), (1, .int (nI t)), (2, .int (nI k))]) hx hb dX0_wouldWaitForItself_35 hl (k := 4) rfl (nI_1 _) (by decide) rfl (fun ls0 hl => ?_)
            refine lv_goto (tgt := 10) hx hb dX0_wouldWaitForItself_38 (by decide) ?_
            exact ih10 (i + 1) (by omega) (by omega) (fun j hj => by rcases Nat.lt_or_eq_of_le (Nat.le_of_lt_succ hj) with z | z; exact hE j z; (subst z; rw [hpk]; exact fun q => hbt (Option.some.inj q))) H locs ls0 hP hD hS (lv_sub hl [2, 3, 4, 1, 0] rfl)
          · have hbt : b = t := (nI_eq (by omega) (by omega)).mp c24
            refine lv_iconst (v := 1) hx hb dX0_wouldWaitForItself_27 (by decide) ?_
            exact zz_rz () hx hb hr hlocks (rfl) hP hK hD hS (Or.inl ⟨rfl, i, hi16, by rw [hpk, hbt]⟩) dX0_wouldWaitForItself_28
  exact lp10 17 0 (by omega) (by omega) (fun j hj => absurd hj (by omega)) H locs ls0 hP hD hS (lv_sub hl [2, 3, 4, 1, 0] rfl)
set_option maxHeartbeats 1000000 in
set_option maxRecDepth 100000 in
/-- locksOwnedBy -/
theorem cX_locksOwnedBy (l : Launch) (D : va_G) (h : Nat) (a : Nat → Nat) (cA : Nat → ClassId) (nL nC nB sz : Nat) (hn : nL ≤ 8 ∧ nC ≤ 8 ∧ nB ≤ 8) (F : Nat → Nat → Int32) (ls : Int32) (x : Int32)  : Met l yX0_locksOwnedBy wsX0_locksOwnedBy ({ frames := 0, cells := 0, slots := 0, locals := 0 }) (va_Pc [.ref h, .int x] (zz_Pre D vwCl (xT cA) (xW h a cA nL nC nB F ls) sz)) (va_Qi (fun (r : Int32) (u : Unit) => r = nI (pq_cnt (fun k => decide (F 8 k = x)) nL)) (zz_At D vwCl (xT cA) (fun _ : Unit => xW h a cA nL nC nB F ls) (va_A (xW h a cA nL nC nB F ls) sz)) (va_A (xW h a cA nL nC nB F ls) sz)) 0 0 (va_A (xW h a cA nL nC nB F ls) sz) := by
  obtain ⟨hnL, hnC, hnB⟩ := hn
  have hn : nL ≤ 8 ∧ nC ≤ 8 ∧ nB ≤ 8 := ⟨hnL, hnC, hnB⟩
  refine zz_of (Qc := fun A => va_Qi (fun (r : Int32) (u : Unit) => r = nI (pq_cnt (fun k => decide (F 8 k = x)) nL)) (zz_At D vwCl (xT cA) (fun _ : Unit => xW h a cA nL nC nB F ls) A) A) (by decide) rfl (Nat.le_of_ble_eq_true rfl) ?_
  intro p e s m args below meth c A H locs ls0 hx hb hr hml hown hts hlocks hnm hA hP hK hD hS hl
  have hown : s.vm.findClass RX0 = some m.cls := hown
  have hl : lv_has ls0 7 [(0, .ref h), (1, .int x)] := hl
  have hin : ∀ w ∈ u_ws RX0 TX0 13, w ∈ wsX0_locksOwnedBy := by decide +kernel
  have hf38 := hts (.fieldLink RX0 38 "PriorityCore" "owners" "[I") (by decide +kernel)
  refine lv_iconst (v := nI 0) hx hb dX0_locksOwnedBy_0 (by decide) ?_
  refine lv_istore_n (lv' := [(2, .int (nI 0)), (0, .ref h), (1, .int x)]) hx hb dX0_locksOwnedBy_1 rfl hl (by decide) rfl (fun ls0 hl => ?_)
  refine lv_aload_n hx hb dX0_locksOwnedBy_2 rfl (lv_at hl 1 rfl) ?_
  refine va_get (D := D) (ci := 0) (v := .ref (a 8)) (C := RX0) (T := TX0) (N := 13) hx hb hts hin hown hK hP 0 rfl rfl 8 (by decide) hf38 (fun _ h9 => h9) rfl dX0_locksOwnedBy_3 ?_
  refine lv_astore_n (lv' := [(3, .ref (a 8)), (2, .int (nI 0)), (0, .ref h), (1, .int x)]) hx hb dX0_locksOwnedBy_6 rfl hl (by decide) rfl (fun ls0 hl => ?_)
  refine lv_aload_n hx hb dX0_locksOwnedBy_7 rfl (lv_at hl 0 rfl) ?_
  refine va_alen hx hb hK hP 9 8 rfl rfl (v := nI nL) rfl dX0_locksOwnedBy_8 ?_
  refine lv_istore (lv' := [(4, .int (nI nL)), (3, .ref (a 8)), (2, .int (nI 0)), (0, .ref h), (1, .int x)]) hx hb dX0_locksOwnedBy_9 hl (by decide) rfl (fun ls0 hl => ?_)
  refine lv_iconst (v := nI 0) hx hb dX0_locksOwnedBy_11 (by decide) ?_
  refine lv_istore (lv' := [(5, .int (nI 0)), (4, .int (nI nL)), (3, .ref (a 8)), (2, .int (nI 0)), (0, .ref h), (1, .int x)]) hx hb dX0_locksOwnedBy_12 hl (by decide) rfl (fun ls0 hl => ?_)
  have lp14 : ∀ (n14 : Nat) (i : Nat), (i ≤ nL) → (nL + 1 ≤ i + n14) → ∀ (H : Heap) (locs : List Loc) (ls0 : Array Slot), va_P D vwCl (xW h a cA nL nC nB F ls) H → va_D A (xW h a cA nL nC nB F ls) → va_S A s.heap H locs → lv_has ls0 7 [(0, .ref h), (1, .int x), (2, .int (nI (pq_cnt (fun k => decide (F 8 k = x)) i))), (3, .ref (a 8)), (4, .int (nI nL)), (5, .int (nI i))] → W p l e ({ frames := 0, cells := 0, slots := 0, locals := 0 }) s m args below meth c H locs 0 0 (MQ below (va_Qi (fun (r : Int32) (u : Unit) => r = nI (pq_cnt (fun k => decide (F 8 k = x)) nL)) (zz_At D vwCl (xT cA) (fun _ : Unit => xW h a cA nL nC nB F ls) A) A) args s 0 0 A) (F0 m 14 ls0 []) := by
    intro n14
    induction n14 with
    | zero =>
      intro i hi hm
      exact absurd True.intro (by omega)
    | succ n14 ih14 =>
      intro i hi hm H locs ls0 hP hD hS hl
      refine lv_iload hx hb dX0_locksOwnedBy_14 (lv_at hl 5 rfl) ?_
      refine lv_iload hx hb dX0_locksOwnedBy_16 (lv_at hl 4 rfl) ?_
      refine lv_icmp_ge (tgt := 42) hx hb dX0_locksOwnedBy_18 (by decide) (fun c18 => ?_) (fun c18 => ?_)
      · have hi2 : i = nL := Nat.le_antisymm hi (zn_ge rfl (by omega) (by omega) c18)
        subst hi2
        refine lv_iload_n hx hb dX0_locksOwnedBy_42 rfl (lv_at hl 2 rfl) ?_
        exact zz_ri () hx hb hr hlocks hP hK hD hS (rfl) dX0_locksOwnedBy_43
      · have hil : i < nL := zn_lt rfl (by omega) (by omega) c18
        refine lv_aload_n hx hb dX0_locksOwnedBy_21 rfl (lv_at hl 3 rfl) ?_
        refine lv_iload hx hb dX0_locksOwnedBy_22 (lv_at hl 5 rfl) ?_
        refine zz_iald hx hb hK hP 9 8 rfl rfl (hil) (by omega) dX0_locksOwnedBy_24 ?_
        refine lv_istore (lv' := [(6, .int ((F 8) i)), (0, .ref h), (1, .int x), (2, .int (nI (pq_cnt (fun k => decide (F 8 k = x)) i))), (3, .ref (a 8)), (4, .int (nI nL)), (5, .int (nI i))]) hx hb dX0_locksOwnedBy_25 hl (by decide) rfl (fun ls0 hl => ?_)
        refine lv_iload hx hb dX0_locksOwnedBy_27 (lv_at hl 0 rfl) ?_
        refine lv_iload_n hx hb dX0_locksOwnedBy_29 rfl (lv_at hl 2 rfl) ?_
        refine lv_icmp_ne (tgt := 36) hx hb dX0_locksOwnedBy_30 (by decide) (fun c30 => ?_) (fun c30 => ?_)
        · refine lv_iinc (v := nI (i + 1)) (lv' := [(5, .int (nI (i + 1))), (6, .int ((F 8) i)), (0, .ref h), (1, .int x), (2, .int (nI (pq_cnt (fun k => decide (F 8 k = x)) i))), (3, .ref (a 8)), (4, .int (nI nL))]) hx hb dX0_locksOwnedBy_36 hl (k := 6) rfl (nI_1 _) (by decide) rfl (fun ls0 hl => ?_)
          refine lv_goto (tgt := 14) hx hb dX0_locksOwnedBy_39 (by decide) ?_
          have ep := pq_cnt_f (p := fun k => decide (F 8 k = x)) (decide_eq_false c30)
          exact ih14 (i + 1) (by omega) (by omega) H locs ls0 hP hD hS (by rw [ep]; exact lv_sub hl [2, 3, 4, 5, 6, 0] rfl)
        · refine lv_iinc (v := nI (pq_cnt (fun k => decide (F 8 k = x)) i + 1)) (lv' := [(2, .int (nI (pq_cnt (fun k => decide (F 8 k = x)) i + 1))), (6, .int ((F 8) i)), (0, .ref h), (1, .int x), (3, .ref (a 8)), (4, .int (nI nL)), (5, .int (nI i))]) hx hb dX0_locksOwnedBy_33 hl (k := 3) rfl (nI_1 _) (by decide) rfl (fun ls0 hl => ?_)
          refine lv_iinc (v := nI (i + 1)) (lv' := [(5, .int (nI (i + 1))), (2, .int (nI (pq_cnt (fun k => decide (F 8 k = x)) i + 1))), (6, .int ((F 8) i)), (0, .ref h), (1, .int x), (3, .ref (a 8)), (4, .int (nI nL))]) hx hb dX0_locksOwnedBy_36 hl (k := 6) rfl (nI_1 _) (by decide) rfl (fun ls0 hl => ?_)
          refine lv_goto (tgt := 14) hx hb dX0_locksOwnedBy_39 (by decide) ?_
          have ep := pq_cnt_t (p := fun k => decide (F 8 k = x)) (decide_eq_true c30)
          exact ih14 (i + 1) (by omega) (by omega) H locs ls0 hP hD hS (by rw [ep]; exact lv_sub hl [3, 4, 1, 5, 6, 0] rfl)
  exact lp14 (nL + 1) 0 (by omega) (by omega) H locs ls0 hP hD hS (lv_sub hl [4, 5, 3, 2, 1, 0] rfl)
set_option maxHeartbeats 1000000 in
set_option maxRecDepth 100000 in
/-- putBehind -/
theorem cX_putBehind (l : Launch) (D : va_G) (h : Nat) (a : Nat → Nat) (cA : Nat → ClassId) (nL nC nB sz : Nat) (hn : nL ≤ 8 ∧ nC ≤ 8 ∧ nB ≤ 8) (F : Nat → Nat → Int32) (ls : Int32) (b f : Nat) (x : Int32) (hbB : b < nB) (hf : f ≤ 4) (hF : F 10 b = nI f) : Met l yX0_putBehind wsX0_putBehind ({ frames := 0, cells := 0, slots := 0, locals := 0 }) (va_Pc [.ref h, .int (nI b), .int x] (zz_Pre D vwCl (xT cA) (xW h a cA nL nC nB F ls) sz)) (va_Qi (fun (r : Int32) (u : xS) => (f = 4 ∧ r = 0 ∧ u = (F, ls)) ∨ (f < 4 ∧ r = 1 ∧ u = (va_up (va_up F 11 (upd (F 11) (4 * b + f) x)) 10 (upd (F 10) b (nI (f + 1))), ls))) (zz_At D vwCl (xT cA) (fun u : xS => xW h a cA nL nC nB u.1 u.2) (va_A (xW h a cA nL nC nB F ls) sz)) (va_A (xW h a cA nL nC nB F ls) sz)) 0 0 (va_A (xW h a cA nL nC nB F ls) sz) := by
  obtain ⟨hnL, hnC, hnB⟩ := hn
  have hn : nL ≤ 8 ∧ nC ≤ 8 ∧ nB ≤ 8 := ⟨hnL, hnC, hnB⟩
  refine zz_of (Qc := fun A => va_Qi (fun (r : Int32) (u : xS) => (f = 4 ∧ r = 0 ∧ u = (F, ls)) ∨ (f < 4 ∧ r = 1 ∧ u = (va_up (va_up F 11 (upd (F 11) (4 * b + f) x)) 10 (upd (F 10) b (nI (f + 1))), ls))) (zz_At D vwCl (xT cA) (fun u : xS => xW h a cA nL nC nB u.1 u.2) A) A) (by decide) rfl (Nat.le_of_ble_eq_true rfl) ?_
  intro p e s m args below meth c A H locs ls0 hx hb hr hml hown hts hlocks hnm hA hP hK hD hS hl
  have hown : s.vm.findClass RX0 = some m.cls := hown
  have hl : lv_has ls0 4 [(0, .ref h), (1, .int (nI b)), (2, .int x)] := hl
  have hin : ∀ w ∈ u_ws RX0 TX0 13, w ∈ wsX0_putBehind := by decide +kernel
  have hf44 := hts (.fieldLink RX0 44 "PriorityCore" "fills" "[I") (by decide +kernel)
  have hf47 := hts (.fieldLink RX0 47 "PriorityCore" "store" "[I") (by decide +kernel)
  refine lv_aload_n hx hb dX0_putBehind_0 rfl (lv_at hl 0 rfl) ?_
  refine va_get (D := D) (ci := 0) (v := .ref (a 10)) (C := RX0) (T := TX0) (N := 13) hx hb hts hin hown hK hP 0 rfl rfl 10 (by decide) hf44 (fun _ h9 => h9) rfl dX0_putBehind_1 ?_
  refine lv_iload_n hx hb dX0_putBehind_4 rfl (lv_at hl 1 rfl) ?_
  refine zz_iald hx hb hK hP 11 10 rfl rfl (hbB) (by omega) dX0_putBehind_5 ?_
  refine zz_top (y := nI f) (hF) ?_
  refine lv_istore_n (lv' := [(3, .int (nI f)), (0, .ref h), (1, .int (nI b)), (2, .int x)]) hx hb dX0_putBehind_6 rfl hl (by decide) rfl (fun ls0 hl => ?_)
  refine lv_iload_n hx hb dX0_putBehind_7 rfl (lv_at hl 0 rfl) ?_
  refine lv_iconst (v := 4) hx hb dX0_putBehind_8 (by decide) ?_
  refine lv_icmp_lt (tgt := 14) hx hb dX0_putBehind_9 (by decide) (fun c9 => ?_) (fun c9 => ?_)
  · have hf4 : f < 4 := (nI_ltI (by omega) (by decide)).mp (show nI f < nI 4 from c9)
    refine lv_aload_n hx hb dX0_putBehind_14 rfl (lv_at hl 1 rfl) ?_
    refine va_get (D := D) (ci := 0) (v := .ref (a 11)) (C := RX0) (T := TX0) (N := 13) hx hb hts hin hown hK hP 0 rfl rfl 11 (by decide) hf47 (fun _ h9 => h9) rfl dX0_putBehind_15 ?_
    refine lv_iload_n hx hb dX0_putBehind_18 rfl (lv_at hl 2 rfl) ?_
    refine lv_iconst (v := 4) hx hb dX0_putBehind_19 (by decide) ?_
    refine lv_imul hx hb dX0_putBehind_20 ?_
    refine zz_top (y := nI (4 * b)) (by rw [show (4 : Int32) = nI 4 from rfl, pk_mul, Nat.mul_comm]) ?_
    refine lv_iload_n hx hb dX0_putBehind_21 rfl (lv_at hl 0 rfl) ?_
    refine lv_iadd hx hb dX0_putBehind_22 ?_
    refine zz_top (y := nI (4 * b + f)) (nI_add _ _) ?_
    refine lv_iload_n hx hb dX0_putBehind_23 rfl (lv_at hl 3 rfl) ?_
    refine zz_iast (ws' := xW h a cA nL nC nB (va_up F 11 (upd (F 11) (4 * b + f) x)) ls) hx hb hK hP hD hS 12 11 rfl rfl (by omega) (by omega) rfl dX0_putBehind_24 (fun H locs hP hD hS => ?_)
    refine lv_aload_n hx hb dX0_putBehind_25 rfl (lv_at hl 1 rfl) ?_
    refine va_get (D := D) (ci := 0) (v := .ref (a 10)) (C := RX0) (T := TX0) (N := 13) hx hb hts hin hown hK hP 0 rfl rfl 10 (by decide) hf44 (fun _ h9 => h9) rfl dX0_putBehind_26 ?_
    refine lv_iload_n hx hb dX0_putBehind_29 rfl (lv_at hl 2 rfl) ?_
    refine lv_iload_n hx hb dX0_putBehind_30 rfl (lv_at hl 0 rfl) ?_
    refine lv_iconst (v := 1) hx hb dX0_putBehind_31 (by decide) ?_
    refine lv_iadd hx hb dX0_putBehind_32 ?_
    refine zz_top (y := nI (f + 1)) (nI_1 _) ?_
    refine zz_iast (ws' := xW h a cA nL nC nB (va_up (va_up F 11 (upd (F 11) (4 * b + f) x)) 10 (upd (F 10) b (nI (f + 1)))) ls) hx hb hK hP hD hS 11 10 rfl rfl (hbB) (by omega) rfl dX0_putBehind_33 (fun H locs hP hD hS => ?_)
    refine lv_iconst (v := 1) hx hb dX0_putBehind_34 (by decide) ?_
    exact zz_rz (va_up (va_up F 11 (upd (F 11) (4 * b + f) x)) 10 (upd (F 10) b (nI (f + 1))), ls) hx hb hr hlocks (rfl) hP hK hD hS (Or.inr ⟨hf4, rfl, rfl⟩) dX0_putBehind_35
  · have hf4 : f = 4 := by
      rcases Nat.lt_or_ge f 4 with q | q
      · exact absurd (show nI f < nI 4 from nI_lt q (by decide)) c9
      · omega
    refine lv_iconst (v := 0) hx hb dX0_putBehind_12 (by decide) ?_
    exact zz_rz (F, ls) hx hb hr hlocks (rfl) hP hK hD hS (Or.inl ⟨hf4, rfl, rfl⟩) dX0_putBehind_13
set_option maxHeartbeats 1000000 in
set_option maxRecDepth 100000 in
/-- takeFront -/
theorem cX_takeFront (l : Launch) (D : va_G) (h : Nat) (a : Nat → Nat) (cA : Nat → ClassId) (nL nC nB sz : Nat) (hn : nL ≤ 8 ∧ nC ≤ 8 ∧ nB ≤ 8) (F : Nat → Nat → Int32) (ls : Int32) (b f : Nat) (hbB : b < nB) (hf : f ≤ 3) (hF : F 10 b = nI (f + 1)) : Met l yX0_takeFront wsX0_takeFront ({ frames := 1, cells := 0, slots := 0, locals := 40 }) (va_Pc [.ref h, .int (nI b)] (zz_Pre D vwCl (xT cA) (xW h a cA nL nC nB F ls) sz)) (va_Qi (fun (r : Int32) (u : xS) => r = F 11 (4 * b) ∧ u = (va_up (va_up F 11 (va_cpy (F 11) (F 11) (4 * b + 1) (4 * b) 3)) 10 (upd (F 10) b (nI f)), ls)) (zz_At D vwCl (xT cA) (fun u : xS => xW h a cA nL nC nB u.1 u.2) (va_A (xW h a cA nL nC nB F ls) sz)) (va_A (xW h a cA nL nC nB F ls) sz)) 0 0 (va_A (xW h a cA nL nC nB F ls) sz) := by
  obtain ⟨hnL, hnC, hnB⟩ := hn
  have hn : nL ≤ 8 ∧ nC ≤ 8 ∧ nB ≤ 8 := ⟨hnL, hnC, hnB⟩
  refine zz_of (Qc := fun A => va_Qi (fun (r : Int32) (u : xS) => r = F 11 (4 * b) ∧ u = (va_up (va_up F 11 (va_cpy (F 11) (F 11) (4 * b + 1) (4 * b) 3)) 10 (upd (F 10) b (nI f)), ls)) (zz_At D vwCl (xT cA) (fun u : xS => xW h a cA nL nC nB u.1 u.2) A) A) (by decide) rfl (Nat.le_of_ble_eq_true rfl) ?_
  intro p e s m args below meth c A H locs ls0 hx hb hr hml hown hts hlocks hnm hA hP hK hD hS hl
  have hown : s.vm.findClass RX0 = some m.cls := hown
  have hl : lv_has ls0 4 [(0, .ref h), (1, .int (nI b))] := hl
  have hin : ∀ w ∈ u_ws RX0 TX0 13, w ∈ wsX0_takeFront := by decide +kernel
  have hf44 := hts (.fieldLink RX0 44 "PriorityCore" "fills" "[I") (by decide +kernel)
  have hf47 := hts (.fieldLink RX0 47 "PriorityCore" "store" "[I") (by decide +kernel)
  refine lv_iload_n hx hb dX0_takeFront_0 rfl (lv_at hl 1 rfl) ?_
  refine lv_iconst (v := 4) hx hb dX0_takeFront_1 (by decide) ?_
  refine lv_imul hx hb dX0_takeFront_2 ?_
  refine zz_top (y := nI (4 * b)) (by rw [show (4 : Int32) = nI 4 from rfl, pk_mul, Nat.mul_comm]) ?_
  refine lv_istore_n (lv' := [(2, .int (nI (4 * b))), (0, .ref h), (1, .int (nI b))]) hx hb dX0_takeFront_3 rfl hl (by decide) rfl (fun ls0 hl => ?_)
  refine lv_aload_n hx hb dX0_takeFront_4 rfl (lv_at hl 1 rfl) ?_
  refine va_get (D := D) (ci := 0) (v := .ref (a 11)) (C := RX0) (T := TX0) (N := 13) hx hb hts hin hown hK hP 0 rfl rfl 11 (by decide) hf47 (fun _ h9 => h9) rfl dX0_takeFront_5 ?_
  refine lv_iload_n hx hb dX0_takeFront_8 rfl (lv_at hl 0 rfl) ?_
  refine zz_iald hx hb hK hP 12 11 rfl rfl (by omega) (by omega) dX0_takeFront_9 ?_
  refine lv_istore_n (lv' := [(3, .int ((F 11) (4 * b))), (2, .int (nI (4 * b))), (0, .ref h), (1, .int (nI b))]) hx hb dX0_takeFront_10 rfl hl (by decide) rfl (fun ls0 hl => ?_)
  refine lv_aload_n hx hb dX0_takeFront_11 rfl (lv_at hl 2 rfl) ?_
  refine va_get (D := D) (ci := 0) (v := .ref (a 11)) (C := RX0) (T := TX0) (N := 13) hx hb hts hin hown hK hP 0 rfl rfl 11 (by decide) hf47 (fun _ h9 => h9) rfl dX0_takeFront_12 ?_
  refine lv_iload_n hx hb dX0_takeFront_15 rfl (lv_at hl 1 rfl) ?_
  refine lv_iconst (v := 1) hx hb dX0_takeFront_16 (by decide) ?_
  refine lv_iadd hx hb dX0_takeFront_17 ?_
  refine zz_top (y := nI (4 * b + 1)) (nI_1 _) ?_
  refine lv_aload_n hx hb dX0_takeFront_18 rfl (lv_at hl 2 rfl) ?_
  refine va_get (D := D) (ci := 0) (v := .ref (a 11)) (C := RX0) (T := TX0) (N := 13) hx hb hts hin hown hK hP 0 rfl rfl 11 (by decide) hf47 (fun _ h9 => h9) rfl dX0_takeFront_19 ?_
  refine lv_iload_n hx hb dX0_takeFront_22 rfl (lv_at hl 1 rfl) ?_
  refine lv_iconst (v := nI 3) hx hb dX0_takeFront_23 (by decide) ?_
  refine zz_copyi (ws' := xW h a cA nL nC nB (va_up F 11 (va_cpy (F 11) (F 11) (4 * b + 1) (4 * b) 3)) ls) hx hb (hml.trans hl.1.symm) hown (hts (.methodLink RX0 173 arraycopyName) (by decide +kernel)) (hts (.native arraycopyName) (by decide +kernel)) (hts (.static arraycopyName) (by decide +kernel)) (hts (.initialized "java/lang/System") (by decide +kernel)) hK hP hD hS 12 12 11 11 rfl rfl rfl rfl (by omega) (by omega) (by decide) (by omega) (by omega) rfl (Nat.le_of_ble_eq_true rfl) (Nat.le_of_ble_eq_true rfl) dX0_takeFront_24 (fun H locs hP hD hS => ?_)
  refine lv_aload_n hx hb dX0_takeFront_27 rfl (lv_at hl 2 rfl) ?_
  refine va_get (D := D) (ci := 0) (v := .ref (a 10)) (C := RX0) (T := TX0) (N := 13) hx hb hts hin hown hK hP 0 rfl rfl 10 (by decide) hf44 (fun _ h9 => h9) rfl dX0_takeFront_28 ?_
  refine lv_iload_n hx hb dX0_takeFront_31 rfl (lv_at hl 3 rfl) ?_
  refine lv_dup2_11 hx hb dX0_takeFront_32 rfl rfl ?_
  refine zz_iald hx hb hK hP 11 10 rfl rfl (hbB) (by omega) dX0_takeFront_33 ?_
  refine zz_top (y := nI (f + 1)) (hF) ?_
  refine lv_iconst (v := 1) hx hb dX0_takeFront_34 (by decide) ?_
  refine lv_isub hx hb dX0_takeFront_35 ?_
  refine zz_top (y := nI f) (nI_pred _) ?_
  refine zz_iast (ws' := xW h a cA nL nC nB (va_up (va_up F 11 (va_cpy (F 11) (F 11) (4 * b + 1) (4 * b) 3)) 10 (upd (F 10) b (nI f))) ls) hx hb hK hP hD hS 11 10 rfl rfl (hbB) (by omega) rfl dX0_takeFront_36 (fun H locs hP hD hS => ?_)
  refine lv_iload_n hx hb dX0_takeFront_37 rfl (lv_at hl 0 rfl) ?_
  exact zz_ri (va_up (va_up F 11 (va_cpy (F 11) (F 11) (4 * b + 1) (4 * b) 3)) 10 (upd (F 10) b (nI f)), ls) hx hb hr hlocks hP hK hD hS (⟨rfl, rfl⟩) dX0_takeFront_38
theorem xs_sk_no {F : Nat → Nat → Int32} {i : Nat} (h : ¬ F 0 i = 6) : (pq_pick (fun t => decide (F 0 t = 6)) (fun a b => decide (F 5 a < F 5 b))) (i + 1) = (pq_pick (fun t => decide (F 0 t = 6)) (fun a b => decide (F 5 a < F 5 b))) i := by
  show (match (pq_pick (fun t => decide (F 0 t = 6)) (fun a b => decide (F 5 a < F 5 b))) i with | none => if decide (F 0 i = 6) then some i else none | some b => if decide (F 0 i = 6) && decide (F 5 i < F 5 b) then some i else some b) = _
  cases (pq_pick (fun t => decide (F 0 t = 6)) (fun a b => decide (F 5 a < F 5 b))) i <;> simp [h]
theorem xs_sk_0 {F : Nat → Nat → Int32} {i : Nat} (h : F 0 i = 6) (hp : (pq_pick (fun t => decide (F 0 t = 6)) (fun a b => decide (F 5 a < F 5 b))) i = none) : (pq_pick (fun t => decide (F 0 t = 6)) (fun a b => decide (F 5 a < F 5 b))) (i + 1) = some i := by
  show (match (pq_pick (fun t => decide (F 0 t = 6)) (fun a b => decide (F 5 a < F 5 b))) i with | none => if decide (F 0 i = 6) then some i else none | some b => if decide (F 0 i = 6) && decide (F 5 i < F 5 b) then some i else some b) = _
  rw [hp]; simp [h]
theorem xs_sk_1 {F : Nat → Nat → Int32} {i b : Nat} (h : F 0 i = 6) (hp : (pq_pick (fun t => decide (F 0 t = 6)) (fun a b => decide (F 5 a < F 5 b))) i = some b) (h2 : ¬ F 5 b ≤ F 5 i) : (pq_pick (fun t => decide (F 0 t = 6)) (fun a b => decide (F 5 a < F 5 b))) (i + 1) = some i := by
  show (match (pq_pick (fun t => decide (F 0 t = 6)) (fun a b => decide (F 5 a < F 5 b))) i with | none => if decide (F 0 i = 6) then some i else none | some b => if decide (F 0 i = 6) && decide (F 5 i < F 5 b) then some i else some b) = _
  rw [hp]; simp [h, Int32.not_le.mp h2]
theorem xs_sk_2 {F : Nat → Nat → Int32} {i b : Nat} (h : F 0 i = 6) (hp : (pq_pick (fun t => decide (F 0 t = 6)) (fun a b => decide (F 5 a < F 5 b))) i = some b) (h2 : F 5 b ≤ F 5 i) : (pq_pick (fun t => decide (F 0 t = 6)) (fun a b => decide (F 5 a < F 5 b))) (i + 1) = some b := by
  show (match (pq_pick (fun t => decide (F 0 t = 6)) (fun a b => decide (F 5 a < F 5 b))) i with | none => if decide (F 0 i = 6) then some i else none | some b => if decide (F 0 i = 6) && decide (F 5 i < F 5 b) then some i else some b) = _
  rw [hp]; simp [h, Int32.not_lt.mpr h2]
set_option maxHeartbeats 1000000 in
set_option maxRecDepth 100000 in
/-- soonestSleeper -/
theorem cX_soonestSleeper (l : Launch) (D : va_G) (h : Nat) (a : Nat → Nat) (cA : Nat → ClassId) (nL nC nB sz : Nat) (hn : nL ≤ 8 ∧ nC ≤ 8 ∧ nB ≤ 8) (F : Nat → Nat → Int32) (ls : Int32)   : Met l yX0_soonestSleeper wsX0_soonestSleeper ({ frames := 0, cells := 0, slots := 0, locals := 0 }) (va_Pc [.ref h] (zz_Pre D vwCl (xT cA) (xW h a cA nL nC nB F ls) sz)) (va_Qi (fun (r : Int32) (u : Unit) => r = pq_enc (xs_sl F)) (zz_At D vwCl (xT cA) (fun _ : Unit => xW h a cA nL nC nB F ls) (va_A (xW h a cA nL nC nB F ls) sz)) (va_A (xW h a cA nL nC nB F ls) sz)) 0 0 (va_A (xW h a cA nL nC nB F ls) sz) := by
  obtain ⟨hnL, hnC, hnB⟩ := hn
  have hn : nL ≤ 8 ∧ nC ≤ 8 ∧ nB ≤ 8 := ⟨hnL, hnC, hnB⟩
  refine zz_of (Qc := fun A => va_Qi (fun (r : Int32) (u : Unit) => r = pq_enc (xs_sl F)) (zz_At D vwCl (xT cA) (fun _ : Unit => xW h a cA nL nC nB F ls) A) A) (by decide) rfl (Nat.le_of_ble_eq_true rfl) ?_
  intro p e s m args below meth c A H locs ls0 hx hb hr hml hown hts hlocks hnm hA hP hK hD hS hl
  have hown : s.vm.findClass RX0 = some m.cls := hown
  have hl : lv_has ls0 3 [(0, .ref h)] := hl
  have hin : ∀ w ∈ u_ws RX0 TX0 13, w ∈ wsX0_soonestSleeper := by decide +kernel
  have hf9 := hts (.fieldLink RX0 9 "PriorityCore" "states" "[I") (by decide +kernel)
  have hf25 := hts (.fieldLink RX0 25 "PriorityCore" "ticksLeft" "[I") (by decide +kernel)
  refine lv_iconst (v := (-1)) hx hb dX0_soonestSleeper_0 (by decide) ?_
  refine lv_istore_n (lv' := [(1, .int (-1)), (0, .ref h)]) hx hb dX0_soonestSleeper_1 rfl hl (by decide) rfl (fun ls0 hl => ?_)
  refine lv_iconst (v := nI 0) hx hb dX0_soonestSleeper_2 (by decide) ?_
  refine lv_istore_n (lv' := [(2, .int (nI 0)), (1, .int (-1)), (0, .ref h)]) hx hb dX0_soonestSleeper_3 rfl hl (by decide) rfl (fun ls0 hl => ?_)
  have lp4 : ∀ (n4 : Nat) (i : Nat), (i ≤ 16) → (17 ≤ i + n4) → ∀ (H : Heap) (locs : List Loc) (ls0 : Array Slot), va_P D vwCl (xW h a cA nL nC nB F ls) H → va_D A (xW h a cA nL nC nB F ls) → va_S A s.heap H locs → lv_has ls0 3 [(0, .ref h), (1, .int (pq_enc (pq_pick (fun t => decide (F 0 t = 6)) (fun a b => decide (F 5 a < F 5 b)) i))), (2, .int (nI i))] → W p l e ({ frames := 0, cells := 0, slots := 0, locals := 0 }) s m args below meth c H locs 0 0 (MQ below (va_Qi (fun (r : Int32) (u : Unit) => r = pq_enc (xs_sl F)) (zz_At D vwCl (xT cA) (fun _ : Unit => xW h a cA nL nC nB F ls) A) A) args s 0 0 A) (F0 m 4 ls0 []) := by
    intro n4
    induction n4 with
    | zero =>
      intro i hi hm
      exact absurd True.intro (by omega)
    | succ n4 ih4 =>
      intro i hi hm H locs ls0 hP hD hS hl
      refine lv_iload_n hx hb dX0_soonestSleeper_4 rfl (lv_at hl 2 rfl) ?_
      refine lv_bipush (v := 16) hx hb dX0_soonestSleeper_5 (by decide) ?_
      refine lv_icmp_ge (tgt := 49) hx hb dX0_soonestSleeper_7 (by decide) (fun c7 => ?_) (fun c7 => ?_)
      · have hi2 : i = 16 := Nat.le_antisymm hi (zn_ge rfl (by omega) (by decide) c7)
        subst hi2
        refine lv_iload_n hx hb dX0_soonestSleeper_49 rfl (lv_at hl 1 rfl) ?_
        exact zz_ri () hx hb hr hlocks hP hK hD hS (rfl) dX0_soonestSleeper_50
      · have hi16 : i < 16 := zn_lt rfl (by omega) (by decide) c7
        refine lv_aload_n hx hb dX0_soonestSleeper_10 rfl (lv_at hl 0 rfl) ?_
        refine va_get (D := D) (ci := 0) (v := .ref (a 0)) (C := RX0) (T := TX0) (N := 13) hx hb hts hin hown hK hP 0 rfl rfl 0 (by decide) hf9 (fun _ h9 => h9) rfl dX0_soonestSleeper_11 ?_
        refine lv_iload_n hx hb dX0_soonestSleeper_14 rfl (lv_at hl 2 rfl) ?_
        refine zz_iald hx hb hK hP 1 0 rfl rfl (hi16) (by decide) dX0_soonestSleeper_15 ?_
        refine lv_bipush (v := 6) hx hb dX0_soonestSleeper_16 (by decide) ?_
        refine lv_icmp_ne (tgt := 43) hx hb dX0_soonestSleeper_18 (by decide) (fun c18 => ?_) (fun c18 => ?_)
        · refine lv_iinc (v := nI (i + 1)) (lv' := [(2, .int (nI (i + 1))), (0, .ref h), (1, .int (pq_enc (pq_pick (fun t => decide (F 0 t = 6)) (fun a b => decide (F 5 a < F 5 b)) i)))]) hx hb dX0_soonestSleeper_43 hl (k := 2) rfl (nI_1 _) (by decide) rfl (fun ls0 hl => ?_)
          refine lv_goto (tgt := 4) hx hb dX0_soonestSleeper_46 (by decide) ?_
          have ep := xs_sk_no c18
          exact ih4 (i + 1) (by omega) (by omega) H locs ls0 hP hD hS (by rw [ep]; exact lv_sub hl [1, 2, 0] rfl)
        · refine lv_iload_n hx hb dX0_soonestSleeper_21 rfl (lv_at hl 1 rfl) ?_
          refine lv_iconst (v := (-1)) hx hb dX0_soonestSleeper_22 (by decide) ?_
          refine lv_icmp_eq (tgt := 41) hx hb dX0_soonestSleeper_23 (by decide) (fun c23 => ?_) (fun c23 => ?_)
          · have hpk : pq_pick (fun t => decide (F 0 t = 6)) (fun a b => decide (F 5 a < F 5 b)) i = none := (pq_enc_m1 (fun n q => Nat.lt_of_lt_of_le (pq_pick_lt q).1 hi)).mp c23
            refine lv_iload_n hx hb dX0_soonestSleeper_41 rfl (lv_at hl 2 rfl) ?_
            refine lv_istore_n (lv' := [(1, .int (nI i)), (0, .ref h), (2, .int (nI i))]) hx hb dX0_soonestSleeper_42 rfl hl (by decide) rfl (fun ls0 hl => ?_)
            refine lv_iinc (v := nI (i + 1)) (lv' := [(2, .int (nI (i + 1))), (1, .int (nI i)), (0, .ref h)]) hx hb dX0_soonestSleeper_43 hl (k := 2) rfl (nI_1 _) (by decide) rfl (fun ls0 hl => ?_)
            refine lv_goto (tgt := 4) hx hb dX0_soonestSleeper_46 (by decide) ?_
            have ep := xs_sk_0 c18 hpk
            exact ih4 (i + 1) (by omega) (by omega) H locs ls0 hP hD hS (by rw [ep]; exact lv_sub hl [2, 1, 0] rfl)
          · obtain ⟨b, hpk⟩ : ∃ b, pq_pick (fun t => decide (F 0 t = 6)) (fun a b => decide (F 5 a < F 5 b)) i = some b := by
              cases q : pq_pick (fun t => decide (F 0 t = 6)) (fun a b => decide (F 5 a < F 5 b)) i with
              | none => exact absurd (by rw [q]; rfl) c23
              | some b => exact ⟨b, rfl⟩
            have hb16 : b < 16 := Nat.lt_of_lt_of_le (pq_pick_lt hpk).1 hi
            rw [hpk] at hl
            have hl : lv_has ls0 3 [(0, .ref h), (1, .int (nI b)), (2, .int (nI i))] := hl
            refine lv_aload_n hx hb dX0_soonestSleeper_26 rfl (lv_at hl 0 rfl) ?_
            refine va_get (D := D) (ci := 0) (v := .ref (a 5)) (C := RX0) (T := TX0) (N := 13) hx hb hts hin hown hK hP 0 rfl rfl 5 (by decide) hf25 (fun _ h9 => h9) rfl dX0_soonestSleeper_27 ?_
            refine lv_iload_n hx hb dX0_soonestSleeper_30 rfl (lv_at hl 2 rfl) ?_
            refine zz_iald hx hb hK hP 6 5 rfl rfl (hi16) (by decide) dX0_soonestSleeper_31 ?_
            refine lv_aload_n hx hb dX0_soonestSleeper_32 rfl (lv_at hl 0 rfl) ?_
            refine va_get (D := D) (ci := 0) (v := .ref (a 5)) (C := RX0) (T := TX0) (N := 13) hx hb hts hin hown hK hP 0 rfl rfl 5 (by decide) hf25 (fun _ h9 => h9) rfl dX0_soonestSleeper_33 ?_
            refine lv_iload_n hx hb dX0_soonestSleeper_36 rfl (lv_at hl 1 rfl) ?_
            refine zz_iald hx hb hK hP 6 5 rfl rfl (hb16) (by decide) dX0_soonestSleeper_37 ?_
            refine lv_icmp_ge (tgt := 43) hx hb dX0_soonestSleeper_38 (by decide) (fun c38 => ?_) (fun c38 => ?_)
            · refine lv_iinc (v := nI (i + 1)) (lv' := [(2, .int (nI (i + 1))), (0, .ref h), (1, .int (nI b))]) hx hb dX0_soonestSleeper_43 hl (k := 2) rfl (nI_1 _) (by decide) rfl (fun ls0 hl => ?_)
              refine lv_goto (tgt := 4) hx hb dX0_soonestSleeper_46 (by decide) ?_
              have ep := xs_sk_2 c18 hpk c38
              exact ih4 (i + 1) (by omega) (by omega) H locs ls0 hP hD hS (by rw [ep]; exact lv_sub hl [1, 2, 0] rfl)
            · refine lv_iload_n hx hb dX0_soonestSleeper_41 rfl (lv_at hl 2 rfl) ?_
              refine lv_istore_n (lv' := [(1, .int (nI i)), (0, .ref h), (2, .int (nI i))]) hx hb dX0_soonestSleeper_42 rfl hl (by decide) rfl (fun ls0 hl => ?_)
              refine lv_iinc (v := nI (i + 1)) (lv' := [(2, .int (nI (i + 1))), (1, .int (nI i)), (0, .ref h)]) hx hb dX0_soonestSleeper_43 hl (k := 2) rfl (nI_1 _) (by decide) rfl (fun ls0 hl => ?_)
              refine lv_goto (tgt := 4) hx hb dX0_soonestSleeper_46 (by decide) ?_
              have ep := xs_sk_1 c18 hpk c38
              exact ih4 (i + 1) (by omega) (by omega) H locs ls0 hP hD hS (by rw [ep]; exact lv_sub hl [2, 1, 0] rfl)
  exact lp4 17 0 (by omega) (by omega) H locs ls0 hP hD hS (lv_sub hl [2, 1, 0] rfl)
