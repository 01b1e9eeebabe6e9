set_option maxHeartbeats 1000000 in
set_option maxRecDepth 100000 in
/-- cJ_fill -/
theorem cJ_fill (l : Launch) (D : va_G) (q : Nat) (cF : ClassId) (N sz : Nat) (hN : N ≤ 64) (f : Nat → Int32) (x : Int32) : Met l yJ7_fill_53178 wsJ7_fill_53178 ({ frames := 0, cells := 0, slots := 0, locals := 0 }) (va_Pc [.ref q, .int x] (zz_Pre D vwCl ([(cF, .int)]) ([(q, .inl (cF, N, .inl f))]) sz)) (va_Qv (fun (u : Nat → Int32) => ∀ j, j < N → u j = x) (zz_At D vwCl ([(cF, .int)]) (fun u : Nat → Int32 => [(q, .inl (cF, N, .inl u))]) (va_A ([(q, .inl (cF, N, .inl f))]) sz)) (va_A ([(q, .inl (cF, N, .inl f))]) sz)) 0 0 (va_A ([(q, .inl (cF, N, .inl f))]) sz) := by
  refine zz_of (Qc := fun A => va_Qv (fun (u : Nat → Int32) => ∀ j, j < N → u j = x) (zz_At D vwCl ([(cF, .int)]) (fun u : Nat → Int32 => [(q, .inl (cF, N, .inl u))]) A) A) (by decide) rfl (Nat.le_of_ble_eq_true rfl) ?_
  intro p e s m args below meth c A H locs ls0 hx hb hr hml hown hts hlocks hnm hA hP hK hD hS hl
  have hl : lv_has ls0 4 [(0, .ref q), (1, .int x)] := hl
  refine lv_iconst (v := nI 0) hx hb dJ7_fill_53178_0 (by decide) ?_
  refine lv_istore_n (lv' := [(2, .int (nI 0)), (0, .ref q), (1, .int x)]) hx hb dJ7_fill_53178_1 rfl hl (by decide) rfl (fun ls0 hl => ?_)
  refine lv_aload_n hx hb dJ7_fill_53178_2 rfl (lv_at hl 1 rfl) ?_
  refine va_alen hx hb hK hP 0 0 rfl rfl (v := nI N) rfl dJ7_fill_53178_3 ?_
  refine lv_istore_n (lv' := [(3, .int (nI N)), (2, .int (nI 0)), (0, .ref q), (1, .int x)]) hx hb dJ7_fill_53178_4 rfl hl (by decide) rfl (fun ls0 hl => ?_)
  have lp5 : ∀ (n5 : Nat) (i : Nat) (g : Nat → Int32), (i ≤ N) → (N + 1 ≤ i + n5) → (∀ j, j < i → g j = x) → ∀ (H : Heap) (locs : List Loc) (ls0 : Array Slot), va_P D vwCl ([(q, .inl (cF, N, .inl g))]) H → va_D A ([(q, .inl (cF, N, .inl g))]) → va_S A s.heap H locs → lv_has ls0 4 [(0, .ref q), (1, .int x), (2, .int (nI i)), (3, .int (nI N))] → W p l e ({ frames := 0, cells := 0, slots := 0, locals := 0 }) s m args below meth c H locs 0 0 (MQ below (va_Qv (fun (u : Nat → Int32) => ∀ j, j < N → u j = x) (zz_At D vwCl ([(cF, .int)]) (fun u : Nat → Int32 => [(q, .inl (cF, N, .inl u))]) A) A) args s 0 0 A) (F0 m 5 ls0 []) := by
    intro n5
    induction n5 with
    | zero =>
      intro i g hi hm hE
      exact absurd True.intro (by omega)
    | succ n5 ih5 =>
      intro i g hi hm hE H locs ls0 hP hD hS hl
      refine lv_iload_n hx hb dJ7_fill_53178_5 rfl (lv_at hl 2 rfl) ?_
      refine lv_iload_n hx hb dJ7_fill_53178_6 rfl (lv_at hl 3 rfl) ?_
      refine lv_icmp_ge (tgt := 20) hx hb dJ7_fill_53178_7 (by decide) (fun c7 => ?_) (fun c7 => ?_)
      · have hi2 : i = N := Nat.le_antisymm hi (zn_ge rfl (by omega) (by omega) c7)
        subst hi2
        exact zz_rv g hx hb hr hlocks hP hK hD hS (hE) dJ7_fill_53178_20
      · have hiN : i < N := zn_lt rfl (by omega) (by omega) c7
        refine lv_aload_n hx hb dJ7_fill_53178_10 rfl (lv_at hl 0 rfl) ?_
        refine lv_iload_n hx hb dJ7_fill_53178_11 rfl (lv_at hl 2 rfl) ?_
        refine lv_iload_n hx hb dJ7_fill_53178_12 rfl (lv_at hl 1 rfl) ?_
        refine zz_iast (ws' := [(q, .inl (cF, N, .inl (upd g i x)))]) hx hb hK hP hD hS 0 0 rfl rfl (hiN) (by omega) rfl dJ7_fill_53178_13 (fun H locs hP hD hS => ?_)
        refine lv_iinc (v := nI (i + 1)) (lv' := [(2, .int (nI (i + 1))), (0, .ref q), (1, .int x), (3, .int (nI N))]) hx hb dJ7_fill_53178_14 hl (k := 2) rfl (nI_1 _) (by decide) rfl (fun ls0 hl => ?_)
        refine lv_goto (tgt := 5) hx hb dJ7_fill_53178_17 (by decide) ?_
        exact ih5 (i + 1) _ (by omega) (by omega) (fun j hj => by unfold upd; split; rfl; exact hE j (by omega)) H locs ls0 hP hD hS (lv_sub hl [1, 2, 0, 3] rfl)
  exact lp5 (N + 1) 0 f (by omega) (by omega) (fun j hj => absurd hj (by omega)) H locs ls0 hP hD hS (lv_sub hl [2, 3, 1, 0] rfl)
theorem xs_wk_none {x : Int32} {n : Nat} {G : Nat → Nat → Int32} {l2 : Int32} (h : xs_sl G = none) : xs_wk x (n + 1) (G, l2) = (0, (G, l2)) := by
  show (match xs_sl G with | none => (0, (G, l2)) | some t => if G 5 t ≤ x then ((xs_wk x n (xs_rd G l2 t, l2 + 1)).1 + 1, (xs_wk x n (xs_rd G l2 t, l2 + 1)).2) else (0, (G, l2))) = _
  rw [h]
theorem xs_wk_stop {x : Int32} {n t : Nat} {G : Nat → Nat → Int32} {l2 : Int32} (h : xs_sl G = some t) (h2 : ¬ G 5 t ≤ x) : xs_wk x (n + 1) (G, l2) = (0, (G, l2)) := by
  show (match xs_sl G with | none => (0, (G, l2)) | some t => if G 5 t ≤ x then ((xs_wk x n (xs_rd G l2 t, l2 + 1)).1 + 1, (xs_wk x n (xs_rd G l2 t, l2 + 1)).2) else (0, (G, l2))) = _
  rw [h]
  exact if_neg h2
theorem xs_wk_go {x : Int32} {n t : Nat} {G : Nat → Nat → Int32} {l2 : Int32} (h : xs_sl G = some t) (h2 : G 5 t ≤ x) : xs_wk x (n + 1) (G, l2) = ((xs_wk x n (xs_rd G l2 t, l2 + 1)).1 + 1, (xs_wk x n (xs_rd G l2 t, l2 + 1)).2) := by
  show (match xs_sl G with | none => (0, (G, l2)) | some t => if G 5 t ≤ x then ((xs_wk x n (xs_rd G l2 t, l2 + 1)).1 + 1, (xs_wk x n (xs_rd G l2 t, l2 + 1)).2) else (0, (G, l2))) = _
  rw [h]
  exact if_pos h2
theorem xs_wk_l0 {x : Int32} {G : Nat → Nat → Int32} {l2 : Int32} {w : Nat} {z : Nat × xS} (hE : z = (w + (xs_wk x (16 - 16) (G, l2)).1, (xs_wk x (16 - 16) (G, l2)).2)) : nI w = nI z.1 ∧ (G, l2) = z.2 := by
  subst hE
  exact ⟨rfl, rfl⟩
theorem xs_wk_l1 {x : Int32} {G : Nat → Nat → Int32} {l2 : Int32} {w n : Nat} {z : Nat × xS} (hE : z = (w + (xs_wk x (n + 1) (G, l2)).1, (xs_wk x (n + 1) (G, l2)).2)) (h : xs_wk x (n + 1) (G, l2) = (0, (G, l2))) : nI w = nI z.1 ∧ (G, l2) = z.2 := by
  subst hE
  rw [h]
  exact ⟨rfl, rfl⟩
set_option maxHeartbeats 1000000 in
set_option maxRecDepth 100000 in
/-- wakeWithin -/
theorem cX_wakeWithin (l : Launch) (D : va_G) (h : Nat) (a : Nat → Nat) (cA : Nat → ClassId) (nL nC nB sz : Nat) (hn : nL ≤ 8 ∧ nC ≤ 8 ∧ nB ≤ 8) (F : Nat → Nat → Int32) (ls : Int32) (x : Int32) (z : Nat × xS) (hz : z = xs_wk x 16 (F, ls)) : Met l yX0_wakeWithin wsX0_wakeWithin ({ frames := 2, cells := 0, slots := 0, locals := 44 }) (va_Pc [.ref h, .int x] (zz_Pre D vwCl (xT cA) (xW h a cA nL nC nB F ls) sz)) (va_Qi (fun (r : Int32) (u : xS) => r = nI z.1 ∧ u = z.2) (zz_At D vwCl (xT cA) (fun u : xS => xW h a cA nL nC nB u.1 u.2) (va_A (xW h a cA nL nC nB F ls) sz)) (va_A (xW h a cA nL nC nB F ls) sz)) 0 0 (va_A (xW h a cA nL nC nB F ls) sz) := by
  obtain ⟨hnL, hnC, hnB⟩ := hn
  have hn : nL ≤ 8 ∧ nC ≤ 8 ∧ nB ≤ 8 := ⟨hnL, hnC, hnB⟩
  refine zz_of (Qc := fun A => va_Qi (fun (r : Int32) (u : xS) => r = nI z.1 ∧ u = z.2) (zz_At D vwCl (xT cA) (fun u : xS => xW h a cA nL nC nB u.1 u.2) A) A) (by decide) rfl (Nat.le_of_ble_eq_true rfl) ?_
  intro p e s m args below meth c A H locs ls0 hx hb hr hml hown hts hlocks hnm hA hP hK hD hS hl
  have hown : s.vm.findClass RX0 = some m.cls := hown
  have hl : lv_has ls0 5 [(0, .ref h), (1, .int x)] := hl
  have hin : ∀ w ∈ u_ws RX0 TX0 13, w ∈ wsX0_wakeWithin := by decide +kernel
  have hf25 := hts (.fieldLink RX0 25 "PriorityCore" "ticksLeft" "[I") (by decide +kernel)
  refine lv_iconst (v := nI 0) hx hb dX0_wakeWithin_0 (by decide) ?_
  refine lv_istore_n (lv' := [(2, .int (nI 0)), (0, .ref h), (1, .int x)]) hx hb dX0_wakeWithin_1 rfl hl (by decide) rfl (fun ls0 hl => ?_)
  refine lv_iconst (v := nI 0) hx hb dX0_wakeWithin_2 (by decide) ?_
  refine lv_istore_n (lv' := [(3, .int (nI 0)), (2, .int (nI 0)), (0, .ref h), (1, .int x)]) hx hb dX0_wakeWithin_3 rfl hl (by decide) rfl (fun ls0 hl => ?_)
  have lp4 : ∀ (n4 : Nat) (k w : Nat) (G : Nat → Nat → Int32) (l2 : Int32), (k ≤ 16) → (17 ≤ k + n4) → (z = (w + (xs_wk x (16 - k) (G, l2)).1, (xs_wk x (16 - k) (G, l2)).2)) → ∀ (H : Heap) (locs : List Loc) (ls0 : Array Slot), va_P D vwCl (xW h a cA nL nC nB G l2) H → va_D A (xW h a cA nL nC nB G l2) → va_S A s.heap H locs → lv_has ls0 5 [(0, .ref h), (1, .int x), (2, .int (nI w)), (3, .int (nI k))] → W p l e ({ frames := 2, cells := 0, slots := 0, locals := 44 }) s m args below meth c H locs 0 0 (MQ below (va_Qi (fun (r : Int32) (u : xS) => r = nI z.1 ∧ u = z.2) (zz_At D vwCl (xT cA) (fun u : xS => xW h a cA nL nC nB u.1 u.2) A) A) args s 0 0 A) (F0 m 4 ls0 []) := by
    intro n4
    induction n4 with
    | zero =>
      intro k w G l2 hk hm hE
      exact absurd True.intro (by omega)
    | succ n4 ih4 =>
      intro k w G l2 hk hm hE H locs ls0 hP hD hS hl
      refine lv_iload_n hx hb dX0_wakeWithin_4 rfl (lv_at hl 3 rfl) ?_
      refine lv_bipush (v := 16) hx hb dX0_wakeWithin_5 (by decide) ?_
      refine lv_icmp_ge (tgt := 51) hx hb dX0_wakeWithin_7 (by decide) (fun c7 => ?_) (fun c7 => ?_)
      · have hk2 : k = 16 := Nat.le_antisymm hk (zn_ge rfl (by omega) (by decide) c7)
        subst hk2
        refine lv_iload_n hx hb dX0_wakeWithin_51 rfl (lv_at hl 2 rfl) ?_
        exact zz_ri (G, l2) hx hb hr hlocks hP hK hD hS (xs_wk_l0 hE) dX0_wakeWithin_52
      · have hk16 : k < 16 := zn_lt rfl (by omega) (by decide) c7
        rw [show 16 - k = (15 - k) + 1 by omega] at hE
        refine lv_aload_n hx hb dX0_wakeWithin_10 rfl (lv_at hl 0 rfl) ?_
        refine zz_ci (va_runV (As := []) (rest := []) ⟨hx, hb, hml, hown, hts⟩ (cX_soonestSleeper l D h a cA nL nC nB H.size hn G l2 ) (cwV 0 hts gX0_wakeWithin_X0_soonestSleeper rfl rfl rfl (by decide +kernel) ⟨(Nat.le_of_ble_eq_true rfl), (Nat.le_of_ble_eq_true rfl)⟩) (zz_pV hP hK hD (va_recv hK hP (ci := 0) (q0 := 0) rfl rfl)) rfl rfl hl.1 rfl (lv_room (Nat.le_of_ble_eq_true rfl)) dX0_wakeWithin_11 ⟨(Nat.le_of_ble_eq_true rfl), (Nat.le_of_ble_eq_true rfl)⟩) hD hS hA (fun r u H locs hw hP hD hS => ?_)
        subst hw
        have hP : va_P D vwCl (xW h a cA nL nC nB G l2) H := hP
        have hD : va_D A (xW h a cA nL nC nB G l2) := hD
        refine lv_istore (lv' := [(4, .int (pq_enc (xs_sl G))), (0, .ref h), (1, .int x), (2, .int (nI w)), (3, .int (nI k))]) hx hb dX0_wakeWithin_14 hl (by decide) rfl (fun ls0 hl => ?_)
        refine lv_iload hx hb dX0_wakeWithin_16 (lv_at hl 0 rfl) ?_
        refine lv_iconst (v := (-1)) hx hb dX0_wakeWithin_18 (by decide) ?_
        refine lv_icmp_eq (tgt := 51) hx hb dX0_wakeWithin_19 (by decide) (fun c19 => ?_) (fun c19 => ?_)
        · have hpk : xs_sl G = none := (pq_enc_m1 (fun n q => (pq_pick_lt q).1)).mp c19
          refine lv_iload_n hx hb dX0_wakeWithin_51 rfl (lv_at hl 3 rfl) ?_
          exact zz_ri (G, l2) hx hb hr hlocks hP hK hD hS (xs_wk_l1 hE (xs_wk_none hpk)) dX0_wakeWithin_52
        · obtain ⟨b, hpk⟩ : ∃ b, xs_sl G = some b := by
            cases q : xs_sl G with
            | none => exact absurd (by rw [q]; rfl) c19
            | some b => exact ⟨b, rfl⟩
          have hb16 : b < 16 := (pq_pick_lt hpk).1
          rw [hpk] at hl
          have hl : lv_has ls0 5 [(4, .int (nI b)), (0, .ref h), (1, .int x), (2, .int (nI w)), (3, .int (nI k))] := hl
          refine lv_aload_n hx hb dX0_wakeWithin_22 rfl (lv_at hl 1 rfl) ?_
          refine va_get (D := D) (ci := 0) (v := .ref (a 5)) (C := RX0) (T := TX0) (N := 13) hx hb hts hin hown hK hP 0 rfl rfl 5 (by decide) hf25 (fun _ h9 => h9) rfl dX0_wakeWithin_23 ?_
          refine lv_iload hx hb dX0_wakeWithin_26 (lv_at hl 0 rfl) ?_
          refine zz_iald hx hb hK hP 6 5 rfl rfl (hb16) (by decide) dX0_wakeWithin_28 ?_
          refine lv_iload_n hx hb dX0_wakeWithin_29 rfl (lv_at hl 2 rfl) ?_
          refine lv_icmp_le (tgt := 36) hx hb dX0_wakeWithin_30 (by decide) (fun c30 => ?_) (fun c30 => ?_)
          · refine lv_aload_n hx hb dX0_wakeWithin_36 rfl (lv_at hl 1 rfl) ?_
            refine lv_iload hx hb dX0_wakeWithin_37 (lv_at hl 0 rfl) ?_
            refine zz_cv (va_runV (As := [.int (nI b)]) (rest := []) ⟨hx, hb, hml, hown, hts⟩ (cX_becomeReady l D h a cA nL nC nB H.size hn G l2 b hb16) (cwV 1 hts gX0_wakeWithin_X0_becomeReady rfl rfl rfl (by decide +kernel) ⟨(Nat.le_of_ble_eq_true rfl), (Nat.le_of_ble_eq_true rfl)⟩) (zz_pV hP hK hD (va_recv hK hP (ci := 0) (q0 := 0) rfl rfl)) rfl rfl hl.1 rfl (lv_room (Nat.le_of_ble_eq_true rfl)) dX0_wakeWithin_39 ⟨(Nat.le_of_ble_eq_true rfl), (Nat.le_of_ble_eq_true rfl)⟩) hD hS hA (fun u H locs hw hP hD hS => ?_)
            subst hw
            have hP : va_P D vwCl (xW h a cA nL nC nB (va_up (va_up (va_up (va_up G 0 (upd (G 0) b 1)) 4 (upd (G 4) b (-1))) 3 (upd (G 3) b (l2 + 1))) 5 (upd (G 5) b 0)) (l2 + 1)) H := hP
            have hD : va_D A (xW h a cA nL nC nB (va_up (va_up (va_up (va_up G 0 (upd (G 0) b 1)) 4 (upd (G 4) b (-1))) 3 (upd (G 3) b (l2 + 1))) 5 (upd (G 5) b 0)) (l2 + 1)) := hD
            refine lv_iinc (v := nI (w + 1)) (lv' := [(2, .int (nI (w + 1))), (4, .int (nI b)), (0, .ref h), (1, .int x), (3, .int (nI k))]) hx hb dX0_wakeWithin_42 hl (k := 3) rfl (nI_1 _) (by decide) rfl (fun ls0 hl => ?_)
            refine lv_iinc (v := nI (k + 1)) (lv' := [(3, .int (nI (k + 1))), (2, .int (nI (w + 1))), (4, .int (nI b)), (0, .ref h), (1, .int x)]) hx hb dX0_wakeWithin_45 hl (k := 4) rfl (nI_1 _) (by decide) rfl (fun ls0 hl => ?_)
            refine lv_goto (tgt := 4) hx hb dX0_wakeWithin_48 (by decide) ?_
            exact ih4 (k + 1) (w + 1) (xs_rd G l2 b) (l2 + 1) (by omega) (by omega) (by rw [hE, xs_wk_go hpk c30, show 16 - (k + 1) = 15 - k by omega, Nat.add_assoc, Nat.add_comm 1]) H locs ls0 hP hD hS (lv_sub hl [3, 4, 1, 0] rfl)
          · refine lv_goto (tgt := 51) hx hb dX0_wakeWithin_33 (by decide) ?_
            refine lv_iload_n hx hb dX0_wakeWithin_51 rfl (lv_at hl 3 rfl) ?_
            exact zz_ri (G, l2) hx hb hr hlocks hP hK hD hS (xs_wk_l1 hE (xs_wk_stop hpk c30)) dX0_wakeWithin_52
  exact lp4 17 0 0 F ls (by omega) (by omega) (by rw [Nat.zero_add]; exact hz) H locs ls0 hP hD hS (lv_sub hl [2, 3, 1, 0] rfl)
