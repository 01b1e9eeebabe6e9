set_option maxHeartbeats 4000000 in
set_option maxRecDepth 100000 in
theorem cL_create_met (l : Launch) (hlT : l.stackTraces = false) (D : va_G) (h : Nat) (a : Nat → Nat) (cA : Nat → ClassId) (nL nC nB sz : Nat) (hn : nL ≤ 8 ∧ nC ≤ 8 ∧ nB ≤ 8) (F : Nat → Nat → Int32) (ls : Int32) (o : Nat) (co : ClassId) (f : Nat → Int64) (x y : Int32) (hO : xs_ow nL (F 8)) : Met l yL_create wsL_create ({ frames := 8, cells := 3, slots := 18, locals := 124 }) (va_Pc [.ref h, .int x, .int y, .ref o] (zl_Pre D vwCl ((co, .long) :: xT cA) (oE o co f :: xW h a cA nL nC nB F ls) sz)) (va_Qi (zl_post F ls f (fun r u => sp_create nL F ls x y r u) (fun E => sx_create F x y E) (lk3 xE_I xE_A xE_S)) (zz_At D vwCl ((co, .long) :: xT cA) (fun u : xS × (Nat → Int64) => oE o co u.2 :: xW h a cA nL nC nB u.1.1 u.1.2) (va_A (oE o co f :: xW h a cA nL nC nB F ls) sz)) (va_A (oE o co f :: xW h a cA nL nC nB F ls) sz)) 3 18 (va_A (oE o co f :: xW h a cA nL nC nB F ls) sz) := by
  refine zl_of (Qc := fun A => va_Qi (zl_post F ls f (fun r u => sp_create nL F ls x y r u) (fun E => sx_create F x y E) (lk3 xE_I xE_A xE_S)) (zz_At D vwCl ((co, .long) :: xT cA) (fun u : xS × (Nat → Int64) => oE o co u.2 :: xW h a cA nL nC nB u.1.1 u.1.2) A) A) (by decide) rfl (Nat.le_of_ble_eq_true rfl) ?_
  intro p e s m args below meth c A H locs ls0 hx hb hr hml hown hts hlocks htab hT hN hA hP hK hD hS hl
  have hl : lv_has ls0 5 [(0, .ref h), (1, .int x), (2, .int y), (3, .ref o)] := hl
  refine lv_aload_n hx hb dL_create_0 rfl (lv_at hl 3 rfl) ?_
  refine lv_iconst (v := 0) hx hb dL_create_1 (by decide) ?_
  refine lv_aload_n hx hb dL_create_2 rfl (lv_at hl 0 rfl) ?_
  refine lv_iload_n hx hb dL_create_3 rfl (lv_at hl 1 rfl) ?_
  refine lv_iload_n hx hb dL_create_4 rfl (lv_at hl 2 rfl) ?_
  have hPc := hP.sub (ws' := xW h a cA nL nC nB F ls) [1, 2, 3, 4, 5, 6, 7, 8, 9, 10, 11, 12, 13] rfl
  have hDc := hD.sub (ws' := xW h a cA nL nC nB F ls) [1, 2, 3, 4, 5, 6, 7, 8, 9, 10, 11, 12, 13] (by decide) rfl
  have hKc := hK.sub (tys' := xT cA) [1, 2, 3, 4, 5, 6, 7, 8, 9, 10, 11, 12] rfl
  refine zl_ci (wr := [oE o co f]) (vx_runV (As := [.int x, .int y]) (rest := [.int 0, .ref o]) ⟨hx, hb, hml, hown, hts⟩ (cX_create l hlT D h a cA nL nC nB H.size hn F ls x y hO) (cwV 2 hts gL_create_X0_create rfl rfl rfl (by decide +kernel) ⟨(Nat.le_of_ble_eq_true rfl), (Nat.le_of_ble_eq_true rfl)⟩) (zx_pV hPc hKc hDc hA hS hT (va_recv hKc hPc (ci := 0) (q0 := 0) rfl rfl)) rfl rfl hl.1 rfl (lv_room (Nat.le_of_ble_eq_true rfl)) dL_create_5 ⟨(Nat.le_of_ble_eq_true rfl), (Nat.le_of_ble_eq_true rfl)⟩) hP hD hS hA [1, 2, 3, 4, 5, 6, 7, 8, 9, 10, 11, 12, 13] [0] rfl rfl (by decide) (by decide) (fun E ce q9 H locs hE hP hD hS hc1 hc2 hc3 => ?_) (fun r u H locs hw hP hD hS => ?_)
  · have hEs : E = xE_I ∨ E = xE_A ∨ E = xE_S := by
      first | exact hE.1 | (rcases hE with q | q <;> simp [q.1]; done) | (rcases hE with q | q | q <;> simp [q.1]; done)
    rcases hEs with hEq | hEs
    · subst hEq
      refine zc_catch (own := RL) (name := xE_I) hown [] ⟨0, 10, 13, 13⟩ [⟨0, 10, 17, 15⟩, ⟨0, 10, 21, 17⟩] htab (fun z hz => absurd hz List.not_mem_nil) (by decide) (show (13 : Nat) ≠ 0 by decide) (hts (.classLink RL 13 xE_I) (by decide +kernel)) (va_Nw.use rfl hT.2.2.2.1) hc1 hc2 hc3 ?_
      refine lv_astore (lv' := [(4, .ref q9), (0, .ref h), (1, .int x), (2, .int y), (3, .ref o)]) hx hb dL_create_13 hl (by decide) rfl (fun ls1 hl => ?_)
      refine lv_iconst (v := 1) hx hb dL_create_15 (by decide) ?_
      exact zz_ri (wf := (fun u : xS × (Nat → Int64) => oE o co u.2 :: xW h a cA nL nC nB u.1.1 u.1.2)) ((F, ls), f) hx hb hr hlocks hP hK hD hS (Or.inr ⟨xE_I, rfl, hE, rfl⟩) dL_create_16
    rcases hEs with hEq | hEs
    · subst hEq
      refine zc_catch (own := RL) (name := xE_A) hown [⟨0, 10, 13, 13⟩] ⟨0, 10, 17, 15⟩ [⟨0, 10, 21, 17⟩] htab (fun z hz => by
          rcases List.mem_cons.mp hz with hz | hz
          · subst hz; exact Or.inr ⟨(show (13 : Nat) ≠ 0 by decide), xE_I, hts (.classLink RL 13 xE_I) (by decide +kernel), hN.1⟩
          exact absurd hz List.not_mem_nil) (by decide) (show (15 : Nat) ≠ 0 by decide) (hts (.classLink RL 15 xE_A) (by decide +kernel)) (va_Nw.use rfl hT.2.2.2.2.1) hc1 hc2 hc3 ?_
      refine lv_astore (lv' := [(4, .ref q9), (0, .ref h), (1, .int x), (2, .int y), (3, .ref o)]) hx hb dL_create_17 hl (by decide) rfl (fun ls1 hl => ?_)
      refine lv_iconst (v := 2) hx hb dL_create_19 (by decide) ?_
      exact zz_ri (wf := (fun u : xS × (Nat → Int64) => oE o co u.2 :: xW h a cA nL nC nB u.1.1 u.1.2)) ((F, ls), f) hx hb hr hlocks hP hK hD hS (Or.inr ⟨xE_A, rfl, hE, rfl⟩) dL_create_20
    have hEq := hEs
    subst hEq
    refine zc_catch (own := RL) (name := xE_S) hown [⟨0, 10, 13, 13⟩, ⟨0, 10, 17, 15⟩] ⟨0, 10, 21, 17⟩ [] htab (fun z hz => by
        rcases List.mem_cons.mp hz with hz | hz
        · subst hz; exact Or.inr ⟨(show (13 : Nat) ≠ 0 by decide), xE_I, hts (.classLink RL 13 xE_I) (by decide +kernel), hN.2.1⟩
        rcases List.mem_cons.mp hz with hz | hz
        · subst hz; exact Or.inr ⟨(show (15 : Nat) ≠ 0 by decide), xE_A, hts (.classLink RL 15 xE_A) (by decide +kernel), hN.2.2.1⟩
        exact absurd hz List.not_mem_nil) (by decide) (show (17 : Nat) ≠ 0 by decide) (hts (.classLink RL 17 xE_S) (by decide +kernel)) (va_Nw.use rfl hT.2.2.2.2.2.1) hc1 hc2 hc3 ?_
    refine lv_astore (lv' := [(4, .ref q9), (0, .ref h), (1, .int x), (2, .int y), (3, .ref o)]) hx hb dL_create_21 hl (by decide) rfl (fun ls1 hl => ?_)
    refine lv_iconst (v := 3) hx hb dL_create_23 (by decide) ?_
    exact zz_ri (wf := (fun u : xS × (Nat → Int64) => oE o co u.2 :: xW h a cA nL nC nB u.1.1 u.1.2)) ((F, ls), f) hx hb hr hlocks hP hK hD hS (Or.inr ⟨xE_S, rfl, hE, rfl⟩) dL_create_24
  · refine lv_i2l (v := r.toInt64) hx hb dL_create_8 rfl ?_
    refine zz_last (i := 0) (ws' := oE o co (vp_updL f 0 r.toInt64) :: xW h a cA nL nC nB u.1 u.2) hx hb hK hP hD hS 0 0 rfl rfl (by decide) (by decide) rfl dL_create_9 (fun H locs hP hD hS => ?_)
    refine lv_goto (tgt := 25) hx hb dL_create_10 (by decide) ?_
    refine lv_iconst (v := 0) hx hb dL_create_25 (by decide) ?_
    exact zz_ri (wf := (fun u : xS × (Nat → Int64) => oE o co u.2 :: xW h a cA nL nC nB u.1.1 u.1.2)) ((u.1, u.2), vp_updL f 0 r.toInt64) hx hb hr hlocks hP hK hD hS (Or.inl ⟨rfl, r, (show vp_updL f 0 r.toInt64 0 = r.toInt64 from pk_uLs), hw⟩) dL_create_26
set_option maxHeartbeats 4000000 in
set_option maxRecDepth 100000 in
theorem cL_priority_met (l : Launch) (hlT : l.stackTraces = false) (D : va_G) (h : Nat) (a : Nat → Nat) (cA : Nat → ClassId) (nL nC nB sz : Nat) (hn : nL ≤ 8 ∧ nC ≤ 8 ∧ nB ≤ 8) (F : Nat → Nat → Int32) (ls : Int32) (o : Nat) (co : ClassId) (f : Nat → Int64) (x y : Int32) (hO : xs_ow nL (F 8)) : Met l yL_priority wsL_priority ({ frames := 8, cells := 3, slots := 18, locals := 125 }) (va_Pc [.ref h, .int x, .int y, .ref o] (zl_Pre D vwCl ((co, .long) :: xT cA) (oE o co f :: xW h a cA nL nC nB F ls) sz)) (va_Qi (zl_post F ls f (fun r u => sp_priority nL F ls x y r u) (fun E => sx_priority F x y E) (lk3 xE_I xE_A xE_S)) (zz_At D vwCl ((co, .long) :: xT cA) (fun u : xS × (Nat → Int64) => oE o co u.2 :: xW h a cA nL nC nB u.1.1 u.1.2) (va_A (oE o co f :: xW h a cA nL nC nB F ls) sz)) (va_A (oE o co f :: xW h a cA nL nC nB F ls) sz)) 3 18 (va_A (oE o co f :: xW h a cA nL nC nB F ls) sz) := by
  refine zl_of (Qc := fun A => va_Qi (zl_post F ls f (fun r u => sp_priority nL F ls x y r u) (fun E => sx_priority F x y E) (lk3 xE_I xE_A xE_S)) (zz_At D vwCl ((co, .long) :: xT cA) (fun u : xS × (Nat → Int64) => oE o co u.2 :: xW h a cA nL nC nB u.1.1 u.1.2) A) A) (by decide) rfl (Nat.le_of_ble_eq_true rfl) ?_
  intro p e s m args below meth c A H locs ls0 hx hb hr hml hown hts hlocks htab hT hN hA hP hK hD hS hl
  have hl : lv_has ls0 5 [(0, .ref h), (1, .int x), (2, .int y), (3, .ref o)] := hl
  refine lv_aload_n hx hb dL_priority_0 rfl (lv_at hl 3 rfl) ?_
  refine lv_iconst (v := 0) hx hb dL_priority_1 (by decide) ?_
  refine lv_aload_n hx hb dL_priority_2 rfl (lv_at hl 0 rfl) ?_
  refine lv_iload_n hx hb dL_priority_3 rfl (lv_at hl 1 rfl) ?_
  refine lv_iload_n hx hb dL_priority_4 rfl (lv_at hl 2 rfl) ?_
  have hPc := hP.sub (ws' := xW h a cA nL nC nB F ls) [1, 2, 3, 4, 5, 6, 7, 8, 9, 10, 11, 12, 13] rfl
  have hDc := hD.sub (ws' := xW h a cA nL nC nB F ls) [1, 2, 3, 4, 5, 6, 7, 8, 9, 10, 11, 12, 13] (by decide) rfl
  have hKc := hK.sub (tys' := xT cA) [1, 2, 3, 4, 5, 6, 7, 8, 9, 10, 11, 12] rfl
  refine zl_ci (wr := [oE o co f]) (vx_runV (As := [.int x, .int y]) (rest := [.int 0, .ref o]) ⟨hx, hb, hml, hown, hts⟩ (cX_priority l hlT D h a cA nL nC nB H.size hn F ls x y hO) (cwV 2 hts gL_priority_X0_priority rfl rfl rfl (by decide +kernel) ⟨(Nat.le_of_ble_eq_true rfl), (Nat.le_of_ble_eq_true rfl)⟩) (zx_pV hPc hKc hDc hA hS hT (va_recv hKc hPc (ci := 0) (q0 := 0) rfl rfl)) rfl rfl hl.1 rfl (lv_room (Nat.le_of_ble_eq_true rfl)) dL_priority_5 ⟨(Nat.le_of_ble_eq_true rfl), (Nat.le_of_ble_eq_true rfl)⟩) hP hD hS hA [1, 2, 3, 4, 5, 6, 7, 8, 9, 10, 11, 12, 13] [0] rfl rfl (by decide) (by decide) (fun E ce q9 H locs hE hP hD hS hc1 hc2 hc3 => ?_) (fun r u H locs hw hP hD hS => ?_)
  · have hEs : E = xE_I ∨ E = xE_A ∨ E = xE_S := by
      first | exact hE.1 | (rcases hE with q | q <;> simp [q.1]; done) | (rcases hE with q | q | q <;> simp [q.1]; done)
    rcases hEs with hEq | hEs
    · subst hEq
      refine zc_catch (own := RL) (name := xE_I) hown [] ⟨0, 10, 13, 13⟩ [⟨0, 10, 17, 15⟩, ⟨0, 10, 21, 17⟩] htab (fun z hz => absurd hz List.not_mem_nil) (by decide) (show (13 : Nat) ≠ 0 by decide) (hts (.classLink RL 13 xE_I) (by decide +kernel)) (va_Nw.use rfl hT.2.2.2.1) hc1 hc2 hc3 ?_
      refine lv_astore (lv' := [(4, .ref q9), (0, .ref h), (1, .int x), (2, .int y), (3, .ref o)]) hx hb dL_priority_13 hl (by decide) rfl (fun ls1 hl => ?_)
      refine lv_iconst (v := 1) hx hb dL_priority_15 (by decide) ?_
      exact zz_ri (wf := (fun u : xS × (Nat → Int64) => oE o co u.2 :: xW h a cA nL nC nB u.1.1 u.1.2)) ((F, ls), f) hx hb hr hlocks hP hK hD hS (Or.inr ⟨xE_I, rfl, hE, rfl⟩) dL_priority_16
    rcases hEs with hEq | hEs
    · subst hEq
      refine zc_catch (own := RL) (name := xE_A) hown [⟨0, 10, 13, 13⟩] ⟨0, 10, 17, 15⟩ [⟨0, 10, 21, 17⟩] htab (fun z hz => by
          rcases List.mem_cons.mp hz with hz | hz
          · subst hz; exact Or.inr ⟨(show (13 : Nat) ≠ 0 by decide), xE_I, hts (.classLink RL 13 xE_I) (by decide +kernel), hN.1⟩
          exact absurd hz List.not_mem_nil) (by decide) (show (15 : Nat) ≠ 0 by decide) (hts (.classLink RL 15 xE_A) (by decide +kernel)) (va_Nw.use rfl hT.2.2.2.2.1) hc1 hc2 hc3 ?_
      refine lv_astore (lv' := [(4, .ref q9), (0, .ref h), (1, .int x), (2, .int y), (3, .ref o)]) hx hb dL_priority_17 hl (by decide) rfl (fun ls1 hl => ?_)
      refine lv_iconst (v := 2) hx hb dL_priority_19 (by decide) ?_
      exact zz_ri (wf := (fun u : xS × (Nat → Int64) => oE o co u.2 :: xW h a cA nL nC nB u.1.1 u.1.2)) ((F, ls), f) hx hb hr hlocks hP hK hD hS (Or.inr ⟨xE_A, rfl, hE, rfl⟩) dL_priority_20
    have hEq := hEs
    subst hEq
    refine zc_catch (own := RL) (name := xE_S) hown [⟨0, 10, 13, 13⟩, ⟨0, 10, 17, 15⟩] ⟨0, 10, 21, 17⟩ [] htab (fun z hz => by
        rcases List.mem_cons.mp hz with hz | hz
        · subst hz; exact Or.inr ⟨(show (13 : Nat) ≠ 0 by decide), xE_I, hts (.classLink RL 13 xE_I) (by decide +kernel), hN.2.1⟩
        rcases List.mem_cons.mp hz with hz | hz
        · subst hz; exact Or.inr ⟨(show (15 : Nat) ≠ 0 by decide), xE_A, hts (.classLink RL 15 xE_A) (by decide +kernel), hN.2.2.1⟩
        exact absurd hz List.not_mem_nil) (by decide) (show (17 : Nat) ≠ 0 by decide) (hts (.classLink RL 17 xE_S) (by decide +kernel)) (va_Nw.use rfl hT.2.2.2.2.2.1) hc1 hc2 hc3 ?_
    refine lv_astore (lv' := [(4, .ref q9), (0, .ref h), (1, .int x), (2, .int y), (3, .ref o)]) hx hb dL_priority_21 hl (by decide) rfl (fun ls1 hl => ?_)
    refine lv_iconst (v := 3) hx hb dL_priority_23 (by decide) ?_
    exact zz_ri (wf := (fun u : xS × (Nat → Int64) => oE o co u.2 :: xW h a cA nL nC nB u.1.1 u.1.2)) ((F, ls), f) hx hb hr hlocks hP hK hD hS (Or.inr ⟨xE_S, rfl, hE, rfl⟩) dL_priority_24
  · refine lv_i2l (v := r.toInt64) hx hb dL_priority_8 rfl ?_
    refine zz_last (i := 0) (ws' := oE o co (vp_updL f 0 r.toInt64) :: xW h a cA nL nC nB u.1 u.2) hx hb hK hP hD hS 0 0 rfl rfl (by decide) (by decide) rfl dL_priority_9 (fun H locs hP hD hS => ?_)
    refine lv_goto (tgt := 25) hx hb dL_priority_10 (by decide) ?_
    refine lv_iconst (v := 0) hx hb dL_priority_25 (by decide) ?_
    exact zz_ri (wf := (fun u : xS × (Nat → Int64) => oE o co u.2 :: xW h a cA nL nC nB u.1.1 u.1.2)) ((u.1, u.2), vp_updL f 0 r.toInt64) hx hb hr hlocks hP hK hD hS (Or.inl ⟨rfl, r, (show vp_updL f 0 r.toInt64 0 = r.toInt64 from pk_uLs), hw⟩) dL_priority_26
set_option maxHeartbeats 4000000 in
set_option maxRecDepth 100000 in
theorem cL_lock_met (l : Launch) (hlT : l.stackTraces = false) (D : va_G) (h : Nat) (a : Nat → Nat) (cA : Nat → ClassId) (nL nC nB sz : Nat) (hn : nL ≤ 8 ∧ nC ≤ 8 ∧ nB ≤ 8) (F : Nat → Nat → Int32) (ls : Int32) (o : Nat) (co : ClassId) (f : Nat → Int64) (x : Int32) (hO : xs_ow nL (F 8)) : Met l yL_lock wsL_lock ({ frames := 8, cells := 3, slots := 18, locals := 125 }) (va_Pc [.ref h, .int x, .ref o] (zl_Pre D vwCl ((co, .long) :: xT cA) (oE o co f :: xW h a cA nL nC nB F ls) sz)) (va_Qi (zl_post F ls f (fun r u => sp_lock nL F ls x r u) (fun E => sx_lock nL F x E) (lk3 xE_I xE_S xE_A)) (zz_At D vwCl ((co, .long) :: xT cA) (fun u : xS × (Nat → Int64) => oE o co u.2 :: xW h a cA nL nC nB u.1.1 u.1.2) (va_A (oE o co f :: xW h a cA nL nC nB F ls) sz)) (va_A (oE o co f :: xW h a cA nL nC nB F ls) sz)) 3 18 (va_A (oE o co f :: xW h a cA nL nC nB F ls) sz) := by
  refine zl_of (Qc := fun A => va_Qi (zl_post F ls f (fun r u => sp_lock nL F ls x r u) (fun E => sx_lock nL F x E) (lk3 xE_I xE_S xE_A)) (zz_At D vwCl ((co, .long) :: xT cA) (fun u : xS × (Nat → Int64) => oE o co u.2 :: xW h a cA nL nC nB u.1.1 u.1.2) A) A) (by decide) rfl (Nat.le_of_ble_eq_true rfl) ?_
  intro p e s m args below meth c A H locs ls0 hx hb hr hml hown hts hlocks htab hT hN hA hP hK hD hS hl
  have hl : lv_has ls0 4 [(0, .ref h), (1, .int x), (2, .ref o)] := hl
  refine lv_aload_n hx hb dL_lock_0 rfl (lv_at hl 2 rfl) ?_
  refine lv_iconst (v := 0) hx hb dL_lock_1 (by decide) ?_
  refine lv_aload_n hx hb dL_lock_2 rfl (lv_at hl 0 rfl) ?_
  refine lv_iload_n hx hb dL_lock_3 rfl (lv_at hl 1 rfl) ?_
  have hPc := hP.sub (ws' := xW h a cA nL nC nB F ls) [1, 2, 3, 4, 5, 6, 7, 8, 9, 10, 11, 12, 13] rfl
  have hDc := hD.sub (ws' := xW h a cA nL nC nB F ls) [1, 2, 3, 4, 5, 6, 7, 8, 9, 10, 11, 12, 13] (by decide) rfl
  have hKc := hK.sub (tys' := xT cA) [1, 2, 3, 4, 5, 6, 7, 8, 9, 10, 11, 12] rfl
  refine zl_ci (wr := [oE o co f]) (vx_runV (As := [.int x]) (rest := [.int 0, .ref o]) ⟨hx, hb, hml, hown, hts⟩ (cX_lock l hlT D h a cA nL nC nB H.size hn F ls x hO) (cwV 1 hts gL_lock_X0_lock rfl rfl rfl (by decide +kernel) ⟨(Nat.le_of_ble_eq_true rfl), (Nat.le_of_ble_eq_true rfl)⟩) (zx_pV hPc hKc hDc hA hS hT (va_recv hKc hPc (ci := 0) (q0 := 0) rfl rfl)) rfl rfl hl.1 rfl (lv_room (Nat.le_of_ble_eq_true rfl)) dL_lock_4 ⟨(Nat.le_of_ble_eq_true rfl), (Nat.le_of_ble_eq_true rfl)⟩) hP hD hS hA [1, 2, 3, 4, 5, 6, 7, 8, 9, 10, 11, 12, 13] [0] rfl rfl (by decide) (by decide) (fun E ce q9 H locs hE hP hD hS hc1 hc2 hc3 => ?_) (fun r u H locs hw hP hD hS => ?_)
  · have hEs : E = xE_I ∨ E = xE_S ∨ E = xE_A := by
      first | exact hE.1 | (rcases hE with q | q <;> simp [q.1]; done) | (rcases hE with q | q | q <;> simp [q.1]; done)
    rcases hEs with hEq | hEs
    · subst hEq
      refine zc_catch (own := RL) (name := xE_I) hown [] ⟨0, 9, 12, 13⟩ [⟨0, 9, 15, 17⟩, ⟨0, 9, 18, 15⟩] htab (fun z hz => absurd hz List.not_mem_nil) (by decide) (show (13 : Nat) ≠ 0 by decide) (hts (.classLink RL 13 xE_I) (by decide +kernel)) (va_Nw.use rfl hT.2.2.2.1) hc1 hc2 hc3 ?_
      refine lv_astore_n (lv' := [(3, .ref q9), (0, .ref h), (1, .int x), (2, .ref o)]) hx hb dL_lock_12 rfl hl (by decide) rfl (fun ls1 hl => ?_)
      refine lv_iconst (v := 1) hx hb dL_lock_13 (by decide) ?_
      exact zz_ri (wf := (fun u : xS × (Nat → Int64) => oE o co u.2 :: xW h a cA nL nC nB u.1.1 u.1.2)) ((F, ls), f) hx hb hr hlocks hP hK hD hS (Or.inr ⟨xE_I, rfl, hE, rfl⟩) dL_lock_14
    rcases hEs with hEq | hEs
    · subst hEq
      refine zc_catch (own := RL) (name := xE_S) hown [⟨0, 9, 12, 13⟩] ⟨0, 9, 15, 17⟩ [⟨0, 9, 18, 15⟩] htab (fun z hz => by
          rcases List.mem_cons.mp hz with hz | hz
          · subst hz; exact Or.inr ⟨(show (13 : Nat) ≠ 0 by decide), xE_I, hts (.classLink RL 13 xE_I) (by decide +kernel), hN.2.1⟩
          exact absurd hz List.not_mem_nil) (by decide) (show (17 : Nat) ≠ 0 by decide) (hts (.classLink RL 17 xE_S) (by decide +kernel)) (va_Nw.use rfl hT.2.2.2.2.2.1) hc1 hc2 hc3 ?_
      refine lv_astore_n (lv' := [(3, .ref q9), (0, .ref h), (1, .int x), (2, .ref o)]) hx hb dL_lock_15 rfl hl (by decide) rfl (fun ls1 hl => ?_)
      refine lv_iconst (v := 2) hx hb dL_lock_16 (by decide) ?_
      exact zz_ri (wf := (fun u : xS × (Nat → Int64) => oE o co u.2 :: xW h a cA nL nC nB u.1.1 u.1.2)) ((F, ls), f) hx hb hr hlocks hP hK hD hS (Or.inr ⟨xE_S, rfl, hE, rfl⟩) dL_lock_17
    have hEq := hEs
    subst hEq
    refine zc_catch (own := RL) (name := xE_A) hown [⟨0, 9, 12, 13⟩, ⟨0, 9, 15, 17⟩] ⟨0, 9, 18, 15⟩ [] htab (fun z hz => by
        rcases List.mem_cons.mp hz with hz | hz
        · subst hz; exact Or.inr ⟨(show (13 : Nat) ≠ 0 by decide), xE_I, hts (.classLink RL 13 xE_I) (by decide +kernel), hN.1⟩
        rcases List.mem_cons.mp hz with hz | hz
        · subst hz; exact Or.inr ⟨(show (17 : Nat) ≠ 0 by decide), xE_S, hts (.classLink RL 17 xE_S) (by decide +kernel), hN.2.2.2.1⟩
        exact absurd hz List.not_mem_nil) (by decide) (show (15 : Nat) ≠ 0 by decide) (hts (.classLink RL 15 xE_A) (by decide +kernel)) (va_Nw.use rfl hT.2.2.2.2.1) hc1 hc2 hc3 ?_
    refine lv_astore_n (lv' := [(3, .ref q9), (0, .ref h), (1, .int x), (2, .ref o)]) hx hb dL_lock_18 rfl hl (by decide) rfl (fun ls1 hl => ?_)
    refine lv_iconst (v := 3) hx hb dL_lock_19 (by decide) ?_
    exact zz_ri (wf := (fun u : xS × (Nat → Int64) => oE o co u.2 :: xW h a cA nL nC nB u.1.1 u.1.2)) ((F, ls), f) hx hb hr hlocks hP hK hD hS (Or.inr ⟨xE_A, rfl, hE, rfl⟩) dL_lock_20
  · refine lv_i2l (v := r.toInt64) hx hb dL_lock_7 rfl ?_
    refine zz_last (i := 0) (ws' := oE o co (vp_updL f 0 r.toInt64) :: xW h a cA nL nC nB u.1 u.2) hx hb hK hP hD hS 0 0 rfl rfl (by decide) (by decide) rfl dL_lock_8 (fun H locs hP hD hS => ?_)
    refine lv_goto (tgt := 21) hx hb dL_lock_9 (by decide) ?_
    refine lv_iconst (v := 0) hx hb dL_lock_21 (by decide) ?_
    exact zz_ri (wf := (fun u : xS × (Nat → Int64) => oE o co u.2 :: xW h a cA nL nC nB u.1.1 u.1.2)) ((u.1, u.2), vp_updL f 0 r.toInt64) hx hb hr hlocks hP hK hD hS (Or.inl ⟨rfl, r, (show vp_updL f 0 r.toInt64 0 = r.toInt64 from pk_uLs), hw⟩) dL_lock_22
set_option maxHeartbeats 4000000 in
set_option maxRecDepth 100000 in
theorem cL_unlock_met (l : Launch) (hlT : l.stackTraces = false) (D : va_G) (h : Nat) (a : Nat → Nat) (cA : Nat → ClassId) (nL nC nB sz : Nat) (hn : nL ≤ 8 ∧ nC ≤ 8 ∧ nB ≤ 8) (F : Nat → Nat → Int32) (ls : Int32) (o : Nat) (co : ClassId) (f : Nat → Int64) (x : Int32) (hO : xs_ow nL (F 8)) : Met l yL_unlock wsL_unlock ({ frames := 8, cells := 3, slots := 18, locals := 126 }) (va_Pc [.ref h, .int x, .ref o] (zl_Pre D vwCl ((co, .long) :: xT cA) (oE o co f :: xW h a cA nL nC nB F ls) sz)) (va_Qi (zl_post F ls f (fun r u => sp_unlock nL F ls x r u) (fun E => sx_unlock nL F x E) (lk3 xE_I xE_S xE_A)) (zz_At D vwCl ((co, .long) :: xT cA) (fun u : xS × (Nat → Int64) => oE o co u.2 :: xW h a cA nL nC nB u.1.1 u.1.2) (va_A (oE o co f :: xW h a cA nL nC nB F ls) sz)) (va_A (oE o co f :: xW h a cA nL nC nB F ls) sz)) 3 18 (va_A (oE o co f :: xW h a cA nL nC nB F ls) sz) := by
  refine zl_of (Qc := fun A => va_Qi (zl_post F ls f (fun r u => sp_unlock nL F ls x r u) (fun E => sx_unlock nL F x E) (lk3 xE_I xE_S xE_A)) (zz_At D vwCl ((co, .long) :: xT cA) (fun u : xS × (Nat → Int64) => oE o co u.2 :: xW h a cA nL nC nB u.1.1 u.1.2) A) A) (by decide) rfl (Nat.le_of_ble_eq_true rfl) ?_
  intro p e s m args below meth c A H locs ls0 hx hb hr hml hown hts hlocks htab hT hN hA hP hK hD hS hl
  have hl : lv_has ls0 4 [(0, .ref h), (1, .int x), (2, .ref o)] := hl
  refine lv_aload_n hx hb dL_unlock_0 rfl (lv_at hl 2 rfl) ?_
  refine lv_iconst (v := 0) hx hb dL_unlock_1 (by decide) ?_
  refine lv_aload_n hx hb dL_unlock_2 rfl (lv_at hl 0 rfl) ?_
  refine lv_iload_n hx hb dL_unlock_3 rfl (lv_at hl 1 rfl) ?_
  have hPc := hP.sub (ws' := xW h a cA nL nC nB F ls) [1, 2, 3, 4, 5, 6, 7, 8, 9, 10, 11, 12, 13] rfl
  have hDc := hD.sub (ws' := xW h a cA nL nC nB F ls) [1, 2, 3, 4, 5, 6, 7, 8, 9, 10, 11, 12, 13] (by decide) rfl
  have hKc := hK.sub (tys' := xT cA) [1, 2, 3, 4, 5, 6, 7, 8, 9, 10, 11, 12] rfl
  refine zl_ci (wr := [oE o co f]) (vx_runV (As := [.int x]) (rest := [.int 0, .ref o]) ⟨hx, hb, hml, hown, hts⟩ (cX_unlock l hlT D h a cA nL nC nB H.size hn F ls x hO) (cwV 1 hts gL_unlock_X0_unlock rfl rfl rfl (by decide +kernel) ⟨(Nat.le_of_ble_eq_true rfl), (Nat.le_of_ble_eq_true rfl)⟩) (zx_pV hPc hKc hDc hA hS hT (va_recv hKc hPc (ci := 0) (q0 := 0) rfl rfl)) rfl rfl hl.1 rfl (lv_room (Nat.le_of_ble_eq_true rfl)) dL_unlock_4 ⟨(Nat.le_of_ble_eq_true rfl), (Nat.le_of_ble_eq_true rfl)⟩) hP hD hS hA [1, 2, 3, 4, 5, 6, 7, 8, 9, 10, 11, 12, 13] [0] rfl rfl (by decide) (by decide) (fun E ce q9 H locs hE hP hD hS hc1 hc2 hc3 => ?_) (fun r u H locs hw hP hD hS => ?_)
  · have hEs : E = xE_I ∨ E = xE_S ∨ E = xE_A := by
      first | exact hE.1 | (rcases hE with q | q <;> simp [q.1]; done) | (rcases hE with q | q | q <;> simp [q.1]; done)
    rcases hEs with hEq | hEs
    · subst hEq
      refine zc_catch (own := RL) (name := xE_I) hown [] ⟨0, 9, 12, 13⟩ [⟨0, 9, 15, 17⟩, ⟨0, 9, 18, 15⟩] htab (fun z hz => absurd hz List.not_mem_nil) (by decide) (show (13 : Nat) ≠ 0 by decide) (hts (.classLink RL 13 xE_I) (by decide +kernel)) (va_Nw.use rfl hT.2.2.2.1) hc1 hc2 hc3 ?_
      refine lv_astore_n (lv' := [(3, .ref q9), (0, .ref h), (1, .int x), (2, .ref o)]) hx hb dL_unlock_12 rfl hl (by decide) rfl (fun ls1 hl => ?_)
      refine lv_iconst (v := 1) hx hb dL_unlock_13 (by decide) ?_
      exact zz_ri (wf := (fun u : xS × (Nat → Int64) => oE o co u.2 :: xW h a cA nL nC nB u.1.1 u.1.2)) ((F, ls), f) hx hb hr hlocks hP hK hD hS (Or.inr ⟨xE_I, rfl, hE, rfl⟩) dL_unlock_14
    rcases hEs with hEq | hEs
    · subst hEq
      refine zc_catch (own := RL) (name := xE_S) hown [⟨0, 9, 12, 13⟩] ⟨0, 9, 15, 17⟩ [⟨0, 9, 18, 15⟩] htab (fun z hz => by
          rcases List.mem_cons.mp hz with hz | hz
          · subst hz; exact Or.inr ⟨(show (13 : Nat) ≠ 0 by decide), xE_I, hts (.classLink RL 13 xE_I) (by decide +kernel), hN.2.1⟩
          exact absurd hz List.not_mem_nil) (by decide) (show (17 : Nat) ≠ 0 by decide) (hts (.classLink RL 17 xE_S) (by decide +kernel)) (va_Nw.use rfl hT.2.2.2.2.2.1) hc1 hc2 hc3 ?_
      refine lv_astore_n (lv' := [(3, .ref q9), (0, .ref h), (1, .int x), (2, .ref o)]) hx hb dL_unlock_15 rfl hl (by decide) rfl (fun ls1 hl => ?_)
      refine lv_iconst (v := 2) hx hb dL_unlock_16 (by decide) ?_
      exact zz_ri (wf := (fun u : xS × (Nat → Int64) => oE o co u.2 :: xW h a cA nL nC nB u.1.1 u.1.2)) ((F, ls), f) hx hb hr hlocks hP hK hD hS (Or.inr ⟨xE_S, rfl, hE, rfl⟩) dL_unlock_17
    have hEq := hEs
    subst hEq
    refine zc_catch (own := RL) (name := xE_A) hown [⟨0, 9, 12, 13⟩, ⟨0, 9, 15, 17⟩] ⟨0, 9, 18, 15⟩ [] htab (fun z hz => by
        rcases List.mem_cons.mp hz with hz | hz
        · subst hz; exact Or.inr ⟨(show (13 : Nat) ≠ 0 by decide), xE_I, hts (.classLink RL 13 xE_I) (by decide +kernel), hN.1⟩
        rcases List.mem_cons.mp hz with hz | hz
        · subst hz; exact Or.inr ⟨(show (17 : Nat) ≠ 0 by decide), xE_S, hts (.classLink RL 17 xE_S) (by decide +kernel), hN.2.2.2.1⟩
        exact absurd hz List.not_mem_nil) (by decide) (show (15 : Nat) ≠ 0 by decide) (hts (.classLink RL 15 xE_A) (by decide +kernel)) (va_Nw.use rfl hT.2.2.2.2.1) hc1 hc2 hc3 ?_
    refine lv_astore_n (lv' := [(3, .ref q9), (0, .ref h), (1, .int x), (2, .ref o)]) hx hb dL_unlock_18 rfl hl (by decide) rfl (fun ls1 hl => ?_)
    refine lv_iconst (v := 3) hx hb dL_unlock_19 (by decide) ?_
    exact zz_ri (wf := (fun u : xS × (Nat → Int64) => oE o co u.2 :: xW h a cA nL nC nB u.1.1 u.1.2)) ((F, ls), f) hx hb hr hlocks hP hK hD hS (Or.inr ⟨xE_A, rfl, hE, rfl⟩) dL_unlock_20
  · refine lv_i2l (v := r.toInt64) hx hb dL_unlock_7 rfl ?_
    refine zz_last (i := 0) (ws' := oE o co (vp_updL f 0 r.toInt64) :: xW h a cA nL nC nB u.1 u.2) hx hb hK hP hD hS 0 0 rfl rfl (by decide) (by decide) rfl dL_unlock_8 (fun H locs hP hD hS => ?_)
    refine lv_goto (tgt := 21) hx hb dL_unlock_9 (by decide) ?_
    refine lv_iconst (v := 0) hx hb dL_unlock_21 (by decide) ?_
    exact zz_ri (wf := (fun u : xS × (Nat → Int64) => oE o co u.2 :: xW h a cA nL nC nB u.1.1 u.1.2)) ((u.1, u.2), vp_updL f 0 r.toInt64) hx hb hr hlocks hP hK hD hS (Or.inl ⟨rfl, r, (show vp_updL f 0 r.toInt64 0 = r.toInt64 from pk_uLs), hw⟩) dL_unlock_22
set_option maxHeartbeats 4000000 in
set_option maxRecDepth 100000 in
theorem cL_down_met (l : Launch) (hlT : l.stackTraces = false) (D : va_G) (h : Nat) (a : Nat → Nat) (cA : Nat → ClassId) (nL nC nB sz : Nat) (hn : nL ≤ 8 ∧ nC ≤ 8 ∧ nB ≤ 8) (F : Nat → Nat → Int32) (ls : Int32) (o : Nat) (co : ClassId) (f : Nat → Int64) (x : Int32) : Met l yL_down wsL_down ({ frames := 8, cells := 2, slots := 12, locals := 125 }) (va_Pc [.ref h, .int x, .ref o] (zl_Pre D vwCl ((co, .long) :: xT cA) (oE o co f :: xW h a cA nL nC nB F ls) sz)) (va_Qi (zl_post F ls f (fun r u => sp_down nC F ls x r u) (fun E => sx_run nC F x E) (lk3 xE_I xE_S "")) (zz_At D vwCl ((co, .long) :: xT cA) (fun u : xS × (Nat → Int64) => oE o co u.2 :: xW h a cA nL nC nB u.1.1 u.1.2) (va_A (oE o co f :: xW h a cA nL nC nB F ls) sz)) (va_A (oE o co f :: xW h a cA nL nC nB F ls) sz)) 2 12 (va_A (oE o co f :: xW h a cA nL nC nB F ls) sz) := by
  refine zl_of (Qc := fun A => va_Qi (zl_post F ls f (fun r u => sp_down nC F ls x r u) (fun E => sx_run nC F x E) (lk3 xE_I xE_S "")) (zz_At D vwCl ((co, .long) :: xT cA) (fun u : xS × (Nat → Int64) => oE o co u.2 :: xW h a cA nL nC nB u.1.1 u.1.2) A) A) (by decide) rfl (Nat.le_of_ble_eq_true rfl) ?_
  intro p e s m args below meth c A H locs ls0 hx hb hr hml hown hts hlocks htab hT hN hA hP hK hD hS hl
  have hl : lv_has ls0 4 [(0, .ref h), (1, .int x), (2, .ref o)] := hl
  refine lv_aload_n hx hb dL_down_0 rfl (lv_at hl 2 rfl) ?_
  refine lv_iconst (v := 0) hx hb dL_down_1 (by decide) ?_
  refine lv_aload_n hx hb dL_down_2 rfl (lv_at hl 0 rfl) ?_
  refine lv_iload_n hx hb dL_down_3 rfl (lv_at hl 1 rfl) ?_
  have hPc := hP.sub (ws' := xW h a cA nL nC nB F ls) [1, 2, 3, 4, 5, 6, 7, 8, 9, 10, 11, 12, 13] rfl
  have hDc := hD.sub (ws' := xW h a cA nL nC nB F ls) [1, 2, 3, 4, 5, 6, 7, 8, 9, 10, 11, 12, 13] (by decide) rfl
  have hKc := hK.sub (tys' := xT cA) [1, 2, 3, 4, 5, 6, 7, 8, 9, 10, 11, 12] rfl
  refine zl_ci (wr := [oE o co f]) (vx_runV (As := [.int x]) (rest := [.int 0, .ref o]) ⟨hx, hb, hml, hown, hts⟩ (cX_down l hlT D h a cA nL nC nB H.size hn F ls x) (cwV 1 hts gL_down_X0_down rfl rfl rfl (by decide +kernel) ⟨(Nat.le_of_ble_eq_true rfl), (Nat.le_of_ble_eq_true rfl)⟩) (zx_pV hPc hKc hDc hA hS hT (va_recv hKc hPc (ci := 0) (q0 := 0) rfl rfl)) rfl rfl hl.1 rfl (lv_room (Nat.le_of_ble_eq_true rfl)) dL_down_4 ⟨(Nat.le_of_ble_eq_true rfl), (Nat.le_of_ble_eq_true rfl)⟩) hP hD hS hA [1, 2, 3, 4, 5, 6, 7, 8, 9, 10, 11, 12, 13] [0] rfl rfl (by decide) (by decide) (fun E ce q9 H locs hE hP hD hS hc1 hc2 hc3 => ?_) (fun r u H locs hw hP hD hS => ?_)
  · have hEs : E = xE_I ∨ E = xE_S := by
      first | exact hE.1 | (rcases hE with q | q <;> simp [q.1]; done) | (rcases hE with q | q | q <;> simp [q.1]; done)
    rcases hEs with hEq | hEs
    · subst hEq
      refine zc_catch (own := RL) (name := xE_I) hown [] ⟨0, 9, 12, 13⟩ [⟨0, 9, 15, 17⟩] htab (fun z hz => absurd hz List.not_mem_nil) (by decide) (show (13 : Nat) ≠ 0 by decide) (hts (.classLink RL 13 xE_I) (by decide +kernel)) (va_Nw.use rfl hT.2.2.2.1) hc1 hc2 hc3 ?_
      refine lv_astore_n (lv' := [(3, .ref q9), (0, .ref h), (1, .int x), (2, .ref o)]) hx hb dL_down_12 rfl hl (by decide) rfl (fun ls1 hl => ?_)
      refine lv_iconst (v := 1) hx hb dL_down_13 (by decide) ?_
      exact zz_ri (wf := (fun u : xS × (Nat → Int64) => oE o co u.2 :: xW h a cA nL nC nB u.1.1 u.1.2)) ((F, ls), f) hx hb hr hlocks hP hK hD hS (Or.inr ⟨xE_I, rfl, hE, rfl⟩) dL_down_14
    have hEq := hEs
    subst hEq
    refine zc_catch (own := RL) (name := xE_S) hown [⟨0, 9, 12, 13⟩] ⟨0, 9, 15, 17⟩ [] htab (fun z hz => by
        rcases List.mem_cons.mp hz with hz | hz
        · subst hz; exact Or.inr ⟨(show (13 : Nat) ≠ 0 by decide), xE_I, hts (.classLink RL 13 xE_I) (by decide +kernel), hN.2.1⟩
        exact absurd hz List.not_mem_nil) (by decide) (show (17 : Nat) ≠ 0 by decide) (hts (.classLink RL 17 xE_S) (by decide +kernel)) (va_Nw.use rfl hT.2.2.2.2.2.1) hc1 hc2 hc3 ?_
    refine lv_astore_n (lv' := [(3, .ref q9), (0, .ref h), (1, .int x), (2, .ref o)]) hx hb dL_down_15 rfl hl (by decide) rfl (fun ls1 hl => ?_)
    refine lv_iconst (v := 2) hx hb dL_down_16 (by decide) ?_
    exact zz_ri (wf := (fun u : xS × (Nat → Int64) => oE o co u.2 :: xW h a cA nL nC nB u.1.1 u.1.2)) ((F, ls), f) hx hb hr hlocks hP hK hD hS (Or.inr ⟨xE_S, rfl, hE, rfl⟩) dL_down_17
  · refine lv_i2l (v := r.toInt64) hx hb dL_down_7 rfl ?_
    refine zz_last (i := 0) (ws' := oE o co (vp_updL f 0 r.toInt64) :: xW h a cA nL nC nB u.1 u.2) hx hb hK hP hD hS 0 0 rfl rfl (by decide) (by decide) rfl dL_down_8 (fun H locs hP hD hS => ?_)
    refine lv_goto (tgt := 18) hx hb dL_down_9 (by decide) ?_
    refine lv_iconst (v := 0) hx hb dL_down_18 (by decide) ?_
    exact zz_ri (wf := (fun u : xS × (Nat → Int64) => oE o co u.2 :: xW h a cA nL nC nB u.1.1 u.1.2)) ((u.1, u.2), vp_updL f 0 r.toInt64) hx hb hr hlocks hP hK hD hS (Or.inl ⟨rfl, r, (show vp_updL f 0 r.toInt64 0 = r.toInt64 from pk_uLs), hw⟩) dL_down_19
set_option maxHeartbeats 4000000 in
set_option maxRecDepth 100000 in
theorem cL_up_met (l : Launch) (hlT : l.stackTraces = false) (D : va_G) (h : Nat) (a : Nat → Nat) (cA : Nat → ClassId) (nL nC nB sz : Nat) (hn : nL ≤ 8 ∧ nC ≤ 8 ∧ nB ≤ 8) (F : Nat → Nat → Int32) (ls : Int32) (o : Nat) (co : ClassId) (f : Nat → Int64) (x : Int32) : Met l yL_up wsL_up ({ frames := 8, cells := 2, slots := 12, locals := 125 }) (va_Pc [.ref h, .int x, .ref o] (zl_Pre D vwCl ((co, .long) :: xT cA) (oE o co f :: xW h a cA nL nC nB F ls) sz)) (va_Qi (zl_post F ls f (fun r u => sp_up nC F ls x r u) (fun E => sx_up nC F x E) (lk3 xE_I xE_U "")) (zz_At D vwCl ((co, .long) :: xT cA) (fun u : xS × (Nat → Int64) => oE o co u.2 :: xW h a cA nL nC nB u.1.1 u.1.2) (va_A (oE o co f :: xW h a cA nL nC nB F ls) sz)) (va_A (oE o co f :: xW h a cA nL nC nB F ls) sz)) 2 12 (va_A (oE o co f :: xW h a cA nL nC nB F ls) sz) := by
  refine zl_of (Qc := fun A => va_Qi (zl_post F ls f (fun r u => sp_up nC F ls x r u) (fun E => sx_up nC F x E) (lk3 xE_I xE_U "")) (zz_At D vwCl ((co, .long) :: xT cA) (fun u : xS × (Nat → Int64) => oE o co u.2 :: xW h a cA nL nC nB u.1.1 u.1.2) A) A) (by decide) rfl (Nat.le_of_ble_eq_true rfl) ?_
  intro p e s m args below meth c A H locs ls0 hx hb hr hml hown hts hlocks htab hT hN hA hP hK hD hS hl
  have hl : lv_has ls0 4 [(0, .ref h), (1, .int x), (2, .ref o)] := hl
  refine lv_aload_n hx hb dL_up_0 rfl (lv_at hl 2 rfl) ?_
  refine lv_iconst (v := 0) hx hb dL_up_1 (by decide) ?_
  refine lv_aload_n hx hb dL_up_2 rfl (lv_at hl 0 rfl) ?_
  refine lv_iload_n hx hb dL_up_3 rfl (lv_at hl 1 rfl) ?_
  have hPc := hP.sub (ws' := xW h a cA nL nC nB F ls) [1, 2, 3, 4, 5, 6, 7, 8, 9, 10, 11, 12, 13] rfl
  have hDc := hD.sub (ws' := xW h a cA nL nC nB F ls) [1, 2, 3, 4, 5, 6, 7, 8, 9, 10, 11, 12, 13] (by decide) rfl
  have hKc := hK.sub (tys' := xT cA) [1, 2, 3, 4, 5, 6, 7, 8, 9, 10, 11, 12] rfl
  refine zl_ci (wr := [oE o co f]) (vx_runV (As := [.int x]) (rest := [.int 0, .ref o]) ⟨hx, hb, hml, hown, hts⟩ (cX_up l hlT D h a cA nL nC nB H.size hn F ls x) (cwV 1 hts gL_up_X0_up rfl rfl rfl (by decide +kernel) ⟨(Nat.le_of_ble_eq_true rfl), (Nat.le_of_ble_eq_true rfl)⟩) (zx_pV hPc hKc hDc hA hS hT (va_recv hKc hPc (ci := 0) (q0 := 0) rfl rfl)) rfl rfl hl.1 rfl (lv_room (Nat.le_of_ble_eq_true rfl)) dL_up_4 ⟨(Nat.le_of_ble_eq_true rfl), (Nat.le_of_ble_eq_true rfl)⟩) hP hD hS hA [1, 2, 3, 4, 5, 6, 7, 8, 9, 10, 11, 12, 13] [0] rfl rfl (by decide) (by decide) (fun E ce q9 H locs hE hP hD hS hc1 hc2 hc3 => ?_) (fun r u H locs hw hP hD hS => ?_)
  · have hEs : E = xE_I ∨ E = xE_U := by
      first | exact hE.1 | (rcases hE with q | q <;> simp [q.1]; done) | (rcases hE with q | q | q <;> simp [q.1]; done)
    rcases hEs with hEq | hEs
    · subst hEq
      refine zc_catch (own := RL) (name := xE_I) hown [] ⟨0, 9, 12, 13⟩ [⟨0, 9, 15, 35⟩] htab (fun z hz => absurd hz List.not_mem_nil) (by decide) (show (13 : Nat) ≠ 0 by decide) (hts (.classLink RL 13 xE_I) (by decide +kernel)) (va_Nw.use rfl hT.2.2.2.1) hc1 hc2 hc3 ?_
      refine lv_astore_n (lv' := [(3, .ref q9), (0, .ref h), (1, .int x), (2, .ref o)]) hx hb dL_up_12 rfl hl (by decide) rfl (fun ls1 hl => ?_)
      refine lv_iconst (v := 1) hx hb dL_up_13 (by decide) ?_
      exact zz_ri (wf := (fun u : xS × (Nat → Int64) => oE o co u.2 :: xW h a cA nL nC nB u.1.1 u.1.2)) ((F, ls), f) hx hb hr hlocks hP hK hD hS (Or.inr ⟨xE_I, rfl, hE, rfl⟩) dL_up_14
    have hEq := hEs
    subst hEq
    refine zc_catch (own := RL) (name := xE_U) hown [⟨0, 9, 12, 13⟩] ⟨0, 9, 15, 35⟩ [] htab (fun z hz => by
        rcases List.mem_cons.mp hz with hz | hz
        · subst hz; exact Or.inr ⟨(show (13 : Nat) ≠ 0 by decide), xE_I, hts (.classLink RL 13 xE_I) (by decide +kernel), hN.2.2.2.2.1⟩
        exact absurd hz List.not_mem_nil) (by decide) (show (35 : Nat) ≠ 0 by decide) (hts (.classLink RL 35 xE_U) (by decide +kernel)) (va_Nw.use rfl hT.2.2.2.2.2.2.1) hc1 hc2 hc3 ?_
    refine lv_astore_n (lv' := [(3, .ref q9), (0, .ref h), (1, .int x), (2, .ref o)]) hx hb dL_up_15 rfl hl (by decide) rfl (fun ls1 hl => ?_)
    refine lv_iconst (v := 2) hx hb dL_up_16 (by decide) ?_
    exact zz_ri (wf := (fun u : xS × (Nat → Int64) => oE o co u.2 :: xW h a cA nL nC nB u.1.1 u.1.2)) ((F, ls), f) hx hb hr hlocks hP hK hD hS (Or.inr ⟨xE_U, rfl, hE, rfl⟩) dL_up_17
  · refine lv_i2l (v := r.toInt64) hx hb dL_up_7 rfl ?_
    refine zz_last (i := 0) (ws' := oE o co (vp_updL f 0 r.toInt64) :: xW h a cA nL nC nB u.1 u.2) hx hb hK hP hD hS 0 0 rfl rfl (by decide) (by decide) rfl dL_up_8 (fun H locs hP hD hS => ?_)
    refine lv_goto (tgt := 18) hx hb dL_up_9 (by decide) ?_
    refine lv_iconst (v := 0) hx hb dL_up_18 (by decide) ?_
    exact zz_ri (wf := (fun u : xS × (Nat → Int64) => oE o co u.2 :: xW h a cA nL nC nB u.1.1 u.1.2)) ((u.1, u.2), vp_updL f 0 r.toInt64) hx hb hr hlocks hP hK hD hS (Or.inl ⟨rfl, r, (show vp_updL f 0 r.toInt64 0 = r.toInt64 from pk_uLs), hw⟩) dL_up_19
set_option maxHeartbeats 4000000 in
set_option maxRecDepth 100000 in
theorem cL_send_met (l : Launch) (hlT : l.stackTraces = false) (D : va_G) (h : Nat) (a : Nat → Nat) (cA : Nat → ClassId) (nL nC nB sz : Nat) (hn : nL ≤ 8 ∧ nC ≤ 8 ∧ nB ≤ 8) (F : Nat → Nat → Int32) (ls : Int32) (o : Nat) (co : ClassId) (f : Nat → Int64) (x y : Int32) (hFi : sp_fi nB F) : Met l yL_send wsL_send ({ frames := 8, cells := 2, slots := 12, locals := 127 }) (va_Pc [.ref h, .int x, .int y, .ref o] (zl_Pre D vwCl ((co, .long) :: xT cA) (oE o co f :: xW h a cA nL nC nB F ls) sz)) (va_Qi (zl_post F ls f (fun r u => sp_send nB F ls x y r u) (fun E => sx_run nB F x E) (lk3 xE_I xE_S "")) (zz_At D vwCl ((co, .long) :: xT cA) (fun u : xS × (Nat → Int64) => oE o co u.2 :: xW h a cA nL nC nB u.1.1 u.1.2) (va_A (oE o co f :: xW h a cA nL nC nB F ls) sz)) (va_A (oE o co f :: xW h a cA nL nC nB F ls) sz)) 2 12 (va_A (oE o co f :: xW h a cA nL nC nB F ls) sz) := by
  refine zl_of (Qc := fun A => va_Qi (zl_post F ls f (fun r u => sp_send nB F ls x y r u) (fun E => sx_run nB F x E) (lk3 xE_I xE_S "")) (zz_At D vwCl ((co, .long) :: xT cA) (fun u : xS × (Nat → Int64) => oE o co u.2 :: xW h a cA nL nC nB u.1.1 u.1.2) A) A) (by decide) rfl (Nat.le_of_ble_eq_true rfl) ?_
  intro p e s m args below meth c A H locs ls0 hx hb hr hml hown hts hlocks htab hT hN hA hP hK hD hS hl
  have hl : lv_has ls0 5 [(0, .ref h), (1, .int x), (2, .int y), (3, .ref o)] := hl
  refine lv_aload_n hx hb dL_send_0 rfl (lv_at hl 3 rfl) ?_
  refine lv_iconst (v := 0) hx hb dL_send_1 (by decide) ?_
  refine lv_aload_n hx hb dL_send_2 rfl (lv_at hl 0 rfl) ?_
  refine lv_iload_n hx hb dL_send_3 rfl (lv_at hl 1 rfl) ?_
  refine lv_iload_n hx hb dL_send_4 rfl (lv_at hl 2 rfl) ?_
  have hPc := hP.sub (ws' := xW h a cA nL nC nB F ls) [1, 2, 3, 4, 5, 6, 7, 8, 9, 10, 11, 12, 13] rfl
  have hDc := hD.sub (ws' := xW h a cA nL nC nB F ls) [1, 2, 3, 4, 5, 6, 7, 8, 9, 10, 11, 12, 13] (by decide) rfl
  have hKc := hK.sub (tys' := xT cA) [1, 2, 3, 4, 5, 6, 7, 8, 9, 10, 11, 12] rfl
  refine zl_ci (wr := [oE o co f]) (vx_runV (As := [.int x, .int y]) (rest := [.int 0, .ref o]) ⟨hx, hb, hml, hown, hts⟩ (cX_send l hlT D h a cA nL nC nB H.size hn F ls x y hFi) (cwV 2 hts gL_send_X0_send rfl rfl rfl (by decide +kernel) ⟨(Nat.le_of_ble_eq_true rfl), (Nat.le_of_ble_eq_true rfl)⟩) (zx_pV hPc hKc hDc hA hS hT (va_recv hKc hPc (ci := 0) (q0 := 0) rfl rfl)) rfl rfl hl.1 rfl (lv_room (Nat.le_of_ble_eq_true rfl)) dL_send_5 ⟨(Nat.le_of_ble_eq_true rfl), (Nat.le_of_ble_eq_true rfl)⟩) hP hD hS hA [1, 2, 3, 4, 5, 6, 7, 8, 9, 10, 11, 12, 13] [0] rfl rfl (by decide) (by decide) (fun E ce q9 H locs hE hP hD hS hc1 hc2 hc3 => ?_) (fun r u H locs hw hP hD hS => ?_)
  · have hEs : E = xE_I ∨ E = xE_S := by
      first | exact hE.1 | (rcases hE with q | q <;> simp [q.1]; done) | (rcases hE with q | q | q <;> simp [q.1]; done)
    rcases hEs with hEq | hEs
    · subst hEq
      refine zc_catch (own := RL) (name := xE_I) hown [] ⟨0, 10, 13, 13⟩ [⟨0, 10, 17, 17⟩] htab (fun z hz => absurd hz List.not_mem_nil) (by decide) (show (13 : Nat) ≠ 0 by decide) (hts (.classLink RL 13 xE_I) (by decide +kernel)) (va_Nw.use rfl hT.2.2.2.1) hc1 hc2 hc3 ?_
      refine lv_astore (lv' := [(4, .ref q9), (0, .ref h), (1, .int x), (2, .int y), (3, .ref o)]) hx hb dL_send_13 hl (by decide) rfl (fun ls1 hl => ?_)
      refine lv_iconst (v := 1) hx hb dL_send_15 (by decide) ?_
      exact zz_ri (wf := (fun u : xS × (Nat → Int64) => oE o co u.2 :: xW h a cA nL nC nB u.1.1 u.1.2)) ((F, ls), f) hx hb hr hlocks hP hK hD hS (Or.inr ⟨xE_I, rfl, hE, rfl⟩) dL_send_16
    have hEq := hEs
    subst hEq
    refine zc_catch (own := RL) (name := xE_S) hown [⟨0, 10, 13, 13⟩] ⟨0, 10, 17, 17⟩ [] htab (fun z hz => by
        rcases List.mem_cons.mp hz with hz | hz
        · subst hz; exact Or.inr ⟨(show (13 : Nat) ≠ 0 by decide), xE_I, hts (.classLink RL 13 xE_I) (by decide +kernel), hN.2.1⟩
        exact absurd hz List.not_mem_nil) (by decide) (show (17 : Nat) ≠ 0 by decide) (hts (.classLink RL 17 xE_S) (by decide +kernel)) (va_Nw.use rfl hT.2.2.2.2.2.1) hc1 hc2 hc3 ?_
    refine lv_astore (lv' := [(4, .ref q9), (0, .ref h), (1, .int x), (2, .int y), (3, .ref o)]) hx hb dL_send_17 hl (by decide) rfl (fun ls1 hl => ?_)
    refine lv_iconst (v := 2) hx hb dL_send_19 (by decide) ?_
    exact zz_ri (wf := (fun u : xS × (Nat → Int64) => oE o co u.2 :: xW h a cA nL nC nB u.1.1 u.1.2)) ((F, ls), f) hx hb hr hlocks hP hK hD hS (Or.inr ⟨xE_S, rfl, hE, rfl⟩) dL_send_20
  · refine lv_i2l (v := r.toInt64) hx hb dL_send_8 rfl ?_
    refine zz_last (i := 0) (ws' := oE o co (vp_updL f 0 r.toInt64) :: xW h a cA nL nC nB u.1 u.2) hx hb hK hP hD hS 0 0 rfl rfl (by decide) (by decide) rfl dL_send_9 (fun H locs hP hD hS => ?_)
    refine lv_goto (tgt := 21) hx hb dL_send_10 (by decide) ?_
    refine lv_iconst (v := 0) hx hb dL_send_21 (by decide) ?_
    exact zz_ri (wf := (fun u : xS × (Nat → Int64) => oE o co u.2 :: xW h a cA nL nC nB u.1.1 u.1.2)) ((u.1, u.2), vp_updL f 0 r.toInt64) hx hb hr hlocks hP hK hD hS (Or.inl ⟨rfl, r, (show vp_updL f 0 r.toInt64 0 = r.toInt64 from pk_uLs), hw⟩) dL_send_22
set_option maxHeartbeats 4000000 in
set_option maxRecDepth 100000 in
theorem cL_receive_met (l : Launch) (hlT : l.stackTraces = false) (D : va_G) (h : Nat) (a : Nat → Nat) (cA : Nat → ClassId) (nL nC nB sz : Nat) (hn : nL ≤ 8 ∧ nC ≤ 8 ∧ nB ≤ 8) (F : Nat → Nat → Int32) (ls : Int32) (o : Nat) (co : ClassId) (f : Nat → Int64) (x : Int32) (hFi : sp_fi nB F) : Met l yL_receive wsL_receive ({ frames := 8, cells := 2, slots := 12, locals := 126 }) (va_Pc [.ref h, .int x, .ref o] (zl_Pre D vwCl ((co, .long) :: xT cA) (oE o co f :: xW h a cA nL nC nB F ls) sz)) (va_Qi (zl_post F ls f (fun r u => sp_receive nB F ls x r u) (fun E => sx_run nB F x E) (lk3 xE_I xE_S "")) (zz_At D vwCl ((co, .long) :: xT cA) (fun u : xS × (Nat → Int64) => oE o co u.2 :: xW h a cA nL nC nB u.1.1 u.1.2) (va_A (oE o co f :: xW h a cA nL nC nB F ls) sz)) (va_A (oE o co f :: xW h a cA nL nC nB F ls) sz)) 2 12 (va_A (oE o co f :: xW h a cA nL nC nB F ls) sz) := by
  refine zl_of (Qc := fun A => va_Qi (zl_post F ls f (fun r u => sp_receive nB F ls x r u) (fun E => sx_run nB F x E) (lk3 xE_I xE_S "")) (zz_At D vwCl ((co, .long) :: xT cA) (fun u : xS × (Nat → Int64) => oE o co u.2 :: xW h a cA nL nC nB u.1.1 u.1.2) A) A) (by decide) rfl (Nat.le_of_ble_eq_true rfl) ?_
  intro p e s m args below meth c A H locs ls0 hx hb hr hml hown hts hlocks htab hT hN hA hP hK hD hS hl
  have hl : lv_has ls0 4 [(0, .ref h), (1, .int x), (2, .ref o)] := hl
  refine lv_aload_n hx hb dL_receive_0 rfl (lv_at hl 2 rfl) ?_
  refine lv_iconst (v := 0) hx hb dL_receive_1 (by decide) ?_
  refine lv_aload_n hx hb dL_receive_2 rfl (lv_at hl 0 rfl) ?_
  refine lv_iload_n hx hb dL_receive_3 rfl (lv_at hl 1 rfl) ?_
  have hPc := hP.sub (ws' := xW h a cA nL nC nB F ls) [1, 2, 3, 4, 5, 6, 7, 8, 9, 10, 11, 12, 13] rfl
  have hDc := hD.sub (ws' := xW h a cA nL nC nB F ls) [1, 2, 3, 4, 5, 6, 7, 8, 9, 10, 11, 12, 13] (by decide) rfl
  have hKc := hK.sub (tys' := xT cA) [1, 2, 3, 4, 5, 6, 7, 8, 9, 10, 11, 12] rfl
  refine zl_ci (wr := [oE o co f]) (vx_runV (As := [.int x]) (rest := [.int 0, .ref o]) ⟨hx, hb, hml, hown, hts⟩ (cX_receive l hlT D h a cA nL nC nB H.size hn F ls x hFi) (cwV 1 hts gL_receive_X0_receive rfl rfl rfl (by decide +kernel) ⟨(Nat.le_of_ble_eq_true rfl), (Nat.le_of_ble_eq_true rfl)⟩) (zx_pV hPc hKc hDc hA hS hT (va_recv hKc hPc (ci := 0) (q0 := 0) rfl rfl)) rfl rfl hl.1 rfl (lv_room (Nat.le_of_ble_eq_true rfl)) dL_receive_4 ⟨(Nat.le_of_ble_eq_true rfl), (Nat.le_of_ble_eq_true rfl)⟩) hP hD hS hA [1, 2, 3, 4, 5, 6, 7, 8, 9, 10, 11, 12, 13] [0] rfl rfl (by decide) (by decide) (fun E ce q9 H locs hE hP hD hS hc1 hc2 hc3 => ?_) (fun r u H locs hw hP hD hS => ?_)
  · have hEs : E = xE_I ∨ E = xE_S := by
      first | exact hE.1 | (rcases hE with q | q <;> simp [q.1]; done) | (rcases hE with q | q | q <;> simp [q.1]; done)
    rcases hEs with hEq | hEs
    · subst hEq
      refine zc_catch (own := RL) (name := xE_I) hown [] ⟨0, 9, 12, 13⟩ [⟨0, 9, 15, 17⟩] htab (fun z hz => absurd hz List.not_mem_nil) (by decide) (show (13 : Nat) ≠ 0 by decide) (hts (.classLink RL 13 xE_I) (by decide +kernel)) (va_Nw.use rfl hT.2.2.2.1) hc1 hc2 hc3 ?_
      refine lv_astore_n (lv' := [(3, .ref q9), (0, .ref h), (1, .int x), (2, .ref o)]) hx hb dL_receive_12 rfl hl (by decide) rfl (fun ls1 hl => ?_)
      refine lv_iconst (v := 1) hx hb dL_receive_13 (by decide) ?_
      exact zz_ri (wf := (fun u : xS × (Nat → Int64) => oE o co u.2 :: xW h a cA nL nC nB u.1.1 u.1.2)) ((F, ls), f) hx hb hr hlocks hP hK hD hS (Or.inr ⟨xE_I, rfl, hE, rfl⟩) dL_receive_14
    have hEq := hEs
    subst hEq
    refine zc_catch (own := RL) (name := xE_S) hown [⟨0, 9, 12, 13⟩] ⟨0, 9, 15, 17⟩ [] htab (fun z hz => by
        rcases List.mem_cons.mp hz with hz | hz
        · subst hz; exact Or.inr ⟨(show (13 : Nat) ≠ 0 by decide), xE_I, hts (.classLink RL 13 xE_I) (by decide +kernel), hN.2.1⟩
        exact absurd hz List.not_mem_nil) (by decide) (show (17 : Nat) ≠ 0 by decide) (hts (.classLink RL 17 xE_S) (by decide +kernel)) (va_Nw.use rfl hT.2.2.2.2.2.1) hc1 hc2 hc3 ?_
    refine lv_astore_n (lv' := [(3, .ref q9), (0, .ref h), (1, .int x), (2, .ref o)]) hx hb dL_receive_15 rfl hl (by decide) rfl (fun ls1 hl => ?_)
    refine lv_iconst (v := 2) hx hb dL_receive_16 (by decide) ?_
    exact zz_ri (wf := (fun u : xS × (Nat → Int64) => oE o co u.2 :: xW h a cA nL nC nB u.1.1 u.1.2)) ((F, ls), f) hx hb hr hlocks hP hK hD hS (Or.inr ⟨xE_S, rfl, hE, rfl⟩) dL_receive_17
  · refine lv_i2l (v := r.toInt64) hx hb dL_receive_7 rfl ?_
    refine zz_last (i := 0) (ws' := oE o co (vp_updL f 0 r.toInt64) :: xW h a cA nL nC nB u.1 u.2) hx hb hK hP hD hS 0 0 rfl rfl (by decide) (by decide) rfl dL_receive_8 (fun H locs hP hD hS => ?_)
    refine lv_goto (tgt := 18) hx hb dL_receive_9 (by decide) ?_
    refine lv_iconst (v := 0) hx hb dL_receive_18 (by decide) ?_
    exact zz_ri (wf := (fun u : xS × (Nat → Int64) => oE o co u.2 :: xW h a cA nL nC nB u.1.1 u.1.2)) ((u.1, u.2), vp_updL f 0 r.toInt64) hx hb hr hlocks hP hK hD hS (Or.inl ⟨rfl, r, (show vp_updL f 0 r.toInt64 0 = r.toInt64 from pk_uLs), hw⟩) dL_receive_19
set_option maxHeartbeats 4000000 in
set_option maxRecDepth 100000 in
theorem cL_sleep_met (l : Launch) (hlT : l.stackTraces = false) (D : va_G) (h : Nat) (a : Nat → Nat) (cA : Nat → ClassId) (nL nC nB sz : Nat) (hn : nL ≤ 8 ∧ nC ≤ 8 ∧ nB ≤ 8) (F : Nat → Nat → Int32) (ls : Int32) (o : Nat) (co : ClassId) (f : Nat → Int64) (x : Int32) : Met l yL_sleep wsL_sleep ({ frames := 8, cells := 2, slots := 12, locals := 125 }) (va_Pc [.ref h, .int x, .ref o] (zl_Pre D vwCl ((co, .long) :: xT cA) (oE o co f :: xW h a cA nL nC nB F ls) sz)) (va_Qi (zl_post F ls f (fun r u => sp_sleep F ls x r u) (fun E => sx_sleep F x E) (lk3 xE_S xE_A "")) (zz_At D vwCl ((co, .long) :: xT cA) (fun u : xS × (Nat → Int64) => oE o co u.2 :: xW h a cA nL nC nB u.1.1 u.1.2) (va_A (oE o co f :: xW h a cA nL nC nB F ls) sz)) (va_A (oE o co f :: xW h a cA nL nC nB F ls) sz)) 2 12 (va_A (oE o co f :: xW h a cA nL nC nB F ls) sz) := by
  refine zl_of (Qc := fun A => va_Qi (zl_post F ls f (fun r u => sp_sleep F ls x r u) (fun E => sx_sleep F x E) (lk3 xE_S xE_A "")) (zz_At D vwCl ((co, .long) :: xT cA) (fun u : xS × (Nat → Int64) => oE o co u.2 :: xW h a cA nL nC nB u.1.1 u.1.2) A) A) (by decide) rfl (Nat.le_of_ble_eq_true rfl) ?_
  intro p e s m args below meth c A H locs ls0 hx hb hr hml hown hts hlocks htab hT hN hA hP hK hD hS hl
  have hl : lv_has ls0 4 [(0, .ref h), (1, .int x), (2, .ref o)] := hl
  refine lv_aload_n hx hb dL_sleep_0 rfl (lv_at hl 2 rfl) ?_
  refine lv_iconst (v := 0) hx hb dL_sleep_1 (by decide) ?_
  refine lv_aload_n hx hb dL_sleep_2 rfl (lv_at hl 0 rfl) ?_
  refine lv_iload_n hx hb dL_sleep_3 rfl (lv_at hl 1 rfl) ?_
  have hPc := hP.sub (ws' := xW h a cA nL nC nB F ls) [1, 2, 3, 4, 5, 6, 7, 8, 9, 10, 11, 12, 13] rfl
  have hDc := hD.sub (ws' := xW h a cA nL nC nB F ls) [1, 2, 3, 4, 5, 6, 7, 8, 9, 10, 11, 12, 13] (by decide) rfl
  have hKc := hK.sub (tys' := xT cA) [1, 2, 3, 4, 5, 6, 7, 8, 9, 10, 11, 12] rfl
  refine zl_ci (wr := [oE o co f]) (vx_runV (As := [.int x]) (rest := [.int 0, .ref o]) ⟨hx, hb, hml, hown, hts⟩ (cX_sleep l hlT D h a cA nL nC nB H.size hn F ls x) (cwV 1 hts gL_sleep_X0_sleep rfl rfl rfl (by decide +kernel) ⟨(Nat.le_of_ble_eq_true rfl), (Nat.le_of_ble_eq_true rfl)⟩) (zx_pV hPc hKc hDc hA hS hT (va_recv hKc hPc (ci := 0) (q0 := 0) rfl rfl)) rfl rfl hl.1 rfl (lv_room (Nat.le_of_ble_eq_true rfl)) dL_sleep_4 ⟨(Nat.le_of_ble_eq_true rfl), (Nat.le_of_ble_eq_true rfl)⟩) hP hD hS hA [1, 2, 3, 4, 5, 6, 7, 8, 9, 10, 11, 12, 13] [0] rfl rfl (by decide) (by decide) (fun E ce q9 H locs hE hP hD hS hc1 hc2 hc3 => ?_) (fun r u H locs hw hP hD hS => ?_)
  · have hEs : E = xE_S ∨ E = xE_A := by
      first | exact hE.1 | (rcases hE with q | q <;> simp [q.1]; done) | (rcases hE with q | q | q <;> simp [q.1]; done)
    rcases hEs with hEq | hEs
    · subst hEq
      refine zc_catch (own := RL) (name := xE_S) hown [] ⟨0, 9, 12, 17⟩ [⟨0, 9, 15, 15⟩] htab (fun z hz => absurd hz List.not_mem_nil) (by decide) (show (17 : Nat) ≠ 0 by decide) (hts (.classLink RL 17 xE_S) (by decide +kernel)) (va_Nw.use rfl hT.2.2.2.2.2.1) hc1 hc2 hc3 ?_
      refine lv_astore_n (lv' := [(3, .ref q9), (0, .ref h), (1, .int x), (2, .ref o)]) hx hb dL_sleep_12 rfl hl (by decide) rfl (fun ls1 hl => ?_)
      refine lv_iconst (v := 1) hx hb dL_sleep_13 (by decide) ?_
      exact zz_ri (wf := (fun u : xS × (Nat → Int64) => oE o co u.2 :: xW h a cA nL nC nB u.1.1 u.1.2)) ((F, ls), f) hx hb hr hlocks hP hK hD hS (Or.inr ⟨xE_S, rfl, hE, rfl⟩) dL_sleep_14
    have hEq := hEs
    subst hEq
    refine zc_catch (own := RL) (name := xE_A) hown [⟨0, 9, 12, 17⟩] ⟨0, 9, 15, 15⟩ [] htab (fun z hz => by
        rcases List.mem_cons.mp hz with hz | hz
        · subst hz; exact Or.inr ⟨(show (17 : Nat) ≠ 0 by decide), xE_S, hts (.classLink RL 17 xE_S) (by decide +kernel), hN.2.2.2.1⟩
        exact absurd hz List.not_mem_nil) (by decide) (show (15 : Nat) ≠ 0 by decide) (hts (.classLink RL 15 xE_A) (by decide +kernel)) (va_Nw.use rfl hT.2.2.2.2.1) hc1 hc2 hc3 ?_
    refine lv_astore_n (lv' := [(3, .ref q9), (0, .ref h), (1, .int x), (2, .ref o)]) hx hb dL_sleep_15 rfl hl (by decide) rfl (fun ls1 hl => ?_)
    refine lv_iconst (v := 2) hx hb dL_sleep_16 (by decide) ?_
    exact zz_ri (wf := (fun u : xS × (Nat → Int64) => oE o co u.2 :: xW h a cA nL nC nB u.1.1 u.1.2)) ((F, ls), f) hx hb hr hlocks hP hK hD hS (Or.inr ⟨xE_A, rfl, hE, rfl⟩) dL_sleep_17
  · refine lv_i2l (v := r.toInt64) hx hb dL_sleep_7 rfl ?_
    refine zz_last (i := 0) (ws' := oE o co (vp_updL f 0 r.toInt64) :: xW h a cA nL nC nB u.1 u.2) hx hb hK hP hD hS 0 0 rfl rfl (by decide) (by decide) rfl dL_sleep_8 (fun H locs hP hD hS => ?_)
    refine lv_goto (tgt := 18) hx hb dL_sleep_9 (by decide) ?_
    refine lv_iconst (v := 0) hx hb dL_sleep_18 (by decide) ?_
    exact zz_ri (wf := (fun u : xS × (Nat → Int64) => oE o co u.2 :: xW h a cA nL nC nB u.1.1 u.1.2)) ((u.1, u.2), vp_updL f 0 r.toInt64) hx hb hr hlocks hP hK hD hS (Or.inl ⟨rfl, r, (show vp_updL f 0 r.toInt64 0 = r.toInt64 from pk_uLs), hw⟩) dL_sleep_19
set_option maxHeartbeats 4000000 in
set_option maxRecDepth 100000 in
theorem cL_end_met (l : Launch) (hlT : l.stackTraces = false) (D : va_G) (h : Nat) (a : Nat → Nat) (cA : Nat → ClassId) (nL nC nB sz : Nat) (hn : nL ≤ 8 ∧ nC ≤ 8 ∧ nB ≤ 8) (F : Nat → Nat → Int32) (ls : Int32) (o : Nat) (co : ClassId) (f : Nat → Int64) (hO : xs_ow nL (F 8)) : Met l yL_end wsL_end ({ frames := 8, cells := 2, slots := 12, locals := 124 }) (va_Pc [.ref h, .ref o] (zl_Pre D vwCl ((co, .long) :: xT cA) (oE o co f :: xW h a cA nL nC nB F ls) sz)) (va_Qi (zl_post F ls f (fun r u => sp_end nL F ls r u) (fun E => sx_end nL F E) (lk3 xE_S xE_A "")) (zz_At D vwCl ((co, .long) :: xT cA) (fun u : xS × (Nat → Int64) => oE o co u.2 :: xW h a cA nL nC nB u.1.1 u.1.2) (va_A (oE o co f :: xW h a cA nL nC nB F ls) sz)) (va_A (oE o co f :: xW h a cA nL nC nB F ls) sz)) 2 12 (va_A (oE o co f :: xW h a cA nL nC nB F ls) sz) := by
  refine zl_of (Qc := fun A => va_Qi (zl_post F ls f (fun r u => sp_end nL F ls r u) (fun E => sx_end nL F E) (lk3 xE_S xE_A "")) (zz_At D vwCl ((co, .long) :: xT cA) (fun u : xS × (Nat → Int64) => oE o co u.2 :: xW h a cA nL nC nB u.1.1 u.1.2) A) A) (by decide) rfl (Nat.le_of_ble_eq_true rfl) ?_
  intro p e s m args below meth c A H locs ls0 hx hb hr hml hown hts hlocks htab hT hN hA hP hK hD hS hl
  have hl : lv_has ls0 3 [(0, .ref h), (1, .ref o)] := hl
  refine lv_aload_n hx hb dL_end_0 rfl (lv_at hl 1 rfl) ?_
  refine lv_iconst (v := 0) hx hb dL_end_1 (by decide) ?_
  refine lv_aload_n hx hb dL_end_2 rfl (lv_at hl 0 rfl) ?_
  have hPc := hP.sub (ws' := xW h a cA nL nC nB F ls) [1, 2, 3, 4, 5, 6, 7, 8, 9, 10, 11, 12, 13] rfl
  have hDc := hD.sub (ws' := xW h a cA nL nC nB F ls) [1, 2, 3, 4, 5, 6, 7, 8, 9, 10, 11, 12, 13] (by decide) rfl
  have hKc := hK.sub (tys' := xT cA) [1, 2, 3, 4, 5, 6, 7, 8, 9, 10, 11, 12] rfl
  refine zl_ci (wr := [oE o co f]) (vx_runV (As := []) (rest := [.int 0, .ref o]) ⟨hx, hb, hml, hown, hts⟩ (cX_end l hlT D h a cA nL nC nB H.size hn F ls hO) (cwV 0 hts gL_end_X0_end rfl rfl rfl (by decide +kernel) ⟨(Nat.le_of_ble_eq_true rfl), (Nat.le_of_ble_eq_true rfl)⟩) (zx_pV hPc hKc hDc hA hS hT (va_recv hKc hPc (ci := 0) (q0 := 0) rfl rfl)) rfl rfl hl.1 rfl (lv_room (Nat.le_of_ble_eq_true rfl)) dL_end_3 ⟨(Nat.le_of_ble_eq_true rfl), (Nat.le_of_ble_eq_true rfl)⟩) hP hD hS hA [1, 2, 3, 4, 5, 6, 7, 8, 9, 10, 11, 12, 13] [0] rfl rfl (by decide) (by decide) (fun E ce q9 H locs hE hP hD hS hc1 hc2 hc3 => ?_) (fun r u H locs hw hP hD hS => ?_)
  · have hEs : E = xE_S ∨ E = xE_A := by
      first | exact hE.1 | (rcases hE with q | q <;> simp [q.1]; done) | (rcases hE with q | q | q <;> simp [q.1]; done)
    rcases hEs with hEq | hEs
    · subst hEq
      refine zc_catch (own := RL) (name := xE_S) hown [] ⟨0, 8, 11, 17⟩ [⟨0, 8, 14, 15⟩] htab (fun z hz => absurd hz List.not_mem_nil) (by decide) (show (17 : Nat) ≠ 0 by decide) (hts (.classLink RL 17 xE_S) (by decide +kernel)) (va_Nw.use rfl hT.2.2.2.2.2.1) hc1 hc2 hc3 ?_
      refine lv_astore_n (lv' := [(2, .ref q9), (0, .ref h), (1, .ref o)]) hx hb dL_end_11 rfl hl (by decide) rfl (fun ls1 hl => ?_)
      refine lv_iconst (v := 1) hx hb dL_end_12 (by decide) ?_
      exact zz_ri (wf := (fun u : xS × (Nat → Int64) => oE o co u.2 :: xW h a cA nL nC nB u.1.1 u.1.2)) ((F, ls), f) hx hb hr hlocks hP hK hD hS (Or.inr ⟨xE_S, rfl, hE, rfl⟩) dL_end_13
    have hEq := hEs
    subst hEq
    refine zc_catch (own := RL) (name := xE_A) hown [⟨0, 8, 11, 17⟩] ⟨0, 8, 14, 15⟩ [] htab (fun z hz => by
        rcases List.mem_cons.mp hz with hz | hz
        · subst hz; exact Or.inr ⟨(show (17 : Nat) ≠ 0 by decide), xE_S, hts (.classLink RL 17 xE_S) (by decide +kernel), hN.2.2.2.1⟩
        exact absurd hz List.not_mem_nil) (by decide) (show (15 : Nat) ≠ 0 by decide) (hts (.classLink RL 15 xE_A) (by decide +kernel)) (va_Nw.use rfl hT.2.2.2.2.1) hc1 hc2 hc3 ?_
    refine lv_astore_n (lv' := [(2, .ref q9), (0, .ref h), (1, .ref o)]) hx hb dL_end_14 rfl hl (by decide) rfl (fun ls1 hl => ?_)
    refine lv_iconst (v := 2) hx hb dL_end_15 (by decide) ?_
    exact zz_ri (wf := (fun u : xS × (Nat → Int64) => oE o co u.2 :: xW h a cA nL nC nB u.1.1 u.1.2)) ((F, ls), f) hx hb hr hlocks hP hK hD hS (Or.inr ⟨xE_A, rfl, hE, rfl⟩) dL_end_16
  · refine lv_i2l (v := r.toInt64) hx hb dL_end_6 rfl ?_
    refine zz_last (i := 0) (ws' := oE o co (vp_updL f 0 r.toInt64) :: xW h a cA nL nC nB u.1 u.2) hx hb hK hP hD hS 0 0 rfl rfl (by decide) (by decide) rfl dL_end_7 (fun H locs hP hD hS => ?_)
    refine lv_goto (tgt := 17) hx hb dL_end_8 (by decide) ?_
    refine lv_iconst (v := 0) hx hb dL_end_17 (by decide) ?_
    exact zz_ri (wf := (fun u : xS × (Nat → Int64) => oE o co u.2 :: xW h a cA nL nC nB u.1.1 u.1.2)) ((u.1, u.2), vp_updL f 0 r.toInt64) hx hb hr hlocks hP hK hD hS (Or.inl ⟨rfl, r, (show vp_updL f 0 r.toInt64 0 = r.toInt64 from pk_uLs), hw⟩) dL_end_18
set_option maxHeartbeats 4000000 in
set_option maxRecDepth 100000 in
theorem cL_tick_met (l : Launch) (hlT : l.stackTraces = false) (D : va_G) (h : Nat) (a : Nat → Nat) (cA : Nat → ClassId) (nL nC nB sz : Nat) (hn : nL ≤ 8 ∧ nC ≤ 8 ∧ nB ≤ 8) (F : Nat → Nat → Int32) (ls : Int32) (o : Nat) (co : ClassId) (f : Nat → Int64) (x : Int32) : Met l yL_tick wsL_tick ({ frames := 7, cells := 1, slots := 6, locals := 105 }) (va_Pc [.ref h, .int x, .ref o] (zl_Pre D vwCl ((co, .long) :: xT cA) (oE o co f :: xW h a cA nL nC nB F ls) sz)) (va_Qi (zl_post F ls f (fun r u => sp_tick F ls x r u) (fun E => sx_tick x E) (lk3 xE_A "" "")) (zz_At D vwCl ((co, .long) :: xT cA) (fun u : xS × (Nat → Int64) => oE o co u.2 :: xW h a cA nL nC nB u.1.1 u.1.2) (va_A (oE o co f :: xW h a cA nL nC nB F ls) sz)) (va_A (oE o co f :: xW h a cA nL nC nB F ls) sz)) 1 6 (va_A (oE o co f :: xW h a cA nL nC nB F ls) sz) := by
  refine zl_of (Qc := fun A => va_Qi (zl_post F ls f (fun r u => sp_tick F ls x r u) (fun E => sx_tick x E) (lk3 xE_A "" "")) (zz_At D vwCl ((co, .long) :: xT cA) (fun u : xS × (Nat → Int64) => oE o co u.2 :: xW h a cA nL nC nB u.1.1 u.1.2) A) A) (by decide) rfl (Nat.le_of_ble_eq_true rfl) ?_
  intro p e s m args below meth c A H locs ls0 hx hb hr hml hown hts hlocks htab hT hN hA hP hK hD hS hl
  have hl : lv_has ls0 4 [(0, .ref h), (1, .int x), (2, .ref o)] := hl
  refine lv_aload_n hx hb dL_tick_0 rfl (lv_at hl 2 rfl) ?_
  refine lv_iconst (v := 0) hx hb dL_tick_1 (by decide) ?_
  refine lv_aload_n hx hb dL_tick_2 rfl (lv_at hl 0 rfl) ?_
  refine lv_iload_n hx hb dL_tick_3 rfl (lv_at hl 1 rfl) ?_
  have hPc := hP.sub (ws' := xW h a cA nL nC nB F ls) [1, 2, 3, 4, 5, 6, 7, 8, 9, 10, 11, 12, 13] rfl
  have hDc := hD.sub (ws' := xW h a cA nL nC nB F ls) [1, 2, 3, 4, 5, 6, 7, 8, 9, 10, 11, 12, 13] (by decide) rfl
  have hKc := hK.sub (tys' := xT cA) [1, 2, 3, 4, 5, 6, 7, 8, 9, 10, 11, 12] rfl
  refine zl_ci (wr := [oE o co f]) (vx_runV (As := [.int x]) (rest := [.int 0, .ref o]) ⟨hx, hb, hml, hown, hts⟩ (cX_tick l hlT D h a cA nL nC nB H.size hn F ls x) (cwV 1 hts gL_tick_X0_tick rfl rfl rfl (by decide +kernel) ⟨(Nat.le_of_ble_eq_true rfl), (Nat.le_of_ble_eq_true rfl)⟩) (zx_pV hPc hKc hDc hA hS hT (va_recv hKc hPc (ci := 0) (q0 := 0) rfl rfl)) rfl rfl hl.1 rfl (lv_room (Nat.le_of_ble_eq_true rfl)) dL_tick_4 ⟨(Nat.le_of_ble_eq_true rfl), (Nat.le_of_ble_eq_true rfl)⟩) hP hD hS hA [1, 2, 3, 4, 5, 6, 7, 8, 9, 10, 11, 12, 13] [0] rfl rfl (by decide) (by decide) (fun E ce q9 H locs hE hP hD hS hc1 hc2 hc3 => ?_) (fun r u H locs hw hP hD hS => ?_)
  · have hEs : E = xE_A := by
      first | exact hE.1 | (rcases hE with q | q <;> simp [q.1]; done) | (rcases hE with q | q | q <;> simp [q.1]; done)
    have hEq := hEs
    subst hEq
    refine zc_catch (own := RL) (name := xE_A) hown [] ⟨0, 9, 12, 15⟩ [] htab (fun z hz => absurd hz List.not_mem_nil) (by decide) (show (15 : Nat) ≠ 0 by decide) (hts (.classLink RL 15 xE_A) (by decide +kernel)) (va_Nw.use rfl hT.2.2.2.2.1) hc1 hc2 hc3 ?_
    refine lv_astore_n (lv' := [(3, .ref q9), (0, .ref h), (1, .int x), (2, .ref o)]) hx hb dL_tick_12 rfl hl (by decide) rfl (fun ls1 hl => ?_)
    refine lv_iconst (v := 1) hx hb dL_tick_13 (by decide) ?_
    exact zz_ri (wf := (fun u : xS × (Nat → Int64) => oE o co u.2 :: xW h a cA nL nC nB u.1.1 u.1.2)) ((F, ls), f) hx hb hr hlocks hP hK hD hS (Or.inr ⟨xE_A, rfl, hE, rfl⟩) dL_tick_14
  · refine lv_i2l (v := r.toInt64) hx hb dL_tick_7 rfl ?_
    refine zz_last (i := 0) (ws' := oE o co (vp_updL f 0 r.toInt64) :: xW h a cA nL nC nB u.1 u.2) hx hb hK hP hD hS 0 0 rfl rfl (by decide) (by decide) rfl dL_tick_8 (fun H locs hP hD hS => ?_)
    refine lv_goto (tgt := 15) hx hb dL_tick_9 (by decide) ?_
    refine lv_iconst (v := 0) hx hb dL_tick_15 (by decide) ?_
    exact zz_ri (wf := (fun u : xS × (Nat → Int64) => oE o co u.2 :: xW h a cA nL nC nB u.1.1 u.1.2)) ((u.1, u.2), vp_updL f 0 r.toInt64) hx hb hr hlocks hP hK hD hS (Or.inl ⟨rfl, r, (show vp_updL f 0 r.toInt64 0 = r.toInt64 from pk_uLs), hw⟩) dL_tick_16
set_option maxHeartbeats 4000000 in
set_option maxRecDepth 100000 in
theorem cL_told_met (l : Launch) (hlT : l.stackTraces = false) (D : va_G) (h : Nat) (a : Nat → Nat) (cA : Nat → ClassId) (nL nC nB sz : Nat) (hn : nL ≤ 8 ∧ nC ≤ 8 ∧ nB ≤ 8) (F : Nat → Nat → Int32) (ls : Int32) (o : Nat) (co : ClassId) (f : Nat → Int64) (x y : Int32) : Met l yL_told wsL_told ({ frames := 8, cells := 2, slots := 12, locals := 124 }) (va_Pc [.ref h, .int x, .int y, .ref o] (zl_Pre D vwCl ((co, .long) :: xT cA) (oE o co f :: xW h a cA nL nC nB F ls) sz)) (va_Qi (zl_post F ls f (fun r u => (sp_told nL F x y r) ∧ u = (F, ls)) (fun E => sx_told x y E) (lk3 xE_I xE_A "")) (zz_At D vwCl ((co, .long) :: xT cA) (fun u : xS × (Nat → Int64) => oE o co u.2 :: xW h a cA nL nC nB u.1.1 u.1.2) (va_A (oE o co f :: xW h a cA nL nC nB F ls) sz)) (va_A (oE o co f :: xW h a cA nL nC nB F ls) sz)) 2 12 (va_A (oE o co f :: xW h a cA nL nC nB F ls) sz) := by
  refine zl_of (Qc := fun A => va_Qi (zl_post F ls f (fun r u => (sp_told nL F x y r) ∧ u = (F, ls)) (fun E => sx_told x y E) (lk3 xE_I xE_A "")) (zz_At D vwCl ((co, .long) :: xT cA) (fun u : xS × (Nat → Int64) => oE o co u.2 :: xW h a cA nL nC nB u.1.1 u.1.2) A) A) (by decide) rfl (Nat.le_of_ble_eq_true rfl) ?_
  intro p e s m args below meth c A H locs ls0 hx hb hr hml hown hts hlocks htab hT hN hA hP hK hD hS hl
  have hl : lv_has ls0 5 [(0, .ref h), (1, .int x), (2, .int y), (3, .ref o)] := hl
  refine lv_aload_n hx hb dL_told_0 rfl (lv_at hl 3 rfl) ?_
  refine lv_iconst (v := 0) hx hb dL_told_1 (by decide) ?_
  refine lv_aload_n hx hb dL_told_2 rfl (lv_at hl 0 rfl) ?_
  refine lv_iload_n hx hb dL_told_3 rfl (lv_at hl 1 rfl) ?_
  refine lv_iload_n hx hb dL_told_4 rfl (lv_at hl 2 rfl) ?_
  have hPc := hP.sub (ws' := xW h a cA nL nC nB F ls) [1, 2, 3, 4, 5, 6, 7, 8, 9, 10, 11, 12, 13] rfl
  have hDc := hD.sub (ws' := xW h a cA nL nC nB F ls) [1, 2, 3, 4, 5, 6, 7, 8, 9, 10, 11, 12, 13] (by decide) rfl
  have hKc := hK.sub (tys' := xT cA) [1, 2, 3, 4, 5, 6, 7, 8, 9, 10, 11, 12] rfl
  refine zl_ci (wr := [oE o co f]) (vx_runV (As := [.int x, .int y]) (rest := [.int 0, .ref o]) ⟨hx, hb, hml, hown, hts⟩ (cX_told l hlT D h a cA nL nC nB H.size hn F ls x y) (cwV 2 hts gL_told_X0_told rfl rfl rfl (by decide +kernel) ⟨(Nat.le_of_ble_eq_true rfl), (Nat.le_of_ble_eq_true rfl)⟩) (zx_pV hPc hKc hDc hA hS hT (va_recv hKc hPc (ci := 0) (q0 := 0) rfl rfl)) rfl rfl hl.1 rfl (lv_room (Nat.le_of_ble_eq_true rfl)) dL_told_5 ⟨(Nat.le_of_ble_eq_true rfl), (Nat.le_of_ble_eq_true rfl)⟩) hP hD hS hA [1, 2, 3, 4, 5, 6, 7, 8, 9, 10, 11, 12, 13] [0] rfl rfl (by decide) (by decide) (fun E ce q9 H locs hE hP hD hS hc1 hc2 hc3 => ?_) (fun r u H locs hw hP hD hS => ?_)
  · have hEs : E = xE_I ∨ E = xE_A := by
      first | exact hE.1 | (rcases hE with q | q <;> simp [q.1]; done) | (rcases hE with q | q | q <;> simp [q.1]; done)
    rcases hEs with hEq | hEs
    · subst hEq
      refine zc_catch (own := RL) (name := xE_I) hown [] ⟨0, 10, 13, 13⟩ [⟨0, 10, 17, 15⟩] htab (fun z hz => absurd hz List.not_mem_nil) (by decide) (show (13 : Nat) ≠ 0 by decide) (hts (.classLink RL 13 xE_I) (by decide +kernel)) (va_Nw.use rfl hT.2.2.2.1) hc1 hc2 hc3 ?_
      refine lv_astore (lv' := [(4, .ref q9), (0, .ref h), (1, .int x), (2, .int y), (3, .ref o)]) hx hb dL_told_13 hl (by decide) rfl (fun ls1 hl => ?_)
      refine lv_iconst (v := 1) hx hb dL_told_15 (by decide) ?_
      exact zz_ri (wf := (fun u : xS × (Nat → Int64) => oE o co u.2 :: xW h a cA nL nC nB u.1.1 u.1.2)) ((F, ls), f) hx hb hr hlocks hP hK hD hS (Or.inr ⟨xE_I, rfl, hE, rfl⟩) dL_told_16
    have hEq := hEs
    subst hEq
    refine zc_catch (own := RL) (name := xE_A) hown [⟨0, 10, 13, 13⟩] ⟨0, 10, 17, 15⟩ [] htab (fun z hz => by
        rcases List.mem_cons.mp hz with hz | hz
        · subst hz; exact Or.inr ⟨(show (13 : Nat) ≠ 0 by decide), xE_I, hts (.classLink RL 13 xE_I) (by decide +kernel), hN.1⟩
        exact absurd hz List.not_mem_nil) (by decide) (show (15 : Nat) ≠ 0 by decide) (hts (.classLink RL 15 xE_A) (by decide +kernel)) (va_Nw.use rfl hT.2.2.2.2.1) hc1 hc2 hc3 ?_
    refine lv_astore (lv' := [(4, .ref q9), (0, .ref h), (1, .int x), (2, .int y), (3, .ref o)]) hx hb dL_told_17 hl (by decide) rfl (fun ls1 hl => ?_)
    refine lv_iconst (v := 2) hx hb dL_told_19 (by decide) ?_
    exact zz_ri (wf := (fun u : xS × (Nat → Int64) => oE o co u.2 :: xW h a cA nL nC nB u.1.1 u.1.2)) ((F, ls), f) hx hb hr hlocks hP hK hD hS (Or.inr ⟨xE_A, rfl, hE, rfl⟩) dL_told_20
  · refine lv_i2l (v := r.toInt64) hx hb dL_told_8 rfl ?_
    refine zz_last (i := 0) (ws' := oE o co (vp_updL f 0 r.toInt64) :: xW h a cA nL nC nB F ls) hx hb hK hP hD hS 0 0 rfl rfl (by decide) (by decide) rfl dL_told_9 (fun H locs hP hD hS => ?_)
    refine lv_goto (tgt := 21) hx hb dL_told_10 (by decide) ?_
    refine lv_iconst (v := 0) hx hb dL_told_21 (by decide) ?_
    exact zz_ri (wf := (fun u : xS × (Nat → Int64) => oE o co u.2 :: xW h a cA nL nC nB u.1.1 u.1.2)) ((F, ls), vp_updL f 0 r.toInt64) hx hb hr hlocks hP hK hD hS (Or.inl ⟨rfl, r, (show vp_updL f 0 r.toInt64 0 = r.toInt64 from pk_uLs), ⟨hw, rfl⟩⟩) dL_told_22
set_option maxHeartbeats 4000000 in
set_option maxRecDepth 100000 in
theorem cL_owner_met (l : Launch) (hlT : l.stackTraces = false) (D : va_G) (h : Nat) (a : Nat → Nat) (cA : Nat → ClassId) (nL nC nB sz : Nat) (hn : nL ≤ 8 ∧ nC ≤ 8 ∧ nB ≤ 8) (F : Nat → Nat → Int32) (ls : Int32) (o : Nat) (co : ClassId) (f : Nat → Int64) (x : Int32) : Met l yL_owner wsL_owner ({ frames := 8, cells := 1, slots := 6, locals := 124 }) (va_Pc [.ref h, .int x, .ref o] (zl_Pre D vwCl ((co, .long) :: xT cA) (oE o co f :: xW h a cA nL nC nB F ls) sz)) (va_Qi (zl_post F ls f (fun r u => (∃ k, k < nL ∧ x = nI k ∧ r = F 8 k) ∧ u = (F, ls)) (fun E => E = xE_I ∧ ¬ sp_in nL x) (lk3 xE_I "" "")) (zz_At D vwCl ((co, .long) :: xT cA) (fun u : xS × (Nat → Int64) => oE o co u.2 :: xW h a cA nL nC nB u.1.1 u.1.2) (va_A (oE o co f :: xW h a cA nL nC nB F ls) sz)) (va_A (oE o co f :: xW h a cA nL nC nB F ls) sz)) 1 6 (va_A (oE o co f :: xW h a cA nL nC nB F ls) sz) := by
  refine zl_of (Qc := fun A => va_Qi (zl_post F ls f (fun r u => (∃ k, k < nL ∧ x = nI k ∧ r = F 8 k) ∧ u = (F, ls)) (fun E => E = xE_I ∧ ¬ sp_in nL x) (lk3 xE_I "" "")) (zz_At D vwCl ((co, .long) :: xT cA) (fun u : xS × (Nat → Int64) => oE o co u.2 :: xW h a cA nL nC nB u.1.1 u.1.2) A) A) (by decide) rfl (Nat.le_of_ble_eq_true rfl) ?_
  intro p e s m args below meth c A H locs ls0 hx hb hr hml hown hts hlocks htab hT hN hA hP hK hD hS hl
  have hl : lv_has ls0 4 [(0, .ref h), (1, .int x), (2, .ref o)] := hl
  refine lv_aload_n hx hb dL_owner_0 rfl (lv_at hl 2 rfl) ?_
  refine lv_iconst (v := 0) hx hb dL_owner_1 (by decide) ?_
  refine lv_aload_n hx hb dL_owner_2 rfl (lv_at hl 0 rfl) ?_
  refine lv_iload_n hx hb dL_owner_3 rfl (lv_at hl 1 rfl) ?_
  have hPc := hP.sub (ws' := xW h a cA nL nC nB F ls) [1, 2, 3, 4, 5, 6, 7, 8, 9, 10, 11, 12, 13] rfl
  have hDc := hD.sub (ws' := xW h a cA nL nC nB F ls) [1, 2, 3, 4, 5, 6, 7, 8, 9, 10, 11, 12, 13] (by decide) rfl
  have hKc := hK.sub (tys' := xT cA) [1, 2, 3, 4, 5, 6, 7, 8, 9, 10, 11, 12] rfl
  refine zl_ci (wr := [oE o co f]) (vx_runV (As := [.int x]) (rest := [.int 0, .ref o]) ⟨hx, hb, hml, hown, hts⟩ (cX_owner l hlT D h a cA nL nC nB H.size hn F ls x) (cwV 1 hts gL_owner_X0_owner rfl rfl rfl (by decide +kernel) ⟨(Nat.le_of_ble_eq_true rfl), (Nat.le_of_ble_eq_true rfl)⟩) (zx_pV hPc hKc hDc hA hS hT (va_recv hKc hPc (ci := 0) (q0 := 0) rfl rfl)) rfl rfl hl.1 rfl (lv_room (Nat.le_of_ble_eq_true rfl)) dL_owner_4 ⟨(Nat.le_of_ble_eq_true rfl), (Nat.le_of_ble_eq_true rfl)⟩) hP hD hS hA [1, 2, 3, 4, 5, 6, 7, 8, 9, 10, 11, 12, 13] [0] rfl rfl (by decide) (by decide) (fun E ce q9 H locs hE hP hD hS hc1 hc2 hc3 => ?_) (fun r u H locs hw hP hD hS => ?_)
  · have hEs : E = xE_I := by
      exact hE.1
    have hEq := hEs
    subst hEq
    refine zc_catch (own := RL) (name := xE_I) hown [] ⟨0, 9, 12, 13⟩ [] htab (fun z hz => absurd hz List.not_mem_nil) (by decide) (show (13 : Nat) ≠ 0 by decide) (hts (.classLink RL 13 xE_I) (by decide +kernel)) (va_Nw.use rfl hT.2.2.2.1) hc1 hc2 hc3 ?_
    refine lv_astore_n (lv' := [(3, .ref q9), (0, .ref h), (1, .int x), (2, .ref o)]) hx hb dL_owner_12 rfl hl (by decide) rfl (fun ls1 hl => ?_)
    refine lv_iconst (v := 1) hx hb dL_owner_13 (by decide) ?_
    exact zz_ri (wf := (fun u : xS × (Nat → Int64) => oE o co u.2 :: xW h a cA nL nC nB u.1.1 u.1.2)) ((F, ls), f) hx hb hr hlocks hP hK hD hS (Or.inr ⟨xE_I, rfl, hE, rfl⟩) dL_owner_14
  · refine lv_i2l (v := r.toInt64) hx hb dL_owner_7 rfl ?_
    refine zz_last (i := 0) (ws' := oE o co (vp_updL f 0 r.toInt64) :: xW h a cA nL nC nB F ls) hx hb hK hP hD hS 0 0 rfl rfl (by decide) (by decide) rfl dL_owner_8 (fun H locs hP hD hS => ?_)
    refine lv_goto (tgt := 15) hx hb dL_owner_9 (by decide) ?_
    refine lv_iconst (v := 0) hx hb dL_owner_15 (by decide) ?_
    exact zz_ri (wf := (fun u : xS × (Nat → Int64) => oE o co u.2 :: xW h a cA nL nC nB u.1.1 u.1.2)) ((F, ls), vp_updL f 0 r.toInt64) hx hb hr hlocks hP hK hD hS (Or.inl ⟨rfl, r, (show vp_updL f 0 r.toInt64 0 = r.toInt64 from pk_uLs), ⟨hw, rfl⟩⟩) dL_owner_16
set_option maxHeartbeats 4000000 in
set_option maxRecDepth 100000 in
theorem cL_count_met (l : Launch) (hlT : l.stackTraces = false) (D : va_G) (h : Nat) (a : Nat → Nat) (cA : Nat → ClassId) (nL nC nB sz : Nat) (hn : nL ≤ 8 ∧ nC ≤ 8 ∧ nB ≤ 8) (F : Nat → Nat → Int32) (ls : Int32) (o : Nat) (co : ClassId) (f : Nat → Int64) (x : Int32) : Met l yL_count wsL_count ({ frames := 8, cells := 1, slots := 6, locals := 124 }) (va_Pc [.ref h, .int x, .ref o] (zl_Pre D vwCl ((co, .long) :: xT cA) (oE o co f :: xW h a cA nL nC nB F ls) sz)) (va_Qi (zl_post F ls f (fun r u => (∃ k, k < nC ∧ x = nI k ∧ r = F 9 k) ∧ u = (F, ls)) (fun E => E = xE_I ∧ ¬ sp_in nC x) (lk3 xE_I "" "")) (zz_At D vwCl ((co, .long) :: xT cA) (fun u : xS × (Nat → Int64) => oE o co u.2 :: xW h a cA nL nC nB u.1.1 u.1.2) (va_A (oE o co f :: xW h a cA nL nC nB F ls) sz)) (va_A (oE o co f :: xW h a cA nL nC nB F ls) sz)) 1 6 (va_A (oE o co f :: xW h a cA nL nC nB F ls) sz) := by
  refine zl_of (Qc := fun A => va_Qi (zl_post F ls f (fun r u => (∃ k, k < nC ∧ x = nI k ∧ r = F 9 k) ∧ u = (F, ls)) (fun E => E = xE_I ∧ ¬ sp_in nC x) (lk3 xE_I "" "")) (zz_At D vwCl ((co, .long) :: xT cA) (fun u : xS × (Nat → Int64) => oE o co u.2 :: xW h a cA nL nC nB u.1.1 u.1.2) A) A) (by decide) rfl (Nat.le_of_ble_eq_true rfl) ?_
  intro p e s m args below meth c A H locs ls0 hx hb hr hml hown hts hlocks htab hT hN hA hP hK hD hS hl
  have hl : lv_has ls0 4 [(0, .ref h), (1, .int x), (2, .ref o)] := hl
  refine lv_aload_n hx hb dL_count_0 rfl (lv_at hl 2 rfl) ?_
  refine lv_iconst (v := 0) hx hb dL_count_1 (by decide) ?_
  refine lv_aload_n hx hb dL_count_2 rfl (lv_at hl 0 rfl) ?_
  refine lv_iload_n hx hb dL_count_3 rfl (lv_at hl 1 rfl) ?_
  have hPc := hP.sub (ws' := xW h a cA nL nC nB F ls) [1, 2, 3, 4, 5, 6, 7, 8, 9, 10, 11, 12, 13] rfl
  have hDc := hD.sub (ws' := xW h a cA nL nC nB F ls) [1, 2, 3, 4, 5, 6, 7, 8, 9, 10, 11, 12, 13] (by decide) rfl
  have hKc := hK.sub (tys' := xT cA) [1, 2, 3, 4, 5, 6, 7, 8, 9, 10, 11, 12] rfl
  refine zl_ci (wr := [oE o co f]) (vx_runV (As := [.int x]) (rest := [.int 0, .ref o]) ⟨hx, hb, hml, hown, hts⟩ (cX_count l hlT D h a cA nL nC nB H.size hn F ls x) (cwV 1 hts gL_count_X0_count rfl rfl rfl (by decide +kernel) ⟨(Nat.le_of_ble_eq_true rfl), (Nat.le_of_ble_eq_true rfl)⟩) (zx_pV hPc hKc hDc hA hS hT (va_recv hKc hPc (ci := 0) (q0 := 0) rfl rfl)) rfl rfl hl.1 rfl (lv_room (Nat.le_of_ble_eq_true rfl)) dL_count_4 ⟨(Nat.le_of_ble_eq_true rfl), (Nat.le_of_ble_eq_true rfl)⟩) hP hD hS hA [1, 2, 3, 4, 5, 6, 7, 8, 9, 10, 11, 12, 13] [0] rfl rfl (by decide) (by decide) (fun E ce q9 H locs hE hP hD hS hc1 hc2 hc3 => ?_) (fun r u H locs hw hP hD hS => ?_)
  · have hEs : E = xE_I := by
      exact hE.1
    have hEq := hEs
    subst hEq
    refine zc_catch (own := RL) (name := xE_I) hown [] ⟨0, 9, 12, 13⟩ [] htab (fun z hz => absurd hz List.not_mem_nil) (by decide) (show (13 : Nat) ≠ 0 by decide) (hts (.classLink RL 13 xE_I) (by decide +kernel)) (va_Nw.use rfl hT.2.2.2.1) hc1 hc2 hc3 ?_
    refine lv_astore_n (lv' := [(3, .ref q9), (0, .ref h), (1, .int x), (2, .ref o)]) hx hb dL_count_12 rfl hl (by decide) rfl (fun ls1 hl => ?_)
    refine lv_iconst (v := 1) hx hb dL_count_13 (by decide) ?_
    exact zz_ri (wf := (fun u : xS × (Nat → Int64) => oE o co u.2 :: xW h a cA nL nC nB u.1.1 u.1.2)) ((F, ls), f) hx hb hr hlocks hP hK hD hS (Or.inr ⟨xE_I, rfl, hE, rfl⟩) dL_count_14
  · refine lv_i2l (v := r.toInt64) hx hb dL_count_7 rfl ?_
    refine zz_last (i := 0) (ws' := oE o co (vp_updL f 0 r.toInt64) :: xW h a cA nL nC nB F ls) hx hb hK hP hD hS 0 0 rfl rfl (by decide) (by decide) rfl dL_count_8 (fun H locs hP hD hS => ?_)
    refine lv_goto (tgt := 15) hx hb dL_count_9 (by decide) ?_
    refine lv_iconst (v := 0) hx hb dL_count_15 (by decide) ?_
    exact zz_ri (wf := (fun u : xS × (Nat → Int64) => oE o co u.2 :: xW h a cA nL nC nB u.1.1 u.1.2)) ((F, ls), vp_updL f 0 r.toInt64) hx hb hr hlocks hP hK hD hS (Or.inl ⟨rfl, r, (show vp_updL f 0 r.toInt64 0 = r.toInt64 from pk_uLs), ⟨hw, rfl⟩⟩) dL_count_16
set_option maxHeartbeats 4000000 in
set_option maxRecDepth 100000 in
theorem cL_words_met (l : Launch) (hlT : l.stackTraces = false) (D : va_G) (h : Nat) (a : Nat → Nat) (cA : Nat → ClassId) (nL nC nB sz : Nat) (hn : nL ≤ 8 ∧ nC ≤ 8 ∧ nB ≤ 8) (F : Nat → Nat → Int32) (ls : Int32) (o : Nat) (co : ClassId) (f : Nat → Int64) (x : Int32) : Met l yL_words wsL_words ({ frames := 8, cells := 1, slots := 6, locals := 124 }) (va_Pc [.ref h, .int x, .ref o] (zl_Pre D vwCl ((co, .long) :: xT cA) (oE o co f :: xW h a cA nL nC nB F ls) sz)) (va_Qi (zl_post F ls f (fun r u => (∃ k, k < nB ∧ x = nI k ∧ r = F 10 k) ∧ u = (F, ls)) (fun E => E = xE_I ∧ ¬ sp_in nB x) (lk3 xE_I "" "")) (zz_At D vwCl ((co, .long) :: xT cA) (fun u : xS × (Nat → Int64) => oE o co u.2 :: xW h a cA nL nC nB u.1.1 u.1.2) (va_A (oE o co f :: xW h a cA nL nC nB F ls) sz)) (va_A (oE o co f :: xW h a cA nL nC nB F ls) sz)) 1 6 (va_A (oE o co f :: xW h a cA nL nC nB F ls) sz) := by
  refine zl_of (Qc := fun A => va_Qi (zl_post F ls f (fun r u => (∃ k, k < nB ∧ x = nI k ∧ r = F 10 k) ∧ u = (F, ls)) (fun E => E = xE_I ∧ ¬ sp_in nB x) (lk3 xE_I "" "")) (zz_At D vwCl ((co, .long) :: xT cA) (fun u : xS × (Nat → Int64) => oE o co u.2 :: xW h a cA nL nC nB u.1.1 u.1.2) A) A) (by decide) rfl (Nat.le_of_ble_eq_true rfl) ?_
  intro p e s m args below meth c A H locs ls0 hx hb hr hml hown hts hlocks htab hT hN hA hP hK hD hS hl
  have hl : lv_has ls0 4 [(0, .ref h), (1, .int x), (2, .ref o)] := hl
  refine lv_aload_n hx hb dL_words_0 rfl (lv_at hl 2 rfl) ?_
  refine lv_iconst (v := 0) hx hb dL_words_1 (by decide) ?_
  refine lv_aload_n hx hb dL_words_2 rfl (lv_at hl 0 rfl) ?_
  refine lv_iload_n hx hb dL_words_3 rfl (lv_at hl 1 rfl) ?_
  have hPc := hP.sub (ws' := xW h a cA nL nC nB F ls) [1, 2, 3, 4, 5, 6, 7, 8, 9, 10, 11, 12, 13] rfl
  have hDc := hD.sub (ws' := xW h a cA nL nC nB F ls) [1, 2, 3, 4, 5, 6, 7, 8, 9, 10, 11, 12, 13] (by decide) rfl
  have hKc := hK.sub (tys' := xT cA) [1, 2, 3, 4, 5, 6, 7, 8, 9, 10, 11, 12] rfl
  refine zl_ci (wr := [oE o co f]) (vx_runV (As := [.int x]) (rest := [.int 0, .ref o]) ⟨hx, hb, hml, hown, hts⟩ (cX_words l hlT D h a cA nL nC nB H.size hn F ls x) (cwV 1 hts gL_words_X0_words rfl rfl rfl (by decide +kernel) ⟨(Nat.le_of_ble_eq_true rfl), (Nat.le_of_ble_eq_true rfl)⟩) (zx_pV hPc hKc hDc hA hS hT (va_recv hKc hPc (ci := 0) (q0 := 0) rfl rfl)) rfl rfl hl.1 rfl (lv_room (Nat.le_of_ble_eq_true rfl)) dL_words_4 ⟨(Nat.le_of_ble_eq_true rfl), (Nat.le_of_ble_eq_true rfl)⟩) hP hD hS hA [1, 2, 3, 4, 5, 6, 7, 8, 9, 10, 11, 12, 13] [0] rfl rfl (by decide) (by decide) (fun E ce q9 H locs hE hP hD hS hc1 hc2 hc3 => ?_) (fun r u H locs hw hP hD hS => ?_)
  · have hEs : E = xE_I := by
      exact hE.1
    have hEq := hEs
    subst hEq
    refine zc_catch (own := RL) (name := xE_I) hown [] ⟨0, 9, 12, 13⟩ [] htab (fun z hz => absurd hz List.not_mem_nil) (by decide) (show (13 : Nat) ≠ 0 by decide) (hts (.classLink RL 13 xE_I) (by decide +kernel)) (va_Nw.use rfl hT.2.2.2.1) hc1 hc2 hc3 ?_
    refine lv_astore_n (lv' := [(3, .ref q9), (0, .ref h), (1, .int x), (2, .ref o)]) hx hb dL_words_12 rfl hl (by decide) rfl (fun ls1 hl => ?_)
    refine lv_iconst (v := 1) hx hb dL_words_13 (by decide) ?_
    exact zz_ri (wf := (fun u : xS × (Nat → Int64) => oE o co u.2 :: xW h a cA nL nC nB u.1.1 u.1.2)) ((F, ls), f) hx hb hr hlocks hP hK hD hS (Or.inr ⟨xE_I, rfl, hE, rfl⟩) dL_words_14
  · refine lv_i2l (v := r.toInt64) hx hb dL_words_7 rfl ?_
    refine zz_last (i := 0) (ws' := oE o co (vp_updL f 0 r.toInt64) :: xW h a cA nL nC nB F ls) hx hb hK hP hD hS 0 0 rfl rfl (by decide) (by decide) rfl dL_words_8 (fun H locs hP hD hS => ?_)
    refine lv_goto (tgt := 15) hx hb dL_words_9 (by decide) ?_
    refine lv_iconst (v := 0) hx hb dL_words_15 (by decide) ?_
    exact zz_ri (wf := (fun u : xS × (Nat → Int64) => oE o co u.2 :: xW h a cA nL nC nB u.1.1 u.1.2)) ((F, ls), vp_updL f 0 r.toInt64) hx hb hr hlocks hP hK hD hS (Or.inl ⟨rfl, r, (show vp_updL f 0 r.toInt64 0 = r.toInt64 from pk_uLs), ⟨hw, rfl⟩⟩) dL_words_16
set_option maxHeartbeats 4000000 in
set_option maxRecDepth 100000 in
theorem cL_first_met (l : Launch) (hlT : l.stackTraces = false) (D : va_G) (h : Nat) (a : Nat → Nat) (cA : Nat → ClassId) (nL nC nB sz : Nat) (hn : nL ≤ 8 ∧ nC ≤ 8 ∧ nB ≤ 8) (F : Nat → Nat → Int32) (ls : Int32) (o : Nat) (co : ClassId) (f : Nat → Int64) (x y : Int32) : Met l yL_first wsL_first ({ frames := 8, cells := 4, slots := 24, locals := 125 }) (va_Pc [.ref h, .int x, .int y, .ref o] (zl_Pre D vwCl ((co, .long) :: xT cA) (oE o co f :: xW h a cA nL nC nB F ls) sz)) (va_Qi (zl_post F ls f (fun r u => (sp_first nL nC nB F x y r) ∧ u = (F, ls)) (fun E => sx_first nL nC nB x y E) (lk3 xE_A xE_I "")) (zz_At D vwCl ((co, .long) :: xT cA) (fun u : xS × (Nat → Int64) => oE o co u.2 :: xW h a cA nL nC nB u.1.1 u.1.2) (va_A (oE o co f :: xW h a cA nL nC nB F ls) sz)) (va_A (oE o co f :: xW h a cA nL nC nB F ls) sz)) 4 24 (va_A (oE o co f :: xW h a cA nL nC nB F ls) sz) := by
  refine zl_of (Qc := fun A => va_Qi (zl_post F ls f (fun r u => (sp_first nL nC nB F x y r) ∧ u = (F, ls)) (fun E => sx_first nL nC nB x y E) (lk3 xE_A xE_I "")) (zz_At D vwCl ((co, .long) :: xT cA) (fun u : xS × (Nat → Int64) => oE o co u.2 :: xW h a cA nL nC nB u.1.1 u.1.2) A) A) (by decide) rfl (Nat.le_of_ble_eq_true rfl) ?_
  intro p e s m args below meth c A H locs ls0 hx hb hr hml hown hts hlocks htab hT hN hA hP hK hD hS hl
  have hl : lv_has ls0 5 [(0, .ref h), (1, .int x), (2, .int y), (3, .ref o)] := hl
  refine lv_aload_n hx hb dL_first_0 rfl (lv_at hl 3 rfl) ?_
  refine lv_iconst (v := 0) hx hb dL_first_1 (by decide) ?_
  refine lv_aload_n hx hb dL_first_2 rfl (lv_at hl 0 rfl) ?_
  refine lv_iload_n hx hb dL_first_3 rfl (lv_at hl 1 rfl) ?_
  refine lv_iload_n hx hb dL_first_4 rfl (lv_at hl 2 rfl) ?_
  have hPc := hP.sub (ws' := xW h a cA nL nC nB F ls) [1, 2, 3, 4, 5, 6, 7, 8, 9, 10, 11, 12, 13] rfl
  have hDc := hD.sub (ws' := xW h a cA nL nC nB F ls) [1, 2, 3, 4, 5, 6, 7, 8, 9, 10, 11, 12, 13] (by decide) rfl
  have hKc := hK.sub (tys' := xT cA) [1, 2, 3, 4, 5, 6, 7, 8, 9, 10, 11, 12] rfl
  refine zl_ci (wr := [oE o co f]) (vx_runV (As := [.int x, .int y]) (rest := [.int 0, .ref o]) ⟨hx, hb, hml, hown, hts⟩ (cX_first l hlT D h a cA nL nC nB H.size hn F ls x y) (cwV 2 hts gL_first_X0_first rfl rfl rfl (by decide +kernel) ⟨(Nat.le_of_ble_eq_true rfl), (Nat.le_of_ble_eq_true rfl)⟩) (zx_pV hPc hKc hDc hA hS hT (va_recv hKc hPc (ci := 0) (q0 := 0) rfl rfl)) rfl rfl hl.1 rfl (lv_room (Nat.le_of_ble_eq_true rfl)) dL_first_5 ⟨(Nat.le_of_ble_eq_true rfl), (Nat.le_of_ble_eq_true rfl)⟩) hP hD hS hA [1, 2, 3, 4, 5, 6, 7, 8, 9, 10, 11, 12, 13] [0] rfl rfl (by decide) (by decide) (fun E ce q9 H locs hE hP hD hS hc1 hc2 hc3 => ?_) (fun r u H locs hw hP hD hS => ?_)
  · have hEs : E = xE_A ∨ E = xE_I := by
      first | exact hE.1 | (rcases hE with q | q <;> simp [q.1]; done) | (rcases hE with q | q | q <;> simp [q.1]; done)
    rcases hEs with hEq | hEs
    · subst hEq
      refine zc_catch (own := RL) (name := xE_A) hown [] ⟨0, 10, 13, 15⟩ [⟨0, 10, 17, 13⟩] htab (fun z hz => absurd hz List.not_mem_nil) (by decide) (show (15 : Nat) ≠ 0 by decide) (hts (.classLink RL 15 xE_A) (by decide +kernel)) (va_Nw.use rfl hT.2.2.2.2.1) hc1 hc2 hc3 ?_
      refine lv_astore (lv' := [(4, .ref q9), (0, .ref h), (1, .int x), (2, .int y), (3, .ref o)]) hx hb dL_first_13 hl (by decide) rfl (fun ls1 hl => ?_)
      refine lv_iconst (v := 1) hx hb dL_first_15 (by decide) ?_
      exact zz_ri (wf := (fun u : xS × (Nat → Int64) => oE o co u.2 :: xW h a cA nL nC nB u.1.1 u.1.2)) ((F, ls), f) hx hb hr hlocks hP hK hD hS (Or.inr ⟨xE_A, rfl, hE, rfl⟩) dL_first_16
    have hEq := hEs
    subst hEq
    refine zc_catch (own := RL) (name := xE_I) hown [⟨0, 10, 13, 15⟩] ⟨0, 10, 17, 13⟩ [] htab (fun z hz => by
        rcases List.mem_cons.mp hz with hz | hz
        · subst hz; exact Or.inr ⟨(show (15 : Nat) ≠ 0 by decide), xE_A, hts (.classLink RL 15 xE_A) (by decide +kernel), hN.2.2.2.2.2⟩
        exact absurd hz List.not_mem_nil) (by decide) (show (13 : Nat) ≠ 0 by decide) (hts (.classLink RL 13 xE_I) (by decide +kernel)) (va_Nw.use rfl hT.2.2.2.1) hc1 hc2 hc3 ?_
    refine lv_astore (lv' := [(4, .ref q9), (0, .ref h), (1, .int x), (2, .int y), (3, .ref o)]) hx hb dL_first_17 hl (by decide) rfl (fun ls1 hl => ?_)
    refine lv_iconst (v := 2) hx hb dL_first_19 (by decide) ?_
    exact zz_ri (wf := (fun u : xS × (Nat → Int64) => oE o co u.2 :: xW h a cA nL nC nB u.1.1 u.1.2)) ((F, ls), f) hx hb hr hlocks hP hK hD hS (Or.inr ⟨xE_I, rfl, hE, rfl⟩) dL_first_20
  · refine lv_i2l (v := r.toInt64) hx hb dL_first_8 rfl ?_
    refine zz_last (i := 0) (ws' := oE o co (vp_updL f 0 r.toInt64) :: xW h a cA nL nC nB F ls) hx hb hK hP hD hS 0 0 rfl rfl (by decide) (by decide) rfl dL_first_9 (fun H locs hP hD hS => ?_)
    refine lv_goto (tgt := 21) hx hb dL_first_10 (by decide) ?_
    refine lv_iconst (v := 0) hx hb dL_first_21 (by decide) ?_
    exact zz_ri (wf := (fun u : xS × (Nat → Int64) => oE o co u.2 :: xW h a cA nL nC nB u.1.1 u.1.2)) ((F, ls), vp_updL f 0 r.toInt64) hx hb hr hlocks hP hK hD hS (Or.inl ⟨rfl, r, (show vp_updL f 0 r.toInt64 0 = r.toInt64 from pk_uLs), ⟨hw, rfl⟩⟩) dL_first_22
