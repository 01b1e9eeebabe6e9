set_option maxHeartbeats 4000000 in
set_option maxRecDepth 100000 in
theorem lc_running {p : Program} {l : Launch} (hlT : l.stackTraces = false) {e : Env} {s : State} {m : MethodId} {below : List Frame} {meth : Method} {c : Code} {H : Heap} {locs : List Loc} {cells slots b L i n : Nat} {xs : Nat → Int32} {Q : State → Prop} {ls0 : Array Slot} {D : va_G} {h : Nat} {a : Nat → Nat} {cA : Nat → ClassId} {hm : Nat} {am : Nat → Nat} {cm : Nat → ClassId} {o : Nat} {co : ClassId} {nL nC nB : Nat} {F : Nat → Nat → Int32} {ls : Int32} {f : Nat → Int64} {G : Nat → Nat → Int32} {sp : Nat → Int64} {cd : Int32} {ck : Int64} (C : lc_C p s m c b L xs) (hn : nL ≤ 8 ∧ nC ≤ 8 ∧ nB ≤ 8) (hi : i + 2 < L) (hn2 : n + 16 < 2 ^ 30) (hcp : cp nL nC nB n F ls G sp ck) (hK : va_K D vwCl (lT cA cm co) s) (hP : va_P D vwCl (lW h a cA hm am cm o co nL nC nB F ls f G sp cd ck) H) (hD : va_D (lA s) (lW h a cA hm am cm o co nL nC nB F ls f G sp cd ck)) (hS : va_S (lA s) s.heap H locs) (hl : lv_has ls0 7 [(0, .ref b), (1, .ref h), (2, .ref hm), (3, .ref o), (4, .int (nI i))]) (hc1 : cells + 4 ≤ 655402) (hs1 : slots + 24 ≤ 7129865)
    (kk : ∀ (F : Nat → Nat → Int32) (ls : Int32) (f : Nat → Int64) (G : Nat → Nat → Int32) (sp : Nat → Int64) (cd : Int32) (ck : Int64) (H : Heap) (locs : List Loc) (ls0 : Array Slot), cp nL nC nB (n + 16) F ls G sp ck → va_P D vwCl (lW h a cA hm am cm o co nL nC nB F ls f G sp cd ck) H → va_D (lA s) (lW h a cA hm am cm o co nL nC nB F ls f G sp cd ck) → va_S (lA s) s.heap H locs → lv_has ls0 7 [(0, .ref b), (1, .ref h), (2, .ref hm), (3, .ref o), (4, .int (nI i))] → W p l e room_1 s m #[Value.ref b] below meth c H locs (cells + 4) (slots + 24) Q (F0 m 1124 ls0 [])) :
    W p l e room_1 s m #[Value.ref b] below meth c H locs cells slots Q (F0 m 796 ls0 []) := by
  obtain ⟨hx, hb, hml, hown, hts, hX, hbl, hL, hT, hN⟩ := id C
  have hA : ∀ q : Nat, s.heap.size ≤ q → lA s q := fun _ h => h
  refine lv_aload_n hx hb dL_law_796 rfl (lv_at hl 1 rfl) ?_
  have hPc := hP.sub (ws' := xW h a cA nL nC nB F ls) [1, 2, 3, 4, 5, 6, 7, 8, 9, 10, 11, 12, 13] rfl
  have hDc := hD.sub (ws' := xW h a cA nL nC nB F ls) [1, 2, 3, 4, 5, 6, 7, 8, 9, 10, 11, 12, 13] (by decide) rfl
  have hKc := hK.sub (tys' := xT cA) [1, 2, 3, 4, 5, 6, 7, 8, 9, 10, 11, 12] rfl
  refine zz_pi (wr := oE o co f :: mW hm am cm nL nC nB G sp cd ck) (va_runV (As := []) (rest := []) ⟨hx, hb, hml, hown, hts⟩ (cX_running l D h a cA nL nC nB H.size hn F ls) (cwV 0 hts gL_law_X0_running rfl rfl rfl (by decide +kernel) ⟨(Nat.le_of_ble_eq_true rfl), (Nat.le_of_ble_eq_true rfl)⟩) (zz_pV hPc hKc hDc (va_recv hKc hPc (ci := 0) (q0 := 0) rfl rfl)) rfl rfl hl.1 rfl (lv_room (Nat.le_of_ble_eq_true rfl)) dL_law_797 ⟨(show cells + 0 ≤ 655402 by omega), (show slots + 0 ≤ 7129865 by omega)⟩) hP hD hS hA [1, 2, 3, 4, 5, 6, 7, 8, 9, 10, 11, 12, 13] [0, 14, 15, 16, 17, 18, 19, 20, 21, 22, 23, 24, 25, 26] rfl rfl (by decide) (by decide) (fun r u H locs hr hP hD hS => ?_)
  have hP := hP.sub (ws' := lW h a cA hm am cm o co nL nC nB F ls f G sp cd ck) [0, 14, 15, 16, 17, 18, 19, 20, 21, 22, 23, 24, 25, 26, 1, 2, 3, 4, 5, 6, 7, 8, 9, 10, 11, 12, 13] rfl
  have hD := hD.sub (ws' := lW h a cA hm am cm o co nL nC nB F ls f G sp cd ck) [0, 14, 15, 16, 17, 18, 19, 20, 21, 22, 23, 24, 25, 26, 1, 2, 3, 4, 5, 6, 7, 8, 9, 10, 11, 12, 13] (by decide) rfl
  clear hPc hDc hKc
  refine lv_aload_n hx hb dL_law_800 rfl (lv_at hl 2 rfl) ?_
  have hPc := hP.sub (ws' := (mW hm am cm nL nC nB G sp cd ck)) [14, 15, 16, 17, 18, 19, 20, 21, 22, 23, 24, 25, 26] rfl
  have hDc := hD.sub (ws' := (mW hm am cm nL nC nB G sp cd ck)) [14, 15, 16, 17, 18, 19, 20, 21, 22, 23, 24, 25, 26] (by decide) rfl
  have hKc := hK.sub (tys' := mT cm) [13, 14, 15, 16, 17, 18, 19, 20, 21, 22, 23, 24] rfl
  refine zz_pi (wr := oE o co f :: xW h a cA nL nC nB F ls) (va_runV (As := []) (rest := [.int r]) ⟨hx, hb, hml, hown, hts⟩ (cM_running l D hm am cm nL nC nB H.size hn G sp cd ck (hcp.I hn.1)) (cwV 0 hts gL_law_X1_running rfl rfl rfl (by decide +kernel) ⟨(Nat.le_of_ble_eq_true rfl), (Nat.le_of_ble_eq_true rfl)⟩) (zz_pV hPc hKc hDc (va_recv hKc hPc (ci := 1) (q0 := 0) rfl rfl)) rfl rfl hl.1 rfl (lv_room (Nat.le_of_ble_eq_true rfl)) dL_law_801 ⟨(show cells + 0 + 0 ≤ 655402 by omega), (show slots + 0 + 0 ≤ 7129865 by omega)⟩) hP hD hS hA [14, 15, 16, 17, 18, 19, 20, 21, 22, 23, 24, 25, 26] [0, 1, 2, 3, 4, 5, 6, 7, 8, 9, 10, 11, 12, 13] rfl rfl (by decide) (by decide) (fun bb v H locs hv hP hD hS => ?_)
  obtain ⟨E, nx, hf, hb2, rfl⟩ := hv
  obtain ⟨z1, z2⟩ := cs_running hn.1 (by omega) hcp hf
  refine lv_icmp_eq (tgt := 1124) hx hb dL_law_804 (by decide) (fun _ => ?_) (fun q => absurd (by rw [hr, hb2, z1]) q)
  exact W.widen (by omega) (by omega) (kk F ls f (va_up G 10 E) sp 0 ck H locs ls0 (z2.more (by omega)) hP hD hS hl)
set_option maxHeartbeats 4000000 in
set_option maxRecDepth 100000 in
theorem lc_clear {p : Program} {l : Launch} (hlT : l.stackTraces = false) {e : Env} {s : State} {m : MethodId} {below : List Frame} {meth : Method} {c : Code} {H : Heap} {locs : List Loc} {cells slots b L i n : Nat} {xs : Nat → Int32} {Q : State → Prop} {ls0 : Array Slot} {D : va_G} {h : Nat} {a : Nat → Nat} {cA : Nat → ClassId} {hm : Nat} {am : Nat → Nat} {cm : Nat → ClassId} {o : Nat} {co : ClassId} {nL nC nB : Nat} {F : Nat → Nat → Int32} {ls : Int32} {f : Nat → Int64} {G : Nat → Nat → Int32} {sp : Nat → Int64} {cd : Int32} {ck : Int64} (C : lc_C p s m c b L xs) (hn : nL ≤ 8 ∧ nC ≤ 8 ∧ nB ≤ 8) (hi : i + 2 < L) (hn2 : n + 16 < 2 ^ 30) (hcp : cp nL nC nB n F ls G sp ck) (hK : va_K D vwCl (lT cA cm co) s) (hP : va_P D vwCl (lW h a cA hm am cm o co nL nC nB F ls f G sp cd ck) H) (hD : va_D (lA s) (lW h a cA hm am cm o co nL nC nB F ls f G sp cd ck)) (hS : va_S (lA s) s.heap H locs) (hl : lv_has ls0 7 [(0, .ref b), (1, .ref h), (2, .ref hm), (3, .ref o), (4, .int (nI i))]) (hc1 : cells + 4 ≤ 655402) (hs1 : slots + 24 ≤ 7129865)
    (kk : ∀ (F : Nat → Nat → Int32) (ls : Int32) (f : Nat → Int64) (G : Nat → Nat → Int32) (sp : Nat → Int64) (cd : Int32) (ck : Int64) (H : Heap) (locs : List Loc) (ls0 : Array Slot), cp nL nC nB (n + 16) F ls G sp ck → va_P D vwCl (lW h a cA hm am cm o co nL nC nB F ls f G sp cd ck) H → va_D (lA s) (lW h a cA hm am cm o co nL nC nB F ls f G sp cd ck) → va_S (lA s) s.heap H locs → lv_has ls0 7 [(0, .ref b), (1, .ref h), (2, .ref hm), (3, .ref o), (4, .int (nI i))] → W p l e room_1 s m #[Value.ref b] below meth c H locs (cells + 4) (slots + 24) Q (F0 m 1124 ls0 [])) :
    W p l e room_1 s m #[Value.ref b] below meth c H locs cells slots Q (F0 m 1113 ls0 []) := by
  obtain ⟨hx, hb, hml, hown, hts, hX, hbl, hL, hT, hN⟩ := id C
  have hA : ∀ q : Nat, s.heap.size ≤ q → lA s q := fun _ h => h
  refine lv_aload_n hx hb dL_law_1113 rfl (lv_at hl 1 rfl) ?_
  have hPc := hP.sub (ws' := xW h a cA nL nC nB F ls) [1, 2, 3, 4, 5, 6, 7, 8, 9, 10, 11, 12, 13] rfl
  have hDc := hD.sub (ws' := xW h a cA nL nC nB F ls) [1, 2, 3, 4, 5, 6, 7, 8, 9, 10, 11, 12, 13] (by decide) rfl
  have hKc := hK.sub (tys' := xT cA) [1, 2, 3, 4, 5, 6, 7, 8, 9, 10, 11, 12] rfl
  refine zz_pv (wr := oE o co f :: mW hm am cm nL nC nB G sp cd ck) (va_runV (As := []) (rest := []) ⟨hx, hb, hml, hown, hts⟩ (cX_clear l D h a cA nL nC nB H.size hn F ls) (cwV 0 hts gL_law_X0_clear rfl rfl rfl (by decide +kernel) ⟨(Nat.le_of_ble_eq_true rfl), (Nat.le_of_ble_eq_true rfl)⟩) (zz_pV hPc hKc hDc (va_recv hKc hPc (ci := 0) (q0 := 0) rfl rfl)) rfl rfl hl.1 rfl (lv_room (Nat.le_of_ble_eq_true rfl)) dL_law_1114 ⟨(show cells + 0 ≤ 655402 by omega), (show slots + 0 ≤ 7129865 by omega)⟩) hP hD hS hA [1, 2, 3, 4, 5, 6, 7, 8, 9, 10, 11, 12, 13] [0, 14, 15, 16, 17, 18, 19, 20, 21, 22, 23, 24, 25, 26] rfl rfl (by decide) (by decide) (fun u H locs hu hP hD hS => ?_)
  obtain ⟨F1, ls1⟩ := u
  have hP := hP.sub (ws' := lW h a cA hm am cm o co nL nC nB F1 ls1 f G sp cd ck) [0, 14, 15, 16, 17, 18, 19, 20, 21, 22, 23, 24, 25, 26, 1, 2, 3, 4, 5, 6, 7, 8, 9, 10, 11, 12, 13] rfl
  have hD := hD.sub (ws' := lW h a cA hm am cm o co nL nC nB F1 ls1 f G sp cd ck) [0, 14, 15, 16, 17, 18, 19, 20, 21, 22, 23, 24, 25, 26, 1, 2, 3, 4, 5, 6, 7, 8, 9, 10, 11, 12, 13] (by decide) rfl
  clear hPc hDc hKc
  refine lv_aload_n hx hb dL_law_1117 rfl (lv_at hl 2 rfl) ?_
  have hPc := hP.sub (ws' := (mW hm am cm nL nC nB G sp cd ck)) [14, 15, 16, 17, 18, 19, 20, 21, 22, 23, 24, 25, 26] rfl
  have hDc := hD.sub (ws' := (mW hm am cm nL nC nB G sp cd ck)) [14, 15, 16, 17, 18, 19, 20, 21, 22, 23, 24, 25, 26] (by decide) rfl
  have hKc := hK.sub (tys' := mT cm) [13, 14, 15, 16, 17, 18, 19, 20, 21, 22, 23, 24] rfl
  refine zz_pv (wr := oE o co f :: xW h a cA nL nC nB F1 ls1) (va_runV (As := []) (rest := []) ⟨hx, hb, hml, hown, hts⟩ (cM_clear l D hm am cm nL nC nB H.size hn G sp cd ck) (cwV 0 hts gL_law_X1_clear rfl rfl rfl (by decide +kernel) ⟨(Nat.le_of_ble_eq_true rfl), (Nat.le_of_ble_eq_true rfl)⟩) (zz_pV hPc hKc hDc (va_recv hKc hPc (ci := 1) (q0 := 0) rfl rfl)) rfl rfl hl.1 rfl (lv_room (Nat.le_of_ble_eq_true rfl)) dL_law_1118 ⟨(show cells + 0 + 0 ≤ 655402 by omega), (show slots + 0 + 0 ≤ 7129865 by omega)⟩) hP hD hS hA [14, 15, 16, 17, 18, 19, 20, 21, 22, 23, 24, 25, 26] [0, 1, 2, 3, 4, 5, 6, 7, 8, 9, 10, 11, 12, 13] rfl rfl (by decide) (by decide) (fun v H locs hv hP hD hS => ?_)
  obtain ⟨G1, sp1, cd1, ck1⟩ := v
  refine lv_goto (tgt := 1124) hx hb dL_law_1121 (by decide) ?_
  exact W.widen (by omega) (by omega) (kk F1 ls1 f G1 sp1 cd1 ck1 H locs ls0 (cs_new hu.1 hu.2 hv.1 hv.2.2 hn.1 hn.2.2 hn.2.1) hP hD hS hl)
