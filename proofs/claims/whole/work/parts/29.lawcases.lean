set_option maxHeartbeats 4000000 in
set_option maxRecDepth 100000 in
theorem lc_create {p : Program} {l : Launch} (hlT : l.stackTraces = false) {e : Env} {s : State} {m : MethodId} {below : List Frame} {meth : Method} {c : Code} {H : Heap} {locs : List Loc} {cells slots b L i n : Nat} {xs : Nat → Int32} {Q : State → Prop} {ls0 : Array Slot} {D : va_G} {h : Nat} {a : Nat → Nat} {cA : Nat → ClassId} {hm : Nat} {am : Nat → Nat} {cm : Nat → ClassId} {o : Nat} {co : ClassId} {nL nC nB : Nat} {F : Nat → Nat → Int32} {ls : Int32} {f : Nat → Int64} {G : Nat → Nat → Int32} {sp : Nat → Int64} {cd : Int32} {ck : Int64} (C : lc_C p s m c b L xs) (hn : nL ≤ 8 ∧ nC ≤ 8 ∧ nB ≤ 8) (hi : i + 2 < L) (hn2 : n + 16 < 2 ^ 30) (hcp : cp nL nC nB n F ls G sp ck) (hK : va_K D vwCl (lT cA cm co) s) (hP : va_P D vwCl (lW h a cA hm am cm o co nL nC nB F ls f G sp cd ck) H) (hD : va_D (lA s) (lW h a cA hm am cm o co nL nC nB F ls f G sp cd ck)) (hS : va_S (lA s) s.heap H locs) (hl : lv_has ls0 7 [(0, .ref b), (1, .ref h), (2, .ref hm), (3, .ref o), (4, .int (nI i))]) (hc1 : cells + 4 ≤ 655402) (hs1 : slots + 24 ≤ 7129865)
    (kk : ∀ (F : Nat → Nat → Int32) (ls : Int32) (f : Nat → Int64) (G : Nat → Nat → Int32) (sp : Nat → Int64) (cd : Int32) (ck : Int64) (H : Heap) (locs : List Loc) (ls0 : Array Slot), cp nL nC nB (n + 16) F ls G sp ck → va_P D vwCl (lW h a cA hm am cm o co nL nC nB F ls f G sp cd ck) H → va_D (lA s) (lW h a cA hm am cm o co nL nC nB F ls f G sp cd ck) → va_S (lA s) s.heap H locs → lv_has ls0 7 [(0, .ref b), (1, .ref h), (2, .ref hm), (3, .ref o), (4, .int (nI i))] → W p l e room_1 s m #[Value.ref b] below meth c H locs (cells + 4) (slots + 24) Q (F0 m 1124 ls0 [])) :
    W p l e room_1 s m #[Value.ref b] below meth c H locs cells slots Q (F0 m 156 ls0 []) := by
  obtain ⟨hx, hb, hml, hown, hts, hX, hbl, hL, hT, hN⟩ := id C
  have hA : ∀ q : Nat, s.heap.size ≤ q → lA s q := fun _ h => h
  refine lv_aload_n hx hb dL_law_156 rfl (lv_at hl 1 rfl) ?_
  refine zs_ld (k := 1) 157 C hS (by omega) dL_law_157 dL_law_158 dL_law_160 (by decide) dL_law_161 dL_law_162 (lv_at hl 0 rfl) (lv_at hl 4 rfl) ?_
  refine zs_ld (k := 2) 163 C hS (by omega) dL_law_163 dL_law_164 dL_law_166 (by decide) dL_law_167 dL_law_168 (lv_at hl 0 rfl) (lv_at hl 4 rfl) ?_
  refine lv_aload_n hx hb dL_law_169 rfl (lv_at hl 3 rfl) ?_
  have hPc := hP.sub (ws' := (oE o co f :: xW h a cA nL nC nB F ls)) [0, 1, 2, 3, 4, 5, 6, 7, 8, 9, 10, 11, 12, 13] rfl
  have hDc := hD.sub (ws' := (oE o co f :: xW h a cA nL nC nB F ls)) [0, 1, 2, 3, 4, 5, 6, 7, 8, 9, 10, 11, 12, 13] (by decide) rfl
  have hKc := hK.sub (tys' := (co, .long) :: xT cA) [0, 1, 2, 3, 4, 5, 6, 7, 8, 9, 10, 11, 12] rfl
  refine zz_pi (wr := mW hm am cm nL nC nB G sp cd ck) (vx_runSW (As := [.ref h, .int (xs (i + 1)), .int (xs (i + 2)), .ref o]) (rest := []) ⟨hx, hb, hml, hown, hts⟩ (cL_create_met l hlT D h a cA nL nC nB H.size hn F ls o co f (xs (i + 1)) (xs (i + 2)) hcp.ow) (vx_cwSW 4 hts gL_law_L_create rfl rfl rfl (by decide +kernel) ⟨(Nat.le_of_ble_eq_true rfl), (Nat.le_of_ble_eq_true rfl)⟩) (zl_pS hPc hKc hDc hA hS hT hN) rfl rfl hl.1 rfl (lv_room (Nat.le_of_ble_eq_true rfl)) dL_law_170 ⟨(show cells + 3 ≤ 655402 by omega), (show slots + 18 ≤ 7129865 by omega)⟩) hP hD hS hA [0, 1, 2, 3, 4, 5, 6, 7, 8, 9, 10, 11, 12, 13] [14, 15, 16, 17, 18, 19, 20, 21, 22, 23, 24, 25, 26] rfl rfl (by decide) (by decide) (fun k u H locs hu hP hD hS => ?_)
  obtain ⟨⟨F1, ls1⟩, f1⟩ := u
  have hP := hP.sub (ws' := lW h a cA hm am cm o co nL nC nB F1 ls1 f1 G sp cd ck) [13, 14, 15, 16, 17, 18, 19, 20, 21, 22, 23, 24, 25, 26, 0, 1, 2, 3, 4, 5, 6, 7, 8, 9, 10, 11, 12] rfl
  have hD := hD.sub (ws' := lW h a cA hm am cm o co nL nC nB F1 ls1 f1 G sp cd ck) [13, 14, 15, 16, 17, 18, 19, 20, 21, 22, 23, 24, 25, 26, 0, 1, 2, 3, 4, 5, 6, 7, 8, 9, 10, 11, 12] (by decide) rfl
  clear hPc hDc hKc
  refine lv_istore (lv' := [(5, .int k), (0, .ref b), (1, .ref h), (2, .ref hm), (3, .ref o), (4, .int (nI i))]) hx hb dL_law_173 hl (by decide) rfl (fun ls0 hl => ?_)
  refine lv_aload_n hx hb dL_law_175 rfl (lv_at hl 3 rfl) ?_
  refine zs_ld (k := 1) 176 C hS (by omega) dL_law_176 dL_law_177 dL_law_179 (by decide) dL_law_180 dL_law_181 (lv_at hl 1 rfl) (lv_at hl 5 rfl) ?_
  refine zs_ld (k := 2) 182 C hS (by omega) dL_law_182 dL_law_183 dL_law_185 (by decide) dL_law_186 dL_law_187 (lv_at hl 1 rfl) (lv_at hl 5 rfl) ?_
  have hPc := hP.sub (ws' := (mW hm am cm nL nC nB G sp cd ck)) [14, 15, 16, 17, 18, 19, 20, 21, 22, 23, 24, 25, 26] rfl
  have hDc := hD.sub (ws' := (mW hm am cm nL nC nB G sp cd ck)) [14, 15, 16, 17, 18, 19, 20, 21, 22, 23, 24, 25, 26] (by decide) rfl
  have hKc := hK.sub (tys' := mT cm) [13, 14, 15, 16, 17, 18, 19, 20, 21, 22, 23, 24] rfl
  refine zz_pi (wr := oE o co f1 :: xW h a cA nL nC nB F1 ls1) (va_runV (As := [.int (xs (i + 1)), .int (xs (i + 2))]) (rest := []) ⟨hx, hb, hml, hown, hts⟩ (cM_create l D hm am cm nL nC nB H.size hn G sp cd ck (xs (i + 1)) (xs (i + 2)) (hcp.I hn.1)) (cwV 2 hts gL_law_X1_create rfl rfl rfl (by decide +kernel) ⟨(Nat.le_of_ble_eq_true rfl), (Nat.le_of_ble_eq_true rfl)⟩) (zz_pV hPc hKc hDc (va_recv hKc hPc (ci := 1) (q0 := 0) rfl rfl)) rfl rfl hl.1 rfl (lv_room (Nat.le_of_ble_eq_true rfl)) dL_law_188 ⟨(show cells + 3 + 0 ≤ 655402 by omega), (show slots + 18 + 0 ≤ 7129865 by omega)⟩) hP hD hS hA [14, 15, 16, 17, 18, 19, 20, 21, 22, 23, 24, 25, 26] [0, 1, 2, 3, 4, 5, 6, 7, 8, 9, 10, 11, 12, 13] rfl rfl (by decide) (by decide) (fun bb v H locs hv hP hD hS => ?_)
  obtain ⟨G1, sp1, cd1, ck1⟩ := v
  refine lv_istore (lv' := [(6, .int bb), (5, .int k), (0, .ref b), (1, .ref h), (2, .ref hm), (3, .ref o), (4, .int (nI i))]) hx hb dL_law_191 hl (by decide) rfl (fun ls0 hl => ?_)
  obtain ⟨z1, z2, z3⟩ := lc_fin (nL := nL) (nC := nC) (nB := nB) (n := n) (n' := n + 16) (b := bb) (v := (G1, sp1, cd1, ck1)) (by omega) hu (fun E hE => cs_create_x  hcp hE hv) (fun v0 h0 => cs_create hn.1 (by omega) (by omega) hcp h0 hv)
  refine zs_tail 193 C hn hK hP hD hS dL_law_193 dL_law_194 dL_law_197 dL_law_199 dL_law_204 dL_law_206 dL_law_209 dL_law_210 dL_law_211 dL_law_212 dL_law_214 dL_law_215 dL_law_216 dL_law_221 (by decide) hl z1 z2 (by omega) (by omega) (fun H locs ls0 hP hD hS hl => ?_)
  exact W.widen (by omega) (by omega) (kk F1 ls1 f1 G1 sp1 cd1 ck1 H locs ls0 z3 hP hD hS hl)
set_option maxHeartbeats 4000000 in
set_option maxRecDepth 100000 in
theorem lc_priority {p : Program} {l : Launch} (hlT : l.stackTraces = false) {e : Env} {s : State} {m : MethodId} {below : List Frame} {meth : Method} {c : Code} {H : Heap} {locs : List Loc} {cells slots b L i n : Nat} {xs : Nat → Int32} {Q : State → Prop} {ls0 : Array Slot} {D : va_G} {h : Nat} {a : Nat → Nat} {cA : Nat → ClassId} {hm : Nat} {am : Nat → Nat} {cm : Nat → ClassId} {o : Nat} {co : ClassId} {nL nC nB : Nat} {F : Nat → Nat → Int32} {ls : Int32} {f : Nat → Int64} {G : Nat → Nat → Int32} {sp : Nat → Int64} {cd : Int32} {ck : Int64} (C : lc_C p s m c b L xs) (hn : nL ≤ 8 ∧ nC ≤ 8 ∧ nB ≤ 8) (hi : i + 2 < L) (hn2 : n + 16 < 2 ^ 30) (hcp : cp nL nC nB n F ls G sp ck) (hK : va_K D vwCl (lT cA cm co) s) (hP : va_P D vwCl (lW h a cA hm am cm o co nL nC nB F ls f G sp cd ck) H) (hD : va_D (lA s) (lW h a cA hm am cm o co nL nC nB F ls f G sp cd ck)) (hS : va_S (lA s) s.heap H locs) (hl : lv_has ls0 7 [(0, .ref b), (1, .ref h), (2, .ref hm), (3, .ref o), (4, .int (nI i))]) (hc1 : cells + 4 ≤ 655402) (hs1 : slots + 24 ≤ 7129865)
    (kk : ∀ (F : Nat → Nat → Int32) (ls : Int32) (f : Nat → Int64) (G : Nat → Nat → Int32) (sp : Nat → Int64) (cd : Int32) (ck : Int64) (H : Heap) (locs : List Loc) (ls0 : Array Slot), cp nL nC nB (n + 16) F ls G sp ck → va_P D vwCl (lW h a cA hm am cm o co nL nC nB F ls f G sp cd ck) H → va_D (lA s) (lW h a cA hm am cm o co nL nC nB F ls f G sp cd ck) → va_S (lA s) s.heap H locs → lv_has ls0 7 [(0, .ref b), (1, .ref h), (2, .ref hm), (3, .ref o), (4, .int (nI i))] → W p l e room_1 s m #[Value.ref b] below meth c H locs (cells + 4) (slots + 24) Q (F0 m 1124 ls0 [])) :
    W p l e room_1 s m #[Value.ref b] below meth c H locs cells slots Q (F0 m 224 ls0 []) := by
  obtain ⟨hx, hb, hml, hown, hts, hX, hbl, hL, hT, hN⟩ := id C
  have hA : ∀ q : Nat, s.heap.size ≤ q → lA s q := fun _ h => h
  refine lv_aload_n hx hb dL_law_224 rfl (lv_at hl 1 rfl) ?_
  refine zs_ld (k := 1) 225 C hS (by omega) dL_law_225 dL_law_226 dL_law_228 (by decide) dL_law_229 dL_law_230 (lv_at hl 0 rfl) (lv_at hl 4 rfl) ?_
  refine zs_ld (k := 2) 231 C hS (by omega) dL_law_231 dL_law_232 dL_law_234 (by decide) dL_law_235 dL_law_236 (lv_at hl 0 rfl) (lv_at hl 4 rfl) ?_
  refine lv_aload_n hx hb dL_law_237 rfl (lv_at hl 3 rfl) ?_
  have hPc := hP.sub (ws' := (oE o co f :: xW h a cA nL nC nB F ls)) [0, 1, 2, 3, 4, 5, 6, 7, 8, 9, 10, 11, 12, 13] rfl
  have hDc := hD.sub (ws' := (oE o co f :: xW h a cA nL nC nB F ls)) [0, 1, 2, 3, 4, 5, 6, 7, 8, 9, 10, 11, 12, 13] (by decide) rfl
  have hKc := hK.sub (tys' := (co, .long) :: xT cA) [0, 1, 2, 3, 4, 5, 6, 7, 8, 9, 10, 11, 12] rfl
  refine zz_pi (wr := mW hm am cm nL nC nB G sp cd ck) (vx_runSW (As := [.ref h, .int (xs (i + 1)), .int (xs (i + 2)), .ref o]) (rest := []) ⟨hx, hb, hml, hown, hts⟩ (cL_priority_met l hlT D h a cA nL nC nB H.size hn F ls o co f (xs (i + 1)) (xs (i + 2)) hcp.ow) (vx_cwSW 4 hts gL_law_L_priority rfl rfl rfl (by decide +kernel) ⟨(Nat.le_of_ble_eq_true rfl), (Nat.le_of_ble_eq_true rfl)⟩) (zl_pS hPc hKc hDc hA hS hT hN) rfl rfl hl.1 rfl (lv_room (Nat.le_of_ble_eq_true rfl)) dL_law_238 ⟨(show cells + 3 ≤ 655402 by omega), (show slots + 18 ≤ 7129865 by omega)⟩) hP hD hS hA [0, 1, 2, 3, 4, 5, 6, 7, 8, 9, 10, 11, 12, 13] [14, 15, 16, 17, 18, 19, 20, 21, 22, 23, 24, 25, 26] rfl rfl (by decide) (by decide) (fun k u H locs hu hP hD hS => ?_)
  obtain ⟨⟨F1, ls1⟩, f1⟩ := u
  have hP := hP.sub (ws' := lW h a cA hm am cm o co nL nC nB F1 ls1 f1 G sp cd ck) [13, 14, 15, 16, 17, 18, 19, 20, 21, 22, 23, 24, 25, 26, 0, 1, 2, 3, 4, 5, 6, 7, 8, 9, 10, 11, 12] rfl
  have hD := hD.sub (ws' := lW h a cA hm am cm o co nL nC nB F1 ls1 f1 G sp cd ck) [13, 14, 15, 16, 17, 18, 19, 20, 21, 22, 23, 24, 25, 26, 0, 1, 2, 3, 4, 5, 6, 7, 8, 9, 10, 11, 12] (by decide) rfl
  clear hPc hDc hKc
  refine lv_istore (lv' := [(5, .int k), (0, .ref b), (1, .ref h), (2, .ref hm), (3, .ref o), (4, .int (nI i))]) hx hb dL_law_241 hl (by decide) rfl (fun ls0 hl => ?_)
  refine lv_aload_n hx hb dL_law_243 rfl (lv_at hl 3 rfl) ?_
  refine zs_ld (k := 1) 244 C hS (by omega) dL_law_244 dL_law_245 dL_law_247 (by decide) dL_law_248 dL_law_249 (lv_at hl 1 rfl) (lv_at hl 5 rfl) ?_
  refine zs_ld (k := 2) 250 C hS (by omega) dL_law_250 dL_law_251 dL_law_253 (by decide) dL_law_254 dL_law_255 (lv_at hl 1 rfl) (lv_at hl 5 rfl) ?_
  have hPc := hP.sub (ws' := (mW hm am cm nL nC nB G sp cd ck)) [14, 15, 16, 17, 18, 19, 20, 21, 22, 23, 24, 25, 26] rfl
  have hDc := hD.sub (ws' := (mW hm am cm nL nC nB G sp cd ck)) [14, 15, 16, 17, 18, 19, 20, 21, 22, 23, 24, 25, 26] (by decide) rfl
  have hKc := hK.sub (tys' := mT cm) [13, 14, 15, 16, 17, 18, 19, 20, 21, 22, 23, 24] rfl
  refine zz_pi (wr := oE o co f1 :: xW h a cA nL nC nB F1 ls1) (va_runV (As := [.int (xs (i + 1)), .int (xs (i + 2))]) (rest := []) ⟨hx, hb, hml, hown, hts⟩ (cM_priority l D hm am cm nL nC nB H.size hn G sp cd ck (xs (i + 1)) (xs (i + 2))) (cwV 2 hts gL_law_X1_priority rfl rfl rfl (by decide +kernel) ⟨(Nat.le_of_ble_eq_true rfl), (Nat.le_of_ble_eq_true rfl)⟩) (zz_pV hPc hKc hDc (va_recv hKc hPc (ci := 1) (q0 := 0) rfl rfl)) rfl rfl hl.1 rfl (lv_room (Nat.le_of_ble_eq_true rfl)) dL_law_256 ⟨(show cells + 3 + 0 ≤ 655402 by omega), (show slots + 18 + 0 ≤ 7129865 by omega)⟩) hP hD hS hA [14, 15, 16, 17, 18, 19, 20, 21, 22, 23, 24, 25, 26] [0, 1, 2, 3, 4, 5, 6, 7, 8, 9, 10, 11, 12, 13] rfl rfl (by decide) (by decide) (fun bb v H locs hv hP hD hS => ?_)
  obtain ⟨G1, sp1, cd1, ck1⟩ := v
  refine lv_istore (lv' := [(6, .int bb), (5, .int k), (0, .ref b), (1, .ref h), (2, .ref hm), (3, .ref o), (4, .int (nI i))]) hx hb dL_law_259 hl (by decide) rfl (fun ls0 hl => ?_)
  obtain ⟨z1, z2, z3⟩ := lc_fin (nL := nL) (nC := nC) (nB := nB) (n := n) (n' := n + 16) (b := bb) (v := (G1, sp1, cd1, ck1)) (by omega) hu (fun E hE => cs_priority_x  hcp hE hv) (fun v0 h0 => by
    obtain ⟨q1, q2, q3⟩ := cs_priority hcp h0 hv
    exact ⟨q1, q2, q3.more (by omega)⟩)
  refine zs_tail 261 C hn hK hP hD hS dL_law_261 dL_law_262 dL_law_265 dL_law_267 dL_law_272 dL_law_274 dL_law_277 dL_law_278 dL_law_279 dL_law_280 dL_law_282 dL_law_283 dL_law_284 dL_law_289 (by decide) hl z1 z2 (by omega) (by omega) (fun H locs ls0 hP hD hS hl => ?_)
  exact W.widen (by omega) (by omega) (kk F1 ls1 f1 G1 sp1 cd1 ck1 H locs ls0 z3 hP hD hS hl)
set_option maxHeartbeats 4000000 in
set_option maxRecDepth 100000 in
theorem lc_lock {p : Program} {l : Launch} (hlT : l.stackTraces = false) {e : Env} {s : State} {m : MethodId} {below : List Frame} {meth : Method} {c : Code} {H : Heap} {locs : List Loc} {cells slots b L i n : Nat} {xs : Nat → Int32} {Q : State → Prop} {ls0 : Array Slot} {D : va_G} {h : Nat} {a : Nat → Nat} {cA : Nat → ClassId} {hm : Nat} {am : Nat → Nat} {cm : Nat → ClassId} {o : Nat} {co : ClassId} {nL nC nB : Nat} {F : Nat → Nat → Int32} {ls : Int32} {f : Nat → Int64} {G : Nat → Nat → Int32} {sp : Nat → Int64} {cd : Int32} {ck : Int64} (C : lc_C p s m c b L xs) (hn : nL ≤ 8 ∧ nC ≤ 8 ∧ nB ≤ 8) (hi : i + 2 < L) (hn2 : n + 16 < 2 ^ 30) (hcp : cp nL nC nB n F ls G sp ck) (hK : va_K D vwCl (lT cA cm co) s) (hP : va_P D vwCl (lW h a cA hm am cm o co nL nC nB F ls f G sp cd ck) H) (hD : va_D (lA s) (lW h a cA hm am cm o co nL nC nB F ls f G sp cd ck)) (hS : va_S (lA s) s.heap H locs) (hl : lv_has ls0 7 [(0, .ref b), (1, .ref h), (2, .ref hm), (3, .ref o), (4, .int (nI i))]) (hc1 : cells + 4 ≤ 655402) (hs1 : slots + 24 ≤ 7129865)
    (kk : ∀ (F : Nat → Nat → Int32) (ls : Int32) (f : Nat → Int64) (G : Nat → Nat → Int32) (sp : Nat → Int64) (cd : Int32) (ck : Int64) (H : Heap) (locs : List Loc) (ls0 : Array Slot), cp nL nC nB (n + 16) F ls G sp ck → va_P D vwCl (lW h a cA hm am cm o co nL nC nB F ls f G sp cd ck) H → va_D (lA s) (lW h a cA hm am cm o co nL nC nB F ls f G sp cd ck) → va_S (lA s) s.heap H locs → lv_has ls0 7 [(0, .ref b), (1, .ref h), (2, .ref hm), (3, .ref o), (4, .int (nI i))] → W p l e room_1 s m #[Value.ref b] below meth c H locs (cells + 4) (slots + 24) Q (F0 m 1124 ls0 [])) :
    W p l e room_1 s m #[Value.ref b] below meth c H locs cells slots Q (F0 m 292 ls0 []) := by
  obtain ⟨hx, hb, hml, hown, hts, hX, hbl, hL, hT, hN⟩ := id C
  have hA : ∀ q : Nat, s.heap.size ≤ q → lA s q := fun _ h => h
  refine lv_aload_n hx hb dL_law_292 rfl (lv_at hl 1 rfl) ?_
  refine zs_ld (k := 1) 293 C hS (by omega) dL_law_293 dL_law_294 dL_law_296 (by decide) dL_law_297 dL_law_298 (lv_at hl 0 rfl) (lv_at hl 4 rfl) ?_
  refine lv_aload_n hx hb dL_law_299 rfl (lv_at hl 3 rfl) ?_
  have hPc := hP.sub (ws' := (oE o co f :: xW h a cA nL nC nB F ls)) [0, 1, 2, 3, 4, 5, 6, 7, 8, 9, 10, 11, 12, 13] rfl
  have hDc := hD.sub (ws' := (oE o co f :: xW h a cA nL nC nB F ls)) [0, 1, 2, 3, 4, 5, 6, 7, 8, 9, 10, 11, 12, 13] (by decide) rfl
  have hKc := hK.sub (tys' := (co, .long) :: xT cA) [0, 1, 2, 3, 4, 5, 6, 7, 8, 9, 10, 11, 12] rfl
  refine zz_pi (wr := mW hm am cm nL nC nB G sp cd ck) (vx_runSW (As := [.ref h, .int (xs (i + 1)), .ref o]) (rest := []) ⟨hx, hb, hml, hown, hts⟩ (cL_lock_met l hlT D h a cA nL nC nB H.size hn F ls o co f (xs (i + 1)) hcp.ow) (vx_cwSW 3 hts gL_law_L_lock rfl rfl rfl (by decide +kernel) ⟨(Nat.le_of_ble_eq_true rfl), (Nat.le_of_ble_eq_true rfl)⟩) (zl_pS hPc hKc hDc hA hS hT hN) rfl rfl hl.1 rfl (lv_room (Nat.le_of_ble_eq_true rfl)) dL_law_300 ⟨(show cells + 3 ≤ 655402 by omega), (show slots + 18 ≤ 7129865 by omega)⟩) hP hD hS hA [0, 1, 2, 3, 4, 5, 6, 7, 8, 9, 10, 11, 12, 13] [14, 15, 16, 17, 18, 19, 20, 21, 22, 23, 24, 25, 26] rfl rfl (by decide) (by decide) (fun k u H locs hu hP hD hS => ?_)
  obtain ⟨⟨F1, ls1⟩, f1⟩ := u
  have hP := hP.sub (ws' := lW h a cA hm am cm o co nL nC nB F1 ls1 f1 G sp cd ck) [13, 14, 15, 16, 17, 18, 19, 20, 21, 22, 23, 24, 25, 26, 0, 1, 2, 3, 4, 5, 6, 7, 8, 9, 10, 11, 12] rfl
  have hD := hD.sub (ws' := lW h a cA hm am cm o co nL nC nB F1 ls1 f1 G sp cd ck) [13, 14, 15, 16, 17, 18, 19, 20, 21, 22, 23, 24, 25, 26, 0, 1, 2, 3, 4, 5, 6, 7, 8, 9, 10, 11, 12] (by decide) rfl
  clear hPc hDc hKc
  refine lv_istore (lv' := [(5, .int k), (0, .ref b), (1, .ref h), (2, .ref hm), (3, .ref o), (4, .int (nI i))]) hx hb dL_law_303 hl (by decide) rfl (fun ls0 hl => ?_)
  refine lv_aload_n hx hb dL_law_305 rfl (lv_at hl 3 rfl) ?_
  refine zs_ld (k := 1) 306 C hS (by omega) dL_law_306 dL_law_307 dL_law_309 (by decide) dL_law_310 dL_law_311 (lv_at hl 1 rfl) (lv_at hl 5 rfl) ?_
  have hPc := hP.sub (ws' := (mW hm am cm nL nC nB G sp cd ck)) [14, 15, 16, 17, 18, 19, 20, 21, 22, 23, 24, 25, 26] rfl
  have hDc := hD.sub (ws' := (mW hm am cm nL nC nB G sp cd ck)) [14, 15, 16, 17, 18, 19, 20, 21, 22, 23, 24, 25, 26] (by decide) rfl
  have hKc := hK.sub (tys' := mT cm) [13, 14, 15, 16, 17, 18, 19, 20, 21, 22, 23, 24] rfl
  refine zz_pi (wr := oE o co f1 :: xW h a cA nL nC nB F1 ls1) (va_runV (As := [.int (xs (i + 1))]) (rest := []) ⟨hx, hb, hml, hown, hts⟩ (cM_lock l D hm am cm nL nC nB H.size hn G sp cd ck (xs (i + 1)) (hcp.I hn.1)) (cwV 1 hts gL_law_X1_lock rfl rfl rfl (by decide +kernel) ⟨(Nat.le_of_ble_eq_true rfl), (Nat.le_of_ble_eq_true rfl)⟩) (zz_pV hPc hKc hDc (va_recv hKc hPc (ci := 1) (q0 := 0) rfl rfl)) rfl rfl hl.1 rfl (lv_room (Nat.le_of_ble_eq_true rfl)) dL_law_312 ⟨(show cells + 3 + 0 ≤ 655402 by omega), (show slots + 18 + 0 ≤ 7129865 by omega)⟩) hP hD hS hA [14, 15, 16, 17, 18, 19, 20, 21, 22, 23, 24, 25, 26] [0, 1, 2, 3, 4, 5, 6, 7, 8, 9, 10, 11, 12, 13] rfl rfl (by decide) (by decide) (fun bb v H locs hv hP hD hS => ?_)
  obtain ⟨G1, sp1, cd1, ck1⟩ := v
  refine lv_istore (lv' := [(6, .int bb), (5, .int k), (0, .ref b), (1, .ref h), (2, .ref hm), (3, .ref o), (4, .int (nI i))]) hx hb dL_law_315 hl (by decide) rfl (fun ls0 hl => ?_)
  obtain ⟨z1, z2, z3⟩ := lc_fin (nL := nL) (nC := nC) (nB := nB) (n := n) (n' := n + 16) (b := bb) (v := (G1, sp1, cd1, ck1)) (by omega) hu (fun E hE => cs_lock_x  hn.1 (by omega) hcp hE hv) (fun v0 h0 => cs_lock hn.1 (by omega) (by omega) hcp h0 hv)
  refine zs_tail 317 C hn hK hP hD hS dL_law_317 dL_law_318 dL_law_321 dL_law_323 dL_law_328 dL_law_330 dL_law_333 dL_law_334 dL_law_335 dL_law_336 dL_law_338 dL_law_339 dL_law_340 dL_law_345 (by decide) hl z1 z2 (by omega) (by omega) (fun H locs ls0 hP hD hS hl => ?_)
  exact W.widen (by omega) (by omega) (kk F1 ls1 f1 G1 sp1 cd1 ck1 H locs ls0 z3 hP hD hS hl)
set_option maxHeartbeats 4000000 in
set_option maxRecDepth 100000 in
theorem lc_unlock {p : Program} {l : Launch} (hlT : l.stackTraces = false) {e : Env} {s : State} {m : MethodId} {below : List Frame} {meth : Method} {c : Code} {H : Heap} {locs : List Loc} {cells slots b L i n : Nat} {xs : Nat → Int32} {Q : State → Prop} {ls0 : Array Slot} {D : va_G} {h : Nat} {a : Nat → Nat} {cA : Nat → ClassId} {hm : Nat} {am : Nat → Nat} {cm : Nat → ClassId} {o : Nat} {co : ClassId} {nL nC nB : Nat} {F : Nat → Nat → Int32} {ls : Int32} {f : Nat → Int64} {G : Nat → Nat → Int32} {sp : Nat → Int64} {cd : Int32} {ck : Int64} (C : lc_C p s m c b L xs) (hn : nL ≤ 8 ∧ nC ≤ 8 ∧ nB ≤ 8) (hi : i + 2 < L) (hn2 : n + 16 < 2 ^ 30) (hcp : cp nL nC nB n F ls G sp ck) (hK : va_K D vwCl (lT cA cm co) s) (hP : va_P D vwCl (lW h a cA hm am cm o co nL nC nB F ls f G sp cd ck) H) (hD : va_D (lA s) (lW h a cA hm am cm o co nL nC nB F ls f G sp cd ck)) (hS : va_S (lA s) s.heap H locs) (hl : lv_has ls0 7 [(0, .ref b), (1, .ref h), (2, .ref hm), (3, .ref o), (4, .int (nI i))]) (hc1 : cells + 4 ≤ 655402) (hs1 : slots + 24 ≤ 7129865)
    (kk : ∀ (F : Nat → Nat → Int32) (ls : Int32) (f : Nat → Int64) (G : Nat → Nat → Int32) (sp : Nat → Int64) (cd : Int32) (ck : Int64) (H : Heap) (locs : List Loc) (ls0 : Array Slot), cp nL nC nB (n + 16) F ls G sp ck → va_P D vwCl (lW h a cA hm am cm o co nL nC nB F ls f G sp cd ck) H → va_D (lA s) (lW h a cA hm am cm o co nL nC nB F ls f G sp cd ck) → va_S (lA s) s.heap H locs → lv_has ls0 7 [(0, .ref b), (1, .ref h), (2, .ref hm), (3, .ref o), (4, .int (nI i))] → W p l e room_1 s m #[Value.ref b] below meth c H locs (cells + 4) (slots + 24) Q (F0 m 1124 ls0 [])) :
    W p l e room_1 s m #[Value.ref b] below meth c H locs cells slots Q (F0 m 348 ls0 []) := by
  obtain ⟨hx, hb, hml, hown, hts, hX, hbl, hL, hT, hN⟩ := id C
  have hA : ∀ q : Nat, s.heap.size ≤ q → lA s q := fun _ h => h
  refine lv_aload_n hx hb dL_law_348 rfl (lv_at hl 1 rfl) ?_
  refine zs_ld (k := 1) 349 C hS (by omega) dL_law_349 dL_law_350 dL_law_352 (by decide) dL_law_353 dL_law_354 (lv_at hl 0 rfl) (lv_at hl 4 rfl) ?_
  refine lv_aload_n hx hb dL_law_355 rfl (lv_at hl 3 rfl) ?_
  have hPc := hP.sub (ws' := (oE o co f :: xW h a cA nL nC nB F ls)) [0, 1, 2, 3, 4, 5, 6, 7, 8, 9, 10, 11, 12, 13] rfl
  have hDc := hD.sub (ws' := (oE o co f :: xW h a cA nL nC nB F ls)) [0, 1, 2, 3, 4, 5, 6, 7, 8, 9, 10, 11, 12, 13] (by decide) rfl
  have hKc := hK.sub (tys' := (co, .long) :: xT cA) [0, 1, 2, 3, 4, 5, 6, 7, 8, 9, 10, 11, 12] rfl
  refine zz_pi (wr := mW hm am cm nL nC nB G sp cd ck) (vx_runSW (As := [.ref h, .int (xs (i + 1)), .ref o]) (rest := []) ⟨hx, hb, hml, hown, hts⟩ (cL_unlock_met l hlT D h a cA nL nC nB H.size hn F ls o co f (xs (i + 1)) hcp.ow) (vx_cwSW 3 hts gL_law_L_unlock rfl rfl rfl (by decide +kernel) ⟨(Nat.le_of_ble_eq_true rfl), (Nat.le_of_ble_eq_true rfl)⟩) (zl_pS hPc hKc hDc hA hS hT hN) rfl rfl hl.1 rfl (lv_room (Nat.le_of_ble_eq_true rfl)) dL_law_356 ⟨(show cells + 3 ≤ 655402 by omega), (show slots + 18 ≤ 7129865 by omega)⟩) hP hD hS hA [0, 1, 2, 3, 4, 5, 6, 7, 8, 9, 10, 11, 12, 13] [14, 15, 16, 17, 18, 19, 20, 21, 22, 23, 24, 25, 26] rfl rfl (by decide) (by decide) (fun k u H locs hu hP hD hS => ?_)
  obtain ⟨⟨F1, ls1⟩, f1⟩ := u
  have hP := hP.sub (ws' := lW h a cA hm am cm o co nL nC nB F1 ls1 f1 G sp cd ck) [13, 14, 15, 16, 17, 18, 19, 20, 21, 22, 23, 24, 25, 26, 0, 1, 2, 3, 4, 5, 6, 7, 8, 9, 10, 11, 12] rfl
  have hD := hD.sub (ws' := lW h a cA hm am cm o co nL nC nB F1 ls1 f1 G sp cd ck) [13, 14, 15, 16, 17, 18, 19, 20, 21, 22, 23, 24, 25, 26, 0, 1, 2, 3, 4, 5, 6, 7, 8, 9, 10, 11, 12] (by decide) rfl
  clear hPc hDc hKc
  refine lv_istore (lv' := [(5, .int k), (0, .ref b), (1, .ref h), (2, .ref hm), (3, .ref o), (4, .int (nI i))]) hx hb dL_law_359 hl (by decide) rfl (fun ls0 hl => ?_)
  refine lv_aload_n hx hb dL_law_361 rfl (lv_at hl 3 rfl) ?_
  refine zs_ld (k := 1) 362 C hS (by omega) dL_law_362 dL_law_363 dL_law_365 (by decide) dL_law_366 dL_law_367 (lv_at hl 1 rfl) (lv_at hl 5 rfl) ?_
  have hPc := hP.sub (ws' := (mW hm am cm nL nC nB G sp cd ck)) [14, 15, 16, 17, 18, 19, 20, 21, 22, 23, 24, 25, 26] rfl
  have hDc := hD.sub (ws' := (mW hm am cm nL nC nB G sp cd ck)) [14, 15, 16, 17, 18, 19, 20, 21, 22, 23, 24, 25, 26] (by decide) rfl
  have hKc := hK.sub (tys' := mT cm) [13, 14, 15, 16, 17, 18, 19, 20, 21, 22, 23, 24] rfl
  refine zz_pi (wr := oE o co f1 :: xW h a cA nL nC nB F1 ls1) (va_runV (As := [.int (xs (i + 1))]) (rest := []) ⟨hx, hb, hml, hown, hts⟩ (cM_unlock l D hm am cm nL nC nB H.size hn G sp cd ck (xs (i + 1)) (hcp.I hn.1)) (cwV 1 hts gL_law_X1_unlock rfl rfl rfl (by decide +kernel) ⟨(Nat.le_of_ble_eq_true rfl), (Nat.le_of_ble_eq_true rfl)⟩) (zz_pV hPc hKc hDc (va_recv hKc hPc (ci := 1) (q0 := 0) rfl rfl)) rfl rfl hl.1 rfl (lv_room (Nat.le_of_ble_eq_true rfl)) dL_law_368 ⟨(show cells + 3 + 0 ≤ 655402 by omega), (show slots + 18 + 0 ≤ 7129865 by omega)⟩) hP hD hS hA [14, 15, 16, 17, 18, 19, 20, 21, 22, 23, 24, 25, 26] [0, 1, 2, 3, 4, 5, 6, 7, 8, 9, 10, 11, 12, 13] rfl rfl (by decide) (by decide) (fun bb v H locs hv hP hD hS => ?_)
  obtain ⟨G1, sp1, cd1, ck1⟩ := v
  refine lv_istore (lv' := [(6, .int bb), (5, .int k), (0, .ref b), (1, .ref h), (2, .ref hm), (3, .ref o), (4, .int (nI i))]) hx hb dL_law_371 hl (by decide) rfl (fun ls0 hl => ?_)
  obtain ⟨z1, z2, z3⟩ := lc_fin (nL := nL) (nC := nC) (nB := nB) (n := n) (n' := n + 16) (b := bb) (v := (G1, sp1, cd1, ck1)) (by omega) hu (fun E hE => cs_unlock_x  hn.1 (by omega) hcp hE hv) (fun v0 h0 => cs_unlock hn.1 (by omega) (by omega) hcp h0 hv)
  refine zs_tail 373 C hn hK hP hD hS dL_law_373 dL_law_374 dL_law_377 dL_law_379 dL_law_384 dL_law_386 dL_law_389 dL_law_390 dL_law_391 dL_law_392 dL_law_394 dL_law_395 dL_law_396 dL_law_401 (by decide) hl z1 z2 (by omega) (by omega) (fun H locs ls0 hP hD hS hl => ?_)
  exact W.widen (by omega) (by omega) (kk F1 ls1 f1 G1 sp1 cd1 ck1 H locs ls0 z3 hP hD hS hl)
set_option maxHeartbeats 4000000 in
set_option maxRecDepth 100000 in
theorem lc_down {p : Program} {l : Launch} (hlT : l.stackTraces = false) {e : Env} {s : State} {m : MethodId} {below : List Frame} {meth : Method} {c : Code} {H : Heap} {locs : List Loc} {cells slots b L i n : Nat} {xs : Nat → Int32} {Q : State → Prop} {ls0 : Array Slot} {D : va_G} {h : Nat} {a : Nat → Nat} {cA : Nat → ClassId} {hm : Nat} {am : Nat → Nat} {cm : Nat → ClassId} {o : Nat} {co : ClassId} {nL nC nB : Nat} {F : Nat → Nat → Int32} {ls : Int32} {f : Nat → Int64} {G : Nat → Nat → Int32} {sp : Nat → Int64} {cd : Int32} {ck : Int64} (C : lc_C p s m c b L xs) (hn : nL ≤ 8 ∧ nC ≤ 8 ∧ nB ≤ 8) (hi : i + 2 < L) (hn2 : n + 16 < 2 ^ 30) (hcp : cp nL nC nB n F ls G sp ck) (hK : va_K D vwCl (lT cA cm co) s) (hP : va_P D vwCl (lW h a cA hm am cm o co nL nC nB F ls f G sp cd ck) H) (hD : va_D (lA s) (lW h a cA hm am cm o co nL nC nB F ls f G sp cd ck)) (hS : va_S (lA s) s.heap H locs) (hl : lv_has ls0 7 [(0, .ref b), (1, .ref h), (2, .ref hm), (3, .ref o), (4, .int (nI i))]) (hc1 : cells + 4 ≤ 655402) (hs1 : slots + 24 ≤ 7129865)
    (kk : ∀ (F : Nat → Nat → Int32) (ls : Int32) (f : Nat → Int64) (G : Nat → Nat → Int32) (sp : Nat → Int64) (cd : Int32) (ck : Int64) (H : Heap) (locs : List Loc) (ls0 : Array Slot), cp nL nC nB (n + 16) F ls G sp ck → va_P D vwCl (lW h a cA hm am cm o co nL nC nB F ls f G sp cd ck) H → va_D (lA s) (lW h a cA hm am cm o co nL nC nB F ls f G sp cd ck) → va_S (lA s) s.heap H locs → lv_has ls0 7 [(0, .ref b), (1, .ref h), (2, .ref hm), (3, .ref o), (4, .int (nI i))] → W p l e room_1 s m #[Value.ref b] below meth c H locs (cells + 4) (slots + 24) Q (F0 m 1124 ls0 [])) :
    W p l e room_1 s m #[Value.ref b] below meth c H locs cells slots Q (F0 m 404 ls0 []) := by
  obtain ⟨hx, hb, hml, hown, hts, hX, hbl, hL, hT, hN⟩ := id C
  have hA : ∀ q : Nat, s.heap.size ≤ q → lA s q := fun _ h => h
  refine lv_aload_n hx hb dL_law_404 rfl (lv_at hl 1 rfl) ?_
  refine zs_ld (k := 1) 405 C hS (by omega) dL_law_405 dL_law_406 dL_law_408 (by decide) dL_law_409 dL_law_410 (lv_at hl 0 rfl) (lv_at hl 4 rfl) ?_
  refine lv_aload_n hx hb dL_law_411 rfl (lv_at hl 3 rfl) ?_
  have hPc := hP.sub (ws' := (oE o co f :: xW h a cA nL nC nB F ls)) [0, 1, 2, 3, 4, 5, 6, 7, 8, 9, 10, 11, 12, 13] rfl
  have hDc := hD.sub (ws' := (oE o co f :: xW h a cA nL nC nB F ls)) [0, 1, 2, 3, 4, 5, 6, 7, 8, 9, 10, 11, 12, 13] (by decide) rfl
  have hKc := hK.sub (tys' := (co, .long) :: xT cA) [0, 1, 2, 3, 4, 5, 6, 7, 8, 9, 10, 11, 12] rfl
  refine zz_pi (wr := mW hm am cm nL nC nB G sp cd ck) (vx_runSW (As := [.ref h, .int (xs (i + 1)), .ref o]) (rest := []) ⟨hx, hb, hml, hown, hts⟩ (cL_down_met l hlT D h a cA nL nC nB H.size hn F ls o co f (xs (i + 1))) (vx_cwSW 3 hts gL_law_L_down rfl rfl rfl (by decide +kernel) ⟨(Nat.le_of_ble_eq_true rfl), (Nat.le_of_ble_eq_true rfl)⟩) (zl_pS hPc hKc hDc hA hS hT hN) rfl rfl hl.1 rfl (lv_room (Nat.le_of_ble_eq_true rfl)) dL_law_412 ⟨(show cells + 2 ≤ 655402 by omega), (show slots + 12 ≤ 7129865 by omega)⟩) hP hD hS hA [0, 1, 2, 3, 4, 5, 6, 7, 8, 9, 10, 11, 12, 13] [14, 15, 16, 17, 18, 19, 20, 21, 22, 23, 24, 25, 26] rfl rfl (by decide) (by decide) (fun k u H locs hu hP hD hS => ?_)
  obtain ⟨⟨F1, ls1⟩, f1⟩ := u
  have hP := hP.sub (ws' := lW h a cA hm am cm o co nL nC nB F1 ls1 f1 G sp cd ck) [13, 14, 15, 16, 17, 18, 19, 20, 21, 22, 23, 24, 25, 26, 0, 1, 2, 3, 4, 5, 6, 7, 8, 9, 10, 11, 12] rfl
  have hD := hD.sub (ws' := lW h a cA hm am cm o co nL nC nB F1 ls1 f1 G sp cd ck) [13, 14, 15, 16, 17, 18, 19, 20, 21, 22, 23, 24, 25, 26, 0, 1, 2, 3, 4, 5, 6, 7, 8, 9, 10, 11, 12] (by decide) rfl
  clear hPc hDc hKc
  refine lv_istore (lv' := [(5, .int k), (0, .ref b), (1, .ref h), (2, .ref hm), (3, .ref o), (4, .int (nI i))]) hx hb dL_law_415 hl (by decide) rfl (fun ls0 hl => ?_)
  refine lv_aload_n hx hb dL_law_417 rfl (lv_at hl 3 rfl) ?_
  refine zs_ld (k := 1) 418 C hS (by omega) dL_law_418 dL_law_419 dL_law_421 (by decide) dL_law_422 dL_law_423 (lv_at hl 1 rfl) (lv_at hl 5 rfl) ?_
  have hPc := hP.sub (ws' := (mW hm am cm nL nC nB G sp cd ck)) [14, 15, 16, 17, 18, 19, 20, 21, 22, 23, 24, 25, 26] rfl
  have hDc := hD.sub (ws' := (mW hm am cm nL nC nB G sp cd ck)) [14, 15, 16, 17, 18, 19, 20, 21, 22, 23, 24, 25, 26] (by decide) rfl
  have hKc := hK.sub (tys' := mT cm) [13, 14, 15, 16, 17, 18, 19, 20, 21, 22, 23, 24] rfl
  refine zz_pi (wr := oE o co f1 :: xW h a cA nL nC nB F1 ls1) (va_runV (As := [.int (xs (i + 1))]) (rest := []) ⟨hx, hb, hml, hown, hts⟩ (cM_down l D hm am cm nL nC nB H.size hn G sp cd ck (xs (i + 1)) (hcp.I hn.1)) (cwV 1 hts gL_law_X1_down rfl rfl rfl (by decide +kernel) ⟨(Nat.le_of_ble_eq_true rfl), (Nat.le_of_ble_eq_true rfl)⟩) (zz_pV hPc hKc hDc (va_recv hKc hPc (ci := 1) (q0 := 0) rfl rfl)) rfl rfl hl.1 rfl (lv_room (Nat.le_of_ble_eq_true rfl)) dL_law_424 ⟨(show cells + 2 + 0 ≤ 655402 by omega), (show slots + 12 + 0 ≤ 7129865 by omega)⟩) hP hD hS hA [14, 15, 16, 17, 18, 19, 20, 21, 22, 23, 24, 25, 26] [0, 1, 2, 3, 4, 5, 6, 7, 8, 9, 10, 11, 12, 13] rfl rfl (by decide) (by decide) (fun bb v H locs hv hP hD hS => ?_)
  obtain ⟨G1, sp1, cd1, ck1⟩ := v
  refine lv_istore (lv' := [(6, .int bb), (5, .int k), (0, .ref b), (1, .ref h), (2, .ref hm), (3, .ref o), (4, .int (nI i))]) hx hb dL_law_427 hl (by decide) rfl (fun ls0 hl => ?_)
  obtain ⟨z1, z2, z3⟩ := lc_fin (nL := nL) (nC := nC) (nB := nB) (n := n) (n' := n + 16) (b := bb) (v := (G1, sp1, cd1, ck1)) (by omega) hu (fun E hE => cs_down_x  hn.1 (by omega) hcp hE hv) (fun v0 h0 => cs_down hn.2.1 hn.1 (by omega) (by omega) hcp h0 hv)
  refine zs_tail 429 C hn hK hP hD hS dL_law_429 dL_law_430 dL_law_433 dL_law_435 dL_law_440 dL_law_442 dL_law_445 dL_law_446 dL_law_447 dL_law_448 dL_law_450 dL_law_451 dL_law_452 dL_law_457 (by decide) hl z1 z2 (by omega) (by omega) (fun H locs ls0 hP hD hS hl => ?_)
  exact W.widen (by omega) (by omega) (kk F1 ls1 f1 G1 sp1 cd1 ck1 H locs ls0 z3 hP hD hS hl)
set_option maxHeartbeats 4000000 in
set_option maxRecDepth 100000 in
theorem lc_up {p : Program} {l : Launch} (hlT : l.stackTraces = false) {e : Env} {s : State} {m : MethodId} {below : List Frame} {meth : Method} {c : Code} {H : Heap} {locs : List Loc} {cells slots b L i n : Nat} {xs : Nat → Int32} {Q : State → Prop} {ls0 : Array Slot} {D : va_G} {h : Nat} {a : Nat → Nat} {cA : Nat → ClassId} {hm : Nat} {am : Nat → Nat} {cm : Nat → ClassId} {o : Nat} {co : ClassId} {nL nC nB : Nat} {F : Nat → Nat → Int32} {ls : Int32} {f : Nat → Int64} {G : Nat → Nat → Int32} {sp : Nat → Int64} {cd : Int32} {ck : Int64} (C : lc_C p s m c b L xs) (hn : nL ≤ 8 ∧ nC ≤ 8 ∧ nB ≤ 8) (hi : i + 2 < L) (hn2 : n + 16 < 2 ^ 30) (hcp : cp nL nC nB n F ls G sp ck) (hK : va_K D vwCl (lT cA cm co) s) (hP : va_P D vwCl (lW h a cA hm am cm o co nL nC nB F ls f G sp cd ck) H) (hD : va_D (lA s) (lW h a cA hm am cm o co nL nC nB F ls f G sp cd ck)) (hS : va_S (lA s) s.heap H locs) (hl : lv_has ls0 7 [(0, .ref b), (1, .ref h), (2, .ref hm), (3, .ref o), (4, .int (nI i))]) (hc1 : cells + 4 ≤ 655402) (hs1 : slots + 24 ≤ 7129865)
    (kk : ∀ (F : Nat → Nat → Int32) (ls : Int32) (f : Nat → Int64) (G : Nat → Nat → Int32) (sp : Nat → Int64) (cd : Int32) (ck : Int64) (H : Heap) (locs : List Loc) (ls0 : Array Slot), cp nL nC nB (n + 16) F ls G sp ck → va_P D vwCl (lW h a cA hm am cm o co nL nC nB F ls f G sp cd ck) H → va_D (lA s) (lW h a cA hm am cm o co nL nC nB F ls f G sp cd ck) → va_S (lA s) s.heap H locs → lv_has ls0 7 [(0, .ref b), (1, .ref h), (2, .ref hm), (3, .ref o), (4, .int (nI i))] → W p l e room_1 s m #[Value.ref b] below meth c H locs (cells + 4) (slots + 24) Q (F0 m 1124 ls0 [])) :
    W p l e room_1 s m #[Value.ref b] below meth c H locs cells slots Q (F0 m 460 ls0 []) := by
  obtain ⟨hx, hb, hml, hown, hts, hX, hbl, hL, hT, hN⟩ := id C
  have hA : ∀ q : Nat, s.heap.size ≤ q → lA s q := fun _ h => h
  refine lv_aload_n hx hb dL_law_460 rfl (lv_at hl 1 rfl) ?_
  refine zs_ld (k := 1) 461 C hS (by omega) dL_law_461 dL_law_462 dL_law_464 (by decide) dL_law_465 dL_law_466 (lv_at hl 0 rfl) (lv_at hl 4 rfl) ?_
  refine lv_aload_n hx hb dL_law_467 rfl (lv_at hl 3 rfl) ?_
  have hPc := hP.sub (ws' := (oE o co f :: xW h a cA nL nC nB F ls)) [0, 1, 2, 3, 4, 5, 6, 7, 8, 9, 10, 11, 12, 13] rfl
  have hDc := hD.sub (ws' := (oE o co f :: xW h a cA nL nC nB F ls)) [0, 1, 2, 3, 4, 5, 6, 7, 8, 9, 10, 11, 12, 13] (by decide) rfl
  have hKc := hK.sub (tys' := (co, .long) :: xT cA) [0, 1, 2, 3, 4, 5, 6, 7, 8, 9, 10, 11, 12] rfl
  refine zz_pi (wr := mW hm am cm nL nC nB G sp cd ck) (vx_runSW (As := [.ref h, .int (xs (i + 1)), .ref o]) (rest := []) ⟨hx, hb, hml, hown, hts⟩ (cL_up_met l hlT D h a cA nL nC nB H.size hn F ls o co f (xs (i + 1))) (vx_cwSW 3 hts gL_law_L_up rfl rfl rfl (by decide +kernel) ⟨(Nat.le_of_ble_eq_true rfl), (Nat.le_of_ble_eq_true rfl)⟩) (zl_pS hPc hKc hDc hA hS hT hN) rfl rfl hl.1 rfl (lv_room (Nat.le_of_ble_eq_true rfl)) dL_law_468 ⟨(show cells + 2 ≤ 655402 by omega), (show slots + 12 ≤ 7129865 by omega)⟩) hP hD hS hA [0, 1, 2, 3, 4, 5, 6, 7, 8, 9, 10, 11, 12, 13] [14, 15, 16, 17, 18, 19, 20, 21, 22, 23, 24, 25, 26] rfl rfl (by decide) (by decide) (fun k u H locs hu hP hD hS => ?_)
  obtain ⟨⟨F1, ls1⟩, f1⟩ := u
  have hP := hP.sub (ws' := lW h a cA hm am cm o co nL nC nB F1 ls1 f1 G sp cd ck) [13, 14, 15, 16, 17, 18, 19, 20, 21, 22, 23, 24, 25, 26, 0, 1, 2, 3, 4, 5, 6, 7, 8, 9, 10, 11, 12] rfl
  have hD := hD.sub (ws' := lW h a cA hm am cm o co nL nC nB F1 ls1 f1 G sp cd ck) [13, 14, 15, 16, 17, 18, 19, 20, 21, 22, 23, 24, 25, 26, 0, 1, 2, 3, 4, 5, 6, 7, 8, 9, 10, 11, 12] (by decide) rfl
  clear hPc hDc hKc
  refine lv_istore (lv' := [(5, .int k), (0, .ref b), (1, .ref h), (2, .ref hm), (3, .ref o), (4, .int (nI i))]) hx hb dL_law_471 hl (by decide) rfl (fun ls0 hl => ?_)
  refine lv_aload_n hx hb dL_law_473 rfl (lv_at hl 3 rfl) ?_
  refine zs_ld (k := 1) 474 C hS (by omega) dL_law_474 dL_law_475 dL_law_477 (by decide) dL_law_478 dL_law_479 (lv_at hl 1 rfl) (lv_at hl 5 rfl) ?_
  have hPc := hP.sub (ws' := (mW hm am cm nL nC nB G sp cd ck)) [14, 15, 16, 17, 18, 19, 20, 21, 22, 23, 24, 25, 26] rfl
  have hDc := hD.sub (ws' := (mW hm am cm nL nC nB G sp cd ck)) [14, 15, 16, 17, 18, 19, 20, 21, 22, 23, 24, 25, 26] (by decide) rfl
  have hKc := hK.sub (tys' := mT cm) [13, 14, 15, 16, 17, 18, 19, 20, 21, 22, 23, 24] rfl
  refine zz_pi (wr := oE o co f1 :: xW h a cA nL nC nB F1 ls1) (va_runV (As := [.int (xs (i + 1))]) (rest := []) ⟨hx, hb, hml, hown, hts⟩ (cM_up l D hm am cm nL nC nB H.size hn G sp cd ck (xs (i + 1)) (hcp.I hn.1)) (cwV 1 hts gL_law_X1_up rfl rfl rfl (by decide +kernel) ⟨(Nat.le_of_ble_eq_true rfl), (Nat.le_of_ble_eq_true rfl)⟩) (zz_pV hPc hKc hDc (va_recv hKc hPc (ci := 1) (q0 := 0) rfl rfl)) rfl rfl hl.1 rfl (lv_room (Nat.le_of_ble_eq_true rfl)) dL_law_480 ⟨(show cells + 2 + 0 ≤ 655402 by omega), (show slots + 12 + 0 ≤ 7129865 by omega)⟩) hP hD hS hA [14, 15, 16, 17, 18, 19, 20, 21, 22, 23, 24, 25, 26] [0, 1, 2, 3, 4, 5, 6, 7, 8, 9, 10, 11, 12, 13] rfl rfl (by decide) (by decide) (fun bb v H locs hv hP hD hS => ?_)
  obtain ⟨G1, sp1, cd1, ck1⟩ := v
  refine lv_istore (lv' := [(6, .int bb), (5, .int k), (0, .ref b), (1, .ref h), (2, .ref hm), (3, .ref o), (4, .int (nI i))]) hx hb dL_law_483 hl (by decide) rfl (fun ls0 hl => ?_)
  obtain ⟨z1, z2, z3⟩ := lc_fin (nL := nL) (nC := nC) (nB := nB) (n := n) (n' := n + 16) (b := bb) (v := (G1, sp1, cd1, ck1)) (by omega) hu (fun E hE => cs_up_x  hn.2.1 hn.1 (by omega) hcp hE hv) (fun v0 h0 => cs_up hn.2.1 hn.1 (by omega) (by omega) hcp h0 hv)
  refine zs_tail 485 C hn hK hP hD hS dL_law_485 dL_law_486 dL_law_489 dL_law_491 dL_law_496 dL_law_498 dL_law_501 dL_law_502 dL_law_503 dL_law_504 dL_law_506 dL_law_507 dL_law_508 dL_law_513 (by decide) hl z1 z2 (by omega) (by omega) (fun H locs ls0 hP hD hS hl => ?_)
  exact W.widen (by omega) (by omega) (kk F1 ls1 f1 G1 sp1 cd1 ck1 H locs ls0 z3 hP hD hS hl)
set_option maxHeartbeats 4000000 in
set_option maxRecDepth 100000 in
theorem lc_send {p : Program} {l : Launch} (hlT : l.stackTraces = false) {e : Env} {s : State} {m : MethodId} {below : List Frame} {meth : Method} {c : Code} {H : Heap} {locs : List Loc} {cells slots b L i n : Nat} {xs : Nat → Int32} {Q : State → Prop} {ls0 : Array Slot} {D : va_G} {h : Nat} {a : Nat → Nat} {cA : Nat → ClassId} {hm : Nat} {am : Nat → Nat} {cm : Nat → ClassId} {o : Nat} {co : ClassId} {nL nC nB : Nat} {F : Nat → Nat → Int32} {ls : Int32} {f : Nat → Int64} {G : Nat → Nat → Int32} {sp : Nat → Int64} {cd : Int32} {ck : Int64} (C : lc_C p s m c b L xs) (hn : nL ≤ 8 ∧ nC ≤ 8 ∧ nB ≤ 8) (hi : i + 2 < L) (hn2 : n + 16 < 2 ^ 30) (hcp : cp nL nC nB n F ls G sp ck) (hK : va_K D vwCl (lT cA cm co) s) (hP : va_P D vwCl (lW h a cA hm am cm o co nL nC nB F ls f G sp cd ck) H) (hD : va_D (lA s) (lW h a cA hm am cm o co nL nC nB F ls f G sp cd ck)) (hS : va_S (lA s) s.heap H locs) (hl : lv_has ls0 7 [(0, .ref b), (1, .ref h), (2, .ref hm), (3, .ref o), (4, .int (nI i))]) (hc1 : cells + 4 ≤ 655402) (hs1 : slots + 24 ≤ 7129865)
    (kk : ∀ (F : Nat → Nat → Int32) (ls : Int32) (f : Nat → Int64) (G : Nat → Nat → Int32) (sp : Nat → Int64) (cd : Int32) (ck : Int64) (H : Heap) (locs : List Loc) (ls0 : Array Slot), cp nL nC nB (n + 16) F ls G sp ck → va_P D vwCl (lW h a cA hm am cm o co nL nC nB F ls f G sp cd ck) H → va_D (lA s) (lW h a cA hm am cm o co nL nC nB F ls f G sp cd ck) → va_S (lA s) s.heap H locs → lv_has ls0 7 [(0, .ref b), (1, .ref h), (2, .ref hm), (3, .ref o), (4, .int (nI i))] → W p l e room_1 s m #[Value.ref b] below meth c H locs (cells + 4) (slots + 24) Q (F0 m 1124 ls0 [])) :
    W p l e room_1 s m #[Value.ref b] below meth c H locs cells slots Q (F0 m 516 ls0 []) := by
  obtain ⟨hx, hb, hml, hown, hts, hX, hbl, hL, hT, hN⟩ := id C
  have hA : ∀ q : Nat, s.heap.size ≤ q → lA s q := fun _ h => h
  refine lv_aload_n hx hb dL_law_516 rfl (lv_at hl 1 rfl) ?_
  refine zs_ld (k := 1) 517 C hS (by omega) dL_law_517 dL_law_518 dL_law_520 (by decide) dL_law_521 dL_law_522 (lv_at hl 0 rfl) (lv_at hl 4 rfl) ?_
  refine zs_ld (k := 2) 523 C hS (by omega) dL_law_523 dL_law_524 dL_law_526 (by decide) dL_law_527 dL_law_528 (lv_at hl 0 rfl) (lv_at hl 4 rfl) ?_
  refine lv_aload_n hx hb dL_law_529 rfl (lv_at hl 3 rfl) ?_
  have hPc := hP.sub (ws' := (oE o co f :: xW h a cA nL nC nB F ls)) [0, 1, 2, 3, 4, 5, 6, 7, 8, 9, 10, 11, 12, 13] rfl
  have hDc := hD.sub (ws' := (oE o co f :: xW h a cA nL nC nB F ls)) [0, 1, 2, 3, 4, 5, 6, 7, 8, 9, 10, 11, 12, 13] (by decide) rfl
  have hKc := hK.sub (tys' := (co, .long) :: xT cA) [0, 1, 2, 3, 4, 5, 6, 7, 8, 9, 10, 11, 12] rfl
  refine zz_pi (wr := mW hm am cm nL nC nB G sp cd ck) (vx_runSW (As := [.ref h, .int (xs (i + 1)), .int (xs (i + 2)), .ref o]) (rest := []) ⟨hx, hb, hml, hown, hts⟩ (cL_send_met l hlT D h a cA nL nC nB H.size hn F ls o co f (xs (i + 1)) (xs (i + 2)) hcp.fi.1) (vx_cwSW 4 hts gL_law_L_send rfl rfl rfl (by decide +kernel) ⟨(Nat.le_of_ble_eq_true rfl), (Nat.le_of_ble_eq_true rfl)⟩) (zl_pS hPc hKc hDc hA hS hT hN) rfl rfl hl.1 rfl (lv_room (Nat.le_of_ble_eq_true rfl)) dL_law_530 ⟨(show cells + 2 ≤ 655402 by omega), (show slots + 12 ≤ 7129865 by omega)⟩) hP hD hS hA [0, 1, 2, 3, 4, 5, 6, 7, 8, 9, 10, 11, 12, 13] [14, 15, 16, 17, 18, 19, 20, 21, 22, 23, 24, 25, 26] rfl rfl (by decide) (by decide) (fun k u H locs hu hP hD hS => ?_)
  obtain ⟨⟨F1, ls1⟩, f1⟩ := u
  have hP := hP.sub (ws' := lW h a cA hm am cm o co nL nC nB F1 ls1 f1 G sp cd ck) [13, 14, 15, 16, 17, 18, 19, 20, 21, 22, 23, 24, 25, 26, 0, 1, 2, 3, 4, 5, 6, 7, 8, 9, 10, 11, 12] rfl
  have hD := hD.sub (ws' := lW h a cA hm am cm o co nL nC nB F1 ls1 f1 G sp cd ck) [13, 14, 15, 16, 17, 18, 19, 20, 21, 22, 23, 24, 25, 26, 0, 1, 2, 3, 4, 5, 6, 7, 8, 9, 10, 11, 12] (by decide) rfl
  clear hPc hDc hKc
  refine lv_istore (lv' := [(5, .int k), (0, .ref b), (1, .ref h), (2, .ref hm), (3, .ref o), (4, .int (nI i))]) hx hb dL_law_533 hl (by decide) rfl (fun ls0 hl => ?_)
  refine lv_aload_n hx hb dL_law_535 rfl (lv_at hl 3 rfl) ?_
  refine zs_ld (k := 1) 536 C hS (by omega) dL_law_536 dL_law_537 dL_law_539 (by decide) dL_law_540 dL_law_541 (lv_at hl 1 rfl) (lv_at hl 5 rfl) ?_
  refine zs_ld (k := 2) 542 C hS (by omega) dL_law_542 dL_law_543 dL_law_545 (by decide) dL_law_546 dL_law_547 (lv_at hl 1 rfl) (lv_at hl 5 rfl) ?_
  have hPc := hP.sub (ws' := (mW hm am cm nL nC nB G sp cd ck)) [14, 15, 16, 17, 18, 19, 20, 21, 22, 23, 24, 25, 26] rfl
  have hDc := hD.sub (ws' := (mW hm am cm nL nC nB G sp cd ck)) [14, 15, 16, 17, 18, 19, 20, 21, 22, 23, 24, 25, 26] (by decide) rfl
  have hKc := hK.sub (tys' := mT cm) [13, 14, 15, 16, 17, 18, 19, 20, 21, 22, 23, 24] rfl
  refine zz_pi (wr := oE o co f1 :: xW h a cA nL nC nB F1 ls1) (va_runV (As := [.int (xs (i + 1)), .int (xs (i + 2))]) (rest := []) ⟨hx, hb, hml, hown, hts⟩ (cM_send l D hm am cm nL nC nB H.size hn G sp cd ck (xs (i + 1)) (xs (i + 2)) (hcp.I hn.1) hcp.fi.2) (cwV 2 hts gL_law_X1_send rfl rfl rfl (by decide +kernel) ⟨(Nat.le_of_ble_eq_true rfl), (Nat.le_of_ble_eq_true rfl)⟩) (zz_pV hPc hKc hDc (va_recv hKc hPc (ci := 1) (q0 := 0) rfl rfl)) rfl rfl hl.1 rfl (lv_room (Nat.le_of_ble_eq_true rfl)) dL_law_548 ⟨(show cells + 2 + 0 ≤ 655402 by omega), (show slots + 12 + 0 ≤ 7129865 by omega)⟩) hP hD hS hA [14, 15, 16, 17, 18, 19, 20, 21, 22, 23, 24, 25, 26] [0, 1, 2, 3, 4, 5, 6, 7, 8, 9, 10, 11, 12, 13] rfl rfl (by decide) (by decide) (fun bb v H locs hv hP hD hS => ?_)
  obtain ⟨G1, sp1, cd1, ck1⟩ := v
  refine lv_istore (lv' := [(6, .int bb), (5, .int k), (0, .ref b), (1, .ref h), (2, .ref hm), (3, .ref o), (4, .int (nI i))]) hx hb dL_law_551 hl (by decide) rfl (fun ls0 hl => ?_)
  obtain ⟨z1, z2, z3⟩ := lc_fin (nL := nL) (nC := nC) (nB := nB) (n := n) (n' := n + 16) (b := bb) (v := (G1, sp1, cd1, ck1)) (by omega) hu (fun E hE => cs_send_x  hn.1 (by omega) hcp hE hv) (fun v0 h0 => cs_send hn.1 (by omega) (by omega) hn.2.2 hcp h0 hv)
  refine zs_tail 553 C hn hK hP hD hS dL_law_553 dL_law_554 dL_law_557 dL_law_559 dL_law_564 dL_law_566 dL_law_569 dL_law_570 dL_law_571 dL_law_572 dL_law_574 dL_law_575 dL_law_576 dL_law_581 (by decide) hl z1 z2 (by omega) (by omega) (fun H locs ls0 hP hD hS hl => ?_)
  exact W.widen (by omega) (by omega) (kk F1 ls1 f1 G1 sp1 cd1 ck1 H locs ls0 z3 hP hD hS hl)
set_option maxHeartbeats 4000000 in
set_option maxRecDepth 100000 in
theorem lc_receive {p : Program} {l : Launch} (hlT : l.stackTraces = false) {e : Env} {s : State} {m : MethodId} {below : List Frame} {meth : Method} {c : Code} {H : Heap} {locs : List Loc} {cells slots b L i n : Nat} {xs : Nat → Int32} {Q : State → Prop} {ls0 : Array Slot} {D : va_G} {h : Nat} {a : Nat → Nat} {cA : Nat → ClassId} {hm : Nat} {am : Nat → Nat} {cm : Nat → ClassId} {o : Nat} {co : ClassId} {nL nC nB : Nat} {F : Nat → Nat → Int32} {ls : Int32} {f : Nat → Int64} {G : Nat → Nat → Int32} {sp : Nat → Int64} {cd : Int32} {ck : Int64} (C : lc_C p s m c b L xs) (hn : nL ≤ 8 ∧ nC ≤ 8 ∧ nB ≤ 8) (hi : i + 2 < L) (hn2 : n + 16 < 2 ^ 30) (hcp : cp nL nC nB n F ls G sp ck) (hK : va_K D vwCl (lT cA cm co) s) (hP : va_P D vwCl (lW h a cA hm am cm o co nL nC nB F ls f G sp cd ck) H) (hD : va_D (lA s) (lW h a cA hm am cm o co nL nC nB F ls f G sp cd ck)) (hS : va_S (lA s) s.heap H locs) (hl : lv_has ls0 7 [(0, .ref b), (1, .ref h), (2, .ref hm), (3, .ref o), (4, .int (nI i))]) (hc1 : cells + 4 ≤ 655402) (hs1 : slots + 24 ≤ 7129865)
    (kk : ∀ (F : Nat → Nat → Int32) (ls : Int32) (f : Nat → Int64) (G : Nat → Nat → Int32) (sp : Nat → Int64) (cd : Int32) (ck : Int64) (H : Heap) (locs : List Loc) (ls0 : Array Slot), cp nL nC nB (n + 16) F ls G sp ck → va_P D vwCl (lW h a cA hm am cm o co nL nC nB F ls f G sp cd ck) H → va_D (lA s) (lW h a cA hm am cm o co nL nC nB F ls f G sp cd ck) → va_S (lA s) s.heap H locs → lv_has ls0 7 [(0, .ref b), (1, .ref h), (2, .ref hm), (3, .ref o), (4, .int (nI i))] → W p l e room_1 s m #[Value.ref b] below meth c H locs (cells + 4) (slots + 24) Q (F0 m 1124 ls0 [])) :
    W p l e room_1 s m #[Value.ref b] below meth c H locs cells slots Q (F0 m 584 ls0 []) := by
  obtain ⟨hx, hb, hml, hown, hts, hX, hbl, hL, hT, hN⟩ := id C
  have hA : ∀ q : Nat, s.heap.size ≤ q → lA s q := fun _ h => h
  refine lv_aload_n hx hb dL_law_584 rfl (lv_at hl 1 rfl) ?_
  refine zs_ld (k := 1) 585 C hS (by omega) dL_law_585 dL_law_586 dL_law_588 (by decide) dL_law_589 dL_law_590 (lv_at hl 0 rfl) (lv_at hl 4 rfl) ?_
  refine lv_aload_n hx hb dL_law_591 rfl (lv_at hl 3 rfl) ?_
  have hPc := hP.sub (ws' := (oE o co f :: xW h a cA nL nC nB F ls)) [0, 1, 2, 3, 4, 5, 6, 7, 8, 9, 10, 11, 12, 13] rfl
  have hDc := hD.sub (ws' := (oE o co f :: xW h a cA nL nC nB F ls)) [0, 1, 2, 3, 4, 5, 6, 7, 8, 9, 10, 11, 12, 13] (by decide) rfl
  have hKc := hK.sub (tys' := (co, .long) :: xT cA) [0, 1, 2, 3, 4, 5, 6, 7, 8, 9, 10, 11, 12] rfl
  refine zz_pi (wr := mW hm am cm nL nC nB G sp cd ck) (vx_runSW (As := [.ref h, .int (xs (i + 1)), .ref o]) (rest := []) ⟨hx, hb, hml, hown, hts⟩ (cL_receive_met l hlT D h a cA nL nC nB H.size hn F ls o co f (xs (i + 1)) hcp.fi.1) (vx_cwSW 3 hts gL_law_L_receive rfl rfl rfl (by decide +kernel) ⟨(Nat.le_of_ble_eq_true rfl), (Nat.le_of_ble_eq_true rfl)⟩) (zl_pS hPc hKc hDc hA hS hT hN) rfl rfl hl.1 rfl (lv_room (Nat.le_of_ble_eq_true rfl)) dL_law_592 ⟨(show cells + 2 ≤ 655402 by omega), (show slots + 12 ≤ 7129865 by omega)⟩) hP hD hS hA [0, 1, 2, 3, 4, 5, 6, 7, 8, 9, 10, 11, 12, 13] [14, 15, 16, 17, 18, 19, 20, 21, 22, 23, 24, 25, 26] rfl rfl (by decide) (by decide) (fun k u H locs hu hP hD hS => ?_)
  obtain ⟨⟨F1, ls1⟩, f1⟩ := u
  have hP := hP.sub (ws' := lW h a cA hm am cm o co nL nC nB F1 ls1 f1 G sp cd ck) [13, 14, 15, 16, 17, 18, 19, 20, 21, 22, 23, 24, 25, 26, 0, 1, 2, 3, 4, 5, 6, 7, 8, 9, 10, 11, 12] rfl
  have hD := hD.sub (ws' := lW h a cA hm am cm o co nL nC nB F1 ls1 f1 G sp cd ck) [13, 14, 15, 16, 17, 18, 19, 20, 21, 22, 23, 24, 25, 26, 0, 1, 2, 3, 4, 5, 6, 7, 8, 9, 10, 11, 12] (by decide) rfl
  clear hPc hDc hKc
  refine lv_istore (lv' := [(5, .int k), (0, .ref b), (1, .ref h), (2, .ref hm), (3, .ref o), (4, .int (nI i))]) hx hb dL_law_595 hl (by decide) rfl (fun ls0 hl => ?_)
  refine lv_aload_n hx hb dL_law_597 rfl (lv_at hl 3 rfl) ?_
  refine zs_ld (k := 1) 598 C hS (by omega) dL_law_598 dL_law_599 dL_law_601 (by decide) dL_law_602 dL_law_603 (lv_at hl 1 rfl) (lv_at hl 5 rfl) ?_
  have hPc := hP.sub (ws' := (mW hm am cm nL nC nB G sp cd ck)) [14, 15, 16, 17, 18, 19, 20, 21, 22, 23, 24, 25, 26] rfl
  have hDc := hD.sub (ws' := (mW hm am cm nL nC nB G sp cd ck)) [14, 15, 16, 17, 18, 19, 20, 21, 22, 23, 24, 25, 26] (by decide) rfl
  have hKc := hK.sub (tys' := mT cm) [13, 14, 15, 16, 17, 18, 19, 20, 21, 22, 23, 24] rfl
  refine zz_pi (wr := oE o co f1 :: xW h a cA nL nC nB F1 ls1) (va_runV (As := [.int (xs (i + 1))]) (rest := []) ⟨hx, hb, hml, hown, hts⟩ (cM_receive l D hm am cm nL nC nB H.size hn G sp cd ck (xs (i + 1)) (hcp.I hn.1) hcp.fi.2) (cwV 1 hts gL_law_X1_receive rfl rfl rfl (by decide +kernel) ⟨(Nat.le_of_ble_eq_true rfl), (Nat.le_of_ble_eq_true rfl)⟩) (zz_pV hPc hKc hDc (va_recv hKc hPc (ci := 1) (q0 := 0) rfl rfl)) rfl rfl hl.1 rfl (lv_room (Nat.le_of_ble_eq_true rfl)) dL_law_604 ⟨(show cells + 2 + 0 ≤ 655402 by omega), (show slots + 12 + 0 ≤ 7129865 by omega)⟩) hP hD hS hA [14, 15, 16, 17, 18, 19, 20, 21, 22, 23, 24, 25, 26] [0, 1, 2, 3, 4, 5, 6, 7, 8, 9, 10, 11, 12, 13] rfl rfl (by decide) (by decide) (fun bb v H locs hv hP hD hS => ?_)
  obtain ⟨G1, sp1, cd1, ck1⟩ := v
  refine lv_istore (lv' := [(6, .int bb), (5, .int k), (0, .ref b), (1, .ref h), (2, .ref hm), (3, .ref o), (4, .int (nI i))]) hx hb dL_law_607 hl (by decide) rfl (fun ls0 hl => ?_)
  obtain ⟨z1, z2, z3⟩ := lc_fin (nL := nL) (nC := nC) (nB := nB) (n := n) (n' := n + 16) (b := bb) (v := (G1, sp1, cd1, ck1)) (by omega) hu (fun E hE => cs_receive_x  hn.1 (by omega) hcp hE hv) (fun v0 h0 => cs_receive hn.1 (by omega) (by omega) hn.2.2 hcp h0 hv)
  refine zs_tail 609 C hn hK hP hD hS dL_law_609 dL_law_610 dL_law_613 dL_law_615 dL_law_620 dL_law_622 dL_law_625 dL_law_626 dL_law_627 dL_law_628 dL_law_630 dL_law_631 dL_law_632 dL_law_637 (by decide) hl z1 z2 (by omega) (by omega) (fun H locs ls0 hP hD hS hl => ?_)
  exact W.widen (by omega) (by omega) (kk F1 ls1 f1 G1 sp1 cd1 ck1 H locs ls0 z3 hP hD hS hl)
set_option maxHeartbeats 4000000 in
set_option maxRecDepth 100000 in
theorem lc_sleep {p : Program} {l : Launch} (hlT : l.stackTraces = false) {e : Env} {s : State} {m : MethodId} {below : List Frame} {meth : Method} {c : Code} {H : Heap} {locs : List Loc} {cells slots b L i n : Nat} {xs : Nat → Int32} {Q : State → Prop} {ls0 : Array Slot} {D : va_G} {h : Nat} {a : Nat → Nat} {cA : Nat → ClassId} {hm : Nat} {am : Nat → Nat} {cm : Nat → ClassId} {o : Nat} {co : ClassId} {nL nC nB : Nat} {F : Nat → Nat → Int32} {ls : Int32} {f : Nat → Int64} {G : Nat → Nat → Int32} {sp : Nat → Int64} {cd : Int32} {ck : Int64} (C : lc_C p s m c b L xs) (hn : nL ≤ 8 ∧ nC ≤ 8 ∧ nB ≤ 8) (hi : i + 2 < L) (hn2 : n + 16 < 2 ^ 30) (hcp : cp nL nC nB n F ls G sp ck) (hK : va_K D vwCl (lT cA cm co) s) (hP : va_P D vwCl (lW h a cA hm am cm o co nL nC nB F ls f G sp cd ck) H) (hD : va_D (lA s) (lW h a cA hm am cm o co nL nC nB F ls f G sp cd ck)) (hS : va_S (lA s) s.heap H locs) (hl : lv_has ls0 7 [(0, .ref b), (1, .ref h), (2, .ref hm), (3, .ref o), (4, .int (nI i))]) (hc1 : cells + 4 ≤ 655402) (hs1 : slots + 24 ≤ 7129865)
    (kk : ∀ (F : Nat → Nat → Int32) (ls : Int32) (f : Nat → Int64) (G : Nat → Nat → Int32) (sp : Nat → Int64) (cd : Int32) (ck : Int64) (H : Heap) (locs : List Loc) (ls0 : Array Slot), cp nL nC nB (n + 16) F ls G sp ck → va_P D vwCl (lW h a cA hm am cm o co nL nC nB F ls f G sp cd ck) H → va_D (lA s) (lW h a cA hm am cm o co nL nC nB F ls f G sp cd ck) → va_S (lA s) s.heap H locs → lv_has ls0 7 [(0, .ref b), (1, .ref h), (2, .ref hm), (3, .ref o), (4, .int (nI i))] → W p l e room_1 s m #[Value.ref b] below meth c H locs (cells + 4) (slots + 24) Q (F0 m 1124 ls0 [])) :
    W p l e room_1 s m #[Value.ref b] below meth c H locs cells slots Q (F0 m 640 ls0 []) := by
  obtain ⟨hx, hb, hml, hown, hts, hX, hbl, hL, hT, hN⟩ := id C
  have hA : ∀ q : Nat, s.heap.size ≤ q → lA s q := fun _ h => h
  refine lv_aload_n hx hb dL_law_640 rfl (lv_at hl 1 rfl) ?_
  refine zs_ld (k := 1) 641 C hS (by omega) dL_law_641 dL_law_642 dL_law_644 (by decide) dL_law_645 dL_law_646 (lv_at hl 0 rfl) (lv_at hl 4 rfl) ?_
  refine lv_aload_n hx hb dL_law_647 rfl (lv_at hl 3 rfl) ?_
  have hPc := hP.sub (ws' := (oE o co f :: xW h a cA nL nC nB F ls)) [0, 1, 2, 3, 4, 5, 6, 7, 8, 9, 10, 11, 12, 13] rfl
  have hDc := hD.sub (ws' := (oE o co f :: xW h a cA nL nC nB F ls)) [0, 1, 2, 3, 4, 5, 6, 7, 8, 9, 10, 11, 12, 13] (by decide) rfl
  have hKc := hK.sub (tys' := (co, .long) :: xT cA) [0, 1, 2, 3, 4, 5, 6, 7, 8, 9, 10, 11, 12] rfl
  refine zz_pi (wr := mW hm am cm nL nC nB G sp cd ck) (vx_runSW (As := [.ref h, .int (xs (i + 1)), .ref o]) (rest := []) ⟨hx, hb, hml, hown, hts⟩ (cL_sleep_met l hlT D h a cA nL nC nB H.size hn F ls o co f (xs (i + 1))) (vx_cwSW 3 hts gL_law_L_sleep rfl rfl rfl (by decide +kernel) ⟨(Nat.le_of_ble_eq_true rfl), (Nat.le_of_ble_eq_true rfl)⟩) (zl_pS hPc hKc hDc hA hS hT hN) rfl rfl hl.1 rfl (lv_room (Nat.le_of_ble_eq_true rfl)) dL_law_648 ⟨(show cells + 2 ≤ 655402 by omega), (show slots + 12 ≤ 7129865 by omega)⟩) hP hD hS hA [0, 1, 2, 3, 4, 5, 6, 7, 8, 9, 10, 11, 12, 13] [14, 15, 16, 17, 18, 19, 20, 21, 22, 23, 24, 25, 26] rfl rfl (by decide) (by decide) (fun k u H locs hu hP hD hS => ?_)
  obtain ⟨⟨F1, ls1⟩, f1⟩ := u
  have hP := hP.sub (ws' := lW h a cA hm am cm o co nL nC nB F1 ls1 f1 G sp cd ck) [13, 14, 15, 16, 17, 18, 19, 20, 21, 22, 23, 24, 25, 26, 0, 1, 2, 3, 4, 5, 6, 7, 8, 9, 10, 11, 12] rfl
  have hD := hD.sub (ws' := lW h a cA hm am cm o co nL nC nB F1 ls1 f1 G sp cd ck) [13, 14, 15, 16, 17, 18, 19, 20, 21, 22, 23, 24, 25, 26, 0, 1, 2, 3, 4, 5, 6, 7, 8, 9, 10, 11, 12] (by decide) rfl
  clear hPc hDc hKc
  refine lv_istore (lv' := [(5, .int k), (0, .ref b), (1, .ref h), (2, .ref hm), (3, .ref o), (4, .int (nI i))]) hx hb dL_law_651 hl (by decide) rfl (fun ls0 hl => ?_)
  refine lv_aload_n hx hb dL_law_653 rfl (lv_at hl 3 rfl) ?_
  refine zs_ld (k := 1) 654 C hS (by omega) dL_law_654 dL_law_655 dL_law_657 (by decide) dL_law_658 dL_law_659 (lv_at hl 1 rfl) (lv_at hl 5 rfl) ?_
  have hPc := hP.sub (ws' := (mW hm am cm nL nC nB G sp cd ck)) [14, 15, 16, 17, 18, 19, 20, 21, 22, 23, 24, 25, 26] rfl
  have hDc := hD.sub (ws' := (mW hm am cm nL nC nB G sp cd ck)) [14, 15, 16, 17, 18, 19, 20, 21, 22, 23, 24, 25, 26] (by decide) rfl
  have hKc := hK.sub (tys' := mT cm) [13, 14, 15, 16, 17, 18, 19, 20, 21, 22, 23, 24] rfl
  refine zz_pi (wr := oE o co f1 :: xW h a cA nL nC nB F1 ls1) (va_runV (As := [.int (xs (i + 1))]) (rest := []) ⟨hx, hb, hml, hown, hts⟩ (cM_sleep l D hm am cm nL nC nB H.size hn G sp cd ck (xs (i + 1)) (hcp.I hn.1)) (cwV 1 hts gL_law_X1_sleep rfl rfl rfl (by decide +kernel) ⟨(Nat.le_of_ble_eq_true rfl), (Nat.le_of_ble_eq_true rfl)⟩) (zz_pV hPc hKc hDc (va_recv hKc hPc (ci := 1) (q0 := 0) rfl rfl)) rfl rfl hl.1 rfl (lv_room (Nat.le_of_ble_eq_true rfl)) dL_law_660 ⟨(show cells + 2 + 0 ≤ 655402 by omega), (show slots + 12 + 0 ≤ 7129865 by omega)⟩) hP hD hS hA [14, 15, 16, 17, 18, 19, 20, 21, 22, 23, 24, 25, 26] [0, 1, 2, 3, 4, 5, 6, 7, 8, 9, 10, 11, 12, 13] rfl rfl (by decide) (by decide) (fun bb v H locs hv hP hD hS => ?_)
  obtain ⟨G1, sp1, cd1, ck1⟩ := v
  refine lv_istore (lv' := [(6, .int bb), (5, .int k), (0, .ref b), (1, .ref h), (2, .ref hm), (3, .ref o), (4, .int (nI i))]) hx hb dL_law_663 hl (by decide) rfl (fun ls0 hl => ?_)
  obtain ⟨z1, z2, z3⟩ := lc_fin (nL := nL) (nC := nC) (nB := nB) (n := n) (n' := n + 16) (b := bb) (v := (G1, sp1, cd1, ck1)) (by omega) hu (fun E hE => cs_sleep_x  hn.1 (by omega) hcp hE hv) (fun v0 h0 => cs_sleep hn.1 (by omega) (by omega) hcp h0 hv)
  refine zs_tail 665 C hn hK hP hD hS dL_law_665 dL_law_666 dL_law_669 dL_law_671 dL_law_676 dL_law_678 dL_law_681 dL_law_682 dL_law_683 dL_law_684 dL_law_686 dL_law_687 dL_law_688 dL_law_693 (by decide) hl z1 z2 (by omega) (by omega) (fun H locs ls0 hP hD hS hl => ?_)
  exact W.widen (by omega) (by omega) (kk F1 ls1 f1 G1 sp1 cd1 ck1 H locs ls0 z3 hP hD hS hl)
set_option maxHeartbeats 4000000 in
set_option maxRecDepth 100000 in
theorem lc_end {p : Program} {l : Launch} (hlT : l.stackTraces = false) {e : Env} {s : State} {m : MethodId} {below : List Frame} {meth : Method} {c : Code} {H : Heap} {locs : List Loc} {cells slots b L i n : Nat} {xs : Nat → Int32} {Q : State → Prop} {ls0 : Array Slot} {D : va_G} {h : Nat} {a : Nat → Nat} {cA : Nat → ClassId} {hm : Nat} {am : Nat → Nat} {cm : Nat → ClassId} {o : Nat} {co : ClassId} {nL nC nB : Nat} {F : Nat → Nat → Int32} {ls : Int32} {f : Nat → Int64} {G : Nat → Nat → Int32} {sp : Nat → Int64} {cd : Int32} {ck : Int64} (C : lc_C p s m c b L xs) (hn : nL ≤ 8 ∧ nC ≤ 8 ∧ nB ≤ 8) (hi : i + 2 < L) (hn2 : n + 16 < 2 ^ 30) (hcp : cp nL nC nB n F ls G sp ck) (hK : va_K D vwCl (lT cA cm co) s) (hP : va_P D vwCl (lW h a cA hm am cm o co nL nC nB F ls f G sp cd ck) H) (hD : va_D (lA s) (lW h a cA hm am cm o co nL nC nB F ls f G sp cd ck)) (hS : va_S (lA s) s.heap H locs) (hl : lv_has ls0 7 [(0, .ref b), (1, .ref h), (2, .ref hm), (3, .ref o), (4, .int (nI i))]) (hc1 : cells + 4 ≤ 655402) (hs1 : slots + 24 ≤ 7129865)
    (kk : ∀ (F : Nat → Nat → Int32) (ls : Int32) (f : Nat → Int64) (G : Nat → Nat → Int32) (sp : Nat → Int64) (cd : Int32) (ck : Int64) (H : Heap) (locs : List Loc) (ls0 : Array Slot), cp nL nC nB (n + 16) F ls G sp ck → va_P D vwCl (lW h a cA hm am cm o co nL nC nB F ls f G sp cd ck) H → va_D (lA s) (lW h a cA hm am cm o co nL nC nB F ls f G sp cd ck) → va_S (lA s) s.heap H locs → lv_has ls0 7 [(0, .ref b), (1, .ref h), (2, .ref hm), (3, .ref o), (4, .int (nI i))] → W p l e room_1 s m #[Value.ref b] below meth c H locs (cells + 4) (slots + 24) Q (F0 m 1124 ls0 [])) :
    W p l e room_1 s m #[Value.ref b] below meth c H locs cells slots Q (F0 m 696 ls0 []) := by
  obtain ⟨hx, hb, hml, hown, hts, hX, hbl, hL, hT, hN⟩ := id C
  have hA : ∀ q : Nat, s.heap.size ≤ q → lA s q := fun _ h => h
  refine lv_aload_n hx hb dL_law_696 rfl (lv_at hl 1 rfl) ?_
  refine lv_aload_n hx hb dL_law_697 rfl (lv_at hl 3 rfl) ?_
  have hPc := hP.sub (ws' := (oE o co f :: xW h a cA nL nC nB F ls)) [0, 1, 2, 3, 4, 5, 6, 7, 8, 9, 10, 11, 12, 13] rfl
  have hDc := hD.sub (ws' := (oE o co f :: xW h a cA nL nC nB F ls)) [0, 1, 2, 3, 4, 5, 6, 7, 8, 9, 10, 11, 12, 13] (by decide) rfl
  have hKc := hK.sub (tys' := (co, .long) :: xT cA) [0, 1, 2, 3, 4, 5, 6, 7, 8, 9, 10, 11, 12] rfl
  refine zz_pi (wr := mW hm am cm nL nC nB G sp cd ck) (vx_runSW (As := [.ref h, .ref o]) (rest := []) ⟨hx, hb, hml, hown, hts⟩ (cL_end_met l hlT D h a cA nL nC nB H.size hn F ls o co f hcp.ow) (vx_cwSW 2 hts gL_law_L_end rfl rfl rfl (by decide +kernel) ⟨(Nat.le_of_ble_eq_true rfl), (Nat.le_of_ble_eq_true rfl)⟩) (zl_pS hPc hKc hDc hA hS hT hN) rfl rfl hl.1 rfl (lv_room (Nat.le_of_ble_eq_true rfl)) dL_law_698 ⟨(show cells + 2 ≤ 655402 by omega), (show slots + 12 ≤ 7129865 by omega)⟩) hP hD hS hA [0, 1, 2, 3, 4, 5, 6, 7, 8, 9, 10, 11, 12, 13] [14, 15, 16, 17, 18, 19, 20, 21, 22, 23, 24, 25, 26] rfl rfl (by decide) (by decide) (fun k u H locs hu hP hD hS => ?_)
  obtain ⟨⟨F1, ls1⟩, f1⟩ := u
  have hP := hP.sub (ws' := lW h a cA hm am cm o co nL nC nB F1 ls1 f1 G sp cd ck) [13, 14, 15, 16, 17, 18, 19, 20, 21, 22, 23, 24, 25, 26, 0, 1, 2, 3, 4, 5, 6, 7, 8, 9, 10, 11, 12] rfl
  have hD := hD.sub (ws' := lW h a cA hm am cm o co nL nC nB F1 ls1 f1 G sp cd ck) [13, 14, 15, 16, 17, 18, 19, 20, 21, 22, 23, 24, 25, 26, 0, 1, 2, 3, 4, 5, 6, 7, 8, 9, 10, 11, 12] (by decide) rfl
  clear hPc hDc hKc
  refine lv_istore (lv' := [(5, .int k), (0, .ref b), (1, .ref h), (2, .ref hm), (3, .ref o), (4, .int (nI i))]) hx hb dL_law_701 hl (by decide) rfl (fun ls0 hl => ?_)
  refine lv_aload_n hx hb dL_law_703 rfl (lv_at hl 3 rfl) ?_
  have hPc := hP.sub (ws' := (mW hm am cm nL nC nB G sp cd ck)) [14, 15, 16, 17, 18, 19, 20, 21, 22, 23, 24, 25, 26] rfl
  have hDc := hD.sub (ws' := (mW hm am cm nL nC nB G sp cd ck)) [14, 15, 16, 17, 18, 19, 20, 21, 22, 23, 24, 25, 26] (by decide) rfl
  have hKc := hK.sub (tys' := mT cm) [13, 14, 15, 16, 17, 18, 19, 20, 21, 22, 23, 24] rfl
  refine zz_pi (wr := oE o co f1 :: xW h a cA nL nC nB F1 ls1) (va_runV (As := []) (rest := []) ⟨hx, hb, hml, hown, hts⟩ (cM_end l D hm am cm nL nC nB H.size hn G sp cd ck (hcp.I hn.1)) (cwV 0 hts gL_law_X1_end rfl rfl rfl (by decide +kernel) ⟨(Nat.le_of_ble_eq_true rfl), (Nat.le_of_ble_eq_true rfl)⟩) (zz_pV hPc hKc hDc (va_recv hKc hPc (ci := 1) (q0 := 0) rfl rfl)) rfl rfl hl.1 rfl (lv_room (Nat.le_of_ble_eq_true rfl)) dL_law_704 ⟨(show cells + 2 + 0 ≤ 655402 by omega), (show slots + 12 + 0 ≤ 7129865 by omega)⟩) hP hD hS hA [14, 15, 16, 17, 18, 19, 20, 21, 22, 23, 24, 25, 26] [0, 1, 2, 3, 4, 5, 6, 7, 8, 9, 10, 11, 12, 13] rfl rfl (by decide) (by decide) (fun bb v H locs hv hP hD hS => ?_)
  obtain ⟨G1, sp1, cd1, ck1⟩ := v
  refine lv_istore (lv' := [(6, .int bb), (5, .int k), (0, .ref b), (1, .ref h), (2, .ref hm), (3, .ref o), (4, .int (nI i))]) hx hb dL_law_707 hl (by decide) rfl (fun ls0 hl => ?_)
  obtain ⟨z1, z2, z3⟩ := lc_fin (nL := nL) (nC := nC) (nB := nB) (n := n) (n' := n + 16) (b := bb) (v := (G1, sp1, cd1, ck1)) (by omega) hu (fun E hE => cs_end_x  hn.1 (by omega) hcp hE hv) (fun v0 h0 => by
    obtain ⟨q1, q2, q3⟩ := cs_end hn.1 (by omega) hcp h0 hv
    exact ⟨q1, q2, q3.more (by omega)⟩)
  refine zs_tail 709 C hn hK hP hD hS dL_law_709 dL_law_710 dL_law_713 dL_law_715 dL_law_720 dL_law_722 dL_law_725 dL_law_726 dL_law_727 dL_law_728 dL_law_730 dL_law_731 dL_law_732 dL_law_737 (by decide) hl z1 z2 (by omega) (by omega) (fun H locs ls0 hP hD hS hl => ?_)
  exact W.widen (by omega) (by omega) (kk F1 ls1 f1 G1 sp1 cd1 ck1 H locs ls0 z3 hP hD hS hl)
set_option maxHeartbeats 4000000 in
set_option maxRecDepth 100000 in
theorem lc_tick {p : Program} {l : Launch} (hlT : l.stackTraces = false) {e : Env} {s : State} {m : MethodId} {below : List Frame} {meth : Method} {c : Code} {H : Heap} {locs : List Loc} {cells slots b L i n : Nat} {xs : Nat → Int32} {Q : State → Prop} {ls0 : Array Slot} {D : va_G} {h : Nat} {a : Nat → Nat} {cA : Nat → ClassId} {hm : Nat} {am : Nat → Nat} {cm : Nat → ClassId} {o : Nat} {co : ClassId} {nL nC nB : Nat} {F : Nat → Nat → Int32} {ls : Int32} {f : Nat → Int64} {G : Nat → Nat → Int32} {sp : Nat → Int64} {cd : Int32} {ck : Int64} (C : lc_C p s m c b L xs) (hn : nL ≤ 8 ∧ nC ≤ 8 ∧ nB ≤ 8) (hi : i + 2 < L) (hn2 : n + 16 < 2 ^ 30) (hcp : cp nL nC nB n F ls G sp ck) (hK : va_K D vwCl (lT cA cm co) s) (hP : va_P D vwCl (lW h a cA hm am cm o co nL nC nB F ls f G sp cd ck) H) (hD : va_D (lA s) (lW h a cA hm am cm o co nL nC nB F ls f G sp cd ck)) (hS : va_S (lA s) s.heap H locs) (hl : lv_has ls0 7 [(0, .ref b), (1, .ref h), (2, .ref hm), (3, .ref o), (4, .int (nI i))]) (hc1 : cells + 4 ≤ 655402) (hs1 : slots + 24 ≤ 7129865)
    (kk : ∀ (F : Nat → Nat → Int32) (ls : Int32) (f : Nat → Int64) (G : Nat → Nat → Int32) (sp : Nat → Int64) (cd : Int32) (ck : Int64) (H : Heap) (locs : List Loc) (ls0 : Array Slot), cp nL nC nB (n + 16) F ls G sp ck → va_P D vwCl (lW h a cA hm am cm o co nL nC nB F ls f G sp cd ck) H → va_D (lA s) (lW h a cA hm am cm o co nL nC nB F ls f G sp cd ck) → va_S (lA s) s.heap H locs → lv_has ls0 7 [(0, .ref b), (1, .ref h), (2, .ref hm), (3, .ref o), (4, .int (nI i))] → W p l e room_1 s m #[Value.ref b] below meth c H locs (cells + 4) (slots + 24) Q (F0 m 1124 ls0 [])) :
    W p l e room_1 s m #[Value.ref b] below meth c H locs cells slots Q (F0 m 740 ls0 []) := by
  obtain ⟨hx, hb, hml, hown, hts, hX, hbl, hL, hT, hN⟩ := id C
  have hA : ∀ q : Nat, s.heap.size ≤ q → lA s q := fun _ h => h
  refine lv_aload_n hx hb dL_law_740 rfl (lv_at hl 1 rfl) ?_
  refine zs_ld (k := 1) 741 C hS (by omega) dL_law_741 dL_law_742 dL_law_744 (by decide) dL_law_745 dL_law_746 (lv_at hl 0 rfl) (lv_at hl 4 rfl) ?_
  refine lv_aload_n hx hb dL_law_747 rfl (lv_at hl 3 rfl) ?_
  have hPc := hP.sub (ws' := (oE o co f :: xW h a cA nL nC nB F ls)) [0, 1, 2, 3, 4, 5, 6, 7, 8, 9, 10, 11, 12, 13] rfl
  have hDc := hD.sub (ws' := (oE o co f :: xW h a cA nL nC nB F ls)) [0, 1, 2, 3, 4, 5, 6, 7, 8, 9, 10, 11, 12, 13] (by decide) rfl
  have hKc := hK.sub (tys' := (co, .long) :: xT cA) [0, 1, 2, 3, 4, 5, 6, 7, 8, 9, 10, 11, 12] rfl
  refine zz_pi (wr := mW hm am cm nL nC nB G sp cd ck) (vx_runSW (As := [.ref h, .int (xs (i + 1)), .ref o]) (rest := []) ⟨hx, hb, hml, hown, hts⟩ (cL_tick_met l hlT D h a cA nL nC nB H.size hn F ls o co f (xs (i + 1))) (vx_cwSW 3 hts gL_law_L_tick rfl rfl rfl (by decide +kernel) ⟨(Nat.le_of_ble_eq_true rfl), (Nat.le_of_ble_eq_true rfl)⟩) (zl_pS hPc hKc hDc hA hS hT hN) rfl rfl hl.1 rfl (lv_room (Nat.le_of_ble_eq_true rfl)) dL_law_748 ⟨(show cells + 1 ≤ 655402 by omega), (show slots + 6 ≤ 7129865 by omega)⟩) hP hD hS hA [0, 1, 2, 3, 4, 5, 6, 7, 8, 9, 10, 11, 12, 13] [14, 15, 16, 17, 18, 19, 20, 21, 22, 23, 24, 25, 26] rfl rfl (by decide) (by decide) (fun k u H locs hu hP hD hS => ?_)
  obtain ⟨⟨F1, ls1⟩, f1⟩ := u
  have hP := hP.sub (ws' := lW h a cA hm am cm o co nL nC nB F1 ls1 f1 G sp cd ck) [13, 14, 15, 16, 17, 18, 19, 20, 21, 22, 23, 24, 25, 26, 0, 1, 2, 3, 4, 5, 6, 7, 8, 9, 10, 11, 12] rfl
  have hD := hD.sub (ws' := lW h a cA hm am cm o co nL nC nB F1 ls1 f1 G sp cd ck) [13, 14, 15, 16, 17, 18, 19, 20, 21, 22, 23, 24, 25, 26, 0, 1, 2, 3, 4, 5, 6, 7, 8, 9, 10, 11, 12] (by decide) rfl
  clear hPc hDc hKc
  refine lv_istore (lv' := [(5, .int k), (0, .ref b), (1, .ref h), (2, .ref hm), (3, .ref o), (4, .int (nI i))]) hx hb dL_law_751 hl (by decide) rfl (fun ls0 hl => ?_)
  refine lv_aload_n hx hb dL_law_753 rfl (lv_at hl 3 rfl) ?_
  refine zs_ld (k := 1) 754 C hS (by omega) dL_law_754 dL_law_755 dL_law_757 (by decide) dL_law_758 dL_law_759 (lv_at hl 1 rfl) (lv_at hl 5 rfl) ?_
  have hPc := hP.sub (ws' := (mW hm am cm nL nC nB G sp cd ck)) [14, 15, 16, 17, 18, 19, 20, 21, 22, 23, 24, 25, 26] rfl
  have hDc := hD.sub (ws' := (mW hm am cm nL nC nB G sp cd ck)) [14, 15, 16, 17, 18, 19, 20, 21, 22, 23, 24, 25, 26] (by decide) rfl
  have hKc := hK.sub (tys' := mT cm) [13, 14, 15, 16, 17, 18, 19, 20, 21, 22, 23, 24] rfl
  refine zz_pi (wr := oE o co f1 :: xW h a cA nL nC nB F1 ls1) (va_runV (As := [.int (xs (i + 1))]) (rest := []) ⟨hx, hb, hml, hown, hts⟩ (cM_tick l D hm am cm nL nC nB H.size hn G sp cd ck (xs (i + 1)) (cs_T G) hcp.T.1) (cwV 1 hts gL_law_X1_tick rfl rfl rfl (by decide +kernel) ⟨(Nat.le_of_ble_eq_true rfl), (Nat.le_of_ble_eq_true rfl)⟩) (zz_pV hPc hKc hDc (va_recv hKc hPc (ci := 1) (q0 := 0) rfl rfl)) rfl rfl hl.1 rfl (lv_room (Nat.le_of_ble_eq_true rfl)) dL_law_760 ⟨(show cells + 1 + 0 ≤ 655402 by omega), (show slots + 6 + 0 ≤ 7129865 by omega)⟩) hP hD hS hA [14, 15, 16, 17, 18, 19, 20, 21, 22, 23, 24, 25, 26] [0, 1, 2, 3, 4, 5, 6, 7, 8, 9, 10, 11, 12, 13] rfl rfl (by decide) (by decide) (fun bb v H locs hv hP hD hS => ?_)
  obtain ⟨G1, sp1, cd1, ck1⟩ := v
  refine lv_istore (lv' := [(6, .int bb), (5, .int k), (0, .ref b), (1, .ref h), (2, .ref hm), (3, .ref o), (4, .int (nI i))]) hx hb dL_law_763 hl (by decide) rfl (fun ls0 hl => ?_)
  obtain ⟨z1, z2, z3⟩ := lc_fin (nL := nL) (nC := nC) (nB := nB) (n := n) (n' := n + 16) (b := bb) (v := (G1, sp1, cd1, ck1)) (by omega) hu (fun E hE => cs_tick_x  hcp hE hv) (fun v0 h0 => cs_tick hn.1 (by omega) hcp h0 hv)
  refine zs_tail 765 C hn hK hP hD hS dL_law_765 dL_law_766 dL_law_769 dL_law_771 dL_law_776 dL_law_778 dL_law_781 dL_law_782 dL_law_783 dL_law_784 dL_law_786 dL_law_787 dL_law_788 dL_law_793 (by decide) hl z1 z2 (by omega) (by omega) (fun H locs ls0 hP hD hS hl => ?_)
  exact W.widen (by omega) (by omega) (kk F1 ls1 f1 G1 sp1 cd1 ck1 H locs ls0 z3 hP hD hS hl)
set_option maxHeartbeats 4000000 in
set_option maxRecDepth 100000 in
theorem lc_told {p : Program} {l : Launch} (hlT : l.stackTraces = false) {e : Env} {s : State} {m : MethodId} {below : List Frame} {meth : Method} {c : Code} {H : Heap} {locs : List Loc} {cells slots b L i n : Nat} {xs : Nat → Int32} {Q : State → Prop} {ls0 : Array Slot} {D : va_G} {h : Nat} {a : Nat → Nat} {cA : Nat → ClassId} {hm : Nat} {am : Nat → Nat} {cm : Nat → ClassId} {o : Nat} {co : ClassId} {nL nC nB : Nat} {F : Nat → Nat → Int32} {ls : Int32} {f : Nat → Int64} {G : Nat → Nat → Int32} {sp : Nat → Int64} {cd : Int32} {ck : Int64} (C : lc_C p s m c b L xs) (hn : nL ≤ 8 ∧ nC ≤ 8 ∧ nB ≤ 8) (hi : i + 2 < L) (hn2 : n + 16 < 2 ^ 30) (hcp : cp nL nC nB n F ls G sp ck) (hK : va_K D vwCl (lT cA cm co) s) (hP : va_P D vwCl (lW h a cA hm am cm o co nL nC nB F ls f G sp cd ck) H) (hD : va_D (lA s) (lW h a cA hm am cm o co nL nC nB F ls f G sp cd ck)) (hS : va_S (lA s) s.heap H locs) (hl : lv_has ls0 7 [(0, .ref b), (1, .ref h), (2, .ref hm), (3, .ref o), (4, .int (nI i))]) (hc1 : cells + 4 ≤ 655402) (hs1 : slots + 24 ≤ 7129865)
    (kk : ∀ (F : Nat → Nat → Int32) (ls : Int32) (f : Nat → Int64) (G : Nat → Nat → Int32) (sp : Nat → Int64) (cd : Int32) (ck : Int64) (H : Heap) (locs : List Loc) (ls0 : Array Slot), cp nL nC nB (n + 16) F ls G sp ck → va_P D vwCl (lW h a cA hm am cm o co nL nC nB F ls f G sp cd ck) H → va_D (lA s) (lW h a cA hm am cm o co nL nC nB F ls f G sp cd ck) → va_S (lA s) s.heap H locs → lv_has ls0 7 [(0, .ref b), (1, .ref h), (2, .ref hm), (3, .ref o), (4, .int (nI i))] → W p l e room_1 s m #[Value.ref b] below meth c H locs (cells + 4) (slots + 24) Q (F0 m 1124 ls0 [])) :
    W p l e room_1 s m #[Value.ref b] below meth c H locs cells slots Q (F0 m 809 ls0 []) := by
  obtain ⟨hx, hb, hml, hown, hts, hX, hbl, hL, hT, hN⟩ := id C
  have hA : ∀ q : Nat, s.heap.size ≤ q → lA s q := fun _ h => h
  refine lv_aload_n hx hb dL_law_809 rfl (lv_at hl 1 rfl) ?_
  refine zs_ld (k := 1) 810 C hS (by omega) dL_law_810 dL_law_811 dL_law_813 (by decide) dL_law_814 dL_law_815 (lv_at hl 0 rfl) (lv_at hl 4 rfl) ?_
  refine zs_ld (k := 2) 816 C hS (by omega) dL_law_816 dL_law_817 dL_law_819 (by decide) dL_law_820 dL_law_821 (lv_at hl 0 rfl) (lv_at hl 4 rfl) ?_
  refine lv_aload_n hx hb dL_law_822 rfl (lv_at hl 3 rfl) ?_
  have hPc := hP.sub (ws' := (oE o co f :: xW h a cA nL nC nB F ls)) [0, 1, 2, 3, 4, 5, 6, 7, 8, 9, 10, 11, 12, 13] rfl
  have hDc := hD.sub (ws' := (oE o co f :: xW h a cA nL nC nB F ls)) [0, 1, 2, 3, 4, 5, 6, 7, 8, 9, 10, 11, 12, 13] (by decide) rfl
  have hKc := hK.sub (tys' := (co, .long) :: xT cA) [0, 1, 2, 3, 4, 5, 6, 7, 8, 9, 10, 11, 12] rfl
  refine zz_pi (wr := mW hm am cm nL nC nB G sp cd ck) (vx_runSW (As := [.ref h, .int (xs (i + 1)), .int (xs (i + 2)), .ref o]) (rest := []) ⟨hx, hb, hml, hown, hts⟩ (cL_told_met l hlT D h a cA nL nC nB H.size hn F ls o co f (xs (i + 1)) (xs (i + 2))) (vx_cwSW 4 hts gL_law_L_told rfl rfl rfl (by decide +kernel) ⟨(Nat.le_of_ble_eq_true rfl), (Nat.le_of_ble_eq_true rfl)⟩) (zl_pS hPc hKc hDc hA hS hT hN) rfl rfl hl.1 rfl (lv_room (Nat.le_of_ble_eq_true rfl)) dL_law_823 ⟨(show cells + 2 ≤ 655402 by omega), (show slots + 12 ≤ 7129865 by omega)⟩) hP hD hS hA [0, 1, 2, 3, 4, 5, 6, 7, 8, 9, 10, 11, 12, 13] [14, 15, 16, 17, 18, 19, 20, 21, 22, 23, 24, 25, 26] rfl rfl (by decide) (by decide) (fun k u H locs hu hP hD hS => ?_)
  obtain ⟨⟨F1, ls1⟩, f1⟩ := u
  have hP := hP.sub (ws' := lW h a cA hm am cm o co nL nC nB F1 ls1 f1 G sp cd ck) [13, 14, 15, 16, 17, 18, 19, 20, 21, 22, 23, 24, 25, 26, 0, 1, 2, 3, 4, 5, 6, 7, 8, 9, 10, 11, 12] rfl
  have hD := hD.sub (ws' := lW h a cA hm am cm o co nL nC nB F1 ls1 f1 G sp cd ck) [13, 14, 15, 16, 17, 18, 19, 20, 21, 22, 23, 24, 25, 26, 0, 1, 2, 3, 4, 5, 6, 7, 8, 9, 10, 11, 12] (by decide) rfl
  clear hPc hDc hKc
  refine lv_istore (lv' := [(5, .int k), (0, .ref b), (1, .ref h), (2, .ref hm), (3, .ref o), (4, .int (nI i))]) hx hb dL_law_826 hl (by decide) rfl (fun ls0 hl => ?_)
  refine lv_aload_n hx hb dL_law_828 rfl (lv_at hl 3 rfl) ?_
  refine zs_ld (k := 1) 829 C hS (by omega) dL_law_829 dL_law_830 dL_law_832 (by decide) dL_law_833 dL_law_834 (lv_at hl 1 rfl) (lv_at hl 5 rfl) ?_
  refine zs_ld (k := 2) 835 C hS (by omega) dL_law_835 dL_law_836 dL_law_838 (by decide) dL_law_839 dL_law_840 (lv_at hl 1 rfl) (lv_at hl 5 rfl) ?_
  have hPc := hP.sub (ws' := (mW hm am cm nL nC nB G sp cd ck)) [14, 15, 16, 17, 18, 19, 20, 21, 22, 23, 24, 25, 26] rfl
  have hDc := hD.sub (ws' := (mW hm am cm nL nC nB G sp cd ck)) [14, 15, 16, 17, 18, 19, 20, 21, 22, 23, 24, 25, 26] (by decide) rfl
  have hKc := hK.sub (tys' := mT cm) [13, 14, 15, 16, 17, 18, 19, 20, 21, 22, 23, 24] rfl
  refine zz_pi (wr := oE o co f1 :: xW h a cA nL nC nB F1 ls1) (va_runV (As := [.int (xs (i + 1)), .int (xs (i + 2))]) (rest := []) ⟨hx, hb, hml, hown, hts⟩ (cM_told l D hm am cm nL nC nB H.size hn G sp cd ck (xs (i + 1)) (xs (i + 2)) (hcp.I hn.1)) (cwV 2 hts gL_law_X1_told rfl rfl rfl (by decide +kernel) ⟨(Nat.le_of_ble_eq_true rfl), (Nat.le_of_ble_eq_true rfl)⟩) (zz_pV hPc hKc hDc (va_recv hKc hPc (ci := 1) (q0 := 0) rfl rfl)) rfl rfl hl.1 rfl (lv_room (Nat.le_of_ble_eq_true rfl)) dL_law_841 ⟨(show cells + 2 + 0 ≤ 655402 by omega), (show slots + 12 + 0 ≤ 7129865 by omega)⟩) hP hD hS hA [14, 15, 16, 17, 18, 19, 20, 21, 22, 23, 24, 25, 26] [0, 1, 2, 3, 4, 5, 6, 7, 8, 9, 10, 11, 12, 13] rfl rfl (by decide) (by decide) (fun bb v H locs hv hP hD hS => ?_)
  obtain ⟨G1, sp1, cd1, ck1⟩ := v
  refine lv_istore (lv' := [(6, .int bb), (5, .int k), (0, .ref b), (1, .ref h), (2, .ref hm), (3, .ref o), (4, .int (nI i))]) hx hb dL_law_844 hl (by decide) rfl (fun ls0 hl => ?_)
  obtain ⟨z1, z2, z3⟩ := lc_fin (nL := nL) (nC := nC) (nB := nB) (n := n) (n' := n + 16) (b := bb) (v := (G1, sp1, cd1, ck1)) (by omega) hu (fun E hE => cs_told_x  hcp hE hv) (fun v0 h0 => by
    obtain ⟨h0, h1⟩ := h0
    cases h1
    obtain ⟨q1, q2, q3⟩ := cs_told hn.1 hcp h0 hv
    exact ⟨q1, q2, q3.more (by omega)⟩)
  refine zs_tail 846 C hn hK hP hD hS dL_law_846 dL_law_847 dL_law_850 dL_law_852 dL_law_857 dL_law_859 dL_law_862 dL_law_863 dL_law_864 dL_law_865 dL_law_867 dL_law_868 dL_law_869 dL_law_874 (by decide) hl z1 z2 (by omega) (by omega) (fun H locs ls0 hP hD hS hl => ?_)
  exact W.widen (by omega) (by omega) (kk F1 ls1 f1 G1 sp1 cd1 ck1 H locs ls0 z3 hP hD hS hl)
set_option maxHeartbeats 4000000 in
set_option maxRecDepth 100000 in
theorem lc_owner {p : Program} {l : Launch} (hlT : l.stackTraces = false) {e : Env} {s : State} {m : MethodId} {below : List Frame} {meth : Method} {c : Code} {H : Heap} {locs : List Loc} {cells slots b L i n : Nat} {xs : Nat → Int32} {Q : State → Prop} {ls0 : Array Slot} {D : va_G} {h : Nat} {a : Nat → Nat} {cA : Nat → ClassId} {hm : Nat} {am : Nat → Nat} {cm : Nat → ClassId} {o : Nat} {co : ClassId} {nL nC nB : Nat} {F : Nat → Nat → Int32} {ls : Int32} {f : Nat → Int64} {G : Nat → Nat → Int32} {sp : Nat → Int64} {cd : Int32} {ck : Int64} (C : lc_C p s m c b L xs) (hn : nL ≤ 8 ∧ nC ≤ 8 ∧ nB ≤ 8) (hi : i + 2 < L) (hn2 : n + 16 < 2 ^ 30) (hcp : cp nL nC nB n F ls G sp ck) (hK : va_K D vwCl (lT cA cm co) s) (hP : va_P D vwCl (lW h a cA hm am cm o co nL nC nB F ls f G sp cd ck) H) (hD : va_D (lA s) (lW h a cA hm am cm o co nL nC nB F ls f G sp cd ck)) (hS : va_S (lA s) s.heap H locs) (hl : lv_has ls0 7 [(0, .ref b), (1, .ref h), (2, .ref hm), (3, .ref o), (4, .int (nI i))]) (hc1 : cells + 4 ≤ 655402) (hs1 : slots + 24 ≤ 7129865)
    (kk : ∀ (F : Nat → Nat → Int32) (ls : Int32) (f : Nat → Int64) (G : Nat → Nat → Int32) (sp : Nat → Int64) (cd : Int32) (ck : Int64) (H : Heap) (locs : List Loc) (ls0 : Array Slot), cp nL nC nB (n + 16) F ls G sp ck → va_P D vwCl (lW h a cA hm am cm o co nL nC nB F ls f G sp cd ck) H → va_D (lA s) (lW h a cA hm am cm o co nL nC nB F ls f G sp cd ck) → va_S (lA s) s.heap H locs → lv_has ls0 7 [(0, .ref b), (1, .ref h), (2, .ref hm), (3, .ref o), (4, .int (nI i))] → W p l e room_1 s m #[Value.ref b] below meth c H locs (cells + 4) (slots + 24) Q (F0 m 1124 ls0 [])) :
    W p l e room_1 s m #[Value.ref b] below meth c H locs cells slots Q (F0 m 877 ls0 []) := by
  obtain ⟨hx, hb, hml, hown, hts, hX, hbl, hL, hT, hN⟩ := id C
  have hA : ∀ q : Nat, s.heap.size ≤ q → lA s q := fun _ h => h
  refine lv_aload_n hx hb dL_law_877 rfl (lv_at hl 1 rfl) ?_
  refine zs_ld (k := 1) 878 C hS (by omega) dL_law_878 dL_law_879 dL_law_881 (by decide) dL_law_882 dL_law_883 (lv_at hl 0 rfl) (lv_at hl 4 rfl) ?_
  refine lv_aload_n hx hb dL_law_884 rfl (lv_at hl 3 rfl) ?_
  have hPc := hP.sub (ws' := (oE o co f :: xW h a cA nL nC nB F ls)) [0, 1, 2, 3, 4, 5, 6, 7, 8, 9, 10, 11, 12, 13] rfl
  have hDc := hD.sub (ws' := (oE o co f :: xW h a cA nL nC nB F ls)) [0, 1, 2, 3, 4, 5, 6, 7, 8, 9, 10, 11, 12, 13] (by decide) rfl
  have hKc := hK.sub (tys' := (co, .long) :: xT cA) [0, 1, 2, 3, 4, 5, 6, 7, 8, 9, 10, 11, 12] rfl
  refine zz_pi (wr := mW hm am cm nL nC nB G sp cd ck) (vx_runSW (As := [.ref h, .int (xs (i + 1)), .ref o]) (rest := []) ⟨hx, hb, hml, hown, hts⟩ (cL_owner_met l hlT D h a cA nL nC nB H.size hn F ls o co f (xs (i + 1))) (vx_cwSW 3 hts gL_law_L_owner rfl rfl rfl (by decide +kernel) ⟨(Nat.le_of_ble_eq_true rfl), (Nat.le_of_ble_eq_true rfl)⟩) (zl_pS hPc hKc hDc hA hS hT hN) rfl rfl hl.1 rfl (lv_room (Nat.le_of_ble_eq_true rfl)) dL_law_885 ⟨(show cells + 1 ≤ 655402 by omega), (show slots + 6 ≤ 7129865 by omega)⟩) hP hD hS hA [0, 1, 2, 3, 4, 5, 6, 7, 8, 9, 10, 11, 12, 13] [14, 15, 16, 17, 18, 19, 20, 21, 22, 23, 24, 25, 26] rfl rfl (by decide) (by decide) (fun k u H locs hu hP hD hS => ?_)
  obtain ⟨⟨F1, ls1⟩, f1⟩ := u
  have hP := hP.sub (ws' := lW h a cA hm am cm o co nL nC nB F1 ls1 f1 G sp cd ck) [13, 14, 15, 16, 17, 18, 19, 20, 21, 22, 23, 24, 25, 26, 0, 1, 2, 3, 4, 5, 6, 7, 8, 9, 10, 11, 12] rfl
  have hD := hD.sub (ws' := lW h a cA hm am cm o co nL nC nB F1 ls1 f1 G sp cd ck) [13, 14, 15, 16, 17, 18, 19, 20, 21, 22, 23, 24, 25, 26, 0, 1, 2, 3, 4, 5, 6, 7, 8, 9, 10, 11, 12] (by decide) rfl
  clear hPc hDc hKc
  refine lv_istore (lv' := [(5, .int k), (0, .ref b), (1, .ref h), (2, .ref hm), (3, .ref o), (4, .int (nI i))]) hx hb dL_law_888 hl (by decide) rfl (fun ls0 hl => ?_)
  refine lv_aload_n hx hb dL_law_890 rfl (lv_at hl 3 rfl) ?_
  refine zs_ld (k := 1) 891 C hS (by omega) dL_law_891 dL_law_892 dL_law_894 (by decide) dL_law_895 dL_law_896 (lv_at hl 1 rfl) (lv_at hl 5 rfl) ?_
  have hPc := hP.sub (ws' := (mW hm am cm nL nC nB G sp cd ck)) [14, 15, 16, 17, 18, 19, 20, 21, 22, 23, 24, 25, 26] rfl
  have hDc := hD.sub (ws' := (mW hm am cm nL nC nB G sp cd ck)) [14, 15, 16, 17, 18, 19, 20, 21, 22, 23, 24, 25, 26] (by decide) rfl
  have hKc := hK.sub (tys' := mT cm) [13, 14, 15, 16, 17, 18, 19, 20, 21, 22, 23, 24] rfl
  refine zz_pi (wr := oE o co f1 :: xW h a cA nL nC nB F1 ls1) (va_runV (As := [.int (xs (i + 1))]) (rest := []) ⟨hx, hb, hml, hown, hts⟩ (cM_owner l D hm am cm nL nC nB H.size hn G sp cd ck (xs (i + 1))) (cwV 1 hts gL_law_X1_owner rfl rfl rfl (by decide +kernel) ⟨(Nat.le_of_ble_eq_true rfl), (Nat.le_of_ble_eq_true rfl)⟩) (zz_pV hPc hKc hDc (va_recv hKc hPc (ci := 1) (q0 := 0) rfl rfl)) rfl rfl hl.1 rfl (lv_room (Nat.le_of_ble_eq_true rfl)) dL_law_897 ⟨(show cells + 1 + 0 ≤ 655402 by omega), (show slots + 6 + 0 ≤ 7129865 by omega)⟩) hP hD hS hA [14, 15, 16, 17, 18, 19, 20, 21, 22, 23, 24, 25, 26] [0, 1, 2, 3, 4, 5, 6, 7, 8, 9, 10, 11, 12, 13] rfl rfl (by decide) (by decide) (fun bb v H locs hv hP hD hS => ?_)
  obtain ⟨G1, sp1, cd1, ck1⟩ := v
  refine lv_istore (lv' := [(6, .int bb), (5, .int k), (0, .ref b), (1, .ref h), (2, .ref hm), (3, .ref o), (4, .int (nI i))]) hx hb dL_law_900 hl (by decide) rfl (fun ls0 hl => ?_)
  obtain ⟨z1, z2, z3⟩ := lc_fin (nL := nL) (nC := nC) (nB := nB) (n := n) (n' := n + 16) (b := bb) (v := (G1, sp1, cd1, ck1)) (by omega) hu (fun E hE => cs_get_x (d := 0) hcp hE hv) (fun v0 h0 => by
    obtain ⟨h0, h1⟩ := h0
    cases h1
    obtain ⟨q1, q2, q3⟩ := cs_get hn.1 hcp hcp.2.1.1 h0 hv
    exact ⟨q1, q2, q3.more (by omega)⟩)
  refine zs_tail 902 C hn hK hP hD hS dL_law_902 dL_law_903 dL_law_906 dL_law_908 dL_law_913 dL_law_915 dL_law_918 dL_law_919 dL_law_920 dL_law_921 dL_law_923 dL_law_924 dL_law_925 dL_law_930 (by decide) hl z1 z2 (by omega) (by omega) (fun H locs ls0 hP hD hS hl => ?_)
  exact W.widen (by omega) (by omega) (kk F1 ls1 f1 G1 sp1 cd1 ck1 H locs ls0 z3 hP hD hS hl)
set_option maxHeartbeats 4000000 in
set_option maxRecDepth 100000 in
theorem lc_count {p : Program} {l : Launch} (hlT : l.stackTraces = false) {e : Env} {s : State} {m : MethodId} {below : List Frame} {meth : Method} {c : Code} {H : Heap} {locs : List Loc} {cells slots b L i n : Nat} {xs : Nat → Int32} {Q : State → Prop} {ls0 : Array Slot} {D : va_G} {h : Nat} {a : Nat → Nat} {cA : Nat → ClassId} {hm : Nat} {am : Nat → Nat} {cm : Nat → ClassId} {o : Nat} {co : ClassId} {nL nC nB : Nat} {F : Nat → Nat → Int32} {ls : Int32} {f : Nat → Int64} {G : Nat → Nat → Int32} {sp : Nat → Int64} {cd : Int32} {ck : Int64} (C : lc_C p s m c b L xs) (hn : nL ≤ 8 ∧ nC ≤ 8 ∧ nB ≤ 8) (hi : i + 2 < L) (hn2 : n + 16 < 2 ^ 30) (hcp : cp nL nC nB n F ls G sp ck) (hK : va_K D vwCl (lT cA cm co) s) (hP : va_P D vwCl (lW h a cA hm am cm o co nL nC nB F ls f G sp cd ck) H) (hD : va_D (lA s) (lW h a cA hm am cm o co nL nC nB F ls f G sp cd ck)) (hS : va_S (lA s) s.heap H locs) (hl : lv_has ls0 7 [(0, .ref b), (1, .ref h), (2, .ref hm), (3, .ref o), (4, .int (nI i))]) (hc1 : cells + 4 ≤ 655402) (hs1 : slots + 24 ≤ 7129865)
    (kk : ∀ (F : Nat → Nat → Int32) (ls : Int32) (f : Nat → Int64) (G : Nat → Nat → Int32) (sp : Nat → Int64) (cd : Int32) (ck : Int64) (H : Heap) (locs : List Loc) (ls0 : Array Slot), cp nL nC nB (n + 16) F ls G sp ck → va_P D vwCl (lW h a cA hm am cm o co nL nC nB F ls f G sp cd ck) H → va_D (lA s) (lW h a cA hm am cm o co nL nC nB F ls f G sp cd ck) → va_S (lA s) s.heap H locs → lv_has ls0 7 [(0, .ref b), (1, .ref h), (2, .ref hm), (3, .ref o), (4, .int (nI i))] → W p l e room_1 s m #[Value.ref b] below meth c H locs (cells + 4) (slots + 24) Q (F0 m 1124 ls0 [])) :
    W p l e room_1 s m #[Value.ref b] below meth c H locs cells slots Q (F0 m 933 ls0 []) := by
  obtain ⟨hx, hb, hml, hown, hts, hX, hbl, hL, hT, hN⟩ := id C
  have hA : ∀ q : Nat, s.heap.size ≤ q → lA s q := fun _ h => h
  refine lv_aload_n hx hb dL_law_933 rfl (lv_at hl 1 rfl) ?_
  refine zs_ld (k := 1) 934 C hS (by omega) dL_law_934 dL_law_935 dL_law_937 (by decide) dL_law_938 dL_law_939 (lv_at hl 0 rfl) (lv_at hl 4 rfl) ?_
  refine lv_aload_n hx hb dL_law_940 rfl (lv_at hl 3 rfl) ?_
  have hPc := hP.sub (ws' := (oE o co f :: xW h a cA nL nC nB F ls)) [0, 1, 2, 3, 4, 5, 6, 7, 8, 9, 10, 11, 12, 13] rfl
  have hDc := hD.sub (ws' := (oE o co f :: xW h a cA nL nC nB F ls)) [0, 1, 2, 3, 4, 5, 6, 7, 8, 9, 10, 11, 12, 13] (by decide) rfl
  have hKc := hK.sub (tys' := (co, .long) :: xT cA) [0, 1, 2, 3, 4, 5, 6, 7, 8, 9, 10, 11, 12] rfl
  refine zz_pi (wr := mW hm am cm nL nC nB G sp cd ck) (vx_runSW (As := [.ref h, .int (xs (i + 1)), .ref o]) (rest := []) ⟨hx, hb, hml, hown, hts⟩ (cL_count_met l hlT D h a cA nL nC nB H.size hn F ls o co f (xs (i + 1))) (vx_cwSW 3 hts gL_law_L_count rfl rfl rfl (by decide +kernel) ⟨(Nat.le_of_ble_eq_true rfl), (Nat.le_of_ble_eq_true rfl)⟩) (zl_pS hPc hKc hDc hA hS hT hN) rfl rfl hl.1 rfl (lv_room (Nat.le_of_ble_eq_true rfl)) dL_law_941 ⟨(show cells + 1 ≤ 655402 by omega), (show slots + 6 ≤ 7129865 by omega)⟩) hP hD hS hA [0, 1, 2, 3, 4, 5, 6, 7, 8, 9, 10, 11, 12, 13] [14, 15, 16, 17, 18, 19, 20, 21, 22, 23, 24, 25, 26] rfl rfl (by decide) (by decide) (fun k u H locs hu hP hD hS => ?_)
  obtain ⟨⟨F1, ls1⟩, f1⟩ := u
  have hP := hP.sub (ws' := lW h a cA hm am cm o co nL nC nB F1 ls1 f1 G sp cd ck) [13, 14, 15, 16, 17, 18, 19, 20, 21, 22, 23, 24, 25, 26, 0, 1, 2, 3, 4, 5, 6, 7, 8, 9, 10, 11, 12] rfl
  have hD := hD.sub (ws' := lW h a cA hm am cm o co nL nC nB F1 ls1 f1 G sp cd ck) [13, 14, 15, 16, 17, 18, 19, 20, 21, 22, 23, 24, 25, 26, 0, 1, 2, 3, 4, 5, 6, 7, 8, 9, 10, 11, 12] (by decide) rfl
  clear hPc hDc hKc
  refine lv_istore (lv' := [(5, .int k), (0, .ref b), (1, .ref h), (2, .ref hm), (3, .ref o), (4, .int (nI i))]) hx hb dL_law_944 hl (by decide) rfl (fun ls0 hl => ?_)
  refine lv_aload_n hx hb dL_law_946 rfl (lv_at hl 3 rfl) ?_
  refine zs_ld (k := 1) 947 C hS (by omega) dL_law_947 dL_law_948 dL_law_950 (by decide) dL_law_951 dL_law_952 (lv_at hl 1 rfl) (lv_at hl 5 rfl) ?_
  have hPc := hP.sub (ws' := (mW hm am cm nL nC nB G sp cd ck)) [14, 15, 16, 17, 18, 19, 20, 21, 22, 23, 24, 25, 26] rfl
  have hDc := hD.sub (ws' := (mW hm am cm nL nC nB G sp cd ck)) [14, 15, 16, 17, 18, 19, 20, 21, 22, 23, 24, 25, 26] (by decide) rfl
  have hKc := hK.sub (tys' := mT cm) [13, 14, 15, 16, 17, 18, 19, 20, 21, 22, 23, 24] rfl
  refine zz_pi (wr := oE o co f1 :: xW h a cA nL nC nB F1 ls1) (va_runV (As := [.int (xs (i + 1))]) (rest := []) ⟨hx, hb, hml, hown, hts⟩ (cM_count l D hm am cm nL nC nB H.size hn G sp cd ck (xs (i + 1))) (cwV 1 hts gL_law_X1_count rfl rfl rfl (by decide +kernel) ⟨(Nat.le_of_ble_eq_true rfl), (Nat.le_of_ble_eq_true rfl)⟩) (zz_pV hPc hKc hDc (va_recv hKc hPc (ci := 1) (q0 := 0) rfl rfl)) rfl rfl hl.1 rfl (lv_room (Nat.le_of_ble_eq_true rfl)) dL_law_953 ⟨(show cells + 1 + 0 ≤ 655402 by omega), (show slots + 6 + 0 ≤ 7129865 by omega)⟩) hP hD hS hA [14, 15, 16, 17, 18, 19, 20, 21, 22, 23, 24, 25, 26] [0, 1, 2, 3, 4, 5, 6, 7, 8, 9, 10, 11, 12, 13] rfl rfl (by decide) (by decide) (fun bb v H locs hv hP hD hS => ?_)
  obtain ⟨G1, sp1, cd1, ck1⟩ := v
  refine lv_istore (lv' := [(6, .int bb), (5, .int k), (0, .ref b), (1, .ref h), (2, .ref hm), (3, .ref o), (4, .int (nI i))]) hx hb dL_law_956 hl (by decide) rfl (fun ls0 hl => ?_)
  obtain ⟨z1, z2, z3⟩ := lc_fin (nL := nL) (nC := nC) (nB := nB) (n := n) (n' := n + 16) (b := bb) (v := (G1, sp1, cd1, ck1)) (by omega) hu (fun E hE => cs_get_x (d := 0) hcp hE hv) (fun v0 h0 => by
    obtain ⟨h0, h1⟩ := h0
    cases h1
    obtain ⟨q1, q2, q3⟩ := cs_get hn.2.1 hcp (fun k hk => (hcp.2.1.2.2.2.1 k hk).1) h0 hv
    exact ⟨q1, q2, q3.more (by omega)⟩)
  refine zs_tail 958 C hn hK hP hD hS dL_law_958 dL_law_959 dL_law_962 dL_law_964 dL_law_969 dL_law_971 dL_law_974 dL_law_975 dL_law_976 dL_law_977 dL_law_979 dL_law_980 dL_law_981 dL_law_986 (by decide) hl z1 z2 (by omega) (by omega) (fun H locs ls0 hP hD hS hl => ?_)
  exact W.widen (by omega) (by omega) (kk F1 ls1 f1 G1 sp1 cd1 ck1 H locs ls0 z3 hP hD hS hl)
set_option maxHeartbeats 4000000 in
set_option maxRecDepth 100000 in
theorem lc_words {p : Program} {l : Launch} (hlT : l.stackTraces = false) {e : Env} {s : State} {m : MethodId} {below : List Frame} {meth : Method} {c : Code} {H : Heap} {locs : List Loc} {cells slots b L i n : Nat} {xs : Nat → Int32} {Q : State → Prop} {ls0 : Array Slot} {D : va_G} {h : Nat} {a : Nat → Nat} {cA : Nat → ClassId} {hm : Nat} {am : Nat → Nat} {cm : Nat → ClassId} {o : Nat} {co : ClassId} {nL nC nB : Nat} {F : Nat → Nat → Int32} {ls : Int32} {f : Nat → Int64} {G : Nat → Nat → Int32} {sp : Nat → Int64} {cd : Int32} {ck : Int64} (C : lc_C p s m c b L xs) (hn : nL ≤ 8 ∧ nC ≤ 8 ∧ nB ≤ 8) (hi : i + 2 < L) (hn2 : n + 16 < 2 ^ 30) (hcp : cp nL nC nB n F ls G sp ck) (hK : va_K D vwCl (lT cA cm co) s) (hP : va_P D vwCl (lW h a cA hm am cm o co nL nC nB F ls f G sp cd ck) H) (hD : va_D (lA s) (lW h a cA hm am cm o co nL nC nB F ls f G sp cd ck)) (hS : va_S (lA s) s.heap H locs) (hl : lv_has ls0 7 [(0, .ref b), (1, .ref h), (2, .ref hm), (3, .ref o), (4, .int (nI i))]) (hc1 : cells + 4 ≤ 655402) (hs1 : slots + 24 ≤ 7129865)
    (kk : ∀ (F : Nat → Nat → Int32) (ls : Int32) (f : Nat → Int64) (G : Nat → Nat → Int32) (sp : Nat → Int64) (cd : Int32) (ck : Int64) (H : Heap) (locs : List Loc) (ls0 : Array Slot), cp nL nC nB (n + 16) F ls G sp ck → va_P D vwCl (lW h a cA hm am cm o co nL nC nB F ls f G sp cd ck) H → va_D (lA s) (lW h a cA hm am cm o co nL nC nB F ls f G sp cd ck) → va_S (lA s) s.heap H locs → lv_has ls0 7 [(0, .ref b), (1, .ref h), (2, .ref hm), (3, .ref o), (4, .int (nI i))] → W p l e room_1 s m #[Value.ref b] below meth c H locs (cells + 4) (slots + 24) Q (F0 m 1124 ls0 [])) :
    W p l e room_1 s m #[Value.ref b] below meth c H locs cells slots Q (F0 m 989 ls0 []) := by
  obtain ⟨hx, hb, hml, hown, hts, hX, hbl, hL, hT, hN⟩ := id C
  have hA : ∀ q : Nat, s.heap.size ≤ q → lA s q := fun _ h => h
  refine lv_aload_n hx hb dL_law_989 rfl (lv_at hl 1 rfl) ?_
  refine zs_ld (k := 1) 990 C hS (by omega) dL_law_990 dL_law_991 dL_law_993 (by decide) dL_law_994 dL_law_995 (lv_at hl 0 rfl) (lv_at hl 4 rfl) ?_
  refine lv_aload_n hx hb dL_law_996 rfl (lv_at hl 3 rfl) ?_
  have hPc := hP.sub (ws' := (oE o co f :: xW h a cA nL nC nB F ls)) [0, 1, 2, 3, 4, 5, 6, 7, 8, 9, 10, 11, 12, 13] rfl
  have hDc := hD.sub (ws' := (oE o co f :: xW h a cA nL nC nB F ls)) [0, 1, 2, 3, 4, 5, 6, 7, 8, 9, 10, 11, 12, 13] (by decide) rfl
  have hKc := hK.sub (tys' := (co, .long) :: xT cA) [0, 1, 2, 3, 4, 5, 6, 7, 8, 9, 10, 11, 12] rfl
  refine zz_pi (wr := mW hm am cm nL nC nB G sp cd ck) (vx_runSW (As := [.ref h, .int (xs (i + 1)), .ref o]) (rest := []) ⟨hx, hb, hml, hown, hts⟩ (cL_words_met l hlT D h a cA nL nC nB H.size hn F ls o co f (xs (i + 1))) (vx_cwSW 3 hts gL_law_L_words rfl rfl rfl (by decide +kernel) ⟨(Nat.le_of_ble_eq_true rfl), (Nat.le_of_ble_eq_true rfl)⟩) (zl_pS hPc hKc hDc hA hS hT hN) rfl rfl hl.1 rfl (lv_room (Nat.le_of_ble_eq_true rfl)) dL_law_997 ⟨(show cells + 1 ≤ 655402 by omega), (show slots + 6 ≤ 7129865 by omega)⟩) hP hD hS hA [0, 1, 2, 3, 4, 5, 6, 7, 8, 9, 10, 11, 12, 13] [14, 15, 16, 17, 18, 19, 20, 21, 22, 23, 24, 25, 26] rfl rfl (by decide) (by decide) (fun k u H locs hu hP hD hS => ?_)
  obtain ⟨⟨F1, ls1⟩, f1⟩ := u
  have hP := hP.sub (ws' := lW h a cA hm am cm o co nL nC nB F1 ls1 f1 G sp cd ck) [13, 14, 15, 16, 17, 18, 19, 20, 21, 22, 23, 24, 25, 26, 0, 1, 2, 3, 4, 5, 6, 7, 8, 9, 10, 11, 12] rfl
  have hD := hD.sub (ws' := lW h a cA hm am cm o co nL nC nB F1 ls1 f1 G sp cd ck) [13, 14, 15, 16, 17, 18, 19, 20, 21, 22, 23, 24, 25, 26, 0, 1, 2, 3, 4, 5, 6, 7, 8, 9, 10, 11, 12] (by decide) rfl
  clear hPc hDc hKc
  refine lv_istore (lv' := [(5, .int k), (0, .ref b), (1, .ref h), (2, .ref hm), (3, .ref o), (4, .int (nI i))]) hx hb dL_law_1000 hl (by decide) rfl (fun ls0 hl => ?_)
  refine lv_aload_n hx hb dL_law_1002 rfl (lv_at hl 3 rfl) ?_
  refine zs_ld (k := 1) 1003 C hS (by omega) dL_law_1003 dL_law_1004 dL_law_1006 (by decide) dL_law_1007 dL_law_1008 (lv_at hl 1 rfl) (lv_at hl 5 rfl) ?_
  have hPc := hP.sub (ws' := (mW hm am cm nL nC nB G sp cd ck)) [14, 15, 16, 17, 18, 19, 20, 21, 22, 23, 24, 25, 26] rfl
  have hDc := hD.sub (ws' := (mW hm am cm nL nC nB G sp cd ck)) [14, 15, 16, 17, 18, 19, 20, 21, 22, 23, 24, 25, 26] (by decide) rfl
  have hKc := hK.sub (tys' := mT cm) [13, 14, 15, 16, 17, 18, 19, 20, 21, 22, 23, 24] rfl
  refine zz_pi (wr := oE o co f1 :: xW h a cA nL nC nB F1 ls1) (va_runV (As := [.int (xs (i + 1))]) (rest := []) ⟨hx, hb, hml, hown, hts⟩ (cM_words l D hm am cm nL nC nB H.size hn G sp cd ck (xs (i + 1))) (cwV 1 hts gL_law_X1_words rfl rfl rfl (by decide +kernel) ⟨(Nat.le_of_ble_eq_true rfl), (Nat.le_of_ble_eq_true rfl)⟩) (zz_pV hPc hKc hDc (va_recv hKc hPc (ci := 1) (q0 := 0) rfl rfl)) rfl rfl hl.1 rfl (lv_room (Nat.le_of_ble_eq_true rfl)) dL_law_1009 ⟨(show cells + 1 + 0 ≤ 655402 by omega), (show slots + 6 + 0 ≤ 7129865 by omega)⟩) hP hD hS hA [14, 15, 16, 17, 18, 19, 20, 21, 22, 23, 24, 25, 26] [0, 1, 2, 3, 4, 5, 6, 7, 8, 9, 10, 11, 12, 13] rfl rfl (by decide) (by decide) (fun bb v H locs hv hP hD hS => ?_)
  obtain ⟨G1, sp1, cd1, ck1⟩ := v
  refine lv_istore (lv' := [(6, .int bb), (5, .int k), (0, .ref b), (1, .ref h), (2, .ref hm), (3, .ref o), (4, .int (nI i))]) hx hb dL_law_1012 hl (by decide) rfl (fun ls0 hl => ?_)
  obtain ⟨z1, z2, z3⟩ := lc_fin (nL := nL) (nC := nC) (nB := nB) (n := n) (n' := n + 16) (b := bb) (v := (G1, sp1, cd1, ck1)) (by omega) hu (fun E hE => cs_get_x (d := 0) hcp hE hv) (fun v0 h0 => by
    obtain ⟨h0, h1⟩ := h0
    cases h1
    obtain ⟨q1, q2, q3⟩ := cs_get hn.2.2 hcp hcp.words h0 hv
    exact ⟨q1, q2, q3.more (by omega)⟩)
  refine zs_tail 1014 C hn hK hP hD hS dL_law_1014 dL_law_1015 dL_law_1018 dL_law_1020 dL_law_1025 dL_law_1027 dL_law_1030 dL_law_1031 dL_law_1032 dL_law_1033 dL_law_1035 dL_law_1036 dL_law_1037 dL_law_1042 (by decide) hl z1 z2 (by omega) (by omega) (fun H locs ls0 hP hD hS hl => ?_)
  exact W.widen (by omega) (by omega) (kk F1 ls1 f1 G1 sp1 cd1 ck1 H locs ls0 z3 hP hD hS hl)
set_option maxHeartbeats 4000000 in
set_option maxRecDepth 100000 in
theorem lc_first {p : Program} {l : Launch} (hlT : l.stackTraces = false) {e : Env} {s : State} {m : MethodId} {below : List Frame} {meth : Method} {c : Code} {H : Heap} {locs : List Loc} {cells slots b L i n : Nat} {xs : Nat → Int32} {Q : State → Prop} {ls0 : Array Slot} {D : va_G} {h : Nat} {a : Nat → Nat} {cA : Nat → ClassId} {hm : Nat} {am : Nat → Nat} {cm : Nat → ClassId} {o : Nat} {co : ClassId} {nL nC nB : Nat} {F : Nat → Nat → Int32} {ls : Int32} {f : Nat → Int64} {G : Nat → Nat → Int32} {sp : Nat → Int64} {cd : Int32} {ck : Int64} (C : lc_C p s m c b L xs) (hn : nL ≤ 8 ∧ nC ≤ 8 ∧ nB ≤ 8) (hi : i + 2 < L) (hn2 : n + 16 < 2 ^ 30) (hcp : cp nL nC nB n F ls G sp ck) (hK : va_K D vwCl (lT cA cm co) s) (hP : va_P D vwCl (lW h a cA hm am cm o co nL nC nB F ls f G sp cd ck) H) (hD : va_D (lA s) (lW h a cA hm am cm o co nL nC nB F ls f G sp cd ck)) (hS : va_S (lA s) s.heap H locs) (hl : lv_has ls0 7 [(0, .ref b), (1, .ref h), (2, .ref hm), (3, .ref o), (4, .int (nI i))]) (hc1 : cells + 4 ≤ 655402) (hs1 : slots + 24 ≤ 7129865)
    (kk : ∀ (F : Nat → Nat → Int32) (ls : Int32) (f : Nat → Int64) (G : Nat → Nat → Int32) (sp : Nat → Int64) (cd : Int32) (ck : Int64) (H : Heap) (locs : List Loc) (ls0 : Array Slot), cp nL nC nB (n + 16) F ls G sp ck → va_P D vwCl (lW h a cA hm am cm o co nL nC nB F ls f G sp cd ck) H → va_D (lA s) (lW h a cA hm am cm o co nL nC nB F ls f G sp cd ck) → va_S (lA s) s.heap H locs → lv_has ls0 7 [(0, .ref b), (1, .ref h), (2, .ref hm), (3, .ref o), (4, .int (nI i))] → W p l e room_1 s m #[Value.ref b] below meth c H locs (cells + 4) (slots + 24) Q (F0 m 1124 ls0 [])) :
    W p l e room_1 s m #[Value.ref b] below meth c H locs cells slots Q (F0 m 1045 ls0 []) := by
  obtain ⟨hx, hb, hml, hown, hts, hX, hbl, hL, hT, hN⟩ := id C
  have hA : ∀ q : Nat, s.heap.size ≤ q → lA s q := fun _ h => h
  refine lv_aload_n hx hb dL_law_1045 rfl (lv_at hl 1 rfl) ?_
  refine zs_ld (k := 1) 1046 C hS (by omega) dL_law_1046 dL_law_1047 dL_law_1049 (by decide) dL_law_1050 dL_law_1051 (lv_at hl 0 rfl) (lv_at hl 4 rfl) ?_
  refine zs_ld (k := 2) 1052 C hS (by omega) dL_law_1052 dL_law_1053 dL_law_1055 (by decide) dL_law_1056 dL_law_1057 (lv_at hl 0 rfl) (lv_at hl 4 rfl) ?_
  refine lv_aload_n hx hb dL_law_1058 rfl (lv_at hl 3 rfl) ?_
  have hPc := hP.sub (ws' := (oE o co f :: xW h a cA nL nC nB F ls)) [0, 1, 2, 3, 4, 5, 6, 7, 8, 9, 10, 11, 12, 13] rfl
  have hDc := hD.sub (ws' := (oE o co f :: xW h a cA nL nC nB F ls)) [0, 1, 2, 3, 4, 5, 6, 7, 8, 9, 10, 11, 12, 13] (by decide) rfl
  have hKc := hK.sub (tys' := (co, .long) :: xT cA) [0, 1, 2, 3, 4, 5, 6, 7, 8, 9, 10, 11, 12] rfl
  refine zz_pi (wr := mW hm am cm nL nC nB G sp cd ck) (vx_runSW (As := [.ref h, .int (xs (i + 1)), .int (xs (i + 2)), .ref o]) (rest := []) ⟨hx, hb, hml, hown, hts⟩ (cL_first_met l hlT D h a cA nL nC nB H.size hn F ls o co f (xs (i + 1)) (xs (i + 2))) (vx_cwSW 4 hts gL_law_L_first rfl rfl rfl (by decide +kernel) ⟨(Nat.le_of_ble_eq_true rfl), (Nat.le_of_ble_eq_true rfl)⟩) (zl_pS hPc hKc hDc hA hS hT hN) rfl rfl hl.1 rfl (lv_room (Nat.le_of_ble_eq_true rfl)) dL_law_1059 ⟨(show cells + 4 ≤ 655402 by omega), (show slots + 24 ≤ 7129865 by omega)⟩) hP hD hS hA [0, 1, 2, 3, 4, 5, 6, 7, 8, 9, 10, 11, 12, 13] [14, 15, 16, 17, 18, 19, 20, 21, 22, 23, 24, 25, 26] rfl rfl (by decide) (by decide) (fun k u H locs hu hP hD hS => ?_)
  obtain ⟨⟨F1, ls1⟩, f1⟩ := u
  have hP := hP.sub (ws' := lW h a cA hm am cm o co nL nC nB F1 ls1 f1 G sp cd ck) [13, 14, 15, 16, 17, 18, 19, 20, 21, 22, 23, 24, 25, 26, 0, 1, 2, 3, 4, 5, 6, 7, 8, 9, 10, 11, 12] rfl
  have hD := hD.sub (ws' := lW h a cA hm am cm o co nL nC nB F1 ls1 f1 G sp cd ck) [13, 14, 15, 16, 17, 18, 19, 20, 21, 22, 23, 24, 25, 26, 0, 1, 2, 3, 4, 5, 6, 7, 8, 9, 10, 11, 12] (by decide) rfl
  clear hPc hDc hKc
  refine lv_istore (lv' := [(5, .int k), (0, .ref b), (1, .ref h), (2, .ref hm), (3, .ref o), (4, .int (nI i))]) hx hb dL_law_1062 hl (by decide) rfl (fun ls0 hl => ?_)
  refine lv_aload_n hx hb dL_law_1064 rfl (lv_at hl 3 rfl) ?_
  refine zs_ld (k := 1) 1065 C hS (by omega) dL_law_1065 dL_law_1066 dL_law_1068 (by decide) dL_law_1069 dL_law_1070 (lv_at hl 1 rfl) (lv_at hl 5 rfl) ?_
  refine zs_ld (k := 2) 1071 C hS (by omega) dL_law_1071 dL_law_1072 dL_law_1074 (by decide) dL_law_1075 dL_law_1076 (lv_at hl 1 rfl) (lv_at hl 5 rfl) ?_
  have hPc := hP.sub (ws' := (mW hm am cm nL nC nB G sp cd ck)) [14, 15, 16, 17, 18, 19, 20, 21, 22, 23, 24, 25, 26] rfl
  have hDc := hD.sub (ws' := (mW hm am cm nL nC nB G sp cd ck)) [14, 15, 16, 17, 18, 19, 20, 21, 22, 23, 24, 25, 26] (by decide) rfl
  have hKc := hK.sub (tys' := mT cm) [13, 14, 15, 16, 17, 18, 19, 20, 21, 22, 23, 24] rfl
  refine zz_pi (wr := oE o co f1 :: xW h a cA nL nC nB F1 ls1) (va_runV (As := [.int (xs (i + 1)), .int (xs (i + 2))]) (rest := []) ⟨hx, hb, hml, hown, hts⟩ (cM_first l D hm am cm nL nC nB H.size hn G sp cd ck (xs (i + 1)) (xs (i + 2)) (hcp.I hn.1)) (cwV 2 hts gL_law_X1_first rfl rfl rfl (by decide +kernel) ⟨(Nat.le_of_ble_eq_true rfl), (Nat.le_of_ble_eq_true rfl)⟩) (zz_pV hPc hKc hDc (va_recv hKc hPc (ci := 1) (q0 := 0) rfl rfl)) rfl rfl hl.1 rfl (lv_room (Nat.le_of_ble_eq_true rfl)) dL_law_1077 ⟨(show cells + 4 + 0 ≤ 655402 by omega), (show slots + 24 + 0 ≤ 7129865 by omega)⟩) hP hD hS hA [14, 15, 16, 17, 18, 19, 20, 21, 22, 23, 24, 25, 26] [0, 1, 2, 3, 4, 5, 6, 7, 8, 9, 10, 11, 12, 13] rfl rfl (by decide) (by decide) (fun bb v H locs hv hP hD hS => ?_)
  obtain ⟨G1, sp1, cd1, ck1⟩ := v
  refine lv_istore (lv' := [(6, .int bb), (5, .int k), (0, .ref b), (1, .ref h), (2, .ref hm), (3, .ref o), (4, .int (nI i))]) hx hb dL_law_1080 hl (by decide) rfl (fun ls0 hl => ?_)
  obtain ⟨z1, z2, z3⟩ := lc_fin (nL := nL) (nC := nC) (nB := nB) (n := n) (n' := n + 16) (b := bb) (v := (G1, sp1, cd1, ck1)) (by omega) hu (fun E hE => cs_first_x  hcp hE hv) (fun v0 h0 => by
    obtain ⟨h0, h1⟩ := h0
    cases h1
    obtain ⟨q1, q2, q3⟩ := cs_first hn.1 (by omega) hcp h0 hv
    exact ⟨q1, q2, q3.more (by omega)⟩)
  refine zs_tail 1082 C hn hK hP hD hS dL_law_1082 dL_law_1083 dL_law_1086 dL_law_1088 dL_law_1093 dL_law_1095 dL_law_1098 dL_law_1099 dL_law_1100 dL_law_1101 dL_law_1103 dL_law_1104 dL_law_1105 dL_law_1110 (by decide) hl z1 z2 (by omega) (by omega) (fun H locs ls0 hP hD hS hl => ?_)
  exact W.widen (by omega) (by omega) (kk F1 ls1 f1 G1 sp1 cd1 ck1 H locs ls0 z3 hP hD hS hl)
