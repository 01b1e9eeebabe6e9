/-! ROWS OF THE LAW: its world is the out cell, X's cells and M's; an int of the script; what it does behind each pair of calls -/
abbrev lA (s : State) : Nat → Prop := fun q => s.heap.size ≤ q
def lc_C (p : Program) (s : State) (m : MethodId) (c : Code) (b L : Nat) (xs : Nat → Int32) : Prop :=
  p.tables.exec = Jvm.exec ∧ c.code = cL_law ∧ c.maxLocals = 7 ∧ s.vm.findClass RL = some m.cls ∧ (∀ w ∈ wsL_law, w.before #[Value.ref b] s = true) ∧ va_X b L xs s s.heap ∧ b < s.heap.size ∧ L ≤ 1539 ∧ zx_T (lA s) s ∧ zl_N s
abbrev lW (h : Nat) (a : Nat → Nat) (cA : Nat → ClassId) (hm : Nat) (am : Nat → Nat) (cm : Nat → ClassId) (o : Nat) (co : ClassId) (nL nC nB : Nat) (F : Nat → Nat → Int32) (ls : Int32) (f : Nat → Int64) (G : Nat → Nat → Int32) (sp : Nat → Int64) (cd : Int32) (ck : Int64) : va_W :=
  oE o co f :: (xW h a cA nL nC nB F ls ++ mW hm am cm nL nC nB G sp cd ck)
abbrev lT (cA cm : Nat → ClassId) (co : ClassId) : List (ClassId × FieldType) := (co, .long) :: (xT cA ++ mT cm)
theorem lc_cmp {r b : Int32} (h : r = b) : r.toInt64 = b.toInt64 := by rw [h]
/-- what the two sides' answers come to -/
theorem lc_fin {nL nC nB n n' : Nat} {F : Nat → Nat → Int32} {ls : Int32} {f : Nat → Int64} {po : Int32 → xS → Prop} {xp : String → Prop} {lk : String → Int32} {r b : Int32} {u : xS × (Nat → Int64)} {v : mS} (hn : n ≤ n') (h : zl_post F ls f po xp lk r u) (hX : ∀ E, xp E → cs_X nL nC nB n F ls (lk E) v) (hR : ∀ v0, po v0 u.1 → cs_R nL nC nB n' v0 b u.1 v) :
    v.2.2.1 = r ∧ (r = 0 → u.2 0 = b.toInt64) ∧ cp nL nC nB n' u.1.1 u.1.2 v.1 v.2.1 v.2.2.2 := by
  rcases h with ⟨rfl, v0, h0, hp⟩ | ⟨E, rfl, hx, rfl⟩
  · obtain ⟨a1, a2, a3⟩ := hR v0 hp
    exact ⟨a1, fun _ => by rw [h0, a2], a3⟩
  · obtain ⟨a1, a2, a3⟩ := hX E hx
    exact ⟨a1, fun q => absurd q a2, a3.more hn⟩
section LWA
variable {p : Program} {l : Launch} {e : Env} {s : State} {m : MethodId} {below : List Frame} {meth : Method} {c : Code} {H : Heap} {locs : List Loc} {cells slots b L i : Nat} {xs : Nat → Int32} {Q : State → Prop} {ls0 : Array Slot} {rest : List Value} {D : va_G} {h : Nat} {a : Nat → Nat} {cA : Nat → ClassId} {hm : Nat} {am : Nat → Nat} {cm : Nat → ClassId} {o : Nat} {co : ClassId} {nL nC nB : Nat} {F : Nat → Nat → Int32} {ls : Int32} {f : Nat → Int64} {G : Nat → Nat → Int32} {sp : Nat → Int64} {cd : Int32} {ck : Int64}
theorem zs_ld {k : Nat} (t : Nat) (C : lc_C p s m c b L xs) (hS : va_S (lA s) s.heap H locs) (hk : i + k < L) {n : Int} (d0 : decode cL_law t = .ok (.aload_n 0, 1)) (d1 : decode cL_law (t + 1) = .ok (.iload 4, 2)) (d3 : decode cL_law (t + 3) = .ok (.iconst n, 1)) (hv : Int32.ofInt n = nI k) (d4 : decode cL_law (t + 4) = .ok (.iadd, 1)) (d5 : decode cL_law (t + 5) = .ok (.iaload, 1)) (l0 : ls0[0]? = some (.val (.ref b))) (l4 : ls0[4]? = some (.val (.int (nI i))))
    (kk : W p l e room_1 s m #[Value.ref b] below meth c H locs cells slots Q (F0 m (t + 6) ls0 (.int (xs (i + k)) :: rest))) : W p l e room_1 s m #[Value.ref b] below meth c H locs cells slots Q (F0 m t ls0 rest) := by
  obtain ⟨hx, hb, hml, hown, hts, hX, hbl, hL, -⟩ := C
  have hbA : ¬ lA s b := Nat.not_le.mpr hbl
  refine lv_aload_n hx hb d0 rfl l0 ?_
  refine lv_iload hx hb d1 l4 ?_
  refine lv_iconst (v := nI k) hx hb d3 hv ?_
  refine lv_iadd hx hb d4 ?_
  refine zz_top (nI_add i k) ?_
  refine va_sld hx hb hX hbl hbA hS (vp_in_nI hk (by omega)) d5 ?_
  rw [nI_clamp (by omega)]
  exact kk
set_option maxHeartbeats 4000000 in
set_option maxRecDepth 100000 in
theorem zs_tail (t : Nat) {off : Int} {bb k : Int32} (C : lc_C p s m c b L xs) (hn : nL ≤ 8 ∧ nC ≤ 8 ∧ nB ≤ 8) (hK : va_K D vwCl (lT cA cm co) s) (hP : va_P D vwCl (lW h a cA hm am cm o co nL nC nB F ls f G sp cd ck) H) (hD : va_D (lA s) (lW h a cA hm am cm o co nL nC nB F ls f G sp cd ck)) (hS : va_S (lA s) s.heap H locs)
    (d0 : decode cL_law t = .ok (.aload_n 2, 1)) (d1 : decode cL_law (t + 1) = .ok (.invokevirtual 84, 3)) (d4 : decode cL_law (t + 4) = .ok (.iload 5, 2)) (d6 : decode cL_law (t + 6) = .ok (.if_icmp .eq 5, 3)) (d11 : decode cL_law (t + 11) = .ok (.iload 5, 2)) (d13 : decode cL_law (t + 13) = .ok (.ifCond .ne 15, 3)) (d16 : decode cL_law (t + 16) = .ok (.aload_n 3, 1)) (d17 : decode cL_law (t + 17) = .ok (.iconst 0, 1)) (d18 : decode cL_law (t + 18) = .ok (.laload, 1)) (d19 : decode cL_law (t + 19) = .ok (.iload 6, 2)) (d21 : decode cL_law (t + 21) = .ok (.i2l, 1)) (d22 : decode cL_law (t + 22) = .ok (.lcmp, 1)) (d23 : decode cL_law (t + 23) = .ok (.ifCond .eq 5, 3)) (d28 : decode cL_law (t + 28) = .ok (.goto off, 3)) (hoff : ((t + 28 : Nat) : Int) + off = ((1124 : Nat) : Int))
    (hl : lv_has ls0 7 [(6, .int bb), (5, .int k), (0, .ref b), (1, .ref h), (2, .ref hm), (3, .ref o), (4, .int (nI i))]) (hcd : cd = k) (hout : k = 0 → f 0 = bb.toInt64) (hc1 : cells ≤ 655402) (hs1 : slots ≤ 7129865)
    (kk : ∀ (H : Heap) (locs : List Loc) (ls0 : Array Slot), va_P D vwCl (lW h a cA hm am cm o co nL nC nB F ls f G sp cd ck) H → va_D (lA s) (lW h a cA hm am cm o co nL nC nB F ls f G sp cd ck) → va_S (lA s) s.heap H locs → lv_has ls0 7 [(0, .ref b), (1, .ref h), (2, .ref hm), (3, .ref o), (4, .int (nI i))] → W p l e room_1 s m #[Value.ref b] below meth c H locs cells slots Q (F0 m 1124 ls0 [])) :
    W p l e room_1 s m #[Value.ref b] below meth c H locs cells slots Q (F0 m t ls0 []) := by
  obtain ⟨hx, hb, hml, hown, hts, hX, hbl, hL, hT, hN⟩ := C
  have hA : ∀ q : Nat, s.heap.size ≤ q → lA s q := fun _ h => h
  have hend : ∀ (H : Heap) (locs : List Loc), va_P D vwCl (lW h a cA hm am cm o co nL nC nB F ls f G sp cd ck) H → va_D (lA s) (lW h a cA hm am cm o co nL nC nB F ls f G sp cd ck) → va_S (lA s) s.heap H locs → W p l e room_1 s m #[Value.ref b] below meth c H locs cells slots Q (F0 m (t + 28) ls0 []) := fun H locs hP hD hS =>
    lv_goto (tgt := 1124) hx hb d28 hoff (kk H locs ls0 hP hD hS (lv_sub hl [2, 3, 4, 5, 6] rfl))
  refine lv_aload_n hx hb d0 rfl (lv_at hl 4 rfl) ?_
  have hPc := hP.sub (ws' := mW hm am cm nL nC nB G sp cd ck) [14, 15, 16, 17, 18, 19, 20, 21, 22, 23, 24, 25, 26] rfl
  have hDc := hD.sub (ws' := mW hm am cm nL nC nB G sp cd ck) [14, 15, 16, 17, 18, 19, 20, 21, 22, 23, 24, 25, 26] (by decide) rfl
  have hKc := hK.sub (tys' := mT cm) [13, 14, 15, 16, 17, 18, 19, 20, 21, 22, 23, 24] rfl
  refine zz_pi (wr := oE o co f :: xW h a cA nL nC nB F ls) (va_runV (As := []) (rest := []) ⟨hx, hb, hml, hown, hts⟩ (cM_thrown l D hm am cm nL nC nB H.size hn G sp cd ck) (cwV 0 hts gL_law_X1_thrown rfl rfl rfl (by decide +kernel) ⟨(Nat.le_of_ble_eq_true rfl), (Nat.le_of_ble_eq_true rfl)⟩) (zz_pV hPc hKc hDc (va_recv hKc hPc (ci := 1) (q0 := 0) rfl rfl)) rfl rfl hl.1 rfl (lv_room (Nat.le_of_ble_eq_true rfl)) d1 ⟨(show cells + 0 ≤ 655402 by omega), (show slots + 0 ≤ 7129865 by omega)⟩) hP hD hS hA [14, 15, 16, 17, 18, 19, 20, 21, 22, 23, 24, 25, 26] [0, 1, 2, 3, 4, 5, 6, 7, 8, 9, 10, 11, 12, 13] rfl rfl (by decide) (by decide) (fun r u H locs hr hP hD hS => ?_)
  subst hr
  refine lv_iload hx hb d4 (lv_at hl 1 rfl) ?_
  refine lv_icmp_eq (tgt := t + 11) hx hb d6 (by omega) (fun _ => ?_) (fun q => absurd hcd q)
  refine lv_iload hx hb d11 (lv_at hl 1 rfl) ?_
  refine lv_if_ne (tgt := t + 28) hx hb d13 (by omega) (fun _ => hend H locs hP hD hS) (fun q => ?_)
  have q0 : k = 0 := q
  refine lv_aload_n hx hb d16 rfl (lv_at hl 5 rfl) ?_
  refine lv_iconst (v := 0) hx hb d17 (by decide) ?_
  refine zz_lald (i := 0) hx hb hK hP 0 0 rfl rfl (by decide) (by decide) d18 ?_
  refine lv_iload hx hb d19 (lv_at hl 0 rfl) ?_
  refine lv_i2l (v := bb.toInt64) hx hb d21 rfl ?_
  refine W.lcmp hx hb d22 ?_
  rw [hout q0]
  refine zz_top (y := 0) (by simp [lg_cmp]) ?_
  refine lv_if_eq (tgt := t + 28) hx hb d23 (by omega) (fun _ => hend H locs hP hD hS) (fun q => absurd rfl q)
end LWA
