/-! THE START -/
def lc_cell (L : Nat) (xs : Nat → Int32) (k : Nat) : Int32 := if k < L then xs k else 0
set_option maxHeartbeats 4000000 in
set_option maxRecDepth 100000 in
theorem cL_cell_met (l : Launch) (b L sz : Nat) (xs : Nat → Int32) (k : Nat) (hL : L ≤ 1539) (hk : k ≤ 2) : Met l yL_cell wsL_cell ({ frames := 0, cells := 0, slots := 0, locals := 0 }) (va_Pc [.ref b, .int (nI k)] (fun U => U.heap.size = sz ∧ va_X b L xs U U.heap ∧ b < sz)) (va_Qi (fun (r : Int32) (_ : Unit) => r = lc_cell L xs k) (fun _ _ => True) (fun q => sz ≤ q)) 0 0 (fun q => sz ≤ q) := by
  refine Met.ofW (cc := cL_cell) (maxL := 2) (ret := (some .int)) (by decide) rfl ?_
  intro p e s m args below meth c s₁ B hml hv
  obtain ⟨rfl, hsz, hX, hbl⟩ := hv
  have hx := B.exec
  have hb := B.bytes
  have hr := B.returns
  have hlocks := B.notSynchronized
  subst hsz
  have hS : va_S (fun q : Nat => s.heap.size ≤ q) s.heap s.heap [] := va_S.rf
  have hbA : ¬ (fun q : Nat => s.heap.size ≤ q) b := Nat.not_le.mpr hbl
  have hl := lv_entry ([.ref b, .int (nI k)]) (n := 2) (Nat.le_of_ble_eq_true rfl)
  rw [lg_entry_eq]
  generalize (lg_sl ([.ref b, .int (nI k)]) ++ List.replicate (2 - (lg_sl ([.ref b, .int (nI k)])).length) Slot.unset).toArray = ls at hl ⊢
  have hl : lv_has ls 2 [(0, .ref b), (1, .int (nI k))] := hl
  refine lv_iload_n hx hb dL_cell_0 rfl (lv_at hl 1 rfl) ?_
  refine lv_aload_n hx hb dL_cell_1 rfl (lv_at hl 0 rfl) ?_
  refine va_slen hx hb hX hbl hbA hS dL_cell_2 ?_
  refine lv_icmp_ge (tgt := 12) hx hb dL_cell_3 (by decide) (fun c3 => ?_) (fun c3 => ?_)
  · have hge : L ≤ k := (nI_leI (by omega) (by omega)).mp (show nI L ≤ nI k from c3)
    refine lv_iconst (v := 0) hx hb dL_cell_12 (by decide) ?_
    exact W.iret hx hb hr (fun t ht hW => ⟨⟨0, (), rfl, (if_neg (by omega)).symm, trivial⟩, hS.F ht⟩) hS.2.2 dL_cell_13 hlocks
  · have hlt : k < L := by
      rcases Nat.lt_or_ge k L with q | q
      · exact q
      · exact absurd (show nI L ≤ nI k from nI_le q (by omega)) c3
    refine lv_aload_n hx hb dL_cell_6 rfl (lv_at hl 0 rfl) ?_
    refine lv_iload_n hx hb dL_cell_7 rfl (lv_at hl 1 rfl) ?_
    refine va_sld hx hb hX hbl hbA hS (vp_in_nI hlt (by omega)) dL_cell_8 ?_
    rw [nI_clamp (by omega)]
    refine lv_goto (tgt := 13) hx hb dL_cell_9 (by decide) ?_
    exact W.iret hx hb hr (fun t ht hW => ⟨⟨xs k, (), rfl, (if_pos hlt).symm, trivial⟩, hS.F ht⟩) hS.2.2 dL_cell_13 hlocks
section SCA
variable {p : Program} {l : Launch} {e : Env} {s : State} {m : MethodId} {below : List Frame} {meth : Method} {c : Code} {H : Heap} {locs : List Loc} {cells slots b L : Nat} {xs : Nat → Int32} {Q : State → Prop} {ls0 : Array Slot} {rest : List Value} {D : va_G} {ws : va_W}
set_option maxHeartbeats 4000000 in
set_option maxRecDepth 100000 in
/-- cell(script, k) in the law -/
theorem zs_cell {k : Nat} (t : Nat) (C : lc_C p s m c b L xs) (hP : va_P D vwCl ws H) (hS : va_S (lA s) s.heap H locs) (hk : k ≤ 2) {n : Int} (d0 : decode cL_law t = .ok (.aload_n 0, 1)) (d1 : decode cL_law (t + 1) = .ok (.iconst n, 1)) (hv : Int32.ofInt n = nI k) (d2 : decode cL_law (t + 2) = .ok (.invokestatic 68, 3)) (l0 : ls0[0]? = some (.val (.ref b))) (hsz : ls0.size = 7) (hW : 2 * (F0 m (t + 2) ls0 (.int (nI k) :: .ref b :: rest)).monitorRoom + (rest.map fun v => v.category).sum ≤ 8) (hc1 : cells ≤ 655402) (hs1 : slots ≤ 7129865)
    (kk : ∀ (H : Heap) (locs : List Loc), va_P D vwCl ws H → va_S (lA s) s.heap H locs → W p l e room_1 s m #[Value.ref b] below meth c H locs cells slots Q (F0 m (t + 5) ls0 (.int (lc_cell L xs k) :: rest))) : W p l e room_1 s m #[Value.ref b] below meth c H locs cells slots Q (F0 m t ls0 rest) := by
  obtain ⟨hx, hb, hml, hown, hts, hX, hbl, hL, -⟩ := C
  have hbA : ¬ lA s b := Nat.not_le.mpr hbl
  have hX1 : va_X b L xs s H := hX.kept (hS.2.1 b hbl hbA)
  have hblH : b < H.size := Nat.lt_of_lt_of_le hbl hS.1
  refine lv_aload_n hx hb d0 rfl l0 ?_
  refine lv_iconst (v := nI k) hx hb d1 hv ?_
  refine va_calli (A0 := lA s) (va_runS (As := [.ref b, .int (nI k)]) (rest := rest) ⟨hx, hb, hml, hown, hts⟩ (cL_cell_met l b L H.size xs k hL hk) (va_cwS 2 hts gL_law_L_cell rfl rfl rfl (by decide +kernel) ⟨(Nat.le_of_ble_eq_true rfl), (Nat.le_of_ble_eq_true rfl)⟩) ⟨fun a U g mk q => ⟨q.1, q.2.1, q.2.2.1.moved (u := U) (Vm.Alike.refl U.vm), q.2.2.2⟩, fun U hU hW9 => ⟨rfl, by rw [hU], by rw [hU]; exact hX1.moved hW9.alike, hblH⟩⟩ rfl rfl hsz rfl hW d2 ⟨(show cells + 0 ≤ 655402 by omega), (show slots + 0 ≤ 7129865 by omega)⟩) hS (fun q _ h => Nat.le_trans hS.1 h) (fun q h => Nat.le_trans hS.1 h) (fun r u t H1 locs1 ht hvm hw hB hz hk1 hS1 => ?_)
  subst hw
  exact kk H1 locs1 (hP.kept (fun k q hq => hk1 q.1 (vx_lt hP hq) (Nat.not_le.mpr (vx_lt hP hq)))) hS1
end SCA
theorem lc_str {args : Array Value} {s : State} {k : Nat} {tx : String} (h1 : (Cond.stringRef RX0 k tx).before args s = true) (h2 : (Cond.exactly (.string RX0 k) "java/lang/String").before args s = true) : ∃ sa, vk_R RX0 k tx sa s := by
  obtain ⟨a, c, cA, kA, q1, -⟩ := Cond.exactly_spec (args := args) (first := s) (o := none) (s := s) (idx := []) (t := .string RX0 k) (cls := "java/lang/String") h2
  exact ⟨a, vk_R.of h1 q1⟩
theorem lc_strs1 : ∀ q ∈ zx_strs, Cond.stringRef RX0 q.1 q.2 ∈ lw_tbl := by decide +kernel
theorem lc_strs2 : ∀ q ∈ zx_strs, Cond.exactly (.string RX0 q.1) "java/lang/String" ∈ flatC (Jvm.Cond.and given_1 narrow_1) := by decide +kernel
set_option maxHeartbeats 4000000 in
theorem lc_T {args : Array Value} {s : State} (hts : ∀ w ∈ lw_tbl, w.before args s = true) (hgv : (Jvm.Cond.and given_1 narrow_1).before args s = true) : zx_T (lA s) s ∧ zl_N s := by
  have hg := flat_of_before _ hgv
  have hA : ∀ a : Nat, a < s.heap.size → ¬ lA s a := fun a h => Nat.not_le.mpr h
  refine ⟨⟨vx_Zqof (hts _ (by decide +kernel)) (hts _ (by decide +kernel)) (hg _ (by decide +kernel)) hA, vx_Zqof (hts _ (by decide +kernel)) (hts _ (by decide +kernel)) (hg _ (by decide +kernel)) hA, fun q hq => lc_str (hts _ (lc_strs1 q hq)) (hg _ (lc_strs2 q hq)), va_Nw.of rfl (hts _ (by decide +kernel)), va_Nw.of rfl (hts _ (by decide +kernel)), va_Nw.of rfl (hts _ (by decide +kernel)), va_Nw.of rfl (hts _ (by decide +kernel)), va_Nw.of rfl (hts _ (by decide +kernel)), va_Nw.of rfl (hts _ (by decide +kernel)), va_Nw.of rfl (hts _ (by decide +kernel))⟩, va_Nc.of (hg _ (by decide +kernel)), va_Nc.of (hg _ (by decide +kernel)), va_Nc.of (hg _ (by decide +kernel)), va_Nc.of (hg _ (by decide +kernel)), va_Nc.of (hg _ (by decide +kernel)), va_Nc.of (hg _ (by decide +kernel))⟩
set_option maxHeartbeats 8000000 in
set_option maxRecDepth 100000 in
/-- THE LAW, from its entry -/
theorem whole_start {p : Program} {e : Env} {s : State} {m : MethodId} {below : List Frame} {meth : Method} {c : Code} (l : Launch) (hlT : l.stackTraces = false) {b L : Nat} {xs : Nat → Int32} (hL : L ≤ 1539) (C0 : lw_At p s m meth c b L xs) : W p l e room_1 s m #[Value.ref b] below meth c s.heap [] 0 0 (lw_Z below #[Value.ref b] s) (entryFrame m ([Value.ref b] : List Value).toArray 7) := by
  obtain ⟨hx, hb, hr, hml, hown, hts0, hX, hbl, hlocks, hgv⟩ := C0
  obtain ⟨hT, hN⟩ := lc_T hts0 hgv
  have hts : ∀ w ∈ wsL_law, w.before #[Value.ref b] s = true := fun w h => hts0 w (wsL_law_in w h)
  have C : lc_C p s m c b L xs := ⟨hx, hb, hml, hown, hts, hX, hbl, hL, hT, hN⟩
  have hA : ∀ q : Nat, s.heap.size ≤ q → lA s q := fun _ h => h
  obtain ⟨c0, iS0, hKn0⟩ := u_known (C := RX0) (T := TX0) (N := 13) (n := 13) hts inlX0 (hts (.instantiable RX0 13) (by decide +kernel))
  obtain ⟨c1, iS1, hKn1⟩ := u_known (C := RX1) (T := TX1) (N := 17) (n := 17) hts inlX1 (hts (.instantiable RX1 17) (by decide +kernel))
  obtain ⟨D, hKc⟩ : ∃ D : va_G, ∀ (k : Nat) (q : vw_C), vwCl[k]? = some q → u_Kn s q.1 q.2.1 q.2.2 (D.1 k) (D.2 k) := by
    refine ⟨(fun k => if k = 0 then c0 else c1, fun k => if k = 0 then iS0 else iS1), ?_⟩
    intro k q hq
    match k, hq with
    | 0, hq => cases hq; exact hKn0
    | 1, hq => cases hq; exact hKn1
    | k + 2, hq => simp [vwCl] at hq
  have hS : va_S (lA s) s.heap s.heap [] := va_S.rf
  have hK : va_K D vwCl [] s := ⟨hKc, fun k q h => by simp at h⟩
  have hP : va_P D vwCl [] s.heap := fun k q h => by simp at h
  have hD : va_D (lA s) [] := ⟨fun i j p q h => by simp at h, fun k q h => by simp at h⟩
  have hl := lv_entry ([.ref b]) (n := 7) (Nat.le_of_ble_eq_true rfl)
  rw [lg_entry_eq]
  generalize (lg_sl ([.ref b]) ++ List.replicate (7 - (lg_sl ([.ref b])).length) Slot.unset).toArray = ls0 at hl ⊢
  have hl : lv_has ls0 7 [(0, .ref b)] := hl
  refine va_new (ci := 0) (fs := [.null, .null, .null, .null, .null, .null, .null, .null, .null, .null, .null, .null, .int 0]) (C := RX0) (T := TX0) (N := 13) hx hb hts inlX0 tyX0 tyX0_ok hown (hts (.classLink RL 8 RX0) (by decide +kernel)) (hts (.instantiable RX0 13) (by decide +kernel)) (hts (.initialized RX0) (by decide +kernel)) hK hP hD hS hA rfl (fun j hj => by rcases (show j = 0 ∨ j = 1 ∨ j = 2 ∨ j = 3 ∨ j = 4 ∨ j = 5 ∨ j = 6 ∨ j = 7 ∨ j = 8 ∨ j = 9 ∨ j = 10 ∨ j = 11 ∨ j = 12 by omega) with rfl | rfl | rfl | rfl | rfl | rfl | rfl | rfl | rfl | rfl | rfl | rfl | rfl <;> rfl) (Nat.le_of_ble_eq_true rfl) (Nat.le_of_ble_eq_true rfl) dL_law_0 (fun q0 H hP hD hS => ?_)
  have hP : va_P D vwCl [(q0, .inr (0, [.null, .null, .null, .null, .null, .null, .null, .null, .null, .null, .null, .null, .int 0]))] H := hP
  have hD : va_D (lA s) [(q0, .inr (0, [.null, .null, .null, .null, .null, .null, .null, .null, .null, .null, .null, .null, .int 0]))] := hD
  refine lv_dup hx hb dL_law_3 rfl ?_
  refine zs_cell (k := 0) 4 C hP hS (by decide) dL_law_4 dL_law_5 (by decide) dL_law_6 (lv_at hl 0 rfl) hl.1 (lv_room (Nat.le_of_ble_eq_true rfl)) (by decide) (by decide) (fun H locs hP hS => ?_)
  refine zs_cell (k := 1) 9 C hP hS (by decide) dL_law_9 dL_law_10 (by decide) dL_law_11 (lv_at hl 0 rfl) hl.1 (lv_room (Nat.le_of_ble_eq_true rfl)) (by decide) (by decide) (fun H locs hP hS => ?_)
  refine zs_cell (k := 2) 14 C hP hS (by decide) dL_law_14 dL_law_15 (by decide) dL_law_16 (lv_at hl 0 rfl) hl.1 (lv_room (Nat.le_of_ble_eq_true rfl)) (by decide) (by decide) (fun H locs hP hS => ?_)
  have hFc := zz_sub hD hA hS
  refine va_callv (va_runI (As := [.int (lc_cell L xs 0), .int (lc_cell L xs 1), .int (lc_cell L xs 2)]) (rest := [.ref q0]) ⟨hx, hb, hml, hown, hts⟩ (cX_init l D q0 H.size (lc_cell L xs 0) (lc_cell L xs 1) (lc_cell L xs 2) (pq_cut (lc_cell L xs 0)) (pq_cut (lc_cell L xs 1)) (pq_cut (lc_cell L xs 2)) rfl rfl rfl) (cwI 3 hts gL_law_X0_init rfl rfl rfl (hts (.initialized RX0) (by decide +kernel)) (hts (.methodLink RL 74 yX0_init) (by decide +kernel)) (hts (.instanceMethod yX0_init) (by decide +kernel)) rfl (by decide +kernel) ⟨(Nat.le_of_ble_eq_true rfl), (Nat.le_of_ble_eq_true rfl)⟩) (zz_pS hP hK hD) rfl rfl hl.1 rfl (lv_room (Nat.le_of_ble_eq_true rfl)) dL_law_19 ⟨(Nat.le_of_ble_eq_true rfl), (Nat.le_of_ble_eq_true rfl)⟩) hS (fun q _ h => hFc q h) hFc (fun u t H1 locs ht hvm hw hB hz1 hk1 hS => ?_)
  obtain ⟨a, cA, F, ls⟩ := u
  obtain ⟨hP1, hK1, hD1⟩ := hB
  rw [ht] at hP1
  have hwX : xs_new (pq_cut (lc_cell L xs 0)) (pq_cut (lc_cell L xs 1)) (pq_cut (lc_cell L xs 2)) F ∧ ls = 0 := hw
  clear hP hD hK hw
  have hP : va_P D vwCl (xW q0 a cA (pq_cut (lc_cell L xs 0)) (pq_cut (lc_cell L xs 1)) (pq_cut (lc_cell L xs 2)) F ls) H1 := hP1
  have hD : va_D (lA s) (xW q0 a cA (pq_cut (lc_cell L xs 0)) (pq_cut (lc_cell L xs 1)) (pq_cut (lc_cell L xs 2)) F ls) := hD1.weaken (fun _ q _ h => hFc q.1 h)
  have hK : va_K D vwCl (xT cA) s := va_K.moved hvm.symm hK1
  clear hP1 hD1 hK1 hFc hk1
  refine lv_astore_n (lv' := [(1, .ref q0), (0, .ref b)]) hx hb dL_law_22 rfl hl (by decide) rfl (fun ls0 hl => ?_)
  refine va_new (ci := 1) (fs := [.int 0, .int 0, .int 0, .int 0, .long 0, .null, .null, .null, .null, .null, .null, .null, .null, .null, .null, .null, .null]) (C := RX1) (T := TX1) (N := 17) hx hb hts inlX1 tyX1 tyX1_ok hown (hts (.classLink RL 77 RX1) (by decide +kernel)) (hts (.instantiable RX1 17) (by decide +kernel)) (hts (.initialized RX1) (by decide +kernel)) hK hP hD hS hA rfl (fun j hj => by rcases (show j = 0 ∨ j = 1 ∨ j = 2 ∨ j = 3 ∨ j = 4 ∨ j = 5 ∨ j = 6 ∨ j = 7 ∨ j = 8 ∨ j = 9 ∨ j = 10 ∨ j = 11 ∨ j = 12 ∨ j = 13 ∨ j = 14 ∨ j = 15 ∨ j = 16 by omega) with rfl | rfl | rfl | rfl | rfl | rfl | rfl | rfl | rfl | rfl | rfl | rfl | rfl | rfl | rfl | rfl | rfl <;> rfl) (Nat.le_of_ble_eq_true rfl) (Nat.le_of_ble_eq_true rfl) dL_law_23 (fun q1 H hP hD hS => ?_)
  refine lv_dup hx hb dL_law_26 rfl ?_
  refine zs_cell (k := 0) 27 C hP hS (by decide) dL_law_27 dL_law_28 (by decide) dL_law_29 (lv_at hl 1 rfl) hl.1 (lv_room (Nat.le_of_ble_eq_true rfl)) (by decide) (by decide) (fun H locs hP hS => ?_)
  refine zs_cell (k := 1) 32 C hP hS (by decide) dL_law_32 dL_law_33 (by decide) dL_law_34 (lv_at hl 1 rfl) hl.1 (lv_room (Nat.le_of_ble_eq_true rfl)) (by decide) (by decide) (fun H locs hP hS => ?_)
  refine zs_cell (k := 2) 37 C hP hS (by decide) dL_law_37 dL_law_38 (by decide) dL_law_39 (lv_at hl 1 rfl) hl.1 (lv_room (Nat.le_of_ble_eq_true rfl)) (by decide) (by decide) (fun H locs hP hS => ?_)
  have hPc := hP.sub (ws' := [(q1, .inr (1, [.int 0, .int 0, .int 0, .int 0, .long 0, .null, .null, .null, .null, .null, .null, .null, .null, .null, .null, .null, .null]))]) [13] rfl
  have hDc := hD.sub (ws' := [(q1, .inr (1, [.int 0, .int 0, .int 0, .int 0, .long 0, .null, .null, .null, .null, .null, .null, .null, .null, .null, .null, .null, .null]))]) [13] (by decide) rfl
  have hKe : va_K D vwCl [] s := hK.sub [] rfl
  have hFc := va_free (wc := [(q1, .inr (1, [.int 0, .int 0, .int 0, .int 0, .long 0, .null, .null, .null, .null, .null, .null, .null, .null, .null, .null, .null, .null]))]) hD hS hA [13] rfl
  refine va_callv (va_runI (As := [.int (lc_cell L xs 0), .int (lc_cell L xs 1), .int (lc_cell L xs 2)]) (rest := [.ref q1]) ⟨hx, hb, hml, hown, hts⟩ (cM_init l D q1 H.size (lc_cell L xs 0) (lc_cell L xs 1) (lc_cell L xs 2) (pq_cut (lc_cell L xs 0)) (pq_cut (lc_cell L xs 1)) (pq_cut (lc_cell L xs 2)) rfl rfl rfl) (cwI 3 hts gL_law_X1_init rfl rfl rfl (hts (.initialized RX1) (by decide +kernel)) (hts (.methodLink RL 79 yX1_init) (by decide +kernel)) (hts (.instanceMethod yX1_init) (by decide +kernel)) rfl (by decide +kernel) ⟨(Nat.le_of_ble_eq_true rfl), (Nat.le_of_ble_eq_true rfl)⟩) (zz_pS hPc hKe hDc) rfl rfl hl.1 rfl (lv_room (Nat.le_of_ble_eq_true rfl)) dL_law_42 ⟨(Nat.le_of_ble_eq_true rfl), (Nat.le_of_ble_eq_true rfl)⟩) hS (fun q _ h => hFc q h) hFc (fun u t H1 locs ht hvm hw hB hz1 hk1 hS => ?_)
  obtain ⟨am, cm, G, sp, cd, ck⟩ := u
  obtain ⟨hP1, hK1, hD1⟩ := hB
  rw [ht] at hP1
  have hwM : ms_new G ∧ cd = 0 ∧ ck = 0 := hw
  obtain ⟨hP, hD⟩ := va_join (wr := xW q0 a cA (pq_cut (lc_cell L xs 0)) (pq_cut (lc_cell L xs 1)) (pq_cut (lc_cell L xs 2)) F ls) (w1 := mW q1 am cm (pq_cut (lc_cell L xs 0)) (pq_cut (lc_cell L xs 1)) (pq_cut (lc_cell L xs 2)) G sp cd ck) hP hD [13] [0, 1, 2, 3, 4, 5, 6, 7, 8, 9, 10, 11, 12] rfl rfl (by decide) (by decide) hk1 hFc hP1 hD1
  have hK := hK.app (va_K.moved hvm.symm hK1)
  clear hPc hDc hKe hFc hP1 hK1 hD1 hk1 hw
  refine lv_astore_n (lv' := [(2, .ref q1), (1, .ref q0), (0, .ref b)]) hx hb dL_law_45 rfl hl (by decide) rfl (fun ls0 hl => ?_)
  refine lv_iconst (v := nI 1) hx hb dL_law_46 (by decide) ?_
  refine va_newa (atype := .long) (n := nI 1) (ty := .long) (N' := 1) (a0 := (1, .inr (.inl (fun _ => 0)))) hx hb (hts (.arrayClass .long) (by decide +kernel)) rfl hK hP hD hS hA (fun _ => rfl) (nI_pos (by decide)) (nI_clamp (by decide)) (by decide) (Nat.le_of_ble_eq_true rfl) (Nat.le_of_ble_eq_true rfl) dL_law_47 (fun o co H hK hP hD hS => ?_)
  refine lv_astore_n (lv' := [(3, .ref o), (2, .ref q1), (1, .ref q0), (0, .ref b)]) hx hb dL_law_49 rfl hl (by decide) rfl (fun ls0 hl => ?_)
  refine lv_iconst (v := nI (3 + 3 * 0)) hx hb dL_law_50 (by decide) ?_
  refine lv_istore (lv' := [(4, .int (nI (3 + 3 * 0))), (3, .ref o), (2, .ref q1), (1, .ref q0), (0, .ref b)]) hx hb dL_law_51 hl (by decide) rfl (fun ls0 hl => ?_)
  have hn : pq_cut (lc_cell L xs 0) ≤ 8 ∧ pq_cut (lc_cell L xs 1) ≤ 8 ∧ pq_cut (lc_cell L xs 2) ≤ 8 := ⟨pq_cut_le _, pq_cut_le _, pq_cut_le _⟩
  have hP := hP.sub (ws' := lW q0 a cA q1 am cm o co (pq_cut (lc_cell L xs 0)) (pq_cut (lc_cell L xs 1)) (pq_cut (lc_cell L xs 2)) F ls (fun _ => 0) G sp cd ck) [26, 0, 1, 2, 3, 4, 5, 6, 7, 8, 9, 10, 11, 12, 13, 14, 15, 16, 17, 18, 19, 20, 21, 22, 23, 24, 25] rfl
  have hD := hD.sub (ws' := lW q0 a cA q1 am cm o co (pq_cut (lc_cell L xs 0)) (pq_cut (lc_cell L xs 1)) (pq_cut (lc_cell L xs 2)) F ls (fun _ => 0) G sp cd ck) [26, 0, 1, 2, 3, 4, 5, 6, 7, 8, 9, 10, 11, 12, 13, 14, 15, 16, 17, 18, 19, 20, 21, 22, 23, 24, 25] (by decide) rfl
  have hK := hK.sub (tys' := lT cA cm co) [24, 0, 1, 2, 3, 4, 5, 6, 7, 8, 9, 10, 11, 12, 13, 14, 15, 16, 17, 18, 19, 20, 21, 22, 23] rfl
  refine W.widen (k := 27) (n := 400) (by decide) (by decide) ?_
  exact law_loop hlT C hr hlocks hn hK (L + 1) 0 0 27 400 F ls (fun _ => 0) G sp cd ck H locs ls0 (Nat.zero_le _) (by omega) (by omega) (by omega) (by omega) (cs_new hwX.1 hwX.2 hwM.1 hwM.2.2 hn.1 hn.2.2 hn.2.1) hP hD hS (lv_sub hl [4, 3, 2, 1, 0] rfl)
