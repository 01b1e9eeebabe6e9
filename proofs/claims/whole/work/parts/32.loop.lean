set_option maxHeartbeats 4000000 in
set_option maxRecDepth 100000 in
/-- THE LAW'S LOOP: at its head, behind j calls, X and M hold the same -/
theorem law_loop {p : Program} {l : Launch} (hlT : l.stackTraces = false) {e : Env} {s : State} {m : MethodId} {below : List Frame} {meth : Method} {c : Code} {b L : Nat} {xs : Nat → Int32} {D : va_G} {h : Nat} {a : Nat → Nat} {cA : Nat → ClassId} {hm : Nat} {am : Nat → Nat} {cm : Nat → ClassId} {o : Nat} {co : ClassId} {nL nC nB : Nat} (C : lc_C p s m c b L xs) (hr : meth.sig.returnType = ret) (hlocks : meth.locks = false) (hn : nL ≤ 8 ∧ nC ≤ 8 ∧ nB ≤ 8) (hK : va_K D vwCl (lT cA cm co) s) :
    ∀ (fu j n cells slots : Nat) (F : Nat → Nat → Int32) (ls : Int32) (f : Nat → Int64) (G : Nat → Nat → Int32) (sp : Nat → Int64) (cd : Int32) (ck : Int64) (H : Heap) (locs : List Loc) (ls0 : Array Slot), 3 * j ≤ L → L + 1 ≤ 3 * j + fu → n ≤ 16 * j → cells ≤ 27 + 4 * j → slots ≤ 400 + 24 * j → cp nL nC nB n F ls G sp ck → va_P D vwCl (lW h a cA hm am cm o co nL nC nB F ls f G sp cd ck) H → va_D (lA s) (lW h a cA hm am cm o co nL nC nB F ls f G sp cd ck) → va_S (lA s) s.heap H locs → lv_has ls0 7 [(0, .ref b), (1, .ref h), (2, .ref hm), (3, .ref o), (4, .int (nI (3 + 3 * j)))] → W p l e room_1 s m #[Value.ref b] below meth c H locs cells slots (lw_Z below #[Value.ref b] s) (F0 m 53 ls0 []) := by
  obtain ⟨hx, hb, hml, hown, hts, hX, hbl, hL, hT, hN⟩ := id C
  have hA : ∀ q : Nat, s.heap.size ≤ q → lA s q := fun _ h => h
  have hbA : ¬ lA s b := Nat.not_le.mpr hbl
  intro fu
  induction fu with
  | zero =>
    intro j n cells slots F ls f G sp cd ck H locs ls0 h1 h2
    exact absurd h2 (by omega)
  | succ fu ih =>
    intro j n cells slots F ls f G sp cd ck H locs ls0 hj hfu hnj hc1 hs1 hcp hP hD hS hl
    refine lv_iload hx hb dL_law_53 (lv_at hl 4 rfl) ?_
    refine lv_aload_n hx hb dL_law_55 rfl (lv_at hl 0 rfl) ?_
    refine va_slen hx hb hX hbl hbA hS dL_law_56 ?_
    refine lv_iconst (v := nI 3) hx hb dL_law_57 (by decide) ?_
    refine lv_isub hx hb dL_law_58 ?_
    refine lv_icmp_gt (tgt := 1130) hx hb dL_law_59 (by decide) (fun c59 => ?_) (fun c59 => ?_)
    · refine lv_iconst (v := 1) hx hb dL_law_1130 (by decide) ?_
      refine va_forget (fun q hq => hS.2.2 q hq) ?_
      refine W.widen (k := 655402) (n := 7129865) (by omega) (by omega) ?_
      exact lw_ret hx hb hr hlocks dL_law_1131
    · have hlt : 3 + 3 * j + 2 < L := by
        have e1 : (nI L - nI 3).toInt = (L : Int) - 3 := pk_sub_toInt (by omega) (by decide)
        have e2 : (nI (3 + 3 * j)).toInt = ((3 + 3 * j : Nat) : Int) := nI_toInt (by omega)
        have c59 : ¬ (nI L - nI 3) < nI (3 + 3 * j) := c59
        rw [Int32.lt_iff_toInt_lt, e1, e2] at c59
        omega
      have hback : ∀ (F : Nat → Nat → Int32) (ls : Int32) (f : Nat → Int64) (G : Nat → Nat → Int32) (sp : Nat → Int64) (cd : Int32) (ck : Int64) (H : Heap) (locs : List Loc) (ls0 : Array Slot), cp nL nC nB (n + 16) F ls G sp ck → va_P D vwCl (lW h a cA hm am cm o co nL nC nB F ls f G sp cd ck) H → va_D (lA s) (lW h a cA hm am cm o co nL nC nB F ls f G sp cd ck) → va_S (lA s) s.heap H locs → lv_has ls0 7 [(0, .ref b), (1, .ref h), (2, .ref hm), (3, .ref o), (4, .int (nI (3 + 3 * j)))] → W p l e room_1 s m #[Value.ref b] below meth c H locs (cells + 4) (slots + 24) (lw_Z below #[Value.ref b] s) (F0 m 1124 ls0 []) := by
        intro F ls f G sp cd ck H locs ls0 hcp hP hD hS hl
        refine lv_iinc (v := nI (3 + 3 * (j + 1))) (lv' := [(4, .int (nI (3 + 3 * (j + 1)))), (0, .ref b), (1, .ref h), (2, .ref hm), (3, .ref o)]) hx hb dL_law_1124 hl (k := 4) rfl (nI_add (3 + 3 * j) 3) (by decide) rfl (fun ls0 hl => ?_)
        refine lv_goto (tgt := 53) hx hb dL_law_1127 (by decide) ?_
        exact ih (j + 1) (n + 16) (cells + 4) (slots + 24) F ls f G sp cd ck H locs ls0 (by omega) (by omega) (by omega) (by omega) (by omega) hcp hP hD hS (lv_sub hl [1, 2, 3, 4, 0] rfl)
      refine lv_aload_n hx hb dL_law_62 rfl (lv_at hl 0 rfl) ?_
      refine lv_iload hx hb dL_law_63 (lv_at hl 4 rfl) ?_
      refine va_sld hx hb hX hbl hbA hS (vp_in_nI (show 3 + 3 * j < L by omega) (by omega)) dL_law_65 ?_
      refine lv_bipush (v := 31) hx hb dL_law_66 (by decide) ?_
      refine lv_iand hx hb dL_law_68 ?_
      obtain ⟨jj, hjj, ejj⟩ := pk_andE (xs (nI (3 + 3 * j)).toNatClampNeg) (m := 31) 5 (by decide)
      refine zz_top ejj ?_
      have a1 : n + 16 < 2 ^ 30 := by omega
      have a2 : cells + 4 ≤ 655402 := by omega
      have a3 : slots + 24 ≤ 7129865 := by omega
      by_cases h18 : 18 ≤ jj
      · refine lv_tableOut (tgt := 1124) hx hb dL_law_69 (Or.inr (by rw [nI_toInt (by omega)]; omega)) (by decide) ?_
        exact W.widen (by omega) (by omega) (hback F ls f G sp cd ck H locs ls0 (hcp.more (by omega)) hP hD hS hl)
      · clear ejj
        rcases (show jj = 0 ∨ jj = 1 ∨ jj = 2 ∨ jj = 3 ∨ jj = 4 ∨ jj = 5 ∨ jj = 6 ∨ jj = 7 ∨ jj = 8 ∨ jj = 9 ∨ jj = 10 ∨ jj = 11 ∨ jj = 12 ∨ jj = 13 ∨ jj = 14 ∨ jj = 15 ∨ jj = 16 ∨ jj = 17 by omega) with rfl | rfl | rfl | rfl | rfl | rfl | rfl | rfl | rfl | rfl | rfl | rfl | rfl | rfl | rfl | rfl | rfl | rfl
        · refine lv_tableIn (off := 87) (tgt := 156) hx hb dL_law_69 (by decide) (by decide) (by decide) (by decide) ?_
          exact lc_create hlT C hn hlt a1 hcp hK hP hD hS hl a2 a3 hback
        · refine lv_tableIn (off := 155) (tgt := 224) hx hb dL_law_69 (by decide) (by decide) (by decide) (by decide) ?_
          exact lc_priority hlT C hn hlt a1 hcp hK hP hD hS hl a2 a3 hback
        · refine lv_tableIn (off := 223) (tgt := 292) hx hb dL_law_69 (by decide) (by decide) (by decide) (by decide) ?_
          exact lc_lock hlT C hn hlt a1 hcp hK hP hD hS hl a2 a3 hback
        · refine lv_tableIn (off := 279) (tgt := 348) hx hb dL_law_69 (by decide) (by decide) (by decide) (by decide) ?_
          exact lc_unlock hlT C hn hlt a1 hcp hK hP hD hS hl a2 a3 hback
        · refine lv_tableIn (off := 335) (tgt := 404) hx hb dL_law_69 (by decide) (by decide) (by decide) (by decide) ?_
          exact lc_down hlT C hn hlt a1 hcp hK hP hD hS hl a2 a3 hback
        · refine lv_tableIn (off := 391) (tgt := 460) hx hb dL_law_69 (by decide) (by decide) (by decide) (by decide) ?_
          exact lc_up hlT C hn hlt a1 hcp hK hP hD hS hl a2 a3 hback
        · refine lv_tableIn (off := 447) (tgt := 516) hx hb dL_law_69 (by decide) (by decide) (by decide) (by decide) ?_
          exact lc_send hlT C hn hlt a1 hcp hK hP hD hS hl a2 a3 hback
        · refine lv_tableIn (off := 515) (tgt := 584) hx hb dL_law_69 (by decide) (by decide) (by decide) (by decide) ?_
          exact lc_receive hlT C hn hlt a1 hcp hK hP hD hS hl a2 a3 hback
        · refine lv_tableIn (off := 571) (tgt := 640) hx hb dL_law_69 (by decide) (by decide) (by decide) (by decide) ?_
          exact lc_sleep hlT C hn hlt a1 hcp hK hP hD hS hl a2 a3 hback
        · refine lv_tableIn (off := 627) (tgt := 696) hx hb dL_law_69 (by decide) (by decide) (by decide) (by decide) ?_
          exact lc_end hlT C hn hlt a1 hcp hK hP hD hS hl a2 a3 hback
        · refine lv_tableIn (off := 671) (tgt := 740) hx hb dL_law_69 (by decide) (by decide) (by decide) (by decide) ?_
          exact lc_tick hlT C hn hlt a1 hcp hK hP hD hS hl a2 a3 hback
        · refine lv_tableIn (off := 727) (tgt := 796) hx hb dL_law_69 (by decide) (by decide) (by decide) (by decide) ?_
          exact lc_running hlT C hn hlt a1 hcp hK hP hD hS hl a2 a3 hback
        · refine lv_tableIn (off := 740) (tgt := 809) hx hb dL_law_69 (by decide) (by decide) (by decide) (by decide) ?_
          exact lc_told hlT C hn hlt a1 hcp hK hP hD hS hl a2 a3 hback
        · refine lv_tableIn (off := 808) (tgt := 877) hx hb dL_law_69 (by decide) (by decide) (by decide) (by decide) ?_
          exact lc_owner hlT C hn hlt a1 hcp hK hP hD hS hl a2 a3 hback
        · refine lv_tableIn (off := 864) (tgt := 933) hx hb dL_law_69 (by decide) (by decide) (by decide) (by decide) ?_
          exact lc_count hlT C hn hlt a1 hcp hK hP hD hS hl a2 a3 hback
        · refine lv_tableIn (off := 920) (tgt := 989) hx hb dL_law_69 (by decide) (by decide) (by decide) (by decide) ?_
          exact lc_words hlT C hn hlt a1 hcp hK hP hD hS hl a2 a3 hback
        · refine lv_tableIn (off := 976) (tgt := 1045) hx hb dL_law_69 (by decide) (by decide) (by decide) (by decide) ?_
          exact lc_first hlT C hn hlt a1 hcp hK hP hD hS hl a2 a3 hback
        · refine lv_tableIn (off := 1044) (tgt := 1113) hx hb dL_law_69 (by decide) (by decide) (by decide) (by decide) ?_
          exact lc_clear hlT C hn hlt a1 hcp hK hP hD hS hl a2 a3 hback
