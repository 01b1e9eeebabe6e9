/-! further cases -/
section CSC
variable {nL nC nB n n' C t k : Nat} {F F' G G' : Nat → Nat → Int32} {sp sp' : Nat → Int64} {ls ls' x y r b : Int32} {ck ck' : Int64} {u : xS} {v : mS} {E : String}
/-- a word goes out of a box, perhaps another comes in -/
theorem cp_s.take (h : cp_s nL nC nB F G) (hk : k < nB) {g : Nat} (hg : g ≤ 3) (e1 : F 10 k = nI (g + 1)) {V : Nat → Int32} (hV : ms_sh G k g V) {P Q : Nat → Int32} {E : Nat → Int32} : cp_s nL nC nB (va_up (va_up (va_up F 11 (va_cpy (F 11) (F 11) (4 * k + 1) (4 * k) 3)) 10 (upd (F 10) k (nI g))) 6 P) (va_up (va_up (va_up (va_up G 10 E) 5 Q) 8 (upd (G 8) k (nI g))) 9 V) := by
  refine ⟨h.1, h.2.1, h.2.2.1, h.2.2.2.1, fun i hi => ?_⟩
  show ∃ f', f' ≤ 4 ∧ upd (F 10) k (nI g) i = nI f' ∧ upd (G 8) k (nI g) i = nI f' ∧ ∀ j, j < f' → va_cpy (F 11) (F 11) (4 * k + 1) (4 * k) 3 (4 * i + j) = V (4 * i + j)
  obtain ⟨f', a1, a2, a3, a4⟩ := h.2.2.2.2 i hi
  by_cases c : i = k
  · subst c
    have ef : g + 1 = f' := (nI_eq (by omega) (by omega)).mp (e1.symm.trans a2)
    subst ef
    refine ⟨g, by omega, pk_us, pk_us, fun j hj => ?_⟩
    rw [pk_cpy_in (by omega) (by omega), hV.1 j hj, show 4 * i + j + 1 = 4 * i + (j + 1) by omega, ← a4 (j + 1) (by omega)]
    congr 1
    omega
  · refine ⟨f', a1, by rw [pk_un c]; exact a2, by rw [pk_un c]; exact a3, fun j hj => ?_⟩
    rw [pk_cpy_out (by omega), hV.2 _ (by omega)]
    exact a4 j hj
/-- the one that runs has got a word -/
theorem cp.got (h : cp nL nC nB n F ls G sp ck) (ht : t < 16) (h0 : ¬ F 0 t = 0) {P Q : Nat → Int32} (hP : ∀ s, ¬ s = t → P s = F 6 s) (hQ : ∀ s, ¬ s = t → Q s = G 5 s) (e : P t = Q t) (hs : cp_s nL nC nB F' G') (f0 : F' 0 = F 0) (f1 : F' 1 = F 1) (f2 : F' 2 = F 2) (f3 : F' 3 = F 3) (f4 : F' 4 = F 4) (f5 : F' 5 = F 5) (f6 : F' 6 = P) (f7 : F' 7 = F 7) (f8 : F' 8 = F 8) (g0 : G' 0 = G 0) (g1 : G' 1 = G 1) (g2 : G' 2 = G 2) (g3 : G' 3 = G 3) (g4 : G' 4 = G 4) (g5 : G' 5 = Q) : cp nL nC nB n F' ls G' sp ck := by
  refine h.one (t := t) (fun s e => ?_) (fun s _ e _ k o hk ho _ z => ⟨o, ho, by rw [f8]; exact z⟩) hs ?_ (fun C hC e1 e2 hct => ⟨C, Nat.le_refl C, hC, e1, e2, ?_⟩) ht
  · rw [f0, f1, f3, f4, f5, f6, f7, g0, g1, g2, g3, g4, g5]
    exact ⟨rfl, rfl, rfl, rfl, rfl, hP s e, rfl, rfl, rfl, rfl, rfl, rfl, hQ s e, rfl⟩
  · have hq : xs_hd nL F' = xs_hd nL F := funext fun s => by unfold xs_hd; rw [f0, f4, f8]
    rw [hq, f1, f2]
    exact h.2.2
  · unfold cp_t at hct ⊢
    rw [f0, f1, f3, f4, f5, f6, f7, f8, g0, g1, g2, g3, g4, g5]
    obtain ⟨c0, c1, c2, c3, c4, c5, c6, c7, c8, c9, c10, c11⟩ := hct
    exact ⟨c0, c1, c2, c3, c4, c5, c6, c7, c8, e, fun q => absurd q h0, c11⟩
theorem cs_receive (hn : nL ≤ 8) (hn2 : n < 2 ^ 30) (hn3 : n + 1 ≤ n') (hB : nB ≤ 8) (h : cp nL nC nB n F ls G sp ck) (hx : sp_receive nB F ls x r u) (hm : mp_receive nB G sp ck x b v) : cs_R nL nC nB n' r b u v := by
  obtain ⟨E2, nx, hf, hm⟩ := hm
  have hnx := h.run hn hn2 hf
  obtain ⟨k, t, hk, ek, ht, hfm, hx⟩ := hx
  rcases hm with ⟨q, -⟩ | ⟨-, q, -⟩ | ⟨k', t', a, q, a2, q2, hm⟩
  · exact absurd ⟨k, hk, ek⟩ q
  · rw [hnx, hfm] at q; cases q
  · have e1 := cs_nI (by omega) (by omega) ek q
    rw [hnx, hfm] at q2
    cases q2
    subst e1
    obtain ⟨h16, hF0, hF4⟩ := h.ok hfm
    obtain ⟨f0, b1, b2, b3, b4⟩ := h.2.1.2.2.2.2 k' hk
    rcases hx with ⟨h1, rfl, rfl⟩ | ⟨g, hg, eF, rfl, hx⟩
    · rcases hm with ⟨-, rfl, rfl⟩ | ⟨g, V, E3, n2, hg, eG, -⟩
      · exact ⟨rfl, rfl, h.wait hn hn3 hfm (st := 5) (E := E2) (R := F 7) (Q := G 4) ⟨by decide, by decide⟩ (by decide) (fun _ _ => rfl) (fun _ _ => rfl) (Or.inr (by decide))⟩
      · have e2 : f0 = 0 := (nI_eq (b := 0) (by omega) (by decide)).mp (b2.symm.trans h1)
        have e3 : g + 1 = f0 := (nI_eq (by omega) (by omega)).mp (eG.symm.trans b3)
        omega
    · have e2 : g + 1 = f0 := (nI_eq (by omega) (by omega)).mp (eF.symm.trans b2)
      rcases hm with ⟨z, -⟩ | ⟨g', V, E3, n2, hg', eG, rfl, hV, hf2, hm⟩
      · have e3 : f0 = 0 := (nI_eq (b := 0) (by omega) (by decide)).mp (b3.symm.trans z)
        omega
      · have e3 : g' + 1 = f0 := (nI_eq (by omega) (by omega)).mp (eG.symm.trans b3)
        have e4 : g' = g := by omega
        subst e4
        have hn2' := h.fo hn hn2 (tx := nI k') (Or.inr ⟨⟨by decide, by decide⟩, rfl⟩) hf2
        have hword : F 11 (4 * k') = G 9 (4 * k') := b4 0 (by omega)
        have hP : ∀ s, ¬ s = t → upd (F 6) t (F 11 (4 * k')) s = F 6 s := fun s e => pk_un e
        have hQ : ∀ s, ¬ s = t → upd (G 5) t (G 9 (4 * k')) s = G 5 s := fun s e => pk_un e
        have hPQ : upd (F 6) t (F 11 (4 * k')) t = upd (G 5) t (G 9 (4 * k')) t := by rw [pk_us, pk_us]; exact hword
        have h0 : ¬ F 0 t = 0 := by rw [hF0]; decide
        rcases hx with ⟨hno, rfl⟩ | ⟨j, hj, j16, rfl⟩
        · rcases hm with ⟨-, rfl⟩ | ⟨j', -, q9, -⟩
          · refine ⟨rfl, rfl, (h.got h16 h0 hP hQ hPQ (h.2.1.take hk hg eF hV) rfl rfl rfl rfl rfl rfl rfl rfl rfl rfl rfl rfl rfl rfl rfl).more (by omega)⟩
          · rw [hn2', hno] at q9; cases q9
        · rcases hm with ⟨q9, -⟩ | ⟨j', -, q9, rfl⟩
          · rw [hn2', hj] at q9; cases q9
          · rw [hn2', hj] at q9
            cases q9
            obtain ⟨j16, hJ0, hJ4⟩ := h.ok hj
            have hsent : F 7 j = G 4 j := by
              obtain ⟨⟨C, -, -, -, w⟩, -⟩ := h
              exact (w j j16).2.2.2.2.2.2.2.2.2.2.2 hJ0
            have hs1 := (h.2.1.take hk hg eF hV (P := upd (F 6) t (F 11 (4 * k'))) (Q := upd (G 5) t (G 9 (4 * k'))) (E := E3))
            have hs2 := hs1.put hk (f := g') (by omega) (show upd (F 10) k' (nI g') k' = nI g' from pk_us) (w := F 7 j) (E := E3)
            have hc : cp nL nC nB n (xs_tp F k' g' t j) ls (va_up (va_up (va_up (va_up G 10 E3) 5 (upd (G 5) t (G 9 (4 * k')))) 8 (upd (upd (G 8) k' (nI g')) k' (nI (g' + 1)))) 9 (upd V (4 * k' + g') (G 4 j))) sp ck := by
              rw [← hsent]
              exact h.got h16 h0 hP hQ hPQ hs2 rfl rfl rfl rfl rfl rfl rfl rfl rfl rfl rfl rfl rfl rfl rfl
            have hj2 : xs_fm (xs_tp F k' g' t j) 4 (nI k') = some j := hj
            refine ⟨rfl, rfl, hc.ready hn hn3 hj2 (R := upd (F 6) t (F 11 (4 * k'))) (Q := upd (G 5) t (G 9 (4 * k'))) (E := E3) (by decide) (fun _ _ => rfl) (fun _ _ => rfl) ?_⟩
            by_cases c : j = t
            · rw [c]; exact hPQ
            · rw [hP j c, hQ j c]
              obtain ⟨⟨C, -, -, -, w⟩, -⟩ := h
              exact (w j j16).2.2.2.2.2.2.2.2.2.1
theorem cs_sleep_x (hn : nL ≤ 8) (hn2 : n < 2 ^ 30) (h : cp nL nC nB n F ls G sp ck) (hx : sx_sleep F x E) (hm : mp_sleep G sp ck x b v) : cs_X nL nC nB n F ls (lk3 xE_S xE_A "" E) v := by
  obtain ⟨E2, nx, hf, hm⟩ := hm
  have hnx := h.run hn hn2 hf
  rcases hx with ⟨e, hx⟩ | ⟨e, ⟨t, hx⟩, hy⟩
  · rcases hm with ⟨-, rfl⟩ | ⟨⟨t, q⟩, -⟩ | ⟨t, E3, n2, -, q, -⟩
    · rw [e]; exact ⟨rfl, by decide, h⟩
    · rw [hnx, hx] at q; cases q
    · rw [hnx, hx] at q; cases q
  · rcases hm with ⟨q, -⟩ | ⟨-, -, rfl⟩ | ⟨t, E3, n2, -, q, h1, h2, -⟩
    · rw [hnx, hx] at q; cases q
    · rw [e]; exact ⟨rfl, by decide, h⟩
    · exact absurd ⟨h1, h2⟩ hy
theorem cs_sleep (hn : nL ≤ 8) (hn2 : n' < 2 ^ 30) (hn3 : n + 1 ≤ n') (h : cp nL nC nB n F ls G sp ck) (hx : sp_sleep F ls x r u) (hm : mp_sleep G sp ck x b v) : cs_R nL nC nB n' r b u v := by
  obtain ⟨E2, nx, hf, hm⟩ := hm
  have hnx := h.run hn (by omega) hf
  obtain ⟨t, ht, hfm, h1, h2, rfl, hr⟩ := hx
  obtain ⟨m, hm1, hm2, rfl⟩ : ∃ m, 1 ≤ m ∧ m ≤ 1000 ∧ x = nI m := by
    have h0 : ¬ x < 0 := by
      intro q
      rw [Int32.lt_iff_toInt_lt] at q
      rw [Int32.le_iff_toInt_le] at h1
      have a : (0 : Int32).toInt = 0 := by decide
      have b : (1 : Int32).toInt = 1 := by decide
      omega
    obtain ⟨m, hm, e⟩ := nI_of2 (M := 1000) (n := 1000) (by decide) h0 h2
    refine ⟨m, ?_, hm, e⟩
    rw [e] at h1
    exact (nI_leI (a := 1) (by decide) (by omega)).mp h1
  rcases hm with ⟨q, -⟩ | ⟨-, q, -⟩ | ⟨t', E3, n2, -, q, -, -, hf2, rfl, hb⟩
  · rw [hnx, hfm] at q; cases q
  · exact absurd ⟨h1, h2⟩ q
  · rw [hnx, hfm] at q
    cases q
    obtain ⟨h16, hF0, hF4⟩ := h.ok hfm
    have hc : cp nL nC nB n' (va_up (xs_en F ls t 6 (-1)) 5 (upd (F 5) t (nI m))) (ls + 1) (ms_en (va_up G 3 (upd (G 3) t (nI m))) t 6 0) (vp_updL sp t (ck + 1)) (ck + 1) := by
      refine h.one (t := t) (fun s e => ?_) (fun s _ e _ k o hk ho _ z => ⟨o, ho, z⟩) (h.2.1.keep rfl rfl rfl rfl rfl rfl rfl rfl) ?_ (fun C hC e1 e2 hct => cp_clk hn3 rfl rfl C hC e1 e2 ?_) h16
      · refine ⟨?_, ?_, ?_, ?_, ?_, ?_, ?_, ?_, ?_, ?_, ?_, ?_, ?_, ?_⟩ <;> first | rfl | exact pk_un e | exact pk_uLn e
      · refine pq_Eff.congr (xs_hd_lt hn h.ow) (fun s _ => xs_hd_same (F := F) (F' := va_up (xs_en F ls t 6 (-1)) 5 (upd (F 5) t (nI m))) (t := t) (fun s e => pk_un e) (fun s e => pk_un e) rfl (by rw [hF0]; decide) (by show ¬ upd (F 0) t 6 t = 2; rw [pk_us]; decide) s) (fun _ _ => rfl) (fun _ _ => rfl) h.2.2
      · exact cp_t_sl (m := m) (b := G 1 t) (g := G 5 t) hct.2.1 rfl pk_us pk_us (by show upd (F 3) t (ls + 1) t = _; rw [pk_us, e1]; exact nI_1 C) (by rw [pk_uLs, e2]; exact lN_1 C) pk_us hm1 hm2 pk_us pk_us hct.2.2.2.2.2.2.2.2.2.1 rfl
    refine ⟨rfl, ?_, hc⟩
    rw [hr, hb, hc.run hn hn2 hf2]
theorem cp.cnt (h : cp nL nC nB n F ls G sp ck) (z : Int32) : pq_cnt (fun k => decide (G 6 k = z)) nL = pq_cnt (fun k => decide (F 8 k = z)) nL :=
  pq_cnt_congr nL (fun k hk => by rw [h.2.1.1 k hk])
theorem cs_end_x (hn : nL ≤ 8) (hn2 : n < 2 ^ 30) (h : cp nL nC nB n F ls G sp ck) (hx : sx_end nL F E) (hm : mp_end nL G sp ck b v) : cs_X nL nC nB n F ls (lk3 xE_S xE_A "" E) v := by
  obtain ⟨E2, nx, hf, hm⟩ := hm
  have hnx := h.run hn hn2 hf
  rcases hx with ⟨e, hx⟩ | ⟨e, t, h16, hx, hy⟩
  · rcases hm with ⟨-, rfl⟩ | ⟨t, -, q, -⟩
    · rw [e]; exact ⟨rfl, by decide, h⟩
    · rw [hnx, hx] at q; cases q
  · rcases hm with ⟨q, -⟩ | ⟨t', -, q, hm⟩
    · rw [hnx, hx] at q; cases q
    · rw [hnx, hx] at q
      cases q
      rcases hm with ⟨-, rfl⟩ | ⟨z, -⟩
      · rw [e]; exact ⟨rfl, by decide, h⟩
      · rw [h.cnt] at z; exact absurd z hy
theorem cs_end (hn : nL ≤ 8) (hn2 : n < 2 ^ 30) (h : cp nL nC nB n F ls G sp ck) (hx : sp_end nL F ls r u) (hm : mp_end nL G sp ck b v) : cs_R nL nC nB n r b u v := by
  obtain ⟨E2, nx, hf, hm⟩ := hm
  have hnx := h.run hn hn2 hf
  obtain ⟨t, E4, ht, hfm, hc0, hE4, rfl, hr⟩ := hx
  rcases hm with ⟨q, -⟩ | ⟨t', -, q, hm⟩
  · rw [hnx, hfm] at q; cases q
  · rw [hnx, hfm] at q
    cases q
    rcases hm with ⟨z, -⟩ | ⟨-, E3, n2, hf2, rfl, hb⟩
    · rw [h.cnt] at z; exact absurd hc0 z
    · obtain ⟨h16, hF0, hF4⟩ := h.ok hfm
      have hc : cp nL nC nB n (va_up (xs_fr F t) 2 E4) ls (ms_fr G t) sp ck := by
        refine h.one (t := t) (fun s e => ?_) (fun s _ e _ k o hk ho _ z => ⟨o, ho, z⟩) (h.2.1.keep rfl rfl rfl rfl rfl rfl rfl rfl) hE4 (fun C hC e1 e2 hct => ⟨C, Nat.le_refl C, hC, e1, e2, ?_⟩) h16
        · refine ⟨?_, ?_, ?_, ?_, ?_, ?_, ?_, ?_, ?_, ?_, ?_, ?_, ?_, ?_⟩ <;> first | rfl | exact pk_un e | exact pk_uLn e
        · exact cp_t_fr pk_us pk_us pk_us pk_us (show F 4 t = -1 from hF4) (hct.2.2.2.2.2.2.2.2.1 (by rw [hF0]; decide)) pk_us pk_us
      refine ⟨rfl, ?_, hc⟩
      rw [hr, hb, hc.run hn hn2 hf2]
theorem cs_told_x (h : cp nL nC nB n F ls G sp ck) (hx : sx_told x y E) (hm : mp_told nL G sp ck x y b v) : cs_X nL nC nB n F ls (lk3 xE_I xE_A "" E) v := by
  rcases hx with ⟨e, hx⟩ | ⟨e, hx, hy⟩
  · rcases hm with ⟨-, rfl⟩ | ⟨q, -⟩ | ⟨t, E2, a, q, -⟩
    · rw [e]; exact ⟨rfl, by decide, h⟩
    · exact absurd q hx
    · exact absurd ⟨t, a, q⟩ hx
  · rcases hm with ⟨q, -⟩ | ⟨-, -, rfl⟩ | ⟨t, E2, a, q, -, -, hm⟩
    · exact absurd hx q
    · rw [e]; exact ⟨rfl, by decide, h⟩
    · rcases hm with ⟨q, -⟩ | ⟨q, -⟩ | ⟨q, -⟩ | ⟨q, -⟩ | ⟨q, -⟩ | ⟨q, -⟩ | ⟨q, -⟩ <;> rw [q] at hy <;> exact absurd hy (by decide)
theorem cs_told (hn : nL ≤ 8) (h : cp nL nC nB n F ls G sp ck) (hx : sp_told nL F x y r) (hm : mp_told nL G sp ck x y b v) : cs_R nL nC nB n r b (F, ls) v := by
  obtain ⟨t, h16, et, hx⟩ := hx
  rcases hm with ⟨q, -⟩ | ⟨-, q, -⟩ | ⟨t', E2, a, q, hE, rfl, hm⟩
  · exact absurd ⟨t, h16, et⟩ q
  · rcases hx with ⟨z, -⟩ | ⟨z, -⟩ | ⟨z, -⟩ | ⟨z, -⟩ | ⟨z, -⟩ | ⟨z, -⟩ | ⟨z, -⟩ <;> rw [z] at q <;> exact absurd q (by decide)
  · have e1 := cs_nI (by omega) (by omega) et q
    subst e1
    refine ⟨rfl, ?_, h⟩
    have hEf := h.eff hn hE t' h16
    have hct := h.cnt (nI t')
    obtain ⟨⟨C, -, -, -, w⟩, -⟩ := h
    obtain ⟨c0, c1, c2, c3, c4, c5, c6, c7, c8, c9, c10, c11⟩ := w t' h16
    rcases hx with ⟨z, rfl⟩ | ⟨z, rfl⟩ | ⟨z, rfl⟩ | ⟨z, rfl⟩ | ⟨z, rfl⟩ | ⟨z, rfl⟩ | ⟨z, rfl⟩ <;> subst z <;> rcases hm with ⟨z, rfl⟩ | ⟨z, rfl⟩ | ⟨z, rfl⟩ | ⟨z, rfl⟩ | ⟨z, rfl⟩ | ⟨z, rfl⟩ | ⟨z, rfl⟩ <;> first | exact absurd z (by decide) | skip
    · exact c0
    · exact c1
    · exact hEf
    · rw [← c0]
      by_cases e : 2 ≤ F 0 t' ∧ F 0 t' ≤ 5
      · rw [if_pos e]; exact c4 e
      · rw [if_neg e]; exact c5 e
    · rw [← c0]
      by_cases e : F 0 t' = 6
      · rw [if_pos e]
        obtain ⟨m, -, -, e1, e2⟩ := c7 e
        rw [e1, e2]
      · rw [if_neg e]; exact c8 e
    · exact c9
    · rw [hct]
theorem cs_get_x {N c d : Nat} (h : cp nL nC nB n F ls G sp ck) (hx : E = xE_I ∧ ¬ sp_in N x) (hm : mp_get N c G sp ck x b v) : cs_X nL nC nB n F ls (lk3 xE_I "" "" E) v := by
  rcases hm with ⟨-, rfl⟩ | ⟨k, a, q, -⟩
  · rw [hx.1]; exact ⟨rfl, by decide, h⟩
  · exact absurd ⟨k, a, q⟩ hx.2
theorem cs_get {N c d : Nat} (hN : N ≤ 8) (h : cp nL nC nB n F ls G sp ck) (he : ∀ k, k < N → F d k = G c k) (hx : ∃ k, k < N ∧ x = nI k ∧ r = F d k) (hm : mp_get N c G sp ck x b v) : cs_R nL nC nB n r b (F, ls) v := by
  obtain ⟨k, hk, ek, rfl⟩ := hx
  rcases hm with ⟨q, -⟩ | ⟨k', a, q, rfl, rfl⟩
  · exact absurd ⟨k, hk, ek⟩ q
  · have e1 := cs_nI (by omega) (by omega) ek q
    subst e1
    exact ⟨rfl, he k' hk, h⟩
theorem cp.words (h : cp nL nC nB n F ls G sp ck) : ∀ k, k < nB → F 10 k = G 8 k := fun k hk => by
  obtain ⟨f, -, a, b, -⟩ := h.2.1.2.2.2.2 k hk
  rw [a, b]
theorem cs_first_x (h : cp nL nC nB n F ls G sp ck) (hx : sx_first nL nC nB x y E) (hm : mp_first nL nC nB G sp ck x y b v) : cs_X nL nC nB n F ls (lk3 xE_A xE_I "" E) v := by
  have a2 : (2 : Int32).toInt = 2 := by decide
  have a5 : (5 : Int32).toInt = 5 := by decide
  rcases hx with ⟨e, hx⟩ | ⟨e, hx⟩
  · rcases hm with ⟨-, rfl⟩ | ⟨q1, q2, -⟩ | ⟨q1, q2, -⟩
    · rw [e]; exact ⟨rfl, by decide, h⟩
    · rw [Int32.le_iff_toInt_le] at q1 q2; exact absurd hx (by omega)
    · rw [Int32.le_iff_toInt_le] at q1 q2; exact absurd hx (by omega)
  · have hno : ¬ sp_in (if x = 2 then nL else if x = 3 then nC else nB) y ∧ 2 ≤ x ∧ x ≤ 5 := by
      rcases hx with ⟨rfl, hx⟩ | ⟨rfl, hx⟩ | ⟨rfl | rfl, hx⟩
      · exact ⟨hx, by decide, by decide⟩
      · exact ⟨hx, by decide, by decide⟩
      · exact ⟨hx, by decide, by decide⟩
      · exact ⟨hx, by decide, by decide⟩
    rcases hm with ⟨q, -⟩ | ⟨-, -, -, rfl⟩ | ⟨-, -, q, -⟩
    · rcases q with q | q
      · exact absurd hno.2.1 (Int32.not_le.mpr q)
      · exact absurd hno.2.2 q
    · rw [e]; exact ⟨rfl, by decide, h⟩
    · exact absurd q hno.1
theorem cs_first (hn : nL ≤ 8) (hn2 : n < 2 ^ 30) (h : cp nL nC nB n F ls G sp ck) (hx : sp_first nL nC nB F x y r) (hm : mp_first nL nC nB G sp ck x y b v) : cs_R nL nC nB n r b (F, ls) v := by
  obtain ⟨hx, rfl⟩ := hx
  have hyes : sp_in (if x = 2 then nL else if x = 3 then nC else nB) y ∧ 2 ≤ x ∧ x ≤ 5 := by
    rcases hx with ⟨rfl, hx⟩ | ⟨rfl, hx⟩ | ⟨rfl | rfl, hx⟩
    · exact ⟨hx, by decide, by decide⟩
    · exact ⟨hx, by decide, by decide⟩
    · exact ⟨hx, by decide, by decide⟩
    · exact ⟨hx, by decide, by decide⟩
  rcases hm with ⟨q, -⟩ | ⟨-, -, q, -⟩ | ⟨-, -, -, E2, nx, hf, rfl, rfl⟩
  · rcases q with q | q
    · exact absurd hyes.2.1 (Int32.not_le.mpr q)
    · exact absurd hyes.2.2 q
  · exact absurd hyes.1 q
  · exact ⟨rfl, by rw [h.fo hn hn2 (tx := y) (Or.inr ⟨hyes.2, rfl⟩) hf], h⟩
theorem cs_new (h : xs_new nL nC nB F) (hl : ls = 0) (hm : ms_new G) (hc : ck = 0) (hn : nL ≤ 8) (hB : nB ≤ 8) (hC8 : nC ≤ 8) : cp nL nC nB n F ls G sp ck := by
  have r : ∀ i, i < 8 → ∀ j, j < 16 → F i j = if i = 4 then -1 else 0 := h.1
  have h2 : ∀ t, t < 16 → xs_hd nL F t = none := fun t ht => by
    unfold xs_hd
    rw [if_neg (fun q => by rw [r 0 (by omega) t ht] at q; exact absurd q.1 (by decide))]
  refine ⟨⟨0, by omega, by rw [hl]; rfl, by rw [hc]; rfl, fun t ht => ?_⟩, ⟨fun k hk => ?_, fun k hk => Or.inl (h.2.1 k hk), fun k hk => Or.inl (hm.2 k hk).1, fun k hk => ⟨?_, 0, by omega, by rw [h.2.2.1 k hk]; rfl⟩, fun k hk => ⟨0, by omega, by rw [h.2.2.2 k hk]; rfl, by rw [(hm.2 k (by omega)).2.2]; rfl, fun j hj => absurd hj (by omega)⟩⟩, ⟨fun t k o ht e => ?_, fun o ho => ⟨o, 0, ho, rfl, ?_⟩⟩⟩
  · obtain ⟨m0, m1, m5, m3⟩ := hm.1 t ht
    exact cp_t_fr (by rw [r 0 (by omega) t ht]; rfl) m0 (by rw [r 1 (by omega) t ht]; rfl) m1 (by rw [r 4 (by omega) t ht]; rfl) (by rw [r 5 (by omega) t ht]; rfl) (by rw [r 6 (by omega) t ht]; rfl) m5
  · rw [h.2.1 k hk, (hm.2 k (by omega)).1]
  · rw [h.2.2.1 k hk, (hm.2 k (by omega)).2.1]
  · cases k with
    | zero =>
      cases e
      rw [r 1 (by omega) t ht, r 2 (by omega) t ht]
      exact Int.le_refl _
    | succ k =>
      have e0 : pq_it (xs_hd nL F) 1 t = none := h2 t ht
      rw [pq_it_none e0 (k + 1) (by omega)] at e
      cases e
  · rw [r 1 (by omega) o ho, r 2 (by omega) o ho]
    rfl
end CSC
