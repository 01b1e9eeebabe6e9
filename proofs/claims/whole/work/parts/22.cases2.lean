/-! further cases -/
section CSB
variable {nL nC nB n n' C t k : Nat} {F F' G G' : Nat → Nat → Int32} {sp sp' : Nat → Int64} {ls ls' x y r b : Int32} {ck ck' : Int64} {u : xS} {v : mS} {E : String}
theorem cs_down_x (hn : nL ≤ 8) (hn2 : n < 2 ^ 30) (h : cp nL nC nB n F ls G sp ck) (hx : sx_run nC F x E) (hm : mp_down nC G sp ck x b v) : cs_X nL nC nB n F ls (lk3 xE_I xE_S "" E) v := by
  obtain ⟨E2, nx, hf, hm⟩ := hm
  have hnx := h.run hn hn2 hf
  rcases hx with ⟨e, hx⟩ | ⟨e, hx, hy⟩
  · rcases hm with ⟨-, rfl⟩ | ⟨q, -⟩ | ⟨k, t, a, q, -⟩
    · rw [e]; exact ⟨rfl, by decide, h⟩
    · exact absurd q hx
    · exact absurd ⟨k, a, q⟩ hx
  · rcases hm with ⟨q, -⟩ | ⟨-, -, rfl⟩ | ⟨k, t, -, -, -, q, -⟩
    · exact absurd hx q
    · rw [e]; exact ⟨rfl, by decide, h⟩
    · rw [hnx, hy] at q; cases q
theorem cs_send_x (hn : nL ≤ 8) (hn2 : n < 2 ^ 30) (h : cp nL nC nB n F ls G sp ck) (hx : sx_run nB F x E) (hm : mp_send nB G sp ck x y b v) : cs_X nL nC nB n F ls (lk3 xE_I xE_S "" E) v := by
  obtain ⟨E2, nx, hf, hm⟩ := hm
  have hnx := h.run hn hn2 hf
  rcases hx with ⟨e, hx⟩ | ⟨e, hx, hy⟩
  · rcases hm with ⟨-, rfl⟩ | ⟨q, -⟩ | ⟨k, t, E3, n2, a, q, -⟩
    · rw [e]; exact ⟨rfl, by decide, h⟩
    · exact absurd q hx
    · exact absurd ⟨k, a, q⟩ hx
  · rcases hm with ⟨q, -⟩ | ⟨-, -, rfl⟩ | ⟨k, t, E3, n2, -, -, -, q, -⟩
    · exact absurd hx q
    · rw [e]; exact ⟨rfl, by decide, h⟩
    · rw [hnx, hy] at q; cases q
theorem cs_receive_x (hn : nL ≤ 8) (hn2 : n < 2 ^ 30) (h : cp nL nC nB n F ls G sp ck) (hx : sx_run nB F x E) (hm : mp_receive nB G sp ck x b v) : cs_X nL nC nB n F ls (lk3 xE_I xE_S "" E) v := by
  obtain ⟨E2, nx, hf, hm⟩ := hm
  have hnx := h.run hn hn2 hf
  rcases hx with ⟨e, hx⟩ | ⟨e, hx, hy⟩
  · rcases hm with ⟨-, rfl⟩ | ⟨q, -⟩ | ⟨k, t, a, q, -⟩
    · rw [e]; exact ⟨rfl, by decide, h⟩
    · exact absurd q hx
    · exact absurd ⟨k, a, q⟩ hx
  · rcases hm with ⟨q, -⟩ | ⟨-, -, rfl⟩ | ⟨k, t, -, -, -, q, -⟩
    · exact absurd hx q
    · rw [e]; exact ⟨rfl, by decide, h⟩
    · rw [hnx, hy] at q; cases q
/-- what the tasks share has changed, the tasks have not -/
theorem cp.sh (h : cp nL nC nB n F ls G sp ck) (ht : ∀ C s, cp_t nL C F G sp s → cp_t nL C F' G' sp s) (hs : cp_s nL nC nB F' G') (hE : pq_Eff (xs_hd nL F') (F' 1) (F' 2)) (hn : n ≤ n') : cp nL nC nB n' F' ls G' sp ck := by
  obtain ⟨⟨C, a1, a2, a3, a4⟩, -, -⟩ := h
  exact ⟨⟨C, by omega, a2, a3, fun s h16 => ht C s (a4 s h16)⟩, hs, hE⟩
theorem cp_s.cnt (h : cp_s nL nC nB F G) {c : Nat} {z : Int32} (hz : z = nI c) (hc : c ≤ 1000) {E : Nat → Int32} : cp_s nL nC nB (va_up F 9 (upd (F 9) k z)) (va_up (va_up G 10 E) 7 (upd (G 7) k z)) := by
  refine ⟨h.1, h.2.1, h.2.2.1, fun i hi => ?_, h.2.2.2.2⟩
  show upd (F 9) k z i = upd (G 7) k z i ∧ ∃ c, c ≤ 1000 ∧ upd (F 9) k z i = nI c
  unfold upd
  split
  · exact ⟨rfl, c, hc, hz⟩
  · exact h.2.2.2.1 i hi
theorem cs_down (hC8 : nC ≤ 8) (hn : nL ≤ 8) (hn2 : n < 2 ^ 30) (hn3 : n + 1 ≤ n') (h : cp nL nC nB n F ls G sp ck) (hx : sp_down nC F ls x r u) (hm : mp_down nC G sp ck x b v) : cs_R nL nC nB n' r b u v := by
  obtain ⟨E2, nx, hf, hm⟩ := hm
  have hnx := h.run hn hn2 hf
  obtain ⟨k, t, hk, ek, ht, hfm, hx⟩ := hx
  rcases hm with ⟨q, -⟩ | ⟨-, q, -⟩ | ⟨k', t', a, q, a2, q2, hm⟩
  · exact absurd ⟨k, hk, ek⟩ q
  · rw [hnx, hfm] at q; cases q
  · have e1 := cs_nI (by omega) (by omega) ek q
    rw [hnx, hfm] at q2
    cases q2
    subst e1
    obtain ⟨hg, c, hc, ec⟩ := h.2.1.2.2.2.1 k' hk
    rw [← hg] at hm
    rcases hm with ⟨z, rfl, rfl⟩ | ⟨z, rfl, rfl⟩
    · rcases hx with ⟨-, rfl, rfl⟩ | ⟨w, -⟩
      · refine ⟨rfl, rfl, ?_⟩
        have hc0 : 1 ≤ c := by
          rcases Nat.eq_zero_or_pos c with w | w
          · rw [ec, w] at z; exact absurd (by decide) z
          · exact w
        refine h.sh (fun _ _ w => w) (h.2.1.cnt (c := c - 1) ?_ (by omega)) h.2.2 (by omega)
        rw [ec]; exact pk_sub (b := 1) hc0
      · exact absurd w z
    · rcases hx with ⟨w, -⟩ | ⟨-, rfl, rfl⟩
      · exact absurd z w
      · exact ⟨rfl, rfl, h.wait hn hn3 hfm (st := 3) (E := E2) (R := F 7) (Q := G 4) ⟨by decide, by decide⟩ (by decide) (fun _ _ => rfl) (fun _ _ => rfl) (Or.inr (by decide))⟩
theorem cs_up_x (hC8 : nC ≤ 8) (hn : nL ≤ 8) (hn2 : n < 2 ^ 30) (h : cp nL nC nB n F ls G sp ck) (hx : sx_up nC F x E) (hm : mp_up nC G sp ck x b v) : cs_X nL nC nB n F ls (lk3 xE_I xE_U "" E) v := by
  rcases hx with ⟨e, hx⟩ | ⟨e, k, hk, ek, hno, hc⟩
  · rcases hm with ⟨-, rfl⟩ | ⟨k, E2, n2, a, q, -⟩
    · rw [e]; exact ⟨rfl, by decide, h⟩
    · exact absurd ⟨k, a, q⟩ hx
  · rcases hm with ⟨q, -⟩ | ⟨k', E2, n2, a, q, hf, hm⟩
    · exact absurd ⟨k, hk, ek⟩ q
    · have e1 := cs_nI (by omega) (by omega) ek q
      subst e1
      have hn2' := h.fo hn hn2 (tx := nI k') (Or.inr ⟨⟨by decide, by decide⟩, rfl⟩) hf
      rcases hm with ⟨-, -, rfl⟩ | ⟨-, z, -⟩ | ⟨j, -, q9, -⟩
      · rw [e]; exact ⟨rfl, by decide, h⟩
      · obtain ⟨hg, c, hc2, ec⟩ := h.2.1.2.2.2.1 k' hk
        rw [← hg, ec] at z
        rw [ec] at hc
        have : c = 1000 := by
          rcases Nat.lt_or_ge c 1000 with w | w
          · exact absurd (show nI c < nI 1000 from nI_lt w (by decide)) hc
          · omega
        rw [this] at z
        exact absurd rfl z
      · rw [hn2', hno] at q9; cases q9
theorem cs_up (hC8 : nC ≤ 8) (hn : nL ≤ 8) (hn2 : n < 2 ^ 30) (hn3 : n + 1 ≤ n') (h : cp nL nC nB n F ls G sp ck) (hx : sp_up nC F ls x r u) (hm : mp_up nC G sp ck x b v) : cs_R nL nC nB n' r b u v := by
  obtain ⟨k, hk, ek, hx⟩ := hx
  rcases hm with ⟨q, -⟩ | ⟨k', E2, n2, a, q, hf, hm⟩
  · exact absurd ⟨k, hk, ek⟩ q
  · have e1 := cs_nI (by omega) (by omega) ek q
    subst e1
    have hn2' := h.fo hn hn2 (tx := nI k') (Or.inr ⟨⟨by decide, by decide⟩, rfl⟩) hf
    obtain ⟨hg, c, hc2, ec⟩ := h.2.1.2.2.2.1 k' hk
    rcases hx with ⟨j, hj, j16, rfl, rfl⟩ | ⟨hno, hlt, rfl, rfl⟩
    · rcases hm with ⟨q9, -⟩ | ⟨q9, -⟩ | ⟨j', -, q9, rfl, rfl⟩
      · rw [hn2', hj] at q9; cases q9
      · rw [hn2', hj] at q9; cases q9
      · rw [hn2', hj] at q9
        cases q9
        exact ⟨rfl, rfl, h.ready hn hn3 hj (E := E2) (R := F 6) (Q := G 5) (by decide) (fun _ _ => rfl) (fun _ _ => rfl) (by
          obtain ⟨⟨C, -, -, -, w⟩, -⟩ := h
          exact (w j j16).2.2.2.2.2.2.2.2.2.1)⟩
    · rcases hm with ⟨-, z, -⟩ | ⟨-, z, rfl, rfl⟩ | ⟨j', -, q9, -⟩
      · rw [hg, z] at hlt; exact absurd hlt (by decide)
      · refine ⟨rfl, rfl, ?_⟩
        rw [← hg]
        have hc1 : c < 1000 := by
          rcases Nat.lt_or_ge c 1000 with w | w
          · exact w
          · rw [← hg, ec, show c = 1000 by omega] at z; exact absurd rfl z
        exact h.sh (fun _ _ w => w) (h.2.1.cnt (c := c + 1) (by rw [ec]; exact nI_1 c) (by omega)) h.2.2 (by omega)
      · rw [hn2', hno] at q9; cases q9
/-- a word comes into a box -/
theorem cp_s.put (h : cp_s nL nC nB F G) (hk : k < nB) {f : Nat} (hf : f < 4) (e1 : F 10 k = nI f) {w : Int32} {E : Nat → Int32} : cp_s nL nC nB (va_up (va_up F 11 (upd (F 11) (4 * k + f) w)) 10 (upd (F 10) k (nI (f + 1)))) (va_up (va_up (va_up G 10 E) 9 (upd (G 9) (4 * k + f) w)) 8 (upd (G 8) k (nI (f + 1)))) := by
  refine ⟨h.1, h.2.1, h.2.2.1, h.2.2.2.1, fun i hi => ?_⟩
  show ∃ f', f' ≤ 4 ∧ upd (F 10) k (nI (f + 1)) i = nI f' ∧ upd (G 8) k (nI (f + 1)) i = nI f' ∧ ∀ j, j < f' → upd (F 11) (4 * k + f) w (4 * i + j) = upd (G 9) (4 * k + f) w (4 * i + j)
  obtain ⟨f', a1, a2, a3, a4⟩ := h.2.2.2.2 i hi
  by_cases c : i = k
  · subst c
    have ef : f = f' := (nI_eq (by omega) (by omega)).mp (e1.symm.trans a2)
    subst ef
    refine ⟨f + 1, by omega, pk_us, pk_us, fun j hj => ?_⟩
    by_cases cj : j = f
    · rw [cj, pk_us, pk_us]
    · rw [pk_un (by omega), pk_un (by omega)]
      exact a4 j (by omega)
  · refine ⟨f', a1, by rw [pk_un c]; exact a2, by rw [pk_un c]; exact a3, fun j hj => ?_⟩
    rw [pk_un (by omega), pk_un (by omega)]
    exact a4 j hj
theorem cs_send (hn : nL ≤ 8) (hn2 : n < 2 ^ 30) (hn3 : n + 1 ≤ n') (hB : nB ≤ 8) (h : cp nL nC nB n F ls G sp ck) (hx : sp_send nB F ls x y r u) (hm : mp_send nB G sp ck x y b v) : cs_R nL nC nB n' r b u v := by
  obtain ⟨E2, nx, hf, hm⟩ := hm
  have hnx := h.run hn hn2 hf
  obtain ⟨k, t, hk, ek, ht, hfm, hx⟩ := hx
  rcases hm with ⟨q, -⟩ | ⟨-, q, -⟩ | ⟨k', t', E3, n2, a, q, a2, q2, hf2, hm⟩
  · exact absurd ⟨k, hk, ek⟩ q
  · rw [hnx, hfm] at q; cases q
  · have e1 := cs_nI (by omega) (by omega) ek q
    rw [hnx, hfm] at q2
    cases q2
    subst e1
    have hn2' := h.fo hn hn2 (tx := nI k') (Or.inr ⟨⟨by decide, by decide⟩, rfl⟩) hf2
    obtain ⟨f0, b1, b2, b3, b4⟩ := h.2.1.2.2.2.2 k' hk
    rcases hx with ⟨j, hj, j16, rfl, rfl⟩ | ⟨hno, f, hf4, eF, hx⟩
    · rcases hm with ⟨j', -, q9, rfl, rfl⟩ | ⟨q9, -⟩
      · rw [hn2', hj] at q9
        cases q9
        exact ⟨rfl, rfl, h.ready hn hn3 hj (by decide) (fun s e => pk_un e) (fun s e => pk_un e) (by rw [pk_us, pk_us])⟩
      · rw [hn2', hj] at q9; cases q9
    · rcases hm with ⟨j', -, q9, -⟩ | ⟨-, f', hf4', eG, hm⟩
      · rw [hn2', hno] at q9; cases q9
      · have e2 : f = f0 := (nI_eq (by omega) (by omega)).mp (eF.symm.trans b2)
        have e3 : f' = f0 := (nI_eq (by omega) (by omega)).mp (eG.symm.trans b3)
        subst e2
        subst e3
        rcases hx with ⟨hlt, rfl, rfl⟩ | ⟨he, rfl, rfl⟩
        · rcases hm with ⟨-, rfl, rfl⟩ | ⟨z, -⟩
          · exact ⟨rfl, rfl, h.sh (fun _ _ w => w) (h.2.1.put hk hlt eF) h.2.2 (by omega)⟩
          · omega
        · rcases hm with ⟨z, -⟩ | ⟨-, rfl, rfl⟩
          · omega
          · exact ⟨rfl, rfl, h.wait hn hn3 hfm (st := 4) ⟨by decide, by decide⟩ (by decide) (fun s e => pk_un e) (fun s e => pk_un e) (Or.inl (by rw [pk_us, pk_us]))⟩
end CSB
