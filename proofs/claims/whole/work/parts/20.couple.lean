/-! X AND M HOLD THE SAME: task by task, and what the tasks share -/
def sp_wt (x : Int32) : Prop := 2 ≤ x ∧ x ≤ 5
def cp_t (nL C : Nat) (F G : Nat → Nat → Int32) (sp : Nat → Int64) (t : Nat) : Prop :=
  F 0 t = G 0 t ∧ F 1 t = G 1 t ∧ (F 0 t = 0 → F 1 t = 0) ∧ (¬ F 0 t = 0 → ∃ c, c ≤ C ∧ F 3 t = nI c ∧ sp t = lN c) ∧ (sp_wt (F 0 t) → F 4 t = G 2 t) ∧ (¬ sp_wt (F 0 t) → F 4 t = -1) ∧ (F 0 t = 2 → ∃ k o, k < nL ∧ o < 16 ∧ F 4 t = nI k ∧ F 8 k = nI o) ∧ (F 0 t = 6 → ∃ m, 1 ≤ m ∧ m ≤ 1000 ∧ F 5 t = nI m ∧ G 3 t = nI m) ∧ (¬ F 0 t = 6 → F 5 t = 0) ∧ F 6 t = G 5 t ∧ (F 0 t = 0 → F 6 t = 0) ∧ (F 0 t = 4 → F 7 t = G 4 t)
def cp_s (nL nC nB : Nat) (F G : Nat → Nat → Int32) : Prop := (∀ k, k < nL → F 8 k = G 6 k) ∧ xs_ow nL (F 8) ∧ xs_ow 8 (G 6) ∧ (∀ k, k < nC → F 9 k = G 7 k ∧ ∃ c, c ≤ 1000 ∧ F 9 k = nI c) ∧ ∀ k, k < nB → ∃ f, f ≤ 4 ∧ F 10 k = nI f ∧ G 8 k = nI f ∧ ∀ j, j < f → F 11 (4 * k + j) = G 9 (4 * k + j)
def cp (nL nC nB n : Nat) (F : Nat → Nat → Int32) (ls : Int32) (G : Nat → Nat → Int32) (sp : Nat → Int64) (ck : Int64) : Prop := (∃ C, C ≤ n ∧ ls = nI C ∧ ck = lN C ∧ ∀ t, t < 16 → cp_t nL C F G sp t) ∧ cp_s nL nC nB F G ∧ pq_Eff (xs_hd nL F) (F 1) (F 2)
section CPA
variable {nL nC nB n C : Nat} {F F' G G' : Nat → Nat → Int32} {sp sp' : Nat → Int64} {ls : Int32} {ck : Int64}
theorem cp.I (hn : nL ≤ 8) (h : cp nL nC nB n F ls G sp ck) : ms_I G := by
  obtain ⟨⟨C, -, -, -, ht⟩, hs, -⟩ := h
  refine ⟨fun t h16 e => ?_, fun t h16 e => ?_, hs.2.2.1⟩
  · obtain ⟨c0, -, -, -, c4, -, c6, -⟩ := ht t h16
    have e' : F 0 t = 2 := c0.trans e
    obtain ⟨k, o, hk, ho, e1, e2⟩ := c6 e'
    exact ⟨k, o, by omega, ho, by rw [← c4 (by rw [e']; exact ⟨by decide, by decide⟩)]; exact e1, by rw [← hs.1 k hk]; exact e2⟩
  · obtain ⟨c0, c1, c2, -⟩ := ht t h16
    rw [← c1]
    exact c2 (c0.trans e)
theorem cp.fi (h : cp nL nC nB n F ls G sp ck) : sp_fi nB F ∧ ms_fi nB G := by
  obtain ⟨-, hs, -⟩ := h
  exact ⟨fun k hk => by obtain ⟨f, a, b, -⟩ := hs.2.2.2.2 k hk; exact ⟨f, a, b⟩, fun k hk => by obtain ⟨f, a, -, b, -⟩ := hs.2.2.2.2 k hk; exact ⟨f, a, b⟩⟩
theorem cp.hd (hn : nL ≤ 8) (h : cp nL nC nB n F ls G sp ck) : ∀ t, t < 16 → xs_hd nL F t = ms_h G t := by
  intro t h16
  have hI := h.I hn
  obtain ⟨⟨C, -, -, -, ht⟩, hs, -⟩ := h
  obtain ⟨c0, -, -, -, c4, -, c6, -⟩ := ht t h16
  rw [ms_h_eq h16]
  by_cases e : F 0 t = 2
  · obtain ⟨k, o, hk, ho, e1, e2⟩ := c6 e
    have w : sp_wt (F 0 t) := by rw [e]; exact ⟨by decide, by decide⟩
    rw [ms_hd_eq (c0.symm.trans e) (show k < 8 by omega) ho ((c4 w).symm.trans e1) ((hs.1 k hk).symm.trans e2)]
    unfold xs_hd
    rw [e1, if_pos ⟨e, nI_pos (by omega), nI_ge hk (by omega)⟩, nI_clamp (by omega), e2]
    show (if nI o < 0 then none else some (nI o).toNatClampNeg) = some o
    rw [if_neg (nI_pos (by omega)), nI_clamp (by omega)]
  · rw [ms_hd_no (fun q => e (c0.trans q))]
    unfold xs_hd
    rw [if_neg (fun q => e q.1)]
/-- the effective priorities that M finds are those that X keeps -/
theorem cp.eff (hn : nL ≤ 8) (h : cp nL nC nB n F ls G sp ck) {E : Nat → Int32} (hE : pq_Eff (ms_h G) (G 1) E) : ∀ t, t < 16 → F 2 t = E t := by
  have h1 : pq_Eff (ms_h G) (G 1) (F 2) := pq_Eff.congr (xs_hd_lt hn h.2.1.2.1) (h.hd hn) (fun t ht => by obtain ⟨⟨C, -, -, -, q⟩, -⟩ := h; exact (q t ht).2.1) (fun _ _ => rfl) h.2.2
  exact h1.one hE
theorem cp.fo (hn : nL ≤ 8) (hn2 : n < 2 ^ 30) (h : cp nL nC nB n F ls G sp ck) {st tx tm : Int32} {E : Nat → Int32} {nx : Option Nat} (hs : (st = 1 ∧ tx = -1) ∨ (sp_wt st ∧ tx = tm)) (hf : ms_fo G sp st tm E nx) : nx = xs_fm F st tx := by
  have hE := h.eff hn hf.1
  obtain ⟨⟨C, hC, -, -, ht⟩, -, -⟩ := h
  have h0 : ¬ st = 0 := by
    rcases hs with q | q
    · rw [q.1]; decide
    · intro z; rw [z] at q; exact absurd q.1.1 (by decide)
  rw [hf.2]
  have hok : ∀ t, t < 16 → ms_ok G st tm t = xs_ok F st tx t := by
    intro t h16
    obtain ⟨c0, -, -, -, c4, c5, -⟩ := ht t h16
    unfold ms_ok xs_ok
    refine decide_eq_decide.mpr ⟨fun ⟨a, b⟩ => ⟨c0.trans a, ?_⟩, fun ⟨a, b⟩ => ⟨c0.symm.trans a, ?_⟩⟩
    · rcases hs with q | q
      · rw [q.2]
        exact c5 (by rw [c0, a, q.1]; intro z; exact absurd z.1 (by decide))
      · rw [q.2, c4 (by rw [c0, a]; exact q.1)]
        rcases b with b | b
        · rw [b] at q; exact absurd q.1.1 (by decide)
        · exact b
    · rcases hs with q | q
      · exact Or.inl q.1
      · right
        rw [← c4 (by rw [a]; exact q.1), b, q.2]
  refine pq_pick_congr 16 hok (fun a b ha hb oa ob => ?_)
  have fa : ¬ F 0 a = 0 := by
    rw [hok a ha] at oa
    rw [(of_decide_eq_true oa).1]; exact h0
  have fb : ¬ F 0 b = 0 := by
    rw [hok b hb] at ob
    rw [(of_decide_eq_true ob).1]; exact h0
  obtain ⟨ca, hca, ea, la⟩ := (ht a ha).2.2.2.1 fa
  obtain ⟨cb, hcb, eb, lb⟩ := (ht b hb).2.2.2.1 fb
  unfold ms_bf xs_bf
  rw [← hE a ha, ← hE b hb, la, lb, ea, eb]
  by_cases e : F 2 a = F 2 b
  · rw [if_pos e]
    refine decide_eq_decide.mpr ⟨fun q => ?_, fun q => Or.inr ⟨e, ?_⟩⟩
    · rcases q with q | q
      · rw [e] at q
        exact absurd q (by rw [Int32.lt_iff_toInt_lt]; omega)
      · exact (nI_ltI (by omega) (by omega)).mpr ((lN_lt (by omega) (by omega)).mp q.2)
    · exact (lN_lt (by omega) (by omega)).mpr ((nI_ltI (by omega) (by omega)).mp q)
  · rw [if_neg e]
    exact decide_eq_decide.mpr ⟨fun q => q.elim id (fun z => absurd z.1 e), Or.inl⟩
/-- a task that nothing has changed -/
theorem cp_t.keep {C' s : Nat} (h : cp_t nL C F G sp s) (hC : C ≤ C') (f0 : F' 0 s = F 0 s) (f1 : F' 1 s = F 1 s) (f3 : F' 3 s = F 3 s) (f4 : F' 4 s = F 4 s) (f5 : F' 5 s = F 5 s) (f6 : F' 6 s = F 6 s) (f7 : F' 7 s = F 7 s) (g0 : G' 0 s = G 0 s) (g1 : G' 1 s = G 1 s) (g2 : G' 2 s = G 2 s) (g3 : G' 3 s = G 3 s) (g4 : G' 4 s = G 4 s) (g5 : G' 5 s = G 5 s) (gs : sp' s = sp s)
    (f8 : F 0 s = 2 → ∀ k o, k < nL → o < 16 → F 4 s = nI k → F 8 k = nI o → ∃ o', o' < 16 ∧ F' 8 k = nI o') : cp_t nL C' F' G' sp' s := by
  obtain ⟨c0, c1, c2, c3, c4, c5, c6, c7, c8, c9, c10, c11⟩ := h
  unfold cp_t
  rw [f0, f1, f3, f4, f5, f6, f7, g0, g1, g2, g3, g4, g5, gs]
  refine ⟨c0, c1, c2, fun q => ?_, c4, c5, fun q => ?_, c7, c8, c9, c10, c11⟩
  · obtain ⟨c, a, b⟩ := c3 q
    exact ⟨c, by omega, b⟩
  · obtain ⟨k, o, hk, ho, e1, e2⟩ := c6 q
    obtain ⟨o', ho', e3⟩ := f8 q k o hk ho e1 e2
    exact ⟨k, o', hk, ho', e1, e3⟩
theorem cp_s.keep (h : cp_s nL nC nB F G) (f8 : F' 8 = F 8) (f9 : F' 9 = F 9) (f10 : F' 10 = F 10) (f11 : F' 11 = F 11) (g6 : G' 6 = G 6) (g7 : G' 7 = G 7) (g8 : G' 8 = G 8) (g9 : G' 9 = G 9) : cp_s nL nC nB F' G' := by
  unfold cp_s
  rw [f8, f9, f10, f11, g6, g7, g8, g9]
  exact h
/-- the chain is the same where no task has come to wait for a lock, or has ceased to -/
theorem xs_hd_same {t : Nat} (h0 : ∀ s, ¬ s = t → F' 0 s = F 0 s) (h4 : ∀ s, ¬ s = t → F' 4 s = F 4 s) (h8 : F' 8 = F 8) (a : ¬ F 0 t = 2) (b : ¬ F' 0 t = 2) : ∀ s, xs_hd nL F s = xs_hd nL F' s := by
  intro s
  unfold xs_hd
  by_cases e : s = t
  · subst e
    rw [if_neg (fun q => a q.1), if_neg (fun q => b q.1)]
  · rw [h0 s e, h4 s e, h8]
end CPA
/-! one task changes, the others stay -/
def cp_o (F F' G G' : Nat → Nat → Int32) (sp sp' : Nat → Int64) (t : Nat) : Prop := ∀ s, ¬ s = t → F' 0 s = F 0 s ∧ F' 1 s = F 1 s ∧ F' 3 s = F 3 s ∧ F' 4 s = F 4 s ∧ F' 5 s = F 5 s ∧ F' 6 s = F 6 s ∧ F' 7 s = F 7 s ∧ G' 0 s = G 0 s ∧ G' 1 s = G 1 s ∧ G' 2 s = G 2 s ∧ G' 3 s = G 3 s ∧ G' 4 s = G 4 s ∧ G' 5 s = G 5 s ∧ sp' s = sp s
section CPB
variable {nL nC nB n n' C t : Nat} {F F' G G' : Nat → Nat → Int32} {sp sp' : Nat → Int64} {ls ls' : Int32} {ck ck' : Int64}
theorem cp.one (h : cp nL nC nB n F ls G sp ck) (ho : cp_o F F' G G' sp sp' t) (h8 : ∀ s, s < 16 → ¬ s = t → F 0 s = 2 → ∀ k o, k < nL → o < 16 → F 4 s = nI k → F 8 k = nI o → ∃ o', o' < 16 ∧ F' 8 k = nI o') (hs : cp_s nL nC nB F' G') (hE : pq_Eff (xs_hd nL F') (F' 1) (F' 2))
    (hC : ∀ C, C ≤ n → ls = nI C → ck = lN C → cp_t nL C F G sp t → ∃ C', C ≤ C' ∧ C' ≤ n' ∧ ls' = nI C' ∧ ck' = lN C' ∧ cp_t nL C' F' G' sp' t) (ht : t < 16) : cp nL nC nB n' F' ls' G' sp' ck' := by
  obtain ⟨⟨C, a1, a2, a3, a4⟩, -, -⟩ := h
  obtain ⟨C', b1, b2, b3, b4, b5⟩ := hC C a1 a2 a3 (a4 t ht)
  refine ⟨⟨C', b2, b3, b4, fun s h16 => ?_⟩, hs, hE⟩
  by_cases e : s = t
  · rw [e]; exact b5
  · obtain ⟨f0, f1, f3, f4, f5, f6, f7, g0, g1, g2, g3, g4, g5, gs⟩ := ho s e
    exact (a4 s h16).keep b1 f0 f1 f3 f4 f5 f6 f7 g0 g1 g2 g3 g4 g5 gs (h8 s h16 e)
/-- the clock's next number -/
theorem cp_clk {P : Nat → Prop} (hn : n + 1 ≤ n') (h1 : ls' = ls + 1) (h2 : ck' = ck + 1) (C : Nat) (hC : C ≤ n) (e1 : ls = nI C) (e2 : ck = lN C) (hP : P (C + 1)) : ∃ C', C ≤ C' ∧ C' ≤ n' ∧ ls' = nI C' ∧ ck' = lN C' ∧ P C' :=
  ⟨C + 1, by omega, by omega, by rw [h1, e1]; exact nI_1 C, by rw [h2, e2]; exact lN_1 C, hP⟩
theorem cp_t_rd {b g : Int32} (hb : F' 1 t = b) (hb' : G' 1 t = b) (e0 : F' 0 t = 1) (g0 : G' 0 t = 1) (e3 : F' 3 t = nI C) (gs : sp' t = lN C) (e4 : F' 4 t = -1) (e5 : F' 5 t = 0) (e6 : F' 6 t = g) (g5 : G' 5 t = g) : cp_t nL C F' G' sp' t := by
  unfold cp_t
  rw [e0, g0, hb, hb', e3, gs, e4, e5, e6, g5]
  exact ⟨rfl, rfl, fun q => absurd q (by decide), fun _ => ⟨C, Nat.le_refl C, rfl, rfl⟩, fun q => absurd q.1 (by decide), fun _ => rfl, fun q => absurd q (by decide), fun q => absurd q (by decide), fun _ => rfl, rfl, fun q => absurd q (by decide), fun q => absurd q (by decide)⟩
theorem cp_t_wt {st tg b g : Int32} (hw : sp_wt st) (hb : F' 1 t = b) (hb' : G' 1 t = b) (e0 : F' 0 t = st) (g0 : G' 0 t = st) (e3 : F' 3 t = nI C) (gs : sp' t = lN C) (e4 : F' 4 t = tg) (g2 : G' 2 t = tg) (e5 : F' 5 t = 0) (e6 : F' 6 t = g) (g5 : G' 5 t = g) (h2 : st = 2 → ∃ k o, k < nL ∧ o < 16 ∧ tg = nI k ∧ F' 8 k = nI o) (h4 : st = 4 → F' 7 t = G' 4 t) : cp_t nL C F' G' sp' t := by
  have h0 : ¬ st = 0 := fun q => by rw [q] at hw; exact absurd hw.1 (by decide)
  have h6 : ¬ st = 6 := fun q => by rw [q] at hw; exact absurd hw.2 (by decide)
  unfold cp_t
  rw [e0, g0, hb, hb', e3, gs, e4, g2, e5, e6, g5]
  exact ⟨rfl, rfl, fun q => absurd q h0, fun _ => ⟨C, Nat.le_refl C, rfl, rfl⟩, fun _ => rfl, fun q => absurd hw q, h2, fun q => absurd q h6, fun _ => rfl, rfl, fun q => absurd q h0, h4⟩
theorem cp_t_sl {m : Nat} {b g : Int32} (hb : F' 1 t = b) (hb' : G' 1 t = b) (e0 : F' 0 t = 6) (g0 : G' 0 t = 6) (e3 : F' 3 t = nI C) (gs : sp' t = lN C) (e4 : F' 4 t = -1) (h1 : 1 ≤ m) (h2 : m ≤ 1000) (e5 : F' 5 t = nI m) (g3 : G' 3 t = nI m) (e6 : F' 6 t = g) (g5 : G' 5 t = g) : cp_t nL C F' G' sp' t := by
  unfold cp_t
  rw [e0, g0, hb, hb', e3, gs, e4, e5, g3, e6, g5]
  exact ⟨rfl, rfl, fun q => absurd q (by decide), fun _ => ⟨C, Nat.le_refl C, rfl, rfl⟩, fun q => absurd q.2 (by decide), fun _ => rfl, fun q => absurd q (by decide), fun _ => ⟨m, h1, h2, rfl, rfl⟩, fun q => absurd rfl q, rfl, fun q => absurd q (by decide), fun q => absurd q (by decide)⟩
theorem cp_t_fr (e0 : F' 0 t = 0) (g0 : G' 0 t = 0) (hb : F' 1 t = 0) (hb' : G' 1 t = 0) (e4 : F' 4 t = -1) (e5 : F' 5 t = 0) (e6 : F' 6 t = 0) (g5 : G' 5 t = 0) : cp_t nL C F' G' sp' t := by
  unfold cp_t
  rw [e0, g0, hb, hb', e4, e5, e6, g5]
  exact ⟨rfl, rfl, fun _ => rfl, fun q => absurd rfl q, fun q => absurd q.1 (by decide), fun _ => rfl, fun q => absurd q (by decide), fun q => absurd q (by decide), fun _ => rfl, rfl, fun _ => rfl, fun q => absurd q (by decide)⟩
theorem cp.ow (h : cp nL nC nB n F ls G sp ck) : xs_ow nL (F 8) := h.2.1.2.1
theorem cp.more (h : cp nL nC nB n F ls G sp ck) (hn : n ≤ n') : cp nL nC nB n' F ls G sp ck := by
  obtain ⟨⟨C, a1, a2⟩, h2⟩ := h
  exact ⟨⟨C, by omega, a2⟩, h2⟩
/-- the one that runs, or one that waits, is not free; its rows -/
theorem cp.ok (h : cp nL nC nB n F ls G sp ck) {st tx : Int32} (hx : xs_fm F st tx = some t) : t < 16 ∧ F 0 t = st ∧ F 4 t = tx := by
  have q := pq_pick_lt hx
  exact ⟨q.1, of_decide_eq_true q.2⟩
end CPB
