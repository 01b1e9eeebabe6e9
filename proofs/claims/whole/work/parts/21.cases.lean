/-! CASE BY CASE: what X and M answer to the same call, and what they hold then -/
/-- which number a wrapper of the law gives for an exception -/
def lk3 (a b c E : String) : Int32 := if E = a then 1 else if E = b then 2 else if E = c then 3 else 0
theorem pq_upd_i {f : Nat → Int32} {k : Nat} {x y : Int32} (h : x = y) : upd f k x = upd f k y := by rw [h]
section CSA
variable {nL nC nB n n' C t k : Nat} {F F' G G' : Nat → Nat → Int32} {sp sp' : Nat → Int64} {ls ls' x y r b : Int32} {ck ck' : Int64} {u : xS} {v : mS} {E : String}
theorem cp.m10 {E : Nat → Int32} (h : cp nL nC nB n F ls G sp ck) : cp nL nC nB n F ls (va_up G 10 E) sp ck := h
/-- X threw, and M told the same; nothing has changed -/
def cs_X (nL nC nB n : Nat) (F : Nat → Nat → Int32) (ls c : Int32) (v : mS) : Prop := v.2.2.1 = c ∧ ¬ c = 0 ∧ cp nL nC nB n F ls v.1 v.2.1 v.2.2.2
/-- X answered r, M b; they are equal, and so is what they hold -/
def cs_R (nL nC nB n : Nat) (r b : Int32) (u : xS) (v : mS) : Prop := v.2.2.1 = 0 ∧ r = b ∧ cp nL nC nB n u.1 u.2 v.1 v.2.1 v.2.2.2
theorem cs_nI {i j : Nat} (hi : i < 2 ^ 31) (hj : j < 2 ^ 31) (e : x = nI i) (e2 : x = nI j) : j = i := (nI_eq hj hi).mp (e2.symm.trans e)
theorem cp.g0 (h : cp nL nC nB n F ls G sp ck) (ht : t < 16) : F 0 t = G 0 t := by
  obtain ⟨⟨C, -, -, -, q⟩, -⟩ := h
  exact (q t ht).1
theorem cs_create_x (h : cp nL nC nB n F ls G sp ck) (hx : sx_create F x y E) (hm : mp_create G sp ck x y b v) : cs_X nL nC nB n F ls (lk3 xE_I xE_A xE_S E) v := by
  rcases hx with ⟨e, hx⟩ | ⟨e, hx, hy⟩ | ⟨e, hy, t, h16, et, h0⟩
  · rcases hm with ⟨-, rfl⟩ | ⟨q, -⟩ | ⟨-, t, a, q, -⟩ | ⟨-, t, E2, nx, a, q, -⟩
    · rw [e]; exact ⟨rfl, by decide, h⟩
    · exact absurd q hx
    · exact absurd ⟨t, a, q⟩ hx
    · exact absurd ⟨t, a, q⟩ hx
  · rcases hm with ⟨q, -⟩ | ⟨-, -, rfl⟩ | ⟨q, -⟩ | ⟨q, -⟩
    · exact absurd hx q
    · rw [e]; exact ⟨rfl, by decide, h⟩
    · exact absurd q hy
    · exact absurd q hy
  · have hg : ¬ G 0 t = 0 := by rw [← h.g0 h16]; exact h0
    rcases hm with ⟨q, -⟩ | ⟨-, q, -⟩ | ⟨-, t', a, q, -, rfl⟩ | ⟨-, t', E2, nx, a, q, z, -⟩
    · exact absurd ⟨t, h16, et⟩ q
    · exact absurd hy q
    · rw [e]; exact ⟨rfl, by decide, h⟩
    · rw [cs_nI (by omega) (by omega) et q] at z
      exact absurd z hg
theorem cs_create (hn : nL ≤ 8) (hn2 : n' < 2 ^ 30) (hn3 : n + 1 ≤ n') (h : cp nL nC nB n F ls G sp ck) (hx : sp_create nL F ls x y r u) (hm : mp_create G sp ck x y b v) : cs_R nL nC nB n' r b u v := by
  obtain ⟨t, E2, h16, et, hy, h0, hE, rfl, hr⟩ := hx
  have hg : G 0 t = 0 := by rw [← h.g0 h16]; exact h0
  rcases hm with ⟨q, -⟩ | ⟨-, q, -⟩ | ⟨-, t', a, q, z, -⟩ | ⟨-, t', E3, nx, a, q, -, hfo, rfl, hb⟩
  · exact absurd ⟨t, h16, et⟩ q
  · exact absurd hy q
  · rw [cs_nI (by omega) (by omega) et q] at z
    exact absurd hg z
  · have e2 := cs_nI (by omega) (by omega) et q
    subst e2
    have hc : cp nL nC nB n' (va_up (xs_rd (va_up F 1 (upd (F 1) t' y)) ls t') 2 E2) (ls + 1) (ms_en (va_up (va_up G 1 (upd (G 1) t' y)) 5 (upd (G 5) t' 0)) t' 1 0) (vp_updL sp t' (ck + 1)) (ck + 1) := by
      refine h.one (t := t') (fun s e => ?_) (fun s _ e _ k o hk ho _ z => ⟨o, ho, z⟩) (h.2.1.keep rfl rfl rfl rfl rfl rfl rfl rfl) hE (fun C hC e1 e2 hct => cp_clk hn3 rfl rfl C hC e1 e2 ?_) h16
      · refine ⟨?_, ?_, ?_, ?_, ?_, ?_, ?_, ?_, ?_, ?_, ?_, ?_, ?_, ?_⟩ <;> first | rfl | exact pk_un e | exact pk_uLn e
      · exact cp_t_rd (b := y) pk_us pk_us pk_us pk_us (by show upd (F 3) t' (ls + 1) t' = _; rw [pk_us, e1]; exact nI_1 C) (by rw [pk_uLs, e2]; exact lN_1 C) pk_us pk_us (show F 6 t' = 0 from hct.2.2.2.2.2.2.2.2.2.2.1 h0) pk_us
    refine ⟨rfl, ?_, hc⟩
    rw [hr, hb, hc.fo hn hn2 (Or.inl ⟨rfl, rfl⟩) hfo]
theorem cs_priority_x (h : cp nL nC nB n F ls G sp ck) (hx : sx_priority F x y E) (hm : mp_priority G sp ck x y b v) : cs_X nL nC nB n F ls (lk3 xE_I xE_A xE_S E) v := by
  rcases hx with ⟨e, hx⟩ | ⟨e, hx, hy⟩ | ⟨e, hy, t, h16, et, h0⟩
  · rcases hm with ⟨-, rfl⟩ | ⟨q, -⟩ | ⟨-, t, a, q, -⟩ | ⟨-, t, a, q, -⟩
    · rw [e]; exact ⟨rfl, by decide, h⟩
    · exact absurd q hx
    · exact absurd ⟨t, a, q⟩ hx
    · exact absurd ⟨t, a, q⟩ hx
  · rcases hm with ⟨q, -⟩ | ⟨-, -, rfl⟩ | ⟨q, -⟩ | ⟨q, -⟩
    · exact absurd hx q
    · rw [e]; exact ⟨rfl, by decide, h⟩
    · exact absurd q hy
    · exact absurd q hy
  · have hg : G 0 t = 0 := by rw [← h.g0 h16]; exact h0
    rcases hm with ⟨q, -⟩ | ⟨-, q, -⟩ | ⟨-, t', a, q, -, rfl⟩ | ⟨-, t', a, q, z, -⟩
    · exact absurd ⟨t, h16, et⟩ q
    · exact absurd hy q
    · rw [e]; exact ⟨rfl, by decide, h⟩
    · rw [cs_nI (by omega) (by omega) et q] at z
      exact absurd hg z
theorem cs_priority (h : cp nL nC nB n F ls G sp ck) (hx : sp_priority nL F ls x y r u) (hm : mp_priority G sp ck x y b v) : cs_R nL nC nB n r b u v := by
  obtain ⟨t, E2, h16, et, hy, h0, hE, rfl, hr⟩ := hx
  have hg : ¬ G 0 t = 0 := by rw [← h.g0 h16]; exact h0
  rcases hm with ⟨q, -⟩ | ⟨-, q, -⟩ | ⟨-, t', a, q, z, -⟩ | ⟨-, t', a, q, -, rfl, hb⟩
  · exact absurd ⟨t, h16, et⟩ q
  · exact absurd hy q
  · rw [cs_nI (by omega) (by omega) et q] at z
    exact absurd z hg
  · have e2 := cs_nI (by omega) (by omega) et q
    subst e2
    refine ⟨rfl, ?_, ?_⟩
    · obtain ⟨⟨C, -, -, -, ht⟩, -⟩ := h
      rw [hr, hb]; exact (ht t' h16).2.1
    · refine h.one (t := t') (fun s e => ?_) (fun s _ e _ k o hk ho _ z => ⟨o, ho, z⟩) (h.2.1.keep rfl rfl rfl rfl rfl rfl rfl rfl) hE (fun C hC e1 e2 hct => ⟨C, Nat.le_refl C, hC, e1, e2, ?_⟩) h16
      · refine ⟨?_, ?_, ?_, ?_, ?_, ?_, ?_, ?_, ?_, ?_, ?_, ?_, ?_, ?_⟩ <;> first | rfl | exact pk_un e | exact pk_uLn e
      · obtain ⟨c0, -, -, c3, c4, c5, c6, c7, c8, c9, c10, c11⟩ := hct
        exact ⟨c0, by show upd (F 1) t' y t' = upd (G 1) t' y t'; rw [pk_us, pk_us], fun q => absurd q h0, c3, c4, c5, c6, c7, c8, c9, c10, c11⟩
/-- the chains are one -/
theorem cp.ww (hn : nL ≤ 8) (h : cp nL nC nB n F ls G sp ck) (hk : k < nL) : ms_ww G t k ↔ xs_ww nL F t k := by
  have e : ∀ j, ms_ch G k j = xs_ch nL F k j := by
    intro j
    unfold ms_ch xs_ch
    rw [← h.2.1.1 k hk]
    cases q : pq_dec (F 8 k) with
    | none => rfl
    | some o =>
      show pq_it (ms_h G) j o = pq_it (xs_hd nL F) j o
      exact (pq_it_congr (xs_hd_lt hn h.ow) (h.hd hn) ((h.ow.dec hk).2 o q) j).symm
  refine ⟨fun ⟨j, hj, ej⟩ => ?_, fun ⟨j, hj, ej⟩ => ⟨j, by omega, (e j).trans ej⟩⟩
  rw [e j] at ej
  unfold xs_ch at ej
  cases q : pq_dec (F 8 k) with
  | none => rw [q] at ej; cases ej
  | some o =>
    rw [q] at ej
    obtain ⟨j', hj', ej'⟩ := pq_short (xs_hd_lt hn h.ow) ((h.ow.dec hk).2 o q) j t ej
    refine ⟨j', by omega, ?_⟩
    unfold xs_ch
    rw [q]
    exact ej'
theorem cp.run (hn : nL ≤ 8) (hn2 : n < 2 ^ 30) (h : cp nL nC nB n F ls G sp ck) {E : Nat → Int32} {nx : Option Nat} (hf : ms_fo G sp 1 0 E nx) : nx = xs_fm F 1 (-1) := h.fo hn hn2 (Or.inl ⟨rfl, rfl⟩) hf
theorem cs_lock_x (hn : nL ≤ 8) (hn2 : n < 2 ^ 30) (h : cp nL nC nB n F ls G sp ck) (hx : sx_lock nL F x E) (hm : mp_lock nL G sp ck x b v) : cs_X nL nC nB n F ls (lk3 xE_I xE_S xE_A E) v := by
  obtain ⟨E2, nx, hf, hm⟩ := hm
  have hnx := h.run hn hn2 hf
  rcases hx with ⟨e, hx⟩ | ⟨e, hx, hy⟩ | ⟨e, k, t, hk, ek, ht, hw⟩
  · rcases hm with ⟨-, rfl⟩ | ⟨q, -⟩ | ⟨k, t, a, q, -⟩
    · rw [e]; exact ⟨rfl, by decide, h⟩
    · exact absurd q hx
    · exact absurd ⟨k, a, q⟩ hx
  · rcases hm with ⟨q, -⟩ | ⟨-, -, rfl⟩ | ⟨k, t, -, -, -, q, -⟩
    · exact absurd hx q
    · rw [e]; exact ⟨rfl, by decide, h⟩
    · rw [hnx, hy] at q; cases q
  · rcases hm with ⟨q, -⟩ | ⟨-, q, -⟩ | ⟨k', t', a, q, -, q2, hm⟩
    · exact absurd ⟨k, hk, ek⟩ q
    · rw [hnx, ht] at q; cases q
    · have e1 := cs_nI (by omega) (by omega) ek q
      rw [hnx, ht] at q2
      cases q2
      subst e1
      rcases hm with ⟨-, rfl⟩ | ⟨z, -⟩ | ⟨z, -⟩
      · rw [e]; exact ⟨rfl, by decide, h⟩
      · exact absurd ((h.ww hn hk).mpr hw) z
      · exact absurd ((h.ww hn hk).mpr hw) z
/-- an owner comes to a lock that has none: the chains stay -/
theorem cp.take (hk : k < nL) (ht : t < 16) (hn : nL ≤ 8) (h : cp nL nC nB n F ls G sp ck) (h1 : F 8 k = -1) {E : Nat → Int32} : cp nL nC nB n (va_up F 8 (upd (F 8) k (nI t))) ls (va_up (va_up G 10 E) 6 (upd (G 6) k (nI t))) sp ck := by
  have hne : ∀ s, s < 16 → F 0 s = 2 → ∀ i o, i < nL → o < 16 → F 4 s = nI i → F 8 i = nI o → ¬ i = k := by
    intro s _ _ i o _ ho _ e q
    rw [q, h1] at e
    exact pq_m1 (by omega) e.symm
  have hE := h.2.2
  obtain ⟨⟨C, a1, a2, a3, a4⟩, hs, -⟩ := id h
  refine ⟨⟨C, a1, a2, a3, fun s h16 => (a4 s h16).keep (Nat.le_refl C) rfl rfl rfl rfl rfl rfl rfl rfl rfl rfl rfl rfl rfl rfl (fun q i o hi ho e1 e2 => ⟨o, ho, ?_⟩)⟩, ⟨fun i hi => ?_, xs_ow_up hs.2.1 (Or.inr ⟨t, ht, rfl⟩), xs_ow_up hs.2.2.1 (Or.inr ⟨t, ht, rfl⟩), hs.2.2.2⟩, ?_⟩
  · show upd (F 8) k (nI t) i = nI o
    rw [pk_un (hne s h16 q i o hi ho e1 e2)]
    exact e2
  · show upd (F 8) k (nI t) i = upd (G 6) k (nI t) i
    unfold upd
    split
    · rfl
    · exact hs.1 i hi
  · refine pq_Eff.congr (xs_hd_lt hn hs.2.1) (fun s h16 => ?_) (fun _ _ => rfl) (fun _ _ => rfl) hE
    unfold xs_hd
    by_cases e : F 0 s = 2
    · obtain ⟨i, o, hi, ho, e1, e2⟩ := (a4 s h16).2.2.2.2.2.2.1 e
      show (if F 0 s = 2 ∧ ¬ F 4 s < 0 ∧ ¬ nI nL ≤ F 4 s then pq_dec (F 8 (F 4 s).toNatClampNeg) else none) = (if F 0 s = 2 ∧ ¬ F 4 s < 0 ∧ ¬ nI nL ≤ F 4 s then pq_dec (upd (F 8) k (nI t) (F 4 s).toNatClampNeg) else none)
      rw [e1, nI_clamp (by omega), pk_un (hne s h16 e i o hi ho e1 e2)]
    · show (if F 0 s = 2 ∧ ¬ F 4 s < 0 ∧ ¬ nI nL ≤ F 4 s then pq_dec (F 8 (F 4 s).toNatClampNeg) else none) = (if F 0 s = 2 ∧ ¬ F 4 s < 0 ∧ ¬ nI nL ≤ F 4 s then pq_dec (upd (F 8) k (nI t) (F 4 s).toNatClampNeg) else none)
      rw [if_neg (fun q => e q.1), if_neg (fun q => e q.1)]
/-- the one that runs comes to wait for something (not a lock): its rows; it may hold a word -/
theorem cp.wait (hn : nL ≤ 8) (hn3 : n + 1 ≤ n') (h : cp nL nC nB n F ls G sp ck) (hr : xs_fm F 1 (-1) = some t) {st tg : Int32} (hw : sp_wt st) (h2 : ¬ st = 2) {E R Q : Nat → Int32} (h7 : ∀ s, ¬ s = t → R s = F 7 s) (g4 : ∀ s, ¬ s = t → Q s = G 4 s) (e7 : R t = Q t ∨ ¬ st = 4) :
    cp nL nC nB n' (xs_en (va_up F 7 R) ls t st tg) (ls + 1) (ms_en (va_up (va_up G 10 E) 4 Q) t st tg) (vp_updL sp t (ck + 1)) (ck + 1) := by
  obtain ⟨h16, hF0, hF4⟩ := h.ok hr
  refine h.one (t := t) (fun s e => ?_) (fun s _ e _ k o hk ho _ z => ⟨o, ho, z⟩) (h.2.1.keep rfl rfl rfl rfl rfl rfl rfl rfl) ?_ (fun C hC e1 e2 hct => cp_clk hn3 rfl rfl C hC e1 e2 ?_) h16
  · refine ⟨?_, ?_, ?_, ?_, ?_, ?_, ?_, ?_, ?_, ?_, ?_, ?_, ?_, ?_⟩ <;> first | rfl | exact pk_un e | exact pk_uLn e | exact h7 s e | exact g4 s e
  · refine pq_Eff.congr (xs_hd_lt hn h.ow) (fun s _ => xs_hd_same (F := F) (F' := xs_en (va_up F 7 R) ls t st tg) (t := t) (fun s e => pk_un e) (fun s e => pk_un e) rfl (by rw [hF0]; decide) (by show ¬ upd (F 0) t st t = 2; rw [pk_us]; exact h2) s) (fun _ _ => rfl) (fun _ _ => rfl) h.2.2
  · obtain ⟨c0, c1, -, -, -, -, -, -, c8, c9, -⟩ := hct
    exact cp_t_wt hw (b := G 1 t) (g := G 5 t) c1 rfl pk_us pk_us (by show upd (F 3) t (ls + 1) t = _; rw [pk_us, e1]; exact nI_1 C) (by rw [pk_uLs, e2]; exact lN_1 C) pk_us pk_us (c8 (by rw [hF0]; decide)) c9 rfl (fun q => absurd q h2) (fun q => e7.elim (fun z => z) (fun z => absurd q z))
/-- one that waits (for no lock) is ready: its rows; it may have got a word -/
theorem cp.ready (hn : nL ≤ 8) (hn3 : n + 1 ≤ n') (h : cp nL nC nB n F ls G sp ck) {st tg : Int32} (hr : xs_fm F st tg = some t) (h2 : ¬ st = 2) {E R Q : Nat → Int32} (h6 : ∀ s, ¬ s = t → R s = F 6 s) (g5 : ∀ s, ¬ s = t → Q s = G 5 s) (e6 : R t = Q t) :
    cp nL nC nB n' (xs_rd (va_up F 6 R) ls t) (ls + 1) (ms_en (va_up (va_up G 10 E) 5 Q) t 1 0) (vp_updL sp t (ck + 1)) (ck + 1) := by
  obtain ⟨h16, hF0, hF4⟩ := h.ok hr
  refine h.one (t := t) (fun s e => ?_) (fun s _ e _ k o hk ho _ z => ⟨o, ho, z⟩) (h.2.1.keep rfl rfl rfl rfl rfl rfl rfl rfl) ?_ (fun C hC e1 e2 hct => cp_clk hn3 rfl rfl C hC e1 e2 ?_) h16
  · refine ⟨?_, ?_, ?_, ?_, ?_, ?_, ?_, ?_, ?_, ?_, ?_, ?_, ?_, ?_⟩ <;> first | rfl | exact pk_un e | exact pk_uLn e | exact h6 s e | exact g5 s e
  · refine pq_Eff.congr (xs_hd_lt hn h.ow) (fun s _ => xs_hd_same (F := F) (F' := xs_rd (va_up F 6 R) ls t) (t := t) (fun s e => pk_un e) (fun s e => pk_un e) rfl (by rw [hF0]; exact h2) (by show ¬ upd (F 0) t 1 t = 2; rw [pk_us]; decide) s) (fun _ _ => rfl) (fun _ _ => rfl) h.2.2
  · exact cp_t_rd (b := G 1 t) (g := Q t) hct.2.1 rfl pk_us pk_us (by show upd (F 3) t (ls + 1) t = _; rw [pk_us, e1]; exact nI_1 C) (by rw [pk_uLs, e2]; exact lN_1 C) pk_us pk_us e6 rfl
/-- the world is the same where a row is written as it was -/
theorem cp.congr (h : cp nL nC nB n F ls G sp ck) (hF : ∀ i, F' i = F i) (hG : ∀ i, ¬ i = 10 → G' i = G i) : cp nL nC nB n F' ls G' sp ck := by
  have e1 : F' = F := funext hF
  subst e1
  have e0 : cp nL nC nB n F' ls (va_up G 10 (G' 10)) sp ck := h
  have e2 : G' = va_up G 10 (G' 10) := funext fun i => by
    unfold va_up
    split
    · rename_i q; rw [q]
    · exact hG i (by assumption)
  rw [e2]
  exact e0
theorem va_up_id {F : Nat → Nat → Int32} {k : Nat} : va_up F k (F k) = F := funext fun i => by
  unfold va_up
  split
  · rename_i q; rw [q]
  · rfl
theorem cs_lock (hn : nL ≤ 8) (hn2 : n < 2 ^ 30) (hn3 : n + 1 ≤ n') (h : cp nL nC nB n F ls G sp ck) (hx : sp_lock nL F ls x r u) (hm : mp_lock nL G sp ck x b v) : cs_R nL nC nB n' r b u v := by
  obtain ⟨E2, nx, hf, hm⟩ := hm
  have hnx := h.run hn hn2 hf
  obtain ⟨k, t, hk, ek, ht, hfm, hw, hx⟩ := hx
  rcases hm with ⟨q, -⟩ | ⟨-, q, -⟩ | ⟨k', t', a, q, a2, q2, hm⟩
  · exact absurd ⟨k, hk, ek⟩ q
  · rw [hnx, hfm] at q; cases q
  · have e1 := cs_nI (by omega) (by omega) ek q
    rw [hnx, hfm] at q2
    cases q2
    subst e1
    have hg := h.2.1.1 k' hk
    rcases hm with ⟨z, -⟩ | ⟨-, z, rfl, rfl⟩ | ⟨-, z, rfl, rfl⟩
    · exact absurd ((h.ww hn hk).mp z) hw
    · rcases hx with ⟨h1, rfl, rfl⟩ | ⟨h1, -⟩
      · exact ⟨rfl, rfl, (h.take hk ht hn h1).more (by omega)⟩
      · rcases h.ow k' hk with w | ⟨j, hj, w⟩
        · exact absurd w h1
        · rw [← hg, w] at z; exact absurd z (nI_pos (by omega))
    · rcases hx with ⟨h1, -⟩ | ⟨h1, rfl, E3, hE3, rfl⟩
      · rw [← hg, h1] at z; exact absurd (by decide) z
      · refine ⟨rfl, rfl, ?_⟩
        obtain ⟨h16, hF0, hF4⟩ := h.ok hfm
        obtain ⟨o, ho, eo⟩ : ∃ o, o < 16 ∧ F 8 k' = nI o := by
          rcases h.ow k' hk with w | w
          · exact absurd w h1
          · exact w
        refine h.one (t := t) (fun s e => ?_) (fun s _ e _ k o hk ho _ z => ⟨o, ho, z⟩) (h.2.1.keep rfl rfl rfl rfl rfl rfl rfl rfl) hE3 (fun C hC e1 e2 hct => cp_clk hn3 rfl rfl C hC e1 e2 ?_) h16
        · refine ⟨?_, ?_, ?_, ?_, ?_, ?_, ?_, ?_, ?_, ?_, ?_, ?_, ?_, ?_⟩ <;> first | rfl | exact pk_un e | exact pk_uLn e
        · obtain ⟨c0, c1, -, -, -, -, -, -, c8, c9, -⟩ := hct
          exact cp_t_wt (st := 2) (tg := nI k') ⟨by decide, by decide⟩ (b := G 1 t) (g := G 5 t) c1 rfl pk_us pk_us (by show upd (F 3) t (ls + 1) t = _; rw [pk_us, e1]; exact nI_1 C) (by show vp_updL sp t (ck + 1) t = _; rw [pk_uLs, e2]; exact lN_1 C) pk_us pk_us (c8 (by rw [hF0]; decide)) c9 rfl (fun _ => ⟨k', o, hk, ho, rfl, eo⟩) (fun q => absurd q (by decide))
theorem cs_unlock_x (hn : nL ≤ 8) (hn2 : n < 2 ^ 30) (h : cp nL nC nB n F ls G sp ck) (hx : sx_unlock nL F x E) (hm : mp_unlock nL G sp ck x b v) : cs_X nL nC nB n F ls (lk3 xE_I xE_S xE_A E) v := by
  obtain ⟨E2, nx, hf, hm⟩ := hm
  have hnx := h.run hn hn2 hf
  rcases hx with ⟨e, hx⟩ | ⟨e, hx, hy⟩ | ⟨e, k, t, hk, ek, h16, ht, hw⟩
  · rcases hm with ⟨-, rfl⟩ | ⟨q, -⟩ | ⟨k, t, a, q, -⟩
    · rw [e]; exact ⟨rfl, by decide, h⟩
    · exact absurd q hx
    · exact absurd ⟨k, a, q⟩ hx
  · rcases hm with ⟨q, -⟩ | ⟨-, -, rfl⟩ | ⟨k, t, -, -, -, q, -⟩
    · exact absurd hx q
    · rw [e]; exact ⟨rfl, by decide, h⟩
    · rw [hnx, hy] at q; cases q
  · rcases hm with ⟨q, -⟩ | ⟨-, q, -⟩ | ⟨k', t', a, q, -, q2, hm⟩
    · exact absurd ⟨k, hk, ek⟩ q
    · rw [hnx, ht] at q; cases q
    · have e1 := cs_nI (by omega) (by omega) ek q
      rw [hnx, ht] at q2
      cases q2
      subst e1
      rcases hm with ⟨-, rfl⟩ | ⟨z, -⟩
      · rw [e]; exact ⟨rfl, by decide, h⟩
      · exact absurd ((h.2.1.1 k' hk).trans z) hw
theorem cs_unlock (hn : nL ≤ 8) (hn2 : n < 2 ^ 30) (hn3 : n + 1 ≤ n') (h : cp nL nC nB n F ls G sp ck) (hx : sp_unlock nL F ls x r u) (hm : mp_unlock nL G sp ck x b v) : cs_R nL nC nB n' r b u v := by
  obtain ⟨E2, nx, hf, hm⟩ := hm
  have hnx := h.run hn hn2 hf
  obtain ⟨k, t, hk, ek, ht, hfm, hw, hx⟩ := hx
  rcases hm with ⟨q, -⟩ | ⟨-, q, -⟩ | ⟨k', t', a, q, a2, q2, hm⟩
  · exact absurd ⟨k, hk, ek⟩ q
  · rw [hnx, hfm] at q; cases q
  · have e1 := cs_nI (by omega) (by omega) ek q
    rw [hnx, hfm] at q2
    cases q2
    subst e1
    rcases hm with ⟨z, -⟩ | ⟨-, E3, n2, hf2, hm⟩
    · exact absurd ((h.2.1.1 k' hk).symm.trans hw) z
    · have hn2' := h.fo hn hn2 (tx := nI k') (Or.inr ⟨⟨by decide, by decide⟩, rfl⟩) hf2
      rcases hx with ⟨hno, rfl, E4, hE4, rfl⟩ | ⟨j, hj, j16, rfl, E4, hE4, rfl⟩
      · rcases hm with ⟨-, rfl, rfl⟩ | ⟨j, -, q9, -⟩
        · refine ⟨rfl, rfl, ?_⟩
          have hne : ∀ s, s < 16 → F 0 s = 2 → ∀ i, F 4 s = nI i → i < nL → ¬ i = k' := by
            intro s h16 e i e1 hi q
            have w := pq_pick_none hno s h16
            exact (of_decide_eq_false w) ⟨e, by rw [e1, q]⟩
          obtain ⟨⟨C, a1, a2, a3, a4⟩, hs, -⟩ := id h
          refine ⟨⟨C, by omega, a2, a3, fun s h16 => (a4 s h16).keep (Nat.le_refl C) rfl rfl rfl rfl rfl rfl rfl rfl rfl rfl rfl rfl rfl rfl (fun q i o hi ho e1 e2 => ⟨o, ho, ?_⟩)⟩, ⟨fun i hi => ?_, xs_ow_up hs.2.1 (Or.inl rfl), xs_ow_up hs.2.2.1 (Or.inl rfl), hs.2.2.2⟩, hE4⟩
          · show upd (F 8) k' (-1) i = nI o
            rw [pk_un (hne s h16 q i e1 hi)]
            exact e2
          · show upd (F 8) k' (-1) i = upd (G 6) k' (-1) i
            unfold upd
            split
            · rfl
            · exact hs.1 i hi
        · rw [hn2', hno] at q9; cases q9
      · rcases hm with ⟨q9, -⟩ | ⟨j', hj', q9, rfl, rfl⟩
        · rw [hn2', hj] at q9; cases q9
        · rw [hn2', hj] at q9
          cases q9
          refine ⟨rfl, rfl, ?_⟩
          obtain ⟨h16, hF0, hF4⟩ := h.ok hj
          have hs := h.2.1
          refine h.one (t := j) (fun s e => ?_) (fun s _ e _ i o hi ho _ z => ?_) ⟨fun i hi => ?_, xs_ow_up hs.2.1 (Or.inr ⟨j, h16, rfl⟩), xs_ow_up hs.2.2.1 (Or.inr ⟨j, h16, rfl⟩), hs.2.2.2⟩ hE4 (fun C hC e1 e2 hct => cp_clk hn3 rfl rfl C hC e1 e2 ?_) h16
          · refine ⟨?_, ?_, ?_, ?_, ?_, ?_, ?_, ?_, ?_, ?_, ?_, ?_, ?_, ?_⟩ <;> first | rfl | exact pk_un e | exact pk_uLn e
          · by_cases c : i = k'
            · exact ⟨j, h16, by show upd (F 8) k' (nI j) i = nI j; rw [c, pk_us]⟩
            · exact ⟨o, ho, by show upd (F 8) k' (nI j) i = nI o; rw [pk_un c]; exact z⟩
          · show upd (F 8) k' (nI j) i = upd (G 6) k' (nI j) i
            unfold upd
            split
            · rfl
            · exact hs.1 i hi
          · exact cp_t_rd (b := G 1 j) (g := G 5 j) hct.2.1 rfl pk_us pk_us (by show upd (F 3) j (ls + 1) j = _; rw [pk_us, e1]; exact nI_1 C) (by show vp_updL sp j (ck + 1) j = _; rw [pk_uLs, e2]; exact lN_1 C) pk_us pk_us hct.2.2.2.2.2.2.2.2.2.1 rfl
end CSA
