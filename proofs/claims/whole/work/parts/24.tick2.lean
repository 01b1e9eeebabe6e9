/-! TICK: X wakes the soonest sleeper again and again, M goes tick by tick; they wake the same in the same order -/
/-- of those with the least key, the first -/
theorem pq_pick_min {ok : Nat → Bool} {bf : Nat → Nat → Bool} (key : Nat → Nat) : ∀ (n : Nat) {b : Nat}, (∀ i j, i < n → j < n → ok i = true → ok j = true → bf i j = decide (key i < key j)) → pq_pick ok bf n = some b → ∀ t, t < n → ok t = true → key b < key t ∨ (key b = key t ∧ b ≤ t)
  | 0, b, _, h, t, ht, _ => absurd ht (Nat.not_lt_zero t)
  | n + 1, b, hb, h, t, ht, hok => by
    unfold pq_pick at h
    cases e : pq_pick ok bf n with
    | none =>
      rw [e] at h
      dsimp only at h
      have hno := pq_pick_none e
      rcases Nat.lt_or_eq_of_le (Nat.le_of_lt_succ ht) with q | q
      · rw [hno t q] at hok; cases hok
      · subst q
        rw [if_pos hok] at h
        cases h
        exact Or.inr ⟨rfl, Nat.le_refl _⟩
    | some c =>
      rw [e] at h
      dsimp only at h
      have hc := pq_pick_lt e
      have ih := pq_pick_min key n (fun i j hi hj => hb i j (by omega) (by omega)) e
      cases ho : ok n with
      | false =>
        rw [ho] at h
        cases h
        rcases Nat.lt_or_eq_of_le (Nat.le_of_lt_succ ht) with q | q
        · exact ih t q hok
        · subst q; rw [ho] at hok; cases hok
      | true =>
        rw [ho, hb n c (by omega) (by omega) ho hc.2] at h
        by_cases k : key n < key c
        · rw [decide_eq_true k] at h
          cases h
          rcases Nat.lt_or_eq_of_le (Nat.le_of_lt_succ ht) with q | q
          · have a := ih t q hok
            exact Or.inl (by omega)
          · subst q; exact Or.inr ⟨rfl, Nat.le_refl _⟩
        · rw [decide_eq_false k] at h
          cases h
          rcases Nat.lt_or_eq_of_le (Nat.le_of_lt_succ ht) with q | q
          · exact ih t q hok
          · subst q
            rcases Nat.lt_or_ge (key b) (key t) with w | w
            · exact Or.inl w
            · exact Or.inr ⟨by omega, by omega⟩
theorem pq_cnt_mono {p q : Nat → Bool} : ∀ (n : Nat), (∀ t, t < n → p t = true → q t = true) → pq_cnt p n ≤ pq_cnt q n
  | 0, _ => Nat.le_refl 0
  | n + 1, h => by
    have ih := pq_cnt_mono n (fun t ht => h t (by omega))
    unfold pq_cnt
    cases e : p n with
    | false => simp; omega
    | true => rw [h n (by omega) e]; simp; omega
theorem pq_cnt_full {p : Nat → Bool} : ∀ (n : Nat), n ≤ pq_cnt p n → ∀ t, t < n → p t = true
  | 0, _, t, ht => absurd ht (Nat.not_lt_zero t)
  | n + 1, h, t, ht => by
    have a := pq_cnt_le p n
    have b : pq_cnt p (n + 1) = pq_cnt p n + (if p n then 1 else 0) := rfl
    cases e : p n with
    | false => rw [b, e] at h; simp at h; omega
    | true =>
      rcases Nat.lt_or_eq_of_le (Nat.le_of_lt_succ ht) with q | q
      · exact pq_cnt_full n (by rw [b, e] at h; simp at h; omega) t q
      · rw [q]; exact e
/-- before: by ticks, then by number -/
def tk_lt (T : Nat → Nat) (s t : Nat) : Prop := T s < T t ∨ (T s = T t ∧ s < t)
/-- what X's rows hold when those of wk are woken -/
def xt_I (F : Nat → Nat → Int32) (ls : Int32) (T : Nat → Nat) (m : Nat) (wk : Nat → Bool) (F' : Nat → Nat → Int32) (ls' : Int32) : Prop :=
  ls' = ls + nI (pq_cnt wk 16) ∧ (∀ i, ¬ i = 0 → ¬ i = 3 → ¬ i = 4 → ¬ i = 5 → F' i = F i) ∧ (∀ s t, s < 16 → t < 16 → wk t = true → F 0 s = 6 → tk_lt T s t → wk s = true) ∧
  ∀ t, t < 16 → (wk t = true → F 0 t = 6 ∧ T t ≤ m ∧ F' 0 t = 1 ∧ F' 3 t = ls + nI (tk_rk (F 0) T t + 1) ∧ F' 4 t = -1 ∧ F' 5 t = 0) ∧ (wk t = false → F' 0 t = F 0 t ∧ F' 3 t = F 3 t ∧ F' 4 t = F 4 t ∧ F' 5 t = F 5 t)
theorem xs_wk_0 {many : Int32} {n : Nat} {F : Nat → Nat → Int32} {ls : Int32} (e : xs_sl F = none) : xs_wk many (n + 1) (F, ls) = (0, (F, ls)) := by
  show (match xs_sl F with
    | none => (0, (F, ls))
    | some t => _) = _
  rw [e]
theorem xs_wk_1 {many : Int32} {n b : Nat} {F : Nat → Nat → Int32} {ls : Int32} (e : xs_sl F = some b) (c : F 5 b ≤ many) : xs_wk many (n + 1) (F, ls) = ((xs_wk many n (xs_rd F ls b, ls + 1)).1 + 1, (xs_wk many n (xs_rd F ls b, ls + 1)).2) := by
  show (match xs_sl F with
    | none => (0, (F, ls))
    | some t => if F 5 t ≤ many then ((xs_wk many n (xs_rd F ls t, ls + 1)).1 + 1, (xs_wk many n (xs_rd F ls t, ls + 1)).2) else (0, (F, ls))) = _
  rw [e]
  exact if_pos c
theorem xs_wk_2 {many : Int32} {n b : Nat} {F : Nat → Nat → Int32} {ls : Int32} (e : xs_sl F = some b) (c : ¬ F 5 b ≤ many) : xs_wk many (n + 1) (F, ls) = (0, (F, ls)) := by
  show (match xs_sl F with
    | none => (0, (F, ls))
    | some t => if F 5 t ≤ many then ((xs_wk many n (xs_rd F ls t, ls + 1)).1 + 1, (xs_wk many n (xs_rd F ls t, ls + 1)).2) else (0, (F, ls))) = _
  rw [e]
  exact if_neg c
theorem xt_wk {F : Nat → Nat → Int32} {ls : Int32} {T : Nat → Nat} {m : Nat} (hm : m ≤ 1000) (hT : tk_T (F 0) (F 5) T) : ∀ (n : Nat) (wk : Nat → Bool) (F' : Nat → Nat → Int32) (ls' : Int32), 16 ≤ n + pq_cnt wk 16 → xt_I F ls T m wk F' ls' →
    ∃ wk', xt_I F ls T m wk' (xs_wk (nI m) n (F', ls')).2.1 (xs_wk (nI m) n (F', ls')).2.2 ∧ (xs_wk (nI m) n (F', ls')).1 + pq_cnt wk 16 = pq_cnt wk' 16 ∧ ∀ t, t < 16 → wk' t = tk_w (F 0) T m 0 t := by
  have hyes : ∀ {wk : Nat → Bool} {F' : Nat → Nat → Int32} {ls' : Int32}, xt_I F ls T m wk F' ls' → ∀ t, t < 16 → wk t = true → wk t = tk_w (F 0) T m 0 t := fun h t ht e => by
    obtain ⟨a, b, -⟩ := (h.2.2.2 t ht).1 e
    rw [e]
    exact (decide_eq_true ⟨a, Or.inl b⟩).symm
  intro n
  induction n with
  | zero =>
    intro wk F' ls' hc h
    have hall := pq_cnt_full 16 (show 16 ≤ pq_cnt wk 16 by rw [Nat.zero_add] at hc; exact hc)
    exact ⟨wk, h, Nat.zero_add _, fun t ht => hyes h t ht (hall t ht)⟩
  | succ n ih =>
    intro wk F' ls' hc h
    cases e : xs_sl F' with
    | none =>
      rw [xs_wk_0 e]
      refine ⟨wk, h, Nat.zero_add _, fun t ht => ?_⟩
      cases w : wk t with
      | true => rw [← w]; exact hyes h t ht w
      | false =>
        have a := (h.2.2.2 t ht).2 w
        have b := of_decide_eq_false (pq_pick_none e t ht)
        rw [a.1] at b
        exact (decide_eq_false (fun q => b q.1)).symm
    | some b =>
      obtain ⟨hb16, hb6⟩ := pq_pick_lt e
      have hb6 := of_decide_eq_true hb6
      have hwb : wk b = false := by
        cases w : wk b with
        | false => rfl
        | true =>
          have a := ((h.2.2.2 b hb16).1 w).2.2.1
          rw [a] at hb6
          exact absurd hb6 (by decide)
      obtain ⟨b0, b3, b4, b5⟩ := (h.2.2.2 b hb16).2 hwb
      have hF6 : F 0 b = 6 := b0.symm.trans hb6
      have six : ∀ t, t < 16 → F' 0 t = 6 → F 0 t = 6 ∧ wk t = false ∧ F' 5 t = nI (T t) ∧ T t ≤ 1000 := by
        intro t ht e6
        cases w : wk t with
        | true =>
          have a := ((h.2.2.2 t ht).1 w).2.2.1
          rw [a] at e6
          exact absurd e6 (by decide)
        | false =>
          obtain ⟨c0, -, -, c5⟩ := (h.2.2.2 t ht).2 w
          have z := c0.symm.trans e6
          obtain ⟨d1, -, d3⟩ := hT t ht z
          exact ⟨z, rfl, c5.trans d1, d3⟩
      have hmin := pq_pick_min T 16 (fun i j hi hj oi oj => by
        obtain ⟨-, -, ei, li⟩ := six i hi (of_decide_eq_true oi)
        obtain ⟨-, -, ej, lj⟩ := six j hj (of_decide_eq_true oj)
        show decide (F' 5 i < F' 5 j) = decide (T i < T j)
        rw [ei, ej]
        exact decide_eq_decide.mpr (nI_ltI (by omega) (by omega))) e
      have hleast : ∀ t, t < 16 → wk t = false → F 0 t = 6 → T b < T t ∨ (T b = T t ∧ b ≤ t) := by
        intro t ht w z
        exact hmin t ht (decide_eq_true (((h.2.2.2 t ht).2 w).1.trans z))
      obtain ⟨-, -, e5, lb⟩ := six b hb16 hb6
      by_cases c : F' 5 b ≤ nI m
      · rw [xs_wk_1 e c]
        rw [e5] at c
        have hbm : T b ≤ m := (nI_leI (by omega) (by omega)).mp c
        have hrk : tk_rk (F 0) T b = pq_cnt wk 16 := by
          refine pq_cnt_congr 16 (fun s hs => ?_)
          cases w : wk s with
          | true =>
            have z := ((h.2.2.2 s hs).1 w).1
            refine decide_eq_true ⟨z, ?_⟩
            have hne : ¬ s = b := fun q => by rw [q, hwb] at w; cases w
            have hno : ¬ tk_lt T b s := fun q => by
              have := h.2.2.1 b s hb16 hs w hF6 q
              rw [hwb] at this
              cases this
            unfold tk_lt at hno
            omega
          | false =>
            refine decide_eq_false (fun q => ?_)
            have := hleast s hs w q.1
            omega
        have hcnt : pq_cnt (fun t => decide (t = b) || wk t) 16 = pq_cnt wk 16 + 1 := pq_cnt_add 16 hb16 hwb (by simp) (fun s _ hs => by simp [hs])
        have hI : xt_I F ls T m (fun t => decide (t = b) || wk t) (xs_rd F' ls' b) (ls' + 1) := by
          refine ⟨?_, fun i h0 h3 h4 h5 => ?_, fun s t hs ht w z lt => ?_, fun t ht => ⟨fun w => ?_, fun w => ?_⟩⟩
          · rw [hcnt, h.1, Int32.add_assoc, nI_1]
          · rw [← h.2.1 i h0 h3 h4 h5]
            show va_up _ 5 _ i = _
            unfold va_up
            rw [if_neg h5, if_neg h3, if_neg h4, if_neg h0]
          · show (decide (s = b) || wk s) = true
            cases ws : wk s with
            | true => simp
            | false =>
              have a := hleast s hs ws z
              by_cases tb : t = b
              · subst tb
                unfold tk_lt at lt
                omega
              · have wt : wk t = true := by simpa [tb] using w
                have := h.2.2.1 s t hs ht wt z lt
                rw [ws] at this
                cases this
          · by_cases tb : t = b
            · subst tb
              refine ⟨hF6, hbm, pk_us, ?_, pk_us, pk_us⟩
              show upd (F' 3) t (ls' + 1) t = _
              rw [pk_us, hrk, h.1, Int32.add_assoc, nI_1]
            · have wt : wk t = true := by simpa [tb] using w
              obtain ⟨c1, c2, c3, c4, c5, c6⟩ := (h.2.2.2 t ht).1 wt
              exact ⟨c1, c2, (pk_un tb).trans c3, (pk_un tb).trans c4, (pk_un tb).trans c5, (pk_un tb).trans c6⟩
          · have tb : ¬ t = b := fun q => by simp [q] at w
            have wt : wk t = false := by simpa [tb] using w
            obtain ⟨c1, c2, c3, c4⟩ := (h.2.2.2 t ht).2 wt
            exact ⟨(pk_un tb).trans c1, (pk_un tb).trans c2, (pk_un tb).trans c3, (pk_un tb).trans c4⟩
        obtain ⟨wk', q1, q2, q3⟩ := ih _ _ _ (by rw [hcnt, Nat.add_comm (pq_cnt wk 16) 1, ← Nat.add_assoc]; exact hc) hI
        exact ⟨wk', q1, by rw [hcnt] at q2; rw [← q2, Nat.add_assoc, Nat.add_comm 1], q3⟩
      · rw [xs_wk_2 e c]
        rw [e5] at c
        have hbm : m < T b := by
          rcases Nat.lt_or_ge m (T b) with w | w
          · exact w
          · exact absurd ((nI_leI (by omega) (by omega)).mpr w) c
        refine ⟨wk, h, Nat.zero_add _, fun t ht => ?_⟩
        cases w : wk t with
        | true => rw [← w]; exact hyes h t ht w
        | false =>
          refine (decide_eq_false (fun q => ?_)).symm
          have := hleast t ht w q.1
          omega
theorem tk_rk_lt {S : Nat → Int32} {T : Nat → Nat} {m t : Nat} (ht : t < 16) (h : tk_w S T m 0 t = true) : tk_rk S T t + 1 ≤ tk_n S T m 0 := by
  have q := of_decide_eq_true h
  have hf : decide (S t = 6 ∧ (T t < T t ∨ (T t = T t ∧ t < t))) = false := decide_eq_false (fun z => by omega)
  show pq_cnt (fun s => decide (S s = 6 ∧ (T s < T t ∨ (T s = T t ∧ s < t)))) 16 + 1 ≤ _
  rw [← pq_cnt_add (p := fun s => decide (S s = 6 ∧ (T s < T t ∨ (T s = T t ∧ s < t)))) (q := fun s => decide (s = t) || decide (S s = 6 ∧ (T s < T t ∨ (T s = T t ∧ s < t)))) 16 ht hf (by simp) (fun s _ hs => by simp [hs])]
  refine pq_cnt_mono 16 (fun s hs e => ?_)
  by_cases c : s = t
  · rw [c]; exact h
  · have e2 : decide (S s = 6 ∧ (T s < T t ∨ (T s = T t ∧ s < t))) = true := by simpa [c] using e
    have z := of_decide_eq_true e2
    exact decide_eq_true ⟨z.1, Or.inl (by omega)⟩
section CSD
variable {nL nC nB n n' C t k : Nat} {F F' G G' : Nat → Nat → Int32} {sp sp' : Nat → Int64} {ls ls' x y r b : Int32} {ck ck' : Int64} {u : xS} {v : mS} {E : String}
def cs_T (G : Nat → Nat → Int32) (t : Nat) : Nat := (G 3 t).toNatClampNeg
theorem cp.T (h : cp nL nC nB n F ls G sp ck) : tk_T (G 0) (G 3) (cs_T G) ∧ tk_T (F 0) (F 5) (cs_T G) := by
  obtain ⟨⟨C, -, -, -, w⟩, -⟩ := h
  refine ⟨fun t ht e => ?_, fun t ht e => ?_⟩
  · obtain ⟨c0, -, -, -, -, -, -, c7, -⟩ := w t ht
    obtain ⟨m, h1, h2, e1, e2⟩ := c7 (c0.trans e)
    unfold cs_T
    rw [e2, nI_clamp (by omega)]
    exact ⟨rfl, h1, h2⟩
  · obtain ⟨c0, -, -, -, -, -, -, c7, -⟩ := w t ht
    obtain ⟨m, h1, h2, e1, e2⟩ := c7 e
    unfold cs_T
    rw [e1, e2, nI_clamp (by omega)]
    exact ⟨rfl, h1, h2⟩
theorem cs_tick_x (h : cp nL nC nB n F ls G sp ck) {T : Nat → Nat} (hx : sx_tick x E) (hm : mp_tick G sp ck T x b v) : cs_X nL nC nB n F ls (lk3 xE_A "" "" E) v := by
  rcases hm with ⟨-, rfl⟩ | ⟨m, R0, R2, R3, q, hm, rfl, -⟩
  · rw [hx.1]; exact ⟨rfl, by decide, h⟩
  · exact absurd ⟨nI_pos' (by omega), show nI m ≤ nI 1000 from nI_le hm (by decide)⟩ hx.2
theorem cs_tick (hn : nL ≤ 8) (hn3 : n + 16 ≤ n') (h : cp nL nC nB n F ls G sp ck) (hx : sp_tick F ls x r u) (hm : mp_tick G sp ck (cs_T G) x b v) : cs_R nL nC nB n' r b u v := by
  obtain ⟨hx0, hx1, z, hz, rfl, T5, hT5, rfl⟩ := hx
  rcases hm with ⟨q, -⟩ | ⟨m, R0, R2, R3, q, hm, rfl, hI, rfl, rfl⟩
  · exact absurd ⟨hx0, hx1⟩ q
  · obtain ⟨hTG, hTF⟩ := h.T
    have h0 : xt_I F ls (cs_T G) m (fun _ => false) F ls := ⟨by show ls = ls + 0; exact (Int32.add_zero ls).symm, fun _ _ _ _ _ => rfl, fun s t _ _ w => (by cases w), fun t ht => ⟨fun w => (by cases w), fun _ => ⟨rfl, rfl, rfl, rfl⟩⟩⟩
    obtain ⟨wk, hw, hcnt, hwk⟩ := xt_wk hm hTF 16 (fun _ => false) F ls (by omega) h0
    rw [← hz] at hw hcnt
    have hS : ∀ t, t < 16 → F 0 t = G 0 t := fun t ht => h.g0 ht
    have hW : ∀ t, t < 16 → tk_w (F 0) (cs_T G) m 0 t = tk_w (G 0) (cs_T G) m 0 t := fun t ht => by unfold tk_w; rw [hS t ht]
    have hN : pq_cnt wk 16 = tk_n (G 0) (cs_T G) m 0 := pq_cnt_congr 16 (fun t ht => (hwk t ht).trans (hW t ht))
    have hR : ∀ t, tk_rk (F 0) (cs_T G) t = tk_rk (G 0) (cs_T G) t := fun t => pq_cnt_congr 16 (fun s hs => by rw [hS s hs])
    have hz1 : z.1 = tk_n (G 0) (cs_T G) m 0 := (show z.1 = pq_cnt wk 16 from hcnt).trans hN
    refine ⟨rfl, by rw [hz1], ?_⟩
    obtain ⟨⟨C, a1, a2, a3, a4⟩, hs, hE⟩ := id h
    have hn16 : tk_n (G 0) (cs_T G) m 0 ≤ 16 := pq_cnt_le _ 16
    have hrkN : ∀ t, t < 16 → tk_w (G 0) (cs_T G) m 0 t = true → tk_rk (G 0) (cs_T G) t + 1 ≤ tk_n (G 0) (cs_T G) m 0 := fun t ht e => tk_rk_lt ht e
    have hls := hw.1
    rw [hN] at hls
    clear hcnt hN hz1 hz
    generalize tk_n (G 0) (cs_T G) m 0 = N at hn16 hrkN hls ⊢
    have hrow : ∀ i, ¬ i = 0 → ¬ i = 3 → ¬ i = 4 → ¬ i = 5 → va_up z.2.1 5 T5 i = F i := fun i h0 h3 h4 h5 => by
      unfold va_up
      rw [if_neg h5]
      exact hw.2.1 i h0 h3 h4 h5
    have hr5 : ∀ i, ¬ i = 5 → va_up z.2.1 5 T5 i = z.2.1 i := fun i h5 => if_neg h5
    show cp nL nC nB n' (va_up z.2.1 5 T5) z.2.2 (va_up (va_up (va_up G 0 R0) 2 R2) 3 R3) q (ck + lN N)
    refine ⟨⟨C + N, by omega, ?_, ?_, fun t ht => ?_⟩, ?_, ?_⟩
    · rw [hls, a2, nI_add]
    · show ck + lN _ = _
      rw [a3, lN_add]
    · obtain ⟨c0, c1, c2, c3, c4, c5, c6, c7, c8, c9, c10, c11⟩ := a4 t ht
      cases e : wk t with
      | true =>
        have eG : tk_w (G 0) (cs_T G) m 0 t = true := by rw [← hW t ht, ← hwk t ht]; exact e
        obtain ⟨d1, d2, d3, d4, d5, d6⟩ := (hw.2.2.2 t ht).1 e
        obtain ⟨g1, g2, g3⟩ := (hI t ht).1 eG
        have hlt := hrkN t ht eG
        have hq : cp_t nL (C + (tk_rk (G 0) (cs_T G) t + 1)) (va_up z.2.1 5 T5) (va_up (va_up (va_up G 0 R0) 2 R2) 3 R3) q t := by
          refine cp_t_rd (b := G 1 t) (g := G 5 t) ?_ rfl d3 g1 ?_ ?_ d5 ?_ ?_ rfl
          · rw [hrow 1 (by decide) (by decide) (by decide) (by decide)]; exact c1
          · show z.2.1 3 t = _
            rw [d4, hR, a2, nI_add]
          · rw [g3, a3, lN_add]
          · show T5 t = 0
            rw [hT5 t ht, d3, if_neg (by decide)]; exact d6
          · rw [hrow 6 (by decide) (by decide) (by decide) (by decide)]; exact c9
        exact hq.keep (Nat.add_le_add_left hlt C) rfl rfl rfl rfl rfl rfl rfl rfl rfl rfl rfl rfl rfl rfl (fun _ k o _ ho _ e => ⟨o, ho, e⟩)
      | false =>
        have eF : tk_w (F 0) (cs_T G) m 0 t = false := by rw [← hwk t ht]; exact e
        have eG : tk_w (G 0) (cs_T G) m 0 t = false := by rw [← hW t ht]; exact eF
        obtain ⟨d1, d2, d3, d4⟩ := (hw.2.2.2 t ht).2 e
        obtain ⟨g1, g2, g3, g4⟩ := (hI t ht).2 eG
        unfold cp_t
        rw [hr5 0 (by decide), hr5 3 (by decide), hr5 4 (by decide), hrow 1 (by decide) (by decide) (by decide) (by decide), hrow 6 (by decide) (by decide) (by decide) (by decide), hrow 7 (by decide) (by decide) (by decide) (by decide), hrow 8 (by decide) (by decide) (by decide) (by decide), d1, d2, d3]
        refine ⟨c0.trans g1.symm, c1, c2, fun w => ?_, fun w => (c4 w).trans g2.symm, c5, c6, fun w => ?_, fun w => ?_, c9, c10, c11⟩
        · obtain ⟨c, l1, l2, l3⟩ := c3 w
          exact ⟨c, by omega, l2, g3.trans l3⟩
        · obtain ⟨e1, e2, e3⟩ := hTF t ht w
          have hgt : m < cs_T G t := by
            rcases Nat.lt_or_ge m (cs_T G t) with y | y
            · exact y
            · exact absurd ⟨w, Or.inl y⟩ (of_decide_eq_false eF)
          refine ⟨cs_T G t - m, by omega, by omega, ?_, ?_⟩
          · show T5 t = _
            rw [hT5 t ht, d1, if_pos w, d4, e1]
            exact pk_sub (by omega)
          · show R3 t = _
            rw [g4 (c0.symm.trans w), if_neg (Nat.not_lt_zero t)]
            rfl
        · show T5 t = 0
          rw [hT5 t ht, d1, if_neg w, d4]
          exact c8 w
    · exact hs.keep (hrow 8 (by decide) (by decide) (by decide) (by decide)) (hrow 9 (by decide) (by decide) (by decide) (by decide)) (hrow 10 (by decide) (by decide) (by decide) (by decide)) (hrow 11 (by decide) (by decide) (by decide) (by decide)) rfl rfl rfl rfl
    · refine pq_Eff.congr (xs_hd_lt hn h.ow) (fun t ht => ?_) (fun t _ => by rw [hrow 1 (by decide) (by decide) (by decide) (by decide)]) (fun t _ => by rw [hrow 2 (by decide) (by decide) (by decide) (by decide)]) hE
      unfold xs_hd
      rw [hr5 0 (by decide), hr5 4 (by decide), hrow 8 (by decide) (by decide) (by decide) (by decide)]
      cases e : wk t with
      | true =>
        obtain ⟨d1, d2, d3, d4, d5, d6⟩ := (hw.2.2.2 t ht).1 e
        rw [if_neg (fun w => by rw [d1] at w; exact absurd w.1 (by decide)), if_neg (fun w => by rw [d3] at w; exact absurd w.1 (by decide))]
      | false =>
        obtain ⟨d1, d2, d3, d4⟩ := (hw.2.2.2 t ht).2 e
        rw [d1, d3]
theorem cs_running (hn : nL ≤ 8) (hn2 : n < 2 ^ 30) (h : cp nL nC nB n F ls G sp ck) {E : Nat → Int32} {nx : Option Nat} (hf : ms_fo G sp 1 0 E nx) : pq_enc (xs_fm F 1 (-1)) = pq_enc nx ∧ cp nL nC nB n F ls (va_up G 10 E) sp ck := ⟨by rw [h.run hn hn2 hf], h⟩
end CSD
