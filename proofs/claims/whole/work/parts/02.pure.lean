/-! PURE: the choice of one task, chains of owners, the greatest priority along them, counting -/
/-- the number that a method answers for 'this task' or 'none' -/
def pq_enc : Option Nat → Int32
  | none => -1
  | some n => nI n
theorem pq_enc_lt {o : Option Nat} (h : ∀ n, o = some n → n < 16) : (pq_enc o < 0 ↔ o = none) := by
  cases o with
  | none => exact ⟨fun _ => rfl, fun _ => by decide⟩
  | some n =>
    have hn := h n rfl
    exact ⟨fun q => absurd q (nI_pos (by omega)), fun q => by cases q⟩
theorem pq_m1 {n : Nat} (h : n < 2 ^ 31) : ¬ nI n = -1 := by
  intro q
  have a := nI_pos h
  rw [q] at a
  exact a (by decide)
theorem pq_enc_m1 {o : Option Nat} (h : ∀ n, o = some n → n < 16) : (pq_enc o = -1 ↔ o = none) := by
  cases o with
  | none => exact ⟨fun _ => rfl, fun _ => rfl⟩
  | some n =>
    have hn := h n rfl
    exact ⟨fun q => absurd q (pq_m1 (by omega)), fun q => by cases q⟩
/-- the best of the tasks below n: the first that fits, and then each that fits and is better -/
def pq_pick (ok : Nat → Bool) (bf : Nat → Nat → Bool) : Nat → Option Nat
  | 0 => none
  | n + 1 => match pq_pick ok bf n with
    | none => if ok n then some n else none
    | some b => if ok n && bf n b then some n else some b
theorem pq_pick_lt {ok : Nat → Bool} {bf : Nat → Nat → Bool} : ∀ {n b : Nat}, pq_pick ok bf n = some b → b < n ∧ ok b = true
  | 0, b, h => by cases h
  | n + 1, b, h => by
    unfold pq_pick at h
    cases e : pq_pick ok bf n with
    | none =>
      rw [e] at h
      dsimp only at h
      split at h
      · cases h; exact ⟨Nat.lt_succ_self _, by assumption⟩
      · cases h
    | some c =>
      rw [e] at h
      dsimp only at h
      have hc := pq_pick_lt e
      split at h
      · rename_i hh
        cases h
        rw [Bool.and_eq_true] at hh
        exact ⟨Nat.lt_succ_self _, hh.1⟩
      · cases h; exact ⟨Nat.lt_succ_of_lt hc.1, hc.2⟩
theorem pq_pick_congr {ok ok' : Nat → Bool} {bf bf' : Nat → Nat → Bool} : ∀ (n : Nat), (∀ t, t < n → ok t = ok' t) → (∀ a b, a < n → b < n → ok a = true → ok b = true → bf a b = bf' a b) → pq_pick ok bf n = pq_pick ok' bf' n
  | 0, _, _ => rfl
  | n + 1, h1, h2 => by
    have ih := pq_pick_congr n (fun t ht => h1 t (Nat.lt_succ_of_lt ht)) (fun a b ha hb => h2 a b (Nat.lt_succ_of_lt ha) (Nat.lt_succ_of_lt hb))
    unfold pq_pick
    rw [← ih, ← h1 n (Nat.lt_succ_self n)]
    cases e : pq_pick ok bf n with
    | none => rfl
    | some b =>
      dsimp only
      have hb := pq_pick_lt e
      cases ho : ok n with
      | false => rfl
      | true => rw [h2 n b (Nat.lt_succ_self n) (Nat.lt_succ_of_lt hb.1) ho hb.2]
/-- nobody fits: none -/
theorem pq_pick_none {ok : Nat → Bool} {bf : Nat → Nat → Bool} : ∀ {n : Nat}, pq_pick ok bf n = none → ∀ t, t < n → ok t = false
  | 0, _, t, ht => absurd ht (Nat.not_lt_zero t)
  | n + 1, h, t, ht => by
    unfold pq_pick at h
    cases e : pq_pick ok bf n with
    | none =>
      rw [e] at h
      dsimp only at h
      split at h
      · cases h
      · rename_i hh
        rcases Nat.lt_or_eq_of_le (Nat.le_of_lt_succ ht) with q | q
        · exact pq_pick_none e t q
        · subst q
          exact Bool.eq_false_iff.mpr hh
    | some c =>
      rw [e] at h
      dsimp only at h
      split at h <;> cases h
/-! chains -/
def pq_it (h : Nat → Option Nat) : Nat → Nat → Option Nat
  | 0, t => some t
  | k + 1, t => (pq_it h k t).bind h
theorem pq_it_add (h : Nat → Option Nat) (t : Nat) (i : Nat) : ∀ j : Nat, pq_it h (i + j) t = (pq_it h i t).bind (pq_it h j)
  | 0 => by cases e : pq_it h i t <;> simp [pq_it, e]
  | j + 1 => by
    show (pq_it h (i + j) t).bind h = _
    rw [pq_it_add h t i j]
    cases pq_it h i t <;> rfl
theorem pq_it_lt {h : Nat → Option Nat} (hh : ∀ t o, h t = some o → o < 16) : ∀ {k t o : Nat}, t < 16 → pq_it h k t = some o → o < 16
  | 0, t, o, ht, e => by cases e; exact ht
  | k + 1, t, o, ht, e => by
    unfold pq_it at e
    cases e2 : pq_it h k t with
    | none => rw [e2] at e; cases e
    | some m => rw [e2] at e; exact hh m o e
/-- no more than n different numbers lie below n -/
theorem pq_hole : ∀ (n : Nat) (f : Nat → Nat), (∀ i, i ≤ n → f i < n) → ∃ i j, i < j ∧ j ≤ n ∧ f i = f j
  | 0, f, h => absurd (h 0 (Nat.le_refl 0)) (Nat.not_lt_zero _)
  | n + 1, f, h => by
    by_cases hc : ∃ i, i ≤ n ∧ f i = f (n + 1)
    · obtain ⟨i, hi, e⟩ := hc
      exact ⟨i, n + 1, Nat.lt_succ_of_le hi, Nat.le_refl _, e⟩
    · have hne : ∀ i, i ≤ n → f i ≠ f (n + 1) := fun i hi e => hc ⟨i, hi, e⟩
      obtain ⟨i, j, h1, h2, e⟩ := pq_hole n (fun i => if f i = n then f (n + 1) else f i) (fun i hi => by
        have a := h i (by omega)
        have b := h (n + 1) (Nat.le_refl _)
        have c := hne i hi
        try dsimp only
        split <;> omega)
      refine ⟨i, j, h1, by omega, ?_⟩
      have ci := hne i (by omega)
      have cj := hne j h2
      try dsimp only at e
      split at e <;> split at e <;> omega
/-- what a chain comes to, it comes to in at most 15 steps -/
theorem pq_short {h : Nat → Option Nat} (hh : ∀ t o, h t = some o → o < 16) {t : Nat} (ht : t < 16) : ∀ (k o : Nat), pq_it h k t = some o → ∃ k', k' ≤ 15 ∧ pq_it h k' t = some o := by
  intro k
  induction k using Nat.strongRecOn with
  | _ k ih =>
    intro o e
    by_cases hk : k ≤ 15
    · exact ⟨k, hk, e⟩
    · have hdef : ∀ i, i ≤ k → ∃ m, pq_it h i t = some m := by
        intro i hi
        have e2 := pq_it_add h t i (k - i)
        rw [show i + (k - i) = k by omega, e] at e2
        cases e3 : pq_it h i t with
        | none => rw [e3] at e2; cases e2
        | some m => exact ⟨m, rfl⟩
      obtain ⟨i, j, h1, h2, e2⟩ := pq_hole 16 (fun i => (pq_it h i t).getD 0) (fun i hi => by
        obtain ⟨m, hm⟩ := hdef i (by omega)
        try dsimp only
        rw [hm]
        exact pq_it_lt hh ht hm)
      obtain ⟨a, ha⟩ := hdef i (by omega)
      obtain ⟨b, hb⟩ := hdef j (by omega)
      try dsimp only at e2
      rw [ha, hb] at e2
      have e3 : a = b := e2
      subst e3
      have e4 := pq_it_add h t j (k - j)
      rw [show j + (k - j) = k by omega, e, hb] at e4
      have e5 := pq_it_add h t i (k - j)
      rw [ha] at e5
      exact ih (i + (k - j)) (by omega) o (e5.trans e4.symm)
/-- E is the effective priority: the greatest base of all whose chain comes here -/
def pq_Eff (h : Nat → Option Nat) (b E : Nat → Int32) : Prop :=
  (∀ t k o, t < 16 → pq_it h k t = some o → (b t).toInt ≤ (E o).toInt) ∧ ∀ o, o < 16 → ∃ t k, t < 16 ∧ pq_it h k t = some o ∧ E o = b t
theorem pq_Eff.one {h : Nat → Option Nat} {b E E' : Nat → Int32} (h1 : pq_Eff h b E) (h2 : pq_Eff h b E') : ∀ o, o < 16 → E o = E' o := by
  intro o ho
  obtain ⟨t, k, ht, e, q⟩ := h1.2 o ho
  obtain ⟨t', k', ht', e', q'⟩ := h2.2 o ho
  have a := h2.1 t k o ht e
  have a' := h1.1 t' k' o ht' e'
  rw [← q] at a
  rw [← q'] at a'
  exact Int32.toInt_inj.mp (by omega)
theorem pq_it_congr {h h' : Nat → Option Nat} (hh : ∀ t o, h t = some o → o < 16) (e : ∀ t, t < 16 → h t = h' t) {t : Nat} (ht : t < 16) : ∀ k, pq_it h k t = pq_it h' k t
  | 0 => rfl
  | k + 1 => by
    show (pq_it h k t).bind h = (pq_it h' k t).bind h'
    rw [← pq_it_congr hh e ht k]
    cases q : pq_it h k t with
    | none => rfl
    | some m => exact e m (pq_it_lt hh ht q)
theorem pq_Eff.congr {h h' : Nat → Option Nat} {b b' E E' : Nat → Int32} (hh : ∀ t o, h t = some o → o < 16) (e : ∀ t, t < 16 → h t = h' t) (eb : ∀ t, t < 16 → b t = b' t) (eE : ∀ t, t < 16 → E t = E' t) (q : pq_Eff h b E) : pq_Eff h' b' E' := by
  refine ⟨fun t k o ht hk => ?_, fun o ho => ?_⟩
  · rw [← pq_it_congr hh e ht k] at hk
    have ho := pq_it_lt hh ht hk
    rw [← eb t ht, ← eE o ho]
    exact q.1 t k o ht hk
  · obtain ⟨t, k, ht, hk, hq⟩ := q.2 o ho
    exact ⟨t, k, ht, by rw [← pq_it_congr hh e ht k]; exact hk, by rw [← eE o ho, ← eb t ht]; exact hq⟩
/-! counting -/
def pq_cnt (p : Nat → Bool) : Nat → Nat
  | 0 => 0
  | n + 1 => pq_cnt p n + (if p n then 1 else 0)
theorem pq_cnt_congr {p q : Nat → Bool} : ∀ (n : Nat), (∀ t, t < n → p t = q t) → pq_cnt p n = pq_cnt q n
  | 0, _ => rfl
  | n + 1, h => by
    unfold pq_cnt
    rw [pq_cnt_congr n (fun t ht => h t (Nat.lt_succ_of_lt ht)), h n (Nat.lt_succ_self n)]
theorem pq_cnt_le (p : Nat → Bool) : ∀ n : Nat, pq_cnt p n ≤ n
  | 0 => Nat.le_refl 0
  | n + 1 => by
    unfold pq_cnt
    have := pq_cnt_le p n
    split <;> omega
/-- one more -/
theorem pq_cnt_add {p q : Nat → Bool} {t : Nat} : ∀ (n : Nat), t < n → p t = false → q t = true → (∀ s, s < n → s ≠ t → p s = q s) → pq_cnt q n = pq_cnt p n + 1
  | 0, h, _, _, _ => absurd h (Nat.not_lt_zero t)
  | n + 1, h, h1, h2, h3 => by
    unfold pq_cnt
    rcases Nat.lt_or_eq_of_le (Nat.le_of_lt_succ h) with c | c
    · rw [pq_cnt_add n c h1 h2 (fun s hs => h3 s (Nat.lt_succ_of_lt hs)), h3 n (Nat.lt_succ_self n) (by omega)]
      omega
    · subst c
      rw [pq_cnt_congr t (fun s hs => h3 s (Nat.lt_succ_of_lt hs) (by omega)), h1, h2]
      simp
