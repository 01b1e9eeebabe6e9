/-! WAKING: the sleepers by their ticks, and of one tick the least task first -/
def tk_w (S : Nat → Int32) (T : Nat → Nat) (k i t : Nat) : Bool := decide (S t = 6 ∧ (T t ≤ k ∨ (T t = k + 1 ∧ t < i)))
def tk_rk (S : Nat → Int32) (T : Nat → Nat) (t : Nat) : Nat := pq_cnt (fun s => decide (S s = 6 ∧ (T s < T t ∨ (T s = T t ∧ s < t)))) 16
def tk_n (S : Nat → Int32) (T : Nat → Nat) (k i : Nat) : Nat := pq_cnt (tk_w S T k i) 16
/-- what the rows hold when k ticks have gone by, and of the next the tasks below i have been seen -/
def tk_I (F : Nat → Nat → Int32) (sp : Nat → Int64) (ck : Int64) (T : Nat → Nat) (k i : Nat) (R0 R2 R3 : Nat → Int32) (q : Nat → Int64) : Prop :=
  ∀ t, t < 16 → (tk_w (F 0) T k i t = true → R0 t = 1 ∧ R2 t = 0 ∧ q t = ck + lN (tk_rk (F 0) T t + 1)) ∧ (tk_w (F 0) T k i t = false → R0 t = F 0 t ∧ R2 t = F 2 t ∧ q t = sp t ∧ (F 0 t = 6 → R3 t = nI (T t - (k + (if t < i then 1 else 0)))))
/-- the sleepers' ticks, as numbers -/
def tk_T (S Q : Nat → Int32) (T : Nat → Nat) : Prop := ∀ t, t < 16 → S t = 6 → Q t = nI (T t) ∧ 1 ≤ T t ∧ T t ≤ 1000
theorem tk_0 {F : Nat → Nat → Int32} {sp : Nat → Int64} {ck : Int64} {T : Nat → Nat} (hT : tk_T (F 0) (F 3) T) : tk_I F sp ck T 0 0 (F 0) (F 2) (F 3) sp := by
  intro t ht
  refine ⟨fun h => ?_, fun _ => ⟨rfl, rfl, rfl, fun h => ?_⟩⟩
  · have q := of_decide_eq_true h
    have a := hT t ht q.1
    omega
  · rw [(hT t ht h).1]
    simp
theorem tk_n0 {S Q : Nat → Int32} {T : Nat → Nat} (hT : tk_T S Q T) : tk_n S T 0 0 = 0 := by
  have h : ∀ n, n ≤ 16 → pq_cnt (tk_w S T 0 0) n = 0 := by
    intro n
    induction n with
    | zero => intro _; rfl
    | succ n ih =>
      intro hn
      have e : tk_w S T 0 0 n = false := decide_eq_false (fun q => by
        have a := hT n (by omega) q.1
        omega)
      show pq_cnt (tk_w S T 0 0) n + _ = 0
      rw [ih (by omega), e]
      rfl
  exact h 16 (Nat.le_refl 16)
theorem tk_turn {S : Nat → Int32} {T : Nat → Nat} {k t : Nat} (ht : t < 16) : tk_w S T k 16 t = tk_w S T (k + 1) 0 t := by
  unfold tk_w
  exact decide_eq_decide.mpr ⟨fun ⟨a, b⟩ => ⟨a, by omega⟩, fun ⟨a, b⟩ => ⟨a, by omega⟩⟩
theorem tk_I_turn {F : Nat → Nat → Int32} {sp : Nat → Int64} {ck : Int64} {T : Nat → Nat} {k : Nat} {R0 R2 R3 : Nat → Int32} {q : Nat → Int64} (h : tk_I F sp ck T k 16 R0 R2 R3 q) : tk_I F sp ck T (k + 1) 0 R0 R2 R3 q := by
  intro t ht
  have a := h t ht
  rw [tk_turn ht] at a
  refine ⟨a.1, fun c => ?_⟩
  obtain ⟨b1, b2, b3, b4⟩ := a.2 c
  refine ⟨b1, b2, b3, fun e => ?_⟩
  rw [b4 e, if_pos ht]
  simp
theorem tk_n_turn {S : Nat → Int32} {T : Nat → Nat} {k : Nat} : tk_n S T (k + 1) 0 = tk_n S T k 16 := pq_cnt_congr 16 (fun _ ht => (tk_turn ht).symm)
/-- what is decided at task i leaves the others alone -/
theorem tk_ne {S : Nat → Int32} {T : Nat → Nat} {k i t : Nat} (h : ¬ t = i) : tk_w S T k (i + 1) t = tk_w S T k i t := by
  unfold tk_w
  exact decide_eq_decide.mpr ⟨fun ⟨a, b⟩ => ⟨a, by omega⟩, fun ⟨a, b⟩ => ⟨a, by omega⟩⟩
theorem tk_eq {S : Nat → Int32} {T : Nat → Nat} {k i : Nat} (h : ¬ T i = k + 1) : tk_w S T k (i + 1) i = tk_w S T k i i := by
  unfold tk_w
  exact decide_eq_decide.mpr ⟨fun ⟨a, b⟩ => ⟨a, by omega⟩, fun ⟨a, b⟩ => ⟨a, by omega⟩⟩
theorem tk_same {S : Nat → Int32} {T : Nat → Nat} {k i : Nat} (h : ¬ (S i = 6 ∧ T i = k + 1)) : ∀ t, tk_w S T k (i + 1) t = tk_w S T k i t := by
  intro t
  by_cases c : t = i
  · subst c
    unfold tk_w
    exact decide_eq_decide.mpr ⟨fun ⟨a, b⟩ => ⟨a, by
      rcases b with b | b
      · exact Or.inl b
      · exact absurd ⟨a, b.1⟩ h⟩, fun ⟨a, b⟩ => ⟨a, by omega⟩⟩
  · exact tk_ne c
theorem tk_a {F : Nat → Nat → Int32} {sp : Nat → Int64} {ck : Int64} {T : Nat → Nat} {k i : Nat} {R0 R2 R3 : Nat → Int32} {q : Nat → Int64} (hi : i < 16) (h : tk_I F sp ck T k i R0 R2 R3 q) (c : ¬ R0 i = 6) : tk_I F sp ck T k (i + 1) R0 R2 R3 q ∧ tk_n (F 0) T k (i + 1) = tk_n (F 0) T k i := by
  have hno : ¬ (F 0 i = 6 ∧ T i = k + 1) := by
    intro z
    have a := (h i hi).2 (decide_eq_false (fun w => by omega))
    exact c (a.1.trans z.1)
  refine ⟨fun t ht => ?_, pq_cnt_congr 16 (fun t _ => tk_same hno t)⟩
  rw [tk_same hno t]
  refine ⟨(h t ht).1, fun e => ?_⟩
  obtain ⟨b1, b2, b3, b4⟩ := (h t ht).2 e
  refine ⟨b1, b2, b3, fun z => ?_⟩
  have hti : ¬ t = i := fun w => by subst w; exact c (b1.trans z)
  rw [b4 z]
  simp [show t < i + 1 ↔ t < i by omega]
theorem tk_six {F : Nat → Nat → Int32} {sp : Nat → Int64} {ck : Int64} {T : Nat → Nat} {k i : Nat} {R0 R2 R3 : Nat → Int32} {q : Nat → Int64} (hi : i < 16) (h : tk_I F sp ck T k i R0 R2 R3 q) (c : R0 i = 6) : F 0 i = 6 ∧ k < T i ∧ R3 i = nI (T i - k) ∧ tk_w (F 0) T k i i = false := by
  cases e : tk_w (F 0) T k i i with
  | true =>
    have a := (h i hi).1 e
    rw [a.1] at c
    exact absurd c (by decide)
  | false =>
    obtain ⟨b1, b2, b3, b4⟩ := (h i hi).2 e
    have h6 : F 0 i = 6 := b1.symm.trans c
    have hk : ¬ T i ≤ k := fun z => (of_decide_eq_false e) ⟨h6, Or.inl z⟩
    refine ⟨h6, by omega, ?_, rfl⟩
    rw [b4 h6]
    simp
theorem tk_b {F : Nat → Nat → Int32} {sp : Nat → Int64} {ck : Int64} {T : Nat → Nat} {k i : Nat} {R0 R2 R3 : Nat → Int32} {q : Nat → Int64} (hi : i < 16) (h : tk_I F sp ck T k i R0 R2 R3 q) (c : ¬ T i = k + 1) : tk_I F sp ck T k (i + 1) R0 R2 (upd R3 i (nI (T i - k - 1))) q ∧ tk_n (F 0) T k (i + 1) = tk_n (F 0) T k i := by
  have hno : ¬ (F 0 i = 6 ∧ T i = k + 1) := fun z => c z.2
  refine ⟨fun t ht => ?_, pq_cnt_congr 16 (fun t _ => tk_same hno t)⟩
  rw [tk_same hno t]
  refine ⟨(h t ht).1, fun e => ?_⟩
  obtain ⟨b1, b2, b3, b4⟩ := (h t ht).2 e
  refine ⟨b1, b2, b3, fun z => ?_⟩
  by_cases w : t = i
  · subst w
    rw [pk_us, if_pos (by omega)]
    congr 1
  · rw [pk_un w, b4 z]
    simp [show t < i + 1 ↔ t < i by omega]
theorem tk_c {F : Nat → Nat → Int32} {sp : Nat → Int64} {ck : Int64} {T : Nat → Nat} {k i : Nat} {R0 R2 R3 : Nat → Int32} {q : Nat → Int64} {x : Int32} (hi : i < 16) (h : tk_I F sp ck T k i R0 R2 R3 q) (h6 : F 0 i = 6) (c : T i = k + 1) : tk_I F sp ck T k (i + 1) (upd R0 i 1) (upd R2 i 0) (upd R3 i x) (vp_updL q i (ck + lN (tk_n (F 0) T k i) + 1)) ∧ tk_n (F 0) T k (i + 1) = tk_n (F 0) T k i + 1 := by
  have hf : tk_w (F 0) T k i i = false := decide_eq_false (fun w => by omega)
  have ht : tk_w (F 0) T k (i + 1) i = true := decide_eq_true ⟨h6, Or.inr ⟨c, by omega⟩⟩
  have hr : tk_rk (F 0) T i = tk_n (F 0) T k i := by
    refine pq_cnt_congr 16 (fun s _ => ?_)
    unfold tk_w
    exact decide_eq_decide.mpr ⟨fun ⟨a, b⟩ => ⟨a, by omega⟩, fun ⟨a, b⟩ => ⟨a, by omega⟩⟩
  refine ⟨fun t ht16 => ?_, pq_cnt_add 16 hi hf ht (fun s _ hs => (tk_ne hs).symm)⟩
  by_cases w : t = i
  · subst w
    refine ⟨fun _ => ⟨pk_us, pk_us, ?_⟩, fun e => by rw [ht] at e; cases e⟩
    rw [pk_uLs, hr, Int64.add_assoc, lN_1]
  · rw [tk_ne w, pk_un w, pk_un w, pk_uLn w, pk_un w]
    refine ⟨(h t ht16).1, fun e => ?_⟩
    obtain ⟨b1, b2, b3, b4⟩ := (h t ht16).2 e
    refine ⟨b1, b2, b3, fun z => ?_⟩
    rw [b4 z]
    simp [show t < i + 1 ↔ t < i by omega]
def mp_tick (F : Nat → Nat → Int32) (sp : Nat → Int64) (ck : Int64) (T : Nat → Nat) (x r : Int32) (u : mS) : Prop := (¬ (0 ≤ x ∧ x ≤ 1000) ∧ u = (F, sp, 1, ck)) ∨ (∃ m R0 R2 R3 q, m ≤ 1000 ∧ x = nI m ∧ tk_I F sp ck T m 0 R0 R2 R3 q ∧ r = nI (tk_n (F 0) T m 0) ∧ u = (va_up (va_up (va_up F 0 R0) 2 R2) 3 R3, q, 0, ck + lN (tk_n (F 0) T m 0)))
