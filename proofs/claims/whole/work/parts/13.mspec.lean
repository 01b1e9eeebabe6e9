/-! M's words -/
def ms_hd (F : Nat → Nat → Int32) (t : Nat) : Option Nat := if F 0 t = 2 then pq_dec (F 6 (F 2 t).toNatClampNeg) else none
/-- what M's rows keep: a task that waits for a lock waits for one that has an owner; a free one has base 0; owners are tasks -/
def ms_I (F : Nat → Nat → Int32) : Prop := (∀ t, t < 16 → F 0 t = 2 → ∃ k o, k < 8 ∧ o < 16 ∧ F 2 t = nI k ∧ F 6 k = nI o) ∧ (∀ t, t < 16 → F 0 t = 0 → F 1 t = 0) ∧ xs_ow 8 (F 6)
theorem ms_hd_eq {F : Nat → Nat → Int32} {t k o : Nat} (h : F 0 t = 2) (hk : k < 8) (ho : o < 16) (e : F 2 t = nI k) (e2 : F 6 k = nI o) : ms_hd F t = some o := by
  unfold ms_hd
  rw [if_pos h, e, nI_clamp (by omega), e2]
  show (if nI o < 0 then none else some (nI o).toNatClampNeg) = some o
  rw [if_neg (nI_pos (by omega)), nI_clamp (by omega)]
theorem ms_hd_no {F : Nat → Nat → Int32} {t : Nat} (h : ¬ F 0 t = 2) : ms_hd F t = none := by unfold ms_hd; rw [if_neg h]
def ms_ok (F : Nat → Nat → Int32) (st tg : Int32) (t : Nat) : Bool := decide (F 0 t = st ∧ (st = 1 ∨ F 2 t = tg))
def ms_bf (E : Nat → Int32) (sp : Nat → Int64) (a b : Nat) : Bool := decide (E b < E a ∨ (E a = E b ∧ sp a < sp b))
/-- the chain's step, with nothing beyond the sixteen tasks -/
def ms_h (F : Nat → Nat → Int32) (t : Nat) : Option Nat := if t < 16 then ms_hd F t else none
/-- the first of those that wait, with the effective priorities found anew -/
def ms_fo (F : Nat → Nat → Int32) (sp : Nat → Int64) (st tg : Int32) (E : Nat → Int32) (nx : Option Nat) : Prop := pq_Eff (ms_h F) (F 1) E ∧ nx = pq_pick (ms_ok F st tg) (ms_bf E sp) 16
theorem ms_fo_lt {F : Nat → Nat → Int32} {sp : Nat → Int64} {st tg : Int32} {E : Nat → Int32} {nx : Option Nat} (h : ms_fo F sp st tg E nx) : ∀ t, nx = some t → t < 16 := by
  intro t e
  rw [h.2] at e
  exact (pq_pick_lt e).1
/-- one step of the search for the effective priorities: k whole turns, i tasks of the next -/
def ms_fe (h : Nat → Option Nat) (b : Nat → Int32) (k i : Nat) (E : Nat → Int32) : Prop :=
  (∀ t o j, t < 16 → j ≤ k → pq_it h j t = some o → (b t).toInt ≤ (E o).toInt) ∧ (∀ t o, t < i → h t = some o → ∀ s j, s < 16 → j ≤ k → pq_it h j s = some t → (b s).toInt ≤ (E o).toInt) ∧ ∀ o, o < 16 → ∃ t j, t < 16 ∧ pq_it h j t = some o ∧ E o = b t
theorem ms_fe_0 {h : Nat → Option Nat} {b E : Nat → Int32} (e : ∀ t, t < 16 → E t = b t) : ms_fe h b 0 0 E := by
  refine ⟨fun t o j ht hj q => ?_, fun t o ht => absurd ht (by omega), fun o ho => ⟨o, 0, ho, rfl, e o ho⟩⟩
  have hj0 : j = 0 := by omega
  subst hj0
  cases q
  rw [e t ht]
  exact Int.le_refl _
theorem ms_fe_n {h : Nat → Option Nat} {b E : Nat → Int32} {k i : Nat} (q : ms_fe h b k i E) (e : h i = none) : ms_fe h b k (i + 1) E := by
  refine ⟨q.1, fun t o ht ho => ?_, q.2.2⟩
  rcases Nat.lt_or_eq_of_le (Nat.le_of_lt_succ ht) with z | z
  · exact q.2.1 t o z ho
  · subst z
    rw [e] at ho
    cases ho
theorem ms_fe_s {h : Nat → Option Nat} {b E : Nat → Int32} {k i c : Nat} {v : Int32} (hi : i < 16) (q : ms_fe h b k i E) (e : h i = some c) (h1 : (E c).toInt ≤ v.toInt) (h2 : (E i).toInt ≤ v.toInt) (h3 : v = E c ∨ v = E i) : ms_fe h b k (i + 1) (upd E c v) := by
  have up : ∀ o, (E o).toInt ≤ (upd E c v o).toInt := by
    intro o
    unfold upd
    split
    · rename_i eo
      rw [eo]
      exact h1
    · exact Int.le_refl _
  refine ⟨fun t o j ht hj r => Int.le_trans (q.1 t o j ht hj r) (up o), fun t o ht ho s j hs hj r => ?_, fun o ho => ?_⟩
  · rcases Nat.lt_or_eq_of_le (Nat.le_of_lt_succ ht) with z | z
    · exact Int.le_trans (q.2.1 t o z ho s j hs hj r) (up o)
    · subst z
      rw [e] at ho
      cases ho
      have a := q.1 s t j hs hj r
      unfold upd
      rw [if_pos rfl]
      omega
  · unfold upd
    split
    · rename_i eo
      subst eo
      rcases h3 with z | z
      · rw [z]
        exact q.2.2 o ho
      · obtain ⟨t, j, ht, hj, hq⟩ := q.2.2 i hi
        refine ⟨t, j + 1, ht, ?_, z.trans hq⟩
        show (pq_it h j t).bind h = some o
        rw [hj]
        exact e
    · exact q.2.2 o ho
theorem ms_fe_t {h : Nat → Option Nat} {b E : Nat → Int32} {k : Nat} (hh : ∀ t o, h t = some o → o < 16) (q : ms_fe h b k 16 E) : ms_fe h b (k + 1) 0 E := by
  refine ⟨fun t o j ht hj r => ?_, fun t o ht => absurd ht (by omega), q.2.2⟩
  cases j with
  | zero => exact q.1 t o 0 ht (by omega) r
  | succ j =>
    have r' : (pq_it h j t).bind h = some o := r
    cases e : pq_it h j t with
    | none => rw [e] at r'; cases r'
    | some c =>
      rw [e] at r'
      exact q.2.1 c o (pq_it_lt hh ht e) r' t j ht (by omega) e
theorem ms_fe_end {h : Nat → Option Nat} {b E : Nat → Int32} (hh : ∀ t o, h t = some o → o < 16) (q : ms_fe h b 16 0 E) : pq_Eff h b E := by
  refine ⟨fun t k o ht e => ?_, q.2.2⟩
  obtain ⟨k', hk, e'⟩ := pq_short hh ht k o e
  exact q.1 t o k' ht (by omega) e'
theorem ms_hd_lt {F : Nat → Nat → Int32} (h : ms_I F) (t : Nat) : ∀ o, t < 16 → ms_hd F t = some o → o < 16 := by
  intro o ht e
  by_cases c : F 0 t = 2
  · obtain ⟨k, o', hk, ho, e1, e2⟩ := h.1 t ht c
    rw [ms_hd_eq c hk ho e1 e2] at e
    cases e
    exact ho
  · rw [ms_hd_no c] at e
    cases e
theorem ms_h_lt {F : Nat → Nat → Int32} (h : ms_I F) : ∀ t o, ms_h F t = some o → o < 16 := by
  intro t o e
  unfold ms_h at e
  split at e
  · exact ms_hd_lt h t o (by assumption) e
  · cases e
theorem ms_h_eq {F : Nat → Nat → Int32} {t : Nat} (ht : t < 16) : ms_h F t = ms_hd F t := if_pos ht
abbrev ms_en (F : Nat → Nat → Int32) (t : Nat) (st tg : Int32) : Nat → Nat → Int32 := va_up (va_up F 0 (upd (F 0) t st)) 2 (upd (F 2) t tg)
def ms_ch (F : Nat → Nat → Int32) (k j : Nat) : Option Nat := (pq_dec (F 6 k)).bind (pq_it (ms_h F) j)
theorem ms_ch_s {F : Nat → Nat → Int32} {k j : Nat} : ms_ch F k (j + 1) = (ms_ch F k j).bind (ms_h F) := by
  unfold ms_ch
  cases pq_dec (F 6 k) <;> rfl
theorem ms_ch_lt {F : Nat → Nat → Int32} {k j o : Nat} (h : ms_I F) (hk : k < 8) (e : ms_ch F k j = some o) : o < 16 := by
  unfold ms_ch at e
  cases q : pq_dec (F 6 k) with
  | none => rw [q] at e; cases e
  | some t => rw [q] at e; exact pq_it_lt (ms_h_lt h) ((h.2.2.dec hk).2 t q) e
theorem ms_ch_none {F : Nat → Nat → Int32} {k j : Nat} (e : ms_ch F k j = none) : ∀ i, j ≤ i → ms_ch F k i = none := by
  intro i hi
  unfold ms_ch at e ⊢
  cases q : pq_dec (F 6 k) with
  | none => rfl
  | some t => rw [q] at e; exact pq_it_none e i hi
theorem ms_ch_0 {F : Nat → Nat → Int32} {k : Nat} (h : ms_I F) (hk : k < 8) : F 6 k = pq_enc (ms_ch F k 0) := by
  have q := (h.2.2.dec hk).1
  unfold ms_ch
  cases e : pq_dec (F 6 k) with
  | none => rw [e] at q; exact q.symm
  | some o => rw [e] at q; exact q.symm
def ms_ww (F : Nat → Nat → Int32) (t k : Nat) : Prop := ∃ j, j ≤ 16 ∧ ms_ch F k j = some t
/-! the choice, step by step -/
theorem pq_st_no {ok : Nat → Bool} {bf : Nat → Nat → Bool} {i : Nat} (h : ok i = false) : pq_pick ok bf (i + 1) = pq_pick ok bf i := by
  show (match pq_pick ok bf i with | none => if ok i then some i else none | some b => if ok i && bf i b then some i else some b) = _
  cases pq_pick ok bf i <;> simp [h]
theorem pq_st_0 {ok : Nat → Bool} {bf : Nat → Nat → Bool} {i : Nat} (h : ok i = true) (hp : pq_pick ok bf i = none) : pq_pick ok bf (i + 1) = some i := by
  show (match pq_pick ok bf i with | none => if ok i then some i else none | some b => if ok i && bf i b then some i else some b) = _
  rw [hp]; simp [h]
theorem pq_st_1 {ok : Nat → Bool} {bf : Nat → Nat → Bool} {i b : Nat} (h : ok i = true) (hp : pq_pick ok bf i = some b) (h2 : bf i b = true) : pq_pick ok bf (i + 1) = some i := by
  show (match pq_pick ok bf i with | none => if ok i then some i else none | some b => if ok i && bf i b then some i else some b) = _
  rw [hp]; simp [h, h2]
theorem pq_st_2 {ok : Nat → Bool} {bf : Nat → Nat → Bool} {i b : Nat} (hp : pq_pick ok bf i = some b) (h2 : bf i b = false) : pq_pick ok bf (i + 1) = some b := by
  show (match pq_pick ok bf i with | none => if ok i then some i else none | some b => if ok i && bf i b then some i else some b) = _
  rw [hp]; simp [h2]
def pq_cut (x : Int32) : Nat := if x < 0 then 0 else if 8 < x then 8 else x.toNatClampNeg
theorem pq_cut_le (x : Int32) : pq_cut x ≤ 8 := by
  unfold pq_cut
  split
  · omega
  · split
    · omega
    · rename_i h1 h2
      obtain ⟨j, hj, e⟩ := nI_of h1
      rw [e, nI_clamp hj]
      rw [e] at h2
      have := (nI_ltI (a := 8) (b := j) (by decide) hj)
      rcases Nat.lt_or_ge 8 j with c | c
      · exact absurd (show (8 : Int32) < nI j from this.mpr c) h2
      · exact c
theorem pq_cut_mid {x : Int32} (h1 : ¬ x < 0) (h2 : x ≤ 8) : x = nI (pq_cut x) := by
  unfold pq_cut
  rw [if_neg h1, if_neg (Int32.not_lt.mpr h2)]
  obtain ⟨j, hj, e⟩ := nI_of h1
  rw [e, nI_clamp hj]
theorem pq_cut_hi {x : Int32} (h2 : ¬ x ≤ 8) : (8 : Int32) = nI (pq_cut x) := by
  have h3 : 8 < x := Int32.not_le.mp h2
  have h1 : ¬ x < 0 := by
    intro q
    rw [Int32.lt_iff_toInt_lt] at q h3
    have a : (8 : Int32).toInt = 8 := by decide
    have b : (0 : Int32).toInt = 0 := by decide
    omega
  unfold pq_cut
  rw [if_neg h1, if_pos h3]
  rfl
theorem pq_cut_lo {x : Int32} (h1 : x < 0) : (0 : Int32) = nI (pq_cut x) := by
  unfold pq_cut
  rw [if_pos h1]
  rfl
theorem pq_cut_x (x : Int32) : (if 0 < (if x < 8 then x else 8) then (if x < 8 then x else 8) else 0) = nI (pq_cut x) := by
  by_cases h : x < 0
  · have h8 : x < 8 := by
      rw [Int32.lt_iff_toInt_lt] at h ⊢
      have a : (8 : Int32).toInt = 8 := by decide
      have b : (0 : Int32).toInt = 0 := by decide
      omega
    rw [if_pos h8, if_neg (fun q => by rw [Int32.lt_iff_toInt_lt] at q h; omega)]
    exact pq_cut_lo h
  · by_cases h8 : x < 8
    · rw [if_pos h8]
      have e := pq_cut_mid h (by rw [Int32.lt_iff_toInt_lt] at h8; rw [Int32.le_iff_toInt_le]; omega)
      by_cases h0 : 0 < x
      · rw [if_pos h0]; exact e
      · rw [if_neg h0]
        have : x = 0 := by
          apply Int32.toInt_inj.mp
          rw [Int32.lt_iff_toInt_lt] at h h0
          omega
        rw [← e, this]
    · rw [if_neg h8, if_pos (by decide)]
      by_cases h9 : x ≤ 8
      · have e := pq_cut_mid h h9
        have : x = 8 := by
          apply Int32.toInt_inj.mp
          rw [Int32.lt_iff_toInt_lt] at h8
          rw [Int32.le_iff_toInt_le] at h9
          omega
        rw [← e, this]
      · exact pq_cut_hi h9
