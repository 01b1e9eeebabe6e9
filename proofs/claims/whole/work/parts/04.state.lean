/-! THE TWO WORLDS. X: a PriorityCore (its rows: 0 states, 1 bases, 2 effectives, 3 stamps, 4 targets, 5 ticksLeft, 6 gotWords, 7 sentWords, 8 owners, 9 numbers, 10 fills, 11 store; ls: lastStamp).
M: a PriorityCoreModel (its rows: 0 states, 1 bases, 2 things, 3 ticks, 4 sent, 5 got, 6 owners, 7 counts, 8 wordCounts, 9 words, 10 effective; sp: the stamps, longs). -/
abbrev xW (h : Nat) (a : Nat → Nat) (cA : Nat → ClassId) (nL nC nB : Nat) (F : Nat → Nat → Int32) (ls : Int32) : va_W :=
  [(h, .inr (0, [.ref (a 0), .ref (a 1), .ref (a 2), .ref (a 3), .ref (a 4), .ref (a 5), .ref (a 6), .ref (a 7), .ref (a 8), .ref (a 9), .ref (a 10), .ref (a 11), .int ls])),
   (a 0, .inl (cA 0, 16, .inl (F 0))), (a 1, .inl (cA 1, 16, .inl (F 1))), (a 2, .inl (cA 2, 16, .inl (F 2))), (a 3, .inl (cA 3, 16, .inl (F 3))), (a 4, .inl (cA 4, 16, .inl (F 4))), (a 5, .inl (cA 5, 16, .inl (F 5))), (a 6, .inl (cA 6, 16, .inl (F 6))), (a 7, .inl (cA 7, 16, .inl (F 7))),
   (a 8, .inl (cA 8, nL, .inl (F 8))), (a 9, .inl (cA 9, nC, .inl (F 9))), (a 10, .inl (cA 10, nB, .inl (F 10))), (a 11, .inl (cA 11, 4 * nB, .inl (F 11)))]
abbrev xT (cA : Nat → ClassId) : List (ClassId × FieldType) := [(cA 0, .int), (cA 1, .int), (cA 2, .int), (cA 3, .int), (cA 4, .int), (cA 5, .int), (cA 6, .int), (cA 7, .int), (cA 8, .int), (cA 9, .int), (cA 10, .int), (cA 11, .int)]
abbrev mW (h : Nat) (a : Nat → Nat) (cA : Nat → ClassId) (nL nC nB : Nat) (F : Nat → Nat → Int32) (sp : Nat → Int64) (cd : Int32) (ck : Int64) : va_W :=
  [(h, .inr (1, [.int (nI nL), .int (nI nC), .int (nI nB), .int cd, .long ck, .ref (a 0), .ref (a 1), .ref (a 11), .ref (a 2), .ref (a 3), .ref (a 4), .ref (a 5), .ref (a 6), .ref (a 7), .ref (a 8), .ref (a 9), .ref (a 10)])),
   (a 0, .inl (cA 0, 16, .inl (F 0))), (a 1, .inl (cA 1, 16, .inl (F 1))), (a 2, .inl (cA 2, 16, .inl (F 2))), (a 3, .inl (cA 3, 16, .inl (F 3))), (a 4, .inl (cA 4, 16, .inl (F 4))), (a 5, .inl (cA 5, 16, .inl (F 5))), (a 6, .inl (cA 6, 8, .inl (F 6))), (a 7, .inl (cA 7, 8, .inl (F 7))), (a 8, .inl (cA 8, 8, .inl (F 8))), (a 9, .inl (cA 9, 32, .inl (F 9))), (a 10, .inl (cA 10, 16, .inl (F 10))), (a 11, .inl (cA 11, 16, .inr (.inl sp)))]
abbrev mT (cA : Nat → ClassId) : List (ClassId × FieldType) := [(cA 0, .int), (cA 1, .int), (cA 2, .int), (cA 3, .int), (cA 4, .int), (cA 5, .int), (cA 6, .int), (cA 7, .int), (cA 8, .int), (cA 9, .int), (cA 10, .int), (cA 11, .long)]
abbrev xS : Type := (Nat → Nat → Int32) × Int32
abbrev mS : Type := (Nat → Nat → Int32) × (Nat → Int64) × Int32 × Int64
section ZZB
variable {p : Program} {l : Launch} {e : Env} {R : Room} {s : State} {m : MethodId} {args : Array Value} {below : List Frame} {meth : Method} {c : Code} {H H0 : Heap} {locs : List Loc} {cells slots pc : Nat} {Q : State → Prop} {ls : Array Slot} {rest : List Value} {D : va_G} {cl : List vw_C} {tys : List (ClassId × FieldType)} {ws ws' : va_W} {A : Nat → Prop} {cc : ByteArray} {a : Nat}
theorem zz_iald (hexec : p.tables.exec = Jvm.exec) (hb : c.code = cc) (hK : va_K D cl tys s) (hP : va_P D cl ws H) (q0 t0 : Nat) {cA : ClassId} {n : Nat} {f : Nat → Int32} (ha : ws[q0]? = some (a, .inl (cA, n, .inl f))) (ht : tys[t0]? = some (cA, .int)) {i : Nat} (hi : i < n) (hn : n < 2 ^ 31) (hdg : decode cc pc = .ok (.iaload, 1))
    (kk : W p l e R s m args below meth c H locs cells slots Q (F0 m (pc + 1) ls (.int (f i) :: rest))) : W p l e R s m args below meth c H locs cells slots Q (F0 m pc ls (.int (nI i) :: .ref a :: rest)) := by
  refine va_iald hexec hb hK hP q0 t0 ha ht (vp_in_nI hi hn) hdg ?_
  rw [nI_clamp (by omega)]
  exact kk
theorem zz_lald (hexec : p.tables.exec = Jvm.exec) (hb : c.code = cc) (hK : va_K D cl tys s) (hP : va_P D cl ws H) (q0 t0 : Nat) {cA : ClassId} {n : Nat} {f : Nat → Int64} (ha : ws[q0]? = some (a, .inl (cA, n, .inr (.inl f)))) (ht : tys[t0]? = some (cA, .long)) {i : Nat} (hi : i < n) (hn : n < 2 ^ 31) (hdg : decode cc pc = .ok (.laload, 1))
    (kk : W p l e R s m args below meth c H locs cells slots Q (F0 m (pc + 1) ls (.long (f i) :: rest))) : W p l e R s m args below meth c H locs cells slots Q (F0 m pc ls (.int (nI i) :: .ref a :: rest)) := by
  refine va_lald hexec hb hK hP q0 t0 ha ht (vp_in_nI hi hn) hdg ?_
  rw [nI_clamp (by omega)]
  exact kk
theorem zz_iast (hexec : p.tables.exec = Jvm.exec) (hb : c.code = cc) (hK : va_K D cl tys s) (hP : va_P D cl ws H) (hD : va_D A ws) (hS : va_S A H0 H locs) (q0 t0 : Nat) {cA : ClassId} {n : Nat} {f : Nat → Int32} (ha : ws[q0]? = some (a, .inl (cA, n, .inl f))) (ht : tys[t0]? = some (cA, .int)) {i : Nat} {x : Int32} (hi : i < n) (hn : n < 2 ^ 31) (hw : ws.set q0 (a, .inl (cA, n, .inl (upd f i x))) = ws') (hdg : decode cc pc = .ok (.iastore, 1))
    (kk : ∀ (H1 : Heap) (locs1 : List Loc), va_P D cl ws' H1 → va_D A ws' → va_S A H0 H1 locs1 → W p l e R s m args below meth c H1 locs1 cells slots Q (F0 m (pc + 1) ls rest)) : W p l e R s m args below meth c H locs cells slots Q (F0 m pc ls (.int x :: .int (nI i) :: .ref a :: rest)) := by
  refine va_iast hexec hb hK hP hD hS q0 t0 ha ht (vp_in_nI hi hn) hdg (fun H1 locs1 h1 h2 h3 => ?_)
  rw [nI_clamp (by omega), hw] at h1 h2
  exact kk H1 locs1 h1 h2 h3
theorem zz_last (hexec : p.tables.exec = Jvm.exec) (hb : c.code = cc) (hK : va_K D cl tys s) (hP : va_P D cl ws H) (hD : va_D A ws) (hS : va_S A H0 H locs) (q0 t0 : Nat) {cA : ClassId} {n : Nat} {f : Nat → Int64} (ha : ws[q0]? = some (a, .inl (cA, n, .inr (.inl f)))) (ht : tys[t0]? = some (cA, .long)) {i : Nat} {x : Int64} (hi : i < n) (hn : n < 2 ^ 31) (hw : ws.set q0 (a, .inl (cA, n, .inr (.inl (vp_updL f i x)))) = ws') (hdg : decode cc pc = .ok (.lastore, 1))
    (kk : ∀ (H1 : Heap) (locs1 : List Loc), va_P D cl ws' H1 → va_D A ws' → va_S A H0 H1 locs1 → W p l e R s m args below meth c H1 locs1 cells slots Q (F0 m (pc + 1) ls rest)) : W p l e R s m args below meth c H locs cells slots Q (F0 m pc ls (.long x :: .int (nI i) :: .ref a :: rest)) := by
  refine va_last hexec hb hK hP hD hS q0 t0 ha ht (vp_in_nI hi hn) hdg (fun H1 locs1 h1 h2 h3 => ?_)
  rw [nI_clamp (by omega), hw] at h1 h2
  exact kk H1 locs1 h1 h2 h3
theorem zz_copyi (hexec : p.tables.exec = Jvm.exec) (hb : c.code = cc) (hml : c.maxLocals = ls.size) {own : String} {index : Nat} (hown : s.vm.findClass own = some m.cls) (hlink : (Cond.methodLink own index arraycopyName).before args s = true) (hnat : (Cond.native arraycopyName).before args s = true) (hstat : (Cond.static arraycopyName).before args s = true) (hini : (Cond.initialized "java/lang/System").before args s = true)
    (hK : va_K D cl tys s) (hP : va_P D cl ws H) (hD : va_D A ws) (hS : va_S A H0 H locs) (q0 q1 t0 t1 : Nat) {a0 : Nat} {c0 c1 : ClassId} {n0 n1 : Nat} {f g : Nat → Int32} (ha0 : ws[q0]? = some (a0, .inl (c0, n0, .inl f))) (ha1 : ws[q1]? = some (a, .inl (c1, n1, .inl g))) (ht0 : tys[t0]? = some (c0, .int)) (ht1 : tys[t1]? = some (c1, .int))
    {sp dp n : Nat} (hs : sp < 2 ^ 31) (hd : dp < 2 ^ 31) (hn : n < 2 ^ 31) (h4 : sp + n ≤ n0) (h5 : dp + n ≤ n1) (hw : ws.set q1 (a, .inl (c1, n1, .inl (va_cpy f g sp dp n))) = ws') (hframes : 1 ≤ R.frames) (hlocals : (rest.map fun v => v.category).sum + (nativeFrameWords "java/lang/System" "arraycopy" 5 + 11) ≤ R.locals) (hdg : decode cc pc = .ok (.invokestatic index, 3))
    (kk : ∀ (H1 : Heap) (locs1 : List Loc), va_P D cl ws' H1 → va_D A ws' → va_S A H0 H1 locs1 → W p l e R s m args below meth c H1 locs1 cells slots Q (F0 m (pc + 3) ls rest)) :
    W p l e R s m args below meth c H locs cells slots Q (F0 m pc ls (.int (nI n) :: .int (nI dp) :: .ref a :: .int (nI sp) :: .ref a0 :: rest)) := by
  refine va_copyi hexec hb hml hown hlink hnat hstat hini hK hP hD hS q0 q1 t0 t1 ha0 ha1 ht0 ht1 rfl (nI_pos hs) (nI_pos hd) (nI_pos hn) (by rw [nI_clamp hs, nI_clamp hn]; exact h4) (by rw [nI_clamp hd, nI_clamp hn]; exact h5) (fun _ _ => rfl) hframes hlocals hdg (fun H1 locs1 h1 h2 h3 => ?_)
  rw [nI_clamp hs, nI_clamp hd, nI_clamp hn, hw] at h1 h2
  exact kk H1 locs1 h1 h2 h3
end ZZB
/-! numbers: a compare of an index with a bound -/
theorem zn_ge {i n : Nat} {k : Int32} (hk : k = nI n) (hi : i < 2 ^ 31) (hn : n < 2 ^ 31) (h : k ≤ nI i) : n ≤ i := by subst hk; exact (nI_leI hn hi).mp h
theorem zn_lt {i n : Nat} {k : Int32} (hk : k = nI n) (hi : i < 2 ^ 31) (hn : n < 2 ^ 31) (h : ¬ k ≤ nI i) : i < n := by
  subst hk
  rcases Nat.lt_or_ge i n with q | q
  · exact q
  · exact absurd ((nI_leI hn hi).mpr q) h
/-! what X's methods answer, by its rows -/
def xs_bf (F : Nat → Nat → Int32) (a b : Nat) : Bool := if F 2 a = F 2 b then decide (F 3 a < F 3 b) else decide (F 2 b < F 2 a)
def xs_ok (F : Nat → Nat → Int32) (st tg : Int32) (t : Nat) : Bool := decide (F 0 t = st ∧ F 4 t = tg)
def xs_fm (F : Nat → Nat → Int32) (st tg : Int32) : Option Nat := pq_pick (xs_ok F st tg) (xs_bf F) 16
theorem xs_fm_lt {F : Nat → Nat → Int32} {st tg : Int32} {t : Nat} (h : xs_fm F st tg = some t) : t < 16 := (pq_pick_lt h).1
abbrev xs_en (F : Nat → Nat → Int32) (ls : Int32) (t : Nat) (st tg : Int32) : Nat → Nat → Int32 := va_up (va_up (va_up F 0 (upd (F 0) t st)) 4 (upd (F 4) t tg)) 3 (upd (F 3) t (ls + 1))
abbrev xs_rd (F : Nat → Nat → Int32) (ls : Int32) (t : Nat) : Nat → Nat → Int32 := va_up (va_up (va_up (va_up F 0 (upd (F 0) t 1)) 4 (upd (F 4) t (-1))) 3 (upd (F 3) t (ls + 1))) 5 (upd (F 5) t 0)
def pq_dec (x : Int32) : Option Nat := if x < 0 then none else some x.toNatClampNeg
theorem pq_dec_enc {o : Option Nat} (h : ∀ n, o = some n → n < 16) : pq_dec (pq_enc o) = o := by
  cases o with
  | none => rfl
  | some n =>
    have hn := h n rfl
    show (if nI n < 0 then none else some (nI n).toNatClampNeg) = some n
    rw [if_neg (nI_pos (by omega)), nI_clamp (by omega)]
/-- each owner is a task or none -/
def xs_ow (nL : Nat) (O : Nat → Int32) : Prop := ∀ k, k < nL → O k = -1 ∨ ∃ j, j < 16 ∧ O k = nI j
theorem xs_ow.dec {nL : Nat} {O : Nat → Int32} (h : xs_ow nL O) {k : Nat} (hk : k < nL) : pq_enc (pq_dec (O k)) = O k ∧ ∀ n, pq_dec (O k) = some n → n < 16 := by
  rcases h k hk with e | ⟨j, hj, e⟩
  · rw [e]; exact ⟨rfl, fun n q => by cases q⟩
  · rw [e]
    have q : pq_dec (nI j) = some j := by
      show (if nI j < 0 then none else some (nI j).toNatClampNeg) = some j
      rw [if_neg (nI_pos (by omega)), nI_clamp (by omega)]
    rw [q]
    exact ⟨rfl, fun n q => by cases q; exact hj⟩
/-- who stands ahead of a task: the owner of the lock that it waits for -/
def xs_hd (nL : Nat) (F : Nat → Nat → Int32) (t : Nat) : Option Nat := if F 0 t = 2 ∧ ¬ F 4 t < 0 ∧ ¬ nI nL ≤ F 4 t then pq_dec (F 8 (F 4 t).toNatClampNeg) else none
theorem xs_hd_lt {nL : Nat} {F : Nat → Nat → Int32} (hn : nL ≤ 8) (h : xs_ow nL (F 8)) : ∀ t o, xs_hd nL F t = some o → o < 16 := by
  intro t o e
  unfold xs_hd at e
  split at e
  · rename_i q
    obtain ⟨j, hj, ej⟩ : ∃ j, j < nL ∧ F 4 t = nI j := by
      rcases pk_ix (F 4 t) (n := nL) (by omega) with c | c | c
      · exact absurd c q.2.1
      · exact absurd c q.2.2
      · exact c
    rw [ej, nI_clamp (by omega)] at e
    exact (h.dec hj).2 o e
  · cases e
/-- one task's base passed on along k steps of its chain: E0 before, E then -/
def xs_po (h : Nat → Option Nat) (b : Int32) (E0 : Nat → Int32) (t k : Nat) (E : Nat → Int32) : Prop :=
  (∀ o, o < 16 → (E0 o).toInt ≤ (E o).toInt) ∧ (∀ o j, 1 ≤ j → j ≤ k → pq_it h j t = some o → b.toInt ≤ (E o).toInt) ∧ ∀ o, o < 16 → E o = E0 o ∨ (E o = b ∧ ∃ j, pq_it h j t = some o)
theorem xs_po_0 {h : Nat → Option Nat} {b : Int32} {E0 : Nat → Int32} {t : Nat} : xs_po h b E0 t 0 E0 := ⟨fun _ _ => Int.le_refl _, fun _ j h1 h2 => absurd h1 (by omega), fun _ _ => Or.inl rfl⟩
theorem zn_max {x y : Int32} : x.toInt ≤ (if x < y then y else x).toInt ∧ y.toInt ≤ (if x < y then y else x).toInt := by
  split
  · rename_i q
    rw [Int32.lt_iff_toInt_lt] at q
    omega
  · rename_i q
    rw [Int32.lt_iff_toInt_lt] at q
    omega
theorem xs_po_1 {h : Nat → Option Nat} {b : Int32} {E0 E : Nat → Int32} {t k c : Nat} (q : xs_po h b E0 t k E) (e : pq_it h (k + 1) t = some c) : xs_po h b E0 t (k + 1) (upd E c (if E c < b then b else E c)) := by
  obtain ⟨q1, q2, q3⟩ := q
  have up : ∀ o, (E o).toInt ≤ (upd E c (if E c < b then b else E c) o).toInt := by
    intro o
    unfold upd
    split
    · rename_i eo
      rw [eo]
      exact zn_max.1
    · exact Int.le_refl _
  refine ⟨fun o ho => Int.le_trans (q1 o ho) (up o), fun o j h1 h2 ej => ?_, fun o ho => ?_⟩
  · rcases Nat.lt_or_eq_of_le h2 with z | z
    · exact Int.le_trans (q2 o j h1 (by omega) ej) (up o)
    · subst z
      rw [e] at ej
      cases ej
      unfold upd
      rw [if_pos rfl]
      exact zn_max.2
  · unfold upd
    split
    · rename_i eo
      subst eo
      split
      · exact Or.inr ⟨rfl, _, e⟩
      · exact q3 o ho
    · exact q3 o ho
theorem pq_it_none {h : Nat → Option Nat} {t k : Nat} (e : pq_it h k t = none) : ∀ j, k ≤ j → pq_it h j t = none := by
  intro j hj
  have q := pq_it_add h t k (j - k)
  rw [show k + (j - k) = j by omega, e] at q
  exact q
theorem xs_po_end {h : Nat → Option Nat} {b : Int32} {E0 E : Nat → Int32} {t k : Nat} (q : xs_po h b E0 t k E) (e : pq_it h (k + 1) t = none) : xs_po h b E0 t 16 E := by
  refine ⟨q.1, fun o j h1 h2 ej => ?_, q.2.2⟩
  rcases Nat.lt_or_ge k j with z | z
  · rw [pq_it_none e j z] at ej
    cases ej
  · exact q.2.1 o j h1 z ej
/-- the tasks below i have passed their bases on -/
def xs_se (h : Nat → Option Nat) (b : Nat → Int32) (i : Nat) (E : Nat → Int32) : Prop :=
  (∀ o, o < 16 → (b o).toInt ≤ (E o).toInt) ∧ (∀ t o j, t < i → 1 ≤ j → j ≤ 16 → pq_it h j t = some o → (b t).toInt ≤ (E o).toInt) ∧ ∀ o, o < 16 → ∃ t j, t < 16 ∧ pq_it h j t = some o ∧ E o = b t
theorem xs_se_0 {h : Nat → Option Nat} {b g : Nat → Int32} : xs_se h b 0 (va_cpy b g 0 0 16) := by
  have e : ∀ o, o < 16 → va_cpy b g 0 0 16 o = b o := fun o ho => by rw [pk_cpy_in (by omega) (by omega)]; simp
  refine ⟨fun o ho => by rw [e o ho]; exact Int.le_refl _, fun t o j h1 => absurd h1 (by omega), fun o ho => ⟨o, 0, ho, rfl, e o ho⟩⟩
theorem xs_se_1 {h : Nat → Option Nat} {b E E' : Nat → Int32} {i : Nat} (hh : ∀ t o, h t = some o → o < 16) (hi : i < 16) (q : xs_se h b i E) (p : xs_po h (b i) E i 16 E') : xs_se h b (i + 1) E' := by
  refine ⟨fun o ho => Int.le_trans (q.1 o ho) (p.1 o ho), fun t o j h1 h2 h3 e => ?_, fun o ho => ?_⟩
  · rcases Nat.lt_or_eq_of_le (Nat.le_of_lt_succ h1) with z | z
    · exact Int.le_trans (q.2.1 t o j z h2 h3 e) (p.1 o (pq_it_lt hh (by omega) e))
    · subst z
      exact p.2.1 o j h2 h3 e
  · rcases p.2.2 o ho with z | ⟨z, j, ej⟩
    · obtain ⟨t, j, h1, h2, h3⟩ := q.2.2 o ho
      exact ⟨t, j, h1, h2, z.trans h3⟩
    · exact ⟨i, j, hi, ej, z⟩
theorem xs_se_end {h : Nat → Option Nat} {b E : Nat → Int32} (hh : ∀ t o, h t = some o → o < 16) (q : xs_se h b 16 E) : pq_Eff h b E := by
  refine ⟨fun t k o ht e => ?_, q.2.2⟩
  obtain ⟨k', hk, e'⟩ := pq_short hh ht k o e
  rcases Nat.eq_zero_or_pos k' with z | z
  · subst z
    cases e'
    exact q.1 t ht
  · exact q.2.1 t o k' ht z (by omega) e'
/-- the chain from a lock's owner -/
def xs_ch (nL : Nat) (F : Nat → Nat → Int32) (k j : Nat) : Option Nat := (pq_dec (F 8 k)).bind (pq_it (xs_hd nL F) j)
theorem xs_ch_s {nL : Nat} {F : Nat → Nat → Int32} {k j : Nat} : xs_ch nL F k (j + 1) = (xs_ch nL F k j).bind (xs_hd nL F) := by
  unfold xs_ch
  cases pq_dec (F 8 k) <;> rfl
theorem xs_ch_lt {nL : Nat} {F : Nat → Nat → Int32} {k j o : Nat} (hn : nL ≤ 8) (h : xs_ow nL (F 8)) (hk : k < nL) (e : xs_ch nL F k j = some o) : o < 16 := by
  unfold xs_ch at e
  cases q : pq_dec (F 8 k) with
  | none => rw [q] at e; cases e
  | some t => rw [q] at e; exact pq_it_lt (xs_hd_lt hn h) ((h.dec hk).2 t q) e
theorem xs_ch_none {nL : Nat} {F : Nat → Nat → Int32} {k j : Nat} (e : xs_ch nL F k j = none) : ∀ i, j ≤ i → xs_ch nL F k i = none := by
  intro i hi
  unfold xs_ch at e ⊢
  cases q : pq_dec (F 8 k) with
  | none => rfl
  | some t => rw [q] at e; exact pq_it_none e i hi
def xs_ww (nL : Nat) (F : Nat → Nat → Int32) (t k : Nat) : Prop := ∃ j, j < 16 ∧ xs_ch nL F k j = some t
/-- the sleeper that wakes first -/
def xs_sl (F : Nat → Nat → Int32) : Option Nat := pq_pick (fun t => decide (F 0 t = 6)) (fun a b => decide (F 5 a < F 5 b)) 16
def xs_wk (many : Int32) : Nat → xS → Nat × xS
  | 0, u => (0, u)
  | n + 1, u => match xs_sl u.1 with
    | none => (0, u)
    | some t => if u.1 5 t ≤ many then ((xs_wk many n (xs_rd u.1 u.2 t, u.2 + 1)).1 + 1, (xs_wk many n (xs_rd u.1 u.2 t, u.2 + 1)).2) else (0, u)
