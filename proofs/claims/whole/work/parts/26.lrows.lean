/-! THE LAW'S WRAPPERS: what they take as given at their entry; the call in them, and what they answer -/
def zl_N (U : State) : Prop := va_Nc xE_A xE_I U ∧ va_Nc xE_S xE_I U ∧ va_Nc xE_S xE_A U ∧ va_Nc xE_A xE_S U ∧ va_Nc xE_U xE_I U ∧ va_Nc xE_I xE_A U
theorem zl_N.moved {u U : State} (hvm : u.vm.Alike U.vm) (h : zl_N u) : zl_N U := ⟨h.1.moved hvm, h.2.1.moved hvm, h.2.2.1.moved hvm, h.2.2.2.1.moved hvm, h.2.2.2.2.1.moved hvm, h.2.2.2.2.2.moved hvm⟩
def zl_Pre (D : va_G) (cl : List vw_C) (tys : List (ClassId × FieldType)) (w : va_W) (sz : Nat) : State → Prop := fun U => zx_Pre D cl tys w sz U ∧ zl_N U
/-- what a wrapper answers: 0 and the answer in out, or the exception's number and nothing changed -/
def zl_post (F : Nat → Nat → Int32) (ls : Int32) (f : Nat → Int64) (po : Int32 → xS → Prop) (xp : String → Prop) (lk : String → Int32) (r : Int32) (u : xS × (Nat → Int64)) : Prop := (r = 0 ∧ ∃ v, u.2 0 = v.toInt64 ∧ po v u.1) ∨ (∃ E, r = lk E ∧ xp E ∧ u = ((F, ls), f))
abbrev oE (o : Nat) (co : ClassId) (f : Nat → Int64) : Nat × va_E := (o, .inl (co, 1, .inr (.inl f)))
section ZLA
variable {p : Program} {l : Launch} {e : Env} {R : Room} {s : State} {m : MethodId} {args : Array Value} {below : List Frame} {meth : Method} {c : Code} {H H0 : Heap} {locs : List Loc} {cells slots mc ms pc : Nat} {Q : State → Prop} {ls : Array Slot} {rest st0 : List Value} {D : va_G} {cl : List vw_C} {tys : List (ClassId × FieldType)} {w : va_W} {A : Nat → Prop} {a : Array Value} {cc : ByteArray}
theorem zl_blind {av : List Value} {sz : Nat} : FrameBlind (va_Pc av (zl_Pre D cl tys w sz)) := fun a U g mk q => by
  obtain ⟨q0, q1, q2⟩ := q
  exact ⟨q0, (zx_blind (av := av) a U g mk ⟨q0, q1⟩).2, q2.moved (u := U) (Vm.Alike.refl U.vm)⟩
theorem zl_pS {av : List Value} (hP : va_P D cl w H) (hK : va_K D cl tys s) (hD : va_D A w) (hA : ∀ q, s.heap.size ≤ q → A q) (hS : va_S A s.heap H locs) (hT : zx_T A s) (hN : zl_N s) : PreS s H (va_Pc av (zl_Pre D cl tys w H.size)) av :=
  ⟨zl_blind, fun U hU hW => ⟨rfl, ((zx_pS (av := av) hP hK hD hA hS hT).2 U hU hW).2, hN.moved hW.alike⟩⟩
/-- a call on a part of the world, of a method that may throw -/
theorem zl_ci {S : Type} {post : Int32 → S → Prop} {wf : S → va_W} {ws wr : va_W} {xp : String → Prop} {ty2 : List (ClassId × FieldType)}
    (hr : vx_Run p l e R s m args below meth c H locs cells slots mc ms (F0 m pc ls st0) rest (va_Qi post (zz_At D cl ty2 wf (va_A w H.size)) (va_A w H.size) a) (zx_X D cl ty2 w xp (va_A w H.size)) (va_A w H.size))
    (hP : va_P D cl ws H) (hD : va_D A ws) (hS : va_S A H0 H locs) (hA : ∀ q, H0.size ≤ q → A q) (isC isR : List Nat) (hC : isC.map (fun i => ws[i]?) = w.map some) (hR : isR.map (fun i => ws[i]?) = wr.map some) (hn : va_nd isR = true) (hdis : ∀ i ∈ isR, i ∉ isC)
    (kx : ∀ (E : String) (ce : Cell) (q9 : Addr) (H1 : Heap) (locs1 : List Loc), xp E → va_P D cl (wr ++ w) H1 → va_D A (wr ++ w) → va_S A H0 H1 locs1 → H1[q9]? = some ce → ce.vm = .none → s.vm.findClass E = some ce.cls → vx_W p l e R s m args below meth c H1 locs1 (cells + mc) (slots + ms) Q (F0 m pc ls rest) q9)
    (kk : ∀ (r : Int32) (u : S) (H1 : Heap) (locs1 : List Loc), post r u → va_P D cl (wr ++ wf u) H1 → va_D A (wr ++ wf u) → va_S A H0 H1 locs1 → W p l e R s m args below meth c H1 locs1 (cells + mc) (slots + ms) Q (F0 m (pc + 3) ls (.int r :: rest))) :
    W p l e R s m args below meth c H locs cells slots Q (F0 m pc ls st0) := by
  have hF := va_free (wc := w) hD hS hA isC hC
  refine vx_calli hr hS (fun q _ h => hF q h) hF (fun q _ h => hF q h) (fun E ce q9 u t H1 locs1 ht1 hvm _ hB hz hk hS1 h1 h2 h3 => ?_) (fun r u t H1 locs1 ht1 hvm hw hB hz hk hS1 => ?_)
  · obtain ⟨hx, hP1, -, hD1⟩ := hB
    rw [ht1] at hP1
    obtain ⟨a1, a2⟩ := va_join hP hD isC isR hC hR hn hdis hk hF hP1 hD1
    exact kx E ce q9 H1 locs1 hx a1 a2 hS1 h1 h2 h3
  · obtain ⟨hP1, -, hD1⟩ := hB
    rw [ht1] at hP1
    obtain ⟨a1, a2⟩ := va_join hP hD isC isR hC hR hn hdis hk hF hP1 hD1
    exact kk r u H1 locs1 hw a1 a2 hS1
end ZLA
theorem zl_of {l : Launch} {y : MethodName} {ws ws' : List Cond} {rm : Room} {mc ms : Nat} {cc : ByteArray} {maxL : Nat} {ret : Option FieldType} {hh : List (Nat × Nat × Nat × Nat)} {D : va_G} {cl : List vw_C} {tys : List (ClassId × FieldType)} {w : va_W} {av : List Value} {sz : Nat} {Qc : (Nat → Prop) → Array Value → State → Outcome → State → Prop}
    (hy : plainName y.cls = true) (hw : ws = Cond.codeWith y cc maxL ret hh :: ws') (hn : (lg_sl av).length ≤ maxL)
    (body : ∀ (p : Program) (e : Env) (s : State) (m : MethodId) (args : Array Value) (below : List Frame) (meth : Method) (c : Code) (A : Nat → Prop) (H : Heap) (locs : List Loc) (ls : Array Slot), p.tables.exec = Jvm.exec → c.code = cc → meth.sig.returnType = ret → c.maxLocals = maxL → s.vm.findClass y.cls = some m.cls → (∀ w ∈ ws, w.before args s = true) → meth.locks = false → c.exceptionTable.toList = tableOf hh → zx_T A s → zl_N s → (∀ q, s.heap.size ≤ q → A q) → va_P D cl w H → va_K D cl tys s → va_D A w → va_S A s.heap H locs → lv_has ls maxL (lv_args 0 av) →
      W p l e rm s m args below meth c H locs 0 0 (MQ below (Qc A) args s mc ms A) (F0 m 0 ls [])) :
    Met l y ws rm (va_Pc av (zl_Pre D cl tys w sz)) (Qc (va_A w sz)) mc ms (va_A w sz) := by
  refine va_MetW hy hw ?_
  intro p e s m args below meth c s₁ B hml hv
  obtain ⟨rfl, ⟨⟨hsz, hP, hK, hD0⟩, hT⟩, hN⟩ := hv
  subst hsz
  have hl := lv_entry av (n := maxL) hn
  have hts := atoms_spec (ws := ws) B.pre
  rw [lg_entry_eq]
  exact body p e s m _ below meth c (va_A w s.heap.size) s.heap [] _ B.exec B.bytes B.returns hml (findClass_of_methodNamed B.named) hts B.notSynchronized (vx_table (x := y) B (hts _ (by rw [hw]; exact List.mem_cons_self))) hT hN (fun q h => Or.inr h) hP hK (hD0.self (sz := s.heap.size)) va_S.rf hl
