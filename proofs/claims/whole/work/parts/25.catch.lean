/-! CAUGHT: an exception of a callee comes to the row of this method's table that takes it, past rows that don't -/
/-- the search ends at pc, and leaves the tables vm' -/
def zc_F (e : Env) (u : State) (f : JFrame) (a : Addr) (pc : Nat) (vm' : Vm) : Prop := ∀ (Q : Handler → Pre) (E : CtlPost) (d : Bool) (acts : List Action), wp (findHandler f a) Q E e d acts u ↔ Q (.found pc) d acts (u.setVm vm')
/-- one row that covers the pc: taken or passed, by the class that it links to -/
theorem zc_row {Q : Handler → Pre} {E : CtlPost} {e : Env} {d : Bool} {acts : List Action} {u : State} {f : JFrame} {a : Addr} {x : ExceptionTableEntry} {t : List ExceptionTableEntry} {k : ClassId} {ce : Cell} {b : Bool} (hx : covers x f.pc = true) (h0 : x.catchType ≠ 0)
    (hl : u.vm.ClassLinks e.platform f.method.cls x.catchType k) (hce : u.heap[a]? = some ce) (hob : ∀ k, ce.vm ≠ .statics k) (h1 : ∃ k1, u.vm.classes[ce.cls]? = some k1) (h2 : ∃ k2, u.vm.classes[k]? = some k2) (hb : u.vm.assignable ce.cls k = b) :
    wp (findHandler.go f a (x :: t)) Q E e d acts u ↔ (if b = true then Q (.found x.handlerPc) d acts (u.setVm (u.vm.noted f.method.cls x.catchType (.cls k))) else wp (findHandler.go f a t) Q E e d acts (u.setVm (u.vm.noted f.method.cls x.catchType (.cls k)))) := by
  simp only [covers] at hx
  obtain ⟨o1, o2⟩ := (resolveClass_links e.toSetting hl).op (op := VmOp.resolveClass f.method.cls x.catchType) rfl
  have al : u.vm.Alike (u.vm.noted f.method.cls x.catchType (.cls k)) := (Vm.Alike.refl u.vm).noted _ _ _
  obtain ⟨c1, h1⟩ := h1
  obtain ⟨c2, h2⟩ := h2
  obtain ⟨c1', h1', -⟩ := al.2.2 _ _ h1
  obtain ⟨c2', h2', -⟩ := al.2.2 _ _ h2
  have hb' : (u.vm.noted f.method.cls x.catchType (.cls k)).assignable ce.cls k = b := by rw [al.assignable]; exact hb
  cases b <;> simp [findHandler.go, hx, h0, o1, o2, hce, hob, h1', h2', hb', VmOp.dirties, VmOp.acts]
/-- a row that is passed -/
def zc_P (e : Env) (s : State) (d : ClassId) (pc : Nat) (th : ClassId) (y : ExceptionTableEntry) : Prop := covers y pc = false ∨ (y.catchType ≠ 0 ∧ ∃ k, s.vm.ClassLinks e.platform d y.catchType k ∧ s.vm.assignable th k = false)
theorem zc_go {e : Env} {s : State} {f : JFrame} {a : Addr} {ce : Cell} {x : ExceptionTableEntry} {suf : List ExceptionTableEntry} {k : ClassId} (hob : ∀ k, ce.vm ≠ .statics k) (hk0 : ∃ k, s.vm.classes[ce.cls]? = some k) (hx : covers x f.pc = true) (h0 : x.catchType ≠ 0) (hl : s.vm.ClassLinks e.platform f.method.cls x.catchType k) (hfit : s.vm.assignable ce.cls k = true) :
    ∀ (pre : List ExceptionTableEntry) (u : State), s.WarmedH u.vm → u.heap[a]? = some ce → (∀ y ∈ pre, zc_P e s f.method.cls f.pc ce.cls y) → ∃ vm', s.WarmedH vm' ∧ ∀ (Q : Handler → Pre) (E : CtlPost) (d : Bool) (acts : List Action), wp (findHandler.go f a (pre ++ x :: suf)) Q E e d acts u ↔ Q (.found x.handlerPc) d acts (u.setVm vm') := by
  obtain ⟨k0, hk0⟩ := hk0
  intro pre
  induction pre with
  | nil =>
    intro u hW hce _
    obtain ⟨k0', q0, -⟩ := hW.alike.2.2 _ _ hk0
    obtain ⟨dk, _, _, kt, hd, _, _, _, _, hkt, _, hopen⟩ := hl.here
    obtain ⟨kt', q1, -⟩ := hW.alike.2.2 _ _ hkt
    refine ⟨_, hW.noted hd hopen (State.rightAt_cls hl), fun Q E d acts => ?_⟩
    have z := zc_row (Q := Q) (E := E) (d := d) (acts := acts) (t := suf) (b := true) hx h0 (hW.classLinks hl) hce hob ⟨k0', q0⟩ ⟨kt', q1⟩ (by rw [hW.alike.assignable]; exact hfit)
    rw [if_pos rfl] at z
    exact z
  | cons y ys ih =>
    intro u hW hce hp
    have hys : ∀ z ∈ ys, zc_P e s f.method.cls f.pc ce.cls z := fun z hz => hp z (List.mem_cons_of_mem _ hz)
    obtain ⟨k0', q0, -⟩ := hW.alike.2.2 _ _ hk0
    cases hc : covers y f.pc with
    | false =>
      obtain ⟨vm', w1, w2⟩ := ih u hW hce hys
      refine ⟨vm', w1, fun Q E d acts => ?_⟩
      show wp (findHandler.go f a (y :: (ys ++ x :: suf))) Q E e d acts u ↔ _
      rw [W.findHandler_go_skip hc]
      exact w2 Q E d acts
    | true =>
      rcases hp y List.mem_cons_self with q | ⟨hy0, k2, hl2, hno⟩
      · rw [q] at hc; cases hc
      · obtain ⟨dk, _, _, kt, hd, _, _, _, _, hkt, _, hopen⟩ := hl2.here
        obtain ⟨kt', q1, -⟩ := hW.alike.2.2 _ _ hkt
        obtain ⟨vm', w1, w2⟩ := ih (u.setVm (u.vm.noted f.method.cls y.catchType (.cls k2))) (hW.noted hd hopen (State.rightAt_cls hl2)) hce hys
        refine ⟨vm', w1, fun Q E d acts => ?_⟩
        show wp (findHandler.go f a (y :: (ys ++ x :: suf))) Q E e d acts u ↔ _
        have z := zc_row (Q := Q) (E := E) (d := d) (acts := acts) (t := ys ++ x :: suf) (b := false) hc hy0 (hW.classLinks hl2) hce hob ⟨k0', q0⟩ ⟨kt', q1⟩ (by rw [hW.alike.assignable]; exact hno)
        rw [if_neg (by decide)] at z
        exact z.trans (w2 Q E d acts)
theorem zc_step {e : Env} {u : State} {a : Addr} {f : JFrame} {r : List Frame} {pc : Nat} {vm' : Vm} (h : zc_F e u f a pc vm') : (stepThrowing e u a (.java f :: r)).Is ((u.setVm vm').setFrames (.java { f with pc := pc, stack := [.ref a] } :: r)) [] := by
  simp only [stepThrowing, searchFrame, vmDo]
  generalize hr : Sem.go _ e false [] u = res
  obtain ⟨as, rfl, ha⟩ := Sem.eq_ok_of hr (a := Handler.found pc) (s' := u.setVm vm') (acts' := []) (by simp [h _ _ _ _])
  exact ⟨rfl, ha⟩
theorem zc_steps {tb : Tables} {e : Env} {u tg : State} {g : JFrame} {c : Code} {below : List Frame} {a : Addr} (h : At u g.method c below) {pc : Nat} {vm' : Vm} (hf : zc_F e ((u.setTop g).pushFrame (.throwing a)) g a pc vm') (hr : Steps tb e below ((u.setVm vm').setTop { g with pc := pc, stack := [.ref a] }) tg) :
    Steps tb e below ((u.setTop g).pushFrame (.throwing a)) tg := by
  obtain ⟨w1, w2⟩ := h.throwing a
  refine Steps.head w1 w2 ?_
  rw [stepThread_throwing (frames_entered h.top _), (zc_step (u := (u.setTop g).pushFrame (.throwing a)) hf).1]
  obtain ⟨g0, hg⟩ := Option.isSome_iff_exists.mp h.top
  obtain ⟨r, hfr⟩ := State.topJava?_eq_some.mp hg
  have hfr' : (u.setVm vm').frames = .java g0 :: r := hfr
  have key : ∀ (F G : List Frame), ((u.setFrames F).setVm vm').setFrames G = (u.setVm vm').setFrames G := fun F G => by
    rw [show (u.setFrames F).setVm vm' = (u.setVm vm').setFrames F from rfl, State.setFrames_setFrames]
  rw [State.setTop_of_frames _ hfr'] at hr
  rw [hfr, List.tail_cons, State.pushFrame, State.setTop_of_frames _ hfr, State.setFrames_setFrames, key]
  exact hr
section ZCA
variable {p : Program} {l : Launch} {e : Env} {R : Room} {s : State} {m : MethodId} {args : Array Value} {below : List Frame} {meth : Method} {c : Code} {H : Heap} {locs : List Loc} {cells slots pc : Nat} {Q : State → Prop} {ls : Array Slot} {rest : List Value}
theorem zc_catch {own name : String} {E : String} {ce : Cell} {q : Addr} (hown : s.vm.findClass own = some m.cls) (pre : List ExceptionTableEntry) (x : ExceptionTableEntry) (suf : List ExceptionTableEntry) (hsplit : c.exceptionTable.toList = pre ++ x :: suf)
    (hpass : ∀ z ∈ pre, covers z pc = false ∨ (z.catchType ≠ 0 ∧ ∃ nm : String, (Cond.classLink own z.catchType nm).before args s = true ∧ va_Nc E nm s)) (hx : covers x pc = true) (h0 : x.catchType ≠ 0)
    (hlink : (Cond.classLink own x.catchType name).before args s = true) (hcast : (Cond.castable E name).before args s = true) (hcell : H[q]? = some ce) (hv : ce.vm = .none) (hcl : s.vm.findClass E = some ce.cls)
    (kk : W p l e R s m args below meth c H locs cells slots Q (F0 m x.handlerPc ls [.ref q])) : vx_W p l e R s m args below meth c H locs cells slots Q (F0 m pc ls rest) q := by
  intro T hT X
  have hpl : e.platform.magicAccessors = ({} : Platform).magicAccessors := by rw [X.admits.platform]
  obtain ⟨c3, c4, hc3, hc4, hasg⟩ := Cond.castable_spec hcast
  cases Option.some.inj (hc3.symm.trans hcl)
  obtain ⟨c5, hc5, hcl5⟩ := Cond.classLink_spec hown hlink e.platform hpl
  cases Option.some.inj (hc4.symm.trans hc5)
  obtain ⟨k9, h9, -⟩ := Vm.findClass_spec hcl
  obtain ⟨vm', hW', hq⟩ := zc_go (e := e) (s := s) (f := F0 m pc ls rest) (a := q) (ce := ce) (x := x) (suf := suf) (by rw [hv]; intro k z; cases z) ⟨k9, h9⟩ hx h0 hcl5 hasg pre ((T.setTop (F0 m pc ls rest)).pushFrame (.throwing q)) X.warmed (by show T.heap[q]? = _; rw [hT]; exact hcell) (fun z hz => by
    rcases hpass z hz with h | ⟨hz0, nm, hl1, hn1⟩
    · exact Or.inl h
    · obtain ⟨c6, hc6, hcl6⟩ := Cond.classLink_spec hown hl1 e.platform hpl
      obtain ⟨a8, b8, h1, h2, h3⟩ := hn1
      cases Option.some.inj (h1.symm.trans hcl)
      cases Option.some.inj (h2.symm.trans hc6)
      exact Or.inr ⟨hz0, _, hcl6, h3⟩)
  obtain ⟨t, a1, b1⟩ := kk (T.setVm vm') hT (X.noted hW')
  refine ⟨t, zc_steps (g := F0 m pc ls rest) X.here (pc := x.handlerPc) (vm' := vm') (fun Q9 E9 d9 acts9 => ?_) a1, b1⟩
  rw [W.findHandler_eq (meth := meth) (code := c) X.method' X.code, hsplit]
  exact hq Q9 E9 d9 acts9
end ZCA
