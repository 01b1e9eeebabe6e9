/-! ROWS OF OUR OWN FOR METHODS THAT THROW: what they take as given at their entry (zx_T), their calls, throws and ends -/
def zx_strs : List (Nat × String) := [(62, "the task is not free"), (77, "the task is free"), (91, "the task would wait for itself"), (98, "the task does not own the lock"), (109, "the counter is at its greatest number"), (121, "the ticks are not 1 .. 1000"), (126, "the task owns a lock"), (128, "the ticks are not 0 .. 1000"), (133, "nothing is told by this number"), (135, "nothing is waited for by this kind"), (157, "there is no such task"), (160, "the priority is not 1 .. 255"), (162, "there is no such lock"), (164, "there is no such counter"), (166, "there is no such box"), (168, "no task runs")]
abbrev xE_I : String := "java/lang/IndexOutOfBoundsException"
abbrev xE_A : String := "java/lang/IllegalArgumentException"
abbrev xE_S : String := "java/lang/IllegalStateException"
abbrev xE_U : String := "java/lang/UnsupportedOperationException"
abbrev zx_d1 : Cond := .declares ⟨"java/lang/RuntimeException", "<init>", "(Ljava/lang/String;)V"⟩
abbrev zx_d2 : Cond := .declares ⟨"java/lang/Exception", "<init>", "(Ljava/lang/String;)V"⟩
abbrev zx_d3 : Cond := .declares ⟨"java/lang/Throwable", "<init>", "(Ljava/lang/String;)V"⟩
def zx_N (U : State) : Prop := va_Nw (.castable xE_I xE_I) U ∧ va_Nw (.castable xE_A xE_A) U ∧ va_Nw (.castable xE_S xE_S) U ∧ va_Nw (.castable xE_U xE_U) U ∧ va_Nw zx_d1 U ∧ va_Nw zx_d2 U ∧ va_Nw zx_d3 U
def zx_T (A : Nat → Prop) (U : State) : Prop := vx_Zq Bundle.tN "UNASSIGNED_STACK" Bundle.steD A U U.heap ∧ vx_Zq Bundle.tN "SUPPRESSED_SENTINEL" Bundle.listD A U U.heap ∧ (∀ q ∈ zx_strs, ∃ sa, vk_R RX0 q.1 q.2 sa U) ∧ zx_N U
theorem zx_T.call {A : Nat → Prop} {U : State} {g : JFrame} {mk : MethodId} {a : Array Value} (h : zx_T A U) : zx_T A (U.calling g mk a) := by
  obtain ⟨h1, h2, h3, n1, n2, n3, n4, n5, n6, n7⟩ := h
  refine ⟨vx_Zq.moved (u := U) (Vm.Alike.refl U.vm) h1, vx_Zq.moved (u := U) (Vm.Alike.refl U.vm) h2, fun q hq => ?_, va_Nw.same rfl rfl n1, va_Nw.same rfl rfl n2, va_Nw.same rfl rfl n3, va_Nw.same rfl rfl n4, va_Nw.same rfl rfl n5, va_Nw.same rfl rfl n6, va_Nw.same rfl rfl n7⟩
  obtain ⟨sa, hs⟩ := h3 q hq
  exact ⟨sa, vk_R.same (u := U) rfl hs⟩
theorem zx_T.to {A B : Nat → Prop} {s U : State} {H : Heap} {locs : List Loc} (h : zx_T A s) (hS : va_S A s.heap H locs) (hAB : ∀ q, B q → A q) (hU : U.heap = H) (hW : s.WarmedH U.vm) : zx_T B U := by
  obtain ⟨h1, h2, h3, n1, n2, n3, n4, n5, n6, n7⟩ := h
  refine ⟨?_, ?_, fun q hq => ?_, va_Nw.warmC hW n1, va_Nw.warmC hW n2, va_Nw.warmC hW n3, va_Nw.warmC hW n4, va_Nw.warmD hW n5, va_Nw.warmD hW n6, va_Nw.warmD hW n7⟩
  · rw [hU]; exact vx_Zq.moved hW.alike (vx_Zq.narrow (vx_Zq.kept h1 (fun a ha hn => hS.2.1 a ha hn)) hAB)
  · rw [hU]; exact vx_Zq.moved hW.alike (vx_Zq.narrow (vx_Zq.kept h2 (fun a ha hn => hS.2.1 a ha hn)) hAB)
  · obtain ⟨sa, hs⟩ := h3 q hq
    exact ⟨sa, vk_R.warm hW hs⟩
def zx_Pre (D : va_G) (cl : List vw_C) (tys : List (ClassId × FieldType)) (w : va_W) (sz : Nat) : State → Prop := fun U => zz_Pre D cl tys w sz U ∧ zx_T (va_A w sz) U
/-- what has happened where E was thrown: E fits, the world is as it was -/
def zx_X (D : va_G) (cl : List vw_C) (tys : List (ClassId × FieldType)) (w : va_W) (xp : String → Prop) (A : Nat → Prop) : String → State → State → Prop := vx_X (fun _ : Unit => True) (fun E _ t => xp E ∧ va_P D cl w t.heap ∧ va_K D cl tys t ∧ va_D A w) A
section ZXA
variable {p : Program} {l : Launch} {e : Env} {R : Room} {s : State} {m : MethodId} {args : Array Value} {below : List Frame} {meth : Method} {c : Code} {H H0 : Heap} {locs : List Loc} {cells slots mc ms nc ns pc : Nat} {Q : State → Prop} {ls : Array Slot} {rest st0 : List Value} {D : va_G} {cl : List vw_C} {tys : List (ClassId × FieldType)} {w w0 : va_W} {A : Nat → Prop} {a : Array Value} {cc : ByteArray} {Qc : Array Value → State → Outcome → State → Prop}
theorem zx_blind {av : List Value} {sz : Nat} : FrameBlind (va_Pc av (zx_Pre D cl tys w sz)) := fun a U g mk q => by
  obtain ⟨q0, q1, q2⟩ := q
  exact ⟨q0, (zz_blind (av := av) a U g mk ⟨q0, q1⟩).2, zx_T.call q2⟩
theorem zx_pS {av : List Value} (hP : va_P D cl w H) (hK : va_K D cl tys s) (hD : va_D A w) (hA : ∀ q, s.heap.size ≤ q → A q) (hS : va_S A s.heap H locs) (hT : zx_T A s) : PreS s H (va_Pc av (zx_Pre D cl tys w H.size)) av :=
  ⟨zx_blind, fun U hU hW => ⟨rfl, ((zz_pS (av := av) hP hK hD).2 U hU hW).2, hT.to hS (zz_sub hD hA hS) hU hW⟩⟩
theorem zx_pV {av : List Value} {C : String} {b : Addr} (hP : va_P D cl w H) (hK : va_K D cl tys s) (hD : va_D A w) (hA : ∀ q, s.heap.size ≤ q → A q) (hS : va_S A s.heap H locs) (hT : zx_T A s) (hr : ∃ cell : Cell, H[b]? = some cell ∧ cell.vm.isStatics = false ∧ s.vm.findClass C = some cell.cls) : PreV s H C b (va_Pc (.ref b :: av) (zx_Pre D cl tys w H.size)) av :=
  ⟨zx_blind, hr, fun U hU hW => ⟨rfl, ((zz_pS (av := .ref b :: av) hP hK hD).2 U hU hW).2, hT.to hS (zz_sub hD hA hS) hU hW⟩⟩
/-- an exception that a callee threw leaves this method too -/
theorem zx_out {E : String} {ce : Cell} {q : Addr} {xp : String → Prop} (ht : ∀ x ∈ c.exceptionTable.toList, False) (hlocks : meth.locks = false) (hP : va_P D cl w0 H) (hK : va_K D cl tys s) (hD : va_D A w0) (hS : va_S A s.heap H locs) (hcell : H[q]? = some ce) (hv : ce.vm = .none) (hcl : s.vm.findClass E = some ce.cls) (hx : xp E) (hc : cells ≤ mc) (hs : slots ≤ ms) :
    vx_W p l e R s m args below meth c H locs cells slots (vx_MQ below Qc (zx_X D cl tys w0 xp A) args s mc ms A) (F0 m pc ls rest) q :=
  vx_out (fun x h => (ht x h).elim) hlocks hcell hv hcl (fun t h1 h2 => ⟨(), trivial, ⟨hx, by rw [h1]; exact hP, va_K.moved h2 hK, hD⟩, hS.F h1⟩) hS.2.2 hc hs
/-- a call on the whole world of a method that may throw: what it throws goes on to our caller -/
theorem zx_ci {S : Type} {post : Int32 → S → Prop} {wf : S → va_W} {xq xp : String → Prop} (ht : ∀ x ∈ c.exceptionTable.toList, False) (hlocks : meth.locks = false) (hK : va_K D cl tys s) (hxq : ∀ E, xq E → xp E) (hm1 : cells + mc ≤ nc) (hm2 : slots + ms ≤ ns)
    (hr : vx_Run p l e R s m args below meth c H locs cells slots mc ms (F0 m pc ls st0) rest (va_Qi post (zz_At D cl tys wf (va_A w H.size)) (va_A w H.size) a) (zx_X D cl tys w xq (va_A w H.size)) (va_A w H.size))
    (hw0 : w = w0) (hD : va_D A w) (hS : va_S A s.heap H locs) (hA : ∀ q, s.heap.size ≤ q → A q)
    (kk : ∀ (r : Int32) (u : S) (H1 : Heap) (locs1 : List Loc), post r u → va_P D cl (wf u) H1 → va_D A (wf u) → va_S A s.heap H1 locs1 → W p l e R s m args below meth c H1 locs1 (cells + mc) (slots + ms) (vx_MQ below Qc (zx_X D cl tys w0 xp A) args s nc ns A) (F0 m (pc + 3) ls (.int r :: rest))) :
    W p l e R s m args below meth c H locs cells slots (vx_MQ below Qc (zx_X D cl tys w0 xp A) args s nc ns A) (F0 m pc ls st0) := by
  subst hw0
  have hF := zz_sub hD hA hS
  refine vx_calli hr hS (fun q _ h => hF q h) hF (fun q _ h => hF q h) (fun E ce q9 u t H1 locs1 ht1 hvm _ hB hz hk hS1 h1 h2 h3 => ?_) (fun r u t H1 locs1 ht1 hvm hw hB hz hk hS1 => ?_)
  · obtain ⟨hx, hP1, -, hD1⟩ := hB
    rw [ht1] at hP1
    exact zx_out ht hlocks hP1 hK (hD1.weaken (fun _ q _ h => hF q.1 h)) hS1 h1 h2 h3 (hxq E hx) hm1 hm2
  · obtain ⟨hP1, -, hD1⟩ := hB
    rw [ht1] at hP1
    exact kk r u H1 locs1 hw hP1 (hD1.weaken (fun _ q _ h => hF q.1 h)) hS1
theorem zx_cv {S : Type} {post : S → Prop} {wf : S → va_W} {xq xp : String → Prop} (ht : ∀ x ∈ c.exceptionTable.toList, False) (hlocks : meth.locks = false) (hK : va_K D cl tys s) (hxq : ∀ E, xq E → xp E) (hm1 : cells + mc ≤ nc) (hm2 : slots + ms ≤ ns)
    (hr : vx_Run p l e R s m args below meth c H locs cells slots mc ms (F0 m pc ls st0) rest (va_Qv post (zz_At D cl tys wf (va_A w H.size)) (va_A w H.size) a) (zx_X D cl tys w xq (va_A w H.size)) (va_A w H.size))
    (hw0 : w = w0) (hD : va_D A w) (hS : va_S A s.heap H locs) (hA : ∀ q, s.heap.size ≤ q → A q)
    (kk : ∀ (u : S) (H1 : Heap) (locs1 : List Loc), post u → va_P D cl (wf u) H1 → va_D A (wf u) → va_S A s.heap H1 locs1 → W p l e R s m args below meth c H1 locs1 (cells + mc) (slots + ms) (vx_MQ below Qc (zx_X D cl tys w0 xp A) args s nc ns A) (F0 m (pc + 3) ls rest)) :
    W p l e R s m args below meth c H locs cells slots (vx_MQ below Qc (zx_X D cl tys w0 xp A) args s nc ns A) (F0 m pc ls st0) := by
  subst hw0
  have hF := zz_sub hD hA hS
  refine vx_callv hr hS (fun q _ h => hF q h) hF (fun q _ h => hF q h) (fun E ce q9 u t H1 locs1 ht1 hvm _ hB hz hk hS1 h1 h2 h3 => ?_) (fun u t H1 locs1 ht1 hvm hw hB hz hk hS1 => ?_)
  · obtain ⟨hx, hP1, -, hD1⟩ := hB
    rw [ht1] at hP1
    exact zx_out ht hlocks hP1 hK (hD1.weaken (fun _ q _ h => hF q.1 h)) hS1 h1 h2 h3 (hxq E hx) hm1 hm2
  · obtain ⟨hP1, -, hD1⟩ := hB
    rw [ht1] at hP1
    exact kk u H1 locs1 hw hP1 (hD1.weaken (fun _ q _ h => hF q.1 h)) hS1
/-- the same of a part of the world that may throw: requireTask and requirePriority need none of it -/
theorem zx_cs {xq xp : String → Prop} {post : Unit → Prop} (ht : ∀ x ∈ c.exceptionTable.toList, False) (hlocks : meth.locks = false) (hK : va_K D cl tys s) (hxq : ∀ E, xq E → xp E) (hm1 : cells + mc ≤ nc) (hm2 : slots + ms ≤ ns)
    (hr : vx_Run p l e R s m args below meth c H locs cells slots mc ms (F0 m pc ls st0) rest (va_Qv post (zz_At D cl [] (fun _ : Unit => []) (va_A [] H.size)) (va_A [] H.size) a) (zx_X D cl [] [] xq (va_A [] H.size)) (va_A [] H.size))
    (hP : va_P D cl w H) (hw0 : w = w0) (hD : va_D A w) (hS : va_S A s.heap H locs) (hA : ∀ q, s.heap.size ≤ q → A q)
    (kk : ∀ (H1 : Heap) (locs1 : List Loc), post () → va_P D cl w H1 → va_D A w → va_S A s.heap H1 locs1 → W p l e R s m args below meth c H1 locs1 (cells + mc) (slots + ms) (vx_MQ below Qc (zx_X D cl tys w0 xp A) args s nc ns A) (F0 m (pc + 3) ls rest)) :
    W p l e R s m args below meth c H locs cells slots (vx_MQ below Qc (zx_X D cl tys w0 xp A) args s nc ns A) (F0 m pc ls st0) := by
  subst hw0
  have hF : ∀ q, va_A [] H.size q → A q := fun q h => by
    rcases h with ⟨k, e, h⟩ | h
    · simp at h
    · exact hA q (Nat.le_trans hS.1 h)
  have hkeep : ∀ (H1 : Heap), (∀ q : Nat, q < H.size → ¬ va_A [] H.size q → H1[q]? = H[q]?) → va_P D cl w H1 := fun H1 hk => hP.kept (fun k q hq => by
    have hl := vx_lt hP hq
    exact hk q.1 hl (fun h => by
      rcases h with ⟨k, e, h⟩ | h
      · simp at h
      · omega))
  refine vx_callv hr hS (fun q _ h => hF q h) hF (fun q _ h => hF q h) (fun E ce q9 u t H1 locs1 ht1 hvm _ hB hz hk hS1 h1 h2 h3 => ?_) (fun u t H1 locs1 ht1 hvm hw hB hz hk hS1 => ?_)
  · exact zx_out ht hlocks (hkeep H1 hk) hK hD hS1 h1 h2 h3 (hxq E hB.1) hm1 hm2
  · exact kk H1 locs1 hw (hkeep H1 hk) hD hS1
/-- throw new E("text") -/
theorem zx_throw {E text : String} {ik is ic : Nat} {xp : String → Prop} (hx : p.tables.exec = Jvm.exec) (hb : c.code = cc) (hl : l.stackTraces = false) (hown : s.vm.findClass RX0 = some m.cls) (hE : Bundle.fit E = true) (hk : (Cond.classLink RX0 ik E).before args s = true) (hini : (Cond.initialized E).before args s = true)
    (hat : ∀ w ∈ vx_atS RX0 ic E ["java/lang/RuntimeException", "java/lang/Exception"], w.before args s = true) (hgood : ∀ w ∈ Cond.classLink RX0 ik E :: Cond.initialized E :: vx_atS RX0 ic E ["java/lang/RuntimeException", "java/lang/Exception"], vx_ot w = true) (hT : zx_T A s) (hstr : (is, text) ∈ zx_strs)
    (ht : ∀ x ∈ c.exceptionTable.toList, False) (hlocks : meth.locks = false) (hP : va_P D cl w0 H) (hK : va_K D cl tys s) (hD : va_D A w0) (hS : va_S A s.heap H locs) (hml : c.maxLocals = ls.size)
    (d0 : decode cc pc = .ok (.new ik, 3)) (d3 : decode cc (pc + 3) = .ok (.dup, 1)) (d4 : decode cc (pc + 4) = .ok (.ldc is, 2)) (d6 : decode cc (pc + 6) = .ok (.invokespecial ic, 3)) (d9 : decode cc (pc + 9) = .ok (.athrow, 1)) (hf : 5 < R.frames) (hlo : 82 ≤ R.locals) (hrc : cells + 1 ≤ R.cells) (hrs : slots + 6 ≤ R.slots) (hc : cells + 1 ≤ mc) (hs : slots + 6 ≤ ms) (hxp : xp E) :
    W p l e R s m args below meth c H locs cells slots (vx_MQ below Qc (zx_X D cl tys w0 xp A) args s mc ms A) (F0 m pc ls []) := by
  obtain ⟨hU, hN, hst, -⟩ := hT
  obtain ⟨sa, hsa⟩ := hst _ hstr
  refine vx_throwS (A := A) (names := ["java/lang/RuntimeException", "java/lang/Exception"]) hx hb hl hown hE (by decide +kernel) hk hini hsa hat hgood hU hN hS hml.symm d0 d3 d4 d6 d9 (fun x h => (ht x h).elim) hf (by simpa using hlo) hrc hrs hlocks (fun t hvm hz hq => ⟨(), trivial, ⟨hxp, ?_, va_K.moved hvm hK, hD⟩, ?_⟩) hS.2.2 hc hs
  · exact hP.kept (fun k q hq9 => hq q.1 (vx_lt hP hq9))
  · exact ⟨Nat.le_trans hS.1 hz, fun q h1 h2 => (hq q (Nat.lt_of_lt_of_le h1 hS.1)).trans (hS.2.1 q h1 h2)⟩
end ZXA
theorem zx_of {l : Launch} {y : MethodName} {ws ws' : List Cond} {rm : Room} {mc ms : Nat} {cc : ByteArray} {maxL : Nat} {ret : Option FieldType} {D : va_G} {cl : List vw_C} {tys : List (ClassId × FieldType)} {w : va_W} {av : List Value} {sz : Nat} {Qc : (Nat → Prop) → Array Value → State → Outcome → State → Prop} {XC : (Nat → Prop) → String → State → State → Prop}
    (hy : plainName y.cls = true) (hw : ws = Cond.code y cc maxL ret :: ws') (hn : (lg_sl av).length ≤ maxL)
    (body : ∀ (p : Program) (e : Env) (s : State) (m : MethodId) (args : Array Value) (below : List Frame) (meth : Method) (c : Code) (A : Nat → Prop) (H : Heap) (locs : List Loc) (ls : Array Slot), p.tables.exec = Jvm.exec → c.code = cc → meth.sig.returnType = ret → c.maxLocals = maxL → s.vm.findClass y.cls = some m.cls → (∀ w ∈ ws, w.before args s = true) → meth.locks = false → (∀ x ∈ c.exceptionTable.toList, False) → zx_T A s → (∀ q, s.heap.size ≤ q → A q) → va_P D cl w H → va_K D cl tys s → va_D A w → va_S A s.heap H locs → lv_has ls maxL (lv_args 0 av) →
      W p l e rm s m args below meth c H locs 0 0 (vx_MQ below (Qc A) (XC A) args s mc ms A) (F0 m 0 ls [])) :
    vx_Met l y ws rm (va_Pc av (zx_Pre D cl tys w sz)) (Qc (va_A w sz)) (XC (va_A w sz)) mc ms (va_A w sz) := by
  refine vx_ofW hy hw ?_
  intro p e s m args below meth c s₁ B hml ht hv
  obtain ⟨rfl, ⟨hsz, hP, hK, hD0⟩, hT⟩ := hv
  subst hsz
  have hl := lv_entry av (n := maxL) hn
  rw [lg_entry_eq]
  exact body p e s m _ below meth c (va_A w s.heap.size) s.heap [] _ B.exec B.bytes B.returns hml (findClass_of_methodNamed B.named) (atoms_spec (ws := ws) B.pre) B.notSynchronized ht hT (fun q h => Or.inr h) hP hK (hD0.self (sz := s.heap.size)) va_S.rf hl
/-- the words behind a throw -/
theorem zx_hat {args : Array Value} {s : State} {ic : Nat} {E : String} (hc : va_Nw (.castable E E) s) (hN : zx_N s) (h1 : ∀ w ∈ (vx_atS RX0 ic E ["java/lang/RuntimeException", "java/lang/Exception"]).filter goodWord, w.before args s = true) (h2 : ∀ w ∈ (vx_atS RX0 ic E ["java/lang/RuntimeException", "java/lang/Exception"]).filter (fun w => !goodWord w), w ∈ [Cond.castable E E, zx_d1, zx_d2, zx_d3]) : ∀ w ∈ vx_atS RX0 ic E ["java/lang/RuntimeException", "java/lang/Exception"], w.before args s = true :=
  vx_hat h1 h2 (vx_c (va_Nw.use rfl hc) (vx_c (va_Nw.use rfl hN.2.2.2.2.1) (vx_c (va_Nw.use rfl hN.2.2.2.2.2.1) (vx_c (va_Nw.use rfl hN.2.2.2.2.2.2) vx_n))))
theorem zx_h2I : ∀ w ∈ (vx_atS RX0 159 xE_I ["java/lang/RuntimeException", "java/lang/Exception"]).filter (fun w => !goodWord w), w ∈ [Cond.castable xE_I xE_I, zx_d1, zx_d2, zx_d3] := by decide +kernel
theorem zx_h2A : ∀ w ∈ (vx_atS RX0 93 xE_A ["java/lang/RuntimeException", "java/lang/Exception"]).filter (fun w => !goodWord w), w ∈ [Cond.castable xE_A xE_A, zx_d1, zx_d2, zx_d3] := by decide +kernel
theorem zx_h2S : ∀ w ∈ (vx_atS RX0 64 xE_S ["java/lang/RuntimeException", "java/lang/Exception"]).filter (fun w => !goodWord w), w ∈ [Cond.castable xE_S xE_S, zx_d1, zx_d2, zx_d3] := by decide +kernel
theorem zx_h2U : ∀ w ∈ (vx_atS RX0 111 xE_U ["java/lang/RuntimeException", "java/lang/Exception"]).filter (fun w => !goodWord w), w ∈ [Cond.castable xE_U xE_U, zx_d1, zx_d2, zx_d3] := by decide +kernel
theorem zx_gI : ∀ w ∈ Cond.classLink RX0 155 xE_I :: Cond.initialized xE_I :: vx_atS RX0 159 xE_I ["java/lang/RuntimeException", "java/lang/Exception"], vx_ot w = true := by decide +kernel
theorem zx_gA : ∀ w ∈ Cond.classLink RX0 89 xE_A :: Cond.initialized xE_A :: vx_atS RX0 93 xE_A ["java/lang/RuntimeException", "java/lang/Exception"], vx_ot w = true := by decide +kernel
theorem zx_gS : ∀ w ∈ Cond.classLink RX0 60 xE_S :: Cond.initialized xE_S :: vx_atS RX0 64 xE_S ["java/lang/RuntimeException", "java/lang/Exception"], vx_ot w = true := by decide +kernel
theorem zx_gU : ∀ w ∈ Cond.classLink RX0 107 xE_U :: Cond.initialized xE_U :: vx_atS RX0 111 xE_U ["java/lang/RuntimeException", "java/lang/Exception"], vx_ot w = true := by decide +kernel
