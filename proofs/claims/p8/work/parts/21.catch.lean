-- a call of a method that may throw, and the catch in the caller
section RUX
variable {p : Program} {l : Launch} {e : Env} {R : Room} {s : State} {m : MethodId} {args : Array Value} {below : List Frame} {meth : Method} {c : Code} {H : Heap} {locs : List Loc} {cells slots : Nat}
variable {y : MethodName} {bytes cc : ByteArray} {maxL nL mc ms n index : Nat} {ret : Option FieldType} {ws : List Cond} {rm : Room} {Pc : Array Value → State → Prop} {Qc : Array Value → State → Outcome → State → Prop} {free : Addr → Prop} {Ts : List Cond} {own C : String} {b : Addr} {As rest : List Value} {g : JFrame}
/-- where the caller stands behind the call: the answer on its stack, or the exception on its way -/
def aftX (p : Program) (e : Env) (below : List Frame) (T : State) (g : JFrame) (rest : List Value) (T' : State) : Outcome → Prop
  | .returned v => ∀ tg, Steps p.tables e below (T'.setTop { g with pc := g.pc + 3, stack := v.toList ++ rest }) tg → Steps p.tables e below (T.setTop g) tg
  | .threw x => ∀ tg, Steps p.tables e below ((T'.setTop { g with stack := rest }).pushFrame (.throwing x)) tg → Steps p.tables e below (T.setTop g) tg
theorem runXV (S : CallFix p m c cc nL s args Ts own) (hM : MetX l y ws rm Pc Qc mc ms free) (cw : CallW R s args own C index y bytes maxL ret ws rm mc ms n) (hp : PreV s H C b Pc As)
    (hg : g.method = m) (hn : As.length = n) (hsize : g.locals.size = nL) (hstack : g.stack = As.reverse ++ .ref b :: rest) (hW : 2 * g.monitorRoom + (rest.map fun v => v.category).sum ≤ 8) (hdg : decode cc g.pc = .ok (.invokevirtual index, 3)) (hf : cells + mc ≤ R.cells ∧ slots + ms ≤ R.slots) :
    ∀ T : State, T.heap = H → Stand p l e R s m args below meth c T locs cells slots → ∃ (o : Outcome) (st₀ t T' : State) (L : List Loc), st₀.heap = H ∧ s.WarmedH st₀.vm ∧ Stand p l e R s m args below meth c T' (locs ++ L) (cells + mc) (slots + ms) ∧ (∀ q ∈ L, free q.base) ∧ T'.heap = t.heap ∧ T'.vm = t.vm ∧ Qc (Value.ref b :: As).toArray st₀ o t ∧ aftX p e below T g rest T' o := by
  obtain ⟨⟨hrc, hrs, hRf, hRl, hws, hcm, hcode, hini, hy, hlen, hl⟩, hin, hse⟩ := cw
  obtain ⟨hx, hb, hml, ho, -⟩ := S
  obtain ⟨hblind, ⟨cellB, hcB, hoB, hclB⟩, hPc⟩ := hp
  intro T hT X
  subst hb
  obtain ⟨mk, methM, hnamed, hmethM, hstM, habM⟩ := Cond.instanceMethod_spec hin
  obtain ⟨methM', cM, hmethM', -, -, -, -, -, -, hsigM⟩ := Cond.code_spec hnamed hcode
  cases hmethM.symm.trans hmethM'
  obtain ⟨c2, r2, m2, q1, q2, q3, q4, kP, hkP, hkPi⟩ := Cond.selects_spec hse
  cases hclB.symm.trans q1
  cases (State.methodFound?_of_named hnamed hy).symm.trans q2
  cases hnamed.symm.trans q3
  have hselP : selectMethod e.platform s.vm cellB.cls mk = .method mk := by rw [Launch.admits_selectMethod X.admits]; exact q4
  obtain ⟨vm₁, X₁, hstep₁⟩ := X.invokevirtual hx ho hl hnamed hmethM hstM hkP hkPi hy (a := b) (cell := cellB) (by rw [hT]; exact hcB) (fun z h => by rw [h] at hoB; cases hoB) hselP hmethM habM hkP hkPi (g := g) hg (argsL := As) (rest := rest) (hn.trans (hlen _ hsigM)) hstack hdg
  have hU : (T.setVm vm₁).heap = H := hT
  generalize hUe : T.setVm vm₁ = U at X₁ hstep₁ hU
  have hnU : U.methodNamed? y = some mk := X₁.named hnamed
  have hwU : ∀ w ∈ ws, w.before (Value.ref b :: As).toArray U = true := fun w h => hws w h _ U X₁.warmed
  obtain ⟨methY, cY, hmY, hcY, -, hlY, -, -, -, -⟩ := Cond.code_spec hnU (hwU _ hcm)
  obtain ⟨kY, hkY, -⟩ := className_of_methodNamed hnU
  have hinitY : kY.init = .initialized := Cond.initialized_spec (findClass_of_methodNamed hnU) hkY (word_at (args := args) (a' := args) X₁.warmed (good_of_word rfl) hini)
  subst hg
  have h : At U g.method c below := X₁.here
  have hAt : At U ({ g with stack := rest } : JFrame).method c below := h
  have happ : (headSpec ws rm).appliesLoose y e.platform (U.calling { g with stack := rest } mk (Value.ref b :: As).toArray) = true :=
    Spec.appliesLoose_calling (g := { g with stack := rest }) hAt hdg hnU hkY hinitY
      (X₁.room_calling (g := { g with stack := rest }) (R' := rm) (hsize.trans hml.symm) hmY hcY hRf (by rw [hlY]; have h8 := hW; have hR8 := hRl; change 2 * g.monitorRoom + (rest.map fun v => v.category).sum + (maxL + 11) + rm.locals ≤ R.locals; omega) (by rw [hrc]; exact hf.1) (by rw [hrs]; exact hf.2)) (atoms_intro hwU)
  obtain ⟨mid, hmid⟩ := h.above
  have hfr : (U.setTop { g with stack := rest }).frames = (.java { g with stack := rest } :: mid) ++ below := by rw [State.frames_setTop' _ h.top, hmid]; rfl
  obtain ⟨o, s₂, hsteps, -, hend, hq, L, ⟨hW₂, e2, k2, k3, k4, k5, k6⟩, hL⟩ := Steps.callFree hM p X₁.admits X₁.cas X₁.clock (acts := []) hfr happ (hblind _ _ _ _ (hPc U hU X₁.warmed)) trivial
  rw [State.frames_setTop' _ h.top] at hend
  have hW' : U.WarmedH s₂.vm := hW₂
  obtain ⟨g₀, hg0⟩ := Option.isSome_iff_exists.mp h.top
  obtain ⟨r, hr⟩ := State.topJava?_eq_some.mp hg0
  have e3 : s₂ = ({ (U.calling { g with stack := rest } mk (Value.ref b :: As).toArray).setFrames s₂.frames with heap := s₂.heap, slotsUsed := s₂.slotsUsed } : State).setVm s₂.vm := by
    have h9 := congrArg (fun z : State => z.setVm s₂.vm) e2
    exact h9
  have hsame : U.sameButNew ({ U with heap := s₂.heap, slotsUsed := s₂.slotsUsed } : State) L mc ms := by
    refine ⟨?_, k2, k3, k4, k5, k6⟩
    obtain ⟨t, ht, -⟩ := State.frames_cons hr
    show ({ U with heap := s₂.heap, slotsUsed := s₂.slotsUsed } : State) = { U.setFrames U.frames with heap := s₂.heap, slotsUsed := s₂.slotsUsed }
    rw [State.setFrames_self ht]
  have XV : Stand p l e R s g.method args below meth c (({ U with heap := s₂.heap, slotsUsed := s₂.slotsUsed } : State).setVm s₂.vm) (locs ++ L) (cells + mc) (slots + ms) :=
    ⟨X₁.admits, X₁.cas, X₁.clock, X₁.frames, X₁.room, X₁.hears, X₁.method, X₁.code, (X₁.here.setHeapUsed s₂.heap s₂.slotsUsed).setVm hW'.alike, X₁.tail, State.WarmedH.trans X₁.warmed hW', X₁.limits, X₁.bytes, X₁.same.trans (hsame.setVm s.vm)⟩
  have hr' : (({ U with heap := s₂.heap, slotsUsed := s₂.slotsUsed } : State).setVm s₂.vm).frames = .java g₀ :: r := hr
  refine ⟨o, U.calling { g with stack := rest } mk (Value.ref b :: As).toArray, s₂, _, L, hU, X₁.warmed, XV, hL, rfl, rfl, hq, ?_⟩
  cases o with
  | returned v =>
    intro tg htg
    obtain ⟨c₂, i₂, len₂, hc₂, hd₂, hf₂⟩ := hend
    have hcc : c₂ = c := by
      have h1 : s₂.code? g.method = U.code? g.method := by
        rw [State.code?_eq, State.code?_eq, hW'.alike.method?]
      exact Option.some.inj (hc₂.symm.trans (h1.trans h.code))
    subst hcc
    have hlen2 : len₂ = 3 := by
      have hd3 : decode c₂.code g.pc = .ok (i₂, len₂) := hd₂
      rw [hdg] at hd3; cases hd3; rfl
    subst hlen2
    refine hstep₁ _ (fun acts => ?_)
    rw [doInvoke_state]
    refine hsteps.trans ?_
    have hs₂ : s₂ = (({ U with heap := s₂.heap, slotsUsed := s₂.slotsUsed } : State).setVm s₂.vm).setTop { g with pc := g.pc + 3, stack := v.toList ++ rest } := by
      refine e3.trans ?_
      rw [hf₂, State.calling_eq h.top, State.setFrames_setFrames, State.setTop_of_frames _ hr', hr]
      rfl
    rw [hs₂]
    exact htg
  | threw x =>
    intro tg htg
    refine hstep₁ _ (fun acts => ?_)
    rw [doInvoke_state]
    refine hsteps.trans ?_
    have hf₂ : s₂.frames = .throwing x :: .java { g with stack := rest } :: U.frames.tail := hend
    have hs₂ : s₂ = ((({ U with heap := s₂.heap, slotsUsed := s₂.slotsUsed } : State).setVm s₂.vm).setTop { g with stack := rest }).pushFrame (.throwing x) := by
      refine e3.trans ?_
      have hcur : (({ U with heap := s₂.heap, slotsUsed := s₂.slotsUsed } : State).setVm s₂.vm).cur < (({ U with heap := s₂.heap, slotsUsed := s₂.slotsUsed } : State).setVm s₂.vm).threads.size := State.cur_lt_of_frames hr'
      rw [hf₂, State.calling_eq h.top, State.setFrames_setFrames, State.setTop_of_frames _ hr', hr, State.pushFrame, State.frames_setFrames _ hcur, State.setFrames_setFrames]
      rfl
    rw [hs₂]
    exact htg
end RUX
section CTX
variable {p : Program} {l : Launch} {e : Env} {R : Room} {s : State} {m : MethodId} {args : Array Value} {below : List Frame} {meth : Method} {c : Code} {T : State} {locs : List Loc} {cells slots : Nat}
/-- a table of one entry that covers the place and names a class that the exception is of: the search finds it, and notes that class -/
theorem srchX {u : State} {f : JFrame} {x : Addr} {me : Method} {co : Code} {en : ExceptionTableEntry} {cT : ClassId} {cell : Cell} (hm : u.vm.method? f.method = some me) (hc : me.code = some co) (htab : co.exceptionTable.toList = [en])
    (hcov : covers en f.pc = true) (h0 : en.catchType ≠ 0) (hl : u.vm.ClassLinks e.platform f.method.cls en.catchType cT) (hcell : u.heap[x]? = some cell) (hobj : ∀ k, cell.vm ≠ .statics k) (hk1 : ∃ k, u.vm.classes[cell.cls]? = some k) (hk2 : ∃ k, u.vm.classes[cT]? = some k) (hfit : u.vm.assignable cell.cls cT = true)
    (Q : Handler → Pre) (E : CtlPost) (d : Bool) (acts : List Action) : wp (findHandler f x) Q E e d acts u ↔ Q (.found en.handlerPc) d acts (u.setVm (u.vm.noted f.method.cls en.catchType (.cls cT))) := by
  rw [Jvm.W.findHandler_eq hm hc, htab]
  have hal : u.vm.Alike (u.vm.noted f.method.cls en.catchType (.cls cT)) := (Vm.Alike.refl u.vm).noted _ _ _
  obtain ⟨ha, ht⟩ := (resolveClass_links e.toSetting hl).op (op := VmOp.resolveClass f.method.cls en.catchType) rfl
  obtain ⟨j1, hj1⟩ := hk1
  obtain ⟨j2, hj2⟩ := hk2
  obtain ⟨j1', hj1', -⟩ := hal.2.2 _ _ hj1
  obtain ⟨j2', hj2', -⟩ := hal.2.2 _ _ hj2
  have hfit' : (u.vm.noted f.method.cls en.catchType (.cls cT)).assignable cell.cls cT = true := by rw [hal.assignable]; exact hfit
  simp only [covers] at hcov
  simp [findHandler.go, hcov, h0, ha, ht, hcell, hobj, hj1', hj2', hfit', VmOp.dirties, VmOp.acts]
theorem catX (X : Stand p l e R s m args below meth c T locs cells slots) (x : Addr) {g : JFrame} (hg : g.method = m) {own name : String} (hown : s.vm.findClass own = some m.cls) {en : ExceptionTableEntry} (htab : c.exceptionTable.toList = [en]) (hcov : covers en g.pc = true) (h0 : en.catchType ≠ 0)
    (hlink : (Cond.classLink own en.catchType name).before args s = true) {cT : ClassId} {cell : Cell} (hcT : s.vm.findClass name = some cT) (hcell : T.heap[x]? = some cell) (hobj : cell.vm.isStatics = false) (hfit : s.vm.assignable cell.cls cT = true) :
    ∃ vm', Stand p l e R s m args below meth c (T.setVm vm') locs cells slots ∧ ∀ tg, Steps p.tables e below ((T.setVm vm').setTop { g with pc := en.handlerPc, stack := [.ref x] }) tg → Steps p.tables e below ((T.setTop g).pushFrame (.throwing x)) tg := by
  have hpl : e.platform.magicAccessors = ({} : Platform).magicAccessors := by rw [X.admits.platform]
  obtain ⟨c', hc', hcl⟩ := Cond.classLink_spec hown hlink e.platform hpl
  cases hcT.symm.trans hc'
  obtain ⟨dk, _, _, kt, hd, _, _, _, _, hkt, _, hopen⟩ := hcl.here
  have hal := X.warmed.alike
  obtain ⟨kt', hkt', -⟩ := hal.2.2 _ _ hkt
  have hfit' : T.vm.assignable cell.cls cT = true := by rw [hal.assignable]; exact hfit
  have hW' : s.WarmedH (T.vm.noted m.cls en.catchType (.cls cT)) := X.warmed.noted hd hopen (State.rightAt_cls hcl)
  refine ⟨_, X.noted hW', fun tg htg => ?_⟩
  subst hg
  have hf := fun (Q : Handler → Pre) (E : CtlPost) (d : Bool) (acts : List Action) => srchX (e := e) (u := (T.setTop g).pushFrame (.throwing x)) (f := g) (x := x) (me := meth) (co := c) (en := en) (cT := cT) (cell := cell) X.method' X.code htab hcov h0 (X.warmed.classLinks hcl) hcell (VmData.ne_statics_of hobj) (Vm.classAt_of_assignable hfit' ⟨kt', hkt'⟩) ⟨kt', hkt'⟩ hfit' Q E d acts
  have h := X.here
  obtain ⟨hgo, hw⟩ := h.throwing x
  refine Steps.head hgo hw ?_
  have hst : ∀ r : List Frame, (stepThrowing e ((T.setTop g).pushFrame (.throwing x)) x (.java g :: r)).Is ((((T.setTop g).pushFrame (.throwing x)).setVm (T.vm.noted g.method.cls en.catchType (.cls cT))).setFrames (.java { g with pc := en.handlerPc, stack := [.ref x] } :: r)) [] := by
    intro r
    simp only [stepThrowing, searchFrame, vmDo]
    generalize hres : Sem.go _ e false [] ((T.setTop g).pushFrame (.throwing x)) = res
    obtain ⟨as, rfl, ha⟩ := Sem.eq_ok_of hres (a := Handler.found en.handlerPc) (s' := ((T.setTop g).pushFrame (.throwing x)).setVm (T.vm.noted g.method.cls en.catchType (.cls cT))) (acts' := []) (by simp [hf]; rfl)
    exact ⟨rfl, ha⟩
  rw [stepThread_throwing (frames_entered h.top _), (hst _).1]
  obtain ⟨g₀, hg0⟩ := Option.isSome_iff_exists.mp h.top
  obtain ⟨r, hr⟩ := State.topJava?_eq_some.mp hg0
  have hr' : (T.setVm (T.vm.noted g.method.cls en.catchType (.cls cT))).frames = .java g₀ :: r := hr
  rw [State.setTop_of_frames _ hr'] at htg
  have hcur : T.cur < T.threads.size := State.cur_lt_of_frames hr
  have e1 : (((T.setTop g).pushFrame (.throwing x)).setVm (T.vm.noted g.method.cls en.catchType (.cls cT))).setFrames (.java { g with pc := en.handlerPc, stack := [.ref x] } :: T.frames.tail) = (T.setVm (T.vm.noted g.method.cls en.catchType (.cls cT))).setFrames (.java { g with pc := en.handlerPc, stack := [.ref x] } :: r) := by
    rw [State.setTop_of_frames _ hr, State.pushFrame, hr, List.tail_cons]
    rw [State.setFrames_setFrames]
    show ((T.setVm (T.vm.noted g.method.cls en.catchType (.cls cT))).setFrames _).setFrames _ = _
    rw [State.setFrames_setFrames]
  rw [e1]
  exact htg
end CTX

