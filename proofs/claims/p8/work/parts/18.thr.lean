-- a method that throws IllegalArgumentException with a written text
section THR
variable {p : Program} {l : Launch} {e : Env} {R : Room} {s : State} {m : MethodId} {args : Array Value} {below : List Frame} {meth : Method} {c : Code} {H : Heap} {locs : List Loc} {cells slots : Nat} {Q : State → Prop}
theorem W.monoQ {Q' : State → Prop} {g : JFrame} (h : ∀ t, Q t → Q' t) (k : W p l e R s m args below meth c H locs cells slots Q g) : W p l e R s m args below meth c H locs cells slots Q' g := by
  intro T hT X
  obtain ⟨t, a1, b1⟩ := k T hT X
  exact ⟨t, a1, h t b1⟩
theorem warm_rb {H : Heap} {n : Nat} {v : Vm} (h : s.WarmedH v) : ({ s with heap := H, slotsUsed := n } : State).WarmedH v := by
  obtain ⟨h1, h2, h3⟩ := h
  refine ⟨h1, h2, fun d k hk => ?_⟩
  obtain ⟨k', a1, a2, a3, a4, a5⟩ := h3 d k hk
  refine ⟨k', a1, a2, a3, fun i => ?_, a5⟩
  rcases a4 i with h | ⟨b1, r, b2, b3⟩
  · exact Or.inl h
  · exact Or.inr ⟨b1, r, b2, (State.rightAt_of_alike (s := s) (t := { s with heap := H, slotsUsed := n }) (Vm.Alike.refl s.vm) d i r).trans b3⟩
/-- the same walk, with the heap as it is now as its beginning -/
theorem rebase {T : State} (X : Stand p l e R s m args below meth c T locs cells slots) (hc : cells ≤ R.cells) (hs : slots ≤ R.slots) : Stand p l e { R with cells := R.cells - cells, slots := R.slots - slots } ({ s with heap := T.heap, slotsUsed := T.slotsUsed } : State) m args below meth c T [] 0 0 := by
  obtain ⟨e1, e2, e3, e4, e5, e6⟩ := X.same
  refine ⟨X.admits, X.cas, X.clock, X.frames, ?_, X.hears, X.method, X.code, X.here, X.tail, warm_rb X.warmed, X.limits, X.bytes, ?_⟩
  · have h := X.room
    have hb := X.book
    simp only [State.hasRoom, Bool.and_eq_true, decide_eq_true_eq] at h ⊢
    obtain ⟨⟨⟨⟨h1, h2⟩, h3⟩, h4⟩, h5⟩ := h
    have e3' : T.heap.size ≤ s.heap.size + cells := e3
    have e4' : T.slotsUsed = s.slotsUsed + ((T.heap.toList.drop s.heap.size).map (·.slots.size)).sum := e4
    have e5' : ((T.heap.toList.drop s.heap.size).map (·.slots.size)).sum ≤ slots := e5
    refine ⟨⟨⟨⟨h1, h2⟩, ?_⟩, ?_⟩, ?_⟩
    · show T.heap.size + (R.cells - cells) ≤ _
      omega
    · show T.slotsUsed + (R.slots - slots) ≤ _
      omega
    · exact hb
  · have hd : T.heap.toList.drop T.heap.size = [] := List.drop_eq_nil_of_le (Nat.le_of_eq Array.length_toList)
    refine ⟨e1, Nat.le_refl _, Nat.le_refl _, ?_, ?_, fun a c h => ⟨c, h, rfl, rfl, fun _ _ => rfl⟩⟩
    · show T.slotsUsed = T.slotsUsed + ((T.heap.toList.drop T.heap.size).map (·.slots.size)).sum
      rw [hd]; rfl
    · show ((T.heap.toList.drop T.heap.size).map (·.slots.size)).sum ≤ 0
      rw [hd]; exact Nat.le_refl 0
/-- a method that may throw: how it ends, and its contract -/
def FrameEndX (st t : State) (L : List Loc) (k n : Nat) : Prop := st.WarmedH t.vm ∧ st.sameButNew ({ t with vm := st.vm } : State) L k n
def MQX (below : List Frame) (Qc : Array Value → State → Outcome → State → Prop) (a : Array Value) (s : State) (mc ms : Nat) (free : Addr → Prop) : State → Prop := fun t =>
  ∃ o, t.status = .running ∧ Ended t below o ∧ Qc a s o t ∧ ∃ L, FrameEndX s t L mc ms ∧ ∀ q ∈ L, free q.base
theorem mqx_of {Qc : Array Value → State → Outcome → State → Prop} {mc ms : Nat} {free : Addr → Prop} {t : State} (h : MQ below Qc args s mc ms free t) : MQX below Qc args s mc ms free t := by
  obtain ⟨o, h1, h2, h3, L, hF, hL⟩ := h
  exact ⟨o, h1, h2, h3, L, ⟨hF.2.1, hF.2.2⟩, hL⟩
def MetX (l : Launch) (y : MethodName) (ws : List Cond) (rm : Room) (Pc : Array Value → State → Prop) (Qc : Array Value → State → Outcome → State → Prop) (mc ms : Nat) (free : Addr → Prop) : Prop :=
  MetFree l y (headSpec ws rm) Pc (fun _ _ _ _ _ => True) (fun a st o t => Qc a st o t ∧ ∃ L, FrameEndX st t L mc ms ∧ ∀ q ∈ L, free q.base)
theorem MetX.ofW {y : MethodName} {ws ws' : List Cond} {rm : Room} {Pc : Array Value → State → Prop} {Qc : Array Value → State → Outcome → State → Prop} {mc ms : Nat} {free : Addr → Prop} {cc : ByteArray} {maxL : Nat} {ret : Option FieldType}
    (hy : plainName y.cls = true) (hw : ws = Cond.code y cc maxL ret :: ws')
    (body : ∀ p e s m args below meth c s₁, BodyLoose p l y (headSpec ws rm) cc maxL ret e s m args below meth c s₁ → c.maxLocals = maxL → c.exceptionTable = #[] → Pc args s →
      W p l e (headSpec ws rm).room s m args below meth c s.heap [] 0 0 (MQX below Qc args s mc ms free) (entryFrame m args maxL)) : MetX l y ws rm Pc Qc mc ms free := by
  refine MetFree.of_bodyS (code := cc) (maxLocals := maxL) (ret := ret) hy ?_ ?_
  · intro args s m h hn
    obtain ⟨meth, c, h1, h2, h3, h4, h5, h6, -, -⟩ := Cond.code_spec hn (atoms_spec (ws := ws) h _ (by rw [hw]; exact List.mem_cons_self))
    exact ⟨meth, c, h1, h2, h3, h4, h5, h6⟩
  · intro p e s m args below meth c s₁ B hml hP _
    have hh0 : s₁.heap = s.heap := by rw [B.state]; rfl
    obtain ⟨meth', c', q1, q2, q3, q4, q5, q6, q7, q8⟩ := Cond.code_spec B.named (atoms_spec (ws := ws) B.pre _ (by rw [hw]; exact List.mem_cons_self))
    have hm : meth' = meth := Option.some.inj (q1.symm.trans B.method)
    have hcc : c' = c := Option.some.inj (q2.symm.trans (by rw [hm]; exact (Stand.of_body B).code))
    have hex : c.exceptionTable = #[] := by rw [← hcc]; exact Array.isEmpty_iff.mp q7
    obtain ⟨t, a1, o, b1, b2, b3⟩ := body p e s m args below meth c s₁ B hml hex hP s₁ hh0 (Stand.of_body B)
    exact ⟨t, o, a1, b1, b2, ⟨b3.1, b3.2⟩⟩
end THR
def iaeN : String := "java/lang/IllegalArgumentException"
def iaeP : List String := ["java/lang/RuntimeException", "java/lang/Exception"]
def iaeA : List Cond := Bundle.ownAtoms R_PN 54 iaeN iaeP
def iaeS : List Cond := [.laysStatic Bundle.tN "UNASSIGNED_STACK" Bundle.steD, .laysStatic Bundle.tN "SUPPRESSED_SENTINEL" Bundle.listD, .isRef (.static Bundle.tN "UNASSIGNED_STACK" Bundle.steD), .isRef (.static Bundle.tN "SUPPRESSED_SENTINEL" Bundle.listD)]
theorem iaeA_in : ∀ w ∈ iaeA, w ∈ GW ∨ w ∈ NW ∨ w ∈ iaeS := by decide +kernel
theorem nw_use {U : State} {a : Array Value} (h : ∀ w ∈ NW, va_Nw w U) : ∀ w ∈ NW, w.before a U = true := by
  intro w hw
  have h1 := h w hw
  have h2 := (List.mem_filter.mp hw).2
  cases w <;> first | exact absurd (show false = true from h2) (by decide) | exact va_Nw.use rfl h1
theorem zS.lays {C n d : String} {A : Nat → Prop} {U : State} {a : Array Value} (h : zS C n d A U U.heap) : (Cond.laysStatic C n d).before a U = true := by
  obtain ⟨c, k, i, f, q, cell, h1, h2, h3, h4, h5, h6, h7, h8, h9, h10, h11⟩ := h
  exact Cond.laysStatic_of h1 h2 h3 h4 h6 h7 h8 h9 h5
theorem zS.isRef {C n d : String} {A : Nat → Prop} {U : State} {a : Array Value} (h : zS C n d A U U.heap) : (Cond.isRef (.static C n d)).before a U = true := by
  obtain ⟨c, k, i, f, q, cell, h1, h2, h3, h4, h5, h6, h7, h8, h9, h10, h11⟩ := h
  rcases h10 with h10 | ⟨t, h10⟩ <;> simp [Cond.before, Cond.holds, Cond.value, Term.eval, State.fieldNamed?, h2, h3, h4, h6, h7, h10]
/-- how it ends: the answer, or the exception -/
def qX (D : va_G) (cl : List vw_C) (tys : List (ClassId × FieldType)) (w : va_W) (A : Nat → Prop) (r : Option Int32) : Array Value → State → Outcome → State → Prop := fun _ st oc t =>
  (match r with
    | some v => oc = .returned (some (.int v))
    | none => ∃ (x : Nat) (cell : Cell), oc = .threw x ∧ t.heap[x]? = some cell ∧ cell.vm = .none ∧ st.heap.size ≤ x ∧ t.vm.findClass iaeN = some cell.cls) ∧ posS D cl tys w A t ∧ va_F A st t
section THN
variable {p : Program} {l : Launch} {e : Env} {R : Room} {s : State} {m : MethodId} {args : Array Value} {below : List Frame} {meth : Method} {c : Code} {H : Heap} {locs : List Loc}
variable {cc : ByteArray} {pc nL ix q : Nat} {tx : String} {ls : Array Slot} {A : Nat → Prop} {D : va_G} {cl : List vw_C} {tys : List (ClassId × FieldType)} {w : va_W} {tS : Nat → Nat → Nat}
set_option maxHeartbeats 4000000 in
theorem thrN (hfl : l.flags = flags0) (hx : p.tables.exec = Jvm.exec) (hb : c.code = cc) (hown : s.vm.findClass R_PN = some m.cls) (hts : ∀ w ∈ GW, w.before args s = true) (hcl : (Cond.classLink R_PN 50 "java/lang/IllegalArgumentException").before args s = true) (hin6 : (Cond.instantiable "java/lang/IllegalArgumentException" 6).before args s = true) (hini : (Cond.initialized "java/lang/IllegalArgumentException").before args s = true)
    (hst : st_ok tS A s) (hK : va_K D cl tys s) (hP : va_P D cl w H) (hD : va_D A w) (hS : va_S A s.heap H locs) (hA : ∀ q, s.heap.size ≤ q → A q) (hml : c.maxLocals = nL) (hsz : ls.size = nL) (hex : c.exceptionTable = #[]) (hlocks : meth.locks = false) (hmsg : vk_R R_PN ix tx q s)
    (d1 : decode cc pc = .ok (.new 50, 3)) (d2 : decode cc (pc + 3) = .ok (.dup, 1)) (d3 : decode cc (pc + 4) = .ok (.ldc ix, 2)) (d4 : decode cc (pc + 6) = .ok (.invokespecial 54, 3)) (d5 : decode cc (pc + 9) = .ok (.athrow, 1)) (hR : 6 ≤ R.frames ∧ 1 ≤ R.cells ∧ 6 ≤ R.slots ∧ 90 ≤ R.locals) :
    W p l e R s m args below meth c H locs 0 0 (MQX below (qX D cl tys w A none) args s 1 6 A) (F0 m pc ls []) := by
  intro T hT X
  subst hT
  have htr : e.platform.stackTraces = false := by
    rw [X.admits.platform]
    show l.stackTraces = false
    unfold Launch.stackTraces
    rw [hfl]
    decide +kernel
  have X' := rebase X (Nat.zero_le _) (Nat.zero_le _)
  generalize hs' : ({ s with heap := T.heap, slotsUsed := T.slotsUsed } : State) = s' at X'
  have hv' : s'.vm = s.vm := by rw [← hs']
  have hh' : s'.heap = T.heap := by rw [← hs']
  have hWs : s.WarmedH s'.vm := by rw [hv']; exact State.WarmedH.refl s
  have hal : s.vm.Alike s'.vm := hWs.alike
  have hts' : ∀ w ∈ GW, w.before args s' = true := fun w h => word_at hWs (gw_good w h) (hts w h)
  have good : ∀ {w : Cond}, goodWord w = true → w.before args s = true → w.before args s' = true := by
    intro w hg h
    exact word_at hWs (good_of_word hg) h
  have hown' : s'.vm.findClass R_PN = some m.cls := by rw [hv']; exact hown
  have hmsg' : vk_R R_PN ix tx q s' := vk_R.same (u := s) hv' hmsg
  have hnw' : ∀ w ∈ NW, va_Nw w s' := nw_same hv'.symm hst.2.1
  have hz1 : zS "java/lang/Throwable" "UNASSIGNED_STACK" "[Ljava/lang/StackTraceElement;" A s' s'.heap := by
    rw [hh']; exact (hst.2.2.2.2.2.2.2.1.moved hal).kept hS.2.1
  have hz2 : zS "java/lang/Throwable" "SUPPRESSED_SENTINEL" "Ljava/util/List;" A s' s'.heap := by
    rw [hh']; exact (hst.2.2.2.2.2.2.2.2.moved hal).kept hS.2.1
  have hatoms : ∀ a ∈ Bundle.ownAtoms R_PN 54 iaeN iaeP, a.before args s' = true := by
    intro a ha
    rcases iaeA_in a ha with h | h | h
    · exact hts' a h
    · exact nw_use hnw' a h
    · simp only [iaeS, List.mem_cons, List.not_mem_nil, or_false] at h
      rcases h with rfl | rfl | rfl | rfl
      · exact hz1.lays
      · exact hz2.lays
      · exact hz1.isRef
      · exact hz2.isRef
  have K : W p l e { R with cells := R.cells - 0, slots := R.slots - 0 } s' m args below meth c T.heap [] 0 0 (fun t => t.status = .running ∧ Ended t below (.threw T.heap.size) ∧ s'.WarmedH t.vm ∧ s'.sameButNew ({ t with vm := s'.vm } : State) [] 1 6 ∧ ∃ ce, t.heap[T.heap.size]? = some ce ∧ Bundle.OwnCell args s' iaeN T.heap.size (.ref q) ce) (F0 m pc ls []) := by
    refine W.newc (n := 6) hx hb hown' (good rfl hcl) (good rfl hin6) (good rfl hini) rfl d1 (by show 0 + 1 ≤ R.cells - 0; omega) (by show 0 + 6 ≤ R.slots - 0; omega) (fun cC kC h1 h2 h3 h4 => ?_)
    refine W.eq (g2 := F0 m (pc + 3) ls [.ref T.heap.size]) rfl ?_
    refine lv_dup hx hb d2 rfl ?_
    refine va_ldcS hx hb hown' hmsg' d3 ?_
    intro T2 hT2 X2
    obtain ⟨U, st, hrun, hend, hW, hsame, ce, hce, hO⟩ := X2.ctorThrowS hx htr (own := R_PN) (cls := iaeN) (names := iaeP) (ic := 54) hown' (by decide +kernel) (by decide +kernel) hatoms (fun x hx => by cases hx) h1 h2 (a := T.heap.size) (by rw [hT2]; simp [freshCell]) (by rw [hh']; exact Nat.le_refl _) (msg := .ref q) rfl (g := F0 m (pc + 6) ls [.ref q, .ref T.heap.size, .ref T.heap.size]) rfl (by rw [hml]; exact hsz) rfl rfl (rest := []) rfl (by rw [hb]; exact d4) (by rw [hb]; exact d5) (fun x hx => by rw [hex] at hx; cases hx) (by show 2 + 3 < R.frames; omega) (by show _ ≤ R.locals; simp [Value.category, iaeP]; omega) hlocks
    exact ⟨U, st, hrun, hend, hW, hsame, ce, hce, hO⟩
  obtain ⟨t, a1, hrun, hend, hW, hsame, ce, hce, hO⟩ := K T rfl X'
  obtain ⟨g1, g2, g3, g4, g5, g6⟩ := hsame
  obtain ⟨e1, e2, e3, e4, e5, e6⟩ := X.same
  have hcell : ∀ a : Nat, a < T.heap.size → t.heap[a]? = T.heap[a]? := by
    intro a ha
    obtain ⟨ca, hca⟩ : ∃ ca, T.heap[a]? = some ca := ⟨T.heap[a], Array.getElem?_eq_getElem ha⟩
    obtain ⟨c', k1, k2, k3, k4⟩ := g6 a ca (by rw [hh']; exact hca)
    have k1' : t.heap[a]? = some c' := k1
    have hsl : c'.slots = ca.slots := by
      apply Array.ext_getElem?
      intro i
      exact k4 i (by simp)
    rw [k1', hca, k2, hsl]
  have hszT : T.heap.size = s.heap.size := by
    have h1 : T.heap.size ≤ s.heap.size + 0 := e3
    have h2 : s.heap.size ≤ T.heap.size := e2
    omega
  have hald : s'.vm.Alike t.vm := hW.alike
  have halt : s.vm.Alike t.vm := by rw [← hv']; exact hald
  have ht1 : T.heap.size ≤ t.heap.size := by
    have : s'.heap.size ≤ t.heap.size := g2
    rw [hh'] at this; exact this
  have ht2 : t.heap.size ≤ T.heap.size + 1 := by
    have : t.heap.size ≤ s'.heap.size + 1 := g3
    rw [hh'] at this; exact this
  have hPt : va_P D cl w t.heap := hP.kept (fun k q hk => hcell q.1 ((hP k q hk).lt))
  refine ⟨t, a1, .threw T.heap.size, hrun, hend, ⟨⟨T.heap.size, ce, rfl, hce, hO.vm, by omega, ?_⟩, ⟨hPt, va_K.moved halt hK, hD⟩, by omega, fun q h1 h2 => ?_⟩, locs, ⟨?_, ?_⟩, hS.2.2⟩
  · rw [hald.findClass]; exact hO.cls
  · rw [hcell q (by omega)]; exact hS.2.1 q h1 h2
  · have hb' : ({ s' with heap := s.heap, slotsUsed := s.slotsUsed } : State) = s := by rw [← hs']
    have := warm_rb (s := s') (H := s.heap) (n := s.slotsUsed) hW
    rw [hb'] at this; exact this
  · have hdT : T.heap.toList.drop s.heap.size = [] := List.drop_eq_nil_of_le (by rw [← hszT]; exact Nat.le_of_eq Array.length_toList)
    have g4' : t.slotsUsed = s'.slotsUsed + ((t.heap.toList.drop s'.heap.size).map (·.slots.size)).sum := g4
    have g5' : ((t.heap.toList.drop s'.heap.size).map (·.slots.size)).sum ≤ 6 := g5
    have e4' : T.slotsUsed = s.slotsUsed + ((T.heap.toList.drop s.heap.size).map (·.slots.size)).sum := e4
    rw [hdT] at e4'
    have hsu : s'.slotsUsed = T.slotsUsed := by rw [← hs']
    rw [hh', hszT] at g4' g5'
    refine ⟨?_, by show s.heap.size ≤ t.heap.size; omega, by show t.heap.size ≤ s.heap.size + 1; omega, ?_, g5', fun a c0 hc0 => ?_⟩
    · have := g1
      rw [← hs'] at this
      exact this
    · show t.slotsUsed = _
      rw [g4', hsu, e4']
      simp
    · obtain ⟨c', k1, k2, k3, k4⟩ := e6 a c0 hc0
      have ha : a < T.heap.size := (Array.getElem?_eq_some_iff.mp k1).1
      exact ⟨c', (hcell a ha).trans k1, k2, k3, k4⟩
end THN

