/-! THE CLAIM OUT OF ONE WALK OF THE LAW'S BODY. Your part is whole_start (and what it stands on); all else here is the same for every law, but numbers. -/
def R_law : String := "PatternNodesLaw"
def lw_P (b : Addr) (xs : List Int32) (args : Array Value) (s : State) : Prop := args = #[.ref b] ∧ s.IntsAt b xs ∧ xs.length ≤ 2048 ∧ (Jvm.Cond.and given_1 narrow_1).before args s = true
def lw_Q (_ : Array Value) (s : State) (o : Outcome) (t : State) : Prop := o = .returned (some (.int 0)) ∧ Framed s o t [] 1086 41954
def lw_Z (below : List Frame) (a : Array Value) (s : State) : State → Prop := fun t => ∃ o, t.status = .running ∧ Ended t below o ∧ lw_Q a s o t
/-- the law's own end, with 1 on the stack, nothing written that was there before, its room as the claim has it -/
theorem lw_ret {p : Program} {l : Launch} {e : Env} {s : State} {m : MethodId} {below : List Frame} {meth : Method} {c : Code} {b : Nat} (hx : p.tables.exec = Jvm.exec) (hb : c.code = code) (hr : meth.sig.returnType = ret) (hlocks : meth.locks = false) {pc : Nat} {H : Heap} {ls : Array Slot} (hdg : decode code pc = .ok (.ireturn, 1)) : W p l e room_1 s m #[Value.ref b] below meth c H [] 1086 41954 (lw_Z below #[Value.ref b] s) (F0 m pc ls [.int 0]) := by
  intro T hT X
  obtain ⟨fs, hret, hrun, hended, hW, hframe⟩ := X.leave (v := some (.int 0)) (hlocks := hlocks) (fun h => by rw [hr] at h; cases h)
  have hmeth' : T.vm.method? m = some meth := X.method'
  refine ⟨T.setFrames fs, ?_, .returned (some (.int 0)), hrun, hended, rfl, ⟨_, rfl⟩, hW, hframe⟩
  jvm_step X.here [X.here.top, hx, hb, hdg, hmeth', hr, ret, narrow_b0]
  (try refine ⟨rfl, ?_⟩); (try refine ⟨rfl, ?_⟩)
  first | (intro acts; rw [hret _ acts rfl rfl rfl]) | rw [hret _ _ rfl rfl rfl]
  exact Steps.refl _
/-- what holds at the law's entry: the machine, the code, the tables' words (any of lw_tbl by 'hts w (by decide +kernel)'), the script of L ints xs at the cell b, what the Statement gives of the start (any of its parts by flat_of_before) -/
def lw_At (p : Program) (s : State) (m : MethodId) (meth : Method) (c : Code) (b L : Nat) (xs : Nat → Int32) : Prop :=
  p.tables.exec = Jvm.exec ∧ c.code = code ∧ meth.sig.returnType = ret ∧ c.maxLocals = 7 ∧ s.vm.findClass R_law = some m.cls ∧ (∀ w ∈ lw_tbl, w.before #[Value.ref b] s = true) ∧ va_X b L xs s s.heap ∧ b < s.heap.size ∧ meth.locks = false ∧ (Jvm.Cond.and given_1 narrow_1).before #[Value.ref b] s = true

set_option maxRecDepth 50000 in
theorem tw_1353 : Cond.constantLong R_LAW 19 4294967295 ∈ GW := List.mem_filter.mpr ⟨List.mem_of_getElem? (i := 1353) rfl, rfl⟩
set_option maxRecDepth 50000 in
theorem tw_441 : Cond.methodLink R_LAW 21 y_PN_put ∈ GW := List.mem_filter.mpr ⟨List.mem_of_getElem? (i := 441) rfl, rfl⟩
set_option maxRecDepth 50000 in
theorem tw_444 : Cond.code y_PN_put b_PN_put 4 (some .boolean) ∈ GW := List.mem_filter.mpr ⟨List.mem_of_getElem? (i := 444) rfl, rfl⟩
set_option maxRecDepth 50000 in
theorem tw_442 : Cond.instanceMethod y_PN_put ∈ GW := List.mem_filter.mpr ⟨List.mem_of_getElem? (i := 442) rfl, rfl⟩
set_option maxRecDepth 50000 in
theorem tw_443 : Cond.selects R_PN y_PN_put y_PN_put ∈ GW := List.mem_filter.mpr ⟨List.mem_of_getElem? (i := 443) rfl, rfl⟩
set_option maxRecDepth 50000 in
theorem tw_1124 : Cond.methodLink R_LAW 25 y_MOD_put ∈ GW := List.mem_filter.mpr ⟨List.mem_of_getElem? (i := 1124) rfl, rfl⟩
set_option maxRecDepth 50000 in
theorem tw_1127 : Cond.code y_MOD_put b_MOD_put 5 (some .boolean) ∈ GW := List.mem_filter.mpr ⟨List.mem_of_getElem? (i := 1127) rfl, rfl⟩
set_option maxRecDepth 50000 in
theorem tw_1125 : Cond.instanceMethod y_MOD_put ∈ GW := List.mem_filter.mpr ⟨List.mem_of_getElem? (i := 1125) rfl, rfl⟩
set_option maxRecDepth 50000 in
theorem tw_1126 : Cond.selects R_MOD y_MOD_put y_MOD_put ∈ GW := List.mem_filter.mpr ⟨List.mem_of_getElem? (i := 1126) rfl, rfl⟩
set_option maxRecDepth 50000 in
theorem tw_78 : Cond.initialized R_LAW ∈ GW := List.mem_filter.mpr ⟨List.mem_of_getElem? (i := 78) rfl, rfl⟩
set_option maxRecDepth 50000 in
theorem tw_481 : Cond.methodLink R_LAW 26 y_LAW_read ∈ GW := List.mem_filter.mpr ⟨List.mem_of_getElem? (i := 481) rfl, rfl⟩
set_option maxRecDepth 50000 in
theorem tw_482 : Cond.static y_LAW_read ∈ GW := List.mem_filter.mpr ⟨List.mem_of_getElem? (i := 482) rfl, rfl⟩
set_option maxRecDepth 50000 in
theorem tw_1128 : Cond.methodLink R_LAW 31 y_MOD_read ∈ GW := List.mem_filter.mpr ⟨List.mem_of_getElem? (i := 1128) rfl, rfl⟩
set_option maxRecDepth 50000 in
theorem tw_1131 : Cond.code y_MOD_read b_MOD_read 3 (some .int) ∈ GW := List.mem_filter.mpr ⟨List.mem_of_getElem? (i := 1131) rfl, rfl⟩
set_option maxRecDepth 50000 in
theorem tw_1129 : Cond.instanceMethod y_MOD_read ∈ GW := List.mem_filter.mpr ⟨List.mem_of_getElem? (i := 1129) rfl, rfl⟩
set_option maxRecDepth 50000 in
theorem tw_1130 : Cond.selects R_MOD y_MOD_read y_MOD_read ∈ GW := List.mem_filter.mpr ⟨List.mem_of_getElem? (i := 1130) rfl, rfl⟩
set_option maxRecDepth 50000 in
theorem tw_1120 : Cond.methodLink R_LAW 32 y_MOD_thrown ∈ GW := List.mem_filter.mpr ⟨List.mem_of_getElem? (i := 1120) rfl, rfl⟩
set_option maxRecDepth 50000 in
theorem tw_1123 : Cond.code y_MOD_thrown b_MOD_thrown 1 (some .int) ∈ GW := List.mem_filter.mpr ⟨List.mem_of_getElem? (i := 1123) rfl, rfl⟩
set_option maxRecDepth 50000 in
theorem tw_1121 : Cond.instanceMethod y_MOD_thrown ∈ GW := List.mem_filter.mpr ⟨List.mem_of_getElem? (i := 1121) rfl, rfl⟩
set_option maxRecDepth 50000 in
theorem tw_1122 : Cond.selects R_MOD y_MOD_thrown y_MOD_thrown ∈ GW := List.mem_filter.mpr ⟨List.mem_of_getElem? (i := 1122) rfl, rfl⟩
set_option maxRecDepth 50000 in
theorem tw_449 : Cond.methodLink R_LAW 36 y_PN_fault ∈ GW := List.mem_filter.mpr ⟨List.mem_of_getElem? (i := 449) rfl, rfl⟩
set_option maxRecDepth 50000 in
theorem tw_452 : Cond.code y_PN_fault b_PN_fault 2 (some .int) ∈ GW := List.mem_filter.mpr ⟨List.mem_of_getElem? (i := 452) rfl, rfl⟩
set_option maxRecDepth 50000 in
theorem tw_450 : Cond.instanceMethod y_PN_fault ∈ GW := List.mem_filter.mpr ⟨List.mem_of_getElem? (i := 450) rfl, rfl⟩
set_option maxRecDepth 50000 in
theorem tw_451 : Cond.selects R_PN y_PN_fault y_PN_fault ∈ GW := List.mem_filter.mpr ⟨List.mem_of_getElem? (i := 451) rfl, rfl⟩
set_option maxRecDepth 50000 in
theorem tw_1333 : Cond.methodLink R_LAW 39 y_MOD_fault ∈ GW := List.mem_filter.mpr ⟨List.mem_of_getElem? (i := 1333) rfl, rfl⟩
set_option maxRecDepth 50000 in
theorem tw_1336 : Cond.code y_MOD_fault b_MOD_fault 2 (some .int) ∈ GW := List.mem_filter.mpr ⟨List.mem_of_getElem? (i := 1336) rfl, rfl⟩
set_option maxRecDepth 50000 in
theorem tw_1334 : Cond.instanceMethod y_MOD_fault ∈ GW := List.mem_filter.mpr ⟨List.mem_of_getElem? (i := 1334) rfl, rfl⟩
set_option maxRecDepth 50000 in
theorem tw_1335 : Cond.selects R_MOD y_MOD_fault y_MOD_fault ∈ GW := List.mem_filter.mpr ⟨List.mem_of_getElem? (i := 1335) rfl, rfl⟩
set_option maxRecDepth 50000 in
theorem tw_453 : Cond.methodLink R_LAW 40 y_PN_count ∈ GW := List.mem_filter.mpr ⟨List.mem_of_getElem? (i := 453) rfl, rfl⟩
set_option maxRecDepth 50000 in
theorem tw_456 : Cond.code y_PN_count b_PN_count 2 (some .int) ∈ GW := List.mem_filter.mpr ⟨List.mem_of_getElem? (i := 456) rfl, rfl⟩
set_option maxRecDepth 50000 in
theorem tw_454 : Cond.instanceMethod y_PN_count ∈ GW := List.mem_filter.mpr ⟨List.mem_of_getElem? (i := 454) rfl, rfl⟩
set_option maxRecDepth 50000 in
theorem tw_455 : Cond.selects R_PN y_PN_count y_PN_count ∈ GW := List.mem_filter.mpr ⟨List.mem_of_getElem? (i := 455) rfl, rfl⟩
set_option maxRecDepth 50000 in
theorem tw_1337 : Cond.methodLink R_LAW 43 y_MOD_count ∈ GW := List.mem_filter.mpr ⟨List.mem_of_getElem? (i := 1337) rfl, rfl⟩
set_option maxRecDepth 50000 in
theorem tw_1340 : Cond.code y_MOD_count b_MOD_count 2 (some .int) ∈ GW := List.mem_filter.mpr ⟨List.mem_of_getElem? (i := 1340) rfl, rfl⟩
set_option maxRecDepth 50000 in
theorem tw_1338 : Cond.instanceMethod y_MOD_count ∈ GW := List.mem_filter.mpr ⟨List.mem_of_getElem? (i := 1338) rfl, rfl⟩
set_option maxRecDepth 50000 in
theorem tw_1339 : Cond.selects R_MOD y_MOD_count y_MOD_count ∈ GW := List.mem_filter.mpr ⟨List.mem_of_getElem? (i := 1339) rfl, rfl⟩
set_option maxRecDepth 50000 in
theorem tw_457 : Cond.methodLink R_LAW 44 y_PN_node ∈ GW := List.mem_filter.mpr ⟨List.mem_of_getElem? (i := 457) rfl, rfl⟩
set_option maxRecDepth 50000 in
theorem tw_460 : Cond.code y_PN_node b_PN_node 3 (some .int) ∈ GW := List.mem_filter.mpr ⟨List.mem_of_getElem? (i := 460) rfl, rfl⟩
set_option maxRecDepth 50000 in
theorem tw_458 : Cond.instanceMethod y_PN_node ∈ GW := List.mem_filter.mpr ⟨List.mem_of_getElem? (i := 458) rfl, rfl⟩
set_option maxRecDepth 50000 in
theorem tw_459 : Cond.selects R_PN y_PN_node y_PN_node ∈ GW := List.mem_filter.mpr ⟨List.mem_of_getElem? (i := 459) rfl, rfl⟩
set_option maxRecDepth 50000 in
theorem tw_1341 : Cond.methodLink R_LAW 48 y_MOD_node ∈ GW := List.mem_filter.mpr ⟨List.mem_of_getElem? (i := 1341) rfl, rfl⟩
set_option maxRecDepth 50000 in
theorem tw_1344 : Cond.code y_MOD_node b_MOD_node 3 (some .int) ∈ GW := List.mem_filter.mpr ⟨List.mem_of_getElem? (i := 1344) rfl, rfl⟩
set_option maxRecDepth 50000 in
theorem tw_1342 : Cond.instanceMethod y_MOD_node ∈ GW := List.mem_filter.mpr ⟨List.mem_of_getElem? (i := 1342) rfl, rfl⟩
set_option maxRecDepth 50000 in
theorem tw_1343 : Cond.selects R_MOD y_MOD_node y_MOD_node ∈ GW := List.mem_filter.mpr ⟨List.mem_of_getElem? (i := 1343) rfl, rfl⟩
set_option maxRecDepth 50000 in
theorem tw_465 : Cond.methodLink R_LAW 49 y_PN_range ∈ GW := List.mem_filter.mpr ⟨List.mem_of_getElem? (i := 465) rfl, rfl⟩
set_option maxRecDepth 50000 in
theorem tw_468 : Cond.code y_PN_range b_PN_range 4 (some .int) ∈ GW := List.mem_filter.mpr ⟨List.mem_of_getElem? (i := 468) rfl, rfl⟩
set_option maxRecDepth 50000 in
theorem tw_466 : Cond.instanceMethod y_PN_range ∈ GW := List.mem_filter.mpr ⟨List.mem_of_getElem? (i := 466) rfl, rfl⟩
set_option maxRecDepth 50000 in
theorem tw_467 : Cond.selects R_PN y_PN_range y_PN_range ∈ GW := List.mem_filter.mpr ⟨List.mem_of_getElem? (i := 467) rfl, rfl⟩
set_option maxRecDepth 50000 in
theorem tw_1345 : Cond.methodLink R_LAW 53 y_MOD_range ∈ GW := List.mem_filter.mpr ⟨List.mem_of_getElem? (i := 1345) rfl, rfl⟩
set_option maxRecDepth 50000 in
theorem tw_1348 : Cond.code y_MOD_range b_MOD_range 4 (some .int) ∈ GW := List.mem_filter.mpr ⟨List.mem_of_getElem? (i := 1348) rfl, rfl⟩
set_option maxRecDepth 50000 in
theorem tw_1346 : Cond.instanceMethod y_MOD_range ∈ GW := List.mem_filter.mpr ⟨List.mem_of_getElem? (i := 1346) rfl, rfl⟩
set_option maxRecDepth 50000 in
theorem tw_1347 : Cond.selects R_MOD y_MOD_range y_MOD_range ∈ GW := List.mem_filter.mpr ⟨List.mem_of_getElem? (i := 1347) rfl, rfl⟩
set_option maxRecDepth 50000 in
theorem tw_473 : Cond.methodLink R_LAW 54 y_PN_name ∈ GW := List.mem_filter.mpr ⟨List.mem_of_getElem? (i := 473) rfl, rfl⟩
set_option maxRecDepth 50000 in
theorem tw_476 : Cond.code y_PN_name b_PN_name 3 (some .int) ∈ GW := List.mem_filter.mpr ⟨List.mem_of_getElem? (i := 476) rfl, rfl⟩
set_option maxRecDepth 50000 in
theorem tw_474 : Cond.instanceMethod y_PN_name ∈ GW := List.mem_filter.mpr ⟨List.mem_of_getElem? (i := 474) rfl, rfl⟩
set_option maxRecDepth 50000 in
theorem tw_475 : Cond.selects R_PN y_PN_name y_PN_name ∈ GW := List.mem_filter.mpr ⟨List.mem_of_getElem? (i := 475) rfl, rfl⟩
set_option maxRecDepth 50000 in
theorem tw_1349 : Cond.methodLink R_LAW 57 y_MOD_name ∈ GW := List.mem_filter.mpr ⟨List.mem_of_getElem? (i := 1349) rfl, rfl⟩
set_option maxRecDepth 50000 in
theorem tw_1352 : Cond.code y_MOD_name b_MOD_name 3 (some .int) ∈ GW := List.mem_filter.mpr ⟨List.mem_of_getElem? (i := 1352) rfl, rfl⟩
set_option maxRecDepth 50000 in
theorem tw_1350 : Cond.instanceMethod y_MOD_name ∈ GW := List.mem_filter.mpr ⟨List.mem_of_getElem? (i := 1350) rfl, rfl⟩
set_option maxRecDepth 50000 in
theorem tw_1351 : Cond.selects R_MOD y_MOD_name y_MOD_name ∈ GW := List.mem_filter.mpr ⟨List.mem_of_getElem? (i := 1351) rfl, rfl⟩
set_option maxRecDepth 50000 in
theorem tw_483 : Cond.codeWith y_LAW_read b_LAW_read 4 (some .int) [(0, 9, 12, 13)] ∈ GW := List.mem_filter.mpr ⟨List.mem_of_getElem? (i := 483) rfl, rfl⟩
set_option maxRecDepth 50000 in
theorem tw_102 : Cond.classLink R_LAW 8 R_PN ∈ GW := List.mem_filter.mpr ⟨List.mem_of_getElem? (i := 102) rfl, rfl⟩
set_option maxRecDepth 50000 in
theorem tw_103 : Cond.instantiable R_PN 5 ∈ GW := List.mem_filter.mpr ⟨List.mem_of_getElem? (i := 103) rfl, rfl⟩
set_option maxRecDepth 50000 in
theorem tw_106 : Cond.code y_PN_init b_PN_init 1 none ∈ GW := List.mem_filter.mpr ⟨List.mem_of_getElem? (i := 106) rfl, rfl⟩
set_option maxRecDepth 50000 in
theorem tw_104 : Cond.methodLink R_LAW 15 y_PN_init ∈ GW := List.mem_filter.mpr ⟨List.mem_of_getElem? (i := 104) rfl, rfl⟩
set_option maxRecDepth 50000 in
theorem tw_105 : Cond.instanceMethod y_PN_init ∈ GW := List.mem_filter.mpr ⟨List.mem_of_getElem? (i := 105) rfl, rfl⟩
set_option maxRecDepth 50000 in
theorem tw_987 : Cond.classLink R_LAW 16 R_MOD ∈ GW := List.mem_filter.mpr ⟨List.mem_of_getElem? (i := 987) rfl, rfl⟩
set_option maxRecDepth 50000 in
theorem tw_988 : Cond.instantiable R_MOD 42 ∈ GW := List.mem_filter.mpr ⟨List.mem_of_getElem? (i := 988) rfl, rfl⟩
set_option maxRecDepth 50000 in
theorem tw_991 : Cond.code y_MOD_init b_MOD_init 1 none ∈ GW := List.mem_filter.mpr ⟨List.mem_of_getElem? (i := 991) rfl, rfl⟩
set_option maxRecDepth 50000 in
theorem tw_989 : Cond.methodLink R_LAW 18 y_MOD_init ∈ GW := List.mem_filter.mpr ⟨List.mem_of_getElem? (i := 989) rfl, rfl⟩
set_option maxRecDepth 50000 in
theorem tw_990 : Cond.instanceMethod y_MOD_init ∈ GW := List.mem_filter.mpr ⟨List.mem_of_getElem? (i := 990) rfl, rfl⟩
set_option maxRecDepth 50000 in
theorem tw_1354 : Cond.arrayClass .long ∈ GW := List.mem_filter.mpr ⟨List.mem_of_getElem? (i := 1354) rfl, rfl⟩
theorem d_LAW_law_0 : decode code 0 = .ok (.new 8, 3) := by decide +kernel
theorem d_LAW_law_3 : decode code 3 = .ok (.dup, 1) := by decide +kernel
theorem d_LAW_law_4 : decode code 4 = .ok (.invokespecial 15, 3) := by decide +kernel
theorem d_LAW_law_7 : decode code 7 = .ok (.astore_n 1, 1) := by decide +kernel
theorem d_LAW_law_8 : decode code 8 = .ok (.new 16, 3) := by decide +kernel
theorem d_LAW_law_11 : decode code 11 = .ok (.dup, 1) := by decide +kernel
theorem d_LAW_law_12 : decode code 12 = .ok (.invokespecial 18, 3) := by decide +kernel
theorem d_LAW_law_15 : decode code 15 = .ok (.astore_n 2, 1) := by decide +kernel
theorem d_LAW_law_16 : decode code 16 = .ok (.iconst 1, 1) := by decide +kernel
theorem d_LAW_law_17 : decode code 17 = .ok (.newarray .long, 2) := by decide +kernel
theorem d_LAW_law_19 : decode code 19 = .ok (.astore_n 3, 1) := by decide +kernel
theorem d_LAW_law_20 : decode code 20 = .ok (.iconst 0, 1) := by decide +kernel
theorem d_LAW_law_21 : decode code 21 = .ok (.istore 4, 2) := by decide +kernel
theorem d_LAW_law_23 : decode code 23 = .ok (.iload 4, 2) := by decide +kernel
theorem d_LAW_law_25 : decode code 25 = .ok (.aload_n 0, 1) := by decide +kernel
theorem d_LAW_law_26 : decode code 26 = .ok (.arraylength, 1) := by decide +kernel
theorem d_LAW_law_27 : decode code 27 = .ok (.iconst 4, 1) := by decide +kernel
theorem d_LAW_law_28 : decode code 28 = .ok (.isub, 1) := by decide +kernel
theorem d_LAW_law_29 : decode code 29 = .ok (.if_icmp .gt 355, 3) := by decide +kernel
theorem d_LAW_law_32 : decode code 32 = .ok (.aload_n 0, 1) := by decide +kernel
theorem d_LAW_law_33 : decode code 33 = .ok (.iload 4, 2) := by decide +kernel
theorem d_LAW_law_35 : decode code 35 = .ok (.iaload, 1) := by decide +kernel
theorem d_LAW_law_36 : decode code 36 = .ok (.bipush 7, 2) := by decide +kernel
theorem d_LAW_law_38 : decode code 38 = .ok (.iand, 1) := by decide +kernel
theorem d_LAW_law_39 : decode code 39 = .ok (.tableswitch 339 0 6 #[41, 110, 166, 191, 216, 253, 302], 41) := by decide +kernel
theorem d_LAW_law_80 : decode code 80 = .ok (.aload_n 1, 1) := by decide +kernel
theorem d_LAW_law_81 : decode code 81 = .ok (.aload_n 0, 1) := by decide +kernel
theorem d_LAW_law_82 : decode code 82 = .ok (.iload 4, 2) := by decide +kernel
theorem d_LAW_law_84 : decode code 84 = .ok (.iconst 1, 1) := by decide +kernel
theorem d_LAW_law_85 : decode code 85 = .ok (.iadd, 1) := by decide +kernel
theorem d_LAW_law_86 : decode code 86 = .ok (.iaload, 1) := by decide +kernel
theorem d_LAW_law_87 : decode code 87 = .ok (.i2l, 1) := by decide +kernel
theorem d_LAW_law_88 : decode code 88 = .ok (.bipush 32, 2) := by decide +kernel
theorem d_LAW_law_90 : decode code 90 = .ok (.lshl, 1) := by decide +kernel
theorem d_LAW_law_91 : decode code 91 = .ok (.aload_n 0, 1) := by decide +kernel
theorem d_LAW_law_92 : decode code 92 = .ok (.iload 4, 2) := by decide +kernel
theorem d_LAW_law_94 : decode code 94 = .ok (.iconst 2, 1) := by decide +kernel
theorem d_LAW_law_95 : decode code 95 = .ok (.iadd, 1) := by decide +kernel
theorem d_LAW_law_96 : decode code 96 = .ok (.iaload, 1) := by decide +kernel
theorem d_LAW_law_97 : decode code 97 = .ok (.i2l, 1) := by decide +kernel
theorem d_LAW_law_98 : decode code 98 = .ok (.ldc2_w 19, 3) := by decide +kernel
theorem d_LAW_law_101 : decode code 101 = .ok (.land, 1) := by decide +kernel
theorem d_LAW_law_102 : decode code 102 = .ok (.lor, 1) := by decide +kernel
theorem d_LAW_law_103 : decode code 103 = .ok (.aload_n 0, 1) := by decide +kernel
theorem d_LAW_law_104 : decode code 104 = .ok (.iload 4, 2) := by decide +kernel
theorem d_LAW_law_106 : decode code 106 = .ok (.iconst 3, 1) := by decide +kernel
theorem d_LAW_law_107 : decode code 107 = .ok (.iadd, 1) := by decide +kernel
theorem d_LAW_law_108 : decode code 108 = .ok (.iaload, 1) := by decide +kernel
theorem d_LAW_law_109 : decode code 109 = .ok (.invokevirtual 21, 3) := by decide +kernel
theorem d_LAW_law_112 : decode code 112 = .ok (.aload_n 2, 1) := by decide +kernel
theorem d_LAW_law_113 : decode code 113 = .ok (.aload_n 0, 1) := by decide +kernel
theorem d_LAW_law_114 : decode code 114 = .ok (.iload 4, 2) := by decide +kernel
theorem d_LAW_law_116 : decode code 116 = .ok (.iconst 1, 1) := by decide +kernel
theorem d_LAW_law_117 : decode code 117 = .ok (.iadd, 1) := by decide +kernel
theorem d_LAW_law_118 : decode code 118 = .ok (.iaload, 1) := by decide +kernel
theorem d_LAW_law_119 : decode code 119 = .ok (.i2l, 1) := by decide +kernel
theorem d_LAW_law_120 : decode code 120 = .ok (.bipush 32, 2) := by decide +kernel
theorem d_LAW_law_122 : decode code 122 = .ok (.lshl, 1) := by decide +kernel
theorem d_LAW_law_123 : decode code 123 = .ok (.aload_n 0, 1) := by decide +kernel
theorem d_LAW_law_124 : decode code 124 = .ok (.iload 4, 2) := by decide +kernel
theorem d_LAW_law_126 : decode code 126 = .ok (.iconst 2, 1) := by decide +kernel
theorem d_LAW_law_127 : decode code 127 = .ok (.iadd, 1) := by decide +kernel
theorem d_LAW_law_128 : decode code 128 = .ok (.iaload, 1) := by decide +kernel
theorem d_LAW_law_129 : decode code 129 = .ok (.i2l, 1) := by decide +kernel
theorem d_LAW_law_130 : decode code 130 = .ok (.ldc2_w 19, 3) := by decide +kernel
theorem d_LAW_law_133 : decode code 133 = .ok (.land, 1) := by decide +kernel
theorem d_LAW_law_134 : decode code 134 = .ok (.lor, 1) := by decide +kernel
theorem d_LAW_law_135 : decode code 135 = .ok (.aload_n 0, 1) := by decide +kernel
theorem d_LAW_law_136 : decode code 136 = .ok (.iload 4, 2) := by decide +kernel
theorem d_LAW_law_138 : decode code 138 = .ok (.iconst 3, 1) := by decide +kernel
theorem d_LAW_law_139 : decode code 139 = .ok (.iadd, 1) := by decide +kernel
theorem d_LAW_law_140 : decode code 140 = .ok (.iaload, 1) := by decide +kernel
theorem d_LAW_law_141 : decode code 141 = .ok (.invokevirtual 25, 3) := by decide +kernel
theorem d_LAW_law_144 : decode code 144 = .ok (.if_icmp .eq 234, 3) := by decide +kernel
theorem d_LAW_law_147 : decode code 147 = .ok (.iconst 0, 1) := by decide +kernel
theorem d_LAW_law_148 : decode code 148 = .ok (.ireturn, 1) := by decide +kernel
theorem d_LAW_law_149 : decode code 149 = .ok (.aload_n 1, 1) := by decide +kernel
theorem d_LAW_law_150 : decode code 150 = .ok (.aload_n 0, 1) := by decide +kernel
theorem d_LAW_law_151 : decode code 151 = .ok (.iload 4, 2) := by decide +kernel
theorem d_LAW_law_153 : decode code 153 = .ok (.iconst 1, 1) := by decide +kernel
theorem d_LAW_law_154 : decode code 154 = .ok (.iadd, 1) := by decide +kernel
theorem d_LAW_law_155 : decode code 155 = .ok (.iaload, 1) := by decide +kernel
theorem d_LAW_law_156 : decode code 156 = .ok (.aload_n 3, 1) := by decide +kernel
theorem d_LAW_law_157 : decode code 157 = .ok (.invokestatic 26, 3) := by decide +kernel
theorem d_LAW_law_160 : decode code 160 = .ok (.istore 5, 2) := by decide +kernel
theorem d_LAW_law_162 : decode code 162 = .ok (.aload_n 2, 1) := by decide +kernel
theorem d_LAW_law_163 : decode code 163 = .ok (.aload_n 0, 1) := by decide +kernel
theorem d_LAW_law_164 : decode code 164 = .ok (.iload 4, 2) := by decide +kernel
theorem d_LAW_law_166 : decode code 166 = .ok (.iconst 1, 1) := by decide +kernel
theorem d_LAW_law_167 : decode code 167 = .ok (.iadd, 1) := by decide +kernel
theorem d_LAW_law_168 : decode code 168 = .ok (.iaload, 1) := by decide +kernel
theorem d_LAW_law_169 : decode code 169 = .ok (.invokevirtual 31, 3) := by decide +kernel
theorem d_LAW_law_172 : decode code 172 = .ok (.istore 6, 2) := by decide +kernel
theorem d_LAW_law_174 : decode code 174 = .ok (.aload_n 2, 1) := by decide +kernel
theorem d_LAW_law_175 : decode code 175 = .ok (.invokevirtual 32, 3) := by decide +kernel
theorem d_LAW_law_178 : decode code 178 = .ok (.iload 5, 2) := by decide +kernel
theorem d_LAW_law_180 : decode code 180 = .ok (.if_icmp .eq 5, 3) := by decide +kernel
theorem d_LAW_law_183 : decode code 183 = .ok (.iconst 0, 1) := by decide +kernel
theorem d_LAW_law_184 : decode code 184 = .ok (.ireturn, 1) := by decide +kernel
theorem d_LAW_law_185 : decode code 185 = .ok (.iload 5, 2) := by decide +kernel
theorem d_LAW_law_187 : decode code 187 = .ok (.ifCond .ne 15, 3) := by decide +kernel
theorem d_LAW_law_190 : decode code 190 = .ok (.aload_n 3, 1) := by decide +kernel
theorem d_LAW_law_191 : decode code 191 = .ok (.iconst 0, 1) := by decide +kernel
theorem d_LAW_law_192 : decode code 192 = .ok (.laload, 1) := by decide +kernel
theorem d_LAW_law_193 : decode code 193 = .ok (.iload 6, 2) := by decide +kernel
theorem d_LAW_law_195 : decode code 195 = .ok (.i2l, 1) := by decide +kernel
theorem d_LAW_law_196 : decode code 196 = .ok (.lcmp, 1) := by decide +kernel
theorem d_LAW_law_197 : decode code 197 = .ok (.ifCond .eq 5, 3) := by decide +kernel
theorem d_LAW_law_200 : decode code 200 = .ok (.iconst 0, 1) := by decide +kernel
theorem d_LAW_law_201 : decode code 201 = .ok (.ireturn, 1) := by decide +kernel
theorem d_LAW_law_202 : decode code 202 = .ok (.goto 176, 3) := by decide +kernel
theorem d_LAW_law_205 : decode code 205 = .ok (.aload_n 1, 1) := by decide +kernel
theorem d_LAW_law_206 : decode code 206 = .ok (.aload_n 0, 1) := by decide +kernel
theorem d_LAW_law_207 : decode code 207 = .ok (.iload 4, 2) := by decide +kernel
theorem d_LAW_law_209 : decode code 209 = .ok (.iconst 1, 1) := by decide +kernel
theorem d_LAW_law_210 : decode code 210 = .ok (.iadd, 1) := by decide +kernel
theorem d_LAW_law_211 : decode code 211 = .ok (.iaload, 1) := by decide +kernel
theorem d_LAW_law_212 : decode code 212 = .ok (.invokevirtual 36, 3) := by decide +kernel
theorem d_LAW_law_215 : decode code 215 = .ok (.aload_n 2, 1) := by decide +kernel
theorem d_LAW_law_216 : decode code 216 = .ok (.aload_n 0, 1) := by decide +kernel
theorem d_LAW_law_217 : decode code 217 = .ok (.iload 4, 2) := by decide +kernel
theorem d_LAW_law_219 : decode code 219 = .ok (.iconst 1, 1) := by decide +kernel
theorem d_LAW_law_220 : decode code 220 = .ok (.iadd, 1) := by decide +kernel
theorem d_LAW_law_221 : decode code 221 = .ok (.iaload, 1) := by decide +kernel
theorem d_LAW_law_222 : decode code 222 = .ok (.invokevirtual 39, 3) := by decide +kernel
theorem d_LAW_law_225 : decode code 225 = .ok (.if_icmp .eq 153, 3) := by decide +kernel
theorem d_LAW_law_228 : decode code 228 = .ok (.iconst 0, 1) := by decide +kernel
theorem d_LAW_law_229 : decode code 229 = .ok (.ireturn, 1) := by decide +kernel
theorem d_LAW_law_230 : decode code 230 = .ok (.aload_n 1, 1) := by decide +kernel
theorem d_LAW_law_231 : decode code 231 = .ok (.aload_n 0, 1) := by decide +kernel
theorem d_LAW_law_232 : decode code 232 = .ok (.iload 4, 2) := by decide +kernel
theorem d_LAW_law_234 : decode code 234 = .ok (.iconst 1, 1) := by decide +kernel
theorem d_LAW_law_235 : decode code 235 = .ok (.iadd, 1) := by decide +kernel
theorem d_LAW_law_236 : decode code 236 = .ok (.iaload, 1) := by decide +kernel
theorem d_LAW_law_237 : decode code 237 = .ok (.invokevirtual 40, 3) := by decide +kernel
theorem d_LAW_law_240 : decode code 240 = .ok (.aload_n 2, 1) := by decide +kernel
theorem d_LAW_law_241 : decode code 241 = .ok (.aload_n 0, 1) := by decide +kernel
theorem d_LAW_law_242 : decode code 242 = .ok (.iload 4, 2) := by decide +kernel
theorem d_LAW_law_244 : decode code 244 = .ok (.iconst 1, 1) := by decide +kernel
theorem d_LAW_law_245 : decode code 245 = .ok (.iadd, 1) := by decide +kernel
theorem d_LAW_law_246 : decode code 246 = .ok (.iaload, 1) := by decide +kernel
theorem d_LAW_law_247 : decode code 247 = .ok (.invokevirtual 43, 3) := by decide +kernel
theorem d_LAW_law_250 : decode code 250 = .ok (.if_icmp .eq 128, 3) := by decide +kernel
theorem d_LAW_law_253 : decode code 253 = .ok (.iconst 0, 1) := by decide +kernel
theorem d_LAW_law_254 : decode code 254 = .ok (.ireturn, 1) := by decide +kernel
theorem d_LAW_law_255 : decode code 255 = .ok (.aload_n 1, 1) := by decide +kernel
theorem d_LAW_law_256 : decode code 256 = .ok (.aload_n 0, 1) := by decide +kernel
theorem d_LAW_law_257 : decode code 257 = .ok (.iload 4, 2) := by decide +kernel
theorem d_LAW_law_259 : decode code 259 = .ok (.iconst 1, 1) := by decide +kernel
theorem d_LAW_law_260 : decode code 260 = .ok (.iadd, 1) := by decide +kernel
theorem d_LAW_law_261 : decode code 261 = .ok (.iaload, 1) := by decide +kernel
theorem d_LAW_law_262 : decode code 262 = .ok (.aload_n 0, 1) := by decide +kernel
theorem d_LAW_law_263 : decode code 263 = .ok (.iload 4, 2) := by decide +kernel
theorem d_LAW_law_265 : decode code 265 = .ok (.iconst 2, 1) := by decide +kernel
theorem d_LAW_law_266 : decode code 266 = .ok (.iadd, 1) := by decide +kernel
theorem d_LAW_law_267 : decode code 267 = .ok (.iaload, 1) := by decide +kernel
theorem d_LAW_law_268 : decode code 268 = .ok (.invokevirtual 44, 3) := by decide +kernel
theorem d_LAW_law_271 : decode code 271 = .ok (.aload_n 2, 1) := by decide +kernel
theorem d_LAW_law_272 : decode code 272 = .ok (.aload_n 0, 1) := by decide +kernel
theorem d_LAW_law_273 : decode code 273 = .ok (.iload 4, 2) := by decide +kernel
theorem d_LAW_law_275 : decode code 275 = .ok (.iconst 1, 1) := by decide +kernel
theorem d_LAW_law_276 : decode code 276 = .ok (.iadd, 1) := by decide +kernel
theorem d_LAW_law_277 : decode code 277 = .ok (.iaload, 1) := by decide +kernel
theorem d_LAW_law_278 : decode code 278 = .ok (.aload_n 0, 1) := by decide +kernel
theorem d_LAW_law_279 : decode code 279 = .ok (.iload 4, 2) := by decide +kernel
theorem d_LAW_law_281 : decode code 281 = .ok (.iconst 2, 1) := by decide +kernel
theorem d_LAW_law_282 : decode code 282 = .ok (.iadd, 1) := by decide +kernel
theorem d_LAW_law_283 : decode code 283 = .ok (.iaload, 1) := by decide +kernel
theorem d_LAW_law_284 : decode code 284 = .ok (.invokevirtual 48, 3) := by decide +kernel
theorem d_LAW_law_287 : decode code 287 = .ok (.if_icmp .eq 91, 3) := by decide +kernel
theorem d_LAW_law_290 : decode code 290 = .ok (.iconst 0, 1) := by decide +kernel
theorem d_LAW_law_291 : decode code 291 = .ok (.ireturn, 1) := by decide +kernel
theorem d_LAW_law_292 : decode code 292 = .ok (.aload_n 1, 1) := by decide +kernel
theorem d_LAW_law_293 : decode code 293 = .ok (.aload_n 0, 1) := by decide +kernel
theorem d_LAW_law_294 : decode code 294 = .ok (.iload 4, 2) := by decide +kernel
theorem d_LAW_law_296 : decode code 296 = .ok (.iconst 1, 1) := by decide +kernel
theorem d_LAW_law_297 : decode code 297 = .ok (.iadd, 1) := by decide +kernel
theorem d_LAW_law_298 : decode code 298 = .ok (.iaload, 1) := by decide +kernel
theorem d_LAW_law_299 : decode code 299 = .ok (.aload_n 0, 1) := by decide +kernel
theorem d_LAW_law_300 : decode code 300 = .ok (.iload 4, 2) := by decide +kernel
theorem d_LAW_law_302 : decode code 302 = .ok (.iconst 2, 1) := by decide +kernel
theorem d_LAW_law_303 : decode code 303 = .ok (.iadd, 1) := by decide +kernel
theorem d_LAW_law_304 : decode code 304 = .ok (.iaload, 1) := by decide +kernel
theorem d_LAW_law_305 : decode code 305 = .ok (.aload_n 0, 1) := by decide +kernel
theorem d_LAW_law_306 : decode code 306 = .ok (.iload 4, 2) := by decide +kernel
theorem d_LAW_law_308 : decode code 308 = .ok (.iconst 3, 1) := by decide +kernel
theorem d_LAW_law_309 : decode code 309 = .ok (.iadd, 1) := by decide +kernel
theorem d_LAW_law_310 : decode code 310 = .ok (.iaload, 1) := by decide +kernel
theorem d_LAW_law_311 : decode code 311 = .ok (.invokevirtual 49, 3) := by decide +kernel
theorem d_LAW_law_314 : decode code 314 = .ok (.aload_n 2, 1) := by decide +kernel
theorem d_LAW_law_315 : decode code 315 = .ok (.aload_n 0, 1) := by decide +kernel
theorem d_LAW_law_316 : decode code 316 = .ok (.iload 4, 2) := by decide +kernel
theorem d_LAW_law_318 : decode code 318 = .ok (.iconst 1, 1) := by decide +kernel
theorem d_LAW_law_319 : decode code 319 = .ok (.iadd, 1) := by decide +kernel
theorem d_LAW_law_320 : decode code 320 = .ok (.iaload, 1) := by decide +kernel
theorem d_LAW_law_321 : decode code 321 = .ok (.aload_n 0, 1) := by decide +kernel
theorem d_LAW_law_322 : decode code 322 = .ok (.iload 4, 2) := by decide +kernel
theorem d_LAW_law_324 : decode code 324 = .ok (.iconst 2, 1) := by decide +kernel
theorem d_LAW_law_325 : decode code 325 = .ok (.iadd, 1) := by decide +kernel
theorem d_LAW_law_326 : decode code 326 = .ok (.iaload, 1) := by decide +kernel
theorem d_LAW_law_327 : decode code 327 = .ok (.aload_n 0, 1) := by decide +kernel
theorem d_LAW_law_328 : decode code 328 = .ok (.iload 4, 2) := by decide +kernel
theorem d_LAW_law_330 : decode code 330 = .ok (.iconst 3, 1) := by decide +kernel
theorem d_LAW_law_331 : decode code 331 = .ok (.iadd, 1) := by decide +kernel
theorem d_LAW_law_332 : decode code 332 = .ok (.iaload, 1) := by decide +kernel
theorem d_LAW_law_333 : decode code 333 = .ok (.invokevirtual 53, 3) := by decide +kernel
theorem d_LAW_law_336 : decode code 336 = .ok (.if_icmp .eq 42, 3) := by decide +kernel
theorem d_LAW_law_339 : decode code 339 = .ok (.iconst 0, 1) := by decide +kernel
theorem d_LAW_law_340 : decode code 340 = .ok (.ireturn, 1) := by decide +kernel
theorem d_LAW_law_341 : decode code 341 = .ok (.aload_n 1, 1) := by decide +kernel
theorem d_LAW_law_342 : decode code 342 = .ok (.aload_n 0, 1) := by decide +kernel
theorem d_LAW_law_343 : decode code 343 = .ok (.iload 4, 2) := by decide +kernel
theorem d_LAW_law_345 : decode code 345 = .ok (.iconst 1, 1) := by decide +kernel
theorem d_LAW_law_346 : decode code 346 = .ok (.iadd, 1) := by decide +kernel
theorem d_LAW_law_347 : decode code 347 = .ok (.iaload, 1) := by decide +kernel
theorem d_LAW_law_348 : decode code 348 = .ok (.aload_n 0, 1) := by decide +kernel
theorem d_LAW_law_349 : decode code 349 = .ok (.iload 4, 2) := by decide +kernel
theorem d_LAW_law_351 : decode code 351 = .ok (.iconst 2, 1) := by decide +kernel
theorem d_LAW_law_352 : decode code 352 = .ok (.iadd, 1) := by decide +kernel
theorem d_LAW_law_353 : decode code 353 = .ok (.iaload, 1) := by decide +kernel
theorem d_LAW_law_354 : decode code 354 = .ok (.invokevirtual 54, 3) := by decide +kernel
theorem d_LAW_law_357 : decode code 357 = .ok (.aload_n 2, 1) := by decide +kernel
theorem d_LAW_law_358 : decode code 358 = .ok (.aload_n 0, 1) := by decide +kernel
theorem d_LAW_law_359 : decode code 359 = .ok (.iload 4, 2) := by decide +kernel
theorem d_LAW_law_361 : decode code 361 = .ok (.iconst 1, 1) := by decide +kernel
theorem d_LAW_law_362 : decode code 362 = .ok (.iadd, 1) := by decide +kernel
theorem d_LAW_law_363 : decode code 363 = .ok (.iaload, 1) := by decide +kernel
theorem d_LAW_law_364 : decode code 364 = .ok (.aload_n 0, 1) := by decide +kernel
theorem d_LAW_law_365 : decode code 365 = .ok (.iload 4, 2) := by decide +kernel
theorem d_LAW_law_367 : decode code 367 = .ok (.iconst 2, 1) := by decide +kernel
theorem d_LAW_law_368 : decode code 368 = .ok (.iadd, 1) := by decide +kernel
theorem d_LAW_law_369 : decode code 369 = .ok (.iaload, 1) := by decide +kernel
theorem d_LAW_law_370 : decode code 370 = .ok (.invokevirtual 57, 3) := by decide +kernel
theorem d_LAW_law_373 : decode code 373 = .ok (.if_icmp .eq 5, 3) := by decide +kernel
theorem d_LAW_law_376 : decode code 376 = .ok (.iconst 0, 1) := by decide +kernel
theorem d_LAW_law_377 : decode code 377 = .ok (.ireturn, 1) := by decide +kernel
theorem d_LAW_law_378 : decode code 378 = .ok (.iinc 4 4, 3) := by decide +kernel
theorem d_LAW_law_381 : decode code 381 = .ok (.goto (-358), 3) := by decide +kernel
theorem d_LAW_law_384 : decode code 384 = .ok (.iconst 1, 1) := by decide +kernel
theorem d_LAW_law_385 : decode code 385 = .ok (.ireturn, 1) := by decide +kernel
theorem cal_i1 {p : Program} {l : Launch} {e : Env} {R : Room} {s : State} {m : MethodId} {args : Array Value} {below : List Frame} {meth : Method} {c : Code} {H : Heap} {locs : List Loc} {cells slots : Nat} {Q : State → Prop} {pc : Nat} {ls : Array Slot} {rest st0 : List Value} {a : Array Value} {A : Nat → Prop} {D : va_G} {cl : List vw_C} {tys : List (ClassId × FieldType)} {ws wc w1 : va_W} {r0 : Int32} (hr : va_Run p l e R s m args below meth c H locs cells slots 1 6 (F0 m pc ls st0) rest (va_Qi (fun r (_ : Unit) => r = r0) (fun _ t => posS D cl tys w1 (va_A wc H.size) t) (va_A wc H.size) a) (va_A wc H.size)) (hP : va_P D cl ws H) (hD : va_D A ws) (hS : va_S A s.heap H locs) (hA : ∀ q, s.heap.size ≤ q → A q) (isC isR : List Nat) (hC : isC.map (fun i => ws[i]?) = wc.map some) (hR : isR.map (fun i => ws[i]?) = (isR.filterMap (fun i => ws[i]?)).map some) (hn : va_nd isR = true) (hdis : ∀ i ∈ isR, i ∉ isC)
    (kk : ∀ (H1 : Heap) (locs1 : List Loc), va_P D cl (isR.filterMap (fun i => ws[i]?) ++ w1) H1 → va_D A (isR.filterMap (fun i => ws[i]?) ++ w1) → va_S A s.heap H1 locs1 → W p l e R s m args below meth c H1 locs1 (cells + 1) (slots + 6) Q (F0 m (pc + 3) ls (.int r0 :: rest))) : W p l e R s m args below meth c H locs cells slots Q (F0 m pc ls st0) := by
  have hFc := va_free (wc := wc) hD hS hA isC hC
  refine va_calli hr hS (fun q _ h => hFc q h) hFc (fun r u t H1 locs1 ht hvm hw hB hz1 hk1 hS1 => ?_)
  subst hw
  obtain ⟨hP1, hK1, hD1⟩ := hB
  rw [ht] at hP1
  obtain ⟨hP2, hD2⟩ := va_join hP hD isC isR hC hR hn hdis hk1 hFc hP1 hD1
  exact kk H1 locs1 hP2 hD2 hS1
theorem newL {p : Program} {l : Launch} {e : Env} {R : Room} {s : State} {m : MethodId} {args : Array Value} {below : List Frame} {meth : Method} {c : Code} {H : Heap} {locs : List Loc} {cells slots : Nat} {Q : State → Prop} {cc : ByteArray} {pc : Nat} {ls : Array Slot} {rest : List Value} {A : Nat → Prop} {D : va_G} {cl : List vw_C} {ws : va_W} {H0 : Heap} {cI cL : ClassId} (hexec : p.tables.exec = Jvm.exec) (hb : c.code = cc) (harr : (Cond.arrayClass .long).before args s = true) (hK : va_K D cl [(cI, .int), (cL, .long)] s) (hP : va_P D cl ws H) (hD : va_D A ws) (hS : va_S A H0 H locs) (hA : ∀ q, H0.size ≤ q → A q) {n : Int32} {N' : Nat} (hn : ¬ n < 0) (hN : n.toNatClampNeg = N') (hbytes : N' * componentBytes .long ≤ 536870912) (hcells : cells + 1 ≤ R.cells) (hslots : slots + N' ≤ R.slots) (hdg : decode cc pc = .ok (.newarray .long, 2))
    (kk : ∀ (q : Nat) (H1 : Heap), va_P D cl (ws ++ [(q, .inl (cL, N', .inr (.inl (fun _ => 0))))]) H1 → va_D A (ws ++ [(q, .inl (cL, N', .inr (.inl (fun _ => 0))))]) → va_S A H0 H1 locs → W p l e R s m args below meth c H1 locs (cells + 1) (slots + N') Q (F0 m (pc + 2) ls (.ref q :: rest))) : W p l e R s m args below meth c H locs cells slots Q (F0 m pc ls (.int n :: rest)) := by
  have ha : ∀ cA : ClassId, vp_cell cA (N', .inr (.inl (fun _ => 0))) = arrV cA N' (fun _ => defaultValue FieldType.long) := fun cA => rfl
  have ht : newarray.typeOf ArrayType.long = FieldType.long := rfl
  refine va_newa (atype := ArrayType.long) (ty := FieldType.long) (a0 := (N', .inr (.inl (fun _ => 0)))) (N' := N') hexec hb (by rw [ht]; exact harr) ht hK hP hD hS hA ha hn hN hbytes hcells hslots hdg (fun q cA H1 hK1 hP1 hD1 hS1 => ?_)
  have e : cA = cL := by
    have h0 := (hK1.2 1 (cL, .long) rfl).2
    have h1 := (hK1.2 2 (cA, .long) rfl).2
    exact Option.some.inj (h1.symm.trans h0)
  subst e
  exact kk q H1 hP1 hD1 hS1
theorem law_in {L k : Nat} {v4 : Int32} (hL : L ≤ 2048) (hk : 4 * k ≤ 2048) (hv : v4 = nI (4 * k)) (h : ¬ nI L - 4 < v4) : 4 * k + 4 ≤ L := by
  subst hv
  have h1 := Int32.le_iff_toInt_le.mp (Int32.not_lt.mp h)
  have e1 : (nI (4 * k)).toInt = ((4 * k : Nat) : Int) := nI_toInt (by omega)
  have e2 : (nI L).toInt = (L : Int) := nI_toInt (by omega)
  have e3 : (nI L - 4).toInt = (L : Int) - 4 := by
    rw [Int32.toInt_sub, e2]
    show ((L : Int) - 4).bmod (2 ^ 32) = _
    exact Int.bmod_eq_of_le (by omega) (by omega)
  rw [e1, e3] at h1
  omega
theorem law_nx {k : Nat} {v4 : Int32} (hv : v4 = nI (4 * k)) : v4 + 4 = nI (4 * (k + 1)) := by
  rw [hv, show 4 * (k + 1) = 4 * k + 4 by omega]
  exact nI_add (4 * k) 4
theorem lr_in : ∀ w ∈ ws_LAW_read, w ∈ GW := by
  intro w hw
  rcases List.mem_cons.mp hw with rfl | h
  · exact tw_483
  · exact h
theorem hd_LAW_read : (y_LAW_read.cls ≠ "java/lang/invoke/MethodHandle" ∧ y_LAW_read.cls ≠ "java/lang/invoke/VarHandle") ∧ ∀ sig, parseMethodDescriptor y_LAW_read.desc = some sig → 3 = sig.parameters.length := by
  refine ⟨⟨by decide +kernel, by decide +kernel⟩, fun sig h => ?_⟩
  have e : (parseMethodDescriptor y_LAW_read.desc).map (fun d => d.parameters.length) = some 3 := by decide +kernel
  rw [h] at e
  exact (Option.some.inj e).symm

abbrev w_LAW (cI : ClassId) (tS : Nat → Nat → Nat) (a_pat a_pat_bytes a_mis a_set a_set_begins a_set_ends a_tre a_tre_kinds a_tre_values a_tre_mosts a_tre_owners a_tre_sizes a_tre_firstRanges a_tre_rangeCounts a_tre_begins a_tre_ends a_tre_waiting a_grp a_grp_lengths a_grp_letters a_opn a_opn_places a_opn_numbers a_opn_flagsAround a_opn_rows a_opn_parts a_esc a_cls a_opg a_rep a_rdr a_pn a_mod a_mod_hand a_mod_text a_mod_kind a_mod_value a_mod_most a_mod_span a_mod_size a_mod_whose a_mod_rangeFrom a_mod_rangeMany a_mod_begins a_mod_ends a_mod_names a_mod_nameSize a_mod_opened a_mod_number a_mod_flagsBefore a_mod_rows a_mod_parts a_mod_low a_mod_high a_mod_many a_mod_like a_mod_sets a_mod_large a_mod_named : Nat) (pat_length : Int32) (mis_number : Int32) (mis_place : Int32) (set_pieces : Int32) (tre_nodes : Int32) (tre_ranges : Int32) (tre_waits : Int32) (grp_howMany : Int32) (opn_depth : Int32) (esc_kind : Int32) (esc_value : Int32) (esc_set : Nat) (esc_others : Bool) (esc_after : Int32) (cls_single : Int32) (opg_numbered : Bool) (opg_flagsAlone : Bool) (opg_nameAt : Int32) (opg_nameLength : Int32) (opg_flags : Int32) (opg_after : Int32) (rep_least : Int32) (rep_most : Int32) (rep_marked : Bool) (rep_after : Int32) (rep_number : Int32) (rdr_place : Int32) (rdr_flags : Int32) (rdr_repeatable : Bool) (mod_thrown : Int32) (mod_inHand : Int32) (mod_n : Int32) (mod_at : Int32) (mod_fault : Int32) (mod_place : Int32) (mod_nodes : Int32) (mod_ranges : Int32) (mod_numbered : Int32) (mod_depth : Int32) (mod_flags : Int32) (mod_repeatable : Bool) (mod_behind : Int32) (mod_notSet : Bool) (mod_least : Int32) (mod_greatest : Int32) (pat_bytes : Nat → Int32) (set_begins : Nat → Int32) (set_ends : Nat → Int32) (tre_kinds : Nat → Int32) (tre_values : Nat → Int32) (tre_mosts : Nat → Int32) (tre_owners : Nat → Int32) (tre_sizes : Nat → Int32) (tre_firstRanges : Nat → Int32) (tre_rangeCounts : Nat → Int32) (tre_begins : Nat → Int32) (tre_ends : Nat → Int32) (tre_waiting : Nat → Int32) (grp_lengths : Nat → Int32) (grp_letters : Nat → Int32) (opn_places : Nat → Int32) (opn_numbers : Nat → Int32) (opn_flagsAround : Nat → Int32) (opn_rows : Nat → Int32) (opn_parts : Nat → Int32) (mod_hand : Nat → Int32) (mod_text : Nat → Int32) (mod_kind : Nat → Int32) (mod_value : Nat → Int32) (mod_most : Nat → Int32) (mod_span : Nat → Int32) (mod_size : Nat → Int32) (mod_whose : Nat → Int32) (mod_rangeFrom : Nat → Int32) (mod_rangeMany : Nat → Int32) (mod_begins : Nat → Int32) (mod_ends : Nat → Int32) (mod_names : Nat → Int32) (mod_nameSize : Nat → Int32) (mod_opened : Nat → Int32) (mod_number : Nat → Int32) (mod_flagsBefore : Nat → Int32) (mod_rows : Nat → Int32) (mod_parts : Nat → Int32) (mod_low : Nat → Int32) (mod_high : Nat → Int32) (mod_many : Nat → Int32) (mod_like : Nat → Int32) (mod_sets : Nat → Int32) (mod_large : Nat → Int32) (mod_named : Nat → Int32) : va_W := [o_pat tS a_pat a_pat_bytes pat_length, o_mis tS a_mis mis_number mis_place, o_set tS a_set a_set_begins a_set_ends set_pieces, o_tre tS a_tre a_tre_kinds a_tre_values a_tre_mosts a_tre_owners a_tre_sizes a_tre_firstRanges a_tre_rangeCounts a_tre_begins a_tre_ends a_tre_waiting tre_nodes tre_ranges tre_waits, o_grp tS a_grp a_grp_lengths a_grp_letters grp_howMany, o_opn tS a_opn a_opn_places a_opn_numbers a_opn_flagsAround a_opn_rows a_opn_parts opn_depth, o_esc tS a_esc a_pat esc_kind esc_value esc_set esc_others esc_after, o_cls tS a_cls a_pat a_mis a_esc a_set cls_single, o_opg tS a_opg a_pat opg_numbered opg_flagsAlone opg_nameAt opg_nameLength opg_flags opg_after, o_rep tS a_rep a_pat rep_least rep_most rep_marked rep_after rep_number, o_rdr tS a_rdr a_pat a_mis a_tre a_grp a_opn a_set a_esc a_cls a_opg a_rep rdr_place rdr_flags rdr_repeatable, o_pn tS a_pn a_pat a_mis a_tre a_grp a_rdr , o_mod tS a_mod a_mod_hand a_mod_text a_mod_kind a_mod_value a_mod_most a_mod_span a_mod_size a_mod_whose a_mod_rangeFrom a_mod_rangeMany a_mod_begins a_mod_ends a_mod_names a_mod_nameSize a_mod_opened a_mod_number a_mod_flagsBefore a_mod_rows a_mod_parts a_mod_low a_mod_high a_mod_many a_mod_like a_mod_sets a_mod_large a_mod_named mod_thrown mod_inHand mod_n mod_at mod_fault mod_place mod_nodes mod_ranges mod_numbered mod_depth mod_flags mod_repeatable mod_behind mod_notSet mod_least mod_greatest, r_pat_bytes cI a_pat_bytes pat_bytes, r_set_begins cI a_set_begins set_begins, r_set_ends cI a_set_ends set_ends, r_tre_kinds cI a_tre_kinds tre_kinds, r_tre_values cI a_tre_values tre_values, r_tre_mosts cI a_tre_mosts tre_mosts, r_tre_owners cI a_tre_owners tre_owners, r_tre_sizes cI a_tre_sizes tre_sizes, r_tre_firstRanges cI a_tre_firstRanges tre_firstRanges, r_tre_rangeCounts cI a_tre_rangeCounts tre_rangeCounts, r_tre_begins cI a_tre_begins tre_begins, r_tre_ends cI a_tre_ends tre_ends, r_tre_waiting cI a_tre_waiting tre_waiting, r_grp_lengths cI a_grp_lengths grp_lengths, r_grp_letters cI a_grp_letters grp_letters, r_opn_places cI a_opn_places opn_places, r_opn_numbers cI a_opn_numbers opn_numbers, r_opn_flagsAround cI a_opn_flagsAround opn_flagsAround, r_opn_rows cI a_opn_rows opn_rows, r_opn_parts cI a_opn_parts opn_parts, r_mod_hand cI a_mod_hand mod_hand, r_mod_text cI a_mod_text mod_text, r_mod_kind cI a_mod_kind mod_kind, r_mod_value cI a_mod_value mod_value, r_mod_most cI a_mod_most mod_most, r_mod_span cI a_mod_span mod_span, r_mod_size cI a_mod_size mod_size, r_mod_whose cI a_mod_whose mod_whose, r_mod_rangeFrom cI a_mod_rangeFrom mod_rangeFrom, r_mod_rangeMany cI a_mod_rangeMany mod_rangeMany, r_mod_begins cI a_mod_begins mod_begins, r_mod_ends cI a_mod_ends mod_ends, r_mod_names cI a_mod_names mod_names, r_mod_nameSize cI a_mod_nameSize mod_nameSize, r_mod_opened cI a_mod_opened mod_opened, r_mod_number cI a_mod_number mod_number, r_mod_flagsBefore cI a_mod_flagsBefore mod_flagsBefore, r_mod_rows cI a_mod_rows mod_rows, r_mod_parts cI a_mod_parts mod_parts, r_mod_low cI a_mod_low mod_low, r_mod_high cI a_mod_high mod_high, r_mod_many cI a_mod_many mod_many, r_mod_like cI a_mod_like mod_like, r_mod_sets cI a_mod_sets mod_sets, r_mod_large cI a_mod_large mod_large, r_mod_named cI a_mod_named mod_named]
def f_LAW_B23 (mod_like : Nat → Int32) (mod_sets : Nat → Int32) (mod_large : Nat → Int32) (mod_named : Nat → Int32) (xs : Nat → Int32) (L : Nat) (K23 : (Int32 × Int32 × Int32 × Int32 × Int32 × Int32 × Int32 × Int32 × Int32 × Int32 × Int32 × Int32 × Nat × Bool × Int32 × Int32 × Bool × Bool × Int32 × Int32 × Int32 × Int32 × Int32 × Int32 × Bool × Int32 × Int32 × Int32 × Int32 × Bool × Int32 × Int32 × Int32 × Int32 × Int32 × Int32 × Int32 × Int32 × Int32 × Int32 × Int32 × Bool × Int32 × Bool × Int32 × Int32 × (Nat → Int32) × (Nat → Int32) × (Nat → Int32) × (Nat → Int32) × (Nat → Int32) × (Nat → Int32) × (Nat → Int32) × (Nat → Int32) × (Nat → Int32) × (Nat → Int32) × (Nat → Int32) × (Nat → Int32) × (Nat → Int32) × (Nat → Int32) × (Nat → Int32) × (Nat → Int32) × (Nat → Int32) × (Nat → Int32) × (Nat → Int32) × (Nat → Int32) × (Nat → Int32) × (Nat → Int32) × (Nat → Int32) × (Nat → Int32) × (Nat → Int32) × (Nat → Int32) × (Nat → Int32) × (Nat → Int32) × (Nat → Int32) × (Nat → Int32) × (Nat → Int32) × (Nat → Int32) × (Nat → Int32) × (Nat → Int32) × (Nat → Int32) × (Nat → Int32) × (Nat → Int32) × (Nat → Int32) × (Nat → Int32) × (Nat → Int32) × (Nat → Int32) × (Nat → Int32) × (Nat → Int64)) → Option Bool) (v4 : Int32) (pat_length : Int32) (mis_number : Int32) (mis_place : Int32) (set_pieces : Int32) (tre_nodes : Int32) (tre_ranges : Int32) (tre_waits : Int32) (grp_howMany : Int32) (opn_depth : Int32) (esc_kind : Int32) (esc_value : Int32) (esc_set : Nat) (esc_others : Bool) (esc_after : Int32) (cls_single : Int32) (opg_numbered : Bool) (opg_flagsAlone : Bool) (opg_nameAt : Int32) (opg_nameLength : Int32) (opg_flags : Int32) (opg_after : Int32) (rep_least : Int32) (rep_most : Int32) (rep_marked : Bool) (rep_after : Int32) (rep_number : Int32) (rdr_place : Int32) (rdr_flags : Int32) (rdr_repeatable : Bool) (mod_thrown : Int32) (mod_inHand : Int32) (mod_n : Int32) (mod_at : Int32) (mod_fault : Int32) (mod_place : Int32) (mod_nodes : Int32) (mod_ranges : Int32) (mod_numbered : Int32) (mod_depth : Int32) (mod_flags : Int32) (mod_repeatable : Bool) (mod_behind : Int32) (mod_notSet : Bool) (mod_least : Int32) (mod_greatest : Int32) (pat_bytes : Nat → Int32) (set_begins : Nat → Int32) (set_ends : Nat → Int32) (tre_kinds : Nat → Int32) (tre_values : Nat → Int32) (tre_mosts : Nat → Int32) (tre_owners : Nat → Int32) (tre_sizes : Nat → Int32) (tre_firstRanges : Nat → Int32) (tre_rangeCounts : Nat → Int32) (tre_begins : Nat → Int32) (tre_ends : Nat → Int32) (tre_waiting : Nat → Int32) (grp_lengths : Nat → Int32) (grp_letters : Nat → Int32) (opn_places : Nat → Int32) (opn_numbers : Nat → Int32) (opn_flagsAround : Nat → Int32) (opn_rows : Nat → Int32) (opn_parts : Nat → Int32) (mod_hand : Nat → Int32) (mod_text : Nat → Int32) (mod_kind : Nat → Int32) (mod_value : Nat → Int32) (mod_most : Nat → Int32) (mod_span : Nat → Int32) (mod_size : Nat → Int32) (mod_whose : Nat → Int32) (mod_rangeFrom : Nat → Int32) (mod_rangeMany : Nat → Int32) (mod_begins : Nat → Int32) (mod_ends : Nat → Int32) (mod_names : Nat → Int32) (mod_nameSize : Nat → Int32) (mod_opened : Nat → Int32) (mod_number : Nat → Int32) (mod_flagsBefore : Nat → Int32) (mod_rows : Nat → Int32) (mod_parts : Nat → Int32) (mod_low : Nat → Int32) (mod_high : Nat → Int32) (mod_many : Nat → Int32) (out : Nat → Int64) : Option Bool :=
  if ((nI L) - 4) < v4 then some true else grd (inb v4 L) (if ((xs v4.toNatClampNeg) &&& 7) = 0 then grd (inb (v4 + 1) L) (grd (inb (v4 + 2) L) (grd (inb (v4 + 3) L) (bnd_ (f_PN_put pat_length pat_bytes ((((xs (v4 + 1).toNatClampNeg).toInt64) <<< ((32 : Int32).toInt64 &&& 63)) ||| (((xs (v4 + 2).toNatClampNeg).toInt64) &&& 4294967295)) (xs (v4 + 3).toNatClampNeg)) (fun x109 => grd (inb (v4 + 1) L) (grd (inb (v4 + 2) L) (grd (inb (v4 + 3) L) (bnd_ (f_MOD_put mod_thrown mod_inHand mod_hand ((((xs (v4 + 1).toNatClampNeg).toInt64) <<< ((32 : Int32).toInt64 &&& 63)) ||| (((xs (v4 + 2).toNatClampNeg).toInt64) &&& 4294967295)) (xs (v4 + 3).toNatClampNeg)) (fun x141 => if (b2i x109.1) = (b2i x141.1) then K23 (v4 + 4, x109.2.1, mis_number, mis_place, set_pieces, tre_nodes, tre_ranges, tre_waits, grp_howMany, opn_depth, esc_kind, esc_value, esc_set, esc_others, esc_after, cls_single, opg_numbered, opg_flagsAlone, opg_nameAt, opg_nameLength, opg_flags, opg_after, rep_least, rep_most, rep_marked, rep_after, rep_number, rdr_place, rdr_flags, rdr_repeatable, x141.2.1, x141.2.2.1, mod_n, mod_at, mod_fault, mod_place, mod_nodes, mod_ranges, mod_numbered, mod_depth, mod_flags, mod_repeatable, mod_behind, mod_notSet, mod_least, mod_greatest, x109.2.2, set_begins, set_ends, tre_kinds, tre_values, tre_mosts, tre_owners, tre_sizes, tre_firstRanges, tre_rangeCounts, tre_begins, tre_ends, tre_waiting, grp_lengths, grp_letters, opn_places, opn_numbers, opn_flagsAround, opn_rows, opn_parts, x141.2.2.2, mod_text, mod_kind, mod_value, mod_most, mod_span, mod_size, mod_whose, mod_rangeFrom, mod_rangeMany, mod_begins, mod_ends, mod_names, mod_nameSize, mod_opened, mod_number, mod_flagsBefore, mod_rows, mod_parts, mod_low, mod_high, mod_many, out) else some false)))))))) else (if ((xs v4.toNatClampNeg) &&& 7) = 1 then grd (inb (v4 + 1) L) (bnd_ (f_PN_read pat_length mis_number mis_place set_pieces tre_nodes tre_ranges tre_waits grp_howMany opn_depth esc_kind esc_value esc_set esc_others esc_after cls_single opg_numbered opg_flagsAlone opg_nameAt opg_nameLength opg_flags opg_after rep_least rep_most rep_marked rep_after rep_number rdr_place rdr_flags rdr_repeatable pat_bytes set_begins set_ends tre_kinds tre_values tre_mosts tre_owners tre_sizes tre_firstRanges tre_rangeCounts tre_begins tre_ends tre_waiting grp_lengths grp_letters opn_places opn_numbers opn_flagsAround opn_rows opn_parts (xs (v4 + 1).toNatClampNeg)) (fun x157 => grd (inb (v4 + 1) L) (bnd_ (f_MOD_read mod_thrown mod_inHand mod_n mod_at mod_fault mod_place mod_nodes mod_ranges mod_numbered mod_depth mod_flags mod_repeatable mod_behind mod_notSet mod_least mod_greatest mod_hand mod_text mod_kind mod_value mod_most mod_span mod_size mod_whose mod_rangeFrom mod_rangeMany mod_begins mod_ends mod_names mod_nameSize mod_opened mod_number mod_flagsBefore mod_rows mod_parts mod_low mod_high mod_many mod_like mod_sets mod_large mod_named (xs (v4 + 1).toNatClampNeg)) (fun x169 => bnd_ (f_MOD_thrown x169.2.1) (fun x175 => if x175 = (oR x157.1) then (if (oR x157.1) = 0 then (if (lg_cmp ((oF x157.1 out) (0 : Int32).toNatClampNeg) x169.1.toInt64) = 0 then K23 (v4 + 4, x157.2.1, x157.2.2.1, x157.2.2.2.1, x157.2.2.2.2.1, x157.2.2.2.2.2.1, x157.2.2.2.2.2.2.1, x157.2.2.2.2.2.2.2.1, x157.2.2.2.2.2.2.2.2.1, x157.2.2.2.2.2.2.2.2.2.1, x157.2.2.2.2.2.2.2.2.2.2.1, x157.2.2.2.2.2.2.2.2.2.2.2.1, x157.2.2.2.2.2.2.2.2.2.2.2.2.1, x157.2.2.2.2.2.2.2.2.2.2.2.2.2.1, x157.2.2.2.2.2.2.2.2.2.2.2.2.2.2.1, x157.2.2.2.2.2.2.2.2.2.2.2.2.2.2.2.1, x157.2.2.2.2.2.2.2.2.2.2.2.2.2.2.2.2.1, x157.2.2.2.2.2.2.2.2.2.2.2.2.2.2.2.2.2.1, x157.2.2.2.2.2.2.2.2.2.2.2.2.2.2.2.2.2.2.1, x157.2.2.2.2.2.2.2.2.2.2.2.2.2.2.2.2.2.2.2.1, x157.2.2.2.2.2.2.2.2.2.2.2.2.2.2.2.2.2.2.2.2.1, x157.2.2.2.2.2.2.2.2.2.2.2.2.2.2.2.2.2.2.2.2.2.1, x157.2.2.2.2.2.2.2.2.2.2.2.2.2.2.2.2.2.2.2.2.2.2.1, x157.2.2.2.2.2.2.2.2.2.2.2.2.2.2.2.2.2.2.2.2.2.2.2.1, x157.2.2.2.2.2.2.2.2.2.2.2.2.2.2.2.2.2.2.2.2.2.2.2.2.1, x157.2.2.2.2.2.2.2.2.2.2.2.2.2.2.2.2.2.2.2.2.2.2.2.2.2.1, x157.2.2.2.2.2.2.2.2.2.2.2.2.2.2.2.2.2.2.2.2.2.2.2.2.2.2.1, x157.2.2.2.2.2.2.2.2.2.2.2.2.2.2.2.2.2.2.2.2.2.2.2.2.2.2.2.1, x157.2.2.2.2.2.2.2.2.2.2.2.2.2.2.2.2.2.2.2.2.2.2.2.2.2.2.2.2.1, x157.2.2.2.2.2.2.2.2.2.2.2.2.2.2.2.2.2.2.2.2.2.2.2.2.2.2.2.2.2.1, x169.2.1, x169.2.2.1, x169.2.2.2.1, x169.2.2.2.2.1, x169.2.2.2.2.2.1, x169.2.2.2.2.2.2.1, x169.2.2.2.2.2.2.2.1, x169.2.2.2.2.2.2.2.2.1, x169.2.2.2.2.2.2.2.2.2.1, x169.2.2.2.2.2.2.2.2.2.2.1, x169.2.2.2.2.2.2.2.2.2.2.2.1, x169.2.2.2.2.2.2.2.2.2.2.2.2.1, x169.2.2.2.2.2.2.2.2.2.2.2.2.2.1, x169.2.2.2.2.2.2.2.2.2.2.2.2.2.2.1, x169.2.2.2.2.2.2.2.2.2.2.2.2.2.2.2.1, x169.2.2.2.2.2.2.2.2.2.2.2.2.2.2.2.2.1, pat_bytes, x157.2.2.2.2.2.2.2.2.2.2.2.2.2.2.2.2.2.2.2.2.2.2.2.2.2.2.2.2.2.2.1, x157.2.2.2.2.2.2.2.2.2.2.2.2.2.2.2.2.2.2.2.2.2.2.2.2.2.2.2.2.2.2.2.1, x157.2.2.2.2.2.2.2.2.2.2.2.2.2.2.2.2.2.2.2.2.2.2.2.2.2.2.2.2.2.2.2.2.1, x157.2.2.2.2.2.2.2.2.2.2.2.2.2.2.2.2.2.2.2.2.2.2.2.2.2.2.2.2.2.2.2.2.2.1, x157.2.2.2.2.2.2.2.2.2.2.2.2.2.2.2.2.2.2.2.2.2.2.2.2.2.2.2.2.2.2.2.2.2.2.1, x157.2.2.2.2.2.2.2.2.2.2.2.2.2.2.2.2.2.2.2.2.2.2.2.2.2.2.2.2.2.2.2.2.2.2.2.1, x157.2.2.2.2.2.2.2.2.2.2.2.2.2.2.2.2.2.2.2.2.2.2.2.2.2.2.2.2.2.2.2.2.2.2.2.2.1, x157.2.2.2.2.2.2.2.2.2.2.2.2.2.2.2.2.2.2.2.2.2.2.2.2.2.2.2.2.2.2.2.2.2.2.2.2.2.1, x157.2.2.2.2.2.2.2.2.2.2.2.2.2.2.2.2.2.2.2.2.2.2.2.2.2.2.2.2.2.2.2.2.2.2.2.2.2.2.1, x157.2.2.2.2.2.2.2.2.2.2.2.2.2.2.2.2.2.2.2.2.2.2.2.2.2.2.2.2.2.2.2.2.2.2.2.2.2.2.2.1, x157.2.2.2.2.2.2.2.2.2.2.2.2.2.2.2.2.2.2.2.2.2.2.2.2.2.2.2.2.2.2.2.2.2.2.2.2.2.2.2.2.1, x157.2.2.2.2.2.2.2.2.2.2.2.2.2.2.2.2.2.2.2.2.2.2.2.2.2.2.2.2.2.2.2.2.2.2.2.2.2.2.2.2.2.1, x157.2.2.2.2.2.2.2.2.2.2.2.2.2.2.2.2.2.2.2.2.2.2.2.2.2.2.2.2.2.2.2.2.2.2.2.2.2.2.2.2.2.2.1, x157.2.2.2.2.2.2.2.2.2.2.2.2.2.2.2.2.2.2.2.2.2.2.2.2.2.2.2.2.2.2.2.2.2.2.2.2.2.2.2.2.2.2.2.1, x157.2.2.2.2.2.2.2.2.2.2.2.2.2.2.2.2.2.2.2.2.2.2.2.2.2.2.2.2.2.2.2.2.2.2.2.2.2.2.2.2.2.2.2.2.1, x157.2.2.2.2.2.2.2.2.2.2.2.2.2.2.2.2.2.2.2.2.2.2.2.2.2.2.2.2.2.2.2.2.2.2.2.2.2.2.2.2.2.2.2.2.2.1, x157.2.2.2.2.2.2.2.2.2.2.2.2.2.2.2.2.2.2.2.2.2.2.2.2.2.2.2.2.2.2.2.2.2.2.2.2.2.2.2.2.2.2.2.2.2.2.1, x157.2.2.2.2.2.2.2.2.2.2.2.2.2.2.2.2.2.2.2.2.2.2.2.2.2.2.2.2.2.2.2.2.2.2.2.2.2.2.2.2.2.2.2.2.2.2.2.1, x157.2.2.2.2.2.2.2.2.2.2.2.2.2.2.2.2.2.2.2.2.2.2.2.2.2.2.2.2.2.2.2.2.2.2.2.2.2.2.2.2.2.2.2.2.2.2.2.2, mod_hand, x169.2.2.2.2.2.2.2.2.2.2.2.2.2.2.2.2.2.1, x169.2.2.2.2.2.2.2.2.2.2.2.2.2.2.2.2.2.2.1, x169.2.2.2.2.2.2.2.2.2.2.2.2.2.2.2.2.2.2.2.1, x169.2.2.2.2.2.2.2.2.2.2.2.2.2.2.2.2.2.2.2.2.1, x169.2.2.2.2.2.2.2.2.2.2.2.2.2.2.2.2.2.2.2.2.2.1, x169.2.2.2.2.2.2.2.2.2.2.2.2.2.2.2.2.2.2.2.2.2.2.1, x169.2.2.2.2.2.2.2.2.2.2.2.2.2.2.2.2.2.2.2.2.2.2.2.1, x169.2.2.2.2.2.2.2.2.2.2.2.2.2.2.2.2.2.2.2.2.2.2.2.2.1, x169.2.2.2.2.2.2.2.2.2.2.2.2.2.2.2.2.2.2.2.2.2.2.2.2.2.1, x169.2.2.2.2.2.2.2.2.2.2.2.2.2.2.2.2.2.2.2.2.2.2.2.2.2.2.1, x169.2.2.2.2.2.2.2.2.2.2.2.2.2.2.2.2.2.2.2.2.2.2.2.2.2.2.2.1, x169.2.2.2.2.2.2.2.2.2.2.2.2.2.2.2.2.2.2.2.2.2.2.2.2.2.2.2.2.1, x169.2.2.2.2.2.2.2.2.2.2.2.2.2.2.2.2.2.2.2.2.2.2.2.2.2.2.2.2.2.1, x169.2.2.2.2.2.2.2.2.2.2.2.2.2.2.2.2.2.2.2.2.2.2.2.2.2.2.2.2.2.2.1, x169.2.2.2.2.2.2.2.2.2.2.2.2.2.2.2.2.2.2.2.2.2.2.2.2.2.2.2.2.2.2.2.1, x169.2.2.2.2.2.2.2.2.2.2.2.2.2.2.2.2.2.2.2.2.2.2.2.2.2.2.2.2.2.2.2.2.1, x169.2.2.2.2.2.2.2.2.2.2.2.2.2.2.2.2.2.2.2.2.2.2.2.2.2.2.2.2.2.2.2.2.2.1, x169.2.2.2.2.2.2.2.2.2.2.2.2.2.2.2.2.2.2.2.2.2.2.2.2.2.2.2.2.2.2.2.2.2.2.1, x169.2.2.2.2.2.2.2.2.2.2.2.2.2.2.2.2.2.2.2.2.2.2.2.2.2.2.2.2.2.2.2.2.2.2.2.1, x169.2.2.2.2.2.2.2.2.2.2.2.2.2.2.2.2.2.2.2.2.2.2.2.2.2.2.2.2.2.2.2.2.2.2.2.2.1, x169.2.2.2.2.2.2.2.2.2.2.2.2.2.2.2.2.2.2.2.2.2.2.2.2.2.2.2.2.2.2.2.2.2.2.2.2.2, oF x157.1 out) else some false) else K23 (v4 + 4, x157.2.1, x157.2.2.1, x157.2.2.2.1, x157.2.2.2.2.1, x157.2.2.2.2.2.1, x157.2.2.2.2.2.2.1, x157.2.2.2.2.2.2.2.1, x157.2.2.2.2.2.2.2.2.1, x157.2.2.2.2.2.2.2.2.2.1, x157.2.2.2.2.2.2.2.2.2.2.1, x157.2.2.2.2.2.2.2.2.2.2.2.1, x157.2.2.2.2.2.2.2.2.2.2.2.2.1, x157.2.2.2.2.2.2.2.2.2.2.2.2.2.1, x157.2.2.2.2.2.2.2.2.2.2.2.2.2.2.1, x157.2.2.2.2.2.2.2.2.2.2.2.2.2.2.2.1, x157.2.2.2.2.2.2.2.2.2.2.2.2.2.2.2.2.1, x157.2.2.2.2.2.2.2.2.2.2.2.2.2.2.2.2.2.1, x157.2.2.2.2.2.2.2.2.2.2.2.2.2.2.2.2.2.2.1, x157.2.2.2.2.2.2.2.2.2.2.2.2.2.2.2.2.2.2.2.1, x157.2.2.2.2.2.2.2.2.2.2.2.2.2.2.2.2.2.2.2.2.1, x157.2.2.2.2.2.2.2.2.2.2.2.2.2.2.2.2.2.2.2.2.2.1, x157.2.2.2.2.2.2.2.2.2.2.2.2.2.2.2.2.2.2.2.2.2.2.1, x157.2.2.2.2.2.2.2.2.2.2.2.2.2.2.2.2.2.2.2.2.2.2.2.1, x157.2.2.2.2.2.2.2.2.2.2.2.2.2.2.2.2.2.2.2.2.2.2.2.2.1, x157.2.2.2.2.2.2.2.2.2.2.2.2.2.2.2.2.2.2.2.2.2.2.2.2.2.1, x157.2.2.2.2.2.2.2.2.2.2.2.2.2.2.2.2.2.2.2.2.2.2.2.2.2.2.1, x157.2.2.2.2.2.2.2.2.2.2.2.2.2.2.2.2.2.2.2.2.2.2.2.2.2.2.2.1, x157.2.2.2.2.2.2.2.2.2.2.2.2.2.2.2.2.2.2.2.2.2.2.2.2.2.2.2.2.1, x157.2.2.2.2.2.2.2.2.2.2.2.2.2.2.2.2.2.2.2.2.2.2.2.2.2.2.2.2.2.1, x169.2.1, x169.2.2.1, x169.2.2.2.1, x169.2.2.2.2.1, x169.2.2.2.2.2.1, x169.2.2.2.2.2.2.1, x169.2.2.2.2.2.2.2.1, x169.2.2.2.2.2.2.2.2.1, x169.2.2.2.2.2.2.2.2.2.1, x169.2.2.2.2.2.2.2.2.2.2.1, x169.2.2.2.2.2.2.2.2.2.2.2.1, x169.2.2.2.2.2.2.2.2.2.2.2.2.1, x169.2.2.2.2.2.2.2.2.2.2.2.2.2.1, x169.2.2.2.2.2.2.2.2.2.2.2.2.2.2.1, x169.2.2.2.2.2.2.2.2.2.2.2.2.2.2.2.1, x169.2.2.2.2.2.2.2.2.2.2.2.2.2.2.2.2.1, pat_bytes, x157.2.2.2.2.2.2.2.2.2.2.2.2.2.2.2.2.2.2.2.2.2.2.2.2.2.2.2.2.2.2.1, x157.2.2.2.2.2.2.2.2.2.2.2.2.2.2.2.2.2.2.2.2.2.2.2.2.2.2.2.2.2.2.2.1, x157.2.2.2.2.2.2.2.2.2.2.2.2.2.2.2.2.2.2.2.2.2.2.2.2.2.2.2.2.2.2.2.2.1, x157.2.2.2.2.2.2.2.2.2.2.2.2.2.2.2.2.2.2.2.2.2.2.2.2.2.2.2.2.2.2.2.2.2.1, x157.2.2.2.2.2.2.2.2.2.2.2.2.2.2.2.2.2.2.2.2.2.2.2.2.2.2.2.2.2.2.2.2.2.2.1, x157.2.2.2.2.2.2.2.2.2.2.2.2.2.2.2.2.2.2.2.2.2.2.2.2.2.2.2.2.2.2.2.2.2.2.2.1, x157.2.2.2.2.2.2.2.2.2.2.2.2.2.2.2.2.2.2.2.2.2.2.2.2.2.2.2.2.2.2.2.2.2.2.2.2.1, x157.2.2.2.2.2.2.2.2.2.2.2.2.2.2.2.2.2.2.2.2.2.2.2.2.2.2.2.2.2.2.2.2.2.2.2.2.2.1, x157.2.2.2.2.2.2.2.2.2.2.2.2.2.2.2.2.2.2.2.2.2.2.2.2.2.2.2.2.2.2.2.2.2.2.2.2.2.2.1, x157.2.2.2.2.2.2.2.2.2.2.2.2.2.2.2.2.2.2.2.2.2.2.2.2.2.2.2.2.2.2.2.2.2.2.2.2.2.2.2.1, x157.2.2.2.2.2.2.2.2.2.2.2.2.2.2.2.2.2.2.2.2.2.2.2.2.2.2.2.2.2.2.2.2.2.2.2.2.2.2.2.2.1, x157.2.2.2.2.2.2.2.2.2.2.2.2.2.2.2.2.2.2.2.2.2.2.2.2.2.2.2.2.2.2.2.2.2.2.2.2.2.2.2.2.2.1, x157.2.2.2.2.2.2.2.2.2.2.2.2.2.2.2.2.2.2.2.2.2.2.2.2.2.2.2.2.2.2.2.2.2.2.2.2.2.2.2.2.2.2.1, x157.2.2.2.2.2.2.2.2.2.2.2.2.2.2.2.2.2.2.2.2.2.2.2.2.2.2.2.2.2.2.2.2.2.2.2.2.2.2.2.2.2.2.2.1, x157.2.2.2.2.2.2.2.2.2.2.2.2.2.2.2.2.2.2.2.2.2.2.2.2.2.2.2.2.2.2.2.2.2.2.2.2.2.2.2.2.2.2.2.2.1, x157.2.2.2.2.2.2.2.2.2.2.2.2.2.2.2.2.2.2.2.2.2.2.2.2.2.2.2.2.2.2.2.2.2.2.2.2.2.2.2.2.2.2.2.2.2.1, x157.2.2.2.2.2.2.2.2.2.2.2.2.2.2.2.2.2.2.2.2.2.2.2.2.2.2.2.2.2.2.2.2.2.2.2.2.2.2.2.2.2.2.2.2.2.2.1, x157.2.2.2.2.2.2.2.2.2.2.2.2.2.2.2.2.2.2.2.2.2.2.2.2.2.2.2.2.2.2.2.2.2.2.2.2.2.2.2.2.2.2.2.2.2.2.2.1, x157.2.2.2.2.2.2.2.2.2.2.2.2.2.2.2.2.2.2.2.2.2.2.2.2.2.2.2.2.2.2.2.2.2.2.2.2.2.2.2.2.2.2.2.2.2.2.2.2, mod_hand, x169.2.2.2.2.2.2.2.2.2.2.2.2.2.2.2.2.2.1, x169.2.2.2.2.2.2.2.2.2.2.2.2.2.2.2.2.2.2.1, x169.2.2.2.2.2.2.2.2.2.2.2.2.2.2.2.2.2.2.2.1, x169.2.2.2.2.2.2.2.2.2.2.2.2.2.2.2.2.2.2.2.2.1, x169.2.2.2.2.2.2.2.2.2.2.2.2.2.2.2.2.2.2.2.2.2.1, x169.2.2.2.2.2.2.2.2.2.2.2.2.2.2.2.2.2.2.2.2.2.2.1, x169.2.2.2.2.2.2.2.2.2.2.2.2.2.2.2.2.2.2.2.2.2.2.2.1, x169.2.2.2.2.2.2.2.2.2.2.2.2.2.2.2.2.2.2.2.2.2.2.2.2.1, x169.2.2.2.2.2.2.2.2.2.2.2.2.2.2.2.2.2.2.2.2.2.2.2.2.2.1, x169.2.2.2.2.2.2.2.2.2.2.2.2.2.2.2.2.2.2.2.2.2.2.2.2.2.2.1, x169.2.2.2.2.2.2.2.2.2.2.2.2.2.2.2.2.2.2.2.2.2.2.2.2.2.2.2.1, x169.2.2.2.2.2.2.2.2.2.2.2.2.2.2.2.2.2.2.2.2.2.2.2.2.2.2.2.2.1, x169.2.2.2.2.2.2.2.2.2.2.2.2.2.2.2.2.2.2.2.2.2.2.2.2.2.2.2.2.2.1, x169.2.2.2.2.2.2.2.2.2.2.2.2.2.2.2.2.2.2.2.2.2.2.2.2.2.2.2.2.2.2.1, x169.2.2.2.2.2.2.2.2.2.2.2.2.2.2.2.2.2.2.2.2.2.2.2.2.2.2.2.2.2.2.2.1, x169.2.2.2.2.2.2.2.2.2.2.2.2.2.2.2.2.2.2.2.2.2.2.2.2.2.2.2.2.2.2.2.2.1, x169.2.2.2.2.2.2.2.2.2.2.2.2.2.2.2.2.2.2.2.2.2.2.2.2.2.2.2.2.2.2.2.2.2.1, x169.2.2.2.2.2.2.2.2.2.2.2.2.2.2.2.2.2.2.2.2.2.2.2.2.2.2.2.2.2.2.2.2.2.2.1, x169.2.2.2.2.2.2.2.2.2.2.2.2.2.2.2.2.2.2.2.2.2.2.2.2.2.2.2.2.2.2.2.2.2.2.2.1, x169.2.2.2.2.2.2.2.2.2.2.2.2.2.2.2.2.2.2.2.2.2.2.2.2.2.2.2.2.2.2.2.2.2.2.2.2.1, x169.2.2.2.2.2.2.2.2.2.2.2.2.2.2.2.2.2.2.2.2.2.2.2.2.2.2.2.2.2.2.2.2.2.2.2.2.2, oF x157.1 out)) else some false))))) else (if ((xs v4.toNatClampNeg) &&& 7) = 2 then grd (inb (v4 + 1) L) (bnd_ (f_PN_fault mis_number mis_place (xs (v4 + 1).toNatClampNeg)) (fun x212 => grd (inb (v4 + 1) L) (bnd_ (f_MOD_fault mod_thrown mod_fault mod_place (xs (v4 + 1).toNatClampNeg)) (fun x222 => if x212 = x222.1 then K23 (v4 + 4, pat_length, mis_number, mis_place, set_pieces, tre_nodes, tre_ranges, tre_waits, grp_howMany, opn_depth, esc_kind, esc_value, esc_set, esc_others, esc_after, cls_single, opg_numbered, opg_flagsAlone, opg_nameAt, opg_nameLength, opg_flags, opg_after, rep_least, rep_most, rep_marked, rep_after, rep_number, rdr_place, rdr_flags, rdr_repeatable, x222.2, mod_inHand, mod_n, mod_at, mod_fault, mod_place, mod_nodes, mod_ranges, mod_numbered, mod_depth, mod_flags, mod_repeatable, mod_behind, mod_notSet, mod_least, mod_greatest, pat_bytes, set_begins, set_ends, tre_kinds, tre_values, tre_mosts, tre_owners, tre_sizes, tre_firstRanges, tre_rangeCounts, tre_begins, tre_ends, tre_waiting, grp_lengths, grp_letters, opn_places, opn_numbers, opn_flagsAround, opn_rows, opn_parts, mod_hand, mod_text, mod_kind, mod_value, mod_most, mod_span, mod_size, mod_whose, mod_rangeFrom, mod_rangeMany, mod_begins, mod_ends, mod_names, mod_nameSize, mod_opened, mod_number, mod_flagsBefore, mod_rows, mod_parts, mod_low, mod_high, mod_many, out) else some false)))) else (if ((xs v4.toNatClampNeg) &&& 7) = 3 then grd (inb (v4 + 1) L) (bnd_ (f_PN_count pat_length tre_nodes grp_howMany (xs (v4 + 1).toNatClampNeg)) (fun x237 => grd (inb (v4 + 1) L) (bnd_ (f_MOD_count mod_thrown mod_inHand mod_nodes mod_numbered (xs (v4 + 1).toNatClampNeg)) (fun x247 => if x237 = x247.1 then K23 (v4 + 4, pat_length, mis_number, mis_place, set_pieces, tre_nodes, tre_ranges, tre_waits, grp_howMany, opn_depth, esc_kind, esc_value, esc_set, esc_others, esc_after, cls_single, opg_numbered, opg_flagsAlone, opg_nameAt, opg_nameLength, opg_flags, opg_after, rep_least, rep_most, rep_marked, rep_after, rep_number, rdr_place, rdr_flags, rdr_repeatable, x247.2, mod_inHand, mod_n, mod_at, mod_fault, mod_place, mod_nodes, mod_ranges, mod_numbered, mod_depth, mod_flags, mod_repeatable, mod_behind, mod_notSet, mod_least, mod_greatest, pat_bytes, set_begins, set_ends, tre_kinds, tre_values, tre_mosts, tre_owners, tre_sizes, tre_firstRanges, tre_rangeCounts, tre_begins, tre_ends, tre_waiting, grp_lengths, grp_letters, opn_places, opn_numbers, opn_flagsAround, opn_rows, opn_parts, mod_hand, mod_text, mod_kind, mod_value, mod_most, mod_span, mod_size, mod_whose, mod_rangeFrom, mod_rangeMany, mod_begins, mod_ends, mod_names, mod_nameSize, mod_opened, mod_number, mod_flagsBefore, mod_rows, mod_parts, mod_low, mod_high, mod_many, out) else some false)))) else (if ((xs v4.toNatClampNeg) &&& 7) = 4 then grd (inb (v4 + 1) L) (grd (inb (v4 + 2) L) (bnd_ (f_PN_node tre_nodes tre_kinds tre_values tre_mosts tre_owners tre_sizes tre_rangeCounts (xs (v4 + 1).toNatClampNeg) (xs (v4 + 2).toNatClampNeg)) (fun x268 => grd (inb (v4 + 1) L) (grd (inb (v4 + 2) L) (bnd_ (f_MOD_node mod_thrown mod_nodes mod_kind mod_value mod_most mod_size mod_whose mod_rangeMany (xs (v4 + 1).toNatClampNeg) (xs (v4 + 2).toNatClampNeg)) (fun x284 => if x268 = x284.1 then K23 (v4 + 4, pat_length, mis_number, mis_place, set_pieces, tre_nodes, tre_ranges, tre_waits, grp_howMany, opn_depth, esc_kind, esc_value, esc_set, esc_others, esc_after, cls_single, opg_numbered, opg_flagsAlone, opg_nameAt, opg_nameLength, opg_flags, opg_after, rep_least, rep_most, rep_marked, rep_after, rep_number, rdr_place, rdr_flags, rdr_repeatable, x284.2, mod_inHand, mod_n, mod_at, mod_fault, mod_place, mod_nodes, mod_ranges, mod_numbered, mod_depth, mod_flags, mod_repeatable, mod_behind, mod_notSet, mod_least, mod_greatest, pat_bytes, set_begins, set_ends, tre_kinds, tre_values, tre_mosts, tre_owners, tre_sizes, tre_firstRanges, tre_rangeCounts, tre_begins, tre_ends, tre_waiting, grp_lengths, grp_letters, opn_places, opn_numbers, opn_flagsAround, opn_rows, opn_parts, mod_hand, mod_text, mod_kind, mod_value, mod_most, mod_span, mod_size, mod_whose, mod_rangeFrom, mod_rangeMany, mod_begins, mod_ends, mod_names, mod_nameSize, mod_opened, mod_number, mod_flagsBefore, mod_rows, mod_parts, mod_low, mod_high, mod_many, out) else some false)))))) else (if ((xs v4.toNatClampNeg) &&& 7) = 5 then grd (inb (v4 + 1) L) (grd (inb (v4 + 2) L) (grd (inb (v4 + 3) L) (bnd_ (f_PN_range tre_nodes tre_firstRanges tre_rangeCounts tre_begins tre_ends (xs (v4 + 1).toNatClampNeg) (xs (v4 + 2).toNatClampNeg) (xs (v4 + 3).toNatClampNeg)) (fun x311 => grd (inb (v4 + 1) L) (grd (inb (v4 + 2) L) (grd (inb (v4 + 3) L) (bnd_ (f_MOD_range mod_thrown mod_nodes mod_rangeFrom mod_rangeMany mod_begins mod_ends (xs (v4 + 1).toNatClampNeg) (xs (v4 + 2).toNatClampNeg) (xs (v4 + 3).toNatClampNeg)) (fun x333 => if x311 = x333.1 then K23 (v4 + 4, pat_length, mis_number, mis_place, set_pieces, tre_nodes, tre_ranges, tre_waits, grp_howMany, opn_depth, esc_kind, esc_value, esc_set, esc_others, esc_after, cls_single, opg_numbered, opg_flagsAlone, opg_nameAt, opg_nameLength, opg_flags, opg_after, rep_least, rep_most, rep_marked, rep_after, rep_number, rdr_place, rdr_flags, rdr_repeatable, x333.2, mod_inHand, mod_n, mod_at, mod_fault, mod_place, mod_nodes, mod_ranges, mod_numbered, mod_depth, mod_flags, mod_repeatable, mod_behind, mod_notSet, mod_least, mod_greatest, pat_bytes, set_begins, set_ends, tre_kinds, tre_values, tre_mosts, tre_owners, tre_sizes, tre_firstRanges, tre_rangeCounts, tre_begins, tre_ends, tre_waiting, grp_lengths, grp_letters, opn_places, opn_numbers, opn_flagsAround, opn_rows, opn_parts, mod_hand, mod_text, mod_kind, mod_value, mod_most, mod_span, mod_size, mod_whose, mod_rangeFrom, mod_rangeMany, mod_begins, mod_ends, mod_names, mod_nameSize, mod_opened, mod_number, mod_flagsBefore, mod_rows, mod_parts, mod_low, mod_high, mod_many, out) else some false)))))))) else (if ((xs v4.toNatClampNeg) &&& 7) = 6 then grd (inb (v4 + 1) L) (grd (inb (v4 + 2) L) (bnd_ (f_PN_name grp_howMany grp_lengths grp_letters (xs (v4 + 1).toNatClampNeg) (xs (v4 + 2).toNatClampNeg)) (fun x354 => grd (inb (v4 + 1) L) (grd (inb (v4 + 2) L) (bnd_ (f_MOD_name mod_thrown mod_numbered mod_names mod_nameSize (xs (v4 + 1).toNatClampNeg) (xs (v4 + 2).toNatClampNeg)) (fun x370 => if x354 = x370.1 then K23 (v4 + 4, pat_length, mis_number, mis_place, set_pieces, tre_nodes, tre_ranges, tre_waits, grp_howMany, opn_depth, esc_kind, esc_value, esc_set, esc_others, esc_after, cls_single, opg_numbered, opg_flagsAlone, opg_nameAt, opg_nameLength, opg_flags, opg_after, rep_least, rep_most, rep_marked, rep_after, rep_number, rdr_place, rdr_flags, rdr_repeatable, x370.2, mod_inHand, mod_n, mod_at, mod_fault, mod_place, mod_nodes, mod_ranges, mod_numbered, mod_depth, mod_flags, mod_repeatable, mod_behind, mod_notSet, mod_least, mod_greatest, pat_bytes, set_begins, set_ends, tre_kinds, tre_values, tre_mosts, tre_owners, tre_sizes, tre_firstRanges, tre_rangeCounts, tre_begins, tre_ends, tre_waiting, grp_lengths, grp_letters, opn_places, opn_numbers, opn_flagsAround, opn_rows, opn_parts, mod_hand, mod_text, mod_kind, mod_value, mod_most, mod_span, mod_size, mod_whose, mod_rangeFrom, mod_rangeMany, mod_begins, mod_ends, mod_names, mod_nameSize, mod_opened, mod_number, mod_flagsBefore, mod_rows, mod_parts, mod_low, mod_high, mod_many, out) else some false)))))) else K23 (v4 + 4, pat_length, mis_number, mis_place, set_pieces, tre_nodes, tre_ranges, tre_waits, grp_howMany, opn_depth, esc_kind, esc_value, esc_set, esc_others, esc_after, cls_single, opg_numbered, opg_flagsAlone, opg_nameAt, opg_nameLength, opg_flags, opg_after, rep_least, rep_most, rep_marked, rep_after, rep_number, rdr_place, rdr_flags, rdr_repeatable, mod_thrown, mod_inHand, mod_n, mod_at, mod_fault, mod_place, mod_nodes, mod_ranges, mod_numbered, mod_depth, mod_flags, mod_repeatable, mod_behind, mod_notSet, mod_least, mod_greatest, pat_bytes, set_begins, set_ends, tre_kinds, tre_values, tre_mosts, tre_owners, tre_sizes, tre_firstRanges, tre_rangeCounts, tre_begins, tre_ends, tre_waiting, grp_lengths, grp_letters, opn_places, opn_numbers, opn_flagsAround, opn_rows, opn_parts, mod_hand, mod_text, mod_kind, mod_value, mod_most, mod_span, mod_size, mod_whose, mod_rangeFrom, mod_rangeMany, mod_begins, mod_ends, mod_names, mod_nameSize, mod_opened, mod_number, mod_flagsBefore, mod_rows, mod_parts, mod_low, mod_high, mod_many, out))))))))
def f_LAW_L23 (mod_like : Nat → Int32) (mod_sets : Nat → Int32) (mod_large : Nat → Int32) (mod_named : Nat → Int32) (xs : Nat → Int32) (L : Nat) (n : Nat) (a : Int32 × Int32 × Int32 × Int32 × Int32 × Int32 × Int32 × Int32 × Int32 × Int32 × Int32 × Int32 × Nat × Bool × Int32 × Int32 × Bool × Bool × Int32 × Int32 × Int32 × Int32 × Int32 × Int32 × Bool × Int32 × Int32 × Int32 × Int32 × Bool × Int32 × Int32 × Int32 × Int32 × Int32 × Int32 × Int32 × Int32 × Int32 × Int32 × Int32 × Bool × Int32 × Bool × Int32 × Int32 × (Nat → Int32) × (Nat → Int32) × (Nat → Int32) × (Nat → Int32) × (Nat → Int32) × (Nat → Int32) × (Nat → Int32) × (Nat → Int32) × (Nat → Int32) × (Nat → Int32) × (Nat → Int32) × (Nat → Int32) × (Nat → Int32) × (Nat → Int32) × (Nat → Int32) × (Nat → Int32) × (Nat → Int32) × (Nat → Int32) × (Nat → Int32) × (Nat → Int32) × (Nat → Int32) × (Nat → Int32) × (Nat → Int32) × (Nat → Int32) × (Nat → Int32) × (Nat → Int32) × (Nat → Int32) × (Nat → Int32) × (Nat → Int32) × (Nat → Int32) × (Nat → Int32) × (Nat → Int32) × (Nat → Int32) × (Nat → Int32) × (Nat → Int32) × (Nat → Int32) × (Nat → Int32) × (Nat → Int32) × (Nat → Int32) × (Nat → Int32) × (Nat → Int32) × (Nat → Int32) × (Nat → Int64)) : Option Bool :=
  lpF (fun K23 v => f_LAW_B23 mod_like mod_sets mod_large mod_named xs L K23 v.1 v.2.1 v.2.2.1 v.2.2.2.1 v.2.2.2.2.1 v.2.2.2.2.2.1 v.2.2.2.2.2.2.1 v.2.2.2.2.2.2.2.1 v.2.2.2.2.2.2.2.2.1 v.2.2.2.2.2.2.2.2.2.1 v.2.2.2.2.2.2.2.2.2.2.1 v.2.2.2.2.2.2.2.2.2.2.2.1 v.2.2.2.2.2.2.2.2.2.2.2.2.1 v.2.2.2.2.2.2.2.2.2.2.2.2.2.1 v.2.2.2.2.2.2.2.2.2.2.2.2.2.2.1 v.2.2.2.2.2.2.2.2.2.2.2.2.2.2.2.1 v.2.2.2.2.2.2.2.2.2.2.2.2.2.2.2.2.1 v.2.2.2.2.2.2.2.2.2.2.2.2.2.2.2.2.2.1 v.2.2.2.2.2.2.2.2.2.2.2.2.2.2.2.2.2.2.1 v.2.2.2.2.2.2.2.2.2.2.2.2.2.2.2.2.2.2.2.1 v.2.2.2.2.2.2.2.2.2.2.2.2.2.2.2.2.2.2.2.2.1 v.2.2.2.2.2.2.2.2.2.2.2.2.2.2.2.2.2.2.2.2.2.1 v.2.2.2.2.2.2.2.2.2.2.2.2.2.2.2.2.2.2.2.2.2.2.1 v.2.2.2.2.2.2.2.2.2.2.2.2.2.2.2.2.2.2.2.2.2.2.2.1 v.2.2.2.2.2.2.2.2.2.2.2.2.2.2.2.2.2.2.2.2.2.2.2.2.1 v.2.2.2.2.2.2.2.2.2.2.2.2.2.2.2.2.2.2.2.2.2.2.2.2.2.1 v.2.2.2.2.2.2.2.2.2.2.2.2.2.2.2.2.2.2.2.2.2.2.2.2.2.2.1 v.2.2.2.2.2.2.2.2.2.2.2.2.2.2.2.2.2.2.2.2.2.2.2.2.2.2.2.1 v.2.2.2.2.2.2.2.2.2.2.2.2.2.2.2.2.2.2.2.2.2.2.2.2.2.2.2.2.1 v.2.2.2.2.2.2.2.2.2.2.2.2.2.2.2.2.2.2.2.2.2.2.2.2.2.2.2.2.2.1 v.2.2.2.2.2.2.2.2.2.2.2.2.2.2.2.2.2.2.2.2.2.2.2.2.2.2.2.2.2.2.1 v.2.2.2.2.2.2.2.2.2.2.2.2.2.2.2.2.2.2.2.2.2.2.2.2.2.2.2.2.2.2.2.1 v.2.2.2.2.2.2.2.2.2.2.2.2.2.2.2.2.2.2.2.2.2.2.2.2.2.2.2.2.2.2.2.2.1 v.2.2.2.2.2.2.2.2.2.2.2.2.2.2.2.2.2.2.2.2.2.2.2.2.2.2.2.2.2.2.2.2.2.1 v.2.2.2.2.2.2.2.2.2.2.2.2.2.2.2.2.2.2.2.2.2.2.2.2.2.2.2.2.2.2.2.2.2.2.1 v.2.2.2.2.2.2.2.2.2.2.2.2.2.2.2.2.2.2.2.2.2.2.2.2.2.2.2.2.2.2.2.2.2.2.2.1 v.2.2.2.2.2.2.2.2.2.2.2.2.2.2.2.2.2.2.2.2.2.2.2.2.2.2.2.2.2.2.2.2.2.2.2.2.1 v.2.2.2.2.2.2.2.2.2.2.2.2.2.2.2.2.2.2.2.2.2.2.2.2.2.2.2.2.2.2.2.2.2.2.2.2.2.1 v.2.2.2.2.2.2.2.2.2.2.2.2.2.2.2.2.2.2.2.2.2.2.2.2.2.2.2.2.2.2.2.2.2.2.2.2.2.2.1 v.2.2.2.2.2.2.2.2.2.2.2.2.2.2.2.2.2.2.2.2.2.2.2.2.2.2.2.2.2.2.2.2.2.2.2.2.2.2.2.1 v.2.2.2.2.2.2.2.2.2.2.2.2.2.2.2.2.2.2.2.2.2.2.2.2.2.2.2.2.2.2.2.2.2.2.2.2.2.2.2.2.1 v.2.2.2.2.2.2.2.2.2.2.2.2.2.2.2.2.2.2.2.2.2.2.2.2.2.2.2.2.2.2.2.2.2.2.2.2.2.2.2.2.2.1 v.2.2.2.2.2.2.2.2.2.2.2.2.2.2.2.2.2.2.2.2.2.2.2.2.2.2.2.2.2.2.2.2.2.2.2.2.2.2.2.2.2.2.1 v.2.2.2.2.2.2.2.2.2.2.2.2.2.2.2.2.2.2.2.2.2.2.2.2.2.2.2.2.2.2.2.2.2.2.2.2.2.2.2.2.2.2.2.1 v.2.2.2.2.2.2.2.2.2.2.2.2.2.2.2.2.2.2.2.2.2.2.2.2.2.2.2.2.2.2.2.2.2.2.2.2.2.2.2.2.2.2.2.2.1 v.2.2.2.2.2.2.2.2.2.2.2.2.2.2.2.2.2.2.2.2.2.2.2.2.2.2.2.2.2.2.2.2.2.2.2.2.2.2.2.2.2.2.2.2.2.1 v.2.2.2.2.2.2.2.2.2.2.2.2.2.2.2.2.2.2.2.2.2.2.2.2.2.2.2.2.2.2.2.2.2.2.2.2.2.2.2.2.2.2.2.2.2.2.1 v.2.2.2.2.2.2.2.2.2.2.2.2.2.2.2.2.2.2.2.2.2.2.2.2.2.2.2.2.2.2.2.2.2.2.2.2.2.2.2.2.2.2.2.2.2.2.2.1 v.2.2.2.2.2.2.2.2.2.2.2.2.2.2.2.2.2.2.2.2.2.2.2.2.2.2.2.2.2.2.2.2.2.2.2.2.2.2.2.2.2.2.2.2.2.2.2.2.1 v.2.2.2.2.2.2.2.2.2.2.2.2.2.2.2.2.2.2.2.2.2.2.2.2.2.2.2.2.2.2.2.2.2.2.2.2.2.2.2.2.2.2.2.2.2.2.2.2.2.1 v.2.2.2.2.2.2.2.2.2.2.2.2.2.2.2.2.2.2.2.2.2.2.2.2.2.2.2.2.2.2.2.2.2.2.2.2.2.2.2.2.2.2.2.2.2.2.2.2.2.2.1 v.2.2.2.2.2.2.2.2.2.2.2.2.2.2.2.2.2.2.2.2.2.2.2.2.2.2.2.2.2.2.2.2.2.2.2.2.2.2.2.2.2.2.2.2.2.2.2.2.2.2.2.1 v.2.2.2.2.2.2.2.2.2.2.2.2.2.2.2.2.2.2.2.2.2.2.2.2.2.2.2.2.2.2.2.2.2.2.2.2.2.2.2.2.2.2.2.2.2.2.2.2.2.2.2.2.1 v.2.2.2.2.2.2.2.2.2.2.2.2.2.2.2.2.2.2.2.2.2.2.2.2.2.2.2.2.2.2.2.2.2.2.2.2.2.2.2.2.2.2.2.2.2.2.2.2.2.2.2.2.2.1 v.2.2.2.2.2.2.2.2.2.2.2.2.2.2.2.2.2.2.2.2.2.2.2.2.2.2.2.2.2.2.2.2.2.2.2.2.2.2.2.2.2.2.2.2.2.2.2.2.2.2.2.2.2.2.1 v.2.2.2.2.2.2.2.2.2.2.2.2.2.2.2.2.2.2.2.2.2.2.2.2.2.2.2.2.2.2.2.2.2.2.2.2.2.2.2.2.2.2.2.2.2.2.2.2.2.2.2.2.2.2.2.1 v.2.2.2.2.2.2.2.2.2.2.2.2.2.2.2.2.2.2.2.2.2.2.2.2.2.2.2.2.2.2.2.2.2.2.2.2.2.2.2.2.2.2.2.2.2.2.2.2.2.2.2.2.2.2.2.2.1 v.2.2.2.2.2.2.2.2.2.2.2.2.2.2.2.2.2.2.2.2.2.2.2.2.2.2.2.2.2.2.2.2.2.2.2.2.2.2.2.2.2.2.2.2.2.2.2.2.2.2.2.2.2.2.2.2.2.1 v.2.2.2.2.2.2.2.2.2.2.2.2.2.2.2.2.2.2.2.2.2.2.2.2.2.2.2.2.2.2.2.2.2.2.2.2.2.2.2.2.2.2.2.2.2.2.2.2.2.2.2.2.2.2.2.2.2.2.1 v.2.2.2.2.2.2.2.2.2.2.2.2.2.2.2.2.2.2.2.2.2.2.2.2.2.2.2.2.2.2.2.2.2.2.2.2.2.2.2.2.2.2.2.2.2.2.2.2.2.2.2.2.2.2.2.2.2.2.2.1 v.2.2.2.2.2.2.2.2.2.2.2.2.2.2.2.2.2.2.2.2.2.2.2.2.2.2.2.2.2.2.2.2.2.2.2.2.2.2.2.2.2.2.2.2.2.2.2.2.2.2.2.2.2.2.2.2.2.2.2.2.1 v.2.2.2.2.2.2.2.2.2.2.2.2.2.2.2.2.2.2.2.2.2.2.2.2.2.2.2.2.2.2.2.2.2.2.2.2.2.2.2.2.2.2.2.2.2.2.2.2.2.2.2.2.2.2.2.2.2.2.2.2.2.1 v.2.2.2.2.2.2.2.2.2.2.2.2.2.2.2.2.2.2.2.2.2.2.2.2.2.2.2.2.2.2.2.2.2.2.2.2.2.2.2.2.2.2.2.2.2.2.2.2.2.2.2.2.2.2.2.2.2.2.2.2.2.2.1 v.2.2.2.2.2.2.2.2.2.2.2.2.2.2.2.2.2.2.2.2.2.2.2.2.2.2.2.2.2.2.2.2.2.2.2.2.2.2.2.2.2.2.2.2.2.2.2.2.2.2.2.2.2.2.2.2.2.2.2.2.2.2.2.1 v.2.2.2.2.2.2.2.2.2.2.2.2.2.2.2.2.2.2.2.2.2.2.2.2.2.2.2.2.2.2.2.2.2.2.2.2.2.2.2.2.2.2.2.2.2.2.2.2.2.2.2.2.2.2.2.2.2.2.2.2.2.2.2.2.1 v.2.2.2.2.2.2.2.2.2.2.2.2.2.2.2.2.2.2.2.2.2.2.2.2.2.2.2.2.2.2.2.2.2.2.2.2.2.2.2.2.2.2.2.2.2.2.2.2.2.2.2.2.2.2.2.2.2.2.2.2.2.2.2.2.2.1 v.2.2.2.2.2.2.2.2.2.2.2.2.2.2.2.2.2.2.2.2.2.2.2.2.2.2.2.2.2.2.2.2.2.2.2.2.2.2.2.2.2.2.2.2.2.2.2.2.2.2.2.2.2.2.2.2.2.2.2.2.2.2.2.2.2.2.1 v.2.2.2.2.2.2.2.2.2.2.2.2.2.2.2.2.2.2.2.2.2.2.2.2.2.2.2.2.2.2.2.2.2.2.2.2.2.2.2.2.2.2.2.2.2.2.2.2.2.2.2.2.2.2.2.2.2.2.2.2.2.2.2.2.2.2.2.1 v.2.2.2.2.2.2.2.2.2.2.2.2.2.2.2.2.2.2.2.2.2.2.2.2.2.2.2.2.2.2.2.2.2.2.2.2.2.2.2.2.2.2.2.2.2.2.2.2.2.2.2.2.2.2.2.2.2.2.2.2.2.2.2.2.2.2.2.2.1 v.2.2.2.2.2.2.2.2.2.2.2.2.2.2.2.2.2.2.2.2.2.2.2.2.2.2.2.2.2.2.2.2.2.2.2.2.2.2.2.2.2.2.2.2.2.2.2.2.2.2.2.2.2.2.2.2.2.2.2.2.2.2.2.2.2.2.2.2.2.1 v.2.2.2.2.2.2.2.2.2.2.2.2.2.2.2.2.2.2.2.2.2.2.2.2.2.2.2.2.2.2.2.2.2.2.2.2.2.2.2.2.2.2.2.2.2.2.2.2.2.2.2.2.2.2.2.2.2.2.2.2.2.2.2.2.2.2.2.2.2.2.1 v.2.2.2.2.2.2.2.2.2.2.2.2.2.2.2.2.2.2.2.2.2.2.2.2.2.2.2.2.2.2.2.2.2.2.2.2.2.2.2.2.2.2.2.2.2.2.2.2.2.2.2.2.2.2.2.2.2.2.2.2.2.2.2.2.2.2.2.2.2.2.2.1 v.2.2.2.2.2.2.2.2.2.2.2.2.2.2.2.2.2.2.2.2.2.2.2.2.2.2.2.2.2.2.2.2.2.2.2.2.2.2.2.2.2.2.2.2.2.2.2.2.2.2.2.2.2.2.2.2.2.2.2.2.2.2.2.2.2.2.2.2.2.2.2.2.1 v.2.2.2.2.2.2.2.2.2.2.2.2.2.2.2.2.2.2.2.2.2.2.2.2.2.2.2.2.2.2.2.2.2.2.2.2.2.2.2.2.2.2.2.2.2.2.2.2.2.2.2.2.2.2.2.2.2.2.2.2.2.2.2.2.2.2.2.2.2.2.2.2.2.1 v.2.2.2.2.2.2.2.2.2.2.2.2.2.2.2.2.2.2.2.2.2.2.2.2.2.2.2.2.2.2.2.2.2.2.2.2.2.2.2.2.2.2.2.2.2.2.2.2.2.2.2.2.2.2.2.2.2.2.2.2.2.2.2.2.2.2.2.2.2.2.2.2.2.2.1 v.2.2.2.2.2.2.2.2.2.2.2.2.2.2.2.2.2.2.2.2.2.2.2.2.2.2.2.2.2.2.2.2.2.2.2.2.2.2.2.2.2.2.2.2.2.2.2.2.2.2.2.2.2.2.2.2.2.2.2.2.2.2.2.2.2.2.2.2.2.2.2.2.2.2.2.1 v.2.2.2.2.2.2.2.2.2.2.2.2.2.2.2.2.2.2.2.2.2.2.2.2.2.2.2.2.2.2.2.2.2.2.2.2.2.2.2.2.2.2.2.2.2.2.2.2.2.2.2.2.2.2.2.2.2.2.2.2.2.2.2.2.2.2.2.2.2.2.2.2.2.2.2.2.1 v.2.2.2.2.2.2.2.2.2.2.2.2.2.2.2.2.2.2.2.2.2.2.2.2.2.2.2.2.2.2.2.2.2.2.2.2.2.2.2.2.2.2.2.2.2.2.2.2.2.2.2.2.2.2.2.2.2.2.2.2.2.2.2.2.2.2.2.2.2.2.2.2.2.2.2.2.2.1 v.2.2.2.2.2.2.2.2.2.2.2.2.2.2.2.2.2.2.2.2.2.2.2.2.2.2.2.2.2.2.2.2.2.2.2.2.2.2.2.2.2.2.2.2.2.2.2.2.2.2.2.2.2.2.2.2.2.2.2.2.2.2.2.2.2.2.2.2.2.2.2.2.2.2.2.2.2.2.1 v.2.2.2.2.2.2.2.2.2.2.2.2.2.2.2.2.2.2.2.2.2.2.2.2.2.2.2.2.2.2.2.2.2.2.2.2.2.2.2.2.2.2.2.2.2.2.2.2.2.2.2.2.2.2.2.2.2.2.2.2.2.2.2.2.2.2.2.2.2.2.2.2.2.2.2.2.2.2.2.1 v.2.2.2.2.2.2.2.2.2.2.2.2.2.2.2.2.2.2.2.2.2.2.2.2.2.2.2.2.2.2.2.2.2.2.2.2.2.2.2.2.2.2.2.2.2.2.2.2.2.2.2.2.2.2.2.2.2.2.2.2.2.2.2.2.2.2.2.2.2.2.2.2.2.2.2.2.2.2.2.2.1 v.2.2.2.2.2.2.2.2.2.2.2.2.2.2.2.2.2.2.2.2.2.2.2.2.2.2.2.2.2.2.2.2.2.2.2.2.2.2.2.2.2.2.2.2.2.2.2.2.2.2.2.2.2.2.2.2.2.2.2.2.2.2.2.2.2.2.2.2.2.2.2.2.2.2.2.2.2.2.2.2.2.1 v.2.2.2.2.2.2.2.2.2.2.2.2.2.2.2.2.2.2.2.2.2.2.2.2.2.2.2.2.2.2.2.2.2.2.2.2.2.2.2.2.2.2.2.2.2.2.2.2.2.2.2.2.2.2.2.2.2.2.2.2.2.2.2.2.2.2.2.2.2.2.2.2.2.2.2.2.2.2.2.2.2.2.1 v.2.2.2.2.2.2.2.2.2.2.2.2.2.2.2.2.2.2.2.2.2.2.2.2.2.2.2.2.2.2.2.2.2.2.2.2.2.2.2.2.2.2.2.2.2.2.2.2.2.2.2.2.2.2.2.2.2.2.2.2.2.2.2.2.2.2.2.2.2.2.2.2.2.2.2.2.2.2.2.2.2.2.2.1 v.2.2.2.2.2.2.2.2.2.2.2.2.2.2.2.2.2.2.2.2.2.2.2.2.2.2.2.2.2.2.2.2.2.2.2.2.2.2.2.2.2.2.2.2.2.2.2.2.2.2.2.2.2.2.2.2.2.2.2.2.2.2.2.2.2.2.2.2.2.2.2.2.2.2.2.2.2.2.2.2.2.2.2.2.1 v.2.2.2.2.2.2.2.2.2.2.2.2.2.2.2.2.2.2.2.2.2.2.2.2.2.2.2.2.2.2.2.2.2.2.2.2.2.2.2.2.2.2.2.2.2.2.2.2.2.2.2.2.2.2.2.2.2.2.2.2.2.2.2.2.2.2.2.2.2.2.2.2.2.2.2.2.2.2.2.2.2.2.2.2.2.1 v.2.2.2.2.2.2.2.2.2.2.2.2.2.2.2.2.2.2.2.2.2.2.2.2.2.2.2.2.2.2.2.2.2.2.2.2.2.2.2.2.2.2.2.2.2.2.2.2.2.2.2.2.2.2.2.2.2.2.2.2.2.2.2.2.2.2.2.2.2.2.2.2.2.2.2.2.2.2.2.2.2.2.2.2.2.2.1 v.2.2.2.2.2.2.2.2.2.2.2.2.2.2.2.2.2.2.2.2.2.2.2.2.2.2.2.2.2.2.2.2.2.2.2.2.2.2.2.2.2.2.2.2.2.2.2.2.2.2.2.2.2.2.2.2.2.2.2.2.2.2.2.2.2.2.2.2.2.2.2.2.2.2.2.2.2.2.2.2.2.2.2.2.2.2.2.1 v.2.2.2.2.2.2.2.2.2.2.2.2.2.2.2.2.2.2.2.2.2.2.2.2.2.2.2.2.2.2.2.2.2.2.2.2.2.2.2.2.2.2.2.2.2.2.2.2.2.2.2.2.2.2.2.2.2.2.2.2.2.2.2.2.2.2.2.2.2.2.2.2.2.2.2.2.2.2.2.2.2.2.2.2.2.2.2.2) n a
theorem f_LAW_L23_s (mod_like : Nat → Int32) (mod_sets : Nat → Int32) (mod_large : Nat → Int32) (mod_named : Nat → Int32) (xs : Nat → Int32) (L : Nat) (n : Nat) (v4 : Int32) (pat_length : Int32) (mis_number : Int32) (mis_place : Int32) (set_pieces : Int32) (tre_nodes : Int32) (tre_ranges : Int32) (tre_waits : Int32) (grp_howMany : Int32) (opn_depth : Int32) (esc_kind : Int32) (esc_value : Int32) (esc_set : Nat) (esc_others : Bool) (esc_after : Int32) (cls_single : Int32) (opg_numbered : Bool) (opg_flagsAlone : Bool) (opg_nameAt : Int32) (opg_nameLength : Int32) (opg_flags : Int32) (opg_after : Int32) (rep_least : Int32) (rep_most : Int32) (rep_marked : Bool) (rep_after : Int32) (rep_number : Int32) (rdr_place : Int32) (rdr_flags : Int32) (rdr_repeatable : Bool) (mod_thrown : Int32) (mod_inHand : Int32) (mod_n : Int32) (mod_at : Int32) (mod_fault : Int32) (mod_place : Int32) (mod_nodes : Int32) (mod_ranges : Int32) (mod_numbered : Int32) (mod_depth : Int32) (mod_flags : Int32) (mod_repeatable : Bool) (mod_behind : Int32) (mod_notSet : Bool) (mod_least : Int32) (mod_greatest : Int32) (pat_bytes : Nat → Int32) (set_begins : Nat → Int32) (set_ends : Nat → Int32) (tre_kinds : Nat → Int32) (tre_values : Nat → Int32) (tre_mosts : Nat → Int32) (tre_owners : Nat → Int32) (tre_sizes : Nat → Int32) (tre_firstRanges : Nat → Int32) (tre_rangeCounts : Nat → Int32) (tre_begins : Nat → Int32) (tre_ends : Nat → Int32) (tre_waiting : Nat → Int32) (grp_lengths : Nat → Int32) (grp_letters : Nat → Int32) (opn_places : Nat → Int32) (opn_numbers : Nat → Int32) (opn_flagsAround : Nat → Int32) (opn_rows : Nat → Int32) (opn_parts : Nat → Int32) (mod_hand : Nat → Int32) (mod_text : Nat → Int32) (mod_kind : Nat → Int32) (mod_value : Nat → Int32) (mod_most : Nat → Int32) (mod_span : Nat → Int32) (mod_size : Nat → Int32) (mod_whose : Nat → Int32) (mod_rangeFrom : Nat → Int32) (mod_rangeMany : Nat → Int32) (mod_begins : Nat → Int32) (mod_ends : Nat → Int32) (mod_names : Nat → Int32) (mod_nameSize : Nat → Int32) (mod_opened : Nat → Int32) (mod_number : Nat → Int32) (mod_flagsBefore : Nat → Int32) (mod_rows : Nat → Int32) (mod_parts : Nat → Int32) (mod_low : Nat → Int32) (mod_high : Nat → Int32) (mod_many : Nat → Int32) (out : Nat → Int64) : f_LAW_L23 mod_like mod_sets mod_large mod_named xs L (n + 1) (v4, pat_length, mis_number, mis_place, set_pieces, tre_nodes, tre_ranges, tre_waits, grp_howMany, opn_depth, esc_kind, esc_value, esc_set, esc_others, esc_after, cls_single, opg_numbered, opg_flagsAlone, opg_nameAt, opg_nameLength, opg_flags, opg_after, rep_least, rep_most, rep_marked, rep_after, rep_number, rdr_place, rdr_flags, rdr_repeatable, mod_thrown, mod_inHand, mod_n, mod_at, mod_fault, mod_place, mod_nodes, mod_ranges, mod_numbered, mod_depth, mod_flags, mod_repeatable, mod_behind, mod_notSet, mod_least, mod_greatest, pat_bytes, set_begins, set_ends, tre_kinds, tre_values, tre_mosts, tre_owners, tre_sizes, tre_firstRanges, tre_rangeCounts, tre_begins, tre_ends, tre_waiting, grp_lengths, grp_letters, opn_places, opn_numbers, opn_flagsAround, opn_rows, opn_parts, mod_hand, mod_text, mod_kind, mod_value, mod_most, mod_span, mod_size, mod_whose, mod_rangeFrom, mod_rangeMany, mod_begins, mod_ends, mod_names, mod_nameSize, mod_opened, mod_number, mod_flagsBefore, mod_rows, mod_parts, mod_low, mod_high, mod_many, out) = f_LAW_B23 mod_like mod_sets mod_large mod_named xs L (f_LAW_L23 mod_like mod_sets mod_large mod_named xs L n) v4 pat_length mis_number mis_place set_pieces tre_nodes tre_ranges tre_waits grp_howMany opn_depth esc_kind esc_value esc_set esc_others esc_after cls_single opg_numbered opg_flagsAlone opg_nameAt opg_nameLength opg_flags opg_after rep_least rep_most rep_marked rep_after rep_number rdr_place rdr_flags rdr_repeatable mod_thrown mod_inHand mod_n mod_at mod_fault mod_place mod_nodes mod_ranges mod_numbered mod_depth mod_flags mod_repeatable mod_behind mod_notSet mod_least mod_greatest pat_bytes set_begins set_ends tre_kinds tre_values tre_mosts tre_owners tre_sizes tre_firstRanges tre_rangeCounts tre_begins tre_ends tre_waiting grp_lengths grp_letters opn_places opn_numbers opn_flagsAround opn_rows opn_parts mod_hand mod_text mod_kind mod_value mod_most mod_span mod_size mod_whose mod_rangeFrom mod_rangeMany mod_begins mod_ends mod_names mod_nameSize mod_opened mod_number mod_flagsBefore mod_rows mod_parts mod_low mod_high mod_many out := rfl

