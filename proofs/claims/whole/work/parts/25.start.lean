theorem law_K {s : State} {args : Array Value} (hts : ∀ w ∈ GW, w.before args s = true) : ∃ (dC : Nat → ClassId) (dI : Nat → Nat → Nat), ∀ (k : Nat) (q : vw_C), classes[k]? = some q → u_Kn s q.1 q.2.1 q.2.2 (dC k) (dI k) := by
  obtain ⟨c0, i0, h0⟩ := u_known (C := R_PAT) (T := F_PAT) (N := N_PAT) (n := 2) hts i_PAT (hts _ tw_111)
  obtain ⟨c1, i1, h1⟩ := u_known (C := R_MIS) (T := F_MIS) (N := N_MIS) (n := 2) hts i_MIS (hts _ tw_128)
  obtain ⟨c2, i2, h2⟩ := u_known (C := R_SET) (T := F_SET) (N := N_SET) (n := 3) hts i_SET (hts _ tw_245)
  obtain ⟨c3, i3, h3⟩ := u_known (C := R_TRE) (T := F_TRE) (N := N_TRE) (n := 13) hts i_TRE (hts _ tw_144)
  obtain ⟨c4, i4, h4⟩ := u_known (C := R_GRP) (T := F_GRP) (N := N_GRP) (n := 3) hts i_GRP (hts _ tw_191)
  obtain ⟨c5, i5, h5⟩ := u_known (C := R_OPN) (T := F_OPN) (N := N_OPN) (n := 6) hts i_OPN (hts _ tw_214)
  obtain ⟨c6, i6, h6⟩ := u_known (C := R_ESC) (T := F_ESC) (N := N_ESC) (n := 6) hts i_ESC (hts _ tw_264)
  obtain ⟨c7, i7, h7⟩ := u_known (C := R_CLS) (T := F_CLS) (N := N_CLS) (n := 5) hts i_CLS (hts _ tw_301)
  obtain ⟨c8, i8, h8⟩ := u_known (C := R_OPG) (T := F_OPG) (N := N_OPG) (n := 7) hts i_OPG (hts _ tw_323)
  obtain ⟨c9, i9, h9⟩ := u_known (C := R_REP) (T := F_REP) (N := N_REP) (n := 6) hts i_REP (hts _ tw_357)
  obtain ⟨c10, i10, h10⟩ := u_known (C := R_RDR) (T := F_RDR) (N := N_RDR) (n := 13) hts i_RDR (hts _ tw_208)
  obtain ⟨c11, i11, h11⟩ := u_known (C := R_PN) (T := F_PN) (N := N_PN) (n := 5) hts i_PN (hts _ tw_103)
  obtain ⟨c12, i12, h12⟩ := u_known (C := R_MOD) (T := F_MOD) (N := N_MOD) (n := 42) hts i_MOD (hts _ tw_988)
  refine ⟨fun k => match k with
    | 0 => c0
    | 1 => c1
    | 2 => c2
    | 3 => c3
    | 4 => c4
    | 5 => c5
    | 6 => c6
    | 7 => c7
    | 8 => c8
    | 9 => c9
    | 10 => c10
    | 11 => c11
    | _ => c12, fun k => match k with
    | 0 => i0
    | 1 => i1
    | 2 => i2
    | 3 => i3
    | 4 => i4
    | 5 => i5
    | 6 => i6
    | 7 => i7
    | 8 => i8
    | 9 => i9
    | 10 => i10
    | 11 => i11
    | _ => i12, fun k q hq => ?_⟩
  match k, hq with
  | 0, hq => cases hq; exact h0
  | 1, hq => cases hq; exact h1
  | 2, hq => cases hq; exact h2
  | 3, hq => cases hq; exact h3
  | 4, hq => cases hq; exact h4
  | 5, hq => cases hq; exact h5
  | 6, hq => cases hq; exact h6
  | 7, hq => cases hq; exact h7
  | 8, hq => cases hq; exact h8
  | 9, hq => cases hq; exact h9
  | 10, hq => cases hq; exact h10
  | 11, hq => cases hq; exact h11
  | 12, hq => cases hq; exact h12
  | k + 13, hq => simp [classes] at hq
theorem arrK {args : Array Value} {s : State} {ty : FieldType} (h : (Cond.arrayClass ty).before args s = true) : ∃ cA : ClassId, ArrOfT s cA ty ∧ s.vm.findClass ("[" ++ ty.toString) = some cA := by
  obtain ⟨c, k, comp, h1, h2, h3⟩ := Cond.arrayClass_spec h
  exact ⟨c, fun n z => ⟨fun k h => (by cases h), k, h2, comp, h3⟩, h1⟩
theorem zS_of {args : Array Value} {s : State} {C n d : String} {A : Nat → Prop} (hl : (Cond.laysStatic C n d).before args s = true) (h : (Cond.isRef (.static C n d)).before args s = true) (hA : ∀ a : Nat, a < s.heap.size → ¬ A a) : zS C n d A s s.heap := by
  obtain ⟨c, k, i, f, a, cell, hc, hi, hst, ha, hcell, hs, hcls, hlt, hty⟩ := Cond.laysStatic_spec hl
  cases hv : (Term.static C n d).eval args s none [] s with
  | none => simp [Cond.before, Cond.holds, Cond.value, hv] at h
  | some w =>
    obtain ⟨hst', a', cell', ha', hcell', -, hslot⟩ := Term.static_spec hi hv
    cases ha.symm.trans ha'
    cases hcell.symm.trans hcell'
    refine ⟨c, k, i, f, a, cell, hc, hi, hst, ha, hty, hcell, hs, hcls, hlt, ?_, hA a (Array.getElem?_eq_some_iff.mp hcell).1⟩
    simp only [Cond.before, Cond.holds, Cond.value, hv] at h
    cases w with
    | null => exact Or.inl hslot
    | ref t => exact Or.inr ⟨t, hslot⟩
    | _ => simp at h
abbrev nrL : List Cond := flatC (Jvm.Cond.and given_1 narrow_1)
set_option maxRecDepth 100000 in
theorem nr_el : ∀ k, k < 16 → ∀ j, j < stN k → Cond.eq (.elem (.static "PatternNodes" (stNm k) "[I") (.int (Int32.ofNat j))) (.int (stF k j)) ∈ nrL := by decide +kernel
set_option maxRecDepth 100000 in
theorem nr_ar : ∀ k, k < 16 → Cond.arrayOf (.static "PatternNodes" (stNm k) "[I") .int ∈ nrL ∧ Cond.eq (.length (.static "PatternNodes" (stNm k) "[I")) (.int (Int32.ofNat (stN k))) ∈ nrL ∧ stN k < 2 ^ 31 := by decide +kernel
set_option maxRecDepth 100000 in
theorem nr_ls : ∀ k, k < 16 → Cond.laysStatic "PatternNodes" (stNm k) "[I" ∈ lw_tbl := by decide +kernel
def stT (i : Nat) : Term := .string (strC.getD i ("", 0, "")).1 (strC.getD i ("", 0, "")).2.1
def smT (i : Nat) : Term := .string (strM.getD i ("", 0, "")).1 (strM.getD i ("", 0, "")).2.1
set_option maxRecDepth 100000 in
theorem nr_st : ∀ i, i < 6 → Cond.exactly (stT i) "java/lang/String" ∈ nrL ∧ Cond.eq (.field (stT i) "java/lang/String" "coder" "B") (.int 0) ∈ nrL ∧ Cond.arrayOf (.field (stT i) "java/lang/String" "value" "[B") .byte ∈ nrL ∧ Cond.eq (.length (.field (stT i) "java/lang/String" "value" "[B")) (.int (Int32.ofNat (sxN i))) ∈ nrL ∧ (∀ j, j < sxN i → Cond.eq (.elem (.field (stT i) "java/lang/String" "value" "[B") (.int (Int32.ofNat j))) (.int (sxF i j)) ∈ nrL) ∧ sxN i < 2 ^ 31 := by decide +kernel
set_option maxRecDepth 100000 in
theorem nr_sr : ∀ i, i < 6 → Cond.stringRef (strC.getD i ("", 0, "")).1 (strC.getD i ("", 0, "")).2.1 (strC.getD i ("", 0, "")).2.2 ∈ lw_tbl := by decide +kernel
set_option maxRecDepth 100000 in
theorem nr_sm : ∀ i, i < 2 → Cond.exactly (smT i) "java/lang/String" ∈ nrL ∧ Cond.stringRef (strM.getD i ("", 0, "")).1 (strM.getD i ("", 0, "")).2.1 (strM.getD i ("", 0, "")).2.2 ∈ lw_tbl := by decide +kernel
set_option maxRecDepth 100000 in
theorem nr_ot : Cond.eq (.static "java/lang/String" "COMPACT_STRINGS" "Z") (.int 1) ∈ nrL ∧ Cond.isRef (.static "jdk/internal/util/Preconditions" "SIOOBE_FORMATTER" "Ljava/util/function/BiFunction;") ∈ nrL ∧ Cond.isRef (.static "java/lang/Throwable" "UNASSIGNED_STACK" "[Ljava/lang/StackTraceElement;") ∈ nrL ∧ Cond.isRef (.static "java/lang/Throwable" "SUPPRESSED_SENTINEL" "Ljava/util/List;") ∈ nrL := by decide +kernel
set_option maxRecDepth 100000 in
theorem nr_lo : Cond.laysStatic "java/lang/String" "COMPACT_STRINGS" "Z" ∈ lw_tbl ∧ Cond.laysStatic "jdk/internal/util/Preconditions" "SIOOBE_FORMATTER" "Ljava/util/function/BiFunction;" ∈ lw_tbl ∧ Cond.laysStatic "java/lang/Throwable" "UNASSIGNED_STACK" "[Ljava/lang/StackTraceElement;" ∈ lw_tbl ∧ Cond.laysStatic "java/lang/Throwable" "SUPPRESSED_SENTINEL" "Ljava/util/List;" ∈ lw_tbl ∧ Cond.initialized "java/lang/String" ∈ lw_tbl ∧ Cond.initialized "jdk/internal/util/Preconditions" ∈ lw_tbl ∧ Cond.initialized "PatternNodes" ∈ lw_tbl := by decide +kernel
theorem strC_six {i : Nat} {q : String × Nat × String} (h : strC[i]? = some q) : i < 6 ∧ strC.getD i ("", 0, "") = q := by
  have hi : i < 6 := (List.getElem?_eq_some_iff.mp h).1
  refine ⟨hi, ?_⟩
  rw [List.getD_eq_getElem?_getD, h]; rfl
theorem strM_two {i : Nat} {q : String × Nat × String} (h : strM[i]? = some q) : i < 2 ∧ strM.getD i ("", 0, "") = q := by
  have hi : i < 2 := (List.getElem?_eq_some_iff.mp h).1
  refine ⟨hi, ?_⟩
  rw [List.getD_eq_getElem?_getD, h]; rfl
theorem stN_far {k : Nat} (h : 16 ≤ k) : stN k = 0 := by
  have : stL.getD k [] = [] := by
    rw [List.getD_eq_getElem?_getD, List.getElem?_eq_none (show stL.length ≤ k from h)]; rfl
  unfold stN; rw [this]; rfl
theorem sxi_lt (i : Nat) : sxi i < 6 := by unfold sxi; split <;> omega
theorem sxi_id {i : Nat} (h : i < 6) : sxi i = i := by unfold sxi; rw [if_pos h]
theorem sx_i (i : Nat) : sxN (sxi i) = sxN i ∧ ∀ j, sxF (sxi i) j = sxF i j := by
  have e : sxi (sxi i) = sxi i := sxi_id (sxi_lt i)
  refine ⟨?_, fun j => ?_⟩
  · unfold sxN; rw [e]
  · unfold sxF; rw [e]
/-- what the Statement says of the start gives what the contracts want of it -/
theorem st_start {s : State} {b : Nat} (hgv : (Jvm.Cond.and given_1 narrow_1).before #[Value.ref b] s = true) (hts : ∀ w ∈ lw_tbl, w.before #[Value.ref b] s = true) {A : Nat → Prop} (hA : ∀ a : Nat, a < s.heap.size → ¬ A a) : ∃ tS : Nat → Nat → Nat, st_ok tS A s := by
  have hs : ∀ c ∈ nrL, c.before #[Value.ref b] s = true := flat_of_before _ hgv
  -- the arrays
  have h0 : ∀ k : Nat, ∃ t : Nat, k < 16 → (Term.static "PatternNodes" (stNm k) "[I").eval #[Value.ref b] s none [] s = some (.ref t) ∧ va_T .int t (stN k) (fun j => .int (stF k j)) A s s.heap := by
    intro k
    by_cases hk : k < 16
    · obtain ⟨a1, a2, a3⟩ := nr_ar k hk
      obtain ⟨t, t1, t2⟩ := va_Tof (f := fun j => .int (stF k j)) (A := A) a3 (hs _ a1) (va_eqt (hs _ a2)) (fun j hj => va_eqt (hs _ (nr_el k hk j hj))) hA
      exact ⟨t, fun _ => ⟨t1, t2⟩⟩
    · exact ⟨0, fun h => absurd h hk⟩
  obtain ⟨t0, ht0⟩ := Classical.axiomOfChoice h0
  -- the Strings
  have h1 : ∀ i : Nat, ∃ q : Nat × Nat, i < 6 → (stT i).eval #[Value.ref b] s none [] s = some (.ref q.1) ∧ va_O "java/lang/String" q.1 A s s.heap ∧ va_OF "java/lang/String" "coder" "B" (.int 0) q.1 A s s.heap ∧ va_OF "java/lang/String" "value" "[B" (.ref q.2) q.1 A s s.heap ∧ va_T .byte q.2 (sxN i) (fun j => .int (sxF i j)) A s s.heap := by
    intro i
    by_cases hi : i < 6
    · obtain ⟨a1, a2, a3, a4, a5, a6⟩ := nr_st i hi
      obtain ⟨a, c, cA, kA, q1, q2, q3, q4, q5, q6, -⟩ := Cond.exactly_spec (args := #[Value.ref b]) (first := s) (o := none) (s := s) (idx := []) (t := stT i) (cls := "java/lang/String") (hs _ a1)
      obtain ⟨t, ht, hT⟩ := va_Tof (f := fun j => .int (sxF i j)) (A := A) a6 (hs _ a3) (va_eqt (hs _ a4)) (fun j hj => va_eqt (hs _ (a5 j hj))) hA
      exact ⟨(a, t), fun _ => ⟨q1, ⟨cA, q3, q5, by rw [q6]; exact q2, hA a (Array.getElem?_eq_some_iff.mp q3).1⟩, vk_OFof q1 (va_eqt (hs _ a2)) hA, vk_OFof q1 ht hA, hT⟩⟩
    · exact ⟨(0, 0), fun h => absurd h hi⟩
  obtain ⟨t1, ht1⟩ := Classical.axiomOfChoice h1
  have h2 : ∀ i : Nat, ∃ a : Nat, i < 2 → (smT i).eval #[Value.ref b] s none [] s = some (.ref a) := by
    intro i
    by_cases hi : i < 2
    · obtain ⟨a1, a2⟩ := nr_sm i hi
      obtain ⟨a, c, cA, kA, q1, q2, q3, q4, q5, q6, -⟩ := Cond.exactly_spec (args := #[Value.ref b]) (first := s) (o := none) (s := s) (idx := []) (t := smT i) (cls := "java/lang/String") (hs _ a1)
      exact ⟨a, fun _ => q1⟩
    · exact ⟨0, fun h => absurd h hi⟩
  obtain ⟨t3, ht3⟩ := Classical.axiomOfChoice h2
  obtain ⟨o1, o2, o3, o4⟩ := nr_ot
  obtain ⟨l1, l2, l3, l4, l5, l6, l7⟩ := nr_lo
  refine ⟨fun j k => match j with
    | 0 => if k < 16 then t0 k else t0 0
    | 1 => (t1 (sxi k)).1
    | 2 => (t1 (sxi k)).2
    | _ => t3 k, ⟨fun k hk => ?_, fun k => ?_⟩, fun w hw => ?_, fun i => ?_, fun i q hq => ?_, fun i q hq => ?_, ?_, ?_, ?_, ?_⟩
  · have hk : k < 16 := hk
    show va_Z "PatternNodes" (stNm k) "[I" (.ref (if k < 16 then t0 k else t0 0)) A s s.heap
    rw [if_pos hk]
    exact va_Zof (hts _ (nr_ls k hk)) (hts _ l7) (ht0 k hk).1 hA
  · show va_T .int (if k < 16 then t0 k else t0 0) (stN k) (fun j => .int (stF k j)) A s s.heap
    by_cases hk : k < 16
    · rw [if_pos hk]; exact (ht0 k hk).2
    · rw [if_neg hk, stN_far (by omega)]
      obtain ⟨cell, c1, c2, c3, c4, c5, c6, c7⟩ := (ht0 0 (by decide)).2
      exact ⟨cell, c1, c2, c3, c4, c5, fun j hj => absurd hj (Nat.not_lt_zero _), c7⟩
  · obtain ⟨w1, w2⟩ := List.mem_filter.mp hw
    have w3 := hts w w1
    cases w <;> first | exact absurd (show false = true from w2) (by decide) | exact va_Nw.of rfl w3
  · obtain ⟨-, r1, r2, r3, r4⟩ := ht1 (sxi i) (sxi_lt i)
    refine ⟨r1, r2, r3, ?_⟩
    rw [(sx_i i).1] at r4
    have e : (fun j => Value.int (sxF (sxi i) j)) = fun j => Value.int (sxF i j) := funext fun j => by rw [(sx_i i).2 j]
    rw [e] at r4
    exact r4
  · obtain ⟨hi, e⟩ := strC_six hq
    have r0 := (ht1 i hi).1
    have r1 := nr_sr i hi
    unfold stT at r0
    rw [e] at r0 r1
    show vk_R q.1 q.2.1 q.2.2 (t1 (sxi i)).1 s
    rw [sxi_id hi]
    exact vk_R.of (hts _ r1) r0
  · obtain ⟨hi, e⟩ := strM_two hq
    have r0 := ht3 i hi
    have r1 := (nr_sm i hi).2
    unfold smT at r0
    rw [e] at r0 r1
    exact vk_R.of (hts _ r1) r0
  · exact va_Zof (hts _ l1) (hts _ l5) (va_eqt (hs _ o1)) hA
  · exact va_Zqof (hts _ l2) (hts _ l6) (hs _ o2) hA
  · exact zS_of (hts _ l3) (hs _ o3) hA
  · exact zS_of (hts _ l4) (hs _ o4) hA

set_option maxRecDepth 100000 in
set_option maxHeartbeats 8000000 in
theorem law_start {p : Program} {e : Env} {s : State} {m : MethodId} {below : List Frame} {meth : Method} {c : Code} (l : Launch) (hfl : l.flags = flags0) {b L : Nat} {xs : Nat → Int32} (hL : L ≤ 2048) (C0 : lw_At p s m meth c b L xs) (hpure : f_LAW_L23 (upd (upd (upd (upd (upd (upd (upd (upd (upd (upd (upd (upd (upd (upd (upd (upd (upd (upd (upd (upd (upd (upd (upd (upd (upd (upd (upd (upd (upd (upd (upd (upd (upd (upd (upd (upd (fun _ => 0) 0 97) 1 122) 2 32) 3 224) 4 246) 5 32) 6 248) 7 254) 8 32) 9 945) 10 969) 11 32) 12 1072) 13 1103) 14 32) 15 1104) 16 1119) 17 80) 18 107) 19 107) 20 (-8383)) 21 115) 22 115) 23 (-268)) 24 229) 25 229) 26 (-8262)) 27 181) 28 181) 29 (-775)) 30 962) 31 962) 32 (-1)) 33 962) 34 962) 35 31) (upd (upd (upd (upd (upd (upd (upd (upd (upd (upd (upd (upd (upd (upd (upd (upd (fun _ => 0) 0 48) 1 57) 2 9) 3 10) 4 12) 5 13) 6 32) 7 32) 8 48) 9 57) 10 65) 11 90) 12 95) 13 95) 14 97) 15 122) (upd (upd (upd (upd (upd (upd (upd (upd (upd (upd (upd (upd (upd (upd (upd (upd (upd (upd (upd (upd (upd (upd (upd (upd (upd (upd (upd (upd (fun _ => 0) 0 65) 1 90) 2 97) 3 122) 4 170) 5 170) 6 181) 7 181) 8 186) 9 186) 10 192) 11 214) 12 216) 13 246) 14 248) 15 687) 16 880) 17 1023) 18 1024) 19 1279) 20 48) 21 57) 22 178) 23 179) 24 185) 25 185) 26 188) 27 190) (upd (upd (upd (upd (upd (upd (upd (upd (upd (upd (upd (upd (upd (upd (upd (upd (upd (upd (upd (upd (upd (upd (fun _ => 0) 0 48) 1 57) 2 65) 3 90) 4 97) 5 122) 6 65) 7 90) 8 97) 9 122) 10 33) 11 47) 12 58) 13 64) 14 91) 15 96) 16 123) 17 126) 18 9) 19 13) 20 32) 21 32) xs L FU (0, 0, 0, (-1), 0, 0, 0, 0, 0, 0, 0, (-1), 0, false, 0, (-1), false, false, 0, 0, 0, 0, 0, (-1), false, 0, 0, 0, 0, false, 0, 0, 0, 0, 0, (-1), 0, 0, 0, 0, 0, false, 0, false, 0, 0, (fun _ => 0), (fun _ => 0), (fun _ => 0), (fun _ => 0), (fun _ => 0), (fun _ => 0), (fun _ => 0), (fun _ => 0), (fun _ => 0), (fun _ => 0), (fun _ => 0), (fun _ => 0), (fun _ => 0), (fun _ => 0), (fun _ => 0), (fun _ => 0), (fun _ => 0), (fun _ => 0), (fun _ => 0), (fun _ => 0), (fun _ => 0), (fun _ => 0), (fun _ => 0), (fun _ => 0), (fun _ => 0), (fun _ => 0), (fun _ => 0), (fun _ => 0), (fun _ => 0), (fun _ => 0), (fun _ => 0), (fun _ => 0), (fun _ => 0), (fun _ => 0), (fun _ => 0), (fun _ => 0), (fun _ => 0), (fun _ => 0), (fun _ => 0), (fun _ => 0), (fun _ => 0), (fun _ => 0), (fun _ => 0)) = some false) : W p l e room_1 s m #[Value.ref b] below meth c s.heap [] 0 0 (lw_Z below #[Value.ref b] s) (entryFrame m ([Value.ref b] : List Value).toArray 7) := by
  obtain ⟨hx, hb, hr, hml, hown0, hts0, hX, hbl, hlocks, hgv⟩ := id C0
  have hown : s.vm.findClass R_LAW = some m.cls := hown0
  have hts : ∀ w ∈ GW, w.before #[Value.ref b] s = true := fun w h => hts0 w (List.mem_filter.mp h).1
  obtain ⟨A, hAe⟩ : ∃ A : Nat → Prop, A = fun q : Nat => s.heap.size ≤ q := ⟨_, rfl⟩
  have hA : ∀ q : Nat, s.heap.size ≤ q → A q := fun q h => by rw [hAe]; exact h
  have hA' : ∀ q : Nat, A q → s.heap.size ≤ q := fun q h => by rw [hAe] at h; exact h
  obtain ⟨tS, hst0⟩ := st_start hgv hts0 (A := A) (fun a h q => Nat.not_le.mpr h (hA' a q))
  obtain ⟨dC, dI, hKc⟩ := law_K hts
  obtain ⟨cI, hI1, hI2⟩ := arrK (hts _ tw_126)
  obtain ⟨cL, hL1, hL2⟩ := arrK (hts _ tw_1354)
  have hK2 : va_K (dC, dI) classes [(cI, .int), (cL, .long)] s := by
    refine ⟨hKc, fun k q h => ?_⟩
    match k, h with
    | 0, h => cases h; exact ⟨hI1, hI2⟩
    | 1, h => cases h; exact ⟨hL1, hL2⟩
    | k + 2, h => simp at h
  have hK := hK2.sub (tys' := [(cI, .int)]) [0] rfl
  have hS : va_S A s.heap s.heap [] := va_S.rf
  have hP : va_P (dC, dI) classes [] s.heap := fun k q h => by simp at h
  have hD : va_D A [] := ⟨fun i j p q h => by simp at h, fun k q h => by simp at h⟩
  have hl := lv_entry ([.ref b]) (n := 7) (Nat.le_of_ble_eq_true rfl)
  rw [lg_entry_eq]
  generalize (lg_sl ([.ref b]) ++ List.replicate (7 - (lg_sl ([.ref b])).length) Slot.unset).toArray = ls at hl ⊢
  have hl : lv_has ls 7 [(0, .ref b)] := hl
  refine va_new (ci := 11) (fs := [.null, .null, .null, .null, .null]) (C := R_PN) (T := F_PN) (N := N_PN) hx hb hts i_PN ty_PN ty_PN_ok hown (hts _ tw_102) (hts _ tw_103) (hts _ tw_79) hK hP hD hS hA rfl df_PN (Nat.le_of_ble_eq_true rfl) (Nat.le_of_ble_eq_true rfl) d_LAW_law_0 (fun q1 H hP hD hS => ?_)
  refine W.widen (k := 1) (n := 5) (Nat.le_of_ble_eq_true rfl) (Nat.le_of_ble_eq_true rfl) ?_
  have hP : va_P (dC, dI) classes [(q1, .inr (11, [.null, .null, .null, .null, .null]))] H := hP
  have hD : va_D A [(q1, .inr (11, [.null, .null, .null, .null, .null]))] := hD
  refine lv_dup hx hb d_LAW_law_3 rfl ?_
  have hPc := hP.sub (ws' := [(q1, .inr (11, [.null, .null, .null, .null, .null]))]) [0] rfl
  have hDc := hD.sub (ws' := [(q1, .inr (11, [.null, .null, .null, .null, .null]))]) [0] (by decide) rfl
  have hFc := va_free (wc := [(q1, .inr (11, [.null, .null, .null, .null, .null]))]) hD hS hA [0] rfl
  refine cal_c (va_runI (As := []) (rest := [.ref q1]) ⟨hx, hb, hml, hown, hts⟩ (c_PN_init l dC dI cI tS H.size q1) ⟨callB_of 0 hts (gN tw_106) rfl rfl rfl (hts _ tw_79) (hts _ tw_104) hd_PN_init ⟨Nat.le_of_ble_eq_true rfl, Nat.le_of_ble_eq_true rfl⟩, rfl, hts _ tw_105⟩ (pre_S hK hPc hDc hst0 hS hFc) rfl rfl hl.1 rfl (lv_room (Nat.le_of_ble_eq_true rfl)) d_LAW_law_4 ⟨Nat.le_of_ble_eq_true rfl, Nat.le_of_ble_eq_true rfl⟩) hP hD hS hA [0] [] rfl rfl (by decide) (by decide) (fun u H locs hP hD hS => ?_)
  refine W.widen (k := 32) (n := 10100) (Nat.le_of_ble_eq_true rfl) (Nat.le_of_ble_eq_true rfl) ?_
  obtain ⟨q2_1, q2_2, q2_3, q2_4, q2_5, q2_6, q2_7, q2_8, q2_9, q2_10, q2_11, q2_12, q2_13, q2_14, q2_15, q2_16, q2_17, q2_18, q2_19, q2_20, q2_21, q2_22, q2_23, q2_24, q2_25, q2_26, q2_27, q2_28, q2_29, q2_30, q2_31⟩ := u
  have hP : va_P (dC, dI) classes [(q1, .inr (11, [.ref q2_1, .ref q2_3, .ref q2_4, .ref q2_15, .ref q2_18])), (q2_1, .inr (0, [.ref q2_2, .int 0])), (q2_2, .inl (cI, 400, .inl (fun _ => 0))), (q2_3, .inr (1, [.int 0, .int (-1)])), (q2_4, .inr (3, [.ref q2_5, .ref q2_6, .ref q2_7, .ref q2_8, .ref q2_9, .ref q2_10, .ref q2_11, .ref q2_12, .ref q2_13, .ref q2_14, .int 0, .int 0, .int 0])), (q2_5, .inl (cI, 512, .inl (fun _ => 0))), (q2_6, .inl (cI, 512, .inl (fun _ => 0))), (q2_7, .inl (cI, 512, .inl (fun _ => 0))), (q2_8, .inl (cI, 512, .inl (fun _ => 0))), (q2_9, .inl (cI, 512, .inl (fun _ => 0))), (q2_10, .inl (cI, 512, .inl (fun _ => 0))), (q2_11, .inl (cI, 512, .inl (fun _ => 0))), (q2_12, .inl (cI, 1600, .inl (fun _ => 0))), (q2_13, .inl (cI, 1600, .inl (fun _ => 0))), (q2_14, .inl (cI, 512, .inl (fun _ => 0))), (q2_15, .inr (4, [.ref q2_16, .ref q2_17, .int 0])), (q2_16, .inl (cI, 10, .inl (fun _ => 0))), (q2_17, .inl (cI, 120, .inl (fun _ => 0))), (q2_18, .inr (10, [.ref q2_1, .ref q2_3, .ref q2_4, .ref q2_15, .ref q2_19, .ref q2_25, .ref q2_28, .ref q2_29, .ref q2_30, .ref q2_31, .int 0, .int 0, .int 0])), (q2_19, .inr (5, [.ref q2_20, .ref q2_21, .ref q2_22, .ref q2_23, .ref q2_24, .int 0])), (q2_20, .inl (cI, 31, .inl (fun _ => 0))), (q2_21, .inl (cI, 31, .inl (fun _ => 0))), (q2_22, .inl (cI, 31, .inl (fun _ => 0))), (q2_23, .inl (cI, 31, .inl (fun _ => 0))), (q2_24, .inl (cI, 31, .inl (fun _ => 0))), (q2_25, .inr (2, [.ref q2_26, .ref q2_27, .int 0])), (q2_26, .inl (cI, 1024, .inl (fun _ => 0))), (q2_27, .inl (cI, 1024, .inl (fun _ => 0))), (q2_28, .inr (6, [.ref q2_1, .int 0, .int (-1), .ref (tS 0 0), .int 0, .int 0])), (q2_29, .inr (7, [.ref q2_1, .ref q2_3, .ref q2_28, .ref q2_25, .int (-1)])), (q2_30, .inr (8, [.ref q2_1, .int 0, .int 0, .int 0, .int 0, .int 0, .int 0])), (q2_31, .inr (9, [.ref q2_1, .int 0, .int (-1), .int 0, .int 0, .int 0]))] H := hP
  have hD : va_D A [(q1, .inr (11, [.ref q2_1, .ref q2_3, .ref q2_4, .ref q2_15, .ref q2_18])), (q2_1, .inr (0, [.ref q2_2, .int 0])), (q2_2, .inl (cI, 400, .inl (fun _ => 0))), (q2_3, .inr (1, [.int 0, .int (-1)])), (q2_4, .inr (3, [.ref q2_5, .ref q2_6, .ref q2_7, .ref q2_8, .ref q2_9, .ref q2_10, .ref q2_11, .ref q2_12, .ref q2_13, .ref q2_14, .int 0, .int 0, .int 0])), (q2_5, .inl (cI, 512, .inl (fun _ => 0))), (q2_6, .inl (cI, 512, .inl (fun _ => 0))), (q2_7, .inl (cI, 512, .inl (fun _ => 0))), (q2_8, .inl (cI, 512, .inl (fun _ => 0))), (q2_9, .inl (cI, 512, .inl (fun _ => 0))), (q2_10, .inl (cI, 512, .inl (fun _ => 0))), (q2_11, .inl (cI, 512, .inl (fun _ => 0))), (q2_12, .inl (cI, 1600, .inl (fun _ => 0))), (q2_13, .inl (cI, 1600, .inl (fun _ => 0))), (q2_14, .inl (cI, 512, .inl (fun _ => 0))), (q2_15, .inr (4, [.ref q2_16, .ref q2_17, .int 0])), (q2_16, .inl (cI, 10, .inl (fun _ => 0))), (q2_17, .inl (cI, 120, .inl (fun _ => 0))), (q2_18, .inr (10, [.ref q2_1, .ref q2_3, .ref q2_4, .ref q2_15, .ref q2_19, .ref q2_25, .ref q2_28, .ref q2_29, .ref q2_30, .ref q2_31, .int 0, .int 0, .int 0])), (q2_19, .inr (5, [.ref q2_20, .ref q2_21, .ref q2_22, .ref q2_23, .ref q2_24, .int 0])), (q2_20, .inl (cI, 31, .inl (fun _ => 0))), (q2_21, .inl (cI, 31, .inl (fun _ => 0))), (q2_22, .inl (cI, 31, .inl (fun _ => 0))), (q2_23, .inl (cI, 31, .inl (fun _ => 0))), (q2_24, .inl (cI, 31, .inl (fun _ => 0))), (q2_25, .inr (2, [.ref q2_26, .ref q2_27, .int 0])), (q2_26, .inl (cI, 1024, .inl (fun _ => 0))), (q2_27, .inl (cI, 1024, .inl (fun _ => 0))), (q2_28, .inr (6, [.ref q2_1, .int 0, .int (-1), .ref (tS 0 0), .int 0, .int 0])), (q2_29, .inr (7, [.ref q2_1, .ref q2_3, .ref q2_28, .ref q2_25, .int (-1)])), (q2_30, .inr (8, [.ref q2_1, .int 0, .int 0, .int 0, .int 0, .int 0, .int 0])), (q2_31, .inr (9, [.ref q2_1, .int 0, .int (-1), .int 0, .int 0, .int 0]))] := hD
  refine lv_astore_n (lv' := [(1, .ref q1), (0, .ref b)]) hx hb d_LAW_law_7 rfl hl (by decide) rfl (fun ls hl => ?_)
  refine va_new (ci := 12) (fs := [.int 0, .null, .int 0, .null, .int 0, .int 0, .int 0, .int 0, .int 0, .null, .null, .null, .null, .null, .null, .null, .null, .null, .null, .int 0, .int 0, .null, .null, .int 0, .null, .null, .null, .null, .null, .int 0, .int 0, .null, .null, .null, .null, .null, .null, .null, .int 0, .int 0, .int 0, .int 0]) (C := R_MOD) (T := F_MOD) (N := N_MOD) hx hb hts i_MOD ty_MOD ty_MOD_ok hown (hts _ tw_987) (hts _ tw_988) (hts _ tw_91) hK hP hD hS hA rfl df_MOD (Nat.le_of_ble_eq_true rfl) (Nat.le_of_ble_eq_true rfl) d_LAW_law_8 (fun q3 H hP hD hS => ?_)
  refine W.widen (k := 33) (n := 10142) (Nat.le_of_ble_eq_true rfl) (Nat.le_of_ble_eq_true rfl) ?_
  have hP : va_P (dC, dI) classes [(q1, .inr (11, [.ref q2_1, .ref q2_3, .ref q2_4, .ref q2_15, .ref q2_18])), (q2_1, .inr (0, [.ref q2_2, .int 0])), (q2_2, .inl (cI, 400, .inl (fun _ => 0))), (q2_3, .inr (1, [.int 0, .int (-1)])), (q2_4, .inr (3, [.ref q2_5, .ref q2_6, .ref q2_7, .ref q2_8, .ref q2_9, .ref q2_10, .ref q2_11, .ref q2_12, .ref q2_13, .ref q2_14, .int 0, .int 0, .int 0])), (q2_5, .inl (cI, 512, .inl (fun _ => 0))), (q2_6, .inl (cI, 512, .inl (fun _ => 0))), (q2_7, .inl (cI, 512, .inl (fun _ => 0))), (q2_8, .inl (cI, 512, .inl (fun _ => 0))), (q2_9, .inl (cI, 512, .inl (fun _ => 0))), (q2_10, .inl (cI, 512, .inl (fun _ => 0))), (q2_11, .inl (cI, 512, .inl (fun _ => 0))), (q2_12, .inl (cI, 1600, .inl (fun _ => 0))), (q2_13, .inl (cI, 1600, .inl (fun _ => 0))), (q2_14, .inl (cI, 512, .inl (fun _ => 0))), (q2_15, .inr (4, [.ref q2_16, .ref q2_17, .int 0])), (q2_16, .inl (cI, 10, .inl (fun _ => 0))), (q2_17, .inl (cI, 120, .inl (fun _ => 0))), (q2_18, .inr (10, [.ref q2_1, .ref q2_3, .ref q2_4, .ref q2_15, .ref q2_19, .ref q2_25, .ref q2_28, .ref q2_29, .ref q2_30, .ref q2_31, .int 0, .int 0, .int 0])), (q2_19, .inr (5, [.ref q2_20, .ref q2_21, .ref q2_22, .ref q2_23, .ref q2_24, .int 0])), (q2_20, .inl (cI, 31, .inl (fun _ => 0))), (q2_21, .inl (cI, 31, .inl (fun _ => 0))), (q2_22, .inl (cI, 31, .inl (fun _ => 0))), (q2_23, .inl (cI, 31, .inl (fun _ => 0))), (q2_24, .inl (cI, 31, .inl (fun _ => 0))), (q2_25, .inr (2, [.ref q2_26, .ref q2_27, .int 0])), (q2_26, .inl (cI, 1024, .inl (fun _ => 0))), (q2_27, .inl (cI, 1024, .inl (fun _ => 0))), (q2_28, .inr (6, [.ref q2_1, .int 0, .int (-1), .ref (tS 0 0), .int 0, .int 0])), (q2_29, .inr (7, [.ref q2_1, .ref q2_3, .ref q2_28, .ref q2_25, .int (-1)])), (q2_30, .inr (8, [.ref q2_1, .int 0, .int 0, .int 0, .int 0, .int 0, .int 0])), (q2_31, .inr (9, [.ref q2_1, .int 0, .int (-1), .int 0, .int 0, .int 0])), (q3, .inr (12, [.int 0, .null, .int 0, .null, .int 0, .int 0, .int 0, .int 0, .int 0, .null, .null, .null, .null, .null, .null, .null, .null, .null, .null, .int 0, .int 0, .null, .null, .int 0, .null, .null, .null, .null, .null, .int 0, .int 0, .null, .null, .null, .null, .null, .null, .null, .int 0, .int 0, .int 0, .int 0]))] H := hP
  have hD : va_D A [(q1, .inr (11, [.ref q2_1, .ref q2_3, .ref q2_4, .ref q2_15, .ref q2_18])), (q2_1, .inr (0, [.ref q2_2, .int 0])), (q2_2, .inl (cI, 400, .inl (fun _ => 0))), (q2_3, .inr (1, [.int 0, .int (-1)])), (q2_4, .inr (3, [.ref q2_5, .ref q2_6, .ref q2_7, .ref q2_8, .ref q2_9, .ref q2_10, .ref q2_11, .ref q2_12, .ref q2_13, .ref q2_14, .int 0, .int 0, .int 0])), (q2_5, .inl (cI, 512, .inl (fun _ => 0))), (q2_6, .inl (cI, 512, .inl (fun _ => 0))), (q2_7, .inl (cI, 512, .inl (fun _ => 0))), (q2_8, .inl (cI, 512, .inl (fun _ => 0))), (q2_9, .inl (cI, 512, .inl (fun _ => 0))), (q2_10, .inl (cI, 512, .inl (fun _ => 0))), (q2_11, .inl (cI, 512, .inl (fun _ => 0))), (q2_12, .inl (cI, 1600, .inl (fun _ => 0))), (q2_13, .inl (cI, 1600, .inl (fun _ => 0))), (q2_14, .inl (cI, 512, .inl (fun _ => 0))), (q2_15, .inr (4, [.ref q2_16, .ref q2_17, .int 0])), (q2_16, .inl (cI, 10, .inl (fun _ => 0))), (q2_17, .inl (cI, 120, .inl (fun _ => 0))), (q2_18, .inr (10, [.ref q2_1, .ref q2_3, .ref q2_4, .ref q2_15, .ref q2_19, .ref q2_25, .ref q2_28, .ref q2_29, .ref q2_30, .ref q2_31, .int 0, .int 0, .int 0])), (q2_19, .inr (5, [.ref q2_20, .ref q2_21, .ref q2_22, .ref q2_23, .ref q2_24, .int 0])), (q2_20, .inl (cI, 31, .inl (fun _ => 0))), (q2_21, .inl (cI, 31, .inl (fun _ => 0))), (q2_22, .inl (cI, 31, .inl (fun _ => 0))), (q2_23, .inl (cI, 31, .inl (fun _ => 0))), (q2_24, .inl (cI, 31, .inl (fun _ => 0))), (q2_25, .inr (2, [.ref q2_26, .ref q2_27, .int 0])), (q2_26, .inl (cI, 1024, .inl (fun _ => 0))), (q2_27, .inl (cI, 1024, .inl (fun _ => 0))), (q2_28, .inr (6, [.ref q2_1, .int 0, .int (-1), .ref (tS 0 0), .int 0, .int 0])), (q2_29, .inr (7, [.ref q2_1, .ref q2_3, .ref q2_28, .ref q2_25, .int (-1)])), (q2_30, .inr (8, [.ref q2_1, .int 0, .int 0, .int 0, .int 0, .int 0, .int 0])), (q2_31, .inr (9, [.ref q2_1, .int 0, .int (-1), .int 0, .int 0, .int 0])), (q3, .inr (12, [.int 0, .null, .int 0, .null, .int 0, .int 0, .int 0, .int 0, .int 0, .null, .null, .null, .null, .null, .null, .null, .null, .null, .null, .int 0, .int 0, .null, .null, .int 0, .null, .null, .null, .null, .null, .int 0, .int 0, .null, .null, .null, .null, .null, .null, .null, .int 0, .int 0, .int 0, .int 0]))] := hD
  refine lv_dup hx hb d_LAW_law_11 rfl ?_
  have hPc := hP.sub (ws' := [(q3, .inr (12, [.int 0, .null, .int 0, .null, .int 0, .int 0, .int 0, .int 0, .int 0, .null, .null, .null, .null, .null, .null, .null, .null, .null, .null, .int 0, .int 0, .null, .null, .int 0, .null, .null, .null, .null, .null, .int 0, .int 0, .null, .null, .null, .null, .null, .null, .null, .int 0, .int 0, .int 0, .int 0]))]) [32] rfl
  have hDc := hD.sub (ws' := [(q3, .inr (12, [.int 0, .null, .int 0, .null, .int 0, .int 0, .int 0, .int 0, .int 0, .null, .null, .null, .null, .null, .null, .null, .null, .null, .null, .int 0, .int 0, .null, .null, .int 0, .null, .null, .null, .null, .null, .int 0, .int 0, .null, .null, .null, .null, .null, .null, .null, .int 0, .int 0, .int 0, .int 0]))]) [32] (by decide) rfl
  have hFc := va_free (wc := [(q3, .inr (12, [.int 0, .null, .int 0, .null, .int 0, .int 0, .int 0, .int 0, .int 0, .null, .null, .null, .null, .null, .null, .null, .null, .null, .null, .int 0, .int 0, .null, .null, .int 0, .null, .null, .null, .null, .null, .int 0, .int 0, .null, .null, .null, .null, .null, .null, .null, .int 0, .int 0, .int 0, .int 0]))]) hD hS hA [32] rfl
  refine cal_c (va_runI (As := []) (rest := [.ref q3]) ⟨hx, hb, hml, hown, hts⟩ (c_MOD_init l dC dI cI tS H.size q3) ⟨callB_of 0 hts (gN tw_991) rfl rfl rfl (hts _ tw_91) (hts _ tw_989) hd_MOD_init ⟨Nat.le_of_ble_eq_true rfl, Nat.le_of_ble_eq_true rfl⟩, rfl, hts _ tw_990⟩ (pre_S hK hPc hDc hst0 hS hFc) rfl rfl hl.1 rfl (lv_room (Nat.le_of_ble_eq_true rfl)) d_LAW_law_12 ⟨Nat.le_of_ble_eq_true rfl, Nat.le_of_ble_eq_true rfl⟩) hP hD hS hA [32] [0, 1, 2, 3, 4, 5, 6, 7, 8, 9, 10, 11, 12, 13, 14, 15, 16, 17, 18, 19, 20, 21, 22, 23, 24, 25, 26, 27, 28, 29, 30, 31] rfl rfl (by decide) (by decide) (fun u H locs hP hD hS => ?_)
  refine W.widen (k := 59) (n := 33749) (Nat.le_of_ble_eq_true rfl) (Nat.le_of_ble_eq_true rfl) ?_
  obtain ⟨q4_1, q4_2, q4_3, q4_4, q4_5, q4_6, q4_7, q4_8, q4_9, q4_10, q4_11, q4_12, q4_13, q4_14, q4_15, q4_16, q4_17, q4_18, q4_19, q4_20, q4_21, q4_22, q4_23, q4_24, q4_25, q4_26⟩ := u
  have hP : va_P (dC, dI) classes [(q1, .inr (11, [.ref q2_1, .ref q2_3, .ref q2_4, .ref q2_15, .ref q2_18])), (q2_1, .inr (0, [.ref q2_2, .int 0])), (q2_2, .inl (cI, 400, .inl (fun _ => 0))), (q2_3, .inr (1, [.int 0, .int (-1)])), (q2_4, .inr (3, [.ref q2_5, .ref q2_6, .ref q2_7, .ref q2_8, .ref q2_9, .ref q2_10, .ref q2_11, .ref q2_12, .ref q2_13, .ref q2_14, .int 0, .int 0, .int 0])), (q2_5, .inl (cI, 512, .inl (fun _ => 0))), (q2_6, .inl (cI, 512, .inl (fun _ => 0))), (q2_7, .inl (cI, 512, .inl (fun _ => 0))), (q2_8, .inl (cI, 512, .inl (fun _ => 0))), (q2_9, .inl (cI, 512, .inl (fun _ => 0))), (q2_10, .inl (cI, 512, .inl (fun _ => 0))), (q2_11, .inl (cI, 512, .inl (fun _ => 0))), (q2_12, .inl (cI, 1600, .inl (fun _ => 0))), (q2_13, .inl (cI, 1600, .inl (fun _ => 0))), (q2_14, .inl (cI, 512, .inl (fun _ => 0))), (q2_15, .inr (4, [.ref q2_16, .ref q2_17, .int 0])), (q2_16, .inl (cI, 10, .inl (fun _ => 0))), (q2_17, .inl (cI, 120, .inl (fun _ => 0))), (q2_18, .inr (10, [.ref q2_1, .ref q2_3, .ref q2_4, .ref q2_15, .ref q2_19, .ref q2_25, .ref q2_28, .ref q2_29, .ref q2_30, .ref q2_31, .int 0, .int 0, .int 0])), (q2_19, .inr (5, [.ref q2_20, .ref q2_21, .ref q2_22, .ref q2_23, .ref q2_24, .int 0])), (q2_20, .inl (cI, 31, .inl (fun _ => 0))), (q2_21, .inl (cI, 31, .inl (fun _ => 0))), (q2_22, .inl (cI, 31, .inl (fun _ => 0))), (q2_23, .inl (cI, 31, .inl (fun _ => 0))), (q2_24, .inl (cI, 31, .inl (fun _ => 0))), (q2_25, .inr (2, [.ref q2_26, .ref q2_27, .int 0])), (q2_26, .inl (cI, 1024, .inl (fun _ => 0))), (q2_27, .inl (cI, 1024, .inl (fun _ => 0))), (q2_28, .inr (6, [.ref q2_1, .int 0, .int (-1), .ref (tS 0 0), .int 0, .int 0])), (q2_29, .inr (7, [.ref q2_1, .ref q2_3, .ref q2_28, .ref q2_25, .int (-1)])), (q2_30, .inr (8, [.ref q2_1, .int 0, .int 0, .int 0, .int 0, .int 0, .int 0])), (q2_31, .inr (9, [.ref q2_1, .int 0, .int (-1), .int 0, .int 0, .int 0])), (q3, .inr (12, [.int 0, .ref q4_1, .int 0, .ref q4_2, .int 0, .int 0, .int 0, .int (-1), .int 0, .ref q4_3, .ref q4_4, .ref q4_5, .ref q4_6, .ref q4_7, .ref q4_8, .ref q4_9, .ref q4_10, .ref q4_11, .ref q4_12, .int 0, .int 0, .ref q4_13, .ref q4_14, .int 0, .ref q4_15, .ref q4_16, .ref q4_17, .ref q4_18, .ref q4_19, .int 0, .int 0, .ref q4_20, .ref q4_21, .ref q4_22, .ref q4_23, .ref q4_24, .ref q4_25, .ref q4_26, .int 0, .int 0, .int 0, .int 0])), (q4_1, .inl (cI, 400, .inl (fun _ => 0))), (q4_2, .inl (cI, 400, .inl (fun _ => 0))), (q4_3, .inl (cI, 1000, .inl (fun _ => 0))), (q4_4, .inl (cI, 1000, .inl (fun _ => 0))), (q4_5, .inl (cI, 1000, .inl (fun _ => 0))), (q4_6, .inl (cI, 1000, .inl (fun _ => 0))), (q4_7, .inl (cI, 1000, .inl (fun _ => 0))), (q4_8, .inl (cI, 1000, .inl (fun _ => 0))), (q4_9, .inl (cI, 1000, .inl (fun _ => 0))), (q4_10, .inl (cI, 1000, .inl (fun _ => 0))), (q4_11, .inl (cI, 6000, .inl (fun _ => 0))), (q4_12, .inl (cI, 6000, .inl (fun _ => 0))), (q4_13, .inl (cI, 132, .inl (fun _ => 0))), (q4_14, .inl (cI, 11, .inl (fun _ => 0))), (q4_15, .inl (cI, 32, .inl (fun _ => 0))), (q4_16, .inl (cI, 32, .inl (fun _ => 0))), (q4_17, .inl (cI, 32, .inl (fun _ => 0))), (q4_18, .inl (cI, 32, .inl (fun _ => 0))), (q4_19, .inl (cI, 32, .inl (fun _ => 0))), (q4_20, .inl (cI, 1200, .inl (fun _ => 0))), (q4_21, .inl (cI, 1200, .inl (fun _ => 0))), (q4_22, .inl (cI, 2, .inl (fun _ => 0))), (q4_23, .inl (cI, 36, .inl (upd (upd (upd (upd (upd (upd (upd (upd (upd (upd (upd (upd (upd (upd (upd (upd (upd (upd (upd (upd (upd (upd (upd (upd (upd (upd (upd (upd (upd (upd (upd (upd (upd (upd (upd (upd (fun _ => 0) 0 97) 1 122) 2 32) 3 224) 4 246) 5 32) 6 248) 7 254) 8 32) 9 945) 10 969) 11 32) 12 1072) 13 1103) 14 32) 15 1104) 16 1119) 17 80) 18 107) 19 107) 20 (-8383)) 21 115) 22 115) 23 (-268)) 24 229) 25 229) 26 (-8262)) 27 181) 28 181) 29 (-775)) 30 962) 31 962) 32 (-1)) 33 962) 34 962) 35 31))), (q4_24, .inl (cI, 16, .inl (upd (upd (upd (upd (upd (upd (upd (upd (upd (upd (upd (upd (upd (upd (upd (upd (fun _ => 0) 0 48) 1 57) 2 9) 3 10) 4 12) 5 13) 6 32) 7 32) 8 48) 9 57) 10 65) 11 90) 12 95) 13 95) 14 97) 15 122))), (q4_25, .inl (cI, 28, .inl (upd (upd (upd (upd (upd (upd (upd (upd (upd (upd (upd (upd (upd (upd (upd (upd (upd (upd (upd (upd (upd (upd (upd (upd (upd (upd (upd (upd (fun _ => 0) 0 65) 1 90) 2 97) 3 122) 4 170) 5 170) 6 181) 7 181) 8 186) 9 186) 10 192) 11 214) 12 216) 13 246) 14 248) 15 687) 16 880) 17 1023) 18 1024) 19 1279) 20 48) 21 57) 22 178) 23 179) 24 185) 25 185) 26 188) 27 190))), (q4_26, .inl (cI, 22, .inl (upd (upd (upd (upd (upd (upd (upd (upd (upd (upd (upd (upd (upd (upd (upd (upd (upd (upd (upd (upd (upd (upd (fun _ => 0) 0 48) 1 57) 2 65) 3 90) 4 97) 5 122) 6 65) 7 90) 8 97) 9 122) 10 33) 11 47) 12 58) 13 64) 14 91) 15 96) 16 123) 17 126) 18 9) 19 13) 20 32) 21 32)))] H := hP
  have hD : va_D A [(q1, .inr (11, [.ref q2_1, .ref q2_3, .ref q2_4, .ref q2_15, .ref q2_18])), (q2_1, .inr (0, [.ref q2_2, .int 0])), (q2_2, .inl (cI, 400, .inl (fun _ => 0))), (q2_3, .inr (1, [.int 0, .int (-1)])), (q2_4, .inr (3, [.ref q2_5, .ref q2_6, .ref q2_7, .ref q2_8, .ref q2_9, .ref q2_10, .ref q2_11, .ref q2_12, .ref q2_13, .ref q2_14, .int 0, .int 0, .int 0])), (q2_5, .inl (cI, 512, .inl (fun _ => 0))), (q2_6, .inl (cI, 512, .inl (fun _ => 0))), (q2_7, .inl (cI, 512, .inl (fun _ => 0))), (q2_8, .inl (cI, 512, .inl (fun _ => 0))), (q2_9, .inl (cI, 512, .inl (fun _ => 0))), (q2_10, .inl (cI, 512, .inl (fun _ => 0))), (q2_11, .inl (cI, 512, .inl (fun _ => 0))), (q2_12, .inl (cI, 1600, .inl (fun _ => 0))), (q2_13, .inl (cI, 1600, .inl (fun _ => 0))), (q2_14, .inl (cI, 512, .inl (fun _ => 0))), (q2_15, .inr (4, [.ref q2_16, .ref q2_17, .int 0])), (q2_16, .inl (cI, 10, .inl (fun _ => 0))), (q2_17, .inl (cI, 120, .inl (fun _ => 0))), (q2_18, .inr (10, [.ref q2_1, .ref q2_3, .ref q2_4, .ref q2_15, .ref q2_19, .ref q2_25, .ref q2_28, .ref q2_29, .ref q2_30, .ref q2_31, .int 0, .int 0, .int 0])), (q2_19, .inr (5, [.ref q2_20, .ref q2_21, .ref q2_22, .ref q2_23, .ref q2_24, .int 0])), (q2_20, .inl (cI, 31, .inl (fun _ => 0))), (q2_21, .inl (cI, 31, .inl (fun _ => 0))), (q2_22, .inl (cI, 31, .inl (fun _ => 0))), (q2_23, .inl (cI, 31, .inl (fun _ => 0))), (q2_24, .inl (cI, 31, .inl (fun _ => 0))), (q2_25, .inr (2, [.ref q2_26, .ref q2_27, .int 0])), (q2_26, .inl (cI, 1024, .inl (fun _ => 0))), (q2_27, .inl (cI, 1024, .inl (fun _ => 0))), (q2_28, .inr (6, [.ref q2_1, .int 0, .int (-1), .ref (tS 0 0), .int 0, .int 0])), (q2_29, .inr (7, [.ref q2_1, .ref q2_3, .ref q2_28, .ref q2_25, .int (-1)])), (q2_30, .inr (8, [.ref q2_1, .int 0, .int 0, .int 0, .int 0, .int 0, .int 0])), (q2_31, .inr (9, [.ref q2_1, .int 0, .int (-1), .int 0, .int 0, .int 0])), (q3, .inr (12, [.int 0, .ref q4_1, .int 0, .ref q4_2, .int 0, .int 0, .int 0, .int (-1), .int 0, .ref q4_3, .ref q4_4, .ref q4_5, .ref q4_6, .ref q4_7, .ref q4_8, .ref q4_9, .ref q4_10, .ref q4_11, .ref q4_12, .int 0, .int 0, .ref q4_13, .ref q4_14, .int 0, .ref q4_15, .ref q4_16, .ref q4_17, .ref q4_18, .ref q4_19, .int 0, .int 0, .ref q4_20, .ref q4_21, .ref q4_22, .ref q4_23, .ref q4_24, .ref q4_25, .ref q4_26, .int 0, .int 0, .int 0, .int 0])), (q4_1, .inl (cI, 400, .inl (fun _ => 0))), (q4_2, .inl (cI, 400, .inl (fun _ => 0))), (q4_3, .inl (cI, 1000, .inl (fun _ => 0))), (q4_4, .inl (cI, 1000, .inl (fun _ => 0))), (q4_5, .inl (cI, 1000, .inl (fun _ => 0))), (q4_6, .inl (cI, 1000, .inl (fun _ => 0))), (q4_7, .inl (cI, 1000, .inl (fun _ => 0))), (q4_8, .inl (cI, 1000, .inl (fun _ => 0))), (q4_9, .inl (cI, 1000, .inl (fun _ => 0))), (q4_10, .inl (cI, 1000, .inl (fun _ => 0))), (q4_11, .inl (cI, 6000, .inl (fun _ => 0))), (q4_12, .inl (cI, 6000, .inl (fun _ => 0))), (q4_13, .inl (cI, 132, .inl (fun _ => 0))), (q4_14, .inl (cI, 11, .inl (fun _ => 0))), (q4_15, .inl (cI, 32, .inl (fun _ => 0))), (q4_16, .inl (cI, 32, .inl (fun _ => 0))), (q4_17, .inl (cI, 32, .inl (fun _ => 0))), (q4_18, .inl (cI, 32, .inl (fun _ => 0))), (q4_19, .inl (cI, 32, .inl (fun _ => 0))), (q4_20, .inl (cI, 1200, .inl (fun _ => 0))), (q4_21, .inl (cI, 1200, .inl (fun _ => 0))), (q4_22, .inl (cI, 2, .inl (fun _ => 0))), (q4_23, .inl (cI, 36, .inl (upd (upd (upd (upd (upd (upd (upd (upd (upd (upd (upd (upd (upd (upd (upd (upd (upd (upd (upd (upd (upd (upd (upd (upd (upd (upd (upd (upd (upd (upd (upd (upd (upd (upd (upd (upd (fun _ => 0) 0 97) 1 122) 2 32) 3 224) 4 246) 5 32) 6 248) 7 254) 8 32) 9 945) 10 969) 11 32) 12 1072) 13 1103) 14 32) 15 1104) 16 1119) 17 80) 18 107) 19 107) 20 (-8383)) 21 115) 22 115) 23 (-268)) 24 229) 25 229) 26 (-8262)) 27 181) 28 181) 29 (-775)) 30 962) 31 962) 32 (-1)) 33 962) 34 962) 35 31))), (q4_24, .inl (cI, 16, .inl (upd (upd (upd (upd (upd (upd (upd (upd (upd (upd (upd (upd (upd (upd (upd (upd (fun _ => 0) 0 48) 1 57) 2 9) 3 10) 4 12) 5 13) 6 32) 7 32) 8 48) 9 57) 10 65) 11 90) 12 95) 13 95) 14 97) 15 122))), (q4_25, .inl (cI, 28, .inl (upd (upd (upd (upd (upd (upd (upd (upd (upd (upd (upd (upd (upd (upd (upd (upd (upd (upd (upd (upd (upd (upd (upd (upd (upd (upd (upd (upd (fun _ => 0) 0 65) 1 90) 2 97) 3 122) 4 170) 5 170) 6 181) 7 181) 8 186) 9 186) 10 192) 11 214) 12 216) 13 246) 14 248) 15 687) 16 880) 17 1023) 18 1024) 19 1279) 20 48) 21 57) 22 178) 23 179) 24 185) 25 185) 26 188) 27 190))), (q4_26, .inl (cI, 22, .inl (upd (upd (upd (upd (upd (upd (upd (upd (upd (upd (upd (upd (upd (upd (upd (upd (upd (upd (upd (upd (upd (upd (fun _ => 0) 0 48) 1 57) 2 65) 3 90) 4 97) 5 122) 6 65) 7 90) 8 97) 9 122) 10 33) 11 47) 12 58) 13 64) 14 91) 15 96) 16 123) 17 126) 18 9) 19 13) 20 32) 21 32)))] := hD
  refine lv_astore_n (lv' := [(2, .ref q3), (1, .ref q1), (0, .ref b)]) hx hb d_LAW_law_15 rfl hl (by decide) rfl (fun ls hl => ?_)
  refine lv_iconst (v := 1) hx hb d_LAW_law_16 (by decide) ?_
  refine newL hx hb (hts _ tw_1354) hK2 hP hD hS hA (N' := 1) (by decide) (by decide) (by decide) (Nat.le_of_ble_eq_true rfl) (Nat.le_of_ble_eq_true rfl) d_LAW_law_17 (fun a_out H hP hD hS => ?_)
  refine W.widen (k := 60) (n := 33750) (Nat.le_of_ble_eq_true rfl) (Nat.le_of_ble_eq_true rfl) ?_
  refine lv_astore_n (lv' := [(3, .ref a_out), (2, .ref q3), (1, .ref q1), (0, .ref b)]) hx hb d_LAW_law_19 rfl hl (by decide) rfl (fun ls hl => ?_)
  refine lv_iconst (v := 0) hx hb d_LAW_law_20 (by decide) ?_
  refine lv_istore (lv' := [(4, .int 0), (3, .ref a_out), (2, .ref q3), (1, .ref q1), (0, .ref b)]) hx hb d_LAW_law_21 hl (by decide) rfl (fun ls hl => ?_)
  have hP := hP.sub (ws' := (w_LAW cI tS q2_1 q2_2 q2_3 q2_25 q2_26 q2_27 q2_4 q2_5 q2_6 q2_7 q2_8 q2_9 q2_10 q2_11 q2_12 q2_13 q2_14 q2_15 q2_16 q2_17 q2_19 q2_20 q2_21 q2_22 q2_23 q2_24 q2_28 q2_29 q2_30 q2_31 q2_18 q1 q3 q4_1 q4_2 q4_3 q4_4 q4_5 q4_6 q4_7 q4_8 q4_9 q4_10 q4_11 q4_12 q4_13 q4_14 q4_15 q4_16 q4_17 q4_18 q4_19 q4_20 q4_21 q4_22 q4_23 q4_24 q4_25 q4_26 0 0 (-1) 0 0 0 0 0 0 0 (-1) 0 false 0 (-1) false false 0 0 0 0 0 (-1) false 0 0 0 0 false 0 0 0 0 0 (-1) 0 0 0 0 0 false 0 false 0 0 (fun _ => 0) (fun _ => 0) (fun _ => 0) (fun _ => 0) (fun _ => 0) (fun _ => 0) (fun _ => 0) (fun _ => 0) (fun _ => 0) (fun _ => 0) (fun _ => 0) (fun _ => 0) (fun _ => 0) (fun _ => 0) (fun _ => 0) (fun _ => 0) (fun _ => 0) (fun _ => 0) (fun _ => 0) (fun _ => 0) (fun _ => 0) (fun _ => 0) (fun _ => 0) (fun _ => 0) (fun _ => 0) (fun _ => 0) (fun _ => 0) (fun _ => 0) (fun _ => 0) (fun _ => 0) (fun _ => 0) (fun _ => 0) (fun _ => 0) (fun _ => 0) (fun _ => 0) (fun _ => 0) (fun _ => 0) (fun _ => 0) (fun _ => 0) (fun _ => 0) (fun _ => 0) (fun _ => 0) (upd (upd (upd (upd (upd (upd (upd (upd (upd (upd (upd (upd (upd (upd (upd (upd (upd (upd (upd (upd (upd (upd (upd (upd (upd (upd (upd (upd (upd (upd (upd (upd (upd (upd (upd (upd (fun _ => 0) 0 97) 1 122) 2 32) 3 224) 4 246) 5 32) 6 248) 7 254) 8 32) 9 945) 10 969) 11 32) 12 1072) 13 1103) 14 32) 15 1104) 16 1119) 17 80) 18 107) 19 107) 20 (-8383)) 21 115) 22 115) 23 (-268)) 24 229) 25 229) 26 (-8262)) 27 181) 28 181) 29 (-775)) 30 962) 31 962) 32 (-1)) 33 962) 34 962) 35 31) (upd (upd (upd (upd (upd (upd (upd (upd (upd (upd (upd (upd (upd (upd (upd (upd (fun _ => 0) 0 48) 1 57) 2 9) 3 10) 4 12) 5 13) 6 32) 7 32) 8 48) 9 57) 10 65) 11 90) 12 95) 13 95) 14 97) 15 122) (upd (upd (upd (upd (upd (upd (upd (upd (upd (upd (upd (upd (upd (upd (upd (upd (upd (upd (upd (upd (upd (upd (upd (upd (upd (upd (upd (upd (fun _ => 0) 0 65) 1 90) 2 97) 3 122) 4 170) 5 170) 6 181) 7 181) 8 186) 9 186) 10 192) 11 214) 12 216) 13 246) 14 248) 15 687) 16 880) 17 1023) 18 1024) 19 1279) 20 48) 21 57) 22 178) 23 179) 24 185) 25 185) 26 188) 27 190) (upd (upd (upd (upd (upd (upd (upd (upd (upd (upd (upd (upd (upd (upd (upd (upd (upd (upd (upd (upd (upd (upd (fun _ => 0) 0 48) 1 57) 2 65) 3 90) 4 97) 5 122) 6 65) 7 90) 8 97) 9 122) 10 33) 11 47) 12 58) 13 64) 14 91) 15 96) 16 123) 17 126) 18 9) 19 13) 20 32) 21 32) ++ [(a_out, .inl (cL, 1, .inr (.inl (fun _ => 0))))])) [1, 3, 25, 4, 15, 19, 28, 29, 30, 31, 18, 0, 32, 2, 26, 27, 5, 6, 7, 8, 9, 10, 11, 12, 13, 14, 16, 17, 20, 21, 22, 23, 24, 33, 34, 35, 36, 37, 38, 39, 40, 41, 42, 43, 44, 45, 46, 47, 48, 49, 50, 51, 52, 53, 54, 55, 56, 57, 58, 59] rfl
  have hD := hD.sub (ws' := (w_LAW cI tS q2_1 q2_2 q2_3 q2_25 q2_26 q2_27 q2_4 q2_5 q2_6 q2_7 q2_8 q2_9 q2_10 q2_11 q2_12 q2_13 q2_14 q2_15 q2_16 q2_17 q2_19 q2_20 q2_21 q2_22 q2_23 q2_24 q2_28 q2_29 q2_30 q2_31 q2_18 q1 q3 q4_1 q4_2 q4_3 q4_4 q4_5 q4_6 q4_7 q4_8 q4_9 q4_10 q4_11 q4_12 q4_13 q4_14 q4_15 q4_16 q4_17 q4_18 q4_19 q4_20 q4_21 q4_22 q4_23 q4_24 q4_25 q4_26 0 0 (-1) 0 0 0 0 0 0 0 (-1) 0 false 0 (-1) false false 0 0 0 0 0 (-1) false 0 0 0 0 false 0 0 0 0 0 (-1) 0 0 0 0 0 false 0 false 0 0 (fun _ => 0) (fun _ => 0) (fun _ => 0) (fun _ => 0) (fun _ => 0) (fun _ => 0) (fun _ => 0) (fun _ => 0) (fun _ => 0) (fun _ => 0) (fun _ => 0) (fun _ => 0) (fun _ => 0) (fun _ => 0) (fun _ => 0) (fun _ => 0) (fun _ => 0) (fun _ => 0) (fun _ => 0) (fun _ => 0) (fun _ => 0) (fun _ => 0) (fun _ => 0) (fun _ => 0) (fun _ => 0) (fun _ => 0) (fun _ => 0) (fun _ => 0) (fun _ => 0) (fun _ => 0) (fun _ => 0) (fun _ => 0) (fun _ => 0) (fun _ => 0) (fun _ => 0) (fun _ => 0) (fun _ => 0) (fun _ => 0) (fun _ => 0) (fun _ => 0) (fun _ => 0) (fun _ => 0) (upd (upd (upd (upd (upd (upd (upd (upd (upd (upd (upd (upd (upd (upd (upd (upd (upd (upd (upd (upd (upd (upd (upd (upd (upd (upd (upd (upd (upd (upd (upd (upd (upd (upd (upd (upd (fun _ => 0) 0 97) 1 122) 2 32) 3 224) 4 246) 5 32) 6 248) 7 254) 8 32) 9 945) 10 969) 11 32) 12 1072) 13 1103) 14 32) 15 1104) 16 1119) 17 80) 18 107) 19 107) 20 (-8383)) 21 115) 22 115) 23 (-268)) 24 229) 25 229) 26 (-8262)) 27 181) 28 181) 29 (-775)) 30 962) 31 962) 32 (-1)) 33 962) 34 962) 35 31) (upd (upd (upd (upd (upd (upd (upd (upd (upd (upd (upd (upd (upd (upd (upd (upd (fun _ => 0) 0 48) 1 57) 2 9) 3 10) 4 12) 5 13) 6 32) 7 32) 8 48) 9 57) 10 65) 11 90) 12 95) 13 95) 14 97) 15 122) (upd (upd (upd (upd (upd (upd (upd (upd (upd (upd (upd (upd (upd (upd (upd (upd (upd (upd (upd (upd (upd (upd (upd (upd (upd (upd (upd (upd (fun _ => 0) 0 65) 1 90) 2 97) 3 122) 4 170) 5 170) 6 181) 7 181) 8 186) 9 186) 10 192) 11 214) 12 216) 13 246) 14 248) 15 687) 16 880) 17 1023) 18 1024) 19 1279) 20 48) 21 57) 22 178) 23 179) 24 185) 25 185) 26 188) 27 190) (upd (upd (upd (upd (upd (upd (upd (upd (upd (upd (upd (upd (upd (upd (upd (upd (upd (upd (upd (upd (upd (upd (fun _ => 0) 0 48) 1 57) 2 65) 3 90) 4 97) 5 122) 6 65) 7 90) 8 97) 9 122) 10 33) 11 47) 12 58) 13 64) 14 91) 15 96) 16 123) 17 126) 18 9) 19 13) 20 32) 21 32) ++ [(a_out, .inl (cL, 1, .inr (.inl (fun _ => 0))))])) [1, 3, 25, 4, 15, 19, 28, 29, 30, 31, 18, 0, 32, 2, 26, 27, 5, 6, 7, 8, 9, 10, 11, 12, 13, 14, 16, 17, 20, 21, 22, 23, 24, 33, 34, 35, 36, 37, 38, 39, 40, 41, 42, 43, 44, 45, 46, 47, 48, 49, 50, 51, 52, 53, 54, 55, 56, 57, 58, 59] (by decide) rfl
  exact law_loop hfl hL C0 hA hA' hK2 hst0 q2_1 q2_2 q2_3 q2_25 q2_26 q2_27 q2_4 q2_5 q2_6 q2_7 q2_8 q2_9 q2_10 q2_11 q2_12 q2_13 q2_14 q2_15 q2_16 q2_17 q2_19 q2_20 q2_21 q2_22 q2_23 q2_24 q2_28 q2_29 q2_30 q2_31 q2_18 q1 q3 q4_1 q4_2 q4_3 q4_4 q4_5 q4_6 q4_7 q4_8 q4_9 q4_10 q4_11 q4_12 q4_13 q4_14 q4_15 q4_16 q4_17 q4_18 q4_19 q4_20 q4_21 q4_22 q4_23 q4_24 q4_25 q4_26 a_out (upd (upd (upd (upd (upd (upd (upd (upd (upd (upd (upd (upd (upd (upd (upd (upd (upd (upd (upd (upd (upd (upd (upd (upd (upd (upd (upd (upd (upd (upd (upd (upd (upd (upd (upd (upd (fun _ => 0) 0 97) 1 122) 2 32) 3 224) 4 246) 5 32) 6 248) 7 254) 8 32) 9 945) 10 969) 11 32) 12 1072) 13 1103) 14 32) 15 1104) 16 1119) 17 80) 18 107) 19 107) 20 (-8383)) 21 115) 22 115) 23 (-268)) 24 229) 25 229) 26 (-8262)) 27 181) 28 181) 29 (-775)) 30 962) 31 962) 32 (-1)) 33 962) 34 962) 35 31) (upd (upd (upd (upd (upd (upd (upd (upd (upd (upd (upd (upd (upd (upd (upd (upd (fun _ => 0) 0 48) 1 57) 2 9) 3 10) 4 12) 5 13) 6 32) 7 32) 8 48) 9 57) 10 65) 11 90) 12 95) 13 95) 14 97) 15 122) (upd (upd (upd (upd (upd (upd (upd (upd (upd (upd (upd (upd (upd (upd (upd (upd (upd (upd (upd (upd (upd (upd (upd (upd (upd (upd (upd (upd (fun _ => 0) 0 65) 1 90) 2 97) 3 122) 4 170) 5 170) 6 181) 7 181) 8 186) 9 186) 10 192) 11 214) 12 216) 13 246) 14 248) 15 687) 16 880) 17 1023) 18 1024) 19 1279) 20 48) 21 57) 22 178) 23 179) 24 185) 25 185) 26 188) 27 190) (upd (upd (upd (upd (upd (upd (upd (upd (upd (upd (upd (upd (upd (upd (upd (upd (upd (upd (upd (upd (upd (upd (fun _ => 0) 0 48) 1 57) 2 65) 3 90) 4 97) 5 122) 6 65) 7 90) 8 97) 9 122) 10 33) 11 47) 12 58) 13 64) 14 91) 15 96) 16 123) 17 126) 18 9) 19 13) 20 32) 21 32) FU 0 0 0 0 (-1) 0 0 0 0 0 0 0 (-1) 0 false 0 (-1) false false 0 0 0 0 0 (-1) false 0 0 0 0 false 0 0 0 0 0 (-1) 0 0 0 0 0 false 0 false 0 0 (fun _ => 0) (fun _ => 0) (fun _ => 0) (fun _ => 0) (fun _ => 0) (fun _ => 0) (fun _ => 0) (fun _ => 0) (fun _ => 0) (fun _ => 0) (fun _ => 0) (fun _ => 0) (fun _ => 0) (fun _ => 0) (fun _ => 0) (fun _ => 0) (fun _ => 0) (fun _ => 0) (fun _ => 0) (fun _ => 0) (fun _ => 0) (fun _ => 0) (fun _ => 0) (fun _ => 0) (fun _ => 0) (fun _ => 0) (fun _ => 0) (fun _ => 0) (fun _ => 0) (fun _ => 0) (fun _ => 0) (fun _ => 0) (fun _ => 0) (fun _ => 0) (fun _ => 0) (fun _ => 0) (fun _ => 0) (fun _ => 0) (fun _ => 0) (fun _ => 0) (fun _ => 0) (fun _ => 0) (fun _ => 0) _ _ _ (Nat.zero_le _) (show (0 : Int32) = nI (4 * 0) by decide) hP hD hS (lv_sub hl [4, 3, 2, 1, 0] rfl) hpure
