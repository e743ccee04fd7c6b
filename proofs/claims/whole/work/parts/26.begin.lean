-- a start with this script: the printed witness, with another script in its first cell
def sc0_a : Array Value := #[.int 0, .int 5988653, .int 1550866525, .int 7, .int 1, .int 0, .int 0, .int 0, .int 2, .int 0, .int 0, .int 0]
def ab_s : State := start1.aboutOf sc0_a
theorem ab_code {a : Array Value} {s t : State} (h : s.vm = t.vm) {y : MethodName} {b : ByteArray} {n : Nat} {r : Option FieldType} (hs : (Cond.code y b n r).before a s = true) : (Cond.code y b n r).before a t = true := by
  have e : s.methodNamed? y = t.methodNamed? y := by unfold State.methodNamed?; rw [h]
  unfold Cond.before Cond.holds Cond.value at hs ⊢
  rw [← h, ← e]
  exact hs
theorem ab_vm : start1.about.vm = ab_s.vm := rfl
set_option maxRecDepth 16384 in
theorem ab_o_1_0 : (tables_1_1.take 40).all (fun c => su_isCode c || c.before start1.args0 ab_s) = true := by decide +kernel
set_option maxRecDepth 16384 in
theorem ab_o_1_1 : ((tables_1_1.drop 40).take 40).all (fun c => su_isCode c || c.before start1.args0 ab_s) = true := by decide +kernel
set_option maxRecDepth 16384 in
theorem ab_o_1_2 : (((tables_1_1.drop 40).drop 40).take 40).all (fun c => su_isCode c || c.before start1.args0 ab_s) = true := by decide +kernel
set_option maxRecDepth 16384 in
theorem ab_o_1_3 : ((((tables_1_1.drop 40).drop 40).drop 40).take 40).all (fun c => su_isCode c || c.before start1.args0 ab_s) = true := by decide +kernel
set_option maxRecDepth 16384 in
theorem ab_o_1_4 : (((((tables_1_1.drop 40).drop 40).drop 40).drop 40).take 40).all (fun c => su_isCode c || c.before start1.args0 ab_s) = true := by decide +kernel
set_option maxRecDepth 16384 in
theorem ab_o_1_5 : ((((((tables_1_1.drop 40).drop 40).drop 40).drop 40).drop 40).take 40).all (fun c => su_isCode c || c.before start1.args0 ab_s) = true := by decide +kernel
set_option maxRecDepth 16384 in
theorem ab_o_1_6 : ((((((tables_1_1.drop 40).drop 40).drop 40).drop 40).drop 40).drop 40).all (fun c => su_isCode c || c.before start1.args0 ab_s) = true := by decide +kernel
theorem ab_a_1 : tables_1_1.all (fun c => su_isCode c || c.before start1.args0 ab_s) = true := (start1.su_all_split _ 40 tables_1_1 ab_o_1_0 (start1.su_all_split _ 40 (tables_1_1.drop 40) ab_o_1_1 (start1.su_all_split _ 40 ((tables_1_1.drop 40).drop 40) ab_o_1_2 (start1.su_all_split _ 40 (((tables_1_1.drop 40).drop 40).drop 40) ab_o_1_3 (start1.su_all_split _ 40 ((((tables_1_1.drop 40).drop 40).drop 40).drop 40) ab_o_1_4 (start1.su_all_split _ 40 (((((tables_1_1.drop 40).drop 40).drop 40).drop 40).drop 40) ab_o_1_5 ab_o_1_6))))))
set_option maxRecDepth 16384 in
theorem ab_o_2_0 : (tables_1_2.take 40).all (fun c => su_isCode c || c.before start1.args0 ab_s) = true := by decide +kernel
set_option maxRecDepth 16384 in
theorem ab_o_2_1 : ((tables_1_2.drop 40).take 40).all (fun c => su_isCode c || c.before start1.args0 ab_s) = true := by decide +kernel
set_option maxRecDepth 16384 in
theorem ab_o_2_2 : (((tables_1_2.drop 40).drop 40).take 40).all (fun c => su_isCode c || c.before start1.args0 ab_s) = true := by decide +kernel
set_option maxRecDepth 16384 in
theorem ab_o_2_3 : ((((tables_1_2.drop 40).drop 40).drop 40).take 40).all (fun c => su_isCode c || c.before start1.args0 ab_s) = true := by decide +kernel
set_option maxRecDepth 16384 in
theorem ab_o_2_4 : (((((tables_1_2.drop 40).drop 40).drop 40).drop 40).take 40).all (fun c => su_isCode c || c.before start1.args0 ab_s) = true := by decide +kernel
set_option maxRecDepth 16384 in
theorem ab_o_2_5 : ((((((tables_1_2.drop 40).drop 40).drop 40).drop 40).drop 40).take 40).all (fun c => su_isCode c || c.before start1.args0 ab_s) = true := by decide +kernel
set_option maxRecDepth 16384 in
theorem ab_o_2_6 : ((((((tables_1_2.drop 40).drop 40).drop 40).drop 40).drop 40).drop 40).all (fun c => su_isCode c || c.before start1.args0 ab_s) = true := by decide +kernel
theorem ab_a_2 : tables_1_2.all (fun c => su_isCode c || c.before start1.args0 ab_s) = true := (start1.su_all_split _ 40 tables_1_2 ab_o_2_0 (start1.su_all_split _ 40 (tables_1_2.drop 40) ab_o_2_1 (start1.su_all_split _ 40 ((tables_1_2.drop 40).drop 40) ab_o_2_2 (start1.su_all_split _ 40 (((tables_1_2.drop 40).drop 40).drop 40) ab_o_2_3 (start1.su_all_split _ 40 ((((tables_1_2.drop 40).drop 40).drop 40).drop 40) ab_o_2_4 (start1.su_all_split _ 40 (((((tables_1_2.drop 40).drop 40).drop 40).drop 40).drop 40) ab_o_2_5 ab_o_2_6))))))
set_option maxRecDepth 16384 in
theorem ab_o_3_0 : (tables_1_3.take 40).all (fun c => su_isCode c || c.before start1.args0 ab_s) = true := by decide +kernel
set_option maxRecDepth 16384 in
theorem ab_o_3_1 : ((tables_1_3.drop 40).take 40).all (fun c => su_isCode c || c.before start1.args0 ab_s) = true := by decide +kernel
set_option maxRecDepth 16384 in
theorem ab_o_3_2 : (((tables_1_3.drop 40).drop 40).take 40).all (fun c => su_isCode c || c.before start1.args0 ab_s) = true := by decide +kernel
set_option maxRecDepth 16384 in
theorem ab_o_3_3 : ((((tables_1_3.drop 40).drop 40).drop 40).take 40).all (fun c => su_isCode c || c.before start1.args0 ab_s) = true := by decide +kernel
set_option maxRecDepth 16384 in
theorem ab_o_3_4 : (((((tables_1_3.drop 40).drop 40).drop 40).drop 40).take 40).all (fun c => su_isCode c || c.before start1.args0 ab_s) = true := by decide +kernel
set_option maxRecDepth 16384 in
theorem ab_o_3_5 : ((((((tables_1_3.drop 40).drop 40).drop 40).drop 40).drop 40).take 40).all (fun c => su_isCode c || c.before start1.args0 ab_s) = true := by decide +kernel
set_option maxRecDepth 16384 in
theorem ab_o_3_6 : ((((((tables_1_3.drop 40).drop 40).drop 40).drop 40).drop 40).drop 40).all (fun c => su_isCode c || c.before start1.args0 ab_s) = true := by decide +kernel
theorem ab_a_3 : tables_1_3.all (fun c => su_isCode c || c.before start1.args0 ab_s) = true := (start1.su_all_split _ 40 tables_1_3 ab_o_3_0 (start1.su_all_split _ 40 (tables_1_3.drop 40) ab_o_3_1 (start1.su_all_split _ 40 ((tables_1_3.drop 40).drop 40) ab_o_3_2 (start1.su_all_split _ 40 (((tables_1_3.drop 40).drop 40).drop 40) ab_o_3_3 (start1.su_all_split _ 40 ((((tables_1_3.drop 40).drop 40).drop 40).drop 40) ab_o_3_4 (start1.su_all_split _ 40 (((((tables_1_3.drop 40).drop 40).drop 40).drop 40).drop 40) ab_o_3_5 ab_o_3_6))))))
set_option maxRecDepth 16384 in
theorem ab_o_4_0 : (tables_1_4.take 40).all (fun c => su_isCode c || c.before start1.args0 ab_s) = true := by decide +kernel
set_option maxRecDepth 16384 in
theorem ab_o_4_1 : ((tables_1_4.drop 40).take 40).all (fun c => su_isCode c || c.before start1.args0 ab_s) = true := by decide +kernel
set_option maxRecDepth 16384 in
theorem ab_o_4_2 : (((tables_1_4.drop 40).drop 40).take 40).all (fun c => su_isCode c || c.before start1.args0 ab_s) = true := by decide +kernel
set_option maxRecDepth 16384 in
theorem ab_o_4_3 : ((((tables_1_4.drop 40).drop 40).drop 40).take 40).all (fun c => su_isCode c || c.before start1.args0 ab_s) = true := by decide +kernel
set_option maxRecDepth 16384 in
theorem ab_o_4_4 : (((((tables_1_4.drop 40).drop 40).drop 40).drop 40).take 40).all (fun c => su_isCode c || c.before start1.args0 ab_s) = true := by decide +kernel
set_option maxRecDepth 16384 in
theorem ab_o_4_5 : ((((((tables_1_4.drop 40).drop 40).drop 40).drop 40).drop 40).take 40).all (fun c => su_isCode c || c.before start1.args0 ab_s) = true := by decide +kernel
set_option maxRecDepth 16384 in
theorem ab_o_4_6 : ((((((tables_1_4.drop 40).drop 40).drop 40).drop 40).drop 40).drop 40).all (fun c => su_isCode c || c.before start1.args0 ab_s) = true := by decide +kernel
theorem ab_a_4 : tables_1_4.all (fun c => su_isCode c || c.before start1.args0 ab_s) = true := (start1.su_all_split _ 40 tables_1_4 ab_o_4_0 (start1.su_all_split _ 40 (tables_1_4.drop 40) ab_o_4_1 (start1.su_all_split _ 40 ((tables_1_4.drop 40).drop 40) ab_o_4_2 (start1.su_all_split _ 40 (((tables_1_4.drop 40).drop 40).drop 40) ab_o_4_3 (start1.su_all_split _ 40 ((((tables_1_4.drop 40).drop 40).drop 40).drop 40) ab_o_4_4 (start1.su_all_split _ 40 (((((tables_1_4.drop 40).drop 40).drop 40).drop 40).drop 40) ab_o_4_5 ab_o_4_6))))))
set_option maxRecDepth 16384 in
theorem ab_o_5_0 : (tables_1_5.take 40).all (fun c => su_isCode c || c.before start1.args0 ab_s) = true := by decide +kernel
set_option maxRecDepth 16384 in
theorem ab_o_5_1 : ((tables_1_5.drop 40).take 40).all (fun c => su_isCode c || c.before start1.args0 ab_s) = true := by decide +kernel
set_option maxRecDepth 16384 in
theorem ab_o_5_2 : (((tables_1_5.drop 40).drop 40).take 40).all (fun c => su_isCode c || c.before start1.args0 ab_s) = true := by decide +kernel
set_option maxRecDepth 16384 in
theorem ab_o_5_3 : ((((tables_1_5.drop 40).drop 40).drop 40).take 40).all (fun c => su_isCode c || c.before start1.args0 ab_s) = true := by decide +kernel
set_option maxRecDepth 16384 in
theorem ab_o_5_4 : (((((tables_1_5.drop 40).drop 40).drop 40).drop 40).take 40).all (fun c => su_isCode c || c.before start1.args0 ab_s) = true := by decide +kernel
set_option maxRecDepth 16384 in
theorem ab_o_5_5 : ((((((tables_1_5.drop 40).drop 40).drop 40).drop 40).drop 40).take 40).all (fun c => su_isCode c || c.before start1.args0 ab_s) = true := by decide +kernel
set_option maxRecDepth 16384 in
theorem ab_o_5_6 : ((((((tables_1_5.drop 40).drop 40).drop 40).drop 40).drop 40).drop 40).all (fun c => su_isCode c || c.before start1.args0 ab_s) = true := by decide +kernel
theorem ab_a_5 : tables_1_5.all (fun c => su_isCode c || c.before start1.args0 ab_s) = true := (start1.su_all_split _ 40 tables_1_5 ab_o_5_0 (start1.su_all_split _ 40 (tables_1_5.drop 40) ab_o_5_1 (start1.su_all_split _ 40 ((tables_1_5.drop 40).drop 40) ab_o_5_2 (start1.su_all_split _ 40 (((tables_1_5.drop 40).drop 40).drop 40) ab_o_5_3 (start1.su_all_split _ 40 ((((tables_1_5.drop 40).drop 40).drop 40).drop 40) ab_o_5_4 (start1.su_all_split _ 40 (((((tables_1_5.drop 40).drop 40).drop 40).drop 40).drop 40) ab_o_5_5 ab_o_5_6))))))
set_option maxRecDepth 16384 in
theorem ab_o_6_0 : (tables_1_6.take 40).all (fun c => su_isCode c || c.before start1.args0 ab_s) = true := by decide +kernel
set_option maxRecDepth 16384 in
theorem ab_o_6_1 : ((tables_1_6.drop 40).take 40).all (fun c => su_isCode c || c.before start1.args0 ab_s) = true := by decide +kernel
set_option maxRecDepth 16384 in
theorem ab_o_6_2 : (((tables_1_6.drop 40).drop 40).take 40).all (fun c => su_isCode c || c.before start1.args0 ab_s) = true := by decide +kernel
set_option maxRecDepth 16384 in
theorem ab_o_6_3 : ((((tables_1_6.drop 40).drop 40).drop 40).take 40).all (fun c => su_isCode c || c.before start1.args0 ab_s) = true := by decide +kernel
set_option maxRecDepth 16384 in
theorem ab_o_6_4 : (((((tables_1_6.drop 40).drop 40).drop 40).drop 40).take 40).all (fun c => su_isCode c || c.before start1.args0 ab_s) = true := by decide +kernel
set_option maxRecDepth 16384 in
theorem ab_o_6_5 : ((((((tables_1_6.drop 40).drop 40).drop 40).drop 40).drop 40).take 40).all (fun c => su_isCode c || c.before start1.args0 ab_s) = true := by decide +kernel
set_option maxRecDepth 16384 in
theorem ab_o_6_6 : ((((((tables_1_6.drop 40).drop 40).drop 40).drop 40).drop 40).drop 40).all (fun c => su_isCode c || c.before start1.args0 ab_s) = true := by decide +kernel
theorem ab_a_6 : tables_1_6.all (fun c => su_isCode c || c.before start1.args0 ab_s) = true := (start1.su_all_split _ 40 tables_1_6 ab_o_6_0 (start1.su_all_split _ 40 (tables_1_6.drop 40) ab_o_6_1 (start1.su_all_split _ 40 ((tables_1_6.drop 40).drop 40) ab_o_6_2 (start1.su_all_split _ 40 (((tables_1_6.drop 40).drop 40).drop 40) ab_o_6_3 (start1.su_all_split _ 40 ((((tables_1_6.drop 40).drop 40).drop 40).drop 40) ab_o_6_4 (start1.su_all_split _ 40 (((((tables_1_6.drop 40).drop 40).drop 40).drop 40).drop 40) ab_o_6_5 ab_o_6_6))))))
theorem ab_words : ∀ c ∈ (Cond.code x code maxLocals ret :: tables_1), c.before start1.args0 ab_s = true := by
  intro c hc
  have hw := start1.words c hc
  by_cases hq : su_isCode c = true
  · cases c with
    | code y b n r => exact ab_code ab_vm hw
    | _ => exact absurd hq (by simp [su_isCode])
  · have key : ∀ l : List Cond, l.all (fun c => su_isCode c || c.before start1.args0 ab_s) = true → c ∈ l → c.before start1.args0 ab_s = true := by
      intro l h m
      have g := List.all_eq_true.mp h c m
      rcases Bool.or_eq_true_iff.mp g with g | g
      · exact absurd g hq
      · exact g
    rcases List.mem_cons.mp hc with h | h
    · exact absurd (by rw [h]; rfl) hq
    · have h1 : c ∈ tables_1_1 ++ (tables_1_2 ++ (tables_1_3 ++ (tables_1_4 ++ (tables_1_5 ++ (tables_1_6))))) := h
      rcases List.mem_append.mp h1 with h2 | h1
      · exact key _ ab_a_1 h2
      rcases List.mem_append.mp h1 with h2 | h1
      · exact key _ ab_a_2 h2
      rcases List.mem_append.mp h1 with h2 | h1
      · exact key _ ab_a_3 h2
      rcases List.mem_append.mp h1 with h2 | h1
      · exact key _ ab_a_4 h2
      rcases List.mem_append.mp h1 with h2 | h1
      · exact key _ ab_a_5 h2
      exact key _ ab_a_6 h1
set_option maxRecDepth 16384 in
theorem ab_start : AtStart classFile x code maxLocals ret World_1 tables_1 room_1 Calls_1 rest_1 Pre_1 launch0 start1.p0 start1.e0 ab_s ⟨0, 0⟩ start1.args0 Lib.HandBits.below0 :=
  ⟨lists_1, trivial, launch0.admits_env _ _ _, launch0.least_env, fairChoices_fair.cas, fairChoices_fair.clock, rfl, by decide +kernel, by decide +kernel,
    (Spec.applies_iff rfl).mpr ⟨rfl, rfl, rfl, by decide +kernel, by decide +kernel, by decide +kernel, launch0.hasRoom_least _ room_1 (by decide +kernel) (by decide +kernel) (by decide +kernel) (by decide +kernel) (by decide +kernel) (by decide +kernel), atoms_intro ab_words⟩,
    trivial, (show rest_1_c.before start1.args0 ab_s = true by decide +kernel), (show (Cond.and given_1 narrow_1).before start1.args0 ab_s = true by decide +kernel)⟩
theorem ab_ints {b : Addr} {xs : List Int32} (ha : start1.args0 = #[.ref b]) (h : ab_s.IntsAt b xs) : xs = sc0 := by
  have eb : b = 0 := by
    have q : some (Value.ref 0) = some (Value.ref b) := by rw [← show start1.args0[0]? = some (Value.ref 0) from rfl, ha]; rfl
    cases q; rfl
  subst eb
  obtain ⟨cell, h1, h2, -, -⟩ := h
  have e : ab_s.arrayAt? 0 = some { cls := 26, slots := sc0_a, vm := .none } := rfl
  rw [e] at h1
  cases h1
  have e2 : sc0.map Value.int = xs.map Value.int := h2
  have inj : ∀ (u v : List Int32), u.map Value.int = v.map Value.int → u = v := by
    intro u
    induction u with
    | nil => intro v q; cases v with
      | nil => rfl
      | cons _ _ => simp at q
    | cons a u ih => intro v q; cases v with
      | nil => simp at q
      | cons c v =>
        simp only [List.map_cons, List.cons.injEq, Value.int.injEq] at q
        rw [q.1, ih v q.2]
  exact (inj _ _ e2).symm

