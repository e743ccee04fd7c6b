theorem st_recv {tS : Nat → Nat → Nat} {A : Nat → Prop} {s : State} {H : Heap} {locs : List Loc} (h : st_ok tS A s) (i : Nat) (hS : va_S A s.heap H locs) : ∃ cell : Cell, H[tS 1 i]? = some cell ∧ cell.vm.isStatics = false ∧ s.vm.findClass "java/lang/String" = some cell.cls := by
  obtain ⟨cell, h1, h2, h3, -⟩ := (h.2.2.1 i).1.kept hS.2.1
  exact ⟨cell, h1, h2, h3⟩
def sxL (i : Nat) : Int32 := Int32.ofNat (sxN i) >>> ((0 : Int32) &&& 31)
def sxC (i k : Nat) : Int32 := ((sxF i k &&& 255).toUInt32 % 65536).toInt32
set_option maxRecDepth 100000 in
set_option maxHeartbeats 4000000 in
theorem c_STR_coder (l : Launch) (dC : Nat → ClassId) (dI : Nat → Nat → Nat) (cI : ClassId) (tS : Nat → Nat → Nat) (sz : Nat) (i : Nat) : Met l y_STR_coder ws_STR_coder ({ frames := 0, cells := 0, slots := 0, locals := 0 }) (va_Pc [.ref (tS 1 i)] (preS (dC, dI) classes [(cI, .int)] tS [] sz)) (va_Qi (fun r (_ : Unit) => r = 0) (fun _ t => posS (dC, dI) classes [(cI, .int)] [] (va_A [] sz) t) (va_A [] sz)) 0 0 (va_A [] sz) := by
  refine Met.ofW (cc := b_STR_coder) (maxL := 1) (ret := (some .byte)) (by decide) rfl ?_
  intro p e s m args below meth c s₁ B hml hv
  obtain ⟨rfl, hsz, hP, hK, hD0, hst0⟩ := hv
  have hx := B.exec
  have hb := B.bytes
  have hr := B.returns
  have hts0 := atoms_spec (ws := ws_STR_coder) B.pre
  have hts : ∀ w ∈ GW, w.before _ s = true := fun w h => hts0 w (List.mem_cons_of_mem _ h)
  have hown : s.vm.findClass R_STR = some m.cls := findClass_of_methodNamed B.named
  have hlocks := B.notSynchronized
  subst hsz
  have hD := hD0.self (sz := s.heap.size)
  generalize hAe : va_A [] s.heap.size = A at hD hst0 ⊢
  have hA : ∀ q : Nat, s.heap.size ≤ q → A q := fun q h => by rw [← hAe]; exact Or.inr h
  have hS : va_S A s.heap s.heap [] := va_S.rf
  have hl := lv_entry ([.ref (tS 1 i)]) (n := 1) (Nat.le_of_ble_eq_true rfl)
  rw [lg_entry_eq]
  generalize (lg_sl ([.ref (tS 1 i)]) ++ List.replicate (1 - (lg_sl ([.ref (tS 1 i)])).length) Slot.unset).toArray = ls at hl ⊢
  have hl : lv_has ls 1 [(0, .ref (tS 1 i))] := hl
  refine va_gets hx hb hst0.2.2.2.2.2.1 hS hown (hts _ tw_808) (fun _ h9 => h9) d_STR_coder_0 ?_
  refine lv_if_eq (tgt := 13) hx hb d_STR_coder_3 (by decide) (fun c_ => absurd c_ (by decide)) (fun c_ => ?_)
  refine lv_aload_n hx hb d_STR_coder_6 rfl (lv_at hl 0 rfl) ?_
  refine vk_getf hx hb (hst0.2.2.1 i).2.1 hS hown (hts _ tw_1353) (fun _ h9 => h9) d_STR_coder_7 ?_
  refine lv_goto (tgt := 14) hx hb d_STR_coder_10 (by decide) ?_
  exact W.zret (v := 0) hx hb hr (by decide) (fun t ht hW => ⟨⟨_, (), rfl, rfl, ⟨by rw [ht]; exact hP, va_K.moved hW.alike hK, hD⟩⟩, hS.F ht⟩) hS.2.2 d_STR_coder_14
set_option maxRecDepth 100000 in
set_option maxHeartbeats 4000000 in
theorem c_STR_isLatin1 (l : Launch) (dC : Nat → ClassId) (dI : Nat → Nat → Nat) (cI : ClassId) (tS : Nat → Nat → Nat) (sz : Nat) (i : Nat) : Met l y_STR_isLatin1 ws_STR_isLatin1 ({ frames := 0, cells := 0, slots := 0, locals := 0 }) (va_Pc [.ref (tS 1 i)] (preS (dC, dI) classes [(cI, .int)] tS [] sz)) (va_Qi (fun r (_ : Unit) => r = 1) (fun _ t => posS (dC, dI) classes [(cI, .int)] [] (va_A [] sz) t) (va_A [] sz)) 0 0 (va_A [] sz) := by
  refine Met.ofW (cc := b_STR_isLatin1) (maxL := 1) (ret := (some .boolean)) (by decide) rfl ?_
  intro p e s m args below meth c s₁ B hml hv
  obtain ⟨rfl, hsz, hP, hK, hD0, hst0⟩ := hv
  have hx := B.exec
  have hb := B.bytes
  have hr := B.returns
  have hts0 := atoms_spec (ws := ws_STR_isLatin1) B.pre
  have hts : ∀ w ∈ GW, w.before _ s = true := fun w h => hts0 w (List.mem_cons_of_mem _ h)
  have hown : s.vm.findClass R_STR = some m.cls := findClass_of_methodNamed B.named
  have hlocks := B.notSynchronized
  subst hsz
  have hD := hD0.self (sz := s.heap.size)
  generalize hAe : va_A [] s.heap.size = A at hD hst0 ⊢
  have hA : ∀ q : Nat, s.heap.size ≤ q → A q := fun q h => by rw [← hAe]; exact Or.inr h
  have hS : va_S A s.heap s.heap [] := va_S.rf
  have hl := lv_entry ([.ref (tS 1 i)]) (n := 1) (Nat.le_of_ble_eq_true rfl)
  rw [lg_entry_eq]
  generalize (lg_sl ([.ref (tS 1 i)]) ++ List.replicate (1 - (lg_sl ([.ref (tS 1 i)])).length) Slot.unset).toArray = ls at hl ⊢
  have hl : lv_has ls 1 [(0, .ref (tS 1 i))] := hl
  refine va_gets hx hb hst0.2.2.2.2.2.1 hS hown (hts _ tw_808) (fun _ h9 => h9) d_STR_isLatin1_0 ?_
  refine lv_if_eq (tgt := 17) hx hb d_STR_isLatin1_3 (by decide) (fun c_ => absurd c_ (by decide)) (fun c_ => ?_)
  refine lv_aload_n hx hb d_STR_isLatin1_6 rfl (lv_at hl 0 rfl) ?_
  refine vk_getf hx hb (hst0.2.2.1 i).2.1 hS hown (hts _ tw_1353) (fun _ h9 => h9) d_STR_isLatin1_7 ?_
  refine lv_if_ne (tgt := 17) hx hb d_STR_isLatin1_10 (by decide) (fun c_ => absurd rfl c_) (fun c_ => ?_)
  refine lv_iconst (v := 1) hx hb d_STR_isLatin1_13 (by decide) ?_
  refine lv_goto (tgt := 18) hx hb d_STR_isLatin1_14 (by decide) ?_
  exact W.zret (v := 1) hx hb hr (by decide) (fun t ht hW => ⟨⟨_, (), rfl, rfl, ⟨by rw [ht]; exact hP, va_K.moved hW.alike hK, hD⟩⟩, hS.F ht⟩) hS.2.2 d_STR_isLatin1_18
set_option maxRecDepth 100000 in
set_option maxHeartbeats 4000000 in
theorem c_STR_length (l : Launch) (dC : Nat → ClassId) (dI : Nat → Nat → Nat) (cI : ClassId) (tS : Nat → Nat → Nat) (sz : Nat) (i : Nat) : Met l y_STR_length ws_STR_length ({ frames := 1, cells := 0, slots := 0, locals := 20 }) (va_Pc [.ref (tS 1 i)] (preS (dC, dI) classes [(cI, .int)] tS [] sz)) (va_Qi (fun r (_ : Unit) => r = sxL i) (fun _ t => posS (dC, dI) classes [(cI, .int)] [] (va_A [] sz) t) (va_A [] sz)) 0 0 (va_A [] sz) := by
  refine Met.ofW (cc := b_STR_length) (maxL := 1) (ret := (some .int)) (by decide) rfl ?_
  intro p e s m args below meth c s₁ B hml hv
  obtain ⟨rfl, hsz, hP, hK, hD0, hst0⟩ := hv
  have hx := B.exec
  have hb := B.bytes
  have hr := B.returns
  have hts0 := atoms_spec (ws := ws_STR_length) B.pre
  have hts : ∀ w ∈ GW, w.before _ s = true := fun w h => hts0 w (List.mem_cons_of_mem _ h)
  have hown : s.vm.findClass R_STR = some m.cls := findClass_of_methodNamed B.named
  have hlocks := B.notSynchronized
  subst hsz
  have hD := hD0.self (sz := s.heap.size)
  generalize hAe : va_A [] s.heap.size = A at hD hst0 ⊢
  have hA : ∀ q : Nat, s.heap.size ≤ q → A q := fun q h => by rw [← hAe]; exact Or.inr h
  have hS : va_S A s.heap s.heap [] := va_S.rf
  have hl := lv_entry ([.ref (tS 1 i)]) (n := 1) (Nat.le_of_ble_eq_true rfl)
  rw [lg_entry_eq]
  generalize (lg_sl ([.ref (tS 1 i)]) ++ List.replicate (1 - (lg_sl ([.ref (tS 1 i)])).length) Slot.unset).toArray = ls at hl ⊢
  have hl : lv_has ls 1 [(0, .ref (tS 1 i))] := hl
  refine lv_aload_n hx hb d_STR_length_0 rfl (lv_at hl 0 rfl) ?_
  refine vk_getf hx hb (hst0.2.2.1 i).2.2.1 hS hown (hts _ tw_1352) (fun _ h9 => h9) d_STR_length_1 ?_
  refine va_tlen hx hb (hst0.2.2.1 i).2.2.2 hS rfl d_STR_length_4 ?_
  refine lv_aload_n hx hb d_STR_length_5 rfl (lv_at hl 0 rfl) ?_
  have hPc := hP.sub (ws' := ([] : va_W)) [] rfl
  have hDc := hD.sub (ws' := ([] : va_W)) [] (by decide) rfl
  have hFc := va_free (wc := ([] : va_W)) hD hS hA [] rfl
  refine cal_i (va_runV (As := []) (rest := [.int (Int32.ofNat (sxN i))]) ⟨hx, hb, hml, hown, hts⟩ (c_STR_coder l dC dI cI tS s.heap.size i) ⟨callB_of 0 hts (gN tw_807) rfl rfl rfl (hts _ tw_98) (hts _ tw_804) hd_STR_coder ⟨Nat.le_of_ble_eq_true rfl, Nat.le_of_ble_eq_true rfl⟩, hts _ tw_805, hts _ tw_806⟩ (pre_V hK hPc hDc hst0 hS hFc (st_recv hst0 i hS)) rfl rfl hl.1 rfl (lv_room (Nat.le_of_ble_eq_true rfl)) d_STR_length_6 ⟨Nat.zero_le _, Nat.zero_le _⟩) hP hD hS hA [] [] rfl rfl (by decide) (by decide) (fun H locs hP hD hS => ?_)
  have hP := hP.sub (ws' := ([] : va_W)) [] rfl
  have hD := hD.sub (ws' := ([] : va_W)) [] (by decide) rfl
  refine lv_ishr hx hb d_STR_length_9 ?_
  exact W.iret (v := Int32.ofNat (sxN i) >>> ((0 : Int32) &&& 31)) hx hb hr (fun t ht hW => ⟨⟨_, (), rfl, rfl, ⟨by rw [ht]; exact hP, va_K.moved hW.alike hK, hD⟩⟩, hS.F ht⟩) hS.2.2 d_STR_length_10
set_option maxRecDepth 100000 in
set_option maxHeartbeats 4000000 in
theorem c_PRC_checkIndex_n (l : Launch) (dC : Nat → ClassId) (dI : Nat → Nat → Nat) (cI : ClassId) (tS : Nat → Nat → Nat) (sz : Nat) (p0 p1 : Int32) (h0 : ¬ p0 < 0) (h1 : p0 < p1) : Met l y_PRC_checkIndex ws_PRC_checkIndex ({ frames := 0, cells := 0, slots := 0, locals := 0 }) (va_Pc [.int p0, .int p1, .null] (preS (dC, dI) classes [(cI, .int)] tS [] sz)) (va_Qi (fun r (_ : Unit) => r = p0) (fun _ t => posS (dC, dI) classes [(cI, .int)] [] (va_A [] sz) t) (va_A [] sz)) 0 0 (va_A [] sz) := by
  refine Met.ofW (cc := b_PRC_checkIndex) (maxL := 3) (ret := (some .int)) (by decide) rfl ?_
  intro p e s m args below meth c s₁ B hml hv
  obtain ⟨rfl, hsz, hP, hK, hD0, hst0⟩ := hv
  have hx := B.exec
  have hb := B.bytes
  have hr := B.returns
  have hts0 := atoms_spec (ws := ws_PRC_checkIndex) B.pre
  have hts : ∀ w ∈ GW, w.before _ s = true := fun w h => hts0 w (List.mem_cons_of_mem _ h)
  have hown : s.vm.findClass R_PRC = some m.cls := findClass_of_methodNamed B.named
  have hlocks := B.notSynchronized
  subst hsz
  have hD := hD0.self (sz := s.heap.size)
  generalize hAe : va_A [] s.heap.size = A at hD hst0 ⊢
  have hA : ∀ q : Nat, s.heap.size ≤ q → A q := fun q h => by rw [← hAe]; exact Or.inr h
  have hS : va_S A s.heap s.heap [] := va_S.rf
  have hl := lv_entry ([.int p0, .int p1, .null]) (n := 3) (Nat.le_of_ble_eq_true rfl)
  rw [lg_entry_eq]
  generalize (lg_sl ([.int p0, .int p1, .null]) ++ List.replicate (3 - (lg_sl ([.int p0, .int p1, .null])).length) Slot.unset).toArray = ls at hl ⊢
  have hl : lv_has ls 3 [(0, .int p0), (1, .int p1), (2, .null)] := hl
  refine lv_iload_n hx hb d_PRC_checkIndex_0 rfl (lv_at hl 0 rfl) ?_
  refine lv_if_lt (tgt := 9) hx hb d_PRC_checkIndex_1 (by decide) (fun c_ => absurd c_ h0) (fun c_ => ?_)
  refine lv_iload_n hx hb d_PRC_checkIndex_4 rfl (lv_at hl 0 rfl) ?_
  refine lv_iload_n hx hb d_PRC_checkIndex_5 rfl (lv_at hl 1 rfl) ?_
  refine lv_icmp_lt (tgt := 16) hx hb d_PRC_checkIndex_6 (by decide) (fun c_ => ?_) (fun c_ => absurd h1 c_)
  refine lv_iload_n hx hb d_PRC_checkIndex_16 rfl (lv_at hl 0 rfl) ?_
  exact W.iret (v := p0) hx hb hr (fun t ht hW => ⟨⟨_, (), rfl, rfl, ⟨by rw [ht]; exact hP, va_K.moved hW.alike hK, hD⟩⟩, hS.F ht⟩) hS.2.2 d_PRC_checkIndex_17
set_option maxRecDepth 100000 in
set_option maxHeartbeats 4000000 in
theorem c_PRC_checkIndex_r (l : Launch) (dC : Nat → ClassId) (dI : Nat → Nat → Nat) (cI : ClassId) (tS : Nat → Nat → Nat) (sz : Nat) (a2 : Nat) (p0 p1 : Int32) (h0 : ¬ p0 < 0) (h1 : p0 < p1) : Met l y_PRC_checkIndex ws_PRC_checkIndex ({ frames := 0, cells := 0, slots := 0, locals := 0 }) (va_Pc [.int p0, .int p1, .ref a2] (preS (dC, dI) classes [(cI, .int)] tS [] sz)) (va_Qi (fun r (_ : Unit) => r = p0) (fun _ t => posS (dC, dI) classes [(cI, .int)] [] (va_A [] sz) t) (va_A [] sz)) 0 0 (va_A [] sz) := by
  refine Met.ofW (cc := b_PRC_checkIndex) (maxL := 3) (ret := (some .int)) (by decide) rfl ?_
  intro p e s m args below meth c s₁ B hml hv
  obtain ⟨rfl, hsz, hP, hK, hD0, hst0⟩ := hv
  have hx := B.exec
  have hb := B.bytes
  have hr := B.returns
  have hts0 := atoms_spec (ws := ws_PRC_checkIndex) B.pre
  have hts : ∀ w ∈ GW, w.before _ s = true := fun w h => hts0 w (List.mem_cons_of_mem _ h)
  have hown : s.vm.findClass R_PRC = some m.cls := findClass_of_methodNamed B.named
  have hlocks := B.notSynchronized
  subst hsz
  have hD := hD0.self (sz := s.heap.size)
  generalize hAe : va_A [] s.heap.size = A at hD hst0 ⊢
  have hA : ∀ q : Nat, s.heap.size ≤ q → A q := fun q h => by rw [← hAe]; exact Or.inr h
  have hS : va_S A s.heap s.heap [] := va_S.rf
  have hl := lv_entry ([.int p0, .int p1, .ref a2]) (n := 3) (Nat.le_of_ble_eq_true rfl)
  rw [lg_entry_eq]
  generalize (lg_sl ([.int p0, .int p1, .ref a2]) ++ List.replicate (3 - (lg_sl ([.int p0, .int p1, .ref a2])).length) Slot.unset).toArray = ls at hl ⊢
  have hl : lv_has ls 3 [(0, .int p0), (1, .int p1), (2, .ref a2)] := hl
  refine lv_iload_n hx hb d_PRC_checkIndex_0 rfl (lv_at hl 0 rfl) ?_
  refine lv_if_lt (tgt := 9) hx hb d_PRC_checkIndex_1 (by decide) (fun c_ => absurd c_ h0) (fun c_ => ?_)
  refine lv_iload_n hx hb d_PRC_checkIndex_4 rfl (lv_at hl 0 rfl) ?_
  refine lv_iload_n hx hb d_PRC_checkIndex_5 rfl (lv_at hl 1 rfl) ?_
  refine lv_icmp_lt (tgt := 16) hx hb d_PRC_checkIndex_6 (by decide) (fun c_ => ?_) (fun c_ => absurd h1 c_)
  refine lv_iload_n hx hb d_PRC_checkIndex_16 rfl (lv_at hl 0 rfl) ?_
  exact W.iret (v := p0) hx hb hr (fun t ht hW => ⟨⟨_, (), rfl, rfl, ⟨by rw [ht]; exact hP, va_K.moved hW.alike hK, hD⟩⟩, hS.F ht⟩) hS.2.2 d_PRC_checkIndex_17
set_option maxRecDepth 100000 in
set_option maxHeartbeats 4000000 in
theorem c_STR_checkIndex (l : Launch) (dC : Nat → ClassId) (dI : Nat → Nat → Nat) (cI : ClassId) (tS : Nat → Nat → Nat) (sz : Nat) (p0 p1 : Int32) (h0 : ¬ p0 < 0) (h1 : p0 < p1) : Met l y_STR_checkIndex ws_STR_checkIndex ({ frames := 1, cells := 0, slots := 0, locals := 22 }) (va_Pc [.int p0, .int p1] (preS (dC, dI) classes [(cI, .int)] tS [] sz)) (va_Qv (fun _ : Unit => True) (fun _ t => posS (dC, dI) classes [(cI, .int)] [] (va_A [] sz) t) (va_A [] sz)) 0 0 (va_A [] sz) := by
  refine Met.ofW (cc := b_STR_checkIndex) (maxL := 2) (ret := none) (by decide) rfl ?_
  intro p e s m args below meth c s₁ B hml hv
  obtain ⟨rfl, hsz, hP, hK, hD0, hst0⟩ := hv
  have hx := B.exec
  have hb := B.bytes
  have hr := B.returns
  have hts0 := atoms_spec (ws := ws_STR_checkIndex) B.pre
  have hts : ∀ w ∈ GW, w.before _ s = true := fun w h => hts0 w (List.mem_cons_of_mem _ h)
  have hown : s.vm.findClass R_STR = some m.cls := findClass_of_methodNamed B.named
  have hlocks := B.notSynchronized
  subst hsz
  have hD := hD0.self (sz := s.heap.size)
  generalize hAe : va_A [] s.heap.size = A at hD hst0 ⊢
  have hA : ∀ q : Nat, s.heap.size ≤ q → A q := fun q h => by rw [← hAe]; exact Or.inr h
  have hS : va_S A s.heap s.heap [] := va_S.rf
  have hl := lv_entry ([.int p0, .int p1]) (n := 2) (Nat.le_of_ble_eq_true rfl)
  rw [lg_entry_eq]
  generalize (lg_sl ([.int p0, .int p1]) ++ List.replicate (2 - (lg_sl ([.int p0, .int p1])).length) Slot.unset).toArray = ls at hl ⊢
  have hl : lv_has ls 2 [(0, .int p0), (1, .int p1)] := hl
  refine lv_iload_n hx hb d_STR_checkIndex_0 rfl (lv_at hl 0 rfl) ?_
  refine lv_iload_n hx hb d_STR_checkIndex_1 rfl (lv_at hl 1 rfl) ?_
  rcases hst0.2.2.2.2.2.2.1 with hz | ⟨t5, hz⟩
  · refine va_gets hx hb hz hS hown (hts _ tw_825) (fun _ h9 => h9) d_STR_checkIndex_2 ?_
    have hPc := hP.sub (ws' := ([] : va_W)) [] rfl
    have hDc := hD.sub (ws' := ([] : va_W)) [] (by decide) rfl
    have hFc := va_free (wc := ([] : va_W)) hD hS hA [] rfl
    refine cal_i (va_runS (As := [.int p0, .int p1, .null]) (rest := []) ⟨hx, hb, hml, hown, hts⟩ (c_PRC_checkIndex_n l dC dI cI tS s.heap.size p0 p1 h0 h1) ⟨callB_of 3 hts (gN tw_829) rfl rfl rfl (hts _ tw_100) (hts _ tw_827) hd_PRC_checkIndex ⟨Nat.le_of_ble_eq_true rfl, Nat.le_of_ble_eq_true rfl⟩, hts _ tw_828⟩ (pre_S hK hPc hDc hst0 hS hFc) rfl rfl hl.1 rfl (lv_room (Nat.le_of_ble_eq_true rfl)) d_STR_checkIndex_5 ⟨Nat.zero_le _, Nat.zero_le _⟩) hP hD hS hA [] [] rfl rfl (by decide) (by decide) (fun H locs hP hD hS => ?_)
    have hP := hP.sub (ws' := ([] : va_W)) [] rfl
    have hD := hD.sub (ws' := ([] : va_W)) [] (by decide) rfl
    refine lv_pop hx hb d_STR_checkIndex_8 rfl ?_
    exact W.vret hx hb hr (fun t ht hW => ⟨⟨(), rfl, trivial, ⟨by rw [ht]; exact hP, va_K.moved hW.alike hK, hD⟩⟩, hS.F ht⟩) hS.2.2 d_STR_checkIndex_9
  · refine va_gets hx hb hz hS hown (hts _ tw_825) (fun _ h9 => h9) d_STR_checkIndex_2 ?_
    have hPc := hP.sub (ws' := ([] : va_W)) [] rfl
    have hDc := hD.sub (ws' := ([] : va_W)) [] (by decide) rfl
    have hFc := va_free (wc := ([] : va_W)) hD hS hA [] rfl
    refine cal_i (va_runS (As := [.int p0, .int p1, .ref t5]) (rest := []) ⟨hx, hb, hml, hown, hts⟩ (c_PRC_checkIndex_r l dC dI cI tS s.heap.size t5 p0 p1 h0 h1) ⟨callB_of 3 hts (gN tw_829) rfl rfl rfl (hts _ tw_100) (hts _ tw_827) hd_PRC_checkIndex ⟨Nat.le_of_ble_eq_true rfl, Nat.le_of_ble_eq_true rfl⟩, hts _ tw_828⟩ (pre_S hK hPc hDc hst0 hS hFc) rfl rfl hl.1 rfl (lv_room (Nat.le_of_ble_eq_true rfl)) d_STR_checkIndex_5 ⟨Nat.zero_le _, Nat.zero_le _⟩) hP hD hS hA [] [] rfl rfl (by decide) (by decide) (fun H locs hP hD hS => ?_)
    have hP := hP.sub (ws' := ([] : va_W)) [] rfl
    have hD := hD.sub (ws' := ([] : va_W)) [] (by decide) rfl
    refine lv_pop hx hb d_STR_checkIndex_8 rfl ?_
    exact W.vret hx hb hr (fun t ht hW => ⟨⟨(), rfl, trivial, ⟨by rw [ht]; exact hP, va_K.moved hW.alike hK, hD⟩⟩, hS.F ht⟩) hS.2.2 d_STR_checkIndex_9
theorem sx_lt (i : Nat) {x : Int32} (h : vp_in x (sxN i)) : ¬ x < 0 ∧ x < Int32.ofNat (sxN i) := by
  have hn : sxN i < 2 ^ 31 := by
    unfold sxN sxi
    split
    · rename_i h6
      rcases (show i = 0 ∨ i = 1 ∨ i = 2 ∨ i = 3 ∨ i = 4 ∨ i = 5 by omega) with rfl | rfl | rfl | rfl | rfl | rfl <;> decide
    · decide
  obtain ⟨j, hj, rfl⟩ := vp_in_of h hn
  exact ⟨nI_pos (by omega), nI_lt hj hn⟩
set_option maxRecDepth 100000 in
set_option maxHeartbeats 4000000 in
theorem c_SL1_charAt (l : Launch) (dC : Nat → ClassId) (dI : Nat → Nat → Nat) (cI : ClassId) (tS : Nat → Nat → Nat) (sz : Nat) (i : Nat) (p1 : Int32) (hin : vp_in p1 (sxN i)) : Met l y_SL1_charAt ws_SL1_charAt ({ frames := 2, cells := 0, slots := 0, locals := 43 }) (va_Pc [.ref (tS 2 i), .int p1] (preS (dC, dI) classes [(cI, .int)] tS [] sz)) (va_Qi (fun r (_ : Unit) => r = sxC i p1.toNatClampNeg) (fun _ t => posS (dC, dI) classes [(cI, .int)] [] (va_A [] sz) t) (va_A [] sz)) 0 0 (va_A [] sz) := by
  refine Met.ofW (cc := b_SL1_charAt) (maxL := 2) (ret := (some .char)) (by decide) rfl ?_
  intro p e s m args below meth c s₁ B hml hv
  obtain ⟨rfl, hsz, hP, hK, hD0, hst0⟩ := hv
  have hx := B.exec
  have hb := B.bytes
  have hr := B.returns
  have hts0 := atoms_spec (ws := ws_SL1_charAt) B.pre
  have hts : ∀ w ∈ GW, w.before _ s = true := fun w h => hts0 w (List.mem_cons_of_mem _ h)
  have hown : s.vm.findClass R_SL1 = some m.cls := findClass_of_methodNamed B.named
  have hlocks := B.notSynchronized
  subst hsz
  have hD := hD0.self (sz := s.heap.size)
  generalize hAe : va_A [] s.heap.size = A at hD hst0 ⊢
  have hA : ∀ q : Nat, s.heap.size ≤ q → A q := fun q h => by rw [← hAe]; exact Or.inr h
  have hS : va_S A s.heap s.heap [] := va_S.rf
  have hl := lv_entry ([.ref (tS 2 i), .int p1]) (n := 2) (Nat.le_of_ble_eq_true rfl)
  rw [lg_entry_eq]
  generalize (lg_sl ([.ref (tS 2 i), .int p1]) ++ List.replicate (2 - (lg_sl ([.ref (tS 2 i), .int p1])).length) Slot.unset).toArray = ls at hl ⊢
  have hl : lv_has ls 2 [(0, .ref (tS 2 i)), (1, .int p1)] := hl
  refine lv_iload_n hx hb d_SL1_charAt_0 rfl (lv_at hl 1 rfl) ?_
  refine lv_aload_n hx hb d_SL1_charAt_1 rfl (lv_at hl 0 rfl) ?_
  refine va_tlen hx hb (hst0.2.2.1 i).2.2.2 hS rfl d_SL1_charAt_2 ?_
  have hPc := hP.sub (ws' := ([] : va_W)) [] rfl
  have hDc := hD.sub (ws' := ([] : va_W)) [] (by decide) rfl
  have hFc := va_free (wc := ([] : va_W)) hD hS hA [] rfl
  refine cal_v (va_runS (As := [.int p1, .int (Int32.ofNat (sxN i))]) (rest := []) ⟨hx, hb, hml, hown, hts⟩ (c_STR_checkIndex l dC dI cI tS s.heap.size p1 (Int32.ofNat (sxN i)) (sx_lt i hin).1 (sx_lt i hin).2) ⟨callB_of 2 hts (gN tw_824) rfl rfl rfl (hts _ tw_98) (hts _ tw_822) hd_STR_checkIndex ⟨Nat.le_of_ble_eq_true rfl, Nat.le_of_ble_eq_true rfl⟩, hts _ tw_823⟩ (pre_S hK hPc hDc hst0 hS hFc) rfl rfl hl.1 rfl (lv_room (Nat.le_of_ble_eq_true rfl)) d_SL1_charAt_3 ⟨Nat.zero_le _, Nat.zero_le _⟩) hP hD hS hA [] [] rfl rfl (by decide) (by decide) (fun H locs hP hD hS => ?_)
  have hP := hP.sub (ws' := ([] : va_W)) [] rfl
  have hD := hD.sub (ws' := ([] : va_W)) [] (by decide) rfl
  refine lv_aload_n hx hb d_SL1_charAt_6 rfl (lv_at hl 0 rfl) ?_
  refine lv_iload_n hx hb d_SL1_charAt_7 rfl (lv_at hl 1 rfl) ?_
  refine va_tb hx hb (hst0.2.2.1 i).2.2.2 hS hin rfl d_SL1_charAt_8 ?_
  refine lv_sipush (v := 255) hx hb d_SL1_charAt_9 (by decide) ?_
  refine lv_iand hx hb d_SL1_charAt_12 ?_
  refine lv_i2c (v := sxC i p1.toNatClampNeg) hx hb d_SL1_charAt_13 rfl ?_
  exact W.zret (v := sxC i p1.toNatClampNeg) hx hb hr (pk_nc _) (fun t ht hW => ⟨⟨_, (), rfl, rfl, ⟨by rw [ht]; exact hP, va_K.moved hW.alike hK, hD⟩⟩, hS.F ht⟩) hS.2.2 d_SL1_charAt_14
set_option maxRecDepth 100000 in
set_option maxHeartbeats 4000000 in
theorem c_STR_charAt (l : Launch) (dC : Nat → ClassId) (dI : Nat → Nat → Nat) (cI : ClassId) (tS : Nat → Nat → Nat) (sz : Nat) (i : Nat) (p1 : Int32) (hin : vp_in p1 (sxN i)) : Met l y_STR_charAt ws_STR_charAt ({ frames := 3, cells := 0, slots := 0, locals := 64 }) (va_Pc [.ref (tS 1 i), .int p1] (preS (dC, dI) classes [(cI, .int)] tS [] sz)) (va_Qi (fun r (_ : Unit) => r = sxC i p1.toNatClampNeg) (fun _ t => posS (dC, dI) classes [(cI, .int)] [] (va_A [] sz) t) (va_A [] sz)) 0 0 (va_A [] sz) := by
  refine Met.ofW (cc := b_STR_charAt) (maxL := 2) (ret := (some .char)) (by decide) rfl ?_
  intro p e s m args below meth c s₁ B hml hv
  obtain ⟨rfl, hsz, hP, hK, hD0, hst0⟩ := hv
  have hx := B.exec
  have hb := B.bytes
  have hr := B.returns
  have hts0 := atoms_spec (ws := ws_STR_charAt) B.pre
  have hts : ∀ w ∈ GW, w.before _ s = true := fun w h => hts0 w (List.mem_cons_of_mem _ h)
  have hown : s.vm.findClass R_STR = some m.cls := findClass_of_methodNamed B.named
  have hlocks := B.notSynchronized
  subst hsz
  have hD := hD0.self (sz := s.heap.size)
  generalize hAe : va_A [] s.heap.size = A at hD hst0 ⊢
  have hA : ∀ q : Nat, s.heap.size ≤ q → A q := fun q h => by rw [← hAe]; exact Or.inr h
  have hS : va_S A s.heap s.heap [] := va_S.rf
  have hl := lv_entry ([.ref (tS 1 i), .int p1]) (n := 2) (Nat.le_of_ble_eq_true rfl)
  rw [lg_entry_eq]
  generalize (lg_sl ([.ref (tS 1 i), .int p1]) ++ List.replicate (2 - (lg_sl ([.ref (tS 1 i), .int p1])).length) Slot.unset).toArray = ls at hl ⊢
  have hl : lv_has ls 2 [(0, .ref (tS 1 i)), (1, .int p1)] := hl
  refine lv_aload_n hx hb d_STR_charAt_0 rfl (lv_at hl 0 rfl) ?_
  have hPc := hP.sub (ws' := ([] : va_W)) [] rfl
  have hDc := hD.sub (ws' := ([] : va_W)) [] (by decide) rfl
  have hFc := va_free (wc := ([] : va_W)) hD hS hA [] rfl
  refine cal_i (va_runV (As := []) (rest := []) ⟨hx, hb, hml, hown, hts⟩ (c_STR_isLatin1 l dC dI cI tS s.heap.size i) ⟨callB_of 0 hts (gN tw_818) rfl rfl rfl (hts _ tw_98) (hts _ tw_815) hd_STR_isLatin1 ⟨Nat.le_of_ble_eq_true rfl, Nat.le_of_ble_eq_true rfl⟩, hts _ tw_816, hts _ tw_817⟩ (pre_V hK hPc hDc hst0 hS hFc (st_recv hst0 i hS)) rfl rfl hl.1 rfl (lv_room (Nat.le_of_ble_eq_true rfl)) d_STR_charAt_1 ⟨Nat.zero_le _, Nat.zero_le _⟩) hP hD hS hA [] [] rfl rfl (by decide) (by decide) (fun H locs hP hD hS => ?_)
  have hP := hP.sub (ws' := ([] : va_W)) [] rfl
  have hD := hD.sub (ws' := ([] : va_W)) [] (by decide) rfl
  refine lv_if_eq (tgt := 16) hx hb d_STR_charAt_4 (by decide) (fun c_ => absurd c_ (by decide)) (fun c_ => ?_)
  refine lv_aload_n hx hb d_STR_charAt_7 rfl (lv_at hl 0 rfl) ?_
  refine vk_getf hx hb (hst0.2.2.1 i).2.2.1 hS hown (hts _ tw_1352) (fun _ h9 => h9) d_STR_charAt_8 ?_
  refine lv_iload_n hx hb d_STR_charAt_11 rfl (lv_at hl 1 rfl) ?_
  have hPc := hP.sub (ws' := ([] : va_W)) [] rfl
  have hDc := hD.sub (ws' := ([] : va_W)) [] (by decide) rfl
  have hFc := va_free (wc := ([] : va_W)) hD hS hA [] rfl
  refine cal_i (va_runS (As := [.ref (tS 2 i), .int p1]) (rest := []) ⟨hx, hb, hml, hown, hts⟩ (c_SL1_charAt l dC dI cI tS H.size i p1 hin) ⟨callB_of 2 hts (gN tw_821) rfl rfl rfl (hts _ tw_99) (hts _ tw_819) hd_SL1_charAt ⟨Nat.le_of_ble_eq_true rfl, Nat.le_of_ble_eq_true rfl⟩, hts _ tw_820⟩ (pre_S hK hPc hDc hst0 hS hFc) rfl rfl hl.1 rfl (lv_room (Nat.le_of_ble_eq_true rfl)) d_STR_charAt_12 ⟨Nat.zero_le _, Nat.zero_le _⟩) hP hD hS hA [] [] rfl rfl (by decide) (by decide) (fun H locs hP hD hS => ?_)
  have hP := hP.sub (ws' := ([] : va_W)) [] rfl
  have hD := hD.sub (ws' := ([] : va_W)) [] (by decide) rfl
  exact W.zret (v := sxC i p1.toNatClampNeg) hx hb hr (pk_nc _) (fun t ht hW => ⟨⟨_, (), rfl, rfl, ⟨by rw [ht]; exact hP, va_K.moved hW.alike hK, hD⟩⟩, hS.F ht⟩) hS.2.2 d_STR_charAt_15
