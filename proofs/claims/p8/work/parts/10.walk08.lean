def f_PN_range (tre_nodes : Int32) (tre_firstRanges : Nat → Int32) (tre_rangeCounts : Nat → Int32) (tre_begins : Nat → Int32) (tre_ends : Nat → Int32) (p1 : Int32) (p2 : Int32) (p3 : Int32) : Option Int32 :=
  bnd_ (f_TRE_rangeEdge tre_nodes tre_firstRanges tre_rangeCounts tre_begins tre_ends p1 p2 p3) (fun x7 => some x7)
set_option maxRecDepth 100000 in
set_option maxHeartbeats 4000000 in
theorem c_PN_range (l : Launch) (dC : Nat → ClassId) (dI : Nat → Nat → Nat) (cI : ClassId) (tS : Nat → Nat → Nat) (sz : Nat) (a_tre a_tre_kinds a_tre_values a_tre_mosts a_tre_owners a_tre_sizes a_tre_firstRanges a_tre_rangeCounts a_tre_begins a_tre_ends a_tre_waiting a_pn a_pat a_mis a_grp a_rdr : Nat) (tre_nodes : Int32) (tre_ranges : Int32) (tre_waits : Int32) (tre_firstRanges : Nat → Int32) (tre_rangeCounts : Nat → Int32) (tre_begins : Nat → Int32) (tre_ends : Nat → Int32) (p1 : Int32) (p2 : Int32) (p3 : Int32) (R0 : Int32) (hf : f_PN_range tre_nodes tre_firstRanges tre_rangeCounts tre_begins tre_ends p1 p2 p3 = some R0) : Met l y_PN_range ws_PN_range ({ frames := 1, cells := 0, slots := 0, locals := 23 }) (va_Pc [.ref a_pn, .int p1, .int p2, .int p3] (preS (dC, dI) classes [(cI, .int)] tS (w_47 cI tS a_tre a_tre_kinds a_tre_values a_tre_mosts a_tre_owners a_tre_sizes a_tre_firstRanges a_tre_rangeCounts a_tre_begins a_tre_ends a_tre_waiting a_pn a_pat a_mis a_grp a_rdr tre_nodes tre_ranges tre_waits tre_firstRanges tre_rangeCounts tre_begins tre_ends) sz)) (va_Qi (fun r (_ : Unit) => r = R0) (fun _ t => posS (dC, dI) classes [(cI, .int)] (w_47 cI tS a_tre a_tre_kinds a_tre_values a_tre_mosts a_tre_owners a_tre_sizes a_tre_firstRanges a_tre_rangeCounts a_tre_begins a_tre_ends a_tre_waiting a_pn a_pat a_mis a_grp a_rdr tre_nodes tre_ranges tre_waits tre_firstRanges tre_rangeCounts tre_begins tre_ends) (va_A (w_47 cI tS a_tre a_tre_kinds a_tre_values a_tre_mosts a_tre_owners a_tre_sizes a_tre_firstRanges a_tre_rangeCounts a_tre_begins a_tre_ends a_tre_waiting a_pn a_pat a_mis a_grp a_rdr tre_nodes tre_ranges tre_waits tre_firstRanges tre_rangeCounts tre_begins tre_ends) sz) t) (va_A (w_47 cI tS a_tre a_tre_kinds a_tre_values a_tre_mosts a_tre_owners a_tre_sizes a_tre_firstRanges a_tre_rangeCounts a_tre_begins a_tre_ends a_tre_waiting a_pn a_pat a_mis a_grp a_rdr tre_nodes tre_ranges tre_waits tre_firstRanges tre_rangeCounts tre_begins tre_ends) sz)) 0 0 (va_A (w_47 cI tS a_tre a_tre_kinds a_tre_values a_tre_mosts a_tre_owners a_tre_sizes a_tre_firstRanges a_tre_rangeCounts a_tre_begins a_tre_ends a_tre_waiting a_pn a_pat a_mis a_grp a_rdr tre_nodes tre_ranges tre_waits tre_firstRanges tre_rangeCounts tre_begins tre_ends) sz) := by
  refine Met.ofW (cc := b_PN_range) (maxL := 4) (ret := (some .int)) (by decide) rfl ?_
  intro p e s m args below meth c s₁ B hml hv
  obtain ⟨rfl, hsz, hP, hK, hD0, hst0⟩ := hv
  have hx := B.exec
  have hb := B.bytes
  have hr := B.returns
  have hts0 := atoms_spec (ws := ws_PN_range) B.pre
  have hts : ∀ w ∈ GW, w.before _ s = true := fun w h => hts0 w (List.mem_cons_of_mem _ h)
  have hown : s.vm.findClass R_PN = some m.cls := findClass_of_methodNamed B.named
  have hlocks := B.notSynchronized
  subst hsz
  have hD := hD0.self (sz := s.heap.size)
  generalize hAe : va_A (w_47 cI tS a_tre a_tre_kinds a_tre_values a_tre_mosts a_tre_owners a_tre_sizes a_tre_firstRanges a_tre_rangeCounts a_tre_begins a_tre_ends a_tre_waiting a_pn a_pat a_mis a_grp a_rdr tre_nodes tre_ranges tre_waits tre_firstRanges tre_rangeCounts tre_begins tre_ends) s.heap.size = A at hD hst0 ⊢
  have hA : ∀ q : Nat, s.heap.size ≤ q → A q := fun q h => by rw [← hAe]; exact Or.inr h
  have hS : va_S A s.heap s.heap [] := va_S.rf
  have hl := lv_entry ([.ref a_pn, .int p1, .int p2, .int p3]) (n := 4) (Nat.le_of_ble_eq_true rfl)
  rw [lg_entry_eq]
  generalize (lg_sl ([.ref a_pn, .int p1, .int p2, .int p3]) ++ List.replicate (4 - (lg_sl ([.ref a_pn, .int p1, .int p2, .int p3])).length) Slot.unset).toArray = ls at hl ⊢
  have hl : lv_has ls 4 [(0, .ref a_pn), (1, .int p1), (2, .int p2), (3, .int p3)] := hl
  refine lv_aload_n hx hb d_PN_range_0 rfl (lv_at hl 0 rfl) ?_
  refine va_get (D := (dC, dI)) (ci := 11) (v := .ref a_tre) (C := R_PN) (T := F_PN) (N := N_PN) hx hb hts i_PN hown hK hP 1 rfl rfl 2 (by decide) (hts _ tw_427) (fun _ h9 => h9) rfl d_PN_range_1 ?_
  refine lv_iload_n hx hb d_PN_range_4 rfl (lv_at hl 1 rfl) ?_
  refine lv_iload_n hx hb d_PN_range_5 rfl (lv_at hl 2 rfl) ?_
  refine lv_iload_n hx hb d_PN_range_6 rfl (lv_at hl 3 rfl) ?_
  obtain ⟨x7, hg, hf⟩ := bnd hf
  have hPc := hP.sub (ws' := (w_46 cI tS a_tre a_tre_kinds a_tre_values a_tre_mosts a_tre_owners a_tre_sizes a_tre_firstRanges a_tre_rangeCounts a_tre_begins a_tre_ends a_tre_waiting tre_nodes tre_ranges tre_waits tre_firstRanges tre_rangeCounts tre_begins tre_ends)) [0, 2, 3, 4, 5] rfl
  have hDc := hD.sub (ws' := (w_46 cI tS a_tre a_tre_kinds a_tre_values a_tre_mosts a_tre_owners a_tre_sizes a_tre_firstRanges a_tre_rangeCounts a_tre_begins a_tre_ends a_tre_waiting tre_nodes tre_ranges tre_waits tre_firstRanges tre_rangeCounts tre_begins tre_ends)) [0, 2, 3, 4, 5] (by decide) rfl
  have hFc := va_free (wc := (w_46 cI tS a_tre a_tre_kinds a_tre_values a_tre_mosts a_tre_owners a_tre_sizes a_tre_firstRanges a_tre_rangeCounts a_tre_begins a_tre_ends a_tre_waiting tre_nodes tre_ranges tre_waits tre_firstRanges tre_rangeCounts tre_begins tre_ends)) hD hS hA [0, 2, 3, 4, 5] rfl
  refine cal_i (va_runV (As := [.int p1, .int p2, .int p3]) (rest := []) ⟨hx, hb, hml, hown, hts⟩ (c_TRE_rangeEdge l dC dI cI tS s.heap.size a_tre a_tre_kinds a_tre_values a_tre_mosts a_tre_owners a_tre_sizes a_tre_firstRanges a_tre_rangeCounts a_tre_begins a_tre_ends a_tre_waiting tre_nodes tre_ranges tre_waits tre_firstRanges tre_rangeCounts tre_begins tre_ends p1 p2 p3 x7 hg) ⟨callB_of 3 hts (gN tw_472) rfl rfl rfl (hts _ tw_82) (hts _ tw_469) hd_TRE_rangeEdge ⟨Nat.le_of_ble_eq_true rfl, Nat.le_of_ble_eq_true rfl⟩, hts _ tw_470, hts _ tw_471⟩ (pre_V hK hPc hDc hst0 hS hFc (va_recv hK hPc (ci := 3) (q0 := 0) rfl rfl)) rfl rfl hl.1 rfl (lv_room (Nat.le_of_ble_eq_true rfl)) d_PN_range_7 ⟨Nat.zero_le _, Nat.zero_le _⟩) hP hD hS hA [0, 2, 3, 4, 5] [1] rfl rfl (by decide) (by decide) (fun H locs hP hD hS => ?_)
  have hP := hP.sub (ws' := (w_47 cI tS a_tre a_tre_kinds a_tre_values a_tre_mosts a_tre_owners a_tre_sizes a_tre_firstRanges a_tre_rangeCounts a_tre_begins a_tre_ends a_tre_waiting a_pn a_pat a_mis a_grp a_rdr tre_nodes tre_ranges tre_waits tre_firstRanges tre_rangeCounts tre_begins tre_ends)) [1, 0, 2, 3, 4, 5] rfl
  have hD := hD.sub (ws' := (w_47 cI tS a_tre a_tre_kinds a_tre_values a_tre_mosts a_tre_owners a_tre_sizes a_tre_firstRanges a_tre_rangeCounts a_tre_begins a_tre_ends a_tre_waiting a_pn a_pat a_mis a_grp a_rdr tre_nodes tre_ranges tre_waits tre_firstRanges tre_rangeCounts tre_begins tre_ends)) [1, 0, 2, 3, 4, 5] (by decide) rfl
  obtain rfl := Option.some.inj hf
  exact W.iret (v := x7) hx hb hr (fun t ht hW => ⟨⟨_, (), rfl, rfl, ⟨by rw [ht]; exact hP, va_K.moved hW.alike hK, hD⟩⟩, hS.F ht⟩) hS.2.2 d_PN_range_10
def f_GRP_nameByte (grp_howMany : Int32) (grp_lengths : Nat → Int32) (grp_letters : Nat → Int32) (p1 : Int32) (p2 : Int32) : Option Int32 :=
  if p1 < 1 then some (-1) else (if grp_howMany < p1 then some (-1) else (if p2 < 0 then some (-1) else grd (inb p1 10) (if p2 < (grp_lengths p1.toNatClampNeg) then grd (inb ((p1 * 12) + p2) 120) (some (grp_letters ((p1 * 12) + p2).toNatClampNeg)) else some (-1))))
set_option maxRecDepth 100000 in
set_option maxHeartbeats 4000000 in
theorem c_GRP_nameByte (l : Launch) (dC : Nat → ClassId) (dI : Nat → Nat → Nat) (cI : ClassId) (tS : Nat → Nat → Nat) (sz : Nat) (a_grp a_grp_lengths a_grp_letters : Nat) (grp_howMany : Int32) (grp_lengths : Nat → Int32) (grp_letters : Nat → Int32) (p1 : Int32) (p2 : Int32) (R0 : Int32) (hf : f_GRP_nameByte grp_howMany grp_lengths grp_letters p1 p2 = some R0) : Met l y_GRP_nameByte ws_GRP_nameByte ({ frames := 0, cells := 0, slots := 0, locals := 0 }) (va_Pc [.ref a_grp, .int p1, .int p2] (preS (dC, dI) classes [(cI, .int)] tS (w_48 cI tS a_grp a_grp_lengths a_grp_letters grp_howMany grp_lengths grp_letters) sz)) (va_Qi (fun r (_ : Unit) => r = R0) (fun _ t => posS (dC, dI) classes [(cI, .int)] (w_48 cI tS a_grp a_grp_lengths a_grp_letters grp_howMany grp_lengths grp_letters) (va_A (w_48 cI tS a_grp a_grp_lengths a_grp_letters grp_howMany grp_lengths grp_letters) sz) t) (va_A (w_48 cI tS a_grp a_grp_lengths a_grp_letters grp_howMany grp_lengths grp_letters) sz)) 0 0 (va_A (w_48 cI tS a_grp a_grp_lengths a_grp_letters grp_howMany grp_lengths grp_letters) sz) := by
  refine Met.ofW (cc := b_GRP_nameByte) (maxL := 3) (ret := (some .int)) (by decide) rfl ?_
  intro p e s m args below meth c s₁ B hml hv
  obtain ⟨rfl, hsz, hP, hK, hD0, hst0⟩ := hv
  have hx := B.exec
  have hb := B.bytes
  have hr := B.returns
  have hts0 := atoms_spec (ws := ws_GRP_nameByte) B.pre
  have hts : ∀ w ∈ GW, w.before _ s = true := fun w h => hts0 w (List.mem_cons_of_mem _ h)
  have hown : s.vm.findClass R_GRP = some m.cls := findClass_of_methodNamed B.named
  have hlocks := B.notSynchronized
  subst hsz
  have hD := hD0.self (sz := s.heap.size)
  generalize hAe : va_A (w_48 cI tS a_grp a_grp_lengths a_grp_letters grp_howMany grp_lengths grp_letters) s.heap.size = A at hD hst0 ⊢
  have hA : ∀ q : Nat, s.heap.size ≤ q → A q := fun q h => by rw [← hAe]; exact Or.inr h
  have hS : va_S A s.heap s.heap [] := va_S.rf
  have hl := lv_entry ([.ref a_grp, .int p1, .int p2]) (n := 3) (Nat.le_of_ble_eq_true rfl)
  rw [lg_entry_eq]
  generalize (lg_sl ([.ref a_grp, .int p1, .int p2]) ++ List.replicate (3 - (lg_sl ([.ref a_grp, .int p1, .int p2])).length) Slot.unset).toArray = ls at hl ⊢
  have hl : lv_has ls 3 [(0, .ref a_grp), (1, .int p1), (2, .int p2)] := hl
  refine lv_iload_n hx hb d_GRP_nameByte_0 rfl (lv_at hl 1 rfl) ?_
  refine lv_iconst (v := 1) hx hb d_GRP_nameByte_1 (by decide) ?_
  refine lv_icmp_lt (tgt := 27) hx hb d_GRP_nameByte_2 (by decide) (fun c_ => ?_) (fun c_ => ?_)
  · have hf := f_pos c_ hf
    refine lv_iconst (v := (-1)) hx hb d_GRP_nameByte_27 (by decide) ?_
    obtain rfl := Option.some.inj hf
    exact W.iret (v := (-1)) hx hb hr (fun t ht hW => ⟨⟨_, (), rfl, rfl, ⟨by rw [ht]; exact hP, va_K.moved hW.alike hK, hD⟩⟩, hS.F ht⟩) hS.2.2 d_GRP_nameByte_28
  · have hf := f_neg c_ hf
    refine lv_iload_n hx hb d_GRP_nameByte_5 rfl (lv_at hl 1 rfl) ?_
    refine lv_aload_n hx hb d_GRP_nameByte_6 rfl (lv_at hl 0 rfl) ?_
    refine va_get (D := (dC, dI)) (ci := 4) (v := .int grp_howMany) (C := R_GRP) (T := F_GRP) (N := N_GRP) hx hb hts i_GRP hown hK hP 0 rfl rfl 2 (by decide) (hts _ tw_198) (fun _ h9 => h9) rfl d_GRP_nameByte_7 ?_
    refine lv_icmp_gt (tgt := 27) hx hb d_GRP_nameByte_10 (by decide) (fun c_ => ?_) (fun c_ => ?_)
    · have hf := f_pos c_ hf
      refine lv_iconst (v := (-1)) hx hb d_GRP_nameByte_27 (by decide) ?_
      obtain rfl := Option.some.inj hf
      exact W.iret (v := (-1)) hx hb hr (fun t ht hW => ⟨⟨_, (), rfl, rfl, ⟨by rw [ht]; exact hP, va_K.moved hW.alike hK, hD⟩⟩, hS.F ht⟩) hS.2.2 d_GRP_nameByte_28
    · have hf := f_neg c_ hf
      refine lv_iload_n hx hb d_GRP_nameByte_13 rfl (lv_at hl 2 rfl) ?_
      refine lv_if_lt (tgt := 27) hx hb d_GRP_nameByte_14 (by decide) (fun c_ => ?_) (fun c_ => ?_)
      · have hf := f_pos c_ hf
        refine lv_iconst (v := (-1)) hx hb d_GRP_nameByte_27 (by decide) ?_
        obtain rfl := Option.some.inj hf
        exact W.iret (v := (-1)) hx hb hr (fun t ht hW => ⟨⟨_, (), rfl, rfl, ⟨by rw [ht]; exact hP, va_K.moved hW.alike hK, hD⟩⟩, hS.F ht⟩) hS.2.2 d_GRP_nameByte_28
      · have hf := f_neg c_ hf
        refine lv_iload_n hx hb d_GRP_nameByte_17 rfl (lv_at hl 2 rfl) ?_
        refine lv_aload_n hx hb d_GRP_nameByte_18 rfl (lv_at hl 0 rfl) ?_
        refine va_get (D := (dC, dI)) (ci := 4) (v := .ref a_grp_lengths) (C := R_GRP) (T := F_GRP) (N := N_GRP) hx hb hts i_GRP hown hK hP 0 rfl rfl 0 (by decide) (hts _ tw_196) (fun _ h9 => h9) rfl d_GRP_nameByte_19 ?_
        refine lv_iload_n hx hb d_GRP_nameByte_22 rfl (lv_at hl 1 rfl) ?_
        obtain ⟨hin, hf⟩ := grd_in hf
        refine va_iald hx hb hK hP 1 0 rfl rfl hin d_GRP_nameByte_23 ?_
        refine lv_icmp_lt (tgt := 29) hx hb d_GRP_nameByte_24 (by decide) (fun c_ => ?_) (fun c_ => ?_)
        · have hf := f_pos c_ hf
          refine lv_aload_n hx hb d_GRP_nameByte_29 rfl (lv_at hl 0 rfl) ?_
          refine va_get (D := (dC, dI)) (ci := 4) (v := .ref a_grp_letters) (C := R_GRP) (T := F_GRP) (N := N_GRP) hx hb hts i_GRP hown hK hP 0 rfl rfl 1 (by decide) (hts _ tw_197) (fun _ h9 => h9) rfl d_GRP_nameByte_30 ?_
          refine lv_iload_n hx hb d_GRP_nameByte_33 rfl (lv_at hl 1 rfl) ?_
          refine lv_bipush (v := 12) hx hb d_GRP_nameByte_34 (by decide) ?_
          refine lv_imul hx hb d_GRP_nameByte_36 ?_
          refine lv_iload_n hx hb d_GRP_nameByte_37 rfl (lv_at hl 2 rfl) ?_
          refine lv_iadd hx hb d_GRP_nameByte_38 ?_
          obtain ⟨hin, hf⟩ := grd_in hf
          refine va_iald hx hb hK hP 2 0 rfl rfl hin d_GRP_nameByte_39 ?_
          obtain rfl := Option.some.inj hf
          exact W.iret (v := grp_letters ((p1 * 12) + p2).toNatClampNeg) hx hb hr (fun t ht hW => ⟨⟨_, (), rfl, rfl, ⟨by rw [ht]; exact hP, va_K.moved hW.alike hK, hD⟩⟩, hS.F ht⟩) hS.2.2 d_GRP_nameByte_40
        · have hf := f_neg c_ hf
          refine lv_iconst (v := (-1)) hx hb d_GRP_nameByte_27 (by decide) ?_
          obtain rfl := Option.some.inj hf
          exact W.iret (v := (-1)) hx hb hr (fun t ht hW => ⟨⟨_, (), rfl, rfl, ⟨by rw [ht]; exact hP, va_K.moved hW.alike hK, hD⟩⟩, hS.F ht⟩) hS.2.2 d_GRP_nameByte_28
def f_PN_name (grp_howMany : Int32) (grp_lengths : Nat → Int32) (grp_letters : Nat → Int32) (p1 : Int32) (p2 : Int32) : Option Int32 :=
  bnd_ (f_GRP_nameByte grp_howMany grp_lengths grp_letters p1 p2) (fun x6 => some x6)
set_option maxRecDepth 100000 in
set_option maxHeartbeats 4000000 in
theorem c_PN_name (l : Launch) (dC : Nat → ClassId) (dI : Nat → Nat → Nat) (cI : ClassId) (tS : Nat → Nat → Nat) (sz : Nat) (a_grp a_grp_lengths a_grp_letters a_pn a_pat a_mis a_tre a_rdr : Nat) (grp_howMany : Int32) (grp_lengths : Nat → Int32) (grp_letters : Nat → Int32) (p1 : Int32) (p2 : Int32) (R0 : Int32) (hf : f_PN_name grp_howMany grp_lengths grp_letters p1 p2 = some R0) : Met l y_PN_name ws_PN_name ({ frames := 1, cells := 0, slots := 0, locals := 22 }) (va_Pc [.ref a_pn, .int p1, .int p2] (preS (dC, dI) classes [(cI, .int)] tS (w_49 cI tS a_grp a_grp_lengths a_grp_letters a_pn a_pat a_mis a_tre a_rdr grp_howMany grp_lengths grp_letters) sz)) (va_Qi (fun r (_ : Unit) => r = R0) (fun _ t => posS (dC, dI) classes [(cI, .int)] (w_49 cI tS a_grp a_grp_lengths a_grp_letters a_pn a_pat a_mis a_tre a_rdr grp_howMany grp_lengths grp_letters) (va_A (w_49 cI tS a_grp a_grp_lengths a_grp_letters a_pn a_pat a_mis a_tre a_rdr grp_howMany grp_lengths grp_letters) sz) t) (va_A (w_49 cI tS a_grp a_grp_lengths a_grp_letters a_pn a_pat a_mis a_tre a_rdr grp_howMany grp_lengths grp_letters) sz)) 0 0 (va_A (w_49 cI tS a_grp a_grp_lengths a_grp_letters a_pn a_pat a_mis a_tre a_rdr grp_howMany grp_lengths grp_letters) sz) := by
  refine Met.ofW (cc := b_PN_name) (maxL := 3) (ret := (some .int)) (by decide) rfl ?_
  intro p e s m args below meth c s₁ B hml hv
  obtain ⟨rfl, hsz, hP, hK, hD0, hst0⟩ := hv
  have hx := B.exec
  have hb := B.bytes
  have hr := B.returns
  have hts0 := atoms_spec (ws := ws_PN_name) B.pre
  have hts : ∀ w ∈ GW, w.before _ s = true := fun w h => hts0 w (List.mem_cons_of_mem _ h)
  have hown : s.vm.findClass R_PN = some m.cls := findClass_of_methodNamed B.named
  have hlocks := B.notSynchronized
  subst hsz
  have hD := hD0.self (sz := s.heap.size)
  generalize hAe : va_A (w_49 cI tS a_grp a_grp_lengths a_grp_letters a_pn a_pat a_mis a_tre a_rdr grp_howMany grp_lengths grp_letters) s.heap.size = A at hD hst0 ⊢
  have hA : ∀ q : Nat, s.heap.size ≤ q → A q := fun q h => by rw [← hAe]; exact Or.inr h
  have hS : va_S A s.heap s.heap [] := va_S.rf
  have hl := lv_entry ([.ref a_pn, .int p1, .int p2]) (n := 3) (Nat.le_of_ble_eq_true rfl)
  rw [lg_entry_eq]
  generalize (lg_sl ([.ref a_pn, .int p1, .int p2]) ++ List.replicate (3 - (lg_sl ([.ref a_pn, .int p1, .int p2])).length) Slot.unset).toArray = ls at hl ⊢
  have hl : lv_has ls 3 [(0, .ref a_pn), (1, .int p1), (2, .int p2)] := hl
  refine lv_aload_n hx hb d_PN_name_0 rfl (lv_at hl 0 rfl) ?_
  refine va_get (D := (dC, dI)) (ci := 11) (v := .ref a_grp) (C := R_PN) (T := F_PN) (N := N_PN) hx hb hts i_PN hown hK hP 1 rfl rfl 3 (by decide) (hts _ tw_428) (fun _ h9 => h9) rfl d_PN_name_1 ?_
  refine lv_iload_n hx hb d_PN_name_4 rfl (lv_at hl 1 rfl) ?_
  refine lv_iload_n hx hb d_PN_name_5 rfl (lv_at hl 2 rfl) ?_
  obtain ⟨x6, hg, hf⟩ := bnd hf
  have hPc := hP.sub (ws' := (w_48 cI tS a_grp a_grp_lengths a_grp_letters grp_howMany grp_lengths grp_letters)) [0, 2, 3] rfl
  have hDc := hD.sub (ws' := (w_48 cI tS a_grp a_grp_lengths a_grp_letters grp_howMany grp_lengths grp_letters)) [0, 2, 3] (by decide) rfl
  have hFc := va_free (wc := (w_48 cI tS a_grp a_grp_lengths a_grp_letters grp_howMany grp_lengths grp_letters)) hD hS hA [0, 2, 3] rfl
  refine cal_i (va_runV (As := [.int p1, .int p2]) (rest := []) ⟨hx, hb, hml, hown, hts⟩ (c_GRP_nameByte l dC dI cI tS s.heap.size a_grp a_grp_lengths a_grp_letters grp_howMany grp_lengths grp_letters p1 p2 x6 hg) ⟨callB_of 2 hts (gN tw_480) rfl rfl rfl (hts _ tw_83) (hts _ tw_477) hd_GRP_nameByte ⟨Nat.le_of_ble_eq_true rfl, Nat.le_of_ble_eq_true rfl⟩, hts _ tw_478, hts _ tw_479⟩ (pre_V hK hPc hDc hst0 hS hFc (va_recv hK hPc (ci := 4) (q0 := 0) rfl rfl)) rfl rfl hl.1 rfl (lv_room (Nat.le_of_ble_eq_true rfl)) d_PN_name_6 ⟨Nat.zero_le _, Nat.zero_le _⟩) hP hD hS hA [0, 2, 3] [1] rfl rfl (by decide) (by decide) (fun H locs hP hD hS => ?_)
  have hP := hP.sub (ws' := (w_49 cI tS a_grp a_grp_lengths a_grp_letters a_pn a_pat a_mis a_tre a_rdr grp_howMany grp_lengths grp_letters)) [1, 0, 2, 3] rfl
  have hD := hD.sub (ws' := (w_49 cI tS a_grp a_grp_lengths a_grp_letters a_pn a_pat a_mis a_tre a_rdr grp_howMany grp_lengths grp_letters)) [1, 0, 2, 3] (by decide) rfl
  obtain rfl := Option.some.inj hf
  exact W.iret (v := x6) hx hb hr (fun t ht hW => ⟨⟨_, (), rfl, rfl, ⟨by rw [ht]; exact hP, va_K.moved hW.alike hK, hD⟩⟩, hS.F ht⟩) hS.2.2 d_PN_name_9
def f_MOD_put_B34 (p1 : Int64) (p3 : Int32) (K34 : (Int32 × Int32 × Int32 × (Nat → Int32)) → Option (Bool × Int32 × Int32 × (Nat → Int32))) (v4 : Int32) (mod_thrown : Int32) (mod_inHand : Int32) (mod_hand : Nat → Int32) : Option (Bool × Int32 × Int32 × (Nat → Int32)) :=
  if v4 < 0 then some (true, mod_thrown, mod_inHand, mod_hand) else grd (inb mod_inHand 400) (K34 (v4 + (-1), mod_thrown, mod_inHand + 1, upd mod_hand mod_inHand.toNatClampNeg (((p1 >>> ((8 * v4).toInt64 &&& 63)).toInt32) &&& 255)))
def f_MOD_put_L34 (p1 : Int64) (p3 : Int32) (n : Nat) (a : Int32 × Int32 × Int32 × (Nat → Int32)) : Option (Bool × Int32 × Int32 × (Nat → Int32)) :=
  lpF (fun K34 v => f_MOD_put_B34 p1 p3  K34 v.1 v.2.1 v.2.2.1 v.2.2.2) n a
def f_MOD_put (mod_thrown : Int32) (mod_inHand : Int32) (mod_hand : Nat → Int32) (p1 : Int64) (p3 : Int32) : Option (Bool × Int32 × Int32 × (Nat → Int32)) :=
  if p3 < 0 then some (false, 0, mod_inHand, mod_hand) else (if 8 < p3 then some (false, 0, mod_inHand, mod_hand) else (if (mod_inHand + p3) ≤ 400 then f_MOD_put_L34 p1 p3 FU (p3 - 1, 0, mod_inHand, mod_hand) else some (false, 0, mod_inHand, mod_hand)))
set_option maxRecDepth 100000 in
set_option maxHeartbeats 4000000 in
theorem c_MOD_put (l : Launch) (dC : Nat → ClassId) (dI : Nat → Nat → Nat) (cI : ClassId) (tS : Nat → Nat → Nat) (sz : Nat) (a_mod a_mod_hand a_mod_text a_mod_kind a_mod_value a_mod_most a_mod_span a_mod_size a_mod_whose a_mod_rangeFrom a_mod_rangeMany a_mod_begins a_mod_ends a_mod_names a_mod_nameSize a_mod_opened a_mod_number a_mod_flagsBefore a_mod_rows a_mod_parts a_mod_low a_mod_high a_mod_many a_mod_like a_mod_sets a_mod_large a_mod_named : Nat) (mod_thrown : Int32) (mod_inHand : Int32) (mod_n : Int32) (mod_at : Int32) (mod_fault : Int32) (mod_place : Int32) (mod_nodes : Int32) (mod_ranges : Int32) (mod_numbered : Int32) (mod_depth : Int32) (mod_flags : Int32) (mod_repeatable : Bool) (mod_behind : Int32) (mod_notSet : Bool) (mod_least : Int32) (mod_greatest : Int32) (mod_hand : Nat → Int32) (p1 : Int64) (p3 : Int32) (R0 : Bool × Int32 × Int32 × (Nat → Int32)) (hf : f_MOD_put mod_thrown mod_inHand mod_hand p1 p3 = some R0) : Met l y_MOD_put ws_MOD_put ({ frames := 0, cells := 0, slots := 0, locals := 0 }) (va_Pc [.ref a_mod, .long p1, .int p3] (preS (dC, dI) classes [(cI, .int)] tS (w_50 cI tS a_mod a_mod_hand a_mod_text a_mod_kind a_mod_value a_mod_most a_mod_span a_mod_size a_mod_whose a_mod_rangeFrom a_mod_rangeMany a_mod_begins a_mod_ends a_mod_names a_mod_nameSize a_mod_opened a_mod_number a_mod_flagsBefore a_mod_rows a_mod_parts a_mod_low a_mod_high a_mod_many a_mod_like a_mod_sets a_mod_large a_mod_named mod_thrown mod_inHand mod_n mod_at mod_fault mod_place mod_nodes mod_ranges mod_numbered mod_depth mod_flags mod_repeatable mod_behind mod_notSet mod_least mod_greatest mod_hand) sz)) (va_Qi (fun r (_ : Unit) => r = b2i R0.1) (fun _ t => posS (dC, dI) classes [(cI, .int)] (w_50 cI tS a_mod a_mod_hand a_mod_text a_mod_kind a_mod_value a_mod_most a_mod_span a_mod_size a_mod_whose a_mod_rangeFrom a_mod_rangeMany a_mod_begins a_mod_ends a_mod_names a_mod_nameSize a_mod_opened a_mod_number a_mod_flagsBefore a_mod_rows a_mod_parts a_mod_low a_mod_high a_mod_many a_mod_like a_mod_sets a_mod_large a_mod_named R0.2.1 R0.2.2.1 mod_n mod_at mod_fault mod_place mod_nodes mod_ranges mod_numbered mod_depth mod_flags mod_repeatable mod_behind mod_notSet mod_least mod_greatest R0.2.2.2) (va_A (w_50 cI tS a_mod a_mod_hand a_mod_text a_mod_kind a_mod_value a_mod_most a_mod_span a_mod_size a_mod_whose a_mod_rangeFrom a_mod_rangeMany a_mod_begins a_mod_ends a_mod_names a_mod_nameSize a_mod_opened a_mod_number a_mod_flagsBefore a_mod_rows a_mod_parts a_mod_low a_mod_high a_mod_many a_mod_like a_mod_sets a_mod_large a_mod_named mod_thrown mod_inHand mod_n mod_at mod_fault mod_place mod_nodes mod_ranges mod_numbered mod_depth mod_flags mod_repeatable mod_behind mod_notSet mod_least mod_greatest mod_hand) sz) t) (va_A (w_50 cI tS a_mod a_mod_hand a_mod_text a_mod_kind a_mod_value a_mod_most a_mod_span a_mod_size a_mod_whose a_mod_rangeFrom a_mod_rangeMany a_mod_begins a_mod_ends a_mod_names a_mod_nameSize a_mod_opened a_mod_number a_mod_flagsBefore a_mod_rows a_mod_parts a_mod_low a_mod_high a_mod_many a_mod_like a_mod_sets a_mod_large a_mod_named mod_thrown mod_inHand mod_n mod_at mod_fault mod_place mod_nodes mod_ranges mod_numbered mod_depth mod_flags mod_repeatable mod_behind mod_notSet mod_least mod_greatest mod_hand) sz)) 0 0 (va_A (w_50 cI tS a_mod a_mod_hand a_mod_text a_mod_kind a_mod_value a_mod_most a_mod_span a_mod_size a_mod_whose a_mod_rangeFrom a_mod_rangeMany a_mod_begins a_mod_ends a_mod_names a_mod_nameSize a_mod_opened a_mod_number a_mod_flagsBefore a_mod_rows a_mod_parts a_mod_low a_mod_high a_mod_many a_mod_like a_mod_sets a_mod_large a_mod_named mod_thrown mod_inHand mod_n mod_at mod_fault mod_place mod_nodes mod_ranges mod_numbered mod_depth mod_flags mod_repeatable mod_behind mod_notSet mod_least mod_greatest mod_hand) sz) := by
  refine Met.ofW (cc := b_MOD_put) (maxL := 5) (ret := (some .boolean)) (by decide) rfl ?_
  intro p e s m args below meth c s₁ B hml hv
  obtain ⟨rfl, hsz, hP, hK, hD0, hst0⟩ := hv
  have hx := B.exec
  have hb := B.bytes
  have hr := B.returns
  have hts0 := atoms_spec (ws := ws_MOD_put) B.pre
  have hts : ∀ w ∈ GW, w.before _ s = true := fun w h => hts0 w (List.mem_cons_of_mem _ h)
  have hown : s.vm.findClass R_MOD = some m.cls := findClass_of_methodNamed B.named
  have hlocks := B.notSynchronized
  subst hsz
  have hD := hD0.self (sz := s.heap.size)
  generalize hAe : va_A (w_50 cI tS a_mod a_mod_hand a_mod_text a_mod_kind a_mod_value a_mod_most a_mod_span a_mod_size a_mod_whose a_mod_rangeFrom a_mod_rangeMany a_mod_begins a_mod_ends a_mod_names a_mod_nameSize a_mod_opened a_mod_number a_mod_flagsBefore a_mod_rows a_mod_parts a_mod_low a_mod_high a_mod_many a_mod_like a_mod_sets a_mod_large a_mod_named mod_thrown mod_inHand mod_n mod_at mod_fault mod_place mod_nodes mod_ranges mod_numbered mod_depth mod_flags mod_repeatable mod_behind mod_notSet mod_least mod_greatest mod_hand) s.heap.size = A at hD hst0 ⊢
  have hA : ∀ q : Nat, s.heap.size ≤ q → A q := fun q h => by rw [← hAe]; exact Or.inr h
  have hS : va_S A s.heap s.heap [] := va_S.rf
  have hl := lv_entry ([.ref a_mod, .long p1, .int p3]) (n := 5) (Nat.le_of_ble_eq_true rfl)
  rw [lg_entry_eq]
  generalize (lg_sl ([.ref a_mod, .long p1, .int p3]) ++ List.replicate (5 - (lg_sl ([.ref a_mod, .long p1, .int p3])).length) Slot.unset).toArray = ls at hl ⊢
  have hl : lv_has ls 5 [(0, .ref a_mod), (1, .long p1), (3, .int p3)] := hl
  have L34 : ∀ n34 : Nat, ∀ (v4 : Int32) (mod_thrown : Int32) (mod_inHand : Int32) (mod_hand : Nat → Int32) (H : Heap) (locs : List Loc) (ls : Array Slot), va_P (dC, dI) classes (w_50 cI tS a_mod a_mod_hand a_mod_text a_mod_kind a_mod_value a_mod_most a_mod_span a_mod_size a_mod_whose a_mod_rangeFrom a_mod_rangeMany a_mod_begins a_mod_ends a_mod_names a_mod_nameSize a_mod_opened a_mod_number a_mod_flagsBefore a_mod_rows a_mod_parts a_mod_low a_mod_high a_mod_many a_mod_like a_mod_sets a_mod_large a_mod_named mod_thrown mod_inHand mod_n mod_at mod_fault mod_place mod_nodes mod_ranges mod_numbered mod_depth mod_flags mod_repeatable mod_behind mod_notSet mod_least mod_greatest mod_hand) H → va_D A (w_50 cI tS a_mod a_mod_hand a_mod_text a_mod_kind a_mod_value a_mod_most a_mod_span a_mod_size a_mod_whose a_mod_rangeFrom a_mod_rangeMany a_mod_begins a_mod_ends a_mod_names a_mod_nameSize a_mod_opened a_mod_number a_mod_flagsBefore a_mod_rows a_mod_parts a_mod_low a_mod_high a_mod_many a_mod_like a_mod_sets a_mod_large a_mod_named mod_thrown mod_inHand mod_n mod_at mod_fault mod_place mod_nodes mod_ranges mod_numbered mod_depth mod_flags mod_repeatable mod_behind mod_notSet mod_least mod_greatest mod_hand) → va_S A s.heap H locs → lv_has ls 5 [(0, .ref a_mod), (1, .long p1), (4, .int v4)] → f_MOD_put_L34 p1 p3 n34 (v4, mod_thrown, mod_inHand, mod_hand) = some R0 → W p l e (headSpec ws_MOD_put ({ frames := 0, cells := 0, slots := 0, locals := 0 })).room s m ([.ref a_mod, .long p1, .int p3] : List Value).toArray below meth c H locs 0 0 (MQ below (va_Qi (fun r (_ : Unit) => r = b2i R0.1) (fun _ t => posS (dC, dI) classes [(cI, .int)] (w_50 cI tS a_mod a_mod_hand a_mod_text a_mod_kind a_mod_value a_mod_most a_mod_span a_mod_size a_mod_whose a_mod_rangeFrom a_mod_rangeMany a_mod_begins a_mod_ends a_mod_names a_mod_nameSize a_mod_opened a_mod_number a_mod_flagsBefore a_mod_rows a_mod_parts a_mod_low a_mod_high a_mod_many a_mod_like a_mod_sets a_mod_large a_mod_named R0.2.1 R0.2.2.1 mod_n mod_at mod_fault mod_place mod_nodes mod_ranges mod_numbered mod_depth mod_flags mod_repeatable mod_behind mod_notSet mod_least mod_greatest R0.2.2.2) (A) t) (A)) ([.ref a_mod, .long p1, .int p3] : List Value).toArray s 0 0 A) (F0 m 34 ls []) := by
    intro n34
    induction n34 with
    | zero =>
      intro v4 mod_thrown mod_inHand mod_hand H locs ls hP hD hS hl hf
      exact absurd (show (none : Option _) = some R0 from hf) (fun h => by cases h)
    | succ n34 ih34 =>
      intro v4 mod_thrown mod_inHand mod_hand H locs ls hP hD hS hl hf
      have hf : f_MOD_put_B34 p1 p3 (f_MOD_put_L34 p1 p3 n34) v4 mod_thrown mod_inHand mod_hand = some R0 := hf
      refine lv_iload hx hb d_MOD_put_34 (lv_at hl 2 rfl) ?_
      refine lv_if_lt (tgt := 76) hx hb d_MOD_put_36 (by decide) (fun c_ => ?_) (fun c_ => ?_)
      · have hf := f_pos c_ hf
        refine lv_iconst (v := 1) hx hb d_MOD_put_76 (by decide) ?_
        obtain rfl := Option.some.inj hf
        exact W.zret (v := b2i true) hx hb hr (nr_b _) (fun t ht hW => ⟨⟨_, (), rfl, rfl, ⟨by rw [ht]; exact hP, va_K.moved hW.alike hK, hD⟩⟩, hS.F ht⟩) hS.2.2 d_MOD_put_77
      · have hf := f_neg c_ hf
        refine lv_aload_n hx hb d_MOD_put_39 rfl (lv_at hl 0 rfl) ?_
        refine va_get (D := (dC, dI)) (ci := 12) (v := .ref a_mod_hand) (C := R_MOD) (T := F_MOD) (N := N_MOD) hx hb hts i_MOD hown hK hP 0 rfl rfl 1 (by decide) (hts _ tw_994) (fun _ h9 => h9) rfl d_MOD_put_40 ?_
        refine lv_aload_n hx hb d_MOD_put_43 rfl (lv_at hl 0 rfl) ?_
        refine va_get (D := (dC, dI)) (ci := 12) (v := .int mod_inHand) (C := R_MOD) (T := F_MOD) (N := N_MOD) hx hb hts i_MOD hown hK hP 0 rfl rfl 2 (by decide) (hts _ tw_995) (fun _ h9 => h9) rfl d_MOD_put_44 ?_
        refine lv_lload_n hx hb d_MOD_put_47 rfl (lv_at hl 1 rfl) ?_
        refine lv_bipush (v := 8) hx hb d_MOD_put_48 (by decide) ?_
        refine lv_iload hx hb d_MOD_put_50 (lv_at hl 2 rfl) ?_
        refine lv_imul hx hb d_MOD_put_52 ?_
        refine lv_lshr (v := p1 >>> ((8 * v4).toInt64 &&& 63)) hx hb d_MOD_put_53 rfl ?_
        refine lv_l2i (v := (p1 >>> ((8 * v4).toInt64 &&& 63)).toInt32) hx hb d_MOD_put_54 rfl ?_
        refine lv_sipush (v := 255) hx hb d_MOD_put_55 (by decide) ?_
        refine lv_iand hx hb d_MOD_put_58 ?_
        obtain ⟨hin, hf⟩ := grd_in hf
        refine va_iast hx hb hK hP hD hS 1 0 rfl rfl hin d_MOD_put_59 (fun H locs hP hD hS => ?_)
        have hP : va_P (dC, dI) classes (w_50 cI tS a_mod a_mod_hand a_mod_text a_mod_kind a_mod_value a_mod_most a_mod_span a_mod_size a_mod_whose a_mod_rangeFrom a_mod_rangeMany a_mod_begins a_mod_ends a_mod_names a_mod_nameSize a_mod_opened a_mod_number a_mod_flagsBefore a_mod_rows a_mod_parts a_mod_low a_mod_high a_mod_many a_mod_like a_mod_sets a_mod_large a_mod_named mod_thrown mod_inHand mod_n mod_at mod_fault mod_place mod_nodes mod_ranges mod_numbered mod_depth mod_flags mod_repeatable mod_behind mod_notSet mod_least mod_greatest (upd mod_hand mod_inHand.toNatClampNeg (((p1 >>> ((8 * v4).toInt64 &&& 63)).toInt32) &&& 255))) H := hP
        have hD : va_D A (w_50 cI tS a_mod a_mod_hand a_mod_text a_mod_kind a_mod_value a_mod_most a_mod_span a_mod_size a_mod_whose a_mod_rangeFrom a_mod_rangeMany a_mod_begins a_mod_ends a_mod_names a_mod_nameSize a_mod_opened a_mod_number a_mod_flagsBefore a_mod_rows a_mod_parts a_mod_low a_mod_high a_mod_many a_mod_like a_mod_sets a_mod_large a_mod_named mod_thrown mod_inHand mod_n mod_at mod_fault mod_place mod_nodes mod_ranges mod_numbered mod_depth mod_flags mod_repeatable mod_behind mod_notSet mod_least mod_greatest (upd mod_hand mod_inHand.toNatClampNeg (((p1 >>> ((8 * v4).toInt64 &&& 63)).toInt32) &&& 255))) := hD
        refine lv_aload_n hx hb d_MOD_put_60 rfl (lv_at hl 0 rfl) ?_
        refine lv_dup hx hb d_MOD_put_61 rfl ?_
        refine va_get (D := (dC, dI)) (ci := 12) (v := .int mod_inHand) (C := R_MOD) (T := F_MOD) (N := N_MOD) hx hb hts i_MOD hown hK hP 0 rfl rfl 2 (by decide) (hts _ tw_995) (fun _ h9 => h9) rfl d_MOD_put_62 ?_
        refine lv_iconst (v := 1) hx hb d_MOD_put_65 (by decide) ?_
        refine lv_iadd hx hb d_MOD_put_66 ?_
        refine va_put (D := (dC, dI)) (ci := 12) (v := .int (mod_inHand + 1)) (ty := .int) (C := R_MOD) (T := F_MOD) (N := N_MOD) hx hb hts i_MOD ty_MOD ty_MOD_ok n_MOD hown hK hP hD hS 0 rfl rfl 2 (by decide) (hts _ tw_995) (fun _ h9 => h9) rfl (ty_MOD_ok 2 (by decide)) rfl rfl (Nat.le_of_ble_eq_true rfl) d_MOD_put_67 (fun H locs hP hD hS => ?_)
        have hP : va_P (dC, dI) classes (w_50 cI tS a_mod a_mod_hand a_mod_text a_mod_kind a_mod_value a_mod_most a_mod_span a_mod_size a_mod_whose a_mod_rangeFrom a_mod_rangeMany a_mod_begins a_mod_ends a_mod_names a_mod_nameSize a_mod_opened a_mod_number a_mod_flagsBefore a_mod_rows a_mod_parts a_mod_low a_mod_high a_mod_many a_mod_like a_mod_sets a_mod_large a_mod_named mod_thrown (mod_inHand + 1) mod_n mod_at mod_fault mod_place mod_nodes mod_ranges mod_numbered mod_depth mod_flags mod_repeatable mod_behind mod_notSet mod_least mod_greatest (upd mod_hand mod_inHand.toNatClampNeg (((p1 >>> ((8 * v4).toInt64 &&& 63)).toInt32) &&& 255))) H := hP
        have hD : va_D A (w_50 cI tS a_mod a_mod_hand a_mod_text a_mod_kind a_mod_value a_mod_most a_mod_span a_mod_size a_mod_whose a_mod_rangeFrom a_mod_rangeMany a_mod_begins a_mod_ends a_mod_names a_mod_nameSize a_mod_opened a_mod_number a_mod_flagsBefore a_mod_rows a_mod_parts a_mod_low a_mod_high a_mod_many a_mod_like a_mod_sets a_mod_large a_mod_named mod_thrown (mod_inHand + 1) mod_n mod_at mod_fault mod_place mod_nodes mod_ranges mod_numbered mod_depth mod_flags mod_repeatable mod_behind mod_notSet mod_least mod_greatest (upd mod_hand mod_inHand.toNatClampNeg (((p1 >>> ((8 * v4).toInt64 &&& 63)).toInt32) &&& 255))) := hD
        refine lv_iinc (v := v4 + (-1)) (lv' := [(4, .int (v4 + (-1))), (0, .ref a_mod), (1, .long p1)]) hx hb d_MOD_put_70 hl (k := 2) rfl rfl (by decide) rfl (fun ls hl => ?_)
        refine lv_goto (tgt := 34) hx hb d_MOD_put_73 (by decide) ?_
        exact ih34 (v4 + (-1)) mod_thrown (mod_inHand + 1) (upd mod_hand mod_inHand.toNatClampNeg (((p1 >>> ((8 * v4).toInt64 &&& 63)).toInt32) &&& 255)) _ _ _ hP hD hS (lv_sub hl [1, 2, 0] rfl) hf
  refine lv_aload_n hx hb d_MOD_put_0 rfl (lv_at hl 0 rfl) ?_
  refine lv_iconst (v := 0) hx hb d_MOD_put_1 (by decide) ?_
  refine va_put (D := (dC, dI)) (ci := 12) (v := .int 0) (ty := .int) (C := R_MOD) (T := F_MOD) (N := N_MOD) hx hb hts i_MOD ty_MOD ty_MOD_ok n_MOD hown hK hP hD hS 0 rfl rfl 0 (by decide) (hts _ tw_993) (fun _ h9 => h9) rfl (ty_MOD_ok 0 (by decide)) rfl rfl (Nat.le_of_ble_eq_true rfl) d_MOD_put_2 (fun H locs hP hD hS => ?_)
  have hP : va_P (dC, dI) classes (w_50 cI tS a_mod a_mod_hand a_mod_text a_mod_kind a_mod_value a_mod_most a_mod_span a_mod_size a_mod_whose a_mod_rangeFrom a_mod_rangeMany a_mod_begins a_mod_ends a_mod_names a_mod_nameSize a_mod_opened a_mod_number a_mod_flagsBefore a_mod_rows a_mod_parts a_mod_low a_mod_high a_mod_many a_mod_like a_mod_sets a_mod_large a_mod_named 0 mod_inHand mod_n mod_at mod_fault mod_place mod_nodes mod_ranges mod_numbered mod_depth mod_flags mod_repeatable mod_behind mod_notSet mod_least mod_greatest mod_hand) H := hP
  have hD : va_D A (w_50 cI tS a_mod a_mod_hand a_mod_text a_mod_kind a_mod_value a_mod_most a_mod_span a_mod_size a_mod_whose a_mod_rangeFrom a_mod_rangeMany a_mod_begins a_mod_ends a_mod_names a_mod_nameSize a_mod_opened a_mod_number a_mod_flagsBefore a_mod_rows a_mod_parts a_mod_low a_mod_high a_mod_many a_mod_like a_mod_sets a_mod_large a_mod_named 0 mod_inHand mod_n mod_at mod_fault mod_place mod_nodes mod_ranges mod_numbered mod_depth mod_flags mod_repeatable mod_behind mod_notSet mod_least mod_greatest mod_hand) := hD
  refine lv_iload_n hx hb d_MOD_put_5 rfl (lv_at hl 2 rfl) ?_
  refine lv_if_lt (tgt := 27) hx hb d_MOD_put_6 (by decide) (fun c_ => ?_) (fun c_ => ?_)
  · have hf := f_pos c_ hf
    refine lv_iconst (v := 0) hx hb d_MOD_put_27 (by decide) ?_
    obtain rfl := Option.some.inj hf
    exact W.zret (v := b2i false) hx hb hr (nr_b _) (fun t ht hW => ⟨⟨_, (), rfl, rfl, ⟨by rw [ht]; exact hP, va_K.moved hW.alike hK, hD⟩⟩, hS.F ht⟩) hS.2.2 d_MOD_put_28
  · have hf := f_neg c_ hf
    refine lv_iload_n hx hb d_MOD_put_9 rfl (lv_at hl 2 rfl) ?_
    refine lv_bipush (v := 8) hx hb d_MOD_put_10 (by decide) ?_
    refine lv_icmp_gt (tgt := 27) hx hb d_MOD_put_12 (by decide) (fun c_ => ?_) (fun c_ => ?_)
    · have hf := f_pos c_ hf
      refine lv_iconst (v := 0) hx hb d_MOD_put_27 (by decide) ?_
      obtain rfl := Option.some.inj hf
      exact W.zret (v := b2i false) hx hb hr (nr_b _) (fun t ht hW => ⟨⟨_, (), rfl, rfl, ⟨by rw [ht]; exact hP, va_K.moved hW.alike hK, hD⟩⟩, hS.F ht⟩) hS.2.2 d_MOD_put_28
    · have hf := f_neg c_ hf
      refine lv_aload_n hx hb d_MOD_put_15 rfl (lv_at hl 0 rfl) ?_
      refine va_get (D := (dC, dI)) (ci := 12) (v := .int mod_inHand) (C := R_MOD) (T := F_MOD) (N := N_MOD) hx hb hts i_MOD hown hK hP 0 rfl rfl 2 (by decide) (hts _ tw_995) (fun _ h9 => h9) rfl d_MOD_put_16 ?_
      refine lv_iload_n hx hb d_MOD_put_19 rfl (lv_at hl 2 rfl) ?_
      refine lv_iadd hx hb d_MOD_put_20 ?_
      refine lv_sipush (v := 400) hx hb d_MOD_put_21 (by decide) ?_
      refine lv_icmp_le (tgt := 29) hx hb d_MOD_put_24 (by decide) (fun c_ => ?_) (fun c_ => ?_)
      · have hf := f_pos c_ hf
        refine lv_iload_n hx hb d_MOD_put_29 rfl (lv_at hl 2 rfl) ?_
        refine lv_iconst (v := 1) hx hb d_MOD_put_30 (by decide) ?_
        refine lv_isub hx hb d_MOD_put_31 ?_
        refine lv_istore (lv' := [(4, .int (p3 - 1)), (0, .ref a_mod), (1, .long p1), (3, .int p3)]) hx hb d_MOD_put_32 hl (by decide) rfl (fun ls hl => ?_)
        exact L34 FU (p3 - 1) 0 mod_inHand mod_hand _ _ _ hP hD hS (lv_sub hl [1, 2, 0] rfl) hf
      · have hf := f_neg c_ hf
        refine lv_iconst (v := 0) hx hb d_MOD_put_27 (by decide) ?_
        obtain rfl := Option.some.inj hf
        exact W.zret (v := b2i false) hx hb hr (nr_b _) (fun t ht hW => ⟨⟨_, (), rfl, rfl, ⟨by rw [ht]; exact hP, va_K.moved hW.alike hK, hD⟩⟩, hS.F ht⟩) hS.2.2 d_MOD_put_28
def f_MOD_empty (mod_many : Nat → Int32) (p1 : Int32) : Option (Nat → Int32) :=
  grd (inb p1 2) (some (upd mod_many p1.toNatClampNeg 0))
set_option maxRecDepth 100000 in
set_option maxHeartbeats 4000000 in
theorem c_MOD_empty (l : Launch) (dC : Nat → ClassId) (dI : Nat → Nat → Nat) (cI : ClassId) (tS : Nat → Nat → Nat) (sz : Nat) (a_mod a_mod_hand a_mod_text a_mod_kind a_mod_value a_mod_most a_mod_span a_mod_size a_mod_whose a_mod_rangeFrom a_mod_rangeMany a_mod_begins a_mod_ends a_mod_names a_mod_nameSize a_mod_opened a_mod_number a_mod_flagsBefore a_mod_rows a_mod_parts a_mod_low a_mod_high a_mod_many a_mod_like a_mod_sets a_mod_large a_mod_named : Nat) (mod_thrown : Int32) (mod_inHand : Int32) (mod_n : Int32) (mod_at : Int32) (mod_fault : Int32) (mod_place : Int32) (mod_nodes : Int32) (mod_ranges : Int32) (mod_numbered : Int32) (mod_depth : Int32) (mod_flags : Int32) (mod_repeatable : Bool) (mod_behind : Int32) (mod_notSet : Bool) (mod_least : Int32) (mod_greatest : Int32) (mod_many : Nat → Int32) (p1 : Int32) (R0 : Nat → Int32) (hf : f_MOD_empty mod_many p1 = some R0) : Met l y_MOD_empty ws_MOD_empty ({ frames := 0, cells := 0, slots := 0, locals := 0 }) (va_Pc [.ref a_mod, .int p1] (preS (dC, dI) classes [(cI, .int)] tS (w_51 cI tS a_mod a_mod_hand a_mod_text a_mod_kind a_mod_value a_mod_most a_mod_span a_mod_size a_mod_whose a_mod_rangeFrom a_mod_rangeMany a_mod_begins a_mod_ends a_mod_names a_mod_nameSize a_mod_opened a_mod_number a_mod_flagsBefore a_mod_rows a_mod_parts a_mod_low a_mod_high a_mod_many a_mod_like a_mod_sets a_mod_large a_mod_named mod_thrown mod_inHand mod_n mod_at mod_fault mod_place mod_nodes mod_ranges mod_numbered mod_depth mod_flags mod_repeatable mod_behind mod_notSet mod_least mod_greatest mod_many) sz)) (va_Qv (fun _ : Unit => True) (fun _ t => posS (dC, dI) classes [(cI, .int)] (w_51 cI tS a_mod a_mod_hand a_mod_text a_mod_kind a_mod_value a_mod_most a_mod_span a_mod_size a_mod_whose a_mod_rangeFrom a_mod_rangeMany a_mod_begins a_mod_ends a_mod_names a_mod_nameSize a_mod_opened a_mod_number a_mod_flagsBefore a_mod_rows a_mod_parts a_mod_low a_mod_high a_mod_many a_mod_like a_mod_sets a_mod_large a_mod_named mod_thrown mod_inHand mod_n mod_at mod_fault mod_place mod_nodes mod_ranges mod_numbered mod_depth mod_flags mod_repeatable mod_behind mod_notSet mod_least mod_greatest R0) (va_A (w_51 cI tS a_mod a_mod_hand a_mod_text a_mod_kind a_mod_value a_mod_most a_mod_span a_mod_size a_mod_whose a_mod_rangeFrom a_mod_rangeMany a_mod_begins a_mod_ends a_mod_names a_mod_nameSize a_mod_opened a_mod_number a_mod_flagsBefore a_mod_rows a_mod_parts a_mod_low a_mod_high a_mod_many a_mod_like a_mod_sets a_mod_large a_mod_named mod_thrown mod_inHand mod_n mod_at mod_fault mod_place mod_nodes mod_ranges mod_numbered mod_depth mod_flags mod_repeatable mod_behind mod_notSet mod_least mod_greatest mod_many) sz) t) (va_A (w_51 cI tS a_mod a_mod_hand a_mod_text a_mod_kind a_mod_value a_mod_most a_mod_span a_mod_size a_mod_whose a_mod_rangeFrom a_mod_rangeMany a_mod_begins a_mod_ends a_mod_names a_mod_nameSize a_mod_opened a_mod_number a_mod_flagsBefore a_mod_rows a_mod_parts a_mod_low a_mod_high a_mod_many a_mod_like a_mod_sets a_mod_large a_mod_named mod_thrown mod_inHand mod_n mod_at mod_fault mod_place mod_nodes mod_ranges mod_numbered mod_depth mod_flags mod_repeatable mod_behind mod_notSet mod_least mod_greatest mod_many) sz)) 0 0 (va_A (w_51 cI tS a_mod a_mod_hand a_mod_text a_mod_kind a_mod_value a_mod_most a_mod_span a_mod_size a_mod_whose a_mod_rangeFrom a_mod_rangeMany a_mod_begins a_mod_ends a_mod_names a_mod_nameSize a_mod_opened a_mod_number a_mod_flagsBefore a_mod_rows a_mod_parts a_mod_low a_mod_high a_mod_many a_mod_like a_mod_sets a_mod_large a_mod_named mod_thrown mod_inHand mod_n mod_at mod_fault mod_place mod_nodes mod_ranges mod_numbered mod_depth mod_flags mod_repeatable mod_behind mod_notSet mod_least mod_greatest mod_many) sz) := by
  refine Met.ofW (cc := b_MOD_empty) (maxL := 2) (ret := none) (by decide) rfl ?_
  intro p e s m args below meth c s₁ B hml hv
  obtain ⟨rfl, hsz, hP, hK, hD0, hst0⟩ := hv
  have hx := B.exec
  have hb := B.bytes
  have hr := B.returns
  have hts0 := atoms_spec (ws := ws_MOD_empty) B.pre
  have hts : ∀ w ∈ GW, w.before _ s = true := fun w h => hts0 w (List.mem_cons_of_mem _ h)
  have hown : s.vm.findClass R_MOD = some m.cls := findClass_of_methodNamed B.named
  have hlocks := B.notSynchronized
  subst hsz
  have hD := hD0.self (sz := s.heap.size)
  generalize hAe : va_A (w_51 cI tS a_mod a_mod_hand a_mod_text a_mod_kind a_mod_value a_mod_most a_mod_span a_mod_size a_mod_whose a_mod_rangeFrom a_mod_rangeMany a_mod_begins a_mod_ends a_mod_names a_mod_nameSize a_mod_opened a_mod_number a_mod_flagsBefore a_mod_rows a_mod_parts a_mod_low a_mod_high a_mod_many a_mod_like a_mod_sets a_mod_large a_mod_named mod_thrown mod_inHand mod_n mod_at mod_fault mod_place mod_nodes mod_ranges mod_numbered mod_depth mod_flags mod_repeatable mod_behind mod_notSet mod_least mod_greatest mod_many) s.heap.size = A at hD hst0 ⊢
  have hA : ∀ q : Nat, s.heap.size ≤ q → A q := fun q h => by rw [← hAe]; exact Or.inr h
  have hS : va_S A s.heap s.heap [] := va_S.rf
  have hl := lv_entry ([.ref a_mod, .int p1]) (n := 2) (Nat.le_of_ble_eq_true rfl)
  rw [lg_entry_eq]
  generalize (lg_sl ([.ref a_mod, .int p1]) ++ List.replicate (2 - (lg_sl ([.ref a_mod, .int p1])).length) Slot.unset).toArray = ls at hl ⊢
  have hl : lv_has ls 2 [(0, .ref a_mod), (1, .int p1)] := hl
  refine lv_aload_n hx hb d_MOD_empty_0 rfl (lv_at hl 0 rfl) ?_
  refine va_get (D := (dC, dI)) (ci := 12) (v := .ref a_mod_many) (C := R_MOD) (T := F_MOD) (N := N_MOD) hx hb hts i_MOD hown hK hP 0 rfl rfl 33 (by decide) (hts _ tw_1026) (fun _ h9 => h9) rfl d_MOD_empty_1 ?_
  refine lv_iload_n hx hb d_MOD_empty_4 rfl (lv_at hl 1 rfl) ?_
  refine lv_iconst (v := 0) hx hb d_MOD_empty_5 (by decide) ?_
  obtain ⟨hin, hf⟩ := grd_in hf
  refine va_iast hx hb hK hP hD hS 1 0 rfl rfl hin d_MOD_empty_6 (fun H locs hP hD hS => ?_)
  have hP : va_P (dC, dI) classes (w_51 cI tS a_mod a_mod_hand a_mod_text a_mod_kind a_mod_value a_mod_most a_mod_span a_mod_size a_mod_whose a_mod_rangeFrom a_mod_rangeMany a_mod_begins a_mod_ends a_mod_names a_mod_nameSize a_mod_opened a_mod_number a_mod_flagsBefore a_mod_rows a_mod_parts a_mod_low a_mod_high a_mod_many a_mod_like a_mod_sets a_mod_large a_mod_named mod_thrown mod_inHand mod_n mod_at mod_fault mod_place mod_nodes mod_ranges mod_numbered mod_depth mod_flags mod_repeatable mod_behind mod_notSet mod_least mod_greatest (upd mod_many p1.toNatClampNeg 0)) H := hP
  have hD : va_D A (w_51 cI tS a_mod a_mod_hand a_mod_text a_mod_kind a_mod_value a_mod_most a_mod_span a_mod_size a_mod_whose a_mod_rangeFrom a_mod_rangeMany a_mod_begins a_mod_ends a_mod_names a_mod_nameSize a_mod_opened a_mod_number a_mod_flagsBefore a_mod_rows a_mod_parts a_mod_low a_mod_high a_mod_many a_mod_like a_mod_sets a_mod_large a_mod_named mod_thrown mod_inHand mod_n mod_at mod_fault mod_place mod_nodes mod_ranges mod_numbered mod_depth mod_flags mod_repeatable mod_behind mod_notSet mod_least mod_greatest (upd mod_many p1.toNatClampNeg 0)) := hD
  obtain rfl := Option.some.inj hf
  exact W.vret hx hb hr (fun t ht hW => ⟨⟨(), rfl, trivial, ⟨by rw [ht]; exact hP, va_K.moved hW.alike hK, hD⟩⟩, hS.F ht⟩) hS.2.2 d_MOD_empty_7
def f_MOD_add_L214 (p1 : Int32) (p2 : Int32) (p3 : Int32) (v4 : Int32) (v5 : Int32) (v6 : Int32) (v7 : Int32) (v8 : Int32) (mod_low : Nat → Int32) (mod_high : Nat → Int32) (mod_many : Nat → Int32) : Option ((Nat → Int32) × (Nat → Int32) × (Nat → Int32)) :=
  grd (inb (v6 + v8) 1200) (grd (inb (v6 + v8) 1200) (grd (inb p1 2) (some (upd mod_low (v6 + v8).toNatClampNeg v4, upd mod_high (v6 + v8).toNatClampNeg v5, upd mod_many p1.toNatClampNeg (v7 + 1)))))
def f_MOD_add_B142 (p1 : Int32) (p2 : Int32) (p3 : Int32) (K142 : (Int32 × Int32 × Int32 × Int32 × Int32 × (Nat → Int32) × (Nat → Int32) × (Nat → Int32)) → Option ((Nat → Int32) × (Nat → Int32) × (Nat → Int32))) (v4 : Int32) (v5 : Int32) (v6 : Int32) (v7 : Int32) (v8 : Int32) (mod_low : Nat → Int32) (mod_high : Nat → Int32) (mod_many : Nat → Int32) : Option ((Nat → Int32) × (Nat → Int32) × (Nat → Int32)) :=
  if v8 ≤ 0 then f_MOD_add_L214 p1 p2 p3 v4 v5 v6 v7 v8 mod_low mod_high mod_many else grd (inb ((v6 + v8) - 1) 1200) (if (mod_low ((v6 + v8) - 1).toNatClampNeg) ≤ v4 then f_MOD_add_L214 p1 p2 p3 v4 v5 v6 v7 v8 mod_low mod_high mod_many else grd (inb ((v6 + v8) - 1) 1200) (grd (inb (v6 + v8) 1200) (grd (inb ((v6 + v8) - 1) 1200) (grd (inb (v6 + v8) 1200) (K142 (v4, v5, v6, v7, v8 + (-1), upd mod_low (v6 + v8).toNatClampNeg (mod_low ((v6 + v8) - 1).toNatClampNeg), upd mod_high (v6 + v8).toNatClampNeg (mod_high ((v6 + v8) - 1).toNatClampNeg), mod_many))))))
def f_MOD_add_L142 (p1 : Int32) (p2 : Int32) (p3 : Int32) (n : Nat) (a : Int32 × Int32 × Int32 × Int32 × Int32 × (Nat → Int32) × (Nat → Int32) × (Nat → Int32)) : Option ((Nat → Int32) × (Nat → Int32) × (Nat → Int32)) :=
  lpF (fun K142 v => f_MOD_add_B142 p1 p2 p3  K142 v.1 v.2.1 v.2.2.1 v.2.2.2.1 v.2.2.2.2.1 v.2.2.2.2.2.1 v.2.2.2.2.2.2.1 v.2.2.2.2.2.2.2) n a
def f_MOD_add_L105 (p1 : Int32) (p2 : Int32) (p3 : Int32) (K19 : (Int32 × Int32 × Int32 × Int32 × Int32 × (Nat → Int32) × (Nat → Int32) × (Nat → Int32)) → Option ((Nat → Int32) × (Nat → Int32) × (Nat → Int32))) (v4 : Int32) (v5 : Int32) (v6 : Int32) (v7 : Int32) (v8 : Int32) (v9 : Int32) (v10 : Int32) (mod_low : Nat → Int32) (mod_high : Nat → Int32) (mod_many : Nat → Int32) : Option ((Nat → Int32) × (Nat → Int32) × (Nat → Int32)) :=
  grd (inb (v6 + v7) 1200) (grd (inb (v6 + v7) 1200) (K19 (v4, v5, v6, v7 + 1, v8 + 1, upd mod_low (v6 + v7).toNatClampNeg v9, upd mod_high (v6 + v7).toNatClampNeg v10, mod_many)))
def f_MOD_add_L84 (p1 : Int32) (p2 : Int32) (p3 : Int32) (K19 : (Int32 × Int32 × Int32 × Int32 × Int32 × (Nat → Int32) × (Nat → Int32) × (Nat → Int32)) → Option ((Nat → Int32) × (Nat → Int32) × (Nat → Int32))) (v5 : Int32) (v6 : Int32) (v7 : Int32) (v8 : Int32) (v10 : Int32) (z0 : Int32) (mod_low : Nat → Int32) (mod_high : Nat → Int32) (mod_many : Nat → Int32) : Option ((Nat → Int32) × (Nat → Int32) × (Nat → Int32)) :=
  if v10 ≤ v5 then K19 (z0, v5, v6, v7, v8 + 1, mod_low, mod_high, mod_many) else K19 (z0, v10, v6, v7, v8 + 1, mod_low, mod_high, mod_many)
def f_MOD_add_B19 (p1 : Int32) (p2 : Int32) (p3 : Int32) (K19 : (Int32 × Int32 × Int32 × Int32 × Int32 × (Nat → Int32) × (Nat → Int32) × (Nat → Int32)) → Option ((Nat → Int32) × (Nat → Int32) × (Nat → Int32))) (v4 : Int32) (v5 : Int32) (v6 : Int32) (v7 : Int32) (v8 : Int32) (mod_low : Nat → Int32) (mod_high : Nat → Int32) (mod_many : Nat → Int32) : Option ((Nat → Int32) × (Nat → Int32) × (Nat → Int32)) :=
  grd (inb p1 2) (if (mod_many p1.toNatClampNeg) ≤ v8 then f_MOD_add_L142 p1 p2 p3 FU (v4, v5, v6, v7, v7, mod_low, mod_high, mod_many) else grd (inb (v6 + v8) 1200) (grd (inb (v6 + v8) 1200) (if ((mod_high (v6 + v8).toNatClampNeg) + 1) < p2 then f_MOD_add_L105 p1 p2 p3 K19 v4 v5 v6 v7 v8 (mod_low (v6 + v8).toNatClampNeg) (mod_high (v6 + v8).toNatClampNeg) mod_low mod_high mod_many else (if (p3 + 1) < (mod_low (v6 + v8).toNatClampNeg) then f_MOD_add_L105 p1 p2 p3 K19 v4 v5 v6 v7 v8 (mod_low (v6 + v8).toNatClampNeg) (mod_high (v6 + v8).toNatClampNeg) mod_low mod_high mod_many else (if v4 ≤ (mod_low (v6 + v8).toNatClampNeg) then f_MOD_add_L84 p1 p2 p3 K19 v5 v6 v7 v8 (mod_high (v6 + v8).toNatClampNeg) v4 mod_low mod_high mod_many else f_MOD_add_L84 p1 p2 p3 K19 v5 v6 v7 v8 (mod_high (v6 + v8).toNatClampNeg) (mod_low (v6 + v8).toNatClampNeg) mod_low mod_high mod_many)))))
def f_MOD_add_L19 (p1 : Int32) (p2 : Int32) (p3 : Int32) (n : Nat) (a : Int32 × Int32 × Int32 × Int32 × Int32 × (Nat → Int32) × (Nat → Int32) × (Nat → Int32)) : Option ((Nat → Int32) × (Nat → Int32) × (Nat → Int32)) :=
  lpF (fun K19 v => f_MOD_add_B19 p1 p2 p3  K19 v.1 v.2.1 v.2.2.1 v.2.2.2.1 v.2.2.2.2.1 v.2.2.2.2.2.1 v.2.2.2.2.2.2.1 v.2.2.2.2.2.2.2) n a
def f_MOD_add (mod_low : Nat → Int32) (mod_high : Nat → Int32) (mod_many : Nat → Int32) (p1 : Int32) (p2 : Int32) (p3 : Int32) : Option ((Nat → Int32) × (Nat → Int32) × (Nat → Int32)) :=
  f_MOD_add_L19 p1 p2 p3 FU (p2, p3, 600 * p1, 0, 0, mod_low, mod_high, mod_many)
set_option maxRecDepth 100000 in
set_option maxHeartbeats 4000000 in
theorem c_MOD_add (l : Launch) (dC : Nat → ClassId) (dI : Nat → Nat → Nat) (cI : ClassId) (tS : Nat → Nat → Nat) (sz : Nat) (a_mod a_mod_hand a_mod_text a_mod_kind a_mod_value a_mod_most a_mod_span a_mod_size a_mod_whose a_mod_rangeFrom a_mod_rangeMany a_mod_begins a_mod_ends a_mod_names a_mod_nameSize a_mod_opened a_mod_number a_mod_flagsBefore a_mod_rows a_mod_parts a_mod_low a_mod_high a_mod_many a_mod_like a_mod_sets a_mod_large a_mod_named : Nat) (mod_thrown : Int32) (mod_inHand : Int32) (mod_n : Int32) (mod_at : Int32) (mod_fault : Int32) (mod_place : Int32) (mod_nodes : Int32) (mod_ranges : Int32) (mod_numbered : Int32) (mod_depth : Int32) (mod_flags : Int32) (mod_repeatable : Bool) (mod_behind : Int32) (mod_notSet : Bool) (mod_least : Int32) (mod_greatest : Int32) (mod_low : Nat → Int32) (mod_high : Nat → Int32) (mod_many : Nat → Int32) (p1 : Int32) (p2 : Int32) (p3 : Int32) (R0 : (Nat → Int32) × (Nat → Int32) × (Nat → Int32)) (hf : f_MOD_add mod_low mod_high mod_many p1 p2 p3 = some R0) : Met l y_MOD_add ws_MOD_add ({ frames := 0, cells := 0, slots := 0, locals := 0 }) (va_Pc [.ref a_mod, .int p1, .int p2, .int p3] (preS (dC, dI) classes [(cI, .int)] tS (w_52 cI tS a_mod a_mod_hand a_mod_text a_mod_kind a_mod_value a_mod_most a_mod_span a_mod_size a_mod_whose a_mod_rangeFrom a_mod_rangeMany a_mod_begins a_mod_ends a_mod_names a_mod_nameSize a_mod_opened a_mod_number a_mod_flagsBefore a_mod_rows a_mod_parts a_mod_low a_mod_high a_mod_many a_mod_like a_mod_sets a_mod_large a_mod_named mod_thrown mod_inHand mod_n mod_at mod_fault mod_place mod_nodes mod_ranges mod_numbered mod_depth mod_flags mod_repeatable mod_behind mod_notSet mod_least mod_greatest mod_low mod_high mod_many) sz)) (va_Qv (fun _ : Unit => True) (fun _ t => posS (dC, dI) classes [(cI, .int)] (w_52 cI tS a_mod a_mod_hand a_mod_text a_mod_kind a_mod_value a_mod_most a_mod_span a_mod_size a_mod_whose a_mod_rangeFrom a_mod_rangeMany a_mod_begins a_mod_ends a_mod_names a_mod_nameSize a_mod_opened a_mod_number a_mod_flagsBefore a_mod_rows a_mod_parts a_mod_low a_mod_high a_mod_many a_mod_like a_mod_sets a_mod_large a_mod_named mod_thrown mod_inHand mod_n mod_at mod_fault mod_place mod_nodes mod_ranges mod_numbered mod_depth mod_flags mod_repeatable mod_behind mod_notSet mod_least mod_greatest R0.1 R0.2.1 R0.2.2) (va_A (w_52 cI tS a_mod a_mod_hand a_mod_text a_mod_kind a_mod_value a_mod_most a_mod_span a_mod_size a_mod_whose a_mod_rangeFrom a_mod_rangeMany a_mod_begins a_mod_ends a_mod_names a_mod_nameSize a_mod_opened a_mod_number a_mod_flagsBefore a_mod_rows a_mod_parts a_mod_low a_mod_high a_mod_many a_mod_like a_mod_sets a_mod_large a_mod_named mod_thrown mod_inHand mod_n mod_at mod_fault mod_place mod_nodes mod_ranges mod_numbered mod_depth mod_flags mod_repeatable mod_behind mod_notSet mod_least mod_greatest mod_low mod_high mod_many) sz) t) (va_A (w_52 cI tS a_mod a_mod_hand a_mod_text a_mod_kind a_mod_value a_mod_most a_mod_span a_mod_size a_mod_whose a_mod_rangeFrom a_mod_rangeMany a_mod_begins a_mod_ends a_mod_names a_mod_nameSize a_mod_opened a_mod_number a_mod_flagsBefore a_mod_rows a_mod_parts a_mod_low a_mod_high a_mod_many a_mod_like a_mod_sets a_mod_large a_mod_named mod_thrown mod_inHand mod_n mod_at mod_fault mod_place mod_nodes mod_ranges mod_numbered mod_depth mod_flags mod_repeatable mod_behind mod_notSet mod_least mod_greatest mod_low mod_high mod_many) sz)) 0 0 (va_A (w_52 cI tS a_mod a_mod_hand a_mod_text a_mod_kind a_mod_value a_mod_most a_mod_span a_mod_size a_mod_whose a_mod_rangeFrom a_mod_rangeMany a_mod_begins a_mod_ends a_mod_names a_mod_nameSize a_mod_opened a_mod_number a_mod_flagsBefore a_mod_rows a_mod_parts a_mod_low a_mod_high a_mod_many a_mod_like a_mod_sets a_mod_large a_mod_named mod_thrown mod_inHand mod_n mod_at mod_fault mod_place mod_nodes mod_ranges mod_numbered mod_depth mod_flags mod_repeatable mod_behind mod_notSet mod_least mod_greatest mod_low mod_high mod_many) sz) := by
  refine Met.ofW (cc := b_MOD_add) (maxL := 11) (ret := none) (by decide) rfl ?_
  intro p e s m args below meth c s₁ B hml hv
  obtain ⟨rfl, hsz, hP, hK, hD0, hst0⟩ := hv
  have hx := B.exec
  have hb := B.bytes
  have hr := B.returns
  have hts0 := atoms_spec (ws := ws_MOD_add) B.pre
  have hts : ∀ w ∈ GW, w.before _ s = true := fun w h => hts0 w (List.mem_cons_of_mem _ h)
  have hown : s.vm.findClass R_MOD = some m.cls := findClass_of_methodNamed B.named
  have hlocks := B.notSynchronized
  subst hsz
  have hD := hD0.self (sz := s.heap.size)
  generalize hAe : va_A (w_52 cI tS a_mod a_mod_hand a_mod_text a_mod_kind a_mod_value a_mod_most a_mod_span a_mod_size a_mod_whose a_mod_rangeFrom a_mod_rangeMany a_mod_begins a_mod_ends a_mod_names a_mod_nameSize a_mod_opened a_mod_number a_mod_flagsBefore a_mod_rows a_mod_parts a_mod_low a_mod_high a_mod_many a_mod_like a_mod_sets a_mod_large a_mod_named mod_thrown mod_inHand mod_n mod_at mod_fault mod_place mod_nodes mod_ranges mod_numbered mod_depth mod_flags mod_repeatable mod_behind mod_notSet mod_least mod_greatest mod_low mod_high mod_many) s.heap.size = A at hD hst0 ⊢
  have hA : ∀ q : Nat, s.heap.size ≤ q → A q := fun q h => by rw [← hAe]; exact Or.inr h
  have hS : va_S A s.heap s.heap [] := va_S.rf
  have hl := lv_entry ([.ref a_mod, .int p1, .int p2, .int p3]) (n := 11) (Nat.le_of_ble_eq_true rfl)
  rw [lg_entry_eq]
  generalize (lg_sl ([.ref a_mod, .int p1, .int p2, .int p3]) ++ List.replicate (11 - (lg_sl ([.ref a_mod, .int p1, .int p2, .int p3])).length) Slot.unset).toArray = ls at hl ⊢
  have hl : lv_has ls 11 [(0, .ref a_mod), (1, .int p1), (2, .int p2), (3, .int p3)] := hl
  have L214 : ∀ (v4 : Int32) (v5 : Int32) (v6 : Int32) (v7 : Int32) (v8 : Int32) (mod_low : Nat → Int32) (mod_high : Nat → Int32) (mod_many : Nat → Int32) (H : Heap) (locs : List Loc) (ls : Array Slot), va_P (dC, dI) classes (w_52 cI tS a_mod a_mod_hand a_mod_text a_mod_kind a_mod_value a_mod_most a_mod_span a_mod_size a_mod_whose a_mod_rangeFrom a_mod_rangeMany a_mod_begins a_mod_ends a_mod_names a_mod_nameSize a_mod_opened a_mod_number a_mod_flagsBefore a_mod_rows a_mod_parts a_mod_low a_mod_high a_mod_many a_mod_like a_mod_sets a_mod_large a_mod_named mod_thrown mod_inHand mod_n mod_at mod_fault mod_place mod_nodes mod_ranges mod_numbered mod_depth mod_flags mod_repeatable mod_behind mod_notSet mod_least mod_greatest mod_low mod_high mod_many) H → va_D A (w_52 cI tS a_mod a_mod_hand a_mod_text a_mod_kind a_mod_value a_mod_most a_mod_span a_mod_size a_mod_whose a_mod_rangeFrom a_mod_rangeMany a_mod_begins a_mod_ends a_mod_names a_mod_nameSize a_mod_opened a_mod_number a_mod_flagsBefore a_mod_rows a_mod_parts a_mod_low a_mod_high a_mod_many a_mod_like a_mod_sets a_mod_large a_mod_named mod_thrown mod_inHand mod_n mod_at mod_fault mod_place mod_nodes mod_ranges mod_numbered mod_depth mod_flags mod_repeatable mod_behind mod_notSet mod_least mod_greatest mod_low mod_high mod_many) → va_S A s.heap H locs → lv_has ls 11 [(0, .ref a_mod), (1, .int p1), (4, .int v4), (5, .int v5), (6, .int v6), (7, .int v7), (8, .int v8)] → f_MOD_add_L214 p1 p2 p3 v4 v5 v6 v7 v8 mod_low mod_high mod_many = some R0 → W p l e (headSpec ws_MOD_add ({ frames := 0, cells := 0, slots := 0, locals := 0 })).room s m ([.ref a_mod, .int p1, .int p2, .int p3] : List Value).toArray below meth c H locs 0 0 (MQ below (va_Qv (fun _ : Unit => True) (fun _ t => posS (dC, dI) classes [(cI, .int)] (w_52 cI tS a_mod a_mod_hand a_mod_text a_mod_kind a_mod_value a_mod_most a_mod_span a_mod_size a_mod_whose a_mod_rangeFrom a_mod_rangeMany a_mod_begins a_mod_ends a_mod_names a_mod_nameSize a_mod_opened a_mod_number a_mod_flagsBefore a_mod_rows a_mod_parts a_mod_low a_mod_high a_mod_many a_mod_like a_mod_sets a_mod_large a_mod_named mod_thrown mod_inHand mod_n mod_at mod_fault mod_place mod_nodes mod_ranges mod_numbered mod_depth mod_flags mod_repeatable mod_behind mod_notSet mod_least mod_greatest R0.1 R0.2.1 R0.2.2) (A) t) (A)) ([.ref a_mod, .int p1, .int p2, .int p3] : List Value).toArray s 0 0 A) (F0 m 214 ls []) := by
    intro v4 v5 v6 v7 v8 mod_low mod_high mod_many H locs ls hP hD hS hl hf
    refine lv_aload_n hx hb d_MOD_add_214 rfl (lv_at hl 0 rfl) ?_
    refine va_get (D := (dC, dI)) (ci := 12) (v := .ref a_mod_low) (C := R_MOD) (T := F_MOD) (N := N_MOD) hx hb hts i_MOD hown hK hP 0 rfl rfl 31 (by decide) (hts _ tw_1024) (fun _ h9 => h9) rfl d_MOD_add_215 ?_
    refine lv_iload hx hb d_MOD_add_218 (lv_at hl 4 rfl) ?_
    refine lv_iload hx hb d_MOD_add_220 (lv_at hl 6 rfl) ?_
    refine lv_iadd hx hb d_MOD_add_222 ?_
    refine lv_iload hx hb d_MOD_add_223 (lv_at hl 2 rfl) ?_
    obtain ⟨hin, hf⟩ := grd_in hf
    refine va_iast hx hb hK hP hD hS 1 0 rfl rfl hin d_MOD_add_225 (fun H locs hP hD hS => ?_)
    have hP : va_P (dC, dI) classes (w_52 cI tS a_mod a_mod_hand a_mod_text a_mod_kind a_mod_value a_mod_most a_mod_span a_mod_size a_mod_whose a_mod_rangeFrom a_mod_rangeMany a_mod_begins a_mod_ends a_mod_names a_mod_nameSize a_mod_opened a_mod_number a_mod_flagsBefore a_mod_rows a_mod_parts a_mod_low a_mod_high a_mod_many a_mod_like a_mod_sets a_mod_large a_mod_named mod_thrown mod_inHand mod_n mod_at mod_fault mod_place mod_nodes mod_ranges mod_numbered mod_depth mod_flags mod_repeatable mod_behind mod_notSet mod_least mod_greatest (upd mod_low (v6 + v8).toNatClampNeg v4) mod_high mod_many) H := hP
    have hD : va_D A (w_52 cI tS a_mod a_mod_hand a_mod_text a_mod_kind a_mod_value a_mod_most a_mod_span a_mod_size a_mod_whose a_mod_rangeFrom a_mod_rangeMany a_mod_begins a_mod_ends a_mod_names a_mod_nameSize a_mod_opened a_mod_number a_mod_flagsBefore a_mod_rows a_mod_parts a_mod_low a_mod_high a_mod_many a_mod_like a_mod_sets a_mod_large a_mod_named mod_thrown mod_inHand mod_n mod_at mod_fault mod_place mod_nodes mod_ranges mod_numbered mod_depth mod_flags mod_repeatable mod_behind mod_notSet mod_least mod_greatest (upd mod_low (v6 + v8).toNatClampNeg v4) mod_high mod_many) := hD
    refine lv_aload_n hx hb d_MOD_add_226 rfl (lv_at hl 0 rfl) ?_
    refine va_get (D := (dC, dI)) (ci := 12) (v := .ref a_mod_high) (C := R_MOD) (T := F_MOD) (N := N_MOD) hx hb hts i_MOD hown hK hP 0 rfl rfl 32 (by decide) (hts _ tw_1025) (fun _ h9 => h9) rfl d_MOD_add_227 ?_
    refine lv_iload hx hb d_MOD_add_230 (lv_at hl 4 rfl) ?_
    refine lv_iload hx hb d_MOD_add_232 (lv_at hl 6 rfl) ?_
    refine lv_iadd hx hb d_MOD_add_234 ?_
    refine lv_iload hx hb d_MOD_add_235 (lv_at hl 3 rfl) ?_
    obtain ⟨hin, hf⟩ := grd_in hf
    refine va_iast hx hb hK hP hD hS 2 0 rfl rfl hin d_MOD_add_237 (fun H locs hP hD hS => ?_)
    have hP : va_P (dC, dI) classes (w_52 cI tS a_mod a_mod_hand a_mod_text a_mod_kind a_mod_value a_mod_most a_mod_span a_mod_size a_mod_whose a_mod_rangeFrom a_mod_rangeMany a_mod_begins a_mod_ends a_mod_names a_mod_nameSize a_mod_opened a_mod_number a_mod_flagsBefore a_mod_rows a_mod_parts a_mod_low a_mod_high a_mod_many a_mod_like a_mod_sets a_mod_large a_mod_named mod_thrown mod_inHand mod_n mod_at mod_fault mod_place mod_nodes mod_ranges mod_numbered mod_depth mod_flags mod_repeatable mod_behind mod_notSet mod_least mod_greatest (upd mod_low (v6 + v8).toNatClampNeg v4) (upd mod_high (v6 + v8).toNatClampNeg v5) mod_many) H := hP
    have hD : va_D A (w_52 cI tS a_mod a_mod_hand a_mod_text a_mod_kind a_mod_value a_mod_most a_mod_span a_mod_size a_mod_whose a_mod_rangeFrom a_mod_rangeMany a_mod_begins a_mod_ends a_mod_names a_mod_nameSize a_mod_opened a_mod_number a_mod_flagsBefore a_mod_rows a_mod_parts a_mod_low a_mod_high a_mod_many a_mod_like a_mod_sets a_mod_large a_mod_named mod_thrown mod_inHand mod_n mod_at mod_fault mod_place mod_nodes mod_ranges mod_numbered mod_depth mod_flags mod_repeatable mod_behind mod_notSet mod_least mod_greatest (upd mod_low (v6 + v8).toNatClampNeg v4) (upd mod_high (v6 + v8).toNatClampNeg v5) mod_many) := hD
    refine lv_aload_n hx hb d_MOD_add_238 rfl (lv_at hl 0 rfl) ?_
    refine va_get (D := (dC, dI)) (ci := 12) (v := .ref a_mod_many) (C := R_MOD) (T := F_MOD) (N := N_MOD) hx hb hts i_MOD hown hK hP 0 rfl rfl 33 (by decide) (hts _ tw_1026) (fun _ h9 => h9) rfl d_MOD_add_239 ?_
    refine lv_iload_n hx hb d_MOD_add_242 rfl (lv_at hl 1 rfl) ?_
    refine lv_iload hx hb d_MOD_add_243 (lv_at hl 5 rfl) ?_
    refine lv_iconst (v := 1) hx hb d_MOD_add_245 (by decide) ?_
    refine lv_iadd hx hb d_MOD_add_246 ?_
    obtain ⟨hin, hf⟩ := grd_in hf
    refine va_iast hx hb hK hP hD hS 3 0 rfl rfl hin d_MOD_add_247 (fun H locs hP hD hS => ?_)
    have hP : va_P (dC, dI) classes (w_52 cI tS a_mod a_mod_hand a_mod_text a_mod_kind a_mod_value a_mod_most a_mod_span a_mod_size a_mod_whose a_mod_rangeFrom a_mod_rangeMany a_mod_begins a_mod_ends a_mod_names a_mod_nameSize a_mod_opened a_mod_number a_mod_flagsBefore a_mod_rows a_mod_parts a_mod_low a_mod_high a_mod_many a_mod_like a_mod_sets a_mod_large a_mod_named mod_thrown mod_inHand mod_n mod_at mod_fault mod_place mod_nodes mod_ranges mod_numbered mod_depth mod_flags mod_repeatable mod_behind mod_notSet mod_least mod_greatest (upd mod_low (v6 + v8).toNatClampNeg v4) (upd mod_high (v6 + v8).toNatClampNeg v5) (upd mod_many p1.toNatClampNeg (v7 + 1))) H := hP
    have hD : va_D A (w_52 cI tS a_mod a_mod_hand a_mod_text a_mod_kind a_mod_value a_mod_most a_mod_span a_mod_size a_mod_whose a_mod_rangeFrom a_mod_rangeMany a_mod_begins a_mod_ends a_mod_names a_mod_nameSize a_mod_opened a_mod_number a_mod_flagsBefore a_mod_rows a_mod_parts a_mod_low a_mod_high a_mod_many a_mod_like a_mod_sets a_mod_large a_mod_named mod_thrown mod_inHand mod_n mod_at mod_fault mod_place mod_nodes mod_ranges mod_numbered mod_depth mod_flags mod_repeatable mod_behind mod_notSet mod_least mod_greatest (upd mod_low (v6 + v8).toNatClampNeg v4) (upd mod_high (v6 + v8).toNatClampNeg v5) (upd mod_many p1.toNatClampNeg (v7 + 1))) := hD
    obtain rfl := Option.some.inj hf
    exact W.vret hx hb hr (fun t ht hW => ⟨⟨(), rfl, trivial, ⟨by rw [ht]; exact hP, va_K.moved hW.alike hK, hD⟩⟩, hS.F ht⟩) hS.2.2 d_MOD_add_248
  have L142 : ∀ n142 : Nat, ∀ (v4 : Int32) (v5 : Int32) (v6 : Int32) (v7 : Int32) (v8 : Int32) (mod_low : Nat → Int32) (mod_high : Nat → Int32) (mod_many : Nat → Int32) (H : Heap) (locs : List Loc) (ls : Array Slot), va_P (dC, dI) classes (w_52 cI tS a_mod a_mod_hand a_mod_text a_mod_kind a_mod_value a_mod_most a_mod_span a_mod_size a_mod_whose a_mod_rangeFrom a_mod_rangeMany a_mod_begins a_mod_ends a_mod_names a_mod_nameSize a_mod_opened a_mod_number a_mod_flagsBefore a_mod_rows a_mod_parts a_mod_low a_mod_high a_mod_many a_mod_like a_mod_sets a_mod_large a_mod_named mod_thrown mod_inHand mod_n mod_at mod_fault mod_place mod_nodes mod_ranges mod_numbered mod_depth mod_flags mod_repeatable mod_behind mod_notSet mod_least mod_greatest mod_low mod_high mod_many) H → va_D A (w_52 cI tS a_mod a_mod_hand a_mod_text a_mod_kind a_mod_value a_mod_most a_mod_span a_mod_size a_mod_whose a_mod_rangeFrom a_mod_rangeMany a_mod_begins a_mod_ends a_mod_names a_mod_nameSize a_mod_opened a_mod_number a_mod_flagsBefore a_mod_rows a_mod_parts a_mod_low a_mod_high a_mod_many a_mod_like a_mod_sets a_mod_large a_mod_named mod_thrown mod_inHand mod_n mod_at mod_fault mod_place mod_nodes mod_ranges mod_numbered mod_depth mod_flags mod_repeatable mod_behind mod_notSet mod_least mod_greatest mod_low mod_high mod_many) → va_S A s.heap H locs → lv_has ls 11 [(0, .ref a_mod), (1, .int p1), (4, .int v4), (5, .int v5), (6, .int v6), (7, .int v7), (8, .int v8)] → f_MOD_add_L142 p1 p2 p3 n142 (v4, v5, v6, v7, v8, mod_low, mod_high, mod_many) = some R0 → W p l e (headSpec ws_MOD_add ({ frames := 0, cells := 0, slots := 0, locals := 0 })).room s m ([.ref a_mod, .int p1, .int p2, .int p3] : List Value).toArray below meth c H locs 0 0 (MQ below (va_Qv (fun _ : Unit => True) (fun _ t => posS (dC, dI) classes [(cI, .int)] (w_52 cI tS a_mod a_mod_hand a_mod_text a_mod_kind a_mod_value a_mod_most a_mod_span a_mod_size a_mod_whose a_mod_rangeFrom a_mod_rangeMany a_mod_begins a_mod_ends a_mod_names a_mod_nameSize a_mod_opened a_mod_number a_mod_flagsBefore a_mod_rows a_mod_parts a_mod_low a_mod_high a_mod_many a_mod_like a_mod_sets a_mod_large a_mod_named mod_thrown mod_inHand mod_n mod_at mod_fault mod_place mod_nodes mod_ranges mod_numbered mod_depth mod_flags mod_repeatable mod_behind mod_notSet mod_least mod_greatest R0.1 R0.2.1 R0.2.2) (A) t) (A)) ([.ref a_mod, .int p1, .int p2, .int p3] : List Value).toArray s 0 0 A) (F0 m 142 ls []) := by
    intro n142
    induction n142 with
    | zero =>
      intro v4 v5 v6 v7 v8 mod_low mod_high mod_many H locs ls hP hD hS hl hf
      exact absurd (show (none : Option _) = some R0 from hf) (fun h => by cases h)
    | succ n142 ih142 =>
      intro v4 v5 v6 v7 v8 mod_low mod_high mod_many H locs ls hP hD hS hl hf
      have hf : f_MOD_add_B142 p1 p2 p3 (f_MOD_add_L142 p1 p2 p3 n142) v4 v5 v6 v7 v8 mod_low mod_high mod_many = some R0 := hf
      refine lv_iload hx hb d_MOD_add_142 (lv_at hl 6 rfl) ?_
      refine lv_if_le (tgt := 214) hx hb d_MOD_add_144 (by decide) (fun c_ => ?_) (fun c_ => ?_)
      · have hf := f_pos c_ hf
        exact L214 v4 v5 v6 v7 v8 mod_low mod_high mod_many _ _ _ hP hD hS (lv_sub hl [0, 1, 2, 3, 4, 5, 6] rfl) hf
      · have hf := f_neg c_ hf
        refine lv_aload_n hx hb d_MOD_add_147 rfl (lv_at hl 0 rfl) ?_
        refine va_get (D := (dC, dI)) (ci := 12) (v := .ref a_mod_low) (C := R_MOD) (T := F_MOD) (N := N_MOD) hx hb hts i_MOD hown hK hP 0 rfl rfl 31 (by decide) (hts _ tw_1024) (fun _ h9 => h9) rfl d_MOD_add_148 ?_
        refine lv_iload hx hb d_MOD_add_151 (lv_at hl 4 rfl) ?_
        refine lv_iload hx hb d_MOD_add_153 (lv_at hl 6 rfl) ?_
        refine lv_iadd hx hb d_MOD_add_155 ?_
        refine lv_iconst (v := 1) hx hb d_MOD_add_156 (by decide) ?_
        refine lv_isub hx hb d_MOD_add_157 ?_
        obtain ⟨hin, hf⟩ := grd_in hf
        refine va_iald hx hb hK hP 1 0 rfl rfl hin d_MOD_add_158 ?_
        refine lv_iload hx hb d_MOD_add_159 (lv_at hl 2 rfl) ?_
        refine lv_icmp_le (tgt := 214) hx hb d_MOD_add_161 (by decide) (fun c_ => ?_) (fun c_ => ?_)
        · have hf := f_pos c_ hf
          exact L214 v4 v5 v6 v7 v8 mod_low mod_high mod_many _ _ _ hP hD hS (lv_sub hl [0, 1, 2, 3, 4, 5, 6] rfl) hf
        · have hf := f_neg c_ hf
          refine lv_aload_n hx hb d_MOD_add_164 rfl (lv_at hl 0 rfl) ?_
          refine va_get (D := (dC, dI)) (ci := 12) (v := .ref a_mod_low) (C := R_MOD) (T := F_MOD) (N := N_MOD) hx hb hts i_MOD hown hK hP 0 rfl rfl 31 (by decide) (hts _ tw_1024) (fun _ h9 => h9) rfl d_MOD_add_165 ?_
          refine lv_iload hx hb d_MOD_add_168 (lv_at hl 4 rfl) ?_
          refine lv_iload hx hb d_MOD_add_170 (lv_at hl 6 rfl) ?_
          refine lv_iadd hx hb d_MOD_add_172 ?_
          refine lv_aload_n hx hb d_MOD_add_173 rfl (lv_at hl 0 rfl) ?_
          refine va_get (D := (dC, dI)) (ci := 12) (v := .ref a_mod_low) (C := R_MOD) (T := F_MOD) (N := N_MOD) hx hb hts i_MOD hown hK hP 0 rfl rfl 31 (by decide) (hts _ tw_1024) (fun _ h9 => h9) rfl d_MOD_add_174 ?_
          refine lv_iload hx hb d_MOD_add_177 (lv_at hl 4 rfl) ?_
          refine lv_iload hx hb d_MOD_add_179 (lv_at hl 6 rfl) ?_
          refine lv_iadd hx hb d_MOD_add_181 ?_
          refine lv_iconst (v := 1) hx hb d_MOD_add_182 (by decide) ?_
          refine lv_isub hx hb d_MOD_add_183 ?_
          obtain ⟨hin, hf⟩ := grd_in hf
          refine va_iald hx hb hK hP 1 0 rfl rfl hin d_MOD_add_184 ?_
          obtain ⟨hin, hf⟩ := grd_in hf
          refine va_iast hx hb hK hP hD hS 1 0 rfl rfl hin d_MOD_add_185 (fun H locs hP hD hS => ?_)
          have hP : va_P (dC, dI) classes (w_52 cI tS a_mod a_mod_hand a_mod_text a_mod_kind a_mod_value a_mod_most a_mod_span a_mod_size a_mod_whose a_mod_rangeFrom a_mod_rangeMany a_mod_begins a_mod_ends a_mod_names a_mod_nameSize a_mod_opened a_mod_number a_mod_flagsBefore a_mod_rows a_mod_parts a_mod_low a_mod_high a_mod_many a_mod_like a_mod_sets a_mod_large a_mod_named mod_thrown mod_inHand mod_n mod_at mod_fault mod_place mod_nodes mod_ranges mod_numbered mod_depth mod_flags mod_repeatable mod_behind mod_notSet mod_least mod_greatest (upd mod_low (v6 + v8).toNatClampNeg (mod_low ((v6 + v8) - 1).toNatClampNeg)) mod_high mod_many) H := hP
          have hD : va_D A (w_52 cI tS a_mod a_mod_hand a_mod_text a_mod_kind a_mod_value a_mod_most a_mod_span a_mod_size a_mod_whose a_mod_rangeFrom a_mod_rangeMany a_mod_begins a_mod_ends a_mod_names a_mod_nameSize a_mod_opened a_mod_number a_mod_flagsBefore a_mod_rows a_mod_parts a_mod_low a_mod_high a_mod_many a_mod_like a_mod_sets a_mod_large a_mod_named mod_thrown mod_inHand mod_n mod_at mod_fault mod_place mod_nodes mod_ranges mod_numbered mod_depth mod_flags mod_repeatable mod_behind mod_notSet mod_least mod_greatest (upd mod_low (v6 + v8).toNatClampNeg (mod_low ((v6 + v8) - 1).toNatClampNeg)) mod_high mod_many) := hD
          refine lv_aload_n hx hb d_MOD_add_186 rfl (lv_at hl 0 rfl) ?_
          refine va_get (D := (dC, dI)) (ci := 12) (v := .ref a_mod_high) (C := R_MOD) (T := F_MOD) (N := N_MOD) hx hb hts i_MOD hown hK hP 0 rfl rfl 32 (by decide) (hts _ tw_1025) (fun _ h9 => h9) rfl d_MOD_add_187 ?_
          refine lv_iload hx hb d_MOD_add_190 (lv_at hl 4 rfl) ?_
          refine lv_iload hx hb d_MOD_add_192 (lv_at hl 6 rfl) ?_
          refine lv_iadd hx hb d_MOD_add_194 ?_
          refine lv_aload_n hx hb d_MOD_add_195 rfl (lv_at hl 0 rfl) ?_
          refine va_get (D := (dC, dI)) (ci := 12) (v := .ref a_mod_high) (C := R_MOD) (T := F_MOD) (N := N_MOD) hx hb hts i_MOD hown hK hP 0 rfl rfl 32 (by decide) (hts _ tw_1025) (fun _ h9 => h9) rfl d_MOD_add_196 ?_
          refine lv_iload hx hb d_MOD_add_199 (lv_at hl 4 rfl) ?_
          refine lv_iload hx hb d_MOD_add_201 (lv_at hl 6 rfl) ?_
          refine lv_iadd hx hb d_MOD_add_203 ?_
          refine lv_iconst (v := 1) hx hb d_MOD_add_204 (by decide) ?_
          refine lv_isub hx hb d_MOD_add_205 ?_
          obtain ⟨hin, hf⟩ := grd_in hf
          refine va_iald hx hb hK hP 2 0 rfl rfl hin d_MOD_add_206 ?_
          obtain ⟨hin, hf⟩ := grd_in hf
          refine va_iast hx hb hK hP hD hS 2 0 rfl rfl hin d_MOD_add_207 (fun H locs hP hD hS => ?_)
          have hP : va_P (dC, dI) classes (w_52 cI tS a_mod a_mod_hand a_mod_text a_mod_kind a_mod_value a_mod_most a_mod_span a_mod_size a_mod_whose a_mod_rangeFrom a_mod_rangeMany a_mod_begins a_mod_ends a_mod_names a_mod_nameSize a_mod_opened a_mod_number a_mod_flagsBefore a_mod_rows a_mod_parts a_mod_low a_mod_high a_mod_many a_mod_like a_mod_sets a_mod_large a_mod_named mod_thrown mod_inHand mod_n mod_at mod_fault mod_place mod_nodes mod_ranges mod_numbered mod_depth mod_flags mod_repeatable mod_behind mod_notSet mod_least mod_greatest (upd mod_low (v6 + v8).toNatClampNeg (mod_low ((v6 + v8) - 1).toNatClampNeg)) (upd mod_high (v6 + v8).toNatClampNeg (mod_high ((v6 + v8) - 1).toNatClampNeg)) mod_many) H := hP
          have hD : va_D A (w_52 cI tS a_mod a_mod_hand a_mod_text a_mod_kind a_mod_value a_mod_most a_mod_span a_mod_size a_mod_whose a_mod_rangeFrom a_mod_rangeMany a_mod_begins a_mod_ends a_mod_names a_mod_nameSize a_mod_opened a_mod_number a_mod_flagsBefore a_mod_rows a_mod_parts a_mod_low a_mod_high a_mod_many a_mod_like a_mod_sets a_mod_large a_mod_named mod_thrown mod_inHand mod_n mod_at mod_fault mod_place mod_nodes mod_ranges mod_numbered mod_depth mod_flags mod_repeatable mod_behind mod_notSet mod_least mod_greatest (upd mod_low (v6 + v8).toNatClampNeg (mod_low ((v6 + v8) - 1).toNatClampNeg)) (upd mod_high (v6 + v8).toNatClampNeg (mod_high ((v6 + v8) - 1).toNatClampNeg)) mod_many) := hD
          refine lv_iinc (v := v8 + (-1)) (lv' := [(8, .int (v8 + (-1))), (0, .ref a_mod), (1, .int p1), (4, .int v4), (5, .int v5), (6, .int v6), (7, .int v7)]) hx hb d_MOD_add_208 hl (k := 6) rfl rfl (by decide) rfl (fun ls hl => ?_)
          refine lv_goto (tgt := 142) hx hb d_MOD_add_211 (by decide) ?_
          exact ih142 v4 v5 v6 v7 (v8 + (-1)) (upd mod_low (v6 + v8).toNatClampNeg (mod_low ((v6 + v8) - 1).toNatClampNeg)) (upd mod_high (v6 + v8).toNatClampNeg (mod_high ((v6 + v8) - 1).toNatClampNeg)) mod_many _ _ _ hP hD hS (lv_sub hl [1, 2, 3, 4, 5, 6, 0] rfl) hf
  have L19 : ∀ n19 : Nat, ∀ (v4 : Int32) (v5 : Int32) (v6 : Int32) (v7 : Int32) (v8 : Int32) (mod_low : Nat → Int32) (mod_high : Nat → Int32) (mod_many : Nat → Int32) (H : Heap) (locs : List Loc) (ls : Array Slot), va_P (dC, dI) classes (w_52 cI tS a_mod a_mod_hand a_mod_text a_mod_kind a_mod_value a_mod_most a_mod_span a_mod_size a_mod_whose a_mod_rangeFrom a_mod_rangeMany a_mod_begins a_mod_ends a_mod_names a_mod_nameSize a_mod_opened a_mod_number a_mod_flagsBefore a_mod_rows a_mod_parts a_mod_low a_mod_high a_mod_many a_mod_like a_mod_sets a_mod_large a_mod_named mod_thrown mod_inHand mod_n mod_at mod_fault mod_place mod_nodes mod_ranges mod_numbered mod_depth mod_flags mod_repeatable mod_behind mod_notSet mod_least mod_greatest mod_low mod_high mod_many) H → va_D A (w_52 cI tS a_mod a_mod_hand a_mod_text a_mod_kind a_mod_value a_mod_most a_mod_span a_mod_size a_mod_whose a_mod_rangeFrom a_mod_rangeMany a_mod_begins a_mod_ends a_mod_names a_mod_nameSize a_mod_opened a_mod_number a_mod_flagsBefore a_mod_rows a_mod_parts a_mod_low a_mod_high a_mod_many a_mod_like a_mod_sets a_mod_large a_mod_named mod_thrown mod_inHand mod_n mod_at mod_fault mod_place mod_nodes mod_ranges mod_numbered mod_depth mod_flags mod_repeatable mod_behind mod_notSet mod_least mod_greatest mod_low mod_high mod_many) → va_S A s.heap H locs → lv_has ls 11 [(0, .ref a_mod), (1, .int p1), (2, .int p2), (3, .int p3), (4, .int v4), (5, .int v5), (6, .int v6), (7, .int v7), (8, .int v8)] → f_MOD_add_L19 p1 p2 p3 n19 (v4, v5, v6, v7, v8, mod_low, mod_high, mod_many) = some R0 → W p l e (headSpec ws_MOD_add ({ frames := 0, cells := 0, slots := 0, locals := 0 })).room s m ([.ref a_mod, .int p1, .int p2, .int p3] : List Value).toArray below meth c H locs 0 0 (MQ below (va_Qv (fun _ : Unit => True) (fun _ t => posS (dC, dI) classes [(cI, .int)] (w_52 cI tS a_mod a_mod_hand a_mod_text a_mod_kind a_mod_value a_mod_most a_mod_span a_mod_size a_mod_whose a_mod_rangeFrom a_mod_rangeMany a_mod_begins a_mod_ends a_mod_names a_mod_nameSize a_mod_opened a_mod_number a_mod_flagsBefore a_mod_rows a_mod_parts a_mod_low a_mod_high a_mod_many a_mod_like a_mod_sets a_mod_large a_mod_named mod_thrown mod_inHand mod_n mod_at mod_fault mod_place mod_nodes mod_ranges mod_numbered mod_depth mod_flags mod_repeatable mod_behind mod_notSet mod_least mod_greatest R0.1 R0.2.1 R0.2.2) (A) t) (A)) ([.ref a_mod, .int p1, .int p2, .int p3] : List Value).toArray s 0 0 A) (F0 m 19 ls []) := by
    intro n19
    induction n19 with
    | zero =>
      intro v4 v5 v6 v7 v8 mod_low mod_high mod_many H locs ls hP hD hS hl hf
      exact absurd (show (none : Option _) = some R0 from hf) (fun h => by cases h)
    | succ n19 ih19 =>
      have L105 : ∀ (v4 : Int32) (v5 : Int32) (v6 : Int32) (v7 : Int32) (v8 : Int32) (v9 : Int32) (v10 : Int32) (mod_low : Nat → Int32) (mod_high : Nat → Int32) (mod_many : Nat → Int32) (H : Heap) (locs : List Loc) (ls : Array Slot), va_P (dC, dI) classes (w_52 cI tS a_mod a_mod_hand a_mod_text a_mod_kind a_mod_value a_mod_most a_mod_span a_mod_size a_mod_whose a_mod_rangeFrom a_mod_rangeMany a_mod_begins a_mod_ends a_mod_names a_mod_nameSize a_mod_opened a_mod_number a_mod_flagsBefore a_mod_rows a_mod_parts a_mod_low a_mod_high a_mod_many a_mod_like a_mod_sets a_mod_large a_mod_named mod_thrown mod_inHand mod_n mod_at mod_fault mod_place mod_nodes mod_ranges mod_numbered mod_depth mod_flags mod_repeatable mod_behind mod_notSet mod_least mod_greatest mod_low mod_high mod_many) H → va_D A (w_52 cI tS a_mod a_mod_hand a_mod_text a_mod_kind a_mod_value a_mod_most a_mod_span a_mod_size a_mod_whose a_mod_rangeFrom a_mod_rangeMany a_mod_begins a_mod_ends a_mod_names a_mod_nameSize a_mod_opened a_mod_number a_mod_flagsBefore a_mod_rows a_mod_parts a_mod_low a_mod_high a_mod_many a_mod_like a_mod_sets a_mod_large a_mod_named mod_thrown mod_inHand mod_n mod_at mod_fault mod_place mod_nodes mod_ranges mod_numbered mod_depth mod_flags mod_repeatable mod_behind mod_notSet mod_least mod_greatest mod_low mod_high mod_many) → va_S A s.heap H locs → lv_has ls 11 [(0, .ref a_mod), (1, .int p1), (2, .int p2), (3, .int p3), (4, .int v4), (5, .int v5), (6, .int v6), (7, .int v7), (8, .int v8), (9, .int v9), (10, .int v10)] → f_MOD_add_L105 p1 p2 p3 (f_MOD_add_L19 p1 p2 p3 n19) v4 v5 v6 v7 v8 v9 v10 mod_low mod_high mod_many = some R0 → W p l e (headSpec ws_MOD_add ({ frames := 0, cells := 0, slots := 0, locals := 0 })).room s m ([.ref a_mod, .int p1, .int p2, .int p3] : List Value).toArray below meth c H locs 0 0 (MQ below (va_Qv (fun _ : Unit => True) (fun _ t => posS (dC, dI) classes [(cI, .int)] (w_52 cI tS a_mod a_mod_hand a_mod_text a_mod_kind a_mod_value a_mod_most a_mod_span a_mod_size a_mod_whose a_mod_rangeFrom a_mod_rangeMany a_mod_begins a_mod_ends a_mod_names a_mod_nameSize a_mod_opened a_mod_number a_mod_flagsBefore a_mod_rows a_mod_parts a_mod_low a_mod_high a_mod_many a_mod_like a_mod_sets a_mod_large a_mod_named mod_thrown mod_inHand mod_n mod_at mod_fault mod_place mod_nodes mod_ranges mod_numbered mod_depth mod_flags mod_repeatable mod_behind mod_notSet mod_least mod_greatest R0.1 R0.2.1 R0.2.2) (A) t) (A)) ([.ref a_mod, .int p1, .int p2, .int p3] : List Value).toArray s 0 0 A) (F0 m 105 ls []) := by
        intro v4 v5 v6 v7 v8 v9 v10 mod_low mod_high mod_many H locs ls hP hD hS hl hf
        refine lv_aload_n hx hb d_MOD_add_105 rfl (lv_at hl 0 rfl) ?_
        refine va_get (D := (dC, dI)) (ci := 12) (v := .ref a_mod_low) (C := R_MOD) (T := F_MOD) (N := N_MOD) hx hb hts i_MOD hown hK hP 0 rfl rfl 31 (by decide) (hts _ tw_1024) (fun _ h9 => h9) rfl d_MOD_add_106 ?_
        refine lv_iload hx hb d_MOD_add_109 (lv_at hl 6 rfl) ?_
        refine lv_iload hx hb d_MOD_add_111 (lv_at hl 7 rfl) ?_
        refine lv_iadd hx hb d_MOD_add_113 ?_
        refine lv_iload hx hb d_MOD_add_114 (lv_at hl 9 rfl) ?_
        obtain ⟨hin, hf⟩ := grd_in hf
        refine va_iast hx hb hK hP hD hS 1 0 rfl rfl hin d_MOD_add_116 (fun H locs hP hD hS => ?_)
        have hP : va_P (dC, dI) classes (w_52 cI tS a_mod a_mod_hand a_mod_text a_mod_kind a_mod_value a_mod_most a_mod_span a_mod_size a_mod_whose a_mod_rangeFrom a_mod_rangeMany a_mod_begins a_mod_ends a_mod_names a_mod_nameSize a_mod_opened a_mod_number a_mod_flagsBefore a_mod_rows a_mod_parts a_mod_low a_mod_high a_mod_many a_mod_like a_mod_sets a_mod_large a_mod_named mod_thrown mod_inHand mod_n mod_at mod_fault mod_place mod_nodes mod_ranges mod_numbered mod_depth mod_flags mod_repeatable mod_behind mod_notSet mod_least mod_greatest (upd mod_low (v6 + v7).toNatClampNeg v9) mod_high mod_many) H := hP
        have hD : va_D A (w_52 cI tS a_mod a_mod_hand a_mod_text a_mod_kind a_mod_value a_mod_most a_mod_span a_mod_size a_mod_whose a_mod_rangeFrom a_mod_rangeMany a_mod_begins a_mod_ends a_mod_names a_mod_nameSize a_mod_opened a_mod_number a_mod_flagsBefore a_mod_rows a_mod_parts a_mod_low a_mod_high a_mod_many a_mod_like a_mod_sets a_mod_large a_mod_named mod_thrown mod_inHand mod_n mod_at mod_fault mod_place mod_nodes mod_ranges mod_numbered mod_depth mod_flags mod_repeatable mod_behind mod_notSet mod_least mod_greatest (upd mod_low (v6 + v7).toNatClampNeg v9) mod_high mod_many) := hD
        refine lv_aload_n hx hb d_MOD_add_117 rfl (lv_at hl 0 rfl) ?_
        refine va_get (D := (dC, dI)) (ci := 12) (v := .ref a_mod_high) (C := R_MOD) (T := F_MOD) (N := N_MOD) hx hb hts i_MOD hown hK hP 0 rfl rfl 32 (by decide) (hts _ tw_1025) (fun _ h9 => h9) rfl d_MOD_add_118 ?_
        refine lv_iload hx hb d_MOD_add_121 (lv_at hl 6 rfl) ?_
        refine lv_iload hx hb d_MOD_add_123 (lv_at hl 7 rfl) ?_
        refine lv_iadd hx hb d_MOD_add_125 ?_
        refine lv_iload hx hb d_MOD_add_126 (lv_at hl 10 rfl) ?_
        obtain ⟨hin, hf⟩ := grd_in hf
        refine va_iast hx hb hK hP hD hS 2 0 rfl rfl hin d_MOD_add_128 (fun H locs hP hD hS => ?_)
        have hP : va_P (dC, dI) classes (w_52 cI tS a_mod a_mod_hand a_mod_text a_mod_kind a_mod_value a_mod_most a_mod_span a_mod_size a_mod_whose a_mod_rangeFrom a_mod_rangeMany a_mod_begins a_mod_ends a_mod_names a_mod_nameSize a_mod_opened a_mod_number a_mod_flagsBefore a_mod_rows a_mod_parts a_mod_low a_mod_high a_mod_many a_mod_like a_mod_sets a_mod_large a_mod_named mod_thrown mod_inHand mod_n mod_at mod_fault mod_place mod_nodes mod_ranges mod_numbered mod_depth mod_flags mod_repeatable mod_behind mod_notSet mod_least mod_greatest (upd mod_low (v6 + v7).toNatClampNeg v9) (upd mod_high (v6 + v7).toNatClampNeg v10) mod_many) H := hP
        have hD : va_D A (w_52 cI tS a_mod a_mod_hand a_mod_text a_mod_kind a_mod_value a_mod_most a_mod_span a_mod_size a_mod_whose a_mod_rangeFrom a_mod_rangeMany a_mod_begins a_mod_ends a_mod_names a_mod_nameSize a_mod_opened a_mod_number a_mod_flagsBefore a_mod_rows a_mod_parts a_mod_low a_mod_high a_mod_many a_mod_like a_mod_sets a_mod_large a_mod_named mod_thrown mod_inHand mod_n mod_at mod_fault mod_place mod_nodes mod_ranges mod_numbered mod_depth mod_flags mod_repeatable mod_behind mod_notSet mod_least mod_greatest (upd mod_low (v6 + v7).toNatClampNeg v9) (upd mod_high (v6 + v7).toNatClampNeg v10) mod_many) := hD
        refine lv_iinc (v := v7 + 1) (lv' := [(7, .int (v7 + 1)), (0, .ref a_mod), (1, .int p1), (2, .int p2), (3, .int p3), (4, .int v4), (5, .int v5), (6, .int v6), (8, .int v8), (9, .int v9), (10, .int v10)]) hx hb d_MOD_add_129 hl (k := 7) rfl rfl (by decide) rfl (fun ls hl => ?_)
        refine lv_iinc (v := v8 + 1) (lv' := [(8, .int (v8 + 1)), (7, .int (v7 + 1)), (0, .ref a_mod), (1, .int p1), (2, .int p2), (3, .int p3), (4, .int v4), (5, .int v5), (6, .int v6), (9, .int v9), (10, .int v10)]) hx hb d_MOD_add_132 hl (k := 8) rfl rfl (by decide) rfl (fun ls hl => ?_)
        refine lv_goto (tgt := 19) hx hb d_MOD_add_135 (by decide) ?_
        exact ih19 v4 v5 v6 (v7 + 1) (v8 + 1) (upd mod_low (v6 + v7).toNatClampNeg v9) (upd mod_high (v6 + v7).toNatClampNeg v10) mod_many _ _ _ hP hD hS (lv_sub hl [2, 3, 4, 5, 6, 7, 8, 1, 0] rfl) hf
      have L84 : ∀ (v5 : Int32) (v6 : Int32) (v7 : Int32) (v8 : Int32) (v10 : Int32) (z0 : Int32) (mod_low : Nat → Int32) (mod_high : Nat → Int32) (mod_many : Nat → Int32) (H : Heap) (locs : List Loc) (ls : Array Slot), va_P (dC, dI) classes (w_52 cI tS a_mod a_mod_hand a_mod_text a_mod_kind a_mod_value a_mod_most a_mod_span a_mod_size a_mod_whose a_mod_rangeFrom a_mod_rangeMany a_mod_begins a_mod_ends a_mod_names a_mod_nameSize a_mod_opened a_mod_number a_mod_flagsBefore a_mod_rows a_mod_parts a_mod_low a_mod_high a_mod_many a_mod_like a_mod_sets a_mod_large a_mod_named mod_thrown mod_inHand mod_n mod_at mod_fault mod_place mod_nodes mod_ranges mod_numbered mod_depth mod_flags mod_repeatable mod_behind mod_notSet mod_least mod_greatest mod_low mod_high mod_many) H → va_D A (w_52 cI tS a_mod a_mod_hand a_mod_text a_mod_kind a_mod_value a_mod_most a_mod_span a_mod_size a_mod_whose a_mod_rangeFrom a_mod_rangeMany a_mod_begins a_mod_ends a_mod_names a_mod_nameSize a_mod_opened a_mod_number a_mod_flagsBefore a_mod_rows a_mod_parts a_mod_low a_mod_high a_mod_many a_mod_like a_mod_sets a_mod_large a_mod_named mod_thrown mod_inHand mod_n mod_at mod_fault mod_place mod_nodes mod_ranges mod_numbered mod_depth mod_flags mod_repeatable mod_behind mod_notSet mod_least mod_greatest mod_low mod_high mod_many) → va_S A s.heap H locs → lv_has ls 11 [(0, .ref a_mod), (1, .int p1), (2, .int p2), (3, .int p3), (5, .int v5), (6, .int v6), (7, .int v7), (8, .int v8), (10, .int v10)] → f_MOD_add_L84 p1 p2 p3 (f_MOD_add_L19 p1 p2 p3 n19) v5 v6 v7 v8 v10 z0 mod_low mod_high mod_many = some R0 → W p l e (headSpec ws_MOD_add ({ frames := 0, cells := 0, slots := 0, locals := 0 })).room s m ([.ref a_mod, .int p1, .int p2, .int p3] : List Value).toArray below meth c H locs 0 0 (MQ below (va_Qv (fun _ : Unit => True) (fun _ t => posS (dC, dI) classes [(cI, .int)] (w_52 cI tS a_mod a_mod_hand a_mod_text a_mod_kind a_mod_value a_mod_most a_mod_span a_mod_size a_mod_whose a_mod_rangeFrom a_mod_rangeMany a_mod_begins a_mod_ends a_mod_names a_mod_nameSize a_mod_opened a_mod_number a_mod_flagsBefore a_mod_rows a_mod_parts a_mod_low a_mod_high a_mod_many a_mod_like a_mod_sets a_mod_large a_mod_named mod_thrown mod_inHand mod_n mod_at mod_fault mod_place mod_nodes mod_ranges mod_numbered mod_depth mod_flags mod_repeatable mod_behind mod_notSet mod_least mod_greatest R0.1 R0.2.1 R0.2.2) (A) t) (A)) ([.ref a_mod, .int p1, .int p2, .int p3] : List Value).toArray s 0 0 A) (F0 m 84 ls [.int z0]) := by
        intro v5 v6 v7 v8 v10 z0 mod_low mod_high mod_many H locs ls hP hD hS hl hf
        refine lv_istore (lv' := [(4, .int z0), (0, .ref a_mod), (1, .int p1), (2, .int p2), (3, .int p3), (5, .int v5), (6, .int v6), (7, .int v7), (8, .int v8), (10, .int v10)]) hx hb d_MOD_add_84 hl (by decide) rfl (fun ls hl => ?_)
        refine lv_iload hx hb d_MOD_add_86 (lv_at hl 9 rfl) ?_
        refine lv_iload hx hb d_MOD_add_88 (lv_at hl 5 rfl) ?_
        refine lv_icmp_le (tgt := 98) hx hb d_MOD_add_90 (by decide) (fun c_ => ?_) (fun c_ => ?_)
        · have hf := f_pos c_ hf
          refine lv_iload hx hb d_MOD_add_98 (lv_at hl 5 rfl) ?_
          refine lv_istore (lv' := [(5, .int v5), (4, .int z0), (0, .ref a_mod), (1, .int p1), (2, .int p2), (3, .int p3), (6, .int v6), (7, .int v7), (8, .int v8), (10, .int v10)]) hx hb d_MOD_add_100 hl (by decide) rfl (fun ls hl => ?_)
          refine lv_goto (tgt := 132) hx hb d_MOD_add_102 (by decide) ?_
          refine lv_iinc (v := v8 + 1) (lv' := [(8, .int (v8 + 1)), (5, .int v5), (4, .int z0), (0, .ref a_mod), (1, .int p1), (2, .int p2), (3, .int p3), (6, .int v6), (7, .int v7), (10, .int v10)]) hx hb d_MOD_add_132 hl (k := 8) rfl rfl (by decide) rfl (fun ls hl => ?_)
          refine lv_goto (tgt := 19) hx hb d_MOD_add_135 (by decide) ?_
          exact ih19 z0 v5 v6 v7 (v8 + 1) mod_low mod_high mod_many _ _ _ hP hD hS (lv_sub hl [3, 4, 5, 6, 2, 1, 7, 8, 0] rfl) hf
        · have hf := f_neg c_ hf
          refine lv_iload hx hb d_MOD_add_93 (lv_at hl 9 rfl) ?_
          refine lv_goto (tgt := 100) hx hb d_MOD_add_95 (by decide) ?_
          refine lv_istore (lv' := [(5, .int v10), (4, .int z0), (0, .ref a_mod), (1, .int p1), (2, .int p2), (3, .int p3), (6, .int v6), (7, .int v7), (8, .int v8), (10, .int v10)]) hx hb d_MOD_add_100 hl (by decide) rfl (fun ls hl => ?_)
          refine lv_goto (tgt := 132) hx hb d_MOD_add_102 (by decide) ?_
          refine lv_iinc (v := v8 + 1) (lv' := [(8, .int (v8 + 1)), (5, .int v10), (4, .int z0), (0, .ref a_mod), (1, .int p1), (2, .int p2), (3, .int p3), (6, .int v6), (7, .int v7), (10, .int v10)]) hx hb d_MOD_add_132 hl (k := 8) rfl rfl (by decide) rfl (fun ls hl => ?_)
          refine lv_goto (tgt := 19) hx hb d_MOD_add_135 (by decide) ?_
          exact ih19 z0 v10 v6 v7 (v8 + 1) mod_low mod_high mod_many _ _ _ hP hD hS (lv_sub hl [3, 4, 5, 6, 2, 1, 7, 8, 0] rfl) hf
      intro v4 v5 v6 v7 v8 mod_low mod_high mod_many H locs ls hP hD hS hl hf
      have hf : f_MOD_add_B19 p1 p2 p3 (f_MOD_add_L19 p1 p2 p3 n19) v4 v5 v6 v7 v8 mod_low mod_high mod_many = some R0 := hf
      refine lv_iload hx hb d_MOD_add_19 (lv_at hl 8 rfl) ?_
      refine lv_aload_n hx hb d_MOD_add_21 rfl (lv_at hl 0 rfl) ?_
      refine va_get (D := (dC, dI)) (ci := 12) (v := .ref a_mod_many) (C := R_MOD) (T := F_MOD) (N := N_MOD) hx hb hts i_MOD hown hK hP 0 rfl rfl 33 (by decide) (hts _ tw_1026) (fun _ h9 => h9) rfl d_MOD_add_22 ?_
      refine lv_iload_n hx hb d_MOD_add_25 rfl (lv_at hl 1 rfl) ?_
      obtain ⟨hin, hf⟩ := grd_in hf
      refine va_iald hx hb hK hP 3 0 rfl rfl hin d_MOD_add_26 ?_
      refine lv_icmp_ge (tgt := 138) hx hb d_MOD_add_27 (by decide) (fun c_ => ?_) (fun c_ => ?_)
      · have hf := f_pos c_ hf
        refine lv_iload hx hb d_MOD_add_138 (lv_at hl 7 rfl) ?_
        refine lv_istore (lv' := [(8, .int v7), (0, .ref a_mod), (1, .int p1), (2, .int p2), (3, .int p3), (4, .int v4), (5, .int v5), (6, .int v6), (7, .int v7)]) hx hb d_MOD_add_140 hl (by decide) rfl (fun ls hl => ?_)
        exact L142 FU v4 v5 v6 v7 v7 mod_low mod_high mod_many _ _ _ hP hD hS (lv_sub hl [1, 2, 5, 6, 7, 8, 0] rfl) hf
      · have hf := f_neg c_ hf
        refine lv_aload_n hx hb d_MOD_add_30 rfl (lv_at hl 0 rfl) ?_
        refine va_get (D := (dC, dI)) (ci := 12) (v := .ref a_mod_low) (C := R_MOD) (T := F_MOD) (N := N_MOD) hx hb hts i_MOD hown hK hP 0 rfl rfl 31 (by decide) (hts _ tw_1024) (fun _ h9 => h9) rfl d_MOD_add_31 ?_
        refine lv_iload hx hb d_MOD_add_34 (lv_at hl 6 rfl) ?_
        refine lv_iload hx hb d_MOD_add_36 (lv_at hl 8 rfl) ?_
        refine lv_iadd hx hb d_MOD_add_38 ?_
        obtain ⟨hin, hf⟩ := grd_in hf
        refine va_iald hx hb hK hP 1 0 rfl rfl hin d_MOD_add_39 ?_
        refine lv_istore (lv' := [(9, .int (mod_low (v6 + v8).toNatClampNeg)), (0, .ref a_mod), (1, .int p1), (2, .int p2), (3, .int p3), (4, .int v4), (5, .int v5), (6, .int v6), (7, .int v7), (8, .int v8)]) hx hb d_MOD_add_40 hl (by decide) rfl (fun ls hl => ?_)
        refine lv_aload_n hx hb d_MOD_add_42 rfl (lv_at hl 1 rfl) ?_
        refine va_get (D := (dC, dI)) (ci := 12) (v := .ref a_mod_high) (C := R_MOD) (T := F_MOD) (N := N_MOD) hx hb hts i_MOD hown hK hP 0 rfl rfl 32 (by decide) (hts _ tw_1025) (fun _ h9 => h9) rfl d_MOD_add_43 ?_
        refine lv_iload hx hb d_MOD_add_46 (lv_at hl 7 rfl) ?_
        refine lv_iload hx hb d_MOD_add_48 (lv_at hl 9 rfl) ?_
        refine lv_iadd hx hb d_MOD_add_50 ?_
        obtain ⟨hin, hf⟩ := grd_in hf
        refine va_iald hx hb hK hP 2 0 rfl rfl hin d_MOD_add_51 ?_
        refine lv_istore (lv' := [(10, .int (mod_high (v6 + v8).toNatClampNeg)), (9, .int (mod_low (v6 + v8).toNatClampNeg)), (0, .ref a_mod), (1, .int p1), (2, .int p2), (3, .int p3), (4, .int v4), (5, .int v5), (6, .int v6), (7, .int v7), (8, .int v8)]) hx hb d_MOD_add_52 hl (by decide) rfl (fun ls hl => ?_)
        refine lv_iload hx hb d_MOD_add_54 (lv_at hl 0 rfl) ?_
        refine lv_iconst (v := 1) hx hb d_MOD_add_56 (by decide) ?_
        refine lv_iadd hx hb d_MOD_add_57 ?_
        refine lv_iload_n hx hb d_MOD_add_58 rfl (lv_at hl 4 rfl) ?_
        refine lv_icmp_lt (tgt := 105) hx hb d_MOD_add_59 (by decide) (fun c_ => ?_) (fun c_ => ?_)
        · have hf := f_pos c_ hf
          exact L105 v4 v5 v6 v7 v8 (mod_low (v6 + v8).toNatClampNeg) (mod_high (v6 + v8).toNatClampNeg) mod_low mod_high mod_many _ _ _ hP hD hS (lv_sub hl [2, 3, 4, 5, 6, 7, 8, 9, 10, 1, 0] rfl) hf
        · have hf := f_neg c_ hf
          refine lv_iload hx hb d_MOD_add_62 (lv_at hl 1 rfl) ?_
          refine lv_iload_n hx hb d_MOD_add_64 rfl (lv_at hl 5 rfl) ?_
          refine lv_iconst (v := 1) hx hb d_MOD_add_65 (by decide) ?_
          refine lv_iadd hx hb d_MOD_add_66 ?_
          refine lv_icmp_gt (tgt := 105) hx hb d_MOD_add_67 (by decide) (fun c_ => ?_) (fun c_ => ?_)
          · have hf := f_pos c_ hf
            exact L105 v4 v5 v6 v7 v8 (mod_low (v6 + v8).toNatClampNeg) (mod_high (v6 + v8).toNatClampNeg) mod_low mod_high mod_many _ _ _ hP hD hS (lv_sub hl [2, 3, 4, 5, 6, 7, 8, 9, 10, 1, 0] rfl) hf
          · have hf := f_neg c_ hf
            refine lv_iload hx hb d_MOD_add_70 (lv_at hl 1 rfl) ?_
            refine lv_iload hx hb d_MOD_add_72 (lv_at hl 6 rfl) ?_
            refine lv_icmp_ge (tgt := 82) hx hb d_MOD_add_74 (by decide) (fun c_ => ?_) (fun c_ => ?_)
            · have hf := f_pos c_ hf
              refine lv_iload hx hb d_MOD_add_82 (lv_at hl 6 rfl) ?_
              exact L84 v5 v6 v7 v8 (mod_high (v6 + v8).toNatClampNeg) v4 mod_low mod_high mod_many _ _ _ hP hD hS (lv_sub hl [2, 3, 4, 5, 7, 8, 9, 10, 0] rfl) hf
            · have hf := f_neg c_ hf
              refine lv_iload hx hb d_MOD_add_77 (lv_at hl 1 rfl) ?_
              refine lv_goto (tgt := 84) hx hb d_MOD_add_79 (by decide) ?_
              exact L84 v5 v6 v7 v8 (mod_high (v6 + v8).toNatClampNeg) (mod_low (v6 + v8).toNatClampNeg) mod_low mod_high mod_many _ _ _ hP hD hS (lv_sub hl [2, 3, 4, 5, 7, 8, 9, 10, 0] rfl) hf
  refine lv_iload_n hx hb d_MOD_add_0 rfl (lv_at hl 2 rfl) ?_
  refine lv_istore (lv' := [(4, .int p2), (0, .ref a_mod), (1, .int p1), (2, .int p2), (3, .int p3)]) hx hb d_MOD_add_1 hl (by decide) rfl (fun ls hl => ?_)
  refine lv_iload_n hx hb d_MOD_add_3 rfl (lv_at hl 4 rfl) ?_
  refine lv_istore (lv' := [(5, .int p3), (4, .int p2), (0, .ref a_mod), (1, .int p1), (2, .int p2), (3, .int p3)]) hx hb d_MOD_add_4 hl (by decide) rfl (fun ls hl => ?_)
  refine lv_sipush (v := 600) hx hb d_MOD_add_6 (by decide) ?_
  refine lv_iload_n hx hb d_MOD_add_9 rfl (lv_at hl 3 rfl) ?_
  refine lv_imul hx hb d_MOD_add_10 ?_
  refine lv_istore (lv' := [(6, .int (600 * p1)), (5, .int p3), (4, .int p2), (0, .ref a_mod), (1, .int p1), (2, .int p2), (3, .int p3)]) hx hb d_MOD_add_11 hl (by decide) rfl (fun ls hl => ?_)
  refine lv_iconst (v := 0) hx hb d_MOD_add_13 (by decide) ?_
  refine lv_istore (lv' := [(7, .int 0), (6, .int (600 * p1)), (5, .int p3), (4, .int p2), (0, .ref a_mod), (1, .int p1), (2, .int p2), (3, .int p3)]) hx hb d_MOD_add_14 hl (by decide) rfl (fun ls hl => ?_)
  refine lv_iconst (v := 0) hx hb d_MOD_add_16 (by decide) ?_
  refine lv_istore (lv' := [(8, .int 0), (7, .int 0), (6, .int (600 * p1)), (5, .int p3), (4, .int p2), (0, .ref a_mod), (1, .int p1), (2, .int p2), (3, .int p3)]) hx hb d_MOD_add_17 hl (by decide) rfl (fun ls hl => ?_)
  exact L19 FU p2 p3 (600 * p1) 0 0 mod_low mod_high mod_many _ _ _ hP hD hS (lv_sub hl [5, 6, 7, 8, 4, 3, 2, 1, 0] rfl) hf
def f_MOD_has_B6 (mod_low : Nat → Int32) (mod_high : Nat → Int32) (mod_many : Nat → Int32) (p1 : Int32) (p2 : Int32) (p3 : Int32) (K6 : (Bool × Int32) → Option Bool) (v4 : Bool) (v5 : Int32) : Option Bool :=
  grd (inb p1 2) (if (mod_many p1.toNatClampNeg) ≤ v5 then some v4 else (if (b2i v4) = 0 then grd (inb ((600 * p1) + v5) 1200) (if p2 < (mod_low ((600 * p1) + v5).toNatClampNeg) then K6 (false, v5 + 1) else grd (inb ((600 * p1) + v5) 1200) (if (mod_high ((600 * p1) + v5).toNatClampNeg) < p3 then K6 (false, v5 + 1) else K6 (true, v5 + 1))) else K6 (true, v5 + 1)))
def f_MOD_has_L6 (mod_low : Nat → Int32) (mod_high : Nat → Int32) (mod_many : Nat → Int32) (p1 : Int32) (p2 : Int32) (p3 : Int32) (n : Nat) (a : Bool × Int32) : Option Bool :=
  lpF (fun K6 v => f_MOD_has_B6 mod_low mod_high mod_many p1 p2 p3  K6 v.1 v.2) n a
def f_MOD_has (mod_low : Nat → Int32) (mod_high : Nat → Int32) (mod_many : Nat → Int32) (p1 : Int32) (p2 : Int32) (p3 : Int32) : Option Bool :=
  f_MOD_has_L6 mod_low mod_high mod_many p1 p2 p3 FU (false, 0)
set_option maxRecDepth 100000 in
set_option maxHeartbeats 4000000 in
theorem c_MOD_has (l : Launch) (dC : Nat → ClassId) (dI : Nat → Nat → Nat) (cI : ClassId) (tS : Nat → Nat → Nat) (sz : Nat) (a_mod a_mod_hand a_mod_text a_mod_kind a_mod_value a_mod_most a_mod_span a_mod_size a_mod_whose a_mod_rangeFrom a_mod_rangeMany a_mod_begins a_mod_ends a_mod_names a_mod_nameSize a_mod_opened a_mod_number a_mod_flagsBefore a_mod_rows a_mod_parts a_mod_low a_mod_high a_mod_many a_mod_like a_mod_sets a_mod_large a_mod_named : Nat) (mod_thrown : Int32) (mod_inHand : Int32) (mod_n : Int32) (mod_at : Int32) (mod_fault : Int32) (mod_place : Int32) (mod_nodes : Int32) (mod_ranges : Int32) (mod_numbered : Int32) (mod_depth : Int32) (mod_flags : Int32) (mod_repeatable : Bool) (mod_behind : Int32) (mod_notSet : Bool) (mod_least : Int32) (mod_greatest : Int32) (mod_low : Nat → Int32) (mod_high : Nat → Int32) (mod_many : Nat → Int32) (p1 : Int32) (p2 : Int32) (p3 : Int32) (R0 : Bool) (hf : f_MOD_has mod_low mod_high mod_many p1 p2 p3 = some R0) : Met l y_MOD_has ws_MOD_has ({ frames := 0, cells := 0, slots := 0, locals := 0 }) (va_Pc [.ref a_mod, .int p1, .int p2, .int p3] (preS (dC, dI) classes [(cI, .int)] tS (w_52 cI tS a_mod a_mod_hand a_mod_text a_mod_kind a_mod_value a_mod_most a_mod_span a_mod_size a_mod_whose a_mod_rangeFrom a_mod_rangeMany a_mod_begins a_mod_ends a_mod_names a_mod_nameSize a_mod_opened a_mod_number a_mod_flagsBefore a_mod_rows a_mod_parts a_mod_low a_mod_high a_mod_many a_mod_like a_mod_sets a_mod_large a_mod_named mod_thrown mod_inHand mod_n mod_at mod_fault mod_place mod_nodes mod_ranges mod_numbered mod_depth mod_flags mod_repeatable mod_behind mod_notSet mod_least mod_greatest mod_low mod_high mod_many) sz)) (va_Qi (fun r (_ : Unit) => r = b2i R0) (fun _ t => posS (dC, dI) classes [(cI, .int)] (w_52 cI tS a_mod a_mod_hand a_mod_text a_mod_kind a_mod_value a_mod_most a_mod_span a_mod_size a_mod_whose a_mod_rangeFrom a_mod_rangeMany a_mod_begins a_mod_ends a_mod_names a_mod_nameSize a_mod_opened a_mod_number a_mod_flagsBefore a_mod_rows a_mod_parts a_mod_low a_mod_high a_mod_many a_mod_like a_mod_sets a_mod_large a_mod_named mod_thrown mod_inHand mod_n mod_at mod_fault mod_place mod_nodes mod_ranges mod_numbered mod_depth mod_flags mod_repeatable mod_behind mod_notSet mod_least mod_greatest mod_low mod_high mod_many) (va_A (w_52 cI tS a_mod a_mod_hand a_mod_text a_mod_kind a_mod_value a_mod_most a_mod_span a_mod_size a_mod_whose a_mod_rangeFrom a_mod_rangeMany a_mod_begins a_mod_ends a_mod_names a_mod_nameSize a_mod_opened a_mod_number a_mod_flagsBefore a_mod_rows a_mod_parts a_mod_low a_mod_high a_mod_many a_mod_like a_mod_sets a_mod_large a_mod_named mod_thrown mod_inHand mod_n mod_at mod_fault mod_place mod_nodes mod_ranges mod_numbered mod_depth mod_flags mod_repeatable mod_behind mod_notSet mod_least mod_greatest mod_low mod_high mod_many) sz) t) (va_A (w_52 cI tS a_mod a_mod_hand a_mod_text a_mod_kind a_mod_value a_mod_most a_mod_span a_mod_size a_mod_whose a_mod_rangeFrom a_mod_rangeMany a_mod_begins a_mod_ends a_mod_names a_mod_nameSize a_mod_opened a_mod_number a_mod_flagsBefore a_mod_rows a_mod_parts a_mod_low a_mod_high a_mod_many a_mod_like a_mod_sets a_mod_large a_mod_named mod_thrown mod_inHand mod_n mod_at mod_fault mod_place mod_nodes mod_ranges mod_numbered mod_depth mod_flags mod_repeatable mod_behind mod_notSet mod_least mod_greatest mod_low mod_high mod_many) sz)) 0 0 (va_A (w_52 cI tS a_mod a_mod_hand a_mod_text a_mod_kind a_mod_value a_mod_most a_mod_span a_mod_size a_mod_whose a_mod_rangeFrom a_mod_rangeMany a_mod_begins a_mod_ends a_mod_names a_mod_nameSize a_mod_opened a_mod_number a_mod_flagsBefore a_mod_rows a_mod_parts a_mod_low a_mod_high a_mod_many a_mod_like a_mod_sets a_mod_large a_mod_named mod_thrown mod_inHand mod_n mod_at mod_fault mod_place mod_nodes mod_ranges mod_numbered mod_depth mod_flags mod_repeatable mod_behind mod_notSet mod_least mod_greatest mod_low mod_high mod_many) sz) := by
  refine Met.ofW (cc := b_MOD_has) (maxL := 6) (ret := (some .boolean)) (by decide) rfl ?_
  intro p e s m args below meth c s₁ B hml hv
  obtain ⟨rfl, hsz, hP, hK, hD0, hst0⟩ := hv
  have hx := B.exec
  have hb := B.bytes
  have hr := B.returns
  have hts0 := atoms_spec (ws := ws_MOD_has) B.pre
  have hts : ∀ w ∈ GW, w.before _ s = true := fun w h => hts0 w (List.mem_cons_of_mem _ h)
  have hown : s.vm.findClass R_MOD = some m.cls := findClass_of_methodNamed B.named
  have hlocks := B.notSynchronized
  subst hsz
  have hD := hD0.self (sz := s.heap.size)
  generalize hAe : va_A (w_52 cI tS a_mod a_mod_hand a_mod_text a_mod_kind a_mod_value a_mod_most a_mod_span a_mod_size a_mod_whose a_mod_rangeFrom a_mod_rangeMany a_mod_begins a_mod_ends a_mod_names a_mod_nameSize a_mod_opened a_mod_number a_mod_flagsBefore a_mod_rows a_mod_parts a_mod_low a_mod_high a_mod_many a_mod_like a_mod_sets a_mod_large a_mod_named mod_thrown mod_inHand mod_n mod_at mod_fault mod_place mod_nodes mod_ranges mod_numbered mod_depth mod_flags mod_repeatable mod_behind mod_notSet mod_least mod_greatest mod_low mod_high mod_many) s.heap.size = A at hD hst0 ⊢
  have hA : ∀ q : Nat, s.heap.size ≤ q → A q := fun q h => by rw [← hAe]; exact Or.inr h
  have hS : va_S A s.heap s.heap [] := va_S.rf
  have hl := lv_entry ([.ref a_mod, .int p1, .int p2, .int p3]) (n := 6) (Nat.le_of_ble_eq_true rfl)
  rw [lg_entry_eq]
  generalize (lg_sl ([.ref a_mod, .int p1, .int p2, .int p3]) ++ List.replicate (6 - (lg_sl ([.ref a_mod, .int p1, .int p2, .int p3])).length) Slot.unset).toArray = ls at hl ⊢
  have hl : lv_has ls 6 [(0, .ref a_mod), (1, .int p1), (2, .int p2), (3, .int p3)] := hl
  have L6 : ∀ n6 : Nat, ∀ (v4 : Bool) (v5 : Int32) (H : Heap) (locs : List Loc) (ls : Array Slot), va_P (dC, dI) classes (w_52 cI tS a_mod a_mod_hand a_mod_text a_mod_kind a_mod_value a_mod_most a_mod_span a_mod_size a_mod_whose a_mod_rangeFrom a_mod_rangeMany a_mod_begins a_mod_ends a_mod_names a_mod_nameSize a_mod_opened a_mod_number a_mod_flagsBefore a_mod_rows a_mod_parts a_mod_low a_mod_high a_mod_many a_mod_like a_mod_sets a_mod_large a_mod_named mod_thrown mod_inHand mod_n mod_at mod_fault mod_place mod_nodes mod_ranges mod_numbered mod_depth mod_flags mod_repeatable mod_behind mod_notSet mod_least mod_greatest mod_low mod_high mod_many) H → va_D A (w_52 cI tS a_mod a_mod_hand a_mod_text a_mod_kind a_mod_value a_mod_most a_mod_span a_mod_size a_mod_whose a_mod_rangeFrom a_mod_rangeMany a_mod_begins a_mod_ends a_mod_names a_mod_nameSize a_mod_opened a_mod_number a_mod_flagsBefore a_mod_rows a_mod_parts a_mod_low a_mod_high a_mod_many a_mod_like a_mod_sets a_mod_large a_mod_named mod_thrown mod_inHand mod_n mod_at mod_fault mod_place mod_nodes mod_ranges mod_numbered mod_depth mod_flags mod_repeatable mod_behind mod_notSet mod_least mod_greatest mod_low mod_high mod_many) → va_S A s.heap H locs → lv_has ls 6 [(0, .ref a_mod), (1, .int p1), (2, .int p2), (3, .int p3), (4, .int (b2i v4)), (5, .int v5)] → f_MOD_has_L6 mod_low mod_high mod_many p1 p2 p3 n6 (v4, v5) = some R0 → W p l e (headSpec ws_MOD_has ({ frames := 0, cells := 0, slots := 0, locals := 0 })).room s m ([.ref a_mod, .int p1, .int p2, .int p3] : List Value).toArray below meth c H locs 0 0 (MQ below (va_Qi (fun r (_ : Unit) => r = b2i R0) (fun _ t => posS (dC, dI) classes [(cI, .int)] (w_52 cI tS a_mod a_mod_hand a_mod_text a_mod_kind a_mod_value a_mod_most a_mod_span a_mod_size a_mod_whose a_mod_rangeFrom a_mod_rangeMany a_mod_begins a_mod_ends a_mod_names a_mod_nameSize a_mod_opened a_mod_number a_mod_flagsBefore a_mod_rows a_mod_parts a_mod_low a_mod_high a_mod_many a_mod_like a_mod_sets a_mod_large a_mod_named mod_thrown mod_inHand mod_n mod_at mod_fault mod_place mod_nodes mod_ranges mod_numbered mod_depth mod_flags mod_repeatable mod_behind mod_notSet mod_least mod_greatest mod_low mod_high mod_many) (A) t) (A)) ([.ref a_mod, .int p1, .int p2, .int p3] : List Value).toArray s 0 0 A) (F0 m 6 ls []) := by
    intro n6
    induction n6 with
    | zero =>
      intro v4 v5 H locs ls hP hD hS hl hf
      exact absurd (show (none : Option _) = some R0 from hf) (fun h => by cases h)
    | succ n6 ih6 =>
      intro v4 v5 H locs ls hP hD hS hl hf
      have hf : f_MOD_has_B6 mod_low mod_high mod_many p1 p2 p3 (f_MOD_has_L6 mod_low mod_high mod_many p1 p2 p3 n6) v4 v5 = some R0 := hf
      refine lv_iload hx hb d_MOD_has_6 (lv_at hl 5 rfl) ?_
      refine lv_aload_n hx hb d_MOD_has_8 rfl (lv_at hl 0 rfl) ?_
      refine va_get (D := (dC, dI)) (ci := 12) (v := .ref a_mod_many) (C := R_MOD) (T := F_MOD) (N := N_MOD) hx hb hts i_MOD hown hK hP 0 rfl rfl 33 (by decide) (hts _ tw_1026) (fun _ h9 => h9) rfl d_MOD_has_9 ?_
      refine lv_iload_n hx hb d_MOD_has_12 rfl (lv_at hl 1 rfl) ?_
      obtain ⟨hin, hf⟩ := grd_in hf
      refine va_iald hx hb hK hP 3 0 rfl rfl hin d_MOD_has_13 ?_
      refine lv_icmp_ge (tgt := 69) hx hb d_MOD_has_14 (by decide) (fun c_ => ?_) (fun c_ => ?_)
      · have hf := f_pos c_ hf
        refine lv_iload hx hb d_MOD_has_69 (lv_at hl 4 rfl) ?_
        obtain rfl := Option.some.inj hf
        exact W.zret (v := b2i v4) hx hb hr (nr_b _) (fun t ht hW => ⟨⟨_, (), rfl, rfl, ⟨by rw [ht]; exact hP, va_K.moved hW.alike hK, hD⟩⟩, hS.F ht⟩) hS.2.2 d_MOD_has_71
      · have hf := f_neg c_ hf
        refine lv_iload hx hb d_MOD_has_17 (lv_at hl 4 rfl) ?_
        refine lv_if_ne (tgt := 56) hx hb d_MOD_has_19 (by decide) (fun c_ => ?_) (fun c_ => ?_)
        · have hf := f_neg c_ hf
          refine lv_iconst (v := 1) hx hb d_MOD_has_56 (by decide) ?_
          refine lv_goto (tgt := 61) hx hb d_MOD_has_57 (by decide) ?_
          refine lv_istore (lv' := [(4, .int 1), (0, .ref a_mod), (1, .int p1), (2, .int p2), (3, .int p3), (5, .int v5)]) hx hb d_MOD_has_61 hl (by decide) rfl (fun ls hl => ?_)
          refine lv_iinc (v := v5 + 1) (lv' := [(5, .int (v5 + 1)), (4, .int 1), (0, .ref a_mod), (1, .int p1), (2, .int p2), (3, .int p3)]) hx hb d_MOD_has_63 hl (k := 5) rfl rfl (by decide) rfl (fun ls hl => ?_)
          refine lv_goto (tgt := 6) hx hb d_MOD_has_66 (by decide) ?_
          exact ih6 true (v5 + 1) _ _ _ hP hD hS (lv_sub hl [2, 3, 4, 5, 1, 0] rfl) hf
        · have hf := f_pos c_ hf
          refine lv_aload_n hx hb d_MOD_has_22 rfl (lv_at hl 0 rfl) ?_
          refine va_get (D := (dC, dI)) (ci := 12) (v := .ref a_mod_low) (C := R_MOD) (T := F_MOD) (N := N_MOD) hx hb hts i_MOD hown hK hP 0 rfl rfl 31 (by decide) (hts _ tw_1024) (fun _ h9 => h9) rfl d_MOD_has_23 ?_
          refine lv_sipush (v := 600) hx hb d_MOD_has_26 (by decide) ?_
          refine lv_iload_n hx hb d_MOD_has_29 rfl (lv_at hl 1 rfl) ?_
          refine lv_imul hx hb d_MOD_has_30 ?_
          refine lv_iload hx hb d_MOD_has_31 (lv_at hl 5 rfl) ?_
          refine lv_iadd hx hb d_MOD_has_33 ?_
          obtain ⟨hin, hf⟩ := grd_in hf
          refine va_iald hx hb hK hP 1 0 rfl rfl hin d_MOD_has_34 ?_
          refine lv_iload_n hx hb d_MOD_has_35 rfl (lv_at hl 2 rfl) ?_
          refine lv_icmp_gt (tgt := 60) hx hb d_MOD_has_36 (by decide) (fun c_ => ?_) (fun c_ => ?_)
          · have hf := f_pos c_ hf
            refine lv_iconst (v := 0) hx hb d_MOD_has_60 (by decide) ?_
            refine lv_istore (lv' := [(4, .int 0), (0, .ref a_mod), (1, .int p1), (2, .int p2), (3, .int p3), (5, .int v5)]) hx hb d_MOD_has_61 hl (by decide) rfl (fun ls hl => ?_)
            refine lv_iinc (v := v5 + 1) (lv' := [(5, .int (v5 + 1)), (4, .int 0), (0, .ref a_mod), (1, .int p1), (2, .int p2), (3, .int p3)]) hx hb d_MOD_has_63 hl (k := 5) rfl rfl (by decide) rfl (fun ls hl => ?_)
            refine lv_goto (tgt := 6) hx hb d_MOD_has_66 (by decide) ?_
            exact ih6 false (v5 + 1) _ _ _ hP hD hS (lv_sub hl [2, 3, 4, 5, 1, 0] rfl) hf
          · have hf := f_neg c_ hf
            refine lv_iload_n hx hb d_MOD_has_39 rfl (lv_at hl 3 rfl) ?_
            refine lv_aload_n hx hb d_MOD_has_40 rfl (lv_at hl 0 rfl) ?_
            refine va_get (D := (dC, dI)) (ci := 12) (v := .ref a_mod_high) (C := R_MOD) (T := F_MOD) (N := N_MOD) hx hb hts i_MOD hown hK hP 0 rfl rfl 32 (by decide) (hts _ tw_1025) (fun _ h9 => h9) rfl d_MOD_has_41 ?_
            refine lv_sipush (v := 600) hx hb d_MOD_has_44 (by decide) ?_
            refine lv_iload_n hx hb d_MOD_has_47 rfl (lv_at hl 1 rfl) ?_
            refine lv_imul hx hb d_MOD_has_48 ?_
            refine lv_iload hx hb d_MOD_has_49 (lv_at hl 5 rfl) ?_
            refine lv_iadd hx hb d_MOD_has_51 ?_
            obtain ⟨hin, hf⟩ := grd_in hf
            refine va_iald hx hb hK hP 2 0 rfl rfl hin d_MOD_has_52 ?_
            refine lv_icmp_gt (tgt := 60) hx hb d_MOD_has_53 (by decide) (fun c_ => ?_) (fun c_ => ?_)
            · have hf := f_pos c_ hf
              refine lv_iconst (v := 0) hx hb d_MOD_has_60 (by decide) ?_
              refine lv_istore (lv' := [(4, .int 0), (0, .ref a_mod), (1, .int p1), (2, .int p2), (3, .int p3), (5, .int v5)]) hx hb d_MOD_has_61 hl (by decide) rfl (fun ls hl => ?_)
              refine lv_iinc (v := v5 + 1) (lv' := [(5, .int (v5 + 1)), (4, .int 0), (0, .ref a_mod), (1, .int p1), (2, .int p2), (3, .int p3)]) hx hb d_MOD_has_63 hl (k := 5) rfl rfl (by decide) rfl (fun ls hl => ?_)
              refine lv_goto (tgt := 6) hx hb d_MOD_has_66 (by decide) ?_
              exact ih6 false (v5 + 1) _ _ _ hP hD hS (lv_sub hl [2, 3, 4, 5, 1, 0] rfl) hf
            · have hf := f_neg c_ hf
              refine lv_iconst (v := 1) hx hb d_MOD_has_56 (by decide) ?_
              refine lv_goto (tgt := 61) hx hb d_MOD_has_57 (by decide) ?_
              refine lv_istore (lv' := [(4, .int 1), (0, .ref a_mod), (1, .int p1), (2, .int p2), (3, .int p3), (5, .int v5)]) hx hb d_MOD_has_61 hl (by decide) rfl (fun ls hl => ?_)
              refine lv_iinc (v := v5 + 1) (lv' := [(5, .int (v5 + 1)), (4, .int 1), (0, .ref a_mod), (1, .int p1), (2, .int p2), (3, .int p3)]) hx hb d_MOD_has_63 hl (k := 5) rfl rfl (by decide) rfl (fun ls hl => ?_)
              refine lv_goto (tgt := 6) hx hb d_MOD_has_66 (by decide) ?_
              exact ih6 true (v5 + 1) _ _ _ hP hD hS (lv_sub hl [2, 3, 4, 5, 1, 0] rfl) hf
  refine lv_iconst (v := 0) hx hb d_MOD_has_0 (by decide) ?_
  refine lv_istore (lv' := [(4, .int 0), (0, .ref a_mod), (1, .int p1), (2, .int p2), (3, .int p3)]) hx hb d_MOD_has_1 hl (by decide) rfl (fun ls hl => ?_)
  refine lv_iconst (v := 0) hx hb d_MOD_has_3 (by decide) ?_
  refine lv_istore (lv' := [(5, .int 0), (4, .int 0), (0, .ref a_mod), (1, .int p1), (2, .int p2), (3, .int p3)]) hx hb d_MOD_has_4 hl (by decide) rfl (fun ls hl => ?_)
  exact L6 FU false 0 _ _ _ hP hD hS (lv_sub hl [2, 3, 4, 5, 1, 0] rfl) hf
def f_MOD_give_L71 (p1 : Bool) (K4 : (Int32 × Int32 × (Nat → Int32) × (Nat → Int32) × (Nat → Int32)) → Option ((Nat → Int32) × (Nat → Int32) × (Nat → Int32))) (v3 : Int32) (v5 : Int32) (mod_low : Nat → Int32) (mod_high : Nat → Int32) (mod_many : Nat → Int32) : Option ((Nat → Int32) × (Nat → Int32) × (Nat → Int32)) :=
  K4 (v5 + 1, v3 + 1, mod_low, mod_high, mod_many)
def f_MOD_give_L51 (p1 : Bool) (K4 : (Int32 × Int32 × (Nat → Int32) × (Nat → Int32) × (Nat → Int32)) → Option ((Nat → Int32) × (Nat → Int32) × (Nat → Int32))) (v2 : Int32) (v3 : Int32) (v4 : Int32) (v5 : Int32) (mod_low : Nat → Int32) (mod_high : Nat → Int32) (mod_many : Nat → Int32) : Option ((Nat → Int32) × (Nat → Int32) × (Nat → Int32)) :=
  if (b2i p1) = 0 then f_MOD_give_L71 p1 K4 v3 v5 mod_low mod_high mod_many else (if v4 ≤ v2 then f_MOD_give_L71 p1 K4 v3 v5 mod_low mod_high mod_many else bnd_ (f_MOD_add mod_low mod_high mod_many 0 v2 (v4 - 1)) (fun x68 => f_MOD_give_L71 p1 K4 v3 v5 x68.1 x68.2.1 x68.2.2))
def f_MOD_give_B4 (p1 : Bool) (K4 : (Int32 × Int32 × (Nat → Int32) × (Nat → Int32) × (Nat → Int32)) → Option ((Nat → Int32) × (Nat → Int32) × (Nat → Int32))) (v2 : Int32) (v3 : Int32) (mod_low : Nat → Int32) (mod_high : Nat → Int32) (mod_many : Nat → Int32) : Option ((Nat → Int32) × (Nat → Int32) × (Nat → Int32)) :=
  grd (inb 1 2) (if (mod_many (1 : Int32).toNatClampNeg) ≤ v3 then (if (b2i p1) = 0 then some (mod_low, mod_high, mod_many) else (if 1114111 < v2 then some (mod_low, mod_high, mod_many) else bnd_ (f_MOD_add mod_low mod_high mod_many 0 v2 1114111) (fun x97 => some (x97.1, x97.2.1, x97.2.2)))) else grd (inb (600 + v3) 1200) (grd (inb (600 + v3) 1200) (if (b2i p1) = 0 then bnd_ (f_MOD_add mod_low mod_high mod_many 0 (mod_low (600 + v3).toNatClampNeg) (mod_high (600 + v3).toNatClampNeg)) (fun x48 => f_MOD_give_L51 p1 K4 v2 v3 (mod_low (600 + v3).toNatClampNeg) (mod_high (600 + v3).toNatClampNeg) x48.1 x48.2.1 x48.2.2) else f_MOD_give_L51 p1 K4 v2 v3 (mod_low (600 + v3).toNatClampNeg) (mod_high (600 + v3).toNatClampNeg) mod_low mod_high mod_many)))
def f_MOD_give_L4 (p1 : Bool) (n : Nat) (a : Int32 × Int32 × (Nat → Int32) × (Nat → Int32) × (Nat → Int32)) : Option ((Nat → Int32) × (Nat → Int32) × (Nat → Int32)) :=
  lpF (fun K4 v => f_MOD_give_B4 p1  K4 v.1 v.2.1 v.2.2.1 v.2.2.2.1 v.2.2.2.2) n a
def f_MOD_give (mod_low : Nat → Int32) (mod_high : Nat → Int32) (mod_many : Nat → Int32) (p1 : Bool) : Option ((Nat → Int32) × (Nat → Int32) × (Nat → Int32)) :=
  f_MOD_give_L4 p1 FU (0, 0, mod_low, mod_high, mod_many)
set_option maxRecDepth 100000 in
set_option maxHeartbeats 4000000 in
theorem c_MOD_give (l : Launch) (dC : Nat → ClassId) (dI : Nat → Nat → Nat) (cI : ClassId) (tS : Nat → Nat → Nat) (sz : Nat) (a_mod a_mod_hand a_mod_text a_mod_kind a_mod_value a_mod_most a_mod_span a_mod_size a_mod_whose a_mod_rangeFrom a_mod_rangeMany a_mod_begins a_mod_ends a_mod_names a_mod_nameSize a_mod_opened a_mod_number a_mod_flagsBefore a_mod_rows a_mod_parts a_mod_low a_mod_high a_mod_many a_mod_like a_mod_sets a_mod_large a_mod_named : Nat) (mod_thrown : Int32) (mod_inHand : Int32) (mod_n : Int32) (mod_at : Int32) (mod_fault : Int32) (mod_place : Int32) (mod_nodes : Int32) (mod_ranges : Int32) (mod_numbered : Int32) (mod_depth : Int32) (mod_flags : Int32) (mod_repeatable : Bool) (mod_behind : Int32) (mod_notSet : Bool) (mod_least : Int32) (mod_greatest : Int32) (mod_low : Nat → Int32) (mod_high : Nat → Int32) (mod_many : Nat → Int32) (p1 : Bool) (R0 : (Nat → Int32) × (Nat → Int32) × (Nat → Int32)) (hf : f_MOD_give mod_low mod_high mod_many p1 = some R0) : Met l y_MOD_give ws_MOD_give ({ frames := 1, cells := 0, slots := 0, locals := 30 }) (va_Pc [.ref a_mod, .int (b2i p1)] (preS (dC, dI) classes [(cI, .int)] tS (w_52 cI tS a_mod a_mod_hand a_mod_text a_mod_kind a_mod_value a_mod_most a_mod_span a_mod_size a_mod_whose a_mod_rangeFrom a_mod_rangeMany a_mod_begins a_mod_ends a_mod_names a_mod_nameSize a_mod_opened a_mod_number a_mod_flagsBefore a_mod_rows a_mod_parts a_mod_low a_mod_high a_mod_many a_mod_like a_mod_sets a_mod_large a_mod_named mod_thrown mod_inHand mod_n mod_at mod_fault mod_place mod_nodes mod_ranges mod_numbered mod_depth mod_flags mod_repeatable mod_behind mod_notSet mod_least mod_greatest mod_low mod_high mod_many) sz)) (va_Qv (fun _ : Unit => True) (fun _ t => posS (dC, dI) classes [(cI, .int)] (w_52 cI tS a_mod a_mod_hand a_mod_text a_mod_kind a_mod_value a_mod_most a_mod_span a_mod_size a_mod_whose a_mod_rangeFrom a_mod_rangeMany a_mod_begins a_mod_ends a_mod_names a_mod_nameSize a_mod_opened a_mod_number a_mod_flagsBefore a_mod_rows a_mod_parts a_mod_low a_mod_high a_mod_many a_mod_like a_mod_sets a_mod_large a_mod_named mod_thrown mod_inHand mod_n mod_at mod_fault mod_place mod_nodes mod_ranges mod_numbered mod_depth mod_flags mod_repeatable mod_behind mod_notSet mod_least mod_greatest R0.1 R0.2.1 R0.2.2) (va_A (w_52 cI tS a_mod a_mod_hand a_mod_text a_mod_kind a_mod_value a_mod_most a_mod_span a_mod_size a_mod_whose a_mod_rangeFrom a_mod_rangeMany a_mod_begins a_mod_ends a_mod_names a_mod_nameSize a_mod_opened a_mod_number a_mod_flagsBefore a_mod_rows a_mod_parts a_mod_low a_mod_high a_mod_many a_mod_like a_mod_sets a_mod_large a_mod_named mod_thrown mod_inHand mod_n mod_at mod_fault mod_place mod_nodes mod_ranges mod_numbered mod_depth mod_flags mod_repeatable mod_behind mod_notSet mod_least mod_greatest mod_low mod_high mod_many) sz) t) (va_A (w_52 cI tS a_mod a_mod_hand a_mod_text a_mod_kind a_mod_value a_mod_most a_mod_span a_mod_size a_mod_whose a_mod_rangeFrom a_mod_rangeMany a_mod_begins a_mod_ends a_mod_names a_mod_nameSize a_mod_opened a_mod_number a_mod_flagsBefore a_mod_rows a_mod_parts a_mod_low a_mod_high a_mod_many a_mod_like a_mod_sets a_mod_large a_mod_named mod_thrown mod_inHand mod_n mod_at mod_fault mod_place mod_nodes mod_ranges mod_numbered mod_depth mod_flags mod_repeatable mod_behind mod_notSet mod_least mod_greatest mod_low mod_high mod_many) sz)) 0 0 (va_A (w_52 cI tS a_mod a_mod_hand a_mod_text a_mod_kind a_mod_value a_mod_most a_mod_span a_mod_size a_mod_whose a_mod_rangeFrom a_mod_rangeMany a_mod_begins a_mod_ends a_mod_names a_mod_nameSize a_mod_opened a_mod_number a_mod_flagsBefore a_mod_rows a_mod_parts a_mod_low a_mod_high a_mod_many a_mod_like a_mod_sets a_mod_large a_mod_named mod_thrown mod_inHand mod_n mod_at mod_fault mod_place mod_nodes mod_ranges mod_numbered mod_depth mod_flags mod_repeatable mod_behind mod_notSet mod_least mod_greatest mod_low mod_high mod_many) sz) := by
  refine Met.ofW (cc := b_MOD_give) (maxL := 6) (ret := none) (by decide) rfl ?_
  intro p e s m args below meth c s₁ B hml hv
  obtain ⟨rfl, hsz, hP, hK, hD0, hst0⟩ := hv
  have hx := B.exec
  have hb := B.bytes
  have hr := B.returns
  have hts0 := atoms_spec (ws := ws_MOD_give) B.pre
  have hts : ∀ w ∈ GW, w.before _ s = true := fun w h => hts0 w (List.mem_cons_of_mem _ h)
  have hown : s.vm.findClass R_MOD = some m.cls := findClass_of_methodNamed B.named
  have hlocks := B.notSynchronized
  subst hsz
  have hD := hD0.self (sz := s.heap.size)
  generalize hAe : va_A (w_52 cI tS a_mod a_mod_hand a_mod_text a_mod_kind a_mod_value a_mod_most a_mod_span a_mod_size a_mod_whose a_mod_rangeFrom a_mod_rangeMany a_mod_begins a_mod_ends a_mod_names a_mod_nameSize a_mod_opened a_mod_number a_mod_flagsBefore a_mod_rows a_mod_parts a_mod_low a_mod_high a_mod_many a_mod_like a_mod_sets a_mod_large a_mod_named mod_thrown mod_inHand mod_n mod_at mod_fault mod_place mod_nodes mod_ranges mod_numbered mod_depth mod_flags mod_repeatable mod_behind mod_notSet mod_least mod_greatest mod_low mod_high mod_many) s.heap.size = A at hD hst0 ⊢
  have hA : ∀ q : Nat, s.heap.size ≤ q → A q := fun q h => by rw [← hAe]; exact Or.inr h
  have hS : va_S A s.heap s.heap [] := va_S.rf
  have hl := lv_entry ([.ref a_mod, .int (b2i p1)]) (n := 6) (Nat.le_of_ble_eq_true rfl)
  rw [lg_entry_eq]
  generalize (lg_sl ([.ref a_mod, .int (b2i p1)]) ++ List.replicate (6 - (lg_sl ([.ref a_mod, .int (b2i p1)])).length) Slot.unset).toArray = ls at hl ⊢
  have hl : lv_has ls 6 [(0, .ref a_mod), (1, .int (b2i p1))] := hl
  have L4 : ∀ n4 : Nat, ∀ (v2 : Int32) (v3 : Int32) (mod_low : Nat → Int32) (mod_high : Nat → Int32) (mod_many : Nat → Int32) (H : Heap) (locs : List Loc) (ls : Array Slot), va_P (dC, dI) classes (w_52 cI tS a_mod a_mod_hand a_mod_text a_mod_kind a_mod_value a_mod_most a_mod_span a_mod_size a_mod_whose a_mod_rangeFrom a_mod_rangeMany a_mod_begins a_mod_ends a_mod_names a_mod_nameSize a_mod_opened a_mod_number a_mod_flagsBefore a_mod_rows a_mod_parts a_mod_low a_mod_high a_mod_many a_mod_like a_mod_sets a_mod_large a_mod_named mod_thrown mod_inHand mod_n mod_at mod_fault mod_place mod_nodes mod_ranges mod_numbered mod_depth mod_flags mod_repeatable mod_behind mod_notSet mod_least mod_greatest mod_low mod_high mod_many) H → va_D A (w_52 cI tS a_mod a_mod_hand a_mod_text a_mod_kind a_mod_value a_mod_most a_mod_span a_mod_size a_mod_whose a_mod_rangeFrom a_mod_rangeMany a_mod_begins a_mod_ends a_mod_names a_mod_nameSize a_mod_opened a_mod_number a_mod_flagsBefore a_mod_rows a_mod_parts a_mod_low a_mod_high a_mod_many a_mod_like a_mod_sets a_mod_large a_mod_named mod_thrown mod_inHand mod_n mod_at mod_fault mod_place mod_nodes mod_ranges mod_numbered mod_depth mod_flags mod_repeatable mod_behind mod_notSet mod_least mod_greatest mod_low mod_high mod_many) → va_S A s.heap H locs → lv_has ls 6 [(0, .ref a_mod), (1, .int (b2i p1)), (2, .int v2), (3, .int v3)] → f_MOD_give_L4 p1 n4 (v2, v3, mod_low, mod_high, mod_many) = some R0 → W p l e (headSpec ws_MOD_give ({ frames := 1, cells := 0, slots := 0, locals := 30 })).room s m ([.ref a_mod, .int (b2i p1)] : List Value).toArray below meth c H locs 0 0 (MQ below (va_Qv (fun _ : Unit => True) (fun _ t => posS (dC, dI) classes [(cI, .int)] (w_52 cI tS a_mod a_mod_hand a_mod_text a_mod_kind a_mod_value a_mod_most a_mod_span a_mod_size a_mod_whose a_mod_rangeFrom a_mod_rangeMany a_mod_begins a_mod_ends a_mod_names a_mod_nameSize a_mod_opened a_mod_number a_mod_flagsBefore a_mod_rows a_mod_parts a_mod_low a_mod_high a_mod_many a_mod_like a_mod_sets a_mod_large a_mod_named mod_thrown mod_inHand mod_n mod_at mod_fault mod_place mod_nodes mod_ranges mod_numbered mod_depth mod_flags mod_repeatable mod_behind mod_notSet mod_least mod_greatest R0.1 R0.2.1 R0.2.2) (A) t) (A)) ([.ref a_mod, .int (b2i p1)] : List Value).toArray s 0 0 A) (F0 m 4 ls []) := by
    intro n4
    induction n4 with
    | zero =>
      intro v2 v3 mod_low mod_high mod_many H locs ls hP hD hS hl hf
      exact absurd (show (none : Option _) = some R0 from hf) (fun h => by cases h)
    | succ n4 ih4 =>
      have L71 : ∀ (v3 : Int32) (v5 : Int32) (mod_low : Nat → Int32) (mod_high : Nat → Int32) (mod_many : Nat → Int32) (H : Heap) (locs : List Loc) (ls : Array Slot), va_P (dC, dI) classes (w_52 cI tS a_mod a_mod_hand a_mod_text a_mod_kind a_mod_value a_mod_most a_mod_span a_mod_size a_mod_whose a_mod_rangeFrom a_mod_rangeMany a_mod_begins a_mod_ends a_mod_names a_mod_nameSize a_mod_opened a_mod_number a_mod_flagsBefore a_mod_rows a_mod_parts a_mod_low a_mod_high a_mod_many a_mod_like a_mod_sets a_mod_large a_mod_named mod_thrown mod_inHand mod_n mod_at mod_fault mod_place mod_nodes mod_ranges mod_numbered mod_depth mod_flags mod_repeatable mod_behind mod_notSet mod_least mod_greatest mod_low mod_high mod_many) H → va_D A (w_52 cI tS a_mod a_mod_hand a_mod_text a_mod_kind a_mod_value a_mod_most a_mod_span a_mod_size a_mod_whose a_mod_rangeFrom a_mod_rangeMany a_mod_begins a_mod_ends a_mod_names a_mod_nameSize a_mod_opened a_mod_number a_mod_flagsBefore a_mod_rows a_mod_parts a_mod_low a_mod_high a_mod_many a_mod_like a_mod_sets a_mod_large a_mod_named mod_thrown mod_inHand mod_n mod_at mod_fault mod_place mod_nodes mod_ranges mod_numbered mod_depth mod_flags mod_repeatable mod_behind mod_notSet mod_least mod_greatest mod_low mod_high mod_many) → va_S A s.heap H locs → lv_has ls 6 [(0, .ref a_mod), (1, .int (b2i p1)), (3, .int v3), (5, .int v5)] → f_MOD_give_L71 p1 (f_MOD_give_L4 p1 n4) v3 v5 mod_low mod_high mod_many = some R0 → W p l e (headSpec ws_MOD_give ({ frames := 1, cells := 0, slots := 0, locals := 30 })).room s m ([.ref a_mod, .int (b2i p1)] : List Value).toArray below meth c H locs 0 0 (MQ below (va_Qv (fun _ : Unit => True) (fun _ t => posS (dC, dI) classes [(cI, .int)] (w_52 cI tS a_mod a_mod_hand a_mod_text a_mod_kind a_mod_value a_mod_most a_mod_span a_mod_size a_mod_whose a_mod_rangeFrom a_mod_rangeMany a_mod_begins a_mod_ends a_mod_names a_mod_nameSize a_mod_opened a_mod_number a_mod_flagsBefore a_mod_rows a_mod_parts a_mod_low a_mod_high a_mod_many a_mod_like a_mod_sets a_mod_large a_mod_named mod_thrown mod_inHand mod_n mod_at mod_fault mod_place mod_nodes mod_ranges mod_numbered mod_depth mod_flags mod_repeatable mod_behind mod_notSet mod_least mod_greatest R0.1 R0.2.1 R0.2.2) (A) t) (A)) ([.ref a_mod, .int (b2i p1)] : List Value).toArray s 0 0 A) (F0 m 71 ls []) := by
        intro v3 v5 mod_low mod_high mod_many H locs ls hP hD hS hl hf
        refine lv_iload hx hb d_MOD_give_71 (lv_at hl 3 rfl) ?_
        refine lv_iconst (v := 1) hx hb d_MOD_give_73 (by decide) ?_
        refine lv_iadd hx hb d_MOD_give_74 ?_
        refine lv_istore_n (lv' := [(2, .int (v5 + 1)), (0, .ref a_mod), (1, .int (b2i p1)), (3, .int v3), (5, .int v5)]) hx hb d_MOD_give_75 rfl hl (by decide) rfl (fun ls hl => ?_)
        refine lv_iinc (v := v3 + 1) (lv' := [(3, .int (v3 + 1)), (2, .int (v5 + 1)), (0, .ref a_mod), (1, .int (b2i p1)), (5, .int v5)]) hx hb d_MOD_give_76 hl (k := 3) rfl rfl (by decide) rfl (fun ls hl => ?_)
        refine lv_goto (tgt := 4) hx hb d_MOD_give_79 (by decide) ?_
        exact ih4 (v5 + 1) (v3 + 1) mod_low mod_high mod_many _ _ _ hP hD hS (lv_sub hl [2, 3, 1, 0] rfl) hf
      have L51 : ∀ (v2 : Int32) (v3 : Int32) (v4 : Int32) (v5 : Int32) (mod_low : Nat → Int32) (mod_high : Nat → Int32) (mod_many : Nat → Int32) (H : Heap) (locs : List Loc) (ls : Array Slot), va_P (dC, dI) classes (w_52 cI tS a_mod a_mod_hand a_mod_text a_mod_kind a_mod_value a_mod_most a_mod_span a_mod_size a_mod_whose a_mod_rangeFrom a_mod_rangeMany a_mod_begins a_mod_ends a_mod_names a_mod_nameSize a_mod_opened a_mod_number a_mod_flagsBefore a_mod_rows a_mod_parts a_mod_low a_mod_high a_mod_many a_mod_like a_mod_sets a_mod_large a_mod_named mod_thrown mod_inHand mod_n mod_at mod_fault mod_place mod_nodes mod_ranges mod_numbered mod_depth mod_flags mod_repeatable mod_behind mod_notSet mod_least mod_greatest mod_low mod_high mod_many) H → va_D A (w_52 cI tS a_mod a_mod_hand a_mod_text a_mod_kind a_mod_value a_mod_most a_mod_span a_mod_size a_mod_whose a_mod_rangeFrom a_mod_rangeMany a_mod_begins a_mod_ends a_mod_names a_mod_nameSize a_mod_opened a_mod_number a_mod_flagsBefore a_mod_rows a_mod_parts a_mod_low a_mod_high a_mod_many a_mod_like a_mod_sets a_mod_large a_mod_named mod_thrown mod_inHand mod_n mod_at mod_fault mod_place mod_nodes mod_ranges mod_numbered mod_depth mod_flags mod_repeatable mod_behind mod_notSet mod_least mod_greatest mod_low mod_high mod_many) → va_S A s.heap H locs → lv_has ls 6 [(0, .ref a_mod), (1, .int (b2i p1)), (2, .int v2), (3, .int v3), (4, .int v4), (5, .int v5)] → f_MOD_give_L51 p1 (f_MOD_give_L4 p1 n4) v2 v3 v4 v5 mod_low mod_high mod_many = some R0 → W p l e (headSpec ws_MOD_give ({ frames := 1, cells := 0, slots := 0, locals := 30 })).room s m ([.ref a_mod, .int (b2i p1)] : List Value).toArray below meth c H locs 0 0 (MQ below (va_Qv (fun _ : Unit => True) (fun _ t => posS (dC, dI) classes [(cI, .int)] (w_52 cI tS a_mod a_mod_hand a_mod_text a_mod_kind a_mod_value a_mod_most a_mod_span a_mod_size a_mod_whose a_mod_rangeFrom a_mod_rangeMany a_mod_begins a_mod_ends a_mod_names a_mod_nameSize a_mod_opened a_mod_number a_mod_flagsBefore a_mod_rows a_mod_parts a_mod_low a_mod_high a_mod_many a_mod_like a_mod_sets a_mod_large a_mod_named mod_thrown mod_inHand mod_n mod_at mod_fault mod_place mod_nodes mod_ranges mod_numbered mod_depth mod_flags mod_repeatable mod_behind mod_notSet mod_least mod_greatest R0.1 R0.2.1 R0.2.2) (A) t) (A)) ([.ref a_mod, .int (b2i p1)] : List Value).toArray s 0 0 A) (F0 m 51 ls []) := by
        intro v2 v3 v4 v5 mod_low mod_high mod_many H locs ls hP hD hS hl hf
        refine lv_iload_n hx hb d_MOD_give_51 rfl (lv_at hl 1 rfl) ?_
        refine lv_if_eq (tgt := 71) hx hb d_MOD_give_52 (by decide) (fun c_ => ?_) (fun c_ => ?_)
        · have hf := f_pos c_ hf
          exact L71 v3 v5 mod_low mod_high mod_many _ _ _ hP hD hS (lv_sub hl [0, 1, 3, 5] rfl) hf
        · have hf := f_neg c_ hf
          refine lv_iload hx hb d_MOD_give_55 (lv_at hl 4 rfl) ?_
          refine lv_iload_n hx hb d_MOD_give_57 rfl (lv_at hl 2 rfl) ?_
          refine lv_icmp_le (tgt := 71) hx hb d_MOD_give_58 (by decide) (fun c_ => ?_) (fun c_ => ?_)
          · have hf := f_pos c_ hf
            exact L71 v3 v5 mod_low mod_high mod_many _ _ _ hP hD hS (lv_sub hl [0, 1, 3, 5] rfl) hf
          · have hf := f_neg c_ hf
            refine lv_aload_n hx hb d_MOD_give_61 rfl (lv_at hl 0 rfl) ?_
            refine lv_iconst (v := 0) hx hb d_MOD_give_62 (by decide) ?_
            refine lv_iload_n hx hb d_MOD_give_63 rfl (lv_at hl 2 rfl) ?_
            refine lv_iload hx hb d_MOD_give_64 (lv_at hl 4 rfl) ?_
            refine lv_iconst (v := 1) hx hb d_MOD_give_66 (by decide) ?_
            refine lv_isub hx hb d_MOD_give_67 ?_
            obtain ⟨x68, hg, hf⟩ := bnd hf
            have hPc := hP.sub (ws' := (w_52 cI tS a_mod a_mod_hand a_mod_text a_mod_kind a_mod_value a_mod_most a_mod_span a_mod_size a_mod_whose a_mod_rangeFrom a_mod_rangeMany a_mod_begins a_mod_ends a_mod_names a_mod_nameSize a_mod_opened a_mod_number a_mod_flagsBefore a_mod_rows a_mod_parts a_mod_low a_mod_high a_mod_many a_mod_like a_mod_sets a_mod_large a_mod_named mod_thrown mod_inHand mod_n mod_at mod_fault mod_place mod_nodes mod_ranges mod_numbered mod_depth mod_flags mod_repeatable mod_behind mod_notSet mod_least mod_greatest mod_low mod_high mod_many)) [0, 1, 2, 3] rfl
            have hDc := hD.sub (ws' := (w_52 cI tS a_mod a_mod_hand a_mod_text a_mod_kind a_mod_value a_mod_most a_mod_span a_mod_size a_mod_whose a_mod_rangeFrom a_mod_rangeMany a_mod_begins a_mod_ends a_mod_names a_mod_nameSize a_mod_opened a_mod_number a_mod_flagsBefore a_mod_rows a_mod_parts a_mod_low a_mod_high a_mod_many a_mod_like a_mod_sets a_mod_large a_mod_named mod_thrown mod_inHand mod_n mod_at mod_fault mod_place mod_nodes mod_ranges mod_numbered mod_depth mod_flags mod_repeatable mod_behind mod_notSet mod_least mod_greatest mod_low mod_high mod_many)) [0, 1, 2, 3] (by decide) rfl
            have hFc := va_free (wc := (w_52 cI tS a_mod a_mod_hand a_mod_text a_mod_kind a_mod_value a_mod_most a_mod_span a_mod_size a_mod_whose a_mod_rangeFrom a_mod_rangeMany a_mod_begins a_mod_ends a_mod_names a_mod_nameSize a_mod_opened a_mod_number a_mod_flagsBefore a_mod_rows a_mod_parts a_mod_low a_mod_high a_mod_many a_mod_like a_mod_sets a_mod_large a_mod_named mod_thrown mod_inHand mod_n mod_at mod_fault mod_place mod_nodes mod_ranges mod_numbered mod_depth mod_flags mod_repeatable mod_behind mod_notSet mod_least mod_greatest mod_low mod_high mod_many)) hD hS hA [0, 1, 2, 3] rfl
            refine cal_v (va_runV (As := [.int 0, .int v2, .int (v4 - 1)]) (rest := []) ⟨hx, hb, hml, hown, hts⟩ (c_MOD_add l dC dI cI tS H.size a_mod a_mod_hand a_mod_text a_mod_kind a_mod_value a_mod_most a_mod_span a_mod_size a_mod_whose a_mod_rangeFrom a_mod_rangeMany a_mod_begins a_mod_ends a_mod_names a_mod_nameSize a_mod_opened a_mod_number a_mod_flagsBefore a_mod_rows a_mod_parts a_mod_low a_mod_high a_mod_many a_mod_like a_mod_sets a_mod_large a_mod_named mod_thrown mod_inHand mod_n mod_at mod_fault mod_place mod_nodes mod_ranges mod_numbered mod_depth mod_flags mod_repeatable mod_behind mod_notSet mod_least mod_greatest mod_low mod_high mod_many 0 v2 (v4 - 1) x68 hg) ⟨callB_of 3 hts (gN tw_1224) rfl rfl rfl (hts _ tw_91) (hts _ tw_1221) hd_MOD_add ⟨Nat.le_of_ble_eq_true rfl, Nat.le_of_ble_eq_true rfl⟩, hts _ tw_1223, hts _ tw_54⟩ (pre_V hK hPc hDc hst0 hS hFc (va_recv hK hPc (ci := 12) (q0 := 0) rfl rfl)) rfl rfl hl.1 rfl (lv_room (Nat.le_of_ble_eq_true rfl)) d_MOD_give_68 ⟨Nat.zero_le _, Nat.zero_le _⟩) hP hD hS hA [0, 1, 2, 3] [] rfl rfl (by decide) (by decide) (fun H locs hP hD hS => ?_)
            have hP := hP.sub (ws' := (w_52 cI tS a_mod a_mod_hand a_mod_text a_mod_kind a_mod_value a_mod_most a_mod_span a_mod_size a_mod_whose a_mod_rangeFrom a_mod_rangeMany a_mod_begins a_mod_ends a_mod_names a_mod_nameSize a_mod_opened a_mod_number a_mod_flagsBefore a_mod_rows a_mod_parts a_mod_low a_mod_high a_mod_many a_mod_like a_mod_sets a_mod_large a_mod_named mod_thrown mod_inHand mod_n mod_at mod_fault mod_place mod_nodes mod_ranges mod_numbered mod_depth mod_flags mod_repeatable mod_behind mod_notSet mod_least mod_greatest x68.1 x68.2.1 x68.2.2)) [0, 1, 2, 3] rfl
            have hD := hD.sub (ws' := (w_52 cI tS a_mod a_mod_hand a_mod_text a_mod_kind a_mod_value a_mod_most a_mod_span a_mod_size a_mod_whose a_mod_rangeFrom a_mod_rangeMany a_mod_begins a_mod_ends a_mod_names a_mod_nameSize a_mod_opened a_mod_number a_mod_flagsBefore a_mod_rows a_mod_parts a_mod_low a_mod_high a_mod_many a_mod_like a_mod_sets a_mod_large a_mod_named mod_thrown mod_inHand mod_n mod_at mod_fault mod_place mod_nodes mod_ranges mod_numbered mod_depth mod_flags mod_repeatable mod_behind mod_notSet mod_least mod_greatest x68.1 x68.2.1 x68.2.2)) [0, 1, 2, 3] (by decide) rfl
            exact L71 v3 v5 x68.1 x68.2.1 x68.2.2 _ _ _ hP hD hS (lv_sub hl [0, 1, 3, 5] rfl) hf
      intro v2 v3 mod_low mod_high mod_many H locs ls hP hD hS hl hf
      have hf : f_MOD_give_B4 p1 (f_MOD_give_L4 p1 n4) v2 v3 mod_low mod_high mod_many = some R0 := hf
      refine lv_iload_n hx hb d_MOD_give_4 rfl (lv_at hl 3 rfl) ?_
      refine lv_aload_n hx hb d_MOD_give_5 rfl (lv_at hl 0 rfl) ?_
      refine va_get (D := (dC, dI)) (ci := 12) (v := .ref a_mod_many) (C := R_MOD) (T := F_MOD) (N := N_MOD) hx hb hts i_MOD hown hK hP 0 rfl rfl 33 (by decide) (hts _ tw_1026) (fun _ h9 => h9) rfl d_MOD_give_6 ?_
      refine lv_iconst (v := 1) hx hb d_MOD_give_9 (by decide) ?_
      obtain ⟨hin, hf⟩ := grd_in hf
      refine va_iald hx hb hK hP 3 0 rfl rfl hin d_MOD_give_10 ?_
      refine lv_icmp_ge (tgt := 82) hx hb d_MOD_give_11 (by decide) (fun c_ => ?_) (fun c_ => ?_)
      · have hf := f_pos c_ hf
        refine lv_iload_n hx hb d_MOD_give_82 rfl (lv_at hl 1 rfl) ?_
        refine lv_if_eq (tgt := 100) hx hb d_MOD_give_83 (by decide) (fun c_ => ?_) (fun c_ => ?_)
        · have hf := f_pos c_ hf
          obtain rfl := Option.some.inj hf
          exact W.vret hx hb hr (fun t ht hW => ⟨⟨(), rfl, trivial, ⟨by rw [ht]; exact hP, va_K.moved hW.alike hK, hD⟩⟩, hS.F ht⟩) hS.2.2 d_MOD_give_100
        · have hf := f_neg c_ hf
          refine lv_iload_n hx hb d_MOD_give_86 rfl (lv_at hl 2 rfl) ?_
          refine lv_ldc (v := 1114111) hx hb hown (hts _ tw_1229) d_MOD_give_87 ?_
          refine lv_icmp_gt (tgt := 100) hx hb d_MOD_give_89 (by decide) (fun c_ => ?_) (fun c_ => ?_)
          · have hf := f_pos c_ hf
            obtain rfl := Option.some.inj hf
            exact W.vret hx hb hr (fun t ht hW => ⟨⟨(), rfl, trivial, ⟨by rw [ht]; exact hP, va_K.moved hW.alike hK, hD⟩⟩, hS.F ht⟩) hS.2.2 d_MOD_give_100
          · have hf := f_neg c_ hf
            refine lv_aload_n hx hb d_MOD_give_92 rfl (lv_at hl 0 rfl) ?_
            refine lv_iconst (v := 0) hx hb d_MOD_give_93 (by decide) ?_
            refine lv_iload_n hx hb d_MOD_give_94 rfl (lv_at hl 2 rfl) ?_
            refine lv_ldc (v := 1114111) hx hb hown (hts _ tw_1229) d_MOD_give_95 ?_
            obtain ⟨x97, hg, hf⟩ := bnd hf
            have hPc := hP.sub (ws' := (w_52 cI tS a_mod a_mod_hand a_mod_text a_mod_kind a_mod_value a_mod_most a_mod_span a_mod_size a_mod_whose a_mod_rangeFrom a_mod_rangeMany a_mod_begins a_mod_ends a_mod_names a_mod_nameSize a_mod_opened a_mod_number a_mod_flagsBefore a_mod_rows a_mod_parts a_mod_low a_mod_high a_mod_many a_mod_like a_mod_sets a_mod_large a_mod_named mod_thrown mod_inHand mod_n mod_at mod_fault mod_place mod_nodes mod_ranges mod_numbered mod_depth mod_flags mod_repeatable mod_behind mod_notSet mod_least mod_greatest mod_low mod_high mod_many)) [0, 1, 2, 3] rfl
            have hDc := hD.sub (ws' := (w_52 cI tS a_mod a_mod_hand a_mod_text a_mod_kind a_mod_value a_mod_most a_mod_span a_mod_size a_mod_whose a_mod_rangeFrom a_mod_rangeMany a_mod_begins a_mod_ends a_mod_names a_mod_nameSize a_mod_opened a_mod_number a_mod_flagsBefore a_mod_rows a_mod_parts a_mod_low a_mod_high a_mod_many a_mod_like a_mod_sets a_mod_large a_mod_named mod_thrown mod_inHand mod_n mod_at mod_fault mod_place mod_nodes mod_ranges mod_numbered mod_depth mod_flags mod_repeatable mod_behind mod_notSet mod_least mod_greatest mod_low mod_high mod_many)) [0, 1, 2, 3] (by decide) rfl
            have hFc := va_free (wc := (w_52 cI tS a_mod a_mod_hand a_mod_text a_mod_kind a_mod_value a_mod_most a_mod_span a_mod_size a_mod_whose a_mod_rangeFrom a_mod_rangeMany a_mod_begins a_mod_ends a_mod_names a_mod_nameSize a_mod_opened a_mod_number a_mod_flagsBefore a_mod_rows a_mod_parts a_mod_low a_mod_high a_mod_many a_mod_like a_mod_sets a_mod_large a_mod_named mod_thrown mod_inHand mod_n mod_at mod_fault mod_place mod_nodes mod_ranges mod_numbered mod_depth mod_flags mod_repeatable mod_behind mod_notSet mod_least mod_greatest mod_low mod_high mod_many)) hD hS hA [0, 1, 2, 3] rfl
            refine cal_v (va_runV (As := [.int 0, .int v2, .int 1114111]) (rest := []) ⟨hx, hb, hml, hown, hts⟩ (c_MOD_add l dC dI cI tS H.size a_mod a_mod_hand a_mod_text a_mod_kind a_mod_value a_mod_most a_mod_span a_mod_size a_mod_whose a_mod_rangeFrom a_mod_rangeMany a_mod_begins a_mod_ends a_mod_names a_mod_nameSize a_mod_opened a_mod_number a_mod_flagsBefore a_mod_rows a_mod_parts a_mod_low a_mod_high a_mod_many a_mod_like a_mod_sets a_mod_large a_mod_named mod_thrown mod_inHand mod_n mod_at mod_fault mod_place mod_nodes mod_ranges mod_numbered mod_depth mod_flags mod_repeatable mod_behind mod_notSet mod_least mod_greatest mod_low mod_high mod_many 0 v2 1114111 x97 hg) ⟨callB_of 3 hts (gN tw_1224) rfl rfl rfl (hts _ tw_91) (hts _ tw_1221) hd_MOD_add ⟨Nat.le_of_ble_eq_true rfl, Nat.le_of_ble_eq_true rfl⟩, hts _ tw_1223, hts _ tw_54⟩ (pre_V hK hPc hDc hst0 hS hFc (va_recv hK hPc (ci := 12) (q0 := 0) rfl rfl)) rfl rfl hl.1 rfl (lv_room (Nat.le_of_ble_eq_true rfl)) d_MOD_give_97 ⟨Nat.zero_le _, Nat.zero_le _⟩) hP hD hS hA [0, 1, 2, 3] [] rfl rfl (by decide) (by decide) (fun H locs hP hD hS => ?_)
            have hP := hP.sub (ws' := (w_52 cI tS a_mod a_mod_hand a_mod_text a_mod_kind a_mod_value a_mod_most a_mod_span a_mod_size a_mod_whose a_mod_rangeFrom a_mod_rangeMany a_mod_begins a_mod_ends a_mod_names a_mod_nameSize a_mod_opened a_mod_number a_mod_flagsBefore a_mod_rows a_mod_parts a_mod_low a_mod_high a_mod_many a_mod_like a_mod_sets a_mod_large a_mod_named mod_thrown mod_inHand mod_n mod_at mod_fault mod_place mod_nodes mod_ranges mod_numbered mod_depth mod_flags mod_repeatable mod_behind mod_notSet mod_least mod_greatest x97.1 x97.2.1 x97.2.2)) [0, 1, 2, 3] rfl
            have hD := hD.sub (ws' := (w_52 cI tS a_mod a_mod_hand a_mod_text a_mod_kind a_mod_value a_mod_most a_mod_span a_mod_size a_mod_whose a_mod_rangeFrom a_mod_rangeMany a_mod_begins a_mod_ends a_mod_names a_mod_nameSize a_mod_opened a_mod_number a_mod_flagsBefore a_mod_rows a_mod_parts a_mod_low a_mod_high a_mod_many a_mod_like a_mod_sets a_mod_large a_mod_named mod_thrown mod_inHand mod_n mod_at mod_fault mod_place mod_nodes mod_ranges mod_numbered mod_depth mod_flags mod_repeatable mod_behind mod_notSet mod_least mod_greatest x97.1 x97.2.1 x97.2.2)) [0, 1, 2, 3] (by decide) rfl
            obtain rfl := Option.some.inj hf
            exact W.vret hx hb hr (fun t ht hW => ⟨⟨(), rfl, trivial, ⟨by rw [ht]; exact hP, va_K.moved hW.alike hK, hD⟩⟩, hS.F ht⟩) hS.2.2 d_MOD_give_100
      · have hf := f_neg c_ hf
        refine lv_aload_n hx hb d_MOD_give_14 rfl (lv_at hl 0 rfl) ?_
        refine va_get (D := (dC, dI)) (ci := 12) (v := .ref a_mod_low) (C := R_MOD) (T := F_MOD) (N := N_MOD) hx hb hts i_MOD hown hK hP 0 rfl rfl 31 (by decide) (hts _ tw_1024) (fun _ h9 => h9) rfl d_MOD_give_15 ?_
        refine lv_sipush (v := 600) hx hb d_MOD_give_18 (by decide) ?_
        refine lv_iload_n hx hb d_MOD_give_21 rfl (lv_at hl 3 rfl) ?_
        refine lv_iadd hx hb d_MOD_give_22 ?_
        obtain ⟨hin, hf⟩ := grd_in hf
        refine va_iald hx hb hK hP 1 0 rfl rfl hin d_MOD_give_23 ?_
        refine lv_istore (lv' := [(4, .int (mod_low (600 + v3).toNatClampNeg)), (0, .ref a_mod), (1, .int (b2i p1)), (2, .int v2), (3, .int v3)]) hx hb d_MOD_give_24 hl (by decide) rfl (fun ls hl => ?_)
        refine lv_aload_n hx hb d_MOD_give_26 rfl (lv_at hl 1 rfl) ?_
        refine va_get (D := (dC, dI)) (ci := 12) (v := .ref a_mod_high) (C := R_MOD) (T := F_MOD) (N := N_MOD) hx hb hts i_MOD hown hK hP 0 rfl rfl 32 (by decide) (hts _ tw_1025) (fun _ h9 => h9) rfl d_MOD_give_27 ?_
        refine lv_sipush (v := 600) hx hb d_MOD_give_30 (by decide) ?_
        refine lv_iload_n hx hb d_MOD_give_33 rfl (lv_at hl 4 rfl) ?_
        refine lv_iadd hx hb d_MOD_give_34 ?_
        obtain ⟨hin, hf⟩ := grd_in hf
        refine va_iald hx hb hK hP 2 0 rfl rfl hin d_MOD_give_35 ?_
        refine lv_istore (lv' := [(5, .int (mod_high (600 + v3).toNatClampNeg)), (4, .int (mod_low (600 + v3).toNatClampNeg)), (0, .ref a_mod), (1, .int (b2i p1)), (2, .int v2), (3, .int v3)]) hx hb d_MOD_give_36 hl (by decide) rfl (fun ls hl => ?_)
        refine lv_iload_n hx hb d_MOD_give_38 rfl (lv_at hl 3 rfl) ?_
        refine lv_if_ne (tgt := 51) hx hb d_MOD_give_39 (by decide) (fun c_ => ?_) (fun c_ => ?_)
        · have hf := f_neg c_ hf
          exact L51 v2 v3 (mod_low (600 + v3).toNatClampNeg) (mod_high (600 + v3).toNatClampNeg) mod_low mod_high mod_many _ _ _ hP hD hS (lv_sub hl [2, 3, 4, 5, 1, 0] rfl) hf
        · have hf := f_pos c_ hf
          refine lv_aload_n hx hb d_MOD_give_42 rfl (lv_at hl 2 rfl) ?_
          refine lv_iconst (v := 0) hx hb d_MOD_give_43 (by decide) ?_
          refine lv_iload hx hb d_MOD_give_44 (lv_at hl 1 rfl) ?_
          refine lv_iload hx hb d_MOD_give_46 (lv_at hl 0 rfl) ?_
          obtain ⟨x48, hg, hf⟩ := bnd hf
          have hPc := hP.sub (ws' := (w_52 cI tS a_mod a_mod_hand a_mod_text a_mod_kind a_mod_value a_mod_most a_mod_span a_mod_size a_mod_whose a_mod_rangeFrom a_mod_rangeMany a_mod_begins a_mod_ends a_mod_names a_mod_nameSize a_mod_opened a_mod_number a_mod_flagsBefore a_mod_rows a_mod_parts a_mod_low a_mod_high a_mod_many a_mod_like a_mod_sets a_mod_large a_mod_named mod_thrown mod_inHand mod_n mod_at mod_fault mod_place mod_nodes mod_ranges mod_numbered mod_depth mod_flags mod_repeatable mod_behind mod_notSet mod_least mod_greatest mod_low mod_high mod_many)) [0, 1, 2, 3] rfl
          have hDc := hD.sub (ws' := (w_52 cI tS a_mod a_mod_hand a_mod_text a_mod_kind a_mod_value a_mod_most a_mod_span a_mod_size a_mod_whose a_mod_rangeFrom a_mod_rangeMany a_mod_begins a_mod_ends a_mod_names a_mod_nameSize a_mod_opened a_mod_number a_mod_flagsBefore a_mod_rows a_mod_parts a_mod_low a_mod_high a_mod_many a_mod_like a_mod_sets a_mod_large a_mod_named mod_thrown mod_inHand mod_n mod_at mod_fault mod_place mod_nodes mod_ranges mod_numbered mod_depth mod_flags mod_repeatable mod_behind mod_notSet mod_least mod_greatest mod_low mod_high mod_many)) [0, 1, 2, 3] (by decide) rfl
          have hFc := va_free (wc := (w_52 cI tS a_mod a_mod_hand a_mod_text a_mod_kind a_mod_value a_mod_most a_mod_span a_mod_size a_mod_whose a_mod_rangeFrom a_mod_rangeMany a_mod_begins a_mod_ends a_mod_names a_mod_nameSize a_mod_opened a_mod_number a_mod_flagsBefore a_mod_rows a_mod_parts a_mod_low a_mod_high a_mod_many a_mod_like a_mod_sets a_mod_large a_mod_named mod_thrown mod_inHand mod_n mod_at mod_fault mod_place mod_nodes mod_ranges mod_numbered mod_depth mod_flags mod_repeatable mod_behind mod_notSet mod_least mod_greatest mod_low mod_high mod_many)) hD hS hA [0, 1, 2, 3] rfl
          refine cal_v (va_runV (As := [.int 0, .int (mod_low (600 + v3).toNatClampNeg), .int (mod_high (600 + v3).toNatClampNeg)]) (rest := []) ⟨hx, hb, hml, hown, hts⟩ (c_MOD_add l dC dI cI tS H.size a_mod a_mod_hand a_mod_text a_mod_kind a_mod_value a_mod_most a_mod_span a_mod_size a_mod_whose a_mod_rangeFrom a_mod_rangeMany a_mod_begins a_mod_ends a_mod_names a_mod_nameSize a_mod_opened a_mod_number a_mod_flagsBefore a_mod_rows a_mod_parts a_mod_low a_mod_high a_mod_many a_mod_like a_mod_sets a_mod_large a_mod_named mod_thrown mod_inHand mod_n mod_at mod_fault mod_place mod_nodes mod_ranges mod_numbered mod_depth mod_flags mod_repeatable mod_behind mod_notSet mod_least mod_greatest mod_low mod_high mod_many 0 (mod_low (600 + v3).toNatClampNeg) (mod_high (600 + v3).toNatClampNeg) x48 hg) ⟨callB_of 3 hts (gN tw_1224) rfl rfl rfl (hts _ tw_91) (hts _ tw_1221) hd_MOD_add ⟨Nat.le_of_ble_eq_true rfl, Nat.le_of_ble_eq_true rfl⟩, hts _ tw_1223, hts _ tw_54⟩ (pre_V hK hPc hDc hst0 hS hFc (va_recv hK hPc (ci := 12) (q0 := 0) rfl rfl)) rfl rfl hl.1 rfl (lv_room (Nat.le_of_ble_eq_true rfl)) d_MOD_give_48 ⟨Nat.zero_le _, Nat.zero_le _⟩) hP hD hS hA [0, 1, 2, 3] [] rfl rfl (by decide) (by decide) (fun H locs hP hD hS => ?_)
          have hP := hP.sub (ws' := (w_52 cI tS a_mod a_mod_hand a_mod_text a_mod_kind a_mod_value a_mod_most a_mod_span a_mod_size a_mod_whose a_mod_rangeFrom a_mod_rangeMany a_mod_begins a_mod_ends a_mod_names a_mod_nameSize a_mod_opened a_mod_number a_mod_flagsBefore a_mod_rows a_mod_parts a_mod_low a_mod_high a_mod_many a_mod_like a_mod_sets a_mod_large a_mod_named mod_thrown mod_inHand mod_n mod_at mod_fault mod_place mod_nodes mod_ranges mod_numbered mod_depth mod_flags mod_repeatable mod_behind mod_notSet mod_least mod_greatest x48.1 x48.2.1 x48.2.2)) [0, 1, 2, 3] rfl
          have hD := hD.sub (ws' := (w_52 cI tS a_mod a_mod_hand a_mod_text a_mod_kind a_mod_value a_mod_most a_mod_span a_mod_size a_mod_whose a_mod_rangeFrom a_mod_rangeMany a_mod_begins a_mod_ends a_mod_names a_mod_nameSize a_mod_opened a_mod_number a_mod_flagsBefore a_mod_rows a_mod_parts a_mod_low a_mod_high a_mod_many a_mod_like a_mod_sets a_mod_large a_mod_named mod_thrown mod_inHand mod_n mod_at mod_fault mod_place mod_nodes mod_ranges mod_numbered mod_depth mod_flags mod_repeatable mod_behind mod_notSet mod_least mod_greatest x48.1 x48.2.1 x48.2.2)) [0, 1, 2, 3] (by decide) rfl
          exact L51 v2 v3 (mod_low (600 + v3).toNatClampNeg) (mod_high (600 + v3).toNatClampNeg) x48.1 x48.2.1 x48.2.2 _ _ _ hP hD hS (lv_sub hl [2, 3, 4, 5, 1, 0] rfl) hf
  refine lv_iconst (v := 0) hx hb d_MOD_give_0 (by decide) ?_
  refine lv_istore_n (lv' := [(2, .int 0), (0, .ref a_mod), (1, .int (b2i p1))]) hx hb d_MOD_give_1 rfl hl (by decide) rfl (fun ls hl => ?_)
  refine lv_iconst (v := 0) hx hb d_MOD_give_2 (by decide) ?_
  refine lv_istore_n (lv' := [(3, .int 0), (2, .int 0), (0, .ref a_mod), (1, .int (b2i p1))]) hx hb d_MOD_give_3 rfl hl (by decide) rfl (fun ls hl => ?_)
  exact L4 FU 0 0 mod_low mod_high mod_many _ _ _ hP hD hS (lv_sub hl [2, 3, 1, 0] rfl) hf
def f_MOD_negate_B7 (K7 : (Int32 × (Nat → Int32) × (Nat → Int32) × (Nat → Int32)) → Option ((Nat → Int32) × (Nat → Int32) × (Nat → Int32))) (v1 : Int32) (mod_low : Nat → Int32) (mod_high : Nat → Int32) (mod_many : Nat → Int32) : Option ((Nat → Int32) × (Nat → Int32) × (Nat → Int32)) :=
  grd (inb 0 2) (if (mod_many (0 : Int32).toNatClampNeg) ≤ v1 then bnd_ (f_MOD_empty mod_many 0) (fun x42 => bnd_ (f_MOD_give mod_low mod_high x42 true) (fun x47 => some (x47.1, x47.2.1, x47.2.2))) else grd (inb v1 1200) (grd (inb v1 1200) (bnd_ (f_MOD_add mod_low mod_high mod_many 1 (mod_low v1.toNatClampNeg) (mod_high v1.toNatClampNeg)) (fun x31 => K7 (v1 + 1, x31.1, x31.2.1, x31.2.2)))))
def f_MOD_negate_L7 (n : Nat) (a : Int32 × (Nat → Int32) × (Nat → Int32) × (Nat → Int32)) : Option ((Nat → Int32) × (Nat → Int32) × (Nat → Int32)) :=
  lpF (fun K7 v => f_MOD_negate_B7   K7 v.1 v.2.1 v.2.2.1 v.2.2.2) n a
def f_MOD_negate (mod_low : Nat → Int32) (mod_high : Nat → Int32) (mod_many : Nat → Int32) : Option ((Nat → Int32) × (Nat → Int32) × (Nat → Int32)) :=
  bnd_ (f_MOD_empty mod_many 1) (fun x2 => f_MOD_negate_L7 FU (0, mod_low, mod_high, x2))
set_option maxRecDepth 100000 in
set_option maxHeartbeats 4000000 in
theorem c_MOD_negate (l : Launch) (dC : Nat → ClassId) (dI : Nat → Nat → Nat) (cI : ClassId) (tS : Nat → Nat → Nat) (sz : Nat) (a_mod a_mod_hand a_mod_text a_mod_kind a_mod_value a_mod_most a_mod_span a_mod_size a_mod_whose a_mod_rangeFrom a_mod_rangeMany a_mod_begins a_mod_ends a_mod_names a_mod_nameSize a_mod_opened a_mod_number a_mod_flagsBefore a_mod_rows a_mod_parts a_mod_low a_mod_high a_mod_many a_mod_like a_mod_sets a_mod_large a_mod_named : Nat) (mod_thrown : Int32) (mod_inHand : Int32) (mod_n : Int32) (mod_at : Int32) (mod_fault : Int32) (mod_place : Int32) (mod_nodes : Int32) (mod_ranges : Int32) (mod_numbered : Int32) (mod_depth : Int32) (mod_flags : Int32) (mod_repeatable : Bool) (mod_behind : Int32) (mod_notSet : Bool) (mod_least : Int32) (mod_greatest : Int32) (mod_low : Nat → Int32) (mod_high : Nat → Int32) (mod_many : Nat → Int32) (R0 : (Nat → Int32) × (Nat → Int32) × (Nat → Int32)) (hf : f_MOD_negate mod_low mod_high mod_many = some R0) : Met l y_MOD_negate ws_MOD_negate ({ frames := 2, cells := 0, slots := 0, locals := 55 }) (va_Pc [.ref a_mod] (preS (dC, dI) classes [(cI, .int)] tS (w_52 cI tS a_mod a_mod_hand a_mod_text a_mod_kind a_mod_value a_mod_most a_mod_span a_mod_size a_mod_whose a_mod_rangeFrom a_mod_rangeMany a_mod_begins a_mod_ends a_mod_names a_mod_nameSize a_mod_opened a_mod_number a_mod_flagsBefore a_mod_rows a_mod_parts a_mod_low a_mod_high a_mod_many a_mod_like a_mod_sets a_mod_large a_mod_named mod_thrown mod_inHand mod_n mod_at mod_fault mod_place mod_nodes mod_ranges mod_numbered mod_depth mod_flags mod_repeatable mod_behind mod_notSet mod_least mod_greatest mod_low mod_high mod_many) sz)) (va_Qv (fun _ : Unit => True) (fun _ t => posS (dC, dI) classes [(cI, .int)] (w_52 cI tS a_mod a_mod_hand a_mod_text a_mod_kind a_mod_value a_mod_most a_mod_span a_mod_size a_mod_whose a_mod_rangeFrom a_mod_rangeMany a_mod_begins a_mod_ends a_mod_names a_mod_nameSize a_mod_opened a_mod_number a_mod_flagsBefore a_mod_rows a_mod_parts a_mod_low a_mod_high a_mod_many a_mod_like a_mod_sets a_mod_large a_mod_named mod_thrown mod_inHand mod_n mod_at mod_fault mod_place mod_nodes mod_ranges mod_numbered mod_depth mod_flags mod_repeatable mod_behind mod_notSet mod_least mod_greatest R0.1 R0.2.1 R0.2.2) (va_A (w_52 cI tS a_mod a_mod_hand a_mod_text a_mod_kind a_mod_value a_mod_most a_mod_span a_mod_size a_mod_whose a_mod_rangeFrom a_mod_rangeMany a_mod_begins a_mod_ends a_mod_names a_mod_nameSize a_mod_opened a_mod_number a_mod_flagsBefore a_mod_rows a_mod_parts a_mod_low a_mod_high a_mod_many a_mod_like a_mod_sets a_mod_large a_mod_named mod_thrown mod_inHand mod_n mod_at mod_fault mod_place mod_nodes mod_ranges mod_numbered mod_depth mod_flags mod_repeatable mod_behind mod_notSet mod_least mod_greatest mod_low mod_high mod_many) sz) t) (va_A (w_52 cI tS a_mod a_mod_hand a_mod_text a_mod_kind a_mod_value a_mod_most a_mod_span a_mod_size a_mod_whose a_mod_rangeFrom a_mod_rangeMany a_mod_begins a_mod_ends a_mod_names a_mod_nameSize a_mod_opened a_mod_number a_mod_flagsBefore a_mod_rows a_mod_parts a_mod_low a_mod_high a_mod_many a_mod_like a_mod_sets a_mod_large a_mod_named mod_thrown mod_inHand mod_n mod_at mod_fault mod_place mod_nodes mod_ranges mod_numbered mod_depth mod_flags mod_repeatable mod_behind mod_notSet mod_least mod_greatest mod_low mod_high mod_many) sz)) 0 0 (va_A (w_52 cI tS a_mod a_mod_hand a_mod_text a_mod_kind a_mod_value a_mod_most a_mod_span a_mod_size a_mod_whose a_mod_rangeFrom a_mod_rangeMany a_mod_begins a_mod_ends a_mod_names a_mod_nameSize a_mod_opened a_mod_number a_mod_flagsBefore a_mod_rows a_mod_parts a_mod_low a_mod_high a_mod_many a_mod_like a_mod_sets a_mod_large a_mod_named mod_thrown mod_inHand mod_n mod_at mod_fault mod_place mod_nodes mod_ranges mod_numbered mod_depth mod_flags mod_repeatable mod_behind mod_notSet mod_least mod_greatest mod_low mod_high mod_many) sz) := by
  refine Met.ofW (cc := b_MOD_negate) (maxL := 2) (ret := none) (by decide) rfl ?_
  intro p e s m args below meth c s₁ B hml hv
  obtain ⟨rfl, hsz, hP, hK, hD0, hst0⟩ := hv
  have hx := B.exec
  have hb := B.bytes
  have hr := B.returns
  have hts0 := atoms_spec (ws := ws_MOD_negate) B.pre
  have hts : ∀ w ∈ GW, w.before _ s = true := fun w h => hts0 w (List.mem_cons_of_mem _ h)
  have hown : s.vm.findClass R_MOD = some m.cls := findClass_of_methodNamed B.named
  have hlocks := B.notSynchronized
  subst hsz
  have hD := hD0.self (sz := s.heap.size)
  generalize hAe : va_A (w_52 cI tS a_mod a_mod_hand a_mod_text a_mod_kind a_mod_value a_mod_most a_mod_span a_mod_size a_mod_whose a_mod_rangeFrom a_mod_rangeMany a_mod_begins a_mod_ends a_mod_names a_mod_nameSize a_mod_opened a_mod_number a_mod_flagsBefore a_mod_rows a_mod_parts a_mod_low a_mod_high a_mod_many a_mod_like a_mod_sets a_mod_large a_mod_named mod_thrown mod_inHand mod_n mod_at mod_fault mod_place mod_nodes mod_ranges mod_numbered mod_depth mod_flags mod_repeatable mod_behind mod_notSet mod_least mod_greatest mod_low mod_high mod_many) s.heap.size = A at hD hst0 ⊢
  have hA : ∀ q : Nat, s.heap.size ≤ q → A q := fun q h => by rw [← hAe]; exact Or.inr h
  have hS : va_S A s.heap s.heap [] := va_S.rf
  have hl := lv_entry ([.ref a_mod]) (n := 2) (Nat.le_of_ble_eq_true rfl)
  rw [lg_entry_eq]
  generalize (lg_sl ([.ref a_mod]) ++ List.replicate (2 - (lg_sl ([.ref a_mod])).length) Slot.unset).toArray = ls at hl ⊢
  have hl : lv_has ls 2 [(0, .ref a_mod)] := hl
  have L7 : ∀ n7 : Nat, ∀ (v1 : Int32) (mod_low : Nat → Int32) (mod_high : Nat → Int32) (mod_many : Nat → Int32) (H : Heap) (locs : List Loc) (ls : Array Slot), va_P (dC, dI) classes (w_52 cI tS a_mod a_mod_hand a_mod_text a_mod_kind a_mod_value a_mod_most a_mod_span a_mod_size a_mod_whose a_mod_rangeFrom a_mod_rangeMany a_mod_begins a_mod_ends a_mod_names a_mod_nameSize a_mod_opened a_mod_number a_mod_flagsBefore a_mod_rows a_mod_parts a_mod_low a_mod_high a_mod_many a_mod_like a_mod_sets a_mod_large a_mod_named mod_thrown mod_inHand mod_n mod_at mod_fault mod_place mod_nodes mod_ranges mod_numbered mod_depth mod_flags mod_repeatable mod_behind mod_notSet mod_least mod_greatest mod_low mod_high mod_many) H → va_D A (w_52 cI tS a_mod a_mod_hand a_mod_text a_mod_kind a_mod_value a_mod_most a_mod_span a_mod_size a_mod_whose a_mod_rangeFrom a_mod_rangeMany a_mod_begins a_mod_ends a_mod_names a_mod_nameSize a_mod_opened a_mod_number a_mod_flagsBefore a_mod_rows a_mod_parts a_mod_low a_mod_high a_mod_many a_mod_like a_mod_sets a_mod_large a_mod_named mod_thrown mod_inHand mod_n mod_at mod_fault mod_place mod_nodes mod_ranges mod_numbered mod_depth mod_flags mod_repeatable mod_behind mod_notSet mod_least mod_greatest mod_low mod_high mod_many) → va_S A s.heap H locs → lv_has ls 2 [(0, .ref a_mod), (1, .int v1)] → f_MOD_negate_L7 n7 (v1, mod_low, mod_high, mod_many) = some R0 → W p l e (headSpec ws_MOD_negate ({ frames := 2, cells := 0, slots := 0, locals := 55 })).room s m ([.ref a_mod] : List Value).toArray below meth c H locs 0 0 (MQ below (va_Qv (fun _ : Unit => True) (fun _ t => posS (dC, dI) classes [(cI, .int)] (w_52 cI tS a_mod a_mod_hand a_mod_text a_mod_kind a_mod_value a_mod_most a_mod_span a_mod_size a_mod_whose a_mod_rangeFrom a_mod_rangeMany a_mod_begins a_mod_ends a_mod_names a_mod_nameSize a_mod_opened a_mod_number a_mod_flagsBefore a_mod_rows a_mod_parts a_mod_low a_mod_high a_mod_many a_mod_like a_mod_sets a_mod_large a_mod_named mod_thrown mod_inHand mod_n mod_at mod_fault mod_place mod_nodes mod_ranges mod_numbered mod_depth mod_flags mod_repeatable mod_behind mod_notSet mod_least mod_greatest R0.1 R0.2.1 R0.2.2) (A) t) (A)) ([.ref a_mod] : List Value).toArray s 0 0 A) (F0 m 7 ls []) := by
    intro n7
    induction n7 with
    | zero =>
      intro v1 mod_low mod_high mod_many H locs ls hP hD hS hl hf
      exact absurd (show (none : Option _) = some R0 from hf) (fun h => by cases h)
    | succ n7 ih7 =>
      intro v1 mod_low mod_high mod_many H locs ls hP hD hS hl hf
      have hf : f_MOD_negate_B7 (f_MOD_negate_L7 n7) v1 mod_low mod_high mod_many = some R0 := hf
      refine lv_iload_n hx hb d_MOD_negate_7 rfl (lv_at hl 1 rfl) ?_
      refine lv_aload_n hx hb d_MOD_negate_8 rfl (lv_at hl 0 rfl) ?_
      refine va_get (D := (dC, dI)) (ci := 12) (v := .ref a_mod_many) (C := R_MOD) (T := F_MOD) (N := N_MOD) hx hb hts i_MOD hown hK hP 0 rfl rfl 33 (by decide) (hts _ tw_1026) (fun _ h9 => h9) rfl d_MOD_negate_9 ?_
      refine lv_iconst (v := 0) hx hb d_MOD_negate_12 (by decide) ?_
      obtain ⟨hin, hf⟩ := grd_in hf
      refine va_iald hx hb hK hP 3 0 rfl rfl hin d_MOD_negate_13 ?_
      refine lv_icmp_ge (tgt := 40) hx hb d_MOD_negate_14 (by decide) (fun c_ => ?_) (fun c_ => ?_)
      · have hf := f_pos c_ hf
        refine lv_aload_n hx hb d_MOD_negate_40 rfl (lv_at hl 0 rfl) ?_
        refine lv_iconst (v := 0) hx hb d_MOD_negate_41 (by decide) ?_
        obtain ⟨x42, hg, hf⟩ := bnd hf
        have hPc := hP.sub (ws' := (w_51 cI tS a_mod a_mod_hand a_mod_text a_mod_kind a_mod_value a_mod_most a_mod_span a_mod_size a_mod_whose a_mod_rangeFrom a_mod_rangeMany a_mod_begins a_mod_ends a_mod_names a_mod_nameSize a_mod_opened a_mod_number a_mod_flagsBefore a_mod_rows a_mod_parts a_mod_low a_mod_high a_mod_many a_mod_like a_mod_sets a_mod_large a_mod_named mod_thrown mod_inHand mod_n mod_at mod_fault mod_place mod_nodes mod_ranges mod_numbered mod_depth mod_flags mod_repeatable mod_behind mod_notSet mod_least mod_greatest mod_many)) [0, 3] rfl
        have hDc := hD.sub (ws' := (w_51 cI tS a_mod a_mod_hand a_mod_text a_mod_kind a_mod_value a_mod_most a_mod_span a_mod_size a_mod_whose a_mod_rangeFrom a_mod_rangeMany a_mod_begins a_mod_ends a_mod_names a_mod_nameSize a_mod_opened a_mod_number a_mod_flagsBefore a_mod_rows a_mod_parts a_mod_low a_mod_high a_mod_many a_mod_like a_mod_sets a_mod_large a_mod_named mod_thrown mod_inHand mod_n mod_at mod_fault mod_place mod_nodes mod_ranges mod_numbered mod_depth mod_flags mod_repeatable mod_behind mod_notSet mod_least mod_greatest mod_many)) [0, 3] (by decide) rfl
        have hFc := va_free (wc := (w_51 cI tS a_mod a_mod_hand a_mod_text a_mod_kind a_mod_value a_mod_most a_mod_span a_mod_size a_mod_whose a_mod_rangeFrom a_mod_rangeMany a_mod_begins a_mod_ends a_mod_names a_mod_nameSize a_mod_opened a_mod_number a_mod_flagsBefore a_mod_rows a_mod_parts a_mod_low a_mod_high a_mod_many a_mod_like a_mod_sets a_mod_large a_mod_named mod_thrown mod_inHand mod_n mod_at mod_fault mod_place mod_nodes mod_ranges mod_numbered mod_depth mod_flags mod_repeatable mod_behind mod_notSet mod_least mod_greatest mod_many)) hD hS hA [0, 3] rfl
        refine cal_v (va_runV (As := [.int 0]) (rest := []) ⟨hx, hb, hml, hown, hts⟩ (c_MOD_empty l dC dI cI tS H.size a_mod a_mod_hand a_mod_text a_mod_kind a_mod_value a_mod_most a_mod_span a_mod_size a_mod_whose a_mod_rangeFrom a_mod_rangeMany a_mod_begins a_mod_ends a_mod_names a_mod_nameSize a_mod_opened a_mod_number a_mod_flagsBefore a_mod_rows a_mod_parts a_mod_low a_mod_high a_mod_many a_mod_like a_mod_sets a_mod_large a_mod_named mod_thrown mod_inHand mod_n mod_at mod_fault mod_place mod_nodes mod_ranges mod_numbered mod_depth mod_flags mod_repeatable mod_behind mod_notSet mod_least mod_greatest mod_many 0 x42 hg) ⟨callB_of 1 hts (gN tw_1204) rfl rfl rfl (hts _ tw_91) (hts _ tw_1201) hd_MOD_empty ⟨Nat.le_of_ble_eq_true rfl, Nat.le_of_ble_eq_true rfl⟩, hts _ tw_1203, hts _ tw_49⟩ (pre_V hK hPc hDc hst0 hS hFc (va_recv hK hPc (ci := 12) (q0 := 0) rfl rfl)) rfl rfl hl.1 rfl (lv_room (Nat.le_of_ble_eq_true rfl)) d_MOD_negate_42 ⟨Nat.zero_le _, Nat.zero_le _⟩) hP hD hS hA [0, 3] [1, 2] rfl rfl (by decide) (by decide) (fun H locs hP hD hS => ?_)
        have hP := hP.sub (ws' := (w_52 cI tS a_mod a_mod_hand a_mod_text a_mod_kind a_mod_value a_mod_most a_mod_span a_mod_size a_mod_whose a_mod_rangeFrom a_mod_rangeMany a_mod_begins a_mod_ends a_mod_names a_mod_nameSize a_mod_opened a_mod_number a_mod_flagsBefore a_mod_rows a_mod_parts a_mod_low a_mod_high a_mod_many a_mod_like a_mod_sets a_mod_large a_mod_named mod_thrown mod_inHand mod_n mod_at mod_fault mod_place mod_nodes mod_ranges mod_numbered mod_depth mod_flags mod_repeatable mod_behind mod_notSet mod_least mod_greatest mod_low mod_high x42)) [2, 0, 1, 3] rfl
        have hD := hD.sub (ws' := (w_52 cI tS a_mod a_mod_hand a_mod_text a_mod_kind a_mod_value a_mod_most a_mod_span a_mod_size a_mod_whose a_mod_rangeFrom a_mod_rangeMany a_mod_begins a_mod_ends a_mod_names a_mod_nameSize a_mod_opened a_mod_number a_mod_flagsBefore a_mod_rows a_mod_parts a_mod_low a_mod_high a_mod_many a_mod_like a_mod_sets a_mod_large a_mod_named mod_thrown mod_inHand mod_n mod_at mod_fault mod_place mod_nodes mod_ranges mod_numbered mod_depth mod_flags mod_repeatable mod_behind mod_notSet mod_least mod_greatest mod_low mod_high x42)) [2, 0, 1, 3] (by decide) rfl
        refine lv_aload_n hx hb d_MOD_negate_45 rfl (lv_at hl 0 rfl) ?_
        refine lv_iconst (v := 1) hx hb d_MOD_negate_46 (by decide) ?_
        obtain ⟨x47, hg, hf⟩ := bnd hf
        have hPc := hP.sub (ws' := (w_52 cI tS a_mod a_mod_hand a_mod_text a_mod_kind a_mod_value a_mod_most a_mod_span a_mod_size a_mod_whose a_mod_rangeFrom a_mod_rangeMany a_mod_begins a_mod_ends a_mod_names a_mod_nameSize a_mod_opened a_mod_number a_mod_flagsBefore a_mod_rows a_mod_parts a_mod_low a_mod_high a_mod_many a_mod_like a_mod_sets a_mod_large a_mod_named mod_thrown mod_inHand mod_n mod_at mod_fault mod_place mod_nodes mod_ranges mod_numbered mod_depth mod_flags mod_repeatable mod_behind mod_notSet mod_least mod_greatest mod_low mod_high x42)) [0, 1, 2, 3] rfl
        have hDc := hD.sub (ws' := (w_52 cI tS a_mod a_mod_hand a_mod_text a_mod_kind a_mod_value a_mod_most a_mod_span a_mod_size a_mod_whose a_mod_rangeFrom a_mod_rangeMany a_mod_begins a_mod_ends a_mod_names a_mod_nameSize a_mod_opened a_mod_number a_mod_flagsBefore a_mod_rows a_mod_parts a_mod_low a_mod_high a_mod_many a_mod_like a_mod_sets a_mod_large a_mod_named mod_thrown mod_inHand mod_n mod_at mod_fault mod_place mod_nodes mod_ranges mod_numbered mod_depth mod_flags mod_repeatable mod_behind mod_notSet mod_least mod_greatest mod_low mod_high x42)) [0, 1, 2, 3] (by decide) rfl
        have hFc := va_free (wc := (w_52 cI tS a_mod a_mod_hand a_mod_text a_mod_kind a_mod_value a_mod_most a_mod_span a_mod_size a_mod_whose a_mod_rangeFrom a_mod_rangeMany a_mod_begins a_mod_ends a_mod_names a_mod_nameSize a_mod_opened a_mod_number a_mod_flagsBefore a_mod_rows a_mod_parts a_mod_low a_mod_high a_mod_many a_mod_like a_mod_sets a_mod_large a_mod_named mod_thrown mod_inHand mod_n mod_at mod_fault mod_place mod_nodes mod_ranges mod_numbered mod_depth mod_flags mod_repeatable mod_behind mod_notSet mod_least mod_greatest mod_low mod_high x42)) hD hS hA [0, 1, 2, 3] rfl
        refine cal_v (va_runV (As := [.int (b2i true)]) (rest := []) ⟨hx, hb, hml, hown, hts⟩ (c_MOD_give l dC dI cI tS H.size a_mod a_mod_hand a_mod_text a_mod_kind a_mod_value a_mod_most a_mod_span a_mod_size a_mod_whose a_mod_rangeFrom a_mod_rangeMany a_mod_begins a_mod_ends a_mod_names a_mod_nameSize a_mod_opened a_mod_number a_mod_flagsBefore a_mod_rows a_mod_parts a_mod_low a_mod_high a_mod_many a_mod_like a_mod_sets a_mod_large a_mod_named mod_thrown mod_inHand mod_n mod_at mod_fault mod_place mod_nodes mod_ranges mod_numbered mod_depth mod_flags mod_repeatable mod_behind mod_notSet mod_least mod_greatest mod_low mod_high x42 true x47 hg) ⟨callB_of 1 hts (gN tw_1228) rfl rfl rfl (hts _ tw_91) (hts _ tw_1225) hd_MOD_give ⟨Nat.le_of_ble_eq_true rfl, Nat.le_of_ble_eq_true rfl⟩, hts _ tw_1227, hts _ tw_55⟩ (pre_V hK hPc hDc hst0 hS hFc (va_recv hK hPc (ci := 12) (q0 := 0) rfl rfl)) rfl rfl hl.1 rfl (lv_room (Nat.le_of_ble_eq_true rfl)) d_MOD_negate_47 ⟨Nat.zero_le _, Nat.zero_le _⟩) hP hD hS hA [0, 1, 2, 3] [] rfl rfl (by decide) (by decide) (fun H locs hP hD hS => ?_)
        have hP := hP.sub (ws' := (w_52 cI tS a_mod a_mod_hand a_mod_text a_mod_kind a_mod_value a_mod_most a_mod_span a_mod_size a_mod_whose a_mod_rangeFrom a_mod_rangeMany a_mod_begins a_mod_ends a_mod_names a_mod_nameSize a_mod_opened a_mod_number a_mod_flagsBefore a_mod_rows a_mod_parts a_mod_low a_mod_high a_mod_many a_mod_like a_mod_sets a_mod_large a_mod_named mod_thrown mod_inHand mod_n mod_at mod_fault mod_place mod_nodes mod_ranges mod_numbered mod_depth mod_flags mod_repeatable mod_behind mod_notSet mod_least mod_greatest x47.1 x47.2.1 x47.2.2)) [0, 1, 2, 3] rfl
        have hD := hD.sub (ws' := (w_52 cI tS a_mod a_mod_hand a_mod_text a_mod_kind a_mod_value a_mod_most a_mod_span a_mod_size a_mod_whose a_mod_rangeFrom a_mod_rangeMany a_mod_begins a_mod_ends a_mod_names a_mod_nameSize a_mod_opened a_mod_number a_mod_flagsBefore a_mod_rows a_mod_parts a_mod_low a_mod_high a_mod_many a_mod_like a_mod_sets a_mod_large a_mod_named mod_thrown mod_inHand mod_n mod_at mod_fault mod_place mod_nodes mod_ranges mod_numbered mod_depth mod_flags mod_repeatable mod_behind mod_notSet mod_least mod_greatest x47.1 x47.2.1 x47.2.2)) [0, 1, 2, 3] (by decide) rfl
        obtain rfl := Option.some.inj hf
        exact W.vret hx hb hr (fun t ht hW => ⟨⟨(), rfl, trivial, ⟨by rw [ht]; exact hP, va_K.moved hW.alike hK, hD⟩⟩, hS.F ht⟩) hS.2.2 d_MOD_negate_50
      · have hf := f_neg c_ hf
        refine lv_aload_n hx hb d_MOD_negate_17 rfl (lv_at hl 0 rfl) ?_
        refine lv_iconst (v := 1) hx hb d_MOD_negate_18 (by decide) ?_
        refine lv_aload_n hx hb d_MOD_negate_19 rfl (lv_at hl 0 rfl) ?_
        refine va_get (D := (dC, dI)) (ci := 12) (v := .ref a_mod_low) (C := R_MOD) (T := F_MOD) (N := N_MOD) hx hb hts i_MOD hown hK hP 0 rfl rfl 31 (by decide) (hts _ tw_1024) (fun _ h9 => h9) rfl d_MOD_negate_20 ?_
        refine lv_iload_n hx hb d_MOD_negate_23 rfl (lv_at hl 1 rfl) ?_
        obtain ⟨hin, hf⟩ := grd_in hf
        refine va_iald hx hb hK hP 1 0 rfl rfl hin d_MOD_negate_24 ?_
        refine lv_aload_n hx hb d_MOD_negate_25 rfl (lv_at hl 0 rfl) ?_
        refine va_get (D := (dC, dI)) (ci := 12) (v := .ref a_mod_high) (C := R_MOD) (T := F_MOD) (N := N_MOD) hx hb hts i_MOD hown hK hP 0 rfl rfl 32 (by decide) (hts _ tw_1025) (fun _ h9 => h9) rfl d_MOD_negate_26 ?_
        refine lv_iload_n hx hb d_MOD_negate_29 rfl (lv_at hl 1 rfl) ?_
        obtain ⟨hin, hf⟩ := grd_in hf
        refine va_iald hx hb hK hP 2 0 rfl rfl hin d_MOD_negate_30 ?_
        obtain ⟨x31, hg, hf⟩ := bnd hf
        have hPc := hP.sub (ws' := (w_52 cI tS a_mod a_mod_hand a_mod_text a_mod_kind a_mod_value a_mod_most a_mod_span a_mod_size a_mod_whose a_mod_rangeFrom a_mod_rangeMany a_mod_begins a_mod_ends a_mod_names a_mod_nameSize a_mod_opened a_mod_number a_mod_flagsBefore a_mod_rows a_mod_parts a_mod_low a_mod_high a_mod_many a_mod_like a_mod_sets a_mod_large a_mod_named mod_thrown mod_inHand mod_n mod_at mod_fault mod_place mod_nodes mod_ranges mod_numbered mod_depth mod_flags mod_repeatable mod_behind mod_notSet mod_least mod_greatest mod_low mod_high mod_many)) [0, 1, 2, 3] rfl
        have hDc := hD.sub (ws' := (w_52 cI tS a_mod a_mod_hand a_mod_text a_mod_kind a_mod_value a_mod_most a_mod_span a_mod_size a_mod_whose a_mod_rangeFrom a_mod_rangeMany a_mod_begins a_mod_ends a_mod_names a_mod_nameSize a_mod_opened a_mod_number a_mod_flagsBefore a_mod_rows a_mod_parts a_mod_low a_mod_high a_mod_many a_mod_like a_mod_sets a_mod_large a_mod_named mod_thrown mod_inHand mod_n mod_at mod_fault mod_place mod_nodes mod_ranges mod_numbered mod_depth mod_flags mod_repeatable mod_behind mod_notSet mod_least mod_greatest mod_low mod_high mod_many)) [0, 1, 2, 3] (by decide) rfl
        have hFc := va_free (wc := (w_52 cI tS a_mod a_mod_hand a_mod_text a_mod_kind a_mod_value a_mod_most a_mod_span a_mod_size a_mod_whose a_mod_rangeFrom a_mod_rangeMany a_mod_begins a_mod_ends a_mod_names a_mod_nameSize a_mod_opened a_mod_number a_mod_flagsBefore a_mod_rows a_mod_parts a_mod_low a_mod_high a_mod_many a_mod_like a_mod_sets a_mod_large a_mod_named mod_thrown mod_inHand mod_n mod_at mod_fault mod_place mod_nodes mod_ranges mod_numbered mod_depth mod_flags mod_repeatable mod_behind mod_notSet mod_least mod_greatest mod_low mod_high mod_many)) hD hS hA [0, 1, 2, 3] rfl
        refine cal_v (va_runV (As := [.int 1, .int (mod_low v1.toNatClampNeg), .int (mod_high v1.toNatClampNeg)]) (rest := []) ⟨hx, hb, hml, hown, hts⟩ (c_MOD_add l dC dI cI tS H.size a_mod a_mod_hand a_mod_text a_mod_kind a_mod_value a_mod_most a_mod_span a_mod_size a_mod_whose a_mod_rangeFrom a_mod_rangeMany a_mod_begins a_mod_ends a_mod_names a_mod_nameSize a_mod_opened a_mod_number a_mod_flagsBefore a_mod_rows a_mod_parts a_mod_low a_mod_high a_mod_many a_mod_like a_mod_sets a_mod_large a_mod_named mod_thrown mod_inHand mod_n mod_at mod_fault mod_place mod_nodes mod_ranges mod_numbered mod_depth mod_flags mod_repeatable mod_behind mod_notSet mod_least mod_greatest mod_low mod_high mod_many 1 (mod_low v1.toNatClampNeg) (mod_high v1.toNatClampNeg) x31 hg) ⟨callB_of 3 hts (gN tw_1224) rfl rfl rfl (hts _ tw_91) (hts _ tw_1221) hd_MOD_add ⟨Nat.le_of_ble_eq_true rfl, Nat.le_of_ble_eq_true rfl⟩, hts _ tw_1223, hts _ tw_54⟩ (pre_V hK hPc hDc hst0 hS hFc (va_recv hK hPc (ci := 12) (q0 := 0) rfl rfl)) rfl rfl hl.1 rfl (lv_room (Nat.le_of_ble_eq_true rfl)) d_MOD_negate_31 ⟨Nat.zero_le _, Nat.zero_le _⟩) hP hD hS hA [0, 1, 2, 3] [] rfl rfl (by decide) (by decide) (fun H locs hP hD hS => ?_)
        have hP := hP.sub (ws' := (w_52 cI tS a_mod a_mod_hand a_mod_text a_mod_kind a_mod_value a_mod_most a_mod_span a_mod_size a_mod_whose a_mod_rangeFrom a_mod_rangeMany a_mod_begins a_mod_ends a_mod_names a_mod_nameSize a_mod_opened a_mod_number a_mod_flagsBefore a_mod_rows a_mod_parts a_mod_low a_mod_high a_mod_many a_mod_like a_mod_sets a_mod_large a_mod_named mod_thrown mod_inHand mod_n mod_at mod_fault mod_place mod_nodes mod_ranges mod_numbered mod_depth mod_flags mod_repeatable mod_behind mod_notSet mod_least mod_greatest x31.1 x31.2.1 x31.2.2)) [0, 1, 2, 3] rfl
        have hD := hD.sub (ws' := (w_52 cI tS a_mod a_mod_hand a_mod_text a_mod_kind a_mod_value a_mod_most a_mod_span a_mod_size a_mod_whose a_mod_rangeFrom a_mod_rangeMany a_mod_begins a_mod_ends a_mod_names a_mod_nameSize a_mod_opened a_mod_number a_mod_flagsBefore a_mod_rows a_mod_parts a_mod_low a_mod_high a_mod_many a_mod_like a_mod_sets a_mod_large a_mod_named mod_thrown mod_inHand mod_n mod_at mod_fault mod_place mod_nodes mod_ranges mod_numbered mod_depth mod_flags mod_repeatable mod_behind mod_notSet mod_least mod_greatest x31.1 x31.2.1 x31.2.2)) [0, 1, 2, 3] (by decide) rfl
        refine lv_iinc (v := v1 + 1) (lv' := [(1, .int (v1 + 1)), (0, .ref a_mod)]) hx hb d_MOD_negate_34 hl (k := 1) rfl rfl (by decide) rfl (fun ls hl => ?_)
        refine lv_goto (tgt := 7) hx hb d_MOD_negate_37 (by decide) ?_
        exact ih7 (v1 + 1) x31.1 x31.2.1 x31.2.2 _ _ _ hP hD hS (lv_sub hl [1, 0] rfl) hf
  refine lv_aload_n hx hb d_MOD_negate_0 rfl (lv_at hl 0 rfl) ?_
  refine lv_iconst (v := 1) hx hb d_MOD_negate_1 (by decide) ?_
  obtain ⟨x2, hg, hf⟩ := bnd hf
  have hPc := hP.sub (ws' := (w_51 cI tS a_mod a_mod_hand a_mod_text a_mod_kind a_mod_value a_mod_most a_mod_span a_mod_size a_mod_whose a_mod_rangeFrom a_mod_rangeMany a_mod_begins a_mod_ends a_mod_names a_mod_nameSize a_mod_opened a_mod_number a_mod_flagsBefore a_mod_rows a_mod_parts a_mod_low a_mod_high a_mod_many a_mod_like a_mod_sets a_mod_large a_mod_named mod_thrown mod_inHand mod_n mod_at mod_fault mod_place mod_nodes mod_ranges mod_numbered mod_depth mod_flags mod_repeatable mod_behind mod_notSet mod_least mod_greatest mod_many)) [0, 3] rfl
  have hDc := hD.sub (ws' := (w_51 cI tS a_mod a_mod_hand a_mod_text a_mod_kind a_mod_value a_mod_most a_mod_span a_mod_size a_mod_whose a_mod_rangeFrom a_mod_rangeMany a_mod_begins a_mod_ends a_mod_names a_mod_nameSize a_mod_opened a_mod_number a_mod_flagsBefore a_mod_rows a_mod_parts a_mod_low a_mod_high a_mod_many a_mod_like a_mod_sets a_mod_large a_mod_named mod_thrown mod_inHand mod_n mod_at mod_fault mod_place mod_nodes mod_ranges mod_numbered mod_depth mod_flags mod_repeatable mod_behind mod_notSet mod_least mod_greatest mod_many)) [0, 3] (by decide) rfl
  have hFc := va_free (wc := (w_51 cI tS a_mod a_mod_hand a_mod_text a_mod_kind a_mod_value a_mod_most a_mod_span a_mod_size a_mod_whose a_mod_rangeFrom a_mod_rangeMany a_mod_begins a_mod_ends a_mod_names a_mod_nameSize a_mod_opened a_mod_number a_mod_flagsBefore a_mod_rows a_mod_parts a_mod_low a_mod_high a_mod_many a_mod_like a_mod_sets a_mod_large a_mod_named mod_thrown mod_inHand mod_n mod_at mod_fault mod_place mod_nodes mod_ranges mod_numbered mod_depth mod_flags mod_repeatable mod_behind mod_notSet mod_least mod_greatest mod_many)) hD hS hA [0, 3] rfl
  refine cal_v (va_runV (As := [.int 1]) (rest := []) ⟨hx, hb, hml, hown, hts⟩ (c_MOD_empty l dC dI cI tS s.heap.size a_mod a_mod_hand a_mod_text a_mod_kind a_mod_value a_mod_most a_mod_span a_mod_size a_mod_whose a_mod_rangeFrom a_mod_rangeMany a_mod_begins a_mod_ends a_mod_names a_mod_nameSize a_mod_opened a_mod_number a_mod_flagsBefore a_mod_rows a_mod_parts a_mod_low a_mod_high a_mod_many a_mod_like a_mod_sets a_mod_large a_mod_named mod_thrown mod_inHand mod_n mod_at mod_fault mod_place mod_nodes mod_ranges mod_numbered mod_depth mod_flags mod_repeatable mod_behind mod_notSet mod_least mod_greatest mod_many 1 x2 hg) ⟨callB_of 1 hts (gN tw_1204) rfl rfl rfl (hts _ tw_91) (hts _ tw_1201) hd_MOD_empty ⟨Nat.le_of_ble_eq_true rfl, Nat.le_of_ble_eq_true rfl⟩, hts _ tw_1203, hts _ tw_49⟩ (pre_V hK hPc hDc hst0 hS hFc (va_recv hK hPc (ci := 12) (q0 := 0) rfl rfl)) rfl rfl hl.1 rfl (lv_room (Nat.le_of_ble_eq_true rfl)) d_MOD_negate_2 ⟨Nat.zero_le _, Nat.zero_le _⟩) hP hD hS hA [0, 3] [1, 2] rfl rfl (by decide) (by decide) (fun H locs hP hD hS => ?_)
  have hP := hP.sub (ws' := (w_52 cI tS a_mod a_mod_hand a_mod_text a_mod_kind a_mod_value a_mod_most a_mod_span a_mod_size a_mod_whose a_mod_rangeFrom a_mod_rangeMany a_mod_begins a_mod_ends a_mod_names a_mod_nameSize a_mod_opened a_mod_number a_mod_flagsBefore a_mod_rows a_mod_parts a_mod_low a_mod_high a_mod_many a_mod_like a_mod_sets a_mod_large a_mod_named mod_thrown mod_inHand mod_n mod_at mod_fault mod_place mod_nodes mod_ranges mod_numbered mod_depth mod_flags mod_repeatable mod_behind mod_notSet mod_least mod_greatest mod_low mod_high x2)) [2, 0, 1, 3] rfl
  have hD := hD.sub (ws' := (w_52 cI tS a_mod a_mod_hand a_mod_text a_mod_kind a_mod_value a_mod_most a_mod_span a_mod_size a_mod_whose a_mod_rangeFrom a_mod_rangeMany a_mod_begins a_mod_ends a_mod_names a_mod_nameSize a_mod_opened a_mod_number a_mod_flagsBefore a_mod_rows a_mod_parts a_mod_low a_mod_high a_mod_many a_mod_like a_mod_sets a_mod_large a_mod_named mod_thrown mod_inHand mod_n mod_at mod_fault mod_place mod_nodes mod_ranges mod_numbered mod_depth mod_flags mod_repeatable mod_behind mod_notSet mod_least mod_greatest mod_low mod_high x2)) [2, 0, 1, 3] (by decide) rfl
  refine lv_iconst (v := 0) hx hb d_MOD_negate_5 (by decide) ?_
  refine lv_istore_n (lv' := [(1, .int 0), (0, .ref a_mod)]) hx hb d_MOD_negate_6 rfl hl (by decide) rfl (fun ls hl => ?_)
  exact L7 FU 0 mod_low mod_high x2 _ _ _ hP hD hS (lv_sub hl [1, 0] rfl) hf
def f_MOD_shift_L76 (p1 : Int32) (p2 : Int32) (p3 : Int32) (K3 : (Int32 × (Nat → Int32) × (Nat → Int32) × (Nat → Int32)) → Option (Bool × (Nat → Int32) × (Nat → Int32) × (Nat → Int32))) (v4 : Int32) (v5 : Int32) (z0 : Int32) (mod_low : Nat → Int32) (mod_high : Nat → Int32) (mod_many : Nat → Int32) : Option (Bool × (Nat → Int32) × (Nat → Int32) × (Nat → Int32)) :=
  if z0 < v5 then K3 (v4 + 1, mod_low, mod_high, mod_many) else bnd_ (f_MOD_has mod_low mod_high mod_many 1 (v5 - p3) (z0 - p3)) (fun x95 => if (b2i x95) = 0 then bnd_ (f_MOD_add mod_low mod_high mod_many 1 (v5 - p3) (z0 - p3)) (fun x114 => some (true, x114.1, x114.2.1, x114.2.2)) else K3 (v4 + 1, mod_low, mod_high, mod_many))
def f_MOD_shift_L44 (p1 : Int32) (p2 : Int32) (p3 : Int32) (K3 : (Int32 × (Nat → Int32) × (Nat → Int32) × (Nat → Int32)) → Option (Bool × (Nat → Int32) × (Nat → Int32) × (Nat → Int32))) (v4 : Int32) (z0 : Int32) (mod_low : Nat → Int32) (mod_high : Nat → Int32) (mod_many : Nat → Int32) : Option (Bool × (Nat → Int32) × (Nat → Int32) × (Nat → Int32)) :=
  grd (inb (600 + v4) 1200) (if p2 ≤ (mod_high (600 + v4).toNatClampNeg) then f_MOD_shift_L76 p1 p2 p3 K3 v4 z0 p2 mod_low mod_high mod_many else grd (inb (600 + v4) 1200) (f_MOD_shift_L76 p1 p2 p3 K3 v4 z0 (mod_high (600 + v4).toNatClampNeg) mod_low mod_high mod_many))
def f_MOD_shift_B3 (p1 : Int32) (p2 : Int32) (p3 : Int32) (K3 : (Int32 × (Nat → Int32) × (Nat → Int32) × (Nat → Int32)) → Option (Bool × (Nat → Int32) × (Nat → Int32) × (Nat → Int32))) (v4 : Int32) (mod_low : Nat → Int32) (mod_high : Nat → Int32) (mod_many : Nat → Int32) : Option (Bool × (Nat → Int32) × (Nat → Int32) × (Nat → Int32)) :=
  grd (inb 1 2) (if (mod_many (1 : Int32).toNatClampNeg) ≤ v4 then some (false, mod_low, mod_high, mod_many) else grd (inb (600 + v4) 1200) (if (mod_low (600 + v4).toNatClampNeg) ≤ p1 then f_MOD_shift_L44 p1 p2 p3 K3 v4 p1 mod_low mod_high mod_many else grd (inb (600 + v4) 1200) (f_MOD_shift_L44 p1 p2 p3 K3 v4 (mod_low (600 + v4).toNatClampNeg) mod_low mod_high mod_many)))
def f_MOD_shift_L3 (p1 : Int32) (p2 : Int32) (p3 : Int32) (n : Nat) (a : Int32 × (Nat → Int32) × (Nat → Int32) × (Nat → Int32)) : Option (Bool × (Nat → Int32) × (Nat → Int32) × (Nat → Int32)) :=
  lpF (fun K3 v => f_MOD_shift_B3 p1 p2 p3  K3 v.1 v.2.1 v.2.2.1 v.2.2.2) n a
def f_MOD_shift (mod_low : Nat → Int32) (mod_high : Nat → Int32) (mod_many : Nat → Int32) (p1 : Int32) (p2 : Int32) (p3 : Int32) : Option (Bool × (Nat → Int32) × (Nat → Int32) × (Nat → Int32)) :=
  f_MOD_shift_L3 p1 p2 p3 FU (0, mod_low, mod_high, mod_many)
set_option maxRecDepth 100000 in
set_option maxHeartbeats 4000000 in
theorem c_MOD_shift (l : Launch) (dC : Nat → ClassId) (dI : Nat → Nat → Nat) (cI : ClassId) (tS : Nat → Nat → Nat) (sz : Nat) (a_mod a_mod_hand a_mod_text a_mod_kind a_mod_value a_mod_most a_mod_span a_mod_size a_mod_whose a_mod_rangeFrom a_mod_rangeMany a_mod_begins a_mod_ends a_mod_names a_mod_nameSize a_mod_opened a_mod_number a_mod_flagsBefore a_mod_rows a_mod_parts a_mod_low a_mod_high a_mod_many a_mod_like a_mod_sets a_mod_large a_mod_named : Nat) (mod_thrown : Int32) (mod_inHand : Int32) (mod_n : Int32) (mod_at : Int32) (mod_fault : Int32) (mod_place : Int32) (mod_nodes : Int32) (mod_ranges : Int32) (mod_numbered : Int32) (mod_depth : Int32) (mod_flags : Int32) (mod_repeatable : Bool) (mod_behind : Int32) (mod_notSet : Bool) (mod_least : Int32) (mod_greatest : Int32) (mod_low : Nat → Int32) (mod_high : Nat → Int32) (mod_many : Nat → Int32) (p1 : Int32) (p2 : Int32) (p3 : Int32) (R0 : Bool × (Nat → Int32) × (Nat → Int32) × (Nat → Int32)) (hf : f_MOD_shift mod_low mod_high mod_many p1 p2 p3 = some R0) : Met l y_MOD_shift ws_MOD_shift ({ frames := 1, cells := 0, slots := 0, locals := 30 }) (va_Pc [.ref a_mod, .int p1, .int p2, .int p3] (preS (dC, dI) classes [(cI, .int)] tS (w_52 cI tS a_mod a_mod_hand a_mod_text a_mod_kind a_mod_value a_mod_most a_mod_span a_mod_size a_mod_whose a_mod_rangeFrom a_mod_rangeMany a_mod_begins a_mod_ends a_mod_names a_mod_nameSize a_mod_opened a_mod_number a_mod_flagsBefore a_mod_rows a_mod_parts a_mod_low a_mod_high a_mod_many a_mod_like a_mod_sets a_mod_large a_mod_named mod_thrown mod_inHand mod_n mod_at mod_fault mod_place mod_nodes mod_ranges mod_numbered mod_depth mod_flags mod_repeatable mod_behind mod_notSet mod_least mod_greatest mod_low mod_high mod_many) sz)) (va_Qi (fun r (_ : Unit) => r = b2i R0.1) (fun _ t => posS (dC, dI) classes [(cI, .int)] (w_52 cI tS a_mod a_mod_hand a_mod_text a_mod_kind a_mod_value a_mod_most a_mod_span a_mod_size a_mod_whose a_mod_rangeFrom a_mod_rangeMany a_mod_begins a_mod_ends a_mod_names a_mod_nameSize a_mod_opened a_mod_number a_mod_flagsBefore a_mod_rows a_mod_parts a_mod_low a_mod_high a_mod_many a_mod_like a_mod_sets a_mod_large a_mod_named mod_thrown mod_inHand mod_n mod_at mod_fault mod_place mod_nodes mod_ranges mod_numbered mod_depth mod_flags mod_repeatable mod_behind mod_notSet mod_least mod_greatest R0.2.1 R0.2.2.1 R0.2.2.2) (va_A (w_52 cI tS a_mod a_mod_hand a_mod_text a_mod_kind a_mod_value a_mod_most a_mod_span a_mod_size a_mod_whose a_mod_rangeFrom a_mod_rangeMany a_mod_begins a_mod_ends a_mod_names a_mod_nameSize a_mod_opened a_mod_number a_mod_flagsBefore a_mod_rows a_mod_parts a_mod_low a_mod_high a_mod_many a_mod_like a_mod_sets a_mod_large a_mod_named mod_thrown mod_inHand mod_n mod_at mod_fault mod_place mod_nodes mod_ranges mod_numbered mod_depth mod_flags mod_repeatable mod_behind mod_notSet mod_least mod_greatest mod_low mod_high mod_many) sz) t) (va_A (w_52 cI tS a_mod a_mod_hand a_mod_text a_mod_kind a_mod_value a_mod_most a_mod_span a_mod_size a_mod_whose a_mod_rangeFrom a_mod_rangeMany a_mod_begins a_mod_ends a_mod_names a_mod_nameSize a_mod_opened a_mod_number a_mod_flagsBefore a_mod_rows a_mod_parts a_mod_low a_mod_high a_mod_many a_mod_like a_mod_sets a_mod_large a_mod_named mod_thrown mod_inHand mod_n mod_at mod_fault mod_place mod_nodes mod_ranges mod_numbered mod_depth mod_flags mod_repeatable mod_behind mod_notSet mod_least mod_greatest mod_low mod_high mod_many) sz)) 0 0 (va_A (w_52 cI tS a_mod a_mod_hand a_mod_text a_mod_kind a_mod_value a_mod_most a_mod_span a_mod_size a_mod_whose a_mod_rangeFrom a_mod_rangeMany a_mod_begins a_mod_ends a_mod_names a_mod_nameSize a_mod_opened a_mod_number a_mod_flagsBefore a_mod_rows a_mod_parts a_mod_low a_mod_high a_mod_many a_mod_like a_mod_sets a_mod_large a_mod_named mod_thrown mod_inHand mod_n mod_at mod_fault mod_place mod_nodes mod_ranges mod_numbered mod_depth mod_flags mod_repeatable mod_behind mod_notSet mod_least mod_greatest mod_low mod_high mod_many) sz) := by
  refine Met.ofW (cc := b_MOD_shift) (maxL := 7) (ret := (some .boolean)) (by decide) rfl ?_
  intro p e s m args below meth c s₁ B hml hv
  obtain ⟨rfl, hsz, hP, hK, hD0, hst0⟩ := hv
  have hx := B.exec
  have hb := B.bytes
  have hr := B.returns
  have hts0 := atoms_spec (ws := ws_MOD_shift) B.pre
  have hts : ∀ w ∈ GW, w.before _ s = true := fun w h => hts0 w (List.mem_cons_of_mem _ h)
  have hown : s.vm.findClass R_MOD = some m.cls := findClass_of_methodNamed B.named
  have hlocks := B.notSynchronized
  subst hsz
  have hD := hD0.self (sz := s.heap.size)
  generalize hAe : va_A (w_52 cI tS a_mod a_mod_hand a_mod_text a_mod_kind a_mod_value a_mod_most a_mod_span a_mod_size a_mod_whose a_mod_rangeFrom a_mod_rangeMany a_mod_begins a_mod_ends a_mod_names a_mod_nameSize a_mod_opened a_mod_number a_mod_flagsBefore a_mod_rows a_mod_parts a_mod_low a_mod_high a_mod_many a_mod_like a_mod_sets a_mod_large a_mod_named mod_thrown mod_inHand mod_n mod_at mod_fault mod_place mod_nodes mod_ranges mod_numbered mod_depth mod_flags mod_repeatable mod_behind mod_notSet mod_least mod_greatest mod_low mod_high mod_many) s.heap.size = A at hD hst0 ⊢
  have hA : ∀ q : Nat, s.heap.size ≤ q → A q := fun q h => by rw [← hAe]; exact Or.inr h
  have hS : va_S A s.heap s.heap [] := va_S.rf
  have hl := lv_entry ([.ref a_mod, .int p1, .int p2, .int p3]) (n := 7) (Nat.le_of_ble_eq_true rfl)
  rw [lg_entry_eq]
  generalize (lg_sl ([.ref a_mod, .int p1, .int p2, .int p3]) ++ List.replicate (7 - (lg_sl ([.ref a_mod, .int p1, .int p2, .int p3])).length) Slot.unset).toArray = ls at hl ⊢
  have hl : lv_has ls 7 [(0, .ref a_mod), (1, .int p1), (2, .int p2), (3, .int p3)] := hl
  have L3 : ∀ n3 : Nat, ∀ (v4 : Int32) (mod_low : Nat → Int32) (mod_high : Nat → Int32) (mod_many : Nat → Int32) (H : Heap) (locs : List Loc) (ls : Array Slot), va_P (dC, dI) classes (w_52 cI tS a_mod a_mod_hand a_mod_text a_mod_kind a_mod_value a_mod_most a_mod_span a_mod_size a_mod_whose a_mod_rangeFrom a_mod_rangeMany a_mod_begins a_mod_ends a_mod_names a_mod_nameSize a_mod_opened a_mod_number a_mod_flagsBefore a_mod_rows a_mod_parts a_mod_low a_mod_high a_mod_many a_mod_like a_mod_sets a_mod_large a_mod_named mod_thrown mod_inHand mod_n mod_at mod_fault mod_place mod_nodes mod_ranges mod_numbered mod_depth mod_flags mod_repeatable mod_behind mod_notSet mod_least mod_greatest mod_low mod_high mod_many) H → va_D A (w_52 cI tS a_mod a_mod_hand a_mod_text a_mod_kind a_mod_value a_mod_most a_mod_span a_mod_size a_mod_whose a_mod_rangeFrom a_mod_rangeMany a_mod_begins a_mod_ends a_mod_names a_mod_nameSize a_mod_opened a_mod_number a_mod_flagsBefore a_mod_rows a_mod_parts a_mod_low a_mod_high a_mod_many a_mod_like a_mod_sets a_mod_large a_mod_named mod_thrown mod_inHand mod_n mod_at mod_fault mod_place mod_nodes mod_ranges mod_numbered mod_depth mod_flags mod_repeatable mod_behind mod_notSet mod_least mod_greatest mod_low mod_high mod_many) → va_S A s.heap H locs → lv_has ls 7 [(0, .ref a_mod), (1, .int p1), (2, .int p2), (3, .int p3), (4, .int v4)] → f_MOD_shift_L3 p1 p2 p3 n3 (v4, mod_low, mod_high, mod_many) = some R0 → W p l e (headSpec ws_MOD_shift ({ frames := 1, cells := 0, slots := 0, locals := 30 })).room s m ([.ref a_mod, .int p1, .int p2, .int p3] : List Value).toArray below meth c H locs 0 0 (MQ below (va_Qi (fun r (_ : Unit) => r = b2i R0.1) (fun _ t => posS (dC, dI) classes [(cI, .int)] (w_52 cI tS a_mod a_mod_hand a_mod_text a_mod_kind a_mod_value a_mod_most a_mod_span a_mod_size a_mod_whose a_mod_rangeFrom a_mod_rangeMany a_mod_begins a_mod_ends a_mod_names a_mod_nameSize a_mod_opened a_mod_number a_mod_flagsBefore a_mod_rows a_mod_parts a_mod_low a_mod_high a_mod_many a_mod_like a_mod_sets a_mod_large a_mod_named mod_thrown mod_inHand mod_n mod_at mod_fault mod_place mod_nodes mod_ranges mod_numbered mod_depth mod_flags mod_repeatable mod_behind mod_notSet mod_least mod_greatest R0.2.1 R0.2.2.1 R0.2.2.2) (A) t) (A)) ([.ref a_mod, .int p1, .int p2, .int p3] : List Value).toArray s 0 0 A) (F0 m 3 ls []) := by
    intro n3
    induction n3 with
    | zero =>
      intro v4 mod_low mod_high mod_many H locs ls hP hD hS hl hf
      exact absurd (show (none : Option _) = some R0 from hf) (fun h => by cases h)
    | succ n3 ih3 =>
      have L76 : ∀ (v4 : Int32) (v5 : Int32) (z0 : Int32) (mod_low : Nat → Int32) (mod_high : Nat → Int32) (mod_many : Nat → Int32) (H : Heap) (locs : List Loc) (ls : Array Slot), va_P (dC, dI) classes (w_52 cI tS a_mod a_mod_hand a_mod_text a_mod_kind a_mod_value a_mod_most a_mod_span a_mod_size a_mod_whose a_mod_rangeFrom a_mod_rangeMany a_mod_begins a_mod_ends a_mod_names a_mod_nameSize a_mod_opened a_mod_number a_mod_flagsBefore a_mod_rows a_mod_parts a_mod_low a_mod_high a_mod_many a_mod_like a_mod_sets a_mod_large a_mod_named mod_thrown mod_inHand mod_n mod_at mod_fault mod_place mod_nodes mod_ranges mod_numbered mod_depth mod_flags mod_repeatable mod_behind mod_notSet mod_least mod_greatest mod_low mod_high mod_many) H → va_D A (w_52 cI tS a_mod a_mod_hand a_mod_text a_mod_kind a_mod_value a_mod_most a_mod_span a_mod_size a_mod_whose a_mod_rangeFrom a_mod_rangeMany a_mod_begins a_mod_ends a_mod_names a_mod_nameSize a_mod_opened a_mod_number a_mod_flagsBefore a_mod_rows a_mod_parts a_mod_low a_mod_high a_mod_many a_mod_like a_mod_sets a_mod_large a_mod_named mod_thrown mod_inHand mod_n mod_at mod_fault mod_place mod_nodes mod_ranges mod_numbered mod_depth mod_flags mod_repeatable mod_behind mod_notSet mod_least mod_greatest mod_low mod_high mod_many) → va_S A s.heap H locs → lv_has ls 7 [(0, .ref a_mod), (1, .int p1), (2, .int p2), (3, .int p3), (4, .int v4), (5, .int v5)] → f_MOD_shift_L76 p1 p2 p3 (f_MOD_shift_L3 p1 p2 p3 n3) v4 v5 z0 mod_low mod_high mod_many = some R0 → W p l e (headSpec ws_MOD_shift ({ frames := 1, cells := 0, slots := 0, locals := 30 })).room s m ([.ref a_mod, .int p1, .int p2, .int p3] : List Value).toArray below meth c H locs 0 0 (MQ below (va_Qi (fun r (_ : Unit) => r = b2i R0.1) (fun _ t => posS (dC, dI) classes [(cI, .int)] (w_52 cI tS a_mod a_mod_hand a_mod_text a_mod_kind a_mod_value a_mod_most a_mod_span a_mod_size a_mod_whose a_mod_rangeFrom a_mod_rangeMany a_mod_begins a_mod_ends a_mod_names a_mod_nameSize a_mod_opened a_mod_number a_mod_flagsBefore a_mod_rows a_mod_parts a_mod_low a_mod_high a_mod_many a_mod_like a_mod_sets a_mod_large a_mod_named mod_thrown mod_inHand mod_n mod_at mod_fault mod_place mod_nodes mod_ranges mod_numbered mod_depth mod_flags mod_repeatable mod_behind mod_notSet mod_least mod_greatest R0.2.1 R0.2.2.1 R0.2.2.2) (A) t) (A)) ([.ref a_mod, .int p1, .int p2, .int p3] : List Value).toArray s 0 0 A) (F0 m 76 ls [.int z0]) := by
        intro v4 v5 z0 mod_low mod_high mod_many H locs ls hP hD hS hl hf
        refine lv_istore (lv' := [(6, .int z0), (0, .ref a_mod), (1, .int p1), (2, .int p2), (3, .int p3), (4, .int v4), (5, .int v5)]) hx hb d_MOD_shift_76 hl (by decide) rfl (fun ls hl => ?_)
        refine lv_iload hx hb d_MOD_shift_78 (lv_at hl 6 rfl) ?_
        refine lv_iload hx hb d_MOD_shift_80 (lv_at hl 0 rfl) ?_
        refine lv_icmp_gt (tgt := 119) hx hb d_MOD_shift_82 (by decide) (fun c_ => ?_) (fun c_ => ?_)
        · have hf := f_pos c_ hf
          refine lv_iinc (v := v4 + 1) (lv' := [(4, .int (v4 + 1)), (6, .int z0), (0, .ref a_mod), (1, .int p1), (2, .int p2), (3, .int p3), (5, .int v5)]) hx hb d_MOD_shift_119 hl (k := 5) rfl rfl (by decide) rfl (fun ls hl => ?_)
          refine lv_goto (tgt := 3) hx hb d_MOD_shift_122 (by decide) ?_
          exact ih3 (v4 + 1) mod_low mod_high mod_many _ _ _ hP hD hS (lv_sub hl [2, 3, 4, 5, 0] rfl) hf
        · have hf := f_neg c_ hf
          refine lv_aload_n hx hb d_MOD_shift_85 rfl (lv_at hl 1 rfl) ?_
          refine lv_iconst (v := 1) hx hb d_MOD_shift_86 (by decide) ?_
          refine lv_iload hx hb d_MOD_shift_87 (lv_at hl 6 rfl) ?_
          refine lv_iload_n hx hb d_MOD_shift_89 rfl (lv_at hl 4 rfl) ?_
          refine lv_isub hx hb d_MOD_shift_90 ?_
          refine lv_iload hx hb d_MOD_shift_91 (lv_at hl 0 rfl) ?_
          refine lv_iload_n hx hb d_MOD_shift_93 rfl (lv_at hl 4 rfl) ?_
          refine lv_isub hx hb d_MOD_shift_94 ?_
          obtain ⟨x95, hg, hf⟩ := bnd hf
          have hPc := hP.sub (ws' := (w_52 cI tS a_mod a_mod_hand a_mod_text a_mod_kind a_mod_value a_mod_most a_mod_span a_mod_size a_mod_whose a_mod_rangeFrom a_mod_rangeMany a_mod_begins a_mod_ends a_mod_names a_mod_nameSize a_mod_opened a_mod_number a_mod_flagsBefore a_mod_rows a_mod_parts a_mod_low a_mod_high a_mod_many a_mod_like a_mod_sets a_mod_large a_mod_named mod_thrown mod_inHand mod_n mod_at mod_fault mod_place mod_nodes mod_ranges mod_numbered mod_depth mod_flags mod_repeatable mod_behind mod_notSet mod_least mod_greatest mod_low mod_high mod_many)) [0, 1, 2, 3] rfl
          have hDc := hD.sub (ws' := (w_52 cI tS a_mod a_mod_hand a_mod_text a_mod_kind a_mod_value a_mod_most a_mod_span a_mod_size a_mod_whose a_mod_rangeFrom a_mod_rangeMany a_mod_begins a_mod_ends a_mod_names a_mod_nameSize a_mod_opened a_mod_number a_mod_flagsBefore a_mod_rows a_mod_parts a_mod_low a_mod_high a_mod_many a_mod_like a_mod_sets a_mod_large a_mod_named mod_thrown mod_inHand mod_n mod_at mod_fault mod_place mod_nodes mod_ranges mod_numbered mod_depth mod_flags mod_repeatable mod_behind mod_notSet mod_least mod_greatest mod_low mod_high mod_many)) [0, 1, 2, 3] (by decide) rfl
          have hFc := va_free (wc := (w_52 cI tS a_mod a_mod_hand a_mod_text a_mod_kind a_mod_value a_mod_most a_mod_span a_mod_size a_mod_whose a_mod_rangeFrom a_mod_rangeMany a_mod_begins a_mod_ends a_mod_names a_mod_nameSize a_mod_opened a_mod_number a_mod_flagsBefore a_mod_rows a_mod_parts a_mod_low a_mod_high a_mod_many a_mod_like a_mod_sets a_mod_large a_mod_named mod_thrown mod_inHand mod_n mod_at mod_fault mod_place mod_nodes mod_ranges mod_numbered mod_depth mod_flags mod_repeatable mod_behind mod_notSet mod_least mod_greatest mod_low mod_high mod_many)) hD hS hA [0, 1, 2, 3] rfl
          refine cal_i (va_runV (As := [.int 1, .int (v5 - p3), .int (z0 - p3)]) (rest := []) ⟨hx, hb, hml, hown, hts⟩ (c_MOD_has l dC dI cI tS H.size a_mod a_mod_hand a_mod_text a_mod_kind a_mod_value a_mod_most a_mod_span a_mod_size a_mod_whose a_mod_rangeFrom a_mod_rangeMany a_mod_begins a_mod_ends a_mod_names a_mod_nameSize a_mod_opened a_mod_number a_mod_flagsBefore a_mod_rows a_mod_parts a_mod_low a_mod_high a_mod_many a_mod_like a_mod_sets a_mod_large a_mod_named mod_thrown mod_inHand mod_n mod_at mod_fault mod_place mod_nodes mod_ranges mod_numbered mod_depth mod_flags mod_repeatable mod_behind mod_notSet mod_least mod_greatest mod_low mod_high mod_many 1 (v5 - p3) (z0 - p3) x95 hg) ⟨callB_of 3 hts (gN tw_1278) rfl rfl rfl (hts _ tw_91) (hts _ tw_1275) hd_MOD_has ⟨Nat.le_of_ble_eq_true rfl, Nat.le_of_ble_eq_true rfl⟩, hts _ tw_1277, hts _ tw_65⟩ (pre_V hK hPc hDc hst0 hS hFc (va_recv hK hPc (ci := 12) (q0 := 0) rfl rfl)) rfl rfl hl.1 rfl (lv_room (Nat.le_of_ble_eq_true rfl)) d_MOD_shift_95 ⟨Nat.zero_le _, Nat.zero_le _⟩) hP hD hS hA [0, 1, 2, 3] [] rfl rfl (by decide) (by decide) (fun H locs hP hD hS => ?_)
          have hP := hP.sub (ws' := (w_52 cI tS a_mod a_mod_hand a_mod_text a_mod_kind a_mod_value a_mod_most a_mod_span a_mod_size a_mod_whose a_mod_rangeFrom a_mod_rangeMany a_mod_begins a_mod_ends a_mod_names a_mod_nameSize a_mod_opened a_mod_number a_mod_flagsBefore a_mod_rows a_mod_parts a_mod_low a_mod_high a_mod_many a_mod_like a_mod_sets a_mod_large a_mod_named mod_thrown mod_inHand mod_n mod_at mod_fault mod_place mod_nodes mod_ranges mod_numbered mod_depth mod_flags mod_repeatable mod_behind mod_notSet mod_least mod_greatest mod_low mod_high mod_many)) [0, 1, 2, 3] rfl
          have hD := hD.sub (ws' := (w_52 cI tS a_mod a_mod_hand a_mod_text a_mod_kind a_mod_value a_mod_most a_mod_span a_mod_size a_mod_whose a_mod_rangeFrom a_mod_rangeMany a_mod_begins a_mod_ends a_mod_names a_mod_nameSize a_mod_opened a_mod_number a_mod_flagsBefore a_mod_rows a_mod_parts a_mod_low a_mod_high a_mod_many a_mod_like a_mod_sets a_mod_large a_mod_named mod_thrown mod_inHand mod_n mod_at mod_fault mod_place mod_nodes mod_ranges mod_numbered mod_depth mod_flags mod_repeatable mod_behind mod_notSet mod_least mod_greatest mod_low mod_high mod_many)) [0, 1, 2, 3] (by decide) rfl
          refine lv_if_eq (tgt := 104) hx hb d_MOD_shift_98 (by decide) (fun c_ => ?_) (fun c_ => ?_)
          · have hf := f_pos c_ hf
            refine lv_aload_n hx hb d_MOD_shift_104 rfl (lv_at hl 1 rfl) ?_
            refine lv_iconst (v := 1) hx hb d_MOD_shift_105 (by decide) ?_
            refine lv_iload hx hb d_MOD_shift_106 (lv_at hl 6 rfl) ?_
            refine lv_iload_n hx hb d_MOD_shift_108 rfl (lv_at hl 4 rfl) ?_
            refine lv_isub hx hb d_MOD_shift_109 ?_
            refine lv_iload hx hb d_MOD_shift_110 (lv_at hl 0 rfl) ?_
            refine lv_iload_n hx hb d_MOD_shift_112 rfl (lv_at hl 4 rfl) ?_
            refine lv_isub hx hb d_MOD_shift_113 ?_
            obtain ⟨x114, hg, hf⟩ := bnd hf
            have hPc := hP.sub (ws' := (w_52 cI tS a_mod a_mod_hand a_mod_text a_mod_kind a_mod_value a_mod_most a_mod_span a_mod_size a_mod_whose a_mod_rangeFrom a_mod_rangeMany a_mod_begins a_mod_ends a_mod_names a_mod_nameSize a_mod_opened a_mod_number a_mod_flagsBefore a_mod_rows a_mod_parts a_mod_low a_mod_high a_mod_many a_mod_like a_mod_sets a_mod_large a_mod_named mod_thrown mod_inHand mod_n mod_at mod_fault mod_place mod_nodes mod_ranges mod_numbered mod_depth mod_flags mod_repeatable mod_behind mod_notSet mod_least mod_greatest mod_low mod_high mod_many)) [0, 1, 2, 3] rfl
            have hDc := hD.sub (ws' := (w_52 cI tS a_mod a_mod_hand a_mod_text a_mod_kind a_mod_value a_mod_most a_mod_span a_mod_size a_mod_whose a_mod_rangeFrom a_mod_rangeMany a_mod_begins a_mod_ends a_mod_names a_mod_nameSize a_mod_opened a_mod_number a_mod_flagsBefore a_mod_rows a_mod_parts a_mod_low a_mod_high a_mod_many a_mod_like a_mod_sets a_mod_large a_mod_named mod_thrown mod_inHand mod_n mod_at mod_fault mod_place mod_nodes mod_ranges mod_numbered mod_depth mod_flags mod_repeatable mod_behind mod_notSet mod_least mod_greatest mod_low mod_high mod_many)) [0, 1, 2, 3] (by decide) rfl
            have hFc := va_free (wc := (w_52 cI tS a_mod a_mod_hand a_mod_text a_mod_kind a_mod_value a_mod_most a_mod_span a_mod_size a_mod_whose a_mod_rangeFrom a_mod_rangeMany a_mod_begins a_mod_ends a_mod_names a_mod_nameSize a_mod_opened a_mod_number a_mod_flagsBefore a_mod_rows a_mod_parts a_mod_low a_mod_high a_mod_many a_mod_like a_mod_sets a_mod_large a_mod_named mod_thrown mod_inHand mod_n mod_at mod_fault mod_place mod_nodes mod_ranges mod_numbered mod_depth mod_flags mod_repeatable mod_behind mod_notSet mod_least mod_greatest mod_low mod_high mod_many)) hD hS hA [0, 1, 2, 3] rfl
            refine cal_v (va_runV (As := [.int 1, .int (v5 - p3), .int (z0 - p3)]) (rest := []) ⟨hx, hb, hml, hown, hts⟩ (c_MOD_add l dC dI cI tS H.size a_mod a_mod_hand a_mod_text a_mod_kind a_mod_value a_mod_most a_mod_span a_mod_size a_mod_whose a_mod_rangeFrom a_mod_rangeMany a_mod_begins a_mod_ends a_mod_names a_mod_nameSize a_mod_opened a_mod_number a_mod_flagsBefore a_mod_rows a_mod_parts a_mod_low a_mod_high a_mod_many a_mod_like a_mod_sets a_mod_large a_mod_named mod_thrown mod_inHand mod_n mod_at mod_fault mod_place mod_nodes mod_ranges mod_numbered mod_depth mod_flags mod_repeatable mod_behind mod_notSet mod_least mod_greatest mod_low mod_high mod_many 1 (v5 - p3) (z0 - p3) x114 hg) ⟨callB_of 3 hts (gN tw_1224) rfl rfl rfl (hts _ tw_91) (hts _ tw_1221) hd_MOD_add ⟨Nat.le_of_ble_eq_true rfl, Nat.le_of_ble_eq_true rfl⟩, hts _ tw_1223, hts _ tw_54⟩ (pre_V hK hPc hDc hst0 hS hFc (va_recv hK hPc (ci := 12) (q0 := 0) rfl rfl)) rfl rfl hl.1 rfl (lv_room (Nat.le_of_ble_eq_true rfl)) d_MOD_shift_114 ⟨Nat.zero_le _, Nat.zero_le _⟩) hP hD hS hA [0, 1, 2, 3] [] rfl rfl (by decide) (by decide) (fun H locs hP hD hS => ?_)
            have hP := hP.sub (ws' := (w_52 cI tS a_mod a_mod_hand a_mod_text a_mod_kind a_mod_value a_mod_most a_mod_span a_mod_size a_mod_whose a_mod_rangeFrom a_mod_rangeMany a_mod_begins a_mod_ends a_mod_names a_mod_nameSize a_mod_opened a_mod_number a_mod_flagsBefore a_mod_rows a_mod_parts a_mod_low a_mod_high a_mod_many a_mod_like a_mod_sets a_mod_large a_mod_named mod_thrown mod_inHand mod_n mod_at mod_fault mod_place mod_nodes mod_ranges mod_numbered mod_depth mod_flags mod_repeatable mod_behind mod_notSet mod_least mod_greatest x114.1 x114.2.1 x114.2.2)) [0, 1, 2, 3] rfl
            have hD := hD.sub (ws' := (w_52 cI tS a_mod a_mod_hand a_mod_text a_mod_kind a_mod_value a_mod_most a_mod_span a_mod_size a_mod_whose a_mod_rangeFrom a_mod_rangeMany a_mod_begins a_mod_ends a_mod_names a_mod_nameSize a_mod_opened a_mod_number a_mod_flagsBefore a_mod_rows a_mod_parts a_mod_low a_mod_high a_mod_many a_mod_like a_mod_sets a_mod_large a_mod_named mod_thrown mod_inHand mod_n mod_at mod_fault mod_place mod_nodes mod_ranges mod_numbered mod_depth mod_flags mod_repeatable mod_behind mod_notSet mod_least mod_greatest x114.1 x114.2.1 x114.2.2)) [0, 1, 2, 3] (by decide) rfl
            refine lv_iconst (v := 1) hx hb d_MOD_shift_117 (by decide) ?_
            obtain rfl := Option.some.inj hf
            exact W.zret (v := b2i true) hx hb hr (nr_b _) (fun t ht hW => ⟨⟨_, (), rfl, rfl, ⟨by rw [ht]; exact hP, va_K.moved hW.alike hK, hD⟩⟩, hS.F ht⟩) hS.2.2 d_MOD_shift_118
          · have hf := f_neg c_ hf
            refine lv_goto (tgt := 119) hx hb d_MOD_shift_101 (by decide) ?_
            refine lv_iinc (v := v4 + 1) (lv' := [(4, .int (v4 + 1)), (6, .int z0), (0, .ref a_mod), (1, .int p1), (2, .int p2), (3, .int p3), (5, .int v5)]) hx hb d_MOD_shift_119 hl (k := 5) rfl rfl (by decide) rfl (fun ls hl => ?_)
            refine lv_goto (tgt := 3) hx hb d_MOD_shift_122 (by decide) ?_
            exact ih3 (v4 + 1) mod_low mod_high mod_many _ _ _ hP hD hS (lv_sub hl [2, 3, 4, 5, 0] rfl) hf
      have L44 : ∀ (v4 : Int32) (z0 : Int32) (mod_low : Nat → Int32) (mod_high : Nat → Int32) (mod_many : Nat → Int32) (H : Heap) (locs : List Loc) (ls : Array Slot), va_P (dC, dI) classes (w_52 cI tS a_mod a_mod_hand a_mod_text a_mod_kind a_mod_value a_mod_most a_mod_span a_mod_size a_mod_whose a_mod_rangeFrom a_mod_rangeMany a_mod_begins a_mod_ends a_mod_names a_mod_nameSize a_mod_opened a_mod_number a_mod_flagsBefore a_mod_rows a_mod_parts a_mod_low a_mod_high a_mod_many a_mod_like a_mod_sets a_mod_large a_mod_named mod_thrown mod_inHand mod_n mod_at mod_fault mod_place mod_nodes mod_ranges mod_numbered mod_depth mod_flags mod_repeatable mod_behind mod_notSet mod_least mod_greatest mod_low mod_high mod_many) H → va_D A (w_52 cI tS a_mod a_mod_hand a_mod_text a_mod_kind a_mod_value a_mod_most a_mod_span a_mod_size a_mod_whose a_mod_rangeFrom a_mod_rangeMany a_mod_begins a_mod_ends a_mod_names a_mod_nameSize a_mod_opened a_mod_number a_mod_flagsBefore a_mod_rows a_mod_parts a_mod_low a_mod_high a_mod_many a_mod_like a_mod_sets a_mod_large a_mod_named mod_thrown mod_inHand mod_n mod_at mod_fault mod_place mod_nodes mod_ranges mod_numbered mod_depth mod_flags mod_repeatable mod_behind mod_notSet mod_least mod_greatest mod_low mod_high mod_many) → va_S A s.heap H locs → lv_has ls 7 [(0, .ref a_mod), (1, .int p1), (2, .int p2), (3, .int p3), (4, .int v4)] → f_MOD_shift_L44 p1 p2 p3 (f_MOD_shift_L3 p1 p2 p3 n3) v4 z0 mod_low mod_high mod_many = some R0 → W p l e (headSpec ws_MOD_shift ({ frames := 1, cells := 0, slots := 0, locals := 30 })).room s m ([.ref a_mod, .int p1, .int p2, .int p3] : List Value).toArray below meth c H locs 0 0 (MQ below (va_Qi (fun r (_ : Unit) => r = b2i R0.1) (fun _ t => posS (dC, dI) classes [(cI, .int)] (w_52 cI tS a_mod a_mod_hand a_mod_text a_mod_kind a_mod_value a_mod_most a_mod_span a_mod_size a_mod_whose a_mod_rangeFrom a_mod_rangeMany a_mod_begins a_mod_ends a_mod_names a_mod_nameSize a_mod_opened a_mod_number a_mod_flagsBefore a_mod_rows a_mod_parts a_mod_low a_mod_high a_mod_many a_mod_like a_mod_sets a_mod_large a_mod_named mod_thrown mod_inHand mod_n mod_at mod_fault mod_place mod_nodes mod_ranges mod_numbered mod_depth mod_flags mod_repeatable mod_behind mod_notSet mod_least mod_greatest R0.2.1 R0.2.2.1 R0.2.2.2) (A) t) (A)) ([.ref a_mod, .int p1, .int p2, .int p3] : List Value).toArray s 0 0 A) (F0 m 44 ls [.int z0]) := by
        intro v4 z0 mod_low mod_high mod_many H locs ls hP hD hS hl hf
        refine lv_istore (lv' := [(5, .int z0), (0, .ref a_mod), (1, .int p1), (2, .int p2), (3, .int p3), (4, .int v4)]) hx hb d_MOD_shift_44 hl (by decide) rfl (fun ls hl => ?_)
        refine lv_aload_n hx hb d_MOD_shift_46 rfl (lv_at hl 1 rfl) ?_
        refine va_get (D := (dC, dI)) (ci := 12) (v := .ref a_mod_high) (C := R_MOD) (T := F_MOD) (N := N_MOD) hx hb hts i_MOD hown hK hP 0 rfl rfl 32 (by decide) (hts _ tw_1025) (fun _ h9 => h9) rfl d_MOD_shift_47 ?_
        refine lv_sipush (v := 600) hx hb d_MOD_shift_50 (by decide) ?_
        refine lv_iload hx hb d_MOD_shift_53 (lv_at hl 5 rfl) ?_
        refine lv_iadd hx hb d_MOD_shift_55 ?_
        obtain ⟨hin, hf⟩ := grd_in hf
        refine va_iald hx hb hK hP 2 0 rfl rfl hin d_MOD_shift_56 ?_
        refine lv_iload_n hx hb d_MOD_shift_57 rfl (lv_at hl 3 rfl) ?_
        refine lv_icmp_ge (tgt := 75) hx hb d_MOD_shift_58 (by decide) (fun c_ => ?_) (fun c_ => ?_)
        · have hf := f_pos c_ hf
          refine lv_iload_n hx hb d_MOD_shift_75 rfl (lv_at hl 3 rfl) ?_
          exact L76 v4 z0 p2 mod_low mod_high mod_many _ _ _ hP hD hS (lv_sub hl [1, 2, 3, 4, 5, 0] rfl) hf
        · have hf := f_neg c_ hf
          refine lv_aload_n hx hb d_MOD_shift_61 rfl (lv_at hl 1 rfl) ?_
          refine va_get (D := (dC, dI)) (ci := 12) (v := .ref a_mod_high) (C := R_MOD) (T := F_MOD) (N := N_MOD) hx hb hts i_MOD hown hK hP 0 rfl rfl 32 (by decide) (hts _ tw_1025) (fun _ h9 => h9) rfl d_MOD_shift_62 ?_
          refine lv_sipush (v := 600) hx hb d_MOD_shift_65 (by decide) ?_
          refine lv_iload hx hb d_MOD_shift_68 (lv_at hl 5 rfl) ?_
          refine lv_iadd hx hb d_MOD_shift_70 ?_
          obtain ⟨hin, hf⟩ := grd_in hf
          refine va_iald hx hb hK hP 2 0 rfl rfl hin d_MOD_shift_71 ?_
          refine lv_goto (tgt := 76) hx hb d_MOD_shift_72 (by decide) ?_
          exact L76 v4 z0 (mod_high (600 + v4).toNatClampNeg) mod_low mod_high mod_many _ _ _ hP hD hS (lv_sub hl [1, 2, 3, 4, 5, 0] rfl) hf
      intro v4 mod_low mod_high mod_many H locs ls hP hD hS hl hf
      have hf : f_MOD_shift_B3 p1 p2 p3 (f_MOD_shift_L3 p1 p2 p3 n3) v4 mod_low mod_high mod_many = some R0 := hf
      refine lv_iload hx hb d_MOD_shift_3 (lv_at hl 4 rfl) ?_
      refine lv_aload_n hx hb d_MOD_shift_5 rfl (lv_at hl 0 rfl) ?_
      refine va_get (D := (dC, dI)) (ci := 12) (v := .ref a_mod_many) (C := R_MOD) (T := F_MOD) (N := N_MOD) hx hb hts i_MOD hown hK hP 0 rfl rfl 33 (by decide) (hts _ tw_1026) (fun _ h9 => h9) rfl d_MOD_shift_6 ?_
      refine lv_iconst (v := 1) hx hb d_MOD_shift_9 (by decide) ?_
      obtain ⟨hin, hf⟩ := grd_in hf
      refine va_iald hx hb hK hP 3 0 rfl rfl hin d_MOD_shift_10 ?_
      refine lv_icmp_ge (tgt := 125) hx hb d_MOD_shift_11 (by decide) (fun c_ => ?_) (fun c_ => ?_)
      · have hf := f_pos c_ hf
        refine lv_iconst (v := 0) hx hb d_MOD_shift_125 (by decide) ?_
        obtain rfl := Option.some.inj hf
        exact W.zret (v := b2i false) hx hb hr (nr_b _) (fun t ht hW => ⟨⟨_, (), rfl, rfl, ⟨by rw [ht]; exact hP, va_K.moved hW.alike hK, hD⟩⟩, hS.F ht⟩) hS.2.2 d_MOD_shift_126
      · have hf := f_neg c_ hf
        refine lv_aload_n hx hb d_MOD_shift_14 rfl (lv_at hl 0 rfl) ?_
        refine va_get (D := (dC, dI)) (ci := 12) (v := .ref a_mod_low) (C := R_MOD) (T := F_MOD) (N := N_MOD) hx hb hts i_MOD hown hK hP 0 rfl rfl 31 (by decide) (hts _ tw_1024) (fun _ h9 => h9) rfl d_MOD_shift_15 ?_
        refine lv_sipush (v := 600) hx hb d_MOD_shift_18 (by decide) ?_
        refine lv_iload hx hb d_MOD_shift_21 (lv_at hl 4 rfl) ?_
        refine lv_iadd hx hb d_MOD_shift_23 ?_
        obtain ⟨hin, hf⟩ := grd_in hf
        refine va_iald hx hb hK hP 1 0 rfl rfl hin d_MOD_shift_24 ?_
        refine lv_iload_n hx hb d_MOD_shift_25 rfl (lv_at hl 1 rfl) ?_
        refine lv_icmp_le (tgt := 43) hx hb d_MOD_shift_26 (by decide) (fun c_ => ?_) (fun c_ => ?_)
        · have hf := f_pos c_ hf
          refine lv_iload_n hx hb d_MOD_shift_43 rfl (lv_at hl 1 rfl) ?_
          exact L44 v4 p1 mod_low mod_high mod_many _ _ _ hP hD hS (lv_sub hl [0, 1, 2, 3, 4] rfl) hf
        · have hf := f_neg c_ hf
          refine lv_aload_n hx hb d_MOD_shift_29 rfl (lv_at hl 0 rfl) ?_
          refine va_get (D := (dC, dI)) (ci := 12) (v := .ref a_mod_low) (C := R_MOD) (T := F_MOD) (N := N_MOD) hx hb hts i_MOD hown hK hP 0 rfl rfl 31 (by decide) (hts _ tw_1024) (fun _ h9 => h9) rfl d_MOD_shift_30 ?_
          refine lv_sipush (v := 600) hx hb d_MOD_shift_33 (by decide) ?_
          refine lv_iload hx hb d_MOD_shift_36 (lv_at hl 4 rfl) ?_
          refine lv_iadd hx hb d_MOD_shift_38 ?_
          obtain ⟨hin, hf⟩ := grd_in hf
          refine va_iald hx hb hK hP 1 0 rfl rfl hin d_MOD_shift_39 ?_
          refine lv_goto (tgt := 44) hx hb d_MOD_shift_40 (by decide) ?_
          exact L44 v4 (mod_low (600 + v4).toNatClampNeg) mod_low mod_high mod_many _ _ _ hP hD hS (lv_sub hl [0, 1, 2, 3, 4] rfl) hf
  refine lv_iconst (v := 0) hx hb d_MOD_shift_0 (by decide) ?_
  refine lv_istore (lv' := [(4, .int 0), (0, .ref a_mod), (1, .int p1), (2, .int p2), (3, .int p3)]) hx hb d_MOD_shift_1 hl (by decide) rfl (fun ls hl => ?_)
  exact L3 FU 0 mod_low mod_high mod_many _ _ _ hP hD hS (lv_sub hl [1, 2, 3, 4, 0] rfl) hf
