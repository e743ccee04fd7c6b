def f_REP_hasBadTimes (rep_least : Int32) (rep_most : Int32) : Option Bool :=
  if 100 < rep_least then some true else (if 100 < rep_most then some true else (if rep_most = (-1) then some false else (if rep_least ≤ rep_most then some false else some true)))
set_option maxRecDepth 100000 in
set_option maxHeartbeats 4000000 in
theorem c_REP_hasBadTimes (l : Launch) (dC : Nat → ClassId) (dI : Nat → Nat → Nat) (cI : ClassId) (tS : Nat → Nat) (sz : Nat) (a_rep a_pat : Nat) (rep_least : Int32) (rep_most : Int32) (rep_marked : Bool) (rep_after : Int32) (rep_number : Int32) (R0 : Bool) (hf : f_REP_hasBadTimes rep_least rep_most = some R0) : Met l y_REP_hasBadTimes ws_REP_hasBadTimes ({ frames := 0, cells := 0, slots := 0, locals := 0 }) (va_Pc [.ref a_rep] (preS (dC, dI) classes [(cI, .int)] tS (w_35 cI tS a_rep a_pat rep_least rep_most rep_marked rep_after rep_number) sz)) (va_Qi (fun r (_ : Unit) => r = b2i R0) (fun _ t => posS (dC, dI) classes [(cI, .int)] (w_35 cI tS a_rep a_pat rep_least rep_most rep_marked rep_after rep_number) (va_A (w_35 cI tS a_rep a_pat rep_least rep_most rep_marked rep_after rep_number) sz) t) (va_A (w_35 cI tS a_rep a_pat rep_least rep_most rep_marked rep_after rep_number) sz)) 0 0 (va_A (w_35 cI tS a_rep a_pat rep_least rep_most rep_marked rep_after rep_number) sz) := by
  refine Met.ofW (cc := b_REP_hasBadTimes) (maxL := 1) (ret := (some .boolean)) (by decide) rfl ?_
  intro p e s m args below meth c s₁ B hml hv
  obtain ⟨rfl, hsz, hP, hK, hD0, hst0⟩ := hv
  have hx := B.exec
  have hb := B.bytes
  have hr := B.returns
  have hts0 := atoms_spec (ws := ws_REP_hasBadTimes) B.pre
  have hts : ∀ w ∈ GW, w.before _ s = true := fun w h => hts0 w (List.mem_cons_of_mem _ h)
  have hown : s.vm.findClass R_REP = some m.cls := findClass_of_methodNamed B.named
  have hlocks := B.notSynchronized
  subst hsz
  have hD := hD0.self (sz := s.heap.size)
  generalize hAe : va_A (w_35 cI tS a_rep a_pat rep_least rep_most rep_marked rep_after rep_number) s.heap.size = A at hD hst0 ⊢
  have hA : ∀ q : Nat, s.heap.size ≤ q → A q := fun q h => by rw [← hAe]; exact Or.inr h
  have hS : va_S A s.heap s.heap [] := va_S.rf
  have hl := lv_entry ([.ref a_rep]) (n := 1) (Nat.le_of_ble_eq_true rfl)
  rw [lg_entry_eq]
  generalize (lg_sl ([.ref a_rep]) ++ List.replicate (1 - (lg_sl ([.ref a_rep])).length) Slot.unset).toArray = ls at hl ⊢
  have hl : lv_has ls 1 [(0, .ref a_rep)] := hl
  refine lv_aload_n hx hb d_REP_hasBadTimes_0 rfl (lv_at hl 0 rfl) ?_
  refine va_get (D := (dC, dI)) (ci := 9) (v := .int rep_least) (C := R_REP) (T := F_REP) (N := N_REP) hx hb hts i_REP hown hK hP 0 rfl rfl 1 (by decide) (hts _ tw_363) (fun _ h9 => h9) rfl d_REP_hasBadTimes_1 ?_
  refine lv_bipush (v := 100) hx hb d_REP_hasBadTimes_4 (by decide) ?_
  refine lv_icmp_gt (tgt := 37) hx hb d_REP_hasBadTimes_6 (by decide) (fun c_ => ?_) (fun c_ => ?_)
  · have hf := f_pos c_ hf
    refine lv_iconst (v := 1) hx hb d_REP_hasBadTimes_37 (by decide) ?_
    refine lv_goto (tgt := 42) hx hb d_REP_hasBadTimes_38 (by decide) ?_
    obtain rfl := Option.some.inj hf
    exact W.zret (v := b2i true) hx hb hr (nr_b _) (fun t ht hW => ⟨⟨_, (), rfl, rfl, ⟨by rw [ht]; exact hP, va_K.moved hW.alike hK, hD⟩⟩, hS.F ht⟩) hS.2.2 d_REP_hasBadTimes_42
  · have hf := f_neg c_ hf
    refine lv_aload_n hx hb d_REP_hasBadTimes_9 rfl (lv_at hl 0 rfl) ?_
    refine va_get (D := (dC, dI)) (ci := 9) (v := .int rep_most) (C := R_REP) (T := F_REP) (N := N_REP) hx hb hts i_REP hown hK hP 0 rfl rfl 2 (by decide) (hts _ tw_364) (fun _ h9 => h9) rfl d_REP_hasBadTimes_10 ?_
    refine lv_bipush (v := 100) hx hb d_REP_hasBadTimes_13 (by decide) ?_
    refine lv_icmp_gt (tgt := 37) hx hb d_REP_hasBadTimes_15 (by decide) (fun c_ => ?_) (fun c_ => ?_)
    · have hf := f_pos c_ hf
      refine lv_iconst (v := 1) hx hb d_REP_hasBadTimes_37 (by decide) ?_
      refine lv_goto (tgt := 42) hx hb d_REP_hasBadTimes_38 (by decide) ?_
      obtain rfl := Option.some.inj hf
      exact W.zret (v := b2i true) hx hb hr (nr_b _) (fun t ht hW => ⟨⟨_, (), rfl, rfl, ⟨by rw [ht]; exact hP, va_K.moved hW.alike hK, hD⟩⟩, hS.F ht⟩) hS.2.2 d_REP_hasBadTimes_42
    · have hf := f_neg c_ hf
      refine lv_aload_n hx hb d_REP_hasBadTimes_18 rfl (lv_at hl 0 rfl) ?_
      refine va_get (D := (dC, dI)) (ci := 9) (v := .int rep_most) (C := R_REP) (T := F_REP) (N := N_REP) hx hb hts i_REP hown hK hP 0 rfl rfl 2 (by decide) (hts _ tw_364) (fun _ h9 => h9) rfl d_REP_hasBadTimes_19 ?_
      refine lv_iconst (v := (-1)) hx hb d_REP_hasBadTimes_22 (by decide) ?_
      refine lv_icmp_eq (tgt := 41) hx hb d_REP_hasBadTimes_23 (by decide) (fun c_ => ?_) (fun c_ => ?_)
      · have hf := f_pos c_ hf
        refine lv_iconst (v := 0) hx hb d_REP_hasBadTimes_41 (by decide) ?_
        obtain rfl := Option.some.inj hf
        exact W.zret (v := b2i false) hx hb hr (nr_b _) (fun t ht hW => ⟨⟨_, (), rfl, rfl, ⟨by rw [ht]; exact hP, va_K.moved hW.alike hK, hD⟩⟩, hS.F ht⟩) hS.2.2 d_REP_hasBadTimes_42
      · have hf := f_neg c_ hf
        refine lv_aload_n hx hb d_REP_hasBadTimes_26 rfl (lv_at hl 0 rfl) ?_
        refine va_get (D := (dC, dI)) (ci := 9) (v := .int rep_least) (C := R_REP) (T := F_REP) (N := N_REP) hx hb hts i_REP hown hK hP 0 rfl rfl 1 (by decide) (hts _ tw_363) (fun _ h9 => h9) rfl d_REP_hasBadTimes_27 ?_
        refine lv_aload_n hx hb d_REP_hasBadTimes_30 rfl (lv_at hl 0 rfl) ?_
        refine va_get (D := (dC, dI)) (ci := 9) (v := .int rep_most) (C := R_REP) (T := F_REP) (N := N_REP) hx hb hts i_REP hown hK hP 0 rfl rfl 2 (by decide) (hts _ tw_364) (fun _ h9 => h9) rfl d_REP_hasBadTimes_31 ?_
        refine lv_icmp_le (tgt := 41) hx hb d_REP_hasBadTimes_34 (by decide) (fun c_ => ?_) (fun c_ => ?_)
        · have hf := f_pos c_ hf
          refine lv_iconst (v := 0) hx hb d_REP_hasBadTimes_41 (by decide) ?_
          obtain rfl := Option.some.inj hf
          exact W.zret (v := b2i false) hx hb hr (nr_b _) (fun t ht hW => ⟨⟨_, (), rfl, rfl, ⟨by rw [ht]; exact hP, va_K.moved hW.alike hK, hD⟩⟩, hS.F ht⟩) hS.2.2 d_REP_hasBadTimes_42
        · have hf := f_neg c_ hf
          refine lv_iconst (v := 1) hx hb d_REP_hasBadTimes_37 (by decide) ?_
          refine lv_goto (tgt := 42) hx hb d_REP_hasBadTimes_38 (by decide) ?_
          obtain rfl := Option.some.inj hf
          exact W.zret (v := b2i true) hx hb hr (nr_b _) (fun t ht hW => ⟨⟨_, (), rfl, rfl, ⟨by rw [ht]; exact hP, va_K.moved hW.alike hK, hD⟩⟩, hS.F ht⟩) hS.2.2 d_REP_hasBadTimes_42
def f_REP_sizeOver (rep_least : Int32) (rep_most : Int32) (p1 : Int32) : Option Int32 :=
  if rep_most = (-1) then some (((rep_least * p1) + p1) + 1) else some (((rep_most * p1) + rep_most) - rep_least)
set_option maxRecDepth 100000 in
set_option maxHeartbeats 4000000 in
theorem c_REP_sizeOver (l : Launch) (dC : Nat → ClassId) (dI : Nat → Nat → Nat) (cI : ClassId) (tS : Nat → Nat) (sz : Nat) (a_rep a_pat : Nat) (rep_least : Int32) (rep_most : Int32) (rep_marked : Bool) (rep_after : Int32) (rep_number : Int32) (p1 : Int32) (R0 : Int32) (hf : f_REP_sizeOver rep_least rep_most p1 = some R0) : Met l y_REP_sizeOver ws_REP_sizeOver ({ frames := 0, cells := 0, slots := 0, locals := 0 }) (va_Pc [.ref a_rep, .int p1] (preS (dC, dI) classes [(cI, .int)] tS (w_35 cI tS a_rep a_pat rep_least rep_most rep_marked rep_after rep_number) sz)) (va_Qi (fun r (_ : Unit) => r = R0) (fun _ t => posS (dC, dI) classes [(cI, .int)] (w_35 cI tS a_rep a_pat rep_least rep_most rep_marked rep_after rep_number) (va_A (w_35 cI tS a_rep a_pat rep_least rep_most rep_marked rep_after rep_number) sz) t) (va_A (w_35 cI tS a_rep a_pat rep_least rep_most rep_marked rep_after rep_number) sz)) 0 0 (va_A (w_35 cI tS a_rep a_pat rep_least rep_most rep_marked rep_after rep_number) sz) := by
  refine Met.ofW (cc := b_REP_sizeOver) (maxL := 2) (ret := (some .int)) (by decide) rfl ?_
  intro p e s m args below meth c s₁ B hml hv
  obtain ⟨rfl, hsz, hP, hK, hD0, hst0⟩ := hv
  have hx := B.exec
  have hb := B.bytes
  have hr := B.returns
  have hts0 := atoms_spec (ws := ws_REP_sizeOver) B.pre
  have hts : ∀ w ∈ GW, w.before _ s = true := fun w h => hts0 w (List.mem_cons_of_mem _ h)
  have hown : s.vm.findClass R_REP = some m.cls := findClass_of_methodNamed B.named
  have hlocks := B.notSynchronized
  subst hsz
  have hD := hD0.self (sz := s.heap.size)
  generalize hAe : va_A (w_35 cI tS a_rep a_pat rep_least rep_most rep_marked rep_after rep_number) s.heap.size = A at hD hst0 ⊢
  have hA : ∀ q : Nat, s.heap.size ≤ q → A q := fun q h => by rw [← hAe]; exact Or.inr h
  have hS : va_S A s.heap s.heap [] := va_S.rf
  have hl := lv_entry ([.ref a_rep, .int p1]) (n := 2) (Nat.le_of_ble_eq_true rfl)
  rw [lg_entry_eq]
  generalize (lg_sl ([.ref a_rep, .int p1]) ++ List.replicate (2 - (lg_sl ([.ref a_rep, .int p1])).length) Slot.unset).toArray = ls at hl ⊢
  have hl : lv_has ls 2 [(0, .ref a_rep), (1, .int p1)] := hl
  refine lv_aload_n hx hb d_REP_sizeOver_0 rfl (lv_at hl 0 rfl) ?_
  refine va_get (D := (dC, dI)) (ci := 9) (v := .int rep_most) (C := R_REP) (T := F_REP) (N := N_REP) hx hb hts i_REP hown hK hP 0 rfl rfl 2 (by decide) (hts _ tw_364) (fun _ h9 => h9) rfl d_REP_sizeOver_1 ?_
  refine lv_iconst (v := (-1)) hx hb d_REP_sizeOver_4 (by decide) ?_
  refine lv_icmp_eq (tgt := 25) hx hb d_REP_sizeOver_5 (by decide) (fun c_ => ?_) (fun c_ => ?_)
  · have hf := f_pos c_ hf
    refine lv_aload_n hx hb d_REP_sizeOver_25 rfl (lv_at hl 0 rfl) ?_
    refine va_get (D := (dC, dI)) (ci := 9) (v := .int rep_least) (C := R_REP) (T := F_REP) (N := N_REP) hx hb hts i_REP hown hK hP 0 rfl rfl 1 (by decide) (hts _ tw_363) (fun _ h9 => h9) rfl d_REP_sizeOver_26 ?_
    refine lv_iload_n hx hb d_REP_sizeOver_29 rfl (lv_at hl 1 rfl) ?_
    refine lv_imul hx hb d_REP_sizeOver_30 ?_
    refine lv_iload_n hx hb d_REP_sizeOver_31 rfl (lv_at hl 1 rfl) ?_
    refine lv_iadd hx hb d_REP_sizeOver_32 ?_
    refine lv_iconst (v := 1) hx hb d_REP_sizeOver_33 (by decide) ?_
    refine lv_iadd hx hb d_REP_sizeOver_34 ?_
    obtain rfl := Option.some.inj hf
    exact W.iret (v := ((rep_least * p1) + p1) + 1) hx hb hr (fun t ht hW => ⟨⟨_, (), rfl, rfl, ⟨by rw [ht]; exact hP, va_K.moved hW.alike hK, hD⟩⟩, hS.F ht⟩) hS.2.2 d_REP_sizeOver_35
  · have hf := f_neg c_ hf
    refine lv_aload_n hx hb d_REP_sizeOver_8 rfl (lv_at hl 0 rfl) ?_
    refine va_get (D := (dC, dI)) (ci := 9) (v := .int rep_most) (C := R_REP) (T := F_REP) (N := N_REP) hx hb hts i_REP hown hK hP 0 rfl rfl 2 (by decide) (hts _ tw_364) (fun _ h9 => h9) rfl d_REP_sizeOver_9 ?_
    refine lv_iload_n hx hb d_REP_sizeOver_12 rfl (lv_at hl 1 rfl) ?_
    refine lv_imul hx hb d_REP_sizeOver_13 ?_
    refine lv_aload_n hx hb d_REP_sizeOver_14 rfl (lv_at hl 0 rfl) ?_
    refine va_get (D := (dC, dI)) (ci := 9) (v := .int rep_most) (C := R_REP) (T := F_REP) (N := N_REP) hx hb hts i_REP hown hK hP 0 rfl rfl 2 (by decide) (hts _ tw_364) (fun _ h9 => h9) rfl d_REP_sizeOver_15 ?_
    refine lv_iadd hx hb d_REP_sizeOver_18 ?_
    refine lv_aload_n hx hb d_REP_sizeOver_19 rfl (lv_at hl 0 rfl) ?_
    refine va_get (D := (dC, dI)) (ci := 9) (v := .int rep_least) (C := R_REP) (T := F_REP) (N := N_REP) hx hb hts i_REP hown hK hP 0 rfl rfl 1 (by decide) (hts _ tw_363) (fun _ h9 => h9) rfl d_REP_sizeOver_20 ?_
    refine lv_isub hx hb d_REP_sizeOver_23 ?_
    obtain rfl := Option.some.inj hf
    exact W.iret (v := ((rep_most * p1) + rep_most) - rep_least) hx hb hr (fun t ht hW => ⟨⟨_, (), rfl, rfl, ⟨by rw [ht]; exact hP, va_K.moved hW.alike hK, hD⟩⟩, hS.F ht⟩) hS.2.2 d_REP_sizeOver_24
def f_RDR_addRepeat_L68 (tre_ranges : Int32) (rep_least : Int32) (rep_most : Int32) (rep_marked : Bool) (rep_after : Int32) (rdr_flags : Int32) (z0 : Int32) (mis_number : Int32) (mis_place : Int32) (tre_nodes : Int32) (tre_waits : Int32) (rdr_place : Int32) (rdr_repeatable : Bool) (tre_kinds : Nat → Int32) (tre_values : Nat → Int32) (tre_mosts : Nat → Int32) (tre_owners : Nat → Int32) (tre_sizes : Nat → Int32) (tre_firstRanges : Nat → Int32) (tre_rangeCounts : Nat → Int32) (tre_waiting : Nat → Int32) : Option (Int32 × Int32 × Int32 × Int32 × Int32 × Bool × (Nat → Int32) × (Nat → Int32) × (Nat → Int32) × (Nat → Int32) × (Nat → Int32) × (Nat → Int32) × (Nat → Int32) × (Nat → Int32)) :=
  bnd_ (f_TRE_waitingSize tre_waits tre_sizes tre_waiting 1) (fun x78 => bnd_ (f_REP_sizeOver rep_least rep_most x78) (fun x81 => bnd_ (f_TRE_addOver tre_nodes tre_ranges tre_waits tre_kinds tre_values tre_mosts tre_owners tre_sizes tre_firstRanges tre_rangeCounts tre_waiting 1 z0 rep_least rep_most x81) (fun x106 => some (mis_number, mis_place, x106.1, x106.2.1, rep_after, false, x106.2.2.1, x106.2.2.2.1, x106.2.2.2.2.1, x106.2.2.2.2.2.1, x106.2.2.2.2.2.2.1, x106.2.2.2.2.2.2.2.1, x106.2.2.2.2.2.2.2.2.1, x106.2.2.2.2.2.2.2.2.2))))
def f_RDR_addRepeat (mis_number : Int32) (mis_place : Int32) (tre_nodes : Int32) (tre_ranges : Int32) (tre_waits : Int32) (rep_least : Int32) (rep_most : Int32) (rep_marked : Bool) (rep_after : Int32) (rdr_place : Int32) (rdr_flags : Int32) (rdr_repeatable : Bool) (tre_kinds : Nat → Int32) (tre_values : Nat → Int32) (tre_mosts : Nat → Int32) (tre_owners : Nat → Int32) (tre_sizes : Nat → Int32) (tre_firstRanges : Nat → Int32) (tre_rangeCounts : Nat → Int32) (tre_waiting : Nat → Int32) : Option (Int32 × Int32 × Int32 × Int32 × Int32 × Bool × (Nat → Int32) × (Nat → Int32) × (Nat → Int32) × (Nat → Int32) × (Nat → Int32) × (Nat → Int32) × (Nat → Int32) × (Nat → Int32)) :=
  if (b2i rdr_repeatable) = 0 then bnd_ (f_MIS_tell mis_number mis_place 8 rdr_place) (fun x17 => some (x17.1, x17.2, tre_nodes, tre_waits, rdr_place, rdr_repeatable, tre_kinds, tre_values, tre_mosts, tre_owners, tre_sizes, tre_firstRanges, tre_rangeCounts, tre_waiting)) else bnd_ (f_REP_hasBadTimes rep_least rep_most) (fun x25 => if (b2i x25) = 0 then bnd_ (f_RDR_isOn rdr_flags 8) (fun x55 => if (b2i rep_marked) = (b2i x55) then f_RDR_addRepeat_L68 tre_ranges rep_least rep_most rep_marked rep_after rdr_flags 7 mis_number mis_place tre_nodes tre_waits rdr_place rdr_repeatable tre_kinds tre_values tre_mosts tre_owners tre_sizes tre_firstRanges tre_rangeCounts tre_waiting else f_RDR_addRepeat_L68 tre_ranges rep_least rep_most rep_marked rep_after rdr_flags 8 mis_number mis_place tre_nodes tre_waits rdr_place rdr_repeatable tre_kinds tre_values tre_mosts tre_owners tre_sizes tre_firstRanges tre_rangeCounts tre_waiting) else bnd_ (f_MIS_tell mis_number mis_place 9 rdr_place) (fun x41 => some (x41.1, x41.2, tre_nodes, tre_waits, rdr_place, rdr_repeatable, tre_kinds, tre_values, tre_mosts, tre_owners, tre_sizes, tre_firstRanges, tre_rangeCounts, tre_waiting)))
set_option maxRecDepth 100000 in
set_option maxHeartbeats 4000000 in
theorem c_RDR_addRepeat (l : Launch) (dC : Nat → ClassId) (dI : Nat → Nat → Nat) (cI : ClassId) (tS : Nat → Nat) (sz : Nat) (a_mis a_tre a_tre_kinds a_tre_values a_tre_mosts a_tre_owners a_tre_sizes a_tre_firstRanges a_tre_rangeCounts a_tre_begins a_tre_ends a_tre_waiting a_rep a_pat a_rdr a_grp a_opn a_set a_esc a_cls a_opg : Nat) (mis_number : Int32) (mis_place : Int32) (tre_nodes : Int32) (tre_ranges : Int32) (tre_waits : Int32) (rep_least : Int32) (rep_most : Int32) (rep_marked : Bool) (rep_after : Int32) (rep_number : Int32) (rdr_place : Int32) (rdr_flags : Int32) (rdr_repeatable : Bool) (tre_kinds : Nat → Int32) (tre_values : Nat → Int32) (tre_mosts : Nat → Int32) (tre_owners : Nat → Int32) (tre_sizes : Nat → Int32) (tre_firstRanges : Nat → Int32) (tre_rangeCounts : Nat → Int32) (tre_waiting : Nat → Int32) (R0 : Int32 × Int32 × Int32 × Int32 × Int32 × Bool × (Nat → Int32) × (Nat → Int32) × (Nat → Int32) × (Nat → Int32) × (Nat → Int32) × (Nat → Int32) × (Nat → Int32) × (Nat → Int32)) (hf : f_RDR_addRepeat mis_number mis_place tre_nodes tre_ranges tre_waits rep_least rep_most rep_marked rep_after rdr_place rdr_flags rdr_repeatable tre_kinds tre_values tre_mosts tre_owners tre_sizes tre_firstRanges tre_rangeCounts tre_waiting = some R0) : Met l y_RDR_addRepeat ws_RDR_addRepeat ({ frames := 2, cells := 0, slots := 0, locals := 47 }) (va_Pc [.ref a_rdr] (preS (dC, dI) classes [(cI, .int)] tS (w_36 cI tS a_mis a_tre a_tre_kinds a_tre_values a_tre_mosts a_tre_owners a_tre_sizes a_tre_firstRanges a_tre_rangeCounts a_tre_begins a_tre_ends a_tre_waiting a_rep a_pat a_rdr a_grp a_opn a_set a_esc a_cls a_opg mis_number mis_place tre_nodes tre_ranges tre_waits rep_least rep_most rep_marked rep_after rep_number rdr_place rdr_flags rdr_repeatable tre_kinds tre_values tre_mosts tre_owners tre_sizes tre_firstRanges tre_rangeCounts tre_waiting) sz)) (va_Qv (fun _ : Unit => True) (fun _ t => posS (dC, dI) classes [(cI, .int)] (w_36 cI tS a_mis a_tre a_tre_kinds a_tre_values a_tre_mosts a_tre_owners a_tre_sizes a_tre_firstRanges a_tre_rangeCounts a_tre_begins a_tre_ends a_tre_waiting a_rep a_pat a_rdr a_grp a_opn a_set a_esc a_cls a_opg R0.1 R0.2.1 R0.2.2.1 tre_ranges R0.2.2.2.1 rep_least rep_most rep_marked rep_after rep_number R0.2.2.2.2.1 rdr_flags R0.2.2.2.2.2.1 R0.2.2.2.2.2.2.1 R0.2.2.2.2.2.2.2.1 R0.2.2.2.2.2.2.2.2.1 R0.2.2.2.2.2.2.2.2.2.1 R0.2.2.2.2.2.2.2.2.2.2.1 R0.2.2.2.2.2.2.2.2.2.2.2.1 R0.2.2.2.2.2.2.2.2.2.2.2.2.1 R0.2.2.2.2.2.2.2.2.2.2.2.2.2) (va_A (w_36 cI tS a_mis a_tre a_tre_kinds a_tre_values a_tre_mosts a_tre_owners a_tre_sizes a_tre_firstRanges a_tre_rangeCounts a_tre_begins a_tre_ends a_tre_waiting a_rep a_pat a_rdr a_grp a_opn a_set a_esc a_cls a_opg mis_number mis_place tre_nodes tre_ranges tre_waits rep_least rep_most rep_marked rep_after rep_number rdr_place rdr_flags rdr_repeatable tre_kinds tre_values tre_mosts tre_owners tre_sizes tre_firstRanges tre_rangeCounts tre_waiting) sz) t) (va_A (w_36 cI tS a_mis a_tre a_tre_kinds a_tre_values a_tre_mosts a_tre_owners a_tre_sizes a_tre_firstRanges a_tre_rangeCounts a_tre_begins a_tre_ends a_tre_waiting a_rep a_pat a_rdr a_grp a_opn a_set a_esc a_cls a_opg mis_number mis_place tre_nodes tre_ranges tre_waits rep_least rep_most rep_marked rep_after rep_number rdr_place rdr_flags rdr_repeatable tre_kinds tre_values tre_mosts tre_owners tre_sizes tre_firstRanges tre_rangeCounts tre_waiting) sz)) 0 0 (va_A (w_36 cI tS a_mis a_tre a_tre_kinds a_tre_values a_tre_mosts a_tre_owners a_tre_sizes a_tre_firstRanges a_tre_rangeCounts a_tre_begins a_tre_ends a_tre_waiting a_rep a_pat a_rdr a_grp a_opn a_set a_esc a_cls a_opg mis_number mis_place tre_nodes tre_ranges tre_waits rep_least rep_most rep_marked rep_after rep_number rdr_place rdr_flags rdr_repeatable tre_kinds tre_values tre_mosts tre_owners tre_sizes tre_firstRanges tre_rangeCounts tre_waiting) sz) := by
  refine Met.ofW (cc := b_RDR_addRepeat) (maxL := 3) (ret := none) (by decide) rfl ?_
  intro p e s m args below meth c s₁ B hml hv
  obtain ⟨rfl, hsz, hP, hK, hD0, hst0⟩ := hv
  have hx := B.exec
  have hb := B.bytes
  have hr := B.returns
  have hts0 := atoms_spec (ws := ws_RDR_addRepeat) B.pre
  have hts : ∀ w ∈ GW, w.before _ s = true := fun w h => hts0 w (List.mem_cons_of_mem _ h)
  have hown : s.vm.findClass R_RDR = some m.cls := findClass_of_methodNamed B.named
  have hlocks := B.notSynchronized
  subst hsz
  have hD := hD0.self (sz := s.heap.size)
  generalize hAe : va_A (w_36 cI tS a_mis a_tre a_tre_kinds a_tre_values a_tre_mosts a_tre_owners a_tre_sizes a_tre_firstRanges a_tre_rangeCounts a_tre_begins a_tre_ends a_tre_waiting a_rep a_pat a_rdr a_grp a_opn a_set a_esc a_cls a_opg mis_number mis_place tre_nodes tre_ranges tre_waits rep_least rep_most rep_marked rep_after rep_number rdr_place rdr_flags rdr_repeatable tre_kinds tre_values tre_mosts tre_owners tre_sizes tre_firstRanges tre_rangeCounts tre_waiting) s.heap.size = A at hD hst0 ⊢
  have hA : ∀ q : Nat, s.heap.size ≤ q → A q := fun q h => by rw [← hAe]; exact Or.inr h
  have hS : va_S A s.heap s.heap [] := va_S.rf
  have hl := lv_entry ([.ref a_rdr]) (n := 3) (Nat.le_of_ble_eq_true rfl)
  rw [lg_entry_eq]
  generalize (lg_sl ([.ref a_rdr]) ++ List.replicate (3 - (lg_sl ([.ref a_rdr])).length) Slot.unset).toArray = ls at hl ⊢
  have hl : lv_has ls 3 [(0, .ref a_rdr)] := hl
  have L68 : ∀ (z0 : Int32) (mis_number : Int32) (mis_place : Int32) (tre_nodes : Int32) (tre_waits : Int32) (rdr_place : Int32) (rdr_repeatable : Bool) (tre_kinds : Nat → Int32) (tre_values : Nat → Int32) (tre_mosts : Nat → Int32) (tre_owners : Nat → Int32) (tre_sizes : Nat → Int32) (tre_firstRanges : Nat → Int32) (tre_rangeCounts : Nat → Int32) (tre_waiting : Nat → Int32) (H : Heap) (locs : List Loc) (ls : Array Slot), va_P (dC, dI) classes (w_36 cI tS a_mis a_tre a_tre_kinds a_tre_values a_tre_mosts a_tre_owners a_tre_sizes a_tre_firstRanges a_tre_rangeCounts a_tre_begins a_tre_ends a_tre_waiting a_rep a_pat a_rdr a_grp a_opn a_set a_esc a_cls a_opg mis_number mis_place tre_nodes tre_ranges tre_waits rep_least rep_most rep_marked rep_after rep_number rdr_place rdr_flags rdr_repeatable tre_kinds tre_values tre_mosts tre_owners tre_sizes tre_firstRanges tre_rangeCounts tre_waiting) H → va_D A (w_36 cI tS a_mis a_tre a_tre_kinds a_tre_values a_tre_mosts a_tre_owners a_tre_sizes a_tre_firstRanges a_tre_rangeCounts a_tre_begins a_tre_ends a_tre_waiting a_rep a_pat a_rdr a_grp a_opn a_set a_esc a_cls a_opg mis_number mis_place tre_nodes tre_ranges tre_waits rep_least rep_most rep_marked rep_after rep_number rdr_place rdr_flags rdr_repeatable tre_kinds tre_values tre_mosts tre_owners tre_sizes tre_firstRanges tre_rangeCounts tre_waiting) → va_S A s.heap H locs → lv_has ls 3 [(0, .ref a_rdr)] → f_RDR_addRepeat_L68 tre_ranges rep_least rep_most rep_marked rep_after rdr_flags z0 mis_number mis_place tre_nodes tre_waits rdr_place rdr_repeatable tre_kinds tre_values tre_mosts tre_owners tre_sizes tre_firstRanges tre_rangeCounts tre_waiting = some R0 → W p l e (headSpec ws_RDR_addRepeat ({ frames := 2, cells := 0, slots := 0, locals := 47 })).room s m ([.ref a_rdr] : List Value).toArray below meth c H locs 0 0 (MQ below (va_Qv (fun _ : Unit => True) (fun _ t => posS (dC, dI) classes [(cI, .int)] (w_36 cI tS a_mis a_tre a_tre_kinds a_tre_values a_tre_mosts a_tre_owners a_tre_sizes a_tre_firstRanges a_tre_rangeCounts a_tre_begins a_tre_ends a_tre_waiting a_rep a_pat a_rdr a_grp a_opn a_set a_esc a_cls a_opg R0.1 R0.2.1 R0.2.2.1 tre_ranges R0.2.2.2.1 rep_least rep_most rep_marked rep_after rep_number R0.2.2.2.2.1 rdr_flags R0.2.2.2.2.2.1 R0.2.2.2.2.2.2.1 R0.2.2.2.2.2.2.2.1 R0.2.2.2.2.2.2.2.2.1 R0.2.2.2.2.2.2.2.2.2.1 R0.2.2.2.2.2.2.2.2.2.2.1 R0.2.2.2.2.2.2.2.2.2.2.2.1 R0.2.2.2.2.2.2.2.2.2.2.2.2.1 R0.2.2.2.2.2.2.2.2.2.2.2.2.2) (A) t) (A)) ([.ref a_rdr] : List Value).toArray s 0 0 A) (F0 m 68 ls [.int z0]) := by
    intro z0 mis_number mis_place tre_nodes tre_waits rdr_place rdr_repeatable tre_kinds tre_values tre_mosts tre_owners tre_sizes tre_firstRanges tre_rangeCounts tre_waiting H locs ls hP hD hS hl hf
    refine lv_istore_n (lv' := [(1, .int z0), (0, .ref a_rdr)]) hx hb d_RDR_addRepeat_68 rfl hl (by decide) rfl (fun ls hl => ?_)
    refine lv_aload_n hx hb d_RDR_addRepeat_69 rfl (lv_at hl 1 rfl) ?_
    refine va_get (D := (dC, dI)) (ci := 10) (v := .ref a_rep) (C := R_RDR) (T := F_RDR) (N := N_RDR) hx hb hts i_RDR hown hK hP 3 rfl rfl 9 (by decide) (hts _ tw_370) (fun _ h9 => h9) rfl d_RDR_addRepeat_70 ?_
    refine lv_aload_n hx hb d_RDR_addRepeat_73 rfl (lv_at hl 1 rfl) ?_
    refine va_get (D := (dC, dI)) (ci := 10) (v := .ref a_tre) (C := R_RDR) (T := F_RDR) (N := N_RDR) hx hb hts i_RDR hown hK hP 3 rfl rfl 2 (by decide) (hts _ tw_23) (fun _ h9 => h9) rfl d_RDR_addRepeat_74 ?_
    refine lv_iconst (v := 1) hx hb d_RDR_addRepeat_77 (by decide) ?_
    obtain ⟨x78, hg, hf⟩ := bnd hf
    have hPc := hP.sub (ws' := (w_8 cI tS a_tre a_tre_kinds a_tre_values a_tre_mosts a_tre_owners a_tre_sizes a_tre_firstRanges a_tre_rangeCounts a_tre_begins a_tre_ends a_tre_waiting tre_nodes tre_ranges tre_waits tre_sizes tre_waiting)) [1, 8, 11] rfl
    have hDc := hD.sub (ws' := (w_8 cI tS a_tre a_tre_kinds a_tre_values a_tre_mosts a_tre_owners a_tre_sizes a_tre_firstRanges a_tre_rangeCounts a_tre_begins a_tre_ends a_tre_waiting tre_nodes tre_ranges tre_waits tre_sizes tre_waiting)) [1, 8, 11] (by decide) rfl
    have hFc := va_free (wc := (w_8 cI tS a_tre a_tre_kinds a_tre_values a_tre_mosts a_tre_owners a_tre_sizes a_tre_firstRanges a_tre_rangeCounts a_tre_begins a_tre_ends a_tre_waiting tre_nodes tre_ranges tre_waits tre_sizes tre_waiting)) hD hS hA [1, 8, 11] rfl
    refine cal_i (va_runV (As := [.int 1]) (rest := [.ref a_rep]) ⟨hx, hb, hml, hown, hts⟩ (c_TRE_waitingSize l dC dI cI tS H.size a_tre a_tre_kinds a_tre_values a_tre_mosts a_tre_owners a_tre_sizes a_tre_firstRanges a_tre_rangeCounts a_tre_begins a_tre_ends a_tre_waiting tre_nodes tre_ranges tre_waits tre_sizes tre_waiting 1 x78 hg) ⟨callB_of 1 hts (gN tw_63) rfl rfl rfl (hts _ tw_26) (hts _ tw_62) hd_TRE_waitingSize ⟨Nat.le_of_ble_eq_true rfl, Nat.le_of_ble_eq_true rfl⟩, hts _ tw_64, hts _ tw_65⟩ (pre_V hK hPc hDc hst0 hS hFc (va_recv hK hPc (ci := 3) (q0 := 0) rfl rfl)) rfl rfl hl.1 rfl (lv_room (Nat.le_of_ble_eq_true rfl)) d_RDR_addRepeat_78 ⟨Nat.zero_le _, Nat.zero_le _⟩) hP hD hS hA [1, 8, 11] [0, 2, 3, 4, 5, 6, 7, 9, 10] rfl rfl (by decide) (by decide) (fun H locs hP hD hS => ?_)
    have hP := hP.sub (ws' := (w_36 cI tS a_mis a_tre a_tre_kinds a_tre_values a_tre_mosts a_tre_owners a_tre_sizes a_tre_firstRanges a_tre_rangeCounts a_tre_begins a_tre_ends a_tre_waiting a_rep a_pat a_rdr a_grp a_opn a_set a_esc a_cls a_opg mis_number mis_place tre_nodes tre_ranges tre_waits rep_least rep_most rep_marked rep_after rep_number rdr_place rdr_flags rdr_repeatable tre_kinds tre_values tre_mosts tre_owners tre_sizes tre_firstRanges tre_rangeCounts tre_waiting)) [0, 9, 1, 2, 3, 4, 5, 6, 10, 7, 8, 11] rfl
    have hD := hD.sub (ws' := (w_36 cI tS a_mis a_tre a_tre_kinds a_tre_values a_tre_mosts a_tre_owners a_tre_sizes a_tre_firstRanges a_tre_rangeCounts a_tre_begins a_tre_ends a_tre_waiting a_rep a_pat a_rdr a_grp a_opn a_set a_esc a_cls a_opg mis_number mis_place tre_nodes tre_ranges tre_waits rep_least rep_most rep_marked rep_after rep_number rdr_place rdr_flags rdr_repeatable tre_kinds tre_values tre_mosts tre_owners tre_sizes tre_firstRanges tre_rangeCounts tre_waiting)) [0, 9, 1, 2, 3, 4, 5, 6, 10, 7, 8, 11] (by decide) rfl
    obtain ⟨x81, hg, hf⟩ := bnd hf
    have hPc := hP.sub (ws' := (w_35 cI tS a_rep a_pat rep_least rep_most rep_marked rep_after rep_number)) [2] rfl
    have hDc := hD.sub (ws' := (w_35 cI tS a_rep a_pat rep_least rep_most rep_marked rep_after rep_number)) [2] (by decide) rfl
    have hFc := va_free (wc := (w_35 cI tS a_rep a_pat rep_least rep_most rep_marked rep_after rep_number)) hD hS hA [2] rfl
    refine cal_i (va_runV (As := [.int x78]) (rest := []) ⟨hx, hb, hml, hown, hts⟩ (c_REP_sizeOver l dC dI cI tS H.size a_rep a_pat rep_least rep_most rep_marked rep_after rep_number x78 x81 hg) ⟨callB_of 1 hts (gN tw_372) rfl rfl rfl (hts _ tw_360) (hts _ tw_371) hd_REP_sizeOver ⟨Nat.le_of_ble_eq_true rfl, Nat.le_of_ble_eq_true rfl⟩, hts _ tw_373, hts _ tw_374⟩ (pre_V hK hPc hDc hst0 hS hFc (va_recv hK hPc (ci := 9) (q0 := 0) rfl rfl)) rfl rfl hl.1 rfl (lv_room (Nat.le_of_ble_eq_true rfl)) d_RDR_addRepeat_81 ⟨Nat.zero_le _, Nat.zero_le _⟩) hP hD hS hA [2] [0, 1, 3, 4, 5, 6, 7, 8, 9, 10, 11] rfl rfl (by decide) (by decide) (fun H locs hP hD hS => ?_)
    have hP := hP.sub (ws' := (w_36 cI tS a_mis a_tre a_tre_kinds a_tre_values a_tre_mosts a_tre_owners a_tre_sizes a_tre_firstRanges a_tre_rangeCounts a_tre_begins a_tre_ends a_tre_waiting a_rep a_pat a_rdr a_grp a_opn a_set a_esc a_cls a_opg mis_number mis_place tre_nodes tre_ranges tre_waits rep_least rep_most rep_marked rep_after rep_number rdr_place rdr_flags rdr_repeatable tre_kinds tre_values tre_mosts tre_owners tre_sizes tre_firstRanges tre_rangeCounts tre_waiting)) [0, 1, 11, 2, 3, 4, 5, 6, 7, 8, 9, 10] rfl
    have hD := hD.sub (ws' := (w_36 cI tS a_mis a_tre a_tre_kinds a_tre_values a_tre_mosts a_tre_owners a_tre_sizes a_tre_firstRanges a_tre_rangeCounts a_tre_begins a_tre_ends a_tre_waiting a_rep a_pat a_rdr a_grp a_opn a_set a_esc a_cls a_opg mis_number mis_place tre_nodes tre_ranges tre_waits rep_least rep_most rep_marked rep_after rep_number rdr_place rdr_flags rdr_repeatable tre_kinds tre_values tre_mosts tre_owners tre_sizes tre_firstRanges tre_rangeCounts tre_waiting)) [0, 1, 11, 2, 3, 4, 5, 6, 7, 8, 9, 10] (by decide) rfl
    refine lv_istore_n (lv' := [(2, .int x81), (1, .int z0), (0, .ref a_rdr)]) hx hb d_RDR_addRepeat_84 rfl hl (by decide) rfl (fun ls hl => ?_)
    refine lv_aload_n hx hb d_RDR_addRepeat_85 rfl (lv_at hl 2 rfl) ?_
    refine va_get (D := (dC, dI)) (ci := 10) (v := .ref a_tre) (C := R_RDR) (T := F_RDR) (N := N_RDR) hx hb hts i_RDR hown hK hP 3 rfl rfl 2 (by decide) (hts _ tw_23) (fun _ h9 => h9) rfl d_RDR_addRepeat_86 ?_
    refine lv_iconst (v := 1) hx hb d_RDR_addRepeat_89 (by decide) ?_
    refine lv_iload_n hx hb d_RDR_addRepeat_90 rfl (lv_at hl 1 rfl) ?_
    refine lv_aload_n hx hb d_RDR_addRepeat_91 rfl (lv_at hl 2 rfl) ?_
    refine va_get (D := (dC, dI)) (ci := 10) (v := .ref a_rep) (C := R_RDR) (T := F_RDR) (N := N_RDR) hx hb hts i_RDR hown hK hP 3 rfl rfl 9 (by decide) (hts _ tw_370) (fun _ h9 => h9) rfl d_RDR_addRepeat_92 ?_
    refine va_getN (D := (dC, dI)) (ci := 9) (v := .int rep_least) (C := R_REP) (T := F_REP) (N := N_REP) hx hb hts i_REP hown hK hP 2 rfl rfl 1 (by decide) (va_Nw.use rfl (hst0.2 _ tn_375)) (fun _ h9 => h9) rfl d_RDR_addRepeat_95 ?_
    refine lv_aload_n hx hb d_RDR_addRepeat_98 rfl (lv_at hl 2 rfl) ?_
    refine va_get (D := (dC, dI)) (ci := 10) (v := .ref a_rep) (C := R_RDR) (T := F_RDR) (N := N_RDR) hx hb hts i_RDR hown hK hP 3 rfl rfl 9 (by decide) (hts _ tw_370) (fun _ h9 => h9) rfl d_RDR_addRepeat_99 ?_
    refine va_getN (D := (dC, dI)) (ci := 9) (v := .int rep_most) (C := R_REP) (T := F_REP) (N := N_REP) hx hb hts i_REP hown hK hP 2 rfl rfl 2 (by decide) (va_Nw.use rfl (hst0.2 _ tn_376)) (fun _ h9 => h9) rfl d_RDR_addRepeat_102 ?_
    refine lv_iload_n hx hb d_RDR_addRepeat_105 rfl (lv_at hl 0 rfl) ?_
    obtain ⟨x106, hg, hf⟩ := bnd hf
    have hPc := hP.sub (ws' := (w_9 cI tS a_tre a_tre_kinds a_tre_values a_tre_mosts a_tre_owners a_tre_sizes a_tre_firstRanges a_tre_rangeCounts a_tre_begins a_tre_ends a_tre_waiting tre_nodes tre_ranges tre_waits tre_kinds tre_values tre_mosts tre_owners tre_sizes tre_firstRanges tre_rangeCounts tre_waiting)) [1, 4, 5, 6, 7, 8, 9, 10, 11] rfl
    have hDc := hD.sub (ws' := (w_9 cI tS a_tre a_tre_kinds a_tre_values a_tre_mosts a_tre_owners a_tre_sizes a_tre_firstRanges a_tre_rangeCounts a_tre_begins a_tre_ends a_tre_waiting tre_nodes tre_ranges tre_waits tre_kinds tre_values tre_mosts tre_owners tre_sizes tre_firstRanges tre_rangeCounts tre_waiting)) [1, 4, 5, 6, 7, 8, 9, 10, 11] (by decide) rfl
    have hFc := va_free (wc := (w_9 cI tS a_tre a_tre_kinds a_tre_values a_tre_mosts a_tre_owners a_tre_sizes a_tre_firstRanges a_tre_rangeCounts a_tre_begins a_tre_ends a_tre_waiting tre_nodes tre_ranges tre_waits tre_kinds tre_values tre_mosts tre_owners tre_sizes tre_firstRanges tre_rangeCounts tre_waiting)) hD hS hA [1, 4, 5, 6, 7, 8, 9, 10, 11] rfl
    refine cal_v (va_runV (As := [.int 1, .int z0, .int rep_least, .int rep_most, .int x81]) (rest := []) ⟨hx, hb, hml, hown, hts⟩ (c_TRE_addOver l dC dI cI tS H.size a_tre a_tre_kinds a_tre_values a_tre_mosts a_tre_owners a_tre_sizes a_tre_firstRanges a_tre_rangeCounts a_tre_begins a_tre_ends a_tre_waiting tre_nodes tre_ranges tre_waits tre_kinds tre_values tre_mosts tre_owners tre_sizes tre_firstRanges tre_rangeCounts tre_waiting 1 z0 rep_least rep_most x81 x106 hg) ⟨callB_of 5 hts (gN tw_67) rfl rfl rfl (hts _ tw_26) (hts _ tw_66) hd_TRE_addOver ⟨Nat.le_of_ble_eq_true rfl, Nat.le_of_ble_eq_true rfl⟩, hts _ tw_68, hts _ tw_69⟩ (pre_V hK hPc hDc hst0 hS hFc (va_recv hK hPc (ci := 3) (q0 := 0) rfl rfl)) rfl rfl hl.1 rfl (lv_room (Nat.le_of_ble_eq_true rfl)) d_RDR_addRepeat_106 ⟨Nat.zero_le _, Nat.zero_le _⟩) hP hD hS hA [1, 4, 5, 6, 7, 8, 9, 10, 11] [0, 2, 3] rfl rfl (by decide) (by decide) (fun H locs hP hD hS => ?_)
    have hP := hP.sub (ws' := (w_36 cI tS a_mis a_tre a_tre_kinds a_tre_values a_tre_mosts a_tre_owners a_tre_sizes a_tre_firstRanges a_tre_rangeCounts a_tre_begins a_tre_ends a_tre_waiting a_rep a_pat a_rdr a_grp a_opn a_set a_esc a_cls a_opg mis_number mis_place x106.1 tre_ranges x106.2.1 rep_least rep_most rep_marked rep_after rep_number rdr_place rdr_flags rdr_repeatable x106.2.2.1 x106.2.2.2.1 x106.2.2.2.2.1 x106.2.2.2.2.2.1 x106.2.2.2.2.2.2.1 x106.2.2.2.2.2.2.2.1 x106.2.2.2.2.2.2.2.2.1 x106.2.2.2.2.2.2.2.2.2)) [0, 3, 1, 2, 4, 5, 6, 7, 8, 9, 10, 11] rfl
    have hD := hD.sub (ws' := (w_36 cI tS a_mis a_tre a_tre_kinds a_tre_values a_tre_mosts a_tre_owners a_tre_sizes a_tre_firstRanges a_tre_rangeCounts a_tre_begins a_tre_ends a_tre_waiting a_rep a_pat a_rdr a_grp a_opn a_set a_esc a_cls a_opg mis_number mis_place x106.1 tre_ranges x106.2.1 rep_least rep_most rep_marked rep_after rep_number rdr_place rdr_flags rdr_repeatable x106.2.2.1 x106.2.2.2.1 x106.2.2.2.2.1 x106.2.2.2.2.2.1 x106.2.2.2.2.2.2.1 x106.2.2.2.2.2.2.2.1 x106.2.2.2.2.2.2.2.2.1 x106.2.2.2.2.2.2.2.2.2)) [0, 3, 1, 2, 4, 5, 6, 7, 8, 9, 10, 11] (by decide) rfl
    refine lv_aload_n hx hb d_RDR_addRepeat_109 rfl (lv_at hl 2 rfl) ?_
    refine lv_iconst (v := 0) hx hb d_RDR_addRepeat_110 (by decide) ?_
    refine va_put (D := (dC, dI)) (ci := 10) (v := .int (b2i false)) (ty := .boolean) (C := R_RDR) (T := F_RDR) (N := N_RDR) hx hb hts i_RDR ty_RDR ty_RDR_ok n_RDR hown hK hP hD hS 3 rfl rfl 12 (by decide) (hts _ tw_43) (fun _ h9 => h9) rfl (ty_RDR_ok 12 (by decide)) (nr_b _) (ft_b _) (Nat.le_of_ble_eq_true rfl) d_RDR_addRepeat_111 (fun H locs hP hD hS => ?_)
    have hP : va_P (dC, dI) classes (w_36 cI tS a_mis a_tre a_tre_kinds a_tre_values a_tre_mosts a_tre_owners a_tre_sizes a_tre_firstRanges a_tre_rangeCounts a_tre_begins a_tre_ends a_tre_waiting a_rep a_pat a_rdr a_grp a_opn a_set a_esc a_cls a_opg mis_number mis_place x106.1 tre_ranges x106.2.1 rep_least rep_most rep_marked rep_after rep_number rdr_place rdr_flags false x106.2.2.1 x106.2.2.2.1 x106.2.2.2.2.1 x106.2.2.2.2.2.1 x106.2.2.2.2.2.2.1 x106.2.2.2.2.2.2.2.1 x106.2.2.2.2.2.2.2.2.1 x106.2.2.2.2.2.2.2.2.2) H := hP
    have hD : va_D A (w_36 cI tS a_mis a_tre a_tre_kinds a_tre_values a_tre_mosts a_tre_owners a_tre_sizes a_tre_firstRanges a_tre_rangeCounts a_tre_begins a_tre_ends a_tre_waiting a_rep a_pat a_rdr a_grp a_opn a_set a_esc a_cls a_opg mis_number mis_place x106.1 tre_ranges x106.2.1 rep_least rep_most rep_marked rep_after rep_number rdr_place rdr_flags false x106.2.2.1 x106.2.2.2.1 x106.2.2.2.2.1 x106.2.2.2.2.2.1 x106.2.2.2.2.2.2.1 x106.2.2.2.2.2.2.2.1 x106.2.2.2.2.2.2.2.2.1 x106.2.2.2.2.2.2.2.2.2) := hD
    refine lv_aload_n hx hb d_RDR_addRepeat_114 rfl (lv_at hl 2 rfl) ?_
    refine lv_aload_n hx hb d_RDR_addRepeat_115 rfl (lv_at hl 2 rfl) ?_
    refine va_get (D := (dC, dI)) (ci := 10) (v := .ref a_rep) (C := R_RDR) (T := F_RDR) (N := N_RDR) hx hb hts i_RDR hown hK hP 3 rfl rfl 9 (by decide) (hts _ tw_370) (fun _ h9 => h9) rfl d_RDR_addRepeat_116 ?_
    refine va_getN (D := (dC, dI)) (ci := 9) (v := .int rep_after) (C := R_REP) (T := F_REP) (N := N_REP) hx hb hts i_REP hown hK hP 2 rfl rfl 4 (by decide) (va_Nw.use rfl (hst0.2 _ tn_377)) (fun _ h9 => h9) rfl d_RDR_addRepeat_119 ?_
    refine va_put (D := (dC, dI)) (ci := 10) (v := .int rep_after) (ty := .int) (C := R_RDR) (T := F_RDR) (N := N_RDR) hx hb hts i_RDR ty_RDR ty_RDR_ok n_RDR hown hK hP hD hS 3 rfl rfl 10 (by decide) (hts _ tw_41) (fun _ h9 => h9) rfl (ty_RDR_ok 10 (by decide)) rfl rfl (Nat.le_of_ble_eq_true rfl) d_RDR_addRepeat_122 (fun H locs hP hD hS => ?_)
    have hP : va_P (dC, dI) classes (w_36 cI tS a_mis a_tre a_tre_kinds a_tre_values a_tre_mosts a_tre_owners a_tre_sizes a_tre_firstRanges a_tre_rangeCounts a_tre_begins a_tre_ends a_tre_waiting a_rep a_pat a_rdr a_grp a_opn a_set a_esc a_cls a_opg mis_number mis_place x106.1 tre_ranges x106.2.1 rep_least rep_most rep_marked rep_after rep_number rep_after rdr_flags false x106.2.2.1 x106.2.2.2.1 x106.2.2.2.2.1 x106.2.2.2.2.2.1 x106.2.2.2.2.2.2.1 x106.2.2.2.2.2.2.2.1 x106.2.2.2.2.2.2.2.2.1 x106.2.2.2.2.2.2.2.2.2) H := hP
    have hD : va_D A (w_36 cI tS a_mis a_tre a_tre_kinds a_tre_values a_tre_mosts a_tre_owners a_tre_sizes a_tre_firstRanges a_tre_rangeCounts a_tre_begins a_tre_ends a_tre_waiting a_rep a_pat a_rdr a_grp a_opn a_set a_esc a_cls a_opg mis_number mis_place x106.1 tre_ranges x106.2.1 rep_least rep_most rep_marked rep_after rep_number rep_after rdr_flags false x106.2.2.1 x106.2.2.2.1 x106.2.2.2.2.1 x106.2.2.2.2.2.1 x106.2.2.2.2.2.2.1 x106.2.2.2.2.2.2.2.1 x106.2.2.2.2.2.2.2.2.1 x106.2.2.2.2.2.2.2.2.2) := hD
    obtain rfl := Option.some.inj hf
    exact W.vret hx hb hr (fun t ht hW => ⟨⟨(), rfl, trivial, ⟨by rw [ht]; exact hP, va_K.moved hW.alike hK, hD⟩⟩, hS.F ht⟩) hS.2.2 d_RDR_addRepeat_125
  refine lv_aload_n hx hb d_RDR_addRepeat_0 rfl (lv_at hl 0 rfl) ?_
  refine va_get (D := (dC, dI)) (ci := 10) (v := .int (b2i rdr_repeatable)) (C := R_RDR) (T := F_RDR) (N := N_RDR) hx hb hts i_RDR hown hK hP 3 rfl rfl 12 (by decide) (hts _ tw_43) (fun _ h9 => h9) rfl d_RDR_addRepeat_1 ?_
  refine lv_if_ne (tgt := 21) hx hb d_RDR_addRepeat_4 (by decide) (fun c_ => ?_) (fun c_ => ?_)
  · have hf := f_neg c_ hf
    refine lv_aload_n hx hb d_RDR_addRepeat_21 rfl (lv_at hl 0 rfl) ?_
    refine va_get (D := (dC, dI)) (ci := 10) (v := .ref a_rep) (C := R_RDR) (T := F_RDR) (N := N_RDR) hx hb hts i_RDR hown hK hP 3 rfl rfl 9 (by decide) (hts _ tw_370) (fun _ h9 => h9) rfl d_RDR_addRepeat_22 ?_
    obtain ⟨x25, hg, hf⟩ := bnd hf
    have hPc := hP.sub (ws' := (w_35 cI tS a_rep a_pat rep_least rep_most rep_marked rep_after rep_number)) [2] rfl
    have hDc := hD.sub (ws' := (w_35 cI tS a_rep a_pat rep_least rep_most rep_marked rep_after rep_number)) [2] (by decide) rfl
    have hFc := va_free (wc := (w_35 cI tS a_rep a_pat rep_least rep_most rep_marked rep_after rep_number)) hD hS hA [2] rfl
    refine cal_i (va_runV (As := []) (rest := []) ⟨hx, hb, hml, hown, hts⟩ (c_REP_hasBadTimes l dC dI cI tS s.heap.size a_rep a_pat rep_least rep_most rep_marked rep_after rep_number x25 hg) ⟨callB_of 0 hts (gN tw_379) rfl rfl rfl (hts _ tw_360) (hts _ tw_378) hd_REP_hasBadTimes ⟨Nat.le_of_ble_eq_true rfl, Nat.le_of_ble_eq_true rfl⟩, hts _ tw_380, hts _ tw_381⟩ (pre_V hK hPc hDc hst0 hS hFc (va_recv hK hPc (ci := 9) (q0 := 0) rfl rfl)) rfl rfl hl.1 rfl (lv_room (Nat.le_of_ble_eq_true rfl)) d_RDR_addRepeat_25 ⟨Nat.zero_le _, Nat.zero_le _⟩) hP hD hS hA [2] [0, 1, 3, 4, 5, 6, 7, 8, 9, 10, 11] rfl rfl (by decide) (by decide) (fun H locs hP hD hS => ?_)
    have hP := hP.sub (ws' := (w_36 cI tS a_mis a_tre a_tre_kinds a_tre_values a_tre_mosts a_tre_owners a_tre_sizes a_tre_firstRanges a_tre_rangeCounts a_tre_begins a_tre_ends a_tre_waiting a_rep a_pat a_rdr a_grp a_opn a_set a_esc a_cls a_opg mis_number mis_place tre_nodes tre_ranges tre_waits rep_least rep_most rep_marked rep_after rep_number rdr_place rdr_flags rdr_repeatable tre_kinds tre_values tre_mosts tre_owners tre_sizes tre_firstRanges tre_rangeCounts tre_waiting)) [0, 1, 11, 2, 3, 4, 5, 6, 7, 8, 9, 10] rfl
    have hD := hD.sub (ws' := (w_36 cI tS a_mis a_tre a_tre_kinds a_tre_values a_tre_mosts a_tre_owners a_tre_sizes a_tre_firstRanges a_tre_rangeCounts a_tre_begins a_tre_ends a_tre_waiting a_rep a_pat a_rdr a_grp a_opn a_set a_esc a_cls a_opg mis_number mis_place tre_nodes tre_ranges tre_waits rep_least rep_most rep_marked rep_after rep_number rdr_place rdr_flags rdr_repeatable tre_kinds tre_values tre_mosts tre_owners tre_sizes tre_firstRanges tre_rangeCounts tre_waiting)) [0, 1, 11, 2, 3, 4, 5, 6, 7, 8, 9, 10] (by decide) rfl
    refine lv_if_eq (tgt := 45) hx hb d_RDR_addRepeat_28 (by decide) (fun c_ => ?_) (fun c_ => ?_)
    · have hf := f_pos c_ hf
      refine lv_aload_n hx hb d_RDR_addRepeat_45 rfl (lv_at hl 0 rfl) ?_
      refine va_get (D := (dC, dI)) (ci := 10) (v := .ref a_rep) (C := R_RDR) (T := F_RDR) (N := N_RDR) hx hb hts i_RDR hown hK hP 3 rfl rfl 9 (by decide) (hts _ tw_370) (fun _ h9 => h9) rfl d_RDR_addRepeat_46 ?_
      refine va_getN (D := (dC, dI)) (ci := 9) (v := .int (b2i rep_marked)) (C := R_REP) (T := F_REP) (N := N_REP) hx hb hts i_REP hown hK hP 2 rfl rfl 3 (by decide) (va_Nw.use rfl (hst0.2 _ tn_382)) (fun _ h9 => h9) rfl d_RDR_addRepeat_49 ?_
      refine lv_aload_n hx hb d_RDR_addRepeat_52 rfl (lv_at hl 0 rfl) ?_
      refine lv_bipush (v := 8) hx hb d_RDR_addRepeat_53 (by decide) ?_
      obtain ⟨x55, hg, hf⟩ := bnd hf
      have hPc := hP.sub (ws' := (w_20 cI tS a_rdr a_pat a_mis a_tre a_grp a_opn a_set a_esc a_cls a_opg a_rep rdr_place rdr_flags rdr_repeatable)) [3] rfl
      have hDc := hD.sub (ws' := (w_20 cI tS a_rdr a_pat a_mis a_tre a_grp a_opn a_set a_esc a_cls a_opg a_rep rdr_place rdr_flags rdr_repeatable)) [3] (by decide) rfl
      have hFc := va_free (wc := (w_20 cI tS a_rdr a_pat a_mis a_tre a_grp a_opn a_set a_esc a_cls a_opg a_rep rdr_place rdr_flags rdr_repeatable)) hD hS hA [3] rfl
      refine cal_i (va_runV (As := [.int 8]) (rest := [.int (b2i rep_marked)]) ⟨hx, hb, hml, hown, hts⟩ (c_RDR_isOn l dC dI cI tS H.size a_rdr a_pat a_mis a_tre a_grp a_opn a_set a_esc a_cls a_opg a_rep rdr_place rdr_flags rdr_repeatable 8 x55 hg) ⟨callB_of 1 hts (gN tw_326) rfl rfl rfl (hts _ tw_137) (hts _ tw_325) hd_RDR_isOn ⟨Nat.le_of_ble_eq_true rfl, Nat.le_of_ble_eq_true rfl⟩, hts _ tw_327, hts _ tw_328⟩ (pre_V hK hPc hDc hst0 hS hFc (va_recv hK hPc (ci := 10) (q0 := 0) rfl rfl)) rfl rfl hl.1 rfl (lv_room (Nat.le_of_ble_eq_true rfl)) d_RDR_addRepeat_55 ⟨Nat.zero_le _, Nat.zero_le _⟩) hP hD hS hA [3] [0, 1, 2, 4, 5, 6, 7, 8, 9, 10, 11] rfl rfl (by decide) (by decide) (fun H locs hP hD hS => ?_)
      have hP := hP.sub (ws' := (w_36 cI tS a_mis a_tre a_tre_kinds a_tre_values a_tre_mosts a_tre_owners a_tre_sizes a_tre_firstRanges a_tre_rangeCounts a_tre_begins a_tre_ends a_tre_waiting a_rep a_pat a_rdr a_grp a_opn a_set a_esc a_cls a_opg mis_number mis_place tre_nodes tre_ranges tre_waits rep_least rep_most rep_marked rep_after rep_number rdr_place rdr_flags rdr_repeatable tre_kinds tre_values tre_mosts tre_owners tre_sizes tre_firstRanges tre_rangeCounts tre_waiting)) [0, 1, 2, 11, 3, 4, 5, 6, 7, 8, 9, 10] rfl
      have hD := hD.sub (ws' := (w_36 cI tS a_mis a_tre a_tre_kinds a_tre_values a_tre_mosts a_tre_owners a_tre_sizes a_tre_firstRanges a_tre_rangeCounts a_tre_begins a_tre_ends a_tre_waiting a_rep a_pat a_rdr a_grp a_opn a_set a_esc a_cls a_opg mis_number mis_place tre_nodes tre_ranges tre_waits rep_least rep_most rep_marked rep_after rep_number rdr_place rdr_flags rdr_repeatable tre_kinds tre_values tre_mosts tre_owners tre_sizes tre_firstRanges tre_rangeCounts tre_waiting)) [0, 1, 2, 11, 3, 4, 5, 6, 7, 8, 9, 10] (by decide) rfl
      refine lv_icmp_eq (tgt := 66) hx hb d_RDR_addRepeat_58 (by decide) (fun c_ => ?_) (fun c_ => ?_)
      · have hf := f_pos c_ hf
        refine lv_bipush (v := 7) hx hb d_RDR_addRepeat_66 (by decide) ?_
        exact L68 7 mis_number mis_place tre_nodes tre_waits rdr_place rdr_repeatable tre_kinds tre_values tre_mosts tre_owners tre_sizes tre_firstRanges tre_rangeCounts tre_waiting _ _ _ hP hD hS (lv_sub hl [0] rfl) hf
      · have hf := f_neg c_ hf
        refine lv_bipush (v := 8) hx hb d_RDR_addRepeat_61 (by decide) ?_
        refine lv_goto (tgt := 68) hx hb d_RDR_addRepeat_63 (by decide) ?_
        exact L68 8 mis_number mis_place tre_nodes tre_waits rdr_place rdr_repeatable tre_kinds tre_values tre_mosts tre_owners tre_sizes tre_firstRanges tre_rangeCounts tre_waiting _ _ _ hP hD hS (lv_sub hl [0] rfl) hf
    · have hf := f_neg c_ hf
      refine lv_aload_n hx hb d_RDR_addRepeat_31 rfl (lv_at hl 0 rfl) ?_
      refine va_get (D := (dC, dI)) (ci := 10) (v := .ref a_mis) (C := R_RDR) (T := F_RDR) (N := N_RDR) hx hb hts i_RDR hown hK hP 3 rfl rfl 1 (by decide) (hts _ tw_17) (fun _ h9 => h9) rfl d_RDR_addRepeat_32 ?_
      refine lv_bipush (v := 9) hx hb d_RDR_addRepeat_35 (by decide) ?_
      refine lv_aload_n hx hb d_RDR_addRepeat_37 rfl (lv_at hl 0 rfl) ?_
      refine va_get (D := (dC, dI)) (ci := 10) (v := .int rdr_place) (C := R_RDR) (T := F_RDR) (N := N_RDR) hx hb hts i_RDR hown hK hP 3 rfl rfl 10 (by decide) (hts _ tw_41) (fun _ h9 => h9) rfl d_RDR_addRepeat_38 ?_
      obtain ⟨x41, hg, hf⟩ := bnd hf
      have hPc := hP.sub (ws' := (w_2 cI tS a_mis mis_number mis_place)) [0] rfl
      have hDc := hD.sub (ws' := (w_2 cI tS a_mis mis_number mis_place)) [0] (by decide) rfl
      have hFc := va_free (wc := (w_2 cI tS a_mis mis_number mis_place)) hD hS hA [0] rfl
      refine cal_v (va_runV (As := [.int 9, .int rdr_place]) (rest := []) ⟨hx, hb, hml, hown, hts⟩ (c_MIS_tell l dC dI cI tS H.size a_mis mis_number mis_place 9 rdr_place x41 hg) ⟨callB_of 2 hts (gN tw_142) rfl rfl rfl (hts _ tw_20) (hts _ tw_141) hd_MIS_tell ⟨Nat.le_of_ble_eq_true rfl, Nat.le_of_ble_eq_true rfl⟩, hts _ tw_143, hts _ tw_144⟩ (pre_V hK hPc hDc hst0 hS hFc (va_recv hK hPc (ci := 1) (q0 := 0) rfl rfl)) rfl rfl hl.1 rfl (lv_room (Nat.le_of_ble_eq_true rfl)) d_RDR_addRepeat_41 ⟨Nat.zero_le _, Nat.zero_le _⟩) hP hD hS hA [0] [1, 2, 3, 4, 5, 6, 7, 8, 9, 10, 11] rfl rfl (by decide) (by decide) (fun H locs hP hD hS => ?_)
      have hP := hP.sub (ws' := (w_36 cI tS a_mis a_tre a_tre_kinds a_tre_values a_tre_mosts a_tre_owners a_tre_sizes a_tre_firstRanges a_tre_rangeCounts a_tre_begins a_tre_ends a_tre_waiting a_rep a_pat a_rdr a_grp a_opn a_set a_esc a_cls a_opg x41.1 x41.2 tre_nodes tre_ranges tre_waits rep_least rep_most rep_marked rep_after rep_number rdr_place rdr_flags rdr_repeatable tre_kinds tre_values tre_mosts tre_owners tre_sizes tre_firstRanges tre_rangeCounts tre_waiting)) [11, 0, 1, 2, 3, 4, 5, 6, 7, 8, 9, 10] rfl
      have hD := hD.sub (ws' := (w_36 cI tS a_mis a_tre a_tre_kinds a_tre_values a_tre_mosts a_tre_owners a_tre_sizes a_tre_firstRanges a_tre_rangeCounts a_tre_begins a_tre_ends a_tre_waiting a_rep a_pat a_rdr a_grp a_opn a_set a_esc a_cls a_opg x41.1 x41.2 tre_nodes tre_ranges tre_waits rep_least rep_most rep_marked rep_after rep_number rdr_place rdr_flags rdr_repeatable tre_kinds tre_values tre_mosts tre_owners tre_sizes tre_firstRanges tre_rangeCounts tre_waiting)) [11, 0, 1, 2, 3, 4, 5, 6, 7, 8, 9, 10] (by decide) rfl
      obtain rfl := Option.some.inj hf
      exact W.vret hx hb hr (fun t ht hW => ⟨⟨(), rfl, trivial, ⟨by rw [ht]; exact hP, va_K.moved hW.alike hK, hD⟩⟩, hS.F ht⟩) hS.2.2 d_RDR_addRepeat_44
  · have hf := f_pos c_ hf
    refine lv_aload_n hx hb d_RDR_addRepeat_7 rfl (lv_at hl 0 rfl) ?_
    refine va_get (D := (dC, dI)) (ci := 10) (v := .ref a_mis) (C := R_RDR) (T := F_RDR) (N := N_RDR) hx hb hts i_RDR hown hK hP 3 rfl rfl 1 (by decide) (hts _ tw_17) (fun _ h9 => h9) rfl d_RDR_addRepeat_8 ?_
    refine lv_bipush (v := 8) hx hb d_RDR_addRepeat_11 (by decide) ?_
    refine lv_aload_n hx hb d_RDR_addRepeat_13 rfl (lv_at hl 0 rfl) ?_
    refine va_get (D := (dC, dI)) (ci := 10) (v := .int rdr_place) (C := R_RDR) (T := F_RDR) (N := N_RDR) hx hb hts i_RDR hown hK hP 3 rfl rfl 10 (by decide) (hts _ tw_41) (fun _ h9 => h9) rfl d_RDR_addRepeat_14 ?_
    obtain ⟨x17, hg, hf⟩ := bnd hf
    have hPc := hP.sub (ws' := (w_2 cI tS a_mis mis_number mis_place)) [0] rfl
    have hDc := hD.sub (ws' := (w_2 cI tS a_mis mis_number mis_place)) [0] (by decide) rfl
    have hFc := va_free (wc := (w_2 cI tS a_mis mis_number mis_place)) hD hS hA [0] rfl
    refine cal_v (va_runV (As := [.int 8, .int rdr_place]) (rest := []) ⟨hx, hb, hml, hown, hts⟩ (c_MIS_tell l dC dI cI tS s.heap.size a_mis mis_number mis_place 8 rdr_place x17 hg) ⟨callB_of 2 hts (gN tw_142) rfl rfl rfl (hts _ tw_20) (hts _ tw_141) hd_MIS_tell ⟨Nat.le_of_ble_eq_true rfl, Nat.le_of_ble_eq_true rfl⟩, hts _ tw_143, hts _ tw_144⟩ (pre_V hK hPc hDc hst0 hS hFc (va_recv hK hPc (ci := 1) (q0 := 0) rfl rfl)) rfl rfl hl.1 rfl (lv_room (Nat.le_of_ble_eq_true rfl)) d_RDR_addRepeat_17 ⟨Nat.zero_le _, Nat.zero_le _⟩) hP hD hS hA [0] [1, 2, 3, 4, 5, 6, 7, 8, 9, 10, 11] rfl rfl (by decide) (by decide) (fun H locs hP hD hS => ?_)
    have hP := hP.sub (ws' := (w_36 cI tS a_mis a_tre a_tre_kinds a_tre_values a_tre_mosts a_tre_owners a_tre_sizes a_tre_firstRanges a_tre_rangeCounts a_tre_begins a_tre_ends a_tre_waiting a_rep a_pat a_rdr a_grp a_opn a_set a_esc a_cls a_opg x17.1 x17.2 tre_nodes tre_ranges tre_waits rep_least rep_most rep_marked rep_after rep_number rdr_place rdr_flags rdr_repeatable tre_kinds tre_values tre_mosts tre_owners tre_sizes tre_firstRanges tre_rangeCounts tre_waiting)) [11, 0, 1, 2, 3, 4, 5, 6, 7, 8, 9, 10] rfl
    have hD := hD.sub (ws' := (w_36 cI tS a_mis a_tre a_tre_kinds a_tre_values a_tre_mosts a_tre_owners a_tre_sizes a_tre_firstRanges a_tre_rangeCounts a_tre_begins a_tre_ends a_tre_waiting a_rep a_pat a_rdr a_grp a_opn a_set a_esc a_cls a_opg x17.1 x17.2 tre_nodes tre_ranges tre_waits rep_least rep_most rep_marked rep_after rep_number rdr_place rdr_flags rdr_repeatable tre_kinds tre_values tre_mosts tre_owners tre_sizes tre_firstRanges tre_rangeCounts tre_waiting)) [11, 0, 1, 2, 3, 4, 5, 6, 7, 8, 9, 10] (by decide) rfl
    obtain rfl := Option.some.inj hf
    exact W.vret hx hb hr (fun t ht hW => ⟨⟨(), rfl, trivial, ⟨by rw [ht]; exact hP, va_K.moved hW.alike hK, hD⟩⟩, hS.F ht⟩) hS.2.2 d_RDR_addRepeat_20
def f_RDR_readCharacter (pat_length : Int32) (mis_number : Int32) (mis_place : Int32) (set_pieces : Int32) (tre_nodes : Int32) (tre_ranges : Int32) (tre_waits : Int32) (opn_depth : Int32) (rdr_place : Int32) (rdr_flags : Int32) (rdr_repeatable : Bool) (pat_bytes : Nat → Int32) (set_begins : Nat → Int32) (set_ends : Nat → Int32) (tre_kinds : Nat → Int32) (tre_values : Nat → Int32) (tre_mosts : Nat → Int32) (tre_owners : Nat → Int32) (tre_sizes : Nat → Int32) (tre_firstRanges : Nat → Int32) (tre_rangeCounts : Nat → Int32) (tre_begins : Nat → Int32) (tre_ends : Nat → Int32) (tre_waiting : Nat → Int32) (opn_parts : Nat → Int32) : Option (Int32 × Int32 × Int32 × Int32 × Int32 × Int32 × Int32 × Bool × (Nat → Int32) × (Nat → Int32) × (Nat → Int32) × (Nat → Int32) × (Nat → Int32) × (Nat → Int32) × (Nat → Int32) × (Nat → Int32) × (Nat → Int32) × (Nat → Int32) × (Nat → Int32) × (Nat → Int32) × (Nat → Int32)) :=
  bnd_ (f_PAT_characterAt pat_length pat_bytes rdr_place) (fun x8 => if x8 = (-1) then bnd_ (f_MIS_tell mis_number mis_place 1 rdr_place) (fun x26 => some (x26.1, x26.2, set_pieces, tre_nodes, tre_ranges, tre_waits, rdr_place, rdr_repeatable, set_begins, set_ends, tre_kinds, tre_values, tre_mosts, tre_owners, tre_sizes, tre_firstRanges, tre_rangeCounts, tre_begins, tre_ends, tre_waiting, opn_parts)) else bnd_ (f_RDR_addCharacter set_pieces tre_nodes tre_ranges tre_waits rdr_flags set_begins set_ends tre_kinds tre_values tre_mosts tre_owners tre_sizes tre_firstRanges tre_rangeCounts tre_begins tre_ends tre_waiting x8) (fun x32 => bnd_ (f_PN_widthOf x8) (fun x41 => bnd_ (f_RDR_partDone opn_depth rdr_place rdr_repeatable opn_parts (rdr_place + x41) true) (fun x46 => some (mis_number, mis_place, x32.1, x32.2.1, x32.2.2.1, x32.2.2.2.1, x46.1, x46.2.1, x32.2.2.2.2.1, x32.2.2.2.2.2.1, x32.2.2.2.2.2.2.1, x32.2.2.2.2.2.2.2.1, x32.2.2.2.2.2.2.2.2.1, x32.2.2.2.2.2.2.2.2.2.1, x32.2.2.2.2.2.2.2.2.2.2.1, x32.2.2.2.2.2.2.2.2.2.2.2.1, x32.2.2.2.2.2.2.2.2.2.2.2.2.1, x32.2.2.2.2.2.2.2.2.2.2.2.2.2.1, x32.2.2.2.2.2.2.2.2.2.2.2.2.2.2.1, x32.2.2.2.2.2.2.2.2.2.2.2.2.2.2.2, x46.2.2)))))
set_option maxRecDepth 100000 in
set_option maxHeartbeats 4000000 in
theorem c_RDR_readCharacter (l : Launch) (dC : Nat → ClassId) (dI : Nat → Nat → Nat) (cI : ClassId) (tS : Nat → Nat) (sz : Nat) (a_pat a_pat_bytes a_mis a_set a_set_begins a_set_ends a_tre a_tre_kinds a_tre_values a_tre_mosts a_tre_owners a_tre_sizes a_tre_firstRanges a_tre_rangeCounts a_tre_begins a_tre_ends a_tre_waiting a_opn a_opn_places a_opn_numbers a_opn_flagsAround a_opn_rows a_opn_parts a_rdr a_grp a_esc a_cls a_opg a_rep : Nat) (pat_length : Int32) (mis_number : Int32) (mis_place : Int32) (set_pieces : Int32) (tre_nodes : Int32) (tre_ranges : Int32) (tre_waits : Int32) (opn_depth : Int32) (rdr_place : Int32) (rdr_flags : Int32) (rdr_repeatable : Bool) (pat_bytes : Nat → Int32) (set_begins : Nat → Int32) (set_ends : Nat → Int32) (tre_kinds : Nat → Int32) (tre_values : Nat → Int32) (tre_mosts : Nat → Int32) (tre_owners : Nat → Int32) (tre_sizes : Nat → Int32) (tre_firstRanges : Nat → Int32) (tre_rangeCounts : Nat → Int32) (tre_begins : Nat → Int32) (tre_ends : Nat → Int32) (tre_waiting : Nat → Int32) (opn_parts : Nat → Int32) (R0 : Int32 × Int32 × Int32 × Int32 × Int32 × Int32 × Int32 × Bool × (Nat → Int32) × (Nat → Int32) × (Nat → Int32) × (Nat → Int32) × (Nat → Int32) × (Nat → Int32) × (Nat → Int32) × (Nat → Int32) × (Nat → Int32) × (Nat → Int32) × (Nat → Int32) × (Nat → Int32) × (Nat → Int32)) (hf : f_RDR_readCharacter pat_length mis_number mis_place set_pieces tre_nodes tre_ranges tre_waits opn_depth rdr_place rdr_flags rdr_repeatable pat_bytes set_begins set_ends tre_kinds tre_values tre_mosts tre_owners tre_sizes tre_firstRanges tre_rangeCounts tre_begins tre_ends tre_waiting opn_parts = some R0) : Met l y_RDR_readCharacter ws_RDR_readCharacter ({ frames := 5, cells := 0, slots := 0, locals := 137 }) (va_Pc [.ref a_rdr] (preS (dC, dI) classes [(cI, .int)] tS (w_37 cI tS a_pat a_pat_bytes a_mis a_set a_set_begins a_set_ends a_tre a_tre_kinds a_tre_values a_tre_mosts a_tre_owners a_tre_sizes a_tre_firstRanges a_tre_rangeCounts a_tre_begins a_tre_ends a_tre_waiting a_opn a_opn_places a_opn_numbers a_opn_flagsAround a_opn_rows a_opn_parts a_rdr a_grp a_esc a_cls a_opg a_rep pat_length mis_number mis_place set_pieces tre_nodes tre_ranges tre_waits opn_depth rdr_place rdr_flags rdr_repeatable pat_bytes set_begins set_ends tre_kinds tre_values tre_mosts tre_owners tre_sizes tre_firstRanges tre_rangeCounts tre_begins tre_ends tre_waiting opn_parts) sz)) (va_Qv (fun _ : Unit => True) (fun _ t => posS (dC, dI) classes [(cI, .int)] (w_37 cI tS a_pat a_pat_bytes a_mis a_set a_set_begins a_set_ends a_tre a_tre_kinds a_tre_values a_tre_mosts a_tre_owners a_tre_sizes a_tre_firstRanges a_tre_rangeCounts a_tre_begins a_tre_ends a_tre_waiting a_opn a_opn_places a_opn_numbers a_opn_flagsAround a_opn_rows a_opn_parts a_rdr a_grp a_esc a_cls a_opg a_rep pat_length R0.1 R0.2.1 R0.2.2.1 R0.2.2.2.1 R0.2.2.2.2.1 R0.2.2.2.2.2.1 opn_depth R0.2.2.2.2.2.2.1 rdr_flags R0.2.2.2.2.2.2.2.1 pat_bytes R0.2.2.2.2.2.2.2.2.1 R0.2.2.2.2.2.2.2.2.2.1 R0.2.2.2.2.2.2.2.2.2.2.1 R0.2.2.2.2.2.2.2.2.2.2.2.1 R0.2.2.2.2.2.2.2.2.2.2.2.2.1 R0.2.2.2.2.2.2.2.2.2.2.2.2.2.1 R0.2.2.2.2.2.2.2.2.2.2.2.2.2.2.1 R0.2.2.2.2.2.2.2.2.2.2.2.2.2.2.2.1 R0.2.2.2.2.2.2.2.2.2.2.2.2.2.2.2.2.1 R0.2.2.2.2.2.2.2.2.2.2.2.2.2.2.2.2.2.1 R0.2.2.2.2.2.2.2.2.2.2.2.2.2.2.2.2.2.2.1 R0.2.2.2.2.2.2.2.2.2.2.2.2.2.2.2.2.2.2.2.1 R0.2.2.2.2.2.2.2.2.2.2.2.2.2.2.2.2.2.2.2.2) (va_A (w_37 cI tS a_pat a_pat_bytes a_mis a_set a_set_begins a_set_ends a_tre a_tre_kinds a_tre_values a_tre_mosts a_tre_owners a_tre_sizes a_tre_firstRanges a_tre_rangeCounts a_tre_begins a_tre_ends a_tre_waiting a_opn a_opn_places a_opn_numbers a_opn_flagsAround a_opn_rows a_opn_parts a_rdr a_grp a_esc a_cls a_opg a_rep pat_length mis_number mis_place set_pieces tre_nodes tre_ranges tre_waits opn_depth rdr_place rdr_flags rdr_repeatable pat_bytes set_begins set_ends tre_kinds tre_values tre_mosts tre_owners tre_sizes tre_firstRanges tre_rangeCounts tre_begins tre_ends tre_waiting opn_parts) sz) t) (va_A (w_37 cI tS a_pat a_pat_bytes a_mis a_set a_set_begins a_set_ends a_tre a_tre_kinds a_tre_values a_tre_mosts a_tre_owners a_tre_sizes a_tre_firstRanges a_tre_rangeCounts a_tre_begins a_tre_ends a_tre_waiting a_opn a_opn_places a_opn_numbers a_opn_flagsAround a_opn_rows a_opn_parts a_rdr a_grp a_esc a_cls a_opg a_rep pat_length mis_number mis_place set_pieces tre_nodes tre_ranges tre_waits opn_depth rdr_place rdr_flags rdr_repeatable pat_bytes set_begins set_ends tre_kinds tre_values tre_mosts tre_owners tre_sizes tre_firstRanges tre_rangeCounts tre_begins tre_ends tre_waiting opn_parts) sz)) 0 0 (va_A (w_37 cI tS a_pat a_pat_bytes a_mis a_set a_set_begins a_set_ends a_tre a_tre_kinds a_tre_values a_tre_mosts a_tre_owners a_tre_sizes a_tre_firstRanges a_tre_rangeCounts a_tre_begins a_tre_ends a_tre_waiting a_opn a_opn_places a_opn_numbers a_opn_flagsAround a_opn_rows a_opn_parts a_rdr a_grp a_esc a_cls a_opg a_rep pat_length mis_number mis_place set_pieces tre_nodes tre_ranges tre_waits opn_depth rdr_place rdr_flags rdr_repeatable pat_bytes set_begins set_ends tre_kinds tre_values tre_mosts tre_owners tre_sizes tre_firstRanges tre_rangeCounts tre_begins tre_ends tre_waiting opn_parts) sz) := by
  refine Met.ofW (cc := b_RDR_readCharacter) (maxL := 2) (ret := none) (by decide) rfl ?_
  intro p e s m args below meth c s₁ B hml hv
  obtain ⟨rfl, hsz, hP, hK, hD0, hst0⟩ := hv
  have hx := B.exec
  have hb := B.bytes
  have hr := B.returns
  have hts0 := atoms_spec (ws := ws_RDR_readCharacter) B.pre
  have hts : ∀ w ∈ GW, w.before _ s = true := fun w h => hts0 w (List.mem_cons_of_mem _ h)
  have hown : s.vm.findClass R_RDR = some m.cls := findClass_of_methodNamed B.named
  have hlocks := B.notSynchronized
  subst hsz
  have hD := hD0.self (sz := s.heap.size)
  generalize hAe : va_A (w_37 cI tS a_pat a_pat_bytes a_mis a_set a_set_begins a_set_ends a_tre a_tre_kinds a_tre_values a_tre_mosts a_tre_owners a_tre_sizes a_tre_firstRanges a_tre_rangeCounts a_tre_begins a_tre_ends a_tre_waiting a_opn a_opn_places a_opn_numbers a_opn_flagsAround a_opn_rows a_opn_parts a_rdr a_grp a_esc a_cls a_opg a_rep pat_length mis_number mis_place set_pieces tre_nodes tre_ranges tre_waits opn_depth rdr_place rdr_flags rdr_repeatable pat_bytes set_begins set_ends tre_kinds tre_values tre_mosts tre_owners tre_sizes tre_firstRanges tre_rangeCounts tre_begins tre_ends tre_waiting opn_parts) s.heap.size = A at hD hst0 ⊢
  have hA : ∀ q : Nat, s.heap.size ≤ q → A q := fun q h => by rw [← hAe]; exact Or.inr h
  have hS : va_S A s.heap s.heap [] := va_S.rf
  have hl := lv_entry ([.ref a_rdr]) (n := 2) (Nat.le_of_ble_eq_true rfl)
  rw [lg_entry_eq]
  generalize (lg_sl ([.ref a_rdr]) ++ List.replicate (2 - (lg_sl ([.ref a_rdr])).length) Slot.unset).toArray = ls at hl ⊢
  have hl : lv_has ls 2 [(0, .ref a_rdr)] := hl
  refine lv_aload_n hx hb d_RDR_readCharacter_0 rfl (lv_at hl 0 rfl) ?_
  refine va_get (D := (dC, dI)) (ci := 10) (v := .ref a_pat) (C := R_RDR) (T := F_RDR) (N := N_RDR) hx hb hts i_RDR hown hK hP 5 rfl rfl 0 (by decide) (hts _ tw_45) (fun _ h9 => h9) rfl d_RDR_readCharacter_1 ?_
  refine lv_aload_n hx hb d_RDR_readCharacter_4 rfl (lv_at hl 0 rfl) ?_
  refine va_get (D := (dC, dI)) (ci := 10) (v := .int rdr_place) (C := R_RDR) (T := F_RDR) (N := N_RDR) hx hb hts i_RDR hown hK hP 5 rfl rfl 10 (by decide) (hts _ tw_41) (fun _ h9 => h9) rfl d_RDR_readCharacter_5 ?_
  obtain ⟨x8, hg, hf⟩ := bnd hf
  have hPc := hP.sub (ws' := (w_0 cI tS a_pat a_pat_bytes pat_length pat_bytes)) [0, 6] rfl
  have hDc := hD.sub (ws' := (w_0 cI tS a_pat a_pat_bytes pat_length pat_bytes)) [0, 6] (by decide) rfl
  have hFc := va_free (wc := (w_0 cI tS a_pat a_pat_bytes pat_length pat_bytes)) hD hS hA [0, 6] rfl
  refine cal_i (va_runV (As := [.int rdr_place]) (rest := []) ⟨hx, hb, hml, hown, hts⟩ (c_PAT_characterAt l dC dI cI tS s.heap.size a_pat a_pat_bytes pat_length pat_bytes rdr_place x8 hg) ⟨callB_of 1 hts (gN tw_278) rfl rfl rfl (hts _ tw_5) (hts _ tw_383) hd_PAT_characterAt ⟨Nat.le_of_ble_eq_true rfl, Nat.le_of_ble_eq_true rfl⟩, hts _ tw_279, hts _ tw_280⟩ (pre_V hK hPc hDc hst0 hS hFc (va_recv hK hPc (ci := 0) (q0 := 0) rfl rfl)) rfl rfl hl.1 rfl (lv_room (Nat.le_of_ble_eq_true rfl)) d_RDR_readCharacter_8 ⟨Nat.zero_le _, Nat.zero_le _⟩) hP hD hS hA [0, 6] [1, 2, 3, 4, 5, 7, 8, 9, 10, 11, 12, 13, 14, 15, 16, 17, 18, 19] rfl rfl (by decide) (by decide) (fun H locs hP hD hS => ?_)
  have hP := hP.sub (ws' := (w_37 cI tS a_pat a_pat_bytes a_mis a_set a_set_begins a_set_ends a_tre a_tre_kinds a_tre_values a_tre_mosts a_tre_owners a_tre_sizes a_tre_firstRanges a_tre_rangeCounts a_tre_begins a_tre_ends a_tre_waiting a_opn a_opn_places a_opn_numbers a_opn_flagsAround a_opn_rows a_opn_parts a_rdr a_grp a_esc a_cls a_opg a_rep pat_length mis_number mis_place set_pieces tre_nodes tre_ranges tre_waits opn_depth rdr_place rdr_flags rdr_repeatable pat_bytes set_begins set_ends tre_kinds tre_values tre_mosts tre_owners tre_sizes tre_firstRanges tre_rangeCounts tre_begins tre_ends tre_waiting opn_parts)) [18, 0, 1, 2, 3, 4, 19, 5, 6, 7, 8, 9, 10, 11, 12, 13, 14, 15, 16, 17] rfl
  have hD := hD.sub (ws' := (w_37 cI tS a_pat a_pat_bytes a_mis a_set a_set_begins a_set_ends a_tre a_tre_kinds a_tre_values a_tre_mosts a_tre_owners a_tre_sizes a_tre_firstRanges a_tre_rangeCounts a_tre_begins a_tre_ends a_tre_waiting a_opn a_opn_places a_opn_numbers a_opn_flagsAround a_opn_rows a_opn_parts a_rdr a_grp a_esc a_cls a_opg a_rep pat_length mis_number mis_place set_pieces tre_nodes tre_ranges tre_waits opn_depth rdr_place rdr_flags rdr_repeatable pat_bytes set_begins set_ends tre_kinds tre_values tre_mosts tre_owners tre_sizes tre_firstRanges tre_rangeCounts tre_begins tre_ends tre_waiting opn_parts)) [18, 0, 1, 2, 3, 4, 19, 5, 6, 7, 8, 9, 10, 11, 12, 13, 14, 15, 16, 17] (by decide) rfl
  refine lv_istore_n (lv' := [(1, .int x8), (0, .ref a_rdr)]) hx hb d_RDR_readCharacter_11 rfl hl (by decide) rfl (fun ls hl => ?_)
  refine lv_iload_n hx hb d_RDR_readCharacter_12 rfl (lv_at hl 0 rfl) ?_
  refine lv_iconst (v := (-1)) hx hb d_RDR_readCharacter_13 (by decide) ?_
  refine lv_icmp_ne (tgt := 30) hx hb d_RDR_readCharacter_14 (by decide) (fun c_ => ?_) (fun c_ => ?_)
  · have hf := f_neg c_ hf
    refine lv_aload_n hx hb d_RDR_readCharacter_30 rfl (lv_at hl 1 rfl) ?_
    refine lv_iload_n hx hb d_RDR_readCharacter_31 rfl (lv_at hl 0 rfl) ?_
    obtain ⟨x32, hg, hf⟩ := bnd hf
    have hPc := hP.sub (ws' := (w_31 cI tS a_set a_set_begins a_set_ends a_tre a_tre_kinds a_tre_values a_tre_mosts a_tre_owners a_tre_sizes a_tre_firstRanges a_tre_rangeCounts a_tre_begins a_tre_ends a_tre_waiting a_rdr a_pat a_mis a_grp a_opn a_esc a_cls a_opg a_rep set_pieces tre_nodes tre_ranges tre_waits rdr_place rdr_flags rdr_repeatable set_begins set_ends tre_kinds tre_values tre_mosts tre_owners tre_sizes tre_firstRanges tre_rangeCounts tre_begins tre_ends tre_waiting)) [2, 3, 5, 7, 8, 9, 10, 11, 12, 13, 14, 15, 16, 17, 18] rfl
    have hDc := hD.sub (ws' := (w_31 cI tS a_set a_set_begins a_set_ends a_tre a_tre_kinds a_tre_values a_tre_mosts a_tre_owners a_tre_sizes a_tre_firstRanges a_tre_rangeCounts a_tre_begins a_tre_ends a_tre_waiting a_rdr a_pat a_mis a_grp a_opn a_esc a_cls a_opg a_rep set_pieces tre_nodes tre_ranges tre_waits rdr_place rdr_flags rdr_repeatable set_begins set_ends tre_kinds tre_values tre_mosts tre_owners tre_sizes tre_firstRanges tre_rangeCounts tre_begins tre_ends tre_waiting)) [2, 3, 5, 7, 8, 9, 10, 11, 12, 13, 14, 15, 16, 17, 18] (by decide) rfl
    have hFc := va_free (wc := (w_31 cI tS a_set a_set_begins a_set_ends a_tre a_tre_kinds a_tre_values a_tre_mosts a_tre_owners a_tre_sizes a_tre_firstRanges a_tre_rangeCounts a_tre_begins a_tre_ends a_tre_waiting a_rdr a_pat a_mis a_grp a_opn a_esc a_cls a_opg a_rep set_pieces tre_nodes tre_ranges tre_waits rdr_place rdr_flags rdr_repeatable set_begins set_ends tre_kinds tre_values tre_mosts tre_owners tre_sizes tre_firstRanges tre_rangeCounts tre_begins tre_ends tre_waiting)) hD hS hA [2, 3, 5, 7, 8, 9, 10, 11, 12, 13, 14, 15, 16, 17, 18] rfl
    refine cal_v (va_runV (As := [.int x8]) (rest := []) ⟨hx, hb, hml, hown, hts⟩ (c_RDR_addCharacter l dC dI cI tS H.size a_set a_set_begins a_set_ends a_tre a_tre_kinds a_tre_values a_tre_mosts a_tre_owners a_tre_sizes a_tre_firstRanges a_tre_rangeCounts a_tre_begins a_tre_ends a_tre_waiting a_rdr a_pat a_mis a_grp a_opn a_esc a_cls a_opg a_rep set_pieces tre_nodes tre_ranges tre_waits rdr_place rdr_flags rdr_repeatable set_begins set_ends tre_kinds tre_values tre_mosts tre_owners tre_sizes tre_firstRanges tre_rangeCounts tre_begins tre_ends tre_waiting x8 x32 hg) ⟨callB_of 1 hts (gN tw_342) rfl rfl rfl (hts _ tw_137) (hts _ tw_341) hd_RDR_addCharacter ⟨Nat.le_of_ble_eq_true rfl, Nat.le_of_ble_eq_true rfl⟩, hts _ tw_343, hts _ tw_344⟩ (pre_V hK hPc hDc hst0 hS hFc (va_recv hK hPc (ci := 10) (q0 := 2) rfl rfl)) rfl rfl hl.1 rfl (lv_room (Nat.le_of_ble_eq_true rfl)) d_RDR_readCharacter_32 ⟨Nat.zero_le _, Nat.zero_le _⟩) hP hD hS hA [2, 3, 5, 7, 8, 9, 10, 11, 12, 13, 14, 15, 16, 17, 18] [0, 1, 4, 6, 19] rfl rfl (by decide) (by decide) (fun H locs hP hD hS => ?_)
    have hP := hP.sub (ws' := (w_37 cI tS a_pat a_pat_bytes a_mis a_set a_set_begins a_set_ends a_tre a_tre_kinds a_tre_values a_tre_mosts a_tre_owners a_tre_sizes a_tre_firstRanges a_tre_rangeCounts a_tre_begins a_tre_ends a_tre_waiting a_opn a_opn_places a_opn_numbers a_opn_flagsAround a_opn_rows a_opn_parts a_rdr a_grp a_esc a_cls a_opg a_rep pat_length mis_number mis_place x32.1 x32.2.1 x32.2.2.1 x32.2.2.2.1 opn_depth rdr_place rdr_flags rdr_repeatable pat_bytes x32.2.2.2.2.1 x32.2.2.2.2.2.1 x32.2.2.2.2.2.2.1 x32.2.2.2.2.2.2.2.1 x32.2.2.2.2.2.2.2.2.1 x32.2.2.2.2.2.2.2.2.2.1 x32.2.2.2.2.2.2.2.2.2.2.1 x32.2.2.2.2.2.2.2.2.2.2.2.1 x32.2.2.2.2.2.2.2.2.2.2.2.2.1 x32.2.2.2.2.2.2.2.2.2.2.2.2.2.1 x32.2.2.2.2.2.2.2.2.2.2.2.2.2.2.1 x32.2.2.2.2.2.2.2.2.2.2.2.2.2.2.2 opn_parts)) [0, 1, 5, 6, 2, 7, 3, 8, 9, 10, 11, 12, 13, 14, 15, 16, 17, 18, 19, 4] rfl
    have hD := hD.sub (ws' := (w_37 cI tS a_pat a_pat_bytes a_mis a_set a_set_begins a_set_ends a_tre a_tre_kinds a_tre_values a_tre_mosts a_tre_owners a_tre_sizes a_tre_firstRanges a_tre_rangeCounts a_tre_begins a_tre_ends a_tre_waiting a_opn a_opn_places a_opn_numbers a_opn_flagsAround a_opn_rows a_opn_parts a_rdr a_grp a_esc a_cls a_opg a_rep pat_length mis_number mis_place x32.1 x32.2.1 x32.2.2.1 x32.2.2.2.1 opn_depth rdr_place rdr_flags rdr_repeatable pat_bytes x32.2.2.2.2.1 x32.2.2.2.2.2.1 x32.2.2.2.2.2.2.1 x32.2.2.2.2.2.2.2.1 x32.2.2.2.2.2.2.2.2.1 x32.2.2.2.2.2.2.2.2.2.1 x32.2.2.2.2.2.2.2.2.2.2.1 x32.2.2.2.2.2.2.2.2.2.2.2.1 x32.2.2.2.2.2.2.2.2.2.2.2.2.1 x32.2.2.2.2.2.2.2.2.2.2.2.2.2.1 x32.2.2.2.2.2.2.2.2.2.2.2.2.2.2.1 x32.2.2.2.2.2.2.2.2.2.2.2.2.2.2.2 opn_parts)) [0, 1, 5, 6, 2, 7, 3, 8, 9, 10, 11, 12, 13, 14, 15, 16, 17, 18, 19, 4] (by decide) rfl
    refine lv_aload_n hx hb d_RDR_readCharacter_35 rfl (lv_at hl 1 rfl) ?_
    refine lv_aload_n hx hb d_RDR_readCharacter_36 rfl (lv_at hl 1 rfl) ?_
    refine va_get (D := (dC, dI)) (ci := 10) (v := .int rdr_place) (C := R_RDR) (T := F_RDR) (N := N_RDR) hx hb hts i_RDR hown hK hP 5 rfl rfl 10 (by decide) (hts _ tw_41) (fun _ h9 => h9) rfl d_RDR_readCharacter_37 ?_
    refine lv_iload_n hx hb d_RDR_readCharacter_40 rfl (lv_at hl 0 rfl) ?_
    obtain ⟨x41, hg, hf⟩ := bnd hf
    have hPc := hP.sub (ws' := (w_11 cI tS)) [] rfl
    have hDc := hD.sub (ws' := (w_11 cI tS)) [] (by decide) rfl
    have hFc := va_free (wc := (w_11 cI tS)) hD hS hA [] rfl
    refine cal_i (va_runSN (As := [.int x8]) (rest := [.int rdr_place, .ref a_rdr]) ⟨hx, hb, hml, hown, hts⟩ (c_PN_widthOf l dC dI cI tS H.size x8 x41 hg) ⟨va_cnB 1 hts (gN tw_270) rfl rfl rfl (hst0.2 _ tn_384) (hts _ tw_73) hd_PN_widthOf ⟨Nat.le_of_ble_eq_true rfl, Nat.le_of_ble_eq_true rfl⟩, hts _ tw_272, trivial⟩ (pre_S hK hPc hDc hst0 hS hFc) rfl rfl hl.1 rfl (lv_room (Nat.le_of_ble_eq_true rfl)) d_RDR_readCharacter_41 ⟨Nat.zero_le _, Nat.zero_le _⟩) hP hD hS hA [] [0, 1, 2, 3, 4, 5, 6, 7, 8, 9, 10, 11, 12, 13, 14, 15, 16, 17, 18, 19] rfl rfl (by decide) (by decide) (fun H locs hP hD hS => ?_)
    have hP := hP.sub (ws' := (w_37 cI tS a_pat a_pat_bytes a_mis a_set a_set_begins a_set_ends a_tre a_tre_kinds a_tre_values a_tre_mosts a_tre_owners a_tre_sizes a_tre_firstRanges a_tre_rangeCounts a_tre_begins a_tre_ends a_tre_waiting a_opn a_opn_places a_opn_numbers a_opn_flagsAround a_opn_rows a_opn_parts a_rdr a_grp a_esc a_cls a_opg a_rep pat_length mis_number mis_place x32.1 x32.2.1 x32.2.2.1 x32.2.2.2.1 opn_depth rdr_place rdr_flags rdr_repeatable pat_bytes x32.2.2.2.2.1 x32.2.2.2.2.2.1 x32.2.2.2.2.2.2.1 x32.2.2.2.2.2.2.2.1 x32.2.2.2.2.2.2.2.2.1 x32.2.2.2.2.2.2.2.2.2.1 x32.2.2.2.2.2.2.2.2.2.2.1 x32.2.2.2.2.2.2.2.2.2.2.2.1 x32.2.2.2.2.2.2.2.2.2.2.2.2.1 x32.2.2.2.2.2.2.2.2.2.2.2.2.2.1 x32.2.2.2.2.2.2.2.2.2.2.2.2.2.2.1 x32.2.2.2.2.2.2.2.2.2.2.2.2.2.2.2 opn_parts)) [0, 1, 2, 3, 4, 5, 6, 7, 8, 9, 10, 11, 12, 13, 14, 15, 16, 17, 18, 19] rfl
    have hD := hD.sub (ws' := (w_37 cI tS a_pat a_pat_bytes a_mis a_set a_set_begins a_set_ends a_tre a_tre_kinds a_tre_values a_tre_mosts a_tre_owners a_tre_sizes a_tre_firstRanges a_tre_rangeCounts a_tre_begins a_tre_ends a_tre_waiting a_opn a_opn_places a_opn_numbers a_opn_flagsAround a_opn_rows a_opn_parts a_rdr a_grp a_esc a_cls a_opg a_rep pat_length mis_number mis_place x32.1 x32.2.1 x32.2.2.1 x32.2.2.2.1 opn_depth rdr_place rdr_flags rdr_repeatable pat_bytes x32.2.2.2.2.1 x32.2.2.2.2.2.1 x32.2.2.2.2.2.2.1 x32.2.2.2.2.2.2.2.1 x32.2.2.2.2.2.2.2.2.1 x32.2.2.2.2.2.2.2.2.2.1 x32.2.2.2.2.2.2.2.2.2.2.1 x32.2.2.2.2.2.2.2.2.2.2.2.1 x32.2.2.2.2.2.2.2.2.2.2.2.2.1 x32.2.2.2.2.2.2.2.2.2.2.2.2.2.1 x32.2.2.2.2.2.2.2.2.2.2.2.2.2.2.1 x32.2.2.2.2.2.2.2.2.2.2.2.2.2.2.2 opn_parts)) [0, 1, 2, 3, 4, 5, 6, 7, 8, 9, 10, 11, 12, 13, 14, 15, 16, 17, 18, 19] (by decide) rfl
    refine lv_iadd hx hb d_RDR_readCharacter_44 ?_
    refine lv_iconst (v := 1) hx hb d_RDR_readCharacter_45 (by decide) ?_
    obtain ⟨x46, hg, hf⟩ := bnd hf
    have hPc := hP.sub (ws' := (w_13 cI tS a_opn a_opn_places a_opn_numbers a_opn_flagsAround a_opn_rows a_opn_parts a_rdr a_pat a_mis a_tre a_grp a_set a_esc a_cls a_opg a_rep opn_depth rdr_place rdr_flags rdr_repeatable opn_parts)) [4, 5, 19] rfl
    have hDc := hD.sub (ws' := (w_13 cI tS a_opn a_opn_places a_opn_numbers a_opn_flagsAround a_opn_rows a_opn_parts a_rdr a_pat a_mis a_tre a_grp a_set a_esc a_cls a_opg a_rep opn_depth rdr_place rdr_flags rdr_repeatable opn_parts)) [4, 5, 19] (by decide) rfl
    have hFc := va_free (wc := (w_13 cI tS a_opn a_opn_places a_opn_numbers a_opn_flagsAround a_opn_rows a_opn_parts a_rdr a_pat a_mis a_tre a_grp a_set a_esc a_cls a_opg a_rep opn_depth rdr_place rdr_flags rdr_repeatable opn_parts)) hD hS hA [4, 5, 19] rfl
    refine cal_v (va_runV (As := [.int (rdr_place + x41), .int (b2i true)]) (rest := []) ⟨hx, hb, hml, hown, hts⟩ (c_RDR_partDone l dC dI cI tS H.size a_opn a_opn_places a_opn_numbers a_opn_flagsAround a_opn_rows a_opn_parts a_rdr a_pat a_mis a_tre a_grp a_set a_esc a_cls a_opg a_rep opn_depth rdr_place rdr_flags rdr_repeatable opn_parts (rdr_place + x41) true x46 hg) ⟨callB_of 2 hts (gN tw_159) rfl rfl rfl (hts _ tw_137) (hts _ tw_158) hd_RDR_partDone ⟨Nat.le_of_ble_eq_true rfl, Nat.le_of_ble_eq_true rfl⟩, hts _ tw_160, hts _ tw_161⟩ (pre_V hK hPc hDc hst0 hS hFc (va_recv hK hPc (ci := 10) (q0 := 1) rfl rfl)) rfl rfl hl.1 rfl (lv_room (Nat.le_of_ble_eq_true rfl)) d_RDR_readCharacter_46 ⟨Nat.zero_le _, Nat.zero_le _⟩) hP hD hS hA [4, 5, 19] [0, 1, 2, 3, 6, 7, 8, 9, 10, 11, 12, 13, 14, 15, 16, 17, 18] rfl rfl (by decide) (by decide) (fun H locs hP hD hS => ?_)
    have hP := hP.sub (ws' := (w_37 cI tS a_pat a_pat_bytes a_mis a_set a_set_begins a_set_ends a_tre a_tre_kinds a_tre_values a_tre_mosts a_tre_owners a_tre_sizes a_tre_firstRanges a_tre_rangeCounts a_tre_begins a_tre_ends a_tre_waiting a_opn a_opn_places a_opn_numbers a_opn_flagsAround a_opn_rows a_opn_parts a_rdr a_grp a_esc a_cls a_opg a_rep pat_length mis_number mis_place x32.1 x32.2.1 x32.2.2.1 x32.2.2.2.1 opn_depth x46.1 rdr_flags x46.2.1 pat_bytes x32.2.2.2.2.1 x32.2.2.2.2.2.1 x32.2.2.2.2.2.2.1 x32.2.2.2.2.2.2.2.1 x32.2.2.2.2.2.2.2.2.1 x32.2.2.2.2.2.2.2.2.2.1 x32.2.2.2.2.2.2.2.2.2.2.1 x32.2.2.2.2.2.2.2.2.2.2.2.1 x32.2.2.2.2.2.2.2.2.2.2.2.2.1 x32.2.2.2.2.2.2.2.2.2.2.2.2.2.1 x32.2.2.2.2.2.2.2.2.2.2.2.2.2.2.1 x32.2.2.2.2.2.2.2.2.2.2.2.2.2.2.2 x46.2.2)) [0, 1, 2, 3, 17, 18, 4, 5, 6, 7, 8, 9, 10, 11, 12, 13, 14, 15, 16, 19] rfl
    have hD := hD.sub (ws' := (w_37 cI tS a_pat a_pat_bytes a_mis a_set a_set_begins a_set_ends a_tre a_tre_kinds a_tre_values a_tre_mosts a_tre_owners a_tre_sizes a_tre_firstRanges a_tre_rangeCounts a_tre_begins a_tre_ends a_tre_waiting a_opn a_opn_places a_opn_numbers a_opn_flagsAround a_opn_rows a_opn_parts a_rdr a_grp a_esc a_cls a_opg a_rep pat_length mis_number mis_place x32.1 x32.2.1 x32.2.2.1 x32.2.2.2.1 opn_depth x46.1 rdr_flags x46.2.1 pat_bytes x32.2.2.2.2.1 x32.2.2.2.2.2.1 x32.2.2.2.2.2.2.1 x32.2.2.2.2.2.2.2.1 x32.2.2.2.2.2.2.2.2.1 x32.2.2.2.2.2.2.2.2.2.1 x32.2.2.2.2.2.2.2.2.2.2.1 x32.2.2.2.2.2.2.2.2.2.2.2.1 x32.2.2.2.2.2.2.2.2.2.2.2.2.1 x32.2.2.2.2.2.2.2.2.2.2.2.2.2.1 x32.2.2.2.2.2.2.2.2.2.2.2.2.2.2.1 x32.2.2.2.2.2.2.2.2.2.2.2.2.2.2.2 x46.2.2)) [0, 1, 2, 3, 17, 18, 4, 5, 6, 7, 8, 9, 10, 11, 12, 13, 14, 15, 16, 19] (by decide) rfl
    obtain rfl := Option.some.inj hf
    exact W.vret hx hb hr (fun t ht hW => ⟨⟨(), rfl, trivial, ⟨by rw [ht]; exact hP, va_K.moved hW.alike hK, hD⟩⟩, hS.F ht⟩) hS.2.2 d_RDR_readCharacter_49
  · have hf := f_pos c_ hf
    refine lv_aload_n hx hb d_RDR_readCharacter_17 rfl (lv_at hl 1 rfl) ?_
    refine va_get (D := (dC, dI)) (ci := 10) (v := .ref a_mis) (C := R_RDR) (T := F_RDR) (N := N_RDR) hx hb hts i_RDR hown hK hP 5 rfl rfl 1 (by decide) (hts _ tw_17) (fun _ h9 => h9) rfl d_RDR_readCharacter_18 ?_
    refine lv_iconst (v := 1) hx hb d_RDR_readCharacter_21 (by decide) ?_
    refine lv_aload_n hx hb d_RDR_readCharacter_22 rfl (lv_at hl 1 rfl) ?_
    refine va_get (D := (dC, dI)) (ci := 10) (v := .int rdr_place) (C := R_RDR) (T := F_RDR) (N := N_RDR) hx hb hts i_RDR hown hK hP 5 rfl rfl 10 (by decide) (hts _ tw_41) (fun _ h9 => h9) rfl d_RDR_readCharacter_23 ?_
    obtain ⟨x26, hg, hf⟩ := bnd hf
    have hPc := hP.sub (ws' := (w_2 cI tS a_mis mis_number mis_place)) [1] rfl
    have hDc := hD.sub (ws' := (w_2 cI tS a_mis mis_number mis_place)) [1] (by decide) rfl
    have hFc := va_free (wc := (w_2 cI tS a_mis mis_number mis_place)) hD hS hA [1] rfl
    refine cal_v (va_runV (As := [.int 1, .int rdr_place]) (rest := []) ⟨hx, hb, hml, hown, hts⟩ (c_MIS_tell l dC dI cI tS H.size a_mis mis_number mis_place 1 rdr_place x26 hg) ⟨callB_of 2 hts (gN tw_142) rfl rfl rfl (hts _ tw_20) (hts _ tw_141) hd_MIS_tell ⟨Nat.le_of_ble_eq_true rfl, Nat.le_of_ble_eq_true rfl⟩, hts _ tw_143, hts _ tw_144⟩ (pre_V hK hPc hDc hst0 hS hFc (va_recv hK hPc (ci := 1) (q0 := 0) rfl rfl)) rfl rfl hl.1 rfl (lv_room (Nat.le_of_ble_eq_true rfl)) d_RDR_readCharacter_26 ⟨Nat.zero_le _, Nat.zero_le _⟩) hP hD hS hA [1] [0, 2, 3, 4, 5, 6, 7, 8, 9, 10, 11, 12, 13, 14, 15, 16, 17, 18, 19] rfl rfl (by decide) (by decide) (fun H locs hP hD hS => ?_)
    have hP := hP.sub (ws' := (w_37 cI tS a_pat a_pat_bytes a_mis a_set a_set_begins a_set_ends a_tre a_tre_kinds a_tre_values a_tre_mosts a_tre_owners a_tre_sizes a_tre_firstRanges a_tre_rangeCounts a_tre_begins a_tre_ends a_tre_waiting a_opn a_opn_places a_opn_numbers a_opn_flagsAround a_opn_rows a_opn_parts a_rdr a_grp a_esc a_cls a_opg a_rep pat_length x26.1 x26.2 set_pieces tre_nodes tre_ranges tre_waits opn_depth rdr_place rdr_flags rdr_repeatable pat_bytes set_begins set_ends tre_kinds tre_values tre_mosts tre_owners tre_sizes tre_firstRanges tre_rangeCounts tre_begins tre_ends tre_waiting opn_parts)) [0, 19, 1, 2, 3, 4, 5, 6, 7, 8, 9, 10, 11, 12, 13, 14, 15, 16, 17, 18] rfl
    have hD := hD.sub (ws' := (w_37 cI tS a_pat a_pat_bytes a_mis a_set a_set_begins a_set_ends a_tre a_tre_kinds a_tre_values a_tre_mosts a_tre_owners a_tre_sizes a_tre_firstRanges a_tre_rangeCounts a_tre_begins a_tre_ends a_tre_waiting a_opn a_opn_places a_opn_numbers a_opn_flagsAround a_opn_rows a_opn_parts a_rdr a_grp a_esc a_cls a_opg a_rep pat_length x26.1 x26.2 set_pieces tre_nodes tre_ranges tre_waits opn_depth rdr_place rdr_flags rdr_repeatable pat_bytes set_begins set_ends tre_kinds tre_values tre_mosts tre_owners tre_sizes tre_firstRanges tre_rangeCounts tre_begins tre_ends tre_waiting opn_parts)) [0, 19, 1, 2, 3, 4, 5, 6, 7, 8, 9, 10, 11, 12, 13, 14, 15, 16, 17, 18] (by decide) rfl
    obtain rfl := Option.some.inj hf
    exact W.vret hx hb hr (fun t ht hW => ⟨⟨(), rfl, trivial, ⟨by rw [ht]; exact hP, va_K.moved hW.alike hK, hD⟩⟩, hS.F ht⟩) hS.2.2 d_RDR_readCharacter_29
def f_RDR_end_L33 (tre_ranges : Int32) (opn_depth : Int32) (opn_places : Nat → Int32) (mis_number : Int32) (mis_place : Int32) (tre_nodes : Int32) (tre_waits : Int32) (rdr_repeatable : Bool) (tre_kinds : Nat → Int32) (tre_values : Nat → Int32) (tre_mosts : Nat → Int32) (tre_owners : Nat → Int32) (tre_sizes : Nat → Int32) (tre_firstRanges : Nat → Int32) (tre_rangeCounts : Nat → Int32) (tre_waiting : Nat → Int32) (opn_rows : Nat → Int32) (opn_parts : Nat → Int32) : Option (Int32 × Int32 × Int32 × Int32 × Bool × (Nat → Int32) × (Nat → Int32) × (Nat → Int32) × (Nat → Int32) × (Nat → Int32) × (Nat → Int32) × (Nat → Int32) × (Nat → Int32) × (Nat → Int32) × (Nat → Int32)) :=
  if mis_number = 0 then bnd_ (f_RDR_endAlternatives tre_nodes tre_ranges tre_waits opn_depth rdr_repeatable tre_kinds tre_values tre_mosts tre_owners tre_sizes tre_firstRanges tre_rangeCounts tre_waiting opn_rows opn_parts) (fun x44 => some (mis_number, mis_place, x44.1, x44.2.1, x44.2.2.1, x44.2.2.2.1, x44.2.2.2.2.1, x44.2.2.2.2.2.1, x44.2.2.2.2.2.2.1, x44.2.2.2.2.2.2.2.1, x44.2.2.2.2.2.2.2.2.1, x44.2.2.2.2.2.2.2.2.2.1, x44.2.2.2.2.2.2.2.2.2.2.1, x44.2.2.2.2.2.2.2.2.2.2.2.1, x44.2.2.2.2.2.2.2.2.2.2.2.2)) else some (mis_number, mis_place, tre_nodes, tre_waits, rdr_repeatable, tre_kinds, tre_values, tre_mosts, tre_owners, tre_sizes, tre_firstRanges, tre_rangeCounts, tre_waiting, opn_rows, opn_parts)
def f_RDR_end (mis_number : Int32) (mis_place : Int32) (tre_nodes : Int32) (tre_ranges : Int32) (tre_waits : Int32) (opn_depth : Int32) (rdr_repeatable : Bool) (tre_kinds : Nat → Int32) (tre_values : Nat → Int32) (tre_mosts : Nat → Int32) (tre_owners : Nat → Int32) (tre_sizes : Nat → Int32) (tre_firstRanges : Nat → Int32) (tre_rangeCounts : Nat → Int32) (tre_waiting : Nat → Int32) (opn_places : Nat → Int32) (opn_rows : Nat → Int32) (opn_parts : Nat → Int32) : Option (Int32 × Int32 × Int32 × Int32 × Bool × (Nat → Int32) × (Nat → Int32) × (Nat → Int32) × (Nat → Int32) × (Nat → Int32) × (Nat → Int32) × (Nat → Int32) × (Nat → Int32) × (Nat → Int32) × (Nat → Int32)) :=
  if opn_depth ≤ 0 then f_RDR_end_L33 tre_ranges opn_depth opn_places mis_number mis_place tre_nodes tre_waits rdr_repeatable tre_kinds tre_values tre_mosts tre_owners tre_sizes tre_firstRanges tre_rangeCounts tre_waiting opn_rows opn_parts else grd (inb opn_depth 31) (bnd_ (f_MIS_tell mis_number mis_place 2 (opn_places opn_depth.toNatClampNeg)) (fun x30 => f_RDR_end_L33 tre_ranges opn_depth opn_places x30.1 x30.2 tre_nodes tre_waits rdr_repeatable tre_kinds tre_values tre_mosts tre_owners tre_sizes tre_firstRanges tre_rangeCounts tre_waiting opn_rows opn_parts))
set_option maxRecDepth 100000 in
set_option maxHeartbeats 4000000 in
theorem c_RDR_end (l : Launch) (dC : Nat → ClassId) (dI : Nat → Nat → Nat) (cI : ClassId) (tS : Nat → Nat) (sz : Nat) (a_mis a_tre a_tre_kinds a_tre_values a_tre_mosts a_tre_owners a_tre_sizes a_tre_firstRanges a_tre_rangeCounts a_tre_begins a_tre_ends a_tre_waiting a_opn a_opn_places a_opn_numbers a_opn_flagsAround a_opn_rows a_opn_parts a_rdr a_pat a_grp a_set a_esc a_cls a_opg a_rep : Nat) (mis_number : Int32) (mis_place : Int32) (tre_nodes : Int32) (tre_ranges : Int32) (tre_waits : Int32) (opn_depth : Int32) (rdr_place : Int32) (rdr_flags : Int32) (rdr_repeatable : Bool) (tre_kinds : Nat → Int32) (tre_values : Nat → Int32) (tre_mosts : Nat → Int32) (tre_owners : Nat → Int32) (tre_sizes : Nat → Int32) (tre_firstRanges : Nat → Int32) (tre_rangeCounts : Nat → Int32) (tre_waiting : Nat → Int32) (opn_places : Nat → Int32) (opn_rows : Nat → Int32) (opn_parts : Nat → Int32) (R0 : Int32 × Int32 × Int32 × Int32 × Bool × (Nat → Int32) × (Nat → Int32) × (Nat → Int32) × (Nat → Int32) × (Nat → Int32) × (Nat → Int32) × (Nat → Int32) × (Nat → Int32) × (Nat → Int32) × (Nat → Int32)) (hf : f_RDR_end mis_number mis_place tre_nodes tre_ranges tre_waits opn_depth rdr_repeatable tre_kinds tre_values tre_mosts tre_owners tre_sizes tre_firstRanges tre_rangeCounts tre_waiting opn_places opn_rows opn_parts = some R0) : Met l y_RDR_end ws_RDR_end ({ frames := 4, cells := 0, slots := 0, locals := 89 }) (va_Pc [.ref a_rdr] (preS (dC, dI) classes [(cI, .int)] tS (w_38 cI tS a_mis a_tre a_tre_kinds a_tre_values a_tre_mosts a_tre_owners a_tre_sizes a_tre_firstRanges a_tre_rangeCounts a_tre_begins a_tre_ends a_tre_waiting a_opn a_opn_places a_opn_numbers a_opn_flagsAround a_opn_rows a_opn_parts a_rdr a_pat a_grp a_set a_esc a_cls a_opg a_rep mis_number mis_place tre_nodes tre_ranges tre_waits opn_depth rdr_place rdr_flags rdr_repeatable tre_kinds tre_values tre_mosts tre_owners tre_sizes tre_firstRanges tre_rangeCounts tre_waiting opn_places opn_rows opn_parts) sz)) (va_Qv (fun _ : Unit => True) (fun _ t => posS (dC, dI) classes [(cI, .int)] (w_38 cI tS a_mis a_tre a_tre_kinds a_tre_values a_tre_mosts a_tre_owners a_tre_sizes a_tre_firstRanges a_tre_rangeCounts a_tre_begins a_tre_ends a_tre_waiting a_opn a_opn_places a_opn_numbers a_opn_flagsAround a_opn_rows a_opn_parts a_rdr a_pat a_grp a_set a_esc a_cls a_opg a_rep R0.1 R0.2.1 R0.2.2.1 tre_ranges R0.2.2.2.1 opn_depth rdr_place rdr_flags R0.2.2.2.2.1 R0.2.2.2.2.2.1 R0.2.2.2.2.2.2.1 R0.2.2.2.2.2.2.2.1 R0.2.2.2.2.2.2.2.2.1 R0.2.2.2.2.2.2.2.2.2.1 R0.2.2.2.2.2.2.2.2.2.2.1 R0.2.2.2.2.2.2.2.2.2.2.2.1 R0.2.2.2.2.2.2.2.2.2.2.2.2.1 opn_places R0.2.2.2.2.2.2.2.2.2.2.2.2.2.1 R0.2.2.2.2.2.2.2.2.2.2.2.2.2.2) (va_A (w_38 cI tS a_mis a_tre a_tre_kinds a_tre_values a_tre_mosts a_tre_owners a_tre_sizes a_tre_firstRanges a_tre_rangeCounts a_tre_begins a_tre_ends a_tre_waiting a_opn a_opn_places a_opn_numbers a_opn_flagsAround a_opn_rows a_opn_parts a_rdr a_pat a_grp a_set a_esc a_cls a_opg a_rep mis_number mis_place tre_nodes tre_ranges tre_waits opn_depth rdr_place rdr_flags rdr_repeatable tre_kinds tre_values tre_mosts tre_owners tre_sizes tre_firstRanges tre_rangeCounts tre_waiting opn_places opn_rows opn_parts) sz) t) (va_A (w_38 cI tS a_mis a_tre a_tre_kinds a_tre_values a_tre_mosts a_tre_owners a_tre_sizes a_tre_firstRanges a_tre_rangeCounts a_tre_begins a_tre_ends a_tre_waiting a_opn a_opn_places a_opn_numbers a_opn_flagsAround a_opn_rows a_opn_parts a_rdr a_pat a_grp a_set a_esc a_cls a_opg a_rep mis_number mis_place tre_nodes tre_ranges tre_waits opn_depth rdr_place rdr_flags rdr_repeatable tre_kinds tre_values tre_mosts tre_owners tre_sizes tre_firstRanges tre_rangeCounts tre_waiting opn_places opn_rows opn_parts) sz)) 0 0 (va_A (w_38 cI tS a_mis a_tre a_tre_kinds a_tre_values a_tre_mosts a_tre_owners a_tre_sizes a_tre_firstRanges a_tre_rangeCounts a_tre_begins a_tre_ends a_tre_waiting a_opn a_opn_places a_opn_numbers a_opn_flagsAround a_opn_rows a_opn_parts a_rdr a_pat a_grp a_set a_esc a_cls a_opg a_rep mis_number mis_place tre_nodes tre_ranges tre_waits opn_depth rdr_place rdr_flags rdr_repeatable tre_kinds tre_values tre_mosts tre_owners tre_sizes tre_firstRanges tre_rangeCounts tre_waiting opn_places opn_rows opn_parts) sz) := by
  refine Met.ofW (cc := b_RDR_end) (maxL := 1) (ret := none) (by decide) rfl ?_
  intro p e s m args below meth c s₁ B hml hv
  obtain ⟨rfl, hsz, hP, hK, hD0, hst0⟩ := hv
  have hx := B.exec
  have hb := B.bytes
  have hr := B.returns
  have hts0 := atoms_spec (ws := ws_RDR_end) B.pre
  have hts : ∀ w ∈ GW, w.before _ s = true := fun w h => hts0 w (List.mem_cons_of_mem _ h)
  have hown : s.vm.findClass R_RDR = some m.cls := findClass_of_methodNamed B.named
  have hlocks := B.notSynchronized
  subst hsz
  have hD := hD0.self (sz := s.heap.size)
  generalize hAe : va_A (w_38 cI tS a_mis a_tre a_tre_kinds a_tre_values a_tre_mosts a_tre_owners a_tre_sizes a_tre_firstRanges a_tre_rangeCounts a_tre_begins a_tre_ends a_tre_waiting a_opn a_opn_places a_opn_numbers a_opn_flagsAround a_opn_rows a_opn_parts a_rdr a_pat a_grp a_set a_esc a_cls a_opg a_rep mis_number mis_place tre_nodes tre_ranges tre_waits opn_depth rdr_place rdr_flags rdr_repeatable tre_kinds tre_values tre_mosts tre_owners tre_sizes tre_firstRanges tre_rangeCounts tre_waiting opn_places opn_rows opn_parts) s.heap.size = A at hD hst0 ⊢
  have hA : ∀ q : Nat, s.heap.size ≤ q → A q := fun q h => by rw [← hAe]; exact Or.inr h
  have hS : va_S A s.heap s.heap [] := va_S.rf
  have hl := lv_entry ([.ref a_rdr]) (n := 1) (Nat.le_of_ble_eq_true rfl)
  rw [lg_entry_eq]
  generalize (lg_sl ([.ref a_rdr]) ++ List.replicate (1 - (lg_sl ([.ref a_rdr])).length) Slot.unset).toArray = ls at hl ⊢
  have hl : lv_has ls 1 [(0, .ref a_rdr)] := hl
  have L33 : ∀ (mis_number : Int32) (mis_place : Int32) (tre_nodes : Int32) (tre_waits : Int32) (rdr_repeatable : Bool) (tre_kinds : Nat → Int32) (tre_values : Nat → Int32) (tre_mosts : Nat → Int32) (tre_owners : Nat → Int32) (tre_sizes : Nat → Int32) (tre_firstRanges : Nat → Int32) (tre_rangeCounts : Nat → Int32) (tre_waiting : Nat → Int32) (opn_rows : Nat → Int32) (opn_parts : Nat → Int32) (H : Heap) (locs : List Loc) (ls : Array Slot), va_P (dC, dI) classes (w_38 cI tS a_mis a_tre a_tre_kinds a_tre_values a_tre_mosts a_tre_owners a_tre_sizes a_tre_firstRanges a_tre_rangeCounts a_tre_begins a_tre_ends a_tre_waiting a_opn a_opn_places a_opn_numbers a_opn_flagsAround a_opn_rows a_opn_parts a_rdr a_pat a_grp a_set a_esc a_cls a_opg a_rep mis_number mis_place tre_nodes tre_ranges tre_waits opn_depth rdr_place rdr_flags rdr_repeatable tre_kinds tre_values tre_mosts tre_owners tre_sizes tre_firstRanges tre_rangeCounts tre_waiting opn_places opn_rows opn_parts) H → va_D A (w_38 cI tS a_mis a_tre a_tre_kinds a_tre_values a_tre_mosts a_tre_owners a_tre_sizes a_tre_firstRanges a_tre_rangeCounts a_tre_begins a_tre_ends a_tre_waiting a_opn a_opn_places a_opn_numbers a_opn_flagsAround a_opn_rows a_opn_parts a_rdr a_pat a_grp a_set a_esc a_cls a_opg a_rep mis_number mis_place tre_nodes tre_ranges tre_waits opn_depth rdr_place rdr_flags rdr_repeatable tre_kinds tre_values tre_mosts tre_owners tre_sizes tre_firstRanges tre_rangeCounts tre_waiting opn_places opn_rows opn_parts) → va_S A s.heap H locs → lv_has ls 1 [(0, .ref a_rdr)] → f_RDR_end_L33 tre_ranges opn_depth opn_places mis_number mis_place tre_nodes tre_waits rdr_repeatable tre_kinds tre_values tre_mosts tre_owners tre_sizes tre_firstRanges tre_rangeCounts tre_waiting opn_rows opn_parts = some R0 → W p l e (headSpec ws_RDR_end ({ frames := 4, cells := 0, slots := 0, locals := 89 })).room s m ([.ref a_rdr] : List Value).toArray below meth c H locs 0 0 (MQ below (va_Qv (fun _ : Unit => True) (fun _ t => posS (dC, dI) classes [(cI, .int)] (w_38 cI tS a_mis a_tre a_tre_kinds a_tre_values a_tre_mosts a_tre_owners a_tre_sizes a_tre_firstRanges a_tre_rangeCounts a_tre_begins a_tre_ends a_tre_waiting a_opn a_opn_places a_opn_numbers a_opn_flagsAround a_opn_rows a_opn_parts a_rdr a_pat a_grp a_set a_esc a_cls a_opg a_rep R0.1 R0.2.1 R0.2.2.1 tre_ranges R0.2.2.2.1 opn_depth rdr_place rdr_flags R0.2.2.2.2.1 R0.2.2.2.2.2.1 R0.2.2.2.2.2.2.1 R0.2.2.2.2.2.2.2.1 R0.2.2.2.2.2.2.2.2.1 R0.2.2.2.2.2.2.2.2.2.1 R0.2.2.2.2.2.2.2.2.2.2.1 R0.2.2.2.2.2.2.2.2.2.2.2.1 R0.2.2.2.2.2.2.2.2.2.2.2.2.1 opn_places R0.2.2.2.2.2.2.2.2.2.2.2.2.2.1 R0.2.2.2.2.2.2.2.2.2.2.2.2.2.2) (A) t) (A)) ([.ref a_rdr] : List Value).toArray s 0 0 A) (F0 m 33 ls []) := by
    intro mis_number mis_place tre_nodes tre_waits rdr_repeatable tre_kinds tre_values tre_mosts tre_owners tre_sizes tre_firstRanges tre_rangeCounts tre_waiting opn_rows opn_parts H locs ls hP hD hS hl hf
    refine lv_aload_n hx hb d_RDR_end_33 rfl (lv_at hl 0 rfl) ?_
    refine va_get (D := (dC, dI)) (ci := 10) (v := .ref a_mis) (C := R_RDR) (T := F_RDR) (N := N_RDR) hx hb hts i_RDR hown hK hP 3 rfl rfl 1 (by decide) (hts _ tw_17) (fun _ h9 => h9) rfl d_RDR_end_34 ?_
    refine va_getN (D := (dC, dI)) (ci := 1) (v := .int mis_number) (C := R_MIS) (T := F_MIS) (N := N_MIS) hx hb hts i_MIS hown hK hP 0 rfl rfl 0 (by decide) (va_Nw.use rfl (hst0.2 _ tn_44)) (fun _ h9 => h9) rfl d_RDR_end_37 ?_
    refine lv_if_ne (tgt := 47) hx hb d_RDR_end_40 (by decide) (fun c_ => ?_) (fun c_ => ?_)
    · have hf := f_neg c_ hf
      obtain rfl := Option.some.inj hf
      exact W.vret hx hb hr (fun t ht hW => ⟨⟨(), rfl, trivial, ⟨by rw [ht]; exact hP, va_K.moved hW.alike hK, hD⟩⟩, hS.F ht⟩) hS.2.2 d_RDR_end_47
    · have hf := f_pos c_ hf
      refine lv_aload_n hx hb d_RDR_end_43 rfl (lv_at hl 0 rfl) ?_
      obtain ⟨x44, hg, hf⟩ := bnd hf
      have hPc := hP.sub (ws' := (w_10 cI tS a_tre a_tre_kinds a_tre_values a_tre_mosts a_tre_owners a_tre_sizes a_tre_firstRanges a_tre_rangeCounts a_tre_begins a_tre_ends a_tre_waiting a_opn a_opn_places a_opn_numbers a_opn_flagsAround a_opn_rows a_opn_parts a_rdr a_pat a_mis a_grp a_set a_esc a_cls a_opg a_rep tre_nodes tre_ranges tre_waits opn_depth rdr_place rdr_flags rdr_repeatable tre_kinds tre_values tre_mosts tre_owners tre_sizes tre_firstRanges tre_rangeCounts tre_waiting opn_rows opn_parts)) [1, 2, 3, 4, 5, 6, 7, 8, 9, 10, 11, 13, 14] rfl
      have hDc := hD.sub (ws' := (w_10 cI tS a_tre a_tre_kinds a_tre_values a_tre_mosts a_tre_owners a_tre_sizes a_tre_firstRanges a_tre_rangeCounts a_tre_begins a_tre_ends a_tre_waiting a_opn a_opn_places a_opn_numbers a_opn_flagsAround a_opn_rows a_opn_parts a_rdr a_pat a_mis a_grp a_set a_esc a_cls a_opg a_rep tre_nodes tre_ranges tre_waits opn_depth rdr_place rdr_flags rdr_repeatable tre_kinds tre_values tre_mosts tre_owners tre_sizes tre_firstRanges tre_rangeCounts tre_waiting opn_rows opn_parts)) [1, 2, 3, 4, 5, 6, 7, 8, 9, 10, 11, 13, 14] (by decide) rfl
      have hFc := va_free (wc := (w_10 cI tS a_tre a_tre_kinds a_tre_values a_tre_mosts a_tre_owners a_tre_sizes a_tre_firstRanges a_tre_rangeCounts a_tre_begins a_tre_ends a_tre_waiting a_opn a_opn_places a_opn_numbers a_opn_flagsAround a_opn_rows a_opn_parts a_rdr a_pat a_mis a_grp a_set a_esc a_cls a_opg a_rep tre_nodes tre_ranges tre_waits opn_depth rdr_place rdr_flags rdr_repeatable tre_kinds tre_values tre_mosts tre_owners tre_sizes tre_firstRanges tre_rangeCounts tre_waiting opn_rows opn_parts)) hD hS hA [1, 2, 3, 4, 5, 6, 7, 8, 9, 10, 11, 13, 14] rfl
      refine cal_v (va_runV (As := []) (rest := []) ⟨hx, hb, hml, hown, hts⟩ (c_RDR_endAlternatives l dC dI cI tS H.size a_tre a_tre_kinds a_tre_values a_tre_mosts a_tre_owners a_tre_sizes a_tre_firstRanges a_tre_rangeCounts a_tre_begins a_tre_ends a_tre_waiting a_opn a_opn_places a_opn_numbers a_opn_flagsAround a_opn_rows a_opn_parts a_rdr a_pat a_mis a_grp a_set a_esc a_cls a_opg a_rep tre_nodes tre_ranges tre_waits opn_depth rdr_place rdr_flags rdr_repeatable tre_kinds tre_values tre_mosts tre_owners tre_sizes tre_firstRanges tre_rangeCounts tre_waiting opn_rows opn_parts x44 hg) ⟨callB_of 0 hts (gN tw_172) rfl rfl rfl (hts _ tw_137) (hts _ tw_171) hd_RDR_endAlternatives ⟨Nat.le_of_ble_eq_true rfl, Nat.le_of_ble_eq_true rfl⟩, hts _ tw_173, hts _ tw_174⟩ (pre_V hK hPc hDc hst0 hS hFc (va_recv hK hPc (ci := 10) (q0 := 2) rfl rfl)) rfl rfl hl.1 rfl (lv_room (Nat.le_of_ble_eq_true rfl)) d_RDR_end_44 ⟨Nat.zero_le _, Nat.zero_le _⟩) hP hD hS hA [1, 2, 3, 4, 5, 6, 7, 8, 9, 10, 11, 13, 14] [0, 12] rfl rfl (by decide) (by decide) (fun H locs hP hD hS => ?_)
      have hP := hP.sub (ws' := (w_38 cI tS a_mis a_tre a_tre_kinds a_tre_values a_tre_mosts a_tre_owners a_tre_sizes a_tre_firstRanges a_tre_rangeCounts a_tre_begins a_tre_ends a_tre_waiting a_opn a_opn_places a_opn_numbers a_opn_flagsAround a_opn_rows a_opn_parts a_rdr a_pat a_grp a_set a_esc a_cls a_opg a_rep mis_number mis_place x44.1 tre_ranges x44.2.1 opn_depth rdr_place rdr_flags x44.2.2.1 x44.2.2.2.1 x44.2.2.2.2.1 x44.2.2.2.2.2.1 x44.2.2.2.2.2.2.1 x44.2.2.2.2.2.2.2.1 x44.2.2.2.2.2.2.2.2.1 x44.2.2.2.2.2.2.2.2.2.1 x44.2.2.2.2.2.2.2.2.2.2.1 opn_places x44.2.2.2.2.2.2.2.2.2.2.2.1 x44.2.2.2.2.2.2.2.2.2.2.2.2)) [0, 2, 3, 4, 5, 6, 7, 8, 9, 10, 11, 12, 1, 13, 14] rfl
      have hD := hD.sub (ws' := (w_38 cI tS a_mis a_tre a_tre_kinds a_tre_values a_tre_mosts a_tre_owners a_tre_sizes a_tre_firstRanges a_tre_rangeCounts a_tre_begins a_tre_ends a_tre_waiting a_opn a_opn_places a_opn_numbers a_opn_flagsAround a_opn_rows a_opn_parts a_rdr a_pat a_grp a_set a_esc a_cls a_opg a_rep mis_number mis_place x44.1 tre_ranges x44.2.1 opn_depth rdr_place rdr_flags x44.2.2.1 x44.2.2.2.1 x44.2.2.2.2.1 x44.2.2.2.2.2.1 x44.2.2.2.2.2.2.1 x44.2.2.2.2.2.2.2.1 x44.2.2.2.2.2.2.2.2.1 x44.2.2.2.2.2.2.2.2.2.1 x44.2.2.2.2.2.2.2.2.2.2.1 opn_places x44.2.2.2.2.2.2.2.2.2.2.2.1 x44.2.2.2.2.2.2.2.2.2.2.2.2)) [0, 2, 3, 4, 5, 6, 7, 8, 9, 10, 11, 12, 1, 13, 14] (by decide) rfl
      obtain rfl := Option.some.inj hf
      exact W.vret hx hb hr (fun t ht hW => ⟨⟨(), rfl, trivial, ⟨by rw [ht]; exact hP, va_K.moved hW.alike hK, hD⟩⟩, hS.F ht⟩) hS.2.2 d_RDR_end_47
  refine lv_aload_n hx hb d_RDR_end_0 rfl (lv_at hl 0 rfl) ?_
  refine va_get (D := (dC, dI)) (ci := 10) (v := .ref a_opn) (C := R_RDR) (T := F_RDR) (N := N_RDR) hx hb hts i_RDR hown hK hP 3 rfl rfl 4 (by decide) (hts _ tw_35) (fun _ h9 => h9) rfl d_RDR_end_1 ?_
  refine va_getN (D := (dC, dI)) (ci := 5) (v := .int opn_depth) (C := R_OPN) (T := F_OPN) (N := N_OPN) hx hb hts i_OPN hown hK hP 2 rfl rfl 5 (by decide) (va_Nw.use rfl (hst0.2 _ tn_61)) (fun _ h9 => h9) rfl d_RDR_end_4 ?_
  refine lv_if_le (tgt := 33) hx hb d_RDR_end_7 (by decide) (fun c_ => ?_) (fun c_ => ?_)
  · have hf := f_pos c_ hf
    exact L33 mis_number mis_place tre_nodes tre_waits rdr_repeatable tre_kinds tre_values tre_mosts tre_owners tre_sizes tre_firstRanges tre_rangeCounts tre_waiting opn_rows opn_parts _ _ _ hP hD hS (lv_sub hl [0] rfl) hf
  · have hf := f_neg c_ hf
    refine lv_aload_n hx hb d_RDR_end_10 rfl (lv_at hl 0 rfl) ?_
    refine va_get (D := (dC, dI)) (ci := 10) (v := .ref a_mis) (C := R_RDR) (T := F_RDR) (N := N_RDR) hx hb hts i_RDR hown hK hP 3 rfl rfl 1 (by decide) (hts _ tw_17) (fun _ h9 => h9) rfl d_RDR_end_11 ?_
    refine lv_iconst (v := 2) hx hb d_RDR_end_14 (by decide) ?_
    refine lv_aload_n hx hb d_RDR_end_15 rfl (lv_at hl 0 rfl) ?_
    refine va_get (D := (dC, dI)) (ci := 10) (v := .ref a_opn) (C := R_RDR) (T := F_RDR) (N := N_RDR) hx hb hts i_RDR hown hK hP 3 rfl rfl 4 (by decide) (hts _ tw_35) (fun _ h9 => h9) rfl d_RDR_end_16 ?_
    refine va_getN (D := (dC, dI)) (ci := 5) (v := .ref a_opn_places) (C := R_OPN) (T := F_OPN) (N := N_OPN) hx hb hts i_OPN hown hK hP 2 rfl rfl 0 (by decide) (va_Nw.use rfl (hst0.2 _ tn_385)) (fun _ h9 => h9) rfl d_RDR_end_19 ?_
    refine lv_aload_n hx hb d_RDR_end_22 rfl (lv_at hl 0 rfl) ?_
    refine va_get (D := (dC, dI)) (ci := 10) (v := .ref a_opn) (C := R_RDR) (T := F_RDR) (N := N_RDR) hx hb hts i_RDR hown hK hP 3 rfl rfl 4 (by decide) (hts _ tw_35) (fun _ h9 => h9) rfl d_RDR_end_23 ?_
    refine va_getN (D := (dC, dI)) (ci := 5) (v := .int opn_depth) (C := R_OPN) (T := F_OPN) (N := N_OPN) hx hb hts i_OPN hown hK hP 2 rfl rfl 5 (by decide) (va_Nw.use rfl (hst0.2 _ tn_61)) (fun _ h9 => h9) rfl d_RDR_end_26 ?_
    obtain ⟨hin, hf⟩ := grd_in hf
    refine va_iald hx hb hK hP 12 0 rfl rfl hin d_RDR_end_29 ?_
    obtain ⟨x30, hg, hf⟩ := bnd hf
    have hPc := hP.sub (ws' := (w_2 cI tS a_mis mis_number mis_place)) [0] rfl
    have hDc := hD.sub (ws' := (w_2 cI tS a_mis mis_number mis_place)) [0] (by decide) rfl
    have hFc := va_free (wc := (w_2 cI tS a_mis mis_number mis_place)) hD hS hA [0] rfl
    refine cal_v (va_runV (As := [.int 2, .int (opn_places opn_depth.toNatClampNeg)]) (rest := []) ⟨hx, hb, hml, hown, hts⟩ (c_MIS_tell l dC dI cI tS s.heap.size a_mis mis_number mis_place 2 (opn_places opn_depth.toNatClampNeg) x30 hg) ⟨callB_of 2 hts (gN tw_142) rfl rfl rfl (hts _ tw_20) (hts _ tw_141) hd_MIS_tell ⟨Nat.le_of_ble_eq_true rfl, Nat.le_of_ble_eq_true rfl⟩, hts _ tw_143, hts _ tw_144⟩ (pre_V hK hPc hDc hst0 hS hFc (va_recv hK hPc (ci := 1) (q0 := 0) rfl rfl)) rfl rfl hl.1 rfl (lv_room (Nat.le_of_ble_eq_true rfl)) d_RDR_end_30 ⟨Nat.zero_le _, Nat.zero_le _⟩) hP hD hS hA [0] [1, 2, 3, 4, 5, 6, 7, 8, 9, 10, 11, 12, 13, 14] rfl rfl (by decide) (by decide) (fun H locs hP hD hS => ?_)
    have hP := hP.sub (ws' := (w_38 cI tS a_mis a_tre a_tre_kinds a_tre_values a_tre_mosts a_tre_owners a_tre_sizes a_tre_firstRanges a_tre_rangeCounts a_tre_begins a_tre_ends a_tre_waiting a_opn a_opn_places a_opn_numbers a_opn_flagsAround a_opn_rows a_opn_parts a_rdr a_pat a_grp a_set a_esc a_cls a_opg a_rep x30.1 x30.2 tre_nodes tre_ranges tre_waits opn_depth rdr_place rdr_flags rdr_repeatable tre_kinds tre_values tre_mosts tre_owners tre_sizes tre_firstRanges tre_rangeCounts tre_waiting opn_places opn_rows opn_parts)) [14, 0, 1, 2, 3, 4, 5, 6, 7, 8, 9, 10, 11, 12, 13] rfl
    have hD := hD.sub (ws' := (w_38 cI tS a_mis a_tre a_tre_kinds a_tre_values a_tre_mosts a_tre_owners a_tre_sizes a_tre_firstRanges a_tre_rangeCounts a_tre_begins a_tre_ends a_tre_waiting a_opn a_opn_places a_opn_numbers a_opn_flagsAround a_opn_rows a_opn_parts a_rdr a_pat a_grp a_set a_esc a_cls a_opg a_rep x30.1 x30.2 tre_nodes tre_ranges tre_waits opn_depth rdr_place rdr_flags rdr_repeatable tre_kinds tre_values tre_mosts tre_owners tre_sizes tre_firstRanges tre_rangeCounts tre_waiting opn_places opn_rows opn_parts)) [14, 0, 1, 2, 3, 4, 5, 6, 7, 8, 9, 10, 11, 12, 13] (by decide) rfl
    exact L33 x30.1 x30.2 tre_nodes tre_waits rdr_repeatable tre_kinds tre_values tre_mosts tre_owners tre_sizes tre_firstRanges tre_rangeCounts tre_waiting opn_rows opn_parts _ _ _ hP hD hS (lv_sub hl [0] rfl) hf
def f_PAT_clear (pat_length : Int32) : Option Int32 :=
  some 0
set_option maxRecDepth 100000 in
set_option maxHeartbeats 4000000 in
theorem c_PAT_clear (l : Launch) (dC : Nat → ClassId) (dI : Nat → Nat → Nat) (cI : ClassId) (tS : Nat → Nat) (sz : Nat) (a_pat a_pat_bytes : Nat) (pat_length : Int32) (R0 : Int32) (hf : f_PAT_clear pat_length = some R0) : Met l y_PAT_clear ws_PAT_clear ({ frames := 0, cells := 0, slots := 0, locals := 0 }) (va_Pc [.ref a_pat] (preS (dC, dI) classes [(cI, .int)] tS (w_39 cI tS a_pat a_pat_bytes pat_length) sz)) (va_Qv (fun _ : Unit => True) (fun _ t => posS (dC, dI) classes [(cI, .int)] (w_39 cI tS a_pat a_pat_bytes R0) (va_A (w_39 cI tS a_pat a_pat_bytes pat_length) sz) t) (va_A (w_39 cI tS a_pat a_pat_bytes pat_length) sz)) 0 0 (va_A (w_39 cI tS a_pat a_pat_bytes pat_length) sz) := by
  refine Met.ofW (cc := b_PAT_clear) (maxL := 1) (ret := none) (by decide) rfl ?_
  intro p e s m args below meth c s₁ B hml hv
  obtain ⟨rfl, hsz, hP, hK, hD0, hst0⟩ := hv
  have hx := B.exec
  have hb := B.bytes
  have hr := B.returns
  have hts0 := atoms_spec (ws := ws_PAT_clear) B.pre
  have hts : ∀ w ∈ GW, w.before _ s = true := fun w h => hts0 w (List.mem_cons_of_mem _ h)
  have hown : s.vm.findClass R_PAT = some m.cls := findClass_of_methodNamed B.named
  have hlocks := B.notSynchronized
  subst hsz
  have hD := hD0.self (sz := s.heap.size)
  generalize hAe : va_A (w_39 cI tS a_pat a_pat_bytes pat_length) s.heap.size = A at hD hst0 ⊢
  have hA : ∀ q : Nat, s.heap.size ≤ q → A q := fun q h => by rw [← hAe]; exact Or.inr h
  have hS : va_S A s.heap s.heap [] := va_S.rf
  have hl := lv_entry ([.ref a_pat]) (n := 1) (Nat.le_of_ble_eq_true rfl)
  rw [lg_entry_eq]
  generalize (lg_sl ([.ref a_pat]) ++ List.replicate (1 - (lg_sl ([.ref a_pat])).length) Slot.unset).toArray = ls at hl ⊢
  have hl : lv_has ls 1 [(0, .ref a_pat)] := hl
  refine lv_aload_n hx hb d_PAT_clear_0 rfl (lv_at hl 0 rfl) ?_
  refine lv_iconst (v := 0) hx hb d_PAT_clear_1 (by decide) ?_
  refine va_put (D := (dC, dI)) (ci := 0) (v := .int 0) (ty := .int) (C := R_PAT) (T := F_PAT) (N := N_PAT) hx hb hts i_PAT ty_PAT ty_PAT_ok n_PAT hown hK hP hD hS 0 rfl rfl 1 (by decide) (hts _ tw_1) (fun _ h9 => h9) rfl (ty_PAT_ok 1 (by decide)) rfl rfl (Nat.le_of_ble_eq_true rfl) d_PAT_clear_2 (fun H locs hP hD hS => ?_)
  have hP : va_P (dC, dI) classes (w_39 cI tS a_pat a_pat_bytes 0) H := hP
  have hD : va_D A (w_39 cI tS a_pat a_pat_bytes 0) := hD
  obtain rfl := Option.some.inj hf
  exact W.vret hx hb hr (fun t ht hW => ⟨⟨(), rfl, trivial, ⟨by rw [ht]; exact hP, va_K.moved hW.alike hK, hD⟩⟩, hS.F ht⟩) hS.2.2 d_PAT_clear_5
def f_PN_fault (mis_number : Int32) (mis_place : Int32) (p1 : Int32) : Option Int32 :=
  if p1 = 0 then some mis_number else (if p1 = 1 then some mis_place else some (-1))
set_option maxRecDepth 100000 in
set_option maxHeartbeats 4000000 in
theorem c_PN_fault (l : Launch) (dC : Nat → ClassId) (dI : Nat → Nat → Nat) (cI : ClassId) (tS : Nat → Nat) (sz : Nat) (a_mis a_pn a_pat a_tre a_grp a_rdr : Nat) (mis_number : Int32) (mis_place : Int32) (p1 : Int32) (R0 : Int32) (hf : f_PN_fault mis_number mis_place p1 = some R0) : Met l y_PN_fault ws_PN_fault ({ frames := 0, cells := 0, slots := 0, locals := 0 }) (va_Pc [.ref a_pn, .int p1] (preS (dC, dI) classes [(cI, .int)] tS (w_40 cI tS a_mis a_pn a_pat a_tre a_grp a_rdr mis_number mis_place) sz)) (va_Qi (fun r (_ : Unit) => r = R0) (fun _ t => posS (dC, dI) classes [(cI, .int)] (w_40 cI tS a_mis a_pn a_pat a_tre a_grp a_rdr mis_number mis_place) (va_A (w_40 cI tS a_mis a_pn a_pat a_tre a_grp a_rdr mis_number mis_place) sz) t) (va_A (w_40 cI tS a_mis a_pn a_pat a_tre a_grp a_rdr mis_number mis_place) sz)) 0 0 (va_A (w_40 cI tS a_mis a_pn a_pat a_tre a_grp a_rdr mis_number mis_place) sz) := by
  refine Met.ofW (cc := b_PN_fault) (maxL := 2) (ret := (some .int)) (by decide) rfl ?_
  intro p e s m args below meth c s₁ B hml hv
  obtain ⟨rfl, hsz, hP, hK, hD0, hst0⟩ := hv
  have hx := B.exec
  have hb := B.bytes
  have hr := B.returns
  have hts0 := atoms_spec (ws := ws_PN_fault) B.pre
  have hts : ∀ w ∈ GW, w.before _ s = true := fun w h => hts0 w (List.mem_cons_of_mem _ h)
  have hown : s.vm.findClass R_PN = some m.cls := findClass_of_methodNamed B.named
  have hlocks := B.notSynchronized
  subst hsz
  have hD := hD0.self (sz := s.heap.size)
  generalize hAe : va_A (w_40 cI tS a_mis a_pn a_pat a_tre a_grp a_rdr mis_number mis_place) s.heap.size = A at hD hst0 ⊢
  have hA : ∀ q : Nat, s.heap.size ≤ q → A q := fun q h => by rw [← hAe]; exact Or.inr h
  have hS : va_S A s.heap s.heap [] := va_S.rf
  have hl := lv_entry ([.ref a_pn, .int p1]) (n := 2) (Nat.le_of_ble_eq_true rfl)
  rw [lg_entry_eq]
  generalize (lg_sl ([.ref a_pn, .int p1]) ++ List.replicate (2 - (lg_sl ([.ref a_pn, .int p1])).length) Slot.unset).toArray = ls at hl ⊢
  have hl : lv_has ls 2 [(0, .ref a_pn), (1, .int p1)] := hl
  refine lv_iload_n hx hb d_PN_fault_0 rfl (lv_at hl 1 rfl) ?_
  refine lv_if_ne (tgt := 12) hx hb d_PN_fault_1 (by decide) (fun c_ => ?_) (fun c_ => ?_)
  · have hf := f_neg c_ hf
    refine lv_iload_n hx hb d_PN_fault_12 rfl (lv_at hl 1 rfl) ?_
    refine lv_iconst (v := 1) hx hb d_PN_fault_13 (by decide) ?_
    refine lv_icmp_ne (tgt := 27) hx hb d_PN_fault_14 (by decide) (fun c_ => ?_) (fun c_ => ?_)
    · have hf := f_neg c_ hf
      refine lv_iconst (v := (-1)) hx hb d_PN_fault_27 (by decide) ?_
      obtain rfl := Option.some.inj hf
      exact W.iret (v := (-1)) hx hb hr (fun t ht hW => ⟨⟨_, (), rfl, rfl, ⟨by rw [ht]; exact hP, va_K.moved hW.alike hK, hD⟩⟩, hS.F ht⟩) hS.2.2 d_PN_fault_28
    · have hf := f_pos c_ hf
      refine lv_aload_n hx hb d_PN_fault_17 rfl (lv_at hl 0 rfl) ?_
      refine va_get (D := (dC, dI)) (ci := 11) (v := .ref a_mis) (C := R_PN) (T := F_PN) (N := N_PN) hx hb hts i_PN hown hK hP 1 rfl rfl 1 (by decide) (hts _ tw_386) (fun _ h9 => h9) rfl d_PN_fault_18 ?_
      refine va_getN (D := (dC, dI)) (ci := 1) (v := .int mis_place) (C := R_MIS) (T := F_MIS) (N := N_MIS) hx hb hts i_MIS hown hK hP 0 rfl rfl 1 (by decide) (va_Nw.use rfl (hst0.2 _ tn_387)) (fun _ h9 => h9) rfl d_PN_fault_21 ?_
      refine lv_goto (tgt := 28) hx hb d_PN_fault_24 (by decide) ?_
      obtain rfl := Option.some.inj hf
      exact W.iret (v := mis_place) hx hb hr (fun t ht hW => ⟨⟨_, (), rfl, rfl, ⟨by rw [ht]; exact hP, va_K.moved hW.alike hK, hD⟩⟩, hS.F ht⟩) hS.2.2 d_PN_fault_28
  · have hf := f_pos c_ hf
    refine lv_aload_n hx hb d_PN_fault_4 rfl (lv_at hl 0 rfl) ?_
    refine va_get (D := (dC, dI)) (ci := 11) (v := .ref a_mis) (C := R_PN) (T := F_PN) (N := N_PN) hx hb hts i_PN hown hK hP 1 rfl rfl 1 (by decide) (hts _ tw_386) (fun _ h9 => h9) rfl d_PN_fault_5 ?_
    refine va_getN (D := (dC, dI)) (ci := 1) (v := .int mis_number) (C := R_MIS) (T := F_MIS) (N := N_MIS) hx hb hts i_MIS hown hK hP 0 rfl rfl 0 (by decide) (va_Nw.use rfl (hst0.2 _ tn_388)) (fun _ h9 => h9) rfl d_PN_fault_8 ?_
    obtain rfl := Option.some.inj hf
    exact W.iret (v := mis_number) hx hb hr (fun t ht hW => ⟨⟨_, (), rfl, rfl, ⟨by rw [ht]; exact hP, va_K.moved hW.alike hK, hD⟩⟩, hS.F ht⟩) hS.2.2 d_PN_fault_11
def f_PN_count (pat_length : Int32) (tre_nodes : Int32) (grp_howMany : Int32) (p1 : Int32) : Option Int32 :=
  if p1 = 0 then some tre_nodes else (if p1 = 1 then some grp_howMany else (if p1 = 2 then some pat_length else some (-1)))
set_option maxRecDepth 100000 in
set_option maxHeartbeats 4000000 in
theorem c_PN_count (l : Launch) (dC : Nat → ClassId) (dI : Nat → Nat → Nat) (cI : ClassId) (tS : Nat → Nat) (sz : Nat) (a_pat a_pat_bytes a_tre a_tre_kinds a_tre_values a_tre_mosts a_tre_owners a_tre_sizes a_tre_firstRanges a_tre_rangeCounts a_tre_begins a_tre_ends a_tre_waiting a_grp a_grp_lengths a_grp_letters a_pn a_mis a_rdr : Nat) (pat_length : Int32) (tre_nodes : Int32) (tre_ranges : Int32) (tre_waits : Int32) (grp_howMany : Int32) (p1 : Int32) (R0 : Int32) (hf : f_PN_count pat_length tre_nodes grp_howMany p1 = some R0) : Met l y_PN_count ws_PN_count ({ frames := 0, cells := 0, slots := 0, locals := 0 }) (va_Pc [.ref a_pn, .int p1] (preS (dC, dI) classes [(cI, .int)] tS (w_41 cI tS a_pat a_pat_bytes a_tre a_tre_kinds a_tre_values a_tre_mosts a_tre_owners a_tre_sizes a_tre_firstRanges a_tre_rangeCounts a_tre_begins a_tre_ends a_tre_waiting a_grp a_grp_lengths a_grp_letters a_pn a_mis a_rdr pat_length tre_nodes tre_ranges tre_waits grp_howMany) sz)) (va_Qi (fun r (_ : Unit) => r = R0) (fun _ t => posS (dC, dI) classes [(cI, .int)] (w_41 cI tS a_pat a_pat_bytes a_tre a_tre_kinds a_tre_values a_tre_mosts a_tre_owners a_tre_sizes a_tre_firstRanges a_tre_rangeCounts a_tre_begins a_tre_ends a_tre_waiting a_grp a_grp_lengths a_grp_letters a_pn a_mis a_rdr pat_length tre_nodes tre_ranges tre_waits grp_howMany) (va_A (w_41 cI tS a_pat a_pat_bytes a_tre a_tre_kinds a_tre_values a_tre_mosts a_tre_owners a_tre_sizes a_tre_firstRanges a_tre_rangeCounts a_tre_begins a_tre_ends a_tre_waiting a_grp a_grp_lengths a_grp_letters a_pn a_mis a_rdr pat_length tre_nodes tre_ranges tre_waits grp_howMany) sz) t) (va_A (w_41 cI tS a_pat a_pat_bytes a_tre a_tre_kinds a_tre_values a_tre_mosts a_tre_owners a_tre_sizes a_tre_firstRanges a_tre_rangeCounts a_tre_begins a_tre_ends a_tre_waiting a_grp a_grp_lengths a_grp_letters a_pn a_mis a_rdr pat_length tre_nodes tre_ranges tre_waits grp_howMany) sz)) 0 0 (va_A (w_41 cI tS a_pat a_pat_bytes a_tre a_tre_kinds a_tre_values a_tre_mosts a_tre_owners a_tre_sizes a_tre_firstRanges a_tre_rangeCounts a_tre_begins a_tre_ends a_tre_waiting a_grp a_grp_lengths a_grp_letters a_pn a_mis a_rdr pat_length tre_nodes tre_ranges tre_waits grp_howMany) sz) := by
  refine Met.ofW (cc := b_PN_count) (maxL := 2) (ret := (some .int)) (by decide) rfl ?_
  intro p e s m args below meth c s₁ B hml hv
  obtain ⟨rfl, hsz, hP, hK, hD0, hst0⟩ := hv
  have hx := B.exec
  have hb := B.bytes
  have hr := B.returns
  have hts0 := atoms_spec (ws := ws_PN_count) B.pre
  have hts : ∀ w ∈ GW, w.before _ s = true := fun w h => hts0 w (List.mem_cons_of_mem _ h)
  have hown : s.vm.findClass R_PN = some m.cls := findClass_of_methodNamed B.named
  have hlocks := B.notSynchronized
  subst hsz
  have hD := hD0.self (sz := s.heap.size)
  generalize hAe : va_A (w_41 cI tS a_pat a_pat_bytes a_tre a_tre_kinds a_tre_values a_tre_mosts a_tre_owners a_tre_sizes a_tre_firstRanges a_tre_rangeCounts a_tre_begins a_tre_ends a_tre_waiting a_grp a_grp_lengths a_grp_letters a_pn a_mis a_rdr pat_length tre_nodes tre_ranges tre_waits grp_howMany) s.heap.size = A at hD hst0 ⊢
  have hA : ∀ q : Nat, s.heap.size ≤ q → A q := fun q h => by rw [← hAe]; exact Or.inr h
  have hS : va_S A s.heap s.heap [] := va_S.rf
  have hl := lv_entry ([.ref a_pn, .int p1]) (n := 2) (Nat.le_of_ble_eq_true rfl)
  rw [lg_entry_eq]
  generalize (lg_sl ([.ref a_pn, .int p1]) ++ List.replicate (2 - (lg_sl ([.ref a_pn, .int p1])).length) Slot.unset).toArray = ls at hl ⊢
  have hl : lv_has ls 2 [(0, .ref a_pn), (1, .int p1)] := hl
  refine lv_iload_n hx hb d_PN_count_0 rfl (lv_at hl 1 rfl) ?_
  rcases Classical.em (p1 = 0) with c_ | n_0
  · have hf := f_pos c_ hf
    refine lv_tableIn (tgt := 28) hx hb d_PN_count_1 (by rw [c_]; try decide) (by rw [c_]; try decide) (by rw [c_]; try rfl) (by decide) ?_
    refine lv_aload_n hx hb d_PN_count_28 rfl (lv_at hl 0 rfl) ?_
    refine va_get (D := (dC, dI)) (ci := 11) (v := .ref a_tre) (C := R_PN) (T := F_PN) (N := N_PN) hx hb hts i_PN hown hK hP 3 rfl rfl 2 (by decide) (hts _ tw_389) (fun _ h9 => h9) rfl d_PN_count_29 ?_
    refine va_getN (D := (dC, dI)) (ci := 3) (v := .int tre_nodes) (C := R_TRE) (T := F_TRE) (N := N_TRE) hx hb hts i_TRE hown hK hP 1 rfl rfl 10 (by decide) (va_Nw.use rfl (hst0.2 _ tn_390)) (fun _ h9 => h9) rfl d_PN_count_32 ?_
    obtain rfl := Option.some.inj hf
    exact W.iret (v := tre_nodes) hx hb hr (fun t ht hW => ⟨⟨_, (), rfl, rfl, ⟨by rw [ht]; exact hP, va_K.moved hW.alike hK, hD⟩⟩, hS.F ht⟩) hS.2.2 d_PN_count_35
  have hf := f_neg n_0 hf
  rcases Classical.em (p1 = 1) with c_ | n_1
  · have hf := f_pos c_ hf
    refine lv_tableIn (tgt := 36) hx hb d_PN_count_1 (by rw [c_]; try decide) (by rw [c_]; try decide) (by rw [c_]; try rfl) (by decide) ?_
    refine lv_aload_n hx hb d_PN_count_36 rfl (lv_at hl 0 rfl) ?_
    refine va_get (D := (dC, dI)) (ci := 11) (v := .ref a_grp) (C := R_PN) (T := F_PN) (N := N_PN) hx hb hts i_PN hown hK hP 3 rfl rfl 3 (by decide) (hts _ tw_391) (fun _ h9 => h9) rfl d_PN_count_37 ?_
    refine va_getN (D := (dC, dI)) (ci := 4) (v := .int grp_howMany) (C := R_GRP) (T := F_GRP) (N := N_GRP) hx hb hts i_GRP hown hK hP 2 rfl rfl 2 (by decide) (va_Nw.use rfl (hst0.2 _ tn_392)) (fun _ h9 => h9) rfl d_PN_count_40 ?_
    obtain rfl := Option.some.inj hf
    exact W.iret (v := grp_howMany) hx hb hr (fun t ht hW => ⟨⟨_, (), rfl, rfl, ⟨by rw [ht]; exact hP, va_K.moved hW.alike hK, hD⟩⟩, hS.F ht⟩) hS.2.2 d_PN_count_43
  have hf := f_neg n_1 hf
  rcases Classical.em (p1 = 2) with c_ | n_2
  · have hf := f_pos c_ hf
    refine lv_tableIn (tgt := 44) hx hb d_PN_count_1 (by rw [c_]; try decide) (by rw [c_]; try decide) (by rw [c_]; try rfl) (by decide) ?_
    refine lv_aload_n hx hb d_PN_count_44 rfl (lv_at hl 0 rfl) ?_
    refine va_get (D := (dC, dI)) (ci := 11) (v := .ref a_pat) (C := R_PN) (T := F_PN) (N := N_PN) hx hb hts i_PN hown hK hP 3 rfl rfl 0 (by decide) (hts _ tw_2) (fun _ h9 => h9) rfl d_PN_count_45 ?_
    refine va_getN (D := (dC, dI)) (ci := 0) (v := .int pat_length) (C := R_PAT) (T := F_PAT) (N := N_PAT) hx hb hts i_PAT hown hK hP 0 rfl rfl 1 (by decide) (va_Nw.use rfl (hst0.2 _ tn_393)) (fun _ h9 => h9) rfl d_PN_count_48 ?_
    obtain rfl := Option.some.inj hf
    exact W.iret (v := pat_length) hx hb hr (fun t ht hW => ⟨⟨_, (), rfl, rfl, ⟨by rw [ht]; exact hP, va_K.moved hW.alike hK, hD⟩⟩, hS.F ht⟩) hS.2.2 d_PN_count_51
  have hf := f_neg n_2 hf
  refine lv_tableOut (tgt := 52) hx hb d_PN_count_1 (by have e_0 := lv_neT n_0 (k := 0) (a := 0) rfl; have e_1 := lv_neT n_1 (k := 1) (a := 1) rfl; have e_2 := lv_neT n_2 (k := 2) (a := 2) rfl; omega) (by decide) ?_
  refine lv_iconst (v := (-1)) hx hb d_PN_count_52 (by decide) ?_
  obtain rfl := Option.some.inj hf
  exact W.iret (v := (-1)) hx hb hr (fun t ht hW => ⟨⟨_, (), rfl, rfl, ⟨by rw [ht]; exact hP, va_K.moved hW.alike hK, hD⟩⟩, hS.F ht⟩) hS.2.2 d_PN_count_53
def f_TRE_told (tre_nodes : Int32) (tre_kinds : Nat → Int32) (tre_values : Nat → Int32) (tre_mosts : Nat → Int32) (tre_owners : Nat → Int32) (tre_sizes : Nat → Int32) (tre_rangeCounts : Nat → Int32) (p1 : Int32) (p2 : Int32) : Option Int32 :=
  if p1 < 0 then some (-1) else (if p1 < tre_nodes then (if p2 = 0 then grd (inb p1 512) (some (tre_kinds p1.toNatClampNeg)) else (if p2 = 1 then grd (inb p1 512) (some (tre_values p1.toNatClampNeg)) else (if p2 = 2 then grd (inb p1 512) (some (tre_mosts p1.toNatClampNeg)) else (if p2 = 3 then grd (inb p1 512) (some (tre_owners p1.toNatClampNeg)) else (if p2 = 4 then grd (inb p1 512) (some (tre_sizes p1.toNatClampNeg)) else (if p2 = 5 then grd (inb p1 512) (some (tre_rangeCounts p1.toNatClampNeg)) else some (-1))))))) else some (-1))
set_option maxRecDepth 100000 in
set_option maxHeartbeats 4000000 in
theorem c_TRE_told (l : Launch) (dC : Nat → ClassId) (dI : Nat → Nat → Nat) (cI : ClassId) (tS : Nat → Nat) (sz : Nat) (a_tre a_tre_kinds a_tre_values a_tre_mosts a_tre_owners a_tre_sizes a_tre_firstRanges a_tre_rangeCounts a_tre_begins a_tre_ends a_tre_waiting : Nat) (tre_nodes : Int32) (tre_ranges : Int32) (tre_waits : Int32) (tre_kinds : Nat → Int32) (tre_values : Nat → Int32) (tre_mosts : Nat → Int32) (tre_owners : Nat → Int32) (tre_sizes : Nat → Int32) (tre_rangeCounts : Nat → Int32) (p1 : Int32) (p2 : Int32) (R0 : Int32) (hf : f_TRE_told tre_nodes tre_kinds tre_values tre_mosts tre_owners tre_sizes tre_rangeCounts p1 p2 = some R0) : Met l y_TRE_told ws_TRE_told ({ frames := 0, cells := 0, slots := 0, locals := 0 }) (va_Pc [.ref a_tre, .int p1, .int p2] (preS (dC, dI) classes [(cI, .int)] tS (w_42 cI tS a_tre a_tre_kinds a_tre_values a_tre_mosts a_tre_owners a_tre_sizes a_tre_firstRanges a_tre_rangeCounts a_tre_begins a_tre_ends a_tre_waiting tre_nodes tre_ranges tre_waits tre_kinds tre_values tre_mosts tre_owners tre_sizes tre_rangeCounts) sz)) (va_Qi (fun r (_ : Unit) => r = R0) (fun _ t => posS (dC, dI) classes [(cI, .int)] (w_42 cI tS a_tre a_tre_kinds a_tre_values a_tre_mosts a_tre_owners a_tre_sizes a_tre_firstRanges a_tre_rangeCounts a_tre_begins a_tre_ends a_tre_waiting tre_nodes tre_ranges tre_waits tre_kinds tre_values tre_mosts tre_owners tre_sizes tre_rangeCounts) (va_A (w_42 cI tS a_tre a_tre_kinds a_tre_values a_tre_mosts a_tre_owners a_tre_sizes a_tre_firstRanges a_tre_rangeCounts a_tre_begins a_tre_ends a_tre_waiting tre_nodes tre_ranges tre_waits tre_kinds tre_values tre_mosts tre_owners tre_sizes tre_rangeCounts) sz) t) (va_A (w_42 cI tS a_tre a_tre_kinds a_tre_values a_tre_mosts a_tre_owners a_tre_sizes a_tre_firstRanges a_tre_rangeCounts a_tre_begins a_tre_ends a_tre_waiting tre_nodes tre_ranges tre_waits tre_kinds tre_values tre_mosts tre_owners tre_sizes tre_rangeCounts) sz)) 0 0 (va_A (w_42 cI tS a_tre a_tre_kinds a_tre_values a_tre_mosts a_tre_owners a_tre_sizes a_tre_firstRanges a_tre_rangeCounts a_tre_begins a_tre_ends a_tre_waiting tre_nodes tre_ranges tre_waits tre_kinds tre_values tre_mosts tre_owners tre_sizes tre_rangeCounts) sz) := by
  refine Met.ofW (cc := b_TRE_told) (maxL := 3) (ret := (some .int)) (by decide) rfl ?_
  intro p e s m args below meth c s₁ B hml hv
  obtain ⟨rfl, hsz, hP, hK, hD0, hst0⟩ := hv
  have hx := B.exec
  have hb := B.bytes
  have hr := B.returns
  have hts0 := atoms_spec (ws := ws_TRE_told) B.pre
  have hts : ∀ w ∈ GW, w.before _ s = true := fun w h => hts0 w (List.mem_cons_of_mem _ h)
  have hown : s.vm.findClass R_TRE = some m.cls := findClass_of_methodNamed B.named
  have hlocks := B.notSynchronized
  subst hsz
  have hD := hD0.self (sz := s.heap.size)
  generalize hAe : va_A (w_42 cI tS a_tre a_tre_kinds a_tre_values a_tre_mosts a_tre_owners a_tre_sizes a_tre_firstRanges a_tre_rangeCounts a_tre_begins a_tre_ends a_tre_waiting tre_nodes tre_ranges tre_waits tre_kinds tre_values tre_mosts tre_owners tre_sizes tre_rangeCounts) s.heap.size = A at hD hst0 ⊢
  have hA : ∀ q : Nat, s.heap.size ≤ q → A q := fun q h => by rw [← hAe]; exact Or.inr h
  have hS : va_S A s.heap s.heap [] := va_S.rf
  have hl := lv_entry ([.ref a_tre, .int p1, .int p2]) (n := 3) (Nat.le_of_ble_eq_true rfl)
  rw [lg_entry_eq]
  generalize (lg_sl ([.ref a_tre, .int p1, .int p2]) ++ List.replicate (3 - (lg_sl ([.ref a_tre, .int p1, .int p2])).length) Slot.unset).toArray = ls at hl ⊢
  have hl : lv_has ls 3 [(0, .ref a_tre), (1, .int p1), (2, .int p2)] := hl
  refine lv_iload_n hx hb d_TRE_told_0 rfl (lv_at hl 1 rfl) ?_
  refine lv_if_lt (tgt := 12) hx hb d_TRE_told_1 (by decide) (fun c_ => ?_) (fun c_ => ?_)
  · have hf := f_pos c_ hf
    refine lv_iconst (v := (-1)) hx hb d_TRE_told_12 (by decide) ?_
    obtain rfl := Option.some.inj hf
    exact W.iret (v := (-1)) hx hb hr (fun t ht hW => ⟨⟨_, (), rfl, rfl, ⟨by rw [ht]; exact hP, va_K.moved hW.alike hK, hD⟩⟩, hS.F ht⟩) hS.2.2 d_TRE_told_13
  · have hf := f_neg c_ hf
    refine lv_iload_n hx hb d_TRE_told_4 rfl (lv_at hl 1 rfl) ?_
    refine lv_aload_n hx hb d_TRE_told_5 rfl (lv_at hl 0 rfl) ?_
    refine va_get (D := (dC, dI)) (ci := 3) (v := .int tre_nodes) (C := R_TRE) (T := F_TRE) (N := N_TRE) hx hb hts i_TRE hown hK hP 0 rfl rfl 10 (by decide) (hts _ tw_10) (fun _ h9 => h9) rfl d_TRE_told_6 ?_
    refine lv_icmp_lt (tgt := 14) hx hb d_TRE_told_9 (by decide) (fun c_ => ?_) (fun c_ => ?_)
    · have hf := f_pos c_ hf
      refine lv_iload_n hx hb d_TRE_told_14 rfl (lv_at hl 2 rfl) ?_
      rcases Classical.em (p2 = 0) with c_ | n_0
      · have hf := f_pos c_ hf
        refine lv_tableIn (tgt := 52) hx hb d_TRE_told_15 (by rw [c_]; try decide) (by rw [c_]; try decide) (by rw [c_]; try rfl) (by decide) ?_
        refine lv_aload_n hx hb d_TRE_told_52 rfl (lv_at hl 0 rfl) ?_
        refine va_get (D := (dC, dI)) (ci := 3) (v := .ref a_tre_kinds) (C := R_TRE) (T := F_TRE) (N := N_TRE) hx hb hts i_TRE hown hK hP 0 rfl rfl 0 (by decide) (hts _ tw_54) (fun _ h9 => h9) rfl d_TRE_told_53 ?_
        refine lv_iload_n hx hb d_TRE_told_56 rfl (lv_at hl 1 rfl) ?_
        obtain ⟨hin, hf⟩ := grd_in hf
        refine va_iald hx hb hK hP 1 0 rfl rfl hin d_TRE_told_57 ?_
        obtain rfl := Option.some.inj hf
        exact W.iret (v := tre_kinds p1.toNatClampNeg) hx hb hr (fun t ht hW => ⟨⟨_, (), rfl, rfl, ⟨by rw [ht]; exact hP, va_K.moved hW.alike hK, hD⟩⟩, hS.F ht⟩) hS.2.2 d_TRE_told_58
      have hf := f_neg n_0 hf
      rcases Classical.em (p2 = 1) with c_ | n_1
      · have hf := f_pos c_ hf
        refine lv_tableIn (tgt := 59) hx hb d_TRE_told_15 (by rw [c_]; try decide) (by rw [c_]; try decide) (by rw [c_]; try rfl) (by decide) ?_
        refine lv_aload_n hx hb d_TRE_told_59 rfl (lv_at hl 0 rfl) ?_
        refine va_get (D := (dC, dI)) (ci := 3) (v := .ref a_tre_values) (C := R_TRE) (T := F_TRE) (N := N_TRE) hx hb hts i_TRE hown hK hP 0 rfl rfl 1 (by decide) (hts _ tw_55) (fun _ h9 => h9) rfl d_TRE_told_60 ?_
        refine lv_iload_n hx hb d_TRE_told_63 rfl (lv_at hl 1 rfl) ?_
        obtain ⟨hin, hf⟩ := grd_in hf
        refine va_iald hx hb hK hP 2 0 rfl rfl hin d_TRE_told_64 ?_
        obtain rfl := Option.some.inj hf
        exact W.iret (v := tre_values p1.toNatClampNeg) hx hb hr (fun t ht hW => ⟨⟨_, (), rfl, rfl, ⟨by rw [ht]; exact hP, va_K.moved hW.alike hK, hD⟩⟩, hS.F ht⟩) hS.2.2 d_TRE_told_65
      have hf := f_neg n_1 hf
      rcases Classical.em (p2 = 2) with c_ | n_2
      · have hf := f_pos c_ hf
        refine lv_tableIn (tgt := 66) hx hb d_TRE_told_15 (by rw [c_]; try decide) (by rw [c_]; try decide) (by rw [c_]; try rfl) (by decide) ?_
        refine lv_aload_n hx hb d_TRE_told_66 rfl (lv_at hl 0 rfl) ?_
        refine va_get (D := (dC, dI)) (ci := 3) (v := .ref a_tre_mosts) (C := R_TRE) (T := F_TRE) (N := N_TRE) hx hb hts i_TRE hown hK hP 0 rfl rfl 2 (by decide) (hts _ tw_56) (fun _ h9 => h9) rfl d_TRE_told_67 ?_
        refine lv_iload_n hx hb d_TRE_told_70 rfl (lv_at hl 1 rfl) ?_
        obtain ⟨hin, hf⟩ := grd_in hf
        refine va_iald hx hb hK hP 3 0 rfl rfl hin d_TRE_told_71 ?_
        obtain rfl := Option.some.inj hf
        exact W.iret (v := tre_mosts p1.toNatClampNeg) hx hb hr (fun t ht hW => ⟨⟨_, (), rfl, rfl, ⟨by rw [ht]; exact hP, va_K.moved hW.alike hK, hD⟩⟩, hS.F ht⟩) hS.2.2 d_TRE_told_72
      have hf := f_neg n_2 hf
      rcases Classical.em (p2 = 3) with c_ | n_3
      · have hf := f_pos c_ hf
        refine lv_tableIn (tgt := 73) hx hb d_TRE_told_15 (by rw [c_]; try decide) (by rw [c_]; try decide) (by rw [c_]; try rfl) (by decide) ?_
        refine lv_aload_n hx hb d_TRE_told_73 rfl (lv_at hl 0 rfl) ?_
        refine va_get (D := (dC, dI)) (ci := 3) (v := .ref a_tre_owners) (C := R_TRE) (T := F_TRE) (N := N_TRE) hx hb hts i_TRE hown hK hP 0 rfl rfl 3 (by decide) (hts _ tw_57) (fun _ h9 => h9) rfl d_TRE_told_74 ?_
        refine lv_iload_n hx hb d_TRE_told_77 rfl (lv_at hl 1 rfl) ?_
        obtain ⟨hin, hf⟩ := grd_in hf
        refine va_iald hx hb hK hP 4 0 rfl rfl hin d_TRE_told_78 ?_
        obtain rfl := Option.some.inj hf
        exact W.iret (v := tre_owners p1.toNatClampNeg) hx hb hr (fun t ht hW => ⟨⟨_, (), rfl, rfl, ⟨by rw [ht]; exact hP, va_K.moved hW.alike hK, hD⟩⟩, hS.F ht⟩) hS.2.2 d_TRE_told_79
      have hf := f_neg n_3 hf
      rcases Classical.em (p2 = 4) with c_ | n_4
      · have hf := f_pos c_ hf
        refine lv_tableIn (tgt := 80) hx hb d_TRE_told_15 (by rw [c_]; try decide) (by rw [c_]; try decide) (by rw [c_]; try rfl) (by decide) ?_
        refine lv_aload_n hx hb d_TRE_told_80 rfl (lv_at hl 0 rfl) ?_
        refine va_get (D := (dC, dI)) (ci := 3) (v := .ref a_tre_sizes) (C := R_TRE) (T := F_TRE) (N := N_TRE) hx hb hts i_TRE hown hK hP 0 rfl rfl 4 (by decide) (hts _ tw_47) (fun _ h9 => h9) rfl d_TRE_told_81 ?_
        refine lv_iload_n hx hb d_TRE_told_84 rfl (lv_at hl 1 rfl) ?_
        obtain ⟨hin, hf⟩ := grd_in hf
        refine va_iald hx hb hK hP 5 0 rfl rfl hin d_TRE_told_85 ?_
        obtain rfl := Option.some.inj hf
        exact W.iret (v := tre_sizes p1.toNatClampNeg) hx hb hr (fun t ht hW => ⟨⟨_, (), rfl, rfl, ⟨by rw [ht]; exact hP, va_K.moved hW.alike hK, hD⟩⟩, hS.F ht⟩) hS.2.2 d_TRE_told_86
      have hf := f_neg n_4 hf
      rcases Classical.em (p2 = 5) with c_ | n_5
      · have hf := f_pos c_ hf
        refine lv_tableIn (tgt := 87) hx hb d_TRE_told_15 (by rw [c_]; try decide) (by rw [c_]; try decide) (by rw [c_]; try rfl) (by decide) ?_
        refine lv_aload_n hx hb d_TRE_told_87 rfl (lv_at hl 0 rfl) ?_
        refine va_get (D := (dC, dI)) (ci := 3) (v := .ref a_tre_rangeCounts) (C := R_TRE) (T := F_TRE) (N := N_TRE) hx hb hts i_TRE hown hK hP 0 rfl rfl 6 (by decide) (hts _ tw_59) (fun _ h9 => h9) rfl d_TRE_told_88 ?_
        refine lv_iload_n hx hb d_TRE_told_91 rfl (lv_at hl 1 rfl) ?_
        obtain ⟨hin, hf⟩ := grd_in hf
        refine va_iald hx hb hK hP 6 0 rfl rfl hin d_TRE_told_92 ?_
        obtain rfl := Option.some.inj hf
        exact W.iret (v := tre_rangeCounts p1.toNatClampNeg) hx hb hr (fun t ht hW => ⟨⟨_, (), rfl, rfl, ⟨by rw [ht]; exact hP, va_K.moved hW.alike hK, hD⟩⟩, hS.F ht⟩) hS.2.2 d_TRE_told_93
      have hf := f_neg n_5 hf
      refine lv_tableOut (tgt := 94) hx hb d_TRE_told_15 (by have e_0 := lv_neT n_0 (k := 0) (a := 0) rfl; have e_1 := lv_neT n_1 (k := 1) (a := 1) rfl; have e_2 := lv_neT n_2 (k := 2) (a := 2) rfl; have e_3 := lv_neT n_3 (k := 3) (a := 3) rfl; have e_4 := lv_neT n_4 (k := 4) (a := 4) rfl; have e_5 := lv_neT n_5 (k := 5) (a := 5) rfl; omega) (by decide) ?_
      refine lv_iconst (v := (-1)) hx hb d_TRE_told_94 (by decide) ?_
      obtain rfl := Option.some.inj hf
      exact W.iret (v := (-1)) hx hb hr (fun t ht hW => ⟨⟨_, (), rfl, rfl, ⟨by rw [ht]; exact hP, va_K.moved hW.alike hK, hD⟩⟩, hS.F ht⟩) hS.2.2 d_TRE_told_95
    · have hf := f_neg c_ hf
      refine lv_iconst (v := (-1)) hx hb d_TRE_told_12 (by decide) ?_
      obtain rfl := Option.some.inj hf
      exact W.iret (v := (-1)) hx hb hr (fun t ht hW => ⟨⟨_, (), rfl, rfl, ⟨by rw [ht]; exact hP, va_K.moved hW.alike hK, hD⟩⟩, hS.F ht⟩) hS.2.2 d_TRE_told_13
def f_PN_node (tre_nodes : Int32) (tre_kinds : Nat → Int32) (tre_values : Nat → Int32) (tre_mosts : Nat → Int32) (tre_owners : Nat → Int32) (tre_sizes : Nat → Int32) (tre_rangeCounts : Nat → Int32) (p1 : Int32) (p2 : Int32) : Option Int32 :=
  bnd_ (f_TRE_told tre_nodes tre_kinds tre_values tre_mosts tre_owners tre_sizes tre_rangeCounts p1 p2) (fun x6 => some x6)
set_option maxRecDepth 100000 in
set_option maxHeartbeats 4000000 in
theorem c_PN_node (l : Launch) (dC : Nat → ClassId) (dI : Nat → Nat → Nat) (cI : ClassId) (tS : Nat → Nat) (sz : Nat) (a_tre a_tre_kinds a_tre_values a_tre_mosts a_tre_owners a_tre_sizes a_tre_firstRanges a_tre_rangeCounts a_tre_begins a_tre_ends a_tre_waiting a_pn a_pat a_mis a_grp a_rdr : Nat) (tre_nodes : Int32) (tre_ranges : Int32) (tre_waits : Int32) (tre_kinds : Nat → Int32) (tre_values : Nat → Int32) (tre_mosts : Nat → Int32) (tre_owners : Nat → Int32) (tre_sizes : Nat → Int32) (tre_rangeCounts : Nat → Int32) (p1 : Int32) (p2 : Int32) (R0 : Int32) (hf : f_PN_node tre_nodes tre_kinds tre_values tre_mosts tre_owners tre_sizes tre_rangeCounts p1 p2 = some R0) : Met l y_PN_node ws_PN_node ({ frames := 1, cells := 0, slots := 0, locals := 22 }) (va_Pc [.ref a_pn, .int p1, .int p2] (preS (dC, dI) classes [(cI, .int)] tS (w_43 cI tS a_tre a_tre_kinds a_tre_values a_tre_mosts a_tre_owners a_tre_sizes a_tre_firstRanges a_tre_rangeCounts a_tre_begins a_tre_ends a_tre_waiting a_pn a_pat a_mis a_grp a_rdr tre_nodes tre_ranges tre_waits tre_kinds tre_values tre_mosts tre_owners tre_sizes tre_rangeCounts) sz)) (va_Qi (fun r (_ : Unit) => r = R0) (fun _ t => posS (dC, dI) classes [(cI, .int)] (w_43 cI tS a_tre a_tre_kinds a_tre_values a_tre_mosts a_tre_owners a_tre_sizes a_tre_firstRanges a_tre_rangeCounts a_tre_begins a_tre_ends a_tre_waiting a_pn a_pat a_mis a_grp a_rdr tre_nodes tre_ranges tre_waits tre_kinds tre_values tre_mosts tre_owners tre_sizes tre_rangeCounts) (va_A (w_43 cI tS a_tre a_tre_kinds a_tre_values a_tre_mosts a_tre_owners a_tre_sizes a_tre_firstRanges a_tre_rangeCounts a_tre_begins a_tre_ends a_tre_waiting a_pn a_pat a_mis a_grp a_rdr tre_nodes tre_ranges tre_waits tre_kinds tre_values tre_mosts tre_owners tre_sizes tre_rangeCounts) sz) t) (va_A (w_43 cI tS a_tre a_tre_kinds a_tre_values a_tre_mosts a_tre_owners a_tre_sizes a_tre_firstRanges a_tre_rangeCounts a_tre_begins a_tre_ends a_tre_waiting a_pn a_pat a_mis a_grp a_rdr tre_nodes tre_ranges tre_waits tre_kinds tre_values tre_mosts tre_owners tre_sizes tre_rangeCounts) sz)) 0 0 (va_A (w_43 cI tS a_tre a_tre_kinds a_tre_values a_tre_mosts a_tre_owners a_tre_sizes a_tre_firstRanges a_tre_rangeCounts a_tre_begins a_tre_ends a_tre_waiting a_pn a_pat a_mis a_grp a_rdr tre_nodes tre_ranges tre_waits tre_kinds tre_values tre_mosts tre_owners tre_sizes tre_rangeCounts) sz) := by
  refine Met.ofW (cc := b_PN_node) (maxL := 3) (ret := (some .int)) (by decide) rfl ?_
  intro p e s m args below meth c s₁ B hml hv
  obtain ⟨rfl, hsz, hP, hK, hD0, hst0⟩ := hv
  have hx := B.exec
  have hb := B.bytes
  have hr := B.returns
  have hts0 := atoms_spec (ws := ws_PN_node) B.pre
  have hts : ∀ w ∈ GW, w.before _ s = true := fun w h => hts0 w (List.mem_cons_of_mem _ h)
  have hown : s.vm.findClass R_PN = some m.cls := findClass_of_methodNamed B.named
  have hlocks := B.notSynchronized
  subst hsz
  have hD := hD0.self (sz := s.heap.size)
  generalize hAe : va_A (w_43 cI tS a_tre a_tre_kinds a_tre_values a_tre_mosts a_tre_owners a_tre_sizes a_tre_firstRanges a_tre_rangeCounts a_tre_begins a_tre_ends a_tre_waiting a_pn a_pat a_mis a_grp a_rdr tre_nodes tre_ranges tre_waits tre_kinds tre_values tre_mosts tre_owners tre_sizes tre_rangeCounts) s.heap.size = A at hD hst0 ⊢
  have hA : ∀ q : Nat, s.heap.size ≤ q → A q := fun q h => by rw [← hAe]; exact Or.inr h
  have hS : va_S A s.heap s.heap [] := va_S.rf
  have hl := lv_entry ([.ref a_pn, .int p1, .int p2]) (n := 3) (Nat.le_of_ble_eq_true rfl)
  rw [lg_entry_eq]
  generalize (lg_sl ([.ref a_pn, .int p1, .int p2]) ++ List.replicate (3 - (lg_sl ([.ref a_pn, .int p1, .int p2])).length) Slot.unset).toArray = ls at hl ⊢
  have hl : lv_has ls 3 [(0, .ref a_pn), (1, .int p1), (2, .int p2)] := hl
  refine lv_aload_n hx hb d_PN_node_0 rfl (lv_at hl 0 rfl) ?_
  refine va_get (D := (dC, dI)) (ci := 11) (v := .ref a_tre) (C := R_PN) (T := F_PN) (N := N_PN) hx hb hts i_PN hown hK hP 1 rfl rfl 2 (by decide) (hts _ tw_389) (fun _ h9 => h9) rfl d_PN_node_1 ?_
  refine lv_iload_n hx hb d_PN_node_4 rfl (lv_at hl 1 rfl) ?_
  refine lv_iload_n hx hb d_PN_node_5 rfl (lv_at hl 2 rfl) ?_
  obtain ⟨x6, hg, hf⟩ := bnd hf
  have hPc := hP.sub (ws' := (w_42 cI tS a_tre a_tre_kinds a_tre_values a_tre_mosts a_tre_owners a_tre_sizes a_tre_firstRanges a_tre_rangeCounts a_tre_begins a_tre_ends a_tre_waiting tre_nodes tre_ranges tre_waits tre_kinds tre_values tre_mosts tre_owners tre_sizes tre_rangeCounts)) [0, 2, 3, 4, 5, 6, 7] rfl
  have hDc := hD.sub (ws' := (w_42 cI tS a_tre a_tre_kinds a_tre_values a_tre_mosts a_tre_owners a_tre_sizes a_tre_firstRanges a_tre_rangeCounts a_tre_begins a_tre_ends a_tre_waiting tre_nodes tre_ranges tre_waits tre_kinds tre_values tre_mosts tre_owners tre_sizes tre_rangeCounts)) [0, 2, 3, 4, 5, 6, 7] (by decide) rfl
  have hFc := va_free (wc := (w_42 cI tS a_tre a_tre_kinds a_tre_values a_tre_mosts a_tre_owners a_tre_sizes a_tre_firstRanges a_tre_rangeCounts a_tre_begins a_tre_ends a_tre_waiting tre_nodes tre_ranges tre_waits tre_kinds tre_values tre_mosts tre_owners tre_sizes tre_rangeCounts)) hD hS hA [0, 2, 3, 4, 5, 6, 7] rfl
  refine cal_i (va_runV (As := [.int p1, .int p2]) (rest := []) ⟨hx, hb, hml, hown, hts⟩ (c_TRE_told l dC dI cI tS s.heap.size a_tre a_tre_kinds a_tre_values a_tre_mosts a_tre_owners a_tre_sizes a_tre_firstRanges a_tre_rangeCounts a_tre_begins a_tre_ends a_tre_waiting tre_nodes tre_ranges tre_waits tre_kinds tre_values tre_mosts tre_owners tre_sizes tre_rangeCounts p1 p2 x6 hg) ⟨callB_of 2 hts (gN tw_395) rfl rfl rfl (hts _ tw_26) (hts _ tw_394) hd_TRE_told ⟨Nat.le_of_ble_eq_true rfl, Nat.le_of_ble_eq_true rfl⟩, hts _ tw_396, hts _ tw_397⟩ (pre_V hK hPc hDc hst0 hS hFc (va_recv hK hPc (ci := 3) (q0 := 0) rfl rfl)) rfl rfl hl.1 rfl (lv_room (Nat.le_of_ble_eq_true rfl)) d_PN_node_6 ⟨Nat.zero_le _, Nat.zero_le _⟩) hP hD hS hA [0, 2, 3, 4, 5, 6, 7] [1] rfl rfl (by decide) (by decide) (fun H locs hP hD hS => ?_)
  have hP := hP.sub (ws' := (w_43 cI tS a_tre a_tre_kinds a_tre_values a_tre_mosts a_tre_owners a_tre_sizes a_tre_firstRanges a_tre_rangeCounts a_tre_begins a_tre_ends a_tre_waiting a_pn a_pat a_mis a_grp a_rdr tre_nodes tre_ranges tre_waits tre_kinds tre_values tre_mosts tre_owners tre_sizes tre_rangeCounts)) [1, 0, 2, 3, 4, 5, 6, 7] rfl
  have hD := hD.sub (ws' := (w_43 cI tS a_tre a_tre_kinds a_tre_values a_tre_mosts a_tre_owners a_tre_sizes a_tre_firstRanges a_tre_rangeCounts a_tre_begins a_tre_ends a_tre_waiting a_pn a_pat a_mis a_grp a_rdr tre_nodes tre_ranges tre_waits tre_kinds tre_values tre_mosts tre_owners tre_sizes tre_rangeCounts)) [1, 0, 2, 3, 4, 5, 6, 7] (by decide) rfl
  obtain rfl := Option.some.inj hf
  exact W.iret (v := x6) hx hb hr (fun t ht hW => ⟨⟨_, (), rfl, rfl, ⟨by rw [ht]; exact hP, va_K.moved hW.alike hK, hD⟩⟩, hS.F ht⟩) hS.2.2 d_PN_node_9
def f_TRE_rangeEdge (tre_nodes : Int32) (tre_firstRanges : Nat → Int32) (tre_rangeCounts : Nat → Int32) (tre_begins : Nat → Int32) (tre_ends : Nat → Int32) (p1 : Int32) (p2 : Int32) (p3 : Int32) : Option Int32 :=
  if p1 < 0 then some (-1) else (if tre_nodes ≤ p1 then some (-1) else (if p2 < 0 then some (-1) else grd (inb p1 512) (if p2 < (tre_rangeCounts p1.toNatClampNeg) then (if p3 = 0 then grd (inb p1 512) (grd (inb ((tre_firstRanges p1.toNatClampNeg) + p2) 1600) (some (tre_begins ((tre_firstRanges p1.toNatClampNeg) + p2).toNatClampNeg))) else (if p3 = 1 then grd (inb p1 512) (grd (inb ((tre_firstRanges p1.toNatClampNeg) + p2) 1600) (some (tre_ends ((tre_firstRanges p1.toNatClampNeg) + p2).toNatClampNeg))) else some (-1))) else some (-1))))
set_option maxRecDepth 100000 in
set_option maxHeartbeats 4000000 in
theorem c_TRE_rangeEdge (l : Launch) (dC : Nat → ClassId) (dI : Nat → Nat → Nat) (cI : ClassId) (tS : Nat → Nat) (sz : Nat) (a_tre a_tre_kinds a_tre_values a_tre_mosts a_tre_owners a_tre_sizes a_tre_firstRanges a_tre_rangeCounts a_tre_begins a_tre_ends a_tre_waiting : Nat) (tre_nodes : Int32) (tre_ranges : Int32) (tre_waits : Int32) (tre_firstRanges : Nat → Int32) (tre_rangeCounts : Nat → Int32) (tre_begins : Nat → Int32) (tre_ends : Nat → Int32) (p1 : Int32) (p2 : Int32) (p3 : Int32) (R0 : Int32) (hf : f_TRE_rangeEdge tre_nodes tre_firstRanges tre_rangeCounts tre_begins tre_ends p1 p2 p3 = some R0) : Met l y_TRE_rangeEdge ws_TRE_rangeEdge ({ frames := 0, cells := 0, slots := 0, locals := 0 }) (va_Pc [.ref a_tre, .int p1, .int p2, .int p3] (preS (dC, dI) classes [(cI, .int)] tS (w_44 cI tS a_tre a_tre_kinds a_tre_values a_tre_mosts a_tre_owners a_tre_sizes a_tre_firstRanges a_tre_rangeCounts a_tre_begins a_tre_ends a_tre_waiting tre_nodes tre_ranges tre_waits tre_firstRanges tre_rangeCounts tre_begins tre_ends) sz)) (va_Qi (fun r (_ : Unit) => r = R0) (fun _ t => posS (dC, dI) classes [(cI, .int)] (w_44 cI tS a_tre a_tre_kinds a_tre_values a_tre_mosts a_tre_owners a_tre_sizes a_tre_firstRanges a_tre_rangeCounts a_tre_begins a_tre_ends a_tre_waiting tre_nodes tre_ranges tre_waits tre_firstRanges tre_rangeCounts tre_begins tre_ends) (va_A (w_44 cI tS a_tre a_tre_kinds a_tre_values a_tre_mosts a_tre_owners a_tre_sizes a_tre_firstRanges a_tre_rangeCounts a_tre_begins a_tre_ends a_tre_waiting tre_nodes tre_ranges tre_waits tre_firstRanges tre_rangeCounts tre_begins tre_ends) sz) t) (va_A (w_44 cI tS a_tre a_tre_kinds a_tre_values a_tre_mosts a_tre_owners a_tre_sizes a_tre_firstRanges a_tre_rangeCounts a_tre_begins a_tre_ends a_tre_waiting tre_nodes tre_ranges tre_waits tre_firstRanges tre_rangeCounts tre_begins tre_ends) sz)) 0 0 (va_A (w_44 cI tS a_tre a_tre_kinds a_tre_values a_tre_mosts a_tre_owners a_tre_sizes a_tre_firstRanges a_tre_rangeCounts a_tre_begins a_tre_ends a_tre_waiting tre_nodes tre_ranges tre_waits tre_firstRanges tre_rangeCounts tre_begins tre_ends) sz) := by
  refine Met.ofW (cc := b_TRE_rangeEdge) (maxL := 4) (ret := (some .int)) (by decide) rfl ?_
  intro p e s m args below meth c s₁ B hml hv
  obtain ⟨rfl, hsz, hP, hK, hD0, hst0⟩ := hv
  have hx := B.exec
  have hb := B.bytes
  have hr := B.returns
  have hts0 := atoms_spec (ws := ws_TRE_rangeEdge) B.pre
  have hts : ∀ w ∈ GW, w.before _ s = true := fun w h => hts0 w (List.mem_cons_of_mem _ h)
  have hown : s.vm.findClass R_TRE = some m.cls := findClass_of_methodNamed B.named
  have hlocks := B.notSynchronized
  subst hsz
  have hD := hD0.self (sz := s.heap.size)
  generalize hAe : va_A (w_44 cI tS a_tre a_tre_kinds a_tre_values a_tre_mosts a_tre_owners a_tre_sizes a_tre_firstRanges a_tre_rangeCounts a_tre_begins a_tre_ends a_tre_waiting tre_nodes tre_ranges tre_waits tre_firstRanges tre_rangeCounts tre_begins tre_ends) s.heap.size = A at hD hst0 ⊢
  have hA : ∀ q : Nat, s.heap.size ≤ q → A q := fun q h => by rw [← hAe]; exact Or.inr h
  have hS : va_S A s.heap s.heap [] := va_S.rf
  have hl := lv_entry ([.ref a_tre, .int p1, .int p2, .int p3]) (n := 4) (Nat.le_of_ble_eq_true rfl)
  rw [lg_entry_eq]
  generalize (lg_sl ([.ref a_tre, .int p1, .int p2, .int p3]) ++ List.replicate (4 - (lg_sl ([.ref a_tre, .int p1, .int p2, .int p3])).length) Slot.unset).toArray = ls at hl ⊢
  have hl : lv_has ls 4 [(0, .ref a_tre), (1, .int p1), (2, .int p2), (3, .int p3)] := hl
  refine lv_iload_n hx hb d_TRE_rangeEdge_0 rfl (lv_at hl 1 rfl) ?_
  refine lv_if_lt (tgt := 26) hx hb d_TRE_rangeEdge_1 (by decide) (fun c_ => ?_) (fun c_ => ?_)
  · have hf := f_pos c_ hf
    refine lv_iconst (v := (-1)) hx hb d_TRE_rangeEdge_26 (by decide) ?_
    obtain rfl := Option.some.inj hf
    exact W.iret (v := (-1)) hx hb hr (fun t ht hW => ⟨⟨_, (), rfl, rfl, ⟨by rw [ht]; exact hP, va_K.moved hW.alike hK, hD⟩⟩, hS.F ht⟩) hS.2.2 d_TRE_rangeEdge_27
  · have hf := f_neg c_ hf
    refine lv_iload_n hx hb d_TRE_rangeEdge_4 rfl (lv_at hl 1 rfl) ?_
    refine lv_aload_n hx hb d_TRE_rangeEdge_5 rfl (lv_at hl 0 rfl) ?_
    refine va_get (D := (dC, dI)) (ci := 3) (v := .int tre_nodes) (C := R_TRE) (T := F_TRE) (N := N_TRE) hx hb hts i_TRE hown hK hP 0 rfl rfl 10 (by decide) (hts _ tw_10) (fun _ h9 => h9) rfl d_TRE_rangeEdge_6 ?_
    refine lv_icmp_ge (tgt := 26) hx hb d_TRE_rangeEdge_9 (by decide) (fun c_ => ?_) (fun c_ => ?_)
    · have hf := f_pos c_ hf
      refine lv_iconst (v := (-1)) hx hb d_TRE_rangeEdge_26 (by decide) ?_
      obtain rfl := Option.some.inj hf
      exact W.iret (v := (-1)) hx hb hr (fun t ht hW => ⟨⟨_, (), rfl, rfl, ⟨by rw [ht]; exact hP, va_K.moved hW.alike hK, hD⟩⟩, hS.F ht⟩) hS.2.2 d_TRE_rangeEdge_27
    · have hf := f_neg c_ hf
      refine lv_iload_n hx hb d_TRE_rangeEdge_12 rfl (lv_at hl 2 rfl) ?_
      refine lv_if_lt (tgt := 26) hx hb d_TRE_rangeEdge_13 (by decide) (fun c_ => ?_) (fun c_ => ?_)
      · have hf := f_pos c_ hf
        refine lv_iconst (v := (-1)) hx hb d_TRE_rangeEdge_26 (by decide) ?_
        obtain rfl := Option.some.inj hf
        exact W.iret (v := (-1)) hx hb hr (fun t ht hW => ⟨⟨_, (), rfl, rfl, ⟨by rw [ht]; exact hP, va_K.moved hW.alike hK, hD⟩⟩, hS.F ht⟩) hS.2.2 d_TRE_rangeEdge_27
      · have hf := f_neg c_ hf
        refine lv_iload_n hx hb d_TRE_rangeEdge_16 rfl (lv_at hl 2 rfl) ?_
        refine lv_aload_n hx hb d_TRE_rangeEdge_17 rfl (lv_at hl 0 rfl) ?_
        refine va_get (D := (dC, dI)) (ci := 3) (v := .ref a_tre_rangeCounts) (C := R_TRE) (T := F_TRE) (N := N_TRE) hx hb hts i_TRE hown hK hP 0 rfl rfl 6 (by decide) (hts _ tw_59) (fun _ h9 => h9) rfl d_TRE_rangeEdge_18 ?_
        refine lv_iload_n hx hb d_TRE_rangeEdge_21 rfl (lv_at hl 1 rfl) ?_
        obtain ⟨hin, hf⟩ := grd_in hf
        refine va_iald hx hb hK hP 2 0 rfl rfl hin d_TRE_rangeEdge_22 ?_
        refine lv_icmp_lt (tgt := 28) hx hb d_TRE_rangeEdge_23 (by decide) (fun c_ => ?_) (fun c_ => ?_)
        · have hf := f_pos c_ hf
          refine lv_iload_n hx hb d_TRE_rangeEdge_28 rfl (lv_at hl 3 rfl) ?_
          refine lv_if_ne (tgt := 46) hx hb d_TRE_rangeEdge_29 (by decide) (fun c_ => ?_) (fun c_ => ?_)
          · have hf := f_neg c_ hf
            refine lv_iload_n hx hb d_TRE_rangeEdge_46 rfl (lv_at hl 3 rfl) ?_
            refine lv_iconst (v := 1) hx hb d_TRE_rangeEdge_47 (by decide) ?_
            refine lv_icmp_ne (tgt := 67) hx hb d_TRE_rangeEdge_48 (by decide) (fun c_ => ?_) (fun c_ => ?_)
            · have hf := f_neg c_ hf
              refine lv_iconst (v := (-1)) hx hb d_TRE_rangeEdge_67 (by decide) ?_
              obtain rfl := Option.some.inj hf
              exact W.iret (v := (-1)) hx hb hr (fun t ht hW => ⟨⟨_, (), rfl, rfl, ⟨by rw [ht]; exact hP, va_K.moved hW.alike hK, hD⟩⟩, hS.F ht⟩) hS.2.2 d_TRE_rangeEdge_68
            · have hf := f_pos c_ hf
              refine lv_aload_n hx hb d_TRE_rangeEdge_51 rfl (lv_at hl 0 rfl) ?_
              refine va_get (D := (dC, dI)) (ci := 3) (v := .ref a_tre_ends) (C := R_TRE) (T := F_TRE) (N := N_TRE) hx hb hts i_TRE hown hK hP 0 rfl rfl 8 (by decide) (hts _ tw_311) (fun _ h9 => h9) rfl d_TRE_rangeEdge_52 ?_
              refine lv_aload_n hx hb d_TRE_rangeEdge_55 rfl (lv_at hl 0 rfl) ?_
              refine va_get (D := (dC, dI)) (ci := 3) (v := .ref a_tre_firstRanges) (C := R_TRE) (T := F_TRE) (N := N_TRE) hx hb hts i_TRE hown hK hP 0 rfl rfl 5 (by decide) (hts _ tw_58) (fun _ h9 => h9) rfl d_TRE_rangeEdge_56 ?_
              refine lv_iload_n hx hb d_TRE_rangeEdge_59 rfl (lv_at hl 1 rfl) ?_
              obtain ⟨hin, hf⟩ := grd_in hf
              refine va_iald hx hb hK hP 1 0 rfl rfl hin d_TRE_rangeEdge_60 ?_
              refine lv_iload_n hx hb d_TRE_rangeEdge_61 rfl (lv_at hl 2 rfl) ?_
              refine lv_iadd hx hb d_TRE_rangeEdge_62 ?_
              obtain ⟨hin, hf⟩ := grd_in hf
              refine va_iald hx hb hK hP 4 0 rfl rfl hin d_TRE_rangeEdge_63 ?_
              refine lv_goto (tgt := 68) hx hb d_TRE_rangeEdge_64 (by decide) ?_
              obtain rfl := Option.some.inj hf
              exact W.iret (v := tre_ends ((tre_firstRanges p1.toNatClampNeg) + p2).toNatClampNeg) hx hb hr (fun t ht hW => ⟨⟨_, (), rfl, rfl, ⟨by rw [ht]; exact hP, va_K.moved hW.alike hK, hD⟩⟩, hS.F ht⟩) hS.2.2 d_TRE_rangeEdge_68
          · have hf := f_pos c_ hf
            refine lv_aload_n hx hb d_TRE_rangeEdge_32 rfl (lv_at hl 0 rfl) ?_
            refine va_get (D := (dC, dI)) (ci := 3) (v := .ref a_tre_begins) (C := R_TRE) (T := F_TRE) (N := N_TRE) hx hb hts i_TRE hown hK hP 0 rfl rfl 7 (by decide) (hts _ tw_308) (fun _ h9 => h9) rfl d_TRE_rangeEdge_33 ?_
            refine lv_aload_n hx hb d_TRE_rangeEdge_36 rfl (lv_at hl 0 rfl) ?_
            refine va_get (D := (dC, dI)) (ci := 3) (v := .ref a_tre_firstRanges) (C := R_TRE) (T := F_TRE) (N := N_TRE) hx hb hts i_TRE hown hK hP 0 rfl rfl 5 (by decide) (hts _ tw_58) (fun _ h9 => h9) rfl d_TRE_rangeEdge_37 ?_
            refine lv_iload_n hx hb d_TRE_rangeEdge_40 rfl (lv_at hl 1 rfl) ?_
            obtain ⟨hin, hf⟩ := grd_in hf
            refine va_iald hx hb hK hP 1 0 rfl rfl hin d_TRE_rangeEdge_41 ?_
            refine lv_iload_n hx hb d_TRE_rangeEdge_42 rfl (lv_at hl 2 rfl) ?_
            refine lv_iadd hx hb d_TRE_rangeEdge_43 ?_
            obtain ⟨hin, hf⟩ := grd_in hf
            refine va_iald hx hb hK hP 3 0 rfl rfl hin d_TRE_rangeEdge_44 ?_
            obtain rfl := Option.some.inj hf
            exact W.iret (v := tre_begins ((tre_firstRanges p1.toNatClampNeg) + p2).toNatClampNeg) hx hb hr (fun t ht hW => ⟨⟨_, (), rfl, rfl, ⟨by rw [ht]; exact hP, va_K.moved hW.alike hK, hD⟩⟩, hS.F ht⟩) hS.2.2 d_TRE_rangeEdge_45
        · have hf := f_neg c_ hf
          refine lv_iconst (v := (-1)) hx hb d_TRE_rangeEdge_26 (by decide) ?_
          obtain rfl := Option.some.inj hf
          exact W.iret (v := (-1)) hx hb hr (fun t ht hW => ⟨⟨_, (), rfl, rfl, ⟨by rw [ht]; exact hP, va_K.moved hW.alike hK, hD⟩⟩, hS.F ht⟩) hS.2.2 d_TRE_rangeEdge_27
def f_PN_range (tre_nodes : Int32) (tre_firstRanges : Nat → Int32) (tre_rangeCounts : Nat → Int32) (tre_begins : Nat → Int32) (tre_ends : Nat → Int32) (p1 : Int32) (p2 : Int32) (p3 : Int32) : Option Int32 :=
  bnd_ (f_TRE_rangeEdge tre_nodes tre_firstRanges tre_rangeCounts tre_begins tre_ends p1 p2 p3) (fun x7 => some x7)
set_option maxRecDepth 100000 in
set_option maxHeartbeats 4000000 in
theorem c_PN_range (l : Launch) (dC : Nat → ClassId) (dI : Nat → Nat → Nat) (cI : ClassId) (tS : Nat → Nat) (sz : Nat) (a_tre a_tre_kinds a_tre_values a_tre_mosts a_tre_owners a_tre_sizes a_tre_firstRanges a_tre_rangeCounts a_tre_begins a_tre_ends a_tre_waiting a_pn a_pat a_mis a_grp a_rdr : Nat) (tre_nodes : Int32) (tre_ranges : Int32) (tre_waits : Int32) (tre_firstRanges : Nat → Int32) (tre_rangeCounts : Nat → Int32) (tre_begins : Nat → Int32) (tre_ends : Nat → Int32) (p1 : Int32) (p2 : Int32) (p3 : Int32) (R0 : Int32) (hf : f_PN_range tre_nodes tre_firstRanges tre_rangeCounts tre_begins tre_ends p1 p2 p3 = some R0) : Met l y_PN_range ws_PN_range ({ frames := 1, cells := 0, slots := 0, locals := 23 }) (va_Pc [.ref a_pn, .int p1, .int p2, .int p3] (preS (dC, dI) classes [(cI, .int)] tS (w_45 cI tS a_tre a_tre_kinds a_tre_values a_tre_mosts a_tre_owners a_tre_sizes a_tre_firstRanges a_tre_rangeCounts a_tre_begins a_tre_ends a_tre_waiting a_pn a_pat a_mis a_grp a_rdr tre_nodes tre_ranges tre_waits tre_firstRanges tre_rangeCounts tre_begins tre_ends) sz)) (va_Qi (fun r (_ : Unit) => r = R0) (fun _ t => posS (dC, dI) classes [(cI, .int)] (w_45 cI tS a_tre a_tre_kinds a_tre_values a_tre_mosts a_tre_owners a_tre_sizes a_tre_firstRanges a_tre_rangeCounts a_tre_begins a_tre_ends a_tre_waiting a_pn a_pat a_mis a_grp a_rdr tre_nodes tre_ranges tre_waits tre_firstRanges tre_rangeCounts tre_begins tre_ends) (va_A (w_45 cI tS a_tre a_tre_kinds a_tre_values a_tre_mosts a_tre_owners a_tre_sizes a_tre_firstRanges a_tre_rangeCounts a_tre_begins a_tre_ends a_tre_waiting a_pn a_pat a_mis a_grp a_rdr tre_nodes tre_ranges tre_waits tre_firstRanges tre_rangeCounts tre_begins tre_ends) sz) t) (va_A (w_45 cI tS a_tre a_tre_kinds a_tre_values a_tre_mosts a_tre_owners a_tre_sizes a_tre_firstRanges a_tre_rangeCounts a_tre_begins a_tre_ends a_tre_waiting a_pn a_pat a_mis a_grp a_rdr tre_nodes tre_ranges tre_waits tre_firstRanges tre_rangeCounts tre_begins tre_ends) sz)) 0 0 (va_A (w_45 cI tS a_tre a_tre_kinds a_tre_values a_tre_mosts a_tre_owners a_tre_sizes a_tre_firstRanges a_tre_rangeCounts a_tre_begins a_tre_ends a_tre_waiting a_pn a_pat a_mis a_grp a_rdr tre_nodes tre_ranges tre_waits tre_firstRanges tre_rangeCounts tre_begins tre_ends) sz) := by
  refine Met.ofW (cc := b_PN_range) (maxL := 4) (ret := (some .int)) (by decide) rfl ?_
  intro p e s m args below meth c s₁ B hml hv
  obtain ⟨rfl, hsz, hP, hK, hD0, hst0⟩ := hv
  have hx := B.exec
  have hb := B.bytes
  have hr := B.returns
  have hts0 := atoms_spec (ws := ws_PN_range) B.pre
  have hts : ∀ w ∈ GW, w.before _ s = true := fun w h => hts0 w (List.mem_cons_of_mem _ h)
  have hown : s.vm.findClass R_PN = some m.cls := findClass_of_methodNamed B.named
  have hlocks := B.notSynchronized
  subst hsz
  have hD := hD0.self (sz := s.heap.size)
  generalize hAe : va_A (w_45 cI tS a_tre a_tre_kinds a_tre_values a_tre_mosts a_tre_owners a_tre_sizes a_tre_firstRanges a_tre_rangeCounts a_tre_begins a_tre_ends a_tre_waiting a_pn a_pat a_mis a_grp a_rdr tre_nodes tre_ranges tre_waits tre_firstRanges tre_rangeCounts tre_begins tre_ends) s.heap.size = A at hD hst0 ⊢
  have hA : ∀ q : Nat, s.heap.size ≤ q → A q := fun q h => by rw [← hAe]; exact Or.inr h
  have hS : va_S A s.heap s.heap [] := va_S.rf
  have hl := lv_entry ([.ref a_pn, .int p1, .int p2, .int p3]) (n := 4) (Nat.le_of_ble_eq_true rfl)
  rw [lg_entry_eq]
  generalize (lg_sl ([.ref a_pn, .int p1, .int p2, .int p3]) ++ List.replicate (4 - (lg_sl ([.ref a_pn, .int p1, .int p2, .int p3])).length) Slot.unset).toArray = ls at hl ⊢
  have hl : lv_has ls 4 [(0, .ref a_pn), (1, .int p1), (2, .int p2), (3, .int p3)] := hl
  refine lv_aload_n hx hb d_PN_range_0 rfl (lv_at hl 0 rfl) ?_
  refine va_get (D := (dC, dI)) (ci := 11) (v := .ref a_tre) (C := R_PN) (T := F_PN) (N := N_PN) hx hb hts i_PN hown hK hP 1 rfl rfl 2 (by decide) (hts _ tw_389) (fun _ h9 => h9) rfl d_PN_range_1 ?_
  refine lv_iload_n hx hb d_PN_range_4 rfl (lv_at hl 1 rfl) ?_
  refine lv_iload_n hx hb d_PN_range_5 rfl (lv_at hl 2 rfl) ?_
  refine lv_iload_n hx hb d_PN_range_6 rfl (lv_at hl 3 rfl) ?_
  obtain ⟨x7, hg, hf⟩ := bnd hf
  have hPc := hP.sub (ws' := (w_44 cI tS a_tre a_tre_kinds a_tre_values a_tre_mosts a_tre_owners a_tre_sizes a_tre_firstRanges a_tre_rangeCounts a_tre_begins a_tre_ends a_tre_waiting tre_nodes tre_ranges tre_waits tre_firstRanges tre_rangeCounts tre_begins tre_ends)) [0, 2, 3, 4, 5] rfl
  have hDc := hD.sub (ws' := (w_44 cI tS a_tre a_tre_kinds a_tre_values a_tre_mosts a_tre_owners a_tre_sizes a_tre_firstRanges a_tre_rangeCounts a_tre_begins a_tre_ends a_tre_waiting tre_nodes tre_ranges tre_waits tre_firstRanges tre_rangeCounts tre_begins tre_ends)) [0, 2, 3, 4, 5] (by decide) rfl
  have hFc := va_free (wc := (w_44 cI tS a_tre a_tre_kinds a_tre_values a_tre_mosts a_tre_owners a_tre_sizes a_tre_firstRanges a_tre_rangeCounts a_tre_begins a_tre_ends a_tre_waiting tre_nodes tre_ranges tre_waits tre_firstRanges tre_rangeCounts tre_begins tre_ends)) hD hS hA [0, 2, 3, 4, 5] rfl
  refine cal_i (va_runV (As := [.int p1, .int p2, .int p3]) (rest := []) ⟨hx, hb, hml, hown, hts⟩ (c_TRE_rangeEdge l dC dI cI tS s.heap.size a_tre a_tre_kinds a_tre_values a_tre_mosts a_tre_owners a_tre_sizes a_tre_firstRanges a_tre_rangeCounts a_tre_begins a_tre_ends a_tre_waiting tre_nodes tre_ranges tre_waits tre_firstRanges tre_rangeCounts tre_begins tre_ends p1 p2 p3 x7 hg) ⟨callB_of 3 hts (gN tw_399) rfl rfl rfl (hts _ tw_26) (hts _ tw_398) hd_TRE_rangeEdge ⟨Nat.le_of_ble_eq_true rfl, Nat.le_of_ble_eq_true rfl⟩, hts _ tw_400, hts _ tw_401⟩ (pre_V hK hPc hDc hst0 hS hFc (va_recv hK hPc (ci := 3) (q0 := 0) rfl rfl)) rfl rfl hl.1 rfl (lv_room (Nat.le_of_ble_eq_true rfl)) d_PN_range_7 ⟨Nat.zero_le _, Nat.zero_le _⟩) hP hD hS hA [0, 2, 3, 4, 5] [1] rfl rfl (by decide) (by decide) (fun H locs hP hD hS => ?_)
  have hP := hP.sub (ws' := (w_45 cI tS a_tre a_tre_kinds a_tre_values a_tre_mosts a_tre_owners a_tre_sizes a_tre_firstRanges a_tre_rangeCounts a_tre_begins a_tre_ends a_tre_waiting a_pn a_pat a_mis a_grp a_rdr tre_nodes tre_ranges tre_waits tre_firstRanges tre_rangeCounts tre_begins tre_ends)) [1, 0, 2, 3, 4, 5] rfl
  have hD := hD.sub (ws' := (w_45 cI tS a_tre a_tre_kinds a_tre_values a_tre_mosts a_tre_owners a_tre_sizes a_tre_firstRanges a_tre_rangeCounts a_tre_begins a_tre_ends a_tre_waiting a_pn a_pat a_mis a_grp a_rdr tre_nodes tre_ranges tre_waits tre_firstRanges tre_rangeCounts tre_begins tre_ends)) [1, 0, 2, 3, 4, 5] (by decide) rfl
  obtain rfl := Option.some.inj hf
  exact W.iret (v := x7) hx hb hr (fun t ht hW => ⟨⟨_, (), rfl, rfl, ⟨by rw [ht]; exact hP, va_K.moved hW.alike hK, hD⟩⟩, hS.F ht⟩) hS.2.2 d_PN_range_10
def f_GRP_nameByte (grp_howMany : Int32) (grp_lengths : Nat → Int32) (grp_letters : Nat → Int32) (p1 : Int32) (p2 : Int32) : Option Int32 :=
  if p1 < 1 then some (-1) else (if grp_howMany < p1 then some (-1) else (if p2 < 0 then some (-1) else grd (inb p1 10) (if p2 < (grp_lengths p1.toNatClampNeg) then grd (inb ((p1 * 12) + p2) 120) (some (grp_letters ((p1 * 12) + p2).toNatClampNeg)) else some (-1))))
set_option maxRecDepth 100000 in
set_option maxHeartbeats 4000000 in
theorem c_GRP_nameByte (l : Launch) (dC : Nat → ClassId) (dI : Nat → Nat → Nat) (cI : ClassId) (tS : Nat → Nat) (sz : Nat) (a_grp a_grp_lengths a_grp_letters : Nat) (grp_howMany : Int32) (grp_lengths : Nat → Int32) (grp_letters : Nat → Int32) (p1 : Int32) (p2 : Int32) (R0 : Int32) (hf : f_GRP_nameByte grp_howMany grp_lengths grp_letters p1 p2 = some R0) : Met l y_GRP_nameByte ws_GRP_nameByte ({ frames := 0, cells := 0, slots := 0, locals := 0 }) (va_Pc [.ref a_grp, .int p1, .int p2] (preS (dC, dI) classes [(cI, .int)] tS (w_46 cI tS a_grp a_grp_lengths a_grp_letters grp_howMany grp_lengths grp_letters) sz)) (va_Qi (fun r (_ : Unit) => r = R0) (fun _ t => posS (dC, dI) classes [(cI, .int)] (w_46 cI tS a_grp a_grp_lengths a_grp_letters grp_howMany grp_lengths grp_letters) (va_A (w_46 cI tS a_grp a_grp_lengths a_grp_letters grp_howMany grp_lengths grp_letters) sz) t) (va_A (w_46 cI tS a_grp a_grp_lengths a_grp_letters grp_howMany grp_lengths grp_letters) sz)) 0 0 (va_A (w_46 cI tS a_grp a_grp_lengths a_grp_letters grp_howMany grp_lengths grp_letters) sz) := by
  refine Met.ofW (cc := b_GRP_nameByte) (maxL := 3) (ret := (some .int)) (by decide) rfl ?_
  intro p e s m args below meth c s₁ B hml hv
  obtain ⟨rfl, hsz, hP, hK, hD0, hst0⟩ := hv
  have hx := B.exec
  have hb := B.bytes
  have hr := B.returns
  have hts0 := atoms_spec (ws := ws_GRP_nameByte) B.pre
  have hts : ∀ w ∈ GW, w.before _ s = true := fun w h => hts0 w (List.mem_cons_of_mem _ h)
  have hown : s.vm.findClass R_GRP = some m.cls := findClass_of_methodNamed B.named
  have hlocks := B.notSynchronized
  subst hsz
  have hD := hD0.self (sz := s.heap.size)
  generalize hAe : va_A (w_46 cI tS a_grp a_grp_lengths a_grp_letters grp_howMany grp_lengths grp_letters) s.heap.size = A at hD hst0 ⊢
  have hA : ∀ q : Nat, s.heap.size ≤ q → A q := fun q h => by rw [← hAe]; exact Or.inr h
  have hS : va_S A s.heap s.heap [] := va_S.rf
  have hl := lv_entry ([.ref a_grp, .int p1, .int p2]) (n := 3) (Nat.le_of_ble_eq_true rfl)
  rw [lg_entry_eq]
  generalize (lg_sl ([.ref a_grp, .int p1, .int p2]) ++ List.replicate (3 - (lg_sl ([.ref a_grp, .int p1, .int p2])).length) Slot.unset).toArray = ls at hl ⊢
  have hl : lv_has ls 3 [(0, .ref a_grp), (1, .int p1), (2, .int p2)] := hl
  refine lv_iload_n hx hb d_GRP_nameByte_0 rfl (lv_at hl 1 rfl) ?_
  refine lv_iconst (v := 1) hx hb d_GRP_nameByte_1 (by decide) ?_
  refine lv_icmp_lt (tgt := 27) hx hb d_GRP_nameByte_2 (by decide) (fun c_ => ?_) (fun c_ => ?_)
  · have hf := f_pos c_ hf
    refine lv_iconst (v := (-1)) hx hb d_GRP_nameByte_27 (by decide) ?_
    obtain rfl := Option.some.inj hf
    exact W.iret (v := (-1)) hx hb hr (fun t ht hW => ⟨⟨_, (), rfl, rfl, ⟨by rw [ht]; exact hP, va_K.moved hW.alike hK, hD⟩⟩, hS.F ht⟩) hS.2.2 d_GRP_nameByte_28
  · have hf := f_neg c_ hf
    refine lv_iload_n hx hb d_GRP_nameByte_5 rfl (lv_at hl 1 rfl) ?_
    refine lv_aload_n hx hb d_GRP_nameByte_6 rfl (lv_at hl 0 rfl) ?_
    refine va_get (D := (dC, dI)) (ci := 4) (v := .int grp_howMany) (C := R_GRP) (T := F_GRP) (N := N_GRP) hx hb hts i_GRP hown hK hP 0 rfl rfl 2 (by decide) (hts _ tw_13) (fun _ h9 => h9) rfl d_GRP_nameByte_7 ?_
    refine lv_icmp_gt (tgt := 27) hx hb d_GRP_nameByte_10 (by decide) (fun c_ => ?_) (fun c_ => ?_)
    · have hf := f_pos c_ hf
      refine lv_iconst (v := (-1)) hx hb d_GRP_nameByte_27 (by decide) ?_
      obtain rfl := Option.some.inj hf
      exact W.iret (v := (-1)) hx hb hr (fun t ht hW => ⟨⟨_, (), rfl, rfl, ⟨by rw [ht]; exact hP, va_K.moved hW.alike hK, hD⟩⟩, hS.F ht⟩) hS.2.2 d_GRP_nameByte_28
    · have hf := f_neg c_ hf
      refine lv_iload_n hx hb d_GRP_nameByte_13 rfl (lv_at hl 2 rfl) ?_
      refine lv_if_lt (tgt := 27) hx hb d_GRP_nameByte_14 (by decide) (fun c_ => ?_) (fun c_ => ?_)
      · have hf := f_pos c_ hf
        refine lv_iconst (v := (-1)) hx hb d_GRP_nameByte_27 (by decide) ?_
        obtain rfl := Option.some.inj hf
        exact W.iret (v := (-1)) hx hb hr (fun t ht hW => ⟨⟨_, (), rfl, rfl, ⟨by rw [ht]; exact hP, va_K.moved hW.alike hK, hD⟩⟩, hS.F ht⟩) hS.2.2 d_GRP_nameByte_28
      · have hf := f_neg c_ hf
        refine lv_iload_n hx hb d_GRP_nameByte_17 rfl (lv_at hl 2 rfl) ?_
        refine lv_aload_n hx hb d_GRP_nameByte_18 rfl (lv_at hl 0 rfl) ?_
        refine va_get (D := (dC, dI)) (ci := 4) (v := .ref a_grp_lengths) (C := R_GRP) (T := F_GRP) (N := N_GRP) hx hb hts i_GRP hown hK hP 0 rfl rfl 0 (by decide) (hts _ tw_106) (fun _ h9 => h9) rfl d_GRP_nameByte_19 ?_
        refine lv_iload_n hx hb d_GRP_nameByte_22 rfl (lv_at hl 1 rfl) ?_
        obtain ⟨hin, hf⟩ := grd_in hf
        refine va_iald hx hb hK hP 1 0 rfl rfl hin d_GRP_nameByte_23 ?_
        refine lv_icmp_lt (tgt := 29) hx hb d_GRP_nameByte_24 (by decide) (fun c_ => ?_) (fun c_ => ?_)
        · have hf := f_pos c_ hf
          refine lv_aload_n hx hb d_GRP_nameByte_29 rfl (lv_at hl 0 rfl) ?_
          refine va_get (D := (dC, dI)) (ci := 4) (v := .ref a_grp_letters) (C := R_GRP) (T := F_GRP) (N := N_GRP) hx hb hts i_GRP hown hK hP 0 rfl rfl 1 (by decide) (hts _ tw_107) (fun _ h9 => h9) rfl d_GRP_nameByte_30 ?_
          refine lv_iload_n hx hb d_GRP_nameByte_33 rfl (lv_at hl 1 rfl) ?_
          refine lv_bipush (v := 12) hx hb d_GRP_nameByte_34 (by decide) ?_
          refine lv_imul hx hb d_GRP_nameByte_36 ?_
          refine lv_iload_n hx hb d_GRP_nameByte_37 rfl (lv_at hl 2 rfl) ?_
          refine lv_iadd hx hb d_GRP_nameByte_38 ?_
          obtain ⟨hin, hf⟩ := grd_in hf
          refine va_iald hx hb hK hP 2 0 rfl rfl hin d_GRP_nameByte_39 ?_
          obtain rfl := Option.some.inj hf
          exact W.iret (v := grp_letters ((p1 * 12) + p2).toNatClampNeg) hx hb hr (fun t ht hW => ⟨⟨_, (), rfl, rfl, ⟨by rw [ht]; exact hP, va_K.moved hW.alike hK, hD⟩⟩, hS.F ht⟩) hS.2.2 d_GRP_nameByte_40
        · have hf := f_neg c_ hf
          refine lv_iconst (v := (-1)) hx hb d_GRP_nameByte_27 (by decide) ?_
          obtain rfl := Option.some.inj hf
          exact W.iret (v := (-1)) hx hb hr (fun t ht hW => ⟨⟨_, (), rfl, rfl, ⟨by rw [ht]; exact hP, va_K.moved hW.alike hK, hD⟩⟩, hS.F ht⟩) hS.2.2 d_GRP_nameByte_28
def f_PN_name (grp_howMany : Int32) (grp_lengths : Nat → Int32) (grp_letters : Nat → Int32) (p1 : Int32) (p2 : Int32) : Option Int32 :=
  bnd_ (f_GRP_nameByte grp_howMany grp_lengths grp_letters p1 p2) (fun x6 => some x6)
set_option maxRecDepth 100000 in
set_option maxHeartbeats 4000000 in
theorem c_PN_name (l : Launch) (dC : Nat → ClassId) (dI : Nat → Nat → Nat) (cI : ClassId) (tS : Nat → Nat) (sz : Nat) (a_grp a_grp_lengths a_grp_letters a_pn a_pat a_mis a_tre a_rdr : Nat) (grp_howMany : Int32) (grp_lengths : Nat → Int32) (grp_letters : Nat → Int32) (p1 : Int32) (p2 : Int32) (R0 : Int32) (hf : f_PN_name grp_howMany grp_lengths grp_letters p1 p2 = some R0) : Met l y_PN_name ws_PN_name ({ frames := 1, cells := 0, slots := 0, locals := 22 }) (va_Pc [.ref a_pn, .int p1, .int p2] (preS (dC, dI) classes [(cI, .int)] tS (w_47 cI tS a_grp a_grp_lengths a_grp_letters a_pn a_pat a_mis a_tre a_rdr grp_howMany grp_lengths grp_letters) sz)) (va_Qi (fun r (_ : Unit) => r = R0) (fun _ t => posS (dC, dI) classes [(cI, .int)] (w_47 cI tS a_grp a_grp_lengths a_grp_letters a_pn a_pat a_mis a_tre a_rdr grp_howMany grp_lengths grp_letters) (va_A (w_47 cI tS a_grp a_grp_lengths a_grp_letters a_pn a_pat a_mis a_tre a_rdr grp_howMany grp_lengths grp_letters) sz) t) (va_A (w_47 cI tS a_grp a_grp_lengths a_grp_letters a_pn a_pat a_mis a_tre a_rdr grp_howMany grp_lengths grp_letters) sz)) 0 0 (va_A (w_47 cI tS a_grp a_grp_lengths a_grp_letters a_pn a_pat a_mis a_tre a_rdr grp_howMany grp_lengths grp_letters) sz) := by
  refine Met.ofW (cc := b_PN_name) (maxL := 3) (ret := (some .int)) (by decide) rfl ?_
  intro p e s m args below meth c s₁ B hml hv
  obtain ⟨rfl, hsz, hP, hK, hD0, hst0⟩ := hv
  have hx := B.exec
  have hb := B.bytes
  have hr := B.returns
  have hts0 := atoms_spec (ws := ws_PN_name) B.pre
  have hts : ∀ w ∈ GW, w.before _ s = true := fun w h => hts0 w (List.mem_cons_of_mem _ h)
  have hown : s.vm.findClass R_PN = some m.cls := findClass_of_methodNamed B.named
  have hlocks := B.notSynchronized
  subst hsz
  have hD := hD0.self (sz := s.heap.size)
  generalize hAe : va_A (w_47 cI tS a_grp a_grp_lengths a_grp_letters a_pn a_pat a_mis a_tre a_rdr grp_howMany grp_lengths grp_letters) s.heap.size = A at hD hst0 ⊢
  have hA : ∀ q : Nat, s.heap.size ≤ q → A q := fun q h => by rw [← hAe]; exact Or.inr h
  have hS : va_S A s.heap s.heap [] := va_S.rf
  have hl := lv_entry ([.ref a_pn, .int p1, .int p2]) (n := 3) (Nat.le_of_ble_eq_true rfl)
  rw [lg_entry_eq]
  generalize (lg_sl ([.ref a_pn, .int p1, .int p2]) ++ List.replicate (3 - (lg_sl ([.ref a_pn, .int p1, .int p2])).length) Slot.unset).toArray = ls at hl ⊢
  have hl : lv_has ls 3 [(0, .ref a_pn), (1, .int p1), (2, .int p2)] := hl
  refine lv_aload_n hx hb d_PN_name_0 rfl (lv_at hl 0 rfl) ?_
  refine va_get (D := (dC, dI)) (ci := 11) (v := .ref a_grp) (C := R_PN) (T := F_PN) (N := N_PN) hx hb hts i_PN hown hK hP 1 rfl rfl 3 (by decide) (hts _ tw_391) (fun _ h9 => h9) rfl d_PN_name_1 ?_
  refine lv_iload_n hx hb d_PN_name_4 rfl (lv_at hl 1 rfl) ?_
  refine lv_iload_n hx hb d_PN_name_5 rfl (lv_at hl 2 rfl) ?_
  obtain ⟨x6, hg, hf⟩ := bnd hf
  have hPc := hP.sub (ws' := (w_46 cI tS a_grp a_grp_lengths a_grp_letters grp_howMany grp_lengths grp_letters)) [0, 2, 3] rfl
  have hDc := hD.sub (ws' := (w_46 cI tS a_grp a_grp_lengths a_grp_letters grp_howMany grp_lengths grp_letters)) [0, 2, 3] (by decide) rfl
  have hFc := va_free (wc := (w_46 cI tS a_grp a_grp_lengths a_grp_letters grp_howMany grp_lengths grp_letters)) hD hS hA [0, 2, 3] rfl
  refine cal_i (va_runV (As := [.int p1, .int p2]) (rest := []) ⟨hx, hb, hml, hown, hts⟩ (c_GRP_nameByte l dC dI cI tS s.heap.size a_grp a_grp_lengths a_grp_letters grp_howMany grp_lengths grp_letters p1 p2 x6 hg) ⟨callB_of 2 hts (gN tw_403) rfl rfl rfl (hts _ tw_32) (hts _ tw_402) hd_GRP_nameByte ⟨Nat.le_of_ble_eq_true rfl, Nat.le_of_ble_eq_true rfl⟩, hts _ tw_404, hts _ tw_405⟩ (pre_V hK hPc hDc hst0 hS hFc (va_recv hK hPc (ci := 4) (q0 := 0) rfl rfl)) rfl rfl hl.1 rfl (lv_room (Nat.le_of_ble_eq_true rfl)) d_PN_name_6 ⟨Nat.zero_le _, Nat.zero_le _⟩) hP hD hS hA [0, 2, 3] [1] rfl rfl (by decide) (by decide) (fun H locs hP hD hS => ?_)
  have hP := hP.sub (ws' := (w_47 cI tS a_grp a_grp_lengths a_grp_letters a_pn a_pat a_mis a_tre a_rdr grp_howMany grp_lengths grp_letters)) [1, 0, 2, 3] rfl
  have hD := hD.sub (ws' := (w_47 cI tS a_grp a_grp_lengths a_grp_letters a_pn a_pat a_mis a_tre a_rdr grp_howMany grp_lengths grp_letters)) [1, 0, 2, 3] (by decide) rfl
  obtain rfl := Option.some.inj hf
  exact W.iret (v := x6) hx hb hr (fun t ht hW => ⟨⟨_, (), rfl, rfl, ⟨by rw [ht]; exact hP, va_K.moved hW.alike hK, hD⟩⟩, hS.F ht⟩) hS.2.2 d_PN_name_9
