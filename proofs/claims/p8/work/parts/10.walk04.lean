def f_CLS_refused (mis_number : Int32) (mis_place : Int32) (p1 : Int32) (p2 : Int32) : Option (Int32 × Int32 × Int32) :=
  bnd_ (f_MIS_tell mis_number mis_place p1 p2) (fun x6 => some ((-1), x6.1, x6.2))
set_option maxRecDepth 100000 in
set_option maxHeartbeats 4000000 in
theorem c_CLS_refused (l : Launch) (dC : Nat → ClassId) (dI : Nat → Nat → Nat) (cI : ClassId) (tS : Nat → Nat → Nat) (sz : Nat) (a_mis a_cls a_pat a_esc a_set : Nat) (mis_number : Int32) (mis_place : Int32) (cls_single : Int32) (p1 : Int32) (p2 : Int32) (R0 : Int32 × Int32 × Int32) (hf : f_CLS_refused mis_number mis_place p1 p2 = some R0) : Met l y_CLS_refused ws_CLS_refused ({ frames := 1, cells := 0, slots := 0, locals := 22 }) (va_Pc [.ref a_cls, .int p1, .int p2] (preS (dC, dI) classes [(cI, .int)] tS (w_26 cI tS a_mis a_cls a_pat a_esc a_set mis_number mis_place cls_single) sz)) (va_Qi (fun r (_ : Unit) => r = R0.1) (fun _ t => posS (dC, dI) classes [(cI, .int)] (w_26 cI tS a_mis a_cls a_pat a_esc a_set R0.2.1 R0.2.2 cls_single) (va_A (w_26 cI tS a_mis a_cls a_pat a_esc a_set mis_number mis_place cls_single) sz) t) (va_A (w_26 cI tS a_mis a_cls a_pat a_esc a_set mis_number mis_place cls_single) sz)) 0 0 (va_A (w_26 cI tS a_mis a_cls a_pat a_esc a_set mis_number mis_place cls_single) sz) := by
  refine Met.ofW (cc := b_CLS_refused) (maxL := 3) (ret := (some .int)) (by decide) rfl ?_
  intro p e s m args below meth c s₁ B hml hv
  obtain ⟨rfl, hsz, hP, hK, hD0, hst0⟩ := hv
  have hx := B.exec
  have hb := B.bytes
  have hr := B.returns
  have hts0 := atoms_spec (ws := ws_CLS_refused) B.pre
  have hts : ∀ w ∈ GW, w.before _ s = true := fun w h => hts0 w (List.mem_cons_of_mem _ h)
  have hown : s.vm.findClass R_CLS = some m.cls := findClass_of_methodNamed B.named
  have hlocks := B.notSynchronized
  subst hsz
  have hD := hD0.self (sz := s.heap.size)
  generalize hAe : va_A (w_26 cI tS a_mis a_cls a_pat a_esc a_set mis_number mis_place cls_single) s.heap.size = A at hD hst0 ⊢
  have hA : ∀ q : Nat, s.heap.size ≤ q → A q := fun q h => by rw [← hAe]; exact Or.inr h
  have hS : va_S A s.heap s.heap [] := va_S.rf
  have hl := lv_entry ([.ref a_cls, .int p1, .int p2]) (n := 3) (Nat.le_of_ble_eq_true rfl)
  rw [lg_entry_eq]
  generalize (lg_sl ([.ref a_cls, .int p1, .int p2]) ++ List.replicate (3 - (lg_sl ([.ref a_cls, .int p1, .int p2])).length) Slot.unset).toArray = ls at hl ⊢
  have hl : lv_has ls 3 [(0, .ref a_cls), (1, .int p1), (2, .int p2)] := hl
  refine lv_aload_n hx hb d_CLS_refused_0 rfl (lv_at hl 0 rfl) ?_
  refine va_get (D := (dC, dI)) (ci := 7) (v := .ref a_mis) (C := R_CLS) (T := F_CLS) (N := N_CLS) hx hb hts i_CLS hown hK hP 1 rfl rfl 1 (by decide) (hts _ tw_307) (fun _ h9 => h9) rfl d_CLS_refused_1 ?_
  refine lv_iload_n hx hb d_CLS_refused_4 rfl (lv_at hl 1 rfl) ?_
  refine lv_iload_n hx hb d_CLS_refused_5 rfl (lv_at hl 2 rfl) ?_
  obtain ⟨x6, hg, hf⟩ := bnd hf
  have hPc := hP.sub (ws' := (w_2 cI tS a_mis mis_number mis_place)) [0] rfl
  have hDc := hD.sub (ws' := (w_2 cI tS a_mis mis_number mis_place)) [0] (by decide) rfl
  have hFc := va_free (wc := (w_2 cI tS a_mis mis_number mis_place)) hD hS hA [0] rfl
  refine cal_v (va_runV (As := [.int p1, .int p2]) (rest := []) ⟨hx, hb, hml, hown, hts⟩ (c_MIS_tell l dC dI cI tS s.heap.size a_mis mis_number mis_place p1 p2 x6 hg) ⟨callB_of 2 hts (gN tw_636) rfl rfl rfl (hts _ tw_81) (hts _ tw_786) hd_MIS_tell ⟨Nat.le_of_ble_eq_true rfl, Nat.le_of_ble_eq_true rfl⟩, hts _ tw_634, hts _ tw_635⟩ (pre_V hK hPc hDc hst0 hS hFc (va_recv hK hPc (ci := 1) (q0 := 0) rfl rfl)) rfl rfl hl.1 rfl (lv_room (Nat.le_of_ble_eq_true rfl)) d_CLS_refused_6 ⟨Nat.zero_le _, Nat.zero_le _⟩) hP hD hS hA [0] [1] rfl rfl (by decide) (by decide) (fun H locs hP hD hS => ?_)
  have hP := hP.sub (ws' := (w_26 cI tS a_mis a_cls a_pat a_esc a_set x6.1 x6.2 cls_single)) [1, 0] rfl
  have hD := hD.sub (ws' := (w_26 cI tS a_mis a_cls a_pat a_esc a_set x6.1 x6.2 cls_single)) [1, 0] (by decide) rfl
  refine lv_iconst (v := (-1)) hx hb d_CLS_refused_9 (by decide) ?_
  obtain rfl := Option.some.inj hf
  exact W.iret (v := (-1)) hx hb hr (fun t ht hW => ⟨⟨_, (), rfl, rfl, ⟨by rw [ht]; exact hP, va_K.moved hW.alike hK, hD⟩⟩, hS.F ht⟩) hS.2.2 d_CLS_refused_10
def f_SET_addSet_L46 (p1 : Nat) (p2 : Bool) (K5 : (Int32 × Int32 × Int32 × (Nat → Int32) × (Nat → Int32)) → Option (Int32 × (Nat → Int32) × (Nat → Int32))) (v4 : Int32) (set_pieces : Int32) (set_begins : Nat → Int32) (set_ends : Nat → Int32) : Option (Int32 × (Nat → Int32) × (Nat → Int32)) :=
  grd (inb (v4 + 1) (stN p1)) (K5 ((stF p1 (v4 + 1).toNatClampNeg) + 1, v4 + 2, set_pieces, set_begins, set_ends))
def f_SET_addSet_B5 (p1 : Nat) (p2 : Bool) (K5 : (Int32 × Int32 × Int32 × (Nat → Int32) × (Nat → Int32)) → Option (Int32 × (Nat → Int32) × (Nat → Int32))) (v3 : Int32) (v4 : Int32) (set_pieces : Int32) (set_begins : Nat → Int32) (set_ends : Nat → Int32) : Option (Int32 × (Nat → Int32) × (Nat → Int32)) :=
  if (Int32.ofNat (stN p1)) ≤ (v4 + 1) then (if (b2i p2) = 0 then some (set_pieces, set_begins, set_ends) else bnd_ (f_SET_add set_pieces set_begins set_ends v3 1114111) (fun x69 => some (x69.1, x69.2.1, x69.2.2))) else (if (b2i p2) = 0 then grd (inb v4 (stN p1)) (grd (inb (v4 + 1) (stN p1)) (bnd_ (f_SET_add set_pieces set_begins set_ends (stF p1 v4.toNatClampNeg) (stF p1 (v4 + 1).toNatClampNeg)) (fun x43 => f_SET_addSet_L46 p1 p2 K5 v4 x43.1 x43.2.1 x43.2.2))) else grd (inb v4 (stN p1)) (bnd_ (f_SET_add set_pieces set_begins set_ends v3 ((stF p1 v4.toNatClampNeg) - 1)) (fun x26 => f_SET_addSet_L46 p1 p2 K5 v4 x26.1 x26.2.1 x26.2.2)))
def f_SET_addSet_L5 (p1 : Nat) (p2 : Bool) (n : Nat) (a : Int32 × Int32 × Int32 × (Nat → Int32) × (Nat → Int32)) : Option (Int32 × (Nat → Int32) × (Nat → Int32)) :=
  lpF (fun K5 v => f_SET_addSet_B5 p1 p2  K5 v.1 v.2.1 v.2.2.1 v.2.2.2.1 v.2.2.2.2) n a
def f_SET_addSet (set_pieces : Int32) (set_begins : Nat → Int32) (set_ends : Nat → Int32) (p1 : Nat) (p2 : Bool) : Option (Int32 × (Nat → Int32) × (Nat → Int32)) :=
  f_SET_addSet_L5 p1 p2 FU (0, 0, set_pieces, set_begins, set_ends)
set_option maxRecDepth 100000 in
set_option maxHeartbeats 4000000 in
theorem c_SET_addSet (l : Launch) (dC : Nat → ClassId) (dI : Nat → Nat → Nat) (cI : ClassId) (tS : Nat → Nat → Nat) (sz : Nat) (a_set a_set_begins a_set_ends : Nat) (set_pieces : Int32) (set_begins : Nat → Int32) (set_ends : Nat → Int32) (p1 : Nat) (p2 : Bool) (R0 : Int32 × (Nat → Int32) × (Nat → Int32)) (hf : f_SET_addSet set_pieces set_begins set_ends p1 p2 = some R0) : Met l y_SET_addSet ws_SET_addSet ({ frames := 2, cells := 0, slots := 0, locals := 67 }) (va_Pc [.ref a_set, .ref (tS 0 p1), .int (b2i p2)] (preS (dC, dI) classes [(cI, .int)] tS (w_22 cI tS a_set a_set_begins a_set_ends set_pieces set_begins set_ends) sz)) (va_Qv (fun _ : Unit => True) (fun _ t => posS (dC, dI) classes [(cI, .int)] (w_22 cI tS a_set a_set_begins a_set_ends R0.1 R0.2.1 R0.2.2) (va_A (w_22 cI tS a_set a_set_begins a_set_ends set_pieces set_begins set_ends) sz) t) (va_A (w_22 cI tS a_set a_set_begins a_set_ends set_pieces set_begins set_ends) sz)) 0 0 (va_A (w_22 cI tS a_set a_set_begins a_set_ends set_pieces set_begins set_ends) sz) := by
  refine Met.ofW (cc := b_SET_addSet) (maxL := 5) (ret := none) (by decide) rfl ?_
  intro p e s m args below meth c s₁ B hml hv
  obtain ⟨rfl, hsz, hP, hK, hD0, hst0⟩ := hv
  have hx := B.exec
  have hb := B.bytes
  have hr := B.returns
  have hts0 := atoms_spec (ws := ws_SET_addSet) B.pre
  have hts : ∀ w ∈ GW, w.before _ s = true := fun w h => hts0 w (List.mem_cons_of_mem _ h)
  have hown : s.vm.findClass R_SET = some m.cls := findClass_of_methodNamed B.named
  have hlocks := B.notSynchronized
  subst hsz
  have hD := hD0.self (sz := s.heap.size)
  generalize hAe : va_A (w_22 cI tS a_set a_set_begins a_set_ends set_pieces set_begins set_ends) s.heap.size = A at hD hst0 ⊢
  have hA : ∀ q : Nat, s.heap.size ≤ q → A q := fun q h => by rw [← hAe]; exact Or.inr h
  have hS : va_S A s.heap s.heap [] := va_S.rf
  have hl := lv_entry ([.ref a_set, .ref (tS 0 p1), .int (b2i p2)]) (n := 5) (Nat.le_of_ble_eq_true rfl)
  rw [lg_entry_eq]
  generalize (lg_sl ([.ref a_set, .ref (tS 0 p1), .int (b2i p2)]) ++ List.replicate (5 - (lg_sl ([.ref a_set, .ref (tS 0 p1), .int (b2i p2)])).length) Slot.unset).toArray = ls at hl ⊢
  have hl : lv_has ls 5 [(0, .ref a_set), (1, .ref (tS 0 p1)), (2, .int (b2i p2))] := hl
  have L5 : ∀ n5 : Nat, ∀ (v3 : Int32) (v4 : Int32) (set_pieces : Int32) (set_begins : Nat → Int32) (set_ends : Nat → Int32) (H : Heap) (locs : List Loc) (ls : Array Slot), va_P (dC, dI) classes (w_22 cI tS a_set a_set_begins a_set_ends set_pieces set_begins set_ends) H → va_D A (w_22 cI tS a_set a_set_begins a_set_ends set_pieces set_begins set_ends) → va_S A s.heap H locs → lv_has ls 5 [(0, .ref a_set), (1, .ref (tS 0 p1)), (2, .int (b2i p2)), (3, .int v3), (4, .int v4)] → f_SET_addSet_L5 p1 p2 n5 (v3, v4, set_pieces, set_begins, set_ends) = some R0 → W p l e (headSpec ws_SET_addSet ({ frames := 2, cells := 0, slots := 0, locals := 67 })).room s m ([.ref a_set, .ref (tS 0 p1), .int (b2i p2)] : List Value).toArray below meth c H locs 0 0 (MQ below (va_Qv (fun _ : Unit => True) (fun _ t => posS (dC, dI) classes [(cI, .int)] (w_22 cI tS a_set a_set_begins a_set_ends R0.1 R0.2.1 R0.2.2) (A) t) (A)) ([.ref a_set, .ref (tS 0 p1), .int (b2i p2)] : List Value).toArray s 0 0 A) (F0 m 5 ls []) := by
    intro n5
    induction n5 with
    | zero =>
      intro v3 v4 set_pieces set_begins set_ends H locs ls hP hD hS hl hf
      exact absurd (show (none : Option _) = some R0 from hf) (fun h => by cases h)
    | succ n5 ih5 =>
      have L46 : ∀ (v4 : Int32) (set_pieces : Int32) (set_begins : Nat → Int32) (set_ends : Nat → Int32) (H : Heap) (locs : List Loc) (ls : Array Slot), va_P (dC, dI) classes (w_22 cI tS a_set a_set_begins a_set_ends set_pieces set_begins set_ends) H → va_D A (w_22 cI tS a_set a_set_begins a_set_ends set_pieces set_begins set_ends) → va_S A s.heap H locs → lv_has ls 5 [(0, .ref a_set), (1, .ref (tS 0 p1)), (2, .int (b2i p2)), (4, .int v4)] → f_SET_addSet_L46 p1 p2 (f_SET_addSet_L5 p1 p2 n5) v4 set_pieces set_begins set_ends = some R0 → W p l e (headSpec ws_SET_addSet ({ frames := 2, cells := 0, slots := 0, locals := 67 })).room s m ([.ref a_set, .ref (tS 0 p1), .int (b2i p2)] : List Value).toArray below meth c H locs 0 0 (MQ below (va_Qv (fun _ : Unit => True) (fun _ t => posS (dC, dI) classes [(cI, .int)] (w_22 cI tS a_set a_set_begins a_set_ends R0.1 R0.2.1 R0.2.2) (A) t) (A)) ([.ref a_set, .ref (tS 0 p1), .int (b2i p2)] : List Value).toArray s 0 0 A) (F0 m 46 ls []) := by
        intro v4 set_pieces set_begins set_ends H locs ls hP hD hS hl hf
        refine lv_aload_n hx hb d_SET_addSet_46 rfl (lv_at hl 1 rfl) ?_
        refine lv_iload hx hb d_SET_addSet_47 (lv_at hl 3 rfl) ?_
        refine lv_iconst (v := 1) hx hb d_SET_addSet_49 (by decide) ?_
        refine lv_iadd hx hb d_SET_addSet_50 ?_
        obtain ⟨hin, hf⟩ := grd_in hf
        refine va_ti hx hb (st_T hst0 p1) hS hin rfl d_SET_addSet_51 ?_
        refine lv_iconst (v := 1) hx hb d_SET_addSet_52 (by decide) ?_
        refine lv_iadd hx hb d_SET_addSet_53 ?_
        refine lv_istore_n (lv' := [(3, .int ((stF p1 (v4 + 1).toNatClampNeg) + 1)), (0, .ref a_set), (1, .ref (tS 0 p1)), (2, .int (b2i p2)), (4, .int v4)]) hx hb d_SET_addSet_54 rfl hl (by decide) rfl (fun ls hl => ?_)
        refine lv_iinc (v := v4 + 2) (lv' := [(4, .int (v4 + 2)), (3, .int ((stF p1 (v4 + 1).toNatClampNeg) + 1)), (0, .ref a_set), (1, .ref (tS 0 p1)), (2, .int (b2i p2))]) hx hb d_SET_addSet_55 hl (k := 4) rfl rfl (by decide) rfl (fun ls hl => ?_)
        refine lv_goto (tgt := 5) hx hb d_SET_addSet_58 (by decide) ?_
        exact ih5 ((stF p1 (v4 + 1).toNatClampNeg) + 1) (v4 + 2) set_pieces set_begins set_ends _ _ _ hP hD hS (lv_sub hl [2, 3, 4, 1, 0] rfl) hf
      intro v3 v4 set_pieces set_begins set_ends H locs ls hP hD hS hl hf
      have hf : f_SET_addSet_B5 p1 p2 (f_SET_addSet_L5 p1 p2 n5) v3 v4 set_pieces set_begins set_ends = some R0 := hf
      refine lv_iload hx hb d_SET_addSet_5 (lv_at hl 4 rfl) ?_
      refine lv_iconst (v := 1) hx hb d_SET_addSet_7 (by decide) ?_
      refine lv_iadd hx hb d_SET_addSet_8 ?_
      refine lv_aload_n hx hb d_SET_addSet_9 rfl (lv_at hl 1 rfl) ?_
      refine va_tlen hx hb (st_T hst0 p1) hS rfl d_SET_addSet_10 ?_
      refine lv_icmp_ge (tgt := 61) hx hb d_SET_addSet_11 (by decide) (fun c_ => ?_) (fun c_ => ?_)
      · have hf := f_pos c_ hf
        refine lv_iload_n hx hb d_SET_addSet_61 rfl (lv_at hl 2 rfl) ?_
        refine lv_if_eq (tgt := 72) hx hb d_SET_addSet_62 (by decide) (fun c_ => ?_) (fun c_ => ?_)
        · have hf := f_pos c_ hf
          obtain rfl := Option.some.inj hf
          exact W.vret hx hb hr (fun t ht hW => ⟨⟨(), rfl, trivial, ⟨by rw [ht]; exact hP, va_K.moved hW.alike hK, hD⟩⟩, hS.F ht⟩) hS.2.2 d_SET_addSet_72
        · have hf := f_neg c_ hf
          refine lv_aload_n hx hb d_SET_addSet_65 rfl (lv_at hl 0 rfl) ?_
          refine lv_iload_n hx hb d_SET_addSet_66 rfl (lv_at hl 3 rfl) ?_
          refine lv_ldc (v := 1114111) hx hb hown (hts _ tw_706) d_SET_addSet_67 ?_
          obtain ⟨x69, hg, hf⟩ := bnd hf
          have hPc := hP.sub (ws' := (w_22 cI tS a_set a_set_begins a_set_ends set_pieces set_begins set_ends)) [0, 1, 2] rfl
          have hDc := hD.sub (ws' := (w_22 cI tS a_set a_set_begins a_set_ends set_pieces set_begins set_ends)) [0, 1, 2] (by decide) rfl
          have hFc := va_free (wc := (w_22 cI tS a_set a_set_begins a_set_ends set_pieces set_begins set_ends)) hD hS hA [0, 1, 2] rfl
          refine cal_v (va_runV (As := [.int v3, .int 1114111]) (rest := []) ⟨hx, hb, hml, hown, hts⟩ (c_SET_add l dC dI cI tS H.size a_set a_set_begins a_set_ends set_pieces set_begins set_ends v3 1114111 x69 hg) ⟨callB_of 2 hts (gN tw_712) rfl rfl rfl (hts _ tw_86) (hts _ tw_709) hd_SET_add ⟨Nat.le_of_ble_eq_true rfl, Nat.le_of_ble_eq_true rfl⟩, hts _ tw_710, hts _ tw_711⟩ (pre_V hK hPc hDc hst0 hS hFc (va_recv hK hPc (ci := 2) (q0 := 0) rfl rfl)) rfl rfl hl.1 rfl (lv_room (Nat.le_of_ble_eq_true rfl)) d_SET_addSet_69 ⟨Nat.zero_le _, Nat.zero_le _⟩) hP hD hS hA [0, 1, 2] [] rfl rfl (by decide) (by decide) (fun H locs hP hD hS => ?_)
          have hP := hP.sub (ws' := (w_22 cI tS a_set a_set_begins a_set_ends x69.1 x69.2.1 x69.2.2)) [0, 1, 2] rfl
          have hD := hD.sub (ws' := (w_22 cI tS a_set a_set_begins a_set_ends x69.1 x69.2.1 x69.2.2)) [0, 1, 2] (by decide) rfl
          obtain rfl := Option.some.inj hf
          exact W.vret hx hb hr (fun t ht hW => ⟨⟨(), rfl, trivial, ⟨by rw [ht]; exact hP, va_K.moved hW.alike hK, hD⟩⟩, hS.F ht⟩) hS.2.2 d_SET_addSet_72
      · have hf := f_neg c_ hf
        refine lv_iload_n hx hb d_SET_addSet_14 rfl (lv_at hl 2 rfl) ?_
        refine lv_if_eq (tgt := 32) hx hb d_SET_addSet_15 (by decide) (fun c_ => ?_) (fun c_ => ?_)
        · have hf := f_pos c_ hf
          refine lv_aload_n hx hb d_SET_addSet_32 rfl (lv_at hl 0 rfl) ?_
          refine lv_aload_n hx hb d_SET_addSet_33 rfl (lv_at hl 1 rfl) ?_
          refine lv_iload hx hb d_SET_addSet_34 (lv_at hl 4 rfl) ?_
          obtain ⟨hin, hf⟩ := grd_in hf
          refine va_ti hx hb (st_T hst0 p1) hS hin rfl d_SET_addSet_36 ?_
          refine lv_aload_n hx hb d_SET_addSet_37 rfl (lv_at hl 1 rfl) ?_
          refine lv_iload hx hb d_SET_addSet_38 (lv_at hl 4 rfl) ?_
          refine lv_iconst (v := 1) hx hb d_SET_addSet_40 (by decide) ?_
          refine lv_iadd hx hb d_SET_addSet_41 ?_
          obtain ⟨hin, hf⟩ := grd_in hf
          refine va_ti hx hb (st_T hst0 p1) hS hin rfl d_SET_addSet_42 ?_
          obtain ⟨x43, hg, hf⟩ := bnd hf
          have hPc := hP.sub (ws' := (w_22 cI tS a_set a_set_begins a_set_ends set_pieces set_begins set_ends)) [0, 1, 2] rfl
          have hDc := hD.sub (ws' := (w_22 cI tS a_set a_set_begins a_set_ends set_pieces set_begins set_ends)) [0, 1, 2] (by decide) rfl
          have hFc := va_free (wc := (w_22 cI tS a_set a_set_begins a_set_ends set_pieces set_begins set_ends)) hD hS hA [0, 1, 2] rfl
          refine cal_v (va_runV (As := [.int (stF p1 v4.toNatClampNeg), .int (stF p1 (v4 + 1).toNatClampNeg)]) (rest := []) ⟨hx, hb, hml, hown, hts⟩ (c_SET_add l dC dI cI tS H.size a_set a_set_begins a_set_ends set_pieces set_begins set_ends (stF p1 v4.toNatClampNeg) (stF p1 (v4 + 1).toNatClampNeg) x43 hg) ⟨callB_of 2 hts (gN tw_712) rfl rfl rfl (hts _ tw_86) (hts _ tw_709) hd_SET_add ⟨Nat.le_of_ble_eq_true rfl, Nat.le_of_ble_eq_true rfl⟩, hts _ tw_710, hts _ tw_711⟩ (pre_V hK hPc hDc hst0 hS hFc (va_recv hK hPc (ci := 2) (q0 := 0) rfl rfl)) rfl rfl hl.1 rfl (lv_room (Nat.le_of_ble_eq_true rfl)) d_SET_addSet_43 ⟨Nat.zero_le _, Nat.zero_le _⟩) hP hD hS hA [0, 1, 2] [] rfl rfl (by decide) (by decide) (fun H locs hP hD hS => ?_)
          have hP := hP.sub (ws' := (w_22 cI tS a_set a_set_begins a_set_ends x43.1 x43.2.1 x43.2.2)) [0, 1, 2] rfl
          have hD := hD.sub (ws' := (w_22 cI tS a_set a_set_begins a_set_ends x43.1 x43.2.1 x43.2.2)) [0, 1, 2] (by decide) rfl
          exact L46 v4 x43.1 x43.2.1 x43.2.2 _ _ _ hP hD hS (lv_sub hl [0, 1, 2, 4] rfl) hf
        · have hf := f_neg c_ hf
          refine lv_aload_n hx hb d_SET_addSet_18 rfl (lv_at hl 0 rfl) ?_
          refine lv_iload_n hx hb d_SET_addSet_19 rfl (lv_at hl 3 rfl) ?_
          refine lv_aload_n hx hb d_SET_addSet_20 rfl (lv_at hl 1 rfl) ?_
          refine lv_iload hx hb d_SET_addSet_21 (lv_at hl 4 rfl) ?_
          obtain ⟨hin, hf⟩ := grd_in hf
          refine va_ti hx hb (st_T hst0 p1) hS hin rfl d_SET_addSet_23 ?_
          refine lv_iconst (v := 1) hx hb d_SET_addSet_24 (by decide) ?_
          refine lv_isub hx hb d_SET_addSet_25 ?_
          obtain ⟨x26, hg, hf⟩ := bnd hf
          have hPc := hP.sub (ws' := (w_22 cI tS a_set a_set_begins a_set_ends set_pieces set_begins set_ends)) [0, 1, 2] rfl
          have hDc := hD.sub (ws' := (w_22 cI tS a_set a_set_begins a_set_ends set_pieces set_begins set_ends)) [0, 1, 2] (by decide) rfl
          have hFc := va_free (wc := (w_22 cI tS a_set a_set_begins a_set_ends set_pieces set_begins set_ends)) hD hS hA [0, 1, 2] rfl
          refine cal_v (va_runV (As := [.int v3, .int ((stF p1 v4.toNatClampNeg) - 1)]) (rest := []) ⟨hx, hb, hml, hown, hts⟩ (c_SET_add l dC dI cI tS H.size a_set a_set_begins a_set_ends set_pieces set_begins set_ends v3 ((stF p1 v4.toNatClampNeg) - 1) x26 hg) ⟨callB_of 2 hts (gN tw_712) rfl rfl rfl (hts _ tw_86) (hts _ tw_709) hd_SET_add ⟨Nat.le_of_ble_eq_true rfl, Nat.le_of_ble_eq_true rfl⟩, hts _ tw_710, hts _ tw_711⟩ (pre_V hK hPc hDc hst0 hS hFc (va_recv hK hPc (ci := 2) (q0 := 0) rfl rfl)) rfl rfl hl.1 rfl (lv_room (Nat.le_of_ble_eq_true rfl)) d_SET_addSet_26 ⟨Nat.zero_le _, Nat.zero_le _⟩) hP hD hS hA [0, 1, 2] [] rfl rfl (by decide) (by decide) (fun H locs hP hD hS => ?_)
          have hP := hP.sub (ws' := (w_22 cI tS a_set a_set_begins a_set_ends x26.1 x26.2.1 x26.2.2)) [0, 1, 2] rfl
          have hD := hD.sub (ws' := (w_22 cI tS a_set a_set_begins a_set_ends x26.1 x26.2.1 x26.2.2)) [0, 1, 2] (by decide) rfl
          refine lv_goto (tgt := 46) hx hb d_SET_addSet_29 (by decide) ?_
          exact L46 v4 x26.1 x26.2.1 x26.2.2 _ _ _ hP hD hS (lv_sub hl [0, 1, 2, 4] rfl) hf
  refine lv_iconst (v := 0) hx hb d_SET_addSet_0 (by decide) ?_
  refine lv_istore_n (lv' := [(3, .int 0), (0, .ref a_set), (1, .ref (tS 0 p1)), (2, .int (b2i p2))]) hx hb d_SET_addSet_1 rfl hl (by decide) rfl (fun ls hl => ?_)
  refine lv_iconst (v := 0) hx hb d_SET_addSet_2 (by decide) ?_
  refine lv_istore (lv' := [(4, .int 0), (3, .int 0), (0, .ref a_set), (1, .ref (tS 0 p1)), (2, .int (b2i p2))]) hx hb d_SET_addSet_3 hl (by decide) rfl (fun ls hl => ?_)
  exact L5 FU 0 0 set_pieces set_begins set_ends _ _ _ hP hD hS (lv_sub hl [2, 3, 4, 1, 0] rfl) hf
def f_CLS_readSetEscape (pat_length : Int32) (mis_number : Int32) (mis_place : Int32) (set_pieces : Int32) (esc_kind : Int32) (esc_value : Int32) (esc_set : Nat) (esc_others : Bool) (esc_after : Int32) (pat_bytes : Nat → Int32) (set_begins : Nat → Int32) (set_ends : Nat → Int32) (p1 : Int32) : Option (Int32 × Int32 × Int32 × Int32 × Int32 × Int32 × Nat × Bool × Int32 × (Nat → Int32) × (Nat → Int32)) :=
  bnd_ (f_ESC_readEscape pat_length esc_kind esc_value esc_set esc_others esc_after pat_bytes p1) (fun x5 => if x5.1 = 0 then bnd_ (f_SET_addSet set_pieces set_begins set_ends x5.2.2.2.1 x5.2.2.2.2.1) (fun x38 => some (x5.2.2.2.2.2, mis_number, mis_place, x38.1, x5.2.1, x5.2.2.1, x5.2.2.2.1, x5.2.2.2.2.1, x5.2.2.2.2.2, x38.2.1, x38.2.2)) else bnd_ (f_CLS_refused mis_number mis_place x5.1 p1) (fun x16 => some (x16.1, x16.2.1, x16.2.2, set_pieces, x5.2.1, x5.2.2.1, x5.2.2.2.1, x5.2.2.2.2.1, x5.2.2.2.2.2, set_begins, set_ends)))
set_option maxRecDepth 100000 in
set_option maxHeartbeats 4000000 in
theorem c_CLS_readSetEscape (l : Launch) (dC : Nat → ClassId) (dI : Nat → Nat → Nat) (cI : ClassId) (tS : Nat → Nat → Nat) (sz : Nat) (a_pat a_pat_bytes a_mis a_set a_set_begins a_set_ends a_esc a_cls : Nat) (pat_length : Int32) (mis_number : Int32) (mis_place : Int32) (set_pieces : Int32) (esc_kind : Int32) (esc_value : Int32) (esc_set : Nat) (esc_others : Bool) (esc_after : Int32) (cls_single : Int32) (pat_bytes : Nat → Int32) (set_begins : Nat → Int32) (set_ends : Nat → Int32) (p1 : Int32) (R0 : Int32 × Int32 × Int32 × Int32 × Int32 × Int32 × Nat × Bool × Int32 × (Nat → Int32) × (Nat → Int32)) (hf : f_CLS_readSetEscape pat_length mis_number mis_place set_pieces esc_kind esc_value esc_set esc_others esc_after pat_bytes set_begins set_ends p1 = some R0) : Met l y_CLS_readSetEscape ws_CLS_readSetEscape ({ frames := 3, cells := 0, slots := 0, locals := 91 }) (va_Pc [.ref a_cls, .int p1] (preS (dC, dI) classes [(cI, .int)] tS (w_27 cI tS a_pat a_pat_bytes a_mis a_set a_set_begins a_set_ends a_esc a_cls pat_length mis_number mis_place set_pieces esc_kind esc_value esc_set esc_others esc_after cls_single pat_bytes set_begins set_ends) sz)) (va_Qi (fun r (_ : Unit) => r = R0.1) (fun _ t => posS (dC, dI) classes [(cI, .int)] (w_27 cI tS a_pat a_pat_bytes a_mis a_set a_set_begins a_set_ends a_esc a_cls pat_length R0.2.1 R0.2.2.1 R0.2.2.2.1 R0.2.2.2.2.1 R0.2.2.2.2.2.1 R0.2.2.2.2.2.2.1 R0.2.2.2.2.2.2.2.1 R0.2.2.2.2.2.2.2.2.1 cls_single pat_bytes R0.2.2.2.2.2.2.2.2.2.1 R0.2.2.2.2.2.2.2.2.2.2) (va_A (w_27 cI tS a_pat a_pat_bytes a_mis a_set a_set_begins a_set_ends a_esc a_cls pat_length mis_number mis_place set_pieces esc_kind esc_value esc_set esc_others esc_after cls_single pat_bytes set_begins set_ends) sz) t) (va_A (w_27 cI tS a_pat a_pat_bytes a_mis a_set a_set_begins a_set_ends a_esc a_cls pat_length mis_number mis_place set_pieces esc_kind esc_value esc_set esc_others esc_after cls_single pat_bytes set_begins set_ends) sz)) 0 0 (va_A (w_27 cI tS a_pat a_pat_bytes a_mis a_set a_set_begins a_set_ends a_esc a_cls pat_length mis_number mis_place set_pieces esc_kind esc_value esc_set esc_others esc_after cls_single pat_bytes set_begins set_ends) sz) := by
  refine Met.ofW (cc := b_CLS_readSetEscape) (maxL := 3) (ret := (some .int)) (by decide) rfl ?_
  intro p e s m args below meth c s₁ B hml hv
  obtain ⟨rfl, hsz, hP, hK, hD0, hst0⟩ := hv
  have hx := B.exec
  have hb := B.bytes
  have hr := B.returns
  have hts0 := atoms_spec (ws := ws_CLS_readSetEscape) B.pre
  have hts : ∀ w ∈ GW, w.before _ s = true := fun w h => hts0 w (List.mem_cons_of_mem _ h)
  have hown : s.vm.findClass R_CLS = some m.cls := findClass_of_methodNamed B.named
  have hlocks := B.notSynchronized
  subst hsz
  have hD := hD0.self (sz := s.heap.size)
  generalize hAe : va_A (w_27 cI tS a_pat a_pat_bytes a_mis a_set a_set_begins a_set_ends a_esc a_cls pat_length mis_number mis_place set_pieces esc_kind esc_value esc_set esc_others esc_after cls_single pat_bytes set_begins set_ends) s.heap.size = A at hD hst0 ⊢
  have hA : ∀ q : Nat, s.heap.size ≤ q → A q := fun q h => by rw [← hAe]; exact Or.inr h
  have hS : va_S A s.heap s.heap [] := va_S.rf
  have hl := lv_entry ([.ref a_cls, .int p1]) (n := 3) (Nat.le_of_ble_eq_true rfl)
  rw [lg_entry_eq]
  generalize (lg_sl ([.ref a_cls, .int p1]) ++ List.replicate (3 - (lg_sl ([.ref a_cls, .int p1])).length) Slot.unset).toArray = ls at hl ⊢
  have hl : lv_has ls 3 [(0, .ref a_cls), (1, .int p1)] := hl
  refine lv_aload_n hx hb d_CLS_readSetEscape_0 rfl (lv_at hl 0 rfl) ?_
  refine va_get (D := (dC, dI)) (ci := 7) (v := .ref a_esc) (C := R_CLS) (T := F_CLS) (N := N_CLS) hx hb hts i_CLS hown hK hP 4 rfl rfl 2 (by decide) (hts _ tw_308) (fun _ h9 => h9) rfl d_CLS_readSetEscape_1 ?_
  refine lv_iload_n hx hb d_CLS_readSetEscape_4 rfl (lv_at hl 1 rfl) ?_
  obtain ⟨x5, hg, hf⟩ := bnd hf
  have hPc := hP.sub (ws' := (w_25 cI tS a_pat a_pat_bytes a_esc pat_length esc_kind esc_value esc_set esc_others esc_after pat_bytes)) [0, 3, 5] rfl
  have hDc := hD.sub (ws' := (w_25 cI tS a_pat a_pat_bytes a_esc pat_length esc_kind esc_value esc_set esc_others esc_after pat_bytes)) [0, 3, 5] (by decide) rfl
  have hFc := va_free (wc := (w_25 cI tS a_pat a_pat_bytes a_esc pat_length esc_kind esc_value esc_set esc_others esc_after pat_bytes)) hD hS hA [0, 3, 5] rfl
  refine cal_i (va_runV (As := [.int p1]) (rest := []) ⟨hx, hb, hml, hown, hts⟩ (c_ESC_readEscape l dC dI cI tS s.heap.size a_pat a_pat_bytes a_esc pat_length esc_kind esc_value esc_set esc_others esc_after pat_bytes p1 x5 hg) ⟨callB_of 1 hts (gN tw_743) rfl rfl rfl (hts _ tw_87) (hts _ tw_740) hd_ESC_readEscape ⟨Nat.le_of_ble_eq_true rfl, Nat.le_of_ble_eq_true rfl⟩, hts _ tw_741, hts _ tw_742⟩ (pre_V hK hPc hDc hst0 hS hFc (va_recv hK hPc (ci := 6) (q0 := 1) rfl rfl)) rfl rfl hl.1 rfl (lv_room (Nat.le_of_ble_eq_true rfl)) d_CLS_readSetEscape_5 ⟨Nat.zero_le _, Nat.zero_le _⟩) hP hD hS hA [0, 3, 5] [1, 2, 4, 6, 7] rfl rfl (by decide) (by decide) (fun H locs hP hD hS => ?_)
  have hP := hP.sub (ws' := (w_27 cI tS a_pat a_pat_bytes a_mis a_set a_set_begins a_set_ends a_esc a_cls pat_length mis_number mis_place set_pieces x5.2.1 x5.2.2.1 x5.2.2.2.1 x5.2.2.2.2.1 x5.2.2.2.2.2 cls_single pat_bytes set_begins set_ends)) [5, 0, 1, 6, 2, 7, 3, 4] rfl
  have hD := hD.sub (ws' := (w_27 cI tS a_pat a_pat_bytes a_mis a_set a_set_begins a_set_ends a_esc a_cls pat_length mis_number mis_place set_pieces x5.2.1 x5.2.2.1 x5.2.2.2.1 x5.2.2.2.2.1 x5.2.2.2.2.2 cls_single pat_bytes set_begins set_ends)) [5, 0, 1, 6, 2, 7, 3, 4] (by decide) rfl
  refine lv_istore_n (lv' := [(2, .int x5.1), (0, .ref a_cls), (1, .int p1)]) hx hb d_CLS_readSetEscape_8 rfl hl (by decide) rfl (fun ls hl => ?_)
  refine lv_iload_n hx hb d_CLS_readSetEscape_9 rfl (lv_at hl 0 rfl) ?_
  refine lv_if_eq (tgt := 20) hx hb d_CLS_readSetEscape_10 (by decide) (fun c_ => ?_) (fun c_ => ?_)
  · have hf := f_pos c_ hf
    refine lv_aload_n hx hb d_CLS_readSetEscape_20 rfl (lv_at hl 1 rfl) ?_
    refine va_get (D := (dC, dI)) (ci := 7) (v := .ref a_set) (C := R_CLS) (T := F_CLS) (N := N_CLS) hx hb hts i_CLS hown hK hP 4 rfl rfl 3 (by decide) (hts _ tw_309) (fun _ h9 => h9) rfl d_CLS_readSetEscape_21 ?_
    refine lv_aload_n hx hb d_CLS_readSetEscape_24 rfl (lv_at hl 1 rfl) ?_
    refine va_get (D := (dC, dI)) (ci := 7) (v := .ref a_esc) (C := R_CLS) (T := F_CLS) (N := N_CLS) hx hb hts i_CLS hown hK hP 4 rfl rfl 2 (by decide) (hts _ tw_308) (fun _ h9 => h9) rfl d_CLS_readSetEscape_25 ?_
    refine va_getN (D := (dC, dI)) (ci := 6) (v := .ref (tS 0 x5.2.2.2.1)) (C := R_ESC) (T := F_ESC) (N := N_ESC) hx hb hts i_ESC hown hK hP 3 rfl rfl 3 (by decide) (va_Nw.use rfl (hst0.2.1 _ tn_279)) (fun _ h9 => h9) rfl d_CLS_readSetEscape_28 ?_
    refine lv_aload_n hx hb d_CLS_readSetEscape_31 rfl (lv_at hl 1 rfl) ?_
    refine va_get (D := (dC, dI)) (ci := 7) (v := .ref a_esc) (C := R_CLS) (T := F_CLS) (N := N_CLS) hx hb hts i_CLS hown hK hP 4 rfl rfl 2 (by decide) (hts _ tw_308) (fun _ h9 => h9) rfl d_CLS_readSetEscape_32 ?_
    refine va_getN (D := (dC, dI)) (ci := 6) (v := .int (b2i x5.2.2.2.2.1)) (C := R_ESC) (T := F_ESC) (N := N_ESC) hx hb hts i_ESC hown hK hP 3 rfl rfl 4 (by decide) (va_Nw.use rfl (hst0.2.1 _ tn_282)) (fun _ h9 => h9) rfl d_CLS_readSetEscape_35 ?_
    obtain ⟨x38, hg, hf⟩ := bnd hf
    have hPc := hP.sub (ws' := (w_22 cI tS a_set a_set_begins a_set_ends set_pieces set_begins set_ends)) [2, 6, 7] rfl
    have hDc := hD.sub (ws' := (w_22 cI tS a_set a_set_begins a_set_ends set_pieces set_begins set_ends)) [2, 6, 7] (by decide) rfl
    have hFc := va_free (wc := (w_22 cI tS a_set a_set_begins a_set_ends set_pieces set_begins set_ends)) hD hS hA [2, 6, 7] rfl
    refine cal_v (va_runV (As := [.ref (tS 0 x5.2.2.2.1), .int (b2i x5.2.2.2.2.1)]) (rest := []) ⟨hx, hb, hml, hown, hts⟩ (c_SET_addSet l dC dI cI tS H.size a_set a_set_begins a_set_ends set_pieces set_begins set_ends x5.2.2.2.1 x5.2.2.2.2.1 x38 hg) ⟨callB_of 2 hts (gN tw_790) rfl rfl rfl (hts _ tw_86) (hts _ tw_787) hd_SET_addSet ⟨Nat.le_of_ble_eq_true rfl, Nat.le_of_ble_eq_true rfl⟩, hts _ tw_788, hts _ tw_789⟩ (pre_V hK hPc hDc hst0 hS hFc (va_recv hK hPc (ci := 2) (q0 := 0) rfl rfl)) rfl rfl hl.1 rfl (lv_room (Nat.le_of_ble_eq_true rfl)) d_CLS_readSetEscape_38 ⟨Nat.zero_le _, Nat.zero_le _⟩) hP hD hS hA [2, 6, 7] [0, 1, 3, 4, 5] rfl rfl (by decide) (by decide) (fun H locs hP hD hS => ?_)
    have hP := hP.sub (ws' := (w_27 cI tS a_pat a_pat_bytes a_mis a_set a_set_begins a_set_ends a_esc a_cls pat_length mis_number mis_place x38.1 x5.2.1 x5.2.2.1 x5.2.2.2.1 x5.2.2.2.2.1 x5.2.2.2.2.2 cls_single pat_bytes x38.2.1 x38.2.2)) [0, 1, 5, 2, 3, 4, 6, 7] rfl
    have hD := hD.sub (ws' := (w_27 cI tS a_pat a_pat_bytes a_mis a_set a_set_begins a_set_ends a_esc a_cls pat_length mis_number mis_place x38.1 x5.2.1 x5.2.2.1 x5.2.2.2.1 x5.2.2.2.2.1 x5.2.2.2.2.2 cls_single pat_bytes x38.2.1 x38.2.2)) [0, 1, 5, 2, 3, 4, 6, 7] (by decide) rfl
    refine lv_aload_n hx hb d_CLS_readSetEscape_41 rfl (lv_at hl 1 rfl) ?_
    refine va_get (D := (dC, dI)) (ci := 7) (v := .ref a_esc) (C := R_CLS) (T := F_CLS) (N := N_CLS) hx hb hts i_CLS hown hK hP 4 rfl rfl 2 (by decide) (hts _ tw_308) (fun _ h9 => h9) rfl d_CLS_readSetEscape_42 ?_
    refine va_getN (D := (dC, dI)) (ci := 6) (v := .int x5.2.2.2.2.2) (C := R_ESC) (T := F_ESC) (N := N_ESC) hx hb hts i_ESC hown hK hP 3 rfl rfl 5 (by decide) (va_Nw.use rfl (hst0.2.1 _ tn_285)) (fun _ h9 => h9) rfl d_CLS_readSetEscape_45 ?_
    obtain rfl := Option.some.inj hf
    exact W.iret (v := x5.2.2.2.2.2) hx hb hr (fun t ht hW => ⟨⟨_, (), rfl, rfl, ⟨by rw [ht]; exact hP, va_K.moved hW.alike hK, hD⟩⟩, hS.F ht⟩) hS.2.2 d_CLS_readSetEscape_48
  · have hf := f_neg c_ hf
    refine lv_aload_n hx hb d_CLS_readSetEscape_13 rfl (lv_at hl 1 rfl) ?_
    refine lv_iload_n hx hb d_CLS_readSetEscape_14 rfl (lv_at hl 0 rfl) ?_
    refine lv_iload_n hx hb d_CLS_readSetEscape_15 rfl (lv_at hl 2 rfl) ?_
    obtain ⟨x16, hg, hf⟩ := bnd hf
    have hPc := hP.sub (ws' := (w_26 cI tS a_mis a_cls a_pat a_esc a_set mis_number mis_place cls_single)) [1, 4] rfl
    have hDc := hD.sub (ws' := (w_26 cI tS a_mis a_cls a_pat a_esc a_set mis_number mis_place cls_single)) [1, 4] (by decide) rfl
    have hFc := va_free (wc := (w_26 cI tS a_mis a_cls a_pat a_esc a_set mis_number mis_place cls_single)) hD hS hA [1, 4] rfl
    refine cal_i (va_runV (As := [.int x5.1, .int p1]) (rest := []) ⟨hx, hb, hml, hown, hts⟩ (c_CLS_refused l dC dI cI tS H.size a_mis a_cls a_pat a_esc a_set mis_number mis_place cls_single x5.1 p1 x16 hg) ⟨callB_of 2 hts (gN tw_785) rfl rfl rfl (hts _ tw_88) (hts _ tw_782) hd_CLS_refused ⟨Nat.le_of_ble_eq_true rfl, Nat.le_of_ble_eq_true rfl⟩, hts _ tw_784, hts _ tw_20⟩ (pre_V hK hPc hDc hst0 hS hFc (va_recv hK hPc (ci := 7) (q0 := 1) rfl rfl)) rfl rfl hl.1 rfl (lv_room (Nat.le_of_ble_eq_true rfl)) d_CLS_readSetEscape_16 ⟨Nat.zero_le _, Nat.zero_le _⟩) hP hD hS hA [1, 4] [0, 2, 3, 5, 6, 7] rfl rfl (by decide) (by decide) (fun H locs hP hD hS => ?_)
    have hP := hP.sub (ws' := (w_27 cI tS a_pat a_pat_bytes a_mis a_set a_set_begins a_set_ends a_esc a_cls pat_length x16.2.1 x16.2.2 set_pieces x5.2.1 x5.2.2.1 x5.2.2.2.1 x5.2.2.2.2.1 x5.2.2.2.2.2 cls_single pat_bytes set_begins set_ends)) [0, 6, 1, 2, 7, 3, 4, 5] rfl
    have hD := hD.sub (ws' := (w_27 cI tS a_pat a_pat_bytes a_mis a_set a_set_begins a_set_ends a_esc a_cls pat_length x16.2.1 x16.2.2 set_pieces x5.2.1 x5.2.2.1 x5.2.2.2.1 x5.2.2.2.2.1 x5.2.2.2.2.2 cls_single pat_bytes set_begins set_ends)) [0, 6, 1, 2, 7, 3, 4, 5] (by decide) rfl
    obtain rfl := Option.some.inj hf
    exact W.iret (v := x16.1) hx hb hr (fun t ht hW => ⟨⟨_, (), rfl, rfl, ⟨by rw [ht]; exact hP, va_K.moved hW.alike hK, hD⟩⟩, hS.F ht⟩) hS.2.2 d_CLS_readSetEscape_19
def f_PAT_hasText_B2 (pat_length : Int32) (pat_bytes : Nat → Int32) (p1 : Int32) (p2 : Nat) (K2 : Int32 → Option Bool) (v3 : Int32) : Option Bool :=
  if (sxL p2) ≤ v3 then some true else bnd_ (f_PAT_at pat_length pat_bytes (p1 + v3)) (fun x14 => grd (inb v3 (sxN p2)) (if x14 = (sxC p2 v3.toNatClampNeg) then K2 (v3 + 1) else some false))
def f_PAT_hasText_L2 (pat_length : Int32) (pat_bytes : Nat → Int32) (p1 : Int32) (p2 : Nat) (n : Nat) (a : Int32) : Option Bool :=
  lpF (fun K2 v => f_PAT_hasText_B2 pat_length pat_bytes p1 p2  K2 v) n a
def f_PAT_hasText (pat_length : Int32) (pat_bytes : Nat → Int32) (p1 : Int32) (p2 : Nat) : Option Bool :=
  f_PAT_hasText_L2 pat_length pat_bytes p1 p2 FU 0
set_option maxRecDepth 100000 in
set_option maxHeartbeats 4000000 in
theorem c_PAT_hasText (l : Launch) (dC : Nat → ClassId) (dI : Nat → Nat → Nat) (cI : ClassId) (tS : Nat → Nat → Nat) (sz : Nat) (a_pat a_pat_bytes : Nat) (pat_length : Int32) (pat_bytes : Nat → Int32) (p1 : Int32) (p2 : Nat) (R0 : Bool) (hf : f_PAT_hasText pat_length pat_bytes p1 p2 = some R0) : Met l y_PAT_hasText ws_PAT_hasText ({ frames := 4, cells := 0, slots := 0, locals := 85 }) (va_Pc [.ref a_pat, .int p1, .ref (tS 1 p2)] (preS (dC, dI) classes [(cI, .int)] tS (w_0 cI tS a_pat a_pat_bytes pat_length pat_bytes) sz)) (va_Qi (fun r (_ : Unit) => r = b2i R0) (fun _ t => posS (dC, dI) classes [(cI, .int)] (w_0 cI tS a_pat a_pat_bytes pat_length pat_bytes) (va_A (w_0 cI tS a_pat a_pat_bytes pat_length pat_bytes) sz) t) (va_A (w_0 cI tS a_pat a_pat_bytes pat_length pat_bytes) sz)) 0 0 (va_A (w_0 cI tS a_pat a_pat_bytes pat_length pat_bytes) sz) := by
  refine Met.ofW (cc := b_PAT_hasText) (maxL := 4) (ret := (some .boolean)) (by decide) rfl ?_
  intro p e s m args below meth c s₁ B hml hv
  obtain ⟨rfl, hsz, hP, hK, hD0, hst0⟩ := hv
  have hx := B.exec
  have hb := B.bytes
  have hr := B.returns
  have hts0 := atoms_spec (ws := ws_PAT_hasText) B.pre
  have hts : ∀ w ∈ GW, w.before _ s = true := fun w h => hts0 w (List.mem_cons_of_mem _ h)
  have hown : s.vm.findClass R_PAT = some m.cls := findClass_of_methodNamed B.named
  have hlocks := B.notSynchronized
  subst hsz
  have hD := hD0.self (sz := s.heap.size)
  generalize hAe : va_A (w_0 cI tS a_pat a_pat_bytes pat_length pat_bytes) s.heap.size = A at hD hst0 ⊢
  have hA : ∀ q : Nat, s.heap.size ≤ q → A q := fun q h => by rw [← hAe]; exact Or.inr h
  have hS : va_S A s.heap s.heap [] := va_S.rf
  have hl := lv_entry ([.ref a_pat, .int p1, .ref (tS 1 p2)]) (n := 4) (Nat.le_of_ble_eq_true rfl)
  rw [lg_entry_eq]
  generalize (lg_sl ([.ref a_pat, .int p1, .ref (tS 1 p2)]) ++ List.replicate (4 - (lg_sl ([.ref a_pat, .int p1, .ref (tS 1 p2)])).length) Slot.unset).toArray = ls at hl ⊢
  have hl : lv_has ls 4 [(0, .ref a_pat), (1, .int p1), (2, .ref (tS 1 p2))] := hl
  have L2 : ∀ n2 : Nat, ∀ (v3 : Int32) (H : Heap) (locs : List Loc) (ls : Array Slot), va_P (dC, dI) classes (w_0 cI tS a_pat a_pat_bytes pat_length pat_bytes) H → va_D A (w_0 cI tS a_pat a_pat_bytes pat_length pat_bytes) → va_S A s.heap H locs → lv_has ls 4 [(0, .ref a_pat), (1, .int p1), (2, .ref (tS 1 p2)), (3, .int v3)] → f_PAT_hasText_L2 pat_length pat_bytes p1 p2 n2 v3 = some R0 → W p l e (headSpec ws_PAT_hasText ({ frames := 4, cells := 0, slots := 0, locals := 85 })).room s m ([.ref a_pat, .int p1, .ref (tS 1 p2)] : List Value).toArray below meth c H locs 0 0 (MQ below (va_Qi (fun r (_ : Unit) => r = b2i R0) (fun _ t => posS (dC, dI) classes [(cI, .int)] (w_0 cI tS a_pat a_pat_bytes pat_length pat_bytes) (A) t) (A)) ([.ref a_pat, .int p1, .ref (tS 1 p2)] : List Value).toArray s 0 0 A) (F0 m 2 ls []) := by
    intro n2
    induction n2 with
    | zero =>
      intro v3 H locs ls hP hD hS hl hf
      exact absurd (show (none : Option _) = some R0 from hf) (fun h => by cases h)
    | succ n2 ih2 =>
      intro v3 H locs ls hP hD hS hl hf
      have hf : f_PAT_hasText_B2 pat_length pat_bytes p1 p2 (f_PAT_hasText_L2 pat_length pat_bytes p1 p2 n2) v3 = some R0 := hf
      refine lv_iload_n hx hb d_PAT_hasText_2 rfl (lv_at hl 3 rfl) ?_
      refine lv_aload_n hx hb d_PAT_hasText_3 rfl (lv_at hl 2 rfl) ?_
      have hPc := hP.sub (ws' := ([] : va_W)) [] rfl
      have hDc := hD.sub (ws' := ([] : va_W)) [] (by decide) rfl
      have hFc := va_free (wc := ([] : va_W)) hD hS hA [] rfl
      refine cal_i (va_runV (As := []) (rest := [.int v3]) ⟨hx, hb, hml, hown, hts⟩ (c_STR_length l dC dI cI tS H.size p2) ⟨callB_of 0 hts (gN tw_803) rfl rfl rfl (hts _ tw_98) (hts _ tw_800) hd_STR_length ⟨Nat.le_of_ble_eq_true rfl, Nat.le_of_ble_eq_true rfl⟩, hts _ tw_801, hts _ tw_802⟩ (pre_V hK hPc hDc hst0 hS hFc (st_recv hst0 p2 hS)) rfl rfl hl.1 rfl (lv_room (Nat.le_of_ble_eq_true rfl)) d_PAT_hasText_4 ⟨Nat.zero_le _, Nat.zero_le _⟩) hP hD hS hA [] [0, 1] rfl rfl (by decide) (by decide) (fun H locs hP hD hS => ?_)
      have hP := hP.sub (ws' := (w_0 cI tS a_pat a_pat_bytes pat_length pat_bytes)) [0, 1] rfl
      have hD := hD.sub (ws' := (w_0 cI tS a_pat a_pat_bytes pat_length pat_bytes)) [0, 1] (by decide) rfl
      refine lv_icmp_ge (tgt := 33) hx hb d_PAT_hasText_7 (by decide) (fun c_ => ?_) (fun c_ => ?_)
      · have hf := f_pos c_ hf
        refine lv_iconst (v := 1) hx hb d_PAT_hasText_33 (by decide) ?_
        obtain rfl := Option.some.inj hf
        exact W.zret (v := b2i true) hx hb hr (nr_b _) (fun t ht hW => ⟨⟨_, (), rfl, rfl, ⟨by rw [ht]; exact hP, va_K.moved hW.alike hK, hD⟩⟩, hS.F ht⟩) hS.2.2 d_PAT_hasText_34
      · have hf := f_neg c_ hf
        refine lv_aload_n hx hb d_PAT_hasText_10 rfl (lv_at hl 0 rfl) ?_
        refine lv_iload_n hx hb d_PAT_hasText_11 rfl (lv_at hl 1 rfl) ?_
        refine lv_iload_n hx hb d_PAT_hasText_12 rfl (lv_at hl 3 rfl) ?_
        refine lv_iadd hx hb d_PAT_hasText_13 ?_
        obtain ⟨x14, hg, hf⟩ := bnd hf
        have hPc := hP.sub (ws' := (w_0 cI tS a_pat a_pat_bytes pat_length pat_bytes)) [0, 1] rfl
        have hDc := hD.sub (ws' := (w_0 cI tS a_pat a_pat_bytes pat_length pat_bytes)) [0, 1] (by decide) rfl
        have hFc := va_free (wc := (w_0 cI tS a_pat a_pat_bytes pat_length pat_bytes)) hD hS hA [0, 1] rfl
        refine cal_i (va_runV (As := [.int (p1 + v3)]) (rest := []) ⟨hx, hb, hml, hown, hts⟩ (c_PAT_at l dC dI cI tS H.size a_pat a_pat_bytes pat_length pat_bytes (p1 + v3) x14 hg) ⟨callB_of 1 hts (gN tw_586) rfl rfl rfl (hts _ tw_80) (hts _ tw_810) hd_PAT_at ⟨Nat.le_of_ble_eq_true rfl, Nat.le_of_ble_eq_true rfl⟩, hts _ tw_584, hts _ tw_585⟩ (pre_V hK hPc hDc hst0 hS hFc (va_recv hK hPc (ci := 0) (q0 := 0) rfl rfl)) rfl rfl hl.1 rfl (lv_room (Nat.le_of_ble_eq_true rfl)) d_PAT_hasText_14 ⟨Nat.zero_le _, Nat.zero_le _⟩) hP hD hS hA [0, 1] [] rfl rfl (by decide) (by decide) (fun H locs hP hD hS => ?_)
        have hP := hP.sub (ws' := (w_0 cI tS a_pat a_pat_bytes pat_length pat_bytes)) [0, 1] rfl
        have hD := hD.sub (ws' := (w_0 cI tS a_pat a_pat_bytes pat_length pat_bytes)) [0, 1] (by decide) rfl
        refine lv_aload_n hx hb d_PAT_hasText_17 rfl (lv_at hl 2 rfl) ?_
        refine lv_iload_n hx hb d_PAT_hasText_18 rfl (lv_at hl 3 rfl) ?_
        obtain ⟨hin, hf⟩ := grd_in hf
        have hPc := hP.sub (ws' := ([] : va_W)) [] rfl
        have hDc := hD.sub (ws' := ([] : va_W)) [] (by decide) rfl
        have hFc := va_free (wc := ([] : va_W)) hD hS hA [] rfl
        refine cal_i (va_runV (As := [.int v3]) (rest := [.int x14]) ⟨hx, hb, hml, hown, hts⟩ (c_STR_charAt l dC dI cI tS H.size p2 v3 hin) ⟨callB_of 1 hts (gN tw_814) rfl rfl rfl (hts _ tw_98) (hts _ tw_811) hd_STR_charAt ⟨Nat.le_of_ble_eq_true rfl, Nat.le_of_ble_eq_true rfl⟩, hts _ tw_812, hts _ tw_813⟩ (pre_V hK hPc hDc hst0 hS hFc (st_recv hst0 p2 hS)) rfl rfl hl.1 rfl (lv_room (Nat.le_of_ble_eq_true rfl)) d_PAT_hasText_19 ⟨Nat.zero_le _, Nat.zero_le _⟩) hP hD hS hA [] [0, 1] rfl rfl (by decide) (by decide) (fun H locs hP hD hS => ?_)
        have hP := hP.sub (ws' := (w_0 cI tS a_pat a_pat_bytes pat_length pat_bytes)) [0, 1] rfl
        have hD := hD.sub (ws' := (w_0 cI tS a_pat a_pat_bytes pat_length pat_bytes)) [0, 1] (by decide) rfl
        refine lv_icmp_eq (tgt := 27) hx hb d_PAT_hasText_22 (by decide) (fun c_ => ?_) (fun c_ => ?_)
        · have hf := f_pos c_ hf
          refine lv_iinc (v := v3 + 1) (lv' := [(3, .int (v3 + 1)), (0, .ref a_pat), (1, .int p1), (2, .ref (tS 1 p2))]) hx hb d_PAT_hasText_27 hl (k := 3) rfl rfl (by decide) rfl (fun ls hl => ?_)
          refine lv_goto (tgt := 2) hx hb d_PAT_hasText_30 (by decide) ?_
          exact ih2 (v3 + 1) _ _ _ hP hD hS (lv_sub hl [1, 2, 3, 0] rfl) hf
        · have hf := f_neg c_ hf
          refine lv_iconst (v := 0) hx hb d_PAT_hasText_25 (by decide) ?_
          obtain rfl := Option.some.inj hf
          exact W.zret (v := b2i false) hx hb hr (nr_b _) (fun t ht hW => ⟨⟨_, (), rfl, rfl, ⟨by rw [ht]; exact hP, va_K.moved hW.alike hK, hD⟩⟩, hS.F ht⟩) hS.2.2 d_PAT_hasText_26
  refine lv_iconst (v := 0) hx hb d_PAT_hasText_0 (by decide) ?_
  refine lv_istore_n (lv' := [(3, .int 0), (0, .ref a_pat), (1, .int p1), (2, .ref (tS 1 p2))]) hx hb d_PAT_hasText_1 rfl hl (by decide) rfl (fun ls hl => ?_)
  exact L2 FU 0 _ _ _ hP hD hS (lv_sub hl [1, 2, 3, 0] rfl) hf
def f_CLS_setNamedAt (pat_length : Int32) (pat_bytes : Nat → Int32) (p1 : Int32) : Option Nat :=
  bnd_ (f_PAT_hasText pat_length pat_bytes p1 0) (fun x7 => if (b2i x7) = 0 then bnd_ (f_PAT_hasText pat_length pat_bytes p1 1) (fun x24 => if (b2i x24) = 0 then bnd_ (f_PAT_hasText pat_length pat_bytes p1 2) (fun x41 => if (b2i x41) = 0 then bnd_ (f_PAT_hasText pat_length pat_bytes p1 3) (fun x58 => if (b2i x58) = 0 then bnd_ (f_PAT_hasText pat_length pat_bytes p1 4) (fun x75 => if (b2i x75) = 0 then bnd_ (f_PAT_hasText pat_length pat_bytes p1 5) (fun x92 => if (b2i x92) = 0 then some 0 else some 13) else some 12) else some 11) else some 10) else some 9) else some 2)
set_option maxRecDepth 100000 in
set_option maxHeartbeats 4000000 in
theorem c_CLS_setNamedAt (l : Launch) (dC : Nat → ClassId) (dI : Nat → Nat → Nat) (cI : ClassId) (tS : Nat → Nat → Nat) (sz : Nat) (a_pat a_pat_bytes a_cls a_mis a_esc a_set : Nat) (pat_length : Int32) (cls_single : Int32) (pat_bytes : Nat → Int32) (p1 : Int32) (R0 : Nat) (hf : f_CLS_setNamedAt pat_length pat_bytes p1 = some R0) : Met l y_CLS_setNamedAt ws_CLS_setNamedAt ({ frames := 5, cells := 0, slots := 0, locals := 108 }) (va_Pc [.ref a_cls, .int p1] (preS (dC, dI) classes [(cI, .int)] tS (w_23 cI tS a_pat a_pat_bytes a_cls a_mis a_esc a_set pat_length cls_single pat_bytes) sz)) (va_Qr (fun _ : Unit => True) (fun _ a t => a = tS 0 R0 ∧ posS (dC, dI) classes [(cI, .int)] (w_23 cI tS a_pat a_pat_bytes a_cls a_mis a_esc a_set pat_length cls_single pat_bytes) (va_A (w_23 cI tS a_pat a_pat_bytes a_cls a_mis a_esc a_set pat_length cls_single pat_bytes) sz) t) (va_A (w_23 cI tS a_pat a_pat_bytes a_cls a_mis a_esc a_set pat_length cls_single pat_bytes) sz)) 0 0 (va_A (w_23 cI tS a_pat a_pat_bytes a_cls a_mis a_esc a_set pat_length cls_single pat_bytes) sz) := by
  refine Met.ofW (cc := b_CLS_setNamedAt) (maxL := 2) (ret := (some (.array .int))) (by decide) rfl ?_
  intro p e s m args below meth c s₁ B hml hv
  obtain ⟨rfl, hsz, hP, hK, hD0, hst0⟩ := hv
  have hx := B.exec
  have hb := B.bytes
  have hr := B.returns
  have hts0 := atoms_spec (ws := ws_CLS_setNamedAt) B.pre
  have hts : ∀ w ∈ GW, w.before _ s = true := fun w h => hts0 w (List.mem_cons_of_mem _ h)
  have hown : s.vm.findClass R_CLS = some m.cls := findClass_of_methodNamed B.named
  have hlocks := B.notSynchronized
  subst hsz
  have hD := hD0.self (sz := s.heap.size)
  generalize hAe : va_A (w_23 cI tS a_pat a_pat_bytes a_cls a_mis a_esc a_set pat_length cls_single pat_bytes) s.heap.size = A at hD hst0 ⊢
  have hA : ∀ q : Nat, s.heap.size ≤ q → A q := fun q h => by rw [← hAe]; exact Or.inr h
  have hS : va_S A s.heap s.heap [] := va_S.rf
  have hl := lv_entry ([.ref a_cls, .int p1]) (n := 2) (Nat.le_of_ble_eq_true rfl)
  rw [lg_entry_eq]
  generalize (lg_sl ([.ref a_cls, .int p1]) ++ List.replicate (2 - (lg_sl ([.ref a_cls, .int p1])).length) Slot.unset).toArray = ls at hl ⊢
  have hl : lv_has ls 2 [(0, .ref a_cls), (1, .int p1)] := hl
  refine lv_aload_n hx hb d_CLS_setNamedAt_0 rfl (lv_at hl 0 rfl) ?_
  refine va_get (D := (dC, dI)) (ci := 7) (v := .ref a_pat) (C := R_CLS) (T := F_CLS) (N := N_CLS) hx hb hts i_CLS hown hK hP 1 rfl rfl 0 (by decide) (hts _ tw_306) (fun _ h9 => h9) rfl d_CLS_setNamedAt_1 ?_
  refine lv_iload_n hx hb d_CLS_setNamedAt_4 rfl (lv_at hl 1 rfl) ?_
  refine va_ldcS hx hb hown (st_lit hst0 0 (by decide)) d_CLS_setNamedAt_5 ?_
  obtain ⟨x7, hg, hf⟩ := bnd hf
  have hPc := hP.sub (ws' := (w_0 cI tS a_pat a_pat_bytes pat_length pat_bytes)) [0, 2] rfl
  have hDc := hD.sub (ws' := (w_0 cI tS a_pat a_pat_bytes pat_length pat_bytes)) [0, 2] (by decide) rfl
  have hFc := va_free (wc := (w_0 cI tS a_pat a_pat_bytes pat_length pat_bytes)) hD hS hA [0, 2] rfl
  refine cal_i (va_runV (As := [.int p1, .ref (tS 1 0)]) (rest := []) ⟨hx, hb, hml, hown, hts⟩ (c_PAT_hasText l dC dI cI tS s.heap.size a_pat a_pat_bytes pat_length pat_bytes p1 0 x7 hg) ⟨callB_of 2 hts (gN tw_799) rfl rfl rfl (hts _ tw_80) (hts _ tw_796) hd_PAT_hasText ⟨Nat.le_of_ble_eq_true rfl, Nat.le_of_ble_eq_true rfl⟩, hts _ tw_797, hts _ tw_798⟩ (pre_V hK hPc hDc hst0 hS hFc (va_recv hK hPc (ci := 0) (q0 := 0) rfl rfl)) rfl rfl hl.1 rfl (lv_room (Nat.le_of_ble_eq_true rfl)) d_CLS_setNamedAt_7 ⟨Nat.zero_le _, Nat.zero_le _⟩) hP hD hS hA [0, 2] [1] rfl rfl (by decide) (by decide) (fun H locs hP hD hS => ?_)
  have hP := hP.sub (ws' := (w_23 cI tS a_pat a_pat_bytes a_cls a_mis a_esc a_set pat_length cls_single pat_bytes)) [1, 0, 2] rfl
  have hD := hD.sub (ws' := (w_23 cI tS a_pat a_pat_bytes a_cls a_mis a_esc a_set pat_length cls_single pat_bytes)) [1, 0, 2] (by decide) rfl
  refine lv_if_eq (tgt := 17) hx hb d_CLS_setNamedAt_10 (by decide) (fun c_ => ?_) (fun c_ => ?_)
  · have hf := f_pos c_ hf
    refine lv_aload_n hx hb d_CLS_setNamedAt_17 rfl (lv_at hl 0 rfl) ?_
    refine va_get (D := (dC, dI)) (ci := 7) (v := .ref a_pat) (C := R_CLS) (T := F_CLS) (N := N_CLS) hx hb hts i_CLS hown hK hP 1 rfl rfl 0 (by decide) (hts _ tw_306) (fun _ h9 => h9) rfl d_CLS_setNamedAt_18 ?_
    refine lv_iload_n hx hb d_CLS_setNamedAt_21 rfl (lv_at hl 1 rfl) ?_
    refine va_ldcS hx hb hown (st_lit hst0 1 (by decide)) d_CLS_setNamedAt_22 ?_
    obtain ⟨x24, hg, hf⟩ := bnd hf
    have hPc := hP.sub (ws' := (w_0 cI tS a_pat a_pat_bytes pat_length pat_bytes)) [0, 2] rfl
    have hDc := hD.sub (ws' := (w_0 cI tS a_pat a_pat_bytes pat_length pat_bytes)) [0, 2] (by decide) rfl
    have hFc := va_free (wc := (w_0 cI tS a_pat a_pat_bytes pat_length pat_bytes)) hD hS hA [0, 2] rfl
    refine cal_i (va_runV (As := [.int p1, .ref (tS 1 1)]) (rest := []) ⟨hx, hb, hml, hown, hts⟩ (c_PAT_hasText l dC dI cI tS H.size a_pat a_pat_bytes pat_length pat_bytes p1 1 x24 hg) ⟨callB_of 2 hts (gN tw_799) rfl rfl rfl (hts _ tw_80) (hts _ tw_796) hd_PAT_hasText ⟨Nat.le_of_ble_eq_true rfl, Nat.le_of_ble_eq_true rfl⟩, hts _ tw_797, hts _ tw_798⟩ (pre_V hK hPc hDc hst0 hS hFc (va_recv hK hPc (ci := 0) (q0 := 0) rfl rfl)) rfl rfl hl.1 rfl (lv_room (Nat.le_of_ble_eq_true rfl)) d_CLS_setNamedAt_24 ⟨Nat.zero_le _, Nat.zero_le _⟩) hP hD hS hA [0, 2] [1] rfl rfl (by decide) (by decide) (fun H locs hP hD hS => ?_)
    have hP := hP.sub (ws' := (w_23 cI tS a_pat a_pat_bytes a_cls a_mis a_esc a_set pat_length cls_single pat_bytes)) [1, 0, 2] rfl
    have hD := hD.sub (ws' := (w_23 cI tS a_pat a_pat_bytes a_cls a_mis a_esc a_set pat_length cls_single pat_bytes)) [1, 0, 2] (by decide) rfl
    refine lv_if_eq (tgt := 34) hx hb d_CLS_setNamedAt_27 (by decide) (fun c_ => ?_) (fun c_ => ?_)
    · have hf := f_pos c_ hf
      refine lv_aload_n hx hb d_CLS_setNamedAt_34 rfl (lv_at hl 0 rfl) ?_
      refine va_get (D := (dC, dI)) (ci := 7) (v := .ref a_pat) (C := R_CLS) (T := F_CLS) (N := N_CLS) hx hb hts i_CLS hown hK hP 1 rfl rfl 0 (by decide) (hts _ tw_306) (fun _ h9 => h9) rfl d_CLS_setNamedAt_35 ?_
      refine lv_iload_n hx hb d_CLS_setNamedAt_38 rfl (lv_at hl 1 rfl) ?_
      refine va_ldcS hx hb hown (st_lit hst0 2 (by decide)) d_CLS_setNamedAt_39 ?_
      obtain ⟨x41, hg, hf⟩ := bnd hf
      have hPc := hP.sub (ws' := (w_0 cI tS a_pat a_pat_bytes pat_length pat_bytes)) [0, 2] rfl
      have hDc := hD.sub (ws' := (w_0 cI tS a_pat a_pat_bytes pat_length pat_bytes)) [0, 2] (by decide) rfl
      have hFc := va_free (wc := (w_0 cI tS a_pat a_pat_bytes pat_length pat_bytes)) hD hS hA [0, 2] rfl
      refine cal_i (va_runV (As := [.int p1, .ref (tS 1 2)]) (rest := []) ⟨hx, hb, hml, hown, hts⟩ (c_PAT_hasText l dC dI cI tS H.size a_pat a_pat_bytes pat_length pat_bytes p1 2 x41 hg) ⟨callB_of 2 hts (gN tw_799) rfl rfl rfl (hts _ tw_80) (hts _ tw_796) hd_PAT_hasText ⟨Nat.le_of_ble_eq_true rfl, Nat.le_of_ble_eq_true rfl⟩, hts _ tw_797, hts _ tw_798⟩ (pre_V hK hPc hDc hst0 hS hFc (va_recv hK hPc (ci := 0) (q0 := 0) rfl rfl)) rfl rfl hl.1 rfl (lv_room (Nat.le_of_ble_eq_true rfl)) d_CLS_setNamedAt_41 ⟨Nat.zero_le _, Nat.zero_le _⟩) hP hD hS hA [0, 2] [1] rfl rfl (by decide) (by decide) (fun H locs hP hD hS => ?_)
      have hP := hP.sub (ws' := (w_23 cI tS a_pat a_pat_bytes a_cls a_mis a_esc a_set pat_length cls_single pat_bytes)) [1, 0, 2] rfl
      have hD := hD.sub (ws' := (w_23 cI tS a_pat a_pat_bytes a_cls a_mis a_esc a_set pat_length cls_single pat_bytes)) [1, 0, 2] (by decide) rfl
      refine lv_if_eq (tgt := 51) hx hb d_CLS_setNamedAt_44 (by decide) (fun c_ => ?_) (fun c_ => ?_)
      · have hf := f_pos c_ hf
        refine lv_aload_n hx hb d_CLS_setNamedAt_51 rfl (lv_at hl 0 rfl) ?_
        refine va_get (D := (dC, dI)) (ci := 7) (v := .ref a_pat) (C := R_CLS) (T := F_CLS) (N := N_CLS) hx hb hts i_CLS hown hK hP 1 rfl rfl 0 (by decide) (hts _ tw_306) (fun _ h9 => h9) rfl d_CLS_setNamedAt_52 ?_
        refine lv_iload_n hx hb d_CLS_setNamedAt_55 rfl (lv_at hl 1 rfl) ?_
        refine va_ldcS hx hb hown (st_lit hst0 3 (by decide)) d_CLS_setNamedAt_56 ?_
        obtain ⟨x58, hg, hf⟩ := bnd hf
        have hPc := hP.sub (ws' := (w_0 cI tS a_pat a_pat_bytes pat_length pat_bytes)) [0, 2] rfl
        have hDc := hD.sub (ws' := (w_0 cI tS a_pat a_pat_bytes pat_length pat_bytes)) [0, 2] (by decide) rfl
        have hFc := va_free (wc := (w_0 cI tS a_pat a_pat_bytes pat_length pat_bytes)) hD hS hA [0, 2] rfl
        refine cal_i (va_runV (As := [.int p1, .ref (tS 1 3)]) (rest := []) ⟨hx, hb, hml, hown, hts⟩ (c_PAT_hasText l dC dI cI tS H.size a_pat a_pat_bytes pat_length pat_bytes p1 3 x58 hg) ⟨callB_of 2 hts (gN tw_799) rfl rfl rfl (hts _ tw_80) (hts _ tw_796) hd_PAT_hasText ⟨Nat.le_of_ble_eq_true rfl, Nat.le_of_ble_eq_true rfl⟩, hts _ tw_797, hts _ tw_798⟩ (pre_V hK hPc hDc hst0 hS hFc (va_recv hK hPc (ci := 0) (q0 := 0) rfl rfl)) rfl rfl hl.1 rfl (lv_room (Nat.le_of_ble_eq_true rfl)) d_CLS_setNamedAt_58 ⟨Nat.zero_le _, Nat.zero_le _⟩) hP hD hS hA [0, 2] [1] rfl rfl (by decide) (by decide) (fun H locs hP hD hS => ?_)
        have hP := hP.sub (ws' := (w_23 cI tS a_pat a_pat_bytes a_cls a_mis a_esc a_set pat_length cls_single pat_bytes)) [1, 0, 2] rfl
        have hD := hD.sub (ws' := (w_23 cI tS a_pat a_pat_bytes a_cls a_mis a_esc a_set pat_length cls_single pat_bytes)) [1, 0, 2] (by decide) rfl
        refine lv_if_eq (tgt := 68) hx hb d_CLS_setNamedAt_61 (by decide) (fun c_ => ?_) (fun c_ => ?_)
        · have hf := f_pos c_ hf
          refine lv_aload_n hx hb d_CLS_setNamedAt_68 rfl (lv_at hl 0 rfl) ?_
          refine va_get (D := (dC, dI)) (ci := 7) (v := .ref a_pat) (C := R_CLS) (T := F_CLS) (N := N_CLS) hx hb hts i_CLS hown hK hP 1 rfl rfl 0 (by decide) (hts _ tw_306) (fun _ h9 => h9) rfl d_CLS_setNamedAt_69 ?_
          refine lv_iload_n hx hb d_CLS_setNamedAt_72 rfl (lv_at hl 1 rfl) ?_
          refine va_ldcS hx hb hown (st_lit hst0 4 (by decide)) d_CLS_setNamedAt_73 ?_
          obtain ⟨x75, hg, hf⟩ := bnd hf
          have hPc := hP.sub (ws' := (w_0 cI tS a_pat a_pat_bytes pat_length pat_bytes)) [0, 2] rfl
          have hDc := hD.sub (ws' := (w_0 cI tS a_pat a_pat_bytes pat_length pat_bytes)) [0, 2] (by decide) rfl
          have hFc := va_free (wc := (w_0 cI tS a_pat a_pat_bytes pat_length pat_bytes)) hD hS hA [0, 2] rfl
          refine cal_i (va_runV (As := [.int p1, .ref (tS 1 4)]) (rest := []) ⟨hx, hb, hml, hown, hts⟩ (c_PAT_hasText l dC dI cI tS H.size a_pat a_pat_bytes pat_length pat_bytes p1 4 x75 hg) ⟨callB_of 2 hts (gN tw_799) rfl rfl rfl (hts _ tw_80) (hts _ tw_796) hd_PAT_hasText ⟨Nat.le_of_ble_eq_true rfl, Nat.le_of_ble_eq_true rfl⟩, hts _ tw_797, hts _ tw_798⟩ (pre_V hK hPc hDc hst0 hS hFc (va_recv hK hPc (ci := 0) (q0 := 0) rfl rfl)) rfl rfl hl.1 rfl (lv_room (Nat.le_of_ble_eq_true rfl)) d_CLS_setNamedAt_75 ⟨Nat.zero_le _, Nat.zero_le _⟩) hP hD hS hA [0, 2] [1] rfl rfl (by decide) (by decide) (fun H locs hP hD hS => ?_)
          have hP := hP.sub (ws' := (w_23 cI tS a_pat a_pat_bytes a_cls a_mis a_esc a_set pat_length cls_single pat_bytes)) [1, 0, 2] rfl
          have hD := hD.sub (ws' := (w_23 cI tS a_pat a_pat_bytes a_cls a_mis a_esc a_set pat_length cls_single pat_bytes)) [1, 0, 2] (by decide) rfl
          refine lv_if_eq (tgt := 85) hx hb d_CLS_setNamedAt_78 (by decide) (fun c_ => ?_) (fun c_ => ?_)
          · have hf := f_pos c_ hf
            refine lv_aload_n hx hb d_CLS_setNamedAt_85 rfl (lv_at hl 0 rfl) ?_
            refine va_get (D := (dC, dI)) (ci := 7) (v := .ref a_pat) (C := R_CLS) (T := F_CLS) (N := N_CLS) hx hb hts i_CLS hown hK hP 1 rfl rfl 0 (by decide) (hts _ tw_306) (fun _ h9 => h9) rfl d_CLS_setNamedAt_86 ?_
            refine lv_iload_n hx hb d_CLS_setNamedAt_89 rfl (lv_at hl 1 rfl) ?_
            refine va_ldcS hx hb hown (st_lit hst0 5 (by decide)) d_CLS_setNamedAt_90 ?_
            obtain ⟨x92, hg, hf⟩ := bnd hf
            have hPc := hP.sub (ws' := (w_0 cI tS a_pat a_pat_bytes pat_length pat_bytes)) [0, 2] rfl
            have hDc := hD.sub (ws' := (w_0 cI tS a_pat a_pat_bytes pat_length pat_bytes)) [0, 2] (by decide) rfl
            have hFc := va_free (wc := (w_0 cI tS a_pat a_pat_bytes pat_length pat_bytes)) hD hS hA [0, 2] rfl
            refine cal_i (va_runV (As := [.int p1, .ref (tS 1 5)]) (rest := []) ⟨hx, hb, hml, hown, hts⟩ (c_PAT_hasText l dC dI cI tS H.size a_pat a_pat_bytes pat_length pat_bytes p1 5 x92 hg) ⟨callB_of 2 hts (gN tw_799) rfl rfl rfl (hts _ tw_80) (hts _ tw_796) hd_PAT_hasText ⟨Nat.le_of_ble_eq_true rfl, Nat.le_of_ble_eq_true rfl⟩, hts _ tw_797, hts _ tw_798⟩ (pre_V hK hPc hDc hst0 hS hFc (va_recv hK hPc (ci := 0) (q0 := 0) rfl rfl)) rfl rfl hl.1 rfl (lv_room (Nat.le_of_ble_eq_true rfl)) d_CLS_setNamedAt_92 ⟨Nat.zero_le _, Nat.zero_le _⟩) hP hD hS hA [0, 2] [1] rfl rfl (by decide) (by decide) (fun H locs hP hD hS => ?_)
            have hP := hP.sub (ws' := (w_23 cI tS a_pat a_pat_bytes a_cls a_mis a_esc a_set pat_length cls_single pat_bytes)) [1, 0, 2] rfl
            have hD := hD.sub (ws' := (w_23 cI tS a_pat a_pat_bytes a_cls a_mis a_esc a_set pat_length cls_single pat_bytes)) [1, 0, 2] (by decide) rfl
            refine lv_if_eq (tgt := 104) hx hb d_CLS_setNamedAt_95 (by decide) (fun c_ => ?_) (fun c_ => ?_)
            · have hf := f_pos c_ hf
              refine va_getsN hx hb (st_Z hst0 0 (by decide)) hS hown (va_Nw.use rfl (hst0.2.1 _ tn_865)) (fun _ h9 => h9) d_CLS_setNamedAt_104 ?_
              obtain rfl := Option.some.inj hf
              exact W.aret hx hb hr (Or.inr ⟨_, rfl⟩) (Or.inr ⟨_, rfl⟩) (fun t ht hW => ⟨⟨(), _, rfl, trivial, rfl, ⟨by rw [ht]; exact hP, va_K.moved hW.alike hK, hD⟩⟩, hS.F ht⟩) hS.2.2 d_CLS_setNamedAt_107
            · have hf := f_neg c_ hf
              refine va_getsN hx hb (st_Z hst0 13 (by decide)) hS hown (va_Nw.use rfl (hst0.2.1 _ tn_863)) (fun _ h9 => h9) d_CLS_setNamedAt_98 ?_
              refine lv_goto (tgt := 107) hx hb d_CLS_setNamedAt_101 (by decide) ?_
              obtain rfl := Option.some.inj hf
              exact W.aret hx hb hr (Or.inr ⟨_, rfl⟩) (Or.inr ⟨_, rfl⟩) (fun t ht hW => ⟨⟨(), _, rfl, trivial, rfl, ⟨by rw [ht]; exact hP, va_K.moved hW.alike hK, hD⟩⟩, hS.F ht⟩) hS.2.2 d_CLS_setNamedAt_107
          · have hf := f_neg c_ hf
            refine va_getsN hx hb (st_Z hst0 12 (by decide)) hS hown (va_Nw.use rfl (hst0.2.1 _ tn_860)) (fun _ h9 => h9) d_CLS_setNamedAt_81 ?_
            obtain rfl := Option.some.inj hf
            exact W.aret hx hb hr (Or.inr ⟨_, rfl⟩) (Or.inr ⟨_, rfl⟩) (fun t ht hW => ⟨⟨(), _, rfl, trivial, rfl, ⟨by rw [ht]; exact hP, va_K.moved hW.alike hK, hD⟩⟩, hS.F ht⟩) hS.2.2 d_CLS_setNamedAt_84
        · have hf := f_neg c_ hf
          refine va_getsN hx hb (st_Z hst0 11 (by decide)) hS hown (va_Nw.use rfl (hst0.2.1 _ tn_857)) (fun _ h9 => h9) d_CLS_setNamedAt_64 ?_
          obtain rfl := Option.some.inj hf
          exact W.aret hx hb hr (Or.inr ⟨_, rfl⟩) (Or.inr ⟨_, rfl⟩) (fun t ht hW => ⟨⟨(), _, rfl, trivial, rfl, ⟨by rw [ht]; exact hP, va_K.moved hW.alike hK, hD⟩⟩, hS.F ht⟩) hS.2.2 d_CLS_setNamedAt_67
      · have hf := f_neg c_ hf
        refine va_getsN hx hb (st_Z hst0 10 (by decide)) hS hown (va_Nw.use rfl (hst0.2.1 _ tn_854)) (fun _ h9 => h9) d_CLS_setNamedAt_47 ?_
        obtain rfl := Option.some.inj hf
        exact W.aret hx hb hr (Or.inr ⟨_, rfl⟩) (Or.inr ⟨_, rfl⟩) (fun t ht hW => ⟨⟨(), _, rfl, trivial, rfl, ⟨by rw [ht]; exact hP, va_K.moved hW.alike hK, hD⟩⟩, hS.F ht⟩) hS.2.2 d_CLS_setNamedAt_50
    · have hf := f_neg c_ hf
      refine va_getsN hx hb (st_Z hst0 9 (by decide)) hS hown (va_Nw.use rfl (hst0.2.1 _ tn_851)) (fun _ h9 => h9) d_CLS_setNamedAt_30 ?_
      obtain rfl := Option.some.inj hf
      exact W.aret hx hb hr (Or.inr ⟨_, rfl⟩) (Or.inr ⟨_, rfl⟩) (fun t ht hW => ⟨⟨(), _, rfl, trivial, rfl, ⟨by rw [ht]; exact hP, va_K.moved hW.alike hK, hD⟩⟩, hS.F ht⟩) hS.2.2 d_CLS_setNamedAt_33
  · have hf := f_neg c_ hf
    refine va_getsN hx hb (st_Z hst0 2 (by decide)) hS hown (va_Nw.use rfl (hst0.2.1 _ tn_849)) (fun _ h9 => h9) d_CLS_setNamedAt_13 ?_
    obtain rfl := Option.some.inj hf
    exact W.aret hx hb hr (Or.inr ⟨_, rfl⟩) (Or.inr ⟨_, rfl⟩) (fun t ht hW => ⟨⟨(), _, rfl, trivial, rfl, ⟨by rw [ht]; exact hP, va_K.moved hW.alike hK, hD⟩⟩, hS.F ht⟩) hS.2.2 d_CLS_setNamedAt_16
def f_CLS_readSetItem_L53 (pat_length : Int32) (pat_bytes : Nat → Int32) (p1 : Int32) (v2 : Bool) (z0 : Int32) (mis_number : Int32) (mis_place : Int32) (set_pieces : Int32) (esc_kind : Int32) (esc_value : Int32) (esc_set : Nat) (esc_others : Bool) (esc_after : Int32) (set_begins : Nat → Int32) (set_ends : Nat → Int32) : Option (Int32 × Int32 × Int32 × Int32 × Int32 × Int32 × Nat × Bool × Int32 × (Nat → Int32) × (Nat → Int32)) :=
  bnd_ (f_CLS_setNamedAt pat_length pat_bytes z0) (fun x56 => if (Int32.ofNat (stN x56)) = 0 then bnd_ (f_CLS_refused mis_number mis_place 7 p1) (fun x71 => some (x71.1, x71.2.1, x71.2.2, set_pieces, esc_kind, esc_value, esc_set, esc_others, esc_after, set_begins, set_ends)) else bnd_ (f_SET_addSet set_pieces set_begins set_ends x56 v2) (fun x82 => some (z0 + 7, mis_number, mis_place, x82.1, esc_kind, esc_value, esc_set, esc_others, esc_after, x82.2.1, x82.2.2)))
def f_CLS_readSetItem_L39 (pat_length : Int32) (pat_bytes : Nat → Int32) (p1 : Int32) (z0 : Bool) (mis_number : Int32) (mis_place : Int32) (set_pieces : Int32) (esc_kind : Int32) (esc_value : Int32) (esc_set : Nat) (esc_others : Bool) (esc_after : Int32) (set_begins : Nat → Int32) (set_ends : Nat → Int32) : Option (Int32 × Int32 × Int32 × Int32 × Int32 × Int32 × Nat × Bool × Int32 × (Nat → Int32) × (Nat → Int32)) :=
  if (b2i z0) = 0 then f_CLS_readSetItem_L53 pat_length pat_bytes p1 z0 (p1 + 2) mis_number mis_place set_pieces esc_kind esc_value esc_set esc_others esc_after set_begins set_ends else f_CLS_readSetItem_L53 pat_length pat_bytes p1 z0 (p1 + 3) mis_number mis_place set_pieces esc_kind esc_value esc_set esc_others esc_after set_begins set_ends
def f_CLS_readSetItem (pat_length : Int32) (mis_number : Int32) (mis_place : Int32) (set_pieces : Int32) (esc_kind : Int32) (esc_value : Int32) (esc_set : Nat) (esc_others : Bool) (esc_after : Int32) (pat_bytes : Nat → Int32) (set_begins : Nat → Int32) (set_ends : Nat → Int32) (p1 : Int32) : Option (Int32 × Int32 × Int32 × Int32 × Int32 × Int32 × Nat × Bool × Int32 × (Nat → Int32) × (Nat → Int32)) :=
  bnd_ (f_PAT_at pat_length pat_bytes p1) (fun x5 => if x5 = 92 then bnd_ (f_CLS_readSetEscape pat_length mis_number mis_place set_pieces esc_kind esc_value esc_set esc_others esc_after pat_bytes set_begins set_ends p1) (fun x15 => some (x15.1, x15.2.1, x15.2.2.1, x15.2.2.2.1, x15.2.2.2.2.1, x15.2.2.2.2.2.1, x15.2.2.2.2.2.2.1, x15.2.2.2.2.2.2.2.1, x15.2.2.2.2.2.2.2.2.1, x15.2.2.2.2.2.2.2.2.2.1, x15.2.2.2.2.2.2.2.2.2.2)) else bnd_ (f_PAT_at pat_length pat_bytes (p1 + 2)) (fun x26 => if x26 = 94 then f_CLS_readSetItem_L39 pat_length pat_bytes p1 true mis_number mis_place set_pieces esc_kind esc_value esc_set esc_others esc_after set_begins set_ends else f_CLS_readSetItem_L39 pat_length pat_bytes p1 false mis_number mis_place set_pieces esc_kind esc_value esc_set esc_others esc_after set_begins set_ends))
set_option maxRecDepth 100000 in
set_option maxHeartbeats 4000000 in
theorem c_CLS_readSetItem (l : Launch) (dC : Nat → ClassId) (dI : Nat → Nat → Nat) (cI : ClassId) (tS : Nat → Nat → Nat) (sz : Nat) (a_pat a_pat_bytes a_mis a_set a_set_begins a_set_ends a_esc a_cls : Nat) (pat_length : Int32) (mis_number : Int32) (mis_place : Int32) (set_pieces : Int32) (esc_kind : Int32) (esc_value : Int32) (esc_set : Nat) (esc_others : Bool) (esc_after : Int32) (cls_single : Int32) (pat_bytes : Nat → Int32) (set_begins : Nat → Int32) (set_ends : Nat → Int32) (p1 : Int32) (R0 : Int32 × Int32 × Int32 × Int32 × Int32 × Int32 × Nat × Bool × Int32 × (Nat → Int32) × (Nat → Int32)) (hf : f_CLS_readSetItem pat_length mis_number mis_place set_pieces esc_kind esc_value esc_set esc_others esc_after pat_bytes set_begins set_ends p1 = some R0) : Met l y_CLS_readSetItem ws_CLS_readSetItem ({ frames := 6, cells := 0, slots := 0, locals := 129 }) (va_Pc [.ref a_cls, .int p1] (preS (dC, dI) classes [(cI, .int)] tS (w_27 cI tS a_pat a_pat_bytes a_mis a_set a_set_begins a_set_ends a_esc a_cls pat_length mis_number mis_place set_pieces esc_kind esc_value esc_set esc_others esc_after cls_single pat_bytes set_begins set_ends) sz)) (va_Qi (fun r (_ : Unit) => r = R0.1) (fun _ t => posS (dC, dI) classes [(cI, .int)] (w_27 cI tS a_pat a_pat_bytes a_mis a_set a_set_begins a_set_ends a_esc a_cls pat_length R0.2.1 R0.2.2.1 R0.2.2.2.1 R0.2.2.2.2.1 R0.2.2.2.2.2.1 R0.2.2.2.2.2.2.1 R0.2.2.2.2.2.2.2.1 R0.2.2.2.2.2.2.2.2.1 cls_single pat_bytes R0.2.2.2.2.2.2.2.2.2.1 R0.2.2.2.2.2.2.2.2.2.2) (va_A (w_27 cI tS a_pat a_pat_bytes a_mis a_set a_set_begins a_set_ends a_esc a_cls pat_length mis_number mis_place set_pieces esc_kind esc_value esc_set esc_others esc_after cls_single pat_bytes set_begins set_ends) sz) t) (va_A (w_27 cI tS a_pat a_pat_bytes a_mis a_set a_set_begins a_set_ends a_esc a_cls pat_length mis_number mis_place set_pieces esc_kind esc_value esc_set esc_others esc_after cls_single pat_bytes set_begins set_ends) sz)) 0 0 (va_A (w_27 cI tS a_pat a_pat_bytes a_mis a_set a_set_begins a_set_ends a_esc a_cls pat_length mis_number mis_place set_pieces esc_kind esc_value esc_set esc_others esc_after cls_single pat_bytes set_begins set_ends) sz) := by
  refine Met.ofW (cc := b_CLS_readSetItem) (maxL := 5) (ret := (some .int)) (by decide) rfl ?_
  intro p e s m args below meth c s₁ B hml hv
  obtain ⟨rfl, hsz, hP, hK, hD0, hst0⟩ := hv
  have hx := B.exec
  have hb := B.bytes
  have hr := B.returns
  have hts0 := atoms_spec (ws := ws_CLS_readSetItem) B.pre
  have hts : ∀ w ∈ GW, w.before _ s = true := fun w h => hts0 w (List.mem_cons_of_mem _ h)
  have hown : s.vm.findClass R_CLS = some m.cls := findClass_of_methodNamed B.named
  have hlocks := B.notSynchronized
  subst hsz
  have hD := hD0.self (sz := s.heap.size)
  generalize hAe : va_A (w_27 cI tS a_pat a_pat_bytes a_mis a_set a_set_begins a_set_ends a_esc a_cls pat_length mis_number mis_place set_pieces esc_kind esc_value esc_set esc_others esc_after cls_single pat_bytes set_begins set_ends) s.heap.size = A at hD hst0 ⊢
  have hA : ∀ q : Nat, s.heap.size ≤ q → A q := fun q h => by rw [← hAe]; exact Or.inr h
  have hS : va_S A s.heap s.heap [] := va_S.rf
  have hl := lv_entry ([.ref a_cls, .int p1]) (n := 5) (Nat.le_of_ble_eq_true rfl)
  rw [lg_entry_eq]
  generalize (lg_sl ([.ref a_cls, .int p1]) ++ List.replicate (5 - (lg_sl ([.ref a_cls, .int p1])).length) Slot.unset).toArray = ls at hl ⊢
  have hl : lv_has ls 5 [(0, .ref a_cls), (1, .int p1)] := hl
  have L53 : ∀ (v2 : Bool) (z0 : Int32) (mis_number : Int32) (mis_place : Int32) (set_pieces : Int32) (esc_kind : Int32) (esc_value : Int32) (esc_set : Nat) (esc_others : Bool) (esc_after : Int32) (set_begins : Nat → Int32) (set_ends : Nat → Int32) (H : Heap) (locs : List Loc) (ls : Array Slot), va_P (dC, dI) classes (w_27 cI tS a_pat a_pat_bytes a_mis a_set a_set_begins a_set_ends a_esc a_cls pat_length mis_number mis_place set_pieces esc_kind esc_value esc_set esc_others esc_after cls_single pat_bytes set_begins set_ends) H → va_D A (w_27 cI tS a_pat a_pat_bytes a_mis a_set a_set_begins a_set_ends a_esc a_cls pat_length mis_number mis_place set_pieces esc_kind esc_value esc_set esc_others esc_after cls_single pat_bytes set_begins set_ends) → va_S A s.heap H locs → lv_has ls 5 [(0, .ref a_cls), (1, .int p1), (2, .int (b2i v2))] → f_CLS_readSetItem_L53 pat_length pat_bytes p1 v2 z0 mis_number mis_place set_pieces esc_kind esc_value esc_set esc_others esc_after set_begins set_ends = some R0 → W p l e (headSpec ws_CLS_readSetItem ({ frames := 6, cells := 0, slots := 0, locals := 129 })).room s m ([.ref a_cls, .int p1] : List Value).toArray below meth c H locs 0 0 (MQ below (va_Qi (fun r (_ : Unit) => r = R0.1) (fun _ t => posS (dC, dI) classes [(cI, .int)] (w_27 cI tS a_pat a_pat_bytes a_mis a_set a_set_begins a_set_ends a_esc a_cls pat_length R0.2.1 R0.2.2.1 R0.2.2.2.1 R0.2.2.2.2.1 R0.2.2.2.2.2.1 R0.2.2.2.2.2.2.1 R0.2.2.2.2.2.2.2.1 R0.2.2.2.2.2.2.2.2.1 cls_single pat_bytes R0.2.2.2.2.2.2.2.2.2.1 R0.2.2.2.2.2.2.2.2.2.2) (A) t) (A)) ([.ref a_cls, .int p1] : List Value).toArray s 0 0 A) (F0 m 53 ls [.int z0]) := by
    intro v2 z0 mis_number mis_place set_pieces esc_kind esc_value esc_set esc_others esc_after set_begins set_ends H locs ls hP hD hS hl hf
    refine lv_istore_n (lv' := [(3, .int z0), (0, .ref a_cls), (1, .int p1), (2, .int (b2i v2))]) hx hb d_CLS_readSetItem_53 rfl hl (by decide) rfl (fun ls hl => ?_)
    refine lv_aload_n hx hb d_CLS_readSetItem_54 rfl (lv_at hl 1 rfl) ?_
    refine lv_iload_n hx hb d_CLS_readSetItem_55 rfl (lv_at hl 0 rfl) ?_
    obtain ⟨x56, hg, hf⟩ := bnd hf
    have hPc := hP.sub (ws' := (w_23 cI tS a_pat a_pat_bytes a_cls a_mis a_esc a_set pat_length cls_single pat_bytes)) [0, 4, 5] rfl
    have hDc := hD.sub (ws' := (w_23 cI tS a_pat a_pat_bytes a_cls a_mis a_esc a_set pat_length cls_single pat_bytes)) [0, 4, 5] (by decide) rfl
    have hFc := va_free (wc := (w_23 cI tS a_pat a_pat_bytes a_cls a_mis a_esc a_set pat_length cls_single pat_bytes)) hD hS hA [0, 4, 5] rfl
    refine cal_r (va_runV (As := [.int z0]) (rest := []) ⟨hx, hb, hml, hown, hts⟩ (c_CLS_setNamedAt l dC dI cI tS H.size a_pat a_pat_bytes a_cls a_mis a_esc a_set pat_length cls_single pat_bytes z0 x56 hg) ⟨callB_of 1 hts (gN tw_794) rfl rfl rfl (hts _ tw_88) (hts _ tw_791) hd_CLS_setNamedAt ⟨Nat.le_of_ble_eq_true rfl, Nat.le_of_ble_eq_true rfl⟩, hts _ tw_793, hts _ tw_21⟩ (pre_V hK hPc hDc hst0 hS hFc (va_recv hK hPc (ci := 7) (q0 := 1) rfl rfl)) rfl rfl hl.1 rfl (lv_room (Nat.le_of_ble_eq_true rfl)) d_CLS_readSetItem_56 ⟨Nat.zero_le _, Nat.zero_le _⟩) hP hD hS hA [0, 4, 5] [1, 2, 3, 6, 7] rfl rfl (by decide) (by decide) (fun H locs hP hD hS => ?_)
    have hP := hP.sub (ws' := (w_27 cI tS a_pat a_pat_bytes a_mis a_set a_set_begins a_set_ends a_esc a_cls pat_length mis_number mis_place set_pieces esc_kind esc_value esc_set esc_others esc_after cls_single pat_bytes set_begins set_ends)) [5, 0, 1, 2, 6, 7, 3, 4] rfl
    have hD := hD.sub (ws' := (w_27 cI tS a_pat a_pat_bytes a_mis a_set a_set_begins a_set_ends a_esc a_cls pat_length mis_number mis_place set_pieces esc_kind esc_value esc_set esc_others esc_after cls_single pat_bytes set_begins set_ends)) [5, 0, 1, 2, 6, 7, 3, 4] (by decide) rfl
    refine lv_astore (lv' := [(4, .ref (tS 0 x56)), (3, .int z0), (0, .ref a_cls), (1, .int p1), (2, .int (b2i v2))]) hx hb d_CLS_readSetItem_59 hl (by decide) rfl (fun ls hl => ?_)
    refine lv_aload hx hb d_CLS_readSetItem_61 (lv_at hl 0 rfl) ?_
    refine va_tlen hx hb (st_T hst0 x56) hS rfl d_CLS_readSetItem_63 ?_
    refine lv_if_ne (tgt := 75) hx hb d_CLS_readSetItem_64 (by decide) (fun c_ => ?_) (fun c_ => ?_)
    · have hf := f_neg c_ hf
      refine lv_aload_n hx hb d_CLS_readSetItem_75 rfl (lv_at hl 2 rfl) ?_
      refine va_get (D := (dC, dI)) (ci := 7) (v := .ref a_set) (C := R_CLS) (T := F_CLS) (N := N_CLS) hx hb hts i_CLS hown hK hP 4 rfl rfl 3 (by decide) (hts _ tw_309) (fun _ h9 => h9) rfl d_CLS_readSetItem_76 ?_
      refine lv_aload hx hb d_CLS_readSetItem_79 (lv_at hl 0 rfl) ?_
      refine lv_iload_n hx hb d_CLS_readSetItem_81 rfl (lv_at hl 4 rfl) ?_
      obtain ⟨x82, hg, hf⟩ := bnd hf
      have hPc := hP.sub (ws' := (w_22 cI tS a_set a_set_begins a_set_ends set_pieces set_begins set_ends)) [2, 6, 7] rfl
      have hDc := hD.sub (ws' := (w_22 cI tS a_set a_set_begins a_set_ends set_pieces set_begins set_ends)) [2, 6, 7] (by decide) rfl
      have hFc := va_free (wc := (w_22 cI tS a_set a_set_begins a_set_ends set_pieces set_begins set_ends)) hD hS hA [2, 6, 7] rfl
      refine cal_v (va_runV (As := [.ref (tS 0 x56), .int (b2i v2)]) (rest := []) ⟨hx, hb, hml, hown, hts⟩ (c_SET_addSet l dC dI cI tS H.size a_set a_set_begins a_set_ends set_pieces set_begins set_ends x56 v2 x82 hg) ⟨callB_of 2 hts (gN tw_790) rfl rfl rfl (hts _ tw_86) (hts _ tw_787) hd_SET_addSet ⟨Nat.le_of_ble_eq_true rfl, Nat.le_of_ble_eq_true rfl⟩, hts _ tw_788, hts _ tw_789⟩ (pre_V hK hPc hDc hst0 hS hFc (va_recv hK hPc (ci := 2) (q0 := 0) rfl rfl)) rfl rfl hl.1 rfl (lv_room (Nat.le_of_ble_eq_true rfl)) d_CLS_readSetItem_82 ⟨Nat.zero_le _, Nat.zero_le _⟩) hP hD hS hA [2, 6, 7] [0, 1, 3, 4, 5] rfl rfl (by decide) (by decide) (fun H locs hP hD hS => ?_)
      have hP := hP.sub (ws' := (w_27 cI tS a_pat a_pat_bytes a_mis a_set a_set_begins a_set_ends a_esc a_cls pat_length mis_number mis_place x82.1 esc_kind esc_value esc_set esc_others esc_after cls_single pat_bytes x82.2.1 x82.2.2)) [0, 1, 5, 2, 3, 4, 6, 7] rfl
      have hD := hD.sub (ws' := (w_27 cI tS a_pat a_pat_bytes a_mis a_set a_set_begins a_set_ends a_esc a_cls pat_length mis_number mis_place x82.1 esc_kind esc_value esc_set esc_others esc_after cls_single pat_bytes x82.2.1 x82.2.2)) [0, 1, 5, 2, 3, 4, 6, 7] (by decide) rfl
      refine lv_iload_n hx hb d_CLS_readSetItem_85 rfl (lv_at hl 1 rfl) ?_
      refine lv_bipush (v := 7) hx hb d_CLS_readSetItem_86 (by decide) ?_
      refine lv_iadd hx hb d_CLS_readSetItem_88 ?_
      obtain rfl := Option.some.inj hf
      exact W.iret (v := z0 + 7) hx hb hr (fun t ht hW => ⟨⟨_, (), rfl, rfl, ⟨by rw [ht]; exact hP, va_K.moved hW.alike hK, hD⟩⟩, hS.F ht⟩) hS.2.2 d_CLS_readSetItem_89
    · have hf := f_pos c_ hf
      refine lv_aload_n hx hb d_CLS_readSetItem_67 rfl (lv_at hl 2 rfl) ?_
      refine lv_bipush (v := 7) hx hb d_CLS_readSetItem_68 (by decide) ?_
      refine lv_iload_n hx hb d_CLS_readSetItem_70 rfl (lv_at hl 3 rfl) ?_
      obtain ⟨x71, hg, hf⟩ := bnd hf
      have hPc := hP.sub (ws' := (w_26 cI tS a_mis a_cls a_pat a_esc a_set mis_number mis_place cls_single)) [1, 4] rfl
      have hDc := hD.sub (ws' := (w_26 cI tS a_mis a_cls a_pat a_esc a_set mis_number mis_place cls_single)) [1, 4] (by decide) rfl
      have hFc := va_free (wc := (w_26 cI tS a_mis a_cls a_pat a_esc a_set mis_number mis_place cls_single)) hD hS hA [1, 4] rfl
      refine cal_i (va_runV (As := [.int 7, .int p1]) (rest := []) ⟨hx, hb, hml, hown, hts⟩ (c_CLS_refused l dC dI cI tS H.size a_mis a_cls a_pat a_esc a_set mis_number mis_place cls_single 7 p1 x71 hg) ⟨callB_of 2 hts (gN tw_785) rfl rfl rfl (hts _ tw_88) (hts _ tw_782) hd_CLS_refused ⟨Nat.le_of_ble_eq_true rfl, Nat.le_of_ble_eq_true rfl⟩, hts _ tw_784, hts _ tw_20⟩ (pre_V hK hPc hDc hst0 hS hFc (va_recv hK hPc (ci := 7) (q0 := 1) rfl rfl)) rfl rfl hl.1 rfl (lv_room (Nat.le_of_ble_eq_true rfl)) d_CLS_readSetItem_71 ⟨Nat.zero_le _, Nat.zero_le _⟩) hP hD hS hA [1, 4] [0, 2, 3, 5, 6, 7] rfl rfl (by decide) (by decide) (fun H locs hP hD hS => ?_)
      have hP := hP.sub (ws' := (w_27 cI tS a_pat a_pat_bytes a_mis a_set a_set_begins a_set_ends a_esc a_cls pat_length x71.2.1 x71.2.2 set_pieces esc_kind esc_value esc_set esc_others esc_after cls_single pat_bytes set_begins set_ends)) [0, 6, 1, 2, 7, 3, 4, 5] rfl
      have hD := hD.sub (ws' := (w_27 cI tS a_pat a_pat_bytes a_mis a_set a_set_begins a_set_ends a_esc a_cls pat_length x71.2.1 x71.2.2 set_pieces esc_kind esc_value esc_set esc_others esc_after cls_single pat_bytes set_begins set_ends)) [0, 6, 1, 2, 7, 3, 4, 5] (by decide) rfl
      obtain rfl := Option.some.inj hf
      exact W.iret (v := x71.1) hx hb hr (fun t ht hW => ⟨⟨_, (), rfl, rfl, ⟨by rw [ht]; exact hP, va_K.moved hW.alike hK, hD⟩⟩, hS.F ht⟩) hS.2.2 d_CLS_readSetItem_74
  have L39 : ∀ (z0 : Bool) (mis_number : Int32) (mis_place : Int32) (set_pieces : Int32) (esc_kind : Int32) (esc_value : Int32) (esc_set : Nat) (esc_others : Bool) (esc_after : Int32) (set_begins : Nat → Int32) (set_ends : Nat → Int32) (H : Heap) (locs : List Loc) (ls : Array Slot), va_P (dC, dI) classes (w_27 cI tS a_pat a_pat_bytes a_mis a_set a_set_begins a_set_ends a_esc a_cls pat_length mis_number mis_place set_pieces esc_kind esc_value esc_set esc_others esc_after cls_single pat_bytes set_begins set_ends) H → va_D A (w_27 cI tS a_pat a_pat_bytes a_mis a_set a_set_begins a_set_ends a_esc a_cls pat_length mis_number mis_place set_pieces esc_kind esc_value esc_set esc_others esc_after cls_single pat_bytes set_begins set_ends) → va_S A s.heap H locs → lv_has ls 5 [(0, .ref a_cls), (1, .int p1)] → f_CLS_readSetItem_L39 pat_length pat_bytes p1 z0 mis_number mis_place set_pieces esc_kind esc_value esc_set esc_others esc_after set_begins set_ends = some R0 → W p l e (headSpec ws_CLS_readSetItem ({ frames := 6, cells := 0, slots := 0, locals := 129 })).room s m ([.ref a_cls, .int p1] : List Value).toArray below meth c H locs 0 0 (MQ below (va_Qi (fun r (_ : Unit) => r = R0.1) (fun _ t => posS (dC, dI) classes [(cI, .int)] (w_27 cI tS a_pat a_pat_bytes a_mis a_set a_set_begins a_set_ends a_esc a_cls pat_length R0.2.1 R0.2.2.1 R0.2.2.2.1 R0.2.2.2.2.1 R0.2.2.2.2.2.1 R0.2.2.2.2.2.2.1 R0.2.2.2.2.2.2.2.1 R0.2.2.2.2.2.2.2.2.1 cls_single pat_bytes R0.2.2.2.2.2.2.2.2.2.1 R0.2.2.2.2.2.2.2.2.2.2) (A) t) (A)) ([.ref a_cls, .int p1] : List Value).toArray s 0 0 A) (F0 m 39 ls [.int (b2i z0)]) := by
    intro z0 mis_number mis_place set_pieces esc_kind esc_value esc_set esc_others esc_after set_begins set_ends H locs ls hP hD hS hl hf
    refine lv_istore_n (lv' := [(2, .int (b2i z0)), (0, .ref a_cls), (1, .int p1)]) hx hb d_CLS_readSetItem_39 rfl hl (by decide) rfl (fun ls hl => ?_)
    refine lv_iload_n hx hb d_CLS_readSetItem_40 rfl (lv_at hl 0 rfl) ?_
    refine lv_if_eq (tgt := 50) hx hb d_CLS_readSetItem_41 (by decide) (fun c_ => ?_) (fun c_ => ?_)
    · have hf := f_pos c_ hf
      refine lv_iload_n hx hb d_CLS_readSetItem_50 rfl (lv_at hl 2 rfl) ?_
      refine lv_iconst (v := 2) hx hb d_CLS_readSetItem_51 (by decide) ?_
      refine lv_iadd hx hb d_CLS_readSetItem_52 ?_
      exact L53 z0 (p1 + 2) mis_number mis_place set_pieces esc_kind esc_value esc_set esc_others esc_after set_begins set_ends _ _ _ hP hD hS (lv_sub hl [1, 2, 0] rfl) hf
    · have hf := f_neg c_ hf
      refine lv_iload_n hx hb d_CLS_readSetItem_44 rfl (lv_at hl 2 rfl) ?_
      refine lv_iconst (v := 3) hx hb d_CLS_readSetItem_45 (by decide) ?_
      refine lv_iadd hx hb d_CLS_readSetItem_46 ?_
      refine lv_goto (tgt := 53) hx hb d_CLS_readSetItem_47 (by decide) ?_
      exact L53 z0 (p1 + 3) mis_number mis_place set_pieces esc_kind esc_value esc_set esc_others esc_after set_begins set_ends _ _ _ hP hD hS (lv_sub hl [1, 2, 0] rfl) hf
  refine lv_aload_n hx hb d_CLS_readSetItem_0 rfl (lv_at hl 0 rfl) ?_
  refine va_get (D := (dC, dI)) (ci := 7) (v := .ref a_pat) (C := R_CLS) (T := F_CLS) (N := N_CLS) hx hb hts i_CLS hown hK hP 4 rfl rfl 0 (by decide) (hts _ tw_306) (fun _ h9 => h9) rfl d_CLS_readSetItem_1 ?_
  refine lv_iload_n hx hb d_CLS_readSetItem_4 rfl (lv_at hl 1 rfl) ?_
  obtain ⟨x5, hg, hf⟩ := bnd hf
  have hPc := hP.sub (ws' := (w_0 cI tS a_pat a_pat_bytes pat_length pat_bytes)) [0, 5] rfl
  have hDc := hD.sub (ws' := (w_0 cI tS a_pat a_pat_bytes pat_length pat_bytes)) [0, 5] (by decide) rfl
  have hFc := va_free (wc := (w_0 cI tS a_pat a_pat_bytes pat_length pat_bytes)) hD hS hA [0, 5] rfl
  refine cal_i (va_runV (As := [.int p1]) (rest := []) ⟨hx, hb, hml, hown, hts⟩ (c_PAT_at l dC dI cI tS s.heap.size a_pat a_pat_bytes pat_length pat_bytes p1 x5 hg) ⟨callB_of 1 hts (gN tw_586) rfl rfl rfl (hts _ tw_80) (hts _ tw_693) hd_PAT_at ⟨Nat.le_of_ble_eq_true rfl, Nat.le_of_ble_eq_true rfl⟩, hts _ tw_584, hts _ tw_585⟩ (pre_V hK hPc hDc hst0 hS hFc (va_recv hK hPc (ci := 0) (q0 := 0) rfl rfl)) rfl rfl hl.1 rfl (lv_room (Nat.le_of_ble_eq_true rfl)) d_CLS_readSetItem_5 ⟨Nat.zero_le _, Nat.zero_le _⟩) hP hD hS hA [0, 5] [1, 2, 3, 4, 6, 7] rfl rfl (by decide) (by decide) (fun H locs hP hD hS => ?_)
  have hP := hP.sub (ws' := (w_27 cI tS a_pat a_pat_bytes a_mis a_set a_set_begins a_set_ends a_esc a_cls pat_length mis_number mis_place set_pieces esc_kind esc_value esc_set esc_others esc_after cls_single pat_bytes set_begins set_ends)) [6, 0, 1, 2, 3, 7, 4, 5] rfl
  have hD := hD.sub (ws' := (w_27 cI tS a_pat a_pat_bytes a_mis a_set a_set_begins a_set_ends a_esc a_cls pat_length mis_number mis_place set_pieces esc_kind esc_value esc_set esc_others esc_after cls_single pat_bytes set_begins set_ends)) [6, 0, 1, 2, 3, 7, 4, 5] (by decide) rfl
  refine lv_bipush (v := 92) hx hb d_CLS_readSetItem_8 (by decide) ?_
  refine lv_icmp_ne (tgt := 19) hx hb d_CLS_readSetItem_10 (by decide) (fun c_ => ?_) (fun c_ => ?_)
  · have hf := f_neg c_ hf
    refine lv_aload_n hx hb d_CLS_readSetItem_19 rfl (lv_at hl 0 rfl) ?_
    refine va_get (D := (dC, dI)) (ci := 7) (v := .ref a_pat) (C := R_CLS) (T := F_CLS) (N := N_CLS) hx hb hts i_CLS hown hK hP 4 rfl rfl 0 (by decide) (hts _ tw_306) (fun _ h9 => h9) rfl d_CLS_readSetItem_20 ?_
    refine lv_iload_n hx hb d_CLS_readSetItem_23 rfl (lv_at hl 1 rfl) ?_
    refine lv_iconst (v := 2) hx hb d_CLS_readSetItem_24 (by decide) ?_
    refine lv_iadd hx hb d_CLS_readSetItem_25 ?_
    obtain ⟨x26, hg, hf⟩ := bnd hf
    have hPc := hP.sub (ws' := (w_0 cI tS a_pat a_pat_bytes pat_length pat_bytes)) [0, 5] rfl
    have hDc := hD.sub (ws' := (w_0 cI tS a_pat a_pat_bytes pat_length pat_bytes)) [0, 5] (by decide) rfl
    have hFc := va_free (wc := (w_0 cI tS a_pat a_pat_bytes pat_length pat_bytes)) hD hS hA [0, 5] rfl
    refine cal_i (va_runV (As := [.int (p1 + 2)]) (rest := []) ⟨hx, hb, hml, hown, hts⟩ (c_PAT_at l dC dI cI tS H.size a_pat a_pat_bytes pat_length pat_bytes (p1 + 2) x26 hg) ⟨callB_of 1 hts (gN tw_586) rfl rfl rfl (hts _ tw_80) (hts _ tw_693) hd_PAT_at ⟨Nat.le_of_ble_eq_true rfl, Nat.le_of_ble_eq_true rfl⟩, hts _ tw_584, hts _ tw_585⟩ (pre_V hK hPc hDc hst0 hS hFc (va_recv hK hPc (ci := 0) (q0 := 0) rfl rfl)) rfl rfl hl.1 rfl (lv_room (Nat.le_of_ble_eq_true rfl)) d_CLS_readSetItem_26 ⟨Nat.zero_le _, Nat.zero_le _⟩) hP hD hS hA [0, 5] [1, 2, 3, 4, 6, 7] rfl rfl (by decide) (by decide) (fun H locs hP hD hS => ?_)
    have hP := hP.sub (ws' := (w_27 cI tS a_pat a_pat_bytes a_mis a_set a_set_begins a_set_ends a_esc a_cls pat_length mis_number mis_place set_pieces esc_kind esc_value esc_set esc_others esc_after cls_single pat_bytes set_begins set_ends)) [6, 0, 1, 2, 3, 7, 4, 5] rfl
    have hD := hD.sub (ws' := (w_27 cI tS a_pat a_pat_bytes a_mis a_set a_set_begins a_set_ends a_esc a_cls pat_length mis_number mis_place set_pieces esc_kind esc_value esc_set esc_others esc_after cls_single pat_bytes set_begins set_ends)) [6, 0, 1, 2, 3, 7, 4, 5] (by decide) rfl
    refine lv_bipush (v := 94) hx hb d_CLS_readSetItem_29 (by decide) ?_
    refine lv_icmp_ne (tgt := 38) hx hb d_CLS_readSetItem_31 (by decide) (fun c_ => ?_) (fun c_ => ?_)
    · have hf := f_neg c_ hf
      refine lv_iconst (v := 0) hx hb d_CLS_readSetItem_38 (by decide) ?_
      exact L39 false mis_number mis_place set_pieces esc_kind esc_value esc_set esc_others esc_after set_begins set_ends _ _ _ hP hD hS (lv_sub hl [0, 1] rfl) hf
    · have hf := f_pos c_ hf
      refine lv_iconst (v := 1) hx hb d_CLS_readSetItem_34 (by decide) ?_
      refine lv_goto (tgt := 39) hx hb d_CLS_readSetItem_35 (by decide) ?_
      exact L39 true mis_number mis_place set_pieces esc_kind esc_value esc_set esc_others esc_after set_begins set_ends _ _ _ hP hD hS (lv_sub hl [0, 1] rfl) hf
  · have hf := f_pos c_ hf
    refine lv_aload_n hx hb d_CLS_readSetItem_13 rfl (lv_at hl 0 rfl) ?_
    refine lv_iload_n hx hb d_CLS_readSetItem_14 rfl (lv_at hl 1 rfl) ?_
    obtain ⟨x15, hg, hf⟩ := bnd hf
    have hPc := hP.sub (ws' := (w_27 cI tS a_pat a_pat_bytes a_mis a_set a_set_begins a_set_ends a_esc a_cls pat_length mis_number mis_place set_pieces esc_kind esc_value esc_set esc_others esc_after cls_single pat_bytes set_begins set_ends)) [0, 1, 2, 3, 4, 5, 6, 7] rfl
    have hDc := hD.sub (ws' := (w_27 cI tS a_pat a_pat_bytes a_mis a_set a_set_begins a_set_ends a_esc a_cls pat_length mis_number mis_place set_pieces esc_kind esc_value esc_set esc_others esc_after cls_single pat_bytes set_begins set_ends)) [0, 1, 2, 3, 4, 5, 6, 7] (by decide) rfl
    have hFc := va_free (wc := (w_27 cI tS a_pat a_pat_bytes a_mis a_set a_set_begins a_set_ends a_esc a_cls pat_length mis_number mis_place set_pieces esc_kind esc_value esc_set esc_others esc_after cls_single pat_bytes set_begins set_ends)) hD hS hA [0, 1, 2, 3, 4, 5, 6, 7] rfl
    refine cal_i (va_runV (As := [.int p1]) (rest := []) ⟨hx, hb, hml, hown, hts⟩ (c_CLS_readSetEscape l dC dI cI tS H.size a_pat a_pat_bytes a_mis a_set a_set_begins a_set_ends a_esc a_cls pat_length mis_number mis_place set_pieces esc_kind esc_value esc_set esc_others esc_after cls_single pat_bytes set_begins set_ends p1 x15 hg) ⟨callB_of 1 hts (gN tw_739) rfl rfl rfl (hts _ tw_88) (hts _ tw_736) hd_CLS_readSetEscape ⟨Nat.le_of_ble_eq_true rfl, Nat.le_of_ble_eq_true rfl⟩, hts _ tw_738, hts _ tw_15⟩ (pre_V hK hPc hDc hst0 hS hFc (va_recv hK hPc (ci := 7) (q0 := 4) rfl rfl)) rfl rfl hl.1 rfl (lv_room (Nat.le_of_ble_eq_true rfl)) d_CLS_readSetItem_15 ⟨Nat.zero_le _, Nat.zero_le _⟩) hP hD hS hA [0, 1, 2, 3, 4, 5, 6, 7] [] rfl rfl (by decide) (by decide) (fun H locs hP hD hS => ?_)
    have hP := hP.sub (ws' := (w_27 cI tS a_pat a_pat_bytes a_mis a_set a_set_begins a_set_ends a_esc a_cls pat_length x15.2.1 x15.2.2.1 x15.2.2.2.1 x15.2.2.2.2.1 x15.2.2.2.2.2.1 x15.2.2.2.2.2.2.1 x15.2.2.2.2.2.2.2.1 x15.2.2.2.2.2.2.2.2.1 cls_single pat_bytes x15.2.2.2.2.2.2.2.2.2.1 x15.2.2.2.2.2.2.2.2.2.2)) [0, 1, 2, 3, 4, 5, 6, 7] rfl
    have hD := hD.sub (ws' := (w_27 cI tS a_pat a_pat_bytes a_mis a_set a_set_begins a_set_ends a_esc a_cls pat_length x15.2.1 x15.2.2.1 x15.2.2.2.1 x15.2.2.2.2.1 x15.2.2.2.2.2.1 x15.2.2.2.2.2.2.1 x15.2.2.2.2.2.2.2.1 x15.2.2.2.2.2.2.2.2.1 cls_single pat_bytes x15.2.2.2.2.2.2.2.2.2.1 x15.2.2.2.2.2.2.2.2.2.2)) [0, 1, 2, 3, 4, 5, 6, 7] (by decide) rfl
    obtain rfl := Option.some.inj hf
    exact W.iret (v := x15.1) hx hb hr (fun t ht hW => ⟨⟨_, (), rfl, rfl, ⟨by rw [ht]; exact hP, va_K.moved hW.alike hK, hD⟩⟩, hS.F ht⟩) hS.2.2 d_CLS_readSetItem_18
def f_PN_widthOf (p0 : Int32) : Option Int32 :=
  if 128 ≤ p0 then (if 2048 ≤ p0 then (if 65536 ≤ p0 then some 4 else some 3) else some 2) else some 1
set_option maxRecDepth 100000 in
set_option maxHeartbeats 4000000 in
theorem c_PN_widthOf (l : Launch) (dC : Nat → ClassId) (dI : Nat → Nat → Nat) (cI : ClassId) (tS : Nat → Nat → Nat) (sz : Nat) (p0 : Int32) (R0 : Int32) (hf : f_PN_widthOf p0 = some R0) : Met l y_PN_widthOf ws_PN_widthOf ({ frames := 0, cells := 0, slots := 0, locals := 0 }) (va_Pc [.int p0] (preS (dC, dI) classes [(cI, .int)] tS (w_11 cI tS) sz)) (va_Qi (fun r (_ : Unit) => r = R0) (fun _ t => posS (dC, dI) classes [(cI, .int)] (w_11 cI tS) (va_A (w_11 cI tS) sz) t) (va_A (w_11 cI tS) sz)) 0 0 (va_A (w_11 cI tS) sz) := by
  refine Met.ofW (cc := b_PN_widthOf) (maxL := 1) (ret := (some .int)) (by decide) rfl ?_
  intro p e s m args below meth c s₁ B hml hv
  obtain ⟨rfl, hsz, hP, hK, hD0, hst0⟩ := hv
  have hx := B.exec
  have hb := B.bytes
  have hr := B.returns
  have hts0 := atoms_spec (ws := ws_PN_widthOf) B.pre
  have hts : ∀ w ∈ GW, w.before _ s = true := fun w h => hts0 w (List.mem_cons_of_mem _ h)
  have hown : s.vm.findClass R_PN = some m.cls := findClass_of_methodNamed B.named
  have hlocks := B.notSynchronized
  subst hsz
  have hD := hD0.self (sz := s.heap.size)
  generalize hAe : va_A (w_11 cI tS) s.heap.size = A at hD hst0 ⊢
  have hA : ∀ q : Nat, s.heap.size ≤ q → A q := fun q h => by rw [← hAe]; exact Or.inr h
  have hS : va_S A s.heap s.heap [] := va_S.rf
  have hl := lv_entry ([.int p0]) (n := 1) (Nat.le_of_ble_eq_true rfl)
  rw [lg_entry_eq]
  generalize (lg_sl ([.int p0]) ++ List.replicate (1 - (lg_sl ([.int p0])).length) Slot.unset).toArray = ls at hl ⊢
  have hl : lv_has ls 1 [(0, .int p0)] := hl
  refine lv_iload_n hx hb d_PN_widthOf_0 rfl (lv_at hl 0 rfl) ?_
  refine lv_sipush (v := 128) hx hb d_PN_widthOf_1 (by decide) ?_
  refine lv_icmp_ge (tgt := 9) hx hb d_PN_widthOf_4 (by decide) (fun c_ => ?_) (fun c_ => ?_)
  · have hf := f_pos c_ hf
    refine lv_iload_n hx hb d_PN_widthOf_9 rfl (lv_at hl 0 rfl) ?_
    refine lv_sipush (v := 2048) hx hb d_PN_widthOf_10 (by decide) ?_
    refine lv_icmp_ge (tgt := 18) hx hb d_PN_widthOf_13 (by decide) (fun c_ => ?_) (fun c_ => ?_)
    · have hf := f_pos c_ hf
      refine lv_iload_n hx hb d_PN_widthOf_18 rfl (lv_at hl 0 rfl) ?_
      refine lv_ldc (v := 65536) hx hb hown (hts _ tw_882) d_PN_widthOf_19 ?_
      refine lv_icmp_ge (tgt := 28) hx hb d_PN_widthOf_21 (by decide) (fun c_ => ?_) (fun c_ => ?_)
      · have hf := f_pos c_ hf
        refine lv_iconst (v := 4) hx hb d_PN_widthOf_28 (by decide) ?_
        obtain rfl := Option.some.inj hf
        exact W.iret (v := 4) hx hb hr (fun t ht hW => ⟨⟨_, (), rfl, rfl, ⟨by rw [ht]; exact hP, va_K.moved hW.alike hK, hD⟩⟩, hS.F ht⟩) hS.2.2 d_PN_widthOf_29
      · have hf := f_neg c_ hf
        refine lv_iconst (v := 3) hx hb d_PN_widthOf_24 (by decide) ?_
        refine lv_goto (tgt := 29) hx hb d_PN_widthOf_25 (by decide) ?_
        obtain rfl := Option.some.inj hf
        exact W.iret (v := 3) hx hb hr (fun t ht hW => ⟨⟨_, (), rfl, rfl, ⟨by rw [ht]; exact hP, va_K.moved hW.alike hK, hD⟩⟩, hS.F ht⟩) hS.2.2 d_PN_widthOf_29
    · have hf := f_neg c_ hf
      refine lv_iconst (v := 2) hx hb d_PN_widthOf_16 (by decide) ?_
      obtain rfl := Option.some.inj hf
      exact W.iret (v := 2) hx hb hr (fun t ht hW => ⟨⟨_, (), rfl, rfl, ⟨by rw [ht]; exact hP, va_K.moved hW.alike hK, hD⟩⟩, hS.F ht⟩) hS.2.2 d_PN_widthOf_17
  · have hf := f_neg c_ hf
    refine lv_iconst (v := 1) hx hb d_PN_widthOf_7 (by decide) ?_
    obtain rfl := Option.some.inj hf
    exact W.iret (v := 1) hx hb hr (fun t ht hW => ⟨⟨_, (), rfl, rfl, ⟨by rw [ht]; exact hP, va_K.moved hW.alike hK, hD⟩⟩, hS.F ht⟩) hS.2.2 d_PN_widthOf_8
def f_PAT_characterAt_B66 (pat_length : Int32) (pat_bytes : Nat → Int32) (p1 : Int32) (K66 : (Int32 × Int32 × Int32) → Option Int32) (v3 : Int32) (v4 : Int32) (v5 : Int32) : Option Int32 :=
  if v3 < v5 then bnd_ (f_PN_isCharacter v4) (fun x121 => if (b2i x121) = 0 then some (-1) else bnd_ (f_PN_widthOf v4) (fun x129 => if x129 = (v3 + 1) then some v4 else some (-1))) else bnd_ (f_PAT_at pat_length pat_bytes (p1 + v5)) (fun x77 => if x77 < 128 then some (-1) else (if x77 < 192 then K66 (v3, (v4 <<< (6 &&& 31)) ||| (x77 &&& 63), v5 + 1) else some (-1)))
def f_PAT_characterAt_L66 (pat_length : Int32) (pat_bytes : Nat → Int32) (p1 : Int32) (n : Nat) (a : Int32 × Int32 × Int32) : Option Int32 :=
  lpF (fun K66 v => f_PAT_characterAt_B66 pat_length pat_bytes p1  K66 v.1 v.2.1 v.2.2) n a
def f_PAT_characterAt_L54 (pat_length : Int32) (pat_bytes : Nat → Int32) (p1 : Int32) (v2 : Int32) (z0 : Int32) : Option Int32 :=
  f_PAT_characterAt_L66 pat_length pat_bytes p1 FU (z0, v2 &&& (63 >>> (z0 &&& 31)), 1)
def f_PAT_characterAt (pat_length : Int32) (pat_bytes : Nat → Int32) (p1 : Int32) : Option Int32 :=
  bnd_ (f_PAT_at pat_length pat_bytes p1) (fun x2 => if 128 ≤ x2 then (if x2 < 192 then some (-1) else (if x2 < 248 then (if 224 ≤ x2 then (if 240 ≤ x2 then f_PAT_characterAt_L54 pat_length pat_bytes p1 x2 3 else f_PAT_characterAt_L54 pat_length pat_bytes p1 x2 2) else f_PAT_characterAt_L54 pat_length pat_bytes p1 x2 1) else some (-1))) else some x2)
set_option maxRecDepth 100000 in
set_option maxHeartbeats 4000000 in
theorem c_PAT_characterAt (l : Launch) (dC : Nat → ClassId) (dI : Nat → Nat → Nat) (cI : ClassId) (tS : Nat → Nat → Nat) (sz : Nat) (a_pat a_pat_bytes : Nat) (pat_length : Int32) (pat_bytes : Nat → Int32) (p1 : Int32) (R0 : Int32) (hf : f_PAT_characterAt pat_length pat_bytes p1 = some R0) : Met l y_PAT_characterAt ws_PAT_characterAt ({ frames := 1, cells := 0, slots := 0, locals := 21 }) (va_Pc [.ref a_pat, .int p1] (preS (dC, dI) classes [(cI, .int)] tS (w_0 cI tS a_pat a_pat_bytes pat_length pat_bytes) sz)) (va_Qi (fun r (_ : Unit) => r = R0) (fun _ t => posS (dC, dI) classes [(cI, .int)] (w_0 cI tS a_pat a_pat_bytes pat_length pat_bytes) (va_A (w_0 cI tS a_pat a_pat_bytes pat_length pat_bytes) sz) t) (va_A (w_0 cI tS a_pat a_pat_bytes pat_length pat_bytes) sz)) 0 0 (va_A (w_0 cI tS a_pat a_pat_bytes pat_length pat_bytes) sz) := by
  refine Met.ofW (cc := b_PAT_characterAt) (maxL := 7) (ret := (some .int)) (by decide) rfl ?_
  intro p e s m args below meth c s₁ B hml hv
  obtain ⟨rfl, hsz, hP, hK, hD0, hst0⟩ := hv
  have hx := B.exec
  have hb := B.bytes
  have hr := B.returns
  have hts0 := atoms_spec (ws := ws_PAT_characterAt) B.pre
  have hts : ∀ w ∈ GW, w.before _ s = true := fun w h => hts0 w (List.mem_cons_of_mem _ h)
  have hown : s.vm.findClass R_PAT = some m.cls := findClass_of_methodNamed B.named
  have hlocks := B.notSynchronized
  subst hsz
  have hD := hD0.self (sz := s.heap.size)
  generalize hAe : va_A (w_0 cI tS a_pat a_pat_bytes pat_length pat_bytes) s.heap.size = A at hD hst0 ⊢
  have hA : ∀ q : Nat, s.heap.size ≤ q → A q := fun q h => by rw [← hAe]; exact Or.inr h
  have hS : va_S A s.heap s.heap [] := va_S.rf
  have hl := lv_entry ([.ref a_pat, .int p1]) (n := 7) (Nat.le_of_ble_eq_true rfl)
  rw [lg_entry_eq]
  generalize (lg_sl ([.ref a_pat, .int p1]) ++ List.replicate (7 - (lg_sl ([.ref a_pat, .int p1])).length) Slot.unset).toArray = ls at hl ⊢
  have hl : lv_has ls 7 [(0, .ref a_pat), (1, .int p1)] := hl
  have L66 : ∀ n66 : Nat, ∀ (v3 : Int32) (v4 : Int32) (v5 : Int32) (H : Heap) (locs : List Loc) (ls : Array Slot), va_P (dC, dI) classes (w_0 cI tS a_pat a_pat_bytes pat_length pat_bytes) H → va_D A (w_0 cI tS a_pat a_pat_bytes pat_length pat_bytes) → va_S A s.heap H locs → lv_has ls 7 [(0, .ref a_pat), (1, .int p1), (3, .int v3), (4, .int v4), (5, .int v5)] → f_PAT_characterAt_L66 pat_length pat_bytes p1 n66 (v3, v4, v5) = some R0 → W p l e (headSpec ws_PAT_characterAt ({ frames := 1, cells := 0, slots := 0, locals := 21 })).room s m ([.ref a_pat, .int p1] : List Value).toArray below meth c H locs 0 0 (MQ below (va_Qi (fun r (_ : Unit) => r = R0) (fun _ t => posS (dC, dI) classes [(cI, .int)] (w_0 cI tS a_pat a_pat_bytes pat_length pat_bytes) (A) t) (A)) ([.ref a_pat, .int p1] : List Value).toArray s 0 0 A) (F0 m 66 ls []) := by
    intro n66
    induction n66 with
    | zero =>
      intro v3 v4 v5 H locs ls hP hD hS hl hf
      exact absurd (show (none : Option _) = some R0 from hf) (fun h => by cases h)
    | succ n66 ih66 =>
      intro v3 v4 v5 H locs ls hP hD hS hl hf
      have hf : f_PAT_characterAt_B66 pat_length pat_bytes p1 (f_PAT_characterAt_L66 pat_length pat_bytes p1 n66) v3 v4 v5 = some R0 := hf
      refine lv_iload hx hb d_PAT_characterAt_66 (lv_at hl 4 rfl) ?_
      refine lv_iload_n hx hb d_PAT_characterAt_68 rfl (lv_at hl 2 rfl) ?_
      refine lv_icmp_gt (tgt := 119) hx hb d_PAT_characterAt_69 (by decide) (fun c_ => ?_) (fun c_ => ?_)
      · have hf := f_pos c_ hf
        refine lv_iload hx hb d_PAT_characterAt_119 (lv_at hl 3 rfl) ?_
        obtain ⟨x121, hg, hf⟩ := bnd hf
        have hPc := hP.sub (ws' := (w_11 cI tS)) [] rfl
        have hDc := hD.sub (ws' := (w_11 cI tS)) [] (by decide) rfl
        have hFc := va_free (wc := (w_11 cI tS)) hD hS hA [] rfl
        refine cal_i (va_runSN (As := [.int v4]) (rest := []) ⟨hx, hb, hml, hown, hts⟩ (c_PN_isCharacter l dC dI cI tS H.size v4 x121 hg) ⟨va_cnB 1 hts (gN tw_758) rfl rfl rfl (hst0.2.1 _ tn_878) (hts _ tw_79) hd_PN_isCharacter ⟨Nat.le_of_ble_eq_true rfl, Nat.le_of_ble_eq_true rfl⟩, hts _ tw_757, trivial⟩ (pre_S hK hPc hDc hst0 hS hFc) rfl rfl hl.1 rfl (lv_room (Nat.le_of_ble_eq_true rfl)) d_PAT_characterAt_121 ⟨Nat.zero_le _, Nat.zero_le _⟩) hP hD hS hA [] [0, 1] rfl rfl (by decide) (by decide) (fun H locs hP hD hS => ?_)
        have hP := hP.sub (ws' := (w_0 cI tS a_pat a_pat_bytes pat_length pat_bytes)) [0, 1] rfl
        have hD := hD.sub (ws' := (w_0 cI tS a_pat a_pat_bytes pat_length pat_bytes)) [0, 1] (by decide) rfl
        refine lv_if_eq (tgt := 143) hx hb d_PAT_characterAt_124 (by decide) (fun c_ => ?_) (fun c_ => ?_)
        · have hf := f_pos c_ hf
          refine lv_iconst (v := (-1)) hx hb d_PAT_characterAt_143 (by decide) ?_
          obtain rfl := Option.some.inj hf
          exact W.iret (v := (-1)) hx hb hr (fun t ht hW => ⟨⟨_, (), rfl, rfl, ⟨by rw [ht]; exact hP, va_K.moved hW.alike hK, hD⟩⟩, hS.F ht⟩) hS.2.2 d_PAT_characterAt_144
        · have hf := f_neg c_ hf
          refine lv_iload hx hb d_PAT_characterAt_127 (lv_at hl 3 rfl) ?_
          obtain ⟨x129, hg, hf⟩ := bnd hf
          have hPc := hP.sub (ws' := (w_11 cI tS)) [] rfl
          have hDc := hD.sub (ws' := (w_11 cI tS)) [] (by decide) rfl
          have hFc := va_free (wc := (w_11 cI tS)) hD hS hA [] rfl
          refine cal_i (va_runSN (As := [.int v4]) (rest := []) ⟨hx, hb, hml, hown, hts⟩ (c_PN_widthOf l dC dI cI tS H.size v4 x129 hg) ⟨va_cnB 1 hts (gN tw_881) rfl rfl rfl (hst0.2.1 _ tn_879) (hts _ tw_79) hd_PN_widthOf ⟨Nat.le_of_ble_eq_true rfl, Nat.le_of_ble_eq_true rfl⟩, hts _ tw_880, trivial⟩ (pre_S hK hPc hDc hst0 hS hFc) rfl rfl hl.1 rfl (lv_room (Nat.le_of_ble_eq_true rfl)) d_PAT_characterAt_129 ⟨Nat.zero_le _, Nat.zero_le _⟩) hP hD hS hA [] [0, 1] rfl rfl (by decide) (by decide) (fun H locs hP hD hS => ?_)
          have hP := hP.sub (ws' := (w_0 cI tS a_pat a_pat_bytes pat_length pat_bytes)) [0, 1] rfl
          have hD := hD.sub (ws' := (w_0 cI tS a_pat a_pat_bytes pat_length pat_bytes)) [0, 1] (by decide) rfl
          refine lv_iload_n hx hb d_PAT_characterAt_132 rfl (lv_at hl 2 rfl) ?_
          refine lv_iconst (v := 1) hx hb d_PAT_characterAt_133 (by decide) ?_
          refine lv_iadd hx hb d_PAT_characterAt_134 ?_
          refine lv_icmp_ne (tgt := 143) hx hb d_PAT_characterAt_135 (by decide) (fun c_ => ?_) (fun c_ => ?_)
          · have hf := f_neg c_ hf
            refine lv_iconst (v := (-1)) hx hb d_PAT_characterAt_143 (by decide) ?_
            obtain rfl := Option.some.inj hf
            exact W.iret (v := (-1)) hx hb hr (fun t ht hW => ⟨⟨_, (), rfl, rfl, ⟨by rw [ht]; exact hP, va_K.moved hW.alike hK, hD⟩⟩, hS.F ht⟩) hS.2.2 d_PAT_characterAt_144
          · have hf := f_pos c_ hf
            refine lv_iload hx hb d_PAT_characterAt_138 (lv_at hl 3 rfl) ?_
            refine lv_goto (tgt := 144) hx hb d_PAT_characterAt_140 (by decide) ?_
            obtain rfl := Option.some.inj hf
            exact W.iret (v := v4) hx hb hr (fun t ht hW => ⟨⟨_, (), rfl, rfl, ⟨by rw [ht]; exact hP, va_K.moved hW.alike hK, hD⟩⟩, hS.F ht⟩) hS.2.2 d_PAT_characterAt_144
      · have hf := f_neg c_ hf
        refine lv_aload_n hx hb d_PAT_characterAt_72 rfl (lv_at hl 0 rfl) ?_
        refine lv_iload_n hx hb d_PAT_characterAt_73 rfl (lv_at hl 1 rfl) ?_
        refine lv_iload hx hb d_PAT_characterAt_74 (lv_at hl 4 rfl) ?_
        refine lv_iadd hx hb d_PAT_characterAt_76 ?_
        obtain ⟨x77, hg, hf⟩ := bnd hf
        have hPc := hP.sub (ws' := (w_0 cI tS a_pat a_pat_bytes pat_length pat_bytes)) [0, 1] rfl
        have hDc := hD.sub (ws' := (w_0 cI tS a_pat a_pat_bytes pat_length pat_bytes)) [0, 1] (by decide) rfl
        have hFc := va_free (wc := (w_0 cI tS a_pat a_pat_bytes pat_length pat_bytes)) hD hS hA [0, 1] rfl
        refine cal_i (va_runV (As := [.int (p1 + v5)]) (rest := []) ⟨hx, hb, hml, hown, hts⟩ (c_PAT_at l dC dI cI tS H.size a_pat a_pat_bytes pat_length pat_bytes (p1 + v5) x77 hg) ⟨callB_of 1 hts (gN tw_586) rfl rfl rfl (hts _ tw_80) (hts _ tw_810) hd_PAT_at ⟨Nat.le_of_ble_eq_true rfl, Nat.le_of_ble_eq_true rfl⟩, hts _ tw_584, hts _ tw_585⟩ (pre_V hK hPc hDc hst0 hS hFc (va_recv hK hPc (ci := 0) (q0 := 0) rfl rfl)) rfl rfl hl.1 rfl (lv_room (Nat.le_of_ble_eq_true rfl)) d_PAT_characterAt_77 ⟨Nat.zero_le _, Nat.zero_le _⟩) hP hD hS hA [0, 1] [] rfl rfl (by decide) (by decide) (fun H locs hP hD hS => ?_)
        have hP := hP.sub (ws' := (w_0 cI tS a_pat a_pat_bytes pat_length pat_bytes)) [0, 1] rfl
        have hD := hD.sub (ws' := (w_0 cI tS a_pat a_pat_bytes pat_length pat_bytes)) [0, 1] (by decide) rfl
        refine lv_istore (lv' := [(6, .int x77), (0, .ref a_pat), (1, .int p1), (3, .int v3), (4, .int v4), (5, .int v5)]) hx hb d_PAT_characterAt_80 hl (by decide) rfl (fun ls hl => ?_)
        refine lv_iload hx hb d_PAT_characterAt_82 (lv_at hl 0 rfl) ?_
        refine lv_sipush (v := 128) hx hb d_PAT_characterAt_84 (by decide) ?_
        refine lv_icmp_lt (tgt := 98) hx hb d_PAT_characterAt_87 (by decide) (fun c_ => ?_) (fun c_ => ?_)
        · have hf := f_pos c_ hf
          refine lv_iconst (v := (-1)) hx hb d_PAT_characterAt_98 (by decide) ?_
          obtain rfl := Option.some.inj hf
          exact W.iret (v := (-1)) hx hb hr (fun t ht hW => ⟨⟨_, (), rfl, rfl, ⟨by rw [ht]; exact hP, va_K.moved hW.alike hK, hD⟩⟩, hS.F ht⟩) hS.2.2 d_PAT_characterAt_99
        · have hf := f_neg c_ hf
          refine lv_iload hx hb d_PAT_characterAt_90 (lv_at hl 0 rfl) ?_
          refine lv_sipush (v := 192) hx hb d_PAT_characterAt_92 (by decide) ?_
          refine lv_icmp_lt (tgt := 100) hx hb d_PAT_characterAt_95 (by decide) (fun c_ => ?_) (fun c_ => ?_)
          · have hf := f_pos c_ hf
            refine lv_iload hx hb d_PAT_characterAt_100 (lv_at hl 4 rfl) ?_
            refine lv_bipush (v := 6) hx hb d_PAT_characterAt_102 (by decide) ?_
            refine lv_ishl hx hb d_PAT_characterAt_104 ?_
            refine lv_iload hx hb d_PAT_characterAt_105 (lv_at hl 0 rfl) ?_
            refine lv_bipush (v := 63) hx hb d_PAT_characterAt_107 (by decide) ?_
            refine lv_iand hx hb d_PAT_characterAt_109 ?_
            refine lv_ior hx hb d_PAT_characterAt_110 ?_
            refine lv_istore (lv' := [(4, .int ((v4 <<< (6 &&& 31)) ||| (x77 &&& 63))), (6, .int x77), (0, .ref a_pat), (1, .int p1), (3, .int v3), (5, .int v5)]) hx hb d_PAT_characterAt_111 hl (by decide) rfl (fun ls hl => ?_)
            refine lv_iinc (v := v5 + 1) (lv' := [(5, .int (v5 + 1)), (4, .int ((v4 <<< (6 &&& 31)) ||| (x77 &&& 63))), (6, .int x77), (0, .ref a_pat), (1, .int p1), (3, .int v3)]) hx hb d_PAT_characterAt_113 hl (k := 5) rfl rfl (by decide) rfl (fun ls hl => ?_)
            refine lv_goto (tgt := 66) hx hb d_PAT_characterAt_116 (by decide) ?_
            exact ih66 v3 ((v4 <<< (6 &&& 31)) ||| (x77 &&& 63)) (v5 + 1) _ _ _ hP hD hS (lv_sub hl [3, 4, 5, 1, 0] rfl) hf
          · have hf := f_neg c_ hf
            refine lv_iconst (v := (-1)) hx hb d_PAT_characterAt_98 (by decide) ?_
            obtain rfl := Option.some.inj hf
            exact W.iret (v := (-1)) hx hb hr (fun t ht hW => ⟨⟨_, (), rfl, rfl, ⟨by rw [ht]; exact hP, va_K.moved hW.alike hK, hD⟩⟩, hS.F ht⟩) hS.2.2 d_PAT_characterAt_99
  have L54 : ∀ (v2 : Int32) (z0 : Int32) (H : Heap) (locs : List Loc) (ls : Array Slot), va_P (dC, dI) classes (w_0 cI tS a_pat a_pat_bytes pat_length pat_bytes) H → va_D A (w_0 cI tS a_pat a_pat_bytes pat_length pat_bytes) → va_S A s.heap H locs → lv_has ls 7 [(0, .ref a_pat), (1, .int p1), (2, .int v2)] → f_PAT_characterAt_L54 pat_length pat_bytes p1 v2 z0 = some R0 → W p l e (headSpec ws_PAT_characterAt ({ frames := 1, cells := 0, slots := 0, locals := 21 })).room s m ([.ref a_pat, .int p1] : List Value).toArray below meth c H locs 0 0 (MQ below (va_Qi (fun r (_ : Unit) => r = R0) (fun _ t => posS (dC, dI) classes [(cI, .int)] (w_0 cI tS a_pat a_pat_bytes pat_length pat_bytes) (A) t) (A)) ([.ref a_pat, .int p1] : List Value).toArray s 0 0 A) (F0 m 54 ls [.int z0]) := by
    intro v2 z0 H locs ls hP hD hS hl hf
    refine lv_istore_n (lv' := [(3, .int z0), (0, .ref a_pat), (1, .int p1), (2, .int v2)]) hx hb d_PAT_characterAt_54 rfl hl (by decide) rfl (fun ls hl => ?_)
    refine lv_iload_n hx hb d_PAT_characterAt_55 rfl (lv_at hl 3 rfl) ?_
    refine lv_bipush (v := 63) hx hb d_PAT_characterAt_56 (by decide) ?_
    refine lv_iload_n hx hb d_PAT_characterAt_58 rfl (lv_at hl 0 rfl) ?_
    refine lv_ishr hx hb d_PAT_characterAt_59 ?_
    refine lv_iand hx hb d_PAT_characterAt_60 ?_
    refine lv_istore (lv' := [(4, .int (v2 &&& (63 >>> (z0 &&& 31)))), (3, .int z0), (0, .ref a_pat), (1, .int p1), (2, .int v2)]) hx hb d_PAT_characterAt_61 hl (by decide) rfl (fun ls hl => ?_)
    refine lv_iconst (v := 1) hx hb d_PAT_characterAt_63 (by decide) ?_
    refine lv_istore (lv' := [(5, .int 1), (4, .int (v2 &&& (63 >>> (z0 &&& 31)))), (3, .int z0), (0, .ref a_pat), (1, .int p1), (2, .int v2)]) hx hb d_PAT_characterAt_64 hl (by decide) rfl (fun ls hl => ?_)
    exact L66 FU z0 (v2 &&& (63 >>> (z0 &&& 31))) 1 _ _ _ hP hD hS (lv_sub hl [3, 4, 2, 1, 0] rfl) hf
  refine lv_aload_n hx hb d_PAT_characterAt_0 rfl (lv_at hl 0 rfl) ?_
  refine lv_iload_n hx hb d_PAT_characterAt_1 rfl (lv_at hl 1 rfl) ?_
  obtain ⟨x2, hg, hf⟩ := bnd hf
  have hPc := hP.sub (ws' := (w_0 cI tS a_pat a_pat_bytes pat_length pat_bytes)) [0, 1] rfl
  have hDc := hD.sub (ws' := (w_0 cI tS a_pat a_pat_bytes pat_length pat_bytes)) [0, 1] (by decide) rfl
  have hFc := va_free (wc := (w_0 cI tS a_pat a_pat_bytes pat_length pat_bytes)) hD hS hA [0, 1] rfl
  refine cal_i (va_runV (As := [.int p1]) (rest := []) ⟨hx, hb, hml, hown, hts⟩ (c_PAT_at l dC dI cI tS s.heap.size a_pat a_pat_bytes pat_length pat_bytes p1 x2 hg) ⟨callB_of 1 hts (gN tw_586) rfl rfl rfl (hts _ tw_80) (hts _ tw_810) hd_PAT_at ⟨Nat.le_of_ble_eq_true rfl, Nat.le_of_ble_eq_true rfl⟩, hts _ tw_584, hts _ tw_585⟩ (pre_V hK hPc hDc hst0 hS hFc (va_recv hK hPc (ci := 0) (q0 := 0) rfl rfl)) rfl rfl hl.1 rfl (lv_room (Nat.le_of_ble_eq_true rfl)) d_PAT_characterAt_2 ⟨Nat.zero_le _, Nat.zero_le _⟩) hP hD hS hA [0, 1] [] rfl rfl (by decide) (by decide) (fun H locs hP hD hS => ?_)
  have hP := hP.sub (ws' := (w_0 cI tS a_pat a_pat_bytes pat_length pat_bytes)) [0, 1] rfl
  have hD := hD.sub (ws' := (w_0 cI tS a_pat a_pat_bytes pat_length pat_bytes)) [0, 1] (by decide) rfl
  refine lv_istore_n (lv' := [(2, .int x2), (0, .ref a_pat), (1, .int p1)]) hx hb d_PAT_characterAt_5 rfl hl (by decide) rfl (fun ls hl => ?_)
  refine lv_iload_n hx hb d_PAT_characterAt_6 rfl (lv_at hl 0 rfl) ?_
  refine lv_sipush (v := 128) hx hb d_PAT_characterAt_7 (by decide) ?_
  refine lv_icmp_ge (tgt := 15) hx hb d_PAT_characterAt_10 (by decide) (fun c_ => ?_) (fun c_ => ?_)
  · have hf := f_pos c_ hf
    refine lv_iload_n hx hb d_PAT_characterAt_15 rfl (lv_at hl 0 rfl) ?_
    refine lv_sipush (v := 192) hx hb d_PAT_characterAt_16 (by decide) ?_
    refine lv_icmp_lt (tgt := 29) hx hb d_PAT_characterAt_19 (by decide) (fun c_ => ?_) (fun c_ => ?_)
    · have hf := f_pos c_ hf
      refine lv_iconst (v := (-1)) hx hb d_PAT_characterAt_29 (by decide) ?_
      obtain rfl := Option.some.inj hf
      exact W.iret (v := (-1)) hx hb hr (fun t ht hW => ⟨⟨_, (), rfl, rfl, ⟨by rw [ht]; exact hP, va_K.moved hW.alike hK, hD⟩⟩, hS.F ht⟩) hS.2.2 d_PAT_characterAt_30
    · have hf := f_neg c_ hf
      refine lv_iload_n hx hb d_PAT_characterAt_22 rfl (lv_at hl 0 rfl) ?_
      refine lv_sipush (v := 248) hx hb d_PAT_characterAt_23 (by decide) ?_
      refine lv_icmp_lt (tgt := 31) hx hb d_PAT_characterAt_26 (by decide) (fun c_ => ?_) (fun c_ => ?_)
      · have hf := f_pos c_ hf
        refine lv_iload_n hx hb d_PAT_characterAt_31 rfl (lv_at hl 0 rfl) ?_
        refine lv_sipush (v := 224) hx hb d_PAT_characterAt_32 (by decide) ?_
        refine lv_icmp_ge (tgt := 42) hx hb d_PAT_characterAt_35 (by decide) (fun c_ => ?_) (fun c_ => ?_)
        · have hf := f_pos c_ hf
          refine lv_iload_n hx hb d_PAT_characterAt_42 rfl (lv_at hl 0 rfl) ?_
          refine lv_sipush (v := 240) hx hb d_PAT_characterAt_43 (by decide) ?_
          refine lv_icmp_ge (tgt := 53) hx hb d_PAT_characterAt_46 (by decide) (fun c_ => ?_) (fun c_ => ?_)
          · have hf := f_pos c_ hf
            refine lv_iconst (v := 3) hx hb d_PAT_characterAt_53 (by decide) ?_
            exact L54 x2 3 _ _ _ hP hD hS (lv_sub hl [1, 2, 0] rfl) hf
          · have hf := f_neg c_ hf
            refine lv_iconst (v := 2) hx hb d_PAT_characterAt_49 (by decide) ?_
            refine lv_goto (tgt := 54) hx hb d_PAT_characterAt_50 (by decide) ?_
            exact L54 x2 2 _ _ _ hP hD hS (lv_sub hl [1, 2, 0] rfl) hf
        · have hf := f_neg c_ hf
          refine lv_iconst (v := 1) hx hb d_PAT_characterAt_38 (by decide) ?_
          refine lv_goto (tgt := 54) hx hb d_PAT_characterAt_39 (by decide) ?_
          exact L54 x2 1 _ _ _ hP hD hS (lv_sub hl [1, 2, 0] rfl) hf
      · have hf := f_neg c_ hf
        refine lv_iconst (v := (-1)) hx hb d_PAT_characterAt_29 (by decide) ?_
        obtain rfl := Option.some.inj hf
        exact W.iret (v := (-1)) hx hb hr (fun t ht hW => ⟨⟨_, (), rfl, rfl, ⟨by rw [ht]; exact hP, va_K.moved hW.alike hK, hD⟩⟩, hS.F ht⟩) hS.2.2 d_PAT_characterAt_30
  · have hf := f_neg c_ hf
    refine lv_iload_n hx hb d_PAT_characterAt_13 rfl (lv_at hl 0 rfl) ?_
    obtain rfl := Option.some.inj hf
    exact W.iret (v := x2) hx hb hr (fun t ht hW => ⟨⟨_, (), rfl, rfl, ⟨by rw [ht]; exact hP, va_K.moved hW.alike hK, hD⟩⟩, hS.F ht⟩) hS.2.2 d_PAT_characterAt_14
def f_CLS_readSingle_L77 (pat_length : Int32) (pat_bytes : Nat → Int32) (p1 : Int32) (v2 : Int32) (mis_number : Int32) (mis_place : Int32) (esc_kind : Int32) (esc_value : Int32) (esc_set : Nat) (esc_others : Bool) (esc_after : Int32) (cls_single : Int32) : Option (Int32 × Int32 × Int32 × Int32 × Int32 × Nat × Bool × Int32 × Int32) :=
  if v2 = 0 then some (esc_after, mis_number, mis_place, esc_kind, esc_value, esc_set, esc_others, esc_after, esc_value) else bnd_ (f_CLS_refused mis_number mis_place v2 p1) (fun x95 => some (x95.1, x95.2.1, x95.2.2, esc_kind, esc_value, esc_set, esc_others, esc_after, esc_value))
def f_CLS_readSingle (pat_length : Int32) (mis_number : Int32) (mis_place : Int32) (esc_kind : Int32) (esc_value : Int32) (esc_set : Nat) (esc_others : Bool) (esc_after : Int32) (cls_single : Int32) (pat_bytes : Nat → Int32) (p1 : Int32) : Option (Int32 × Int32 × Int32 × Int32 × Int32 × Nat × Bool × Int32 × Int32) :=
  bnd_ (f_PAT_at pat_length pat_bytes p1) (fun x5 => if x5 = 92 then bnd_ (f_ESC_readEscape pat_length esc_kind esc_value esc_set esc_others esc_after pat_bytes p1) (fun x57 => if x57.1 = 0 then (if x57.2.1 = 0 then f_CLS_readSingle_L77 pat_length pat_bytes p1 x57.1 mis_number mis_place x57.2.1 x57.2.2.1 x57.2.2.2.1 x57.2.2.2.2.1 x57.2.2.2.2.2 cls_single else f_CLS_readSingle_L77 pat_length pat_bytes p1 5 mis_number mis_place x57.2.1 x57.2.2.1 x57.2.2.2.1 x57.2.2.2.2.1 x57.2.2.2.2.2 cls_single) else f_CLS_readSingle_L77 pat_length pat_bytes p1 x57.1 mis_number mis_place x57.2.1 x57.2.2.1 x57.2.2.2.1 x57.2.2.2.2.1 x57.2.2.2.2.2 cls_single) else bnd_ (f_PAT_characterAt pat_length pat_bytes p1) (fun x19 => if x19 = (-1) then bnd_ (f_CLS_refused mis_number mis_place 1 p1) (fun x36 => some (x36.1, x36.2.1, x36.2.2, esc_kind, esc_value, esc_set, esc_others, esc_after, x19)) else bnd_ (f_PN_widthOf x19) (fun x47 => some (p1 + x47, mis_number, mis_place, esc_kind, esc_value, esc_set, esc_others, esc_after, x19))))
set_option maxRecDepth 100000 in
set_option maxHeartbeats 4000000 in
theorem c_CLS_readSingle (l : Launch) (dC : Nat → ClassId) (dI : Nat → Nat → Nat) (cI : ClassId) (tS : Nat → Nat → Nat) (sz : Nat) (a_pat a_pat_bytes a_mis a_esc a_cls a_set : Nat) (pat_length : Int32) (mis_number : Int32) (mis_place : Int32) (esc_kind : Int32) (esc_value : Int32) (esc_set : Nat) (esc_others : Bool) (esc_after : Int32) (cls_single : Int32) (pat_bytes : Nat → Int32) (p1 : Int32) (R0 : Int32 × Int32 × Int32 × Int32 × Int32 × Nat × Bool × Int32 × Int32) (hf : f_CLS_readSingle pat_length mis_number mis_place esc_kind esc_value esc_set esc_others esc_after cls_single pat_bytes p1 = some R0) : Met l y_CLS_readSingle ws_CLS_readSingle ({ frames := 3, cells := 0, slots := 0, locals := 71 }) (va_Pc [.ref a_cls, .int p1] (preS (dC, dI) classes [(cI, .int)] tS (w_28 cI tS a_pat a_pat_bytes a_mis a_esc a_cls a_set pat_length mis_number mis_place esc_kind esc_value esc_set esc_others esc_after cls_single pat_bytes) sz)) (va_Qi (fun r (_ : Unit) => r = R0.1) (fun _ t => posS (dC, dI) classes [(cI, .int)] (w_28 cI tS a_pat a_pat_bytes a_mis a_esc a_cls a_set pat_length R0.2.1 R0.2.2.1 R0.2.2.2.1 R0.2.2.2.2.1 R0.2.2.2.2.2.1 R0.2.2.2.2.2.2.1 R0.2.2.2.2.2.2.2.1 R0.2.2.2.2.2.2.2.2 pat_bytes) (va_A (w_28 cI tS a_pat a_pat_bytes a_mis a_esc a_cls a_set pat_length mis_number mis_place esc_kind esc_value esc_set esc_others esc_after cls_single pat_bytes) sz) t) (va_A (w_28 cI tS a_pat a_pat_bytes a_mis a_esc a_cls a_set pat_length mis_number mis_place esc_kind esc_value esc_set esc_others esc_after cls_single pat_bytes) sz)) 0 0 (va_A (w_28 cI tS a_pat a_pat_bytes a_mis a_esc a_cls a_set pat_length mis_number mis_place esc_kind esc_value esc_set esc_others esc_after cls_single pat_bytes) sz) := by
  refine Met.ofW (cc := b_CLS_readSingle) (maxL := 3) (ret := (some .int)) (by decide) rfl ?_
  intro p e s m args below meth c s₁ B hml hv
  obtain ⟨rfl, hsz, hP, hK, hD0, hst0⟩ := hv
  have hx := B.exec
  have hb := B.bytes
  have hr := B.returns
  have hts0 := atoms_spec (ws := ws_CLS_readSingle) B.pre
  have hts : ∀ w ∈ GW, w.before _ s = true := fun w h => hts0 w (List.mem_cons_of_mem _ h)
  have hown : s.vm.findClass R_CLS = some m.cls := findClass_of_methodNamed B.named
  have hlocks := B.notSynchronized
  subst hsz
  have hD := hD0.self (sz := s.heap.size)
  generalize hAe : va_A (w_28 cI tS a_pat a_pat_bytes a_mis a_esc a_cls a_set pat_length mis_number mis_place esc_kind esc_value esc_set esc_others esc_after cls_single pat_bytes) s.heap.size = A at hD hst0 ⊢
  have hA : ∀ q : Nat, s.heap.size ≤ q → A q := fun q h => by rw [← hAe]; exact Or.inr h
  have hS : va_S A s.heap s.heap [] := va_S.rf
  have hl := lv_entry ([.ref a_cls, .int p1]) (n := 3) (Nat.le_of_ble_eq_true rfl)
  rw [lg_entry_eq]
  generalize (lg_sl ([.ref a_cls, .int p1]) ++ List.replicate (3 - (lg_sl ([.ref a_cls, .int p1])).length) Slot.unset).toArray = ls at hl ⊢
  have hl : lv_has ls 3 [(0, .ref a_cls), (1, .int p1)] := hl
  have L77 : ∀ (v2 : Int32) (mis_number : Int32) (mis_place : Int32) (esc_kind : Int32) (esc_value : Int32) (esc_set : Nat) (esc_others : Bool) (esc_after : Int32) (cls_single : Int32) (H : Heap) (locs : List Loc) (ls : Array Slot), va_P (dC, dI) classes (w_28 cI tS a_pat a_pat_bytes a_mis a_esc a_cls a_set pat_length mis_number mis_place esc_kind esc_value esc_set esc_others esc_after cls_single pat_bytes) H → va_D A (w_28 cI tS a_pat a_pat_bytes a_mis a_esc a_cls a_set pat_length mis_number mis_place esc_kind esc_value esc_set esc_others esc_after cls_single pat_bytes) → va_S A s.heap H locs → lv_has ls 3 [(0, .ref a_cls), (1, .int p1), (2, .int v2)] → f_CLS_readSingle_L77 pat_length pat_bytes p1 v2 mis_number mis_place esc_kind esc_value esc_set esc_others esc_after cls_single = some R0 → W p l e (headSpec ws_CLS_readSingle ({ frames := 3, cells := 0, slots := 0, locals := 71 })).room s m ([.ref a_cls, .int p1] : List Value).toArray below meth c H locs 0 0 (MQ below (va_Qi (fun r (_ : Unit) => r = R0.1) (fun _ t => posS (dC, dI) classes [(cI, .int)] (w_28 cI tS a_pat a_pat_bytes a_mis a_esc a_cls a_set pat_length R0.2.1 R0.2.2.1 R0.2.2.2.1 R0.2.2.2.2.1 R0.2.2.2.2.2.1 R0.2.2.2.2.2.2.1 R0.2.2.2.2.2.2.2.1 R0.2.2.2.2.2.2.2.2 pat_bytes) (A) t) (A)) ([.ref a_cls, .int p1] : List Value).toArray s 0 0 A) (F0 m 77 ls []) := by
    intro v2 mis_number mis_place esc_kind esc_value esc_set esc_others esc_after cls_single H locs ls hP hD hS hl hf
    refine lv_aload_n hx hb d_CLS_readSingle_77 rfl (lv_at hl 0 rfl) ?_
    refine lv_aload_n hx hb d_CLS_readSingle_78 rfl (lv_at hl 0 rfl) ?_
    refine va_get (D := (dC, dI)) (ci := 7) (v := .ref a_esc) (C := R_CLS) (T := F_CLS) (N := N_CLS) hx hb hts i_CLS hown hK hP 3 rfl rfl 2 (by decide) (hts _ tw_308) (fun _ h9 => h9) rfl d_CLS_readSingle_79 ?_
    refine va_getN (D := (dC, dI)) (ci := 6) (v := .int esc_value) (C := R_ESC) (T := F_ESC) (N := N_ESC) hx hb hts i_ESC hown hK hP 2 rfl rfl 2 (by decide) (va_Nw.use rfl (hst0.2.1 _ tn_276)) (fun _ h9 => h9) rfl d_CLS_readSingle_82 ?_
    refine va_put (D := (dC, dI)) (ci := 7) (v := .int esc_value) (ty := .int) (C := R_CLS) (T := F_CLS) (N := N_CLS) hx hb hts i_CLS ty_CLS ty_CLS_ok n_CLS hown hK hP hD hS 3 rfl rfl 4 (by decide) (hts _ tw_310) (fun _ h9 => h9) rfl (ty_CLS_ok 4 (by decide)) rfl rfl (Nat.le_of_ble_eq_true rfl) d_CLS_readSingle_85 (fun H locs hP hD hS => ?_)
    have hP : va_P (dC, dI) classes (w_28 cI tS a_pat a_pat_bytes a_mis a_esc a_cls a_set pat_length mis_number mis_place esc_kind esc_value esc_set esc_others esc_after esc_value pat_bytes) H := hP
    have hD : va_D A (w_28 cI tS a_pat a_pat_bytes a_mis a_esc a_cls a_set pat_length mis_number mis_place esc_kind esc_value esc_set esc_others esc_after esc_value pat_bytes) := hD
    refine lv_iload_n hx hb d_CLS_readSingle_88 rfl (lv_at hl 2 rfl) ?_
    refine lv_if_eq (tgt := 101) hx hb d_CLS_readSingle_89 (by decide) (fun c_ => ?_) (fun c_ => ?_)
    · have hf := f_pos c_ hf
      refine lv_aload_n hx hb d_CLS_readSingle_101 rfl (lv_at hl 0 rfl) ?_
      refine va_get (D := (dC, dI)) (ci := 7) (v := .ref a_esc) (C := R_CLS) (T := F_CLS) (N := N_CLS) hx hb hts i_CLS hown hK hP 3 rfl rfl 2 (by decide) (hts _ tw_308) (fun _ h9 => h9) rfl d_CLS_readSingle_102 ?_
      refine va_getN (D := (dC, dI)) (ci := 6) (v := .int esc_after) (C := R_ESC) (T := F_ESC) (N := N_ESC) hx hb hts i_ESC hown hK hP 2 rfl rfl 5 (by decide) (va_Nw.use rfl (hst0.2.1 _ tn_285)) (fun _ h9 => h9) rfl d_CLS_readSingle_105 ?_
      obtain rfl := Option.some.inj hf
      exact W.iret (v := esc_after) hx hb hr (fun t ht hW => ⟨⟨_, (), rfl, rfl, ⟨by rw [ht]; exact hP, va_K.moved hW.alike hK, hD⟩⟩, hS.F ht⟩) hS.2.2 d_CLS_readSingle_108
    · have hf := f_neg c_ hf
      refine lv_aload_n hx hb d_CLS_readSingle_92 rfl (lv_at hl 0 rfl) ?_
      refine lv_iload_n hx hb d_CLS_readSingle_93 rfl (lv_at hl 2 rfl) ?_
      refine lv_iload_n hx hb d_CLS_readSingle_94 rfl (lv_at hl 1 rfl) ?_
      obtain ⟨x95, hg, hf⟩ := bnd hf
      have hPc := hP.sub (ws' := (w_26 cI tS a_mis a_cls a_pat a_esc a_set mis_number mis_place esc_value)) [1, 3] rfl
      have hDc := hD.sub (ws' := (w_26 cI tS a_mis a_cls a_pat a_esc a_set mis_number mis_place esc_value)) [1, 3] (by decide) rfl
      have hFc := va_free (wc := (w_26 cI tS a_mis a_cls a_pat a_esc a_set mis_number mis_place esc_value)) hD hS hA [1, 3] rfl
      refine cal_i (va_runV (As := [.int v2, .int p1]) (rest := []) ⟨hx, hb, hml, hown, hts⟩ (c_CLS_refused l dC dI cI tS H.size a_mis a_cls a_pat a_esc a_set mis_number mis_place esc_value v2 p1 x95 hg) ⟨callB_of 2 hts (gN tw_785) rfl rfl rfl (hts _ tw_88) (hts _ tw_782) hd_CLS_refused ⟨Nat.le_of_ble_eq_true rfl, Nat.le_of_ble_eq_true rfl⟩, hts _ tw_784, hts _ tw_20⟩ (pre_V hK hPc hDc hst0 hS hFc (va_recv hK hPc (ci := 7) (q0 := 1) rfl rfl)) rfl rfl hl.1 rfl (lv_room (Nat.le_of_ble_eq_true rfl)) d_CLS_readSingle_95 ⟨Nat.zero_le _, Nat.zero_le _⟩) hP hD hS hA [1, 3] [0, 2, 4] rfl rfl (by decide) (by decide) (fun H locs hP hD hS => ?_)
      have hP := hP.sub (ws' := (w_28 cI tS a_pat a_pat_bytes a_mis a_esc a_cls a_set pat_length x95.2.1 x95.2.2 esc_kind esc_value esc_set esc_others esc_after esc_value pat_bytes)) [0, 3, 1, 4, 2] rfl
      have hD := hD.sub (ws' := (w_28 cI tS a_pat a_pat_bytes a_mis a_esc a_cls a_set pat_length x95.2.1 x95.2.2 esc_kind esc_value esc_set esc_others esc_after esc_value pat_bytes)) [0, 3, 1, 4, 2] (by decide) rfl
      refine lv_goto (tgt := 108) hx hb d_CLS_readSingle_98 (by decide) ?_
      obtain rfl := Option.some.inj hf
      exact W.iret (v := x95.1) hx hb hr (fun t ht hW => ⟨⟨_, (), rfl, rfl, ⟨by rw [ht]; exact hP, va_K.moved hW.alike hK, hD⟩⟩, hS.F ht⟩) hS.2.2 d_CLS_readSingle_108
  refine lv_aload_n hx hb d_CLS_readSingle_0 rfl (lv_at hl 0 rfl) ?_
  refine va_get (D := (dC, dI)) (ci := 7) (v := .ref a_pat) (C := R_CLS) (T := F_CLS) (N := N_CLS) hx hb hts i_CLS hown hK hP 3 rfl rfl 0 (by decide) (hts _ tw_306) (fun _ h9 => h9) rfl d_CLS_readSingle_1 ?_
  refine lv_iload_n hx hb d_CLS_readSingle_4 rfl (lv_at hl 1 rfl) ?_
  obtain ⟨x5, hg, hf⟩ := bnd hf
  have hPc := hP.sub (ws' := (w_0 cI tS a_pat a_pat_bytes pat_length pat_bytes)) [0, 4] rfl
  have hDc := hD.sub (ws' := (w_0 cI tS a_pat a_pat_bytes pat_length pat_bytes)) [0, 4] (by decide) rfl
  have hFc := va_free (wc := (w_0 cI tS a_pat a_pat_bytes pat_length pat_bytes)) hD hS hA [0, 4] rfl
  refine cal_i (va_runV (As := [.int p1]) (rest := []) ⟨hx, hb, hml, hown, hts⟩ (c_PAT_at l dC dI cI tS s.heap.size a_pat a_pat_bytes pat_length pat_bytes p1 x5 hg) ⟨callB_of 1 hts (gN tw_586) rfl rfl rfl (hts _ tw_80) (hts _ tw_693) hd_PAT_at ⟨Nat.le_of_ble_eq_true rfl, Nat.le_of_ble_eq_true rfl⟩, hts _ tw_584, hts _ tw_585⟩ (pre_V hK hPc hDc hst0 hS hFc (va_recv hK hPc (ci := 0) (q0 := 0) rfl rfl)) rfl rfl hl.1 rfl (lv_room (Nat.le_of_ble_eq_true rfl)) d_CLS_readSingle_5 ⟨Nat.zero_le _, Nat.zero_le _⟩) hP hD hS hA [0, 4] [1, 2, 3] rfl rfl (by decide) (by decide) (fun H locs hP hD hS => ?_)
  have hP := hP.sub (ws' := (w_28 cI tS a_pat a_pat_bytes a_mis a_esc a_cls a_set pat_length mis_number mis_place esc_kind esc_value esc_set esc_others esc_after cls_single pat_bytes)) [3, 0, 1, 2, 4] rfl
  have hD := hD.sub (ws' := (w_28 cI tS a_pat a_pat_bytes a_mis a_esc a_cls a_set pat_length mis_number mis_place esc_kind esc_value esc_set esc_others esc_after cls_single pat_bytes)) [3, 0, 1, 2, 4] (by decide) rfl
  refine lv_bipush (v := 92) hx hb d_CLS_readSingle_8 (by decide) ?_
  refine lv_icmp_eq (tgt := 52) hx hb d_CLS_readSingle_10 (by decide) (fun c_ => ?_) (fun c_ => ?_)
  · have hf := f_pos c_ hf
    refine lv_aload_n hx hb d_CLS_readSingle_52 rfl (lv_at hl 0 rfl) ?_
    refine va_get (D := (dC, dI)) (ci := 7) (v := .ref a_esc) (C := R_CLS) (T := F_CLS) (N := N_CLS) hx hb hts i_CLS hown hK hP 3 rfl rfl 2 (by decide) (hts _ tw_308) (fun _ h9 => h9) rfl d_CLS_readSingle_53 ?_
    refine lv_iload_n hx hb d_CLS_readSingle_56 rfl (lv_at hl 1 rfl) ?_
    obtain ⟨x57, hg, hf⟩ := bnd hf
    have hPc := hP.sub (ws' := (w_25 cI tS a_pat a_pat_bytes a_esc pat_length esc_kind esc_value esc_set esc_others esc_after pat_bytes)) [0, 2, 4] rfl
    have hDc := hD.sub (ws' := (w_25 cI tS a_pat a_pat_bytes a_esc pat_length esc_kind esc_value esc_set esc_others esc_after pat_bytes)) [0, 2, 4] (by decide) rfl
    have hFc := va_free (wc := (w_25 cI tS a_pat a_pat_bytes a_esc pat_length esc_kind esc_value esc_set esc_others esc_after pat_bytes)) hD hS hA [0, 2, 4] rfl
    refine cal_i (va_runV (As := [.int p1]) (rest := []) ⟨hx, hb, hml, hown, hts⟩ (c_ESC_readEscape l dC dI cI tS H.size a_pat a_pat_bytes a_esc pat_length esc_kind esc_value esc_set esc_others esc_after pat_bytes p1 x57 hg) ⟨callB_of 1 hts (gN tw_743) rfl rfl rfl (hts _ tw_87) (hts _ tw_740) hd_ESC_readEscape ⟨Nat.le_of_ble_eq_true rfl, Nat.le_of_ble_eq_true rfl⟩, hts _ tw_741, hts _ tw_742⟩ (pre_V hK hPc hDc hst0 hS hFc (va_recv hK hPc (ci := 6) (q0 := 1) rfl rfl)) rfl rfl hl.1 rfl (lv_room (Nat.le_of_ble_eq_true rfl)) d_CLS_readSingle_57 ⟨Nat.zero_le _, Nat.zero_le _⟩) hP hD hS hA [0, 2, 4] [1, 3] rfl rfl (by decide) (by decide) (fun H locs hP hD hS => ?_)
    have hP := hP.sub (ws' := (w_28 cI tS a_pat a_pat_bytes a_mis a_esc a_cls a_set pat_length mis_number mis_place x57.2.1 x57.2.2.1 x57.2.2.2.1 x57.2.2.2.2.1 x57.2.2.2.2.2 cls_single pat_bytes)) [2, 0, 3, 1, 4] rfl
    have hD := hD.sub (ws' := (w_28 cI tS a_pat a_pat_bytes a_mis a_esc a_cls a_set pat_length mis_number mis_place x57.2.1 x57.2.2.1 x57.2.2.2.1 x57.2.2.2.2.1 x57.2.2.2.2.2 cls_single pat_bytes)) [2, 0, 3, 1, 4] (by decide) rfl
    refine lv_istore_n (lv' := [(2, .int x57.1), (0, .ref a_cls), (1, .int p1)]) hx hb d_CLS_readSingle_60 rfl hl (by decide) rfl (fun ls hl => ?_)
    refine lv_iload_n hx hb d_CLS_readSingle_61 rfl (lv_at hl 0 rfl) ?_
    refine lv_if_ne (tgt := 77) hx hb d_CLS_readSingle_62 (by decide) (fun c_ => ?_) (fun c_ => ?_)
    · have hf := f_neg c_ hf
      exact L77 x57.1 mis_number mis_place x57.2.1 x57.2.2.1 x57.2.2.2.1 x57.2.2.2.2.1 x57.2.2.2.2.2 cls_single _ _ _ hP hD hS (lv_sub hl [1, 2, 0] rfl) hf
    · have hf := f_pos c_ hf
      refine lv_aload_n hx hb d_CLS_readSingle_65 rfl (lv_at hl 1 rfl) ?_
      refine va_get (D := (dC, dI)) (ci := 7) (v := .ref a_esc) (C := R_CLS) (T := F_CLS) (N := N_CLS) hx hb hts i_CLS hown hK hP 3 rfl rfl 2 (by decide) (hts _ tw_308) (fun _ h9 => h9) rfl d_CLS_readSingle_66 ?_
      refine va_getN (D := (dC, dI)) (ci := 6) (v := .int x57.2.1) (C := R_ESC) (T := F_ESC) (N := N_ESC) hx hb hts i_ESC hown hK hP 2 rfl rfl 1 (by decide) (va_Nw.use rfl (hst0.2.1 _ tn_273)) (fun _ h9 => h9) rfl d_CLS_readSingle_69 ?_
      refine lv_if_eq (tgt := 77) hx hb d_CLS_readSingle_72 (by decide) (fun c_ => ?_) (fun c_ => ?_)
      · have hf := f_pos c_ hf
        exact L77 x57.1 mis_number mis_place x57.2.1 x57.2.2.1 x57.2.2.2.1 x57.2.2.2.2.1 x57.2.2.2.2.2 cls_single _ _ _ hP hD hS (lv_sub hl [1, 2, 0] rfl) hf
      · have hf := f_neg c_ hf
        refine lv_iconst (v := 5) hx hb d_CLS_readSingle_75 (by decide) ?_
        refine lv_istore_n (lv' := [(2, .int 5), (0, .ref a_cls), (1, .int p1)]) hx hb d_CLS_readSingle_76 rfl hl (by decide) rfl (fun ls hl => ?_)
        exact L77 5 mis_number mis_place x57.2.1 x57.2.2.1 x57.2.2.2.1 x57.2.2.2.2.1 x57.2.2.2.2.2 cls_single _ _ _ hP hD hS (lv_sub hl [1, 2, 0] rfl) hf
  · have hf := f_neg c_ hf
    refine lv_aload_n hx hb d_CLS_readSingle_13 rfl (lv_at hl 0 rfl) ?_
    refine lv_aload_n hx hb d_CLS_readSingle_14 rfl (lv_at hl 0 rfl) ?_
    refine va_get (D := (dC, dI)) (ci := 7) (v := .ref a_pat) (C := R_CLS) (T := F_CLS) (N := N_CLS) hx hb hts i_CLS hown hK hP 3 rfl rfl 0 (by decide) (hts _ tw_306) (fun _ h9 => h9) rfl d_CLS_readSingle_15 ?_
    refine lv_iload_n hx hb d_CLS_readSingle_18 rfl (lv_at hl 1 rfl) ?_
    obtain ⟨x19, hg, hf⟩ := bnd hf
    have hPc := hP.sub (ws' := (w_0 cI tS a_pat a_pat_bytes pat_length pat_bytes)) [0, 4] rfl
    have hDc := hD.sub (ws' := (w_0 cI tS a_pat a_pat_bytes pat_length pat_bytes)) [0, 4] (by decide) rfl
    have hFc := va_free (wc := (w_0 cI tS a_pat a_pat_bytes pat_length pat_bytes)) hD hS hA [0, 4] rfl
    refine cal_i (va_runV (As := [.int p1]) (rest := [.ref a_cls]) ⟨hx, hb, hml, hown, hts⟩ (c_PAT_characterAt l dC dI cI tS H.size a_pat a_pat_bytes pat_length pat_bytes p1 x19 hg) ⟨callB_of 1 hts (gN tw_877) rfl rfl rfl (hts _ tw_80) (hts _ tw_874) hd_PAT_characterAt ⟨Nat.le_of_ble_eq_true rfl, Nat.le_of_ble_eq_true rfl⟩, hts _ tw_875, hts _ tw_876⟩ (pre_V hK hPc hDc hst0 hS hFc (va_recv hK hPc (ci := 0) (q0 := 0) rfl rfl)) rfl rfl hl.1 rfl (lv_room (Nat.le_of_ble_eq_true rfl)) d_CLS_readSingle_19 ⟨Nat.zero_le _, Nat.zero_le _⟩) hP hD hS hA [0, 4] [1, 2, 3] rfl rfl (by decide) (by decide) (fun H locs hP hD hS => ?_)
    have hP := hP.sub (ws' := (w_28 cI tS a_pat a_pat_bytes a_mis a_esc a_cls a_set pat_length mis_number mis_place esc_kind esc_value esc_set esc_others esc_after cls_single pat_bytes)) [3, 0, 1, 2, 4] rfl
    have hD := hD.sub (ws' := (w_28 cI tS a_pat a_pat_bytes a_mis a_esc a_cls a_set pat_length mis_number mis_place esc_kind esc_value esc_set esc_others esc_after cls_single pat_bytes)) [3, 0, 1, 2, 4] (by decide) rfl
    refine va_put (D := (dC, dI)) (ci := 7) (v := .int x19) (ty := .int) (C := R_CLS) (T := F_CLS) (N := N_CLS) hx hb hts i_CLS ty_CLS ty_CLS_ok n_CLS hown hK hP hD hS 3 rfl rfl 4 (by decide) (hts _ tw_310) (fun _ h9 => h9) rfl (ty_CLS_ok 4 (by decide)) rfl rfl (Nat.le_of_ble_eq_true rfl) d_CLS_readSingle_22 (fun H locs hP hD hS => ?_)
    have hP : va_P (dC, dI) classes (w_28 cI tS a_pat a_pat_bytes a_mis a_esc a_cls a_set pat_length mis_number mis_place esc_kind esc_value esc_set esc_others esc_after x19 pat_bytes) H := hP
    have hD : va_D A (w_28 cI tS a_pat a_pat_bytes a_mis a_esc a_cls a_set pat_length mis_number mis_place esc_kind esc_value esc_set esc_others esc_after x19 pat_bytes) := hD
    refine lv_aload_n hx hb d_CLS_readSingle_25 rfl (lv_at hl 0 rfl) ?_
    refine va_get (D := (dC, dI)) (ci := 7) (v := .int x19) (C := R_CLS) (T := F_CLS) (N := N_CLS) hx hb hts i_CLS hown hK hP 3 rfl rfl 4 (by decide) (hts _ tw_310) (fun _ h9 => h9) rfl d_CLS_readSingle_26 ?_
    refine lv_iconst (v := (-1)) hx hb d_CLS_readSingle_29 (by decide) ?_
    refine lv_icmp_ne (tgt := 42) hx hb d_CLS_readSingle_30 (by decide) (fun c_ => ?_) (fun c_ => ?_)
    · have hf := f_neg c_ hf
      refine lv_iload_n hx hb d_CLS_readSingle_42 rfl (lv_at hl 1 rfl) ?_
      refine lv_aload_n hx hb d_CLS_readSingle_43 rfl (lv_at hl 0 rfl) ?_
      refine va_get (D := (dC, dI)) (ci := 7) (v := .int x19) (C := R_CLS) (T := F_CLS) (N := N_CLS) hx hb hts i_CLS hown hK hP 3 rfl rfl 4 (by decide) (hts _ tw_310) (fun _ h9 => h9) rfl d_CLS_readSingle_44 ?_
      obtain ⟨x47, hg, hf⟩ := bnd hf
      have hPc := hP.sub (ws' := (w_11 cI tS)) [] rfl
      have hDc := hD.sub (ws' := (w_11 cI tS)) [] (by decide) rfl
      have hFc := va_free (wc := (w_11 cI tS)) hD hS hA [] rfl
      refine cal_i (va_runSN (As := [.int x19]) (rest := [.int p1]) ⟨hx, hb, hml, hown, hts⟩ (c_PN_widthOf l dC dI cI tS H.size x19 x47 hg) ⟨va_cnB 1 hts (gN tw_881) rfl rfl rfl (hst0.2.1 _ tn_883) (hts _ tw_79) hd_PN_widthOf ⟨Nat.le_of_ble_eq_true rfl, Nat.le_of_ble_eq_true rfl⟩, hts _ tw_880, trivial⟩ (pre_S hK hPc hDc hst0 hS hFc) rfl rfl hl.1 rfl (lv_room (Nat.le_of_ble_eq_true rfl)) d_CLS_readSingle_47 ⟨Nat.zero_le _, Nat.zero_le _⟩) hP hD hS hA [] [0, 1, 2, 3, 4] rfl rfl (by decide) (by decide) (fun H locs hP hD hS => ?_)
      have hP := hP.sub (ws' := (w_28 cI tS a_pat a_pat_bytes a_mis a_esc a_cls a_set pat_length mis_number mis_place esc_kind esc_value esc_set esc_others esc_after x19 pat_bytes)) [0, 1, 2, 3, 4] rfl
      have hD := hD.sub (ws' := (w_28 cI tS a_pat a_pat_bytes a_mis a_esc a_cls a_set pat_length mis_number mis_place esc_kind esc_value esc_set esc_others esc_after x19 pat_bytes)) [0, 1, 2, 3, 4] (by decide) rfl
      refine lv_iadd hx hb d_CLS_readSingle_50 ?_
      obtain rfl := Option.some.inj hf
      exact W.iret (v := p1 + x47) hx hb hr (fun t ht hW => ⟨⟨_, (), rfl, rfl, ⟨by rw [ht]; exact hP, va_K.moved hW.alike hK, hD⟩⟩, hS.F ht⟩) hS.2.2 d_CLS_readSingle_51
    · have hf := f_pos c_ hf
      refine lv_aload_n hx hb d_CLS_readSingle_33 rfl (lv_at hl 0 rfl) ?_
      refine lv_iconst (v := 1) hx hb d_CLS_readSingle_34 (by decide) ?_
      refine lv_iload_n hx hb d_CLS_readSingle_35 rfl (lv_at hl 1 rfl) ?_
      obtain ⟨x36, hg, hf⟩ := bnd hf
      have hPc := hP.sub (ws' := (w_26 cI tS a_mis a_cls a_pat a_esc a_set mis_number mis_place x19)) [1, 3] rfl
      have hDc := hD.sub (ws' := (w_26 cI tS a_mis a_cls a_pat a_esc a_set mis_number mis_place x19)) [1, 3] (by decide) rfl
      have hFc := va_free (wc := (w_26 cI tS a_mis a_cls a_pat a_esc a_set mis_number mis_place x19)) hD hS hA [1, 3] rfl
      refine cal_i (va_runV (As := [.int 1, .int p1]) (rest := []) ⟨hx, hb, hml, hown, hts⟩ (c_CLS_refused l dC dI cI tS H.size a_mis a_cls a_pat a_esc a_set mis_number mis_place x19 1 p1 x36 hg) ⟨callB_of 2 hts (gN tw_785) rfl rfl rfl (hts _ tw_88) (hts _ tw_782) hd_CLS_refused ⟨Nat.le_of_ble_eq_true rfl, Nat.le_of_ble_eq_true rfl⟩, hts _ tw_784, hts _ tw_20⟩ (pre_V hK hPc hDc hst0 hS hFc (va_recv hK hPc (ci := 7) (q0 := 1) rfl rfl)) rfl rfl hl.1 rfl (lv_room (Nat.le_of_ble_eq_true rfl)) d_CLS_readSingle_36 ⟨Nat.zero_le _, Nat.zero_le _⟩) hP hD hS hA [1, 3] [0, 2, 4] rfl rfl (by decide) (by decide) (fun H locs hP hD hS => ?_)
      have hP := hP.sub (ws' := (w_28 cI tS a_pat a_pat_bytes a_mis a_esc a_cls a_set pat_length x36.2.1 x36.2.2 esc_kind esc_value esc_set esc_others esc_after x19 pat_bytes)) [0, 3, 1, 4, 2] rfl
      have hD := hD.sub (ws' := (w_28 cI tS a_pat a_pat_bytes a_mis a_esc a_cls a_set pat_length x36.2.1 x36.2.2 esc_kind esc_value esc_set esc_others esc_after x19 pat_bytes)) [0, 3, 1, 4, 2] (by decide) rfl
      refine lv_goto (tgt := 51) hx hb d_CLS_readSingle_39 (by decide) ?_
      obtain rfl := Option.some.inj hf
      exact W.iret (v := x36.1) hx hb hr (fun t ht hW => ⟨⟨_, (), rfl, rfl, ⟨by rw [ht]; exact hP, va_K.moved hW.alike hK, hD⟩⟩, hS.F ht⟩) hS.2.2 d_CLS_readSingle_51
