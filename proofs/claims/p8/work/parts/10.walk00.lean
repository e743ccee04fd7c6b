def f_PAT_append_B29 (p1 : Int64) (p3 : Int32) (K29 : (Int32 × Int32 × (Nat → Int32)) → Option (Bool × Int32 × (Nat → Int32))) (v4 : Int32) (pat_length : Int32) (pat_bytes : Nat → Int32) : Option (Bool × Int32 × (Nat → Int32)) :=
  if v4 < 0 then some (true, pat_length, pat_bytes) else grd (inb pat_length 400) (K29 (v4 + (-1), pat_length + 1, upd pat_bytes pat_length.toNatClampNeg ((((p1.toUInt64 >>> ((8 * v4).toInt64.toUInt64 &&& Int64.toUInt64 63)).toInt64).toInt32) &&& 255)))
def f_PAT_append_L29 (p1 : Int64) (p3 : Int32) (n : Nat) (a : Int32 × Int32 × (Nat → Int32)) : Option (Bool × Int32 × (Nat → Int32)) :=
  lpF (fun K29 v => f_PAT_append_B29 p1 p3  K29 v.1 v.2.1 v.2.2) n a
def f_PAT_append (pat_length : Int32) (pat_bytes : Nat → Int32) (p1 : Int64) (p3 : Int32) : Option (Bool × Int32 × (Nat → Int32)) :=
  if p3 < 0 then some (false, pat_length, pat_bytes) else (if 8 < p3 then some (false, pat_length, pat_bytes) else (if p3 ≤ (400 - pat_length) then f_PAT_append_L29 p1 p3 FU (p3 - 1, pat_length, pat_bytes) else some (false, pat_length, pat_bytes)))
set_option maxRecDepth 100000 in
set_option maxHeartbeats 4000000 in
theorem c_PAT_append (l : Launch) (dC : Nat → ClassId) (dI : Nat → Nat → Nat) (cI : ClassId) (tS : Nat → Nat → Nat) (sz : Nat) (a_pat a_pat_bytes : Nat) (pat_length : Int32) (pat_bytes : Nat → Int32) (p1 : Int64) (p3 : Int32) (R0 : Bool × Int32 × (Nat → Int32)) (hf : f_PAT_append pat_length pat_bytes p1 p3 = some R0) : Met l y_PAT_append ws_PAT_append ({ frames := 0, cells := 0, slots := 0, locals := 0 }) (va_Pc [.ref a_pat, .long p1, .int p3] (preS (dC, dI) classes [(cI, .int)] tS (w_0 cI tS a_pat a_pat_bytes pat_length pat_bytes) sz)) (va_Qi (fun r (_ : Unit) => r = b2i R0.1) (fun _ t => posS (dC, dI) classes [(cI, .int)] (w_0 cI tS a_pat a_pat_bytes R0.2.1 R0.2.2) (va_A (w_0 cI tS a_pat a_pat_bytes pat_length pat_bytes) sz) t) (va_A (w_0 cI tS a_pat a_pat_bytes pat_length pat_bytes) sz)) 0 0 (va_A (w_0 cI tS a_pat a_pat_bytes pat_length pat_bytes) sz) := by
  refine Met.ofW (cc := b_PAT_append) (maxL := 5) (ret := (some .boolean)) (by decide) rfl ?_
  intro p e s m args below meth c s₁ B hml hv
  obtain ⟨rfl, hsz, hP, hK, hD0, hst0⟩ := hv
  have hx := B.exec
  have hb := B.bytes
  have hr := B.returns
  have hts0 := atoms_spec (ws := ws_PAT_append) B.pre
  have hts : ∀ w ∈ GW, w.before _ s = true := fun w h => hts0 w (List.mem_cons_of_mem _ h)
  have hown : s.vm.findClass R_PAT = some m.cls := findClass_of_methodNamed B.named
  have hlocks := B.notSynchronized
  subst hsz
  have hD := hD0.self (sz := s.heap.size)
  generalize hAe : va_A (w_0 cI tS a_pat a_pat_bytes pat_length pat_bytes) s.heap.size = A at hD hst0 ⊢
  have hA : ∀ q : Nat, s.heap.size ≤ q → A q := fun q h => by rw [← hAe]; exact Or.inr h
  have hS : va_S A s.heap s.heap [] := va_S.rf
  have hl := lv_entry ([.ref a_pat, .long p1, .int p3]) (n := 5) (Nat.le_of_ble_eq_true rfl)
  rw [lg_entry_eq]
  generalize (lg_sl ([.ref a_pat, .long p1, .int p3]) ++ List.replicate (5 - (lg_sl ([.ref a_pat, .long p1, .int p3])).length) Slot.unset).toArray = ls at hl ⊢
  have hl : lv_has ls 5 [(0, .ref a_pat), (1, .long p1), (3, .int p3)] := hl
  have L29 : ∀ n29 : Nat, ∀ (v4 : Int32) (pat_length : Int32) (pat_bytes : Nat → Int32) (H : Heap) (locs : List Loc) (ls : Array Slot), va_P (dC, dI) classes (w_0 cI tS a_pat a_pat_bytes pat_length pat_bytes) H → va_D A (w_0 cI tS a_pat a_pat_bytes pat_length pat_bytes) → va_S A s.heap H locs → lv_has ls 5 [(0, .ref a_pat), (1, .long p1), (4, .int v4)] → f_PAT_append_L29 p1 p3 n29 (v4, pat_length, pat_bytes) = some R0 → W p l e (headSpec ws_PAT_append ({ frames := 0, cells := 0, slots := 0, locals := 0 })).room s m ([.ref a_pat, .long p1, .int p3] : List Value).toArray below meth c H locs 0 0 (MQ below (va_Qi (fun r (_ : Unit) => r = b2i R0.1) (fun _ t => posS (dC, dI) classes [(cI, .int)] (w_0 cI tS a_pat a_pat_bytes R0.2.1 R0.2.2) (A) t) (A)) ([.ref a_pat, .long p1, .int p3] : List Value).toArray s 0 0 A) (F0 m 29 ls []) := by
    intro n29
    induction n29 with
    | zero =>
      intro v4 pat_length pat_bytes H locs ls hP hD hS hl hf
      exact absurd (show (none : Option _) = some R0 from hf) (fun h => by cases h)
    | succ n29 ih29 =>
      intro v4 pat_length pat_bytes H locs ls hP hD hS hl hf
      have hf : f_PAT_append_B29 p1 p3 (f_PAT_append_L29 p1 p3 n29) v4 pat_length pat_bytes = some R0 := hf
      refine lv_iload hx hb d_PAT_append_29 (lv_at hl 2 rfl) ?_
      refine lv_if_lt (tgt := 71) hx hb d_PAT_append_31 (by decide) (fun c_ => ?_) (fun c_ => ?_)
      · have hf := f_pos c_ hf
        refine lv_iconst (v := 1) hx hb d_PAT_append_71 (by decide) ?_
        obtain rfl := Option.some.inj hf
        exact W.zret (v := b2i true) hx hb hr (nr_b _) (fun t ht hW => ⟨⟨_, (), rfl, rfl, ⟨by rw [ht]; exact hP, va_K.moved hW.alike hK, hD⟩⟩, hS.F ht⟩) hS.2.2 d_PAT_append_72
      · have hf := f_neg c_ hf
        refine lv_aload_n hx hb d_PAT_append_34 rfl (lv_at hl 0 rfl) ?_
        refine va_get (D := (dC, dI)) (ci := 0) (v := .ref a_pat_bytes) (C := R_PAT) (T := F_PAT) (N := N_PAT) hx hb hts i_PAT hown hK hP 0 rfl rfl 0 (by decide) (hts _ tw_116) (fun _ h9 => h9) rfl d_PAT_append_35 ?_
        refine lv_aload_n hx hb d_PAT_append_38 rfl (lv_at hl 0 rfl) ?_
        refine va_get (D := (dC, dI)) (ci := 0) (v := .int pat_length) (C := R_PAT) (T := F_PAT) (N := N_PAT) hx hb hts i_PAT hown hK hP 0 rfl rfl 1 (by decide) (hts _ tw_117) (fun _ h9 => h9) rfl d_PAT_append_39 ?_
        refine lv_lload_n hx hb d_PAT_append_42 rfl (lv_at hl 1 rfl) ?_
        refine lv_bipush (v := 8) hx hb d_PAT_append_43 (by decide) ?_
        refine lv_iload hx hb d_PAT_append_45 (lv_at hl 2 rfl) ?_
        refine lv_imul hx hb d_PAT_append_47 ?_
        refine lv_lushr (v := (p1.toUInt64 >>> ((8 * v4).toInt64.toUInt64 &&& Int64.toUInt64 63)).toInt64) hx hb d_PAT_append_48 rfl ?_
        refine lv_l2i (v := ((p1.toUInt64 >>> ((8 * v4).toInt64.toUInt64 &&& Int64.toUInt64 63)).toInt64).toInt32) hx hb d_PAT_append_49 rfl ?_
        refine lv_sipush (v := 255) hx hb d_PAT_append_50 (by decide) ?_
        refine lv_iand hx hb d_PAT_append_53 ?_
        obtain ⟨hin, hf⟩ := grd_in hf
        refine va_iast hx hb hK hP hD hS 1 0 rfl rfl hin d_PAT_append_54 (fun H locs hP hD hS => ?_)
        have hP : va_P (dC, dI) classes (w_0 cI tS a_pat a_pat_bytes pat_length (upd pat_bytes pat_length.toNatClampNeg ((((p1.toUInt64 >>> ((8 * v4).toInt64.toUInt64 &&& Int64.toUInt64 63)).toInt64).toInt32) &&& 255))) H := hP
        have hD : va_D A (w_0 cI tS a_pat a_pat_bytes pat_length (upd pat_bytes pat_length.toNatClampNeg ((((p1.toUInt64 >>> ((8 * v4).toInt64.toUInt64 &&& Int64.toUInt64 63)).toInt64).toInt32) &&& 255))) := hD
        refine lv_aload_n hx hb d_PAT_append_55 rfl (lv_at hl 0 rfl) ?_
        refine lv_dup hx hb d_PAT_append_56 rfl ?_
        refine va_get (D := (dC, dI)) (ci := 0) (v := .int pat_length) (C := R_PAT) (T := F_PAT) (N := N_PAT) hx hb hts i_PAT hown hK hP 0 rfl rfl 1 (by decide) (hts _ tw_117) (fun _ h9 => h9) rfl d_PAT_append_57 ?_
        refine lv_iconst (v := 1) hx hb d_PAT_append_60 (by decide) ?_
        refine lv_iadd hx hb d_PAT_append_61 ?_
        refine va_put (D := (dC, dI)) (ci := 0) (v := .int (pat_length + 1)) (ty := .int) (C := R_PAT) (T := F_PAT) (N := N_PAT) hx hb hts i_PAT ty_PAT ty_PAT_ok n_PAT hown hK hP hD hS 0 rfl rfl 1 (by decide) (hts _ tw_117) (fun _ h9 => h9) rfl (ty_PAT_ok 1 (by decide)) rfl rfl (Nat.le_of_ble_eq_true rfl) d_PAT_append_62 (fun H locs hP hD hS => ?_)
        have hP : va_P (dC, dI) classes (w_0 cI tS a_pat a_pat_bytes (pat_length + 1) (upd pat_bytes pat_length.toNatClampNeg ((((p1.toUInt64 >>> ((8 * v4).toInt64.toUInt64 &&& Int64.toUInt64 63)).toInt64).toInt32) &&& 255))) H := hP
        have hD : va_D A (w_0 cI tS a_pat a_pat_bytes (pat_length + 1) (upd pat_bytes pat_length.toNatClampNeg ((((p1.toUInt64 >>> ((8 * v4).toInt64.toUInt64 &&& Int64.toUInt64 63)).toInt64).toInt32) &&& 255))) := hD
        refine lv_iinc (v := v4 + (-1)) (lv' := [(4, .int (v4 + (-1))), (0, .ref a_pat), (1, .long p1)]) hx hb d_PAT_append_65 hl (k := 2) rfl rfl (by decide) rfl (fun ls hl => ?_)
        refine lv_goto (tgt := 29) hx hb d_PAT_append_68 (by decide) ?_
        exact ih29 (v4 + (-1)) (pat_length + 1) (upd pat_bytes pat_length.toNatClampNeg ((((p1.toUInt64 >>> ((8 * v4).toInt64.toUInt64 &&& Int64.toUInt64 63)).toInt64).toInt32) &&& 255)) _ _ _ hP hD hS (lv_sub hl [1, 2, 0] rfl) hf
  refine lv_iload_n hx hb d_PAT_append_0 rfl (lv_at hl 2 rfl) ?_
  refine lv_if_lt (tgt := 22) hx hb d_PAT_append_1 (by decide) (fun c_ => ?_) (fun c_ => ?_)
  · have hf := f_pos c_ hf
    refine lv_iconst (v := 0) hx hb d_PAT_append_22 (by decide) ?_
    obtain rfl := Option.some.inj hf
    exact W.zret (v := b2i false) hx hb hr (nr_b _) (fun t ht hW => ⟨⟨_, (), rfl, rfl, ⟨by rw [ht]; exact hP, va_K.moved hW.alike hK, hD⟩⟩, hS.F ht⟩) hS.2.2 d_PAT_append_23
  · have hf := f_neg c_ hf
    refine lv_iload_n hx hb d_PAT_append_4 rfl (lv_at hl 2 rfl) ?_
    refine lv_bipush (v := 8) hx hb d_PAT_append_5 (by decide) ?_
    refine lv_icmp_gt (tgt := 22) hx hb d_PAT_append_7 (by decide) (fun c_ => ?_) (fun c_ => ?_)
    · have hf := f_pos c_ hf
      refine lv_iconst (v := 0) hx hb d_PAT_append_22 (by decide) ?_
      obtain rfl := Option.some.inj hf
      exact W.zret (v := b2i false) hx hb hr (nr_b _) (fun t ht hW => ⟨⟨_, (), rfl, rfl, ⟨by rw [ht]; exact hP, va_K.moved hW.alike hK, hD⟩⟩, hS.F ht⟩) hS.2.2 d_PAT_append_23
    · have hf := f_neg c_ hf
      refine lv_iload_n hx hb d_PAT_append_10 rfl (lv_at hl 2 rfl) ?_
      refine lv_sipush (v := 400) hx hb d_PAT_append_11 (by decide) ?_
      refine lv_aload_n hx hb d_PAT_append_14 rfl (lv_at hl 0 rfl) ?_
      refine va_get (D := (dC, dI)) (ci := 0) (v := .int pat_length) (C := R_PAT) (T := F_PAT) (N := N_PAT) hx hb hts i_PAT hown hK hP 0 rfl rfl 1 (by decide) (hts _ tw_117) (fun _ h9 => h9) rfl d_PAT_append_15 ?_
      refine lv_isub hx hb d_PAT_append_18 ?_
      refine lv_icmp_le (tgt := 24) hx hb d_PAT_append_19 (by decide) (fun c_ => ?_) (fun c_ => ?_)
      · have hf := f_pos c_ hf
        refine lv_iload_n hx hb d_PAT_append_24 rfl (lv_at hl 2 rfl) ?_
        refine lv_iconst (v := 1) hx hb d_PAT_append_25 (by decide) ?_
        refine lv_isub hx hb d_PAT_append_26 ?_
        refine lv_istore (lv' := [(4, .int (p3 - 1)), (0, .ref a_pat), (1, .long p1), (3, .int p3)]) hx hb d_PAT_append_27 hl (by decide) rfl (fun ls hl => ?_)
        exact L29 FU (p3 - 1) pat_length pat_bytes _ _ _ hP hD hS (lv_sub hl [1, 2, 0] rfl) hf
      · have hf := f_neg c_ hf
        refine lv_iconst (v := 0) hx hb d_PAT_append_22 (by decide) ?_
        obtain rfl := Option.some.inj hf
        exact W.zret (v := b2i false) hx hb hr (nr_b _) (fun t ht hW => ⟨⟨_, (), rfl, rfl, ⟨by rw [ht]; exact hP, va_K.moved hW.alike hK, hD⟩⟩, hS.F ht⟩) hS.2.2 d_PAT_append_23
def f_PN_put (pat_length : Int32) (pat_bytes : Nat → Int32) (p1 : Int64) (p3 : Int32) : Option (Bool × Int32 × (Nat → Int32)) :=
  bnd_ (f_PAT_append pat_length pat_bytes p1 p3) (fun x6 => some (x6.1, x6.2.1, x6.2.2))
set_option maxRecDepth 100000 in
set_option maxHeartbeats 4000000 in
theorem c_PN_put (l : Launch) (dC : Nat → ClassId) (dI : Nat → Nat → Nat) (cI : ClassId) (tS : Nat → Nat → Nat) (sz : Nat) (a_pat a_pat_bytes a_pn a_mis a_tre a_grp a_rdr : Nat) (pat_length : Int32) (pat_bytes : Nat → Int32) (p1 : Int64) (p3 : Int32) (R0 : Bool × Int32 × (Nat → Int32)) (hf : f_PN_put pat_length pat_bytes p1 p3 = some R0) : Met l y_PN_put ws_PN_put ({ frames := 1, cells := 0, slots := 0, locals := 24 }) (va_Pc [.ref a_pn, .long p1, .int p3] (preS (dC, dI) classes [(cI, .int)] tS (w_1 cI tS a_pat a_pat_bytes a_pn a_mis a_tre a_grp a_rdr pat_length pat_bytes) sz)) (va_Qi (fun r (_ : Unit) => r = b2i R0.1) (fun _ t => posS (dC, dI) classes [(cI, .int)] (w_1 cI tS a_pat a_pat_bytes a_pn a_mis a_tre a_grp a_rdr R0.2.1 R0.2.2) (va_A (w_1 cI tS a_pat a_pat_bytes a_pn a_mis a_tre a_grp a_rdr pat_length pat_bytes) sz) t) (va_A (w_1 cI tS a_pat a_pat_bytes a_pn a_mis a_tre a_grp a_rdr pat_length pat_bytes) sz)) 0 0 (va_A (w_1 cI tS a_pat a_pat_bytes a_pn a_mis a_tre a_grp a_rdr pat_length pat_bytes) sz) := by
  refine Met.ofW (cc := b_PN_put) (maxL := 4) (ret := (some .boolean)) (by decide) rfl ?_
  intro p e s m args below meth c s₁ B hml hv
  obtain ⟨rfl, hsz, hP, hK, hD0, hst0⟩ := hv
  have hx := B.exec
  have hb := B.bytes
  have hr := B.returns
  have hts0 := atoms_spec (ws := ws_PN_put) B.pre
  have hts : ∀ w ∈ GW, w.before _ s = true := fun w h => hts0 w (List.mem_cons_of_mem _ h)
  have hown : s.vm.findClass R_PN = some m.cls := findClass_of_methodNamed B.named
  have hlocks := B.notSynchronized
  subst hsz
  have hD := hD0.self (sz := s.heap.size)
  generalize hAe : va_A (w_1 cI tS a_pat a_pat_bytes a_pn a_mis a_tre a_grp a_rdr pat_length pat_bytes) s.heap.size = A at hD hst0 ⊢
  have hA : ∀ q : Nat, s.heap.size ≤ q → A q := fun q h => by rw [← hAe]; exact Or.inr h
  have hS : va_S A s.heap s.heap [] := va_S.rf
  have hl := lv_entry ([.ref a_pn, .long p1, .int p3]) (n := 4) (Nat.le_of_ble_eq_true rfl)
  rw [lg_entry_eq]
  generalize (lg_sl ([.ref a_pn, .long p1, .int p3]) ++ List.replicate (4 - (lg_sl ([.ref a_pn, .long p1, .int p3])).length) Slot.unset).toArray = ls at hl ⊢
  have hl : lv_has ls 4 [(0, .ref a_pn), (1, .long p1), (3, .int p3)] := hl
  refine lv_aload_n hx hb d_PN_put_0 rfl (lv_at hl 0 rfl) ?_
  refine va_get (D := (dC, dI)) (ci := 11) (v := .ref a_pat) (C := R_PN) (T := F_PN) (N := N_PN) hx hb hts i_PN hown hK hP 1 rfl rfl 0 (by decide) (hts _ tw_425) (fun _ h9 => h9) rfl d_PN_put_1 ?_
  refine lv_lload_n hx hb d_PN_put_4 rfl (lv_at hl 1 rfl) ?_
  refine lv_iload_n hx hb d_PN_put_5 rfl (lv_at hl 2 rfl) ?_
  obtain ⟨x6, hg, hf⟩ := bnd hf
  have hPc := hP.sub (ws' := (w_0 cI tS a_pat a_pat_bytes pat_length pat_bytes)) [0, 2] rfl
  have hDc := hD.sub (ws' := (w_0 cI tS a_pat a_pat_bytes pat_length pat_bytes)) [0, 2] (by decide) rfl
  have hFc := va_free (wc := (w_0 cI tS a_pat a_pat_bytes pat_length pat_bytes)) hD hS hA [0, 2] rfl
  refine cal_i (va_runV (As := [.long p1, .int p3]) (rest := []) ⟨hx, hb, hml, hown, hts⟩ (c_PAT_append l dC dI cI tS s.heap.size a_pat a_pat_bytes pat_length pat_bytes p1 p3 x6 hg) ⟨callB_of 2 hts (gN tw_448) rfl rfl rfl (hts _ tw_80) (hts _ tw_445) hd_PAT_append ⟨Nat.le_of_ble_eq_true rfl, Nat.le_of_ble_eq_true rfl⟩, hts _ tw_446, hts _ tw_447⟩ (pre_V hK hPc hDc hst0 hS hFc (va_recv hK hPc (ci := 0) (q0 := 0) rfl rfl)) rfl rfl hl.1 rfl (lv_room (Nat.le_of_ble_eq_true rfl)) d_PN_put_6 ⟨Nat.zero_le _, Nat.zero_le _⟩) hP hD hS hA [0, 2] [1] rfl rfl (by decide) (by decide) (fun H locs hP hD hS => ?_)
  have hP := hP.sub (ws' := (w_1 cI tS a_pat a_pat_bytes a_pn a_mis a_tre a_grp a_rdr x6.2.1 x6.2.2)) [1, 0, 2] rfl
  have hD := hD.sub (ws' := (w_1 cI tS a_pat a_pat_bytes a_pn a_mis a_tre a_grp a_rdr x6.2.1 x6.2.2)) [1, 0, 2] (by decide) rfl
  obtain rfl := Option.some.inj hf
  exact W.zret (v := b2i x6.1) hx hb hr (nr_b _) (fun t ht hW => ⟨⟨_, (), rfl, rfl, ⟨by rw [ht]; exact hP, va_K.moved hW.alike hK, hD⟩⟩, hS.F ht⟩) hS.2.2 d_PN_put_9
def f_MIS_clear (mis_number : Int32) (mis_place : Int32) : Option (Int32 × Int32) :=
  some (0, (-1))
set_option maxRecDepth 100000 in
set_option maxHeartbeats 4000000 in
theorem c_MIS_clear (l : Launch) (dC : Nat → ClassId) (dI : Nat → Nat → Nat) (cI : ClassId) (tS : Nat → Nat → Nat) (sz : Nat) (a_mis : Nat) (mis_number : Int32) (mis_place : Int32) (R0 : Int32 × Int32) (hf : f_MIS_clear mis_number mis_place = some R0) : Met l y_MIS_clear ws_MIS_clear ({ frames := 0, cells := 0, slots := 0, locals := 0 }) (va_Pc [.ref a_mis] (preS (dC, dI) classes [(cI, .int)] tS (w_2 cI tS a_mis mis_number mis_place) sz)) (va_Qv (fun _ : Unit => True) (fun _ t => posS (dC, dI) classes [(cI, .int)] (w_2 cI tS a_mis R0.1 R0.2) (va_A (w_2 cI tS a_mis mis_number mis_place) sz) t) (va_A (w_2 cI tS a_mis mis_number mis_place) sz)) 0 0 (va_A (w_2 cI tS a_mis mis_number mis_place) sz) := by
  refine Met.ofW (cc := b_MIS_clear) (maxL := 1) (ret := none) (by decide) rfl ?_
  intro p e s m args below meth c s₁ B hml hv
  obtain ⟨rfl, hsz, hP, hK, hD0, hst0⟩ := hv
  have hx := B.exec
  have hb := B.bytes
  have hr := B.returns
  have hts0 := atoms_spec (ws := ws_MIS_clear) B.pre
  have hts : ∀ w ∈ GW, w.before _ s = true := fun w h => hts0 w (List.mem_cons_of_mem _ h)
  have hown : s.vm.findClass R_MIS = some m.cls := findClass_of_methodNamed B.named
  have hlocks := B.notSynchronized
  subst hsz
  have hD := hD0.self (sz := s.heap.size)
  generalize hAe : va_A (w_2 cI tS a_mis mis_number mis_place) s.heap.size = A at hD hst0 ⊢
  have hA : ∀ q : Nat, s.heap.size ≤ q → A q := fun q h => by rw [← hAe]; exact Or.inr h
  have hS : va_S A s.heap s.heap [] := va_S.rf
  have hl := lv_entry ([.ref a_mis]) (n := 1) (Nat.le_of_ble_eq_true rfl)
  rw [lg_entry_eq]
  generalize (lg_sl ([.ref a_mis]) ++ List.replicate (1 - (lg_sl ([.ref a_mis])).length) Slot.unset).toArray = ls at hl ⊢
  have hl : lv_has ls 1 [(0, .ref a_mis)] := hl
  refine lv_aload_n hx hb d_MIS_clear_0 rfl (lv_at hl 0 rfl) ?_
  refine lv_iconst (v := 0) hx hb d_MIS_clear_1 (by decide) ?_
  refine va_put (D := (dC, dI)) (ci := 1) (v := .int 0) (ty := .int) (C := R_MIS) (T := F_MIS) (N := N_MIS) hx hb hts i_MIS ty_MIS ty_MIS_ok n_MIS hown hK hP hD hS 0 rfl rfl 0 (by decide) (hts _ tw_133) (fun _ h9 => h9) rfl (ty_MIS_ok 0 (by decide)) rfl rfl (Nat.le_of_ble_eq_true rfl) d_MIS_clear_2 (fun H locs hP hD hS => ?_)
  have hP : va_P (dC, dI) classes (w_2 cI tS a_mis 0 mis_place) H := hP
  have hD : va_D A (w_2 cI tS a_mis 0 mis_place) := hD
  refine lv_aload_n hx hb d_MIS_clear_5 rfl (lv_at hl 0 rfl) ?_
  refine lv_iconst (v := (-1)) hx hb d_MIS_clear_6 (by decide) ?_
  refine va_put (D := (dC, dI)) (ci := 1) (v := .int (-1)) (ty := .int) (C := R_MIS) (T := F_MIS) (N := N_MIS) hx hb hts i_MIS ty_MIS ty_MIS_ok n_MIS hown hK hP hD hS 0 rfl rfl 1 (by decide) (hts _ tw_136) (fun _ h9 => h9) rfl (ty_MIS_ok 1 (by decide)) rfl rfl (Nat.le_of_ble_eq_true rfl) d_MIS_clear_7 (fun H locs hP hD hS => ?_)
  have hP : va_P (dC, dI) classes (w_2 cI tS a_mis 0 (-1)) H := hP
  have hD : va_D A (w_2 cI tS a_mis 0 (-1)) := hD
  obtain rfl := Option.some.inj hf
  exact W.vret hx hb hr (fun t ht hW => ⟨⟨(), rfl, trivial, ⟨by rw [ht]; exact hP, va_K.moved hW.alike hK, hD⟩⟩, hS.F ht⟩) hS.2.2 d_MIS_clear_10
def f_TRE_clear (tre_nodes : Int32) (tre_ranges : Int32) (tre_waits : Int32) : Option (Int32 × Int32 × Int32) :=
  some (0, 0, 0)
set_option maxRecDepth 100000 in
set_option maxHeartbeats 4000000 in
theorem c_TRE_clear (l : Launch) (dC : Nat → ClassId) (dI : Nat → Nat → Nat) (cI : ClassId) (tS : Nat → Nat → Nat) (sz : Nat) (a_tre a_tre_kinds a_tre_values a_tre_mosts a_tre_owners a_tre_sizes a_tre_firstRanges a_tre_rangeCounts a_tre_begins a_tre_ends a_tre_waiting : Nat) (tre_nodes : Int32) (tre_ranges : Int32) (tre_waits : Int32) (R0 : Int32 × Int32 × Int32) (hf : f_TRE_clear tre_nodes tre_ranges tre_waits = some R0) : Met l y_TRE_clear ws_TRE_clear ({ frames := 0, cells := 0, slots := 0, locals := 0 }) (va_Pc [.ref a_tre] (preS (dC, dI) classes [(cI, .int)] tS (w_3 cI tS a_tre a_tre_kinds a_tre_values a_tre_mosts a_tre_owners a_tre_sizes a_tre_firstRanges a_tre_rangeCounts a_tre_begins a_tre_ends a_tre_waiting tre_nodes tre_ranges tre_waits) sz)) (va_Qv (fun _ : Unit => True) (fun _ t => posS (dC, dI) classes [(cI, .int)] (w_3 cI tS a_tre a_tre_kinds a_tre_values a_tre_mosts a_tre_owners a_tre_sizes a_tre_firstRanges a_tre_rangeCounts a_tre_begins a_tre_ends a_tre_waiting R0.1 R0.2.1 R0.2.2) (va_A (w_3 cI tS a_tre a_tre_kinds a_tre_values a_tre_mosts a_tre_owners a_tre_sizes a_tre_firstRanges a_tre_rangeCounts a_tre_begins a_tre_ends a_tre_waiting tre_nodes tre_ranges tre_waits) sz) t) (va_A (w_3 cI tS a_tre a_tre_kinds a_tre_values a_tre_mosts a_tre_owners a_tre_sizes a_tre_firstRanges a_tre_rangeCounts a_tre_begins a_tre_ends a_tre_waiting tre_nodes tre_ranges tre_waits) sz)) 0 0 (va_A (w_3 cI tS a_tre a_tre_kinds a_tre_values a_tre_mosts a_tre_owners a_tre_sizes a_tre_firstRanges a_tre_rangeCounts a_tre_begins a_tre_ends a_tre_waiting tre_nodes tre_ranges tre_waits) sz) := by
  refine Met.ofW (cc := b_TRE_clear) (maxL := 1) (ret := none) (by decide) rfl ?_
  intro p e s m args below meth c s₁ B hml hv
  obtain ⟨rfl, hsz, hP, hK, hD0, hst0⟩ := hv
  have hx := B.exec
  have hb := B.bytes
  have hr := B.returns
  have hts0 := atoms_spec (ws := ws_TRE_clear) B.pre
  have hts : ∀ w ∈ GW, w.before _ s = true := fun w h => hts0 w (List.mem_cons_of_mem _ h)
  have hown : s.vm.findClass R_TRE = some m.cls := findClass_of_methodNamed B.named
  have hlocks := B.notSynchronized
  subst hsz
  have hD := hD0.self (sz := s.heap.size)
  generalize hAe : va_A (w_3 cI tS a_tre a_tre_kinds a_tre_values a_tre_mosts a_tre_owners a_tre_sizes a_tre_firstRanges a_tre_rangeCounts a_tre_begins a_tre_ends a_tre_waiting tre_nodes tre_ranges tre_waits) s.heap.size = A at hD hst0 ⊢
  have hA : ∀ q : Nat, s.heap.size ≤ q → A q := fun q h => by rw [← hAe]; exact Or.inr h
  have hS : va_S A s.heap s.heap [] := va_S.rf
  have hl := lv_entry ([.ref a_tre]) (n := 1) (Nat.le_of_ble_eq_true rfl)
  rw [lg_entry_eq]
  generalize (lg_sl ([.ref a_tre]) ++ List.replicate (1 - (lg_sl ([.ref a_tre])).length) Slot.unset).toArray = ls at hl ⊢
  have hl : lv_has ls 1 [(0, .ref a_tre)] := hl
  refine lv_aload_n hx hb d_TRE_clear_0 rfl (lv_at hl 0 rfl) ?_
  refine lv_iconst (v := 0) hx hb d_TRE_clear_1 (by decide) ?_
  refine va_put (D := (dC, dI)) (ci := 3) (v := .int 0) (ty := .int) (C := R_TRE) (T := F_TRE) (N := N_TRE) hx hb hts i_TRE ty_TRE ty_TRE_ok n_TRE hown hK hP hD hS 0 rfl rfl 10 (by decide) (hts _ tw_159) (fun _ h9 => h9) rfl (ty_TRE_ok 10 (by decide)) rfl rfl (Nat.le_of_ble_eq_true rfl) d_TRE_clear_2 (fun H locs hP hD hS => ?_)
  have hP : va_P (dC, dI) classes (w_3 cI tS a_tre a_tre_kinds a_tre_values a_tre_mosts a_tre_owners a_tre_sizes a_tre_firstRanges a_tre_rangeCounts a_tre_begins a_tre_ends a_tre_waiting 0 tre_ranges tre_waits) H := hP
  have hD : va_D A (w_3 cI tS a_tre a_tre_kinds a_tre_values a_tre_mosts a_tre_owners a_tre_sizes a_tre_firstRanges a_tre_rangeCounts a_tre_begins a_tre_ends a_tre_waiting 0 tre_ranges tre_waits) := hD
  refine lv_aload_n hx hb d_TRE_clear_5 rfl (lv_at hl 0 rfl) ?_
  refine lv_iconst (v := 0) hx hb d_TRE_clear_6 (by decide) ?_
  refine va_put (D := (dC, dI)) (ci := 3) (v := .int 0) (ty := .int) (C := R_TRE) (T := F_TRE) (N := N_TRE) hx hb hts i_TRE ty_TRE ty_TRE_ok n_TRE hown hK hP hD hS 0 rfl rfl 11 (by decide) (hts _ tw_161) (fun _ h9 => h9) rfl (ty_TRE_ok 11 (by decide)) rfl rfl (Nat.le_of_ble_eq_true rfl) d_TRE_clear_7 (fun H locs hP hD hS => ?_)
  have hP : va_P (dC, dI) classes (w_3 cI tS a_tre a_tre_kinds a_tre_values a_tre_mosts a_tre_owners a_tre_sizes a_tre_firstRanges a_tre_rangeCounts a_tre_begins a_tre_ends a_tre_waiting 0 0 tre_waits) H := hP
  have hD : va_D A (w_3 cI tS a_tre a_tre_kinds a_tre_values a_tre_mosts a_tre_owners a_tre_sizes a_tre_firstRanges a_tre_rangeCounts a_tre_begins a_tre_ends a_tre_waiting 0 0 tre_waits) := hD
  refine lv_aload_n hx hb d_TRE_clear_10 rfl (lv_at hl 0 rfl) ?_
  refine lv_iconst (v := 0) hx hb d_TRE_clear_11 (by decide) ?_
  refine va_put (D := (dC, dI)) (ci := 3) (v := .int 0) (ty := .int) (C := R_TRE) (T := F_TRE) (N := N_TRE) hx hb hts i_TRE ty_TRE ty_TRE_ok n_TRE hown hK hP hD hS 0 rfl rfl 12 (by decide) (hts _ tw_162) (fun _ h9 => h9) rfl (ty_TRE_ok 12 (by decide)) rfl rfl (Nat.le_of_ble_eq_true rfl) d_TRE_clear_12 (fun H locs hP hD hS => ?_)
  have hP : va_P (dC, dI) classes (w_3 cI tS a_tre a_tre_kinds a_tre_values a_tre_mosts a_tre_owners a_tre_sizes a_tre_firstRanges a_tre_rangeCounts a_tre_begins a_tre_ends a_tre_waiting 0 0 0) H := hP
  have hD : va_D A (w_3 cI tS a_tre a_tre_kinds a_tre_values a_tre_mosts a_tre_owners a_tre_sizes a_tre_firstRanges a_tre_rangeCounts a_tre_begins a_tre_ends a_tre_waiting 0 0 0) := hD
  obtain rfl := Option.some.inj hf
  exact W.vret hx hb hr (fun t ht hW => ⟨⟨(), rfl, trivial, ⟨by rw [ht]; exact hP, va_K.moved hW.alike hK, hD⟩⟩, hS.F ht⟩) hS.2.2 d_TRE_clear_15
def f_GRP_clear (grp_howMany : Int32) : Option Int32 :=
  some 0
set_option maxRecDepth 100000 in
set_option maxHeartbeats 4000000 in
theorem c_GRP_clear (l : Launch) (dC : Nat → ClassId) (dI : Nat → Nat → Nat) (cI : ClassId) (tS : Nat → Nat → Nat) (sz : Nat) (a_grp a_grp_lengths a_grp_letters : Nat) (grp_howMany : Int32) (R0 : Int32) (hf : f_GRP_clear grp_howMany = some R0) : Met l y_GRP_clear ws_GRP_clear ({ frames := 0, cells := 0, slots := 0, locals := 0 }) (va_Pc [.ref a_grp] (preS (dC, dI) classes [(cI, .int)] tS (w_4 cI tS a_grp a_grp_lengths a_grp_letters grp_howMany) sz)) (va_Qv (fun _ : Unit => True) (fun _ t => posS (dC, dI) classes [(cI, .int)] (w_4 cI tS a_grp a_grp_lengths a_grp_letters R0) (va_A (w_4 cI tS a_grp a_grp_lengths a_grp_letters grp_howMany) sz) t) (va_A (w_4 cI tS a_grp a_grp_lengths a_grp_letters grp_howMany) sz)) 0 0 (va_A (w_4 cI tS a_grp a_grp_lengths a_grp_letters grp_howMany) sz) := by
  refine Met.ofW (cc := b_GRP_clear) (maxL := 1) (ret := none) (by decide) rfl ?_
  intro p e s m args below meth c s₁ B hml hv
  obtain ⟨rfl, hsz, hP, hK, hD0, hst0⟩ := hv
  have hx := B.exec
  have hb := B.bytes
  have hr := B.returns
  have hts0 := atoms_spec (ws := ws_GRP_clear) B.pre
  have hts : ∀ w ∈ GW, w.before _ s = true := fun w h => hts0 w (List.mem_cons_of_mem _ h)
  have hown : s.vm.findClass R_GRP = some m.cls := findClass_of_methodNamed B.named
  have hlocks := B.notSynchronized
  subst hsz
  have hD := hD0.self (sz := s.heap.size)
  generalize hAe : va_A (w_4 cI tS a_grp a_grp_lengths a_grp_letters grp_howMany) s.heap.size = A at hD hst0 ⊢
  have hA : ∀ q : Nat, s.heap.size ≤ q → A q := fun q h => by rw [← hAe]; exact Or.inr h
  have hS : va_S A s.heap s.heap [] := va_S.rf
  have hl := lv_entry ([.ref a_grp]) (n := 1) (Nat.le_of_ble_eq_true rfl)
  rw [lg_entry_eq]
  generalize (lg_sl ([.ref a_grp]) ++ List.replicate (1 - (lg_sl ([.ref a_grp])).length) Slot.unset).toArray = ls at hl ⊢
  have hl : lv_has ls 1 [(0, .ref a_grp)] := hl
  refine lv_aload_n hx hb d_GRP_clear_0 rfl (lv_at hl 0 rfl) ?_
  refine lv_iconst (v := 0) hx hb d_GRP_clear_1 (by decide) ?_
  refine va_put (D := (dC, dI)) (ci := 4) (v := .int 0) (ty := .int) (C := R_GRP) (T := F_GRP) (N := N_GRP) hx hb hts i_GRP ty_GRP ty_GRP_ok n_GRP hown hK hP hD hS 0 rfl rfl 2 (by decide) (hts _ tw_198) (fun _ h9 => h9) rfl (ty_GRP_ok 2 (by decide)) rfl rfl (Nat.le_of_ble_eq_true rfl) d_GRP_clear_2 (fun H locs hP hD hS => ?_)
  have hP : va_P (dC, dI) classes (w_4 cI tS a_grp a_grp_lengths a_grp_letters 0) H := hP
  have hD : va_D A (w_4 cI tS a_grp a_grp_lengths a_grp_letters 0) := hD
  obtain rfl := Option.some.inj hf
  exact W.vret hx hb hr (fun t ht hW => ⟨⟨(), rfl, trivial, ⟨by rw [ht]; exact hP, va_K.moved hW.alike hK, hD⟩⟩, hS.F ht⟩) hS.2.2 d_GRP_clear_5
def f_OPN_begin (opn_depth : Int32) (opn_rows : Nat → Int32) (opn_parts : Nat → Int32) : Option (Int32 × (Nat → Int32) × (Nat → Int32)) :=
  grd (inb 0 31) (grd (inb 0 31) (some (0, upd opn_rows (0 : Int32).toNatClampNeg 0, upd opn_parts (0 : Int32).toNatClampNeg 0)))
set_option maxRecDepth 100000 in
set_option maxHeartbeats 4000000 in
theorem c_OPN_begin (l : Launch) (dC : Nat → ClassId) (dI : Nat → Nat → Nat) (cI : ClassId) (tS : Nat → Nat → Nat) (sz : Nat) (a_opn a_opn_places a_opn_numbers a_opn_flagsAround a_opn_rows a_opn_parts : Nat) (opn_depth : Int32) (opn_rows : Nat → Int32) (opn_parts : Nat → Int32) (R0 : Int32 × (Nat → Int32) × (Nat → Int32)) (hf : f_OPN_begin opn_depth opn_rows opn_parts = some R0) : Met l y_OPN_begin ws_OPN_begin ({ frames := 0, cells := 0, slots := 0, locals := 0 }) (va_Pc [.ref a_opn] (preS (dC, dI) classes [(cI, .int)] tS (w_5 cI tS a_opn a_opn_places a_opn_numbers a_opn_flagsAround a_opn_rows a_opn_parts opn_depth opn_rows opn_parts) sz)) (va_Qv (fun _ : Unit => True) (fun _ t => posS (dC, dI) classes [(cI, .int)] (w_5 cI tS a_opn a_opn_places a_opn_numbers a_opn_flagsAround a_opn_rows a_opn_parts R0.1 R0.2.1 R0.2.2) (va_A (w_5 cI tS a_opn a_opn_places a_opn_numbers a_opn_flagsAround a_opn_rows a_opn_parts opn_depth opn_rows opn_parts) sz) t) (va_A (w_5 cI tS a_opn a_opn_places a_opn_numbers a_opn_flagsAround a_opn_rows a_opn_parts opn_depth opn_rows opn_parts) sz)) 0 0 (va_A (w_5 cI tS a_opn a_opn_places a_opn_numbers a_opn_flagsAround a_opn_rows a_opn_parts opn_depth opn_rows opn_parts) sz) := by
  refine Met.ofW (cc := b_OPN_begin) (maxL := 1) (ret := none) (by decide) rfl ?_
  intro p e s m args below meth c s₁ B hml hv
  obtain ⟨rfl, hsz, hP, hK, hD0, hst0⟩ := hv
  have hx := B.exec
  have hb := B.bytes
  have hr := B.returns
  have hts0 := atoms_spec (ws := ws_OPN_begin) B.pre
  have hts : ∀ w ∈ GW, w.before _ s = true := fun w h => hts0 w (List.mem_cons_of_mem _ h)
  have hown : s.vm.findClass R_OPN = some m.cls := findClass_of_methodNamed B.named
  have hlocks := B.notSynchronized
  subst hsz
  have hD := hD0.self (sz := s.heap.size)
  generalize hAe : va_A (w_5 cI tS a_opn a_opn_places a_opn_numbers a_opn_flagsAround a_opn_rows a_opn_parts opn_depth opn_rows opn_parts) s.heap.size = A at hD hst0 ⊢
  have hA : ∀ q : Nat, s.heap.size ≤ q → A q := fun q h => by rw [← hAe]; exact Or.inr h
  have hS : va_S A s.heap s.heap [] := va_S.rf
  have hl := lv_entry ([.ref a_opn]) (n := 1) (Nat.le_of_ble_eq_true rfl)
  rw [lg_entry_eq]
  generalize (lg_sl ([.ref a_opn]) ++ List.replicate (1 - (lg_sl ([.ref a_opn])).length) Slot.unset).toArray = ls at hl ⊢
  have hl : lv_has ls 1 [(0, .ref a_opn)] := hl
  refine lv_aload_n hx hb d_OPN_begin_0 rfl (lv_at hl 0 rfl) ?_
  refine lv_iconst (v := 0) hx hb d_OPN_begin_1 (by decide) ?_
  refine va_put (D := (dC, dI)) (ci := 5) (v := .int 0) (ty := .int) (C := R_OPN) (T := F_OPN) (N := N_OPN) hx hb hts i_OPN ty_OPN ty_OPN_ok n_OPN hown hK hP hD hS 0 rfl rfl 5 (by decide) (hts _ tw_229) (fun _ h9 => h9) rfl (ty_OPN_ok 5 (by decide)) rfl rfl (Nat.le_of_ble_eq_true rfl) d_OPN_begin_2 (fun H locs hP hD hS => ?_)
  have hP : va_P (dC, dI) classes (w_5 cI tS a_opn a_opn_places a_opn_numbers a_opn_flagsAround a_opn_rows a_opn_parts 0 opn_rows opn_parts) H := hP
  have hD : va_D A (w_5 cI tS a_opn a_opn_places a_opn_numbers a_opn_flagsAround a_opn_rows a_opn_parts 0 opn_rows opn_parts) := hD
  refine lv_aload_n hx hb d_OPN_begin_5 rfl (lv_at hl 0 rfl) ?_
  refine va_get (D := (dC, dI)) (ci := 5) (v := .ref a_opn_rows) (C := R_OPN) (T := F_OPN) (N := N_OPN) hx hb hts i_OPN hown hK hP 0 rfl rfl 3 (by decide) (hts _ tw_225) (fun _ h9 => h9) rfl d_OPN_begin_6 ?_
  refine lv_iconst (v := 0) hx hb d_OPN_begin_9 (by decide) ?_
  refine lv_iconst (v := 0) hx hb d_OPN_begin_10 (by decide) ?_
  obtain ⟨hin, hf⟩ := grd_in hf
  refine va_iast hx hb hK hP hD hS 1 0 rfl rfl hin d_OPN_begin_11 (fun H locs hP hD hS => ?_)
  have hP : va_P (dC, dI) classes (w_5 cI tS a_opn a_opn_places a_opn_numbers a_opn_flagsAround a_opn_rows a_opn_parts 0 (upd opn_rows (0 : Int32).toNatClampNeg 0) opn_parts) H := hP
  have hD : va_D A (w_5 cI tS a_opn a_opn_places a_opn_numbers a_opn_flagsAround a_opn_rows a_opn_parts 0 (upd opn_rows (0 : Int32).toNatClampNeg 0) opn_parts) := hD
  refine lv_aload_n hx hb d_OPN_begin_12 rfl (lv_at hl 0 rfl) ?_
  refine va_get (D := (dC, dI)) (ci := 5) (v := .ref a_opn_parts) (C := R_OPN) (T := F_OPN) (N := N_OPN) hx hb hts i_OPN hown hK hP 0 rfl rfl 4 (by decide) (hts _ tw_227) (fun _ h9 => h9) rfl d_OPN_begin_13 ?_
  refine lv_iconst (v := 0) hx hb d_OPN_begin_16 (by decide) ?_
  refine lv_iconst (v := 0) hx hb d_OPN_begin_17 (by decide) ?_
  obtain ⟨hin, hf⟩ := grd_in hf
  refine va_iast hx hb hK hP hD hS 2 0 rfl rfl hin d_OPN_begin_18 (fun H locs hP hD hS => ?_)
  have hP : va_P (dC, dI) classes (w_5 cI tS a_opn a_opn_places a_opn_numbers a_opn_flagsAround a_opn_rows a_opn_parts 0 (upd opn_rows (0 : Int32).toNatClampNeg 0) (upd opn_parts (0 : Int32).toNatClampNeg 0)) H := hP
  have hD : va_D A (w_5 cI tS a_opn a_opn_places a_opn_numbers a_opn_flagsAround a_opn_rows a_opn_parts 0 (upd opn_rows (0 : Int32).toNatClampNeg 0) (upd opn_parts (0 : Int32).toNatClampNeg 0)) := hD
  obtain rfl := Option.some.inj hf
  exact W.vret hx hb hr (fun t ht hW => ⟨⟨(), rfl, trivial, ⟨by rw [ht]; exact hP, va_K.moved hW.alike hK, hD⟩⟩, hS.F ht⟩) hS.2.2 d_OPN_begin_19
def f_RDR_begin (mis_number : Int32) (mis_place : Int32) (tre_nodes : Int32) (tre_ranges : Int32) (tre_waits : Int32) (grp_howMany : Int32) (opn_depth : Int32) (rdr_place : Int32) (rdr_flags : Int32) (rdr_repeatable : Bool) (opn_rows : Nat → Int32) (opn_parts : Nat → Int32) (p1 : Int32) : Option (Int32 × Int32 × Int32 × Int32 × Int32 × Int32 × Int32 × Int32 × Int32 × Bool × (Nat → Int32) × (Nat → Int32)) :=
  bnd_ (f_MIS_clear mis_number mis_place) (fun x4 => bnd_ (f_TRE_clear tre_nodes tre_ranges tre_waits) (fun x11 => bnd_ (f_GRP_clear grp_howMany) (fun x18 => bnd_ (f_OPN_begin opn_depth opn_rows opn_parts) (fun x25 => some (x4.1, x4.2, x11.1, x11.2.1, x11.2.2, x18, x25.1, 0, p1, false, x25.2.1, x25.2.2)))))
set_option maxRecDepth 100000 in
set_option maxHeartbeats 4000000 in
theorem c_RDR_begin (l : Launch) (dC : Nat → ClassId) (dI : Nat → Nat → Nat) (cI : ClassId) (tS : Nat → Nat → Nat) (sz : Nat) (a_mis a_tre a_tre_kinds a_tre_values a_tre_mosts a_tre_owners a_tre_sizes a_tre_firstRanges a_tre_rangeCounts a_tre_begins a_tre_ends a_tre_waiting a_grp a_grp_lengths a_grp_letters a_opn a_opn_places a_opn_numbers a_opn_flagsAround a_opn_rows a_opn_parts a_rdr a_pat a_set a_esc a_cls a_opg a_rep : Nat) (mis_number : Int32) (mis_place : Int32) (tre_nodes : Int32) (tre_ranges : Int32) (tre_waits : Int32) (grp_howMany : Int32) (opn_depth : Int32) (rdr_place : Int32) (rdr_flags : Int32) (rdr_repeatable : Bool) (opn_rows : Nat → Int32) (opn_parts : Nat → Int32) (p1 : Int32) (R0 : Int32 × Int32 × Int32 × Int32 × Int32 × Int32 × Int32 × Int32 × Int32 × Bool × (Nat → Int32) × (Nat → Int32)) (hf : f_RDR_begin mis_number mis_place tre_nodes tre_ranges tre_waits grp_howMany opn_depth rdr_place rdr_flags rdr_repeatable opn_rows opn_parts p1 = some R0) : Met l y_RDR_begin ws_RDR_begin ({ frames := 1, cells := 0, slots := 0, locals := 20 }) (va_Pc [.ref a_rdr, .int p1] (preS (dC, dI) classes [(cI, .int)] tS (w_6 cI tS a_mis a_tre a_tre_kinds a_tre_values a_tre_mosts a_tre_owners a_tre_sizes a_tre_firstRanges a_tre_rangeCounts a_tre_begins a_tre_ends a_tre_waiting a_grp a_grp_lengths a_grp_letters a_opn a_opn_places a_opn_numbers a_opn_flagsAround a_opn_rows a_opn_parts a_rdr a_pat a_set a_esc a_cls a_opg a_rep mis_number mis_place tre_nodes tre_ranges tre_waits grp_howMany opn_depth rdr_place rdr_flags rdr_repeatable opn_rows opn_parts) sz)) (va_Qv (fun _ : Unit => True) (fun _ t => posS (dC, dI) classes [(cI, .int)] (w_6 cI tS a_mis a_tre a_tre_kinds a_tre_values a_tre_mosts a_tre_owners a_tre_sizes a_tre_firstRanges a_tre_rangeCounts a_tre_begins a_tre_ends a_tre_waiting a_grp a_grp_lengths a_grp_letters a_opn a_opn_places a_opn_numbers a_opn_flagsAround a_opn_rows a_opn_parts a_rdr a_pat a_set a_esc a_cls a_opg a_rep R0.1 R0.2.1 R0.2.2.1 R0.2.2.2.1 R0.2.2.2.2.1 R0.2.2.2.2.2.1 R0.2.2.2.2.2.2.1 R0.2.2.2.2.2.2.2.1 R0.2.2.2.2.2.2.2.2.1 R0.2.2.2.2.2.2.2.2.2.1 R0.2.2.2.2.2.2.2.2.2.2.1 R0.2.2.2.2.2.2.2.2.2.2.2) (va_A (w_6 cI tS a_mis a_tre a_tre_kinds a_tre_values a_tre_mosts a_tre_owners a_tre_sizes a_tre_firstRanges a_tre_rangeCounts a_tre_begins a_tre_ends a_tre_waiting a_grp a_grp_lengths a_grp_letters a_opn a_opn_places a_opn_numbers a_opn_flagsAround a_opn_rows a_opn_parts a_rdr a_pat a_set a_esc a_cls a_opg a_rep mis_number mis_place tre_nodes tre_ranges tre_waits grp_howMany opn_depth rdr_place rdr_flags rdr_repeatable opn_rows opn_parts) sz) t) (va_A (w_6 cI tS a_mis a_tre a_tre_kinds a_tre_values a_tre_mosts a_tre_owners a_tre_sizes a_tre_firstRanges a_tre_rangeCounts a_tre_begins a_tre_ends a_tre_waiting a_grp a_grp_lengths a_grp_letters a_opn a_opn_places a_opn_numbers a_opn_flagsAround a_opn_rows a_opn_parts a_rdr a_pat a_set a_esc a_cls a_opg a_rep mis_number mis_place tre_nodes tre_ranges tre_waits grp_howMany opn_depth rdr_place rdr_flags rdr_repeatable opn_rows opn_parts) sz)) 0 0 (va_A (w_6 cI tS a_mis a_tre a_tre_kinds a_tre_values a_tre_mosts a_tre_owners a_tre_sizes a_tre_firstRanges a_tre_rangeCounts a_tre_begins a_tre_ends a_tre_waiting a_grp a_grp_lengths a_grp_letters a_opn a_opn_places a_opn_numbers a_opn_flagsAround a_opn_rows a_opn_parts a_rdr a_pat a_set a_esc a_cls a_opg a_rep mis_number mis_place tre_nodes tre_ranges tre_waits grp_howMany opn_depth rdr_place rdr_flags rdr_repeatable opn_rows opn_parts) sz) := by
  refine Met.ofW (cc := b_RDR_begin) (maxL := 2) (ret := none) (by decide) rfl ?_
  intro p e s m args below meth c s₁ B hml hv
  obtain ⟨rfl, hsz, hP, hK, hD0, hst0⟩ := hv
  have hx := B.exec
  have hb := B.bytes
  have hr := B.returns
  have hts0 := atoms_spec (ws := ws_RDR_begin) B.pre
  have hts : ∀ w ∈ GW, w.before _ s = true := fun w h => hts0 w (List.mem_cons_of_mem _ h)
  have hown : s.vm.findClass R_RDR = some m.cls := findClass_of_methodNamed B.named
  have hlocks := B.notSynchronized
  subst hsz
  have hD := hD0.self (sz := s.heap.size)
  generalize hAe : va_A (w_6 cI tS a_mis a_tre a_tre_kinds a_tre_values a_tre_mosts a_tre_owners a_tre_sizes a_tre_firstRanges a_tre_rangeCounts a_tre_begins a_tre_ends a_tre_waiting a_grp a_grp_lengths a_grp_letters a_opn a_opn_places a_opn_numbers a_opn_flagsAround a_opn_rows a_opn_parts a_rdr a_pat a_set a_esc a_cls a_opg a_rep mis_number mis_place tre_nodes tre_ranges tre_waits grp_howMany opn_depth rdr_place rdr_flags rdr_repeatable opn_rows opn_parts) s.heap.size = A at hD hst0 ⊢
  have hA : ∀ q : Nat, s.heap.size ≤ q → A q := fun q h => by rw [← hAe]; exact Or.inr h
  have hS : va_S A s.heap s.heap [] := va_S.rf
  have hl := lv_entry ([.ref a_rdr, .int p1]) (n := 2) (Nat.le_of_ble_eq_true rfl)
  rw [lg_entry_eq]
  generalize (lg_sl ([.ref a_rdr, .int p1]) ++ List.replicate (2 - (lg_sl ([.ref a_rdr, .int p1])).length) Slot.unset).toArray = ls at hl ⊢
  have hl : lv_has ls 2 [(0, .ref a_rdr), (1, .int p1)] := hl
  refine lv_aload_n hx hb d_RDR_begin_0 rfl (lv_at hl 0 rfl) ?_
  refine va_get (D := (dC, dI)) (ci := 10) (v := .ref a_mis) (C := R_RDR) (T := F_RDR) (N := N_RDR) hx hb hts i_RDR hown hK hP 4 rfl rfl 1 (by decide) (hts _ tw_386) (fun _ h9 => h9) rfl d_RDR_begin_1 ?_
  obtain ⟨x4, hg, hf⟩ := bnd hf
  have hPc := hP.sub (ws' := (w_2 cI tS a_mis mis_number mis_place)) [0] rfl
  have hDc := hD.sub (ws' := (w_2 cI tS a_mis mis_number mis_place)) [0] (by decide) rfl
  have hFc := va_free (wc := (w_2 cI tS a_mis mis_number mis_place)) hD hS hA [0] rfl
  refine cal_v (va_runV (As := []) (rest := []) ⟨hx, hb, hml, hown, hts⟩ (c_MIS_clear l dC dI cI tS s.heap.size a_mis mis_number mis_place x4 hg) ⟨callB_of 0 hts (gN tw_562) rfl rfl rfl (hts _ tw_81) (hts _ tw_559) hd_MIS_clear ⟨Nat.le_of_ble_eq_true rfl, Nat.le_of_ble_eq_true rfl⟩, hts _ tw_560, hts _ tw_561⟩ (pre_V hK hPc hDc hst0 hS hFc (va_recv hK hPc (ci := 1) (q0 := 0) rfl rfl)) rfl rfl hl.1 rfl (lv_room (Nat.le_of_ble_eq_true rfl)) d_RDR_begin_4 ⟨Nat.zero_le _, Nat.zero_le _⟩) hP hD hS hA [0] [1, 2, 3, 4, 5, 6] rfl rfl (by decide) (by decide) (fun H locs hP hD hS => ?_)
  have hP := hP.sub (ws' := (w_6 cI tS a_mis a_tre a_tre_kinds a_tre_values a_tre_mosts a_tre_owners a_tre_sizes a_tre_firstRanges a_tre_rangeCounts a_tre_begins a_tre_ends a_tre_waiting a_grp a_grp_lengths a_grp_letters a_opn a_opn_places a_opn_numbers a_opn_flagsAround a_opn_rows a_opn_parts a_rdr a_pat a_set a_esc a_cls a_opg a_rep x4.1 x4.2 tre_nodes tre_ranges tre_waits grp_howMany opn_depth rdr_place rdr_flags rdr_repeatable opn_rows opn_parts)) [6, 0, 1, 2, 3, 4, 5] rfl
  have hD := hD.sub (ws' := (w_6 cI tS a_mis a_tre a_tre_kinds a_tre_values a_tre_mosts a_tre_owners a_tre_sizes a_tre_firstRanges a_tre_rangeCounts a_tre_begins a_tre_ends a_tre_waiting a_grp a_grp_lengths a_grp_letters a_opn a_opn_places a_opn_numbers a_opn_flagsAround a_opn_rows a_opn_parts a_rdr a_pat a_set a_esc a_cls a_opg a_rep x4.1 x4.2 tre_nodes tre_ranges tre_waits grp_howMany opn_depth rdr_place rdr_flags rdr_repeatable opn_rows opn_parts)) [6, 0, 1, 2, 3, 4, 5] (by decide) rfl
  refine lv_aload_n hx hb d_RDR_begin_7 rfl (lv_at hl 0 rfl) ?_
  refine va_get (D := (dC, dI)) (ci := 10) (v := .ref a_tre) (C := R_RDR) (T := F_RDR) (N := N_RDR) hx hb hts i_RDR hown hK hP 4 rfl rfl 2 (by decide) (hts _ tw_387) (fun _ h9 => h9) rfl d_RDR_begin_8 ?_
  obtain ⟨x11, hg, hf⟩ := bnd hf
  have hPc := hP.sub (ws' := (w_3 cI tS a_tre a_tre_kinds a_tre_values a_tre_mosts a_tre_owners a_tre_sizes a_tre_firstRanges a_tre_rangeCounts a_tre_begins a_tre_ends a_tre_waiting tre_nodes tre_ranges tre_waits)) [1] rfl
  have hDc := hD.sub (ws' := (w_3 cI tS a_tre a_tre_kinds a_tre_values a_tre_mosts a_tre_owners a_tre_sizes a_tre_firstRanges a_tre_rangeCounts a_tre_begins a_tre_ends a_tre_waiting tre_nodes tre_ranges tre_waits)) [1] (by decide) rfl
  have hFc := va_free (wc := (w_3 cI tS a_tre a_tre_kinds a_tre_values a_tre_mosts a_tre_owners a_tre_sizes a_tre_firstRanges a_tre_rangeCounts a_tre_begins a_tre_ends a_tre_waiting tre_nodes tre_ranges tre_waits)) hD hS hA [1] rfl
  refine cal_v (va_runV (As := []) (rest := []) ⟨hx, hb, hml, hown, hts⟩ (c_TRE_clear l dC dI cI tS H.size a_tre a_tre_kinds a_tre_values a_tre_mosts a_tre_owners a_tre_sizes a_tre_firstRanges a_tre_rangeCounts a_tre_begins a_tre_ends a_tre_waiting tre_nodes tre_ranges tre_waits x11 hg) ⟨callB_of 0 hts (gN tw_566) rfl rfl rfl (hts _ tw_82) (hts _ tw_563) hd_TRE_clear ⟨Nat.le_of_ble_eq_true rfl, Nat.le_of_ble_eq_true rfl⟩, hts _ tw_564, hts _ tw_565⟩ (pre_V hK hPc hDc hst0 hS hFc (va_recv hK hPc (ci := 3) (q0 := 0) rfl rfl)) rfl rfl hl.1 rfl (lv_room (Nat.le_of_ble_eq_true rfl)) d_RDR_begin_11 ⟨Nat.zero_le _, Nat.zero_le _⟩) hP hD hS hA [1] [0, 2, 3, 4, 5, 6] rfl rfl (by decide) (by decide) (fun H locs hP hD hS => ?_)
  have hP := hP.sub (ws' := (w_6 cI tS a_mis a_tre a_tre_kinds a_tre_values a_tre_mosts a_tre_owners a_tre_sizes a_tre_firstRanges a_tre_rangeCounts a_tre_begins a_tre_ends a_tre_waiting a_grp a_grp_lengths a_grp_letters a_opn a_opn_places a_opn_numbers a_opn_flagsAround a_opn_rows a_opn_parts a_rdr a_pat a_set a_esc a_cls a_opg a_rep x4.1 x4.2 x11.1 x11.2.1 x11.2.2 grp_howMany opn_depth rdr_place rdr_flags rdr_repeatable opn_rows opn_parts)) [0, 6, 1, 2, 3, 4, 5] rfl
  have hD := hD.sub (ws' := (w_6 cI tS a_mis a_tre a_tre_kinds a_tre_values a_tre_mosts a_tre_owners a_tre_sizes a_tre_firstRanges a_tre_rangeCounts a_tre_begins a_tre_ends a_tre_waiting a_grp a_grp_lengths a_grp_letters a_opn a_opn_places a_opn_numbers a_opn_flagsAround a_opn_rows a_opn_parts a_rdr a_pat a_set a_esc a_cls a_opg a_rep x4.1 x4.2 x11.1 x11.2.1 x11.2.2 grp_howMany opn_depth rdr_place rdr_flags rdr_repeatable opn_rows opn_parts)) [0, 6, 1, 2, 3, 4, 5] (by decide) rfl
  refine lv_aload_n hx hb d_RDR_begin_14 rfl (lv_at hl 0 rfl) ?_
  refine va_get (D := (dC, dI)) (ci := 10) (v := .ref a_grp) (C := R_RDR) (T := F_RDR) (N := N_RDR) hx hb hts i_RDR hown hK hP 4 rfl rfl 3 (by decide) (hts _ tw_388) (fun _ h9 => h9) rfl d_RDR_begin_15 ?_
  obtain ⟨x18, hg, hf⟩ := bnd hf
  have hPc := hP.sub (ws' := (w_4 cI tS a_grp a_grp_lengths a_grp_letters grp_howMany)) [2] rfl
  have hDc := hD.sub (ws' := (w_4 cI tS a_grp a_grp_lengths a_grp_letters grp_howMany)) [2] (by decide) rfl
  have hFc := va_free (wc := (w_4 cI tS a_grp a_grp_lengths a_grp_letters grp_howMany)) hD hS hA [2] rfl
  refine cal_v (va_runV (As := []) (rest := []) ⟨hx, hb, hml, hown, hts⟩ (c_GRP_clear l dC dI cI tS H.size a_grp a_grp_lengths a_grp_letters grp_howMany x18 hg) ⟨callB_of 0 hts (gN tw_570) rfl rfl rfl (hts _ tw_83) (hts _ tw_567) hd_GRP_clear ⟨Nat.le_of_ble_eq_true rfl, Nat.le_of_ble_eq_true rfl⟩, hts _ tw_568, hts _ tw_569⟩ (pre_V hK hPc hDc hst0 hS hFc (va_recv hK hPc (ci := 4) (q0 := 0) rfl rfl)) rfl rfl hl.1 rfl (lv_room (Nat.le_of_ble_eq_true rfl)) d_RDR_begin_18 ⟨Nat.zero_le _, Nat.zero_le _⟩) hP hD hS hA [2] [0, 1, 3, 4, 5, 6] rfl rfl (by decide) (by decide) (fun H locs hP hD hS => ?_)
  have hP := hP.sub (ws' := (w_6 cI tS a_mis a_tre a_tre_kinds a_tre_values a_tre_mosts a_tre_owners a_tre_sizes a_tre_firstRanges a_tre_rangeCounts a_tre_begins a_tre_ends a_tre_waiting a_grp a_grp_lengths a_grp_letters a_opn a_opn_places a_opn_numbers a_opn_flagsAround a_opn_rows a_opn_parts a_rdr a_pat a_set a_esc a_cls a_opg a_rep x4.1 x4.2 x11.1 x11.2.1 x11.2.2 x18 opn_depth rdr_place rdr_flags rdr_repeatable opn_rows opn_parts)) [0, 1, 6, 2, 3, 4, 5] rfl
  have hD := hD.sub (ws' := (w_6 cI tS a_mis a_tre a_tre_kinds a_tre_values a_tre_mosts a_tre_owners a_tre_sizes a_tre_firstRanges a_tre_rangeCounts a_tre_begins a_tre_ends a_tre_waiting a_grp a_grp_lengths a_grp_letters a_opn a_opn_places a_opn_numbers a_opn_flagsAround a_opn_rows a_opn_parts a_rdr a_pat a_set a_esc a_cls a_opg a_rep x4.1 x4.2 x11.1 x11.2.1 x11.2.2 x18 opn_depth rdr_place rdr_flags rdr_repeatable opn_rows opn_parts)) [0, 1, 6, 2, 3, 4, 5] (by decide) rfl
  refine lv_aload_n hx hb d_RDR_begin_21 rfl (lv_at hl 0 rfl) ?_
  refine va_get (D := (dC, dI)) (ci := 10) (v := .ref a_opn) (C := R_RDR) (T := F_RDR) (N := N_RDR) hx hb hts i_RDR hown hK hP 4 rfl rfl 4 (by decide) (hts _ tw_389) (fun _ h9 => h9) rfl d_RDR_begin_22 ?_
  obtain ⟨x25, hg, hf⟩ := bnd hf
  have hPc := hP.sub (ws' := (w_5 cI tS a_opn a_opn_places a_opn_numbers a_opn_flagsAround a_opn_rows a_opn_parts opn_depth opn_rows opn_parts)) [3, 5, 6] rfl
  have hDc := hD.sub (ws' := (w_5 cI tS a_opn a_opn_places a_opn_numbers a_opn_flagsAround a_opn_rows a_opn_parts opn_depth opn_rows opn_parts)) [3, 5, 6] (by decide) rfl
  have hFc := va_free (wc := (w_5 cI tS a_opn a_opn_places a_opn_numbers a_opn_flagsAround a_opn_rows a_opn_parts opn_depth opn_rows opn_parts)) hD hS hA [3, 5, 6] rfl
  refine cal_v (va_runV (As := []) (rest := []) ⟨hx, hb, hml, hown, hts⟩ (c_OPN_begin l dC dI cI tS H.size a_opn a_opn_places a_opn_numbers a_opn_flagsAround a_opn_rows a_opn_parts opn_depth opn_rows opn_parts x25 hg) ⟨callB_of 0 hts (gN tw_574) rfl rfl rfl (hts _ tw_85) (hts _ tw_571) hd_OPN_begin ⟨Nat.le_of_ble_eq_true rfl, Nat.le_of_ble_eq_true rfl⟩, hts _ tw_572, hts _ tw_573⟩ (pre_V hK hPc hDc hst0 hS hFc (va_recv hK hPc (ci := 5) (q0 := 0) rfl rfl)) rfl rfl hl.1 rfl (lv_room (Nat.le_of_ble_eq_true rfl)) d_RDR_begin_25 ⟨Nat.zero_le _, Nat.zero_le _⟩) hP hD hS hA [3, 5, 6] [0, 1, 2, 4] rfl rfl (by decide) (by decide) (fun H locs hP hD hS => ?_)
  have hP := hP.sub (ws' := (w_6 cI tS a_mis a_tre a_tre_kinds a_tre_values a_tre_mosts a_tre_owners a_tre_sizes a_tre_firstRanges a_tre_rangeCounts a_tre_begins a_tre_ends a_tre_waiting a_grp a_grp_lengths a_grp_letters a_opn a_opn_places a_opn_numbers a_opn_flagsAround a_opn_rows a_opn_parts a_rdr a_pat a_set a_esc a_cls a_opg a_rep x4.1 x4.2 x11.1 x11.2.1 x11.2.2 x18 x25.1 rdr_place rdr_flags rdr_repeatable x25.2.1 x25.2.2)) [0, 1, 2, 4, 3, 5, 6] rfl
  have hD := hD.sub (ws' := (w_6 cI tS a_mis a_tre a_tre_kinds a_tre_values a_tre_mosts a_tre_owners a_tre_sizes a_tre_firstRanges a_tre_rangeCounts a_tre_begins a_tre_ends a_tre_waiting a_grp a_grp_lengths a_grp_letters a_opn a_opn_places a_opn_numbers a_opn_flagsAround a_opn_rows a_opn_parts a_rdr a_pat a_set a_esc a_cls a_opg a_rep x4.1 x4.2 x11.1 x11.2.1 x11.2.2 x18 x25.1 rdr_place rdr_flags rdr_repeatable x25.2.1 x25.2.2)) [0, 1, 2, 4, 3, 5, 6] (by decide) rfl
  refine lv_aload_n hx hb d_RDR_begin_28 rfl (lv_at hl 0 rfl) ?_
  refine lv_iconst (v := 0) hx hb d_RDR_begin_29 (by decide) ?_
  refine va_put (D := (dC, dI)) (ci := 10) (v := .int 0) (ty := .int) (C := R_RDR) (T := F_RDR) (N := N_RDR) hx hb hts i_RDR ty_RDR ty_RDR_ok n_RDR hown hK hP hD hS 4 rfl rfl 10 (by decide) (hts _ tw_395) (fun _ h9 => h9) rfl (ty_RDR_ok 10 (by decide)) rfl rfl (Nat.le_of_ble_eq_true rfl) d_RDR_begin_30 (fun H locs hP hD hS => ?_)
  have hP : va_P (dC, dI) classes (w_6 cI tS a_mis a_tre a_tre_kinds a_tre_values a_tre_mosts a_tre_owners a_tre_sizes a_tre_firstRanges a_tre_rangeCounts a_tre_begins a_tre_ends a_tre_waiting a_grp a_grp_lengths a_grp_letters a_opn a_opn_places a_opn_numbers a_opn_flagsAround a_opn_rows a_opn_parts a_rdr a_pat a_set a_esc a_cls a_opg a_rep x4.1 x4.2 x11.1 x11.2.1 x11.2.2 x18 x25.1 0 rdr_flags rdr_repeatable x25.2.1 x25.2.2) H := hP
  have hD : va_D A (w_6 cI tS a_mis a_tre a_tre_kinds a_tre_values a_tre_mosts a_tre_owners a_tre_sizes a_tre_firstRanges a_tre_rangeCounts a_tre_begins a_tre_ends a_tre_waiting a_grp a_grp_lengths a_grp_letters a_opn a_opn_places a_opn_numbers a_opn_flagsAround a_opn_rows a_opn_parts a_rdr a_pat a_set a_esc a_cls a_opg a_rep x4.1 x4.2 x11.1 x11.2.1 x11.2.2 x18 x25.1 0 rdr_flags rdr_repeatable x25.2.1 x25.2.2) := hD
  refine lv_aload_n hx hb d_RDR_begin_33 rfl (lv_at hl 0 rfl) ?_
  refine lv_iload_n hx hb d_RDR_begin_34 rfl (lv_at hl 1 rfl) ?_
  refine va_put (D := (dC, dI)) (ci := 10) (v := .int p1) (ty := .int) (C := R_RDR) (T := F_RDR) (N := N_RDR) hx hb hts i_RDR ty_RDR ty_RDR_ok n_RDR hown hK hP hD hS 4 rfl rfl 11 (by decide) (hts _ tw_396) (fun _ h9 => h9) rfl (ty_RDR_ok 11 (by decide)) rfl rfl (Nat.le_of_ble_eq_true rfl) d_RDR_begin_35 (fun H locs hP hD hS => ?_)
  have hP : va_P (dC, dI) classes (w_6 cI tS a_mis a_tre a_tre_kinds a_tre_values a_tre_mosts a_tre_owners a_tre_sizes a_tre_firstRanges a_tre_rangeCounts a_tre_begins a_tre_ends a_tre_waiting a_grp a_grp_lengths a_grp_letters a_opn a_opn_places a_opn_numbers a_opn_flagsAround a_opn_rows a_opn_parts a_rdr a_pat a_set a_esc a_cls a_opg a_rep x4.1 x4.2 x11.1 x11.2.1 x11.2.2 x18 x25.1 0 p1 rdr_repeatable x25.2.1 x25.2.2) H := hP
  have hD : va_D A (w_6 cI tS a_mis a_tre a_tre_kinds a_tre_values a_tre_mosts a_tre_owners a_tre_sizes a_tre_firstRanges a_tre_rangeCounts a_tre_begins a_tre_ends a_tre_waiting a_grp a_grp_lengths a_grp_letters a_opn a_opn_places a_opn_numbers a_opn_flagsAround a_opn_rows a_opn_parts a_rdr a_pat a_set a_esc a_cls a_opg a_rep x4.1 x4.2 x11.1 x11.2.1 x11.2.2 x18 x25.1 0 p1 rdr_repeatable x25.2.1 x25.2.2) := hD
  refine lv_aload_n hx hb d_RDR_begin_38 rfl (lv_at hl 0 rfl) ?_
  refine lv_iconst (v := 0) hx hb d_RDR_begin_39 (by decide) ?_
  refine va_put (D := (dC, dI)) (ci := 10) (v := .int (b2i false)) (ty := .boolean) (C := R_RDR) (T := F_RDR) (N := N_RDR) hx hb hts i_RDR ty_RDR ty_RDR_ok n_RDR hown hK hP hD hS 4 rfl rfl 12 (by decide) (hts _ tw_397) (fun _ h9 => h9) rfl (ty_RDR_ok 12 (by decide)) (nr_b _) (ft_b _) (Nat.le_of_ble_eq_true rfl) d_RDR_begin_40 (fun H locs hP hD hS => ?_)
  have hP : va_P (dC, dI) classes (w_6 cI tS a_mis a_tre a_tre_kinds a_tre_values a_tre_mosts a_tre_owners a_tre_sizes a_tre_firstRanges a_tre_rangeCounts a_tre_begins a_tre_ends a_tre_waiting a_grp a_grp_lengths a_grp_letters a_opn a_opn_places a_opn_numbers a_opn_flagsAround a_opn_rows a_opn_parts a_rdr a_pat a_set a_esc a_cls a_opg a_rep x4.1 x4.2 x11.1 x11.2.1 x11.2.2 x18 x25.1 0 p1 false x25.2.1 x25.2.2) H := hP
  have hD : va_D A (w_6 cI tS a_mis a_tre a_tre_kinds a_tre_values a_tre_mosts a_tre_owners a_tre_sizes a_tre_firstRanges a_tre_rangeCounts a_tre_begins a_tre_ends a_tre_waiting a_grp a_grp_lengths a_grp_letters a_opn a_opn_places a_opn_numbers a_opn_flagsAround a_opn_rows a_opn_parts a_rdr a_pat a_set a_esc a_cls a_opg a_rep x4.1 x4.2 x11.1 x11.2.1 x11.2.2 x18 x25.1 0 p1 false x25.2.1 x25.2.2) := hD
  obtain rfl := Option.some.inj hf
  exact W.vret hx hb hr (fun t ht hW => ⟨⟨(), rfl, trivial, ⟨by rw [ht]; exact hP, va_K.moved hW.alike hK, hD⟩⟩, hS.F ht⟩) hS.2.2 d_RDR_begin_43
def f_RDR_hasMore (pat_length : Int32) (mis_number : Int32) (rdr_place : Int32) : Option Bool :=
  if mis_number = 0 then (if pat_length ≤ rdr_place then some false else some true) else some false
set_option maxRecDepth 100000 in
set_option maxHeartbeats 4000000 in
theorem c_RDR_hasMore (l : Launch) (dC : Nat → ClassId) (dI : Nat → Nat → Nat) (cI : ClassId) (tS : Nat → Nat → Nat) (sz : Nat) (a_pat a_pat_bytes a_mis a_rdr a_tre a_grp a_opn a_set a_esc a_cls a_opg a_rep : Nat) (pat_length : Int32) (mis_number : Int32) (mis_place : Int32) (rdr_place : Int32) (rdr_flags : Int32) (rdr_repeatable : Bool) (R0 : Bool) (hf : f_RDR_hasMore pat_length mis_number rdr_place = some R0) : Met l y_RDR_hasMore ws_RDR_hasMore ({ frames := 0, cells := 0, slots := 0, locals := 0 }) (va_Pc [.ref a_rdr] (preS (dC, dI) classes [(cI, .int)] tS (w_7 cI tS a_pat a_pat_bytes a_mis a_rdr a_tre a_grp a_opn a_set a_esc a_cls a_opg a_rep pat_length mis_number mis_place rdr_place rdr_flags rdr_repeatable) sz)) (va_Qi (fun r (_ : Unit) => r = b2i R0) (fun _ t => posS (dC, dI) classes [(cI, .int)] (w_7 cI tS a_pat a_pat_bytes a_mis a_rdr a_tre a_grp a_opn a_set a_esc a_cls a_opg a_rep pat_length mis_number mis_place rdr_place rdr_flags rdr_repeatable) (va_A (w_7 cI tS a_pat a_pat_bytes a_mis a_rdr a_tre a_grp a_opn a_set a_esc a_cls a_opg a_rep pat_length mis_number mis_place rdr_place rdr_flags rdr_repeatable) sz) t) (va_A (w_7 cI tS a_pat a_pat_bytes a_mis a_rdr a_tre a_grp a_opn a_set a_esc a_cls a_opg a_rep pat_length mis_number mis_place rdr_place rdr_flags rdr_repeatable) sz)) 0 0 (va_A (w_7 cI tS a_pat a_pat_bytes a_mis a_rdr a_tre a_grp a_opn a_set a_esc a_cls a_opg a_rep pat_length mis_number mis_place rdr_place rdr_flags rdr_repeatable) sz) := by
  refine Met.ofW (cc := b_RDR_hasMore) (maxL := 1) (ret := (some .boolean)) (by decide) rfl ?_
  intro p e s m args below meth c s₁ B hml hv
  obtain ⟨rfl, hsz, hP, hK, hD0, hst0⟩ := hv
  have hx := B.exec
  have hb := B.bytes
  have hr := B.returns
  have hts0 := atoms_spec (ws := ws_RDR_hasMore) B.pre
  have hts : ∀ w ∈ GW, w.before _ s = true := fun w h => hts0 w (List.mem_cons_of_mem _ h)
  have hown : s.vm.findClass R_RDR = some m.cls := findClass_of_methodNamed B.named
  have hlocks := B.notSynchronized
  subst hsz
  have hD := hD0.self (sz := s.heap.size)
  generalize hAe : va_A (w_7 cI tS a_pat a_pat_bytes a_mis a_rdr a_tre a_grp a_opn a_set a_esc a_cls a_opg a_rep pat_length mis_number mis_place rdr_place rdr_flags rdr_repeatable) s.heap.size = A at hD hst0 ⊢
  have hA : ∀ q : Nat, s.heap.size ≤ q → A q := fun q h => by rw [← hAe]; exact Or.inr h
  have hS : va_S A s.heap s.heap [] := va_S.rf
  have hl := lv_entry ([.ref a_rdr]) (n := 1) (Nat.le_of_ble_eq_true rfl)
  rw [lg_entry_eq]
  generalize (lg_sl ([.ref a_rdr]) ++ List.replicate (1 - (lg_sl ([.ref a_rdr])).length) Slot.unset).toArray = ls at hl ⊢
  have hl : lv_has ls 1 [(0, .ref a_rdr)] := hl
  refine lv_aload_n hx hb d_RDR_hasMore_0 rfl (lv_at hl 0 rfl) ?_
  refine va_get (D := (dC, dI)) (ci := 10) (v := .ref a_mis) (C := R_RDR) (T := F_RDR) (N := N_RDR) hx hb hts i_RDR hown hK hP 2 rfl rfl 1 (by decide) (hts _ tw_386) (fun _ h9 => h9) rfl d_RDR_hasMore_1 ?_
  refine va_getN (D := (dC, dI)) (ci := 1) (v := .int mis_number) (C := R_MIS) (T := F_MIS) (N := N_MIS) hx hb hts i_MIS hown hK hP 1 rfl rfl 0 (by decide) (va_Nw.use rfl (hst0.2.1 _ tn_134)) (fun _ h9 => h9) rfl d_RDR_hasMore_4 ?_
  refine lv_if_ne (tgt := 28) hx hb d_RDR_hasMore_7 (by decide) (fun c_ => ?_) (fun c_ => ?_)
  · have hf := f_neg c_ hf
    refine lv_iconst (v := 0) hx hb d_RDR_hasMore_28 (by decide) ?_
    obtain rfl := Option.some.inj hf
    exact W.zret (v := b2i false) hx hb hr (nr_b _) (fun t ht hW => ⟨⟨_, (), rfl, rfl, ⟨by rw [ht]; exact hP, va_K.moved hW.alike hK, hD⟩⟩, hS.F ht⟩) hS.2.2 d_RDR_hasMore_29
  · have hf := f_pos c_ hf
    refine lv_aload_n hx hb d_RDR_hasMore_10 rfl (lv_at hl 0 rfl) ?_
    refine va_get (D := (dC, dI)) (ci := 10) (v := .int rdr_place) (C := R_RDR) (T := F_RDR) (N := N_RDR) hx hb hts i_RDR hown hK hP 2 rfl rfl 10 (by decide) (hts _ tw_395) (fun _ h9 => h9) rfl d_RDR_hasMore_11 ?_
    refine lv_aload_n hx hb d_RDR_hasMore_14 rfl (lv_at hl 0 rfl) ?_
    refine va_get (D := (dC, dI)) (ci := 10) (v := .ref a_pat) (C := R_RDR) (T := F_RDR) (N := N_RDR) hx hb hts i_RDR hown hK hP 2 rfl rfl 0 (by decide) (hts _ tw_385) (fun _ h9 => h9) rfl d_RDR_hasMore_15 ?_
    refine va_getN (D := (dC, dI)) (ci := 0) (v := .int pat_length) (C := R_PAT) (T := F_PAT) (N := N_PAT) hx hb hts i_PAT hown hK hP 0 rfl rfl 1 (by decide) (va_Nw.use rfl (hst0.2.1 _ tn_119)) (fun _ h9 => h9) rfl d_RDR_hasMore_18 ?_
    refine lv_icmp_ge (tgt := 28) hx hb d_RDR_hasMore_21 (by decide) (fun c_ => ?_) (fun c_ => ?_)
    · have hf := f_pos c_ hf
      refine lv_iconst (v := 0) hx hb d_RDR_hasMore_28 (by decide) ?_
      obtain rfl := Option.some.inj hf
      exact W.zret (v := b2i false) hx hb hr (nr_b _) (fun t ht hW => ⟨⟨_, (), rfl, rfl, ⟨by rw [ht]; exact hP, va_K.moved hW.alike hK, hD⟩⟩, hS.F ht⟩) hS.2.2 d_RDR_hasMore_29
    · have hf := f_neg c_ hf
      refine lv_iconst (v := 1) hx hb d_RDR_hasMore_24 (by decide) ?_
      refine lv_goto (tgt := 29) hx hb d_RDR_hasMore_25 (by decide) ?_
      obtain rfl := Option.some.inj hf
      exact W.zret (v := b2i true) hx hb hr (nr_b _) (fun t ht hW => ⟨⟨_, (), rfl, rfl, ⟨by rw [ht]; exact hP, va_K.moved hW.alike hK, hD⟩⟩, hS.F ht⟩) hS.2.2 d_RDR_hasMore_29
def f_PAT_at (pat_length : Int32) (pat_bytes : Nat → Int32) (p1 : Int32) : Option Int32 :=
  if p1 < 0 then some (-1) else (if pat_length ≤ p1 then some (-1) else grd (inb p1 400) (some (pat_bytes p1.toNatClampNeg)))
set_option maxRecDepth 100000 in
set_option maxHeartbeats 4000000 in
theorem c_PAT_at (l : Launch) (dC : Nat → ClassId) (dI : Nat → Nat → Nat) (cI : ClassId) (tS : Nat → Nat → Nat) (sz : Nat) (a_pat a_pat_bytes : Nat) (pat_length : Int32) (pat_bytes : Nat → Int32) (p1 : Int32) (R0 : Int32) (hf : f_PAT_at pat_length pat_bytes p1 = some R0) : Met l y_PAT_at ws_PAT_at ({ frames := 0, cells := 0, slots := 0, locals := 0 }) (va_Pc [.ref a_pat, .int p1] (preS (dC, dI) classes [(cI, .int)] tS (w_0 cI tS a_pat a_pat_bytes pat_length pat_bytes) sz)) (va_Qi (fun r (_ : Unit) => r = R0) (fun _ t => posS (dC, dI) classes [(cI, .int)] (w_0 cI tS a_pat a_pat_bytes pat_length pat_bytes) (va_A (w_0 cI tS a_pat a_pat_bytes pat_length pat_bytes) sz) t) (va_A (w_0 cI tS a_pat a_pat_bytes pat_length pat_bytes) sz)) 0 0 (va_A (w_0 cI tS a_pat a_pat_bytes pat_length pat_bytes) sz) := by
  refine Met.ofW (cc := b_PAT_at) (maxL := 2) (ret := (some .int)) (by decide) rfl ?_
  intro p e s m args below meth c s₁ B hml hv
  obtain ⟨rfl, hsz, hP, hK, hD0, hst0⟩ := hv
  have hx := B.exec
  have hb := B.bytes
  have hr := B.returns
  have hts0 := atoms_spec (ws := ws_PAT_at) B.pre
  have hts : ∀ w ∈ GW, w.before _ s = true := fun w h => hts0 w (List.mem_cons_of_mem _ h)
  have hown : s.vm.findClass R_PAT = some m.cls := findClass_of_methodNamed B.named
  have hlocks := B.notSynchronized
  subst hsz
  have hD := hD0.self (sz := s.heap.size)
  generalize hAe : va_A (w_0 cI tS a_pat a_pat_bytes pat_length pat_bytes) s.heap.size = A at hD hst0 ⊢
  have hA : ∀ q : Nat, s.heap.size ≤ q → A q := fun q h => by rw [← hAe]; exact Or.inr h
  have hS : va_S A s.heap s.heap [] := va_S.rf
  have hl := lv_entry ([.ref a_pat, .int p1]) (n := 2) (Nat.le_of_ble_eq_true rfl)
  rw [lg_entry_eq]
  generalize (lg_sl ([.ref a_pat, .int p1]) ++ List.replicate (2 - (lg_sl ([.ref a_pat, .int p1])).length) Slot.unset).toArray = ls at hl ⊢
  have hl : lv_has ls 2 [(0, .ref a_pat), (1, .int p1)] := hl
  refine lv_iload_n hx hb d_PAT_at_0 rfl (lv_at hl 1 rfl) ?_
  refine lv_if_lt (tgt := 21) hx hb d_PAT_at_1 (by decide) (fun c_ => ?_) (fun c_ => ?_)
  · have hf := f_pos c_ hf
    refine lv_iconst (v := (-1)) hx hb d_PAT_at_21 (by decide) ?_
    obtain rfl := Option.some.inj hf
    exact W.iret (v := (-1)) hx hb hr (fun t ht hW => ⟨⟨_, (), rfl, rfl, ⟨by rw [ht]; exact hP, va_K.moved hW.alike hK, hD⟩⟩, hS.F ht⟩) hS.2.2 d_PAT_at_22
  · have hf := f_neg c_ hf
    refine lv_iload_n hx hb d_PAT_at_4 rfl (lv_at hl 1 rfl) ?_
    refine lv_aload_n hx hb d_PAT_at_5 rfl (lv_at hl 0 rfl) ?_
    refine va_get (D := (dC, dI)) (ci := 0) (v := .int pat_length) (C := R_PAT) (T := F_PAT) (N := N_PAT) hx hb hts i_PAT hown hK hP 0 rfl rfl 1 (by decide) (hts _ tw_117) (fun _ h9 => h9) rfl d_PAT_at_6 ?_
    refine lv_icmp_ge (tgt := 21) hx hb d_PAT_at_9 (by decide) (fun c_ => ?_) (fun c_ => ?_)
    · have hf := f_pos c_ hf
      refine lv_iconst (v := (-1)) hx hb d_PAT_at_21 (by decide) ?_
      obtain rfl := Option.some.inj hf
      exact W.iret (v := (-1)) hx hb hr (fun t ht hW => ⟨⟨_, (), rfl, rfl, ⟨by rw [ht]; exact hP, va_K.moved hW.alike hK, hD⟩⟩, hS.F ht⟩) hS.2.2 d_PAT_at_22
    · have hf := f_neg c_ hf
      refine lv_aload_n hx hb d_PAT_at_12 rfl (lv_at hl 0 rfl) ?_
      refine va_get (D := (dC, dI)) (ci := 0) (v := .ref a_pat_bytes) (C := R_PAT) (T := F_PAT) (N := N_PAT) hx hb hts i_PAT hown hK hP 0 rfl rfl 0 (by decide) (hts _ tw_116) (fun _ h9 => h9) rfl d_PAT_at_13 ?_
      refine lv_iload_n hx hb d_PAT_at_16 rfl (lv_at hl 1 rfl) ?_
      obtain ⟨hin, hf⟩ := grd_in hf
      refine va_iald hx hb hK hP 1 0 rfl rfl hin d_PAT_at_17 ?_
      refine lv_goto (tgt := 22) hx hb d_PAT_at_18 (by decide) ?_
      obtain rfl := Option.some.inj hf
      exact W.iret (v := pat_bytes p1.toNatClampNeg) hx hb hr (fun t ht hW => ⟨⟨_, (), rfl, rfl, ⟨by rw [ht]; exact hP, va_K.moved hW.alike hK, hD⟩⟩, hS.F ht⟩) hS.2.2 d_PAT_at_22
def f_TRE_waitingSize_B4 (tre_waits : Int32) (tre_sizes : Nat → Int32) (tre_waiting : Nat → Int32) (p1 : Int32) (K4 : (Int32 × Int32) → Option Int32) (v2 : Int32) (v3 : Int32) : Option Int32 :=
  if p1 < v3 then some v2 else (if tre_waits < v3 then some v2 else grd (inb (tre_waits - v3) 512) (grd (inb (tre_waiting (tre_waits - v3).toNatClampNeg) 512) (K4 (v2 + (tre_sizes (tre_waiting (tre_waits - v3).toNatClampNeg).toNatClampNeg), v3 + 1))))
def f_TRE_waitingSize_L4 (tre_waits : Int32) (tre_sizes : Nat → Int32) (tre_waiting : Nat → Int32) (p1 : Int32) (n : Nat) (a : Int32 × Int32) : Option Int32 :=
  lpF (fun K4 v => f_TRE_waitingSize_B4 tre_waits tre_sizes tre_waiting p1  K4 v.1 v.2) n a
def f_TRE_waitingSize (tre_waits : Int32) (tre_sizes : Nat → Int32) (tre_waiting : Nat → Int32) (p1 : Int32) : Option Int32 :=
  f_TRE_waitingSize_L4 tre_waits tre_sizes tre_waiting p1 FU (0, 1)
set_option maxRecDepth 100000 in
set_option maxHeartbeats 4000000 in
theorem c_TRE_waitingSize (l : Launch) (dC : Nat → ClassId) (dI : Nat → Nat → Nat) (cI : ClassId) (tS : Nat → Nat → Nat) (sz : Nat) (a_tre a_tre_kinds a_tre_values a_tre_mosts a_tre_owners a_tre_sizes a_tre_firstRanges a_tre_rangeCounts a_tre_begins a_tre_ends a_tre_waiting : Nat) (tre_nodes : Int32) (tre_ranges : Int32) (tre_waits : Int32) (tre_sizes : Nat → Int32) (tre_waiting : Nat → Int32) (p1 : Int32) (R0 : Int32) (hf : f_TRE_waitingSize tre_waits tre_sizes tre_waiting p1 = some R0) : Met l y_TRE_waitingSize ws_TRE_waitingSize ({ frames := 0, cells := 0, slots := 0, locals := 0 }) (va_Pc [.ref a_tre, .int p1] (preS (dC, dI) classes [(cI, .int)] tS (w_8 cI tS a_tre a_tre_kinds a_tre_values a_tre_mosts a_tre_owners a_tre_sizes a_tre_firstRanges a_tre_rangeCounts a_tre_begins a_tre_ends a_tre_waiting tre_nodes tre_ranges tre_waits tre_sizes tre_waiting) sz)) (va_Qi (fun r (_ : Unit) => r = R0) (fun _ t => posS (dC, dI) classes [(cI, .int)] (w_8 cI tS a_tre a_tre_kinds a_tre_values a_tre_mosts a_tre_owners a_tre_sizes a_tre_firstRanges a_tre_rangeCounts a_tre_begins a_tre_ends a_tre_waiting tre_nodes tre_ranges tre_waits tre_sizes tre_waiting) (va_A (w_8 cI tS a_tre a_tre_kinds a_tre_values a_tre_mosts a_tre_owners a_tre_sizes a_tre_firstRanges a_tre_rangeCounts a_tre_begins a_tre_ends a_tre_waiting tre_nodes tre_ranges tre_waits tre_sizes tre_waiting) sz) t) (va_A (w_8 cI tS a_tre a_tre_kinds a_tre_values a_tre_mosts a_tre_owners a_tre_sizes a_tre_firstRanges a_tre_rangeCounts a_tre_begins a_tre_ends a_tre_waiting tre_nodes tre_ranges tre_waits tre_sizes tre_waiting) sz)) 0 0 (va_A (w_8 cI tS a_tre a_tre_kinds a_tre_values a_tre_mosts a_tre_owners a_tre_sizes a_tre_firstRanges a_tre_rangeCounts a_tre_begins a_tre_ends a_tre_waiting tre_nodes tre_ranges tre_waits tre_sizes tre_waiting) sz) := by
  refine Met.ofW (cc := b_TRE_waitingSize) (maxL := 4) (ret := (some .int)) (by decide) rfl ?_
  intro p e s m args below meth c s₁ B hml hv
  obtain ⟨rfl, hsz, hP, hK, hD0, hst0⟩ := hv
  have hx := B.exec
  have hb := B.bytes
  have hr := B.returns
  have hts0 := atoms_spec (ws := ws_TRE_waitingSize) B.pre
  have hts : ∀ w ∈ GW, w.before _ s = true := fun w h => hts0 w (List.mem_cons_of_mem _ h)
  have hown : s.vm.findClass R_TRE = some m.cls := findClass_of_methodNamed B.named
  have hlocks := B.notSynchronized
  subst hsz
  have hD := hD0.self (sz := s.heap.size)
  generalize hAe : va_A (w_8 cI tS a_tre a_tre_kinds a_tre_values a_tre_mosts a_tre_owners a_tre_sizes a_tre_firstRanges a_tre_rangeCounts a_tre_begins a_tre_ends a_tre_waiting tre_nodes tre_ranges tre_waits tre_sizes tre_waiting) s.heap.size = A at hD hst0 ⊢
  have hA : ∀ q : Nat, s.heap.size ≤ q → A q := fun q h => by rw [← hAe]; exact Or.inr h
  have hS : va_S A s.heap s.heap [] := va_S.rf
  have hl := lv_entry ([.ref a_tre, .int p1]) (n := 4) (Nat.le_of_ble_eq_true rfl)
  rw [lg_entry_eq]
  generalize (lg_sl ([.ref a_tre, .int p1]) ++ List.replicate (4 - (lg_sl ([.ref a_tre, .int p1])).length) Slot.unset).toArray = ls at hl ⊢
  have hl : lv_has ls 4 [(0, .ref a_tre), (1, .int p1)] := hl
  have L4 : ∀ n4 : Nat, ∀ (v2 : Int32) (v3 : Int32) (H : Heap) (locs : List Loc) (ls : Array Slot), va_P (dC, dI) classes (w_8 cI tS a_tre a_tre_kinds a_tre_values a_tre_mosts a_tre_owners a_tre_sizes a_tre_firstRanges a_tre_rangeCounts a_tre_begins a_tre_ends a_tre_waiting tre_nodes tre_ranges tre_waits tre_sizes tre_waiting) H → va_D A (w_8 cI tS a_tre a_tre_kinds a_tre_values a_tre_mosts a_tre_owners a_tre_sizes a_tre_firstRanges a_tre_rangeCounts a_tre_begins a_tre_ends a_tre_waiting tre_nodes tre_ranges tre_waits tre_sizes tre_waiting) → va_S A s.heap H locs → lv_has ls 4 [(0, .ref a_tre), (1, .int p1), (2, .int v2), (3, .int v3)] → f_TRE_waitingSize_L4 tre_waits tre_sizes tre_waiting p1 n4 (v2, v3) = some R0 → W p l e (headSpec ws_TRE_waitingSize ({ frames := 0, cells := 0, slots := 0, locals := 0 })).room s m ([.ref a_tre, .int p1] : List Value).toArray below meth c H locs 0 0 (MQ below (va_Qi (fun r (_ : Unit) => r = R0) (fun _ t => posS (dC, dI) classes [(cI, .int)] (w_8 cI tS a_tre a_tre_kinds a_tre_values a_tre_mosts a_tre_owners a_tre_sizes a_tre_firstRanges a_tre_rangeCounts a_tre_begins a_tre_ends a_tre_waiting tre_nodes tre_ranges tre_waits tre_sizes tre_waiting) (A) t) (A)) ([.ref a_tre, .int p1] : List Value).toArray s 0 0 A) (F0 m 4 ls []) := by
    intro n4
    induction n4 with
    | zero =>
      intro v2 v3 H locs ls hP hD hS hl hf
      exact absurd (show (none : Option _) = some R0 from hf) (fun h => by cases h)
    | succ n4 ih4 =>
      intro v2 v3 H locs ls hP hD hS hl hf
      have hf : f_TRE_waitingSize_B4 tre_waits tre_sizes tre_waiting p1 (f_TRE_waitingSize_L4 tre_waits tre_sizes tre_waiting p1 n4) v2 v3 = some R0 := hf
      refine lv_iload_n hx hb d_TRE_waitingSize_4 rfl (lv_at hl 3 rfl) ?_
      refine lv_iload_n hx hb d_TRE_waitingSize_5 rfl (lv_at hl 1 rfl) ?_
      refine lv_icmp_gt (tgt := 42) hx hb d_TRE_waitingSize_6 (by decide) (fun c_ => ?_) (fun c_ => ?_)
      · have hf := f_pos c_ hf
        refine lv_iload_n hx hb d_TRE_waitingSize_42 rfl (lv_at hl 2 rfl) ?_
        obtain rfl := Option.some.inj hf
        exact W.iret (v := v2) hx hb hr (fun t ht hW => ⟨⟨_, (), rfl, rfl, ⟨by rw [ht]; exact hP, va_K.moved hW.alike hK, hD⟩⟩, hS.F ht⟩) hS.2.2 d_TRE_waitingSize_43
      · have hf := f_neg c_ hf
        refine lv_iload_n hx hb d_TRE_waitingSize_9 rfl (lv_at hl 3 rfl) ?_
        refine lv_aload_n hx hb d_TRE_waitingSize_10 rfl (lv_at hl 0 rfl) ?_
        refine va_get (D := (dC, dI)) (ci := 3) (v := .int tre_waits) (C := R_TRE) (T := F_TRE) (N := N_TRE) hx hb hts i_TRE hown hK hP 0 rfl rfl 12 (by decide) (hts _ tw_162) (fun _ h9 => h9) rfl d_TRE_waitingSize_11 ?_
        refine lv_icmp_gt (tgt := 42) hx hb d_TRE_waitingSize_14 (by decide) (fun c_ => ?_) (fun c_ => ?_)
        · have hf := f_pos c_ hf
          refine lv_iload_n hx hb d_TRE_waitingSize_42 rfl (lv_at hl 2 rfl) ?_
          obtain rfl := Option.some.inj hf
          exact W.iret (v := v2) hx hb hr (fun t ht hW => ⟨⟨_, (), rfl, rfl, ⟨by rw [ht]; exact hP, va_K.moved hW.alike hK, hD⟩⟩, hS.F ht⟩) hS.2.2 d_TRE_waitingSize_43
        · have hf := f_neg c_ hf
          refine lv_iload_n hx hb d_TRE_waitingSize_17 rfl (lv_at hl 2 rfl) ?_
          refine lv_aload_n hx hb d_TRE_waitingSize_18 rfl (lv_at hl 0 rfl) ?_
          refine va_get (D := (dC, dI)) (ci := 3) (v := .ref a_tre_sizes) (C := R_TRE) (T := F_TRE) (N := N_TRE) hx hb hts i_TRE hown hK hP 0 rfl rfl 4 (by decide) (hts _ tw_153) (fun _ h9 => h9) rfl d_TRE_waitingSize_19 ?_
          refine lv_aload_n hx hb d_TRE_waitingSize_22 rfl (lv_at hl 0 rfl) ?_
          refine va_get (D := (dC, dI)) (ci := 3) (v := .ref a_tre_waiting) (C := R_TRE) (T := F_TRE) (N := N_TRE) hx hb hts i_TRE hown hK hP 0 rfl rfl 9 (by decide) (hts _ tw_158) (fun _ h9 => h9) rfl d_TRE_waitingSize_23 ?_
          refine lv_aload_n hx hb d_TRE_waitingSize_26 rfl (lv_at hl 0 rfl) ?_
          refine va_get (D := (dC, dI)) (ci := 3) (v := .int tre_waits) (C := R_TRE) (T := F_TRE) (N := N_TRE) hx hb hts i_TRE hown hK hP 0 rfl rfl 12 (by decide) (hts _ tw_162) (fun _ h9 => h9) rfl d_TRE_waitingSize_27 ?_
          refine lv_iload_n hx hb d_TRE_waitingSize_30 rfl (lv_at hl 3 rfl) ?_
          refine lv_isub hx hb d_TRE_waitingSize_31 ?_
          obtain ⟨hin, hf⟩ := grd_in hf
          refine va_iald hx hb hK hP 2 0 rfl rfl hin d_TRE_waitingSize_32 ?_
          obtain ⟨hin, hf⟩ := grd_in hf
          refine va_iald hx hb hK hP 1 0 rfl rfl hin d_TRE_waitingSize_33 ?_
          refine lv_iadd hx hb d_TRE_waitingSize_34 ?_
          refine lv_istore_n (lv' := [(2, .int (v2 + (tre_sizes (tre_waiting (tre_waits - v3).toNatClampNeg).toNatClampNeg))), (0, .ref a_tre), (1, .int p1), (3, .int v3)]) hx hb d_TRE_waitingSize_35 rfl hl (by decide) rfl (fun ls hl => ?_)
          refine lv_iinc (v := v3 + 1) (lv' := [(3, .int (v3 + 1)), (2, .int (v2 + (tre_sizes (tre_waiting (tre_waits - v3).toNatClampNeg).toNatClampNeg))), (0, .ref a_tre), (1, .int p1)]) hx hb d_TRE_waitingSize_36 hl (k := 3) rfl rfl (by decide) rfl (fun ls hl => ?_)
          refine lv_goto (tgt := 4) hx hb d_TRE_waitingSize_39 (by decide) ?_
          exact ih4 (v2 + (tre_sizes (tre_waiting (tre_waits - v3).toNatClampNeg).toNatClampNeg)) (v3 + 1) _ _ _ hP hD hS (lv_sub hl [2, 3, 1, 0] rfl) hf
  refine lv_iconst (v := 0) hx hb d_TRE_waitingSize_0 (by decide) ?_
  refine lv_istore_n (lv' := [(2, .int 0), (0, .ref a_tre), (1, .int p1)]) hx hb d_TRE_waitingSize_1 rfl hl (by decide) rfl (fun ls hl => ?_)
  refine lv_iconst (v := 1) hx hb d_TRE_waitingSize_2 (by decide) ?_
  refine lv_istore_n (lv' := [(3, .int 1), (2, .int 0), (0, .ref a_tre), (1, .int p1)]) hx hb d_TRE_waitingSize_3 rfl hl (by decide) rfl (fun ls hl => ?_)
  exact L4 FU 0 1 _ _ _ hP hD hS (lv_sub hl [2, 3, 1, 0] rfl) hf
def f_TRE_addOver_B22 (tre_ranges : Int32) (p1 : Int32) (p2 : Int32) (p3 : Int32) (p4 : Int32) (p5 : Int32) (K22 : (Int32 × Int32 × Int32 × (Nat → Int32) × (Nat → Int32) × (Nat → Int32) × (Nat → Int32) × (Nat → Int32) × (Nat → Int32) × (Nat → Int32) × (Nat → Int32)) → Option (Int32 × Int32 × (Nat → Int32) × (Nat → Int32) × (Nat → Int32) × (Nat → Int32) × (Nat → Int32) × (Nat → Int32) × (Nat → Int32) × (Nat → Int32))) (v6 : Int32) (tre_nodes : Int32) (tre_waits : Int32) (tre_kinds : Nat → Int32) (tre_values : Nat → Int32) (tre_mosts : Nat → Int32) (tre_owners : Nat → Int32) (tre_sizes : Nat → Int32) (tre_firstRanges : Nat → Int32) (tre_rangeCounts : Nat → Int32) (tre_waiting : Nat → Int32) : Option (Int32 × Int32 × (Nat → Int32) × (Nat → Int32) × (Nat → Int32) × (Nat → Int32) × (Nat → Int32) × (Nat → Int32) × (Nat → Int32) × (Nat → Int32)) :=
  if p1 ≤ v6 then grd (inb tre_nodes 512) (grd (inb tre_nodes 512) (grd (inb tre_nodes 512) (grd (inb tre_nodes 512) (grd (inb tre_nodes 512) (grd (inb tre_nodes 512) (grd (inb tre_nodes 512) (grd (inb tre_waits 512) (some (tre_nodes + 1, tre_waits + 1, upd tre_kinds tre_nodes.toNatClampNeg p2, upd tre_values tre_nodes.toNatClampNeg p3, upd tre_mosts tre_nodes.toNatClampNeg p4, upd tre_owners tre_nodes.toNatClampNeg (-1), upd tre_sizes tre_nodes.toNatClampNeg (if 1000000 < p5 then 1000000 else p5), upd tre_firstRanges tre_nodes.toNatClampNeg tre_ranges, upd tre_rangeCounts tre_nodes.toNatClampNeg 0, upd tre_waiting tre_waits.toNatClampNeg tre_nodes))))))))) else grd (inb (tre_waits - 1) 512) (grd (inb (tre_waiting (tre_waits - 1).toNatClampNeg) 512) (K22 (v6 + 1, tre_nodes, tre_waits - 1, tre_kinds, tre_values, tre_mosts, upd tre_owners (tre_waiting (tre_waits - 1).toNatClampNeg).toNatClampNeg tre_nodes, tre_sizes, tre_firstRanges, tre_rangeCounts, tre_waiting)))
def f_TRE_addOver_L22 (tre_ranges : Int32) (p1 : Int32) (p2 : Int32) (p3 : Int32) (p4 : Int32) (p5 : Int32) (n : Nat) (a : Int32 × Int32 × Int32 × (Nat → Int32) × (Nat → Int32) × (Nat → Int32) × (Nat → Int32) × (Nat → Int32) × (Nat → Int32) × (Nat → Int32) × (Nat → Int32)) : Option (Int32 × Int32 × (Nat → Int32) × (Nat → Int32) × (Nat → Int32) × (Nat → Int32) × (Nat → Int32) × (Nat → Int32) × (Nat → Int32) × (Nat → Int32)) :=
  lpF (fun K22 v => f_TRE_addOver_B22 tre_ranges p1 p2 p3 p4 p5  K22 v.1 v.2.1 v.2.2.1 v.2.2.2.1 v.2.2.2.2.1 v.2.2.2.2.2.1 v.2.2.2.2.2.2.1 v.2.2.2.2.2.2.2.1 v.2.2.2.2.2.2.2.2.1 v.2.2.2.2.2.2.2.2.2.1 v.2.2.2.2.2.2.2.2.2.2) n a
def f_TRE_addOver (tre_nodes : Int32) (tre_ranges : Int32) (tre_waits : Int32) (tre_kinds : Nat → Int32) (tre_values : Nat → Int32) (tre_mosts : Nat → Int32) (tre_owners : Nat → Int32) (tre_sizes : Nat → Int32) (tre_firstRanges : Nat → Int32) (tre_rangeCounts : Nat → Int32) (tre_waiting : Nat → Int32) (p1 : Int32) (p2 : Int32) (p3 : Int32) (p4 : Int32) (p5 : Int32) : Option (Int32 × Int32 × (Nat → Int32) × (Nat → Int32) × (Nat → Int32) × (Nat → Int32) × (Nat → Int32) × (Nat → Int32) × (Nat → Int32) × (Nat → Int32)) :=
  if 512 ≤ tre_nodes then some (tre_nodes, tre_waits, tre_kinds, tre_values, tre_mosts, tre_owners, tre_sizes, tre_firstRanges, tre_rangeCounts, tre_waiting) else (if p1 ≤ tre_waits then f_TRE_addOver_L22 tre_ranges p1 p2 p3 p4 p5 FU (0, tre_nodes, tre_waits, tre_kinds, tre_values, tre_mosts, tre_owners, tre_sizes, tre_firstRanges, tre_rangeCounts, tre_waiting) else some (tre_nodes, tre_waits, tre_kinds, tre_values, tre_mosts, tre_owners, tre_sizes, tre_firstRanges, tre_rangeCounts, tre_waiting))
set_option maxRecDepth 100000 in
set_option maxHeartbeats 4000000 in
theorem c_TRE_addOver (l : Launch) (dC : Nat → ClassId) (dI : Nat → Nat → Nat) (cI : ClassId) (tS : Nat → Nat → Nat) (sz : Nat) (a_tre a_tre_kinds a_tre_values a_tre_mosts a_tre_owners a_tre_sizes a_tre_firstRanges a_tre_rangeCounts a_tre_begins a_tre_ends a_tre_waiting : Nat) (tre_nodes : Int32) (tre_ranges : Int32) (tre_waits : Int32) (tre_kinds : Nat → Int32) (tre_values : Nat → Int32) (tre_mosts : Nat → Int32) (tre_owners : Nat → Int32) (tre_sizes : Nat → Int32) (tre_firstRanges : Nat → Int32) (tre_rangeCounts : Nat → Int32) (tre_waiting : Nat → Int32) (p1 : Int32) (p2 : Int32) (p3 : Int32) (p4 : Int32) (p5 : Int32) (R0 : Int32 × Int32 × (Nat → Int32) × (Nat → Int32) × (Nat → Int32) × (Nat → Int32) × (Nat → Int32) × (Nat → Int32) × (Nat → Int32) × (Nat → Int32)) (hf : f_TRE_addOver tre_nodes tre_ranges tre_waits tre_kinds tre_values tre_mosts tre_owners tre_sizes tre_firstRanges tre_rangeCounts tre_waiting p1 p2 p3 p4 p5 = some R0) : Met l y_TRE_addOver ws_TRE_addOver ({ frames := 1, cells := 0, slots := 0, locals := 21 }) (va_Pc [.ref a_tre, .int p1, .int p2, .int p3, .int p4, .int p5] (preS (dC, dI) classes [(cI, .int)] tS (w_9 cI tS a_tre a_tre_kinds a_tre_values a_tre_mosts a_tre_owners a_tre_sizes a_tre_firstRanges a_tre_rangeCounts a_tre_begins a_tre_ends a_tre_waiting tre_nodes tre_ranges tre_waits tre_kinds tre_values tre_mosts tre_owners tre_sizes tre_firstRanges tre_rangeCounts tre_waiting) sz)) (va_Qv (fun _ : Unit => True) (fun _ t => posS (dC, dI) classes [(cI, .int)] (w_9 cI tS a_tre a_tre_kinds a_tre_values a_tre_mosts a_tre_owners a_tre_sizes a_tre_firstRanges a_tre_rangeCounts a_tre_begins a_tre_ends a_tre_waiting R0.1 tre_ranges R0.2.1 R0.2.2.1 R0.2.2.2.1 R0.2.2.2.2.1 R0.2.2.2.2.2.1 R0.2.2.2.2.2.2.1 R0.2.2.2.2.2.2.2.1 R0.2.2.2.2.2.2.2.2.1 R0.2.2.2.2.2.2.2.2.2) (va_A (w_9 cI tS a_tre a_tre_kinds a_tre_values a_tre_mosts a_tre_owners a_tre_sizes a_tre_firstRanges a_tre_rangeCounts a_tre_begins a_tre_ends a_tre_waiting tre_nodes tre_ranges tre_waits tre_kinds tre_values tre_mosts tre_owners tre_sizes tre_firstRanges tre_rangeCounts tre_waiting) sz) t) (va_A (w_9 cI tS a_tre a_tre_kinds a_tre_values a_tre_mosts a_tre_owners a_tre_sizes a_tre_firstRanges a_tre_rangeCounts a_tre_begins a_tre_ends a_tre_waiting tre_nodes tre_ranges tre_waits tre_kinds tre_values tre_mosts tre_owners tre_sizes tre_firstRanges tre_rangeCounts tre_waiting) sz)) 0 0 (va_A (w_9 cI tS a_tre a_tre_kinds a_tre_values a_tre_mosts a_tre_owners a_tre_sizes a_tre_firstRanges a_tre_rangeCounts a_tre_begins a_tre_ends a_tre_waiting tre_nodes tre_ranges tre_waits tre_kinds tre_values tre_mosts tre_owners tre_sizes tre_firstRanges tre_rangeCounts tre_waiting) sz) := by
  refine Met.ofW (cc := b_TRE_addOver) (maxL := 7) (ret := none) (by decide) rfl ?_
  intro p e s m args below meth c s₁ B hml hv
  obtain ⟨rfl, hsz, hP, hK, hD0, hst0⟩ := hv
  have hx := B.exec
  have hb := B.bytes
  have hr := B.returns
  have hts0 := atoms_spec (ws := ws_TRE_addOver) B.pre
  have hts : ∀ w ∈ GW, w.before _ s = true := fun w h => hts0 w (List.mem_cons_of_mem _ h)
  have hown : s.vm.findClass R_TRE = some m.cls := findClass_of_methodNamed B.named
  have hlocks := B.notSynchronized
  subst hsz
  have hD := hD0.self (sz := s.heap.size)
  generalize hAe : va_A (w_9 cI tS a_tre a_tre_kinds a_tre_values a_tre_mosts a_tre_owners a_tre_sizes a_tre_firstRanges a_tre_rangeCounts a_tre_begins a_tre_ends a_tre_waiting tre_nodes tre_ranges tre_waits tre_kinds tre_values tre_mosts tre_owners tre_sizes tre_firstRanges tre_rangeCounts tre_waiting) s.heap.size = A at hD hst0 ⊢
  have hA : ∀ q : Nat, s.heap.size ≤ q → A q := fun q h => by rw [← hAe]; exact Or.inr h
  have hS : va_S A s.heap s.heap [] := va_S.rf
  have hl := lv_entry ([.ref a_tre, .int p1, .int p2, .int p3, .int p4, .int p5]) (n := 7) (Nat.le_of_ble_eq_true rfl)
  rw [lg_entry_eq]
  generalize (lg_sl ([.ref a_tre, .int p1, .int p2, .int p3, .int p4, .int p5]) ++ List.replicate (7 - (lg_sl ([.ref a_tre, .int p1, .int p2, .int p3, .int p4, .int p5])).length) Slot.unset).toArray = ls at hl ⊢
  have hl : lv_has ls 7 [(0, .ref a_tre), (1, .int p1), (2, .int p2), (3, .int p3), (4, .int p4), (5, .int p5)] := hl
  have L22 : ∀ n22 : Nat, ∀ (v6 : Int32) (tre_nodes : Int32) (tre_waits : Int32) (tre_kinds : Nat → Int32) (tre_values : Nat → Int32) (tre_mosts : Nat → Int32) (tre_owners : Nat → Int32) (tre_sizes : Nat → Int32) (tre_firstRanges : Nat → Int32) (tre_rangeCounts : Nat → Int32) (tre_waiting : Nat → Int32) (H : Heap) (locs : List Loc) (ls : Array Slot), va_P (dC, dI) classes (w_9 cI tS a_tre a_tre_kinds a_tre_values a_tre_mosts a_tre_owners a_tre_sizes a_tre_firstRanges a_tre_rangeCounts a_tre_begins a_tre_ends a_tre_waiting tre_nodes tre_ranges tre_waits tre_kinds tre_values tre_mosts tre_owners tre_sizes tre_firstRanges tre_rangeCounts tre_waiting) H → va_D A (w_9 cI tS a_tre a_tre_kinds a_tre_values a_tre_mosts a_tre_owners a_tre_sizes a_tre_firstRanges a_tre_rangeCounts a_tre_begins a_tre_ends a_tre_waiting tre_nodes tre_ranges tre_waits tre_kinds tre_values tre_mosts tre_owners tre_sizes tre_firstRanges tre_rangeCounts tre_waiting) → va_S A s.heap H locs → lv_has ls 7 [(0, .ref a_tre), (1, .int p1), (2, .int p2), (3, .int p3), (4, .int p4), (5, .int p5), (6, .int v6)] → f_TRE_addOver_L22 tre_ranges p1 p2 p3 p4 p5 n22 (v6, tre_nodes, tre_waits, tre_kinds, tre_values, tre_mosts, tre_owners, tre_sizes, tre_firstRanges, tre_rangeCounts, tre_waiting) = some R0 → W p l e (headSpec ws_TRE_addOver ({ frames := 1, cells := 0, slots := 0, locals := 21 })).room s m ([.ref a_tre, .int p1, .int p2, .int p3, .int p4, .int p5] : List Value).toArray below meth c H locs 0 0 (MQ below (va_Qv (fun _ : Unit => True) (fun _ t => posS (dC, dI) classes [(cI, .int)] (w_9 cI tS a_tre a_tre_kinds a_tre_values a_tre_mosts a_tre_owners a_tre_sizes a_tre_firstRanges a_tre_rangeCounts a_tre_begins a_tre_ends a_tre_waiting R0.1 tre_ranges R0.2.1 R0.2.2.1 R0.2.2.2.1 R0.2.2.2.2.1 R0.2.2.2.2.2.1 R0.2.2.2.2.2.2.1 R0.2.2.2.2.2.2.2.1 R0.2.2.2.2.2.2.2.2.1 R0.2.2.2.2.2.2.2.2.2) (A) t) (A)) ([.ref a_tre, .int p1, .int p2, .int p3, .int p4, .int p5] : List Value).toArray s 0 0 A) (F0 m 22 ls []) := by
    intro n22
    induction n22 with
    | zero =>
      intro v6 tre_nodes tre_waits tre_kinds tre_values tre_mosts tre_owners tre_sizes tre_firstRanges tre_rangeCounts tre_waiting H locs ls hP hD hS hl hf
      exact absurd (show (none : Option _) = some R0 from hf) (fun h => by cases h)
    | succ n22 ih22 =>
      intro v6 tre_nodes tre_waits tre_kinds tre_values tre_mosts tre_owners tre_sizes tre_firstRanges tre_rangeCounts tre_waiting H locs ls hP hD hS hl hf
      have hf : f_TRE_addOver_B22 tre_ranges p1 p2 p3 p4 p5 (f_TRE_addOver_L22 tre_ranges p1 p2 p3 p4 p5 n22) v6 tre_nodes tre_waits tre_kinds tre_values tre_mosts tre_owners tre_sizes tre_firstRanges tre_rangeCounts tre_waiting = some R0 := hf
      refine lv_iload hx hb d_TRE_addOver_22 (lv_at hl 6 rfl) ?_
      refine lv_iload_n hx hb d_TRE_addOver_24 rfl (lv_at hl 1 rfl) ?_
      refine lv_icmp_ge (tgt := 62) hx hb d_TRE_addOver_25 (by decide) (fun c_ => ?_) (fun c_ => ?_)
      · have hf := f_pos c_ hf
        refine lv_aload_n hx hb d_TRE_addOver_62 rfl (lv_at hl 0 rfl) ?_
        refine va_get (D := (dC, dI)) (ci := 3) (v := .ref a_tre_kinds) (C := R_TRE) (T := F_TRE) (N := N_TRE) hx hb hts i_TRE hown hK hP 0 rfl rfl 0 (by decide) (hts _ tw_149) (fun _ h9 => h9) rfl d_TRE_addOver_63 ?_
        refine lv_aload_n hx hb d_TRE_addOver_66 rfl (lv_at hl 0 rfl) ?_
        refine va_get (D := (dC, dI)) (ci := 3) (v := .int tre_nodes) (C := R_TRE) (T := F_TRE) (N := N_TRE) hx hb hts i_TRE hown hK hP 0 rfl rfl 10 (by decide) (hts _ tw_159) (fun _ h9 => h9) rfl d_TRE_addOver_67 ?_
        refine lv_iload_n hx hb d_TRE_addOver_70 rfl (lv_at hl 2 rfl) ?_
        obtain ⟨hin, hf⟩ := grd_in hf
        refine va_iast hx hb hK hP hD hS 1 0 rfl rfl hin d_TRE_addOver_71 (fun H locs hP hD hS => ?_)
        have hP : va_P (dC, dI) classes (w_9 cI tS a_tre a_tre_kinds a_tre_values a_tre_mosts a_tre_owners a_tre_sizes a_tre_firstRanges a_tre_rangeCounts a_tre_begins a_tre_ends a_tre_waiting tre_nodes tre_ranges tre_waits (upd tre_kinds tre_nodes.toNatClampNeg p2) tre_values tre_mosts tre_owners tre_sizes tre_firstRanges tre_rangeCounts tre_waiting) H := hP
        have hD : va_D A (w_9 cI tS a_tre a_tre_kinds a_tre_values a_tre_mosts a_tre_owners a_tre_sizes a_tre_firstRanges a_tre_rangeCounts a_tre_begins a_tre_ends a_tre_waiting tre_nodes tre_ranges tre_waits (upd tre_kinds tre_nodes.toNatClampNeg p2) tre_values tre_mosts tre_owners tre_sizes tre_firstRanges tre_rangeCounts tre_waiting) := hD
        refine lv_aload_n hx hb d_TRE_addOver_72 rfl (lv_at hl 0 rfl) ?_
        refine va_get (D := (dC, dI)) (ci := 3) (v := .ref a_tre_values) (C := R_TRE) (T := F_TRE) (N := N_TRE) hx hb hts i_TRE hown hK hP 0 rfl rfl 1 (by decide) (hts _ tw_150) (fun _ h9 => h9) rfl d_TRE_addOver_73 ?_
        refine lv_aload_n hx hb d_TRE_addOver_76 rfl (lv_at hl 0 rfl) ?_
        refine va_get (D := (dC, dI)) (ci := 3) (v := .int tre_nodes) (C := R_TRE) (T := F_TRE) (N := N_TRE) hx hb hts i_TRE hown hK hP 0 rfl rfl 10 (by decide) (hts _ tw_159) (fun _ h9 => h9) rfl d_TRE_addOver_77 ?_
        refine lv_iload_n hx hb d_TRE_addOver_80 rfl (lv_at hl 3 rfl) ?_
        obtain ⟨hin, hf⟩ := grd_in hf
        refine va_iast hx hb hK hP hD hS 2 0 rfl rfl hin d_TRE_addOver_81 (fun H locs hP hD hS => ?_)
        have hP : va_P (dC, dI) classes (w_9 cI tS a_tre a_tre_kinds a_tre_values a_tre_mosts a_tre_owners a_tre_sizes a_tre_firstRanges a_tre_rangeCounts a_tre_begins a_tre_ends a_tre_waiting tre_nodes tre_ranges tre_waits (upd tre_kinds tre_nodes.toNatClampNeg p2) (upd tre_values tre_nodes.toNatClampNeg p3) tre_mosts tre_owners tre_sizes tre_firstRanges tre_rangeCounts tre_waiting) H := hP
        have hD : va_D A (w_9 cI tS a_tre a_tre_kinds a_tre_values a_tre_mosts a_tre_owners a_tre_sizes a_tre_firstRanges a_tre_rangeCounts a_tre_begins a_tre_ends a_tre_waiting tre_nodes tre_ranges tre_waits (upd tre_kinds tre_nodes.toNatClampNeg p2) (upd tre_values tre_nodes.toNatClampNeg p3) tre_mosts tre_owners tre_sizes tre_firstRanges tre_rangeCounts tre_waiting) := hD
        refine lv_aload_n hx hb d_TRE_addOver_82 rfl (lv_at hl 0 rfl) ?_
        refine va_get (D := (dC, dI)) (ci := 3) (v := .ref a_tre_mosts) (C := R_TRE) (T := F_TRE) (N := N_TRE) hx hb hts i_TRE hown hK hP 0 rfl rfl 2 (by decide) (hts _ tw_151) (fun _ h9 => h9) rfl d_TRE_addOver_83 ?_
        refine lv_aload_n hx hb d_TRE_addOver_86 rfl (lv_at hl 0 rfl) ?_
        refine va_get (D := (dC, dI)) (ci := 3) (v := .int tre_nodes) (C := R_TRE) (T := F_TRE) (N := N_TRE) hx hb hts i_TRE hown hK hP 0 rfl rfl 10 (by decide) (hts _ tw_159) (fun _ h9 => h9) rfl d_TRE_addOver_87 ?_
        refine lv_iload hx hb d_TRE_addOver_90 (lv_at hl 4 rfl) ?_
        obtain ⟨hin, hf⟩ := grd_in hf
        refine va_iast hx hb hK hP hD hS 3 0 rfl rfl hin d_TRE_addOver_92 (fun H locs hP hD hS => ?_)
        have hP : va_P (dC, dI) classes (w_9 cI tS a_tre a_tre_kinds a_tre_values a_tre_mosts a_tre_owners a_tre_sizes a_tre_firstRanges a_tre_rangeCounts a_tre_begins a_tre_ends a_tre_waiting tre_nodes tre_ranges tre_waits (upd tre_kinds tre_nodes.toNatClampNeg p2) (upd tre_values tre_nodes.toNatClampNeg p3) (upd tre_mosts tre_nodes.toNatClampNeg p4) tre_owners tre_sizes tre_firstRanges tre_rangeCounts tre_waiting) H := hP
        have hD : va_D A (w_9 cI tS a_tre a_tre_kinds a_tre_values a_tre_mosts a_tre_owners a_tre_sizes a_tre_firstRanges a_tre_rangeCounts a_tre_begins a_tre_ends a_tre_waiting tre_nodes tre_ranges tre_waits (upd tre_kinds tre_nodes.toNatClampNeg p2) (upd tre_values tre_nodes.toNatClampNeg p3) (upd tre_mosts tre_nodes.toNatClampNeg p4) tre_owners tre_sizes tre_firstRanges tre_rangeCounts tre_waiting) := hD
        refine lv_aload_n hx hb d_TRE_addOver_93 rfl (lv_at hl 0 rfl) ?_
        refine va_get (D := (dC, dI)) (ci := 3) (v := .ref a_tre_owners) (C := R_TRE) (T := F_TRE) (N := N_TRE) hx hb hts i_TRE hown hK hP 0 rfl rfl 3 (by decide) (hts _ tw_152) (fun _ h9 => h9) rfl d_TRE_addOver_94 ?_
        refine lv_aload_n hx hb d_TRE_addOver_97 rfl (lv_at hl 0 rfl) ?_
        refine va_get (D := (dC, dI)) (ci := 3) (v := .int tre_nodes) (C := R_TRE) (T := F_TRE) (N := N_TRE) hx hb hts i_TRE hown hK hP 0 rfl rfl 10 (by decide) (hts _ tw_159) (fun _ h9 => h9) rfl d_TRE_addOver_98 ?_
        refine lv_iconst (v := (-1)) hx hb d_TRE_addOver_101 (by decide) ?_
        obtain ⟨hin, hf⟩ := grd_in hf
        refine va_iast hx hb hK hP hD hS 4 0 rfl rfl hin d_TRE_addOver_102 (fun H locs hP hD hS => ?_)
        have hP : va_P (dC, dI) classes (w_9 cI tS a_tre a_tre_kinds a_tre_values a_tre_mosts a_tre_owners a_tre_sizes a_tre_firstRanges a_tre_rangeCounts a_tre_begins a_tre_ends a_tre_waiting tre_nodes tre_ranges tre_waits (upd tre_kinds tre_nodes.toNatClampNeg p2) (upd tre_values tre_nodes.toNatClampNeg p3) (upd tre_mosts tre_nodes.toNatClampNeg p4) (upd tre_owners tre_nodes.toNatClampNeg (-1)) tre_sizes tre_firstRanges tre_rangeCounts tre_waiting) H := hP
        have hD : va_D A (w_9 cI tS a_tre a_tre_kinds a_tre_values a_tre_mosts a_tre_owners a_tre_sizes a_tre_firstRanges a_tre_rangeCounts a_tre_begins a_tre_ends a_tre_waiting tre_nodes tre_ranges tre_waits (upd tre_kinds tre_nodes.toNatClampNeg p2) (upd tre_values tre_nodes.toNatClampNeg p3) (upd tre_mosts tre_nodes.toNatClampNeg p4) (upd tre_owners tre_nodes.toNatClampNeg (-1)) tre_sizes tre_firstRanges tre_rangeCounts tre_waiting) := hD
        refine lv_aload_n hx hb d_TRE_addOver_103 rfl (lv_at hl 0 rfl) ?_
        refine va_get (D := (dC, dI)) (ci := 3) (v := .ref a_tre_sizes) (C := R_TRE) (T := F_TRE) (N := N_TRE) hx hb hts i_TRE hown hK hP 0 rfl rfl 4 (by decide) (hts _ tw_153) (fun _ h9 => h9) rfl d_TRE_addOver_104 ?_
        refine lv_aload_n hx hb d_TRE_addOver_107 rfl (lv_at hl 0 rfl) ?_
        refine va_get (D := (dC, dI)) (ci := 3) (v := .int tre_nodes) (C := R_TRE) (T := F_TRE) (N := N_TRE) hx hb hts i_TRE hown hK hP 0 rfl rfl 10 (by decide) (hts _ tw_159) (fun _ h9 => h9) rfl d_TRE_addOver_108 ?_
        refine lv_iload hx hb d_TRE_addOver_111 (lv_at hl 5 rfl) ?_
        refine lv_ldc (v := 1000000) hx hb hown (hts _ tw_599) d_TRE_addOver_113 ?_
        refine va_mmin hx hb (hml.trans hl.1.symm) hown (hts _ tw_600) (hts _ tw_601) (hts _ tw_96) (hts _ tw_602) (Nat.le_of_ble_eq_true rfl) (Nat.le_of_ble_eq_true rfl) (Nat.zero_le _) (Nat.zero_le _) d_TRE_addOver_115 ?_
        obtain ⟨hin, hf⟩ := grd_in hf
        refine va_iast hx hb hK hP hD hS 5 0 rfl rfl hin d_TRE_addOver_118 (fun H locs hP hD hS => ?_)
        have hP : va_P (dC, dI) classes (w_9 cI tS a_tre a_tre_kinds a_tre_values a_tre_mosts a_tre_owners a_tre_sizes a_tre_firstRanges a_tre_rangeCounts a_tre_begins a_tre_ends a_tre_waiting tre_nodes tre_ranges tre_waits (upd tre_kinds tre_nodes.toNatClampNeg p2) (upd tre_values tre_nodes.toNatClampNeg p3) (upd tre_mosts tre_nodes.toNatClampNeg p4) (upd tre_owners tre_nodes.toNatClampNeg (-1)) (upd tre_sizes tre_nodes.toNatClampNeg (if 1000000 < p5 then 1000000 else p5)) tre_firstRanges tre_rangeCounts tre_waiting) H := hP
        have hD : va_D A (w_9 cI tS a_tre a_tre_kinds a_tre_values a_tre_mosts a_tre_owners a_tre_sizes a_tre_firstRanges a_tre_rangeCounts a_tre_begins a_tre_ends a_tre_waiting tre_nodes tre_ranges tre_waits (upd tre_kinds tre_nodes.toNatClampNeg p2) (upd tre_values tre_nodes.toNatClampNeg p3) (upd tre_mosts tre_nodes.toNatClampNeg p4) (upd tre_owners tre_nodes.toNatClampNeg (-1)) (upd tre_sizes tre_nodes.toNatClampNeg (if 1000000 < p5 then 1000000 else p5)) tre_firstRanges tre_rangeCounts tre_waiting) := hD
        refine lv_aload_n hx hb d_TRE_addOver_119 rfl (lv_at hl 0 rfl) ?_
        refine va_get (D := (dC, dI)) (ci := 3) (v := .ref a_tre_firstRanges) (C := R_TRE) (T := F_TRE) (N := N_TRE) hx hb hts i_TRE hown hK hP 0 rfl rfl 5 (by decide) (hts _ tw_154) (fun _ h9 => h9) rfl d_TRE_addOver_120 ?_
        refine lv_aload_n hx hb d_TRE_addOver_123 rfl (lv_at hl 0 rfl) ?_
        refine va_get (D := (dC, dI)) (ci := 3) (v := .int tre_nodes) (C := R_TRE) (T := F_TRE) (N := N_TRE) hx hb hts i_TRE hown hK hP 0 rfl rfl 10 (by decide) (hts _ tw_159) (fun _ h9 => h9) rfl d_TRE_addOver_124 ?_
        refine lv_aload_n hx hb d_TRE_addOver_127 rfl (lv_at hl 0 rfl) ?_
        refine va_get (D := (dC, dI)) (ci := 3) (v := .int tre_ranges) (C := R_TRE) (T := F_TRE) (N := N_TRE) hx hb hts i_TRE hown hK hP 0 rfl rfl 11 (by decide) (hts _ tw_161) (fun _ h9 => h9) rfl d_TRE_addOver_128 ?_
        obtain ⟨hin, hf⟩ := grd_in hf
        refine va_iast hx hb hK hP hD hS 6 0 rfl rfl hin d_TRE_addOver_131 (fun H locs hP hD hS => ?_)
        have hP : va_P (dC, dI) classes (w_9 cI tS a_tre a_tre_kinds a_tre_values a_tre_mosts a_tre_owners a_tre_sizes a_tre_firstRanges a_tre_rangeCounts a_tre_begins a_tre_ends a_tre_waiting tre_nodes tre_ranges tre_waits (upd tre_kinds tre_nodes.toNatClampNeg p2) (upd tre_values tre_nodes.toNatClampNeg p3) (upd tre_mosts tre_nodes.toNatClampNeg p4) (upd tre_owners tre_nodes.toNatClampNeg (-1)) (upd tre_sizes tre_nodes.toNatClampNeg (if 1000000 < p5 then 1000000 else p5)) (upd tre_firstRanges tre_nodes.toNatClampNeg tre_ranges) tre_rangeCounts tre_waiting) H := hP
        have hD : va_D A (w_9 cI tS a_tre a_tre_kinds a_tre_values a_tre_mosts a_tre_owners a_tre_sizes a_tre_firstRanges a_tre_rangeCounts a_tre_begins a_tre_ends a_tre_waiting tre_nodes tre_ranges tre_waits (upd tre_kinds tre_nodes.toNatClampNeg p2) (upd tre_values tre_nodes.toNatClampNeg p3) (upd tre_mosts tre_nodes.toNatClampNeg p4) (upd tre_owners tre_nodes.toNatClampNeg (-1)) (upd tre_sizes tre_nodes.toNatClampNeg (if 1000000 < p5 then 1000000 else p5)) (upd tre_firstRanges tre_nodes.toNatClampNeg tre_ranges) tre_rangeCounts tre_waiting) := hD
        refine lv_aload_n hx hb d_TRE_addOver_132 rfl (lv_at hl 0 rfl) ?_
        refine va_get (D := (dC, dI)) (ci := 3) (v := .ref a_tre_rangeCounts) (C := R_TRE) (T := F_TRE) (N := N_TRE) hx hb hts i_TRE hown hK hP 0 rfl rfl 6 (by decide) (hts _ tw_155) (fun _ h9 => h9) rfl d_TRE_addOver_133 ?_
        refine lv_aload_n hx hb d_TRE_addOver_136 rfl (lv_at hl 0 rfl) ?_
        refine va_get (D := (dC, dI)) (ci := 3) (v := .int tre_nodes) (C := R_TRE) (T := F_TRE) (N := N_TRE) hx hb hts i_TRE hown hK hP 0 rfl rfl 10 (by decide) (hts _ tw_159) (fun _ h9 => h9) rfl d_TRE_addOver_137 ?_
        refine lv_iconst (v := 0) hx hb d_TRE_addOver_140 (by decide) ?_
        obtain ⟨hin, hf⟩ := grd_in hf
        refine va_iast hx hb hK hP hD hS 7 0 rfl rfl hin d_TRE_addOver_141 (fun H locs hP hD hS => ?_)
        have hP : va_P (dC, dI) classes (w_9 cI tS a_tre a_tre_kinds a_tre_values a_tre_mosts a_tre_owners a_tre_sizes a_tre_firstRanges a_tre_rangeCounts a_tre_begins a_tre_ends a_tre_waiting tre_nodes tre_ranges tre_waits (upd tre_kinds tre_nodes.toNatClampNeg p2) (upd tre_values tre_nodes.toNatClampNeg p3) (upd tre_mosts tre_nodes.toNatClampNeg p4) (upd tre_owners tre_nodes.toNatClampNeg (-1)) (upd tre_sizes tre_nodes.toNatClampNeg (if 1000000 < p5 then 1000000 else p5)) (upd tre_firstRanges tre_nodes.toNatClampNeg tre_ranges) (upd tre_rangeCounts tre_nodes.toNatClampNeg 0) tre_waiting) H := hP
        have hD : va_D A (w_9 cI tS a_tre a_tre_kinds a_tre_values a_tre_mosts a_tre_owners a_tre_sizes a_tre_firstRanges a_tre_rangeCounts a_tre_begins a_tre_ends a_tre_waiting tre_nodes tre_ranges tre_waits (upd tre_kinds tre_nodes.toNatClampNeg p2) (upd tre_values tre_nodes.toNatClampNeg p3) (upd tre_mosts tre_nodes.toNatClampNeg p4) (upd tre_owners tre_nodes.toNatClampNeg (-1)) (upd tre_sizes tre_nodes.toNatClampNeg (if 1000000 < p5 then 1000000 else p5)) (upd tre_firstRanges tre_nodes.toNatClampNeg tre_ranges) (upd tre_rangeCounts tre_nodes.toNatClampNeg 0) tre_waiting) := hD
        refine lv_aload_n hx hb d_TRE_addOver_142 rfl (lv_at hl 0 rfl) ?_
        refine va_get (D := (dC, dI)) (ci := 3) (v := .ref a_tre_waiting) (C := R_TRE) (T := F_TRE) (N := N_TRE) hx hb hts i_TRE hown hK hP 0 rfl rfl 9 (by decide) (hts _ tw_158) (fun _ h9 => h9) rfl d_TRE_addOver_143 ?_
        refine lv_aload_n hx hb d_TRE_addOver_146 rfl (lv_at hl 0 rfl) ?_
        refine va_get (D := (dC, dI)) (ci := 3) (v := .int tre_waits) (C := R_TRE) (T := F_TRE) (N := N_TRE) hx hb hts i_TRE hown hK hP 0 rfl rfl 12 (by decide) (hts _ tw_162) (fun _ h9 => h9) rfl d_TRE_addOver_147 ?_
        refine lv_aload_n hx hb d_TRE_addOver_150 rfl (lv_at hl 0 rfl) ?_
        refine va_get (D := (dC, dI)) (ci := 3) (v := .int tre_nodes) (C := R_TRE) (T := F_TRE) (N := N_TRE) hx hb hts i_TRE hown hK hP 0 rfl rfl 10 (by decide) (hts _ tw_159) (fun _ h9 => h9) rfl d_TRE_addOver_151 ?_
        obtain ⟨hin, hf⟩ := grd_in hf
        refine va_iast hx hb hK hP hD hS 8 0 rfl rfl hin d_TRE_addOver_154 (fun H locs hP hD hS => ?_)
        have hP : va_P (dC, dI) classes (w_9 cI tS a_tre a_tre_kinds a_tre_values a_tre_mosts a_tre_owners a_tre_sizes a_tre_firstRanges a_tre_rangeCounts a_tre_begins a_tre_ends a_tre_waiting tre_nodes tre_ranges tre_waits (upd tre_kinds tre_nodes.toNatClampNeg p2) (upd tre_values tre_nodes.toNatClampNeg p3) (upd tre_mosts tre_nodes.toNatClampNeg p4) (upd tre_owners tre_nodes.toNatClampNeg (-1)) (upd tre_sizes tre_nodes.toNatClampNeg (if 1000000 < p5 then 1000000 else p5)) (upd tre_firstRanges tre_nodes.toNatClampNeg tre_ranges) (upd tre_rangeCounts tre_nodes.toNatClampNeg 0) (upd tre_waiting tre_waits.toNatClampNeg tre_nodes)) H := hP
        have hD : va_D A (w_9 cI tS a_tre a_tre_kinds a_tre_values a_tre_mosts a_tre_owners a_tre_sizes a_tre_firstRanges a_tre_rangeCounts a_tre_begins a_tre_ends a_tre_waiting tre_nodes tre_ranges tre_waits (upd tre_kinds tre_nodes.toNatClampNeg p2) (upd tre_values tre_nodes.toNatClampNeg p3) (upd tre_mosts tre_nodes.toNatClampNeg p4) (upd tre_owners tre_nodes.toNatClampNeg (-1)) (upd tre_sizes tre_nodes.toNatClampNeg (if 1000000 < p5 then 1000000 else p5)) (upd tre_firstRanges tre_nodes.toNatClampNeg tre_ranges) (upd tre_rangeCounts tre_nodes.toNatClampNeg 0) (upd tre_waiting tre_waits.toNatClampNeg tre_nodes)) := hD
        refine lv_aload_n hx hb d_TRE_addOver_155 rfl (lv_at hl 0 rfl) ?_
        refine lv_dup hx hb d_TRE_addOver_156 rfl ?_
        refine va_get (D := (dC, dI)) (ci := 3) (v := .int tre_waits) (C := R_TRE) (T := F_TRE) (N := N_TRE) hx hb hts i_TRE hown hK hP 0 rfl rfl 12 (by decide) (hts _ tw_162) (fun _ h9 => h9) rfl d_TRE_addOver_157 ?_
        refine lv_iconst (v := 1) hx hb d_TRE_addOver_160 (by decide) ?_
        refine lv_iadd hx hb d_TRE_addOver_161 ?_
        refine va_put (D := (dC, dI)) (ci := 3) (v := .int (tre_waits + 1)) (ty := .int) (C := R_TRE) (T := F_TRE) (N := N_TRE) hx hb hts i_TRE ty_TRE ty_TRE_ok n_TRE hown hK hP hD hS 0 rfl rfl 12 (by decide) (hts _ tw_162) (fun _ h9 => h9) rfl (ty_TRE_ok 12 (by decide)) rfl rfl (Nat.le_of_ble_eq_true rfl) d_TRE_addOver_162 (fun H locs hP hD hS => ?_)
        have hP : va_P (dC, dI) classes (w_9 cI tS a_tre a_tre_kinds a_tre_values a_tre_mosts a_tre_owners a_tre_sizes a_tre_firstRanges a_tre_rangeCounts a_tre_begins a_tre_ends a_tre_waiting tre_nodes tre_ranges (tre_waits + 1) (upd tre_kinds tre_nodes.toNatClampNeg p2) (upd tre_values tre_nodes.toNatClampNeg p3) (upd tre_mosts tre_nodes.toNatClampNeg p4) (upd tre_owners tre_nodes.toNatClampNeg (-1)) (upd tre_sizes tre_nodes.toNatClampNeg (if 1000000 < p5 then 1000000 else p5)) (upd tre_firstRanges tre_nodes.toNatClampNeg tre_ranges) (upd tre_rangeCounts tre_nodes.toNatClampNeg 0) (upd tre_waiting tre_waits.toNatClampNeg tre_nodes)) H := hP
        have hD : va_D A (w_9 cI tS a_tre a_tre_kinds a_tre_values a_tre_mosts a_tre_owners a_tre_sizes a_tre_firstRanges a_tre_rangeCounts a_tre_begins a_tre_ends a_tre_waiting tre_nodes tre_ranges (tre_waits + 1) (upd tre_kinds tre_nodes.toNatClampNeg p2) (upd tre_values tre_nodes.toNatClampNeg p3) (upd tre_mosts tre_nodes.toNatClampNeg p4) (upd tre_owners tre_nodes.toNatClampNeg (-1)) (upd tre_sizes tre_nodes.toNatClampNeg (if 1000000 < p5 then 1000000 else p5)) (upd tre_firstRanges tre_nodes.toNatClampNeg tre_ranges) (upd tre_rangeCounts tre_nodes.toNatClampNeg 0) (upd tre_waiting tre_waits.toNatClampNeg tre_nodes)) := hD
        refine lv_aload_n hx hb d_TRE_addOver_165 rfl (lv_at hl 0 rfl) ?_
        refine lv_dup hx hb d_TRE_addOver_166 rfl ?_
        refine va_get (D := (dC, dI)) (ci := 3) (v := .int tre_nodes) (C := R_TRE) (T := F_TRE) (N := N_TRE) hx hb hts i_TRE hown hK hP 0 rfl rfl 10 (by decide) (hts _ tw_159) (fun _ h9 => h9) rfl d_TRE_addOver_167 ?_
        refine lv_iconst (v := 1) hx hb d_TRE_addOver_170 (by decide) ?_
        refine lv_iadd hx hb d_TRE_addOver_171 ?_
        refine va_put (D := (dC, dI)) (ci := 3) (v := .int (tre_nodes + 1)) (ty := .int) (C := R_TRE) (T := F_TRE) (N := N_TRE) hx hb hts i_TRE ty_TRE ty_TRE_ok n_TRE hown hK hP hD hS 0 rfl rfl 10 (by decide) (hts _ tw_159) (fun _ h9 => h9) rfl (ty_TRE_ok 10 (by decide)) rfl rfl (Nat.le_of_ble_eq_true rfl) d_TRE_addOver_172 (fun H locs hP hD hS => ?_)
        have hP : va_P (dC, dI) classes (w_9 cI tS a_tre a_tre_kinds a_tre_values a_tre_mosts a_tre_owners a_tre_sizes a_tre_firstRanges a_tre_rangeCounts a_tre_begins a_tre_ends a_tre_waiting (tre_nodes + 1) tre_ranges (tre_waits + 1) (upd tre_kinds tre_nodes.toNatClampNeg p2) (upd tre_values tre_nodes.toNatClampNeg p3) (upd tre_mosts tre_nodes.toNatClampNeg p4) (upd tre_owners tre_nodes.toNatClampNeg (-1)) (upd tre_sizes tre_nodes.toNatClampNeg (if 1000000 < p5 then 1000000 else p5)) (upd tre_firstRanges tre_nodes.toNatClampNeg tre_ranges) (upd tre_rangeCounts tre_nodes.toNatClampNeg 0) (upd tre_waiting tre_waits.toNatClampNeg tre_nodes)) H := hP
        have hD : va_D A (w_9 cI tS a_tre a_tre_kinds a_tre_values a_tre_mosts a_tre_owners a_tre_sizes a_tre_firstRanges a_tre_rangeCounts a_tre_begins a_tre_ends a_tre_waiting (tre_nodes + 1) tre_ranges (tre_waits + 1) (upd tre_kinds tre_nodes.toNatClampNeg p2) (upd tre_values tre_nodes.toNatClampNeg p3) (upd tre_mosts tre_nodes.toNatClampNeg p4) (upd tre_owners tre_nodes.toNatClampNeg (-1)) (upd tre_sizes tre_nodes.toNatClampNeg (if 1000000 < p5 then 1000000 else p5)) (upd tre_firstRanges tre_nodes.toNatClampNeg tre_ranges) (upd tre_rangeCounts tre_nodes.toNatClampNeg 0) (upd tre_waiting tre_waits.toNatClampNeg tre_nodes)) := hD
        obtain rfl := Option.some.inj hf
        exact W.vret hx hb hr (fun t ht hW => ⟨⟨(), rfl, trivial, ⟨by rw [ht]; exact hP, va_K.moved hW.alike hK, hD⟩⟩, hS.F ht⟩) hS.2.2 d_TRE_addOver_175
      · have hf := f_neg c_ hf
        refine lv_aload_n hx hb d_TRE_addOver_28 rfl (lv_at hl 0 rfl) ?_
        refine lv_dup hx hb d_TRE_addOver_29 rfl ?_
        refine va_get (D := (dC, dI)) (ci := 3) (v := .int tre_waits) (C := R_TRE) (T := F_TRE) (N := N_TRE) hx hb hts i_TRE hown hK hP 0 rfl rfl 12 (by decide) (hts _ tw_162) (fun _ h9 => h9) rfl d_TRE_addOver_30 ?_
        refine lv_iconst (v := 1) hx hb d_TRE_addOver_33 (by decide) ?_
        refine lv_isub hx hb d_TRE_addOver_34 ?_
        refine va_put (D := (dC, dI)) (ci := 3) (v := .int (tre_waits - 1)) (ty := .int) (C := R_TRE) (T := F_TRE) (N := N_TRE) hx hb hts i_TRE ty_TRE ty_TRE_ok n_TRE hown hK hP hD hS 0 rfl rfl 12 (by decide) (hts _ tw_162) (fun _ h9 => h9) rfl (ty_TRE_ok 12 (by decide)) rfl rfl (Nat.le_of_ble_eq_true rfl) d_TRE_addOver_35 (fun H locs hP hD hS => ?_)
        have hP : va_P (dC, dI) classes (w_9 cI tS a_tre a_tre_kinds a_tre_values a_tre_mosts a_tre_owners a_tre_sizes a_tre_firstRanges a_tre_rangeCounts a_tre_begins a_tre_ends a_tre_waiting tre_nodes tre_ranges (tre_waits - 1) tre_kinds tre_values tre_mosts tre_owners tre_sizes tre_firstRanges tre_rangeCounts tre_waiting) H := hP
        have hD : va_D A (w_9 cI tS a_tre a_tre_kinds a_tre_values a_tre_mosts a_tre_owners a_tre_sizes a_tre_firstRanges a_tre_rangeCounts a_tre_begins a_tre_ends a_tre_waiting tre_nodes tre_ranges (tre_waits - 1) tre_kinds tre_values tre_mosts tre_owners tre_sizes tre_firstRanges tre_rangeCounts tre_waiting) := hD
        refine lv_aload_n hx hb d_TRE_addOver_38 rfl (lv_at hl 0 rfl) ?_
        refine va_get (D := (dC, dI)) (ci := 3) (v := .ref a_tre_owners) (C := R_TRE) (T := F_TRE) (N := N_TRE) hx hb hts i_TRE hown hK hP 0 rfl rfl 3 (by decide) (hts _ tw_152) (fun _ h9 => h9) rfl d_TRE_addOver_39 ?_
        refine lv_aload_n hx hb d_TRE_addOver_42 rfl (lv_at hl 0 rfl) ?_
        refine va_get (D := (dC, dI)) (ci := 3) (v := .ref a_tre_waiting) (C := R_TRE) (T := F_TRE) (N := N_TRE) hx hb hts i_TRE hown hK hP 0 rfl rfl 9 (by decide) (hts _ tw_158) (fun _ h9 => h9) rfl d_TRE_addOver_43 ?_
        refine lv_aload_n hx hb d_TRE_addOver_46 rfl (lv_at hl 0 rfl) ?_
        refine va_get (D := (dC, dI)) (ci := 3) (v := .int (tre_waits - 1)) (C := R_TRE) (T := F_TRE) (N := N_TRE) hx hb hts i_TRE hown hK hP 0 rfl rfl 12 (by decide) (hts _ tw_162) (fun _ h9 => h9) rfl d_TRE_addOver_47 ?_
        obtain ⟨hin, hf⟩ := grd_in hf
        refine va_iald hx hb hK hP 8 0 rfl rfl hin d_TRE_addOver_50 ?_
        refine lv_aload_n hx hb d_TRE_addOver_51 rfl (lv_at hl 0 rfl) ?_
        refine va_get (D := (dC, dI)) (ci := 3) (v := .int tre_nodes) (C := R_TRE) (T := F_TRE) (N := N_TRE) hx hb hts i_TRE hown hK hP 0 rfl rfl 10 (by decide) (hts _ tw_159) (fun _ h9 => h9) rfl d_TRE_addOver_52 ?_
        obtain ⟨hin, hf⟩ := grd_in hf
        refine va_iast hx hb hK hP hD hS 4 0 rfl rfl hin d_TRE_addOver_55 (fun H locs hP hD hS => ?_)
        have hP : va_P (dC, dI) classes (w_9 cI tS a_tre a_tre_kinds a_tre_values a_tre_mosts a_tre_owners a_tre_sizes a_tre_firstRanges a_tre_rangeCounts a_tre_begins a_tre_ends a_tre_waiting tre_nodes tre_ranges (tre_waits - 1) tre_kinds tre_values tre_mosts (upd tre_owners (tre_waiting (tre_waits - 1).toNatClampNeg).toNatClampNeg tre_nodes) tre_sizes tre_firstRanges tre_rangeCounts tre_waiting) H := hP
        have hD : va_D A (w_9 cI tS a_tre a_tre_kinds a_tre_values a_tre_mosts a_tre_owners a_tre_sizes a_tre_firstRanges a_tre_rangeCounts a_tre_begins a_tre_ends a_tre_waiting tre_nodes tre_ranges (tre_waits - 1) tre_kinds tre_values tre_mosts (upd tre_owners (tre_waiting (tre_waits - 1).toNatClampNeg).toNatClampNeg tre_nodes) tre_sizes tre_firstRanges tre_rangeCounts tre_waiting) := hD
        refine lv_iinc (v := v6 + 1) (lv' := [(6, .int (v6 + 1)), (0, .ref a_tre), (1, .int p1), (2, .int p2), (3, .int p3), (4, .int p4), (5, .int p5)]) hx hb d_TRE_addOver_56 hl (k := 6) rfl rfl (by decide) rfl (fun ls hl => ?_)
        refine lv_goto (tgt := 22) hx hb d_TRE_addOver_59 (by decide) ?_
        exact ih22 (v6 + 1) tre_nodes (tre_waits - 1) tre_kinds tre_values tre_mosts (upd tre_owners (tre_waiting (tre_waits - 1).toNatClampNeg).toNatClampNeg tre_nodes) tre_sizes tre_firstRanges tre_rangeCounts tre_waiting _ _ _ hP hD hS (lv_sub hl [1, 2, 3, 4, 5, 6, 0] rfl) hf
  refine lv_aload_n hx hb d_TRE_addOver_0 rfl (lv_at hl 0 rfl) ?_
  refine va_get (D := (dC, dI)) (ci := 3) (v := .int tre_nodes) (C := R_TRE) (T := F_TRE) (N := N_TRE) hx hb hts i_TRE hown hK hP 0 rfl rfl 10 (by decide) (hts _ tw_159) (fun _ h9 => h9) rfl d_TRE_addOver_1 ?_
  refine lv_sipush (v := 512) hx hb d_TRE_addOver_4 (by decide) ?_
  refine lv_icmp_ge (tgt := 18) hx hb d_TRE_addOver_7 (by decide) (fun c_ => ?_) (fun c_ => ?_)
  · have hf := f_pos c_ hf
    obtain rfl := Option.some.inj hf
    exact W.vret hx hb hr (fun t ht hW => ⟨⟨(), rfl, trivial, ⟨by rw [ht]; exact hP, va_K.moved hW.alike hK, hD⟩⟩, hS.F ht⟩) hS.2.2 d_TRE_addOver_18
  · have hf := f_neg c_ hf
    refine lv_iload_n hx hb d_TRE_addOver_10 rfl (lv_at hl 1 rfl) ?_
    refine lv_aload_n hx hb d_TRE_addOver_11 rfl (lv_at hl 0 rfl) ?_
    refine va_get (D := (dC, dI)) (ci := 3) (v := .int tre_waits) (C := R_TRE) (T := F_TRE) (N := N_TRE) hx hb hts i_TRE hown hK hP 0 rfl rfl 12 (by decide) (hts _ tw_162) (fun _ h9 => h9) rfl d_TRE_addOver_12 ?_
    refine lv_icmp_le (tgt := 19) hx hb d_TRE_addOver_15 (by decide) (fun c_ => ?_) (fun c_ => ?_)
    · have hf := f_pos c_ hf
      refine lv_iconst (v := 0) hx hb d_TRE_addOver_19 (by decide) ?_
      refine lv_istore (lv' := [(6, .int 0), (0, .ref a_tre), (1, .int p1), (2, .int p2), (3, .int p3), (4, .int p4), (5, .int p5)]) hx hb d_TRE_addOver_20 hl (by decide) rfl (fun ls hl => ?_)
      exact L22 FU 0 tre_nodes tre_waits tre_kinds tre_values tre_mosts tre_owners tre_sizes tre_firstRanges tre_rangeCounts tre_waiting _ _ _ hP hD hS (lv_sub hl [1, 2, 3, 4, 5, 6, 0] rfl) hf
    · have hf := f_neg c_ hf
      obtain rfl := Option.some.inj hf
      exact W.vret hx hb hr (fun t ht hW => ⟨⟨(), rfl, trivial, ⟨by rw [ht]; exact hP, va_K.moved hW.alike hK, hD⟩⟩, hS.F ht⟩) hS.2.2 d_TRE_addOver_18
def f_RDR_endRow (tre_nodes : Int32) (tre_ranges : Int32) (tre_waits : Int32) (opn_depth : Int32) (rdr_repeatable : Bool) (tre_kinds : Nat → Int32) (tre_values : Nat → Int32) (tre_mosts : Nat → Int32) (tre_owners : Nat → Int32) (tre_sizes : Nat → Int32) (tre_firstRanges : Nat → Int32) (tre_rangeCounts : Nat → Int32) (tre_waiting : Nat → Int32) (opn_rows : Nat → Int32) (opn_parts : Nat → Int32) : Option (Int32 × Int32 × Bool × (Nat → Int32) × (Nat → Int32) × (Nat → Int32) × (Nat → Int32) × (Nat → Int32) × (Nat → Int32) × (Nat → Int32) × (Nat → Int32) × (Nat → Int32) × (Nat → Int32)) :=
  grd (inb opn_depth 31) (bnd_ (f_TRE_waitingSize tre_waits tre_sizes tre_waiting (opn_parts opn_depth.toNatClampNeg)) (fun x29 => bnd_ (f_TRE_addOver tre_nodes tre_ranges tre_waits tre_kinds tre_values tre_mosts tre_owners tre_sizes tre_firstRanges tre_rangeCounts tre_waiting (opn_parts opn_depth.toNatClampNeg) 4 (opn_parts opn_depth.toNatClampNeg) (-1) x29) (fun x32 => grd (inb opn_depth 31) (grd (inb opn_depth 31) (grd (inb opn_depth 31) (some (x32.1, x32.2.1, false, x32.2.2.1, x32.2.2.2.1, x32.2.2.2.2.1, x32.2.2.2.2.2.1, x32.2.2.2.2.2.2.1, x32.2.2.2.2.2.2.2.1, x32.2.2.2.2.2.2.2.2.1, x32.2.2.2.2.2.2.2.2.2, upd opn_rows opn_depth.toNatClampNeg ((opn_rows opn_depth.toNatClampNeg) + 1), upd opn_parts opn_depth.toNatClampNeg 0)))))))
set_option maxRecDepth 100000 in
set_option maxHeartbeats 4000000 in
theorem c_RDR_endRow (l : Launch) (dC : Nat → ClassId) (dI : Nat → Nat → Nat) (cI : ClassId) (tS : Nat → Nat → Nat) (sz : Nat) (a_tre a_tre_kinds a_tre_values a_tre_mosts a_tre_owners a_tre_sizes a_tre_firstRanges a_tre_rangeCounts a_tre_begins a_tre_ends a_tre_waiting a_opn a_opn_places a_opn_numbers a_opn_flagsAround a_opn_rows a_opn_parts a_rdr a_pat a_mis a_grp a_set a_esc a_cls a_opg a_rep : Nat) (tre_nodes : Int32) (tre_ranges : Int32) (tre_waits : Int32) (opn_depth : Int32) (rdr_place : Int32) (rdr_flags : Int32) (rdr_repeatable : Bool) (tre_kinds : Nat → Int32) (tre_values : Nat → Int32) (tre_mosts : Nat → Int32) (tre_owners : Nat → Int32) (tre_sizes : Nat → Int32) (tre_firstRanges : Nat → Int32) (tre_rangeCounts : Nat → Int32) (tre_waiting : Nat → Int32) (opn_rows : Nat → Int32) (opn_parts : Nat → Int32) (R0 : Int32 × Int32 × Bool × (Nat → Int32) × (Nat → Int32) × (Nat → Int32) × (Nat → Int32) × (Nat → Int32) × (Nat → Int32) × (Nat → Int32) × (Nat → Int32) × (Nat → Int32) × (Nat → Int32)) (hf : f_RDR_endRow tre_nodes tre_ranges tre_waits opn_depth rdr_repeatable tre_kinds tre_values tre_mosts tre_owners tre_sizes tre_firstRanges tre_rangeCounts tre_waiting opn_rows opn_parts = some R0) : Met l y_RDR_endRow ws_RDR_endRow ({ frames := 2, cells := 0, slots := 0, locals := 47 }) (va_Pc [.ref a_rdr] (preS (dC, dI) classes [(cI, .int)] tS (w_10 cI tS a_tre a_tre_kinds a_tre_values a_tre_mosts a_tre_owners a_tre_sizes a_tre_firstRanges a_tre_rangeCounts a_tre_begins a_tre_ends a_tre_waiting a_opn a_opn_places a_opn_numbers a_opn_flagsAround a_opn_rows a_opn_parts a_rdr a_pat a_mis a_grp a_set a_esc a_cls a_opg a_rep tre_nodes tre_ranges tre_waits opn_depth rdr_place rdr_flags rdr_repeatable tre_kinds tre_values tre_mosts tre_owners tre_sizes tre_firstRanges tre_rangeCounts tre_waiting opn_rows opn_parts) sz)) (va_Qv (fun _ : Unit => True) (fun _ t => posS (dC, dI) classes [(cI, .int)] (w_10 cI tS a_tre a_tre_kinds a_tre_values a_tre_mosts a_tre_owners a_tre_sizes a_tre_firstRanges a_tre_rangeCounts a_tre_begins a_tre_ends a_tre_waiting a_opn a_opn_places a_opn_numbers a_opn_flagsAround a_opn_rows a_opn_parts a_rdr a_pat a_mis a_grp a_set a_esc a_cls a_opg a_rep R0.1 tre_ranges R0.2.1 opn_depth rdr_place rdr_flags R0.2.2.1 R0.2.2.2.1 R0.2.2.2.2.1 R0.2.2.2.2.2.1 R0.2.2.2.2.2.2.1 R0.2.2.2.2.2.2.2.1 R0.2.2.2.2.2.2.2.2.1 R0.2.2.2.2.2.2.2.2.2.1 R0.2.2.2.2.2.2.2.2.2.2.1 R0.2.2.2.2.2.2.2.2.2.2.2.1 R0.2.2.2.2.2.2.2.2.2.2.2.2) (va_A (w_10 cI tS a_tre a_tre_kinds a_tre_values a_tre_mosts a_tre_owners a_tre_sizes a_tre_firstRanges a_tre_rangeCounts a_tre_begins a_tre_ends a_tre_waiting a_opn a_opn_places a_opn_numbers a_opn_flagsAround a_opn_rows a_opn_parts a_rdr a_pat a_mis a_grp a_set a_esc a_cls a_opg a_rep tre_nodes tre_ranges tre_waits opn_depth rdr_place rdr_flags rdr_repeatable tre_kinds tre_values tre_mosts tre_owners tre_sizes tre_firstRanges tre_rangeCounts tre_waiting opn_rows opn_parts) sz) t) (va_A (w_10 cI tS a_tre a_tre_kinds a_tre_values a_tre_mosts a_tre_owners a_tre_sizes a_tre_firstRanges a_tre_rangeCounts a_tre_begins a_tre_ends a_tre_waiting a_opn a_opn_places a_opn_numbers a_opn_flagsAround a_opn_rows a_opn_parts a_rdr a_pat a_mis a_grp a_set a_esc a_cls a_opg a_rep tre_nodes tre_ranges tre_waits opn_depth rdr_place rdr_flags rdr_repeatable tre_kinds tre_values tre_mosts tre_owners tre_sizes tre_firstRanges tre_rangeCounts tre_waiting opn_rows opn_parts) sz)) 0 0 (va_A (w_10 cI tS a_tre a_tre_kinds a_tre_values a_tre_mosts a_tre_owners a_tre_sizes a_tre_firstRanges a_tre_rangeCounts a_tre_begins a_tre_ends a_tre_waiting a_opn a_opn_places a_opn_numbers a_opn_flagsAround a_opn_rows a_opn_parts a_rdr a_pat a_mis a_grp a_set a_esc a_cls a_opg a_rep tre_nodes tre_ranges tre_waits opn_depth rdr_place rdr_flags rdr_repeatable tre_kinds tre_values tre_mosts tre_owners tre_sizes tre_firstRanges tre_rangeCounts tre_waiting opn_rows opn_parts) sz) := by
  refine Met.ofW (cc := b_RDR_endRow) (maxL := 2) (ret := none) (by decide) rfl ?_
  intro p e s m args below meth c s₁ B hml hv
  obtain ⟨rfl, hsz, hP, hK, hD0, hst0⟩ := hv
  have hx := B.exec
  have hb := B.bytes
  have hr := B.returns
  have hts0 := atoms_spec (ws := ws_RDR_endRow) B.pre
  have hts : ∀ w ∈ GW, w.before _ s = true := fun w h => hts0 w (List.mem_cons_of_mem _ h)
  have hown : s.vm.findClass R_RDR = some m.cls := findClass_of_methodNamed B.named
  have hlocks := B.notSynchronized
  subst hsz
  have hD := hD0.self (sz := s.heap.size)
  generalize hAe : va_A (w_10 cI tS a_tre a_tre_kinds a_tre_values a_tre_mosts a_tre_owners a_tre_sizes a_tre_firstRanges a_tre_rangeCounts a_tre_begins a_tre_ends a_tre_waiting a_opn a_opn_places a_opn_numbers a_opn_flagsAround a_opn_rows a_opn_parts a_rdr a_pat a_mis a_grp a_set a_esc a_cls a_opg a_rep tre_nodes tre_ranges tre_waits opn_depth rdr_place rdr_flags rdr_repeatable tre_kinds tre_values tre_mosts tre_owners tre_sizes tre_firstRanges tre_rangeCounts tre_waiting opn_rows opn_parts) s.heap.size = A at hD hst0 ⊢
  have hA : ∀ q : Nat, s.heap.size ≤ q → A q := fun q h => by rw [← hAe]; exact Or.inr h
  have hS : va_S A s.heap s.heap [] := va_S.rf
  have hl := lv_entry ([.ref a_rdr]) (n := 2) (Nat.le_of_ble_eq_true rfl)
  rw [lg_entry_eq]
  generalize (lg_sl ([.ref a_rdr]) ++ List.replicate (2 - (lg_sl ([.ref a_rdr])).length) Slot.unset).toArray = ls at hl ⊢
  have hl : lv_has ls 2 [(0, .ref a_rdr)] := hl
  refine lv_aload_n hx hb d_RDR_endRow_0 rfl (lv_at hl 0 rfl) ?_
  refine va_get (D := (dC, dI)) (ci := 10) (v := .ref a_opn) (C := R_RDR) (T := F_RDR) (N := N_RDR) hx hb hts i_RDR hown hK hP 2 rfl rfl 4 (by decide) (hts _ tw_389) (fun _ h9 => h9) rfl d_RDR_endRow_1 ?_
  refine va_getN (D := (dC, dI)) (ci := 5) (v := .ref a_opn_parts) (C := R_OPN) (T := F_OPN) (N := N_OPN) hx hb hts i_OPN hown hK hP 1 rfl rfl 4 (by decide) (va_Nw.use rfl (hst0.2.1 _ tn_228)) (fun _ h9 => h9) rfl d_RDR_endRow_4 ?_
  refine lv_aload_n hx hb d_RDR_endRow_7 rfl (lv_at hl 0 rfl) ?_
  refine va_get (D := (dC, dI)) (ci := 10) (v := .ref a_opn) (C := R_RDR) (T := F_RDR) (N := N_RDR) hx hb hts i_RDR hown hK hP 2 rfl rfl 4 (by decide) (hts _ tw_389) (fun _ h9 => h9) rfl d_RDR_endRow_8 ?_
  refine va_getN (D := (dC, dI)) (ci := 5) (v := .int opn_depth) (C := R_OPN) (T := F_OPN) (N := N_OPN) hx hb hts i_OPN hown hK hP 1 rfl rfl 5 (by decide) (va_Nw.use rfl (hst0.2.1 _ tn_230)) (fun _ h9 => h9) rfl d_RDR_endRow_11 ?_
  obtain ⟨hin, hf⟩ := grd_in hf
  refine va_iald hx hb hK hP 12 0 rfl rfl hin d_RDR_endRow_14 ?_
  refine lv_istore_n (lv' := [(1, .int (opn_parts opn_depth.toNatClampNeg)), (0, .ref a_rdr)]) hx hb d_RDR_endRow_15 rfl hl (by decide) rfl (fun ls hl => ?_)
  refine lv_aload_n hx hb d_RDR_endRow_16 rfl (lv_at hl 1 rfl) ?_
  refine va_get (D := (dC, dI)) (ci := 10) (v := .ref a_tre) (C := R_RDR) (T := F_RDR) (N := N_RDR) hx hb hts i_RDR hown hK hP 2 rfl rfl 2 (by decide) (hts _ tw_387) (fun _ h9 => h9) rfl d_RDR_endRow_17 ?_
  refine lv_iload_n hx hb d_RDR_endRow_20 rfl (lv_at hl 0 rfl) ?_
  refine lv_iconst (v := 4) hx hb d_RDR_endRow_21 (by decide) ?_
  refine lv_iload_n hx hb d_RDR_endRow_22 rfl (lv_at hl 0 rfl) ?_
  refine lv_iconst (v := (-1)) hx hb d_RDR_endRow_23 (by decide) ?_
  refine lv_aload_n hx hb d_RDR_endRow_24 rfl (lv_at hl 1 rfl) ?_
  refine va_get (D := (dC, dI)) (ci := 10) (v := .ref a_tre) (C := R_RDR) (T := F_RDR) (N := N_RDR) hx hb hts i_RDR hown hK hP 2 rfl rfl 2 (by decide) (hts _ tw_387) (fun _ h9 => h9) rfl d_RDR_endRow_25 ?_
  refine lv_iload_n hx hb d_RDR_endRow_28 rfl (lv_at hl 0 rfl) ?_
  obtain ⟨x29, hg, hf⟩ := bnd hf
  have hPc := hP.sub (ws' := (w_8 cI tS a_tre a_tre_kinds a_tre_values a_tre_mosts a_tre_owners a_tre_sizes a_tre_firstRanges a_tre_rangeCounts a_tre_begins a_tre_ends a_tre_waiting tre_nodes tre_ranges tre_waits tre_sizes tre_waiting)) [0, 7, 10] rfl
  have hDc := hD.sub (ws' := (w_8 cI tS a_tre a_tre_kinds a_tre_values a_tre_mosts a_tre_owners a_tre_sizes a_tre_firstRanges a_tre_rangeCounts a_tre_begins a_tre_ends a_tre_waiting tre_nodes tre_ranges tre_waits tre_sizes tre_waiting)) [0, 7, 10] (by decide) rfl
  have hFc := va_free (wc := (w_8 cI tS a_tre a_tre_kinds a_tre_values a_tre_mosts a_tre_owners a_tre_sizes a_tre_firstRanges a_tre_rangeCounts a_tre_begins a_tre_ends a_tre_waiting tre_nodes tre_ranges tre_waits tre_sizes tre_waiting)) hD hS hA [0, 7, 10] rfl
  refine cal_i (va_runV (As := [.int (opn_parts opn_depth.toNatClampNeg)]) (rest := [.int (-1), .int (opn_parts opn_depth.toNatClampNeg), .int 4, .int (opn_parts opn_depth.toNatClampNeg), .ref a_tre]) ⟨hx, hb, hml, hown, hts⟩ (c_TRE_waitingSize l dC dI cI tS s.heap.size a_tre a_tre_kinds a_tre_values a_tre_mosts a_tre_owners a_tre_sizes a_tre_firstRanges a_tre_rangeCounts a_tre_begins a_tre_ends a_tre_waiting tre_nodes tre_ranges tre_waits tre_sizes tre_waiting (opn_parts opn_depth.toNatClampNeg) x29 hg) ⟨callB_of 1 hts (gN tw_594) rfl rfl rfl (hts _ tw_82) (hts _ tw_591) hd_TRE_waitingSize ⟨Nat.le_of_ble_eq_true rfl, Nat.le_of_ble_eq_true rfl⟩, hts _ tw_592, hts _ tw_593⟩ (pre_V hK hPc hDc hst0 hS hFc (va_recv hK hPc (ci := 3) (q0 := 0) rfl rfl)) rfl rfl hl.1 rfl (lv_room (Nat.le_of_ble_eq_true rfl)) d_RDR_endRow_29 ⟨Nat.zero_le _, Nat.zero_le _⟩) hP hD hS hA [0, 7, 10] [1, 2, 3, 4, 5, 6, 8, 9, 11, 12] rfl rfl (by decide) (by decide) (fun H locs hP hD hS => ?_)
  have hP := hP.sub (ws' := (w_10 cI tS a_tre a_tre_kinds a_tre_values a_tre_mosts a_tre_owners a_tre_sizes a_tre_firstRanges a_tre_rangeCounts a_tre_begins a_tre_ends a_tre_waiting a_opn a_opn_places a_opn_numbers a_opn_flagsAround a_opn_rows a_opn_parts a_rdr a_pat a_mis a_grp a_set a_esc a_cls a_opg a_rep tre_nodes tre_ranges tre_waits opn_depth rdr_place rdr_flags rdr_repeatable tre_kinds tre_values tre_mosts tre_owners tre_sizes tre_firstRanges tre_rangeCounts tre_waiting opn_rows opn_parts)) [10, 0, 1, 2, 3, 4, 5, 11, 6, 7, 12, 8, 9] rfl
  have hD := hD.sub (ws' := (w_10 cI tS a_tre a_tre_kinds a_tre_values a_tre_mosts a_tre_owners a_tre_sizes a_tre_firstRanges a_tre_rangeCounts a_tre_begins a_tre_ends a_tre_waiting a_opn a_opn_places a_opn_numbers a_opn_flagsAround a_opn_rows a_opn_parts a_rdr a_pat a_mis a_grp a_set a_esc a_cls a_opg a_rep tre_nodes tre_ranges tre_waits opn_depth rdr_place rdr_flags rdr_repeatable tre_kinds tre_values tre_mosts tre_owners tre_sizes tre_firstRanges tre_rangeCounts tre_waiting opn_rows opn_parts)) [10, 0, 1, 2, 3, 4, 5, 11, 6, 7, 12, 8, 9] (by decide) rfl
  obtain ⟨x32, hg, hf⟩ := bnd hf
  have hPc := hP.sub (ws' := (w_9 cI tS a_tre a_tre_kinds a_tre_values a_tre_mosts a_tre_owners a_tre_sizes a_tre_firstRanges a_tre_rangeCounts a_tre_begins a_tre_ends a_tre_waiting tre_nodes tre_ranges tre_waits tre_kinds tre_values tre_mosts tre_owners tre_sizes tre_firstRanges tre_rangeCounts tre_waiting)) [0, 3, 4, 5, 6, 7, 8, 9, 10] rfl
  have hDc := hD.sub (ws' := (w_9 cI tS a_tre a_tre_kinds a_tre_values a_tre_mosts a_tre_owners a_tre_sizes a_tre_firstRanges a_tre_rangeCounts a_tre_begins a_tre_ends a_tre_waiting tre_nodes tre_ranges tre_waits tre_kinds tre_values tre_mosts tre_owners tre_sizes tre_firstRanges tre_rangeCounts tre_waiting)) [0, 3, 4, 5, 6, 7, 8, 9, 10] (by decide) rfl
  have hFc := va_free (wc := (w_9 cI tS a_tre a_tre_kinds a_tre_values a_tre_mosts a_tre_owners a_tre_sizes a_tre_firstRanges a_tre_rangeCounts a_tre_begins a_tre_ends a_tre_waiting tre_nodes tre_ranges tre_waits tre_kinds tre_values tre_mosts tre_owners tre_sizes tre_firstRanges tre_rangeCounts tre_waiting)) hD hS hA [0, 3, 4, 5, 6, 7, 8, 9, 10] rfl
  refine cal_v (va_runV (As := [.int (opn_parts opn_depth.toNatClampNeg), .int 4, .int (opn_parts opn_depth.toNatClampNeg), .int (-1), .int x29]) (rest := []) ⟨hx, hb, hml, hown, hts⟩ (c_TRE_addOver l dC dI cI tS H.size a_tre a_tre_kinds a_tre_values a_tre_mosts a_tre_owners a_tre_sizes a_tre_firstRanges a_tre_rangeCounts a_tre_begins a_tre_ends a_tre_waiting tre_nodes tre_ranges tre_waits tre_kinds tre_values tre_mosts tre_owners tre_sizes tre_firstRanges tre_rangeCounts tre_waiting (opn_parts opn_depth.toNatClampNeg) 4 (opn_parts opn_depth.toNatClampNeg) (-1) x29 x32 hg) ⟨callB_of 5 hts (gN tw_598) rfl rfl rfl (hts _ tw_82) (hts _ tw_595) hd_TRE_addOver ⟨Nat.le_of_ble_eq_true rfl, Nat.le_of_ble_eq_true rfl⟩, hts _ tw_596, hts _ tw_597⟩ (pre_V hK hPc hDc hst0 hS hFc (va_recv hK hPc (ci := 3) (q0 := 0) rfl rfl)) rfl rfl hl.1 rfl (lv_room (Nat.le_of_ble_eq_true rfl)) d_RDR_endRow_32 ⟨Nat.zero_le _, Nat.zero_le _⟩) hP hD hS hA [0, 3, 4, 5, 6, 7, 8, 9, 10] [1, 2, 11, 12] rfl rfl (by decide) (by decide) (fun H locs hP hD hS => ?_)
  have hP := hP.sub (ws' := (w_10 cI tS a_tre a_tre_kinds a_tre_values a_tre_mosts a_tre_owners a_tre_sizes a_tre_firstRanges a_tre_rangeCounts a_tre_begins a_tre_ends a_tre_waiting a_opn a_opn_places a_opn_numbers a_opn_flagsAround a_opn_rows a_opn_parts a_rdr a_pat a_mis a_grp a_set a_esc a_cls a_opg a_rep x32.1 tre_ranges x32.2.1 opn_depth rdr_place rdr_flags rdr_repeatable x32.2.2.1 x32.2.2.2.1 x32.2.2.2.2.1 x32.2.2.2.2.2.1 x32.2.2.2.2.2.2.1 x32.2.2.2.2.2.2.2.1 x32.2.2.2.2.2.2.2.2.1 x32.2.2.2.2.2.2.2.2.2 opn_rows opn_parts)) [4, 0, 1, 5, 6, 7, 8, 9, 10, 11, 12, 2, 3] rfl
  have hD := hD.sub (ws' := (w_10 cI tS a_tre a_tre_kinds a_tre_values a_tre_mosts a_tre_owners a_tre_sizes a_tre_firstRanges a_tre_rangeCounts a_tre_begins a_tre_ends a_tre_waiting a_opn a_opn_places a_opn_numbers a_opn_flagsAround a_opn_rows a_opn_parts a_rdr a_pat a_mis a_grp a_set a_esc a_cls a_opg a_rep x32.1 tre_ranges x32.2.1 opn_depth rdr_place rdr_flags rdr_repeatable x32.2.2.1 x32.2.2.2.1 x32.2.2.2.2.1 x32.2.2.2.2.2.1 x32.2.2.2.2.2.2.1 x32.2.2.2.2.2.2.2.1 x32.2.2.2.2.2.2.2.2.1 x32.2.2.2.2.2.2.2.2.2 opn_rows opn_parts)) [4, 0, 1, 5, 6, 7, 8, 9, 10, 11, 12, 2, 3] (by decide) rfl
  refine lv_aload_n hx hb d_RDR_endRow_35 rfl (lv_at hl 1 rfl) ?_
  refine va_get (D := (dC, dI)) (ci := 10) (v := .ref a_opn) (C := R_RDR) (T := F_RDR) (N := N_RDR) hx hb hts i_RDR hown hK hP 2 rfl rfl 4 (by decide) (hts _ tw_389) (fun _ h9 => h9) rfl d_RDR_endRow_36 ?_
  refine va_getN (D := (dC, dI)) (ci := 5) (v := .ref a_opn_parts) (C := R_OPN) (T := F_OPN) (N := N_OPN) hx hb hts i_OPN hown hK hP 1 rfl rfl 4 (by decide) (va_Nw.use rfl (hst0.2.1 _ tn_228)) (fun _ h9 => h9) rfl d_RDR_endRow_39 ?_
  refine lv_aload_n hx hb d_RDR_endRow_42 rfl (lv_at hl 1 rfl) ?_
  refine va_get (D := (dC, dI)) (ci := 10) (v := .ref a_opn) (C := R_RDR) (T := F_RDR) (N := N_RDR) hx hb hts i_RDR hown hK hP 2 rfl rfl 4 (by decide) (hts _ tw_389) (fun _ h9 => h9) rfl d_RDR_endRow_43 ?_
  refine va_getN (D := (dC, dI)) (ci := 5) (v := .int opn_depth) (C := R_OPN) (T := F_OPN) (N := N_OPN) hx hb hts i_OPN hown hK hP 1 rfl rfl 5 (by decide) (va_Nw.use rfl (hst0.2.1 _ tn_230)) (fun _ h9 => h9) rfl d_RDR_endRow_46 ?_
  refine lv_iconst (v := 0) hx hb d_RDR_endRow_49 (by decide) ?_
  obtain ⟨hin, hf⟩ := grd_in hf
  refine va_iast hx hb hK hP hD hS 12 0 rfl rfl hin d_RDR_endRow_50 (fun H locs hP hD hS => ?_)
  have hP : va_P (dC, dI) classes (w_10 cI tS a_tre a_tre_kinds a_tre_values a_tre_mosts a_tre_owners a_tre_sizes a_tre_firstRanges a_tre_rangeCounts a_tre_begins a_tre_ends a_tre_waiting a_opn a_opn_places a_opn_numbers a_opn_flagsAround a_opn_rows a_opn_parts a_rdr a_pat a_mis a_grp a_set a_esc a_cls a_opg a_rep x32.1 tre_ranges x32.2.1 opn_depth rdr_place rdr_flags rdr_repeatable x32.2.2.1 x32.2.2.2.1 x32.2.2.2.2.1 x32.2.2.2.2.2.1 x32.2.2.2.2.2.2.1 x32.2.2.2.2.2.2.2.1 x32.2.2.2.2.2.2.2.2.1 x32.2.2.2.2.2.2.2.2.2 opn_rows (upd opn_parts opn_depth.toNatClampNeg 0)) H := hP
  have hD : va_D A (w_10 cI tS a_tre a_tre_kinds a_tre_values a_tre_mosts a_tre_owners a_tre_sizes a_tre_firstRanges a_tre_rangeCounts a_tre_begins a_tre_ends a_tre_waiting a_opn a_opn_places a_opn_numbers a_opn_flagsAround a_opn_rows a_opn_parts a_rdr a_pat a_mis a_grp a_set a_esc a_cls a_opg a_rep x32.1 tre_ranges x32.2.1 opn_depth rdr_place rdr_flags rdr_repeatable x32.2.2.1 x32.2.2.2.1 x32.2.2.2.2.1 x32.2.2.2.2.2.1 x32.2.2.2.2.2.2.1 x32.2.2.2.2.2.2.2.1 x32.2.2.2.2.2.2.2.2.1 x32.2.2.2.2.2.2.2.2.2 opn_rows (upd opn_parts opn_depth.toNatClampNeg 0)) := hD
  refine lv_aload_n hx hb d_RDR_endRow_51 rfl (lv_at hl 1 rfl) ?_
  refine va_get (D := (dC, dI)) (ci := 10) (v := .ref a_opn) (C := R_RDR) (T := F_RDR) (N := N_RDR) hx hb hts i_RDR hown hK hP 2 rfl rfl 4 (by decide) (hts _ tw_389) (fun _ h9 => h9) rfl d_RDR_endRow_52 ?_
  refine va_getN (D := (dC, dI)) (ci := 5) (v := .ref a_opn_rows) (C := R_OPN) (T := F_OPN) (N := N_OPN) hx hb hts i_OPN hown hK hP 1 rfl rfl 3 (by decide) (va_Nw.use rfl (hst0.2.1 _ tn_226)) (fun _ h9 => h9) rfl d_RDR_endRow_55 ?_
  refine lv_aload_n hx hb d_RDR_endRow_58 rfl (lv_at hl 1 rfl) ?_
  refine va_get (D := (dC, dI)) (ci := 10) (v := .ref a_opn) (C := R_RDR) (T := F_RDR) (N := N_RDR) hx hb hts i_RDR hown hK hP 2 rfl rfl 4 (by decide) (hts _ tw_389) (fun _ h9 => h9) rfl d_RDR_endRow_59 ?_
  refine va_getN (D := (dC, dI)) (ci := 5) (v := .int opn_depth) (C := R_OPN) (T := F_OPN) (N := N_OPN) hx hb hts i_OPN hown hK hP 1 rfl rfl 5 (by decide) (va_Nw.use rfl (hst0.2.1 _ tn_230)) (fun _ h9 => h9) rfl d_RDR_endRow_62 ?_
  refine lv_dup2_11 hx hb d_RDR_endRow_65 rfl rfl ?_
  obtain ⟨hin, hf⟩ := grd_in hf
  refine va_iald hx hb hK hP 11 0 rfl rfl hin d_RDR_endRow_66 ?_
  refine lv_iconst (v := 1) hx hb d_RDR_endRow_67 (by decide) ?_
  refine lv_iadd hx hb d_RDR_endRow_68 ?_
  obtain ⟨hin, hf⟩ := grd_in hf
  refine va_iast hx hb hK hP hD hS 11 0 rfl rfl hin d_RDR_endRow_69 (fun H locs hP hD hS => ?_)
  have hP : va_P (dC, dI) classes (w_10 cI tS a_tre a_tre_kinds a_tre_values a_tre_mosts a_tre_owners a_tre_sizes a_tre_firstRanges a_tre_rangeCounts a_tre_begins a_tre_ends a_tre_waiting a_opn a_opn_places a_opn_numbers a_opn_flagsAround a_opn_rows a_opn_parts a_rdr a_pat a_mis a_grp a_set a_esc a_cls a_opg a_rep x32.1 tre_ranges x32.2.1 opn_depth rdr_place rdr_flags rdr_repeatable x32.2.2.1 x32.2.2.2.1 x32.2.2.2.2.1 x32.2.2.2.2.2.1 x32.2.2.2.2.2.2.1 x32.2.2.2.2.2.2.2.1 x32.2.2.2.2.2.2.2.2.1 x32.2.2.2.2.2.2.2.2.2 (upd opn_rows opn_depth.toNatClampNeg ((opn_rows opn_depth.toNatClampNeg) + 1)) (upd opn_parts opn_depth.toNatClampNeg 0)) H := hP
  have hD : va_D A (w_10 cI tS a_tre a_tre_kinds a_tre_values a_tre_mosts a_tre_owners a_tre_sizes a_tre_firstRanges a_tre_rangeCounts a_tre_begins a_tre_ends a_tre_waiting a_opn a_opn_places a_opn_numbers a_opn_flagsAround a_opn_rows a_opn_parts a_rdr a_pat a_mis a_grp a_set a_esc a_cls a_opg a_rep x32.1 tre_ranges x32.2.1 opn_depth rdr_place rdr_flags rdr_repeatable x32.2.2.1 x32.2.2.2.1 x32.2.2.2.2.1 x32.2.2.2.2.2.1 x32.2.2.2.2.2.2.1 x32.2.2.2.2.2.2.2.1 x32.2.2.2.2.2.2.2.2.1 x32.2.2.2.2.2.2.2.2.2 (upd opn_rows opn_depth.toNatClampNeg ((opn_rows opn_depth.toNatClampNeg) + 1)) (upd opn_parts opn_depth.toNatClampNeg 0)) := hD
  refine lv_aload_n hx hb d_RDR_endRow_70 rfl (lv_at hl 1 rfl) ?_
  refine lv_iconst (v := 0) hx hb d_RDR_endRow_71 (by decide) ?_
  refine va_put (D := (dC, dI)) (ci := 10) (v := .int (b2i false)) (ty := .boolean) (C := R_RDR) (T := F_RDR) (N := N_RDR) hx hb hts i_RDR ty_RDR ty_RDR_ok n_RDR hown hK hP hD hS 2 rfl rfl 12 (by decide) (hts _ tw_397) (fun _ h9 => h9) rfl (ty_RDR_ok 12 (by decide)) (nr_b _) (ft_b _) (Nat.le_of_ble_eq_true rfl) d_RDR_endRow_72 (fun H locs hP hD hS => ?_)
  have hP : va_P (dC, dI) classes (w_10 cI tS a_tre a_tre_kinds a_tre_values a_tre_mosts a_tre_owners a_tre_sizes a_tre_firstRanges a_tre_rangeCounts a_tre_begins a_tre_ends a_tre_waiting a_opn a_opn_places a_opn_numbers a_opn_flagsAround a_opn_rows a_opn_parts a_rdr a_pat a_mis a_grp a_set a_esc a_cls a_opg a_rep x32.1 tre_ranges x32.2.1 opn_depth rdr_place rdr_flags false x32.2.2.1 x32.2.2.2.1 x32.2.2.2.2.1 x32.2.2.2.2.2.1 x32.2.2.2.2.2.2.1 x32.2.2.2.2.2.2.2.1 x32.2.2.2.2.2.2.2.2.1 x32.2.2.2.2.2.2.2.2.2 (upd opn_rows opn_depth.toNatClampNeg ((opn_rows opn_depth.toNatClampNeg) + 1)) (upd opn_parts opn_depth.toNatClampNeg 0)) H := hP
  have hD : va_D A (w_10 cI tS a_tre a_tre_kinds a_tre_values a_tre_mosts a_tre_owners a_tre_sizes a_tre_firstRanges a_tre_rangeCounts a_tre_begins a_tre_ends a_tre_waiting a_opn a_opn_places a_opn_numbers a_opn_flagsAround a_opn_rows a_opn_parts a_rdr a_pat a_mis a_grp a_set a_esc a_cls a_opg a_rep x32.1 tre_ranges x32.2.1 opn_depth rdr_place rdr_flags false x32.2.2.1 x32.2.2.2.1 x32.2.2.2.2.1 x32.2.2.2.2.2.1 x32.2.2.2.2.2.2.1 x32.2.2.2.2.2.2.2.1 x32.2.2.2.2.2.2.2.2.1 x32.2.2.2.2.2.2.2.2.2 (upd opn_rows opn_depth.toNatClampNeg ((opn_rows opn_depth.toNatClampNeg) + 1)) (upd opn_parts opn_depth.toNatClampNeg 0)) := hD
  obtain rfl := Option.some.inj hf
  exact W.vret hx hb hr (fun t ht hW => ⟨⟨(), rfl, trivial, ⟨by rw [ht]; exact hP, va_K.moved hW.alike hK, hD⟩⟩, hS.F ht⟩) hS.2.2 d_RDR_endRow_75
def f_PN_isDigit (p0 : Int32) : Option Bool :=
  if p0 < 48 then some false else (if 57 < p0 then some false else some true)
set_option maxRecDepth 100000 in
set_option maxHeartbeats 4000000 in
theorem c_PN_isDigit (l : Launch) (dC : Nat → ClassId) (dI : Nat → Nat → Nat) (cI : ClassId) (tS : Nat → Nat → Nat) (sz : Nat) (p0 : Int32) (R0 : Bool) (hf : f_PN_isDigit p0 = some R0) : Met l y_PN_isDigit ws_PN_isDigit ({ frames := 0, cells := 0, slots := 0, locals := 0 }) (va_Pc [.int p0] (preS (dC, dI) classes [(cI, .int)] tS (w_11 cI tS) sz)) (va_Qi (fun r (_ : Unit) => r = b2i R0) (fun _ t => posS (dC, dI) classes [(cI, .int)] (w_11 cI tS) (va_A (w_11 cI tS) sz) t) (va_A (w_11 cI tS) sz)) 0 0 (va_A (w_11 cI tS) sz) := by
  refine Met.ofW (cc := b_PN_isDigit) (maxL := 1) (ret := (some .boolean)) (by decide) rfl ?_
  intro p e s m args below meth c s₁ B hml hv
  obtain ⟨rfl, hsz, hP, hK, hD0, hst0⟩ := hv
  have hx := B.exec
  have hb := B.bytes
  have hr := B.returns
  have hts0 := atoms_spec (ws := ws_PN_isDigit) B.pre
  have hts : ∀ w ∈ GW, w.before _ s = true := fun w h => hts0 w (List.mem_cons_of_mem _ h)
  have hown : s.vm.findClass R_PN = some m.cls := findClass_of_methodNamed B.named
  have hlocks := B.notSynchronized
  subst hsz
  have hD := hD0.self (sz := s.heap.size)
  generalize hAe : va_A (w_11 cI tS) s.heap.size = A at hD hst0 ⊢
  have hA : ∀ q : Nat, s.heap.size ≤ q → A q := fun q h => by rw [← hAe]; exact Or.inr h
  have hS : va_S A s.heap s.heap [] := va_S.rf
  have hl := lv_entry ([.int p0]) (n := 1) (Nat.le_of_ble_eq_true rfl)
  rw [lg_entry_eq]
  generalize (lg_sl ([.int p0]) ++ List.replicate (1 - (lg_sl ([.int p0])).length) Slot.unset).toArray = ls at hl ⊢
  have hl : lv_has ls 1 [(0, .int p0)] := hl
  refine lv_iload_n hx hb d_PN_isDigit_0 rfl (lv_at hl 0 rfl) ?_
  refine lv_bipush (v := 48) hx hb d_PN_isDigit_1 (by decide) ?_
  refine lv_icmp_lt (tgt := 16) hx hb d_PN_isDigit_3 (by decide) (fun c_ => ?_) (fun c_ => ?_)
  · have hf := f_pos c_ hf
    refine lv_iconst (v := 0) hx hb d_PN_isDigit_16 (by decide) ?_
    obtain rfl := Option.some.inj hf
    exact W.zret (v := b2i false) hx hb hr (nr_b _) (fun t ht hW => ⟨⟨_, (), rfl, rfl, ⟨by rw [ht]; exact hP, va_K.moved hW.alike hK, hD⟩⟩, hS.F ht⟩) hS.2.2 d_PN_isDigit_17
  · have hf := f_neg c_ hf
    refine lv_iload_n hx hb d_PN_isDigit_6 rfl (lv_at hl 0 rfl) ?_
    refine lv_bipush (v := 57) hx hb d_PN_isDigit_7 (by decide) ?_
    refine lv_icmp_gt (tgt := 16) hx hb d_PN_isDigit_9 (by decide) (fun c_ => ?_) (fun c_ => ?_)
    · have hf := f_pos c_ hf
      refine lv_iconst (v := 0) hx hb d_PN_isDigit_16 (by decide) ?_
      obtain rfl := Option.some.inj hf
      exact W.zret (v := b2i false) hx hb hr (nr_b _) (fun t ht hW => ⟨⟨_, (), rfl, rfl, ⟨by rw [ht]; exact hP, va_K.moved hW.alike hK, hD⟩⟩, hS.F ht⟩) hS.2.2 d_PN_isDigit_17
    · have hf := f_neg c_ hf
      refine lv_iconst (v := 1) hx hb d_PN_isDigit_12 (by decide) ?_
      refine lv_goto (tgt := 17) hx hb d_PN_isDigit_13 (by decide) ?_
      obtain rfl := Option.some.inj hf
      exact W.zret (v := b2i true) hx hb hr (nr_b _) (fun t ht hW => ⟨⟨_, (), rfl, rfl, ⟨by rw [ht]; exact hP, va_K.moved hW.alike hK, hD⟩⟩, hS.F ht⟩) hS.2.2 d_PN_isDigit_17
def f_PN_isWord_L31 (p0 : Int32) : Option Bool :=
  if p0 = 95 then some true else some false
def f_PN_isWord_L19 (p0 : Int32) : Option Bool :=
  if p0 < 97 then f_PN_isWord_L31 p0 else (if p0 ≤ 122 then some true else f_PN_isWord_L31 p0)
def f_PN_isWord (p0 : Int32) : Option Bool :=
  bnd_ (f_PN_isDigit p0) (fun x1 => if (b2i x1) = 0 then (if p0 < 65 then f_PN_isWord_L19 p0 else (if p0 ≤ 90 then some true else f_PN_isWord_L19 p0)) else some true)
set_option maxRecDepth 100000 in
set_option maxHeartbeats 4000000 in
theorem c_PN_isWord (l : Launch) (dC : Nat → ClassId) (dI : Nat → Nat → Nat) (cI : ClassId) (tS : Nat → Nat → Nat) (sz : Nat) (p0 : Int32) (R0 : Bool) (hf : f_PN_isWord p0 = some R0) : Met l y_PN_isWord ws_PN_isWord ({ frames := 1, cells := 0, slots := 0, locals := 20 }) (va_Pc [.int p0] (preS (dC, dI) classes [(cI, .int)] tS (w_11 cI tS) sz)) (va_Qi (fun r (_ : Unit) => r = b2i R0) (fun _ t => posS (dC, dI) classes [(cI, .int)] (w_11 cI tS) (va_A (w_11 cI tS) sz) t) (va_A (w_11 cI tS) sz)) 0 0 (va_A (w_11 cI tS) sz) := by
  refine Met.ofW (cc := b_PN_isWord) (maxL := 1) (ret := (some .boolean)) (by decide) rfl ?_
  intro p e s m args below meth c s₁ B hml hv
  obtain ⟨rfl, hsz, hP, hK, hD0, hst0⟩ := hv
  have hx := B.exec
  have hb := B.bytes
  have hr := B.returns
  have hts0 := atoms_spec (ws := ws_PN_isWord) B.pre
  have hts : ∀ w ∈ GW, w.before _ s = true := fun w h => hts0 w (List.mem_cons_of_mem _ h)
  have hown : s.vm.findClass R_PN = some m.cls := findClass_of_methodNamed B.named
  have hlocks := B.notSynchronized
  subst hsz
  have hD := hD0.self (sz := s.heap.size)
  generalize hAe : va_A (w_11 cI tS) s.heap.size = A at hD hst0 ⊢
  have hA : ∀ q : Nat, s.heap.size ≤ q → A q := fun q h => by rw [← hAe]; exact Or.inr h
  have hS : va_S A s.heap s.heap [] := va_S.rf
  have hl := lv_entry ([.int p0]) (n := 1) (Nat.le_of_ble_eq_true rfl)
  rw [lg_entry_eq]
  generalize (lg_sl ([.int p0]) ++ List.replicate (1 - (lg_sl ([.int p0])).length) Slot.unset).toArray = ls at hl ⊢
  have hl : lv_has ls 1 [(0, .int p0)] := hl
  have L31 : ∀ (H : Heap) (locs : List Loc) (ls : Array Slot), va_P (dC, dI) classes (w_11 cI tS) H → va_D A (w_11 cI tS) → va_S A s.heap H locs → lv_has ls 1 [(0, .int p0)] → f_PN_isWord_L31 p0  = some R0 → W p l e (headSpec ws_PN_isWord ({ frames := 1, cells := 0, slots := 0, locals := 20 })).room s m ([.int p0] : List Value).toArray below meth c H locs 0 0 (MQ below (va_Qi (fun r (_ : Unit) => r = b2i R0) (fun _ t => posS (dC, dI) classes [(cI, .int)] (w_11 cI tS) (A) t) (A)) ([.int p0] : List Value).toArray s 0 0 A) (F0 m 31 ls []) := by
    intro  H locs ls hP hD hS hl hf
    refine lv_iload_n hx hb d_PN_isWord_31 rfl (lv_at hl 0 rfl) ?_
    refine lv_bipush (v := 95) hx hb d_PN_isWord_32 (by decide) ?_
    refine lv_icmp_ne (tgt := 41) hx hb d_PN_isWord_34 (by decide) (fun c_ => ?_) (fun c_ => ?_)
    · have hf := f_neg c_ hf
      refine lv_iconst (v := 0) hx hb d_PN_isWord_41 (by decide) ?_
      obtain rfl := Option.some.inj hf
      exact W.zret (v := b2i false) hx hb hr (nr_b _) (fun t ht hW => ⟨⟨_, (), rfl, rfl, ⟨by rw [ht]; exact hP, va_K.moved hW.alike hK, hD⟩⟩, hS.F ht⟩) hS.2.2 d_PN_isWord_42
    · have hf := f_pos c_ hf
      refine lv_iconst (v := 1) hx hb d_PN_isWord_37 (by decide) ?_
      refine lv_goto (tgt := 42) hx hb d_PN_isWord_38 (by decide) ?_
      obtain rfl := Option.some.inj hf
      exact W.zret (v := b2i true) hx hb hr (nr_b _) (fun t ht hW => ⟨⟨_, (), rfl, rfl, ⟨by rw [ht]; exact hP, va_K.moved hW.alike hK, hD⟩⟩, hS.F ht⟩) hS.2.2 d_PN_isWord_42
  have L19 : ∀ (H : Heap) (locs : List Loc) (ls : Array Slot), va_P (dC, dI) classes (w_11 cI tS) H → va_D A (w_11 cI tS) → va_S A s.heap H locs → lv_has ls 1 [(0, .int p0)] → f_PN_isWord_L19 p0  = some R0 → W p l e (headSpec ws_PN_isWord ({ frames := 1, cells := 0, slots := 0, locals := 20 })).room s m ([.int p0] : List Value).toArray below meth c H locs 0 0 (MQ below (va_Qi (fun r (_ : Unit) => r = b2i R0) (fun _ t => posS (dC, dI) classes [(cI, .int)] (w_11 cI tS) (A) t) (A)) ([.int p0] : List Value).toArray s 0 0 A) (F0 m 19 ls []) := by
    intro  H locs ls hP hD hS hl hf
    refine lv_iload_n hx hb d_PN_isWord_19 rfl (lv_at hl 0 rfl) ?_
    refine lv_bipush (v := 97) hx hb d_PN_isWord_20 (by decide) ?_
    refine lv_icmp_lt (tgt := 31) hx hb d_PN_isWord_22 (by decide) (fun c_ => ?_) (fun c_ => ?_)
    · have hf := f_pos c_ hf
      exact L31  _ _ _ hP hD hS (lv_sub hl [0] rfl) hf
    · have hf := f_neg c_ hf
      refine lv_iload_n hx hb d_PN_isWord_25 rfl (lv_at hl 0 rfl) ?_
      refine lv_bipush (v := 122) hx hb d_PN_isWord_26 (by decide) ?_
      refine lv_icmp_le (tgt := 37) hx hb d_PN_isWord_28 (by decide) (fun c_ => ?_) (fun c_ => ?_)
      · have hf := f_pos c_ hf
        refine lv_iconst (v := 1) hx hb d_PN_isWord_37 (by decide) ?_
        refine lv_goto (tgt := 42) hx hb d_PN_isWord_38 (by decide) ?_
        obtain rfl := Option.some.inj hf
        exact W.zret (v := b2i true) hx hb hr (nr_b _) (fun t ht hW => ⟨⟨_, (), rfl, rfl, ⟨by rw [ht]; exact hP, va_K.moved hW.alike hK, hD⟩⟩, hS.F ht⟩) hS.2.2 d_PN_isWord_42
      · have hf := f_neg c_ hf
        exact L31  _ _ _ hP hD hS (lv_sub hl [0] rfl) hf
  refine lv_iload_n hx hb d_PN_isWord_0 rfl (lv_at hl 0 rfl) ?_
  obtain ⟨x1, hg, hf⟩ := bnd hf
  have hPc := hP.sub (ws' := (w_11 cI tS)) [] rfl
  have hDc := hD.sub (ws' := (w_11 cI tS)) [] (by decide) rfl
  have hFc := va_free (wc := (w_11 cI tS)) hD hS hA [] rfl
  refine cal_i (va_runS (As := [.int p0]) (rest := []) ⟨hx, hb, hml, hown, hts⟩ (c_PN_isDigit l dC dI cI tS s.heap.size p0 x1 hg) ⟨callB_of 1 hts (gN tw_621) rfl rfl rfl (hts _ tw_79) (hts _ tw_619) hd_PN_isDigit ⟨Nat.le_of_ble_eq_true rfl, Nat.le_of_ble_eq_true rfl⟩, hts _ tw_620⟩ (pre_S hK hPc hDc hst0 hS hFc) rfl rfl hl.1 rfl (lv_room (Nat.le_of_ble_eq_true rfl)) d_PN_isWord_1 ⟨Nat.zero_le _, Nat.zero_le _⟩) hP hD hS hA [] [] rfl rfl (by decide) (by decide) (fun H locs hP hD hS => ?_)
  have hP := hP.sub (ws' := (w_11 cI tS)) [] rfl
  have hD := hD.sub (ws' := (w_11 cI tS)) [] (by decide) rfl
  refine lv_if_ne (tgt := 37) hx hb d_PN_isWord_4 (by decide) (fun c_ => ?_) (fun c_ => ?_)
  · have hf := f_neg c_ hf
    refine lv_iconst (v := 1) hx hb d_PN_isWord_37 (by decide) ?_
    refine lv_goto (tgt := 42) hx hb d_PN_isWord_38 (by decide) ?_
    obtain rfl := Option.some.inj hf
    exact W.zret (v := b2i true) hx hb hr (nr_b _) (fun t ht hW => ⟨⟨_, (), rfl, rfl, ⟨by rw [ht]; exact hP, va_K.moved hW.alike hK, hD⟩⟩, hS.F ht⟩) hS.2.2 d_PN_isWord_42
  · have hf := f_pos c_ hf
    refine lv_iload_n hx hb d_PN_isWord_7 rfl (lv_at hl 0 rfl) ?_
    refine lv_bipush (v := 65) hx hb d_PN_isWord_8 (by decide) ?_
    refine lv_icmp_lt (tgt := 19) hx hb d_PN_isWord_10 (by decide) (fun c_ => ?_) (fun c_ => ?_)
    · have hf := f_pos c_ hf
      exact L19  _ _ _ hP hD hS (lv_sub hl [0] rfl) hf
    · have hf := f_neg c_ hf
      refine lv_iload_n hx hb d_PN_isWord_13 rfl (lv_at hl 0 rfl) ?_
      refine lv_bipush (v := 90) hx hb d_PN_isWord_14 (by decide) ?_
      refine lv_icmp_le (tgt := 37) hx hb d_PN_isWord_16 (by decide) (fun c_ => ?_) (fun c_ => ?_)
      · have hf := f_pos c_ hf
        refine lv_iconst (v := 1) hx hb d_PN_isWord_37 (by decide) ?_
        refine lv_goto (tgt := 42) hx hb d_PN_isWord_38 (by decide) ?_
        obtain rfl := Option.some.inj hf
        exact W.zret (v := b2i true) hx hb hr (nr_b _) (fun t ht hW => ⟨⟨_, (), rfl, rfl, ⟨by rw [ht]; exact hP, va_K.moved hW.alike hK, hD⟩⟩, hS.F ht⟩) hS.2.2 d_PN_isWord_42
      · have hf := f_neg c_ hf
        exact L19  _ _ _ hP hD hS (lv_sub hl [0] rfl) hf
def f_OPG_readName_L51 (pat_length : Int32) (pat_bytes : Nat → Int32) (p1 : Int32) (opg_nameAt : Int32) (opg_nameLength : Int32) (opg_after : Int32) : Option (Bool × Int32 × Int32 × Int32) :=
  bnd_ (f_PAT_at pat_length pat_bytes p1) (fun x71 => if x71 = 60 then (if opg_nameLength ≤ 0 then some (false, opg_nameAt, opg_nameLength, (opg_nameAt + opg_nameLength) + 1) else bnd_ (f_PAT_at pat_length pat_bytes (((opg_nameAt + opg_nameLength) + 1) - 1)) (fun x96 => if x96 = 62 then some (true, opg_nameAt, opg_nameLength, (opg_nameAt + opg_nameLength) + 1) else some (false, opg_nameAt, opg_nameLength, (opg_nameAt + opg_nameLength) + 1))) else some (false, opg_nameAt, opg_nameLength, (opg_nameAt + opg_nameLength) + 1))
def f_OPG_readName_B7 (pat_length : Int32) (pat_bytes : Nat → Int32) (p1 : Int32) (K7 : (Int32 × Int32 × Int32) → Option (Bool × Int32 × Int32 × Int32)) (opg_nameAt : Int32) (opg_nameLength : Int32) (opg_after : Int32) : Option (Bool × Int32 × Int32 × Int32) :=
  if 12 ≤ opg_nameLength then f_OPG_readName_L51 pat_length pat_bytes p1 opg_nameAt opg_nameLength opg_after else bnd_ (f_PAT_at pat_length pat_bytes (opg_nameAt + opg_nameLength)) (fun x29 => bnd_ (f_PN_isWord x29) (fun x32 => if (b2i x32) = 0 then f_OPG_readName_L51 pat_length pat_bytes p1 opg_nameAt opg_nameLength opg_after else K7 (opg_nameAt, opg_nameLength + 1, opg_after)))
def f_OPG_readName_L7 (pat_length : Int32) (pat_bytes : Nat → Int32) (p1 : Int32) (n : Nat) (a : Int32 × Int32 × Int32) : Option (Bool × Int32 × Int32 × Int32) :=
  lpF (fun K7 v => f_OPG_readName_B7 pat_length pat_bytes p1  K7 v.1 v.2.1 v.2.2) n a
def f_OPG_readName (pat_length : Int32) (opg_nameAt : Int32) (opg_nameLength : Int32) (opg_after : Int32) (pat_bytes : Nat → Int32) (p1 : Int32) : Option (Bool × Int32 × Int32 × Int32) :=
  f_OPG_readName_L7 pat_length pat_bytes p1 FU (p1 + 1, opg_nameLength, opg_after)
set_option maxRecDepth 100000 in
set_option maxHeartbeats 4000000 in
theorem c_OPG_readName (l : Launch) (dC : Nat → ClassId) (dI : Nat → Nat → Nat) (cI : ClassId) (tS : Nat → Nat → Nat) (sz : Nat) (a_pat a_pat_bytes a_opg : Nat) (pat_length : Int32) (opg_numbered : Bool) (opg_flagsAlone : Bool) (opg_nameAt : Int32) (opg_nameLength : Int32) (opg_flags : Int32) (opg_after : Int32) (pat_bytes : Nat → Int32) (p1 : Int32) (R0 : Bool × Int32 × Int32 × Int32) (hf : f_OPG_readName pat_length opg_nameAt opg_nameLength opg_after pat_bytes p1 = some R0) : Met l y_OPG_readName ws_OPG_readName ({ frames := 2, cells := 0, slots := 0, locals := 40 }) (va_Pc [.ref a_opg, .int p1] (preS (dC, dI) classes [(cI, .int)] tS (w_12 cI tS a_pat a_pat_bytes a_opg pat_length opg_numbered opg_flagsAlone opg_nameAt opg_nameLength opg_flags opg_after pat_bytes) sz)) (va_Qi (fun r (_ : Unit) => r = b2i R0.1) (fun _ t => posS (dC, dI) classes [(cI, .int)] (w_12 cI tS a_pat a_pat_bytes a_opg pat_length opg_numbered opg_flagsAlone R0.2.1 R0.2.2.1 opg_flags R0.2.2.2 pat_bytes) (va_A (w_12 cI tS a_pat a_pat_bytes a_opg pat_length opg_numbered opg_flagsAlone opg_nameAt opg_nameLength opg_flags opg_after pat_bytes) sz) t) (va_A (w_12 cI tS a_pat a_pat_bytes a_opg pat_length opg_numbered opg_flagsAlone opg_nameAt opg_nameLength opg_flags opg_after pat_bytes) sz)) 0 0 (va_A (w_12 cI tS a_pat a_pat_bytes a_opg pat_length opg_numbered opg_flagsAlone opg_nameAt opg_nameLength opg_flags opg_after pat_bytes) sz) := by
  refine Met.ofW (cc := b_OPG_readName) (maxL := 2) (ret := (some .boolean)) (by decide) rfl ?_
  intro p e s m args below meth c s₁ B hml hv
  obtain ⟨rfl, hsz, hP, hK, hD0, hst0⟩ := hv
  have hx := B.exec
  have hb := B.bytes
  have hr := B.returns
  have hts0 := atoms_spec (ws := ws_OPG_readName) B.pre
  have hts : ∀ w ∈ GW, w.before _ s = true := fun w h => hts0 w (List.mem_cons_of_mem _ h)
  have hown : s.vm.findClass R_OPG = some m.cls := findClass_of_methodNamed B.named
  have hlocks := B.notSynchronized
  subst hsz
  have hD := hD0.self (sz := s.heap.size)
  generalize hAe : va_A (w_12 cI tS a_pat a_pat_bytes a_opg pat_length opg_numbered opg_flagsAlone opg_nameAt opg_nameLength opg_flags opg_after pat_bytes) s.heap.size = A at hD hst0 ⊢
  have hA : ∀ q : Nat, s.heap.size ≤ q → A q := fun q h => by rw [← hAe]; exact Or.inr h
  have hS : va_S A s.heap s.heap [] := va_S.rf
  have hl := lv_entry ([.ref a_opg, .int p1]) (n := 2) (Nat.le_of_ble_eq_true rfl)
  rw [lg_entry_eq]
  generalize (lg_sl ([.ref a_opg, .int p1]) ++ List.replicate (2 - (lg_sl ([.ref a_opg, .int p1])).length) Slot.unset).toArray = ls at hl ⊢
  have hl : lv_has ls 2 [(0, .ref a_opg), (1, .int p1)] := hl
  have L51 : ∀ (opg_nameAt : Int32) (opg_nameLength : Int32) (opg_after : Int32) (H : Heap) (locs : List Loc) (ls : Array Slot), va_P (dC, dI) classes (w_12 cI tS a_pat a_pat_bytes a_opg pat_length opg_numbered opg_flagsAlone opg_nameAt opg_nameLength opg_flags opg_after pat_bytes) H → va_D A (w_12 cI tS a_pat a_pat_bytes a_opg pat_length opg_numbered opg_flagsAlone opg_nameAt opg_nameLength opg_flags opg_after pat_bytes) → va_S A s.heap H locs → lv_has ls 2 [(0, .ref a_opg), (1, .int p1)] → f_OPG_readName_L51 pat_length pat_bytes p1 opg_nameAt opg_nameLength opg_after = some R0 → W p l e (headSpec ws_OPG_readName ({ frames := 2, cells := 0, slots := 0, locals := 40 })).room s m ([.ref a_opg, .int p1] : List Value).toArray below meth c H locs 0 0 (MQ below (va_Qi (fun r (_ : Unit) => r = b2i R0.1) (fun _ t => posS (dC, dI) classes [(cI, .int)] (w_12 cI tS a_pat a_pat_bytes a_opg pat_length opg_numbered opg_flagsAlone R0.2.1 R0.2.2.1 opg_flags R0.2.2.2 pat_bytes) (A) t) (A)) ([.ref a_opg, .int p1] : List Value).toArray s 0 0 A) (F0 m 51 ls []) := by
    intro opg_nameAt opg_nameLength opg_after H locs ls hP hD hS hl hf
    refine lv_aload_n hx hb d_OPG_readName_51 rfl (lv_at hl 0 rfl) ?_
    refine lv_aload_n hx hb d_OPG_readName_52 rfl (lv_at hl 0 rfl) ?_
    refine va_get (D := (dC, dI)) (ci := 8) (v := .int opg_nameAt) (C := R_OPG) (T := F_OPG) (N := N_OPG) hx hb hts i_OPG hown hK hP 1 rfl rfl 3 (by decide) (hts _ tw_333) (fun _ h9 => h9) rfl d_OPG_readName_53 ?_
    refine lv_aload_n hx hb d_OPG_readName_56 rfl (lv_at hl 0 rfl) ?_
    refine va_get (D := (dC, dI)) (ci := 8) (v := .int opg_nameLength) (C := R_OPG) (T := F_OPG) (N := N_OPG) hx hb hts i_OPG hown hK hP 1 rfl rfl 4 (by decide) (hts _ tw_335) (fun _ h9 => h9) rfl d_OPG_readName_57 ?_
    refine lv_iadd hx hb d_OPG_readName_60 ?_
    refine lv_iconst (v := 1) hx hb d_OPG_readName_61 (by decide) ?_
    refine lv_iadd hx hb d_OPG_readName_62 ?_
    refine va_put (D := (dC, dI)) (ci := 8) (v := .int ((opg_nameAt + opg_nameLength) + 1)) (ty := .int) (C := R_OPG) (T := F_OPG) (N := N_OPG) hx hb hts i_OPG ty_OPG ty_OPG_ok n_OPG hown hK hP hD hS 1 rfl rfl 6 (by decide) (hts _ tw_339) (fun _ h9 => h9) rfl (ty_OPG_ok 6 (by decide)) rfl rfl (Nat.le_of_ble_eq_true rfl) d_OPG_readName_63 (fun H locs hP hD hS => ?_)
    have hP : va_P (dC, dI) classes (w_12 cI tS a_pat a_pat_bytes a_opg pat_length opg_numbered opg_flagsAlone opg_nameAt opg_nameLength opg_flags ((opg_nameAt + opg_nameLength) + 1) pat_bytes) H := hP
    have hD : va_D A (w_12 cI tS a_pat a_pat_bytes a_opg pat_length opg_numbered opg_flagsAlone opg_nameAt opg_nameLength opg_flags ((opg_nameAt + opg_nameLength) + 1) pat_bytes) := hD
    refine lv_aload_n hx hb d_OPG_readName_66 rfl (lv_at hl 0 rfl) ?_
    refine va_get (D := (dC, dI)) (ci := 8) (v := .ref a_pat) (C := R_OPG) (T := F_OPG) (N := N_OPG) hx hb hts i_OPG hown hK hP 1 rfl rfl 0 (by decide) (hts _ tw_328) (fun _ h9 => h9) rfl d_OPG_readName_67 ?_
    refine lv_iload_n hx hb d_OPG_readName_70 rfl (lv_at hl 1 rfl) ?_
    obtain ⟨x71, hg, hf⟩ := bnd hf
    have hPc := hP.sub (ws' := (w_0 cI tS a_pat a_pat_bytes pat_length pat_bytes)) [0, 2] rfl
    have hDc := hD.sub (ws' := (w_0 cI tS a_pat a_pat_bytes pat_length pat_bytes)) [0, 2] (by decide) rfl
    have hFc := va_free (wc := (w_0 cI tS a_pat a_pat_bytes pat_length pat_bytes)) hD hS hA [0, 2] rfl
    refine cal_i (va_runV (As := [.int p1]) (rest := []) ⟨hx, hb, hml, hown, hts⟩ (c_PAT_at l dC dI cI tS H.size a_pat a_pat_bytes pat_length pat_bytes p1 x71 hg) ⟨callB_of 1 hts (gN tw_586) rfl rfl rfl (hts _ tw_80) (hts _ tw_611) hd_PAT_at ⟨Nat.le_of_ble_eq_true rfl, Nat.le_of_ble_eq_true rfl⟩, hts _ tw_584, hts _ tw_585⟩ (pre_V hK hPc hDc hst0 hS hFc (va_recv hK hPc (ci := 0) (q0 := 0) rfl rfl)) rfl rfl hl.1 rfl (lv_room (Nat.le_of_ble_eq_true rfl)) d_OPG_readName_71 ⟨Nat.zero_le _, Nat.zero_le _⟩) hP hD hS hA [0, 2] [1] rfl rfl (by decide) (by decide) (fun H locs hP hD hS => ?_)
    have hP := hP.sub (ws' := (w_12 cI tS a_pat a_pat_bytes a_opg pat_length opg_numbered opg_flagsAlone opg_nameAt opg_nameLength opg_flags ((opg_nameAt + opg_nameLength) + 1) pat_bytes)) [1, 0, 2] rfl
    have hD := hD.sub (ws' := (w_12 cI tS a_pat a_pat_bytes a_opg pat_length opg_numbered opg_flagsAlone opg_nameAt opg_nameLength opg_flags ((opg_nameAt + opg_nameLength) + 1) pat_bytes)) [1, 0, 2] (by decide) rfl
    refine lv_bipush (v := 60) hx hb d_OPG_readName_74 (by decide) ?_
    refine lv_icmp_ne (tgt := 108) hx hb d_OPG_readName_76 (by decide) (fun c_ => ?_) (fun c_ => ?_)
    · have hf := f_neg c_ hf
      refine lv_iconst (v := 0) hx hb d_OPG_readName_108 (by decide) ?_
      obtain rfl := Option.some.inj hf
      exact W.zret (v := b2i false) hx hb hr (nr_b _) (fun t ht hW => ⟨⟨_, (), rfl, rfl, ⟨by rw [ht]; exact hP, va_K.moved hW.alike hK, hD⟩⟩, hS.F ht⟩) hS.2.2 d_OPG_readName_109
    · have hf := f_pos c_ hf
      refine lv_aload_n hx hb d_OPG_readName_79 rfl (lv_at hl 0 rfl) ?_
      refine va_get (D := (dC, dI)) (ci := 8) (v := .int opg_nameLength) (C := R_OPG) (T := F_OPG) (N := N_OPG) hx hb hts i_OPG hown hK hP 1 rfl rfl 4 (by decide) (hts _ tw_335) (fun _ h9 => h9) rfl d_OPG_readName_80 ?_
      refine lv_if_le (tgt := 108) hx hb d_OPG_readName_83 (by decide) (fun c_ => ?_) (fun c_ => ?_)
      · have hf := f_pos c_ hf
        refine lv_iconst (v := 0) hx hb d_OPG_readName_108 (by decide) ?_
        obtain rfl := Option.some.inj hf
        exact W.zret (v := b2i false) hx hb hr (nr_b _) (fun t ht hW => ⟨⟨_, (), rfl, rfl, ⟨by rw [ht]; exact hP, va_K.moved hW.alike hK, hD⟩⟩, hS.F ht⟩) hS.2.2 d_OPG_readName_109
      · have hf := f_neg c_ hf
        refine lv_aload_n hx hb d_OPG_readName_86 rfl (lv_at hl 0 rfl) ?_
        refine va_get (D := (dC, dI)) (ci := 8) (v := .ref a_pat) (C := R_OPG) (T := F_OPG) (N := N_OPG) hx hb hts i_OPG hown hK hP 1 rfl rfl 0 (by decide) (hts _ tw_328) (fun _ h9 => h9) rfl d_OPG_readName_87 ?_
        refine lv_aload_n hx hb d_OPG_readName_90 rfl (lv_at hl 0 rfl) ?_
        refine va_get (D := (dC, dI)) (ci := 8) (v := .int ((opg_nameAt + opg_nameLength) + 1)) (C := R_OPG) (T := F_OPG) (N := N_OPG) hx hb hts i_OPG hown hK hP 1 rfl rfl 6 (by decide) (hts _ tw_339) (fun _ h9 => h9) rfl d_OPG_readName_91 ?_
        refine lv_iconst (v := 1) hx hb d_OPG_readName_94 (by decide) ?_
        refine lv_isub hx hb d_OPG_readName_95 ?_
        obtain ⟨x96, hg, hf⟩ := bnd hf
        have hPc := hP.sub (ws' := (w_0 cI tS a_pat a_pat_bytes pat_length pat_bytes)) [0, 2] rfl
        have hDc := hD.sub (ws' := (w_0 cI tS a_pat a_pat_bytes pat_length pat_bytes)) [0, 2] (by decide) rfl
        have hFc := va_free (wc := (w_0 cI tS a_pat a_pat_bytes pat_length pat_bytes)) hD hS hA [0, 2] rfl
        refine cal_i (va_runV (As := [.int (((opg_nameAt + opg_nameLength) + 1) - 1)]) (rest := []) ⟨hx, hb, hml, hown, hts⟩ (c_PAT_at l dC dI cI tS H.size a_pat a_pat_bytes pat_length pat_bytes (((opg_nameAt + opg_nameLength) + 1) - 1) x96 hg) ⟨callB_of 1 hts (gN tw_586) rfl rfl rfl (hts _ tw_80) (hts _ tw_611) hd_PAT_at ⟨Nat.le_of_ble_eq_true rfl, Nat.le_of_ble_eq_true rfl⟩, hts _ tw_584, hts _ tw_585⟩ (pre_V hK hPc hDc hst0 hS hFc (va_recv hK hPc (ci := 0) (q0 := 0) rfl rfl)) rfl rfl hl.1 rfl (lv_room (Nat.le_of_ble_eq_true rfl)) d_OPG_readName_96 ⟨Nat.zero_le _, Nat.zero_le _⟩) hP hD hS hA [0, 2] [1] rfl rfl (by decide) (by decide) (fun H locs hP hD hS => ?_)
        have hP := hP.sub (ws' := (w_12 cI tS a_pat a_pat_bytes a_opg pat_length opg_numbered opg_flagsAlone opg_nameAt opg_nameLength opg_flags ((opg_nameAt + opg_nameLength) + 1) pat_bytes)) [1, 0, 2] rfl
        have hD := hD.sub (ws' := (w_12 cI tS a_pat a_pat_bytes a_opg pat_length opg_numbered opg_flagsAlone opg_nameAt opg_nameLength opg_flags ((opg_nameAt + opg_nameLength) + 1) pat_bytes)) [1, 0, 2] (by decide) rfl
        refine lv_bipush (v := 62) hx hb d_OPG_readName_99 (by decide) ?_
        refine lv_icmp_ne (tgt := 108) hx hb d_OPG_readName_101 (by decide) (fun c_ => ?_) (fun c_ => ?_)
        · have hf := f_neg c_ hf
          refine lv_iconst (v := 0) hx hb d_OPG_readName_108 (by decide) ?_
          obtain rfl := Option.some.inj hf
          exact W.zret (v := b2i false) hx hb hr (nr_b _) (fun t ht hW => ⟨⟨_, (), rfl, rfl, ⟨by rw [ht]; exact hP, va_K.moved hW.alike hK, hD⟩⟩, hS.F ht⟩) hS.2.2 d_OPG_readName_109
        · have hf := f_pos c_ hf
          refine lv_iconst (v := 1) hx hb d_OPG_readName_104 (by decide) ?_
          refine lv_goto (tgt := 109) hx hb d_OPG_readName_105 (by decide) ?_
          obtain rfl := Option.some.inj hf
          exact W.zret (v := b2i true) hx hb hr (nr_b _) (fun t ht hW => ⟨⟨_, (), rfl, rfl, ⟨by rw [ht]; exact hP, va_K.moved hW.alike hK, hD⟩⟩, hS.F ht⟩) hS.2.2 d_OPG_readName_109
  have L7 : ∀ n7 : Nat, ∀ (opg_nameAt : Int32) (opg_nameLength : Int32) (opg_after : Int32) (H : Heap) (locs : List Loc) (ls : Array Slot), va_P (dC, dI) classes (w_12 cI tS a_pat a_pat_bytes a_opg pat_length opg_numbered opg_flagsAlone opg_nameAt opg_nameLength opg_flags opg_after pat_bytes) H → va_D A (w_12 cI tS a_pat a_pat_bytes a_opg pat_length opg_numbered opg_flagsAlone opg_nameAt opg_nameLength opg_flags opg_after pat_bytes) → va_S A s.heap H locs → lv_has ls 2 [(0, .ref a_opg), (1, .int p1)] → f_OPG_readName_L7 pat_length pat_bytes p1 n7 (opg_nameAt, opg_nameLength, opg_after) = some R0 → W p l e (headSpec ws_OPG_readName ({ frames := 2, cells := 0, slots := 0, locals := 40 })).room s m ([.ref a_opg, .int p1] : List Value).toArray below meth c H locs 0 0 (MQ below (va_Qi (fun r (_ : Unit) => r = b2i R0.1) (fun _ t => posS (dC, dI) classes [(cI, .int)] (w_12 cI tS a_pat a_pat_bytes a_opg pat_length opg_numbered opg_flagsAlone R0.2.1 R0.2.2.1 opg_flags R0.2.2.2 pat_bytes) (A) t) (A)) ([.ref a_opg, .int p1] : List Value).toArray s 0 0 A) (F0 m 7 ls []) := by
    intro n7
    induction n7 with
    | zero =>
      intro opg_nameAt opg_nameLength opg_after H locs ls hP hD hS hl hf
      exact absurd (show (none : Option _) = some R0 from hf) (fun h => by cases h)
    | succ n7 ih7 =>
      intro opg_nameAt opg_nameLength opg_after H locs ls hP hD hS hl hf
      have hf : f_OPG_readName_B7 pat_length pat_bytes p1 (f_OPG_readName_L7 pat_length pat_bytes p1 n7) opg_nameAt opg_nameLength opg_after = some R0 := hf
      refine lv_aload_n hx hb d_OPG_readName_7 rfl (lv_at hl 0 rfl) ?_
      refine va_get (D := (dC, dI)) (ci := 8) (v := .int opg_nameLength) (C := R_OPG) (T := F_OPG) (N := N_OPG) hx hb hts i_OPG hown hK hP 1 rfl rfl 4 (by decide) (hts _ tw_335) (fun _ h9 => h9) rfl d_OPG_readName_8 ?_
      refine lv_bipush (v := 12) hx hb d_OPG_readName_11 (by decide) ?_
      refine lv_icmp_ge (tgt := 51) hx hb d_OPG_readName_13 (by decide) (fun c_ => ?_) (fun c_ => ?_)
      · have hf := f_pos c_ hf
        exact L51 opg_nameAt opg_nameLength opg_after _ _ _ hP hD hS (lv_sub hl [0, 1] rfl) hf
      · have hf := f_neg c_ hf
        refine lv_aload_n hx hb d_OPG_readName_16 rfl (lv_at hl 0 rfl) ?_
        refine va_get (D := (dC, dI)) (ci := 8) (v := .ref a_pat) (C := R_OPG) (T := F_OPG) (N := N_OPG) hx hb hts i_OPG hown hK hP 1 rfl rfl 0 (by decide) (hts _ tw_328) (fun _ h9 => h9) rfl d_OPG_readName_17 ?_
        refine lv_aload_n hx hb d_OPG_readName_20 rfl (lv_at hl 0 rfl) ?_
        refine va_get (D := (dC, dI)) (ci := 8) (v := .int opg_nameAt) (C := R_OPG) (T := F_OPG) (N := N_OPG) hx hb hts i_OPG hown hK hP 1 rfl rfl 3 (by decide) (hts _ tw_333) (fun _ h9 => h9) rfl d_OPG_readName_21 ?_
        refine lv_aload_n hx hb d_OPG_readName_24 rfl (lv_at hl 0 rfl) ?_
        refine va_get (D := (dC, dI)) (ci := 8) (v := .int opg_nameLength) (C := R_OPG) (T := F_OPG) (N := N_OPG) hx hb hts i_OPG hown hK hP 1 rfl rfl 4 (by decide) (hts _ tw_335) (fun _ h9 => h9) rfl d_OPG_readName_25 ?_
        refine lv_iadd hx hb d_OPG_readName_28 ?_
        obtain ⟨x29, hg, hf⟩ := bnd hf
        have hPc := hP.sub (ws' := (w_0 cI tS a_pat a_pat_bytes pat_length pat_bytes)) [0, 2] rfl
        have hDc := hD.sub (ws' := (w_0 cI tS a_pat a_pat_bytes pat_length pat_bytes)) [0, 2] (by decide) rfl
        have hFc := va_free (wc := (w_0 cI tS a_pat a_pat_bytes pat_length pat_bytes)) hD hS hA [0, 2] rfl
        refine cal_i (va_runV (As := [.int (opg_nameAt + opg_nameLength)]) (rest := []) ⟨hx, hb, hml, hown, hts⟩ (c_PAT_at l dC dI cI tS H.size a_pat a_pat_bytes pat_length pat_bytes (opg_nameAt + opg_nameLength) x29 hg) ⟨callB_of 1 hts (gN tw_586) rfl rfl rfl (hts _ tw_80) (hts _ tw_611) hd_PAT_at ⟨Nat.le_of_ble_eq_true rfl, Nat.le_of_ble_eq_true rfl⟩, hts _ tw_584, hts _ tw_585⟩ (pre_V hK hPc hDc hst0 hS hFc (va_recv hK hPc (ci := 0) (q0 := 0) rfl rfl)) rfl rfl hl.1 rfl (lv_room (Nat.le_of_ble_eq_true rfl)) d_OPG_readName_29 ⟨Nat.zero_le _, Nat.zero_le _⟩) hP hD hS hA [0, 2] [1] rfl rfl (by decide) (by decide) (fun H locs hP hD hS => ?_)
        have hP := hP.sub (ws' := (w_12 cI tS a_pat a_pat_bytes a_opg pat_length opg_numbered opg_flagsAlone opg_nameAt opg_nameLength opg_flags opg_after pat_bytes)) [1, 0, 2] rfl
        have hD := hD.sub (ws' := (w_12 cI tS a_pat a_pat_bytes a_opg pat_length opg_numbered opg_flagsAlone opg_nameAt opg_nameLength opg_flags opg_after pat_bytes)) [1, 0, 2] (by decide) rfl
        obtain ⟨x32, hg, hf⟩ := bnd hf
        have hPc := hP.sub (ws' := (w_11 cI tS)) [] rfl
        have hDc := hD.sub (ws' := (w_11 cI tS)) [] (by decide) rfl
        have hFc := va_free (wc := (w_11 cI tS)) hD hS hA [] rfl
        refine cal_i (va_runSN (As := [.int x29]) (rest := []) ⟨hx, hb, hml, hown, hts⟩ (c_PN_isWord l dC dI cI tS H.size x29 x32 hg) ⟨va_cnB 1 hts (gN tw_618) rfl rfl rfl (hst0.2.1 _ tn_616) (hts _ tw_79) hd_PN_isWord ⟨Nat.le_of_ble_eq_true rfl, Nat.le_of_ble_eq_true rfl⟩, hts _ tw_617, trivial⟩ (pre_S hK hPc hDc hst0 hS hFc) rfl rfl hl.1 rfl (lv_room (Nat.le_of_ble_eq_true rfl)) d_OPG_readName_32 ⟨Nat.zero_le _, Nat.zero_le _⟩) hP hD hS hA [] [0, 1, 2] rfl rfl (by decide) (by decide) (fun H locs hP hD hS => ?_)
        have hP := hP.sub (ws' := (w_12 cI tS a_pat a_pat_bytes a_opg pat_length opg_numbered opg_flagsAlone opg_nameAt opg_nameLength opg_flags opg_after pat_bytes)) [0, 1, 2] rfl
        have hD := hD.sub (ws' := (w_12 cI tS a_pat a_pat_bytes a_opg pat_length opg_numbered opg_flagsAlone opg_nameAt opg_nameLength opg_flags opg_after pat_bytes)) [0, 1, 2] (by decide) rfl
        refine lv_if_eq (tgt := 51) hx hb d_OPG_readName_35 (by decide) (fun c_ => ?_) (fun c_ => ?_)
        · have hf := f_pos c_ hf
          exact L51 opg_nameAt opg_nameLength opg_after _ _ _ hP hD hS (lv_sub hl [0, 1] rfl) hf
        · have hf := f_neg c_ hf
          refine lv_aload_n hx hb d_OPG_readName_38 rfl (lv_at hl 0 rfl) ?_
          refine lv_dup hx hb d_OPG_readName_39 rfl ?_
          refine va_get (D := (dC, dI)) (ci := 8) (v := .int opg_nameLength) (C := R_OPG) (T := F_OPG) (N := N_OPG) hx hb hts i_OPG hown hK hP 1 rfl rfl 4 (by decide) (hts _ tw_335) (fun _ h9 => h9) rfl d_OPG_readName_40 ?_
          refine lv_iconst (v := 1) hx hb d_OPG_readName_43 (by decide) ?_
          refine lv_iadd hx hb d_OPG_readName_44 ?_
          refine va_put (D := (dC, dI)) (ci := 8) (v := .int (opg_nameLength + 1)) (ty := .int) (C := R_OPG) (T := F_OPG) (N := N_OPG) hx hb hts i_OPG ty_OPG ty_OPG_ok n_OPG hown hK hP hD hS 1 rfl rfl 4 (by decide) (hts _ tw_335) (fun _ h9 => h9) rfl (ty_OPG_ok 4 (by decide)) rfl rfl (Nat.le_of_ble_eq_true rfl) d_OPG_readName_45 (fun H locs hP hD hS => ?_)
          have hP : va_P (dC, dI) classes (w_12 cI tS a_pat a_pat_bytes a_opg pat_length opg_numbered opg_flagsAlone opg_nameAt (opg_nameLength + 1) opg_flags opg_after pat_bytes) H := hP
          have hD : va_D A (w_12 cI tS a_pat a_pat_bytes a_opg pat_length opg_numbered opg_flagsAlone opg_nameAt (opg_nameLength + 1) opg_flags opg_after pat_bytes) := hD
          refine lv_goto (tgt := 7) hx hb d_OPG_readName_48 (by decide) ?_
          exact ih7 opg_nameAt (opg_nameLength + 1) opg_after _ _ _ hP hD hS (lv_sub hl [0, 1] rfl) hf
  refine lv_aload_n hx hb d_OPG_readName_0 rfl (lv_at hl 0 rfl) ?_
  refine lv_iload_n hx hb d_OPG_readName_1 rfl (lv_at hl 1 rfl) ?_
  refine lv_iconst (v := 1) hx hb d_OPG_readName_2 (by decide) ?_
  refine lv_iadd hx hb d_OPG_readName_3 ?_
  refine va_put (D := (dC, dI)) (ci := 8) (v := .int (p1 + 1)) (ty := .int) (C := R_OPG) (T := F_OPG) (N := N_OPG) hx hb hts i_OPG ty_OPG ty_OPG_ok n_OPG hown hK hP hD hS 1 rfl rfl 3 (by decide) (hts _ tw_333) (fun _ h9 => h9) rfl (ty_OPG_ok 3 (by decide)) rfl rfl (Nat.le_of_ble_eq_true rfl) d_OPG_readName_4 (fun H locs hP hD hS => ?_)
  have hP : va_P (dC, dI) classes (w_12 cI tS a_pat a_pat_bytes a_opg pat_length opg_numbered opg_flagsAlone (p1 + 1) opg_nameLength opg_flags opg_after pat_bytes) H := hP
  have hD : va_D A (w_12 cI tS a_pat a_pat_bytes a_opg pat_length opg_numbered opg_flagsAlone (p1 + 1) opg_nameLength opg_flags opg_after pat_bytes) := hD
  exact L7 FU (p1 + 1) opg_nameLength opg_after _ _ _ hP hD hS (lv_sub hl [0, 1] rfl) hf
