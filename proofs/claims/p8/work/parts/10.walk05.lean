def f_SET_addKin_B64 (p1 : Int32) (p2 : Int32) (p3 : Int32) (K64 : (Bool × Int32 × Int32 × (Nat → Int32) × (Nat → Int32)) → Option (Int32 × (Nat → Int32) × (Nat → Int32))) (v4 : Bool) (v5 : Int32) (set_pieces : Int32) (set_begins : Nat → Int32) (set_ends : Nat → Int32) : Option (Int32 × (Nat → Int32) × (Nat → Int32)) :=
  if (b2i v4) = 0 then some (set_pieces, set_begins, set_ends) else (if (p1 + 4) ≤ v5 then some (set_pieces, set_begins, set_ends) else (if (Int32.ofNat (stN 15)) ≤ v5 then some (set_pieces, set_begins, set_ends) else grd (inb v5 (stN 15)) (grd (inb v5 (stN 15)) (bnd_ (f_SET_add set_pieces set_begins set_ends (stF 15 v5.toNatClampNeg) (stF 15 v5.toNatClampNeg)) (fun x99 => K64 (v4, v5 + 1, x99.1, x99.2.1, x99.2.2))))))
def f_SET_addKin_L64 (p1 : Int32) (p2 : Int32) (p3 : Int32) (n : Nat) (a : Bool × Int32 × Int32 × (Nat → Int32) × (Nat → Int32)) : Option (Int32 × (Nat → Int32) × (Nat → Int32)) :=
  lpF (fun K64 v => f_SET_addKin_B64 p1 p2 p3  K64 v.1 v.2.1 v.2.2.1 v.2.2.2.1 v.2.2.2.2) n a
def f_SET_addKin_B6 (p1 : Int32) (p2 : Int32) (p3 : Int32) (K6 : (Bool × Int32 × Int32 × (Nat → Int32) × (Nat → Int32)) → Option (Int32 × (Nat → Int32) × (Nat → Int32))) (v4 : Bool) (v5 : Int32) (set_pieces : Int32) (set_begins : Nat → Int32) (set_ends : Nat → Int32) : Option (Int32 × (Nat → Int32) × (Nat → Int32)) :=
  if (p1 + 4) ≤ v5 then f_SET_addKin_L64 p1 p2 p3 FU (v4, p1, set_pieces, set_begins, set_ends) else (if (Int32.ofNat (stN 15)) ≤ v5 then f_SET_addKin_L64 p1 p2 p3 FU (v4, p1, set_pieces, set_begins, set_ends) else (if (b2i v4) = 0 then grd (inb v5 (stN 15)) (if (stF 15 v5.toNatClampNeg) < p2 then K6 (false, v5 + 1, set_pieces, set_begins, set_ends) else grd (inb v5 (stN 15)) (if p3 < (stF 15 v5.toNatClampNeg) then K6 (false, v5 + 1, set_pieces, set_begins, set_ends) else K6 (true, v5 + 1, set_pieces, set_begins, set_ends))) else K6 (true, v5 + 1, set_pieces, set_begins, set_ends)))
def f_SET_addKin_L6 (p1 : Int32) (p2 : Int32) (p3 : Int32) (n : Nat) (a : Bool × Int32 × Int32 × (Nat → Int32) × (Nat → Int32)) : Option (Int32 × (Nat → Int32) × (Nat → Int32)) :=
  lpF (fun K6 v => f_SET_addKin_B6 p1 p2 p3  K6 v.1 v.2.1 v.2.2.1 v.2.2.2.1 v.2.2.2.2) n a
def f_SET_addKin (set_pieces : Int32) (set_begins : Nat → Int32) (set_ends : Nat → Int32) (p1 : Int32) (p2 : Int32) (p3 : Int32) : Option (Int32 × (Nat → Int32) × (Nat → Int32)) :=
  f_SET_addKin_L6 p1 p2 p3 FU (false, p1, set_pieces, set_begins, set_ends)
set_option maxRecDepth 100000 in
set_option maxHeartbeats 4000000 in
theorem c_SET_addKin (l : Launch) (dC : Nat → ClassId) (dI : Nat → Nat → Nat) (cI : ClassId) (tS : Nat → Nat → Nat) (sz : Nat) (a_set a_set_begins a_set_ends : Nat) (set_pieces : Int32) (set_begins : Nat → Int32) (set_ends : Nat → Int32) (p1 : Int32) (p2 : Int32) (p3 : Int32) (R0 : Int32 × (Nat → Int32) × (Nat → Int32)) (hf : f_SET_addKin set_pieces set_begins set_ends p1 p2 p3 = some R0) : Met l y_SET_addKin ws_SET_addKin ({ frames := 2, cells := 0, slots := 0, locals := 67 }) (va_Pc [.ref a_set, .int p1, .int p2, .int p3] (preS (dC, dI) classes [(cI, .int)] tS (w_22 cI tS a_set a_set_begins a_set_ends set_pieces set_begins set_ends) sz)) (va_Qv (fun _ : Unit => True) (fun _ t => posS (dC, dI) classes [(cI, .int)] (w_22 cI tS a_set a_set_begins a_set_ends R0.1 R0.2.1 R0.2.2) (va_A (w_22 cI tS a_set a_set_begins a_set_ends set_pieces set_begins set_ends) sz) t) (va_A (w_22 cI tS a_set a_set_begins a_set_ends set_pieces set_begins set_ends) sz)) 0 0 (va_A (w_22 cI tS a_set a_set_begins a_set_ends set_pieces set_begins set_ends) sz) := by
  refine Met.ofW (cc := b_SET_addKin) (maxL := 6) (ret := none) (by decide) rfl ?_
  intro p e s m args below meth c s₁ B hml hv
  obtain ⟨rfl, hsz, hP, hK, hD0, hst0⟩ := hv
  have hx := B.exec
  have hb := B.bytes
  have hr := B.returns
  have hts0 := atoms_spec (ws := ws_SET_addKin) B.pre
  have hts : ∀ w ∈ GW, w.before _ s = true := fun w h => hts0 w (List.mem_cons_of_mem _ h)
  have hown : s.vm.findClass R_SET = some m.cls := findClass_of_methodNamed B.named
  have hlocks := B.notSynchronized
  subst hsz
  have hD := hD0.self (sz := s.heap.size)
  generalize hAe : va_A (w_22 cI tS a_set a_set_begins a_set_ends set_pieces set_begins set_ends) s.heap.size = A at hD hst0 ⊢
  have hA : ∀ q : Nat, s.heap.size ≤ q → A q := fun q h => by rw [← hAe]; exact Or.inr h
  have hS : va_S A s.heap s.heap [] := va_S.rf
  have hl := lv_entry ([.ref a_set, .int p1, .int p2, .int p3]) (n := 6) (Nat.le_of_ble_eq_true rfl)
  rw [lg_entry_eq]
  generalize (lg_sl ([.ref a_set, .int p1, .int p2, .int p3]) ++ List.replicate (6 - (lg_sl ([.ref a_set, .int p1, .int p2, .int p3])).length) Slot.unset).toArray = ls at hl ⊢
  have hl : lv_has ls 6 [(0, .ref a_set), (1, .int p1), (2, .int p2), (3, .int p3)] := hl
  have L64 : ∀ n64 : Nat, ∀ (v4 : Bool) (v5 : Int32) (set_pieces : Int32) (set_begins : Nat → Int32) (set_ends : Nat → Int32) (H : Heap) (locs : List Loc) (ls : Array Slot), va_P (dC, dI) classes (w_22 cI tS a_set a_set_begins a_set_ends set_pieces set_begins set_ends) H → va_D A (w_22 cI tS a_set a_set_begins a_set_ends set_pieces set_begins set_ends) → va_S A s.heap H locs → lv_has ls 6 [(0, .ref a_set), (1, .int p1), (4, .int (b2i v4)), (5, .int v5)] → f_SET_addKin_L64 p1 p2 p3 n64 (v4, v5, set_pieces, set_begins, set_ends) = some R0 → W p l e (headSpec ws_SET_addKin ({ frames := 2, cells := 0, slots := 0, locals := 67 })).room s m ([.ref a_set, .int p1, .int p2, .int p3] : List Value).toArray below meth c H locs 0 0 (MQ below (va_Qv (fun _ : Unit => True) (fun _ t => posS (dC, dI) classes [(cI, .int)] (w_22 cI tS a_set a_set_begins a_set_ends R0.1 R0.2.1 R0.2.2) (A) t) (A)) ([.ref a_set, .int p1, .int p2, .int p3] : List Value).toArray s 0 0 A) (F0 m 64 ls []) := by
    intro n64
    induction n64 with
    | zero =>
      intro v4 v5 set_pieces set_begins set_ends H locs ls hP hD hS hl hf
      exact absurd (show (none : Option _) = some R0 from hf) (fun h => by cases h)
    | succ n64 ih64 =>
      intro v4 v5 set_pieces set_begins set_ends H locs ls hP hD hS hl hf
      have hf : f_SET_addKin_B64 p1 p2 p3 (f_SET_addKin_L64 p1 p2 p3 n64) v4 v5 set_pieces set_begins set_ends = some R0 := hf
      refine lv_iload hx hb d_SET_addKin_64 (lv_at hl 2 rfl) ?_
      refine lv_if_eq (tgt := 108) hx hb d_SET_addKin_66 (by decide) (fun c_ => ?_) (fun c_ => ?_)
      · have hf := f_pos c_ hf
        obtain rfl := Option.some.inj hf
        exact W.vret hx hb hr (fun t ht hW => ⟨⟨(), rfl, trivial, ⟨by rw [ht]; exact hP, va_K.moved hW.alike hK, hD⟩⟩, hS.F ht⟩) hS.2.2 d_SET_addKin_108
      · have hf := f_neg c_ hf
        refine lv_iload hx hb d_SET_addKin_69 (lv_at hl 3 rfl) ?_
        refine lv_iload_n hx hb d_SET_addKin_71 rfl (lv_at hl 1 rfl) ?_
        refine lv_iconst (v := 4) hx hb d_SET_addKin_72 (by decide) ?_
        refine lv_iadd hx hb d_SET_addKin_73 ?_
        refine lv_icmp_ge (tgt := 108) hx hb d_SET_addKin_74 (by decide) (fun c_ => ?_) (fun c_ => ?_)
        · have hf := f_pos c_ hf
          obtain rfl := Option.some.inj hf
          exact W.vret hx hb hr (fun t ht hW => ⟨⟨(), rfl, trivial, ⟨by rw [ht]; exact hP, va_K.moved hW.alike hK, hD⟩⟩, hS.F ht⟩) hS.2.2 d_SET_addKin_108
        · have hf := f_neg c_ hf
          refine lv_iload hx hb d_SET_addKin_77 (lv_at hl 3 rfl) ?_
          refine va_getsN hx hb (st_Z hst0 15 (by decide)) hS hown (va_Nw.use rfl (hst0.2.1 _ tn_894)) (fun _ h9 => h9) d_SET_addKin_79 ?_
          refine va_tlen hx hb (st_T hst0 15) hS rfl d_SET_addKin_82 ?_
          refine lv_icmp_ge (tgt := 108) hx hb d_SET_addKin_83 (by decide) (fun c_ => ?_) (fun c_ => ?_)
          · have hf := f_pos c_ hf
            obtain rfl := Option.some.inj hf
            exact W.vret hx hb hr (fun t ht hW => ⟨⟨(), rfl, trivial, ⟨by rw [ht]; exact hP, va_K.moved hW.alike hK, hD⟩⟩, hS.F ht⟩) hS.2.2 d_SET_addKin_108
          · have hf := f_neg c_ hf
            refine lv_aload_n hx hb d_SET_addKin_86 rfl (lv_at hl 0 rfl) ?_
            refine va_getsN hx hb (st_Z hst0 15 (by decide)) hS hown (va_Nw.use rfl (hst0.2.1 _ tn_894)) (fun _ h9 => h9) d_SET_addKin_87 ?_
            refine lv_iload hx hb d_SET_addKin_90 (lv_at hl 3 rfl) ?_
            obtain ⟨hin, hf⟩ := grd_in hf
            refine va_ti hx hb (st_T hst0 15) hS hin rfl d_SET_addKin_92 ?_
            refine va_getsN hx hb (st_Z hst0 15 (by decide)) hS hown (va_Nw.use rfl (hst0.2.1 _ tn_894)) (fun _ h9 => h9) d_SET_addKin_93 ?_
            refine lv_iload hx hb d_SET_addKin_96 (lv_at hl 3 rfl) ?_
            obtain ⟨hin, hf⟩ := grd_in hf
            refine va_ti hx hb (st_T hst0 15) hS hin rfl d_SET_addKin_98 ?_
            obtain ⟨x99, hg, hf⟩ := bnd hf
            have hPc := hP.sub (ws' := (w_22 cI tS a_set a_set_begins a_set_ends set_pieces set_begins set_ends)) [0, 1, 2] rfl
            have hDc := hD.sub (ws' := (w_22 cI tS a_set a_set_begins a_set_ends set_pieces set_begins set_ends)) [0, 1, 2] (by decide) rfl
            have hFc := va_free (wc := (w_22 cI tS a_set a_set_begins a_set_ends set_pieces set_begins set_ends)) hD hS hA [0, 1, 2] rfl
            refine cal_v (va_runV (As := [.int (stF 15 v5.toNatClampNeg), .int (stF 15 v5.toNatClampNeg)]) (rest := []) ⟨hx, hb, hml, hown, hts⟩ (c_SET_add l dC dI cI tS H.size a_set a_set_begins a_set_ends set_pieces set_begins set_ends (stF 15 v5.toNatClampNeg) (stF 15 v5.toNatClampNeg) x99 hg) ⟨callB_of 2 hts (gN tw_712) rfl rfl rfl (hts _ tw_86) (hts _ tw_709) hd_SET_add ⟨Nat.le_of_ble_eq_true rfl, Nat.le_of_ble_eq_true rfl⟩, hts _ tw_710, hts _ tw_711⟩ (pre_V hK hPc hDc hst0 hS hFc (va_recv hK hPc (ci := 2) (q0 := 0) rfl rfl)) rfl rfl hl.1 rfl (lv_room (Nat.le_of_ble_eq_true rfl)) d_SET_addKin_99 ⟨Nat.zero_le _, Nat.zero_le _⟩) hP hD hS hA [0, 1, 2] [] rfl rfl (by decide) (by decide) (fun H locs hP hD hS => ?_)
            have hP := hP.sub (ws' := (w_22 cI tS a_set a_set_begins a_set_ends x99.1 x99.2.1 x99.2.2)) [0, 1, 2] rfl
            have hD := hD.sub (ws' := (w_22 cI tS a_set a_set_begins a_set_ends x99.1 x99.2.1 x99.2.2)) [0, 1, 2] (by decide) rfl
            refine lv_iinc (v := v5 + 1) (lv' := [(5, .int (v5 + 1)), (0, .ref a_set), (1, .int p1), (4, .int (b2i v4))]) hx hb d_SET_addKin_102 hl (k := 3) rfl rfl (by decide) rfl (fun ls hl => ?_)
            refine lv_goto (tgt := 64) hx hb d_SET_addKin_105 (by decide) ?_
            exact ih64 v4 (v5 + 1) x99.1 x99.2.1 x99.2.2 _ _ _ hP hD hS (lv_sub hl [1, 2, 3, 0] rfl) hf
  have L6 : ∀ n6 : Nat, ∀ (v4 : Bool) (v5 : Int32) (set_pieces : Int32) (set_begins : Nat → Int32) (set_ends : Nat → Int32) (H : Heap) (locs : List Loc) (ls : Array Slot), va_P (dC, dI) classes (w_22 cI tS a_set a_set_begins a_set_ends set_pieces set_begins set_ends) H → va_D A (w_22 cI tS a_set a_set_begins a_set_ends set_pieces set_begins set_ends) → va_S A s.heap H locs → lv_has ls 6 [(0, .ref a_set), (1, .int p1), (2, .int p2), (3, .int p3), (4, .int (b2i v4)), (5, .int v5)] → f_SET_addKin_L6 p1 p2 p3 n6 (v4, v5, set_pieces, set_begins, set_ends) = some R0 → W p l e (headSpec ws_SET_addKin ({ frames := 2, cells := 0, slots := 0, locals := 67 })).room s m ([.ref a_set, .int p1, .int p2, .int p3] : List Value).toArray below meth c H locs 0 0 (MQ below (va_Qv (fun _ : Unit => True) (fun _ t => posS (dC, dI) classes [(cI, .int)] (w_22 cI tS a_set a_set_begins a_set_ends R0.1 R0.2.1 R0.2.2) (A) t) (A)) ([.ref a_set, .int p1, .int p2, .int p3] : List Value).toArray s 0 0 A) (F0 m 6 ls []) := by
    intro n6
    induction n6 with
    | zero =>
      intro v4 v5 set_pieces set_begins set_ends H locs ls hP hD hS hl hf
      exact absurd (show (none : Option _) = some R0 from hf) (fun h => by cases h)
    | succ n6 ih6 =>
      intro v4 v5 set_pieces set_begins set_ends H locs ls hP hD hS hl hf
      have hf : f_SET_addKin_B6 p1 p2 p3 (f_SET_addKin_L6 p1 p2 p3 n6) v4 v5 set_pieces set_begins set_ends = some R0 := hf
      refine lv_iload hx hb d_SET_addKin_6 (lv_at hl 5 rfl) ?_
      refine lv_iload_n hx hb d_SET_addKin_8 rfl (lv_at hl 1 rfl) ?_
      refine lv_iconst (v := 4) hx hb d_SET_addKin_9 (by decide) ?_
      refine lv_iadd hx hb d_SET_addKin_10 ?_
      refine lv_icmp_ge (tgt := 61) hx hb d_SET_addKin_11 (by decide) (fun c_ => ?_) (fun c_ => ?_)
      · have hf := f_pos c_ hf
        refine lv_iload_n hx hb d_SET_addKin_61 rfl (lv_at hl 1 rfl) ?_
        refine lv_istore (lv' := [(5, .int p1), (0, .ref a_set), (1, .int p1), (2, .int p2), (3, .int p3), (4, .int (b2i v4))]) hx hb d_SET_addKin_62 hl (by decide) rfl (fun ls hl => ?_)
        exact L64 FU v4 p1 set_pieces set_begins set_ends _ _ _ hP hD hS (lv_sub hl [1, 2, 5, 0] rfl) hf
      · have hf := f_neg c_ hf
        refine lv_iload hx hb d_SET_addKin_14 (lv_at hl 5 rfl) ?_
        refine va_getsN hx hb (st_Z hst0 15 (by decide)) hS hown (va_Nw.use rfl (hst0.2.1 _ tn_894)) (fun _ h9 => h9) d_SET_addKin_16 ?_
        refine va_tlen hx hb (st_T hst0 15) hS rfl d_SET_addKin_19 ?_
        refine lv_icmp_ge (tgt := 61) hx hb d_SET_addKin_20 (by decide) (fun c_ => ?_) (fun c_ => ?_)
        · have hf := f_pos c_ hf
          refine lv_iload_n hx hb d_SET_addKin_61 rfl (lv_at hl 1 rfl) ?_
          refine lv_istore (lv' := [(5, .int p1), (0, .ref a_set), (1, .int p1), (2, .int p2), (3, .int p3), (4, .int (b2i v4))]) hx hb d_SET_addKin_62 hl (by decide) rfl (fun ls hl => ?_)
          exact L64 FU v4 p1 set_pieces set_begins set_ends _ _ _ hP hD hS (lv_sub hl [1, 2, 5, 0] rfl) hf
        · have hf := f_neg c_ hf
          refine lv_iload hx hb d_SET_addKin_23 (lv_at hl 4 rfl) ?_
          refine lv_if_ne (tgt := 48) hx hb d_SET_addKin_25 (by decide) (fun c_ => ?_) (fun c_ => ?_)
          · have hf := f_neg c_ hf
            refine lv_iconst (v := 1) hx hb d_SET_addKin_48 (by decide) ?_
            refine lv_goto (tgt := 53) hx hb d_SET_addKin_49 (by decide) ?_
            refine lv_istore (lv' := [(4, .int 1), (0, .ref a_set), (1, .int p1), (2, .int p2), (3, .int p3), (5, .int v5)]) hx hb d_SET_addKin_53 hl (by decide) rfl (fun ls hl => ?_)
            refine lv_iinc (v := v5 + 1) (lv' := [(5, .int (v5 + 1)), (4, .int 1), (0, .ref a_set), (1, .int p1), (2, .int p2), (3, .int p3)]) hx hb d_SET_addKin_55 hl (k := 5) rfl rfl (by decide) rfl (fun ls hl => ?_)
            refine lv_goto (tgt := 6) hx hb d_SET_addKin_58 (by decide) ?_
            exact ih6 true (v5 + 1) set_pieces set_begins set_ends _ _ _ hP hD hS (lv_sub hl [2, 3, 4, 5, 1, 0] rfl) hf
          · have hf := f_pos c_ hf
            refine va_getsN hx hb (st_Z hst0 15 (by decide)) hS hown (va_Nw.use rfl (hst0.2.1 _ tn_894)) (fun _ h9 => h9) d_SET_addKin_28 ?_
            refine lv_iload hx hb d_SET_addKin_31 (lv_at hl 5 rfl) ?_
            obtain ⟨hin, hf⟩ := grd_in hf
            refine va_ti hx hb (st_T hst0 15) hS hin rfl d_SET_addKin_33 ?_
            refine lv_iload_n hx hb d_SET_addKin_34 rfl (lv_at hl 2 rfl) ?_
            refine lv_icmp_lt (tgt := 52) hx hb d_SET_addKin_35 (by decide) (fun c_ => ?_) (fun c_ => ?_)
            · have hf := f_pos c_ hf
              refine lv_iconst (v := 0) hx hb d_SET_addKin_52 (by decide) ?_
              refine lv_istore (lv' := [(4, .int 0), (0, .ref a_set), (1, .int p1), (2, .int p2), (3, .int p3), (5, .int v5)]) hx hb d_SET_addKin_53 hl (by decide) rfl (fun ls hl => ?_)
              refine lv_iinc (v := v5 + 1) (lv' := [(5, .int (v5 + 1)), (4, .int 0), (0, .ref a_set), (1, .int p1), (2, .int p2), (3, .int p3)]) hx hb d_SET_addKin_55 hl (k := 5) rfl rfl (by decide) rfl (fun ls hl => ?_)
              refine lv_goto (tgt := 6) hx hb d_SET_addKin_58 (by decide) ?_
              exact ih6 false (v5 + 1) set_pieces set_begins set_ends _ _ _ hP hD hS (lv_sub hl [2, 3, 4, 5, 1, 0] rfl) hf
            · have hf := f_neg c_ hf
              refine va_getsN hx hb (st_Z hst0 15 (by decide)) hS hown (va_Nw.use rfl (hst0.2.1 _ tn_894)) (fun _ h9 => h9) d_SET_addKin_38 ?_
              refine lv_iload hx hb d_SET_addKin_41 (lv_at hl 5 rfl) ?_
              obtain ⟨hin, hf⟩ := grd_in hf
              refine va_ti hx hb (st_T hst0 15) hS hin rfl d_SET_addKin_43 ?_
              refine lv_iload_n hx hb d_SET_addKin_44 rfl (lv_at hl 3 rfl) ?_
              refine lv_icmp_gt (tgt := 52) hx hb d_SET_addKin_45 (by decide) (fun c_ => ?_) (fun c_ => ?_)
              · have hf := f_pos c_ hf
                refine lv_iconst (v := 0) hx hb d_SET_addKin_52 (by decide) ?_
                refine lv_istore (lv' := [(4, .int 0), (0, .ref a_set), (1, .int p1), (2, .int p2), (3, .int p3), (5, .int v5)]) hx hb d_SET_addKin_53 hl (by decide) rfl (fun ls hl => ?_)
                refine lv_iinc (v := v5 + 1) (lv' := [(5, .int (v5 + 1)), (4, .int 0), (0, .ref a_set), (1, .int p1), (2, .int p2), (3, .int p3)]) hx hb d_SET_addKin_55 hl (k := 5) rfl rfl (by decide) rfl (fun ls hl => ?_)
                refine lv_goto (tgt := 6) hx hb d_SET_addKin_58 (by decide) ?_
                exact ih6 false (v5 + 1) set_pieces set_begins set_ends _ _ _ hP hD hS (lv_sub hl [2, 3, 4, 5, 1, 0] rfl) hf
              · have hf := f_neg c_ hf
                refine lv_iconst (v := 1) hx hb d_SET_addKin_48 (by decide) ?_
                refine lv_goto (tgt := 53) hx hb d_SET_addKin_49 (by decide) ?_
                refine lv_istore (lv' := [(4, .int 1), (0, .ref a_set), (1, .int p1), (2, .int p2), (3, .int p3), (5, .int v5)]) hx hb d_SET_addKin_53 hl (by decide) rfl (fun ls hl => ?_)
                refine lv_iinc (v := v5 + 1) (lv' := [(5, .int (v5 + 1)), (4, .int 1), (0, .ref a_set), (1, .int p1), (2, .int p2), (3, .int p3)]) hx hb d_SET_addKin_55 hl (k := 5) rfl rfl (by decide) rfl (fun ls hl => ?_)
                refine lv_goto (tgt := 6) hx hb d_SET_addKin_58 (by decide) ?_
                exact ih6 true (v5 + 1) set_pieces set_begins set_ends _ _ _ hP hD hS (lv_sub hl [2, 3, 4, 5, 1, 0] rfl) hf
  refine lv_iconst (v := 0) hx hb d_SET_addKin_0 (by decide) ?_
  refine lv_istore (lv' := [(4, .int 0), (0, .ref a_set), (1, .int p1), (2, .int p2), (3, .int p3)]) hx hb d_SET_addKin_1 hl (by decide) rfl (fun ls hl => ?_)
  refine lv_iload_n hx hb d_SET_addKin_3 rfl (lv_at hl 2 rfl) ?_
  refine lv_istore (lv' := [(5, .int p1), (4, .int 0), (0, .ref a_set), (1, .int p1), (2, .int p2), (3, .int p3)]) hx hb d_SET_addKin_4 hl (by decide) rfl (fun ls hl => ?_)
  exact L6 FU false p1 set_pieces set_begins set_ends _ _ _ hP hD hS (lv_sub hl [2, 3, 4, 5, 1, 0] rfl) hf
def f_SET_addWithAlike_B65 (p1 : Int32) (p2 : Int32) (K65 : (Int32 × Int32 × (Nat → Int32) × (Nat → Int32)) → Option (Int32 × (Nat → Int32) × (Nat → Int32))) (v3 : Int32) (set_pieces : Int32) (set_begins : Nat → Int32) (set_ends : Nat → Int32) : Option (Int32 × (Nat → Int32) × (Nat → Int32)) :=
  if (Int32.ofNat (stN 15)) ≤ (v3 + 3) then some (set_pieces, set_begins, set_ends) else bnd_ (f_SET_addKin set_pieces set_begins set_ends v3 p1 p2) (fun x79 => K65 (v3 + 4, x79.1, x79.2.1, x79.2.2))
def f_SET_addWithAlike_L65 (p1 : Int32) (p2 : Int32) (n : Nat) (a : Int32 × Int32 × (Nat → Int32) × (Nat → Int32)) : Option (Int32 × (Nat → Int32) × (Nat → Int32)) :=
  lpF (fun K65 v => f_SET_addWithAlike_B65 p1 p2  K65 v.1 v.2.1 v.2.2.1 v.2.2.2) n a
def f_SET_addWithAlike_B8 (p1 : Int32) (p2 : Int32) (K8 : (Int32 × Int32 × (Nat → Int32) × (Nat → Int32)) → Option (Int32 × (Nat → Int32) × (Nat → Int32))) (v3 : Int32) (set_pieces : Int32) (set_begins : Nat → Int32) (set_ends : Nat → Int32) : Option (Int32 × (Nat → Int32) × (Nat → Int32)) :=
  if (Int32.ofNat (stN 14)) ≤ (v3 + 2) then f_SET_addWithAlike_L65 p1 p2 FU (0, set_pieces, set_begins, set_ends) else grd (inb (v3 + 2) (stN 14)) (grd (inb v3 (stN 14)) (grd (inb (v3 + 1) (stN 14)) (bnd_ (f_SET_add set_pieces set_begins set_ends ((if p1 < (stF 14 v3.toNatClampNeg) then (stF 14 v3.toNatClampNeg) else p1) + (stF 14 (v3 + 2).toNatClampNeg)) ((if (stF 14 (v3 + 1).toNatClampNeg) < p2 then (stF 14 (v3 + 1).toNatClampNeg) else p2) + (stF 14 (v3 + 2).toNatClampNeg))) (fun x54 => K8 (v3 + 3, x54.1, x54.2.1, x54.2.2)))))
def f_SET_addWithAlike_L8 (p1 : Int32) (p2 : Int32) (n : Nat) (a : Int32 × Int32 × (Nat → Int32) × (Nat → Int32)) : Option (Int32 × (Nat → Int32) × (Nat → Int32)) :=
  lpF (fun K8 v => f_SET_addWithAlike_B8 p1 p2  K8 v.1 v.2.1 v.2.2.1 v.2.2.2) n a
def f_SET_addWithAlike (set_pieces : Int32) (set_begins : Nat → Int32) (set_ends : Nat → Int32) (p1 : Int32) (p2 : Int32) : Option (Int32 × (Nat → Int32) × (Nat → Int32)) :=
  bnd_ (f_SET_add set_pieces set_begins set_ends p1 p2) (fun x3 => f_SET_addWithAlike_L8 p1 p2 FU (0, x3.1, x3.2.1, x3.2.2))
set_option maxRecDepth 100000 in
set_option maxHeartbeats 4000000 in
theorem c_SET_addWithAlike (l : Launch) (dC : Nat → ClassId) (dI : Nat → Nat → Nat) (cI : ClassId) (tS : Nat → Nat → Nat) (sz : Nat) (a_set a_set_begins a_set_ends : Nat) (set_pieces : Int32) (set_begins : Nat → Int32) (set_ends : Nat → Int32) (p1 : Int32) (p2 : Int32) (R0 : Int32 × (Nat → Int32) × (Nat → Int32)) (hf : f_SET_addWithAlike set_pieces set_begins set_ends p1 p2 = some R0) : Met l y_SET_addWithAlike ws_SET_addWithAlike ({ frames := 3, cells := 0, slots := 0, locals := 92 }) (va_Pc [.ref a_set, .int p1, .int p2] (preS (dC, dI) classes [(cI, .int)] tS (w_22 cI tS a_set a_set_begins a_set_ends set_pieces set_begins set_ends) sz)) (va_Qv (fun _ : Unit => True) (fun _ t => posS (dC, dI) classes [(cI, .int)] (w_22 cI tS a_set a_set_begins a_set_ends R0.1 R0.2.1 R0.2.2) (va_A (w_22 cI tS a_set a_set_begins a_set_ends set_pieces set_begins set_ends) sz) t) (va_A (w_22 cI tS a_set a_set_begins a_set_ends set_pieces set_begins set_ends) sz)) 0 0 (va_A (w_22 cI tS a_set a_set_begins a_set_ends set_pieces set_begins set_ends) sz) := by
  refine Met.ofW (cc := b_SET_addWithAlike) (maxL := 5) (ret := none) (by decide) rfl ?_
  intro p e s m args below meth c s₁ B hml hv
  obtain ⟨rfl, hsz, hP, hK, hD0, hst0⟩ := hv
  have hx := B.exec
  have hb := B.bytes
  have hr := B.returns
  have hts0 := atoms_spec (ws := ws_SET_addWithAlike) B.pre
  have hts : ∀ w ∈ GW, w.before _ s = true := fun w h => hts0 w (List.mem_cons_of_mem _ h)
  have hown : s.vm.findClass R_SET = some m.cls := findClass_of_methodNamed B.named
  have hlocks := B.notSynchronized
  subst hsz
  have hD := hD0.self (sz := s.heap.size)
  generalize hAe : va_A (w_22 cI tS a_set a_set_begins a_set_ends set_pieces set_begins set_ends) s.heap.size = A at hD hst0 ⊢
  have hA : ∀ q : Nat, s.heap.size ≤ q → A q := fun q h => by rw [← hAe]; exact Or.inr h
  have hS : va_S A s.heap s.heap [] := va_S.rf
  have hl := lv_entry ([.ref a_set, .int p1, .int p2]) (n := 5) (Nat.le_of_ble_eq_true rfl)
  rw [lg_entry_eq]
  generalize (lg_sl ([.ref a_set, .int p1, .int p2]) ++ List.replicate (5 - (lg_sl ([.ref a_set, .int p1, .int p2])).length) Slot.unset).toArray = ls at hl ⊢
  have hl : lv_has ls 5 [(0, .ref a_set), (1, .int p1), (2, .int p2)] := hl
  have L65 : ∀ n65 : Nat, ∀ (v3 : Int32) (set_pieces : Int32) (set_begins : Nat → Int32) (set_ends : Nat → Int32) (H : Heap) (locs : List Loc) (ls : Array Slot), va_P (dC, dI) classes (w_22 cI tS a_set a_set_begins a_set_ends set_pieces set_begins set_ends) H → va_D A (w_22 cI tS a_set a_set_begins a_set_ends set_pieces set_begins set_ends) → va_S A s.heap H locs → lv_has ls 5 [(0, .ref a_set), (1, .int p1), (2, .int p2), (3, .int v3)] → f_SET_addWithAlike_L65 p1 p2 n65 (v3, set_pieces, set_begins, set_ends) = some R0 → W p l e (headSpec ws_SET_addWithAlike ({ frames := 3, cells := 0, slots := 0, locals := 92 })).room s m ([.ref a_set, .int p1, .int p2] : List Value).toArray below meth c H locs 0 0 (MQ below (va_Qv (fun _ : Unit => True) (fun _ t => posS (dC, dI) classes [(cI, .int)] (w_22 cI tS a_set a_set_begins a_set_ends R0.1 R0.2.1 R0.2.2) (A) t) (A)) ([.ref a_set, .int p1, .int p2] : List Value).toArray s 0 0 A) (F0 m 65 ls []) := by
    intro n65
    induction n65 with
    | zero =>
      intro v3 set_pieces set_begins set_ends H locs ls hP hD hS hl hf
      exact absurd (show (none : Option _) = some R0 from hf) (fun h => by cases h)
    | succ n65 ih65 =>
      intro v3 set_pieces set_begins set_ends H locs ls hP hD hS hl hf
      have hf : f_SET_addWithAlike_B65 p1 p2 (f_SET_addWithAlike_L65 p1 p2 n65) v3 set_pieces set_begins set_ends = some R0 := hf
      refine lv_iload_n hx hb d_SET_addWithAlike_65 rfl (lv_at hl 3 rfl) ?_
      refine lv_iconst (v := 3) hx hb d_SET_addWithAlike_66 (by decide) ?_
      refine lv_iadd hx hb d_SET_addWithAlike_67 ?_
      refine va_getsN hx hb (st_Z hst0 15 (by decide)) hS hown (va_Nw.use rfl (hst0.2.1 _ tn_894)) (fun _ h9 => h9) d_SET_addWithAlike_68 ?_
      refine va_tlen hx hb (st_T hst0 15) hS rfl d_SET_addWithAlike_71 ?_
      refine lv_icmp_ge (tgt := 88) hx hb d_SET_addWithAlike_72 (by decide) (fun c_ => ?_) (fun c_ => ?_)
      · have hf := f_pos c_ hf
        obtain rfl := Option.some.inj hf
        exact W.vret hx hb hr (fun t ht hW => ⟨⟨(), rfl, trivial, ⟨by rw [ht]; exact hP, va_K.moved hW.alike hK, hD⟩⟩, hS.F ht⟩) hS.2.2 d_SET_addWithAlike_88
      · have hf := f_neg c_ hf
        refine lv_aload_n hx hb d_SET_addWithAlike_75 rfl (lv_at hl 0 rfl) ?_
        refine lv_iload_n hx hb d_SET_addWithAlike_76 rfl (lv_at hl 3 rfl) ?_
        refine lv_iload_n hx hb d_SET_addWithAlike_77 rfl (lv_at hl 1 rfl) ?_
        refine lv_iload_n hx hb d_SET_addWithAlike_78 rfl (lv_at hl 2 rfl) ?_
        obtain ⟨x79, hg, hf⟩ := bnd hf
        have hPc := hP.sub (ws' := (w_22 cI tS a_set a_set_begins a_set_ends set_pieces set_begins set_ends)) [0, 1, 2] rfl
        have hDc := hD.sub (ws' := (w_22 cI tS a_set a_set_begins a_set_ends set_pieces set_begins set_ends)) [0, 1, 2] (by decide) rfl
        have hFc := va_free (wc := (w_22 cI tS a_set a_set_begins a_set_ends set_pieces set_begins set_ends)) hD hS hA [0, 1, 2] rfl
        refine cal_v (va_runV (As := [.int v3, .int p1, .int p2]) (rest := []) ⟨hx, hb, hml, hown, hts⟩ (c_SET_addKin l dC dI cI tS H.size a_set a_set_begins a_set_ends set_pieces set_begins set_ends v3 p1 p2 x79 hg) ⟨callB_of 3 hts (gN tw_899) rfl rfl rfl (hts _ tw_86) (hts _ tw_896) hd_SET_addKin ⟨Nat.le_of_ble_eq_true rfl, Nat.le_of_ble_eq_true rfl⟩, hts _ tw_898, hts _ tw_24⟩ (pre_V hK hPc hDc hst0 hS hFc (va_recv hK hPc (ci := 2) (q0 := 0) rfl rfl)) rfl rfl hl.1 rfl (lv_room (Nat.le_of_ble_eq_true rfl)) d_SET_addWithAlike_79 ⟨Nat.zero_le _, Nat.zero_le _⟩) hP hD hS hA [0, 1, 2] [] rfl rfl (by decide) (by decide) (fun H locs hP hD hS => ?_)
        have hP := hP.sub (ws' := (w_22 cI tS a_set a_set_begins a_set_ends x79.1 x79.2.1 x79.2.2)) [0, 1, 2] rfl
        have hD := hD.sub (ws' := (w_22 cI tS a_set a_set_begins a_set_ends x79.1 x79.2.1 x79.2.2)) [0, 1, 2] (by decide) rfl
        refine lv_iinc (v := v3 + 4) (lv' := [(3, .int (v3 + 4)), (0, .ref a_set), (1, .int p1), (2, .int p2)]) hx hb d_SET_addWithAlike_82 hl (k := 3) rfl rfl (by decide) rfl (fun ls hl => ?_)
        refine lv_goto (tgt := 65) hx hb d_SET_addWithAlike_85 (by decide) ?_
        exact ih65 (v3 + 4) x79.1 x79.2.1 x79.2.2 _ _ _ hP hD hS (lv_sub hl [1, 2, 3, 0] rfl) hf
  have L8 : ∀ n8 : Nat, ∀ (v3 : Int32) (set_pieces : Int32) (set_begins : Nat → Int32) (set_ends : Nat → Int32) (H : Heap) (locs : List Loc) (ls : Array Slot), va_P (dC, dI) classes (w_22 cI tS a_set a_set_begins a_set_ends set_pieces set_begins set_ends) H → va_D A (w_22 cI tS a_set a_set_begins a_set_ends set_pieces set_begins set_ends) → va_S A s.heap H locs → lv_has ls 5 [(0, .ref a_set), (1, .int p1), (2, .int p2), (3, .int v3)] → f_SET_addWithAlike_L8 p1 p2 n8 (v3, set_pieces, set_begins, set_ends) = some R0 → W p l e (headSpec ws_SET_addWithAlike ({ frames := 3, cells := 0, slots := 0, locals := 92 })).room s m ([.ref a_set, .int p1, .int p2] : List Value).toArray below meth c H locs 0 0 (MQ below (va_Qv (fun _ : Unit => True) (fun _ t => posS (dC, dI) classes [(cI, .int)] (w_22 cI tS a_set a_set_begins a_set_ends R0.1 R0.2.1 R0.2.2) (A) t) (A)) ([.ref a_set, .int p1, .int p2] : List Value).toArray s 0 0 A) (F0 m 8 ls []) := by
    intro n8
    induction n8 with
    | zero =>
      intro v3 set_pieces set_begins set_ends H locs ls hP hD hS hl hf
      exact absurd (show (none : Option _) = some R0 from hf) (fun h => by cases h)
    | succ n8 ih8 =>
      intro v3 set_pieces set_begins set_ends H locs ls hP hD hS hl hf
      have hf : f_SET_addWithAlike_B8 p1 p2 (f_SET_addWithAlike_L8 p1 p2 n8) v3 set_pieces set_begins set_ends = some R0 := hf
      refine lv_iload_n hx hb d_SET_addWithAlike_8 rfl (lv_at hl 3 rfl) ?_
      refine lv_iconst (v := 2) hx hb d_SET_addWithAlike_9 (by decide) ?_
      refine lv_iadd hx hb d_SET_addWithAlike_10 ?_
      refine va_getsN hx hb (st_Z hst0 14 (by decide)) hS hown (va_Nw.use rfl (hst0.2.1 _ tn_888)) (fun _ h9 => h9) d_SET_addWithAlike_11 ?_
      refine va_tlen hx hb (st_T hst0 14) hS rfl d_SET_addWithAlike_14 ?_
      refine lv_icmp_ge (tgt := 63) hx hb d_SET_addWithAlike_15 (by decide) (fun c_ => ?_) (fun c_ => ?_)
      · have hf := f_pos c_ hf
        refine lv_iconst (v := 0) hx hb d_SET_addWithAlike_63 (by decide) ?_
        refine lv_istore_n (lv' := [(3, .int 0), (0, .ref a_set), (1, .int p1), (2, .int p2)]) hx hb d_SET_addWithAlike_64 rfl hl (by decide) rfl (fun ls hl => ?_)
        exact L65 FU 0 set_pieces set_begins set_ends _ _ _ hP hD hS (lv_sub hl [1, 2, 3, 0] rfl) hf
      · have hf := f_neg c_ hf
        refine va_getsN hx hb (st_Z hst0 14 (by decide)) hS hown (va_Nw.use rfl (hst0.2.1 _ tn_888)) (fun _ h9 => h9) d_SET_addWithAlike_18 ?_
        refine lv_iload_n hx hb d_SET_addWithAlike_21 rfl (lv_at hl 3 rfl) ?_
        refine lv_iconst (v := 2) hx hb d_SET_addWithAlike_22 (by decide) ?_
        refine lv_iadd hx hb d_SET_addWithAlike_23 ?_
        obtain ⟨hin, hf⟩ := grd_in hf
        refine va_ti hx hb (st_T hst0 14) hS hin rfl d_SET_addWithAlike_24 ?_
        refine lv_istore (lv' := [(4, .int (stF 14 (v3 + 2).toNatClampNeg)), (0, .ref a_set), (1, .int p1), (2, .int p2), (3, .int v3)]) hx hb d_SET_addWithAlike_25 hl (by decide) rfl (fun ls hl => ?_)
        refine lv_aload_n hx hb d_SET_addWithAlike_27 rfl (lv_at hl 1 rfl) ?_
        refine lv_iload_n hx hb d_SET_addWithAlike_28 rfl (lv_at hl 2 rfl) ?_
        refine va_getsN hx hb (st_Z hst0 14 (by decide)) hS hown (va_Nw.use rfl (hst0.2.1 _ tn_888)) (fun _ h9 => h9) d_SET_addWithAlike_29 ?_
        refine lv_iload_n hx hb d_SET_addWithAlike_32 rfl (lv_at hl 4 rfl) ?_
        obtain ⟨hin, hf⟩ := grd_in hf
        refine va_ti hx hb (st_T hst0 14) hS hin rfl d_SET_addWithAlike_33 ?_
        refine va_mmax hx hb (hml.trans hl.1.symm) hown (hts _ tw_890) (hts _ tw_891) (hts _ tw_96) (hts _ tw_892) (Nat.le_of_ble_eq_true rfl) (Nat.le_of_ble_eq_true rfl) (Nat.zero_le _) (Nat.zero_le _) d_SET_addWithAlike_34 ?_
        refine lv_iload hx hb d_SET_addWithAlike_37 (lv_at hl 0 rfl) ?_
        refine lv_iadd hx hb d_SET_addWithAlike_39 ?_
        refine lv_iload_n hx hb d_SET_addWithAlike_40 rfl (lv_at hl 3 rfl) ?_
        refine va_getsN hx hb (st_Z hst0 14 (by decide)) hS hown (va_Nw.use rfl (hst0.2.1 _ tn_888)) (fun _ h9 => h9) d_SET_addWithAlike_41 ?_
        refine lv_iload_n hx hb d_SET_addWithAlike_44 rfl (lv_at hl 4 rfl) ?_
        refine lv_iconst (v := 1) hx hb d_SET_addWithAlike_45 (by decide) ?_
        refine lv_iadd hx hb d_SET_addWithAlike_46 ?_
        obtain ⟨hin, hf⟩ := grd_in hf
        refine va_ti hx hb (st_T hst0 14) hS hin rfl d_SET_addWithAlike_47 ?_
        refine va_mmin hx hb (hml.trans hl.1.symm) hown (hts _ tw_893) (hts _ tw_601) (hts _ tw_96) (hts _ tw_602) (Nat.le_of_ble_eq_true rfl) (Nat.le_of_ble_eq_true rfl) (Nat.zero_le _) (Nat.zero_le _) d_SET_addWithAlike_48 ?_
        refine lv_iload hx hb d_SET_addWithAlike_51 (lv_at hl 0 rfl) ?_
        refine lv_iadd hx hb d_SET_addWithAlike_53 ?_
        obtain ⟨x54, hg, hf⟩ := bnd hf
        have hPc := hP.sub (ws' := (w_22 cI tS a_set a_set_begins a_set_ends set_pieces set_begins set_ends)) [0, 1, 2] rfl
        have hDc := hD.sub (ws' := (w_22 cI tS a_set a_set_begins a_set_ends set_pieces set_begins set_ends)) [0, 1, 2] (by decide) rfl
        have hFc := va_free (wc := (w_22 cI tS a_set a_set_begins a_set_ends set_pieces set_begins set_ends)) hD hS hA [0, 1, 2] rfl
        refine cal_v (va_runV (As := [.int ((if p1 < (stF 14 v3.toNatClampNeg) then (stF 14 v3.toNatClampNeg) else p1) + (stF 14 (v3 + 2).toNatClampNeg)), .int ((if (stF 14 (v3 + 1).toNatClampNeg) < p2 then (stF 14 (v3 + 1).toNatClampNeg) else p2) + (stF 14 (v3 + 2).toNatClampNeg))]) (rest := []) ⟨hx, hb, hml, hown, hts⟩ (c_SET_add l dC dI cI tS H.size a_set a_set_begins a_set_ends set_pieces set_begins set_ends ((if p1 < (stF 14 v3.toNatClampNeg) then (stF 14 v3.toNatClampNeg) else p1) + (stF 14 (v3 + 2).toNatClampNeg)) ((if (stF 14 (v3 + 1).toNatClampNeg) < p2 then (stF 14 (v3 + 1).toNatClampNeg) else p2) + (stF 14 (v3 + 2).toNatClampNeg)) x54 hg) ⟨callB_of 2 hts (gN tw_712) rfl rfl rfl (hts _ tw_86) (hts _ tw_709) hd_SET_add ⟨Nat.le_of_ble_eq_true rfl, Nat.le_of_ble_eq_true rfl⟩, hts _ tw_710, hts _ tw_711⟩ (pre_V hK hPc hDc hst0 hS hFc (va_recv hK hPc (ci := 2) (q0 := 0) rfl rfl)) rfl rfl hl.1 rfl (lv_room (Nat.le_of_ble_eq_true rfl)) d_SET_addWithAlike_54 ⟨Nat.zero_le _, Nat.zero_le _⟩) hP hD hS hA [0, 1, 2] [] rfl rfl (by decide) (by decide) (fun H locs hP hD hS => ?_)
        have hP := hP.sub (ws' := (w_22 cI tS a_set a_set_begins a_set_ends x54.1 x54.2.1 x54.2.2)) [0, 1, 2] rfl
        have hD := hD.sub (ws' := (w_22 cI tS a_set a_set_begins a_set_ends x54.1 x54.2.1 x54.2.2)) [0, 1, 2] (by decide) rfl
        refine lv_iinc (v := v3 + 3) (lv' := [(3, .int (v3 + 3)), (4, .int (stF 14 (v3 + 2).toNatClampNeg)), (0, .ref a_set), (1, .int p1), (2, .int p2)]) hx hb d_SET_addWithAlike_57 hl (k := 4) rfl rfl (by decide) rfl (fun ls hl => ?_)
        refine lv_goto (tgt := 8) hx hb d_SET_addWithAlike_60 (by decide) ?_
        exact ih8 (v3 + 3) x54.1 x54.2.1 x54.2.2 _ _ _ hP hD hS (lv_sub hl [2, 3, 4, 0] rfl) hf
  refine lv_aload_n hx hb d_SET_addWithAlike_0 rfl (lv_at hl 0 rfl) ?_
  refine lv_iload_n hx hb d_SET_addWithAlike_1 rfl (lv_at hl 1 rfl) ?_
  refine lv_iload_n hx hb d_SET_addWithAlike_2 rfl (lv_at hl 2 rfl) ?_
  obtain ⟨x3, hg, hf⟩ := bnd hf
  have hPc := hP.sub (ws' := (w_22 cI tS a_set a_set_begins a_set_ends set_pieces set_begins set_ends)) [0, 1, 2] rfl
  have hDc := hD.sub (ws' := (w_22 cI tS a_set a_set_begins a_set_ends set_pieces set_begins set_ends)) [0, 1, 2] (by decide) rfl
  have hFc := va_free (wc := (w_22 cI tS a_set a_set_begins a_set_ends set_pieces set_begins set_ends)) hD hS hA [0, 1, 2] rfl
  refine cal_v (va_runV (As := [.int p1, .int p2]) (rest := []) ⟨hx, hb, hml, hown, hts⟩ (c_SET_add l dC dI cI tS s.heap.size a_set a_set_begins a_set_ends set_pieces set_begins set_ends p1 p2 x3 hg) ⟨callB_of 2 hts (gN tw_712) rfl rfl rfl (hts _ tw_86) (hts _ tw_709) hd_SET_add ⟨Nat.le_of_ble_eq_true rfl, Nat.le_of_ble_eq_true rfl⟩, hts _ tw_710, hts _ tw_711⟩ (pre_V hK hPc hDc hst0 hS hFc (va_recv hK hPc (ci := 2) (q0 := 0) rfl rfl)) rfl rfl hl.1 rfl (lv_room (Nat.le_of_ble_eq_true rfl)) d_SET_addWithAlike_3 ⟨Nat.zero_le _, Nat.zero_le _⟩) hP hD hS hA [0, 1, 2] [] rfl rfl (by decide) (by decide) (fun H locs hP hD hS => ?_)
  have hP := hP.sub (ws' := (w_22 cI tS a_set a_set_begins a_set_ends x3.1 x3.2.1 x3.2.2)) [0, 1, 2] rfl
  have hD := hD.sub (ws' := (w_22 cI tS a_set a_set_begins a_set_ends x3.1 x3.2.1 x3.2.2)) [0, 1, 2] (by decide) rfl
  refine lv_iconst (v := 0) hx hb d_SET_addWithAlike_6 (by decide) ?_
  refine lv_istore_n (lv' := [(3, .int 0), (0, .ref a_set), (1, .int p1), (2, .int p2)]) hx hb d_SET_addWithAlike_7 rfl hl (by decide) rfl (fun ls hl => ?_)
  exact L8 FU 0 x3.1 x3.2.1 x3.2.2 _ _ _ hP hD hS (lv_sub hl [1, 2, 3, 0] rfl) hf
def f_CLS_readRange_L90 (pat_length : Int32) (pat_bytes : Nat → Int32) (p1 : Int32) (p2 : Bool) (v3 : Int32) (v4 : Int32) (mis_number : Int32) (mis_place : Int32) (set_pieces : Int32) (esc_kind : Int32) (esc_value : Int32) (esc_set : Nat) (esc_others : Bool) (esc_after : Int32) (cls_single : Int32) (set_begins : Nat → Int32) (set_ends : Nat → Int32) : Option (Int32 × Int32 × Int32 × Int32 × Int32 × Int32 × Nat × Bool × Int32 × Int32 × (Nat → Int32) × (Nat → Int32)) :=
  if v4 ≤ cls_single then (if (b2i p2) = 0 then bnd_ (f_SET_add set_pieces set_begins set_ends v4 cls_single) (fun x137 => some (v3, mis_number, mis_place, x137.1, esc_kind, esc_value, esc_set, esc_others, esc_after, cls_single, x137.2.1, x137.2.2)) else bnd_ (f_SET_addWithAlike set_pieces set_begins set_ends v4 cls_single) (fun x121 => some (v3, mis_number, mis_place, x121.1, esc_kind, esc_value, esc_set, esc_others, esc_after, cls_single, x121.2.1, x121.2.2))) else bnd_ (f_CLS_refused mis_number mis_place 6 p1) (fun x103 => some (x103.1, x103.2.1, x103.2.2, set_pieces, esc_kind, esc_value, esc_set, esc_others, esc_after, cls_single, set_begins, set_ends))
def f_CLS_readRange (pat_length : Int32) (mis_number : Int32) (mis_place : Int32) (set_pieces : Int32) (esc_kind : Int32) (esc_value : Int32) (esc_set : Nat) (esc_others : Bool) (esc_after : Int32) (cls_single : Int32) (pat_bytes : Nat → Int32) (set_begins : Nat → Int32) (set_ends : Nat → Int32) (p1 : Int32) (p2 : Bool) : Option (Int32 × Int32 × Int32 × Int32 × Int32 × Int32 × Nat × Bool × Int32 × Int32 × (Nat → Int32) × (Nat → Int32)) :=
  bnd_ (f_CLS_readSingle pat_length mis_number mis_place esc_kind esc_value esc_set esc_others esc_after cls_single pat_bytes p1) (fun x2 => if x2.1 = (-1) then some ((-1), x2.2.1, x2.2.2.1, set_pieces, x2.2.2.2.1, x2.2.2.2.2.1, x2.2.2.2.2.2.1, x2.2.2.2.2.2.2.1, x2.2.2.2.2.2.2.2.1, x2.2.2.2.2.2.2.2.2, set_begins, set_ends) else bnd_ (f_PAT_at pat_length pat_bytes (x2.1 + 1)) (fun x26 => bnd_ (f_PAT_at pat_length pat_bytes x2.1) (fun x36 => if x36 = 45 then (if x26 = 93 then f_CLS_readRange_L90 pat_length pat_bytes p1 p2 x2.1 x2.2.2.2.2.2.2.2.2 x2.2.1 x2.2.2.1 set_pieces x2.2.2.2.1 x2.2.2.2.2.1 x2.2.2.2.2.2.1 x2.2.2.2.2.2.2.1 x2.2.2.2.2.2.2.2.1 x2.2.2.2.2.2.2.2.2 set_begins set_ends else (if x26 = (-1) then f_CLS_readRange_L90 pat_length pat_bytes p1 p2 x2.1 x2.2.2.2.2.2.2.2.2 x2.2.1 x2.2.2.1 set_pieces x2.2.2.2.1 x2.2.2.2.2.1 x2.2.2.2.2.2.1 x2.2.2.2.2.2.2.1 x2.2.2.2.2.2.2.2.1 x2.2.2.2.2.2.2.2.2 set_begins set_ends else bnd_ (f_CLS_isSetItem pat_length pat_bytes (x2.1 + 1)) (fun x61 => if (b2i x61) = 0 then bnd_ (f_CLS_readSingle pat_length x2.2.1 x2.2.2.1 x2.2.2.2.1 x2.2.2.2.2.1 x2.2.2.2.2.2.1 x2.2.2.2.2.2.2.1 x2.2.2.2.2.2.2.2.1 x2.2.2.2.2.2.2.2.2 pat_bytes (x2.1 + 1)) (fun x79 => if x79.1 = (-1) then some ((-1), x79.2.1, x79.2.2.1, set_pieces, x79.2.2.2.1, x79.2.2.2.2.1, x79.2.2.2.2.2.1, x79.2.2.2.2.2.2.1, x79.2.2.2.2.2.2.2.1, x79.2.2.2.2.2.2.2.2, set_begins, set_ends) else f_CLS_readRange_L90 pat_length pat_bytes p1 p2 x79.1 x2.2.2.2.2.2.2.2.2 x79.2.1 x79.2.2.1 set_pieces x79.2.2.2.1 x79.2.2.2.2.1 x79.2.2.2.2.2.1 x79.2.2.2.2.2.2.1 x79.2.2.2.2.2.2.2.1 x79.2.2.2.2.2.2.2.2 set_begins set_ends) else bnd_ (f_CLS_refused x2.2.1 x2.2.2.1 6 p1) (fun x71 => some (x71.1, x71.2.1, x71.2.2, set_pieces, x2.2.2.2.1, x2.2.2.2.2.1, x2.2.2.2.2.2.1, x2.2.2.2.2.2.2.1, x2.2.2.2.2.2.2.2.1, x2.2.2.2.2.2.2.2.2, set_begins, set_ends))))) else f_CLS_readRange_L90 pat_length pat_bytes p1 p2 x2.1 x2.2.2.2.2.2.2.2.2 x2.2.1 x2.2.2.1 set_pieces x2.2.2.2.1 x2.2.2.2.2.1 x2.2.2.2.2.2.1 x2.2.2.2.2.2.2.1 x2.2.2.2.2.2.2.2.1 x2.2.2.2.2.2.2.2.2 set_begins set_ends)))
set_option maxRecDepth 100000 in
set_option maxHeartbeats 4000000 in
theorem c_CLS_readRange (l : Launch) (dC : Nat → ClassId) (dI : Nat → Nat → Nat) (cI : ClassId) (tS : Nat → Nat → Nat) (sz : Nat) (a_pat a_pat_bytes a_mis a_set a_set_begins a_set_ends a_esc a_cls : Nat) (pat_length : Int32) (mis_number : Int32) (mis_place : Int32) (set_pieces : Int32) (esc_kind : Int32) (esc_value : Int32) (esc_set : Nat) (esc_others : Bool) (esc_after : Int32) (cls_single : Int32) (pat_bytes : Nat → Int32) (set_begins : Nat → Int32) (set_ends : Nat → Int32) (p1 : Int32) (p2 : Bool) (R0 : Int32 × Int32 × Int32 × Int32 × Int32 × Int32 × Nat × Bool × Int32 × Int32 × (Nat → Int32) × (Nat → Int32)) (hf : f_CLS_readRange pat_length mis_number mis_place set_pieces esc_kind esc_value esc_set esc_others esc_after cls_single pat_bytes set_begins set_ends p1 p2 = some R0) : Met l y_CLS_readRange ws_CLS_readRange ({ frames := 4, cells := 0, slots := 0, locals := 116 }) (va_Pc [.ref a_cls, .int p1, .int (b2i p2)] (preS (dC, dI) classes [(cI, .int)] tS (w_27 cI tS a_pat a_pat_bytes a_mis a_set a_set_begins a_set_ends a_esc a_cls pat_length mis_number mis_place set_pieces esc_kind esc_value esc_set esc_others esc_after cls_single pat_bytes set_begins set_ends) sz)) (va_Qi (fun r (_ : Unit) => r = R0.1) (fun _ t => posS (dC, dI) classes [(cI, .int)] (w_27 cI tS a_pat a_pat_bytes a_mis a_set a_set_begins a_set_ends a_esc a_cls pat_length R0.2.1 R0.2.2.1 R0.2.2.2.1 R0.2.2.2.2.1 R0.2.2.2.2.2.1 R0.2.2.2.2.2.2.1 R0.2.2.2.2.2.2.2.1 R0.2.2.2.2.2.2.2.2.1 R0.2.2.2.2.2.2.2.2.2.1 pat_bytes R0.2.2.2.2.2.2.2.2.2.2.1 R0.2.2.2.2.2.2.2.2.2.2.2) (va_A (w_27 cI tS a_pat a_pat_bytes a_mis a_set a_set_begins a_set_ends a_esc a_cls pat_length mis_number mis_place set_pieces esc_kind esc_value esc_set esc_others esc_after cls_single pat_bytes set_begins set_ends) sz) t) (va_A (w_27 cI tS a_pat a_pat_bytes a_mis a_set a_set_begins a_set_ends a_esc a_cls pat_length mis_number mis_place set_pieces esc_kind esc_value esc_set esc_others esc_after cls_single pat_bytes set_begins set_ends) sz)) 0 0 (va_A (w_27 cI tS a_pat a_pat_bytes a_mis a_set a_set_begins a_set_ends a_esc a_cls pat_length mis_number mis_place set_pieces esc_kind esc_value esc_set esc_others esc_after cls_single pat_bytes set_begins set_ends) sz) := by
  refine Met.ofW (cc := b_CLS_readRange) (maxL := 6) (ret := (some .int)) (by decide) rfl ?_
  intro p e s m args below meth c s₁ B hml hv
  obtain ⟨rfl, hsz, hP, hK, hD0, hst0⟩ := hv
  have hx := B.exec
  have hb := B.bytes
  have hr := B.returns
  have hts0 := atoms_spec (ws := ws_CLS_readRange) B.pre
  have hts : ∀ w ∈ GW, w.before _ s = true := fun w h => hts0 w (List.mem_cons_of_mem _ h)
  have hown : s.vm.findClass R_CLS = some m.cls := findClass_of_methodNamed B.named
  have hlocks := B.notSynchronized
  subst hsz
  have hD := hD0.self (sz := s.heap.size)
  generalize hAe : va_A (w_27 cI tS a_pat a_pat_bytes a_mis a_set a_set_begins a_set_ends a_esc a_cls pat_length mis_number mis_place set_pieces esc_kind esc_value esc_set esc_others esc_after cls_single pat_bytes set_begins set_ends) s.heap.size = A at hD hst0 ⊢
  have hA : ∀ q : Nat, s.heap.size ≤ q → A q := fun q h => by rw [← hAe]; exact Or.inr h
  have hS : va_S A s.heap s.heap [] := va_S.rf
  have hl := lv_entry ([.ref a_cls, .int p1, .int (b2i p2)]) (n := 6) (Nat.le_of_ble_eq_true rfl)
  rw [lg_entry_eq]
  generalize (lg_sl ([.ref a_cls, .int p1, .int (b2i p2)]) ++ List.replicate (6 - (lg_sl ([.ref a_cls, .int p1, .int (b2i p2)])).length) Slot.unset).toArray = ls at hl ⊢
  have hl : lv_has ls 6 [(0, .ref a_cls), (1, .int p1), (2, .int (b2i p2))] := hl
  have L90 : ∀ (v3 : Int32) (v4 : Int32) (mis_number : Int32) (mis_place : Int32) (set_pieces : Int32) (esc_kind : Int32) (esc_value : Int32) (esc_set : Nat) (esc_others : Bool) (esc_after : Int32) (cls_single : Int32) (set_begins : Nat → Int32) (set_ends : Nat → Int32) (H : Heap) (locs : List Loc) (ls : Array Slot), va_P (dC, dI) classes (w_27 cI tS a_pat a_pat_bytes a_mis a_set a_set_begins a_set_ends a_esc a_cls pat_length mis_number mis_place set_pieces esc_kind esc_value esc_set esc_others esc_after cls_single pat_bytes set_begins set_ends) H → va_D A (w_27 cI tS a_pat a_pat_bytes a_mis a_set a_set_begins a_set_ends a_esc a_cls pat_length mis_number mis_place set_pieces esc_kind esc_value esc_set esc_others esc_after cls_single pat_bytes set_begins set_ends) → va_S A s.heap H locs → lv_has ls 6 [(0, .ref a_cls), (1, .int p1), (2, .int (b2i p2)), (3, .int v3), (4, .int v4)] → f_CLS_readRange_L90 pat_length pat_bytes p1 p2 v3 v4 mis_number mis_place set_pieces esc_kind esc_value esc_set esc_others esc_after cls_single set_begins set_ends = some R0 → W p l e (headSpec ws_CLS_readRange ({ frames := 4, cells := 0, slots := 0, locals := 116 })).room s m ([.ref a_cls, .int p1, .int (b2i p2)] : List Value).toArray below meth c H locs 0 0 (MQ below (va_Qi (fun r (_ : Unit) => r = R0.1) (fun _ t => posS (dC, dI) classes [(cI, .int)] (w_27 cI tS a_pat a_pat_bytes a_mis a_set a_set_begins a_set_ends a_esc a_cls pat_length R0.2.1 R0.2.2.1 R0.2.2.2.1 R0.2.2.2.2.1 R0.2.2.2.2.2.1 R0.2.2.2.2.2.2.1 R0.2.2.2.2.2.2.2.1 R0.2.2.2.2.2.2.2.2.1 R0.2.2.2.2.2.2.2.2.2.1 pat_bytes R0.2.2.2.2.2.2.2.2.2.2.1 R0.2.2.2.2.2.2.2.2.2.2.2) (A) t) (A)) ([.ref a_cls, .int p1, .int (b2i p2)] : List Value).toArray s 0 0 A) (F0 m 90 ls []) := by
    intro v3 v4 mis_number mis_place set_pieces esc_kind esc_value esc_set esc_others esc_after cls_single set_begins set_ends H locs ls hP hD hS hl hf
    refine lv_aload_n hx hb d_CLS_readRange_90 rfl (lv_at hl 0 rfl) ?_
    refine va_get (D := (dC, dI)) (ci := 7) (v := .int cls_single) (C := R_CLS) (T := F_CLS) (N := N_CLS) hx hb hts i_CLS hown hK hP 4 rfl rfl 4 (by decide) (hts _ tw_310) (fun _ h9 => h9) rfl d_CLS_readRange_91 ?_
    refine lv_iload hx hb d_CLS_readRange_94 (lv_at hl 4 rfl) ?_
    refine lv_icmp_ge (tgt := 107) hx hb d_CLS_readRange_96 (by decide) (fun c_ => ?_) (fun c_ => ?_)
    · have hf := f_pos c_ hf
      refine lv_iload_n hx hb d_CLS_readRange_107 rfl (lv_at hl 2 rfl) ?_
      refine lv_if_eq (tgt := 127) hx hb d_CLS_readRange_108 (by decide) (fun c_ => ?_) (fun c_ => ?_)
      · have hf := f_pos c_ hf
        refine lv_aload_n hx hb d_CLS_readRange_127 rfl (lv_at hl 0 rfl) ?_
        refine va_get (D := (dC, dI)) (ci := 7) (v := .ref a_set) (C := R_CLS) (T := F_CLS) (N := N_CLS) hx hb hts i_CLS hown hK hP 4 rfl rfl 3 (by decide) (hts _ tw_309) (fun _ h9 => h9) rfl d_CLS_readRange_128 ?_
        refine lv_iload hx hb d_CLS_readRange_131 (lv_at hl 4 rfl) ?_
        refine lv_aload_n hx hb d_CLS_readRange_133 rfl (lv_at hl 0 rfl) ?_
        refine va_get (D := (dC, dI)) (ci := 7) (v := .int cls_single) (C := R_CLS) (T := F_CLS) (N := N_CLS) hx hb hts i_CLS hown hK hP 4 rfl rfl 4 (by decide) (hts _ tw_310) (fun _ h9 => h9) rfl d_CLS_readRange_134 ?_
        obtain ⟨x137, hg, hf⟩ := bnd hf
        have hPc := hP.sub (ws' := (w_22 cI tS a_set a_set_begins a_set_ends set_pieces set_begins set_ends)) [2, 6, 7] rfl
        have hDc := hD.sub (ws' := (w_22 cI tS a_set a_set_begins a_set_ends set_pieces set_begins set_ends)) [2, 6, 7] (by decide) rfl
        have hFc := va_free (wc := (w_22 cI tS a_set a_set_begins a_set_ends set_pieces set_begins set_ends)) hD hS hA [2, 6, 7] rfl
        refine cal_v (va_runV (As := [.int v4, .int cls_single]) (rest := []) ⟨hx, hb, hml, hown, hts⟩ (c_SET_add l dC dI cI tS H.size a_set a_set_begins a_set_ends set_pieces set_begins set_ends v4 cls_single x137 hg) ⟨callB_of 2 hts (gN tw_712) rfl rfl rfl (hts _ tw_86) (hts _ tw_900) hd_SET_add ⟨Nat.le_of_ble_eq_true rfl, Nat.le_of_ble_eq_true rfl⟩, hts _ tw_710, hts _ tw_711⟩ (pre_V hK hPc hDc hst0 hS hFc (va_recv hK hPc (ci := 2) (q0 := 0) rfl rfl)) rfl rfl hl.1 rfl (lv_room (Nat.le_of_ble_eq_true rfl)) d_CLS_readRange_137 ⟨Nat.zero_le _, Nat.zero_le _⟩) hP hD hS hA [2, 6, 7] [0, 1, 3, 4, 5] rfl rfl (by decide) (by decide) (fun H locs hP hD hS => ?_)
        have hP := hP.sub (ws' := (w_27 cI tS a_pat a_pat_bytes a_mis a_set a_set_begins a_set_ends a_esc a_cls pat_length mis_number mis_place x137.1 esc_kind esc_value esc_set esc_others esc_after cls_single pat_bytes x137.2.1 x137.2.2)) [0, 1, 5, 2, 3, 4, 6, 7] rfl
        have hD := hD.sub (ws' := (w_27 cI tS a_pat a_pat_bytes a_mis a_set a_set_begins a_set_ends a_esc a_cls pat_length mis_number mis_place x137.1 esc_kind esc_value esc_set esc_others esc_after cls_single pat_bytes x137.2.1 x137.2.2)) [0, 1, 5, 2, 3, 4, 6, 7] (by decide) rfl
        refine lv_iload_n hx hb d_CLS_readRange_140 rfl (lv_at hl 3 rfl) ?_
        obtain rfl := Option.some.inj hf
        exact W.iret (v := v3) hx hb hr (fun t ht hW => ⟨⟨_, (), rfl, rfl, ⟨by rw [ht]; exact hP, va_K.moved hW.alike hK, hD⟩⟩, hS.F ht⟩) hS.2.2 d_CLS_readRange_141
      · have hf := f_neg c_ hf
        refine lv_aload_n hx hb d_CLS_readRange_111 rfl (lv_at hl 0 rfl) ?_
        refine va_get (D := (dC, dI)) (ci := 7) (v := .ref a_set) (C := R_CLS) (T := F_CLS) (N := N_CLS) hx hb hts i_CLS hown hK hP 4 rfl rfl 3 (by decide) (hts _ tw_309) (fun _ h9 => h9) rfl d_CLS_readRange_112 ?_
        refine lv_iload hx hb d_CLS_readRange_115 (lv_at hl 4 rfl) ?_
        refine lv_aload_n hx hb d_CLS_readRange_117 rfl (lv_at hl 0 rfl) ?_
        refine va_get (D := (dC, dI)) (ci := 7) (v := .int cls_single) (C := R_CLS) (T := F_CLS) (N := N_CLS) hx hb hts i_CLS hown hK hP 4 rfl rfl 4 (by decide) (hts _ tw_310) (fun _ h9 => h9) rfl d_CLS_readRange_118 ?_
        obtain ⟨x121, hg, hf⟩ := bnd hf
        have hPc := hP.sub (ws' := (w_22 cI tS a_set a_set_begins a_set_ends set_pieces set_begins set_ends)) [2, 6, 7] rfl
        have hDc := hD.sub (ws' := (w_22 cI tS a_set a_set_begins a_set_ends set_pieces set_begins set_ends)) [2, 6, 7] (by decide) rfl
        have hFc := va_free (wc := (w_22 cI tS a_set a_set_begins a_set_ends set_pieces set_begins set_ends)) hD hS hA [2, 6, 7] rfl
        refine cal_v (va_runV (As := [.int v4, .int cls_single]) (rest := []) ⟨hx, hb, hml, hown, hts⟩ (c_SET_addWithAlike l dC dI cI tS H.size a_set a_set_begins a_set_ends set_pieces set_begins set_ends v4 cls_single x121 hg) ⟨callB_of 2 hts (gN tw_887) rfl rfl rfl (hts _ tw_86) (hts _ tw_884) hd_SET_addWithAlike ⟨Nat.le_of_ble_eq_true rfl, Nat.le_of_ble_eq_true rfl⟩, hts _ tw_885, hts _ tw_886⟩ (pre_V hK hPc hDc hst0 hS hFc (va_recv hK hPc (ci := 2) (q0 := 0) rfl rfl)) rfl rfl hl.1 rfl (lv_room (Nat.le_of_ble_eq_true rfl)) d_CLS_readRange_121 ⟨Nat.zero_le _, Nat.zero_le _⟩) hP hD hS hA [2, 6, 7] [0, 1, 3, 4, 5] rfl rfl (by decide) (by decide) (fun H locs hP hD hS => ?_)
        have hP := hP.sub (ws' := (w_27 cI tS a_pat a_pat_bytes a_mis a_set a_set_begins a_set_ends a_esc a_cls pat_length mis_number mis_place x121.1 esc_kind esc_value esc_set esc_others esc_after cls_single pat_bytes x121.2.1 x121.2.2)) [0, 1, 5, 2, 3, 4, 6, 7] rfl
        have hD := hD.sub (ws' := (w_27 cI tS a_pat a_pat_bytes a_mis a_set a_set_begins a_set_ends a_esc a_cls pat_length mis_number mis_place x121.1 esc_kind esc_value esc_set esc_others esc_after cls_single pat_bytes x121.2.1 x121.2.2)) [0, 1, 5, 2, 3, 4, 6, 7] (by decide) rfl
        refine lv_goto (tgt := 140) hx hb d_CLS_readRange_124 (by decide) ?_
        refine lv_iload_n hx hb d_CLS_readRange_140 rfl (lv_at hl 3 rfl) ?_
        obtain rfl := Option.some.inj hf
        exact W.iret (v := v3) hx hb hr (fun t ht hW => ⟨⟨_, (), rfl, rfl, ⟨by rw [ht]; exact hP, va_K.moved hW.alike hK, hD⟩⟩, hS.F ht⟩) hS.2.2 d_CLS_readRange_141
    · have hf := f_neg c_ hf
      refine lv_aload_n hx hb d_CLS_readRange_99 rfl (lv_at hl 0 rfl) ?_
      refine lv_bipush (v := 6) hx hb d_CLS_readRange_100 (by decide) ?_
      refine lv_iload_n hx hb d_CLS_readRange_102 rfl (lv_at hl 1 rfl) ?_
      obtain ⟨x103, hg, hf⟩ := bnd hf
      have hPc := hP.sub (ws' := (w_26 cI tS a_mis a_cls a_pat a_esc a_set mis_number mis_place cls_single)) [1, 4] rfl
      have hDc := hD.sub (ws' := (w_26 cI tS a_mis a_cls a_pat a_esc a_set mis_number mis_place cls_single)) [1, 4] (by decide) rfl
      have hFc := va_free (wc := (w_26 cI tS a_mis a_cls a_pat a_esc a_set mis_number mis_place cls_single)) hD hS hA [1, 4] rfl
      refine cal_i (va_runV (As := [.int 6, .int p1]) (rest := []) ⟨hx, hb, hml, hown, hts⟩ (c_CLS_refused l dC dI cI tS H.size a_mis a_cls a_pat a_esc a_set mis_number mis_place cls_single 6 p1 x103 hg) ⟨callB_of 2 hts (gN tw_785) rfl rfl rfl (hts _ tw_88) (hts _ tw_782) hd_CLS_refused ⟨Nat.le_of_ble_eq_true rfl, Nat.le_of_ble_eq_true rfl⟩, hts _ tw_784, hts _ tw_20⟩ (pre_V hK hPc hDc hst0 hS hFc (va_recv hK hPc (ci := 7) (q0 := 1) rfl rfl)) rfl rfl hl.1 rfl (lv_room (Nat.le_of_ble_eq_true rfl)) d_CLS_readRange_103 ⟨Nat.zero_le _, Nat.zero_le _⟩) hP hD hS hA [1, 4] [0, 2, 3, 5, 6, 7] rfl rfl (by decide) (by decide) (fun H locs hP hD hS => ?_)
      have hP := hP.sub (ws' := (w_27 cI tS a_pat a_pat_bytes a_mis a_set a_set_begins a_set_ends a_esc a_cls pat_length x103.2.1 x103.2.2 set_pieces esc_kind esc_value esc_set esc_others esc_after cls_single pat_bytes set_begins set_ends)) [0, 6, 1, 2, 7, 3, 4, 5] rfl
      have hD := hD.sub (ws' := (w_27 cI tS a_pat a_pat_bytes a_mis a_set a_set_begins a_set_ends a_esc a_cls pat_length x103.2.1 x103.2.2 set_pieces esc_kind esc_value esc_set esc_others esc_after cls_single pat_bytes set_begins set_ends)) [0, 6, 1, 2, 7, 3, 4, 5] (by decide) rfl
      obtain rfl := Option.some.inj hf
      exact W.iret (v := x103.1) hx hb hr (fun t ht hW => ⟨⟨_, (), rfl, rfl, ⟨by rw [ht]; exact hP, va_K.moved hW.alike hK, hD⟩⟩, hS.F ht⟩) hS.2.2 d_CLS_readRange_106
  refine lv_aload_n hx hb d_CLS_readRange_0 rfl (lv_at hl 0 rfl) ?_
  refine lv_iload_n hx hb d_CLS_readRange_1 rfl (lv_at hl 1 rfl) ?_
  obtain ⟨x2, hg, hf⟩ := bnd hf
  have hPc := hP.sub (ws' := (w_28 cI tS a_pat a_pat_bytes a_mis a_esc a_cls a_set pat_length mis_number mis_place esc_kind esc_value esc_set esc_others esc_after cls_single pat_bytes)) [0, 1, 3, 4, 5] rfl
  have hDc := hD.sub (ws' := (w_28 cI tS a_pat a_pat_bytes a_mis a_esc a_cls a_set pat_length mis_number mis_place esc_kind esc_value esc_set esc_others esc_after cls_single pat_bytes)) [0, 1, 3, 4, 5] (by decide) rfl
  have hFc := va_free (wc := (w_28 cI tS a_pat a_pat_bytes a_mis a_esc a_cls a_set pat_length mis_number mis_place esc_kind esc_value esc_set esc_others esc_after cls_single pat_bytes)) hD hS hA [0, 1, 3, 4, 5] rfl
  refine cal_i (va_runV (As := [.int p1]) (rest := []) ⟨hx, hb, hml, hown, hts⟩ (c_CLS_readSingle l dC dI cI tS s.heap.size a_pat a_pat_bytes a_mis a_esc a_cls a_set pat_length mis_number mis_place esc_kind esc_value esc_set esc_others esc_after cls_single pat_bytes p1 x2 hg) ⟨callB_of 1 hts (gN tw_873) rfl rfl rfl (hts _ tw_88) (hts _ tw_870) hd_CLS_readSingle ⟨Nat.le_of_ble_eq_true rfl, Nat.le_of_ble_eq_true rfl⟩, hts _ tw_872, hts _ tw_23⟩ (pre_V hK hPc hDc hst0 hS hFc (va_recv hK hPc (ci := 7) (q0 := 3) rfl rfl)) rfl rfl hl.1 rfl (lv_room (Nat.le_of_ble_eq_true rfl)) d_CLS_readRange_2 ⟨Nat.zero_le _, Nat.zero_le _⟩) hP hD hS hA [0, 1, 3, 4, 5] [2, 6, 7] rfl rfl (by decide) (by decide) (fun H locs hP hD hS => ?_)
  have hP := hP.sub (ws' := (w_27 cI tS a_pat a_pat_bytes a_mis a_set a_set_begins a_set_ends a_esc a_cls pat_length x2.2.1 x2.2.2.1 set_pieces x2.2.2.2.1 x2.2.2.2.2.1 x2.2.2.2.2.2.1 x2.2.2.2.2.2.2.1 x2.2.2.2.2.2.2.2.1 x2.2.2.2.2.2.2.2.2 pat_bytes set_begins set_ends)) [3, 4, 0, 5, 6, 7, 1, 2] rfl
  have hD := hD.sub (ws' := (w_27 cI tS a_pat a_pat_bytes a_mis a_set a_set_begins a_set_ends a_esc a_cls pat_length x2.2.1 x2.2.2.1 set_pieces x2.2.2.2.1 x2.2.2.2.2.1 x2.2.2.2.2.2.1 x2.2.2.2.2.2.2.1 x2.2.2.2.2.2.2.2.1 x2.2.2.2.2.2.2.2.2 pat_bytes set_begins set_ends)) [3, 4, 0, 5, 6, 7, 1, 2] (by decide) rfl
  refine lv_istore_n (lv' := [(3, .int x2.1), (0, .ref a_cls), (1, .int p1), (2, .int (b2i p2))]) hx hb d_CLS_readRange_5 rfl hl (by decide) rfl (fun ls hl => ?_)
  refine lv_iload_n hx hb d_CLS_readRange_6 rfl (lv_at hl 0 rfl) ?_
  refine lv_iconst (v := (-1)) hx hb d_CLS_readRange_7 (by decide) ?_
  refine lv_icmp_ne (tgt := 13) hx hb d_CLS_readRange_8 (by decide) (fun c_ => ?_) (fun c_ => ?_)
  · have hf := f_neg c_ hf
    refine lv_aload_n hx hb d_CLS_readRange_13 rfl (lv_at hl 1 rfl) ?_
    refine va_get (D := (dC, dI)) (ci := 7) (v := .int x2.2.2.2.2.2.2.2.2) (C := R_CLS) (T := F_CLS) (N := N_CLS) hx hb hts i_CLS hown hK hP 4 rfl rfl 4 (by decide) (hts _ tw_310) (fun _ h9 => h9) rfl d_CLS_readRange_14 ?_
    refine lv_istore (lv' := [(4, .int x2.2.2.2.2.2.2.2.2), (3, .int x2.1), (0, .ref a_cls), (1, .int p1), (2, .int (b2i p2))]) hx hb d_CLS_readRange_17 hl (by decide) rfl (fun ls hl => ?_)
    refine lv_aload_n hx hb d_CLS_readRange_19 rfl (lv_at hl 2 rfl) ?_
    refine va_get (D := (dC, dI)) (ci := 7) (v := .ref a_pat) (C := R_CLS) (T := F_CLS) (N := N_CLS) hx hb hts i_CLS hown hK hP 4 rfl rfl 0 (by decide) (hts _ tw_306) (fun _ h9 => h9) rfl d_CLS_readRange_20 ?_
    refine lv_iload_n hx hb d_CLS_readRange_23 rfl (lv_at hl 1 rfl) ?_
    refine lv_iconst (v := 1) hx hb d_CLS_readRange_24 (by decide) ?_
    refine lv_iadd hx hb d_CLS_readRange_25 ?_
    obtain ⟨x26, hg, hf⟩ := bnd hf
    have hPc := hP.sub (ws' := (w_0 cI tS a_pat a_pat_bytes pat_length pat_bytes)) [0, 5] rfl
    have hDc := hD.sub (ws' := (w_0 cI tS a_pat a_pat_bytes pat_length pat_bytes)) [0, 5] (by decide) rfl
    have hFc := va_free (wc := (w_0 cI tS a_pat a_pat_bytes pat_length pat_bytes)) hD hS hA [0, 5] rfl
    refine cal_i (va_runV (As := [.int (x2.1 + 1)]) (rest := []) ⟨hx, hb, hml, hown, hts⟩ (c_PAT_at l dC dI cI tS H.size a_pat a_pat_bytes pat_length pat_bytes (x2.1 + 1) x26 hg) ⟨callB_of 1 hts (gN tw_586) rfl rfl rfl (hts _ tw_80) (hts _ tw_693) hd_PAT_at ⟨Nat.le_of_ble_eq_true rfl, Nat.le_of_ble_eq_true rfl⟩, hts _ tw_584, hts _ tw_585⟩ (pre_V hK hPc hDc hst0 hS hFc (va_recv hK hPc (ci := 0) (q0 := 0) rfl rfl)) rfl rfl hl.1 rfl (lv_room (Nat.le_of_ble_eq_true rfl)) d_CLS_readRange_26 ⟨Nat.zero_le _, Nat.zero_le _⟩) hP hD hS hA [0, 5] [1, 2, 3, 4, 6, 7] rfl rfl (by decide) (by decide) (fun H locs hP hD hS => ?_)
    have hP := hP.sub (ws' := (w_27 cI tS a_pat a_pat_bytes a_mis a_set a_set_begins a_set_ends a_esc a_cls pat_length x2.2.1 x2.2.2.1 set_pieces x2.2.2.2.1 x2.2.2.2.2.1 x2.2.2.2.2.2.1 x2.2.2.2.2.2.2.1 x2.2.2.2.2.2.2.2.1 x2.2.2.2.2.2.2.2.2 pat_bytes set_begins set_ends)) [6, 0, 1, 2, 3, 7, 4, 5] rfl
    have hD := hD.sub (ws' := (w_27 cI tS a_pat a_pat_bytes a_mis a_set a_set_begins a_set_ends a_esc a_cls pat_length x2.2.1 x2.2.2.1 set_pieces x2.2.2.2.1 x2.2.2.2.2.1 x2.2.2.2.2.2.1 x2.2.2.2.2.2.2.1 x2.2.2.2.2.2.2.2.1 x2.2.2.2.2.2.2.2.2 pat_bytes set_begins set_ends)) [6, 0, 1, 2, 3, 7, 4, 5] (by decide) rfl
    refine lv_istore (lv' := [(5, .int x26), (4, .int x2.2.2.2.2.2.2.2.2), (3, .int x2.1), (0, .ref a_cls), (1, .int p1), (2, .int (b2i p2))]) hx hb d_CLS_readRange_29 hl (by decide) rfl (fun ls hl => ?_)
    refine lv_aload_n hx hb d_CLS_readRange_31 rfl (lv_at hl 3 rfl) ?_
    refine va_get (D := (dC, dI)) (ci := 7) (v := .ref a_pat) (C := R_CLS) (T := F_CLS) (N := N_CLS) hx hb hts i_CLS hown hK hP 4 rfl rfl 0 (by decide) (hts _ tw_306) (fun _ h9 => h9) rfl d_CLS_readRange_32 ?_
    refine lv_iload_n hx hb d_CLS_readRange_35 rfl (lv_at hl 2 rfl) ?_
    obtain ⟨x36, hg, hf⟩ := bnd hf
    have hPc := hP.sub (ws' := (w_0 cI tS a_pat a_pat_bytes pat_length pat_bytes)) [0, 5] rfl
    have hDc := hD.sub (ws' := (w_0 cI tS a_pat a_pat_bytes pat_length pat_bytes)) [0, 5] (by decide) rfl
    have hFc := va_free (wc := (w_0 cI tS a_pat a_pat_bytes pat_length pat_bytes)) hD hS hA [0, 5] rfl
    refine cal_i (va_runV (As := [.int x2.1]) (rest := []) ⟨hx, hb, hml, hown, hts⟩ (c_PAT_at l dC dI cI tS H.size a_pat a_pat_bytes pat_length pat_bytes x2.1 x36 hg) ⟨callB_of 1 hts (gN tw_586) rfl rfl rfl (hts _ tw_80) (hts _ tw_693) hd_PAT_at ⟨Nat.le_of_ble_eq_true rfl, Nat.le_of_ble_eq_true rfl⟩, hts _ tw_584, hts _ tw_585⟩ (pre_V hK hPc hDc hst0 hS hFc (va_recv hK hPc (ci := 0) (q0 := 0) rfl rfl)) rfl rfl hl.1 rfl (lv_room (Nat.le_of_ble_eq_true rfl)) d_CLS_readRange_36 ⟨Nat.zero_le _, Nat.zero_le _⟩) hP hD hS hA [0, 5] [1, 2, 3, 4, 6, 7] rfl rfl (by decide) (by decide) (fun H locs hP hD hS => ?_)
    have hP := hP.sub (ws' := (w_27 cI tS a_pat a_pat_bytes a_mis a_set a_set_begins a_set_ends a_esc a_cls pat_length x2.2.1 x2.2.2.1 set_pieces x2.2.2.2.1 x2.2.2.2.2.1 x2.2.2.2.2.2.1 x2.2.2.2.2.2.2.1 x2.2.2.2.2.2.2.2.1 x2.2.2.2.2.2.2.2.2 pat_bytes set_begins set_ends)) [6, 0, 1, 2, 3, 7, 4, 5] rfl
    have hD := hD.sub (ws' := (w_27 cI tS a_pat a_pat_bytes a_mis a_set a_set_begins a_set_ends a_esc a_cls pat_length x2.2.1 x2.2.2.1 set_pieces x2.2.2.2.1 x2.2.2.2.2.1 x2.2.2.2.2.2.1 x2.2.2.2.2.2.2.1 x2.2.2.2.2.2.2.2.1 x2.2.2.2.2.2.2.2.2 pat_bytes set_begins set_ends)) [6, 0, 1, 2, 3, 7, 4, 5] (by decide) rfl
    refine lv_bipush (v := 45) hx hb d_CLS_readRange_39 (by decide) ?_
    refine lv_icmp_ne (tgt := 90) hx hb d_CLS_readRange_41 (by decide) (fun c_ => ?_) (fun c_ => ?_)
    · have hf := f_neg c_ hf
      exact L90 x2.1 x2.2.2.2.2.2.2.2.2 x2.2.1 x2.2.2.1 set_pieces x2.2.2.2.1 x2.2.2.2.2.1 x2.2.2.2.2.2.1 x2.2.2.2.2.2.2.1 x2.2.2.2.2.2.2.2.1 x2.2.2.2.2.2.2.2.2 set_begins set_ends _ _ _ hP hD hS (lv_sub hl [3, 4, 5, 2, 1] rfl) hf
    · have hf := f_pos c_ hf
      refine lv_iload hx hb d_CLS_readRange_44 (lv_at hl 0 rfl) ?_
      refine lv_bipush (v := 93) hx hb d_CLS_readRange_46 (by decide) ?_
      refine lv_icmp_eq (tgt := 90) hx hb d_CLS_readRange_48 (by decide) (fun c_ => ?_) (fun c_ => ?_)
      · have hf := f_pos c_ hf
        exact L90 x2.1 x2.2.2.2.2.2.2.2.2 x2.2.1 x2.2.2.1 set_pieces x2.2.2.2.1 x2.2.2.2.2.1 x2.2.2.2.2.2.1 x2.2.2.2.2.2.2.1 x2.2.2.2.2.2.2.2.1 x2.2.2.2.2.2.2.2.2 set_begins set_ends _ _ _ hP hD hS (lv_sub hl [3, 4, 5, 2, 1] rfl) hf
      · have hf := f_neg c_ hf
        refine lv_iload hx hb d_CLS_readRange_51 (lv_at hl 0 rfl) ?_
        refine lv_iconst (v := (-1)) hx hb d_CLS_readRange_53 (by decide) ?_
        refine lv_icmp_eq (tgt := 90) hx hb d_CLS_readRange_54 (by decide) (fun c_ => ?_) (fun c_ => ?_)
        · have hf := f_pos c_ hf
          exact L90 x2.1 x2.2.2.2.2.2.2.2.2 x2.2.1 x2.2.2.1 set_pieces x2.2.2.2.1 x2.2.2.2.2.1 x2.2.2.2.2.2.1 x2.2.2.2.2.2.2.1 x2.2.2.2.2.2.2.2.1 x2.2.2.2.2.2.2.2.2 set_begins set_ends _ _ _ hP hD hS (lv_sub hl [3, 4, 5, 2, 1] rfl) hf
        · have hf := f_neg c_ hf
          refine lv_aload_n hx hb d_CLS_readRange_57 rfl (lv_at hl 3 rfl) ?_
          refine lv_iload_n hx hb d_CLS_readRange_58 rfl (lv_at hl 2 rfl) ?_
          refine lv_iconst (v := 1) hx hb d_CLS_readRange_59 (by decide) ?_
          refine lv_iadd hx hb d_CLS_readRange_60 ?_
          obtain ⟨x61, hg, hf⟩ := bnd hf
          have hPc := hP.sub (ws' := (w_23 cI tS a_pat a_pat_bytes a_cls a_mis a_esc a_set pat_length x2.2.2.2.2.2.2.2.2 pat_bytes)) [0, 4, 5] rfl
          have hDc := hD.sub (ws' := (w_23 cI tS a_pat a_pat_bytes a_cls a_mis a_esc a_set pat_length x2.2.2.2.2.2.2.2.2 pat_bytes)) [0, 4, 5] (by decide) rfl
          have hFc := va_free (wc := (w_23 cI tS a_pat a_pat_bytes a_cls a_mis a_esc a_set pat_length x2.2.2.2.2.2.2.2.2 pat_bytes)) hD hS hA [0, 4, 5] rfl
          refine cal_i (va_runV (As := [.int (x2.1 + 1)]) (rest := []) ⟨hx, hb, hml, hown, hts⟩ (c_CLS_isSetItem l dC dI cI tS H.size a_pat a_pat_bytes a_cls a_mis a_esc a_set pat_length x2.2.2.2.2.2.2.2.2 pat_bytes (x2.1 + 1) x61 hg) ⟨callB_of 1 hts (gN tw_719) rfl rfl rfl (hts _ tw_88) (hts _ tw_716) hd_CLS_isSetItem ⟨Nat.le_of_ble_eq_true rfl, Nat.le_of_ble_eq_true rfl⟩, hts _ tw_718, hts _ tw_13⟩ (pre_V hK hPc hDc hst0 hS hFc (va_recv hK hPc (ci := 7) (q0 := 1) rfl rfl)) rfl rfl hl.1 rfl (lv_room (Nat.le_of_ble_eq_true rfl)) d_CLS_readRange_61 ⟨Nat.zero_le _, Nat.zero_le _⟩) hP hD hS hA [0, 4, 5] [1, 2, 3, 6, 7] rfl rfl (by decide) (by decide) (fun H locs hP hD hS => ?_)
          have hP := hP.sub (ws' := (w_27 cI tS a_pat a_pat_bytes a_mis a_set a_set_begins a_set_ends a_esc a_cls pat_length x2.2.1 x2.2.2.1 set_pieces x2.2.2.2.1 x2.2.2.2.2.1 x2.2.2.2.2.2.1 x2.2.2.2.2.2.2.1 x2.2.2.2.2.2.2.2.1 x2.2.2.2.2.2.2.2.2 pat_bytes set_begins set_ends)) [5, 0, 1, 2, 6, 7, 3, 4] rfl
          have hD := hD.sub (ws' := (w_27 cI tS a_pat a_pat_bytes a_mis a_set a_set_begins a_set_ends a_esc a_cls pat_length x2.2.1 x2.2.2.1 set_pieces x2.2.2.2.1 x2.2.2.2.2.1 x2.2.2.2.2.2.1 x2.2.2.2.2.2.2.1 x2.2.2.2.2.2.2.2.1 x2.2.2.2.2.2.2.2.2 pat_bytes set_begins set_ends)) [5, 0, 1, 2, 6, 7, 3, 4] (by decide) rfl
          refine lv_if_eq (tgt := 75) hx hb d_CLS_readRange_64 (by decide) (fun c_ => ?_) (fun c_ => ?_)
          · have hf := f_pos c_ hf
            refine lv_aload_n hx hb d_CLS_readRange_75 rfl (lv_at hl 3 rfl) ?_
            refine lv_iload_n hx hb d_CLS_readRange_76 rfl (lv_at hl 2 rfl) ?_
            refine lv_iconst (v := 1) hx hb d_CLS_readRange_77 (by decide) ?_
            refine lv_iadd hx hb d_CLS_readRange_78 ?_
            obtain ⟨x79, hg, hf⟩ := bnd hf
            have hPc := hP.sub (ws' := (w_28 cI tS a_pat a_pat_bytes a_mis a_esc a_cls a_set pat_length x2.2.1 x2.2.2.1 x2.2.2.2.1 x2.2.2.2.2.1 x2.2.2.2.2.2.1 x2.2.2.2.2.2.2.1 x2.2.2.2.2.2.2.2.1 x2.2.2.2.2.2.2.2.2 pat_bytes)) [0, 1, 3, 4, 5] rfl
            have hDc := hD.sub (ws' := (w_28 cI tS a_pat a_pat_bytes a_mis a_esc a_cls a_set pat_length x2.2.1 x2.2.2.1 x2.2.2.2.1 x2.2.2.2.2.1 x2.2.2.2.2.2.1 x2.2.2.2.2.2.2.1 x2.2.2.2.2.2.2.2.1 x2.2.2.2.2.2.2.2.2 pat_bytes)) [0, 1, 3, 4, 5] (by decide) rfl
            have hFc := va_free (wc := (w_28 cI tS a_pat a_pat_bytes a_mis a_esc a_cls a_set pat_length x2.2.1 x2.2.2.1 x2.2.2.2.1 x2.2.2.2.2.1 x2.2.2.2.2.2.1 x2.2.2.2.2.2.2.1 x2.2.2.2.2.2.2.2.1 x2.2.2.2.2.2.2.2.2 pat_bytes)) hD hS hA [0, 1, 3, 4, 5] rfl
            refine cal_i (va_runV (As := [.int (x2.1 + 1)]) (rest := []) ⟨hx, hb, hml, hown, hts⟩ (c_CLS_readSingle l dC dI cI tS H.size a_pat a_pat_bytes a_mis a_esc a_cls a_set pat_length x2.2.1 x2.2.2.1 x2.2.2.2.1 x2.2.2.2.2.1 x2.2.2.2.2.2.1 x2.2.2.2.2.2.2.1 x2.2.2.2.2.2.2.2.1 x2.2.2.2.2.2.2.2.2 pat_bytes (x2.1 + 1) x79 hg) ⟨callB_of 1 hts (gN tw_873) rfl rfl rfl (hts _ tw_88) (hts _ tw_870) hd_CLS_readSingle ⟨Nat.le_of_ble_eq_true rfl, Nat.le_of_ble_eq_true rfl⟩, hts _ tw_872, hts _ tw_23⟩ (pre_V hK hPc hDc hst0 hS hFc (va_recv hK hPc (ci := 7) (q0 := 3) rfl rfl)) rfl rfl hl.1 rfl (lv_room (Nat.le_of_ble_eq_true rfl)) d_CLS_readRange_79 ⟨Nat.zero_le _, Nat.zero_le _⟩) hP hD hS hA [0, 1, 3, 4, 5] [2, 6, 7] rfl rfl (by decide) (by decide) (fun H locs hP hD hS => ?_)
            have hP := hP.sub (ws' := (w_27 cI tS a_pat a_pat_bytes a_mis a_set a_set_begins a_set_ends a_esc a_cls pat_length x79.2.1 x79.2.2.1 set_pieces x79.2.2.2.1 x79.2.2.2.2.1 x79.2.2.2.2.2.1 x79.2.2.2.2.2.2.1 x79.2.2.2.2.2.2.2.1 x79.2.2.2.2.2.2.2.2 pat_bytes set_begins set_ends)) [3, 4, 0, 5, 6, 7, 1, 2] rfl
            have hD := hD.sub (ws' := (w_27 cI tS a_pat a_pat_bytes a_mis a_set a_set_begins a_set_ends a_esc a_cls pat_length x79.2.1 x79.2.2.1 set_pieces x79.2.2.2.1 x79.2.2.2.2.1 x79.2.2.2.2.2.1 x79.2.2.2.2.2.2.1 x79.2.2.2.2.2.2.2.1 x79.2.2.2.2.2.2.2.2 pat_bytes set_begins set_ends)) [3, 4, 0, 5, 6, 7, 1, 2] (by decide) rfl
            refine lv_istore_n (lv' := [(3, .int x79.1), (5, .int x26), (4, .int x2.2.2.2.2.2.2.2.2), (0, .ref a_cls), (1, .int p1), (2, .int (b2i p2))]) hx hb d_CLS_readRange_82 rfl hl (by decide) rfl (fun ls hl => ?_)
            refine lv_iload_n hx hb d_CLS_readRange_83 rfl (lv_at hl 0 rfl) ?_
            refine lv_iconst (v := (-1)) hx hb d_CLS_readRange_84 (by decide) ?_
            refine lv_icmp_ne (tgt := 90) hx hb d_CLS_readRange_85 (by decide) (fun c_ => ?_) (fun c_ => ?_)
            · have hf := f_neg c_ hf
              exact L90 x79.1 x2.2.2.2.2.2.2.2.2 x79.2.1 x79.2.2.1 set_pieces x79.2.2.2.1 x79.2.2.2.2.1 x79.2.2.2.2.2.1 x79.2.2.2.2.2.2.1 x79.2.2.2.2.2.2.2.1 x79.2.2.2.2.2.2.2.2 set_begins set_ends _ _ _ hP hD hS (lv_sub hl [3, 4, 5, 0, 2] rfl) hf
            · have hf := f_pos c_ hf
              refine lv_iconst (v := (-1)) hx hb d_CLS_readRange_88 (by decide) ?_
              obtain rfl := Option.some.inj hf
              exact W.iret (v := (-1)) hx hb hr (fun t ht hW => ⟨⟨_, (), rfl, rfl, ⟨by rw [ht]; exact hP, va_K.moved hW.alike hK, hD⟩⟩, hS.F ht⟩) hS.2.2 d_CLS_readRange_89
          · have hf := f_neg c_ hf
            refine lv_aload_n hx hb d_CLS_readRange_67 rfl (lv_at hl 3 rfl) ?_
            refine lv_bipush (v := 6) hx hb d_CLS_readRange_68 (by decide) ?_
            refine lv_iload_n hx hb d_CLS_readRange_70 rfl (lv_at hl 4 rfl) ?_
            obtain ⟨x71, hg, hf⟩ := bnd hf
            have hPc := hP.sub (ws' := (w_26 cI tS a_mis a_cls a_pat a_esc a_set x2.2.1 x2.2.2.1 x2.2.2.2.2.2.2.2.2)) [1, 4] rfl
            have hDc := hD.sub (ws' := (w_26 cI tS a_mis a_cls a_pat a_esc a_set x2.2.1 x2.2.2.1 x2.2.2.2.2.2.2.2.2)) [1, 4] (by decide) rfl
            have hFc := va_free (wc := (w_26 cI tS a_mis a_cls a_pat a_esc a_set x2.2.1 x2.2.2.1 x2.2.2.2.2.2.2.2.2)) hD hS hA [1, 4] rfl
            refine cal_i (va_runV (As := [.int 6, .int p1]) (rest := []) ⟨hx, hb, hml, hown, hts⟩ (c_CLS_refused l dC dI cI tS H.size a_mis a_cls a_pat a_esc a_set x2.2.1 x2.2.2.1 x2.2.2.2.2.2.2.2.2 6 p1 x71 hg) ⟨callB_of 2 hts (gN tw_785) rfl rfl rfl (hts _ tw_88) (hts _ tw_782) hd_CLS_refused ⟨Nat.le_of_ble_eq_true rfl, Nat.le_of_ble_eq_true rfl⟩, hts _ tw_784, hts _ tw_20⟩ (pre_V hK hPc hDc hst0 hS hFc (va_recv hK hPc (ci := 7) (q0 := 1) rfl rfl)) rfl rfl hl.1 rfl (lv_room (Nat.le_of_ble_eq_true rfl)) d_CLS_readRange_71 ⟨Nat.zero_le _, Nat.zero_le _⟩) hP hD hS hA [1, 4] [0, 2, 3, 5, 6, 7] rfl rfl (by decide) (by decide) (fun H locs hP hD hS => ?_)
            have hP := hP.sub (ws' := (w_27 cI tS a_pat a_pat_bytes a_mis a_set a_set_begins a_set_ends a_esc a_cls pat_length x71.2.1 x71.2.2 set_pieces x2.2.2.2.1 x2.2.2.2.2.1 x2.2.2.2.2.2.1 x2.2.2.2.2.2.2.1 x2.2.2.2.2.2.2.2.1 x2.2.2.2.2.2.2.2.2 pat_bytes set_begins set_ends)) [0, 6, 1, 2, 7, 3, 4, 5] rfl
            have hD := hD.sub (ws' := (w_27 cI tS a_pat a_pat_bytes a_mis a_set a_set_begins a_set_ends a_esc a_cls pat_length x71.2.1 x71.2.2 set_pieces x2.2.2.2.1 x2.2.2.2.2.1 x2.2.2.2.2.2.1 x2.2.2.2.2.2.2.1 x2.2.2.2.2.2.2.2.1 x2.2.2.2.2.2.2.2.2 pat_bytes set_begins set_ends)) [0, 6, 1, 2, 7, 3, 4, 5] (by decide) rfl
            obtain rfl := Option.some.inj hf
            exact W.iret (v := x71.1) hx hb hr (fun t ht hW => ⟨⟨_, (), rfl, rfl, ⟨by rw [ht]; exact hP, va_K.moved hW.alike hK, hD⟩⟩, hS.F ht⟩) hS.2.2 d_CLS_readRange_74
  · have hf := f_pos c_ hf
    refine lv_iconst (v := (-1)) hx hb d_CLS_readRange_11 (by decide) ?_
    obtain rfl := Option.some.inj hf
    exact W.iret (v := (-1)) hx hb hr (fun t ht hW => ⟨⟨_, (), rfl, rfl, ⟨by rw [ht]; exact hP, va_K.moved hW.alike hK, hD⟩⟩, hS.F ht⟩) hS.2.2 d_CLS_readRange_12
def f_CLS_readClass_L145 (pat_length : Int32) (pat_bytes : Nat → Int32) (p1 : Int32) (p2 : Bool) (mis_number : Int32) (mis_place : Int32) (set_pieces : Int32) (esc_kind : Int32) (esc_value : Int32) (esc_set : Nat) (esc_others : Bool) (esc_after : Int32) (cls_single : Int32) (set_begins : Nat → Int32) (set_ends : Nat → Int32) : Option (Int32 × Int32 × Int32 × Int32 × Int32 × Int32 × Nat × Bool × Int32 × Int32 × (Nat → Int32) × (Nat → Int32)) :=
  bnd_ (f_CLS_refused mis_number mis_place 4 p1) (fun x148 => some (x148.1, x148.2.1, x148.2.2, set_pieces, esc_kind, esc_value, esc_set, esc_others, esc_after, cls_single, set_begins, set_ends))
def f_CLS_readClass_L129 (pat_length : Int32) (pat_bytes : Nat → Int32) (p1 : Int32) (p2 : Bool) (K50 : (Bool × Int32 × Int32 × Int32 × Int32 × Int32 × Int32 × Int32 × Int32 × Nat × Bool × Int32 × Int32 × (Nat → Int32) × (Nat → Int32)) → Option (Int32 × Int32 × Int32 × Int32 × Int32 × Int32 × Nat × Bool × Int32 × Int32 × (Nat → Int32) × (Nat → Int32))) (v3 : Bool) (v4 : Int32) (v6 : Int32) (z0 : Int32) (mis_number : Int32) (mis_place : Int32) (set_pieces : Int32) (esc_kind : Int32) (esc_value : Int32) (esc_set : Nat) (esc_others : Bool) (esc_after : Int32) (cls_single : Int32) (set_begins : Nat → Int32) (set_ends : Nat → Int32) : Option (Int32 × Int32 × Int32 × Int32 × Int32 × Int32 × Nat × Bool × Int32 × Int32 × (Nat → Int32) × (Nat → Int32)) :=
  if z0 = (-1) then some ((-1), mis_number, mis_place, set_pieces, esc_kind, esc_value, esc_set, esc_others, esc_after, cls_single, set_begins, set_ends) else K50 (v3, v4, z0, v6 + 1, mis_number, mis_place, set_pieces, esc_kind, esc_value, esc_set, esc_others, esc_after, cls_single, set_begins, set_ends)
def f_CLS_readClass_L104 (pat_length : Int32) (pat_bytes : Nat → Int32) (p1 : Int32) (p2 : Bool) (K50 : (Bool × Int32 × Int32 × Int32 × Int32 × Int32 × Int32 × Int32 × Int32 × Nat × Bool × Int32 × Int32 × (Nat → Int32) × (Nat → Int32)) → Option (Int32 × Int32 × Int32 × Int32 × Int32 × Int32 × Nat × Bool × Int32 × Int32 × (Nat → Int32) × (Nat → Int32))) (v3 : Bool) (v4 : Int32) (v5 : Int32) (v6 : Int32) (mis_number : Int32) (mis_place : Int32) (set_pieces : Int32) (esc_kind : Int32) (esc_value : Int32) (esc_set : Nat) (esc_others : Bool) (esc_after : Int32) (cls_single : Int32) (set_begins : Nat → Int32) (set_ends : Nat → Int32) : Option (Int32 × Int32 × Int32 × Int32 × Int32 × Int32 × Nat × Bool × Int32 × Int32 × (Nat → Int32) × (Nat → Int32)) :=
  bnd_ (f_CLS_isSetItem pat_length pat_bytes v5) (fun x107 => if (b2i x107) = 0 then bnd_ (f_CLS_readRange pat_length mis_number mis_place set_pieces esc_kind esc_value esc_set esc_others esc_after cls_single pat_bytes set_begins set_ends v5 p2) (fun x126 => f_CLS_readClass_L129 pat_length pat_bytes p1 p2 K50 v3 v4 v6 x126.1 x126.2.1 x126.2.2.1 x126.2.2.2.1 x126.2.2.2.2.1 x126.2.2.2.2.2.1 x126.2.2.2.2.2.2.1 x126.2.2.2.2.2.2.2.1 x126.2.2.2.2.2.2.2.2.1 x126.2.2.2.2.2.2.2.2.2.1 x126.2.2.2.2.2.2.2.2.2.2.1 x126.2.2.2.2.2.2.2.2.2.2.2) else bnd_ (f_CLS_readSetItem pat_length mis_number mis_place set_pieces esc_kind esc_value esc_set esc_others esc_after pat_bytes set_begins set_ends v5) (fun x116 => f_CLS_readClass_L129 pat_length pat_bytes p1 p2 K50 v3 v4 v6 x116.1 x116.2.1 x116.2.2.1 x116.2.2.2.1 x116.2.2.2.2.1 x116.2.2.2.2.2.1 x116.2.2.2.2.2.2.1 x116.2.2.2.2.2.2.2.1 x116.2.2.2.2.2.2.2.2.1 cls_single x116.2.2.2.2.2.2.2.2.2.1 x116.2.2.2.2.2.2.2.2.2.2))
def f_CLS_readClass_B50 (pat_length : Int32) (pat_bytes : Nat → Int32) (p1 : Int32) (p2 : Bool) (K50 : (Bool × Int32 × Int32 × Int32 × Int32 × Int32 × Int32 × Int32 × Int32 × Nat × Bool × Int32 × Int32 × (Nat → Int32) × (Nat → Int32)) → Option (Int32 × Int32 × Int32 × Int32 × Int32 × Int32 × Nat × Bool × Int32 × Int32 × (Nat → Int32) × (Nat → Int32))) (v3 : Bool) (v4 : Int32) (v5 : Int32) (v6 : Int32) (mis_number : Int32) (mis_place : Int32) (set_pieces : Int32) (esc_kind : Int32) (esc_value : Int32) (esc_set : Nat) (esc_others : Bool) (esc_after : Int32) (cls_single : Int32) (set_begins : Nat → Int32) (set_ends : Nat → Int32) : Option (Int32 × Int32 × Int32 × Int32 × Int32 × Int32 × Nat × Bool × Int32 × Int32 × (Nat → Int32) × (Nat → Int32)) :=
  if 400 ≤ v6 then f_CLS_readClass_L145 pat_length pat_bytes p1 p2 mis_number mis_place set_pieces esc_kind esc_value esc_set esc_others esc_after cls_single set_begins set_ends else (if pat_length ≤ v5 then f_CLS_readClass_L145 pat_length pat_bytes p1 p2 mis_number mis_place set_pieces esc_kind esc_value esc_set esc_others esc_after cls_single set_begins set_ends else bnd_ (f_PAT_at pat_length pat_bytes v5) (fun x76 => if x76 = 93 then (if v5 ≤ v4 then f_CLS_readClass_L104 pat_length pat_bytes p1 p2 K50 v3 v4 v5 v6 mis_number mis_place set_pieces esc_kind esc_value esc_set esc_others esc_after cls_single set_begins set_ends else bnd_ (f_SET_finish set_pieces set_begins set_ends v3) (fun x96 => some (v5 + 1, mis_number, mis_place, x96.1, esc_kind, esc_value, esc_set, esc_others, esc_after, cls_single, x96.2.1, x96.2.2))) else f_CLS_readClass_L104 pat_length pat_bytes p1 p2 K50 v3 v4 v5 v6 mis_number mis_place set_pieces esc_kind esc_value esc_set esc_others esc_after cls_single set_begins set_ends))
def f_CLS_readClass_L50 (pat_length : Int32) (pat_bytes : Nat → Int32) (p1 : Int32) (p2 : Bool) (n : Nat) (a : Bool × Int32 × Int32 × Int32 × Int32 × Int32 × Int32 × Int32 × Int32 × Nat × Bool × Int32 × Int32 × (Nat → Int32) × (Nat → Int32)) : Option (Int32 × Int32 × Int32 × Int32 × Int32 × Int32 × Nat × Bool × Int32 × Int32 × (Nat → Int32) × (Nat → Int32)) :=
  lpF (fun K50 v => f_CLS_readClass_B50 pat_length pat_bytes p1 p2  K50 v.1 v.2.1 v.2.2.1 v.2.2.2.1 v.2.2.2.2.1 v.2.2.2.2.2.1 v.2.2.2.2.2.2.1 v.2.2.2.2.2.2.2.1 v.2.2.2.2.2.2.2.2.1 v.2.2.2.2.2.2.2.2.2.1 v.2.2.2.2.2.2.2.2.2.2.1 v.2.2.2.2.2.2.2.2.2.2.2.1 v.2.2.2.2.2.2.2.2.2.2.2.2.1 v.2.2.2.2.2.2.2.2.2.2.2.2.2.1 v.2.2.2.2.2.2.2.2.2.2.2.2.2.2) n a
def f_CLS_readClass_L34 (pat_length : Int32) (pat_bytes : Nat → Int32) (p1 : Int32) (p2 : Bool) (v3 : Bool) (z0 : Int32) (mis_number : Int32) (mis_place : Int32) (set_pieces : Int32) (esc_kind : Int32) (esc_value : Int32) (esc_set : Nat) (esc_others : Bool) (esc_after : Int32) (cls_single : Int32) (set_begins : Nat → Int32) (set_ends : Nat → Int32) : Option (Int32 × Int32 × Int32 × Int32 × Int32 × Int32 × Nat × Bool × Int32 × Int32 × (Nat → Int32) × (Nat → Int32)) :=
  bnd_ (f_SET_clear set_pieces) (fun x44 => f_CLS_readClass_L50 pat_length pat_bytes p1 p2 FU (v3, z0, z0, 0, mis_number, mis_place, x44, esc_kind, esc_value, esc_set, esc_others, esc_after, cls_single, set_begins, set_ends))
def f_CLS_readClass_L20 (pat_length : Int32) (pat_bytes : Nat → Int32) (p1 : Int32) (p2 : Bool) (z0 : Bool) (mis_number : Int32) (mis_place : Int32) (set_pieces : Int32) (esc_kind : Int32) (esc_value : Int32) (esc_set : Nat) (esc_others : Bool) (esc_after : Int32) (cls_single : Int32) (set_begins : Nat → Int32) (set_ends : Nat → Int32) : Option (Int32 × Int32 × Int32 × Int32 × Int32 × Int32 × Nat × Bool × Int32 × Int32 × (Nat → Int32) × (Nat → Int32)) :=
  if (b2i z0) = 0 then f_CLS_readClass_L34 pat_length pat_bytes p1 p2 z0 (p1 + 1) mis_number mis_place set_pieces esc_kind esc_value esc_set esc_others esc_after cls_single set_begins set_ends else f_CLS_readClass_L34 pat_length pat_bytes p1 p2 z0 (p1 + 2) mis_number mis_place set_pieces esc_kind esc_value esc_set esc_others esc_after cls_single set_begins set_ends
def f_CLS_readClass (pat_length : Int32) (mis_number : Int32) (mis_place : Int32) (set_pieces : Int32) (esc_kind : Int32) (esc_value : Int32) (esc_set : Nat) (esc_others : Bool) (esc_after : Int32) (cls_single : Int32) (pat_bytes : Nat → Int32) (set_begins : Nat → Int32) (set_ends : Nat → Int32) (p1 : Int32) (p2 : Bool) : Option (Int32 × Int32 × Int32 × Int32 × Int32 × Int32 × Nat × Bool × Int32 × Int32 × (Nat → Int32) × (Nat → Int32)) :=
  bnd_ (f_PAT_at pat_length pat_bytes (p1 + 1)) (fun x7 => if x7 = 94 then f_CLS_readClass_L20 pat_length pat_bytes p1 p2 true mis_number mis_place set_pieces esc_kind esc_value esc_set esc_others esc_after cls_single set_begins set_ends else f_CLS_readClass_L20 pat_length pat_bytes p1 p2 false mis_number mis_place set_pieces esc_kind esc_value esc_set esc_others esc_after cls_single set_begins set_ends)
set_option maxRecDepth 100000 in
set_option maxHeartbeats 4000000 in
theorem c_CLS_readClass (l : Launch) (dC : Nat → ClassId) (dI : Nat → Nat → Nat) (cI : ClassId) (tS : Nat → Nat → Nat) (sz : Nat) (a_pat a_pat_bytes a_mis a_set a_set_begins a_set_ends a_esc a_cls : Nat) (pat_length : Int32) (mis_number : Int32) (mis_place : Int32) (set_pieces : Int32) (esc_kind : Int32) (esc_value : Int32) (esc_set : Nat) (esc_others : Bool) (esc_after : Int32) (cls_single : Int32) (pat_bytes : Nat → Int32) (set_begins : Nat → Int32) (set_ends : Nat → Int32) (p1 : Int32) (p2 : Bool) (R0 : Int32 × Int32 × Int32 × Int32 × Int32 × Int32 × Nat × Bool × Int32 × Int32 × (Nat → Int32) × (Nat → Int32)) (hf : f_CLS_readClass pat_length mis_number mis_place set_pieces esc_kind esc_value esc_set esc_others esc_after cls_single pat_bytes set_begins set_ends p1 p2 = some R0) : Met l y_CLS_readClass ws_CLS_readClass ({ frames := 7, cells := 0, slots := 0, locals := 153 }) (va_Pc [.ref a_cls, .int p1, .int (b2i p2)] (preS (dC, dI) classes [(cI, .int)] tS (w_27 cI tS a_pat a_pat_bytes a_mis a_set a_set_begins a_set_ends a_esc a_cls pat_length mis_number mis_place set_pieces esc_kind esc_value esc_set esc_others esc_after cls_single pat_bytes set_begins set_ends) sz)) (va_Qi (fun r (_ : Unit) => r = R0.1) (fun _ t => posS (dC, dI) classes [(cI, .int)] (w_27 cI tS a_pat a_pat_bytes a_mis a_set a_set_begins a_set_ends a_esc a_cls pat_length R0.2.1 R0.2.2.1 R0.2.2.2.1 R0.2.2.2.2.1 R0.2.2.2.2.2.1 R0.2.2.2.2.2.2.1 R0.2.2.2.2.2.2.2.1 R0.2.2.2.2.2.2.2.2.1 R0.2.2.2.2.2.2.2.2.2.1 pat_bytes R0.2.2.2.2.2.2.2.2.2.2.1 R0.2.2.2.2.2.2.2.2.2.2.2) (va_A (w_27 cI tS a_pat a_pat_bytes a_mis a_set a_set_begins a_set_ends a_esc a_cls pat_length mis_number mis_place set_pieces esc_kind esc_value esc_set esc_others esc_after cls_single pat_bytes set_begins set_ends) sz) t) (va_A (w_27 cI tS a_pat a_pat_bytes a_mis a_set a_set_begins a_set_ends a_esc a_cls pat_length mis_number mis_place set_pieces esc_kind esc_value esc_set esc_others esc_after cls_single pat_bytes set_begins set_ends) sz)) 0 0 (va_A (w_27 cI tS a_pat a_pat_bytes a_mis a_set a_set_begins a_set_ends a_esc a_cls pat_length mis_number mis_place set_pieces esc_kind esc_value esc_set esc_others esc_after cls_single pat_bytes set_begins set_ends) sz) := by
  refine Met.ofW (cc := b_CLS_readClass) (maxL := 7) (ret := (some .int)) (by decide) rfl ?_
  intro p e s m args below meth c s₁ B hml hv
  obtain ⟨rfl, hsz, hP, hK, hD0, hst0⟩ := hv
  have hx := B.exec
  have hb := B.bytes
  have hr := B.returns
  have hts0 := atoms_spec (ws := ws_CLS_readClass) B.pre
  have hts : ∀ w ∈ GW, w.before _ s = true := fun w h => hts0 w (List.mem_cons_of_mem _ h)
  have hown : s.vm.findClass R_CLS = some m.cls := findClass_of_methodNamed B.named
  have hlocks := B.notSynchronized
  subst hsz
  have hD := hD0.self (sz := s.heap.size)
  generalize hAe : va_A (w_27 cI tS a_pat a_pat_bytes a_mis a_set a_set_begins a_set_ends a_esc a_cls pat_length mis_number mis_place set_pieces esc_kind esc_value esc_set esc_others esc_after cls_single pat_bytes set_begins set_ends) s.heap.size = A at hD hst0 ⊢
  have hA : ∀ q : Nat, s.heap.size ≤ q → A q := fun q h => by rw [← hAe]; exact Or.inr h
  have hS : va_S A s.heap s.heap [] := va_S.rf
  have hl := lv_entry ([.ref a_cls, .int p1, .int (b2i p2)]) (n := 7) (Nat.le_of_ble_eq_true rfl)
  rw [lg_entry_eq]
  generalize (lg_sl ([.ref a_cls, .int p1, .int (b2i p2)]) ++ List.replicate (7 - (lg_sl ([.ref a_cls, .int p1, .int (b2i p2)])).length) Slot.unset).toArray = ls at hl ⊢
  have hl : lv_has ls 7 [(0, .ref a_cls), (1, .int p1), (2, .int (b2i p2))] := hl
  have L145 : ∀ (mis_number : Int32) (mis_place : Int32) (set_pieces : Int32) (esc_kind : Int32) (esc_value : Int32) (esc_set : Nat) (esc_others : Bool) (esc_after : Int32) (cls_single : Int32) (set_begins : Nat → Int32) (set_ends : Nat → Int32) (H : Heap) (locs : List Loc) (ls : Array Slot), va_P (dC, dI) classes (w_27 cI tS a_pat a_pat_bytes a_mis a_set a_set_begins a_set_ends a_esc a_cls pat_length mis_number mis_place set_pieces esc_kind esc_value esc_set esc_others esc_after cls_single pat_bytes set_begins set_ends) H → va_D A (w_27 cI tS a_pat a_pat_bytes a_mis a_set a_set_begins a_set_ends a_esc a_cls pat_length mis_number mis_place set_pieces esc_kind esc_value esc_set esc_others esc_after cls_single pat_bytes set_begins set_ends) → va_S A s.heap H locs → lv_has ls 7 [(0, .ref a_cls), (1, .int p1)] → f_CLS_readClass_L145 pat_length pat_bytes p1 p2 mis_number mis_place set_pieces esc_kind esc_value esc_set esc_others esc_after cls_single set_begins set_ends = some R0 → W p l e (headSpec ws_CLS_readClass ({ frames := 7, cells := 0, slots := 0, locals := 153 })).room s m ([.ref a_cls, .int p1, .int (b2i p2)] : List Value).toArray below meth c H locs 0 0 (MQ below (va_Qi (fun r (_ : Unit) => r = R0.1) (fun _ t => posS (dC, dI) classes [(cI, .int)] (w_27 cI tS a_pat a_pat_bytes a_mis a_set a_set_begins a_set_ends a_esc a_cls pat_length R0.2.1 R0.2.2.1 R0.2.2.2.1 R0.2.2.2.2.1 R0.2.2.2.2.2.1 R0.2.2.2.2.2.2.1 R0.2.2.2.2.2.2.2.1 R0.2.2.2.2.2.2.2.2.1 R0.2.2.2.2.2.2.2.2.2.1 pat_bytes R0.2.2.2.2.2.2.2.2.2.2.1 R0.2.2.2.2.2.2.2.2.2.2.2) (A) t) (A)) ([.ref a_cls, .int p1, .int (b2i p2)] : List Value).toArray s 0 0 A) (F0 m 145 ls []) := by
    intro mis_number mis_place set_pieces esc_kind esc_value esc_set esc_others esc_after cls_single set_begins set_ends H locs ls hP hD hS hl hf
    refine lv_aload_n hx hb d_CLS_readClass_145 rfl (lv_at hl 0 rfl) ?_
    refine lv_iconst (v := 4) hx hb d_CLS_readClass_146 (by decide) ?_
    refine lv_iload_n hx hb d_CLS_readClass_147 rfl (lv_at hl 1 rfl) ?_
    obtain ⟨x148, hg, hf⟩ := bnd hf
    have hPc := hP.sub (ws' := (w_26 cI tS a_mis a_cls a_pat a_esc a_set mis_number mis_place cls_single)) [1, 4] rfl
    have hDc := hD.sub (ws' := (w_26 cI tS a_mis a_cls a_pat a_esc a_set mis_number mis_place cls_single)) [1, 4] (by decide) rfl
    have hFc := va_free (wc := (w_26 cI tS a_mis a_cls a_pat a_esc a_set mis_number mis_place cls_single)) hD hS hA [1, 4] rfl
    refine cal_i (va_runV (As := [.int 4, .int p1]) (rest := []) ⟨hx, hb, hml, hown, hts⟩ (c_CLS_refused l dC dI cI tS H.size a_mis a_cls a_pat a_esc a_set mis_number mis_place cls_single 4 p1 x148 hg) ⟨callB_of 2 hts (gN tw_785) rfl rfl rfl (hts _ tw_88) (hts _ tw_782) hd_CLS_refused ⟨Nat.le_of_ble_eq_true rfl, Nat.le_of_ble_eq_true rfl⟩, hts _ tw_784, hts _ tw_20⟩ (pre_V hK hPc hDc hst0 hS hFc (va_recv hK hPc (ci := 7) (q0 := 1) rfl rfl)) rfl rfl hl.1 rfl (lv_room (Nat.le_of_ble_eq_true rfl)) d_CLS_readClass_148 ⟨Nat.zero_le _, Nat.zero_le _⟩) hP hD hS hA [1, 4] [0, 2, 3, 5, 6, 7] rfl rfl (by decide) (by decide) (fun H locs hP hD hS => ?_)
    have hP := hP.sub (ws' := (w_27 cI tS a_pat a_pat_bytes a_mis a_set a_set_begins a_set_ends a_esc a_cls pat_length x148.2.1 x148.2.2 set_pieces esc_kind esc_value esc_set esc_others esc_after cls_single pat_bytes set_begins set_ends)) [0, 6, 1, 2, 7, 3, 4, 5] rfl
    have hD := hD.sub (ws' := (w_27 cI tS a_pat a_pat_bytes a_mis a_set a_set_begins a_set_ends a_esc a_cls pat_length x148.2.1 x148.2.2 set_pieces esc_kind esc_value esc_set esc_others esc_after cls_single pat_bytes set_begins set_ends)) [0, 6, 1, 2, 7, 3, 4, 5] (by decide) rfl
    obtain rfl := Option.some.inj hf
    exact W.iret (v := x148.1) hx hb hr (fun t ht hW => ⟨⟨_, (), rfl, rfl, ⟨by rw [ht]; exact hP, va_K.moved hW.alike hK, hD⟩⟩, hS.F ht⟩) hS.2.2 d_CLS_readClass_151
  have L50 : ∀ n50 : Nat, ∀ (v3 : Bool) (v4 : Int32) (v5 : Int32) (v6 : Int32) (mis_number : Int32) (mis_place : Int32) (set_pieces : Int32) (esc_kind : Int32) (esc_value : Int32) (esc_set : Nat) (esc_others : Bool) (esc_after : Int32) (cls_single : Int32) (set_begins : Nat → Int32) (set_ends : Nat → Int32) (H : Heap) (locs : List Loc) (ls : Array Slot), va_P (dC, dI) classes (w_27 cI tS a_pat a_pat_bytes a_mis a_set a_set_begins a_set_ends a_esc a_cls pat_length mis_number mis_place set_pieces esc_kind esc_value esc_set esc_others esc_after cls_single pat_bytes set_begins set_ends) H → va_D A (w_27 cI tS a_pat a_pat_bytes a_mis a_set a_set_begins a_set_ends a_esc a_cls pat_length mis_number mis_place set_pieces esc_kind esc_value esc_set esc_others esc_after cls_single pat_bytes set_begins set_ends) → va_S A s.heap H locs → lv_has ls 7 [(0, .ref a_cls), (1, .int p1), (2, .int (b2i p2)), (3, .int (b2i v3)), (4, .int v4), (5, .int v5), (6, .int v6)] → f_CLS_readClass_L50 pat_length pat_bytes p1 p2 n50 (v3, v4, v5, v6, mis_number, mis_place, set_pieces, esc_kind, esc_value, esc_set, esc_others, esc_after, cls_single, set_begins, set_ends) = some R0 → W p l e (headSpec ws_CLS_readClass ({ frames := 7, cells := 0, slots := 0, locals := 153 })).room s m ([.ref a_cls, .int p1, .int (b2i p2)] : List Value).toArray below meth c H locs 0 0 (MQ below (va_Qi (fun r (_ : Unit) => r = R0.1) (fun _ t => posS (dC, dI) classes [(cI, .int)] (w_27 cI tS a_pat a_pat_bytes a_mis a_set a_set_begins a_set_ends a_esc a_cls pat_length R0.2.1 R0.2.2.1 R0.2.2.2.1 R0.2.2.2.2.1 R0.2.2.2.2.2.1 R0.2.2.2.2.2.2.1 R0.2.2.2.2.2.2.2.1 R0.2.2.2.2.2.2.2.2.1 R0.2.2.2.2.2.2.2.2.2.1 pat_bytes R0.2.2.2.2.2.2.2.2.2.2.1 R0.2.2.2.2.2.2.2.2.2.2.2) (A) t) (A)) ([.ref a_cls, .int p1, .int (b2i p2)] : List Value).toArray s 0 0 A) (F0 m 50 ls []) := by
    intro n50
    induction n50 with
    | zero =>
      intro v3 v4 v5 v6 mis_number mis_place set_pieces esc_kind esc_value esc_set esc_others esc_after cls_single set_begins set_ends H locs ls hP hD hS hl hf
      exact absurd (show (none : Option _) = some R0 from hf) (fun h => by cases h)
    | succ n50 ih50 =>
      have L129 : ∀ (v3 : Bool) (v4 : Int32) (v6 : Int32) (z0 : Int32) (mis_number : Int32) (mis_place : Int32) (set_pieces : Int32) (esc_kind : Int32) (esc_value : Int32) (esc_set : Nat) (esc_others : Bool) (esc_after : Int32) (cls_single : Int32) (set_begins : Nat → Int32) (set_ends : Nat → Int32) (H : Heap) (locs : List Loc) (ls : Array Slot), va_P (dC, dI) classes (w_27 cI tS a_pat a_pat_bytes a_mis a_set a_set_begins a_set_ends a_esc a_cls pat_length mis_number mis_place set_pieces esc_kind esc_value esc_set esc_others esc_after cls_single pat_bytes set_begins set_ends) H → va_D A (w_27 cI tS a_pat a_pat_bytes a_mis a_set a_set_begins a_set_ends a_esc a_cls pat_length mis_number mis_place set_pieces esc_kind esc_value esc_set esc_others esc_after cls_single pat_bytes set_begins set_ends) → va_S A s.heap H locs → lv_has ls 7 [(0, .ref a_cls), (1, .int p1), (2, .int (b2i p2)), (3, .int (b2i v3)), (4, .int v4), (6, .int v6)] → f_CLS_readClass_L129 pat_length pat_bytes p1 p2 (f_CLS_readClass_L50 pat_length pat_bytes p1 p2 n50) v3 v4 v6 z0 mis_number mis_place set_pieces esc_kind esc_value esc_set esc_others esc_after cls_single set_begins set_ends = some R0 → W p l e (headSpec ws_CLS_readClass ({ frames := 7, cells := 0, slots := 0, locals := 153 })).room s m ([.ref a_cls, .int p1, .int (b2i p2)] : List Value).toArray below meth c H locs 0 0 (MQ below (va_Qi (fun r (_ : Unit) => r = R0.1) (fun _ t => posS (dC, dI) classes [(cI, .int)] (w_27 cI tS a_pat a_pat_bytes a_mis a_set a_set_begins a_set_ends a_esc a_cls pat_length R0.2.1 R0.2.2.1 R0.2.2.2.1 R0.2.2.2.2.1 R0.2.2.2.2.2.1 R0.2.2.2.2.2.2.1 R0.2.2.2.2.2.2.2.1 R0.2.2.2.2.2.2.2.2.1 R0.2.2.2.2.2.2.2.2.2.1 pat_bytes R0.2.2.2.2.2.2.2.2.2.2.1 R0.2.2.2.2.2.2.2.2.2.2.2) (A) t) (A)) ([.ref a_cls, .int p1, .int (b2i p2)] : List Value).toArray s 0 0 A) (F0 m 129 ls [.int z0]) := by
        intro v3 v4 v6 z0 mis_number mis_place set_pieces esc_kind esc_value esc_set esc_others esc_after cls_single set_begins set_ends H locs ls hP hD hS hl hf
        refine lv_istore (lv' := [(5, .int z0), (0, .ref a_cls), (1, .int p1), (2, .int (b2i p2)), (3, .int (b2i v3)), (4, .int v4), (6, .int v6)]) hx hb d_CLS_readClass_129 hl (by decide) rfl (fun ls hl => ?_)
        refine lv_iload hx hb d_CLS_readClass_131 (lv_at hl 0 rfl) ?_
        refine lv_iconst (v := (-1)) hx hb d_CLS_readClass_133 (by decide) ?_
        refine lv_icmp_ne (tgt := 139) hx hb d_CLS_readClass_134 (by decide) (fun c_ => ?_) (fun c_ => ?_)
        · have hf := f_neg c_ hf
          refine lv_iinc (v := v6 + 1) (lv' := [(6, .int (v6 + 1)), (5, .int z0), (0, .ref a_cls), (1, .int p1), (2, .int (b2i p2)), (3, .int (b2i v3)), (4, .int v4)]) hx hb d_CLS_readClass_139 hl (k := 6) rfl rfl (by decide) rfl (fun ls hl => ?_)
          refine lv_goto (tgt := 50) hx hb d_CLS_readClass_142 (by decide) ?_
          exact ih50 v3 v4 z0 (v6 + 1) mis_number mis_place set_pieces esc_kind esc_value esc_set esc_others esc_after cls_single set_begins set_ends _ _ _ hP hD hS (lv_sub hl [2, 3, 4, 5, 6, 1, 0] rfl) hf
        · have hf := f_pos c_ hf
          refine lv_iconst (v := (-1)) hx hb d_CLS_readClass_137 (by decide) ?_
          obtain rfl := Option.some.inj hf
          exact W.iret (v := (-1)) hx hb hr (fun t ht hW => ⟨⟨_, (), rfl, rfl, ⟨by rw [ht]; exact hP, va_K.moved hW.alike hK, hD⟩⟩, hS.F ht⟩) hS.2.2 d_CLS_readClass_138
      have L104 : ∀ (v3 : Bool) (v4 : Int32) (v5 : Int32) (v6 : Int32) (mis_number : Int32) (mis_place : Int32) (set_pieces : Int32) (esc_kind : Int32) (esc_value : Int32) (esc_set : Nat) (esc_others : Bool) (esc_after : Int32) (cls_single : Int32) (set_begins : Nat → Int32) (set_ends : Nat → Int32) (H : Heap) (locs : List Loc) (ls : Array Slot), va_P (dC, dI) classes (w_27 cI tS a_pat a_pat_bytes a_mis a_set a_set_begins a_set_ends a_esc a_cls pat_length mis_number mis_place set_pieces esc_kind esc_value esc_set esc_others esc_after cls_single pat_bytes set_begins set_ends) H → va_D A (w_27 cI tS a_pat a_pat_bytes a_mis a_set a_set_begins a_set_ends a_esc a_cls pat_length mis_number mis_place set_pieces esc_kind esc_value esc_set esc_others esc_after cls_single pat_bytes set_begins set_ends) → va_S A s.heap H locs → lv_has ls 7 [(0, .ref a_cls), (1, .int p1), (2, .int (b2i p2)), (3, .int (b2i v3)), (4, .int v4), (5, .int v5), (6, .int v6)] → f_CLS_readClass_L104 pat_length pat_bytes p1 p2 (f_CLS_readClass_L50 pat_length pat_bytes p1 p2 n50) v3 v4 v5 v6 mis_number mis_place set_pieces esc_kind esc_value esc_set esc_others esc_after cls_single set_begins set_ends = some R0 → W p l e (headSpec ws_CLS_readClass ({ frames := 7, cells := 0, slots := 0, locals := 153 })).room s m ([.ref a_cls, .int p1, .int (b2i p2)] : List Value).toArray below meth c H locs 0 0 (MQ below (va_Qi (fun r (_ : Unit) => r = R0.1) (fun _ t => posS (dC, dI) classes [(cI, .int)] (w_27 cI tS a_pat a_pat_bytes a_mis a_set a_set_begins a_set_ends a_esc a_cls pat_length R0.2.1 R0.2.2.1 R0.2.2.2.1 R0.2.2.2.2.1 R0.2.2.2.2.2.1 R0.2.2.2.2.2.2.1 R0.2.2.2.2.2.2.2.1 R0.2.2.2.2.2.2.2.2.1 R0.2.2.2.2.2.2.2.2.2.1 pat_bytes R0.2.2.2.2.2.2.2.2.2.2.1 R0.2.2.2.2.2.2.2.2.2.2.2) (A) t) (A)) ([.ref a_cls, .int p1, .int (b2i p2)] : List Value).toArray s 0 0 A) (F0 m 104 ls []) := by
        intro v3 v4 v5 v6 mis_number mis_place set_pieces esc_kind esc_value esc_set esc_others esc_after cls_single set_begins set_ends H locs ls hP hD hS hl hf
        refine lv_aload_n hx hb d_CLS_readClass_104 rfl (lv_at hl 0 rfl) ?_
        refine lv_iload hx hb d_CLS_readClass_105 (lv_at hl 5 rfl) ?_
        obtain ⟨x107, hg, hf⟩ := bnd hf
        have hPc := hP.sub (ws' := (w_23 cI tS a_pat a_pat_bytes a_cls a_mis a_esc a_set pat_length cls_single pat_bytes)) [0, 4, 5] rfl
        have hDc := hD.sub (ws' := (w_23 cI tS a_pat a_pat_bytes a_cls a_mis a_esc a_set pat_length cls_single pat_bytes)) [0, 4, 5] (by decide) rfl
        have hFc := va_free (wc := (w_23 cI tS a_pat a_pat_bytes a_cls a_mis a_esc a_set pat_length cls_single pat_bytes)) hD hS hA [0, 4, 5] rfl
        refine cal_i (va_runV (As := [.int v5]) (rest := []) ⟨hx, hb, hml, hown, hts⟩ (c_CLS_isSetItem l dC dI cI tS H.size a_pat a_pat_bytes a_cls a_mis a_esc a_set pat_length cls_single pat_bytes v5 x107 hg) ⟨callB_of 1 hts (gN tw_719) rfl rfl rfl (hts _ tw_88) (hts _ tw_716) hd_CLS_isSetItem ⟨Nat.le_of_ble_eq_true rfl, Nat.le_of_ble_eq_true rfl⟩, hts _ tw_718, hts _ tw_13⟩ (pre_V hK hPc hDc hst0 hS hFc (va_recv hK hPc (ci := 7) (q0 := 1) rfl rfl)) rfl rfl hl.1 rfl (lv_room (Nat.le_of_ble_eq_true rfl)) d_CLS_readClass_107 ⟨Nat.zero_le _, Nat.zero_le _⟩) hP hD hS hA [0, 4, 5] [1, 2, 3, 6, 7] rfl rfl (by decide) (by decide) (fun H locs hP hD hS => ?_)
        have hP := hP.sub (ws' := (w_27 cI tS a_pat a_pat_bytes a_mis a_set a_set_begins a_set_ends a_esc a_cls pat_length mis_number mis_place set_pieces esc_kind esc_value esc_set esc_others esc_after cls_single pat_bytes set_begins set_ends)) [5, 0, 1, 2, 6, 7, 3, 4] rfl
        have hD := hD.sub (ws' := (w_27 cI tS a_pat a_pat_bytes a_mis a_set a_set_begins a_set_ends a_esc a_cls pat_length mis_number mis_place set_pieces esc_kind esc_value esc_set esc_others esc_after cls_single pat_bytes set_begins set_ends)) [5, 0, 1, 2, 6, 7, 3, 4] (by decide) rfl
        refine lv_if_eq (tgt := 122) hx hb d_CLS_readClass_110 (by decide) (fun c_ => ?_) (fun c_ => ?_)
        · have hf := f_pos c_ hf
          refine lv_aload_n hx hb d_CLS_readClass_122 rfl (lv_at hl 0 rfl) ?_
          refine lv_iload hx hb d_CLS_readClass_123 (lv_at hl 5 rfl) ?_
          refine lv_iload_n hx hb d_CLS_readClass_125 rfl (lv_at hl 2 rfl) ?_
          obtain ⟨x126, hg, hf⟩ := bnd hf
          have hPc := hP.sub (ws' := (w_27 cI tS a_pat a_pat_bytes a_mis a_set a_set_begins a_set_ends a_esc a_cls pat_length mis_number mis_place set_pieces esc_kind esc_value esc_set esc_others esc_after cls_single pat_bytes set_begins set_ends)) [0, 1, 2, 3, 4, 5, 6, 7] rfl
          have hDc := hD.sub (ws' := (w_27 cI tS a_pat a_pat_bytes a_mis a_set a_set_begins a_set_ends a_esc a_cls pat_length mis_number mis_place set_pieces esc_kind esc_value esc_set esc_others esc_after cls_single pat_bytes set_begins set_ends)) [0, 1, 2, 3, 4, 5, 6, 7] (by decide) rfl
          have hFc := va_free (wc := (w_27 cI tS a_pat a_pat_bytes a_mis a_set a_set_begins a_set_ends a_esc a_cls pat_length mis_number mis_place set_pieces esc_kind esc_value esc_set esc_others esc_after cls_single pat_bytes set_begins set_ends)) hD hS hA [0, 1, 2, 3, 4, 5, 6, 7] rfl
          refine cal_i (va_runV (As := [.int v5, .int (b2i p2)]) (rest := []) ⟨hx, hb, hml, hown, hts⟩ (c_CLS_readRange l dC dI cI tS H.size a_pat a_pat_bytes a_mis a_set a_set_begins a_set_ends a_esc a_cls pat_length mis_number mis_place set_pieces esc_kind esc_value esc_set esc_others esc_after cls_single pat_bytes set_begins set_ends v5 p2 x126 hg) ⟨callB_of 2 hts (gN tw_869) rfl rfl rfl (hts _ tw_88) (hts _ tw_866) hd_CLS_readRange ⟨Nat.le_of_ble_eq_true rfl, Nat.le_of_ble_eq_true rfl⟩, hts _ tw_868, hts _ tw_22⟩ (pre_V hK hPc hDc hst0 hS hFc (va_recv hK hPc (ci := 7) (q0 := 4) rfl rfl)) rfl rfl hl.1 rfl (lv_room (Nat.le_of_ble_eq_true rfl)) d_CLS_readClass_126 ⟨Nat.zero_le _, Nat.zero_le _⟩) hP hD hS hA [0, 1, 2, 3, 4, 5, 6, 7] [] rfl rfl (by decide) (by decide) (fun H locs hP hD hS => ?_)
          have hP := hP.sub (ws' := (w_27 cI tS a_pat a_pat_bytes a_mis a_set a_set_begins a_set_ends a_esc a_cls pat_length x126.2.1 x126.2.2.1 x126.2.2.2.1 x126.2.2.2.2.1 x126.2.2.2.2.2.1 x126.2.2.2.2.2.2.1 x126.2.2.2.2.2.2.2.1 x126.2.2.2.2.2.2.2.2.1 x126.2.2.2.2.2.2.2.2.2.1 pat_bytes x126.2.2.2.2.2.2.2.2.2.2.1 x126.2.2.2.2.2.2.2.2.2.2.2)) [0, 1, 2, 3, 4, 5, 6, 7] rfl
          have hD := hD.sub (ws' := (w_27 cI tS a_pat a_pat_bytes a_mis a_set a_set_begins a_set_ends a_esc a_cls pat_length x126.2.1 x126.2.2.1 x126.2.2.2.1 x126.2.2.2.2.1 x126.2.2.2.2.2.1 x126.2.2.2.2.2.2.1 x126.2.2.2.2.2.2.2.1 x126.2.2.2.2.2.2.2.2.1 x126.2.2.2.2.2.2.2.2.2.1 pat_bytes x126.2.2.2.2.2.2.2.2.2.2.1 x126.2.2.2.2.2.2.2.2.2.2.2)) [0, 1, 2, 3, 4, 5, 6, 7] (by decide) rfl
          exact L129 v3 v4 v6 x126.1 x126.2.1 x126.2.2.1 x126.2.2.2.1 x126.2.2.2.2.1 x126.2.2.2.2.2.1 x126.2.2.2.2.2.2.1 x126.2.2.2.2.2.2.2.1 x126.2.2.2.2.2.2.2.2.1 x126.2.2.2.2.2.2.2.2.2.1 x126.2.2.2.2.2.2.2.2.2.2.1 x126.2.2.2.2.2.2.2.2.2.2.2 _ _ _ hP hD hS (lv_sub hl [0, 1, 2, 3, 4, 6] rfl) hf
        · have hf := f_neg c_ hf
          refine lv_aload_n hx hb d_CLS_readClass_113 rfl (lv_at hl 0 rfl) ?_
          refine lv_iload hx hb d_CLS_readClass_114 (lv_at hl 5 rfl) ?_
          obtain ⟨x116, hg, hf⟩ := bnd hf
          have hPc := hP.sub (ws' := (w_27 cI tS a_pat a_pat_bytes a_mis a_set a_set_begins a_set_ends a_esc a_cls pat_length mis_number mis_place set_pieces esc_kind esc_value esc_set esc_others esc_after cls_single pat_bytes set_begins set_ends)) [0, 1, 2, 3, 4, 5, 6, 7] rfl
          have hDc := hD.sub (ws' := (w_27 cI tS a_pat a_pat_bytes a_mis a_set a_set_begins a_set_ends a_esc a_cls pat_length mis_number mis_place set_pieces esc_kind esc_value esc_set esc_others esc_after cls_single pat_bytes set_begins set_ends)) [0, 1, 2, 3, 4, 5, 6, 7] (by decide) rfl
          have hFc := va_free (wc := (w_27 cI tS a_pat a_pat_bytes a_mis a_set a_set_begins a_set_ends a_esc a_cls pat_length mis_number mis_place set_pieces esc_kind esc_value esc_set esc_others esc_after cls_single pat_bytes set_begins set_ends)) hD hS hA [0, 1, 2, 3, 4, 5, 6, 7] rfl
          refine cal_i (va_runV (As := [.int v5]) (rest := []) ⟨hx, hb, hml, hown, hts⟩ (c_CLS_readSetItem l dC dI cI tS H.size a_pat a_pat_bytes a_mis a_set a_set_begins a_set_ends a_esc a_cls pat_length mis_number mis_place set_pieces esc_kind esc_value esc_set esc_others esc_after cls_single pat_bytes set_begins set_ends v5 x116 hg) ⟨callB_of 1 hts (gN tw_735) rfl rfl rfl (hts _ tw_88) (hts _ tw_732) hd_CLS_readSetItem ⟨Nat.le_of_ble_eq_true rfl, Nat.le_of_ble_eq_true rfl⟩, hts _ tw_734, hts _ tw_14⟩ (pre_V hK hPc hDc hst0 hS hFc (va_recv hK hPc (ci := 7) (q0 := 4) rfl rfl)) rfl rfl hl.1 rfl (lv_room (Nat.le_of_ble_eq_true rfl)) d_CLS_readClass_116 ⟨Nat.zero_le _, Nat.zero_le _⟩) hP hD hS hA [0, 1, 2, 3, 4, 5, 6, 7] [] rfl rfl (by decide) (by decide) (fun H locs hP hD hS => ?_)
          have hP := hP.sub (ws' := (w_27 cI tS a_pat a_pat_bytes a_mis a_set a_set_begins a_set_ends a_esc a_cls pat_length x116.2.1 x116.2.2.1 x116.2.2.2.1 x116.2.2.2.2.1 x116.2.2.2.2.2.1 x116.2.2.2.2.2.2.1 x116.2.2.2.2.2.2.2.1 x116.2.2.2.2.2.2.2.2.1 cls_single pat_bytes x116.2.2.2.2.2.2.2.2.2.1 x116.2.2.2.2.2.2.2.2.2.2)) [0, 1, 2, 3, 4, 5, 6, 7] rfl
          have hD := hD.sub (ws' := (w_27 cI tS a_pat a_pat_bytes a_mis a_set a_set_begins a_set_ends a_esc a_cls pat_length x116.2.1 x116.2.2.1 x116.2.2.2.1 x116.2.2.2.2.1 x116.2.2.2.2.2.1 x116.2.2.2.2.2.2.1 x116.2.2.2.2.2.2.2.1 x116.2.2.2.2.2.2.2.2.1 cls_single pat_bytes x116.2.2.2.2.2.2.2.2.2.1 x116.2.2.2.2.2.2.2.2.2.2)) [0, 1, 2, 3, 4, 5, 6, 7] (by decide) rfl
          refine lv_goto (tgt := 129) hx hb d_CLS_readClass_119 (by decide) ?_
          exact L129 v3 v4 v6 x116.1 x116.2.1 x116.2.2.1 x116.2.2.2.1 x116.2.2.2.2.1 x116.2.2.2.2.2.1 x116.2.2.2.2.2.2.1 x116.2.2.2.2.2.2.2.1 x116.2.2.2.2.2.2.2.2.1 cls_single x116.2.2.2.2.2.2.2.2.2.1 x116.2.2.2.2.2.2.2.2.2.2 _ _ _ hP hD hS (lv_sub hl [0, 1, 2, 3, 4, 6] rfl) hf
      intro v3 v4 v5 v6 mis_number mis_place set_pieces esc_kind esc_value esc_set esc_others esc_after cls_single set_begins set_ends H locs ls hP hD hS hl hf
      have hf : f_CLS_readClass_B50 pat_length pat_bytes p1 p2 (f_CLS_readClass_L50 pat_length pat_bytes p1 p2 n50) v3 v4 v5 v6 mis_number mis_place set_pieces esc_kind esc_value esc_set esc_others esc_after cls_single set_begins set_ends = some R0 := hf
      refine lv_iload hx hb d_CLS_readClass_50 (lv_at hl 6 rfl) ?_
      refine lv_sipush (v := 400) hx hb d_CLS_readClass_52 (by decide) ?_
      refine lv_icmp_ge (tgt := 145) hx hb d_CLS_readClass_55 (by decide) (fun c_ => ?_) (fun c_ => ?_)
      · have hf := f_pos c_ hf
        exact L145 mis_number mis_place set_pieces esc_kind esc_value esc_set esc_others esc_after cls_single set_begins set_ends _ _ _ hP hD hS (lv_sub hl [0, 1] rfl) hf
      · have hf := f_neg c_ hf
        refine lv_iload hx hb d_CLS_readClass_58 (lv_at hl 5 rfl) ?_
        refine lv_aload_n hx hb d_CLS_readClass_60 rfl (lv_at hl 0 rfl) ?_
        refine va_get (D := (dC, dI)) (ci := 7) (v := .ref a_pat) (C := R_CLS) (T := F_CLS) (N := N_CLS) hx hb hts i_CLS hown hK hP 4 rfl rfl 0 (by decide) (hts _ tw_306) (fun _ h9 => h9) rfl d_CLS_readClass_61 ?_
        refine va_getN (D := (dC, dI)) (ci := 0) (v := .int pat_length) (C := R_PAT) (T := F_PAT) (N := N_PAT) hx hb hts i_PAT hown hK hP 0 rfl rfl 1 (by decide) (va_Nw.use rfl (hst0.2.1 _ tn_118)) (fun _ h9 => h9) rfl d_CLS_readClass_64 ?_
        refine lv_icmp_ge (tgt := 145) hx hb d_CLS_readClass_67 (by decide) (fun c_ => ?_) (fun c_ => ?_)
        · have hf := f_pos c_ hf
          exact L145 mis_number mis_place set_pieces esc_kind esc_value esc_set esc_others esc_after cls_single set_begins set_ends _ _ _ hP hD hS (lv_sub hl [0, 1] rfl) hf
        · have hf := f_neg c_ hf
          refine lv_aload_n hx hb d_CLS_readClass_70 rfl (lv_at hl 0 rfl) ?_
          refine va_get (D := (dC, dI)) (ci := 7) (v := .ref a_pat) (C := R_CLS) (T := F_CLS) (N := N_CLS) hx hb hts i_CLS hown hK hP 4 rfl rfl 0 (by decide) (hts _ tw_306) (fun _ h9 => h9) rfl d_CLS_readClass_71 ?_
          refine lv_iload hx hb d_CLS_readClass_74 (lv_at hl 5 rfl) ?_
          obtain ⟨x76, hg, hf⟩ := bnd hf
          have hPc := hP.sub (ws' := (w_0 cI tS a_pat a_pat_bytes pat_length pat_bytes)) [0, 5] rfl
          have hDc := hD.sub (ws' := (w_0 cI tS a_pat a_pat_bytes pat_length pat_bytes)) [0, 5] (by decide) rfl
          have hFc := va_free (wc := (w_0 cI tS a_pat a_pat_bytes pat_length pat_bytes)) hD hS hA [0, 5] rfl
          refine cal_i (va_runV (As := [.int v5]) (rest := []) ⟨hx, hb, hml, hown, hts⟩ (c_PAT_at l dC dI cI tS H.size a_pat a_pat_bytes pat_length pat_bytes v5 x76 hg) ⟨callB_of 1 hts (gN tw_586) rfl rfl rfl (hts _ tw_80) (hts _ tw_693) hd_PAT_at ⟨Nat.le_of_ble_eq_true rfl, Nat.le_of_ble_eq_true rfl⟩, hts _ tw_584, hts _ tw_585⟩ (pre_V hK hPc hDc hst0 hS hFc (va_recv hK hPc (ci := 0) (q0 := 0) rfl rfl)) rfl rfl hl.1 rfl (lv_room (Nat.le_of_ble_eq_true rfl)) d_CLS_readClass_76 ⟨Nat.zero_le _, Nat.zero_le _⟩) hP hD hS hA [0, 5] [1, 2, 3, 4, 6, 7] rfl rfl (by decide) (by decide) (fun H locs hP hD hS => ?_)
          have hP := hP.sub (ws' := (w_27 cI tS a_pat a_pat_bytes a_mis a_set a_set_begins a_set_ends a_esc a_cls pat_length mis_number mis_place set_pieces esc_kind esc_value esc_set esc_others esc_after cls_single pat_bytes set_begins set_ends)) [6, 0, 1, 2, 3, 7, 4, 5] rfl
          have hD := hD.sub (ws' := (w_27 cI tS a_pat a_pat_bytes a_mis a_set a_set_begins a_set_ends a_esc a_cls pat_length mis_number mis_place set_pieces esc_kind esc_value esc_set esc_others esc_after cls_single pat_bytes set_begins set_ends)) [6, 0, 1, 2, 3, 7, 4, 5] (by decide) rfl
          refine lv_bipush (v := 93) hx hb d_CLS_readClass_79 (by decide) ?_
          refine lv_icmp_ne (tgt := 104) hx hb d_CLS_readClass_81 (by decide) (fun c_ => ?_) (fun c_ => ?_)
          · have hf := f_neg c_ hf
            exact L104 v3 v4 v5 v6 mis_number mis_place set_pieces esc_kind esc_value esc_set esc_others esc_after cls_single set_begins set_ends _ _ _ hP hD hS (lv_sub hl [0, 1, 2, 3, 4, 5, 6] rfl) hf
          · have hf := f_pos c_ hf
            refine lv_iload hx hb d_CLS_readClass_84 (lv_at hl 5 rfl) ?_
            refine lv_iload hx hb d_CLS_readClass_86 (lv_at hl 4 rfl) ?_
            refine lv_icmp_le (tgt := 104) hx hb d_CLS_readClass_88 (by decide) (fun c_ => ?_) (fun c_ => ?_)
            · have hf := f_pos c_ hf
              exact L104 v3 v4 v5 v6 mis_number mis_place set_pieces esc_kind esc_value esc_set esc_others esc_after cls_single set_begins set_ends _ _ _ hP hD hS (lv_sub hl [0, 1, 2, 3, 4, 5, 6] rfl) hf
            · have hf := f_neg c_ hf
              refine lv_aload_n hx hb d_CLS_readClass_91 rfl (lv_at hl 0 rfl) ?_
              refine va_get (D := (dC, dI)) (ci := 7) (v := .ref a_set) (C := R_CLS) (T := F_CLS) (N := N_CLS) hx hb hts i_CLS hown hK hP 4 rfl rfl 3 (by decide) (hts _ tw_309) (fun _ h9 => h9) rfl d_CLS_readClass_92 ?_
              refine lv_iload_n hx hb d_CLS_readClass_95 rfl (lv_at hl 3 rfl) ?_
              obtain ⟨x96, hg, hf⟩ := bnd hf
              have hPc := hP.sub (ws' := (w_22 cI tS a_set a_set_begins a_set_ends set_pieces set_begins set_ends)) [2, 6, 7] rfl
              have hDc := hD.sub (ws' := (w_22 cI tS a_set a_set_begins a_set_ends set_pieces set_begins set_ends)) [2, 6, 7] (by decide) rfl
              have hFc := va_free (wc := (w_22 cI tS a_set a_set_begins a_set_ends set_pieces set_begins set_ends)) hD hS hA [2, 6, 7] rfl
              refine cal_v (va_runV (As := [.int (b2i v3)]) (rest := []) ⟨hx, hb, hml, hown, hts⟩ (c_SET_finish l dC dI cI tS H.size a_set a_set_begins a_set_ends set_pieces set_begins set_ends v3 x96 hg) ⟨callB_of 1 hts (gN tw_701) rfl rfl rfl (hts _ tw_86) (hts _ tw_698) hd_SET_finish ⟨Nat.le_of_ble_eq_true rfl, Nat.le_of_ble_eq_true rfl⟩, hts _ tw_699, hts _ tw_700⟩ (pre_V hK hPc hDc hst0 hS hFc (va_recv hK hPc (ci := 2) (q0 := 0) rfl rfl)) rfl rfl hl.1 rfl (lv_room (Nat.le_of_ble_eq_true rfl)) d_CLS_readClass_96 ⟨Nat.zero_le _, Nat.zero_le _⟩) hP hD hS hA [2, 6, 7] [0, 1, 3, 4, 5] rfl rfl (by decide) (by decide) (fun H locs hP hD hS => ?_)
              have hP := hP.sub (ws' := (w_27 cI tS a_pat a_pat_bytes a_mis a_set a_set_begins a_set_ends a_esc a_cls pat_length mis_number mis_place x96.1 esc_kind esc_value esc_set esc_others esc_after cls_single pat_bytes x96.2.1 x96.2.2)) [0, 1, 5, 2, 3, 4, 6, 7] rfl
              have hD := hD.sub (ws' := (w_27 cI tS a_pat a_pat_bytes a_mis a_set a_set_begins a_set_ends a_esc a_cls pat_length mis_number mis_place x96.1 esc_kind esc_value esc_set esc_others esc_after cls_single pat_bytes x96.2.1 x96.2.2)) [0, 1, 5, 2, 3, 4, 6, 7] (by decide) rfl
              refine lv_iload hx hb d_CLS_readClass_99 (lv_at hl 5 rfl) ?_
              refine lv_iconst (v := 1) hx hb d_CLS_readClass_101 (by decide) ?_
              refine lv_iadd hx hb d_CLS_readClass_102 ?_
              obtain rfl := Option.some.inj hf
              exact W.iret (v := v5 + 1) hx hb hr (fun t ht hW => ⟨⟨_, (), rfl, rfl, ⟨by rw [ht]; exact hP, va_K.moved hW.alike hK, hD⟩⟩, hS.F ht⟩) hS.2.2 d_CLS_readClass_103
  have L34 : ∀ (v3 : Bool) (z0 : Int32) (mis_number : Int32) (mis_place : Int32) (set_pieces : Int32) (esc_kind : Int32) (esc_value : Int32) (esc_set : Nat) (esc_others : Bool) (esc_after : Int32) (cls_single : Int32) (set_begins : Nat → Int32) (set_ends : Nat → Int32) (H : Heap) (locs : List Loc) (ls : Array Slot), va_P (dC, dI) classes (w_27 cI tS a_pat a_pat_bytes a_mis a_set a_set_begins a_set_ends a_esc a_cls pat_length mis_number mis_place set_pieces esc_kind esc_value esc_set esc_others esc_after cls_single pat_bytes set_begins set_ends) H → va_D A (w_27 cI tS a_pat a_pat_bytes a_mis a_set a_set_begins a_set_ends a_esc a_cls pat_length mis_number mis_place set_pieces esc_kind esc_value esc_set esc_others esc_after cls_single pat_bytes set_begins set_ends) → va_S A s.heap H locs → lv_has ls 7 [(0, .ref a_cls), (1, .int p1), (2, .int (b2i p2)), (3, .int (b2i v3))] → f_CLS_readClass_L34 pat_length pat_bytes p1 p2 v3 z0 mis_number mis_place set_pieces esc_kind esc_value esc_set esc_others esc_after cls_single set_begins set_ends = some R0 → W p l e (headSpec ws_CLS_readClass ({ frames := 7, cells := 0, slots := 0, locals := 153 })).room s m ([.ref a_cls, .int p1, .int (b2i p2)] : List Value).toArray below meth c H locs 0 0 (MQ below (va_Qi (fun r (_ : Unit) => r = R0.1) (fun _ t => posS (dC, dI) classes [(cI, .int)] (w_27 cI tS a_pat a_pat_bytes a_mis a_set a_set_begins a_set_ends a_esc a_cls pat_length R0.2.1 R0.2.2.1 R0.2.2.2.1 R0.2.2.2.2.1 R0.2.2.2.2.2.1 R0.2.2.2.2.2.2.1 R0.2.2.2.2.2.2.2.1 R0.2.2.2.2.2.2.2.2.1 R0.2.2.2.2.2.2.2.2.2.1 pat_bytes R0.2.2.2.2.2.2.2.2.2.2.1 R0.2.2.2.2.2.2.2.2.2.2.2) (A) t) (A)) ([.ref a_cls, .int p1, .int (b2i p2)] : List Value).toArray s 0 0 A) (F0 m 34 ls [.int z0]) := by
    intro v3 z0 mis_number mis_place set_pieces esc_kind esc_value esc_set esc_others esc_after cls_single set_begins set_ends H locs ls hP hD hS hl hf
    refine lv_istore (lv' := [(4, .int z0), (0, .ref a_cls), (1, .int p1), (2, .int (b2i p2)), (3, .int (b2i v3))]) hx hb d_CLS_readClass_34 hl (by decide) rfl (fun ls hl => ?_)
    refine lv_iload hx hb d_CLS_readClass_36 (lv_at hl 0 rfl) ?_
    refine lv_istore (lv' := [(5, .int z0), (4, .int z0), (0, .ref a_cls), (1, .int p1), (2, .int (b2i p2)), (3, .int (b2i v3))]) hx hb d_CLS_readClass_38 hl (by decide) rfl (fun ls hl => ?_)
    refine lv_aload_n hx hb d_CLS_readClass_40 rfl (lv_at hl 2 rfl) ?_
    refine va_get (D := (dC, dI)) (ci := 7) (v := .ref a_set) (C := R_CLS) (T := F_CLS) (N := N_CLS) hx hb hts i_CLS hown hK hP 4 rfl rfl 3 (by decide) (hts _ tw_309) (fun _ h9 => h9) rfl d_CLS_readClass_41 ?_
    obtain ⟨x44, hg, hf⟩ := bnd hf
    have hPc := hP.sub (ws' := (w_21 cI tS a_set a_set_begins a_set_ends set_pieces)) [2] rfl
    have hDc := hD.sub (ws' := (w_21 cI tS a_set a_set_begins a_set_ends set_pieces)) [2] (by decide) rfl
    have hFc := va_free (wc := (w_21 cI tS a_set a_set_begins a_set_ends set_pieces)) hD hS hA [2] rfl
    refine cal_v (va_runV (As := []) (rest := []) ⟨hx, hb, hml, hown, hts⟩ (c_SET_clear l dC dI cI tS H.size a_set a_set_begins a_set_ends set_pieces x44 hg) ⟨callB_of 0 hts (gN tw_697) rfl rfl rfl (hts _ tw_86) (hts _ tw_694) hd_SET_clear ⟨Nat.le_of_ble_eq_true rfl, Nat.le_of_ble_eq_true rfl⟩, hts _ tw_695, hts _ tw_696⟩ (pre_V hK hPc hDc hst0 hS hFc (va_recv hK hPc (ci := 2) (q0 := 0) rfl rfl)) rfl rfl hl.1 rfl (lv_room (Nat.le_of_ble_eq_true rfl)) d_CLS_readClass_44 ⟨Nat.zero_le _, Nat.zero_le _⟩) hP hD hS hA [2] [0, 1, 3, 4, 5, 6, 7] rfl rfl (by decide) (by decide) (fun H locs hP hD hS => ?_)
    have hP := hP.sub (ws' := (w_27 cI tS a_pat a_pat_bytes a_mis a_set a_set_begins a_set_ends a_esc a_cls pat_length mis_number mis_place x44 esc_kind esc_value esc_set esc_others esc_after cls_single pat_bytes set_begins set_ends)) [0, 1, 7, 2, 3, 4, 5, 6] rfl
    have hD := hD.sub (ws' := (w_27 cI tS a_pat a_pat_bytes a_mis a_set a_set_begins a_set_ends a_esc a_cls pat_length mis_number mis_place x44 esc_kind esc_value esc_set esc_others esc_after cls_single pat_bytes set_begins set_ends)) [0, 1, 7, 2, 3, 4, 5, 6] (by decide) rfl
    refine lv_iconst (v := 0) hx hb d_CLS_readClass_47 (by decide) ?_
    refine lv_istore (lv' := [(6, .int 0), (5, .int z0), (4, .int z0), (0, .ref a_cls), (1, .int p1), (2, .int (b2i p2)), (3, .int (b2i v3))]) hx hb d_CLS_readClass_48 hl (by decide) rfl (fun ls hl => ?_)
    exact L50 FU v3 z0 z0 0 mis_number mis_place x44 esc_kind esc_value esc_set esc_others esc_after cls_single set_begins set_ends _ _ _ hP hD hS (lv_sub hl [3, 4, 5, 6, 2, 1, 0] rfl) hf
  have L20 : ∀ (z0 : Bool) (mis_number : Int32) (mis_place : Int32) (set_pieces : Int32) (esc_kind : Int32) (esc_value : Int32) (esc_set : Nat) (esc_others : Bool) (esc_after : Int32) (cls_single : Int32) (set_begins : Nat → Int32) (set_ends : Nat → Int32) (H : Heap) (locs : List Loc) (ls : Array Slot), va_P (dC, dI) classes (w_27 cI tS a_pat a_pat_bytes a_mis a_set a_set_begins a_set_ends a_esc a_cls pat_length mis_number mis_place set_pieces esc_kind esc_value esc_set esc_others esc_after cls_single pat_bytes set_begins set_ends) H → va_D A (w_27 cI tS a_pat a_pat_bytes a_mis a_set a_set_begins a_set_ends a_esc a_cls pat_length mis_number mis_place set_pieces esc_kind esc_value esc_set esc_others esc_after cls_single pat_bytes set_begins set_ends) → va_S A s.heap H locs → lv_has ls 7 [(0, .ref a_cls), (1, .int p1), (2, .int (b2i p2))] → f_CLS_readClass_L20 pat_length pat_bytes p1 p2 z0 mis_number mis_place set_pieces esc_kind esc_value esc_set esc_others esc_after cls_single set_begins set_ends = some R0 → W p l e (headSpec ws_CLS_readClass ({ frames := 7, cells := 0, slots := 0, locals := 153 })).room s m ([.ref a_cls, .int p1, .int (b2i p2)] : List Value).toArray below meth c H locs 0 0 (MQ below (va_Qi (fun r (_ : Unit) => r = R0.1) (fun _ t => posS (dC, dI) classes [(cI, .int)] (w_27 cI tS a_pat a_pat_bytes a_mis a_set a_set_begins a_set_ends a_esc a_cls pat_length R0.2.1 R0.2.2.1 R0.2.2.2.1 R0.2.2.2.2.1 R0.2.2.2.2.2.1 R0.2.2.2.2.2.2.1 R0.2.2.2.2.2.2.2.1 R0.2.2.2.2.2.2.2.2.1 R0.2.2.2.2.2.2.2.2.2.1 pat_bytes R0.2.2.2.2.2.2.2.2.2.2.1 R0.2.2.2.2.2.2.2.2.2.2.2) (A) t) (A)) ([.ref a_cls, .int p1, .int (b2i p2)] : List Value).toArray s 0 0 A) (F0 m 20 ls [.int (b2i z0)]) := by
    intro z0 mis_number mis_place set_pieces esc_kind esc_value esc_set esc_others esc_after cls_single set_begins set_ends H locs ls hP hD hS hl hf
    refine lv_istore_n (lv' := [(3, .int (b2i z0)), (0, .ref a_cls), (1, .int p1), (2, .int (b2i p2))]) hx hb d_CLS_readClass_20 rfl hl (by decide) rfl (fun ls hl => ?_)
    refine lv_iload_n hx hb d_CLS_readClass_21 rfl (lv_at hl 0 rfl) ?_
    refine lv_if_eq (tgt := 31) hx hb d_CLS_readClass_22 (by decide) (fun c_ => ?_) (fun c_ => ?_)
    · have hf := f_pos c_ hf
      refine lv_iload_n hx hb d_CLS_readClass_31 rfl (lv_at hl 2 rfl) ?_
      refine lv_iconst (v := 1) hx hb d_CLS_readClass_32 (by decide) ?_
      refine lv_iadd hx hb d_CLS_readClass_33 ?_
      exact L34 z0 (p1 + 1) mis_number mis_place set_pieces esc_kind esc_value esc_set esc_others esc_after cls_single set_begins set_ends _ _ _ hP hD hS (lv_sub hl [1, 2, 3, 0] rfl) hf
    · have hf := f_neg c_ hf
      refine lv_iload_n hx hb d_CLS_readClass_25 rfl (lv_at hl 2 rfl) ?_
      refine lv_iconst (v := 2) hx hb d_CLS_readClass_26 (by decide) ?_
      refine lv_iadd hx hb d_CLS_readClass_27 ?_
      refine lv_goto (tgt := 34) hx hb d_CLS_readClass_28 (by decide) ?_
      exact L34 z0 (p1 + 2) mis_number mis_place set_pieces esc_kind esc_value esc_set esc_others esc_after cls_single set_begins set_ends _ _ _ hP hD hS (lv_sub hl [1, 2, 3, 0] rfl) hf
  refine lv_aload_n hx hb d_CLS_readClass_0 rfl (lv_at hl 0 rfl) ?_
  refine va_get (D := (dC, dI)) (ci := 7) (v := .ref a_pat) (C := R_CLS) (T := F_CLS) (N := N_CLS) hx hb hts i_CLS hown hK hP 4 rfl rfl 0 (by decide) (hts _ tw_306) (fun _ h9 => h9) rfl d_CLS_readClass_1 ?_
  refine lv_iload_n hx hb d_CLS_readClass_4 rfl (lv_at hl 1 rfl) ?_
  refine lv_iconst (v := 1) hx hb d_CLS_readClass_5 (by decide) ?_
  refine lv_iadd hx hb d_CLS_readClass_6 ?_
  obtain ⟨x7, hg, hf⟩ := bnd hf
  have hPc := hP.sub (ws' := (w_0 cI tS a_pat a_pat_bytes pat_length pat_bytes)) [0, 5] rfl
  have hDc := hD.sub (ws' := (w_0 cI tS a_pat a_pat_bytes pat_length pat_bytes)) [0, 5] (by decide) rfl
  have hFc := va_free (wc := (w_0 cI tS a_pat a_pat_bytes pat_length pat_bytes)) hD hS hA [0, 5] rfl
  refine cal_i (va_runV (As := [.int (p1 + 1)]) (rest := []) ⟨hx, hb, hml, hown, hts⟩ (c_PAT_at l dC dI cI tS s.heap.size a_pat a_pat_bytes pat_length pat_bytes (p1 + 1) x7 hg) ⟨callB_of 1 hts (gN tw_586) rfl rfl rfl (hts _ tw_80) (hts _ tw_693) hd_PAT_at ⟨Nat.le_of_ble_eq_true rfl, Nat.le_of_ble_eq_true rfl⟩, hts _ tw_584, hts _ tw_585⟩ (pre_V hK hPc hDc hst0 hS hFc (va_recv hK hPc (ci := 0) (q0 := 0) rfl rfl)) rfl rfl hl.1 rfl (lv_room (Nat.le_of_ble_eq_true rfl)) d_CLS_readClass_7 ⟨Nat.zero_le _, Nat.zero_le _⟩) hP hD hS hA [0, 5] [1, 2, 3, 4, 6, 7] rfl rfl (by decide) (by decide) (fun H locs hP hD hS => ?_)
  have hP := hP.sub (ws' := (w_27 cI tS a_pat a_pat_bytes a_mis a_set a_set_begins a_set_ends a_esc a_cls pat_length mis_number mis_place set_pieces esc_kind esc_value esc_set esc_others esc_after cls_single pat_bytes set_begins set_ends)) [6, 0, 1, 2, 3, 7, 4, 5] rfl
  have hD := hD.sub (ws' := (w_27 cI tS a_pat a_pat_bytes a_mis a_set a_set_begins a_set_ends a_esc a_cls pat_length mis_number mis_place set_pieces esc_kind esc_value esc_set esc_others esc_after cls_single pat_bytes set_begins set_ends)) [6, 0, 1, 2, 3, 7, 4, 5] (by decide) rfl
  refine lv_bipush (v := 94) hx hb d_CLS_readClass_10 (by decide) ?_
  refine lv_icmp_ne (tgt := 19) hx hb d_CLS_readClass_12 (by decide) (fun c_ => ?_) (fun c_ => ?_)
  · have hf := f_neg c_ hf
    refine lv_iconst (v := 0) hx hb d_CLS_readClass_19 (by decide) ?_
    exact L20 false mis_number mis_place set_pieces esc_kind esc_value esc_set esc_others esc_after cls_single set_begins set_ends _ _ _ hP hD hS (lv_sub hl [0, 1, 2] rfl) hf
  · have hf := f_pos c_ hf
    refine lv_iconst (v := 1) hx hb d_CLS_readClass_15 (by decide) ?_
    refine lv_goto (tgt := 20) hx hb d_CLS_readClass_16 (by decide) ?_
    exact L20 true mis_number mis_place set_pieces esc_kind esc_value esc_set esc_others esc_after cls_single set_begins set_ends _ _ _ hP hD hS (lv_sub hl [0, 1, 2] rfl) hf
def f_TRE_addClass (set_pieces : Int32) (tre_nodes : Int32) (tre_ranges : Int32) (tre_waits : Int32) (set_begins : Nat → Int32) (set_ends : Nat → Int32) (tre_kinds : Nat → Int32) (tre_values : Nat → Int32) (tre_mosts : Nat → Int32) (tre_owners : Nat → Int32) (tre_sizes : Nat → Int32) (tre_firstRanges : Nat → Int32) (tre_rangeCounts : Nat → Int32) (tre_begins : Nat → Int32) (tre_ends : Nat → Int32) (tre_waiting : Nat → Int32) : Option (Int32 × Int32 × Int32 × (Nat → Int32) × (Nat → Int32) × (Nat → Int32) × (Nat → Int32) × (Nat → Int32) × (Nat → Int32) × (Nat → Int32) × (Nat → Int32) × (Nat → Int32) × (Nat → Int32)) :=
  if 512 ≤ tre_nodes then some (tre_nodes, tre_ranges, tre_waits, tre_kinds, tre_values, tre_mosts, tre_owners, tre_sizes, tre_firstRanges, tre_rangeCounts, tre_begins, tre_ends, tre_waiting) else (if set_pieces ≤ (1600 - tre_ranges) then bnd_ (f_TRE_addLeaf tre_nodes tre_ranges tre_waits tre_kinds tre_values tre_mosts tre_owners tre_sizes tre_firstRanges tre_rangeCounts tre_waiting 1 (-1) (2 + (4 * set_pieces))) (fun x36 => grd (inb (x36.1 - 1) 512) (grd (cpok 0 tre_ranges set_pieces 1024 1600) (grd (cpok 0 tre_ranges set_pieces 1024 1600) (some (x36.1, tre_ranges + set_pieces, x36.2.1, x36.2.2.1, x36.2.2.2.1, x36.2.2.2.2.1, x36.2.2.2.2.2.1, x36.2.2.2.2.2.2.1, x36.2.2.2.2.2.2.2.1, upd x36.2.2.2.2.2.2.2.2.1 (x36.1 - 1).toNatClampNeg set_pieces, va_cpy set_begins tre_begins (0 : Int32).toNatClampNeg tre_ranges.toNatClampNeg set_pieces.toNatClampNeg, va_cpy set_ends tre_ends (0 : Int32).toNatClampNeg tre_ranges.toNatClampNeg set_pieces.toNatClampNeg, x36.2.2.2.2.2.2.2.2.2))))) else some (tre_nodes, tre_ranges, tre_waits, tre_kinds, tre_values, tre_mosts, tre_owners, tre_sizes, tre_firstRanges, tre_rangeCounts, tre_begins, tre_ends, tre_waiting))
set_option maxRecDepth 100000 in
set_option maxHeartbeats 4000000 in
theorem c_TRE_addClass (l : Launch) (dC : Nat → ClassId) (dI : Nat → Nat → Nat) (cI : ClassId) (tS : Nat → Nat → Nat) (sz : Nat) (a_set a_set_begins a_set_ends a_tre a_tre_kinds a_tre_values a_tre_mosts a_tre_owners a_tre_sizes a_tre_firstRanges a_tre_rangeCounts a_tre_begins a_tre_ends a_tre_waiting : Nat) (set_pieces : Int32) (tre_nodes : Int32) (tre_ranges : Int32) (tre_waits : Int32) (set_begins : Nat → Int32) (set_ends : Nat → Int32) (tre_kinds : Nat → Int32) (tre_values : Nat → Int32) (tre_mosts : Nat → Int32) (tre_owners : Nat → Int32) (tre_sizes : Nat → Int32) (tre_firstRanges : Nat → Int32) (tre_rangeCounts : Nat → Int32) (tre_begins : Nat → Int32) (tre_ends : Nat → Int32) (tre_waiting : Nat → Int32) (R0 : Int32 × Int32 × Int32 × (Nat → Int32) × (Nat → Int32) × (Nat → Int32) × (Nat → Int32) × (Nat → Int32) × (Nat → Int32) × (Nat → Int32) × (Nat → Int32) × (Nat → Int32) × (Nat → Int32)) (hf : f_TRE_addClass set_pieces tre_nodes tre_ranges tre_waits set_begins set_ends tre_kinds tre_values tre_mosts tre_owners tre_sizes tre_firstRanges tre_rangeCounts tre_begins tre_ends tre_waiting = some R0) : Met l y_TRE_addClass ws_TRE_addClass ({ frames := 3, cells := 0, slots := 0, locals := 70 }) (va_Pc [.ref a_tre, .ref a_set] (preS (dC, dI) classes [(cI, .int)] tS (w_29 cI tS a_set a_set_begins a_set_ends a_tre a_tre_kinds a_tre_values a_tre_mosts a_tre_owners a_tre_sizes a_tre_firstRanges a_tre_rangeCounts a_tre_begins a_tre_ends a_tre_waiting set_pieces tre_nodes tre_ranges tre_waits set_begins set_ends tre_kinds tre_values tre_mosts tre_owners tre_sizes tre_firstRanges tre_rangeCounts tre_begins tre_ends tre_waiting) sz)) (va_Qv (fun _ : Unit => True) (fun _ t => posS (dC, dI) classes [(cI, .int)] (w_29 cI tS a_set a_set_begins a_set_ends a_tre a_tre_kinds a_tre_values a_tre_mosts a_tre_owners a_tre_sizes a_tre_firstRanges a_tre_rangeCounts a_tre_begins a_tre_ends a_tre_waiting set_pieces R0.1 R0.2.1 R0.2.2.1 set_begins set_ends R0.2.2.2.1 R0.2.2.2.2.1 R0.2.2.2.2.2.1 R0.2.2.2.2.2.2.1 R0.2.2.2.2.2.2.2.1 R0.2.2.2.2.2.2.2.2.1 R0.2.2.2.2.2.2.2.2.2.1 R0.2.2.2.2.2.2.2.2.2.2.1 R0.2.2.2.2.2.2.2.2.2.2.2.1 R0.2.2.2.2.2.2.2.2.2.2.2.2) (va_A (w_29 cI tS a_set a_set_begins a_set_ends a_tre a_tre_kinds a_tre_values a_tre_mosts a_tre_owners a_tre_sizes a_tre_firstRanges a_tre_rangeCounts a_tre_begins a_tre_ends a_tre_waiting set_pieces tre_nodes tre_ranges tre_waits set_begins set_ends tre_kinds tre_values tre_mosts tre_owners tre_sizes tre_firstRanges tre_rangeCounts tre_begins tre_ends tre_waiting) sz) t) (va_A (w_29 cI tS a_set a_set_begins a_set_ends a_tre a_tre_kinds a_tre_values a_tre_mosts a_tre_owners a_tre_sizes a_tre_firstRanges a_tre_rangeCounts a_tre_begins a_tre_ends a_tre_waiting set_pieces tre_nodes tre_ranges tre_waits set_begins set_ends tre_kinds tre_values tre_mosts tre_owners tre_sizes tre_firstRanges tre_rangeCounts tre_begins tre_ends tre_waiting) sz)) 0 0 (va_A (w_29 cI tS a_set a_set_begins a_set_ends a_tre a_tre_kinds a_tre_values a_tre_mosts a_tre_owners a_tre_sizes a_tre_firstRanges a_tre_rangeCounts a_tre_begins a_tre_ends a_tre_waiting set_pieces tre_nodes tre_ranges tre_waits set_begins set_ends tre_kinds tre_values tre_mosts tre_owners tre_sizes tre_firstRanges tre_rangeCounts tre_begins tre_ends tre_waiting) sz) := by
  refine Met.ofW (cc := b_TRE_addClass) (maxL := 3) (ret := none) (by decide) rfl ?_
  intro p e s m args below meth c s₁ B hml hv
  obtain ⟨rfl, hsz, hP, hK, hD0, hst0⟩ := hv
  have hx := B.exec
  have hb := B.bytes
  have hr := B.returns
  have hts0 := atoms_spec (ws := ws_TRE_addClass) B.pre
  have hts : ∀ w ∈ GW, w.before _ s = true := fun w h => hts0 w (List.mem_cons_of_mem _ h)
  have hown : s.vm.findClass R_TRE = some m.cls := findClass_of_methodNamed B.named
  have hlocks := B.notSynchronized
  subst hsz
  have hD := hD0.self (sz := s.heap.size)
  generalize hAe : va_A (w_29 cI tS a_set a_set_begins a_set_ends a_tre a_tre_kinds a_tre_values a_tre_mosts a_tre_owners a_tre_sizes a_tre_firstRanges a_tre_rangeCounts a_tre_begins a_tre_ends a_tre_waiting set_pieces tre_nodes tre_ranges tre_waits set_begins set_ends tre_kinds tre_values tre_mosts tre_owners tre_sizes tre_firstRanges tre_rangeCounts tre_begins tre_ends tre_waiting) s.heap.size = A at hD hst0 ⊢
  have hA : ∀ q : Nat, s.heap.size ≤ q → A q := fun q h => by rw [← hAe]; exact Or.inr h
  have hS : va_S A s.heap s.heap [] := va_S.rf
  have hl := lv_entry ([.ref a_tre, .ref a_set]) (n := 3) (Nat.le_of_ble_eq_true rfl)
  rw [lg_entry_eq]
  generalize (lg_sl ([.ref a_tre, .ref a_set]) ++ List.replicate (3 - (lg_sl ([.ref a_tre, .ref a_set])).length) Slot.unset).toArray = ls at hl ⊢
  have hl : lv_has ls 3 [(0, .ref a_tre), (1, .ref a_set)] := hl
  refine lv_aload_n hx hb d_TRE_addClass_0 rfl (lv_at hl 1 rfl) ?_
  refine va_getN (D := (dC, dI)) (ci := 2) (v := .int set_pieces) (C := R_SET) (T := F_SET) (N := N_SET) hx hb hts i_SET hown hK hP 0 rfl rfl 2 (by decide) (va_Nw.use rfl (hst0.2.1 _ tn_255)) (fun _ h9 => h9) rfl d_TRE_addClass_1 ?_
  refine lv_istore_n (lv' := [(2, .int set_pieces), (0, .ref a_tre), (1, .ref a_set)]) hx hb d_TRE_addClass_4 rfl hl (by decide) rfl (fun ls hl => ?_)
  refine lv_aload_n hx hb d_TRE_addClass_5 rfl (lv_at hl 1 rfl) ?_
  refine va_get (D := (dC, dI)) (ci := 3) (v := .int tre_nodes) (C := R_TRE) (T := F_TRE) (N := N_TRE) hx hb hts i_TRE hown hK hP 1 rfl rfl 10 (by decide) (hts _ tw_159) (fun _ h9 => h9) rfl d_TRE_addClass_6 ?_
  refine lv_sipush (v := 512) hx hb d_TRE_addClass_9 (by decide) ?_
  refine lv_icmp_ge (tgt := 27) hx hb d_TRE_addClass_12 (by decide) (fun c_ => ?_) (fun c_ => ?_)
  · have hf := f_pos c_ hf
    obtain rfl := Option.some.inj hf
    exact W.vret hx hb hr (fun t ht hW => ⟨⟨(), rfl, trivial, ⟨by rw [ht]; exact hP, va_K.moved hW.alike hK, hD⟩⟩, hS.F ht⟩) hS.2.2 d_TRE_addClass_27
  · have hf := f_neg c_ hf
    refine lv_iload_n hx hb d_TRE_addClass_15 rfl (lv_at hl 0 rfl) ?_
    refine lv_sipush (v := 1600) hx hb d_TRE_addClass_16 (by decide) ?_
    refine lv_aload_n hx hb d_TRE_addClass_19 rfl (lv_at hl 1 rfl) ?_
    refine va_get (D := (dC, dI)) (ci := 3) (v := .int tre_ranges) (C := R_TRE) (T := F_TRE) (N := N_TRE) hx hb hts i_TRE hown hK hP 1 rfl rfl 11 (by decide) (hts _ tw_161) (fun _ h9 => h9) rfl d_TRE_addClass_20 ?_
    refine lv_isub hx hb d_TRE_addClass_23 ?_
    refine lv_icmp_le (tgt := 28) hx hb d_TRE_addClass_24 (by decide) (fun c_ => ?_) (fun c_ => ?_)
    · have hf := f_pos c_ hf
      refine lv_aload_n hx hb d_TRE_addClass_28 rfl (lv_at hl 1 rfl) ?_
      refine lv_iconst (v := 1) hx hb d_TRE_addClass_29 (by decide) ?_
      refine lv_iconst (v := (-1)) hx hb d_TRE_addClass_30 (by decide) ?_
      refine lv_iconst (v := 2) hx hb d_TRE_addClass_31 (by decide) ?_
      refine lv_iconst (v := 4) hx hb d_TRE_addClass_32 (by decide) ?_
      refine lv_iload_n hx hb d_TRE_addClass_33 rfl (lv_at hl 0 rfl) ?_
      refine lv_imul hx hb d_TRE_addClass_34 ?_
      refine lv_iadd hx hb d_TRE_addClass_35 ?_
      obtain ⟨x36, hg, hf⟩ := bnd hf
      have hPc := hP.sub (ws' := (w_9 cI tS a_tre a_tre_kinds a_tre_values a_tre_mosts a_tre_owners a_tre_sizes a_tre_firstRanges a_tre_rangeCounts a_tre_begins a_tre_ends a_tre_waiting tre_nodes tre_ranges tre_waits tre_kinds tre_values tre_mosts tre_owners tre_sizes tre_firstRanges tre_rangeCounts tre_waiting)) [1, 4, 5, 6, 7, 8, 9, 10, 13] rfl
      have hDc := hD.sub (ws' := (w_9 cI tS a_tre a_tre_kinds a_tre_values a_tre_mosts a_tre_owners a_tre_sizes a_tre_firstRanges a_tre_rangeCounts a_tre_begins a_tre_ends a_tre_waiting tre_nodes tre_ranges tre_waits tre_kinds tre_values tre_mosts tre_owners tre_sizes tre_firstRanges tre_rangeCounts tre_waiting)) [1, 4, 5, 6, 7, 8, 9, 10, 13] (by decide) rfl
      have hFc := va_free (wc := (w_9 cI tS a_tre a_tre_kinds a_tre_values a_tre_mosts a_tre_owners a_tre_sizes a_tre_firstRanges a_tre_rangeCounts a_tre_begins a_tre_ends a_tre_waiting tre_nodes tre_ranges tre_waits tre_kinds tre_values tre_mosts tre_owners tre_sizes tre_firstRanges tre_rangeCounts tre_waiting)) hD hS hA [1, 4, 5, 6, 7, 8, 9, 10, 13] rfl
      refine cal_v (va_runV (As := [.int 1, .int (-1), .int (2 + (4 * set_pieces))]) (rest := []) ⟨hx, hb, hml, hown, hts⟩ (c_TRE_addLeaf l dC dI cI tS s.heap.size a_tre a_tre_kinds a_tre_values a_tre_mosts a_tre_owners a_tre_sizes a_tre_firstRanges a_tre_rangeCounts a_tre_begins a_tre_ends a_tre_waiting tre_nodes tre_ranges tre_waits tre_kinds tre_values tre_mosts tre_owners tre_sizes tre_firstRanges tre_rangeCounts tre_waiting 1 (-1) (2 + (4 * set_pieces)) x36 hg) ⟨callB_of 3 hts (gN tw_640) rfl rfl rfl (hts _ tw_82) (hts _ tw_909) hd_TRE_addLeaf ⟨Nat.le_of_ble_eq_true rfl, Nat.le_of_ble_eq_true rfl⟩, hts _ tw_638, hts _ tw_639⟩ (pre_V hK hPc hDc hst0 hS hFc (va_recv hK hPc (ci := 3) (q0 := 0) rfl rfl)) rfl rfl hl.1 rfl (lv_room (Nat.le_of_ble_eq_true rfl)) d_TRE_addClass_36 ⟨Nat.zero_le _, Nat.zero_le _⟩) hP hD hS hA [1, 4, 5, 6, 7, 8, 9, 10, 13] [0, 2, 3, 11, 12] rfl rfl (by decide) (by decide) (fun H locs hP hD hS => ?_)
      have hP := hP.sub (ws' := (w_29 cI tS a_set a_set_begins a_set_ends a_tre a_tre_kinds a_tre_values a_tre_mosts a_tre_owners a_tre_sizes a_tre_firstRanges a_tre_rangeCounts a_tre_begins a_tre_ends a_tre_waiting set_pieces x36.1 tre_ranges x36.2.1 set_begins set_ends x36.2.2.1 x36.2.2.2.1 x36.2.2.2.2.1 x36.2.2.2.2.2.1 x36.2.2.2.2.2.2.1 x36.2.2.2.2.2.2.2.1 x36.2.2.2.2.2.2.2.2.1 tre_begins tre_ends x36.2.2.2.2.2.2.2.2.2)) [0, 5, 1, 2, 6, 7, 8, 9, 10, 11, 12, 3, 4, 13] rfl
      have hD := hD.sub (ws' := (w_29 cI tS a_set a_set_begins a_set_ends a_tre a_tre_kinds a_tre_values a_tre_mosts a_tre_owners a_tre_sizes a_tre_firstRanges a_tre_rangeCounts a_tre_begins a_tre_ends a_tre_waiting set_pieces x36.1 tre_ranges x36.2.1 set_begins set_ends x36.2.2.1 x36.2.2.2.1 x36.2.2.2.2.1 x36.2.2.2.2.2.1 x36.2.2.2.2.2.2.1 x36.2.2.2.2.2.2.2.1 x36.2.2.2.2.2.2.2.2.1 tre_begins tre_ends x36.2.2.2.2.2.2.2.2.2)) [0, 5, 1, 2, 6, 7, 8, 9, 10, 11, 12, 3, 4, 13] (by decide) rfl
      refine lv_aload_n hx hb d_TRE_addClass_39 rfl (lv_at hl 1 rfl) ?_
      refine va_get (D := (dC, dI)) (ci := 3) (v := .ref a_tre_rangeCounts) (C := R_TRE) (T := F_TRE) (N := N_TRE) hx hb hts i_TRE hown hK hP 1 rfl rfl 6 (by decide) (hts _ tw_155) (fun _ h9 => h9) rfl d_TRE_addClass_40 ?_
      refine lv_aload_n hx hb d_TRE_addClass_43 rfl (lv_at hl 1 rfl) ?_
      refine va_get (D := (dC, dI)) (ci := 3) (v := .int x36.1) (C := R_TRE) (T := F_TRE) (N := N_TRE) hx hb hts i_TRE hown hK hP 1 rfl rfl 10 (by decide) (hts _ tw_159) (fun _ h9 => h9) rfl d_TRE_addClass_44 ?_
      refine lv_iconst (v := 1) hx hb d_TRE_addClass_47 (by decide) ?_
      refine lv_isub hx hb d_TRE_addClass_48 ?_
      refine lv_iload_n hx hb d_TRE_addClass_49 rfl (lv_at hl 0 rfl) ?_
      obtain ⟨hin, hf⟩ := grd_in hf
      refine va_iast hx hb hK hP hD hS 10 0 rfl rfl hin d_TRE_addClass_50 (fun H locs hP hD hS => ?_)
      have hP : va_P (dC, dI) classes (w_29 cI tS a_set a_set_begins a_set_ends a_tre a_tre_kinds a_tre_values a_tre_mosts a_tre_owners a_tre_sizes a_tre_firstRanges a_tre_rangeCounts a_tre_begins a_tre_ends a_tre_waiting set_pieces x36.1 tre_ranges x36.2.1 set_begins set_ends x36.2.2.1 x36.2.2.2.1 x36.2.2.2.2.1 x36.2.2.2.2.2.1 x36.2.2.2.2.2.2.1 x36.2.2.2.2.2.2.2.1 (upd x36.2.2.2.2.2.2.2.2.1 (x36.1 - 1).toNatClampNeg set_pieces) tre_begins tre_ends x36.2.2.2.2.2.2.2.2.2) H := hP
      have hD : va_D A (w_29 cI tS a_set a_set_begins a_set_ends a_tre a_tre_kinds a_tre_values a_tre_mosts a_tre_owners a_tre_sizes a_tre_firstRanges a_tre_rangeCounts a_tre_begins a_tre_ends a_tre_waiting set_pieces x36.1 tre_ranges x36.2.1 set_begins set_ends x36.2.2.1 x36.2.2.2.1 x36.2.2.2.2.1 x36.2.2.2.2.2.1 x36.2.2.2.2.2.2.1 x36.2.2.2.2.2.2.2.1 (upd x36.2.2.2.2.2.2.2.2.1 (x36.1 - 1).toNatClampNeg set_pieces) tre_begins tre_ends x36.2.2.2.2.2.2.2.2.2) := hD
      refine lv_aload_n hx hb d_TRE_addClass_51 rfl (lv_at hl 2 rfl) ?_
      refine va_getN (D := (dC, dI)) (ci := 2) (v := .ref a_set_begins) (C := R_SET) (T := F_SET) (N := N_SET) hx hb hts i_SET hown hK hP 0 rfl rfl 0 (by decide) (va_Nw.use rfl (hst0.2.1 _ tn_251)) (fun _ h9 => h9) rfl d_TRE_addClass_52 ?_
      refine lv_iconst (v := 0) hx hb d_TRE_addClass_55 (by decide) ?_
      refine lv_aload_n hx hb d_TRE_addClass_56 rfl (lv_at hl 1 rfl) ?_
      refine va_get (D := (dC, dI)) (ci := 3) (v := .ref a_tre_begins) (C := R_TRE) (T := F_TRE) (N := N_TRE) hx hb hts i_TRE hown hK hP 1 rfl rfl 7 (by decide) (hts _ tw_156) (fun _ h9 => h9) rfl d_TRE_addClass_57 ?_
      refine lv_aload_n hx hb d_TRE_addClass_60 rfl (lv_at hl 1 rfl) ?_
      refine va_get (D := (dC, dI)) (ci := 3) (v := .int tre_ranges) (C := R_TRE) (T := F_TRE) (N := N_TRE) hx hb hts i_TRE hown hK hP 1 rfl rfl 11 (by decide) (hts _ tw_161) (fun _ h9 => h9) rfl d_TRE_addClass_61 ?_
      refine lv_iload_n hx hb d_TRE_addClass_64 rfl (lv_at hl 0 rfl) ?_
      obtain ⟨h1, h2, h3, h4, h5, hf⟩ := grd_cp hf
      refine va_copyi hx hb (hml.trans hl.1.symm) hown (hts _ tw_910) (hts _ tw_715) (hts _ tw_714) (hts _ tw_97) hK hP hD hS 2 11 0 0 rfl rfl rfl rfl rfl h1 h2 h3 h4 h5 (fun _ _ => rfl) (Nat.le_of_ble_eq_true rfl) (by decide) d_TRE_addClass_65 (fun H locs hP hD hS => ?_)
      have hP : va_P (dC, dI) classes (w_29 cI tS a_set a_set_begins a_set_ends a_tre a_tre_kinds a_tre_values a_tre_mosts a_tre_owners a_tre_sizes a_tre_firstRanges a_tre_rangeCounts a_tre_begins a_tre_ends a_tre_waiting set_pieces x36.1 tre_ranges x36.2.1 set_begins set_ends x36.2.2.1 x36.2.2.2.1 x36.2.2.2.2.1 x36.2.2.2.2.2.1 x36.2.2.2.2.2.2.1 x36.2.2.2.2.2.2.2.1 (upd x36.2.2.2.2.2.2.2.2.1 (x36.1 - 1).toNatClampNeg set_pieces) (va_cpy set_begins tre_begins (0 : Int32).toNatClampNeg tre_ranges.toNatClampNeg set_pieces.toNatClampNeg) tre_ends x36.2.2.2.2.2.2.2.2.2) H := hP
      have hD : va_D A (w_29 cI tS a_set a_set_begins a_set_ends a_tre a_tre_kinds a_tre_values a_tre_mosts a_tre_owners a_tre_sizes a_tre_firstRanges a_tre_rangeCounts a_tre_begins a_tre_ends a_tre_waiting set_pieces x36.1 tre_ranges x36.2.1 set_begins set_ends x36.2.2.1 x36.2.2.2.1 x36.2.2.2.2.1 x36.2.2.2.2.2.1 x36.2.2.2.2.2.2.1 x36.2.2.2.2.2.2.2.1 (upd x36.2.2.2.2.2.2.2.2.1 (x36.1 - 1).toNatClampNeg set_pieces) (va_cpy set_begins tre_begins (0 : Int32).toNatClampNeg tre_ranges.toNatClampNeg set_pieces.toNatClampNeg) tre_ends x36.2.2.2.2.2.2.2.2.2) := hD
      refine lv_aload_n hx hb d_TRE_addClass_68 rfl (lv_at hl 2 rfl) ?_
      refine va_getN (D := (dC, dI)) (ci := 2) (v := .ref a_set_ends) (C := R_SET) (T := F_SET) (N := N_SET) hx hb hts i_SET hown hK hP 0 rfl rfl 1 (by decide) (va_Nw.use rfl (hst0.2.1 _ tn_253)) (fun _ h9 => h9) rfl d_TRE_addClass_69 ?_
      refine lv_iconst (v := 0) hx hb d_TRE_addClass_72 (by decide) ?_
      refine lv_aload_n hx hb d_TRE_addClass_73 rfl (lv_at hl 1 rfl) ?_
      refine va_get (D := (dC, dI)) (ci := 3) (v := .ref a_tre_ends) (C := R_TRE) (T := F_TRE) (N := N_TRE) hx hb hts i_TRE hown hK hP 1 rfl rfl 8 (by decide) (hts _ tw_157) (fun _ h9 => h9) rfl d_TRE_addClass_74 ?_
      refine lv_aload_n hx hb d_TRE_addClass_77 rfl (lv_at hl 1 rfl) ?_
      refine va_get (D := (dC, dI)) (ci := 3) (v := .int tre_ranges) (C := R_TRE) (T := F_TRE) (N := N_TRE) hx hb hts i_TRE hown hK hP 1 rfl rfl 11 (by decide) (hts _ tw_161) (fun _ h9 => h9) rfl d_TRE_addClass_78 ?_
      refine lv_iload_n hx hb d_TRE_addClass_81 rfl (lv_at hl 0 rfl) ?_
      obtain ⟨h1, h2, h3, h4, h5, hf⟩ := grd_cp hf
      refine va_copyi hx hb (hml.trans hl.1.symm) hown (hts _ tw_910) (hts _ tw_715) (hts _ tw_714) (hts _ tw_97) hK hP hD hS 3 12 0 0 rfl rfl rfl rfl rfl h1 h2 h3 h4 h5 (fun _ _ => rfl) (Nat.le_of_ble_eq_true rfl) (by decide) d_TRE_addClass_82 (fun H locs hP hD hS => ?_)
      have hP : va_P (dC, dI) classes (w_29 cI tS a_set a_set_begins a_set_ends a_tre a_tre_kinds a_tre_values a_tre_mosts a_tre_owners a_tre_sizes a_tre_firstRanges a_tre_rangeCounts a_tre_begins a_tre_ends a_tre_waiting set_pieces x36.1 tre_ranges x36.2.1 set_begins set_ends x36.2.2.1 x36.2.2.2.1 x36.2.2.2.2.1 x36.2.2.2.2.2.1 x36.2.2.2.2.2.2.1 x36.2.2.2.2.2.2.2.1 (upd x36.2.2.2.2.2.2.2.2.1 (x36.1 - 1).toNatClampNeg set_pieces) (va_cpy set_begins tre_begins (0 : Int32).toNatClampNeg tre_ranges.toNatClampNeg set_pieces.toNatClampNeg) (va_cpy set_ends tre_ends (0 : Int32).toNatClampNeg tre_ranges.toNatClampNeg set_pieces.toNatClampNeg) x36.2.2.2.2.2.2.2.2.2) H := hP
      have hD : va_D A (w_29 cI tS a_set a_set_begins a_set_ends a_tre a_tre_kinds a_tre_values a_tre_mosts a_tre_owners a_tre_sizes a_tre_firstRanges a_tre_rangeCounts a_tre_begins a_tre_ends a_tre_waiting set_pieces x36.1 tre_ranges x36.2.1 set_begins set_ends x36.2.2.1 x36.2.2.2.1 x36.2.2.2.2.1 x36.2.2.2.2.2.1 x36.2.2.2.2.2.2.1 x36.2.2.2.2.2.2.2.1 (upd x36.2.2.2.2.2.2.2.2.1 (x36.1 - 1).toNatClampNeg set_pieces) (va_cpy set_begins tre_begins (0 : Int32).toNatClampNeg tre_ranges.toNatClampNeg set_pieces.toNatClampNeg) (va_cpy set_ends tre_ends (0 : Int32).toNatClampNeg tre_ranges.toNatClampNeg set_pieces.toNatClampNeg) x36.2.2.2.2.2.2.2.2.2) := hD
      refine lv_aload_n hx hb d_TRE_addClass_85 rfl (lv_at hl 1 rfl) ?_
      refine lv_dup hx hb d_TRE_addClass_86 rfl ?_
      refine va_get (D := (dC, dI)) (ci := 3) (v := .int tre_ranges) (C := R_TRE) (T := F_TRE) (N := N_TRE) hx hb hts i_TRE hown hK hP 1 rfl rfl 11 (by decide) (hts _ tw_161) (fun _ h9 => h9) rfl d_TRE_addClass_87 ?_
      refine lv_iload_n hx hb d_TRE_addClass_90 rfl (lv_at hl 0 rfl) ?_
      refine lv_iadd hx hb d_TRE_addClass_91 ?_
      refine va_put (D := (dC, dI)) (ci := 3) (v := .int (tre_ranges + set_pieces)) (ty := .int) (C := R_TRE) (T := F_TRE) (N := N_TRE) hx hb hts i_TRE ty_TRE ty_TRE_ok n_TRE hown hK hP hD hS 1 rfl rfl 11 (by decide) (hts _ tw_161) (fun _ h9 => h9) rfl (ty_TRE_ok 11 (by decide)) rfl rfl (Nat.le_of_ble_eq_true rfl) d_TRE_addClass_92 (fun H locs hP hD hS => ?_)
      have hP : va_P (dC, dI) classes (w_29 cI tS a_set a_set_begins a_set_ends a_tre a_tre_kinds a_tre_values a_tre_mosts a_tre_owners a_tre_sizes a_tre_firstRanges a_tre_rangeCounts a_tre_begins a_tre_ends a_tre_waiting set_pieces x36.1 (tre_ranges + set_pieces) x36.2.1 set_begins set_ends x36.2.2.1 x36.2.2.2.1 x36.2.2.2.2.1 x36.2.2.2.2.2.1 x36.2.2.2.2.2.2.1 x36.2.2.2.2.2.2.2.1 (upd x36.2.2.2.2.2.2.2.2.1 (x36.1 - 1).toNatClampNeg set_pieces) (va_cpy set_begins tre_begins (0 : Int32).toNatClampNeg tre_ranges.toNatClampNeg set_pieces.toNatClampNeg) (va_cpy set_ends tre_ends (0 : Int32).toNatClampNeg tre_ranges.toNatClampNeg set_pieces.toNatClampNeg) x36.2.2.2.2.2.2.2.2.2) H := hP
      have hD : va_D A (w_29 cI tS a_set a_set_begins a_set_ends a_tre a_tre_kinds a_tre_values a_tre_mosts a_tre_owners a_tre_sizes a_tre_firstRanges a_tre_rangeCounts a_tre_begins a_tre_ends a_tre_waiting set_pieces x36.1 (tre_ranges + set_pieces) x36.2.1 set_begins set_ends x36.2.2.1 x36.2.2.2.1 x36.2.2.2.2.1 x36.2.2.2.2.2.1 x36.2.2.2.2.2.2.1 x36.2.2.2.2.2.2.2.1 (upd x36.2.2.2.2.2.2.2.2.1 (x36.1 - 1).toNatClampNeg set_pieces) (va_cpy set_begins tre_begins (0 : Int32).toNatClampNeg tre_ranges.toNatClampNeg set_pieces.toNatClampNeg) (va_cpy set_ends tre_ends (0 : Int32).toNatClampNeg tre_ranges.toNatClampNeg set_pieces.toNatClampNeg) x36.2.2.2.2.2.2.2.2.2) := hD
      obtain rfl := Option.some.inj hf
      exact W.vret hx hb hr (fun t ht hW => ⟨⟨(), rfl, trivial, ⟨by rw [ht]; exact hP, va_K.moved hW.alike hK, hD⟩⟩, hS.F ht⟩) hS.2.2 d_TRE_addClass_95
    · have hf := f_neg c_ hf
      obtain rfl := Option.some.inj hf
      exact W.vret hx hb hr (fun t ht hW => ⟨⟨(), rfl, trivial, ⟨by rw [ht]; exact hP, va_K.moved hW.alike hK, hD⟩⟩, hS.F ht⟩) hS.2.2 d_TRE_addClass_27
def f_RDR_addClassPart (set_pieces : Int32) (tre_nodes : Int32) (tre_ranges : Int32) (tre_waits : Int32) (opn_depth : Int32) (rdr_place : Int32) (rdr_repeatable : Bool) (set_begins : Nat → Int32) (set_ends : Nat → Int32) (tre_kinds : Nat → Int32) (tre_values : Nat → Int32) (tre_mosts : Nat → Int32) (tre_owners : Nat → Int32) (tre_sizes : Nat → Int32) (tre_firstRanges : Nat → Int32) (tre_rangeCounts : Nat → Int32) (tre_begins : Nat → Int32) (tre_ends : Nat → Int32) (tre_waiting : Nat → Int32) (opn_parts : Nat → Int32) (p1 : Int32) : Option (Int32 × Int32 × Int32 × Int32 × Bool × (Nat → Int32) × (Nat → Int32) × (Nat → Int32) × (Nat → Int32) × (Nat → Int32) × (Nat → Int32) × (Nat → Int32) × (Nat → Int32) × (Nat → Int32) × (Nat → Int32) × (Nat → Int32)) :=
  if p1 = (-1) then some (tre_nodes, tre_ranges, tre_waits, rdr_place, rdr_repeatable, tre_kinds, tre_values, tre_mosts, tre_owners, tre_sizes, tre_firstRanges, tre_rangeCounts, tre_begins, tre_ends, tre_waiting, opn_parts) else bnd_ (f_TRE_addClass set_pieces tre_nodes tre_ranges tre_waits set_begins set_ends tre_kinds tre_values tre_mosts tre_owners tre_sizes tre_firstRanges tre_rangeCounts tre_begins tre_ends tre_waiting) (fun x13 => bnd_ (f_RDR_partDone opn_depth rdr_place rdr_repeatable opn_parts p1 true) (fun x19 => some (x13.1, x13.2.1, x13.2.2.1, x19.1, x19.2.1, x13.2.2.2.1, x13.2.2.2.2.1, x13.2.2.2.2.2.1, x13.2.2.2.2.2.2.1, x13.2.2.2.2.2.2.2.1, x13.2.2.2.2.2.2.2.2.1, x13.2.2.2.2.2.2.2.2.2.1, x13.2.2.2.2.2.2.2.2.2.2.1, x13.2.2.2.2.2.2.2.2.2.2.2.1, x13.2.2.2.2.2.2.2.2.2.2.2.2, x19.2.2)))
set_option maxRecDepth 100000 in
set_option maxHeartbeats 4000000 in
theorem c_RDR_addClassPart (l : Launch) (dC : Nat → ClassId) (dI : Nat → Nat → Nat) (cI : ClassId) (tS : Nat → Nat → Nat) (sz : Nat) (a_set a_set_begins a_set_ends a_tre a_tre_kinds a_tre_values a_tre_mosts a_tre_owners a_tre_sizes a_tre_firstRanges a_tre_rangeCounts a_tre_begins a_tre_ends a_tre_waiting a_opn a_opn_places a_opn_numbers a_opn_flagsAround a_opn_rows a_opn_parts a_rdr a_pat a_mis a_grp a_esc a_cls a_opg a_rep : Nat) (set_pieces : Int32) (tre_nodes : Int32) (tre_ranges : Int32) (tre_waits : Int32) (opn_depth : Int32) (rdr_place : Int32) (rdr_flags : Int32) (rdr_repeatable : Bool) (set_begins : Nat → Int32) (set_ends : Nat → Int32) (tre_kinds : Nat → Int32) (tre_values : Nat → Int32) (tre_mosts : Nat → Int32) (tre_owners : Nat → Int32) (tre_sizes : Nat → Int32) (tre_firstRanges : Nat → Int32) (tre_rangeCounts : Nat → Int32) (tre_begins : Nat → Int32) (tre_ends : Nat → Int32) (tre_waiting : Nat → Int32) (opn_parts : Nat → Int32) (p1 : Int32) (R0 : Int32 × Int32 × Int32 × Int32 × Bool × (Nat → Int32) × (Nat → Int32) × (Nat → Int32) × (Nat → Int32) × (Nat → Int32) × (Nat → Int32) × (Nat → Int32) × (Nat → Int32) × (Nat → Int32) × (Nat → Int32) × (Nat → Int32)) (hf : f_RDR_addClassPart set_pieces tre_nodes tre_ranges tre_waits opn_depth rdr_place rdr_repeatable set_begins set_ends tre_kinds tre_values tre_mosts tre_owners tre_sizes tre_firstRanges tre_rangeCounts tre_begins tre_ends tre_waiting opn_parts p1 = some R0) : Met l y_RDR_addClassPart ws_RDR_addClassPart ({ frames := 4, cells := 0, slots := 0, locals := 92 }) (va_Pc [.ref a_rdr, .int p1] (preS (dC, dI) classes [(cI, .int)] tS (w_30 cI tS a_set a_set_begins a_set_ends a_tre a_tre_kinds a_tre_values a_tre_mosts a_tre_owners a_tre_sizes a_tre_firstRanges a_tre_rangeCounts a_tre_begins a_tre_ends a_tre_waiting a_opn a_opn_places a_opn_numbers a_opn_flagsAround a_opn_rows a_opn_parts a_rdr a_pat a_mis a_grp a_esc a_cls a_opg a_rep set_pieces tre_nodes tre_ranges tre_waits opn_depth rdr_place rdr_flags rdr_repeatable set_begins set_ends tre_kinds tre_values tre_mosts tre_owners tre_sizes tre_firstRanges tre_rangeCounts tre_begins tre_ends tre_waiting opn_parts) sz)) (va_Qv (fun _ : Unit => True) (fun _ t => posS (dC, dI) classes [(cI, .int)] (w_30 cI tS a_set a_set_begins a_set_ends a_tre a_tre_kinds a_tre_values a_tre_mosts a_tre_owners a_tre_sizes a_tre_firstRanges a_tre_rangeCounts a_tre_begins a_tre_ends a_tre_waiting a_opn a_opn_places a_opn_numbers a_opn_flagsAround a_opn_rows a_opn_parts a_rdr a_pat a_mis a_grp a_esc a_cls a_opg a_rep set_pieces R0.1 R0.2.1 R0.2.2.1 opn_depth R0.2.2.2.1 rdr_flags R0.2.2.2.2.1 set_begins set_ends R0.2.2.2.2.2.1 R0.2.2.2.2.2.2.1 R0.2.2.2.2.2.2.2.1 R0.2.2.2.2.2.2.2.2.1 R0.2.2.2.2.2.2.2.2.2.1 R0.2.2.2.2.2.2.2.2.2.2.1 R0.2.2.2.2.2.2.2.2.2.2.2.1 R0.2.2.2.2.2.2.2.2.2.2.2.2.1 R0.2.2.2.2.2.2.2.2.2.2.2.2.2.1 R0.2.2.2.2.2.2.2.2.2.2.2.2.2.2.1 R0.2.2.2.2.2.2.2.2.2.2.2.2.2.2.2) (va_A (w_30 cI tS a_set a_set_begins a_set_ends a_tre a_tre_kinds a_tre_values a_tre_mosts a_tre_owners a_tre_sizes a_tre_firstRanges a_tre_rangeCounts a_tre_begins a_tre_ends a_tre_waiting a_opn a_opn_places a_opn_numbers a_opn_flagsAround a_opn_rows a_opn_parts a_rdr a_pat a_mis a_grp a_esc a_cls a_opg a_rep set_pieces tre_nodes tre_ranges tre_waits opn_depth rdr_place rdr_flags rdr_repeatable set_begins set_ends tre_kinds tre_values tre_mosts tre_owners tre_sizes tre_firstRanges tre_rangeCounts tre_begins tre_ends tre_waiting opn_parts) sz) t) (va_A (w_30 cI tS a_set a_set_begins a_set_ends a_tre a_tre_kinds a_tre_values a_tre_mosts a_tre_owners a_tre_sizes a_tre_firstRanges a_tre_rangeCounts a_tre_begins a_tre_ends a_tre_waiting a_opn a_opn_places a_opn_numbers a_opn_flagsAround a_opn_rows a_opn_parts a_rdr a_pat a_mis a_grp a_esc a_cls a_opg a_rep set_pieces tre_nodes tre_ranges tre_waits opn_depth rdr_place rdr_flags rdr_repeatable set_begins set_ends tre_kinds tre_values tre_mosts tre_owners tre_sizes tre_firstRanges tre_rangeCounts tre_begins tre_ends tre_waiting opn_parts) sz)) 0 0 (va_A (w_30 cI tS a_set a_set_begins a_set_ends a_tre a_tre_kinds a_tre_values a_tre_mosts a_tre_owners a_tre_sizes a_tre_firstRanges a_tre_rangeCounts a_tre_begins a_tre_ends a_tre_waiting a_opn a_opn_places a_opn_numbers a_opn_flagsAround a_opn_rows a_opn_parts a_rdr a_pat a_mis a_grp a_esc a_cls a_opg a_rep set_pieces tre_nodes tre_ranges tre_waits opn_depth rdr_place rdr_flags rdr_repeatable set_begins set_ends tre_kinds tre_values tre_mosts tre_owners tre_sizes tre_firstRanges tre_rangeCounts tre_begins tre_ends tre_waiting opn_parts) sz) := by
  refine Met.ofW (cc := b_RDR_addClassPart) (maxL := 2) (ret := none) (by decide) rfl ?_
  intro p e s m args below meth c s₁ B hml hv
  obtain ⟨rfl, hsz, hP, hK, hD0, hst0⟩ := hv
  have hx := B.exec
  have hb := B.bytes
  have hr := B.returns
  have hts0 := atoms_spec (ws := ws_RDR_addClassPart) B.pre
  have hts : ∀ w ∈ GW, w.before _ s = true := fun w h => hts0 w (List.mem_cons_of_mem _ h)
  have hown : s.vm.findClass R_RDR = some m.cls := findClass_of_methodNamed B.named
  have hlocks := B.notSynchronized
  subst hsz
  have hD := hD0.self (sz := s.heap.size)
  generalize hAe : va_A (w_30 cI tS a_set a_set_begins a_set_ends a_tre a_tre_kinds a_tre_values a_tre_mosts a_tre_owners a_tre_sizes a_tre_firstRanges a_tre_rangeCounts a_tre_begins a_tre_ends a_tre_waiting a_opn a_opn_places a_opn_numbers a_opn_flagsAround a_opn_rows a_opn_parts a_rdr a_pat a_mis a_grp a_esc a_cls a_opg a_rep set_pieces tre_nodes tre_ranges tre_waits opn_depth rdr_place rdr_flags rdr_repeatable set_begins set_ends tre_kinds tre_values tre_mosts tre_owners tre_sizes tre_firstRanges tre_rangeCounts tre_begins tre_ends tre_waiting opn_parts) s.heap.size = A at hD hst0 ⊢
  have hA : ∀ q : Nat, s.heap.size ≤ q → A q := fun q h => by rw [← hAe]; exact Or.inr h
  have hS : va_S A s.heap s.heap [] := va_S.rf
  have hl := lv_entry ([.ref a_rdr, .int p1]) (n := 2) (Nat.le_of_ble_eq_true rfl)
  rw [lg_entry_eq]
  generalize (lg_sl ([.ref a_rdr, .int p1]) ++ List.replicate (2 - (lg_sl ([.ref a_rdr, .int p1])).length) Slot.unset).toArray = ls at hl ⊢
  have hl : lv_has ls 2 [(0, .ref a_rdr), (1, .int p1)] := hl
  refine lv_iload_n hx hb d_RDR_addClassPart_0 rfl (lv_at hl 1 rfl) ?_
  refine lv_iconst (v := (-1)) hx hb d_RDR_addClassPart_1 (by decide) ?_
  refine lv_icmp_eq (tgt := 22) hx hb d_RDR_addClassPart_2 (by decide) (fun c_ => ?_) (fun c_ => ?_)
  · have hf := f_pos c_ hf
    obtain rfl := Option.some.inj hf
    exact W.vret hx hb hr (fun t ht hW => ⟨⟨(), rfl, trivial, ⟨by rw [ht]; exact hP, va_K.moved hW.alike hK, hD⟩⟩, hS.F ht⟩) hS.2.2 d_RDR_addClassPart_22
  · have hf := f_neg c_ hf
    refine lv_aload_n hx hb d_RDR_addClassPart_5 rfl (lv_at hl 0 rfl) ?_
    refine va_get (D := (dC, dI)) (ci := 10) (v := .ref a_tre) (C := R_RDR) (T := F_RDR) (N := N_RDR) hx hb hts i_RDR hown hK hP 3 rfl rfl 2 (by decide) (hts _ tw_387) (fun _ h9 => h9) rfl d_RDR_addClassPart_6 ?_
    refine lv_aload_n hx hb d_RDR_addClassPart_9 rfl (lv_at hl 0 rfl) ?_
    refine va_get (D := (dC, dI)) (ci := 10) (v := .ref a_set) (C := R_RDR) (T := F_RDR) (N := N_RDR) hx hb hts i_RDR hown hK hP 3 rfl rfl 5 (by decide) (hts _ tw_390) (fun _ h9 => h9) rfl d_RDR_addClassPart_10 ?_
    obtain ⟨x13, hg, hf⟩ := bnd hf
    have hPc := hP.sub (ws' := (w_29 cI tS a_set a_set_begins a_set_ends a_tre a_tre_kinds a_tre_values a_tre_mosts a_tre_owners a_tre_sizes a_tre_firstRanges a_tre_rangeCounts a_tre_begins a_tre_ends a_tre_waiting set_pieces tre_nodes tre_ranges tre_waits set_begins set_ends tre_kinds tre_values tre_mosts tre_owners tre_sizes tre_firstRanges tre_rangeCounts tre_begins tre_ends tre_waiting)) [0, 1, 4, 5, 6, 7, 8, 9, 10, 11, 12, 13, 14, 15] rfl
    have hDc := hD.sub (ws' := (w_29 cI tS a_set a_set_begins a_set_ends a_tre a_tre_kinds a_tre_values a_tre_mosts a_tre_owners a_tre_sizes a_tre_firstRanges a_tre_rangeCounts a_tre_begins a_tre_ends a_tre_waiting set_pieces tre_nodes tre_ranges tre_waits set_begins set_ends tre_kinds tre_values tre_mosts tre_owners tre_sizes tre_firstRanges tre_rangeCounts tre_begins tre_ends tre_waiting)) [0, 1, 4, 5, 6, 7, 8, 9, 10, 11, 12, 13, 14, 15] (by decide) rfl
    have hFc := va_free (wc := (w_29 cI tS a_set a_set_begins a_set_ends a_tre a_tre_kinds a_tre_values a_tre_mosts a_tre_owners a_tre_sizes a_tre_firstRanges a_tre_rangeCounts a_tre_begins a_tre_ends a_tre_waiting set_pieces tre_nodes tre_ranges tre_waits set_begins set_ends tre_kinds tre_values tre_mosts tre_owners tre_sizes tre_firstRanges tre_rangeCounts tre_begins tre_ends tre_waiting)) hD hS hA [0, 1, 4, 5, 6, 7, 8, 9, 10, 11, 12, 13, 14, 15] rfl
    refine cal_v (va_runV (As := [.ref a_set]) (rest := []) ⟨hx, hb, hml, hown, hts⟩ (c_TRE_addClass l dC dI cI tS s.heap.size a_set a_set_begins a_set_ends a_tre a_tre_kinds a_tre_values a_tre_mosts a_tre_owners a_tre_sizes a_tre_firstRanges a_tre_rangeCounts a_tre_begins a_tre_ends a_tre_waiting set_pieces tre_nodes tre_ranges tre_waits set_begins set_ends tre_kinds tre_values tre_mosts tre_owners tre_sizes tre_firstRanges tre_rangeCounts tre_begins tre_ends tre_waiting x13 hg) ⟨callB_of 1 hts (gN tw_908) rfl rfl rfl (hts _ tw_82) (hts _ tw_905) hd_TRE_addClass ⟨Nat.le_of_ble_eq_true rfl, Nat.le_of_ble_eq_true rfl⟩, hts _ tw_906, hts _ tw_907⟩ (pre_V hK hPc hDc hst0 hS hFc (va_recv hK hPc (ci := 3) (q0 := 1) rfl rfl)) rfl rfl hl.1 rfl (lv_room (Nat.le_of_ble_eq_true rfl)) d_RDR_addClassPart_13 ⟨Nat.zero_le _, Nat.zero_le _⟩) hP hD hS hA [0, 1, 4, 5, 6, 7, 8, 9, 10, 11, 12, 13, 14, 15] [2, 3, 16] rfl rfl (by decide) (by decide) (fun H locs hP hD hS => ?_)
    have hP := hP.sub (ws' := (w_30 cI tS a_set a_set_begins a_set_ends a_tre a_tre_kinds a_tre_values a_tre_mosts a_tre_owners a_tre_sizes a_tre_firstRanges a_tre_rangeCounts a_tre_begins a_tre_ends a_tre_waiting a_opn a_opn_places a_opn_numbers a_opn_flagsAround a_opn_rows a_opn_parts a_rdr a_pat a_mis a_grp a_esc a_cls a_opg a_rep set_pieces x13.1 x13.2.1 x13.2.2.1 opn_depth rdr_place rdr_flags rdr_repeatable set_begins set_ends x13.2.2.2.1 x13.2.2.2.2.1 x13.2.2.2.2.2.1 x13.2.2.2.2.2.2.1 x13.2.2.2.2.2.2.2.1 x13.2.2.2.2.2.2.2.2.1 x13.2.2.2.2.2.2.2.2.2.1 x13.2.2.2.2.2.2.2.2.2.2.1 x13.2.2.2.2.2.2.2.2.2.2.2.1 x13.2.2.2.2.2.2.2.2.2.2.2.2 opn_parts)) [3, 4, 0, 1, 5, 6, 7, 8, 9, 10, 11, 12, 13, 14, 15, 16, 2] rfl
    have hD := hD.sub (ws' := (w_30 cI tS a_set a_set_begins a_set_ends a_tre a_tre_kinds a_tre_values a_tre_mosts a_tre_owners a_tre_sizes a_tre_firstRanges a_tre_rangeCounts a_tre_begins a_tre_ends a_tre_waiting a_opn a_opn_places a_opn_numbers a_opn_flagsAround a_opn_rows a_opn_parts a_rdr a_pat a_mis a_grp a_esc a_cls a_opg a_rep set_pieces x13.1 x13.2.1 x13.2.2.1 opn_depth rdr_place rdr_flags rdr_repeatable set_begins set_ends x13.2.2.2.1 x13.2.2.2.2.1 x13.2.2.2.2.2.1 x13.2.2.2.2.2.2.1 x13.2.2.2.2.2.2.2.1 x13.2.2.2.2.2.2.2.2.1 x13.2.2.2.2.2.2.2.2.2.1 x13.2.2.2.2.2.2.2.2.2.2.1 x13.2.2.2.2.2.2.2.2.2.2.2.1 x13.2.2.2.2.2.2.2.2.2.2.2.2 opn_parts)) [3, 4, 0, 1, 5, 6, 7, 8, 9, 10, 11, 12, 13, 14, 15, 16, 2] (by decide) rfl
    refine lv_aload_n hx hb d_RDR_addClassPart_16 rfl (lv_at hl 0 rfl) ?_
    refine lv_iload_n hx hb d_RDR_addClassPart_17 rfl (lv_at hl 1 rfl) ?_
    refine lv_iconst (v := 1) hx hb d_RDR_addClassPart_18 (by decide) ?_
    obtain ⟨x19, hg, hf⟩ := bnd hf
    have hPc := hP.sub (ws' := (w_13 cI tS a_opn a_opn_places a_opn_numbers a_opn_flagsAround a_opn_rows a_opn_parts a_rdr a_pat a_mis a_tre a_grp a_set a_esc a_cls a_opg a_rep opn_depth rdr_place rdr_flags rdr_repeatable opn_parts)) [2, 3, 16] rfl
    have hDc := hD.sub (ws' := (w_13 cI tS a_opn a_opn_places a_opn_numbers a_opn_flagsAround a_opn_rows a_opn_parts a_rdr a_pat a_mis a_tre a_grp a_set a_esc a_cls a_opg a_rep opn_depth rdr_place rdr_flags rdr_repeatable opn_parts)) [2, 3, 16] (by decide) rfl
    have hFc := va_free (wc := (w_13 cI tS a_opn a_opn_places a_opn_numbers a_opn_flagsAround a_opn_rows a_opn_parts a_rdr a_pat a_mis a_tre a_grp a_set a_esc a_cls a_opg a_rep opn_depth rdr_place rdr_flags rdr_repeatable opn_parts)) hD hS hA [2, 3, 16] rfl
    refine cal_v (va_runV (As := [.int p1, .int (b2i true)]) (rest := []) ⟨hx, hb, hml, hown, hts⟩ (c_RDR_partDone l dC dI cI tS H.size a_opn a_opn_places a_opn_numbers a_opn_flagsAround a_opn_rows a_opn_parts a_rdr a_pat a_mis a_tre a_grp a_set a_esc a_cls a_opg a_rep opn_depth rdr_place rdr_flags rdr_repeatable opn_parts p1 true x19 hg) ⟨callB_of 2 hts (gN tw_645) rfl rfl rfl (hts _ tw_84) (hts _ tw_642) hd_RDR_partDone ⟨Nat.le_of_ble_eq_true rfl, Nat.le_of_ble_eq_true rfl⟩, hts _ tw_644, hts _ tw_6⟩ (pre_V hK hPc hDc hst0 hS hFc (va_recv hK hPc (ci := 10) (q0 := 1) rfl rfl)) rfl rfl hl.1 rfl (lv_room (Nat.le_of_ble_eq_true rfl)) d_RDR_addClassPart_19 ⟨Nat.zero_le _, Nat.zero_le _⟩) hP hD hS hA [2, 3, 16] [0, 1, 4, 5, 6, 7, 8, 9, 10, 11, 12, 13, 14, 15] rfl rfl (by decide) (by decide) (fun H locs hP hD hS => ?_)
    have hP := hP.sub (ws' := (w_30 cI tS a_set a_set_begins a_set_ends a_tre a_tre_kinds a_tre_values a_tre_mosts a_tre_owners a_tre_sizes a_tre_firstRanges a_tre_rangeCounts a_tre_begins a_tre_ends a_tre_waiting a_opn a_opn_places a_opn_numbers a_opn_flagsAround a_opn_rows a_opn_parts a_rdr a_pat a_mis a_grp a_esc a_cls a_opg a_rep set_pieces x13.1 x13.2.1 x13.2.2.1 opn_depth x19.1 rdr_flags x19.2.1 set_begins set_ends x13.2.2.2.1 x13.2.2.2.2.1 x13.2.2.2.2.2.1 x13.2.2.2.2.2.2.1 x13.2.2.2.2.2.2.2.1 x13.2.2.2.2.2.2.2.2.1 x13.2.2.2.2.2.2.2.2.2.1 x13.2.2.2.2.2.2.2.2.2.2.1 x13.2.2.2.2.2.2.2.2.2.2.2.1 x13.2.2.2.2.2.2.2.2.2.2.2.2 x19.2.2)) [0, 1, 14, 15, 2, 3, 4, 5, 6, 7, 8, 9, 10, 11, 12, 13, 16] rfl
    have hD := hD.sub (ws' := (w_30 cI tS a_set a_set_begins a_set_ends a_tre a_tre_kinds a_tre_values a_tre_mosts a_tre_owners a_tre_sizes a_tre_firstRanges a_tre_rangeCounts a_tre_begins a_tre_ends a_tre_waiting a_opn a_opn_places a_opn_numbers a_opn_flagsAround a_opn_rows a_opn_parts a_rdr a_pat a_mis a_grp a_esc a_cls a_opg a_rep set_pieces x13.1 x13.2.1 x13.2.2.1 opn_depth x19.1 rdr_flags x19.2.1 set_begins set_ends x13.2.2.2.1 x13.2.2.2.2.1 x13.2.2.2.2.2.1 x13.2.2.2.2.2.2.1 x13.2.2.2.2.2.2.2.1 x13.2.2.2.2.2.2.2.2.1 x13.2.2.2.2.2.2.2.2.2.1 x13.2.2.2.2.2.2.2.2.2.2.1 x13.2.2.2.2.2.2.2.2.2.2.2.1 x13.2.2.2.2.2.2.2.2.2.2.2.2 x19.2.2)) [0, 1, 14, 15, 2, 3, 4, 5, 6, 7, 8, 9, 10, 11, 12, 13, 16] (by decide) rfl
    obtain rfl := Option.some.inj hf
    exact W.vret hx hb hr (fun t ht hW => ⟨⟨(), rfl, trivial, ⟨by rw [ht]; exact hP, va_K.moved hW.alike hK, hD⟩⟩, hS.F ht⟩) hS.2.2 d_RDR_addClassPart_22
def f_SET_isOneCharacter (set_pieces : Int32) (set_begins : Nat → Int32) (set_ends : Nat → Int32) : Option Bool :=
  if set_pieces = 1 then grd (inb 0 1024) (grd (inb 0 1024) (if (set_begins (0 : Int32).toNatClampNeg) = (set_ends (0 : Int32).toNatClampNeg) then some true else some false)) else some false
set_option maxRecDepth 100000 in
set_option maxHeartbeats 4000000 in
theorem c_SET_isOneCharacter (l : Launch) (dC : Nat → ClassId) (dI : Nat → Nat → Nat) (cI : ClassId) (tS : Nat → Nat → Nat) (sz : Nat) (a_set a_set_begins a_set_ends : Nat) (set_pieces : Int32) (set_begins : Nat → Int32) (set_ends : Nat → Int32) (R0 : Bool) (hf : f_SET_isOneCharacter set_pieces set_begins set_ends = some R0) : Met l y_SET_isOneCharacter ws_SET_isOneCharacter ({ frames := 0, cells := 0, slots := 0, locals := 0 }) (va_Pc [.ref a_set] (preS (dC, dI) classes [(cI, .int)] tS (w_22 cI tS a_set a_set_begins a_set_ends set_pieces set_begins set_ends) sz)) (va_Qi (fun r (_ : Unit) => r = b2i R0) (fun _ t => posS (dC, dI) classes [(cI, .int)] (w_22 cI tS a_set a_set_begins a_set_ends set_pieces set_begins set_ends) (va_A (w_22 cI tS a_set a_set_begins a_set_ends set_pieces set_begins set_ends) sz) t) (va_A (w_22 cI tS a_set a_set_begins a_set_ends set_pieces set_begins set_ends) sz)) 0 0 (va_A (w_22 cI tS a_set a_set_begins a_set_ends set_pieces set_begins set_ends) sz) := by
  refine Met.ofW (cc := b_SET_isOneCharacter) (maxL := 1) (ret := (some .boolean)) (by decide) rfl ?_
  intro p e s m args below meth c s₁ B hml hv
  obtain ⟨rfl, hsz, hP, hK, hD0, hst0⟩ := hv
  have hx := B.exec
  have hb := B.bytes
  have hr := B.returns
  have hts0 := atoms_spec (ws := ws_SET_isOneCharacter) B.pre
  have hts : ∀ w ∈ GW, w.before _ s = true := fun w h => hts0 w (List.mem_cons_of_mem _ h)
  have hown : s.vm.findClass R_SET = some m.cls := findClass_of_methodNamed B.named
  have hlocks := B.notSynchronized
  subst hsz
  have hD := hD0.self (sz := s.heap.size)
  generalize hAe : va_A (w_22 cI tS a_set a_set_begins a_set_ends set_pieces set_begins set_ends) s.heap.size = A at hD hst0 ⊢
  have hA : ∀ q : Nat, s.heap.size ≤ q → A q := fun q h => by rw [← hAe]; exact Or.inr h
  have hS : va_S A s.heap s.heap [] := va_S.rf
  have hl := lv_entry ([.ref a_set]) (n := 1) (Nat.le_of_ble_eq_true rfl)
  rw [lg_entry_eq]
  generalize (lg_sl ([.ref a_set]) ++ List.replicate (1 - (lg_sl ([.ref a_set])).length) Slot.unset).toArray = ls at hl ⊢
  have hl : lv_has ls 1 [(0, .ref a_set)] := hl
  refine lv_aload_n hx hb d_SET_isOneCharacter_0 rfl (lv_at hl 0 rfl) ?_
  refine va_get (D := (dC, dI)) (ci := 2) (v := .int set_pieces) (C := R_SET) (T := F_SET) (N := N_SET) hx hb hts i_SET hown hK hP 0 rfl rfl 2 (by decide) (hts _ tw_254) (fun _ h9 => h9) rfl d_SET_isOneCharacter_1 ?_
  refine lv_iconst (v := 1) hx hb d_SET_isOneCharacter_4 (by decide) ?_
  refine lv_icmp_ne (tgt := 27) hx hb d_SET_isOneCharacter_5 (by decide) (fun c_ => ?_) (fun c_ => ?_)
  · have hf := f_neg c_ hf
    refine lv_iconst (v := 0) hx hb d_SET_isOneCharacter_27 (by decide) ?_
    obtain rfl := Option.some.inj hf
    exact W.zret (v := b2i false) hx hb hr (nr_b _) (fun t ht hW => ⟨⟨_, (), rfl, rfl, ⟨by rw [ht]; exact hP, va_K.moved hW.alike hK, hD⟩⟩, hS.F ht⟩) hS.2.2 d_SET_isOneCharacter_28
  · have hf := f_pos c_ hf
    refine lv_aload_n hx hb d_SET_isOneCharacter_8 rfl (lv_at hl 0 rfl) ?_
    refine va_get (D := (dC, dI)) (ci := 2) (v := .ref a_set_begins) (C := R_SET) (T := F_SET) (N := N_SET) hx hb hts i_SET hown hK hP 0 rfl rfl 0 (by decide) (hts _ tw_250) (fun _ h9 => h9) rfl d_SET_isOneCharacter_9 ?_
    refine lv_iconst (v := 0) hx hb d_SET_isOneCharacter_12 (by decide) ?_
    obtain ⟨hin, hf⟩ := grd_in hf
    refine va_iald hx hb hK hP 1 0 rfl rfl hin d_SET_isOneCharacter_13 ?_
    refine lv_aload_n hx hb d_SET_isOneCharacter_14 rfl (lv_at hl 0 rfl) ?_
    refine va_get (D := (dC, dI)) (ci := 2) (v := .ref a_set_ends) (C := R_SET) (T := F_SET) (N := N_SET) hx hb hts i_SET hown hK hP 0 rfl rfl 1 (by decide) (hts _ tw_252) (fun _ h9 => h9) rfl d_SET_isOneCharacter_15 ?_
    refine lv_iconst (v := 0) hx hb d_SET_isOneCharacter_18 (by decide) ?_
    obtain ⟨hin, hf⟩ := grd_in hf
    refine va_iald hx hb hK hP 2 0 rfl rfl hin d_SET_isOneCharacter_19 ?_
    refine lv_icmp_ne (tgt := 27) hx hb d_SET_isOneCharacter_20 (by decide) (fun c_ => ?_) (fun c_ => ?_)
    · have hf := f_neg c_ hf
      refine lv_iconst (v := 0) hx hb d_SET_isOneCharacter_27 (by decide) ?_
      obtain rfl := Option.some.inj hf
      exact W.zret (v := b2i false) hx hb hr (nr_b _) (fun t ht hW => ⟨⟨_, (), rfl, rfl, ⟨by rw [ht]; exact hP, va_K.moved hW.alike hK, hD⟩⟩, hS.F ht⟩) hS.2.2 d_SET_isOneCharacter_28
    · have hf := f_pos c_ hf
      refine lv_iconst (v := 1) hx hb d_SET_isOneCharacter_23 (by decide) ?_
      refine lv_goto (tgt := 28) hx hb d_SET_isOneCharacter_24 (by decide) ?_
      obtain rfl := Option.some.inj hf
      exact W.zret (v := b2i true) hx hb hr (nr_b _) (fun t ht hW => ⟨⟨_, (), rfl, rfl, ⟨by rw [ht]; exact hP, va_K.moved hW.alike hK, hD⟩⟩, hS.F ht⟩) hS.2.2 d_SET_isOneCharacter_28
def f_RDR_addCharacter_L36 (rdr_flags : Int32) (p1 : Int32) (set_pieces : Int32) (tre_nodes : Int32) (tre_ranges : Int32) (tre_waits : Int32) (set_begins : Nat → Int32) (set_ends : Nat → Int32) (tre_kinds : Nat → Int32) (tre_values : Nat → Int32) (tre_mosts : Nat → Int32) (tre_owners : Nat → Int32) (tre_sizes : Nat → Int32) (tre_firstRanges : Nat → Int32) (tre_rangeCounts : Nat → Int32) (tre_begins : Nat → Int32) (tre_ends : Nat → Int32) (tre_waiting : Nat → Int32) : Option (Int32 × Int32 × Int32 × Int32 × (Nat → Int32) × (Nat → Int32) × (Nat → Int32) × (Nat → Int32) × (Nat → Int32) × (Nat → Int32) × (Nat → Int32) × (Nat → Int32) × (Nat → Int32) × (Nat → Int32) × (Nat → Int32) × (Nat → Int32)) :=
  bnd_ (f_SET_isOneCharacter set_pieces set_begins set_ends) (fun x40 => if (b2i x40) = 0 then bnd_ (f_TRE_addClass set_pieces tre_nodes tre_ranges tre_waits set_begins set_ends tre_kinds tre_values tre_mosts tre_owners tre_sizes tre_firstRanges tre_rangeCounts tre_begins tre_ends tre_waiting) (fun x67 => some (set_pieces, x67.1, x67.2.1, x67.2.2.1, set_begins, set_ends, x67.2.2.2.1, x67.2.2.2.2.1, x67.2.2.2.2.2.1, x67.2.2.2.2.2.2.1, x67.2.2.2.2.2.2.2.1, x67.2.2.2.2.2.2.2.2.1, x67.2.2.2.2.2.2.2.2.2.1, x67.2.2.2.2.2.2.2.2.2.2.1, x67.2.2.2.2.2.2.2.2.2.2.2.1, x67.2.2.2.2.2.2.2.2.2.2.2.2)) else bnd_ (f_TRE_addLeaf tre_nodes tre_ranges tre_waits tre_kinds tre_values tre_mosts tre_owners tre_sizes tre_firstRanges tre_rangeCounts tre_waiting 0 p1 1) (fun x53 => some (set_pieces, x53.1, tre_ranges, x53.2.1, set_begins, set_ends, x53.2.2.1, x53.2.2.2.1, x53.2.2.2.2.1, x53.2.2.2.2.2.1, x53.2.2.2.2.2.2.1, x53.2.2.2.2.2.2.2.1, x53.2.2.2.2.2.2.2.2.1, tre_begins, tre_ends, x53.2.2.2.2.2.2.2.2.2)))
def f_RDR_addCharacter (set_pieces : Int32) (tre_nodes : Int32) (tre_ranges : Int32) (tre_waits : Int32) (rdr_flags : Int32) (set_begins : Nat → Int32) (set_ends : Nat → Int32) (tre_kinds : Nat → Int32) (tre_values : Nat → Int32) (tre_mosts : Nat → Int32) (tre_owners : Nat → Int32) (tre_sizes : Nat → Int32) (tre_firstRanges : Nat → Int32) (tre_rangeCounts : Nat → Int32) (tre_begins : Nat → Int32) (tre_ends : Nat → Int32) (tre_waiting : Nat → Int32) (p1 : Int32) : Option (Int32 × Int32 × Int32 × Int32 × (Nat → Int32) × (Nat → Int32) × (Nat → Int32) × (Nat → Int32) × (Nat → Int32) × (Nat → Int32) × (Nat → Int32) × (Nat → Int32) × (Nat → Int32) × (Nat → Int32) × (Nat → Int32) × (Nat → Int32)) :=
  bnd_ (f_SET_clear set_pieces) (fun x4 => bnd_ (f_RDR_isOn rdr_flags 1) (fun x9 => if (b2i x9) = 0 then bnd_ (f_SET_add x4 set_begins set_ends p1 p1) (fun x33 => f_RDR_addCharacter_L36 rdr_flags p1 x33.1 tre_nodes tre_ranges tre_waits x33.2.1 x33.2.2 tre_kinds tre_values tre_mosts tre_owners tre_sizes tre_firstRanges tre_rangeCounts tre_begins tre_ends tre_waiting) else bnd_ (f_SET_addWithAlike x4 set_begins set_ends p1 p1) (fun x21 => f_RDR_addCharacter_L36 rdr_flags p1 x21.1 tre_nodes tre_ranges tre_waits x21.2.1 x21.2.2 tre_kinds tre_values tre_mosts tre_owners tre_sizes tre_firstRanges tre_rangeCounts tre_begins tre_ends tre_waiting)))
set_option maxRecDepth 100000 in
set_option maxHeartbeats 4000000 in
theorem c_RDR_addCharacter (l : Launch) (dC : Nat → ClassId) (dI : Nat → Nat → Nat) (cI : ClassId) (tS : Nat → Nat → Nat) (sz : Nat) (a_set a_set_begins a_set_ends a_tre a_tre_kinds a_tre_values a_tre_mosts a_tre_owners a_tre_sizes a_tre_firstRanges a_tre_rangeCounts a_tre_begins a_tre_ends a_tre_waiting a_rdr a_pat a_mis a_grp a_opn a_esc a_cls a_opg a_rep : Nat) (set_pieces : Int32) (tre_nodes : Int32) (tre_ranges : Int32) (tre_waits : Int32) (rdr_place : Int32) (rdr_flags : Int32) (rdr_repeatable : Bool) (set_begins : Nat → Int32) (set_ends : Nat → Int32) (tre_kinds : Nat → Int32) (tre_values : Nat → Int32) (tre_mosts : Nat → Int32) (tre_owners : Nat → Int32) (tre_sizes : Nat → Int32) (tre_firstRanges : Nat → Int32) (tre_rangeCounts : Nat → Int32) (tre_begins : Nat → Int32) (tre_ends : Nat → Int32) (tre_waiting : Nat → Int32) (p1 : Int32) (R0 : Int32 × Int32 × Int32 × Int32 × (Nat → Int32) × (Nat → Int32) × (Nat → Int32) × (Nat → Int32) × (Nat → Int32) × (Nat → Int32) × (Nat → Int32) × (Nat → Int32) × (Nat → Int32) × (Nat → Int32) × (Nat → Int32) × (Nat → Int32)) (hf : f_RDR_addCharacter set_pieces tre_nodes tre_ranges tre_waits rdr_flags set_begins set_ends tre_kinds tre_values tre_mosts tre_owners tre_sizes tre_firstRanges tre_rangeCounts tre_begins tre_ends tre_waiting p1 = some R0) : Met l y_RDR_addCharacter ws_RDR_addCharacter ({ frames := 4, cells := 0, slots := 0, locals := 116 }) (va_Pc [.ref a_rdr, .int p1] (preS (dC, dI) classes [(cI, .int)] tS (w_31 cI tS a_set a_set_begins a_set_ends a_tre a_tre_kinds a_tre_values a_tre_mosts a_tre_owners a_tre_sizes a_tre_firstRanges a_tre_rangeCounts a_tre_begins a_tre_ends a_tre_waiting a_rdr a_pat a_mis a_grp a_opn a_esc a_cls a_opg a_rep set_pieces tre_nodes tre_ranges tre_waits rdr_place rdr_flags rdr_repeatable set_begins set_ends tre_kinds tre_values tre_mosts tre_owners tre_sizes tre_firstRanges tre_rangeCounts tre_begins tre_ends tre_waiting) sz)) (va_Qv (fun _ : Unit => True) (fun _ t => posS (dC, dI) classes [(cI, .int)] (w_31 cI tS a_set a_set_begins a_set_ends a_tre a_tre_kinds a_tre_values a_tre_mosts a_tre_owners a_tre_sizes a_tre_firstRanges a_tre_rangeCounts a_tre_begins a_tre_ends a_tre_waiting a_rdr a_pat a_mis a_grp a_opn a_esc a_cls a_opg a_rep R0.1 R0.2.1 R0.2.2.1 R0.2.2.2.1 rdr_place rdr_flags rdr_repeatable R0.2.2.2.2.1 R0.2.2.2.2.2.1 R0.2.2.2.2.2.2.1 R0.2.2.2.2.2.2.2.1 R0.2.2.2.2.2.2.2.2.1 R0.2.2.2.2.2.2.2.2.2.1 R0.2.2.2.2.2.2.2.2.2.2.1 R0.2.2.2.2.2.2.2.2.2.2.2.1 R0.2.2.2.2.2.2.2.2.2.2.2.2.1 R0.2.2.2.2.2.2.2.2.2.2.2.2.2.1 R0.2.2.2.2.2.2.2.2.2.2.2.2.2.2.1 R0.2.2.2.2.2.2.2.2.2.2.2.2.2.2.2) (va_A (w_31 cI tS a_set a_set_begins a_set_ends a_tre a_tre_kinds a_tre_values a_tre_mosts a_tre_owners a_tre_sizes a_tre_firstRanges a_tre_rangeCounts a_tre_begins a_tre_ends a_tre_waiting a_rdr a_pat a_mis a_grp a_opn a_esc a_cls a_opg a_rep set_pieces tre_nodes tre_ranges tre_waits rdr_place rdr_flags rdr_repeatable set_begins set_ends tre_kinds tre_values tre_mosts tre_owners tre_sizes tre_firstRanges tre_rangeCounts tre_begins tre_ends tre_waiting) sz) t) (va_A (w_31 cI tS a_set a_set_begins a_set_ends a_tre a_tre_kinds a_tre_values a_tre_mosts a_tre_owners a_tre_sizes a_tre_firstRanges a_tre_rangeCounts a_tre_begins a_tre_ends a_tre_waiting a_rdr a_pat a_mis a_grp a_opn a_esc a_cls a_opg a_rep set_pieces tre_nodes tre_ranges tre_waits rdr_place rdr_flags rdr_repeatable set_begins set_ends tre_kinds tre_values tre_mosts tre_owners tre_sizes tre_firstRanges tre_rangeCounts tre_begins tre_ends tre_waiting) sz)) 0 0 (va_A (w_31 cI tS a_set a_set_begins a_set_ends a_tre a_tre_kinds a_tre_values a_tre_mosts a_tre_owners a_tre_sizes a_tre_firstRanges a_tre_rangeCounts a_tre_begins a_tre_ends a_tre_waiting a_rdr a_pat a_mis a_grp a_opn a_esc a_cls a_opg a_rep set_pieces tre_nodes tre_ranges tre_waits rdr_place rdr_flags rdr_repeatable set_begins set_ends tre_kinds tre_values tre_mosts tre_owners tre_sizes tre_firstRanges tre_rangeCounts tre_begins tre_ends tre_waiting) sz) := by
  refine Met.ofW (cc := b_RDR_addCharacter) (maxL := 2) (ret := none) (by decide) rfl ?_
  intro p e s m args below meth c s₁ B hml hv
  obtain ⟨rfl, hsz, hP, hK, hD0, hst0⟩ := hv
  have hx := B.exec
  have hb := B.bytes
  have hr := B.returns
  have hts0 := atoms_spec (ws := ws_RDR_addCharacter) B.pre
  have hts : ∀ w ∈ GW, w.before _ s = true := fun w h => hts0 w (List.mem_cons_of_mem _ h)
  have hown : s.vm.findClass R_RDR = some m.cls := findClass_of_methodNamed B.named
  have hlocks := B.notSynchronized
  subst hsz
  have hD := hD0.self (sz := s.heap.size)
  generalize hAe : va_A (w_31 cI tS a_set a_set_begins a_set_ends a_tre a_tre_kinds a_tre_values a_tre_mosts a_tre_owners a_tre_sizes a_tre_firstRanges a_tre_rangeCounts a_tre_begins a_tre_ends a_tre_waiting a_rdr a_pat a_mis a_grp a_opn a_esc a_cls a_opg a_rep set_pieces tre_nodes tre_ranges tre_waits rdr_place rdr_flags rdr_repeatable set_begins set_ends tre_kinds tre_values tre_mosts tre_owners tre_sizes tre_firstRanges tre_rangeCounts tre_begins tre_ends tre_waiting) s.heap.size = A at hD hst0 ⊢
  have hA : ∀ q : Nat, s.heap.size ≤ q → A q := fun q h => by rw [← hAe]; exact Or.inr h
  have hS : va_S A s.heap s.heap [] := va_S.rf
  have hl := lv_entry ([.ref a_rdr, .int p1]) (n := 2) (Nat.le_of_ble_eq_true rfl)
  rw [lg_entry_eq]
  generalize (lg_sl ([.ref a_rdr, .int p1]) ++ List.replicate (2 - (lg_sl ([.ref a_rdr, .int p1])).length) Slot.unset).toArray = ls at hl ⊢
  have hl : lv_has ls 2 [(0, .ref a_rdr), (1, .int p1)] := hl
  have L36 : ∀ (set_pieces : Int32) (tre_nodes : Int32) (tre_ranges : Int32) (tre_waits : Int32) (set_begins : Nat → Int32) (set_ends : Nat → Int32) (tre_kinds : Nat → Int32) (tre_values : Nat → Int32) (tre_mosts : Nat → Int32) (tre_owners : Nat → Int32) (tre_sizes : Nat → Int32) (tre_firstRanges : Nat → Int32) (tre_rangeCounts : Nat → Int32) (tre_begins : Nat → Int32) (tre_ends : Nat → Int32) (tre_waiting : Nat → Int32) (H : Heap) (locs : List Loc) (ls : Array Slot), va_P (dC, dI) classes (w_31 cI tS a_set a_set_begins a_set_ends a_tre a_tre_kinds a_tre_values a_tre_mosts a_tre_owners a_tre_sizes a_tre_firstRanges a_tre_rangeCounts a_tre_begins a_tre_ends a_tre_waiting a_rdr a_pat a_mis a_grp a_opn a_esc a_cls a_opg a_rep set_pieces tre_nodes tre_ranges tre_waits rdr_place rdr_flags rdr_repeatable set_begins set_ends tre_kinds tre_values tre_mosts tre_owners tre_sizes tre_firstRanges tre_rangeCounts tre_begins tre_ends tre_waiting) H → va_D A (w_31 cI tS a_set a_set_begins a_set_ends a_tre a_tre_kinds a_tre_values a_tre_mosts a_tre_owners a_tre_sizes a_tre_firstRanges a_tre_rangeCounts a_tre_begins a_tre_ends a_tre_waiting a_rdr a_pat a_mis a_grp a_opn a_esc a_cls a_opg a_rep set_pieces tre_nodes tre_ranges tre_waits rdr_place rdr_flags rdr_repeatable set_begins set_ends tre_kinds tre_values tre_mosts tre_owners tre_sizes tre_firstRanges tre_rangeCounts tre_begins tre_ends tre_waiting) → va_S A s.heap H locs → lv_has ls 2 [(0, .ref a_rdr), (1, .int p1)] → f_RDR_addCharacter_L36 rdr_flags p1 set_pieces tre_nodes tre_ranges tre_waits set_begins set_ends tre_kinds tre_values tre_mosts tre_owners tre_sizes tre_firstRanges tre_rangeCounts tre_begins tre_ends tre_waiting = some R0 → W p l e (headSpec ws_RDR_addCharacter ({ frames := 4, cells := 0, slots := 0, locals := 116 })).room s m ([.ref a_rdr, .int p1] : List Value).toArray below meth c H locs 0 0 (MQ below (va_Qv (fun _ : Unit => True) (fun _ t => posS (dC, dI) classes [(cI, .int)] (w_31 cI tS a_set a_set_begins a_set_ends a_tre a_tre_kinds a_tre_values a_tre_mosts a_tre_owners a_tre_sizes a_tre_firstRanges a_tre_rangeCounts a_tre_begins a_tre_ends a_tre_waiting a_rdr a_pat a_mis a_grp a_opn a_esc a_cls a_opg a_rep R0.1 R0.2.1 R0.2.2.1 R0.2.2.2.1 rdr_place rdr_flags rdr_repeatable R0.2.2.2.2.1 R0.2.2.2.2.2.1 R0.2.2.2.2.2.2.1 R0.2.2.2.2.2.2.2.1 R0.2.2.2.2.2.2.2.2.1 R0.2.2.2.2.2.2.2.2.2.1 R0.2.2.2.2.2.2.2.2.2.2.1 R0.2.2.2.2.2.2.2.2.2.2.2.1 R0.2.2.2.2.2.2.2.2.2.2.2.2.1 R0.2.2.2.2.2.2.2.2.2.2.2.2.2.1 R0.2.2.2.2.2.2.2.2.2.2.2.2.2.2.1 R0.2.2.2.2.2.2.2.2.2.2.2.2.2.2.2) (A) t) (A)) ([.ref a_rdr, .int p1] : List Value).toArray s 0 0 A) (F0 m 36 ls []) := by
    intro set_pieces tre_nodes tre_ranges tre_waits set_begins set_ends tre_kinds tre_values tre_mosts tre_owners tre_sizes tre_firstRanges tre_rangeCounts tre_begins tre_ends tre_waiting H locs ls hP hD hS hl hf
    refine lv_aload_n hx hb d_RDR_addCharacter_36 rfl (lv_at hl 0 rfl) ?_
    refine va_get (D := (dC, dI)) (ci := 10) (v := .ref a_set) (C := R_RDR) (T := F_RDR) (N := N_RDR) hx hb hts i_RDR hown hK hP 2 rfl rfl 5 (by decide) (hts _ tw_390) (fun _ h9 => h9) rfl d_RDR_addCharacter_37 ?_
    obtain ⟨x40, hg, hf⟩ := bnd hf
    have hPc := hP.sub (ws' := (w_22 cI tS a_set a_set_begins a_set_ends set_pieces set_begins set_ends)) [0, 3, 4] rfl
    have hDc := hD.sub (ws' := (w_22 cI tS a_set a_set_begins a_set_ends set_pieces set_begins set_ends)) [0, 3, 4] (by decide) rfl
    have hFc := va_free (wc := (w_22 cI tS a_set a_set_begins a_set_ends set_pieces set_begins set_ends)) hD hS hA [0, 3, 4] rfl
    refine cal_i (va_runV (As := []) (rest := []) ⟨hx, hb, hml, hown, hts⟩ (c_SET_isOneCharacter l dC dI cI tS H.size a_set a_set_begins a_set_ends set_pieces set_begins set_ends x40 hg) ⟨callB_of 0 hts (gN tw_926) rfl rfl rfl (hts _ tw_86) (hts _ tw_923) hd_SET_isOneCharacter ⟨Nat.le_of_ble_eq_true rfl, Nat.le_of_ble_eq_true rfl⟩, hts _ tw_924, hts _ tw_925⟩ (pre_V hK hPc hDc hst0 hS hFc (va_recv hK hPc (ci := 2) (q0 := 0) rfl rfl)) rfl rfl hl.1 rfl (lv_room (Nat.le_of_ble_eq_true rfl)) d_RDR_addCharacter_40 ⟨Nat.zero_le _, Nat.zero_le _⟩) hP hD hS hA [0, 3, 4] [1, 2, 5, 6, 7, 8, 9, 10, 11, 12, 13, 14] rfl rfl (by decide) (by decide) (fun H locs hP hD hS => ?_)
    have hP := hP.sub (ws' := (w_31 cI tS a_set a_set_begins a_set_ends a_tre a_tre_kinds a_tre_values a_tre_mosts a_tre_owners a_tre_sizes a_tre_firstRanges a_tre_rangeCounts a_tre_begins a_tre_ends a_tre_waiting a_rdr a_pat a_mis a_grp a_opn a_esc a_cls a_opg a_rep set_pieces tre_nodes tre_ranges tre_waits rdr_place rdr_flags rdr_repeatable set_begins set_ends tre_kinds tre_values tre_mosts tre_owners tre_sizes tre_firstRanges tre_rangeCounts tre_begins tre_ends tre_waiting)) [12, 0, 1, 13, 14, 2, 3, 4, 5, 6, 7, 8, 9, 10, 11] rfl
    have hD := hD.sub (ws' := (w_31 cI tS a_set a_set_begins a_set_ends a_tre a_tre_kinds a_tre_values a_tre_mosts a_tre_owners a_tre_sizes a_tre_firstRanges a_tre_rangeCounts a_tre_begins a_tre_ends a_tre_waiting a_rdr a_pat a_mis a_grp a_opn a_esc a_cls a_opg a_rep set_pieces tre_nodes tre_ranges tre_waits rdr_place rdr_flags rdr_repeatable set_begins set_ends tre_kinds tre_values tre_mosts tre_owners tre_sizes tre_firstRanges tre_rangeCounts tre_begins tre_ends tre_waiting)) [12, 0, 1, 13, 14, 2, 3, 4, 5, 6, 7, 8, 9, 10, 11] (by decide) rfl
    refine lv_if_eq (tgt := 59) hx hb d_RDR_addCharacter_43 (by decide) (fun c_ => ?_) (fun c_ => ?_)
    · have hf := f_pos c_ hf
      refine lv_aload_n hx hb d_RDR_addCharacter_59 rfl (lv_at hl 0 rfl) ?_
      refine va_get (D := (dC, dI)) (ci := 10) (v := .ref a_tre) (C := R_RDR) (T := F_RDR) (N := N_RDR) hx hb hts i_RDR hown hK hP 2 rfl rfl 2 (by decide) (hts _ tw_387) (fun _ h9 => h9) rfl d_RDR_addCharacter_60 ?_
      refine lv_aload_n hx hb d_RDR_addCharacter_63 rfl (lv_at hl 0 rfl) ?_
      refine va_get (D := (dC, dI)) (ci := 10) (v := .ref a_set) (C := R_RDR) (T := F_RDR) (N := N_RDR) hx hb hts i_RDR hown hK hP 2 rfl rfl 5 (by decide) (hts _ tw_390) (fun _ h9 => h9) rfl d_RDR_addCharacter_64 ?_
      obtain ⟨x67, hg, hf⟩ := bnd hf
      have hPc := hP.sub (ws' := (w_29 cI tS a_set a_set_begins a_set_ends a_tre a_tre_kinds a_tre_values a_tre_mosts a_tre_owners a_tre_sizes a_tre_firstRanges a_tre_rangeCounts a_tre_begins a_tre_ends a_tre_waiting set_pieces tre_nodes tre_ranges tre_waits set_begins set_ends tre_kinds tre_values tre_mosts tre_owners tre_sizes tre_firstRanges tre_rangeCounts tre_begins tre_ends tre_waiting)) [0, 1, 3, 4, 5, 6, 7, 8, 9, 10, 11, 12, 13, 14] rfl
      have hDc := hD.sub (ws' := (w_29 cI tS a_set a_set_begins a_set_ends a_tre a_tre_kinds a_tre_values a_tre_mosts a_tre_owners a_tre_sizes a_tre_firstRanges a_tre_rangeCounts a_tre_begins a_tre_ends a_tre_waiting set_pieces tre_nodes tre_ranges tre_waits set_begins set_ends tre_kinds tre_values tre_mosts tre_owners tre_sizes tre_firstRanges tre_rangeCounts tre_begins tre_ends tre_waiting)) [0, 1, 3, 4, 5, 6, 7, 8, 9, 10, 11, 12, 13, 14] (by decide) rfl
      have hFc := va_free (wc := (w_29 cI tS a_set a_set_begins a_set_ends a_tre a_tre_kinds a_tre_values a_tre_mosts a_tre_owners a_tre_sizes a_tre_firstRanges a_tre_rangeCounts a_tre_begins a_tre_ends a_tre_waiting set_pieces tre_nodes tre_ranges tre_waits set_begins set_ends tre_kinds tre_values tre_mosts tre_owners tre_sizes tre_firstRanges tre_rangeCounts tre_begins tre_ends tre_waiting)) hD hS hA [0, 1, 3, 4, 5, 6, 7, 8, 9, 10, 11, 12, 13, 14] rfl
      refine cal_v (va_runV (As := [.ref a_set]) (rest := []) ⟨hx, hb, hml, hown, hts⟩ (c_TRE_addClass l dC dI cI tS H.size a_set a_set_begins a_set_ends a_tre a_tre_kinds a_tre_values a_tre_mosts a_tre_owners a_tre_sizes a_tre_firstRanges a_tre_rangeCounts a_tre_begins a_tre_ends a_tre_waiting set_pieces tre_nodes tre_ranges tre_waits set_begins set_ends tre_kinds tre_values tre_mosts tre_owners tre_sizes tre_firstRanges tre_rangeCounts tre_begins tre_ends tre_waiting x67 hg) ⟨callB_of 1 hts (gN tw_908) rfl rfl rfl (hts _ tw_82) (hts _ tw_905) hd_TRE_addClass ⟨Nat.le_of_ble_eq_true rfl, Nat.le_of_ble_eq_true rfl⟩, hts _ tw_906, hts _ tw_907⟩ (pre_V hK hPc hDc hst0 hS hFc (va_recv hK hPc (ci := 3) (q0 := 1) rfl rfl)) rfl rfl hl.1 rfl (lv_room (Nat.le_of_ble_eq_true rfl)) d_RDR_addCharacter_67 ⟨Nat.zero_le _, Nat.zero_le _⟩) hP hD hS hA [0, 1, 3, 4, 5, 6, 7, 8, 9, 10, 11, 12, 13, 14] [2] rfl rfl (by decide) (by decide) (fun H locs hP hD hS => ?_)
      have hP := hP.sub (ws' := (w_31 cI tS a_set a_set_begins a_set_ends a_tre a_tre_kinds a_tre_values a_tre_mosts a_tre_owners a_tre_sizes a_tre_firstRanges a_tre_rangeCounts a_tre_begins a_tre_ends a_tre_waiting a_rdr a_pat a_mis a_grp a_opn a_esc a_cls a_opg a_rep set_pieces x67.1 x67.2.1 x67.2.2.1 rdr_place rdr_flags rdr_repeatable set_begins set_ends x67.2.2.2.1 x67.2.2.2.2.1 x67.2.2.2.2.2.1 x67.2.2.2.2.2.2.1 x67.2.2.2.2.2.2.2.1 x67.2.2.2.2.2.2.2.2.1 x67.2.2.2.2.2.2.2.2.2.1 x67.2.2.2.2.2.2.2.2.2.2.1 x67.2.2.2.2.2.2.2.2.2.2.2.1 x67.2.2.2.2.2.2.2.2.2.2.2.2)) [1, 2, 0, 3, 4, 5, 6, 7, 8, 9, 10, 11, 12, 13, 14] rfl
      have hD := hD.sub (ws' := (w_31 cI tS a_set a_set_begins a_set_ends a_tre a_tre_kinds a_tre_values a_tre_mosts a_tre_owners a_tre_sizes a_tre_firstRanges a_tre_rangeCounts a_tre_begins a_tre_ends a_tre_waiting a_rdr a_pat a_mis a_grp a_opn a_esc a_cls a_opg a_rep set_pieces x67.1 x67.2.1 x67.2.2.1 rdr_place rdr_flags rdr_repeatable set_begins set_ends x67.2.2.2.1 x67.2.2.2.2.1 x67.2.2.2.2.2.1 x67.2.2.2.2.2.2.1 x67.2.2.2.2.2.2.2.1 x67.2.2.2.2.2.2.2.2.1 x67.2.2.2.2.2.2.2.2.2.1 x67.2.2.2.2.2.2.2.2.2.2.1 x67.2.2.2.2.2.2.2.2.2.2.2.1 x67.2.2.2.2.2.2.2.2.2.2.2.2)) [1, 2, 0, 3, 4, 5, 6, 7, 8, 9, 10, 11, 12, 13, 14] (by decide) rfl
      obtain rfl := Option.some.inj hf
      exact W.vret hx hb hr (fun t ht hW => ⟨⟨(), rfl, trivial, ⟨by rw [ht]; exact hP, va_K.moved hW.alike hK, hD⟩⟩, hS.F ht⟩) hS.2.2 d_RDR_addCharacter_70
    · have hf := f_neg c_ hf
      refine lv_aload_n hx hb d_RDR_addCharacter_46 rfl (lv_at hl 0 rfl) ?_
      refine va_get (D := (dC, dI)) (ci := 10) (v := .ref a_tre) (C := R_RDR) (T := F_RDR) (N := N_RDR) hx hb hts i_RDR hown hK hP 2 rfl rfl 2 (by decide) (hts _ tw_387) (fun _ h9 => h9) rfl d_RDR_addCharacter_47 ?_
      refine lv_iconst (v := 0) hx hb d_RDR_addCharacter_50 (by decide) ?_
      refine lv_iload_n hx hb d_RDR_addCharacter_51 rfl (lv_at hl 1 rfl) ?_
      refine lv_iconst (v := 1) hx hb d_RDR_addCharacter_52 (by decide) ?_
      obtain ⟨x53, hg, hf⟩ := bnd hf
      have hPc := hP.sub (ws' := (w_9 cI tS a_tre a_tre_kinds a_tre_values a_tre_mosts a_tre_owners a_tre_sizes a_tre_firstRanges a_tre_rangeCounts a_tre_begins a_tre_ends a_tre_waiting tre_nodes tre_ranges tre_waits tre_kinds tre_values tre_mosts tre_owners tre_sizes tre_firstRanges tre_rangeCounts tre_waiting)) [1, 5, 6, 7, 8, 9, 10, 11, 14] rfl
      have hDc := hD.sub (ws' := (w_9 cI tS a_tre a_tre_kinds a_tre_values a_tre_mosts a_tre_owners a_tre_sizes a_tre_firstRanges a_tre_rangeCounts a_tre_begins a_tre_ends a_tre_waiting tre_nodes tre_ranges tre_waits tre_kinds tre_values tre_mosts tre_owners tre_sizes tre_firstRanges tre_rangeCounts tre_waiting)) [1, 5, 6, 7, 8, 9, 10, 11, 14] (by decide) rfl
      have hFc := va_free (wc := (w_9 cI tS a_tre a_tre_kinds a_tre_values a_tre_mosts a_tre_owners a_tre_sizes a_tre_firstRanges a_tre_rangeCounts a_tre_begins a_tre_ends a_tre_waiting tre_nodes tre_ranges tre_waits tre_kinds tre_values tre_mosts tre_owners tre_sizes tre_firstRanges tre_rangeCounts tre_waiting)) hD hS hA [1, 5, 6, 7, 8, 9, 10, 11, 14] rfl
      refine cal_v (va_runV (As := [.int 0, .int p1, .int 1]) (rest := []) ⟨hx, hb, hml, hown, hts⟩ (c_TRE_addLeaf l dC dI cI tS H.size a_tre a_tre_kinds a_tre_values a_tre_mosts a_tre_owners a_tre_sizes a_tre_firstRanges a_tre_rangeCounts a_tre_begins a_tre_ends a_tre_waiting tre_nodes tre_ranges tre_waits tre_kinds tre_values tre_mosts tre_owners tre_sizes tre_firstRanges tre_rangeCounts tre_waiting 0 p1 1 x53 hg) ⟨callB_of 3 hts (gN tw_640) rfl rfl rfl (hts _ tw_82) (hts _ tw_637) hd_TRE_addLeaf ⟨Nat.le_of_ble_eq_true rfl, Nat.le_of_ble_eq_true rfl⟩, hts _ tw_638, hts _ tw_639⟩ (pre_V hK hPc hDc hst0 hS hFc (va_recv hK hPc (ci := 3) (q0 := 0) rfl rfl)) rfl rfl hl.1 rfl (lv_room (Nat.le_of_ble_eq_true rfl)) d_RDR_addCharacter_53 ⟨Nat.zero_le _, Nat.zero_le _⟩) hP hD hS hA [1, 5, 6, 7, 8, 9, 10, 11, 14] [0, 2, 3, 4, 12, 13] rfl rfl (by decide) (by decide) (fun H locs hP hD hS => ?_)
      have hP := hP.sub (ws' := (w_31 cI tS a_set a_set_begins a_set_ends a_tre a_tre_kinds a_tre_values a_tre_mosts a_tre_owners a_tre_sizes a_tre_firstRanges a_tre_rangeCounts a_tre_begins a_tre_ends a_tre_waiting a_rdr a_pat a_mis a_grp a_opn a_esc a_cls a_opg a_rep set_pieces x53.1 tre_ranges x53.2.1 rdr_place rdr_flags rdr_repeatable set_begins set_ends x53.2.2.1 x53.2.2.2.1 x53.2.2.2.2.1 x53.2.2.2.2.2.1 x53.2.2.2.2.2.2.1 x53.2.2.2.2.2.2.2.1 x53.2.2.2.2.2.2.2.2.1 tre_begins tre_ends x53.2.2.2.2.2.2.2.2.2)) [0, 6, 1, 2, 3, 7, 8, 9, 10, 11, 12, 13, 4, 5, 14] rfl
      have hD := hD.sub (ws' := (w_31 cI tS a_set a_set_begins a_set_ends a_tre a_tre_kinds a_tre_values a_tre_mosts a_tre_owners a_tre_sizes a_tre_firstRanges a_tre_rangeCounts a_tre_begins a_tre_ends a_tre_waiting a_rdr a_pat a_mis a_grp a_opn a_esc a_cls a_opg a_rep set_pieces x53.1 tre_ranges x53.2.1 rdr_place rdr_flags rdr_repeatable set_begins set_ends x53.2.2.1 x53.2.2.2.1 x53.2.2.2.2.1 x53.2.2.2.2.2.1 x53.2.2.2.2.2.2.1 x53.2.2.2.2.2.2.2.1 x53.2.2.2.2.2.2.2.2.1 tre_begins tre_ends x53.2.2.2.2.2.2.2.2.2)) [0, 6, 1, 2, 3, 7, 8, 9, 10, 11, 12, 13, 4, 5, 14] (by decide) rfl
      refine lv_goto (tgt := 70) hx hb d_RDR_addCharacter_56 (by decide) ?_
      obtain rfl := Option.some.inj hf
      exact W.vret hx hb hr (fun t ht hW => ⟨⟨(), rfl, trivial, ⟨by rw [ht]; exact hP, va_K.moved hW.alike hK, hD⟩⟩, hS.F ht⟩) hS.2.2 d_RDR_addCharacter_70
  refine lv_aload_n hx hb d_RDR_addCharacter_0 rfl (lv_at hl 0 rfl) ?_
  refine va_get (D := (dC, dI)) (ci := 10) (v := .ref a_set) (C := R_RDR) (T := F_RDR) (N := N_RDR) hx hb hts i_RDR hown hK hP 2 rfl rfl 5 (by decide) (hts _ tw_390) (fun _ h9 => h9) rfl d_RDR_addCharacter_1 ?_
  obtain ⟨x4, hg, hf⟩ := bnd hf
  have hPc := hP.sub (ws' := (w_21 cI tS a_set a_set_begins a_set_ends set_pieces)) [0] rfl
  have hDc := hD.sub (ws' := (w_21 cI tS a_set a_set_begins a_set_ends set_pieces)) [0] (by decide) rfl
  have hFc := va_free (wc := (w_21 cI tS a_set a_set_begins a_set_ends set_pieces)) hD hS hA [0] rfl
  refine cal_v (va_runV (As := []) (rest := []) ⟨hx, hb, hml, hown, hts⟩ (c_SET_clear l dC dI cI tS s.heap.size a_set a_set_begins a_set_ends set_pieces x4 hg) ⟨callB_of 0 hts (gN tw_697) rfl rfl rfl (hts _ tw_86) (hts _ tw_920) hd_SET_clear ⟨Nat.le_of_ble_eq_true rfl, Nat.le_of_ble_eq_true rfl⟩, hts _ tw_695, hts _ tw_696⟩ (pre_V hK hPc hDc hst0 hS hFc (va_recv hK hPc (ci := 2) (q0 := 0) rfl rfl)) rfl rfl hl.1 rfl (lv_room (Nat.le_of_ble_eq_true rfl)) d_RDR_addCharacter_4 ⟨Nat.zero_le _, Nat.zero_le _⟩) hP hD hS hA [0] [1, 2, 3, 4, 5, 6, 7, 8, 9, 10, 11, 12, 13, 14] rfl rfl (by decide) (by decide) (fun H locs hP hD hS => ?_)
  have hP := hP.sub (ws' := (w_31 cI tS a_set a_set_begins a_set_ends a_tre a_tre_kinds a_tre_values a_tre_mosts a_tre_owners a_tre_sizes a_tre_firstRanges a_tre_rangeCounts a_tre_begins a_tre_ends a_tre_waiting a_rdr a_pat a_mis a_grp a_opn a_esc a_cls a_opg a_rep x4 tre_nodes tre_ranges tre_waits rdr_place rdr_flags rdr_repeatable set_begins set_ends tre_kinds tre_values tre_mosts tre_owners tre_sizes tre_firstRanges tre_rangeCounts tre_begins tre_ends tre_waiting)) [14, 0, 1, 2, 3, 4, 5, 6, 7, 8, 9, 10, 11, 12, 13] rfl
  have hD := hD.sub (ws' := (w_31 cI tS a_set a_set_begins a_set_ends a_tre a_tre_kinds a_tre_values a_tre_mosts a_tre_owners a_tre_sizes a_tre_firstRanges a_tre_rangeCounts a_tre_begins a_tre_ends a_tre_waiting a_rdr a_pat a_mis a_grp a_opn a_esc a_cls a_opg a_rep x4 tre_nodes tre_ranges tre_waits rdr_place rdr_flags rdr_repeatable set_begins set_ends tre_kinds tre_values tre_mosts tre_owners tre_sizes tre_firstRanges tre_rangeCounts tre_begins tre_ends tre_waiting)) [14, 0, 1, 2, 3, 4, 5, 6, 7, 8, 9, 10, 11, 12, 13] (by decide) rfl
  refine lv_aload_n hx hb d_RDR_addCharacter_7 rfl (lv_at hl 0 rfl) ?_
  refine lv_iconst (v := 1) hx hb d_RDR_addCharacter_8 (by decide) ?_
  obtain ⟨x9, hg, hf⟩ := bnd hf
  have hPc := hP.sub (ws' := (w_20 cI tS a_rdr a_pat a_mis a_tre a_grp a_opn a_set a_esc a_cls a_opg a_rep rdr_place rdr_flags rdr_repeatable)) [2] rfl
  have hDc := hD.sub (ws' := (w_20 cI tS a_rdr a_pat a_mis a_tre a_grp a_opn a_set a_esc a_cls a_opg a_rep rdr_place rdr_flags rdr_repeatable)) [2] (by decide) rfl
  have hFc := va_free (wc := (w_20 cI tS a_rdr a_pat a_mis a_tre a_grp a_opn a_set a_esc a_cls a_opg a_rep rdr_place rdr_flags rdr_repeatable)) hD hS hA [2] rfl
  refine cal_i (va_runV (As := [.int 1]) (rest := []) ⟨hx, hb, hml, hown, hts⟩ (c_RDR_isOn l dC dI cI tS H.size a_rdr a_pat a_mis a_tre a_grp a_opn a_set a_esc a_cls a_opg a_rep rdr_place rdr_flags rdr_repeatable 1 x9 hg) ⟨callB_of 1 hts (gN tw_688) rfl rfl rfl (hts _ tw_84) (hts _ tw_685) hd_RDR_isOn ⟨Nat.le_of_ble_eq_true rfl, Nat.le_of_ble_eq_true rfl⟩, hts _ tw_687, hts _ tw_11⟩ (pre_V hK hPc hDc hst0 hS hFc (va_recv hK hPc (ci := 10) (q0 := 0) rfl rfl)) rfl rfl hl.1 rfl (lv_room (Nat.le_of_ble_eq_true rfl)) d_RDR_addCharacter_9 ⟨Nat.zero_le _, Nat.zero_le _⟩) hP hD hS hA [2] [0, 1, 3, 4, 5, 6, 7, 8, 9, 10, 11, 12, 13, 14] rfl rfl (by decide) (by decide) (fun H locs hP hD hS => ?_)
  have hP := hP.sub (ws' := (w_31 cI tS a_set a_set_begins a_set_ends a_tre a_tre_kinds a_tre_values a_tre_mosts a_tre_owners a_tre_sizes a_tre_firstRanges a_tre_rangeCounts a_tre_begins a_tre_ends a_tre_waiting a_rdr a_pat a_mis a_grp a_opn a_esc a_cls a_opg a_rep x4 tre_nodes tre_ranges tre_waits rdr_place rdr_flags rdr_repeatable set_begins set_ends tre_kinds tre_values tre_mosts tre_owners tre_sizes tre_firstRanges tre_rangeCounts tre_begins tre_ends tre_waiting)) [0, 1, 14, 2, 3, 4, 5, 6, 7, 8, 9, 10, 11, 12, 13] rfl
  have hD := hD.sub (ws' := (w_31 cI tS a_set a_set_begins a_set_ends a_tre a_tre_kinds a_tre_values a_tre_mosts a_tre_owners a_tre_sizes a_tre_firstRanges a_tre_rangeCounts a_tre_begins a_tre_ends a_tre_waiting a_rdr a_pat a_mis a_grp a_opn a_esc a_cls a_opg a_rep x4 tre_nodes tre_ranges tre_waits rdr_place rdr_flags rdr_repeatable set_begins set_ends tre_kinds tre_values tre_mosts tre_owners tre_sizes tre_firstRanges tre_rangeCounts tre_begins tre_ends tre_waiting)) [0, 1, 14, 2, 3, 4, 5, 6, 7, 8, 9, 10, 11, 12, 13] (by decide) rfl
  refine lv_if_eq (tgt := 27) hx hb d_RDR_addCharacter_12 (by decide) (fun c_ => ?_) (fun c_ => ?_)
  · have hf := f_pos c_ hf
    refine lv_aload_n hx hb d_RDR_addCharacter_27 rfl (lv_at hl 0 rfl) ?_
    refine va_get (D := (dC, dI)) (ci := 10) (v := .ref a_set) (C := R_RDR) (T := F_RDR) (N := N_RDR) hx hb hts i_RDR hown hK hP 2 rfl rfl 5 (by decide) (hts _ tw_390) (fun _ h9 => h9) rfl d_RDR_addCharacter_28 ?_
    refine lv_iload_n hx hb d_RDR_addCharacter_31 rfl (lv_at hl 1 rfl) ?_
    refine lv_iload_n hx hb d_RDR_addCharacter_32 rfl (lv_at hl 1 rfl) ?_
    obtain ⟨x33, hg, hf⟩ := bnd hf
    have hPc := hP.sub (ws' := (w_22 cI tS a_set a_set_begins a_set_ends x4 set_begins set_ends)) [0, 3, 4] rfl
    have hDc := hD.sub (ws' := (w_22 cI tS a_set a_set_begins a_set_ends x4 set_begins set_ends)) [0, 3, 4] (by decide) rfl
    have hFc := va_free (wc := (w_22 cI tS a_set a_set_begins a_set_ends x4 set_begins set_ends)) hD hS hA [0, 3, 4] rfl
    refine cal_v (va_runV (As := [.int p1, .int p1]) (rest := []) ⟨hx, hb, hml, hown, hts⟩ (c_SET_add l dC dI cI tS H.size a_set a_set_begins a_set_ends x4 set_begins set_ends p1 p1 x33 hg) ⟨callB_of 2 hts (gN tw_712) rfl rfl rfl (hts _ tw_86) (hts _ tw_922) hd_SET_add ⟨Nat.le_of_ble_eq_true rfl, Nat.le_of_ble_eq_true rfl⟩, hts _ tw_710, hts _ tw_711⟩ (pre_V hK hPc hDc hst0 hS hFc (va_recv hK hPc (ci := 2) (q0 := 0) rfl rfl)) rfl rfl hl.1 rfl (lv_room (Nat.le_of_ble_eq_true rfl)) d_RDR_addCharacter_33 ⟨Nat.zero_le _, Nat.zero_le _⟩) hP hD hS hA [0, 3, 4] [1, 2, 5, 6, 7, 8, 9, 10, 11, 12, 13, 14] rfl rfl (by decide) (by decide) (fun H locs hP hD hS => ?_)
    have hP := hP.sub (ws' := (w_31 cI tS a_set a_set_begins a_set_ends a_tre a_tre_kinds a_tre_values a_tre_mosts a_tre_owners a_tre_sizes a_tre_firstRanges a_tre_rangeCounts a_tre_begins a_tre_ends a_tre_waiting a_rdr a_pat a_mis a_grp a_opn a_esc a_cls a_opg a_rep x33.1 tre_nodes tre_ranges tre_waits rdr_place rdr_flags rdr_repeatable x33.2.1 x33.2.2 tre_kinds tre_values tre_mosts tre_owners tre_sizes tre_firstRanges tre_rangeCounts tre_begins tre_ends tre_waiting)) [12, 0, 1, 13, 14, 2, 3, 4, 5, 6, 7, 8, 9, 10, 11] rfl
    have hD := hD.sub (ws' := (w_31 cI tS a_set a_set_begins a_set_ends a_tre a_tre_kinds a_tre_values a_tre_mosts a_tre_owners a_tre_sizes a_tre_firstRanges a_tre_rangeCounts a_tre_begins a_tre_ends a_tre_waiting a_rdr a_pat a_mis a_grp a_opn a_esc a_cls a_opg a_rep x33.1 tre_nodes tre_ranges tre_waits rdr_place rdr_flags rdr_repeatable x33.2.1 x33.2.2 tre_kinds tre_values tre_mosts tre_owners tre_sizes tre_firstRanges tre_rangeCounts tre_begins tre_ends tre_waiting)) [12, 0, 1, 13, 14, 2, 3, 4, 5, 6, 7, 8, 9, 10, 11] (by decide) rfl
    exact L36 x33.1 tre_nodes tre_ranges tre_waits x33.2.1 x33.2.2 tre_kinds tre_values tre_mosts tre_owners tre_sizes tre_firstRanges tre_rangeCounts tre_begins tre_ends tre_waiting _ _ _ hP hD hS (lv_sub hl [0, 1] rfl) hf
  · have hf := f_neg c_ hf
    refine lv_aload_n hx hb d_RDR_addCharacter_15 rfl (lv_at hl 0 rfl) ?_
    refine va_get (D := (dC, dI)) (ci := 10) (v := .ref a_set) (C := R_RDR) (T := F_RDR) (N := N_RDR) hx hb hts i_RDR hown hK hP 2 rfl rfl 5 (by decide) (hts _ tw_390) (fun _ h9 => h9) rfl d_RDR_addCharacter_16 ?_
    refine lv_iload_n hx hb d_RDR_addCharacter_19 rfl (lv_at hl 1 rfl) ?_
    refine lv_iload_n hx hb d_RDR_addCharacter_20 rfl (lv_at hl 1 rfl) ?_
    obtain ⟨x21, hg, hf⟩ := bnd hf
    have hPc := hP.sub (ws' := (w_22 cI tS a_set a_set_begins a_set_ends x4 set_begins set_ends)) [0, 3, 4] rfl
    have hDc := hD.sub (ws' := (w_22 cI tS a_set a_set_begins a_set_ends x4 set_begins set_ends)) [0, 3, 4] (by decide) rfl
    have hFc := va_free (wc := (w_22 cI tS a_set a_set_begins a_set_ends x4 set_begins set_ends)) hD hS hA [0, 3, 4] rfl
    refine cal_v (va_runV (As := [.int p1, .int p1]) (rest := []) ⟨hx, hb, hml, hown, hts⟩ (c_SET_addWithAlike l dC dI cI tS H.size a_set a_set_begins a_set_ends x4 set_begins set_ends p1 p1 x21 hg) ⟨callB_of 2 hts (gN tw_887) rfl rfl rfl (hts _ tw_86) (hts _ tw_921) hd_SET_addWithAlike ⟨Nat.le_of_ble_eq_true rfl, Nat.le_of_ble_eq_true rfl⟩, hts _ tw_885, hts _ tw_886⟩ (pre_V hK hPc hDc hst0 hS hFc (va_recv hK hPc (ci := 2) (q0 := 0) rfl rfl)) rfl rfl hl.1 rfl (lv_room (Nat.le_of_ble_eq_true rfl)) d_RDR_addCharacter_21 ⟨Nat.zero_le _, Nat.zero_le _⟩) hP hD hS hA [0, 3, 4] [1, 2, 5, 6, 7, 8, 9, 10, 11, 12, 13, 14] rfl rfl (by decide) (by decide) (fun H locs hP hD hS => ?_)
    have hP := hP.sub (ws' := (w_31 cI tS a_set a_set_begins a_set_ends a_tre a_tre_kinds a_tre_values a_tre_mosts a_tre_owners a_tre_sizes a_tre_firstRanges a_tre_rangeCounts a_tre_begins a_tre_ends a_tre_waiting a_rdr a_pat a_mis a_grp a_opn a_esc a_cls a_opg a_rep x21.1 tre_nodes tre_ranges tre_waits rdr_place rdr_flags rdr_repeatable x21.2.1 x21.2.2 tre_kinds tre_values tre_mosts tre_owners tre_sizes tre_firstRanges tre_rangeCounts tre_begins tre_ends tre_waiting)) [12, 0, 1, 13, 14, 2, 3, 4, 5, 6, 7, 8, 9, 10, 11] rfl
    have hD := hD.sub (ws' := (w_31 cI tS a_set a_set_begins a_set_ends a_tre a_tre_kinds a_tre_values a_tre_mosts a_tre_owners a_tre_sizes a_tre_firstRanges a_tre_rangeCounts a_tre_begins a_tre_ends a_tre_waiting a_rdr a_pat a_mis a_grp a_opn a_esc a_cls a_opg a_rep x21.1 tre_nodes tre_ranges tre_waits rdr_place rdr_flags rdr_repeatable x21.2.1 x21.2.2 tre_kinds tre_values tre_mosts tre_owners tre_sizes tre_firstRanges tre_rangeCounts tre_begins tre_ends tre_waiting)) [12, 0, 1, 13, 14, 2, 3, 4, 5, 6, 7, 8, 9, 10, 11] (by decide) rfl
    refine lv_goto (tgt := 36) hx hb d_RDR_addCharacter_24 (by decide) ?_
    exact L36 x21.1 tre_nodes tre_ranges tre_waits x21.2.1 x21.2.2 tre_kinds tre_values tre_mosts tre_owners tre_sizes tre_firstRanges tre_rangeCounts tre_begins tre_ends tre_waiting _ _ _ hP hD hS (lv_sub hl [0, 1] rfl) hf
