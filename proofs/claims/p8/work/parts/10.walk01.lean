def f_OPG_flagOf (p0 : Int32) : Option Int32 :=
  if p0 = 85 then some 8 else (if p0 = 105 then some 1 else (if p0 = 109 then some 2 else (if p0 = 115 then some 4 else some 0)))
set_option maxRecDepth 100000 in
set_option maxHeartbeats 4000000 in
theorem c_OPG_flagOf (l : Launch) (dC : Nat → ClassId) (dI : Nat → Nat → Nat) (cI : ClassId) (tS : Nat → Nat → Nat) (sz : Nat) (p0 : Int32) (R0 : Int32) (hf : f_OPG_flagOf p0 = some R0) : Met l y_OPG_flagOf ws_OPG_flagOf ({ frames := 0, cells := 0, slots := 0, locals := 0 }) (va_Pc [.int p0] (preS (dC, dI) classes [(cI, .int)] tS (w_11 cI tS) sz)) (va_Qi (fun r (_ : Unit) => r = R0) (fun _ t => posS (dC, dI) classes [(cI, .int)] (w_11 cI tS) (va_A (w_11 cI tS) sz) t) (va_A (w_11 cI tS) sz)) 0 0 (va_A (w_11 cI tS) sz) := by
  refine Met.ofW (cc := b_OPG_flagOf) (maxL := 1) (ret := (some .int)) (by decide) rfl ?_
  intro p e s m args below meth c s₁ B hml hv
  obtain ⟨rfl, hsz, hP, hK, hD0, hst0⟩ := hv
  have hx := B.exec
  have hb := B.bytes
  have hr := B.returns
  have hts0 := atoms_spec (ws := ws_OPG_flagOf) B.pre
  have hts : ∀ w ∈ GW, w.before _ s = true := fun w h => hts0 w (List.mem_cons_of_mem _ h)
  have hown : s.vm.findClass R_OPG = some m.cls := findClass_of_methodNamed B.named
  have hlocks := B.notSynchronized
  subst hsz
  have hD := hD0.self (sz := s.heap.size)
  generalize hAe : va_A (w_11 cI tS) s.heap.size = A at hD hst0 ⊢
  have hA : ∀ q : Nat, s.heap.size ≤ q → A q := fun q h => by rw [← hAe]; exact Or.inr h
  have hS : va_S A s.heap s.heap [] := va_S.rf
  have hl := lv_entry ([.int p0]) (n := 1) (Nat.le_of_ble_eq_true rfl)
  rw [lg_entry_eq]
  generalize (lg_sl ([.int p0]) ++ List.replicate (1 - (lg_sl ([.int p0])).length) Slot.unset).toArray = ls at hl ⊢
  have hl : lv_has ls 1 [(0, .int p0)] := hl
  refine lv_iload_n hx hb d_OPG_flagOf_0 rfl (lv_at hl 0 rfl) ?_
  rcases Classical.em (p0 = 85) with c_ | n_0
  · have hf := f_pos c_ hf
    refine lv_lookup (off := 49) (tgt := 50) hx hb d_OPG_flagOf_1 (by decide) (by rw [c_]; try decide) (by decide) ?_
    refine lv_bipush (v := 8) hx hb d_OPG_flagOf_50 (by decide) ?_
    obtain rfl := Option.some.inj hf
    exact W.iret (v := 8) hx hb hr (fun t ht hW => ⟨⟨_, (), rfl, rfl, ⟨by rw [ht]; exact hP, va_K.moved hW.alike hK, hD⟩⟩, hS.F ht⟩) hS.2.2 d_OPG_flagOf_52
  have hf := f_neg n_0 hf
  rcases Classical.em (p0 = 105) with c_ | n_1
  · have hf := f_pos c_ hf
    refine lv_lookup (off := 43) (tgt := 44) hx hb d_OPG_flagOf_1 (by decide) (by rw [c_]; try decide) (by decide) ?_
    refine lv_iconst (v := 1) hx hb d_OPG_flagOf_44 (by decide) ?_
    obtain rfl := Option.some.inj hf
    exact W.iret (v := 1) hx hb hr (fun t ht hW => ⟨⟨_, (), rfl, rfl, ⟨by rw [ht]; exact hP, va_K.moved hW.alike hK, hD⟩⟩, hS.F ht⟩) hS.2.2 d_OPG_flagOf_45
  have hf := f_neg n_1 hf
  rcases Classical.em (p0 = 109) with c_ | n_2
  · have hf := f_pos c_ hf
    refine lv_lookup (off := 45) (tgt := 46) hx hb d_OPG_flagOf_1 (by decide) (by rw [c_]; try decide) (by decide) ?_
    refine lv_iconst (v := 2) hx hb d_OPG_flagOf_46 (by decide) ?_
    obtain rfl := Option.some.inj hf
    exact W.iret (v := 2) hx hb hr (fun t ht hW => ⟨⟨_, (), rfl, rfl, ⟨by rw [ht]; exact hP, va_K.moved hW.alike hK, hD⟩⟩, hS.F ht⟩) hS.2.2 d_OPG_flagOf_47
  have hf := f_neg n_2 hf
  rcases Classical.em (p0 = 115) with c_ | n_3
  · have hf := f_pos c_ hf
    refine lv_lookup (off := 47) (tgt := 48) hx hb d_OPG_flagOf_1 (by decide) (by rw [c_]; try decide) (by decide) ?_
    refine lv_iconst (v := 4) hx hb d_OPG_flagOf_48 (by decide) ?_
    obtain rfl := Option.some.inj hf
    exact W.iret (v := 4) hx hb hr (fun t ht hW => ⟨⟨_, (), rfl, rfl, ⟨by rw [ht]; exact hP, va_K.moved hW.alike hK, hD⟩⟩, hS.F ht⟩) hS.2.2 d_OPG_flagOf_49
  have hf := f_neg n_3 hf
  refine lv_lookup (off := 52) (tgt := 53) hx hb d_OPG_flagOf_1 (by decide) ((lv_osw n_0 (k := 85) rfl).trans ((lv_osw n_1 (k := 105) rfl).trans ((lv_osw n_2 (k := 109) rfl).trans ((lv_osw n_3 (k := 115) rfl).trans rfl)))) (by decide) ?_
  refine lv_iconst (v := 0) hx hb d_OPG_flagOf_53 (by decide) ?_
  obtain rfl := Option.some.inj hf
  exact W.iret (v := 0) hx hb hr (fun t ht hW => ⟨⟨_, (), rfl, rfl, ⟨by rw [ht]; exact hP, va_K.moved hW.alike hK, hD⟩⟩, hS.F ht⟩) hS.2.2 d_OPG_flagOf_54
def f_OPG_takeFlags_B4 (pat_length : Int32) (pat_bytes : Nat → Int32) (K4 : (Int32 × Int32 × Int32) → Option (Int32 × Int32)) (v1 : Int32) (v2 : Int32) (opg_after : Int32) : Option (Int32 × Int32) :=
  if 400 ≤ v2 then some (v1, opg_after) else bnd_ (f_PAT_at pat_length pat_bytes opg_after) (fun x19 => bnd_ (f_OPG_flagOf x19) (fun x22 => if x22 = 0 then some (v1, opg_after) else K4 (v1 ||| x22, v2 + 1, opg_after + 1)))
def f_OPG_takeFlags_L4 (pat_length : Int32) (pat_bytes : Nat → Int32) (n : Nat) (a : Int32 × Int32 × Int32) : Option (Int32 × Int32) :=
  lpF (fun K4 v => f_OPG_takeFlags_B4 pat_length pat_bytes  K4 v.1 v.2.1 v.2.2) n a
def f_OPG_takeFlags (pat_length : Int32) (opg_after : Int32) (pat_bytes : Nat → Int32) : Option (Int32 × Int32) :=
  f_OPG_takeFlags_L4 pat_length pat_bytes FU (0, 0, opg_after)
set_option maxRecDepth 100000 in
set_option maxHeartbeats 4000000 in
theorem c_OPG_takeFlags (l : Launch) (dC : Nat → ClassId) (dI : Nat → Nat → Nat) (cI : ClassId) (tS : Nat → Nat → Nat) (sz : Nat) (a_pat a_pat_bytes a_opg : Nat) (pat_length : Int32) (opg_numbered : Bool) (opg_flagsAlone : Bool) (opg_nameAt : Int32) (opg_nameLength : Int32) (opg_flags : Int32) (opg_after : Int32) (pat_bytes : Nat → Int32) (R0 : Int32 × Int32) (hf : f_OPG_takeFlags pat_length opg_after pat_bytes = some R0) : Met l y_OPG_takeFlags ws_OPG_takeFlags ({ frames := 1, cells := 0, slots := 0, locals := 21 }) (va_Pc [.ref a_opg] (preS (dC, dI) classes [(cI, .int)] tS (w_12 cI tS a_pat a_pat_bytes a_opg pat_length opg_numbered opg_flagsAlone opg_nameAt opg_nameLength opg_flags opg_after pat_bytes) sz)) (va_Qi (fun r (_ : Unit) => r = R0.1) (fun _ t => posS (dC, dI) classes [(cI, .int)] (w_12 cI tS a_pat a_pat_bytes a_opg pat_length opg_numbered opg_flagsAlone opg_nameAt opg_nameLength opg_flags R0.2 pat_bytes) (va_A (w_12 cI tS a_pat a_pat_bytes a_opg pat_length opg_numbered opg_flagsAlone opg_nameAt opg_nameLength opg_flags opg_after pat_bytes) sz) t) (va_A (w_12 cI tS a_pat a_pat_bytes a_opg pat_length opg_numbered opg_flagsAlone opg_nameAt opg_nameLength opg_flags opg_after pat_bytes) sz)) 0 0 (va_A (w_12 cI tS a_pat a_pat_bytes a_opg pat_length opg_numbered opg_flagsAlone opg_nameAt opg_nameLength opg_flags opg_after pat_bytes) sz) := by
  refine Met.ofW (cc := b_OPG_takeFlags) (maxL := 4) (ret := (some .int)) (by decide) rfl ?_
  intro p e s m args below meth c s₁ B hml hv
  obtain ⟨rfl, hsz, hP, hK, hD0, hst0⟩ := hv
  have hx := B.exec
  have hb := B.bytes
  have hr := B.returns
  have hts0 := atoms_spec (ws := ws_OPG_takeFlags) B.pre
  have hts : ∀ w ∈ GW, w.before _ s = true := fun w h => hts0 w (List.mem_cons_of_mem _ h)
  have hown : s.vm.findClass R_OPG = some m.cls := findClass_of_methodNamed B.named
  have hlocks := B.notSynchronized
  subst hsz
  have hD := hD0.self (sz := s.heap.size)
  generalize hAe : va_A (w_12 cI tS a_pat a_pat_bytes a_opg pat_length opg_numbered opg_flagsAlone opg_nameAt opg_nameLength opg_flags opg_after pat_bytes) s.heap.size = A at hD hst0 ⊢
  have hA : ∀ q : Nat, s.heap.size ≤ q → A q := fun q h => by rw [← hAe]; exact Or.inr h
  have hS : va_S A s.heap s.heap [] := va_S.rf
  have hl := lv_entry ([.ref a_opg]) (n := 4) (Nat.le_of_ble_eq_true rfl)
  rw [lg_entry_eq]
  generalize (lg_sl ([.ref a_opg]) ++ List.replicate (4 - (lg_sl ([.ref a_opg])).length) Slot.unset).toArray = ls at hl ⊢
  have hl : lv_has ls 4 [(0, .ref a_opg)] := hl
  have L4 : ∀ n4 : Nat, ∀ (v1 : Int32) (v2 : Int32) (opg_after : Int32) (H : Heap) (locs : List Loc) (ls : Array Slot), va_P (dC, dI) classes (w_12 cI tS a_pat a_pat_bytes a_opg pat_length opg_numbered opg_flagsAlone opg_nameAt opg_nameLength opg_flags opg_after pat_bytes) H → va_D A (w_12 cI tS a_pat a_pat_bytes a_opg pat_length opg_numbered opg_flagsAlone opg_nameAt opg_nameLength opg_flags opg_after pat_bytes) → va_S A s.heap H locs → lv_has ls 4 [(0, .ref a_opg), (1, .int v1), (2, .int v2)] → f_OPG_takeFlags_L4 pat_length pat_bytes n4 (v1, v2, opg_after) = some R0 → W p l e (headSpec ws_OPG_takeFlags ({ frames := 1, cells := 0, slots := 0, locals := 21 })).room s m ([.ref a_opg] : List Value).toArray below meth c H locs 0 0 (MQ below (va_Qi (fun r (_ : Unit) => r = R0.1) (fun _ t => posS (dC, dI) classes [(cI, .int)] (w_12 cI tS a_pat a_pat_bytes a_opg pat_length opg_numbered opg_flagsAlone opg_nameAt opg_nameLength opg_flags R0.2 pat_bytes) (A) t) (A)) ([.ref a_opg] : List Value).toArray s 0 0 A) (F0 m 4 ls []) := by
    intro n4
    induction n4 with
    | zero =>
      intro v1 v2 opg_after H locs ls hP hD hS hl hf
      exact absurd (show (none : Option _) = some R0 from hf) (fun h => by cases h)
    | succ n4 ih4 =>
      intro v1 v2 opg_after H locs ls hP hD hS hl hf
      have hf : f_OPG_takeFlags_B4 pat_length pat_bytes (f_OPG_takeFlags_L4 pat_length pat_bytes n4) v1 v2 opg_after = some R0 := hf
      refine lv_iload_n hx hb d_OPG_takeFlags_4 rfl (lv_at hl 2 rfl) ?_
      refine lv_sipush (v := 400) hx hb d_OPG_takeFlags_5 (by decide) ?_
      refine lv_icmp_ge (tgt := 53) hx hb d_OPG_takeFlags_8 (by decide) (fun c_ => ?_) (fun c_ => ?_)
      · have hf := f_pos c_ hf
        refine lv_iload_n hx hb d_OPG_takeFlags_53 rfl (lv_at hl 1 rfl) ?_
        obtain rfl := Option.some.inj hf
        exact W.iret (v := v1) hx hb hr (fun t ht hW => ⟨⟨_, (), rfl, rfl, ⟨by rw [ht]; exact hP, va_K.moved hW.alike hK, hD⟩⟩, hS.F ht⟩) hS.2.2 d_OPG_takeFlags_54
      · have hf := f_neg c_ hf
        refine lv_aload_n hx hb d_OPG_takeFlags_11 rfl (lv_at hl 0 rfl) ?_
        refine va_get (D := (dC, dI)) (ci := 8) (v := .ref a_pat) (C := R_OPG) (T := F_OPG) (N := N_OPG) hx hb hts i_OPG hown hK hP 1 rfl rfl 0 (by decide) (hts _ tw_328) (fun _ h9 => h9) rfl d_OPG_takeFlags_12 ?_
        refine lv_aload_n hx hb d_OPG_takeFlags_15 rfl (lv_at hl 0 rfl) ?_
        refine va_get (D := (dC, dI)) (ci := 8) (v := .int opg_after) (C := R_OPG) (T := F_OPG) (N := N_OPG) hx hb hts i_OPG hown hK hP 1 rfl rfl 6 (by decide) (hts _ tw_339) (fun _ h9 => h9) rfl d_OPG_takeFlags_16 ?_
        obtain ⟨x19, hg, hf⟩ := bnd hf
        have hPc := hP.sub (ws' := (w_0 cI tS a_pat a_pat_bytes pat_length pat_bytes)) [0, 2] rfl
        have hDc := hD.sub (ws' := (w_0 cI tS a_pat a_pat_bytes pat_length pat_bytes)) [0, 2] (by decide) rfl
        have hFc := va_free (wc := (w_0 cI tS a_pat a_pat_bytes pat_length pat_bytes)) hD hS hA [0, 2] rfl
        refine cal_i (va_runV (As := [.int opg_after]) (rest := []) ⟨hx, hb, hml, hown, hts⟩ (c_PAT_at l dC dI cI tS H.size a_pat a_pat_bytes pat_length pat_bytes opg_after x19 hg) ⟨callB_of 1 hts (gN tw_586) rfl rfl rfl (hts _ tw_80) (hts _ tw_611) hd_PAT_at ⟨Nat.le_of_ble_eq_true rfl, Nat.le_of_ble_eq_true rfl⟩, hts _ tw_584, hts _ tw_585⟩ (pre_V hK hPc hDc hst0 hS hFc (va_recv hK hPc (ci := 0) (q0 := 0) rfl rfl)) rfl rfl hl.1 rfl (lv_room (Nat.le_of_ble_eq_true rfl)) d_OPG_takeFlags_19 ⟨Nat.zero_le _, Nat.zero_le _⟩) hP hD hS hA [0, 2] [1] rfl rfl (by decide) (by decide) (fun H locs hP hD hS => ?_)
        have hP := hP.sub (ws' := (w_12 cI tS a_pat a_pat_bytes a_opg pat_length opg_numbered opg_flagsAlone opg_nameAt opg_nameLength opg_flags opg_after pat_bytes)) [1, 0, 2] rfl
        have hD := hD.sub (ws' := (w_12 cI tS a_pat a_pat_bytes a_opg pat_length opg_numbered opg_flagsAlone opg_nameAt opg_nameLength opg_flags opg_after pat_bytes)) [1, 0, 2] (by decide) rfl
        obtain ⟨x22, hg, hf⟩ := bnd hf
        have hPc := hP.sub (ws' := (w_11 cI tS)) [] rfl
        have hDc := hD.sub (ws' := (w_11 cI tS)) [] (by decide) rfl
        have hFc := va_free (wc := (w_11 cI tS)) hD hS hA [] rfl
        refine cal_i (va_runS (As := [.int x19]) (rest := []) ⟨hx, hb, hml, hown, hts⟩ (c_OPG_flagOf l dC dI cI tS H.size x19 x22 hg) ⟨callB_of 1 hts (gN tw_632) rfl rfl rfl (hts _ tw_89) (hts _ tw_630) hd_OPG_flagOf ⟨Nat.le_of_ble_eq_true rfl, Nat.le_of_ble_eq_true rfl⟩, hts _ tw_631⟩ (pre_S hK hPc hDc hst0 hS hFc) rfl rfl hl.1 rfl (lv_room (Nat.le_of_ble_eq_true rfl)) d_OPG_takeFlags_22 ⟨Nat.zero_le _, Nat.zero_le _⟩) hP hD hS hA [] [0, 1, 2] rfl rfl (by decide) (by decide) (fun H locs hP hD hS => ?_)
        have hP := hP.sub (ws' := (w_12 cI tS a_pat a_pat_bytes a_opg pat_length opg_numbered opg_flagsAlone opg_nameAt opg_nameLength opg_flags opg_after pat_bytes)) [0, 1, 2] rfl
        have hD := hD.sub (ws' := (w_12 cI tS a_pat a_pat_bytes a_opg pat_length opg_numbered opg_flagsAlone opg_nameAt opg_nameLength opg_flags opg_after pat_bytes)) [0, 1, 2] (by decide) rfl
        refine lv_istore_n (lv' := [(3, .int x22), (0, .ref a_opg), (1, .int v1), (2, .int v2)]) hx hb d_OPG_takeFlags_25 rfl hl (by decide) rfl (fun ls hl => ?_)
        refine lv_iload_n hx hb d_OPG_takeFlags_26 rfl (lv_at hl 0 rfl) ?_
        refine lv_if_ne (tgt := 33) hx hb d_OPG_takeFlags_27 (by decide) (fun c_ => ?_) (fun c_ => ?_)
        · have hf := f_neg c_ hf
          refine lv_iload_n hx hb d_OPG_takeFlags_33 rfl (lv_at hl 2 rfl) ?_
          refine lv_iload_n hx hb d_OPG_takeFlags_34 rfl (lv_at hl 0 rfl) ?_
          refine lv_ior hx hb d_OPG_takeFlags_35 ?_
          refine lv_istore_n (lv' := [(1, .int (v1 ||| x22)), (3, .int x22), (0, .ref a_opg), (2, .int v2)]) hx hb d_OPG_takeFlags_36 rfl hl (by decide) rfl (fun ls hl => ?_)
          refine lv_aload_n hx hb d_OPG_takeFlags_37 rfl (lv_at hl 2 rfl) ?_
          refine lv_dup hx hb d_OPG_takeFlags_38 rfl ?_
          refine va_get (D := (dC, dI)) (ci := 8) (v := .int opg_after) (C := R_OPG) (T := F_OPG) (N := N_OPG) hx hb hts i_OPG hown hK hP 1 rfl rfl 6 (by decide) (hts _ tw_339) (fun _ h9 => h9) rfl d_OPG_takeFlags_39 ?_
          refine lv_iconst (v := 1) hx hb d_OPG_takeFlags_42 (by decide) ?_
          refine lv_iadd hx hb d_OPG_takeFlags_43 ?_
          refine va_put (D := (dC, dI)) (ci := 8) (v := .int (opg_after + 1)) (ty := .int) (C := R_OPG) (T := F_OPG) (N := N_OPG) hx hb hts i_OPG ty_OPG ty_OPG_ok n_OPG hown hK hP hD hS 1 rfl rfl 6 (by decide) (hts _ tw_339) (fun _ h9 => h9) rfl (ty_OPG_ok 6 (by decide)) rfl rfl (Nat.le_of_ble_eq_true rfl) d_OPG_takeFlags_44 (fun H locs hP hD hS => ?_)
          have hP : va_P (dC, dI) classes (w_12 cI tS a_pat a_pat_bytes a_opg pat_length opg_numbered opg_flagsAlone opg_nameAt opg_nameLength opg_flags (opg_after + 1) pat_bytes) H := hP
          have hD : va_D A (w_12 cI tS a_pat a_pat_bytes a_opg pat_length opg_numbered opg_flagsAlone opg_nameAt opg_nameLength opg_flags (opg_after + 1) pat_bytes) := hD
          refine lv_iinc (v := v2 + 1) (lv' := [(2, .int (v2 + 1)), (1, .int (v1 ||| x22)), (3, .int x22), (0, .ref a_opg)]) hx hb d_OPG_takeFlags_47 hl (k := 3) rfl rfl (by decide) rfl (fun ls hl => ?_)
          refine lv_goto (tgt := 4) hx hb d_OPG_takeFlags_50 (by decide) ?_
          exact ih4 (v1 ||| x22) (v2 + 1) (opg_after + 1) _ _ _ hP hD hS (lv_sub hl [3, 1, 0] rfl) hf
        · have hf := f_pos c_ hf
          refine lv_goto (tgt := 53) hx hb d_OPG_takeFlags_30 (by decide) ?_
          refine lv_iload_n hx hb d_OPG_takeFlags_53 rfl (lv_at hl 2 rfl) ?_
          obtain rfl := Option.some.inj hf
          exact W.iret (v := v1) hx hb hr (fun t ht hW => ⟨⟨_, (), rfl, rfl, ⟨by rw [ht]; exact hP, va_K.moved hW.alike hK, hD⟩⟩, hS.F ht⟩) hS.2.2 d_OPG_takeFlags_54
  refine lv_iconst (v := 0) hx hb d_OPG_takeFlags_0 (by decide) ?_
  refine lv_istore_n (lv' := [(1, .int 0), (0, .ref a_opg)]) hx hb d_OPG_takeFlags_1 rfl hl (by decide) rfl (fun ls hl => ?_)
  refine lv_iconst (v := 0) hx hb d_OPG_takeFlags_2 (by decide) ?_
  refine lv_istore_n (lv' := [(2, .int 0), (1, .int 0), (0, .ref a_opg)]) hx hb d_OPG_takeFlags_3 rfl hl (by decide) rfl (fun ls hl => ?_)
  exact L4 FU 0 0 opg_after _ _ _ hP hD hS (lv_sub hl [2, 1, 0] rfl) hf
def f_OPG_readFlags_L106 (pat_length : Int32) (pat_bytes : Nat → Int32) (p1 : Int32) (v2 : Int32) (z0 : Bool) (opg_numbered : Bool) (opg_flagsAlone : Bool) (opg_flags : Int32) (opg_after : Int32) : Option (Bool × Bool × Bool × Int32 × Int32) :=
  if (b2i z0) = 0 then (if v2 = 58 then some (true, opg_numbered, z0, opg_flags, opg_after) else some (false, opg_numbered, z0, opg_flags, opg_after)) else some (true, opg_numbered, z0, opg_flags, opg_after)
def f_OPG_readFlags_L72 (pat_length : Int32) (pat_bytes : Nat → Int32) (p1 : Int32) (opg_numbered : Bool) (opg_flagsAlone : Bool) (opg_flags : Int32) (opg_after : Int32) : Option (Bool × Bool × Bool × Int32 × Int32) :=
  bnd_ (f_PAT_at pat_length pat_bytes opg_after) (fun x80 => if x80 = 41 then f_OPG_readFlags_L106 pat_length pat_bytes p1 x80 true opg_numbered opg_flagsAlone opg_flags (opg_after + 1) else f_OPG_readFlags_L106 pat_length pat_bytes p1 x80 false opg_numbered opg_flagsAlone opg_flags (opg_after + 1))
def f_OPG_readFlags (pat_length : Int32) (opg_numbered : Bool) (opg_flagsAlone : Bool) (opg_flags : Int32) (opg_after : Int32) (pat_bytes : Nat → Int32) (p1 : Int32) : Option (Bool × Bool × Bool × Int32 × Int32) :=
  bnd_ (f_OPG_takeFlags pat_length p1 pat_bytes) (fun x16 => bnd_ (f_PAT_at pat_length pat_bytes x16.2) (fun x31 => if x31 = 45 then bnd_ (f_OPG_takeFlags pat_length (x16.2 + 1) pat_bytes) (fun x50 => if x50.1 = 0 then some (false, false, opg_flagsAlone, opg_flags ||| x16.1, x50.2) else f_OPG_readFlags_L72 pat_length pat_bytes p1 false opg_flagsAlone ((opg_flags ||| x16.1) &&& (x50.1 ^^^ (-1))) x50.2) else f_OPG_readFlags_L72 pat_length pat_bytes p1 false opg_flagsAlone (opg_flags ||| x16.1) x16.2))
set_option maxRecDepth 100000 in
set_option maxHeartbeats 4000000 in
theorem c_OPG_readFlags (l : Launch) (dC : Nat → ClassId) (dI : Nat → Nat → Nat) (cI : ClassId) (tS : Nat → Nat → Nat) (sz : Nat) (a_pat a_pat_bytes a_opg : Nat) (pat_length : Int32) (opg_numbered : Bool) (opg_flagsAlone : Bool) (opg_nameAt : Int32) (opg_nameLength : Int32) (opg_flags : Int32) (opg_after : Int32) (pat_bytes : Nat → Int32) (p1 : Int32) (R0 : Bool × Bool × Bool × Int32 × Int32) (hf : f_OPG_readFlags pat_length opg_numbered opg_flagsAlone opg_flags opg_after pat_bytes p1 = some R0) : Met l y_OPG_readFlags ws_OPG_readFlags ({ frames := 2, cells := 0, slots := 0, locals := 44 }) (va_Pc [.ref a_opg, .int p1] (preS (dC, dI) classes [(cI, .int)] tS (w_12 cI tS a_pat a_pat_bytes a_opg pat_length opg_numbered opg_flagsAlone opg_nameAt opg_nameLength opg_flags opg_after pat_bytes) sz)) (va_Qi (fun r (_ : Unit) => r = b2i R0.1) (fun _ t => posS (dC, dI) classes [(cI, .int)] (w_12 cI tS a_pat a_pat_bytes a_opg pat_length R0.2.1 R0.2.2.1 opg_nameAt opg_nameLength R0.2.2.2.1 R0.2.2.2.2 pat_bytes) (va_A (w_12 cI tS a_pat a_pat_bytes a_opg pat_length opg_numbered opg_flagsAlone opg_nameAt opg_nameLength opg_flags opg_after pat_bytes) sz) t) (va_A (w_12 cI tS a_pat a_pat_bytes a_opg pat_length opg_numbered opg_flagsAlone opg_nameAt opg_nameLength opg_flags opg_after pat_bytes) sz)) 0 0 (va_A (w_12 cI tS a_pat a_pat_bytes a_opg pat_length opg_numbered opg_flagsAlone opg_nameAt opg_nameLength opg_flags opg_after pat_bytes) sz) := by
  refine Met.ofW (cc := b_OPG_readFlags) (maxL := 3) (ret := (some .boolean)) (by decide) rfl ?_
  intro p e s m args below meth c s₁ B hml hv
  obtain ⟨rfl, hsz, hP, hK, hD0, hst0⟩ := hv
  have hx := B.exec
  have hb := B.bytes
  have hr := B.returns
  have hts0 := atoms_spec (ws := ws_OPG_readFlags) B.pre
  have hts : ∀ w ∈ GW, w.before _ s = true := fun w h => hts0 w (List.mem_cons_of_mem _ h)
  have hown : s.vm.findClass R_OPG = some m.cls := findClass_of_methodNamed B.named
  have hlocks := B.notSynchronized
  subst hsz
  have hD := hD0.self (sz := s.heap.size)
  generalize hAe : va_A (w_12 cI tS a_pat a_pat_bytes a_opg pat_length opg_numbered opg_flagsAlone opg_nameAt opg_nameLength opg_flags opg_after pat_bytes) s.heap.size = A at hD hst0 ⊢
  have hA : ∀ q : Nat, s.heap.size ≤ q → A q := fun q h => by rw [← hAe]; exact Or.inr h
  have hS : va_S A s.heap s.heap [] := va_S.rf
  have hl := lv_entry ([.ref a_opg, .int p1]) (n := 3) (Nat.le_of_ble_eq_true rfl)
  rw [lg_entry_eq]
  generalize (lg_sl ([.ref a_opg, .int p1]) ++ List.replicate (3 - (lg_sl ([.ref a_opg, .int p1])).length) Slot.unset).toArray = ls at hl ⊢
  have hl : lv_has ls 3 [(0, .ref a_opg), (1, .int p1)] := hl
  have L106 : ∀ (v2 : Int32) (z0 : Bool) (opg_numbered : Bool) (opg_flagsAlone : Bool) (opg_flags : Int32) (opg_after : Int32) (H : Heap) (locs : List Loc) (ls : Array Slot), va_P (dC, dI) classes (w_12 cI tS a_pat a_pat_bytes a_opg pat_length opg_numbered opg_flagsAlone opg_nameAt opg_nameLength opg_flags opg_after pat_bytes) H → va_D A (w_12 cI tS a_pat a_pat_bytes a_opg pat_length opg_numbered opg_flagsAlone opg_nameAt opg_nameLength opg_flags opg_after pat_bytes) → va_S A s.heap H locs → lv_has ls 3 [(0, .ref a_opg), (2, .int v2)] → f_OPG_readFlags_L106 pat_length pat_bytes p1 v2 z0 opg_numbered opg_flagsAlone opg_flags opg_after = some R0 → W p l e (headSpec ws_OPG_readFlags ({ frames := 2, cells := 0, slots := 0, locals := 44 })).room s m ([.ref a_opg, .int p1] : List Value).toArray below meth c H locs 0 0 (MQ below (va_Qi (fun r (_ : Unit) => r = b2i R0.1) (fun _ t => posS (dC, dI) classes [(cI, .int)] (w_12 cI tS a_pat a_pat_bytes a_opg pat_length R0.2.1 R0.2.2.1 opg_nameAt opg_nameLength R0.2.2.2.1 R0.2.2.2.2 pat_bytes) (A) t) (A)) ([.ref a_opg, .int p1] : List Value).toArray s 0 0 A) (F0 m 106 ls [.int (b2i z0), .ref a_opg]) := by
    intro v2 z0 opg_numbered opg_flagsAlone opg_flags opg_after H locs ls hP hD hS hl hf
    refine va_put (D := (dC, dI)) (ci := 8) (v := .int (b2i z0)) (ty := .boolean) (C := R_OPG) (T := F_OPG) (N := N_OPG) hx hb hts i_OPG ty_OPG ty_OPG_ok n_OPG hown hK hP hD hS 1 rfl rfl 2 (by decide) (hts _ tw_331) (fun _ h9 => h9) rfl (ty_OPG_ok 2 (by decide)) (nr_b _) (ft_b _) (Nat.le_of_ble_eq_true rfl) d_OPG_readFlags_106 (fun H locs hP hD hS => ?_)
    have hP : va_P (dC, dI) classes (w_12 cI tS a_pat a_pat_bytes a_opg pat_length opg_numbered z0 opg_nameAt opg_nameLength opg_flags opg_after pat_bytes) H := hP
    have hD : va_D A (w_12 cI tS a_pat a_pat_bytes a_opg pat_length opg_numbered z0 opg_nameAt opg_nameLength opg_flags opg_after pat_bytes) := hD
    refine lv_aload_n hx hb d_OPG_readFlags_109 rfl (lv_at hl 0 rfl) ?_
    refine va_get (D := (dC, dI)) (ci := 8) (v := .int (b2i z0)) (C := R_OPG) (T := F_OPG) (N := N_OPG) hx hb hts i_OPG hown hK hP 1 rfl rfl 2 (by decide) (hts _ tw_331) (fun _ h9 => h9) rfl d_OPG_readFlags_110 ?_
    refine lv_if_ne (tgt := 122) hx hb d_OPG_readFlags_113 (by decide) (fun c_ => ?_) (fun c_ => ?_)
    · have hf := f_neg c_ hf
      refine lv_iconst (v := 1) hx hb d_OPG_readFlags_122 (by decide) ?_
      refine lv_goto (tgt := 127) hx hb d_OPG_readFlags_123 (by decide) ?_
      obtain rfl := Option.some.inj hf
      exact W.zret (v := b2i true) hx hb hr (nr_b _) (fun t ht hW => ⟨⟨_, (), rfl, rfl, ⟨by rw [ht]; exact hP, va_K.moved hW.alike hK, hD⟩⟩, hS.F ht⟩) hS.2.2 d_OPG_readFlags_127
    · have hf := f_pos c_ hf
      refine lv_iload_n hx hb d_OPG_readFlags_116 rfl (lv_at hl 1 rfl) ?_
      refine lv_bipush (v := 58) hx hb d_OPG_readFlags_117 (by decide) ?_
      refine lv_icmp_ne (tgt := 126) hx hb d_OPG_readFlags_119 (by decide) (fun c_ => ?_) (fun c_ => ?_)
      · have hf := f_neg c_ hf
        refine lv_iconst (v := 0) hx hb d_OPG_readFlags_126 (by decide) ?_
        obtain rfl := Option.some.inj hf
        exact W.zret (v := b2i false) hx hb hr (nr_b _) (fun t ht hW => ⟨⟨_, (), rfl, rfl, ⟨by rw [ht]; exact hP, va_K.moved hW.alike hK, hD⟩⟩, hS.F ht⟩) hS.2.2 d_OPG_readFlags_127
      · have hf := f_pos c_ hf
        refine lv_iconst (v := 1) hx hb d_OPG_readFlags_122 (by decide) ?_
        refine lv_goto (tgt := 127) hx hb d_OPG_readFlags_123 (by decide) ?_
        obtain rfl := Option.some.inj hf
        exact W.zret (v := b2i true) hx hb hr (nr_b _) (fun t ht hW => ⟨⟨_, (), rfl, rfl, ⟨by rw [ht]; exact hP, va_K.moved hW.alike hK, hD⟩⟩, hS.F ht⟩) hS.2.2 d_OPG_readFlags_127
  have L72 : ∀ (opg_numbered : Bool) (opg_flagsAlone : Bool) (opg_flags : Int32) (opg_after : Int32) (H : Heap) (locs : List Loc) (ls : Array Slot), va_P (dC, dI) classes (w_12 cI tS a_pat a_pat_bytes a_opg pat_length opg_numbered opg_flagsAlone opg_nameAt opg_nameLength opg_flags opg_after pat_bytes) H → va_D A (w_12 cI tS a_pat a_pat_bytes a_opg pat_length opg_numbered opg_flagsAlone opg_nameAt opg_nameLength opg_flags opg_after pat_bytes) → va_S A s.heap H locs → lv_has ls 3 [(0, .ref a_opg)] → f_OPG_readFlags_L72 pat_length pat_bytes p1 opg_numbered opg_flagsAlone opg_flags opg_after = some R0 → W p l e (headSpec ws_OPG_readFlags ({ frames := 2, cells := 0, slots := 0, locals := 44 })).room s m ([.ref a_opg, .int p1] : List Value).toArray below meth c H locs 0 0 (MQ below (va_Qi (fun r (_ : Unit) => r = b2i R0.1) (fun _ t => posS (dC, dI) classes [(cI, .int)] (w_12 cI tS a_pat a_pat_bytes a_opg pat_length R0.2.1 R0.2.2.1 opg_nameAt opg_nameLength R0.2.2.2.1 R0.2.2.2.2 pat_bytes) (A) t) (A)) ([.ref a_opg, .int p1] : List Value).toArray s 0 0 A) (F0 m 72 ls []) := by
    intro opg_numbered opg_flagsAlone opg_flags opg_after H locs ls hP hD hS hl hf
    refine lv_aload_n hx hb d_OPG_readFlags_72 rfl (lv_at hl 0 rfl) ?_
    refine va_get (D := (dC, dI)) (ci := 8) (v := .ref a_pat) (C := R_OPG) (T := F_OPG) (N := N_OPG) hx hb hts i_OPG hown hK hP 1 rfl rfl 0 (by decide) (hts _ tw_328) (fun _ h9 => h9) rfl d_OPG_readFlags_73 ?_
    refine lv_aload_n hx hb d_OPG_readFlags_76 rfl (lv_at hl 0 rfl) ?_
    refine va_get (D := (dC, dI)) (ci := 8) (v := .int opg_after) (C := R_OPG) (T := F_OPG) (N := N_OPG) hx hb hts i_OPG hown hK hP 1 rfl rfl 6 (by decide) (hts _ tw_339) (fun _ h9 => h9) rfl d_OPG_readFlags_77 ?_
    obtain ⟨x80, hg, hf⟩ := bnd hf
    have hPc := hP.sub (ws' := (w_0 cI tS a_pat a_pat_bytes pat_length pat_bytes)) [0, 2] rfl
    have hDc := hD.sub (ws' := (w_0 cI tS a_pat a_pat_bytes pat_length pat_bytes)) [0, 2] (by decide) rfl
    have hFc := va_free (wc := (w_0 cI tS a_pat a_pat_bytes pat_length pat_bytes)) hD hS hA [0, 2] rfl
    refine cal_i (va_runV (As := [.int opg_after]) (rest := []) ⟨hx, hb, hml, hown, hts⟩ (c_PAT_at l dC dI cI tS H.size a_pat a_pat_bytes pat_length pat_bytes opg_after x80 hg) ⟨callB_of 1 hts (gN tw_586) rfl rfl rfl (hts _ tw_80) (hts _ tw_611) hd_PAT_at ⟨Nat.le_of_ble_eq_true rfl, Nat.le_of_ble_eq_true rfl⟩, hts _ tw_584, hts _ tw_585⟩ (pre_V hK hPc hDc hst0 hS hFc (va_recv hK hPc (ci := 0) (q0 := 0) rfl rfl)) rfl rfl hl.1 rfl (lv_room (Nat.le_of_ble_eq_true rfl)) d_OPG_readFlags_80 ⟨Nat.zero_le _, Nat.zero_le _⟩) hP hD hS hA [0, 2] [1] rfl rfl (by decide) (by decide) (fun H locs hP hD hS => ?_)
    have hP := hP.sub (ws' := (w_12 cI tS a_pat a_pat_bytes a_opg pat_length opg_numbered opg_flagsAlone opg_nameAt opg_nameLength opg_flags opg_after pat_bytes)) [1, 0, 2] rfl
    have hD := hD.sub (ws' := (w_12 cI tS a_pat a_pat_bytes a_opg pat_length opg_numbered opg_flagsAlone opg_nameAt opg_nameLength opg_flags opg_after pat_bytes)) [1, 0, 2] (by decide) rfl
    refine lv_istore_n (lv' := [(2, .int x80), (0, .ref a_opg)]) hx hb d_OPG_readFlags_83 rfl hl (by decide) rfl (fun ls hl => ?_)
    refine lv_aload_n hx hb d_OPG_readFlags_84 rfl (lv_at hl 1 rfl) ?_
    refine lv_dup hx hb d_OPG_readFlags_85 rfl ?_
    refine va_get (D := (dC, dI)) (ci := 8) (v := .int opg_after) (C := R_OPG) (T := F_OPG) (N := N_OPG) hx hb hts i_OPG hown hK hP 1 rfl rfl 6 (by decide) (hts _ tw_339) (fun _ h9 => h9) rfl d_OPG_readFlags_86 ?_
    refine lv_iconst (v := 1) hx hb d_OPG_readFlags_89 (by decide) ?_
    refine lv_iadd hx hb d_OPG_readFlags_90 ?_
    refine va_put (D := (dC, dI)) (ci := 8) (v := .int (opg_after + 1)) (ty := .int) (C := R_OPG) (T := F_OPG) (N := N_OPG) hx hb hts i_OPG ty_OPG ty_OPG_ok n_OPG hown hK hP hD hS 1 rfl rfl 6 (by decide) (hts _ tw_339) (fun _ h9 => h9) rfl (ty_OPG_ok 6 (by decide)) rfl rfl (Nat.le_of_ble_eq_true rfl) d_OPG_readFlags_91 (fun H locs hP hD hS => ?_)
    have hP : va_P (dC, dI) classes (w_12 cI tS a_pat a_pat_bytes a_opg pat_length opg_numbered opg_flagsAlone opg_nameAt opg_nameLength opg_flags (opg_after + 1) pat_bytes) H := hP
    have hD : va_D A (w_12 cI tS a_pat a_pat_bytes a_opg pat_length opg_numbered opg_flagsAlone opg_nameAt opg_nameLength opg_flags (opg_after + 1) pat_bytes) := hD
    refine lv_aload_n hx hb d_OPG_readFlags_94 rfl (lv_at hl 1 rfl) ?_
    refine lv_iload_n hx hb d_OPG_readFlags_95 rfl (lv_at hl 0 rfl) ?_
    refine lv_bipush (v := 41) hx hb d_OPG_readFlags_96 (by decide) ?_
    refine lv_icmp_ne (tgt := 105) hx hb d_OPG_readFlags_98 (by decide) (fun c_ => ?_) (fun c_ => ?_)
    · have hf := f_neg c_ hf
      refine lv_iconst (v := 0) hx hb d_OPG_readFlags_105 (by decide) ?_
      exact L106 x80 false opg_numbered opg_flagsAlone opg_flags (opg_after + 1) _ _ _ hP hD hS (lv_sub hl [1, 0] rfl) hf
    · have hf := f_pos c_ hf
      refine lv_iconst (v := 1) hx hb d_OPG_readFlags_101 (by decide) ?_
      refine lv_goto (tgt := 106) hx hb d_OPG_readFlags_102 (by decide) ?_
      exact L106 x80 true opg_numbered opg_flagsAlone opg_flags (opg_after + 1) _ _ _ hP hD hS (lv_sub hl [1, 0] rfl) hf
  refine lv_aload_n hx hb d_OPG_readFlags_0 rfl (lv_at hl 0 rfl) ?_
  refine lv_iconst (v := 0) hx hb d_OPG_readFlags_1 (by decide) ?_
  refine va_put (D := (dC, dI)) (ci := 8) (v := .int (b2i false)) (ty := .boolean) (C := R_OPG) (T := F_OPG) (N := N_OPG) hx hb hts i_OPG ty_OPG ty_OPG_ok n_OPG hown hK hP hD hS 1 rfl rfl 1 (by decide) (hts _ tw_329) (fun _ h9 => h9) rfl (ty_OPG_ok 1 (by decide)) (nr_b _) (ft_b _) (Nat.le_of_ble_eq_true rfl) d_OPG_readFlags_2 (fun H locs hP hD hS => ?_)
  have hP : va_P (dC, dI) classes (w_12 cI tS a_pat a_pat_bytes a_opg pat_length false opg_flagsAlone opg_nameAt opg_nameLength opg_flags opg_after pat_bytes) H := hP
  have hD : va_D A (w_12 cI tS a_pat a_pat_bytes a_opg pat_length false opg_flagsAlone opg_nameAt opg_nameLength opg_flags opg_after pat_bytes) := hD
  refine lv_aload_n hx hb d_OPG_readFlags_5 rfl (lv_at hl 0 rfl) ?_
  refine lv_iload_n hx hb d_OPG_readFlags_6 rfl (lv_at hl 1 rfl) ?_
  refine va_put (D := (dC, dI)) (ci := 8) (v := .int p1) (ty := .int) (C := R_OPG) (T := F_OPG) (N := N_OPG) hx hb hts i_OPG ty_OPG ty_OPG_ok n_OPG hown hK hP hD hS 1 rfl rfl 6 (by decide) (hts _ tw_339) (fun _ h9 => h9) rfl (ty_OPG_ok 6 (by decide)) rfl rfl (Nat.le_of_ble_eq_true rfl) d_OPG_readFlags_7 (fun H locs hP hD hS => ?_)
  have hP : va_P (dC, dI) classes (w_12 cI tS a_pat a_pat_bytes a_opg pat_length false opg_flagsAlone opg_nameAt opg_nameLength opg_flags p1 pat_bytes) H := hP
  have hD : va_D A (w_12 cI tS a_pat a_pat_bytes a_opg pat_length false opg_flagsAlone opg_nameAt opg_nameLength opg_flags p1 pat_bytes) := hD
  refine lv_aload_n hx hb d_OPG_readFlags_10 rfl (lv_at hl 0 rfl) ?_
  refine lv_dup hx hb d_OPG_readFlags_11 rfl ?_
  refine va_get (D := (dC, dI)) (ci := 8) (v := .int opg_flags) (C := R_OPG) (T := F_OPG) (N := N_OPG) hx hb hts i_OPG hown hK hP 1 rfl rfl 5 (by decide) (hts _ tw_337) (fun _ h9 => h9) rfl d_OPG_readFlags_12 ?_
  refine lv_aload_n hx hb d_OPG_readFlags_15 rfl (lv_at hl 0 rfl) ?_
  obtain ⟨x16, hg, hf⟩ := bnd hf
  have hPc := hP.sub (ws' := (w_12 cI tS a_pat a_pat_bytes a_opg pat_length false opg_flagsAlone opg_nameAt opg_nameLength opg_flags p1 pat_bytes)) [0, 1, 2] rfl
  have hDc := hD.sub (ws' := (w_12 cI tS a_pat a_pat_bytes a_opg pat_length false opg_flagsAlone opg_nameAt opg_nameLength opg_flags p1 pat_bytes)) [0, 1, 2] (by decide) rfl
  have hFc := va_free (wc := (w_12 cI tS a_pat a_pat_bytes a_opg pat_length false opg_flagsAlone opg_nameAt opg_nameLength opg_flags p1 pat_bytes)) hD hS hA [0, 1, 2] rfl
  refine cal_i (va_runV (As := []) (rest := [.int opg_flags, .ref a_opg]) ⟨hx, hb, hml, hown, hts⟩ (c_OPG_takeFlags l dC dI cI tS H.size a_pat a_pat_bytes a_opg pat_length false opg_flagsAlone opg_nameAt opg_nameLength opg_flags p1 pat_bytes x16 hg) ⟨callB_of 0 hts (gN tw_629) rfl rfl rfl (hts _ tw_89) (hts _ tw_626) hd_OPG_takeFlags ⟨Nat.le_of_ble_eq_true rfl, Nat.le_of_ble_eq_true rfl⟩, hts _ tw_628, hts _ tw_5⟩ (pre_V hK hPc hDc hst0 hS hFc (va_recv hK hPc (ci := 8) (q0 := 1) rfl rfl)) rfl rfl hl.1 rfl (lv_room (Nat.le_of_ble_eq_true rfl)) d_OPG_readFlags_16 ⟨Nat.zero_le _, Nat.zero_le _⟩) hP hD hS hA [0, 1, 2] [] rfl rfl (by decide) (by decide) (fun H locs hP hD hS => ?_)
  have hP := hP.sub (ws' := (w_12 cI tS a_pat a_pat_bytes a_opg pat_length false opg_flagsAlone opg_nameAt opg_nameLength opg_flags x16.2 pat_bytes)) [0, 1, 2] rfl
  have hD := hD.sub (ws' := (w_12 cI tS a_pat a_pat_bytes a_opg pat_length false opg_flagsAlone opg_nameAt opg_nameLength opg_flags x16.2 pat_bytes)) [0, 1, 2] (by decide) rfl
  refine lv_ior hx hb d_OPG_readFlags_19 ?_
  refine va_put (D := (dC, dI)) (ci := 8) (v := .int (opg_flags ||| x16.1)) (ty := .int) (C := R_OPG) (T := F_OPG) (N := N_OPG) hx hb hts i_OPG ty_OPG ty_OPG_ok n_OPG hown hK hP hD hS 1 rfl rfl 5 (by decide) (hts _ tw_337) (fun _ h9 => h9) rfl (ty_OPG_ok 5 (by decide)) rfl rfl (Nat.le_of_ble_eq_true rfl) d_OPG_readFlags_20 (fun H locs hP hD hS => ?_)
  have hP : va_P (dC, dI) classes (w_12 cI tS a_pat a_pat_bytes a_opg pat_length false opg_flagsAlone opg_nameAt opg_nameLength (opg_flags ||| x16.1) x16.2 pat_bytes) H := hP
  have hD : va_D A (w_12 cI tS a_pat a_pat_bytes a_opg pat_length false opg_flagsAlone opg_nameAt opg_nameLength (opg_flags ||| x16.1) x16.2 pat_bytes) := hD
  refine lv_aload_n hx hb d_OPG_readFlags_23 rfl (lv_at hl 0 rfl) ?_
  refine va_get (D := (dC, dI)) (ci := 8) (v := .ref a_pat) (C := R_OPG) (T := F_OPG) (N := N_OPG) hx hb hts i_OPG hown hK hP 1 rfl rfl 0 (by decide) (hts _ tw_328) (fun _ h9 => h9) rfl d_OPG_readFlags_24 ?_
  refine lv_aload_n hx hb d_OPG_readFlags_27 rfl (lv_at hl 0 rfl) ?_
  refine va_get (D := (dC, dI)) (ci := 8) (v := .int x16.2) (C := R_OPG) (T := F_OPG) (N := N_OPG) hx hb hts i_OPG hown hK hP 1 rfl rfl 6 (by decide) (hts _ tw_339) (fun _ h9 => h9) rfl d_OPG_readFlags_28 ?_
  obtain ⟨x31, hg, hf⟩ := bnd hf
  have hPc := hP.sub (ws' := (w_0 cI tS a_pat a_pat_bytes pat_length pat_bytes)) [0, 2] rfl
  have hDc := hD.sub (ws' := (w_0 cI tS a_pat a_pat_bytes pat_length pat_bytes)) [0, 2] (by decide) rfl
  have hFc := va_free (wc := (w_0 cI tS a_pat a_pat_bytes pat_length pat_bytes)) hD hS hA [0, 2] rfl
  refine cal_i (va_runV (As := [.int x16.2]) (rest := []) ⟨hx, hb, hml, hown, hts⟩ (c_PAT_at l dC dI cI tS H.size a_pat a_pat_bytes pat_length pat_bytes x16.2 x31 hg) ⟨callB_of 1 hts (gN tw_586) rfl rfl rfl (hts _ tw_80) (hts _ tw_611) hd_PAT_at ⟨Nat.le_of_ble_eq_true rfl, Nat.le_of_ble_eq_true rfl⟩, hts _ tw_584, hts _ tw_585⟩ (pre_V hK hPc hDc hst0 hS hFc (va_recv hK hPc (ci := 0) (q0 := 0) rfl rfl)) rfl rfl hl.1 rfl (lv_room (Nat.le_of_ble_eq_true rfl)) d_OPG_readFlags_31 ⟨Nat.zero_le _, Nat.zero_le _⟩) hP hD hS hA [0, 2] [1] rfl rfl (by decide) (by decide) (fun H locs hP hD hS => ?_)
  have hP := hP.sub (ws' := (w_12 cI tS a_pat a_pat_bytes a_opg pat_length false opg_flagsAlone opg_nameAt opg_nameLength (opg_flags ||| x16.1) x16.2 pat_bytes)) [1, 0, 2] rfl
  have hD := hD.sub (ws' := (w_12 cI tS a_pat a_pat_bytes a_opg pat_length false opg_flagsAlone opg_nameAt opg_nameLength (opg_flags ||| x16.1) x16.2 pat_bytes)) [1, 0, 2] (by decide) rfl
  refine lv_bipush (v := 45) hx hb d_OPG_readFlags_34 (by decide) ?_
  refine lv_icmp_ne (tgt := 72) hx hb d_OPG_readFlags_36 (by decide) (fun c_ => ?_) (fun c_ => ?_)
  · have hf := f_neg c_ hf
    exact L72 false opg_flagsAlone (opg_flags ||| x16.1) x16.2 _ _ _ hP hD hS (lv_sub hl [0] rfl) hf
  · have hf := f_pos c_ hf
    refine lv_aload_n hx hb d_OPG_readFlags_39 rfl (lv_at hl 0 rfl) ?_
    refine lv_dup hx hb d_OPG_readFlags_40 rfl ?_
    refine va_get (D := (dC, dI)) (ci := 8) (v := .int x16.2) (C := R_OPG) (T := F_OPG) (N := N_OPG) hx hb hts i_OPG hown hK hP 1 rfl rfl 6 (by decide) (hts _ tw_339) (fun _ h9 => h9) rfl d_OPG_readFlags_41 ?_
    refine lv_iconst (v := 1) hx hb d_OPG_readFlags_44 (by decide) ?_
    refine lv_iadd hx hb d_OPG_readFlags_45 ?_
    refine va_put (D := (dC, dI)) (ci := 8) (v := .int (x16.2 + 1)) (ty := .int) (C := R_OPG) (T := F_OPG) (N := N_OPG) hx hb hts i_OPG ty_OPG ty_OPG_ok n_OPG hown hK hP hD hS 1 rfl rfl 6 (by decide) (hts _ tw_339) (fun _ h9 => h9) rfl (ty_OPG_ok 6 (by decide)) rfl rfl (Nat.le_of_ble_eq_true rfl) d_OPG_readFlags_46 (fun H locs hP hD hS => ?_)
    have hP : va_P (dC, dI) classes (w_12 cI tS a_pat a_pat_bytes a_opg pat_length false opg_flagsAlone opg_nameAt opg_nameLength (opg_flags ||| x16.1) (x16.2 + 1) pat_bytes) H := hP
    have hD : va_D A (w_12 cI tS a_pat a_pat_bytes a_opg pat_length false opg_flagsAlone opg_nameAt opg_nameLength (opg_flags ||| x16.1) (x16.2 + 1) pat_bytes) := hD
    refine lv_aload_n hx hb d_OPG_readFlags_49 rfl (lv_at hl 0 rfl) ?_
    obtain ⟨x50, hg, hf⟩ := bnd hf
    have hPc := hP.sub (ws' := (w_12 cI tS a_pat a_pat_bytes a_opg pat_length false opg_flagsAlone opg_nameAt opg_nameLength (opg_flags ||| x16.1) (x16.2 + 1) pat_bytes)) [0, 1, 2] rfl
    have hDc := hD.sub (ws' := (w_12 cI tS a_pat a_pat_bytes a_opg pat_length false opg_flagsAlone opg_nameAt opg_nameLength (opg_flags ||| x16.1) (x16.2 + 1) pat_bytes)) [0, 1, 2] (by decide) rfl
    have hFc := va_free (wc := (w_12 cI tS a_pat a_pat_bytes a_opg pat_length false opg_flagsAlone opg_nameAt opg_nameLength (opg_flags ||| x16.1) (x16.2 + 1) pat_bytes)) hD hS hA [0, 1, 2] rfl
    refine cal_i (va_runV (As := []) (rest := []) ⟨hx, hb, hml, hown, hts⟩ (c_OPG_takeFlags l dC dI cI tS H.size a_pat a_pat_bytes a_opg pat_length false opg_flagsAlone opg_nameAt opg_nameLength (opg_flags ||| x16.1) (x16.2 + 1) pat_bytes x50 hg) ⟨callB_of 0 hts (gN tw_629) rfl rfl rfl (hts _ tw_89) (hts _ tw_626) hd_OPG_takeFlags ⟨Nat.le_of_ble_eq_true rfl, Nat.le_of_ble_eq_true rfl⟩, hts _ tw_628, hts _ tw_5⟩ (pre_V hK hPc hDc hst0 hS hFc (va_recv hK hPc (ci := 8) (q0 := 1) rfl rfl)) rfl rfl hl.1 rfl (lv_room (Nat.le_of_ble_eq_true rfl)) d_OPG_readFlags_50 ⟨Nat.zero_le _, Nat.zero_le _⟩) hP hD hS hA [0, 1, 2] [] rfl rfl (by decide) (by decide) (fun H locs hP hD hS => ?_)
    have hP := hP.sub (ws' := (w_12 cI tS a_pat a_pat_bytes a_opg pat_length false opg_flagsAlone opg_nameAt opg_nameLength (opg_flags ||| x16.1) x50.2 pat_bytes)) [0, 1, 2] rfl
    have hD := hD.sub (ws' := (w_12 cI tS a_pat a_pat_bytes a_opg pat_length false opg_flagsAlone opg_nameAt opg_nameLength (opg_flags ||| x16.1) x50.2 pat_bytes)) [0, 1, 2] (by decide) rfl
    refine lv_istore_n (lv' := [(2, .int x50.1), (0, .ref a_opg), (1, .int p1)]) hx hb d_OPG_readFlags_53 rfl hl (by decide) rfl (fun ls hl => ?_)
    refine lv_iload_n hx hb d_OPG_readFlags_54 rfl (lv_at hl 0 rfl) ?_
    refine lv_if_ne (tgt := 60) hx hb d_OPG_readFlags_55 (by decide) (fun c_ => ?_) (fun c_ => ?_)
    · have hf := f_neg c_ hf
      refine lv_aload_n hx hb d_OPG_readFlags_60 rfl (lv_at hl 1 rfl) ?_
      refine lv_dup hx hb d_OPG_readFlags_61 rfl ?_
      refine va_get (D := (dC, dI)) (ci := 8) (v := .int (opg_flags ||| x16.1)) (C := R_OPG) (T := F_OPG) (N := N_OPG) hx hb hts i_OPG hown hK hP 1 rfl rfl 5 (by decide) (hts _ tw_337) (fun _ h9 => h9) rfl d_OPG_readFlags_62 ?_
      refine lv_iload_n hx hb d_OPG_readFlags_65 rfl (lv_at hl 0 rfl) ?_
      refine lv_iconst (v := (-1)) hx hb d_OPG_readFlags_66 (by decide) ?_
      refine lv_ixor hx hb d_OPG_readFlags_67 ?_
      refine lv_iand hx hb d_OPG_readFlags_68 ?_
      refine va_put (D := (dC, dI)) (ci := 8) (v := .int ((opg_flags ||| x16.1) &&& (x50.1 ^^^ (-1)))) (ty := .int) (C := R_OPG) (T := F_OPG) (N := N_OPG) hx hb hts i_OPG ty_OPG ty_OPG_ok n_OPG hown hK hP hD hS 1 rfl rfl 5 (by decide) (hts _ tw_337) (fun _ h9 => h9) rfl (ty_OPG_ok 5 (by decide)) rfl rfl (Nat.le_of_ble_eq_true rfl) d_OPG_readFlags_69 (fun H locs hP hD hS => ?_)
      have hP : va_P (dC, dI) classes (w_12 cI tS a_pat a_pat_bytes a_opg pat_length false opg_flagsAlone opg_nameAt opg_nameLength ((opg_flags ||| x16.1) &&& (x50.1 ^^^ (-1))) x50.2 pat_bytes) H := hP
      have hD : va_D A (w_12 cI tS a_pat a_pat_bytes a_opg pat_length false opg_flagsAlone opg_nameAt opg_nameLength ((opg_flags ||| x16.1) &&& (x50.1 ^^^ (-1))) x50.2 pat_bytes) := hD
      exact L72 false opg_flagsAlone ((opg_flags ||| x16.1) &&& (x50.1 ^^^ (-1))) x50.2 _ _ _ hP hD hS (lv_sub hl [1] rfl) hf
    · have hf := f_pos c_ hf
      refine lv_iconst (v := 0) hx hb d_OPG_readFlags_58 (by decide) ?_
      obtain rfl := Option.some.inj hf
      exact W.zret (v := b2i false) hx hb hr (nr_b _) (fun t ht hW => ⟨⟨_, (), rfl, rfl, ⟨by rw [ht]; exact hP, va_K.moved hW.alike hK, hD⟩⟩, hS.F ht⟩) hS.2.2 d_OPG_readFlags_59
def f_OPG_readOpening (pat_length : Int32) (opg_numbered : Bool) (opg_flagsAlone : Bool) (opg_nameAt : Int32) (opg_nameLength : Int32) (opg_flags : Int32) (opg_after : Int32) (pat_bytes : Nat → Int32) (p1 : Int32) (p2 : Int32) : Option (Bool × Bool × Bool × Int32 × Int32 × Int32 × Int32) :=
  bnd_ (f_PAT_at pat_length pat_bytes (p1 + 1)) (fun x34 => if x34 = 63 then bnd_ (f_PAT_at pat_length pat_bytes (p1 + 2)) (fun x51 => if x51 = 80 then bnd_ (f_OPG_readName pat_length opg_nameAt 0 (p1 + 1) pat_bytes (p1 + 3)) (fun x63 => some (x63.1, true, false, x63.2.1, x63.2.2.1, p2, x63.2.2.2)) else bnd_ (f_OPG_readFlags pat_length true false p2 (p1 + 1) pat_bytes (p1 + 2)) (fun x73 => some (x73.1, x73.2.1, x73.2.2.1, opg_nameAt, 0, x73.2.2.2.1, x73.2.2.2.2))) else some (true, true, false, opg_nameAt, 0, p2, p1 + 1))
set_option maxRecDepth 100000 in
set_option maxHeartbeats 4000000 in
theorem c_OPG_readOpening (l : Launch) (dC : Nat → ClassId) (dI : Nat → Nat → Nat) (cI : ClassId) (tS : Nat → Nat → Nat) (sz : Nat) (a_pat a_pat_bytes a_opg : Nat) (pat_length : Int32) (opg_numbered : Bool) (opg_flagsAlone : Bool) (opg_nameAt : Int32) (opg_nameLength : Int32) (opg_flags : Int32) (opg_after : Int32) (pat_bytes : Nat → Int32) (p1 : Int32) (p2 : Int32) (R0 : Bool × Bool × Bool × Int32 × Int32 × Int32 × Int32) (hf : f_OPG_readOpening pat_length opg_numbered opg_flagsAlone opg_nameAt opg_nameLength opg_flags opg_after pat_bytes p1 p2 = some R0) : Met l y_OPG_readOpening ws_OPG_readOpening ({ frames := 3, cells := 0, slots := 0, locals := 66 }) (va_Pc [.ref a_opg, .int p1, .int p2] (preS (dC, dI) classes [(cI, .int)] tS (w_12 cI tS a_pat a_pat_bytes a_opg pat_length opg_numbered opg_flagsAlone opg_nameAt opg_nameLength opg_flags opg_after pat_bytes) sz)) (va_Qi (fun r (_ : Unit) => r = b2i R0.1) (fun _ t => posS (dC, dI) classes [(cI, .int)] (w_12 cI tS a_pat a_pat_bytes a_opg pat_length R0.2.1 R0.2.2.1 R0.2.2.2.1 R0.2.2.2.2.1 R0.2.2.2.2.2.1 R0.2.2.2.2.2.2 pat_bytes) (va_A (w_12 cI tS a_pat a_pat_bytes a_opg pat_length opg_numbered opg_flagsAlone opg_nameAt opg_nameLength opg_flags opg_after pat_bytes) sz) t) (va_A (w_12 cI tS a_pat a_pat_bytes a_opg pat_length opg_numbered opg_flagsAlone opg_nameAt opg_nameLength opg_flags opg_after pat_bytes) sz)) 0 0 (va_A (w_12 cI tS a_pat a_pat_bytes a_opg pat_length opg_numbered opg_flagsAlone opg_nameAt opg_nameLength opg_flags opg_after pat_bytes) sz) := by
  refine Met.ofW (cc := b_OPG_readOpening) (maxL := 3) (ret := (some .boolean)) (by decide) rfl ?_
  intro p e s m args below meth c s₁ B hml hv
  obtain ⟨rfl, hsz, hP, hK, hD0, hst0⟩ := hv
  have hx := B.exec
  have hb := B.bytes
  have hr := B.returns
  have hts0 := atoms_spec (ws := ws_OPG_readOpening) B.pre
  have hts : ∀ w ∈ GW, w.before _ s = true := fun w h => hts0 w (List.mem_cons_of_mem _ h)
  have hown : s.vm.findClass R_OPG = some m.cls := findClass_of_methodNamed B.named
  have hlocks := B.notSynchronized
  subst hsz
  have hD := hD0.self (sz := s.heap.size)
  generalize hAe : va_A (w_12 cI tS a_pat a_pat_bytes a_opg pat_length opg_numbered opg_flagsAlone opg_nameAt opg_nameLength opg_flags opg_after pat_bytes) s.heap.size = A at hD hst0 ⊢
  have hA : ∀ q : Nat, s.heap.size ≤ q → A q := fun q h => by rw [← hAe]; exact Or.inr h
  have hS : va_S A s.heap s.heap [] := va_S.rf
  have hl := lv_entry ([.ref a_opg, .int p1, .int p2]) (n := 3) (Nat.le_of_ble_eq_true rfl)
  rw [lg_entry_eq]
  generalize (lg_sl ([.ref a_opg, .int p1, .int p2]) ++ List.replicate (3 - (lg_sl ([.ref a_opg, .int p1, .int p2])).length) Slot.unset).toArray = ls at hl ⊢
  have hl : lv_has ls 3 [(0, .ref a_opg), (1, .int p1), (2, .int p2)] := hl
  refine lv_aload_n hx hb d_OPG_readOpening_0 rfl (lv_at hl 0 rfl) ?_
  refine lv_iconst (v := 1) hx hb d_OPG_readOpening_1 (by decide) ?_
  refine va_put (D := (dC, dI)) (ci := 8) (v := .int (b2i true)) (ty := .boolean) (C := R_OPG) (T := F_OPG) (N := N_OPG) hx hb hts i_OPG ty_OPG ty_OPG_ok n_OPG hown hK hP hD hS 1 rfl rfl 1 (by decide) (hts _ tw_329) (fun _ h9 => h9) rfl (ty_OPG_ok 1 (by decide)) (nr_b _) (ft_b _) (Nat.le_of_ble_eq_true rfl) d_OPG_readOpening_2 (fun H locs hP hD hS => ?_)
  have hP : va_P (dC, dI) classes (w_12 cI tS a_pat a_pat_bytes a_opg pat_length true opg_flagsAlone opg_nameAt opg_nameLength opg_flags opg_after pat_bytes) H := hP
  have hD : va_D A (w_12 cI tS a_pat a_pat_bytes a_opg pat_length true opg_flagsAlone opg_nameAt opg_nameLength opg_flags opg_after pat_bytes) := hD
  refine lv_aload_n hx hb d_OPG_readOpening_5 rfl (lv_at hl 0 rfl) ?_
  refine lv_iconst (v := 0) hx hb d_OPG_readOpening_6 (by decide) ?_
  refine va_put (D := (dC, dI)) (ci := 8) (v := .int (b2i false)) (ty := .boolean) (C := R_OPG) (T := F_OPG) (N := N_OPG) hx hb hts i_OPG ty_OPG ty_OPG_ok n_OPG hown hK hP hD hS 1 rfl rfl 2 (by decide) (hts _ tw_331) (fun _ h9 => h9) rfl (ty_OPG_ok 2 (by decide)) (nr_b _) (ft_b _) (Nat.le_of_ble_eq_true rfl) d_OPG_readOpening_7 (fun H locs hP hD hS => ?_)
  have hP : va_P (dC, dI) classes (w_12 cI tS a_pat a_pat_bytes a_opg pat_length true false opg_nameAt opg_nameLength opg_flags opg_after pat_bytes) H := hP
  have hD : va_D A (w_12 cI tS a_pat a_pat_bytes a_opg pat_length true false opg_nameAt opg_nameLength opg_flags opg_after pat_bytes) := hD
  refine lv_aload_n hx hb d_OPG_readOpening_10 rfl (lv_at hl 0 rfl) ?_
  refine lv_iconst (v := 0) hx hb d_OPG_readOpening_11 (by decide) ?_
  refine va_put (D := (dC, dI)) (ci := 8) (v := .int 0) (ty := .int) (C := R_OPG) (T := F_OPG) (N := N_OPG) hx hb hts i_OPG ty_OPG ty_OPG_ok n_OPG hown hK hP hD hS 1 rfl rfl 4 (by decide) (hts _ tw_335) (fun _ h9 => h9) rfl (ty_OPG_ok 4 (by decide)) rfl rfl (Nat.le_of_ble_eq_true rfl) d_OPG_readOpening_12 (fun H locs hP hD hS => ?_)
  have hP : va_P (dC, dI) classes (w_12 cI tS a_pat a_pat_bytes a_opg pat_length true false opg_nameAt 0 opg_flags opg_after pat_bytes) H := hP
  have hD : va_D A (w_12 cI tS a_pat a_pat_bytes a_opg pat_length true false opg_nameAt 0 opg_flags opg_after pat_bytes) := hD
  refine lv_aload_n hx hb d_OPG_readOpening_15 rfl (lv_at hl 0 rfl) ?_
  refine lv_iload_n hx hb d_OPG_readOpening_16 rfl (lv_at hl 2 rfl) ?_
  refine va_put (D := (dC, dI)) (ci := 8) (v := .int p2) (ty := .int) (C := R_OPG) (T := F_OPG) (N := N_OPG) hx hb hts i_OPG ty_OPG ty_OPG_ok n_OPG hown hK hP hD hS 1 rfl rfl 5 (by decide) (hts _ tw_337) (fun _ h9 => h9) rfl (ty_OPG_ok 5 (by decide)) rfl rfl (Nat.le_of_ble_eq_true rfl) d_OPG_readOpening_17 (fun H locs hP hD hS => ?_)
  have hP : va_P (dC, dI) classes (w_12 cI tS a_pat a_pat_bytes a_opg pat_length true false opg_nameAt 0 p2 opg_after pat_bytes) H := hP
  have hD : va_D A (w_12 cI tS a_pat a_pat_bytes a_opg pat_length true false opg_nameAt 0 p2 opg_after pat_bytes) := hD
  refine lv_aload_n hx hb d_OPG_readOpening_20 rfl (lv_at hl 0 rfl) ?_
  refine lv_iload_n hx hb d_OPG_readOpening_21 rfl (lv_at hl 1 rfl) ?_
  refine lv_iconst (v := 1) hx hb d_OPG_readOpening_22 (by decide) ?_
  refine lv_iadd hx hb d_OPG_readOpening_23 ?_
  refine va_put (D := (dC, dI)) (ci := 8) (v := .int (p1 + 1)) (ty := .int) (C := R_OPG) (T := F_OPG) (N := N_OPG) hx hb hts i_OPG ty_OPG ty_OPG_ok n_OPG hown hK hP hD hS 1 rfl rfl 6 (by decide) (hts _ tw_339) (fun _ h9 => h9) rfl (ty_OPG_ok 6 (by decide)) rfl rfl (Nat.le_of_ble_eq_true rfl) d_OPG_readOpening_24 (fun H locs hP hD hS => ?_)
  have hP : va_P (dC, dI) classes (w_12 cI tS a_pat a_pat_bytes a_opg pat_length true false opg_nameAt 0 p2 (p1 + 1) pat_bytes) H := hP
  have hD : va_D A (w_12 cI tS a_pat a_pat_bytes a_opg pat_length true false opg_nameAt 0 p2 (p1 + 1) pat_bytes) := hD
  refine lv_aload_n hx hb d_OPG_readOpening_27 rfl (lv_at hl 0 rfl) ?_
  refine va_get (D := (dC, dI)) (ci := 8) (v := .ref a_pat) (C := R_OPG) (T := F_OPG) (N := N_OPG) hx hb hts i_OPG hown hK hP 1 rfl rfl 0 (by decide) (hts _ tw_328) (fun _ h9 => h9) rfl d_OPG_readOpening_28 ?_
  refine lv_iload_n hx hb d_OPG_readOpening_31 rfl (lv_at hl 1 rfl) ?_
  refine lv_iconst (v := 1) hx hb d_OPG_readOpening_32 (by decide) ?_
  refine lv_iadd hx hb d_OPG_readOpening_33 ?_
  obtain ⟨x34, hg, hf⟩ := bnd hf
  have hPc := hP.sub (ws' := (w_0 cI tS a_pat a_pat_bytes pat_length pat_bytes)) [0, 2] rfl
  have hDc := hD.sub (ws' := (w_0 cI tS a_pat a_pat_bytes pat_length pat_bytes)) [0, 2] (by decide) rfl
  have hFc := va_free (wc := (w_0 cI tS a_pat a_pat_bytes pat_length pat_bytes)) hD hS hA [0, 2] rfl
  refine cal_i (va_runV (As := [.int (p1 + 1)]) (rest := []) ⟨hx, hb, hml, hown, hts⟩ (c_PAT_at l dC dI cI tS H.size a_pat a_pat_bytes pat_length pat_bytes (p1 + 1) x34 hg) ⟨callB_of 1 hts (gN tw_586) rfl rfl rfl (hts _ tw_80) (hts _ tw_611) hd_PAT_at ⟨Nat.le_of_ble_eq_true rfl, Nat.le_of_ble_eq_true rfl⟩, hts _ tw_584, hts _ tw_585⟩ (pre_V hK hPc hDc hst0 hS hFc (va_recv hK hPc (ci := 0) (q0 := 0) rfl rfl)) rfl rfl hl.1 rfl (lv_room (Nat.le_of_ble_eq_true rfl)) d_OPG_readOpening_34 ⟨Nat.zero_le _, Nat.zero_le _⟩) hP hD hS hA [0, 2] [1] rfl rfl (by decide) (by decide) (fun H locs hP hD hS => ?_)
  have hP := hP.sub (ws' := (w_12 cI tS a_pat a_pat_bytes a_opg pat_length true false opg_nameAt 0 p2 (p1 + 1) pat_bytes)) [1, 0, 2] rfl
  have hD := hD.sub (ws' := (w_12 cI tS a_pat a_pat_bytes a_opg pat_length true false opg_nameAt 0 p2 (p1 + 1) pat_bytes)) [1, 0, 2] (by decide) rfl
  refine lv_bipush (v := 63) hx hb d_OPG_readOpening_37 (by decide) ?_
  refine lv_icmp_eq (tgt := 44) hx hb d_OPG_readOpening_39 (by decide) (fun c_ => ?_) (fun c_ => ?_)
  · have hf := f_pos c_ hf
    refine lv_aload_n hx hb d_OPG_readOpening_44 rfl (lv_at hl 0 rfl) ?_
    refine va_get (D := (dC, dI)) (ci := 8) (v := .ref a_pat) (C := R_OPG) (T := F_OPG) (N := N_OPG) hx hb hts i_OPG hown hK hP 1 rfl rfl 0 (by decide) (hts _ tw_328) (fun _ h9 => h9) rfl d_OPG_readOpening_45 ?_
    refine lv_iload_n hx hb d_OPG_readOpening_48 rfl (lv_at hl 1 rfl) ?_
    refine lv_iconst (v := 2) hx hb d_OPG_readOpening_49 (by decide) ?_
    refine lv_iadd hx hb d_OPG_readOpening_50 ?_
    obtain ⟨x51, hg, hf⟩ := bnd hf
    have hPc := hP.sub (ws' := (w_0 cI tS a_pat a_pat_bytes pat_length pat_bytes)) [0, 2] rfl
    have hDc := hD.sub (ws' := (w_0 cI tS a_pat a_pat_bytes pat_length pat_bytes)) [0, 2] (by decide) rfl
    have hFc := va_free (wc := (w_0 cI tS a_pat a_pat_bytes pat_length pat_bytes)) hD hS hA [0, 2] rfl
    refine cal_i (va_runV (As := [.int (p1 + 2)]) (rest := []) ⟨hx, hb, hml, hown, hts⟩ (c_PAT_at l dC dI cI tS H.size a_pat a_pat_bytes pat_length pat_bytes (p1 + 2) x51 hg) ⟨callB_of 1 hts (gN tw_586) rfl rfl rfl (hts _ tw_80) (hts _ tw_611) hd_PAT_at ⟨Nat.le_of_ble_eq_true rfl, Nat.le_of_ble_eq_true rfl⟩, hts _ tw_584, hts _ tw_585⟩ (pre_V hK hPc hDc hst0 hS hFc (va_recv hK hPc (ci := 0) (q0 := 0) rfl rfl)) rfl rfl hl.1 rfl (lv_room (Nat.le_of_ble_eq_true rfl)) d_OPG_readOpening_51 ⟨Nat.zero_le _, Nat.zero_le _⟩) hP hD hS hA [0, 2] [1] rfl rfl (by decide) (by decide) (fun H locs hP hD hS => ?_)
    have hP := hP.sub (ws' := (w_12 cI tS a_pat a_pat_bytes a_opg pat_length true false opg_nameAt 0 p2 (p1 + 1) pat_bytes)) [1, 0, 2] rfl
    have hD := hD.sub (ws' := (w_12 cI tS a_pat a_pat_bytes a_opg pat_length true false opg_nameAt 0 p2 (p1 + 1) pat_bytes)) [1, 0, 2] (by decide) rfl
    refine lv_bipush (v := 80) hx hb d_OPG_readOpening_54 (by decide) ?_
    refine lv_icmp_ne (tgt := 69) hx hb d_OPG_readOpening_56 (by decide) (fun c_ => ?_) (fun c_ => ?_)
    · have hf := f_neg c_ hf
      refine lv_aload_n hx hb d_OPG_readOpening_69 rfl (lv_at hl 0 rfl) ?_
      refine lv_iload_n hx hb d_OPG_readOpening_70 rfl (lv_at hl 1 rfl) ?_
      refine lv_iconst (v := 2) hx hb d_OPG_readOpening_71 (by decide) ?_
      refine lv_iadd hx hb d_OPG_readOpening_72 ?_
      obtain ⟨x73, hg, hf⟩ := bnd hf
      have hPc := hP.sub (ws' := (w_12 cI tS a_pat a_pat_bytes a_opg pat_length true false opg_nameAt 0 p2 (p1 + 1) pat_bytes)) [0, 1, 2] rfl
      have hDc := hD.sub (ws' := (w_12 cI tS a_pat a_pat_bytes a_opg pat_length true false opg_nameAt 0 p2 (p1 + 1) pat_bytes)) [0, 1, 2] (by decide) rfl
      have hFc := va_free (wc := (w_12 cI tS a_pat a_pat_bytes a_opg pat_length true false opg_nameAt 0 p2 (p1 + 1) pat_bytes)) hD hS hA [0, 1, 2] rfl
      refine cal_i (va_runV (As := [.int (p1 + 2)]) (rest := []) ⟨hx, hb, hml, hown, hts⟩ (c_OPG_readFlags l dC dI cI tS H.size a_pat a_pat_bytes a_opg pat_length true false opg_nameAt 0 p2 (p1 + 1) pat_bytes (p1 + 2) x73 hg) ⟨callB_of 1 hts (gN tw_625) rfl rfl rfl (hts _ tw_89) (hts _ tw_622) hd_OPG_readFlags ⟨Nat.le_of_ble_eq_true rfl, Nat.le_of_ble_eq_true rfl⟩, hts _ tw_624, hts _ tw_4⟩ (pre_V hK hPc hDc hst0 hS hFc (va_recv hK hPc (ci := 8) (q0 := 1) rfl rfl)) rfl rfl hl.1 rfl (lv_room (Nat.le_of_ble_eq_true rfl)) d_OPG_readOpening_73 ⟨Nat.zero_le _, Nat.zero_le _⟩) hP hD hS hA [0, 1, 2] [] rfl rfl (by decide) (by decide) (fun H locs hP hD hS => ?_)
      have hP := hP.sub (ws' := (w_12 cI tS a_pat a_pat_bytes a_opg pat_length x73.2.1 x73.2.2.1 opg_nameAt 0 x73.2.2.2.1 x73.2.2.2.2 pat_bytes)) [0, 1, 2] rfl
      have hD := hD.sub (ws' := (w_12 cI tS a_pat a_pat_bytes a_opg pat_length x73.2.1 x73.2.2.1 opg_nameAt 0 x73.2.2.2.1 x73.2.2.2.2 pat_bytes)) [0, 1, 2] (by decide) rfl
      obtain rfl := Option.some.inj hf
      exact W.zret (v := b2i x73.1) hx hb hr (nr_b _) (fun t ht hW => ⟨⟨_, (), rfl, rfl, ⟨by rw [ht]; exact hP, va_K.moved hW.alike hK, hD⟩⟩, hS.F ht⟩) hS.2.2 d_OPG_readOpening_76
    · have hf := f_pos c_ hf
      refine lv_aload_n hx hb d_OPG_readOpening_59 rfl (lv_at hl 0 rfl) ?_
      refine lv_iload_n hx hb d_OPG_readOpening_60 rfl (lv_at hl 1 rfl) ?_
      refine lv_iconst (v := 3) hx hb d_OPG_readOpening_61 (by decide) ?_
      refine lv_iadd hx hb d_OPG_readOpening_62 ?_
      obtain ⟨x63, hg, hf⟩ := bnd hf
      have hPc := hP.sub (ws' := (w_12 cI tS a_pat a_pat_bytes a_opg pat_length true false opg_nameAt 0 p2 (p1 + 1) pat_bytes)) [0, 1, 2] rfl
      have hDc := hD.sub (ws' := (w_12 cI tS a_pat a_pat_bytes a_opg pat_length true false opg_nameAt 0 p2 (p1 + 1) pat_bytes)) [0, 1, 2] (by decide) rfl
      have hFc := va_free (wc := (w_12 cI tS a_pat a_pat_bytes a_opg pat_length true false opg_nameAt 0 p2 (p1 + 1) pat_bytes)) hD hS hA [0, 1, 2] rfl
      refine cal_i (va_runV (As := [.int (p1 + 3)]) (rest := []) ⟨hx, hb, hml, hown, hts⟩ (c_OPG_readName l dC dI cI tS H.size a_pat a_pat_bytes a_opg pat_length true false opg_nameAt 0 p2 (p1 + 1) pat_bytes (p1 + 3) x63 hg) ⟨callB_of 1 hts (gN tw_615) rfl rfl rfl (hts _ tw_89) (hts _ tw_612) hd_OPG_readName ⟨Nat.le_of_ble_eq_true rfl, Nat.le_of_ble_eq_true rfl⟩, hts _ tw_614, hts _ tw_3⟩ (pre_V hK hPc hDc hst0 hS hFc (va_recv hK hPc (ci := 8) (q0 := 1) rfl rfl)) rfl rfl hl.1 rfl (lv_room (Nat.le_of_ble_eq_true rfl)) d_OPG_readOpening_63 ⟨Nat.zero_le _, Nat.zero_le _⟩) hP hD hS hA [0, 1, 2] [] rfl rfl (by decide) (by decide) (fun H locs hP hD hS => ?_)
      have hP := hP.sub (ws' := (w_12 cI tS a_pat a_pat_bytes a_opg pat_length true false x63.2.1 x63.2.2.1 p2 x63.2.2.2 pat_bytes)) [0, 1, 2] rfl
      have hD := hD.sub (ws' := (w_12 cI tS a_pat a_pat_bytes a_opg pat_length true false x63.2.1 x63.2.2.1 p2 x63.2.2.2 pat_bytes)) [0, 1, 2] (by decide) rfl
      refine lv_goto (tgt := 76) hx hb d_OPG_readOpening_66 (by decide) ?_
      obtain rfl := Option.some.inj hf
      exact W.zret (v := b2i x63.1) hx hb hr (nr_b _) (fun t ht hW => ⟨⟨_, (), rfl, rfl, ⟨by rw [ht]; exact hP, va_K.moved hW.alike hK, hD⟩⟩, hS.F ht⟩) hS.2.2 d_OPG_readOpening_76
  · have hf := f_neg c_ hf
    refine lv_iconst (v := 1) hx hb d_OPG_readOpening_42 (by decide) ?_
    obtain rfl := Option.some.inj hf
    exact W.zret (v := b2i true) hx hb hr (nr_b _) (fun t ht hW => ⟨⟨_, (), rfl, rfl, ⟨by rw [ht]; exact hP, va_K.moved hW.alike hK, hD⟩⟩, hS.F ht⟩) hS.2.2 d_OPG_readOpening_43
def f_MIS_tell (mis_number : Int32) (mis_place : Int32) (p1 : Int32) (p2 : Int32) : Option (Int32 × Int32) :=
  if mis_number = 0 then some (p1, p2) else some (mis_number, mis_place)
set_option maxRecDepth 100000 in
set_option maxHeartbeats 4000000 in
theorem c_MIS_tell (l : Launch) (dC : Nat → ClassId) (dI : Nat → Nat → Nat) (cI : ClassId) (tS : Nat → Nat → Nat) (sz : Nat) (a_mis : Nat) (mis_number : Int32) (mis_place : Int32) (p1 : Int32) (p2 : Int32) (R0 : Int32 × Int32) (hf : f_MIS_tell mis_number mis_place p1 p2 = some R0) : Met l y_MIS_tell ws_MIS_tell ({ frames := 0, cells := 0, slots := 0, locals := 0 }) (va_Pc [.ref a_mis, .int p1, .int p2] (preS (dC, dI) classes [(cI, .int)] tS (w_2 cI tS a_mis mis_number mis_place) sz)) (va_Qv (fun _ : Unit => True) (fun _ t => posS (dC, dI) classes [(cI, .int)] (w_2 cI tS a_mis R0.1 R0.2) (va_A (w_2 cI tS a_mis mis_number mis_place) sz) t) (va_A (w_2 cI tS a_mis mis_number mis_place) sz)) 0 0 (va_A (w_2 cI tS a_mis mis_number mis_place) sz) := by
  refine Met.ofW (cc := b_MIS_tell) (maxL := 3) (ret := none) (by decide) rfl ?_
  intro p e s m args below meth c s₁ B hml hv
  obtain ⟨rfl, hsz, hP, hK, hD0, hst0⟩ := hv
  have hx := B.exec
  have hb := B.bytes
  have hr := B.returns
  have hts0 := atoms_spec (ws := ws_MIS_tell) B.pre
  have hts : ∀ w ∈ GW, w.before _ s = true := fun w h => hts0 w (List.mem_cons_of_mem _ h)
  have hown : s.vm.findClass R_MIS = some m.cls := findClass_of_methodNamed B.named
  have hlocks := B.notSynchronized
  subst hsz
  have hD := hD0.self (sz := s.heap.size)
  generalize hAe : va_A (w_2 cI tS a_mis mis_number mis_place) s.heap.size = A at hD hst0 ⊢
  have hA : ∀ q : Nat, s.heap.size ≤ q → A q := fun q h => by rw [← hAe]; exact Or.inr h
  have hS : va_S A s.heap s.heap [] := va_S.rf
  have hl := lv_entry ([.ref a_mis, .int p1, .int p2]) (n := 3) (Nat.le_of_ble_eq_true rfl)
  rw [lg_entry_eq]
  generalize (lg_sl ([.ref a_mis, .int p1, .int p2]) ++ List.replicate (3 - (lg_sl ([.ref a_mis, .int p1, .int p2])).length) Slot.unset).toArray = ls at hl ⊢
  have hl : lv_has ls 3 [(0, .ref a_mis), (1, .int p1), (2, .int p2)] := hl
  refine lv_aload_n hx hb d_MIS_tell_0 rfl (lv_at hl 0 rfl) ?_
  refine va_get (D := (dC, dI)) (ci := 1) (v := .int mis_number) (C := R_MIS) (T := F_MIS) (N := N_MIS) hx hb hts i_MIS hown hK hP 0 rfl rfl 0 (by decide) (hts _ tw_133) (fun _ h9 => h9) rfl d_MIS_tell_1 ?_
  refine lv_if_ne (tgt := 17) hx hb d_MIS_tell_4 (by decide) (fun c_ => ?_) (fun c_ => ?_)
  · have hf := f_neg c_ hf
    obtain rfl := Option.some.inj hf
    exact W.vret hx hb hr (fun t ht hW => ⟨⟨(), rfl, trivial, ⟨by rw [ht]; exact hP, va_K.moved hW.alike hK, hD⟩⟩, hS.F ht⟩) hS.2.2 d_MIS_tell_17
  · have hf := f_pos c_ hf
    refine lv_aload_n hx hb d_MIS_tell_7 rfl (lv_at hl 0 rfl) ?_
    refine lv_iload_n hx hb d_MIS_tell_8 rfl (lv_at hl 1 rfl) ?_
    refine va_put (D := (dC, dI)) (ci := 1) (v := .int p1) (ty := .int) (C := R_MIS) (T := F_MIS) (N := N_MIS) hx hb hts i_MIS ty_MIS ty_MIS_ok n_MIS hown hK hP hD hS 0 rfl rfl 0 (by decide) (hts _ tw_133) (fun _ h9 => h9) rfl (ty_MIS_ok 0 (by decide)) rfl rfl (Nat.le_of_ble_eq_true rfl) d_MIS_tell_9 (fun H locs hP hD hS => ?_)
    have hP : va_P (dC, dI) classes (w_2 cI tS a_mis p1 mis_place) H := hP
    have hD : va_D A (w_2 cI tS a_mis p1 mis_place) := hD
    refine lv_aload_n hx hb d_MIS_tell_12 rfl (lv_at hl 0 rfl) ?_
    refine lv_iload_n hx hb d_MIS_tell_13 rfl (lv_at hl 2 rfl) ?_
    refine va_put (D := (dC, dI)) (ci := 1) (v := .int p2) (ty := .int) (C := R_MIS) (T := F_MIS) (N := N_MIS) hx hb hts i_MIS ty_MIS ty_MIS_ok n_MIS hown hK hP hD hS 0 rfl rfl 1 (by decide) (hts _ tw_136) (fun _ h9 => h9) rfl (ty_MIS_ok 1 (by decide)) rfl rfl (Nat.le_of_ble_eq_true rfl) d_MIS_tell_14 (fun H locs hP hD hS => ?_)
    have hP : va_P (dC, dI) classes (w_2 cI tS a_mis p1 p2) H := hP
    have hD : va_D A (w_2 cI tS a_mis p1 p2) := hD
    obtain rfl := Option.some.inj hf
    exact W.vret hx hb hr (fun t ht hW => ⟨⟨(), rfl, trivial, ⟨by rw [ht]; exact hP, va_K.moved hW.alike hK, hD⟩⟩, hS.F ht⟩) hS.2.2 d_MIS_tell_17
def f_TRE_addLeaf (tre_nodes : Int32) (tre_ranges : Int32) (tre_waits : Int32) (tre_kinds : Nat → Int32) (tre_values : Nat → Int32) (tre_mosts : Nat → Int32) (tre_owners : Nat → Int32) (tre_sizes : Nat → Int32) (tre_firstRanges : Nat → Int32) (tre_rangeCounts : Nat → Int32) (tre_waiting : Nat → Int32) (p1 : Int32) (p2 : Int32) (p3 : Int32) : Option (Int32 × Int32 × (Nat → Int32) × (Nat → Int32) × (Nat → Int32) × (Nat → Int32) × (Nat → Int32) × (Nat → Int32) × (Nat → Int32) × (Nat → Int32)) :=
  bnd_ (f_TRE_addOver tre_nodes tre_ranges tre_waits tre_kinds tre_values tre_mosts tre_owners tre_sizes tre_firstRanges tre_rangeCounts tre_waiting 0 p1 p2 (-1) p3) (fun x6 => some (x6.1, x6.2.1, x6.2.2.1, x6.2.2.2.1, x6.2.2.2.2.1, x6.2.2.2.2.2.1, x6.2.2.2.2.2.2.1, x6.2.2.2.2.2.2.2.1, x6.2.2.2.2.2.2.2.2.1, x6.2.2.2.2.2.2.2.2.2))
set_option maxRecDepth 100000 in
set_option maxHeartbeats 4000000 in
theorem c_TRE_addLeaf (l : Launch) (dC : Nat → ClassId) (dI : Nat → Nat → Nat) (cI : ClassId) (tS : Nat → Nat → Nat) (sz : Nat) (a_tre a_tre_kinds a_tre_values a_tre_mosts a_tre_owners a_tre_sizes a_tre_firstRanges a_tre_rangeCounts a_tre_begins a_tre_ends a_tre_waiting : Nat) (tre_nodes : Int32) (tre_ranges : Int32) (tre_waits : Int32) (tre_kinds : Nat → Int32) (tre_values : Nat → Int32) (tre_mosts : Nat → Int32) (tre_owners : Nat → Int32) (tre_sizes : Nat → Int32) (tre_firstRanges : Nat → Int32) (tre_rangeCounts : Nat → Int32) (tre_waiting : Nat → Int32) (p1 : Int32) (p2 : Int32) (p3 : Int32) (R0 : Int32 × Int32 × (Nat → Int32) × (Nat → Int32) × (Nat → Int32) × (Nat → Int32) × (Nat → Int32) × (Nat → Int32) × (Nat → Int32) × (Nat → Int32)) (hf : f_TRE_addLeaf tre_nodes tre_ranges tre_waits tre_kinds tre_values tre_mosts tre_owners tre_sizes tre_firstRanges tre_rangeCounts tre_waiting p1 p2 p3 = some R0) : Met l y_TRE_addLeaf ws_TRE_addLeaf ({ frames := 2, cells := 0, slots := 0, locals := 47 }) (va_Pc [.ref a_tre, .int p1, .int p2, .int p3] (preS (dC, dI) classes [(cI, .int)] tS (w_9 cI tS a_tre a_tre_kinds a_tre_values a_tre_mosts a_tre_owners a_tre_sizes a_tre_firstRanges a_tre_rangeCounts a_tre_begins a_tre_ends a_tre_waiting tre_nodes tre_ranges tre_waits tre_kinds tre_values tre_mosts tre_owners tre_sizes tre_firstRanges tre_rangeCounts tre_waiting) sz)) (va_Qv (fun _ : Unit => True) (fun _ t => posS (dC, dI) classes [(cI, .int)] (w_9 cI tS a_tre a_tre_kinds a_tre_values a_tre_mosts a_tre_owners a_tre_sizes a_tre_firstRanges a_tre_rangeCounts a_tre_begins a_tre_ends a_tre_waiting R0.1 tre_ranges R0.2.1 R0.2.2.1 R0.2.2.2.1 R0.2.2.2.2.1 R0.2.2.2.2.2.1 R0.2.2.2.2.2.2.1 R0.2.2.2.2.2.2.2.1 R0.2.2.2.2.2.2.2.2.1 R0.2.2.2.2.2.2.2.2.2) (va_A (w_9 cI tS a_tre a_tre_kinds a_tre_values a_tre_mosts a_tre_owners a_tre_sizes a_tre_firstRanges a_tre_rangeCounts a_tre_begins a_tre_ends a_tre_waiting tre_nodes tre_ranges tre_waits tre_kinds tre_values tre_mosts tre_owners tre_sizes tre_firstRanges tre_rangeCounts tre_waiting) sz) t) (va_A (w_9 cI tS a_tre a_tre_kinds a_tre_values a_tre_mosts a_tre_owners a_tre_sizes a_tre_firstRanges a_tre_rangeCounts a_tre_begins a_tre_ends a_tre_waiting tre_nodes tre_ranges tre_waits tre_kinds tre_values tre_mosts tre_owners tre_sizes tre_firstRanges tre_rangeCounts tre_waiting) sz)) 0 0 (va_A (w_9 cI tS a_tre a_tre_kinds a_tre_values a_tre_mosts a_tre_owners a_tre_sizes a_tre_firstRanges a_tre_rangeCounts a_tre_begins a_tre_ends a_tre_waiting tre_nodes tre_ranges tre_waits tre_kinds tre_values tre_mosts tre_owners tre_sizes tre_firstRanges tre_rangeCounts tre_waiting) sz) := by
  refine Met.ofW (cc := b_TRE_addLeaf) (maxL := 4) (ret := none) (by decide) rfl ?_
  intro p e s m args below meth c s₁ B hml hv
  obtain ⟨rfl, hsz, hP, hK, hD0, hst0⟩ := hv
  have hx := B.exec
  have hb := B.bytes
  have hr := B.returns
  have hts0 := atoms_spec (ws := ws_TRE_addLeaf) B.pre
  have hts : ∀ w ∈ GW, w.before _ s = true := fun w h => hts0 w (List.mem_cons_of_mem _ h)
  have hown : s.vm.findClass R_TRE = some m.cls := findClass_of_methodNamed B.named
  have hlocks := B.notSynchronized
  subst hsz
  have hD := hD0.self (sz := s.heap.size)
  generalize hAe : va_A (w_9 cI tS a_tre a_tre_kinds a_tre_values a_tre_mosts a_tre_owners a_tre_sizes a_tre_firstRanges a_tre_rangeCounts a_tre_begins a_tre_ends a_tre_waiting tre_nodes tre_ranges tre_waits tre_kinds tre_values tre_mosts tre_owners tre_sizes tre_firstRanges tre_rangeCounts tre_waiting) s.heap.size = A at hD hst0 ⊢
  have hA : ∀ q : Nat, s.heap.size ≤ q → A q := fun q h => by rw [← hAe]; exact Or.inr h
  have hS : va_S A s.heap s.heap [] := va_S.rf
  have hl := lv_entry ([.ref a_tre, .int p1, .int p2, .int p3]) (n := 4) (Nat.le_of_ble_eq_true rfl)
  rw [lg_entry_eq]
  generalize (lg_sl ([.ref a_tre, .int p1, .int p2, .int p3]) ++ List.replicate (4 - (lg_sl ([.ref a_tre, .int p1, .int p2, .int p3])).length) Slot.unset).toArray = ls at hl ⊢
  have hl : lv_has ls 4 [(0, .ref a_tre), (1, .int p1), (2, .int p2), (3, .int p3)] := hl
  refine lv_aload_n hx hb d_TRE_addLeaf_0 rfl (lv_at hl 0 rfl) ?_
  refine lv_iconst (v := 0) hx hb d_TRE_addLeaf_1 (by decide) ?_
  refine lv_iload_n hx hb d_TRE_addLeaf_2 rfl (lv_at hl 1 rfl) ?_
  refine lv_iload_n hx hb d_TRE_addLeaf_3 rfl (lv_at hl 2 rfl) ?_
  refine lv_iconst (v := (-1)) hx hb d_TRE_addLeaf_4 (by decide) ?_
  refine lv_iload_n hx hb d_TRE_addLeaf_5 rfl (lv_at hl 3 rfl) ?_
  obtain ⟨x6, hg, hf⟩ := bnd hf
  have hPc := hP.sub (ws' := (w_9 cI tS a_tre a_tre_kinds a_tre_values a_tre_mosts a_tre_owners a_tre_sizes a_tre_firstRanges a_tre_rangeCounts a_tre_begins a_tre_ends a_tre_waiting tre_nodes tre_ranges tre_waits tre_kinds tre_values tre_mosts tre_owners tre_sizes tre_firstRanges tre_rangeCounts tre_waiting)) [0, 1, 2, 3, 4, 5, 6, 7, 8] rfl
  have hDc := hD.sub (ws' := (w_9 cI tS a_tre a_tre_kinds a_tre_values a_tre_mosts a_tre_owners a_tre_sizes a_tre_firstRanges a_tre_rangeCounts a_tre_begins a_tre_ends a_tre_waiting tre_nodes tre_ranges tre_waits tre_kinds tre_values tre_mosts tre_owners tre_sizes tre_firstRanges tre_rangeCounts tre_waiting)) [0, 1, 2, 3, 4, 5, 6, 7, 8] (by decide) rfl
  have hFc := va_free (wc := (w_9 cI tS a_tre a_tre_kinds a_tre_values a_tre_mosts a_tre_owners a_tre_sizes a_tre_firstRanges a_tre_rangeCounts a_tre_begins a_tre_ends a_tre_waiting tre_nodes tre_ranges tre_waits tre_kinds tre_values tre_mosts tre_owners tre_sizes tre_firstRanges tre_rangeCounts tre_waiting)) hD hS hA [0, 1, 2, 3, 4, 5, 6, 7, 8] rfl
  refine cal_v (va_runV (As := [.int 0, .int p1, .int p2, .int (-1), .int p3]) (rest := []) ⟨hx, hb, hml, hown, hts⟩ (c_TRE_addOver l dC dI cI tS s.heap.size a_tre a_tre_kinds a_tre_values a_tre_mosts a_tre_owners a_tre_sizes a_tre_firstRanges a_tre_rangeCounts a_tre_begins a_tre_ends a_tre_waiting tre_nodes tre_ranges tre_waits tre_kinds tre_values tre_mosts tre_owners tre_sizes tre_firstRanges tre_rangeCounts tre_waiting 0 p1 p2 (-1) p3 x6 hg) ⟨callB_of 5 hts (gN tw_598) rfl rfl rfl (hts _ tw_82) (hts _ tw_641) hd_TRE_addOver ⟨Nat.le_of_ble_eq_true rfl, Nat.le_of_ble_eq_true rfl⟩, hts _ tw_596, hts _ tw_597⟩ (pre_V hK hPc hDc hst0 hS hFc (va_recv hK hPc (ci := 3) (q0 := 0) rfl rfl)) rfl rfl hl.1 rfl (lv_room (Nat.le_of_ble_eq_true rfl)) d_TRE_addLeaf_6 ⟨Nat.zero_le _, Nat.zero_le _⟩) hP hD hS hA [0, 1, 2, 3, 4, 5, 6, 7, 8] [] rfl rfl (by decide) (by decide) (fun H locs hP hD hS => ?_)
  have hP := hP.sub (ws' := (w_9 cI tS a_tre a_tre_kinds a_tre_values a_tre_mosts a_tre_owners a_tre_sizes a_tre_firstRanges a_tre_rangeCounts a_tre_begins a_tre_ends a_tre_waiting x6.1 tre_ranges x6.2.1 x6.2.2.1 x6.2.2.2.1 x6.2.2.2.2.1 x6.2.2.2.2.2.1 x6.2.2.2.2.2.2.1 x6.2.2.2.2.2.2.2.1 x6.2.2.2.2.2.2.2.2.1 x6.2.2.2.2.2.2.2.2.2)) [0, 1, 2, 3, 4, 5, 6, 7, 8] rfl
  have hD := hD.sub (ws' := (w_9 cI tS a_tre a_tre_kinds a_tre_values a_tre_mosts a_tre_owners a_tre_sizes a_tre_firstRanges a_tre_rangeCounts a_tre_begins a_tre_ends a_tre_waiting x6.1 tre_ranges x6.2.1 x6.2.2.1 x6.2.2.2.1 x6.2.2.2.2.1 x6.2.2.2.2.2.1 x6.2.2.2.2.2.2.1 x6.2.2.2.2.2.2.2.1 x6.2.2.2.2.2.2.2.2.1 x6.2.2.2.2.2.2.2.2.2)) [0, 1, 2, 3, 4, 5, 6, 7, 8] (by decide) rfl
  obtain rfl := Option.some.inj hf
  exact W.vret hx hb hr (fun t ht hW => ⟨⟨(), rfl, trivial, ⟨by rw [ht]; exact hP, va_K.moved hW.alike hK, hD⟩⟩, hS.F ht⟩) hS.2.2 d_TRE_addLeaf_9
def f_RDR_partDone (opn_depth : Int32) (rdr_place : Int32) (rdr_repeatable : Bool) (opn_parts : Nat → Int32) (p1 : Int32) (p2 : Bool) : Option (Int32 × Bool × (Nat → Int32)) :=
  grd (inb opn_depth 31) (grd (inb opn_depth 31) (some (p1, p2, upd opn_parts opn_depth.toNatClampNeg ((opn_parts opn_depth.toNatClampNeg) + 1))))
set_option maxRecDepth 100000 in
set_option maxHeartbeats 4000000 in
theorem c_RDR_partDone (l : Launch) (dC : Nat → ClassId) (dI : Nat → Nat → Nat) (cI : ClassId) (tS : Nat → Nat → Nat) (sz : Nat) (a_opn a_opn_places a_opn_numbers a_opn_flagsAround a_opn_rows a_opn_parts a_rdr a_pat a_mis a_tre a_grp a_set a_esc a_cls a_opg a_rep : Nat) (opn_depth : Int32) (rdr_place : Int32) (rdr_flags : Int32) (rdr_repeatable : Bool) (opn_parts : Nat → Int32) (p1 : Int32) (p2 : Bool) (R0 : Int32 × Bool × (Nat → Int32)) (hf : f_RDR_partDone opn_depth rdr_place rdr_repeatable opn_parts p1 p2 = some R0) : Met l y_RDR_partDone ws_RDR_partDone ({ frames := 0, cells := 0, slots := 0, locals := 0 }) (va_Pc [.ref a_rdr, .int p1, .int (b2i p2)] (preS (dC, dI) classes [(cI, .int)] tS (w_13 cI tS a_opn a_opn_places a_opn_numbers a_opn_flagsAround a_opn_rows a_opn_parts a_rdr a_pat a_mis a_tre a_grp a_set a_esc a_cls a_opg a_rep opn_depth rdr_place rdr_flags rdr_repeatable opn_parts) sz)) (va_Qv (fun _ : Unit => True) (fun _ t => posS (dC, dI) classes [(cI, .int)] (w_13 cI tS a_opn a_opn_places a_opn_numbers a_opn_flagsAround a_opn_rows a_opn_parts a_rdr a_pat a_mis a_tre a_grp a_set a_esc a_cls a_opg a_rep opn_depth R0.1 rdr_flags R0.2.1 R0.2.2) (va_A (w_13 cI tS a_opn a_opn_places a_opn_numbers a_opn_flagsAround a_opn_rows a_opn_parts a_rdr a_pat a_mis a_tre a_grp a_set a_esc a_cls a_opg a_rep opn_depth rdr_place rdr_flags rdr_repeatable opn_parts) sz) t) (va_A (w_13 cI tS a_opn a_opn_places a_opn_numbers a_opn_flagsAround a_opn_rows a_opn_parts a_rdr a_pat a_mis a_tre a_grp a_set a_esc a_cls a_opg a_rep opn_depth rdr_place rdr_flags rdr_repeatable opn_parts) sz)) 0 0 (va_A (w_13 cI tS a_opn a_opn_places a_opn_numbers a_opn_flagsAround a_opn_rows a_opn_parts a_rdr a_pat a_mis a_tre a_grp a_set a_esc a_cls a_opg a_rep opn_depth rdr_place rdr_flags rdr_repeatable opn_parts) sz) := by
  refine Met.ofW (cc := b_RDR_partDone) (maxL := 3) (ret := none) (by decide) rfl ?_
  intro p e s m args below meth c s₁ B hml hv
  obtain ⟨rfl, hsz, hP, hK, hD0, hst0⟩ := hv
  have hx := B.exec
  have hb := B.bytes
  have hr := B.returns
  have hts0 := atoms_spec (ws := ws_RDR_partDone) B.pre
  have hts : ∀ w ∈ GW, w.before _ s = true := fun w h => hts0 w (List.mem_cons_of_mem _ h)
  have hown : s.vm.findClass R_RDR = some m.cls := findClass_of_methodNamed B.named
  have hlocks := B.notSynchronized
  subst hsz
  have hD := hD0.self (sz := s.heap.size)
  generalize hAe : va_A (w_13 cI tS a_opn a_opn_places a_opn_numbers a_opn_flagsAround a_opn_rows a_opn_parts a_rdr a_pat a_mis a_tre a_grp a_set a_esc a_cls a_opg a_rep opn_depth rdr_place rdr_flags rdr_repeatable opn_parts) s.heap.size = A at hD hst0 ⊢
  have hA : ∀ q : Nat, s.heap.size ≤ q → A q := fun q h => by rw [← hAe]; exact Or.inr h
  have hS : va_S A s.heap s.heap [] := va_S.rf
  have hl := lv_entry ([.ref a_rdr, .int p1, .int (b2i p2)]) (n := 3) (Nat.le_of_ble_eq_true rfl)
  rw [lg_entry_eq]
  generalize (lg_sl ([.ref a_rdr, .int p1, .int (b2i p2)]) ++ List.replicate (3 - (lg_sl ([.ref a_rdr, .int p1, .int (b2i p2)])).length) Slot.unset).toArray = ls at hl ⊢
  have hl : lv_has ls 3 [(0, .ref a_rdr), (1, .int p1), (2, .int (b2i p2))] := hl
  refine lv_aload_n hx hb d_RDR_partDone_0 rfl (lv_at hl 0 rfl) ?_
  refine va_get (D := (dC, dI)) (ci := 10) (v := .ref a_opn) (C := R_RDR) (T := F_RDR) (N := N_RDR) hx hb hts i_RDR hown hK hP 1 rfl rfl 4 (by decide) (hts _ tw_389) (fun _ h9 => h9) rfl d_RDR_partDone_1 ?_
  refine va_getN (D := (dC, dI)) (ci := 5) (v := .ref a_opn_parts) (C := R_OPN) (T := F_OPN) (N := N_OPN) hx hb hts i_OPN hown hK hP 0 rfl rfl 4 (by decide) (va_Nw.use rfl (hst0.2.1 _ tn_228)) (fun _ h9 => h9) rfl d_RDR_partDone_4 ?_
  refine lv_aload_n hx hb d_RDR_partDone_7 rfl (lv_at hl 0 rfl) ?_
  refine va_get (D := (dC, dI)) (ci := 10) (v := .ref a_opn) (C := R_RDR) (T := F_RDR) (N := N_RDR) hx hb hts i_RDR hown hK hP 1 rfl rfl 4 (by decide) (hts _ tw_389) (fun _ h9 => h9) rfl d_RDR_partDone_8 ?_
  refine va_getN (D := (dC, dI)) (ci := 5) (v := .int opn_depth) (C := R_OPN) (T := F_OPN) (N := N_OPN) hx hb hts i_OPN hown hK hP 0 rfl rfl 5 (by decide) (va_Nw.use rfl (hst0.2.1 _ tn_230)) (fun _ h9 => h9) rfl d_RDR_partDone_11 ?_
  refine lv_dup2_11 hx hb d_RDR_partDone_14 rfl rfl ?_
  obtain ⟨hin, hf⟩ := grd_in hf
  refine va_iald hx hb hK hP 2 0 rfl rfl hin d_RDR_partDone_15 ?_
  refine lv_iconst (v := 1) hx hb d_RDR_partDone_16 (by decide) ?_
  refine lv_iadd hx hb d_RDR_partDone_17 ?_
  obtain ⟨hin, hf⟩ := grd_in hf
  refine va_iast hx hb hK hP hD hS 2 0 rfl rfl hin d_RDR_partDone_18 (fun H locs hP hD hS => ?_)
  have hP : va_P (dC, dI) classes (w_13 cI tS a_opn a_opn_places a_opn_numbers a_opn_flagsAround a_opn_rows a_opn_parts a_rdr a_pat a_mis a_tre a_grp a_set a_esc a_cls a_opg a_rep opn_depth rdr_place rdr_flags rdr_repeatable (upd opn_parts opn_depth.toNatClampNeg ((opn_parts opn_depth.toNatClampNeg) + 1))) H := hP
  have hD : va_D A (w_13 cI tS a_opn a_opn_places a_opn_numbers a_opn_flagsAround a_opn_rows a_opn_parts a_rdr a_pat a_mis a_tre a_grp a_set a_esc a_cls a_opg a_rep opn_depth rdr_place rdr_flags rdr_repeatable (upd opn_parts opn_depth.toNatClampNeg ((opn_parts opn_depth.toNatClampNeg) + 1))) := hD
  refine lv_aload_n hx hb d_RDR_partDone_19 rfl (lv_at hl 0 rfl) ?_
  refine lv_iload_n hx hb d_RDR_partDone_20 rfl (lv_at hl 2 rfl) ?_
  refine va_put (D := (dC, dI)) (ci := 10) (v := .int (b2i p2)) (ty := .boolean) (C := R_RDR) (T := F_RDR) (N := N_RDR) hx hb hts i_RDR ty_RDR ty_RDR_ok n_RDR hown hK hP hD hS 1 rfl rfl 12 (by decide) (hts _ tw_397) (fun _ h9 => h9) rfl (ty_RDR_ok 12 (by decide)) (nr_b _) (ft_b _) (Nat.le_of_ble_eq_true rfl) d_RDR_partDone_21 (fun H locs hP hD hS => ?_)
  have hP : va_P (dC, dI) classes (w_13 cI tS a_opn a_opn_places a_opn_numbers a_opn_flagsAround a_opn_rows a_opn_parts a_rdr a_pat a_mis a_tre a_grp a_set a_esc a_cls a_opg a_rep opn_depth rdr_place rdr_flags p2 (upd opn_parts opn_depth.toNatClampNeg ((opn_parts opn_depth.toNatClampNeg) + 1))) H := hP
  have hD : va_D A (w_13 cI tS a_opn a_opn_places a_opn_numbers a_opn_flagsAround a_opn_rows a_opn_parts a_rdr a_pat a_mis a_tre a_grp a_set a_esc a_cls a_opg a_rep opn_depth rdr_place rdr_flags p2 (upd opn_parts opn_depth.toNatClampNeg ((opn_parts opn_depth.toNatClampNeg) + 1))) := hD
  refine lv_aload_n hx hb d_RDR_partDone_24 rfl (lv_at hl 0 rfl) ?_
  refine lv_iload_n hx hb d_RDR_partDone_25 rfl (lv_at hl 1 rfl) ?_
  refine va_put (D := (dC, dI)) (ci := 10) (v := .int p1) (ty := .int) (C := R_RDR) (T := F_RDR) (N := N_RDR) hx hb hts i_RDR ty_RDR ty_RDR_ok n_RDR hown hK hP hD hS 1 rfl rfl 10 (by decide) (hts _ tw_395) (fun _ h9 => h9) rfl (ty_RDR_ok 10 (by decide)) rfl rfl (Nat.le_of_ble_eq_true rfl) d_RDR_partDone_26 (fun H locs hP hD hS => ?_)
  have hP : va_P (dC, dI) classes (w_13 cI tS a_opn a_opn_places a_opn_numbers a_opn_flagsAround a_opn_rows a_opn_parts a_rdr a_pat a_mis a_tre a_grp a_set a_esc a_cls a_opg a_rep opn_depth p1 rdr_flags p2 (upd opn_parts opn_depth.toNatClampNeg ((opn_parts opn_depth.toNatClampNeg) + 1))) H := hP
  have hD : va_D A (w_13 cI tS a_opn a_opn_places a_opn_numbers a_opn_flagsAround a_opn_rows a_opn_parts a_rdr a_pat a_mis a_tre a_grp a_set a_esc a_cls a_opg a_rep opn_depth p1 rdr_flags p2 (upd opn_parts opn_depth.toNatClampNeg ((opn_parts opn_depth.toNatClampNeg) + 1))) := hD
  obtain rfl := Option.some.inj hf
  exact W.vret hx hb hr (fun t ht hW => ⟨⟨(), rfl, trivial, ⟨by rw [ht]; exact hP, va_K.moved hW.alike hK, hD⟩⟩, hS.F ht⟩) hS.2.2 d_RDR_partDone_29
def f_GRP_isNamed_B3 (pat_length : Int32) (pat_bytes : Nat → Int32) (grp_lengths : Nat → Int32) (grp_letters : Nat → Int32) (p1 : Int32) (p3 : Int32) (K3 : Int32 → Option Bool) (v4 : Int32) : Option Bool :=
  grd (inb p1 10) (if (grp_lengths p1.toNatClampNeg) ≤ v4 then some true else grd (inb ((p1 * 12) + v4) 120) (bnd_ (f_PAT_at pat_length pat_bytes (p3 + v4)) (fun x31 => if (grp_letters ((p1 * 12) + v4).toNatClampNeg) = x31 then K3 (v4 + 1) else some false)))
def f_GRP_isNamed_L3 (pat_length : Int32) (pat_bytes : Nat → Int32) (grp_lengths : Nat → Int32) (grp_letters : Nat → Int32) (p1 : Int32) (p3 : Int32) (n : Nat) (a : Int32) : Option Bool :=
  lpF (fun K3 v => f_GRP_isNamed_B3 pat_length pat_bytes grp_lengths grp_letters p1 p3  K3 v) n a
def f_GRP_isNamed (pat_length : Int32) (pat_bytes : Nat → Int32) (grp_lengths : Nat → Int32) (grp_letters : Nat → Int32) (p1 : Int32) (p3 : Int32) : Option Bool :=
  f_GRP_isNamed_L3 pat_length pat_bytes grp_lengths grp_letters p1 p3 FU 0
set_option maxRecDepth 100000 in
set_option maxHeartbeats 4000000 in
theorem c_GRP_isNamed (l : Launch) (dC : Nat → ClassId) (dI : Nat → Nat → Nat) (cI : ClassId) (tS : Nat → Nat → Nat) (sz : Nat) (a_pat a_pat_bytes a_grp a_grp_lengths a_grp_letters : Nat) (pat_length : Int32) (grp_howMany : Int32) (pat_bytes : Nat → Int32) (grp_lengths : Nat → Int32) (grp_letters : Nat → Int32) (p1 : Int32) (p3 : Int32) (R0 : Bool) (hf : f_GRP_isNamed pat_length pat_bytes grp_lengths grp_letters p1 p3 = some R0) : Met l y_GRP_isNamed ws_GRP_isNamed ({ frames := 1, cells := 0, slots := 0, locals := 21 }) (va_Pc [.ref a_grp, .int p1, .ref a_pat, .int p3] (preS (dC, dI) classes [(cI, .int)] tS (w_14 cI tS a_pat a_pat_bytes a_grp a_grp_lengths a_grp_letters pat_length grp_howMany pat_bytes grp_lengths grp_letters) sz)) (va_Qi (fun r (_ : Unit) => r = b2i R0) (fun _ t => posS (dC, dI) classes [(cI, .int)] (w_14 cI tS a_pat a_pat_bytes a_grp a_grp_lengths a_grp_letters pat_length grp_howMany pat_bytes grp_lengths grp_letters) (va_A (w_14 cI tS a_pat a_pat_bytes a_grp a_grp_lengths a_grp_letters pat_length grp_howMany pat_bytes grp_lengths grp_letters) sz) t) (va_A (w_14 cI tS a_pat a_pat_bytes a_grp a_grp_lengths a_grp_letters pat_length grp_howMany pat_bytes grp_lengths grp_letters) sz)) 0 0 (va_A (w_14 cI tS a_pat a_pat_bytes a_grp a_grp_lengths a_grp_letters pat_length grp_howMany pat_bytes grp_lengths grp_letters) sz) := by
  refine Met.ofW (cc := b_GRP_isNamed) (maxL := 5) (ret := (some .boolean)) (by decide) rfl ?_
  intro p e s m args below meth c s₁ B hml hv
  obtain ⟨rfl, hsz, hP, hK, hD0, hst0⟩ := hv
  have hx := B.exec
  have hb := B.bytes
  have hr := B.returns
  have hts0 := atoms_spec (ws := ws_GRP_isNamed) B.pre
  have hts : ∀ w ∈ GW, w.before _ s = true := fun w h => hts0 w (List.mem_cons_of_mem _ h)
  have hown : s.vm.findClass R_GRP = some m.cls := findClass_of_methodNamed B.named
  have hlocks := B.notSynchronized
  subst hsz
  have hD := hD0.self (sz := s.heap.size)
  generalize hAe : va_A (w_14 cI tS a_pat a_pat_bytes a_grp a_grp_lengths a_grp_letters pat_length grp_howMany pat_bytes grp_lengths grp_letters) s.heap.size = A at hD hst0 ⊢
  have hA : ∀ q : Nat, s.heap.size ≤ q → A q := fun q h => by rw [← hAe]; exact Or.inr h
  have hS : va_S A s.heap s.heap [] := va_S.rf
  have hl := lv_entry ([.ref a_grp, .int p1, .ref a_pat, .int p3]) (n := 5) (Nat.le_of_ble_eq_true rfl)
  rw [lg_entry_eq]
  generalize (lg_sl ([.ref a_grp, .int p1, .ref a_pat, .int p3]) ++ List.replicate (5 - (lg_sl ([.ref a_grp, .int p1, .ref a_pat, .int p3])).length) Slot.unset).toArray = ls at hl ⊢
  have hl : lv_has ls 5 [(0, .ref a_grp), (1, .int p1), (2, .ref a_pat), (3, .int p3)] := hl
  have L3 : ∀ n3 : Nat, ∀ (v4 : Int32) (H : Heap) (locs : List Loc) (ls : Array Slot), va_P (dC, dI) classes (w_14 cI tS a_pat a_pat_bytes a_grp a_grp_lengths a_grp_letters pat_length grp_howMany pat_bytes grp_lengths grp_letters) H → va_D A (w_14 cI tS a_pat a_pat_bytes a_grp a_grp_lengths a_grp_letters pat_length grp_howMany pat_bytes grp_lengths grp_letters) → va_S A s.heap H locs → lv_has ls 5 [(0, .ref a_grp), (1, .int p1), (2, .ref a_pat), (3, .int p3), (4, .int v4)] → f_GRP_isNamed_L3 pat_length pat_bytes grp_lengths grp_letters p1 p3 n3 v4 = some R0 → W p l e (headSpec ws_GRP_isNamed ({ frames := 1, cells := 0, slots := 0, locals := 21 })).room s m ([.ref a_grp, .int p1, .ref a_pat, .int p3] : List Value).toArray below meth c H locs 0 0 (MQ below (va_Qi (fun r (_ : Unit) => r = b2i R0) (fun _ t => posS (dC, dI) classes [(cI, .int)] (w_14 cI tS a_pat a_pat_bytes a_grp a_grp_lengths a_grp_letters pat_length grp_howMany pat_bytes grp_lengths grp_letters) (A) t) (A)) ([.ref a_grp, .int p1, .ref a_pat, .int p3] : List Value).toArray s 0 0 A) (F0 m 3 ls []) := by
    intro n3
    induction n3 with
    | zero =>
      intro v4 H locs ls hP hD hS hl hf
      exact absurd (show (none : Option _) = some R0 from hf) (fun h => by cases h)
    | succ n3 ih3 =>
      intro v4 H locs ls hP hD hS hl hf
      have hf : f_GRP_isNamed_B3 pat_length pat_bytes grp_lengths grp_letters p1 p3 (f_GRP_isNamed_L3 pat_length pat_bytes grp_lengths grp_letters p1 p3 n3) v4 = some R0 := hf
      refine lv_iload hx hb d_GRP_isNamed_3 (lv_at hl 4 rfl) ?_
      refine lv_aload_n hx hb d_GRP_isNamed_5 rfl (lv_at hl 0 rfl) ?_
      refine va_get (D := (dC, dI)) (ci := 4) (v := .ref a_grp_lengths) (C := R_GRP) (T := F_GRP) (N := N_GRP) hx hb hts i_GRP hown hK hP 1 rfl rfl 0 (by decide) (hts _ tw_196) (fun _ h9 => h9) rfl d_GRP_isNamed_6 ?_
      refine lv_iload_n hx hb d_GRP_isNamed_9 rfl (lv_at hl 1 rfl) ?_
      obtain ⟨hin, hf⟩ := grd_in hf
      refine va_iald hx hb hK hP 3 0 rfl rfl hin d_GRP_isNamed_10 ?_
      refine lv_icmp_ge (tgt := 45) hx hb d_GRP_isNamed_11 (by decide) (fun c_ => ?_) (fun c_ => ?_)
      · have hf := f_pos c_ hf
        refine lv_iconst (v := 1) hx hb d_GRP_isNamed_45 (by decide) ?_
        obtain rfl := Option.some.inj hf
        exact W.zret (v := b2i true) hx hb hr (nr_b _) (fun t ht hW => ⟨⟨_, (), rfl, rfl, ⟨by rw [ht]; exact hP, va_K.moved hW.alike hK, hD⟩⟩, hS.F ht⟩) hS.2.2 d_GRP_isNamed_46
      · have hf := f_neg c_ hf
        refine lv_aload_n hx hb d_GRP_isNamed_14 rfl (lv_at hl 0 rfl) ?_
        refine va_get (D := (dC, dI)) (ci := 4) (v := .ref a_grp_letters) (C := R_GRP) (T := F_GRP) (N := N_GRP) hx hb hts i_GRP hown hK hP 1 rfl rfl 1 (by decide) (hts _ tw_197) (fun _ h9 => h9) rfl d_GRP_isNamed_15 ?_
        refine lv_iload_n hx hb d_GRP_isNamed_18 rfl (lv_at hl 1 rfl) ?_
        refine lv_bipush (v := 12) hx hb d_GRP_isNamed_19 (by decide) ?_
        refine lv_imul hx hb d_GRP_isNamed_21 ?_
        refine lv_iload hx hb d_GRP_isNamed_22 (lv_at hl 4 rfl) ?_
        refine lv_iadd hx hb d_GRP_isNamed_24 ?_
        obtain ⟨hin, hf⟩ := grd_in hf
        refine va_iald hx hb hK hP 4 0 rfl rfl hin d_GRP_isNamed_25 ?_
        refine lv_aload_n hx hb d_GRP_isNamed_26 rfl (lv_at hl 2 rfl) ?_
        refine lv_iload_n hx hb d_GRP_isNamed_27 rfl (lv_at hl 3 rfl) ?_
        refine lv_iload hx hb d_GRP_isNamed_28 (lv_at hl 4 rfl) ?_
        refine lv_iadd hx hb d_GRP_isNamed_30 ?_
        obtain ⟨x31, hg, hf⟩ := bnd hf
        have hPc := hP.sub (ws' := (w_0 cI tS a_pat a_pat_bytes pat_length pat_bytes)) [0, 2] rfl
        have hDc := hD.sub (ws' := (w_0 cI tS a_pat a_pat_bytes pat_length pat_bytes)) [0, 2] (by decide) rfl
        have hFc := va_free (wc := (w_0 cI tS a_pat a_pat_bytes pat_length pat_bytes)) hD hS hA [0, 2] rfl
        refine cal_i (va_runV (As := [.int (p3 + v4)]) (rest := [.int (grp_letters ((p1 * 12) + v4).toNatClampNeg)]) ⟨hx, hb, hml, hown, hts⟩ (c_PAT_at l dC dI cI tS H.size a_pat a_pat_bytes pat_length pat_bytes (p3 + v4) x31 hg) ⟨callB_of 1 hts (gN tw_586) rfl rfl rfl (hts _ tw_80) (hts _ tw_654) hd_PAT_at ⟨Nat.le_of_ble_eq_true rfl, Nat.le_of_ble_eq_true rfl⟩, hts _ tw_584, hts _ tw_585⟩ (pre_V hK hPc hDc hst0 hS hFc (va_recv hK hPc (ci := 0) (q0 := 0) rfl rfl)) rfl rfl hl.1 rfl (lv_room (Nat.le_of_ble_eq_true rfl)) d_GRP_isNamed_31 ⟨Nat.zero_le _, Nat.zero_le _⟩) hP hD hS hA [0, 2] [1, 3, 4] rfl rfl (by decide) (by decide) (fun H locs hP hD hS => ?_)
        have hP := hP.sub (ws' := (w_14 cI tS a_pat a_pat_bytes a_grp a_grp_lengths a_grp_letters pat_length grp_howMany pat_bytes grp_lengths grp_letters)) [3, 0, 4, 1, 2] rfl
        have hD := hD.sub (ws' := (w_14 cI tS a_pat a_pat_bytes a_grp a_grp_lengths a_grp_letters pat_length grp_howMany pat_bytes grp_lengths grp_letters)) [3, 0, 4, 1, 2] (by decide) rfl
        refine lv_icmp_eq (tgt := 39) hx hb d_GRP_isNamed_34 (by decide) (fun c_ => ?_) (fun c_ => ?_)
        · have hf := f_pos c_ hf
          refine lv_iinc (v := v4 + 1) (lv' := [(4, .int (v4 + 1)), (0, .ref a_grp), (1, .int p1), (2, .ref a_pat), (3, .int p3)]) hx hb d_GRP_isNamed_39 hl (k := 4) rfl rfl (by decide) rfl (fun ls hl => ?_)
          refine lv_goto (tgt := 3) hx hb d_GRP_isNamed_42 (by decide) ?_
          exact ih3 (v4 + 1) _ _ _ hP hD hS (lv_sub hl [1, 2, 3, 4, 0] rfl) hf
        · have hf := f_neg c_ hf
          refine lv_iconst (v := 0) hx hb d_GRP_isNamed_37 (by decide) ?_
          obtain rfl := Option.some.inj hf
          exact W.zret (v := b2i false) hx hb hr (nr_b _) (fun t ht hW => ⟨⟨_, (), rfl, rfl, ⟨by rw [ht]; exact hP, va_K.moved hW.alike hK, hD⟩⟩, hS.F ht⟩) hS.2.2 d_GRP_isNamed_38
  refine lv_iconst (v := 0) hx hb d_GRP_isNamed_0 (by decide) ?_
  refine lv_istore (lv' := [(4, .int 0), (0, .ref a_grp), (1, .int p1), (2, .ref a_pat), (3, .int p3)]) hx hb d_GRP_isNamed_1 hl (by decide) rfl (fun ls hl => ?_)
  exact L3 FU 0 _ _ _ hP hD hS (lv_sub hl [1, 2, 3, 4, 0] rfl) hf
def f_GRP_hasName_B3 (pat_length : Int32) (grp_howMany : Int32) (pat_bytes : Nat → Int32) (grp_lengths : Nat → Int32) (grp_letters : Nat → Int32) (p2 : Int32) (p3 : Int32) (K3 : Int32 → Option Bool) (v4 : Int32) : Option Bool :=
  if grp_howMany < v4 then some false else grd (inb v4 10) (if (grp_lengths v4.toNatClampNeg) = p3 then bnd_ (f_GRP_isNamed pat_length pat_bytes grp_lengths grp_letters v4 p2) (fun x28 => if (b2i x28) = 0 then K3 (v4 + 1) else some true) else K3 (v4 + 1))
def f_GRP_hasName_L3 (pat_length : Int32) (grp_howMany : Int32) (pat_bytes : Nat → Int32) (grp_lengths : Nat → Int32) (grp_letters : Nat → Int32) (p2 : Int32) (p3 : Int32) (n : Nat) (a : Int32) : Option Bool :=
  lpF (fun K3 v => f_GRP_hasName_B3 pat_length grp_howMany pat_bytes grp_lengths grp_letters p2 p3  K3 v) n a
def f_GRP_hasName (pat_length : Int32) (grp_howMany : Int32) (pat_bytes : Nat → Int32) (grp_lengths : Nat → Int32) (grp_letters : Nat → Int32) (p2 : Int32) (p3 : Int32) : Option Bool :=
  f_GRP_hasName_L3 pat_length grp_howMany pat_bytes grp_lengths grp_letters p2 p3 FU 1
set_option maxRecDepth 100000 in
set_option maxHeartbeats 4000000 in
theorem c_GRP_hasName (l : Launch) (dC : Nat → ClassId) (dI : Nat → Nat → Nat) (cI : ClassId) (tS : Nat → Nat → Nat) (sz : Nat) (a_pat a_pat_bytes a_grp a_grp_lengths a_grp_letters : Nat) (pat_length : Int32) (grp_howMany : Int32) (pat_bytes : Nat → Int32) (grp_lengths : Nat → Int32) (grp_letters : Nat → Int32) (p2 : Int32) (p3 : Int32) (R0 : Bool) (hf : f_GRP_hasName pat_length grp_howMany pat_bytes grp_lengths grp_letters p2 p3 = some R0) : Met l y_GRP_hasName ws_GRP_hasName ({ frames := 2, cells := 0, slots := 0, locals := 45 }) (va_Pc [.ref a_grp, .ref a_pat, .int p2, .int p3] (preS (dC, dI) classes [(cI, .int)] tS (w_14 cI tS a_pat a_pat_bytes a_grp a_grp_lengths a_grp_letters pat_length grp_howMany pat_bytes grp_lengths grp_letters) sz)) (va_Qi (fun r (_ : Unit) => r = b2i R0) (fun _ t => posS (dC, dI) classes [(cI, .int)] (w_14 cI tS a_pat a_pat_bytes a_grp a_grp_lengths a_grp_letters pat_length grp_howMany pat_bytes grp_lengths grp_letters) (va_A (w_14 cI tS a_pat a_pat_bytes a_grp a_grp_lengths a_grp_letters pat_length grp_howMany pat_bytes grp_lengths grp_letters) sz) t) (va_A (w_14 cI tS a_pat a_pat_bytes a_grp a_grp_lengths a_grp_letters pat_length grp_howMany pat_bytes grp_lengths grp_letters) sz)) 0 0 (va_A (w_14 cI tS a_pat a_pat_bytes a_grp a_grp_lengths a_grp_letters pat_length grp_howMany pat_bytes grp_lengths grp_letters) sz) := by
  refine Met.ofW (cc := b_GRP_hasName) (maxL := 5) (ret := (some .boolean)) (by decide) rfl ?_
  intro p e s m args below meth c s₁ B hml hv
  obtain ⟨rfl, hsz, hP, hK, hD0, hst0⟩ := hv
  have hx := B.exec
  have hb := B.bytes
  have hr := B.returns
  have hts0 := atoms_spec (ws := ws_GRP_hasName) B.pre
  have hts : ∀ w ∈ GW, w.before _ s = true := fun w h => hts0 w (List.mem_cons_of_mem _ h)
  have hown : s.vm.findClass R_GRP = some m.cls := findClass_of_methodNamed B.named
  have hlocks := B.notSynchronized
  subst hsz
  have hD := hD0.self (sz := s.heap.size)
  generalize hAe : va_A (w_14 cI tS a_pat a_pat_bytes a_grp a_grp_lengths a_grp_letters pat_length grp_howMany pat_bytes grp_lengths grp_letters) s.heap.size = A at hD hst0 ⊢
  have hA : ∀ q : Nat, s.heap.size ≤ q → A q := fun q h => by rw [← hAe]; exact Or.inr h
  have hS : va_S A s.heap s.heap [] := va_S.rf
  have hl := lv_entry ([.ref a_grp, .ref a_pat, .int p2, .int p3]) (n := 5) (Nat.le_of_ble_eq_true rfl)
  rw [lg_entry_eq]
  generalize (lg_sl ([.ref a_grp, .ref a_pat, .int p2, .int p3]) ++ List.replicate (5 - (lg_sl ([.ref a_grp, .ref a_pat, .int p2, .int p3])).length) Slot.unset).toArray = ls at hl ⊢
  have hl : lv_has ls 5 [(0, .ref a_grp), (1, .ref a_pat), (2, .int p2), (3, .int p3)] := hl
  have L3 : ∀ n3 : Nat, ∀ (v4 : Int32) (H : Heap) (locs : List Loc) (ls : Array Slot), va_P (dC, dI) classes (w_14 cI tS a_pat a_pat_bytes a_grp a_grp_lengths a_grp_letters pat_length grp_howMany pat_bytes grp_lengths grp_letters) H → va_D A (w_14 cI tS a_pat a_pat_bytes a_grp a_grp_lengths a_grp_letters pat_length grp_howMany pat_bytes grp_lengths grp_letters) → va_S A s.heap H locs → lv_has ls 5 [(0, .ref a_grp), (1, .ref a_pat), (2, .int p2), (3, .int p3), (4, .int v4)] → f_GRP_hasName_L3 pat_length grp_howMany pat_bytes grp_lengths grp_letters p2 p3 n3 v4 = some R0 → W p l e (headSpec ws_GRP_hasName ({ frames := 2, cells := 0, slots := 0, locals := 45 })).room s m ([.ref a_grp, .ref a_pat, .int p2, .int p3] : List Value).toArray below meth c H locs 0 0 (MQ below (va_Qi (fun r (_ : Unit) => r = b2i R0) (fun _ t => posS (dC, dI) classes [(cI, .int)] (w_14 cI tS a_pat a_pat_bytes a_grp a_grp_lengths a_grp_letters pat_length grp_howMany pat_bytes grp_lengths grp_letters) (A) t) (A)) ([.ref a_grp, .ref a_pat, .int p2, .int p3] : List Value).toArray s 0 0 A) (F0 m 3 ls []) := by
    intro n3
    induction n3 with
    | zero =>
      intro v4 H locs ls hP hD hS hl hf
      exact absurd (show (none : Option _) = some R0 from hf) (fun h => by cases h)
    | succ n3 ih3 =>
      intro v4 H locs ls hP hD hS hl hf
      have hf : f_GRP_hasName_B3 pat_length grp_howMany pat_bytes grp_lengths grp_letters p2 p3 (f_GRP_hasName_L3 pat_length grp_howMany pat_bytes grp_lengths grp_letters p2 p3 n3) v4 = some R0 := hf
      refine lv_iload hx hb d_GRP_hasName_3 (lv_at hl 4 rfl) ?_
      refine lv_aload_n hx hb d_GRP_hasName_5 rfl (lv_at hl 0 rfl) ?_
      refine va_get (D := (dC, dI)) (ci := 4) (v := .int grp_howMany) (C := R_GRP) (T := F_GRP) (N := N_GRP) hx hb hts i_GRP hown hK hP 1 rfl rfl 2 (by decide) (hts _ tw_198) (fun _ h9 => h9) rfl d_GRP_hasName_6 ?_
      refine lv_icmp_gt (tgt := 42) hx hb d_GRP_hasName_9 (by decide) (fun c_ => ?_) (fun c_ => ?_)
      · have hf := f_pos c_ hf
        refine lv_iconst (v := 0) hx hb d_GRP_hasName_42 (by decide) ?_
        obtain rfl := Option.some.inj hf
        exact W.zret (v := b2i false) hx hb hr (nr_b _) (fun t ht hW => ⟨⟨_, (), rfl, rfl, ⟨by rw [ht]; exact hP, va_K.moved hW.alike hK, hD⟩⟩, hS.F ht⟩) hS.2.2 d_GRP_hasName_43
      · have hf := f_neg c_ hf
        refine lv_aload_n hx hb d_GRP_hasName_12 rfl (lv_at hl 0 rfl) ?_
        refine va_get (D := (dC, dI)) (ci := 4) (v := .ref a_grp_lengths) (C := R_GRP) (T := F_GRP) (N := N_GRP) hx hb hts i_GRP hown hK hP 1 rfl rfl 0 (by decide) (hts _ tw_196) (fun _ h9 => h9) rfl d_GRP_hasName_13 ?_
        refine lv_iload hx hb d_GRP_hasName_16 (lv_at hl 4 rfl) ?_
        obtain ⟨hin, hf⟩ := grd_in hf
        refine va_iald hx hb hK hP 3 0 rfl rfl hin d_GRP_hasName_18 ?_
        refine lv_iload_n hx hb d_GRP_hasName_19 rfl (lv_at hl 3 rfl) ?_
        refine lv_icmp_ne (tgt := 36) hx hb d_GRP_hasName_20 (by decide) (fun c_ => ?_) (fun c_ => ?_)
        · have hf := f_neg c_ hf
          refine lv_iinc (v := v4 + 1) (lv' := [(4, .int (v4 + 1)), (0, .ref a_grp), (1, .ref a_pat), (2, .int p2), (3, .int p3)]) hx hb d_GRP_hasName_36 hl (k := 4) rfl rfl (by decide) rfl (fun ls hl => ?_)
          refine lv_goto (tgt := 3) hx hb d_GRP_hasName_39 (by decide) ?_
          exact ih3 (v4 + 1) _ _ _ hP hD hS (lv_sub hl [1, 2, 3, 4, 0] rfl) hf
        · have hf := f_pos c_ hf
          refine lv_aload_n hx hb d_GRP_hasName_23 rfl (lv_at hl 0 rfl) ?_
          refine lv_iload hx hb d_GRP_hasName_24 (lv_at hl 4 rfl) ?_
          refine lv_aload_n hx hb d_GRP_hasName_26 rfl (lv_at hl 1 rfl) ?_
          refine lv_iload_n hx hb d_GRP_hasName_27 rfl (lv_at hl 2 rfl) ?_
          obtain ⟨x28, hg, hf⟩ := bnd hf
          have hPc := hP.sub (ws' := (w_14 cI tS a_pat a_pat_bytes a_grp a_grp_lengths a_grp_letters pat_length grp_howMany pat_bytes grp_lengths grp_letters)) [0, 1, 2, 3, 4] rfl
          have hDc := hD.sub (ws' := (w_14 cI tS a_pat a_pat_bytes a_grp a_grp_lengths a_grp_letters pat_length grp_howMany pat_bytes grp_lengths grp_letters)) [0, 1, 2, 3, 4] (by decide) rfl
          have hFc := va_free (wc := (w_14 cI tS a_pat a_pat_bytes a_grp a_grp_lengths a_grp_letters pat_length grp_howMany pat_bytes grp_lengths grp_letters)) hD hS hA [0, 1, 2, 3, 4] rfl
          refine cal_i (va_runV (As := [.int v4, .ref a_pat, .int p2]) (rest := []) ⟨hx, hb, hml, hown, hts⟩ (c_GRP_isNamed l dC dI cI tS H.size a_pat a_pat_bytes a_grp a_grp_lengths a_grp_letters pat_length grp_howMany pat_bytes grp_lengths grp_letters v4 p2 x28 hg) ⟨callB_of 3 hts (gN tw_653) rfl rfl rfl (hts _ tw_83) (hts _ tw_650) hd_GRP_isNamed ⟨Nat.le_of_ble_eq_true rfl, Nat.le_of_ble_eq_true rfl⟩, hts _ tw_652, hts _ tw_7⟩ (pre_V hK hPc hDc hst0 hS hFc (va_recv hK hPc (ci := 4) (q0 := 1) rfl rfl)) rfl rfl hl.1 rfl (lv_room (Nat.le_of_ble_eq_true rfl)) d_GRP_hasName_28 ⟨Nat.zero_le _, Nat.zero_le _⟩) hP hD hS hA [0, 1, 2, 3, 4] [] rfl rfl (by decide) (by decide) (fun H locs hP hD hS => ?_)
          have hP := hP.sub (ws' := (w_14 cI tS a_pat a_pat_bytes a_grp a_grp_lengths a_grp_letters pat_length grp_howMany pat_bytes grp_lengths grp_letters)) [0, 1, 2, 3, 4] rfl
          have hD := hD.sub (ws' := (w_14 cI tS a_pat a_pat_bytes a_grp a_grp_lengths a_grp_letters pat_length grp_howMany pat_bytes grp_lengths grp_letters)) [0, 1, 2, 3, 4] (by decide) rfl
          refine lv_if_eq (tgt := 36) hx hb d_GRP_hasName_31 (by decide) (fun c_ => ?_) (fun c_ => ?_)
          · have hf := f_pos c_ hf
            refine lv_iinc (v := v4 + 1) (lv' := [(4, .int (v4 + 1)), (0, .ref a_grp), (1, .ref a_pat), (2, .int p2), (3, .int p3)]) hx hb d_GRP_hasName_36 hl (k := 4) rfl rfl (by decide) rfl (fun ls hl => ?_)
            refine lv_goto (tgt := 3) hx hb d_GRP_hasName_39 (by decide) ?_
            exact ih3 (v4 + 1) _ _ _ hP hD hS (lv_sub hl [1, 2, 3, 4, 0] rfl) hf
          · have hf := f_neg c_ hf
            refine lv_iconst (v := 1) hx hb d_GRP_hasName_34 (by decide) ?_
            obtain rfl := Option.some.inj hf
            exact W.zret (v := b2i true) hx hb hr (nr_b _) (fun t ht hW => ⟨⟨_, (), rfl, rfl, ⟨by rw [ht]; exact hP, va_K.moved hW.alike hK, hD⟩⟩, hS.F ht⟩) hS.2.2 d_GRP_hasName_35
  refine lv_iconst (v := 1) hx hb d_GRP_hasName_0 (by decide) ?_
  refine lv_istore (lv' := [(4, .int 1), (0, .ref a_grp), (1, .ref a_pat), (2, .int p2), (3, .int p3)]) hx hb d_GRP_hasName_1 hl (by decide) rfl (fun ls hl => ?_)
  exact L3 FU 1 _ _ _ hP hD hS (lv_sub hl [1, 2, 3, 4, 0] rfl) hf
def f_GRP_isFull (grp_howMany : Int32) : Option Bool :=
  if grp_howMany < 9 then some false else some true
set_option maxRecDepth 100000 in
set_option maxHeartbeats 4000000 in
theorem c_GRP_isFull (l : Launch) (dC : Nat → ClassId) (dI : Nat → Nat → Nat) (cI : ClassId) (tS : Nat → Nat → Nat) (sz : Nat) (a_grp a_grp_lengths a_grp_letters : Nat) (grp_howMany : Int32) (R0 : Bool) (hf : f_GRP_isFull grp_howMany = some R0) : Met l y_GRP_isFull ws_GRP_isFull ({ frames := 0, cells := 0, slots := 0, locals := 0 }) (va_Pc [.ref a_grp] (preS (dC, dI) classes [(cI, .int)] tS (w_4 cI tS a_grp a_grp_lengths a_grp_letters grp_howMany) sz)) (va_Qi (fun r (_ : Unit) => r = b2i R0) (fun _ t => posS (dC, dI) classes [(cI, .int)] (w_4 cI tS a_grp a_grp_lengths a_grp_letters grp_howMany) (va_A (w_4 cI tS a_grp a_grp_lengths a_grp_letters grp_howMany) sz) t) (va_A (w_4 cI tS a_grp a_grp_lengths a_grp_letters grp_howMany) sz)) 0 0 (va_A (w_4 cI tS a_grp a_grp_lengths a_grp_letters grp_howMany) sz) := by
  refine Met.ofW (cc := b_GRP_isFull) (maxL := 1) (ret := (some .boolean)) (by decide) rfl ?_
  intro p e s m args below meth c s₁ B hml hv
  obtain ⟨rfl, hsz, hP, hK, hD0, hst0⟩ := hv
  have hx := B.exec
  have hb := B.bytes
  have hr := B.returns
  have hts0 := atoms_spec (ws := ws_GRP_isFull) B.pre
  have hts : ∀ w ∈ GW, w.before _ s = true := fun w h => hts0 w (List.mem_cons_of_mem _ h)
  have hown : s.vm.findClass R_GRP = some m.cls := findClass_of_methodNamed B.named
  have hlocks := B.notSynchronized
  subst hsz
  have hD := hD0.self (sz := s.heap.size)
  generalize hAe : va_A (w_4 cI tS a_grp a_grp_lengths a_grp_letters grp_howMany) s.heap.size = A at hD hst0 ⊢
  have hA : ∀ q : Nat, s.heap.size ≤ q → A q := fun q h => by rw [← hAe]; exact Or.inr h
  have hS : va_S A s.heap s.heap [] := va_S.rf
  have hl := lv_entry ([.ref a_grp]) (n := 1) (Nat.le_of_ble_eq_true rfl)
  rw [lg_entry_eq]
  generalize (lg_sl ([.ref a_grp]) ++ List.replicate (1 - (lg_sl ([.ref a_grp])).length) Slot.unset).toArray = ls at hl ⊢
  have hl : lv_has ls 1 [(0, .ref a_grp)] := hl
  refine lv_aload_n hx hb d_GRP_isFull_0 rfl (lv_at hl 0 rfl) ?_
  refine va_get (D := (dC, dI)) (ci := 4) (v := .int grp_howMany) (C := R_GRP) (T := F_GRP) (N := N_GRP) hx hb hts i_GRP hown hK hP 0 rfl rfl 2 (by decide) (hts _ tw_198) (fun _ h9 => h9) rfl d_GRP_isFull_1 ?_
  refine lv_bipush (v := 9) hx hb d_GRP_isFull_4 (by decide) ?_
  refine lv_icmp_lt (tgt := 13) hx hb d_GRP_isFull_6 (by decide) (fun c_ => ?_) (fun c_ => ?_)
  · have hf := f_pos c_ hf
    refine lv_iconst (v := 0) hx hb d_GRP_isFull_13 (by decide) ?_
    obtain rfl := Option.some.inj hf
    exact W.zret (v := b2i false) hx hb hr (nr_b _) (fun t ht hW => ⟨⟨_, (), rfl, rfl, ⟨by rw [ht]; exact hP, va_K.moved hW.alike hK, hD⟩⟩, hS.F ht⟩) hS.2.2 d_GRP_isFull_14
  · have hf := f_neg c_ hf
    refine lv_iconst (v := 1) hx hb d_GRP_isFull_9 (by decide) ?_
    refine lv_goto (tgt := 14) hx hb d_GRP_isFull_10 (by decide) ?_
    obtain rfl := Option.some.inj hf
    exact W.zret (v := b2i true) hx hb hr (nr_b _) (fun t ht hW => ⟨⟨_, (), rfl, rfl, ⟨by rw [ht]; exact hP, va_K.moved hW.alike hK, hD⟩⟩, hS.F ht⟩) hS.2.2 d_GRP_isFull_14
def f_GRP_addGroup_B37 (pat_length : Int32) (pat_bytes : Nat → Int32) (p2 : Int32) (p3 : Int32) (K37 : (Int32 × Int32 × (Nat → Int32) × (Nat → Int32)) → Option (Int32 × Int32 × (Nat → Int32) × (Nat → Int32))) (v4 : Int32) (grp_howMany : Int32) (grp_lengths : Nat → Int32) (grp_letters : Nat → Int32) : Option (Int32 × Int32 × (Nat → Int32) × (Nat → Int32)) :=
  grd (inb grp_howMany 10) (if (grp_lengths grp_howMany.toNatClampNeg) ≤ v4 then some (grp_howMany, grp_howMany, grp_lengths, grp_letters) else bnd_ (f_PAT_at pat_length pat_bytes (p2 + v4)) (fun x70 => grd (inb ((grp_howMany * 12) + v4) 120) (K37 (v4 + 1, grp_howMany, grp_lengths, upd grp_letters ((grp_howMany * 12) + v4).toNatClampNeg x70))))
def f_GRP_addGroup_L37 (pat_length : Int32) (pat_bytes : Nat → Int32) (p2 : Int32) (p3 : Int32) (n : Nat) (a : Int32 × Int32 × (Nat → Int32) × (Nat → Int32)) : Option (Int32 × Int32 × (Nat → Int32) × (Nat → Int32)) :=
  lpF (fun K37 v => f_GRP_addGroup_B37 pat_length pat_bytes p2 p3  K37 v.1 v.2.1 v.2.2.1 v.2.2.2) n a
def f_GRP_addGroup (pat_length : Int32) (grp_howMany : Int32) (pat_bytes : Nat → Int32) (grp_lengths : Nat → Int32) (grp_letters : Nat → Int32) (p2 : Int32) (p3 : Int32) : Option (Int32 × Int32 × (Nat → Int32) × (Nat → Int32)) :=
  bnd_ (f_GRP_isFull grp_howMany) (fun x1 => if (b2i x1) = 0 then grd (inb (grp_howMany + 1) 10) (f_GRP_addGroup_L37 pat_length pat_bytes p2 p3 FU (0, grp_howMany + 1, upd grp_lengths (grp_howMany + 1).toNatClampNeg (if 12 < p3 then 12 else p3), grp_letters)) else some (0, grp_howMany, grp_lengths, grp_letters))
set_option maxRecDepth 100000 in
set_option maxHeartbeats 4000000 in
theorem c_GRP_addGroup (l : Launch) (dC : Nat → ClassId) (dI : Nat → Nat → Nat) (cI : ClassId) (tS : Nat → Nat → Nat) (sz : Nat) (a_pat a_pat_bytes a_grp a_grp_lengths a_grp_letters : Nat) (pat_length : Int32) (grp_howMany : Int32) (pat_bytes : Nat → Int32) (grp_lengths : Nat → Int32) (grp_letters : Nat → Int32) (p2 : Int32) (p3 : Int32) (R0 : Int32 × Int32 × (Nat → Int32) × (Nat → Int32)) (hf : f_GRP_addGroup pat_length grp_howMany pat_bytes grp_lengths grp_letters p2 p3 = some R0) : Met l y_GRP_addGroup ws_GRP_addGroup ({ frames := 1, cells := 0, slots := 0, locals := 21 }) (va_Pc [.ref a_grp, .ref a_pat, .int p2, .int p3] (preS (dC, dI) classes [(cI, .int)] tS (w_14 cI tS a_pat a_pat_bytes a_grp a_grp_lengths a_grp_letters pat_length grp_howMany pat_bytes grp_lengths grp_letters) sz)) (va_Qi (fun r (_ : Unit) => r = R0.1) (fun _ t => posS (dC, dI) classes [(cI, .int)] (w_14 cI tS a_pat a_pat_bytes a_grp a_grp_lengths a_grp_letters pat_length R0.2.1 pat_bytes R0.2.2.1 R0.2.2.2) (va_A (w_14 cI tS a_pat a_pat_bytes a_grp a_grp_lengths a_grp_letters pat_length grp_howMany pat_bytes grp_lengths grp_letters) sz) t) (va_A (w_14 cI tS a_pat a_pat_bytes a_grp a_grp_lengths a_grp_letters pat_length grp_howMany pat_bytes grp_lengths grp_letters) sz)) 0 0 (va_A (w_14 cI tS a_pat a_pat_bytes a_grp a_grp_lengths a_grp_letters pat_length grp_howMany pat_bytes grp_lengths grp_letters) sz) := by
  refine Met.ofW (cc := b_GRP_addGroup) (maxL := 5) (ret := (some .int)) (by decide) rfl ?_
  intro p e s m args below meth c s₁ B hml hv
  obtain ⟨rfl, hsz, hP, hK, hD0, hst0⟩ := hv
  have hx := B.exec
  have hb := B.bytes
  have hr := B.returns
  have hts0 := atoms_spec (ws := ws_GRP_addGroup) B.pre
  have hts : ∀ w ∈ GW, w.before _ s = true := fun w h => hts0 w (List.mem_cons_of_mem _ h)
  have hown : s.vm.findClass R_GRP = some m.cls := findClass_of_methodNamed B.named
  have hlocks := B.notSynchronized
  subst hsz
  have hD := hD0.self (sz := s.heap.size)
  generalize hAe : va_A (w_14 cI tS a_pat a_pat_bytes a_grp a_grp_lengths a_grp_letters pat_length grp_howMany pat_bytes grp_lengths grp_letters) s.heap.size = A at hD hst0 ⊢
  have hA : ∀ q : Nat, s.heap.size ≤ q → A q := fun q h => by rw [← hAe]; exact Or.inr h
  have hS : va_S A s.heap s.heap [] := va_S.rf
  have hl := lv_entry ([.ref a_grp, .ref a_pat, .int p2, .int p3]) (n := 5) (Nat.le_of_ble_eq_true rfl)
  rw [lg_entry_eq]
  generalize (lg_sl ([.ref a_grp, .ref a_pat, .int p2, .int p3]) ++ List.replicate (5 - (lg_sl ([.ref a_grp, .ref a_pat, .int p2, .int p3])).length) Slot.unset).toArray = ls at hl ⊢
  have hl : lv_has ls 5 [(0, .ref a_grp), (1, .ref a_pat), (2, .int p2), (3, .int p3)] := hl
  have L37 : ∀ n37 : Nat, ∀ (v4 : Int32) (grp_howMany : Int32) (grp_lengths : Nat → Int32) (grp_letters : Nat → Int32) (H : Heap) (locs : List Loc) (ls : Array Slot), va_P (dC, dI) classes (w_14 cI tS a_pat a_pat_bytes a_grp a_grp_lengths a_grp_letters pat_length grp_howMany pat_bytes grp_lengths grp_letters) H → va_D A (w_14 cI tS a_pat a_pat_bytes a_grp a_grp_lengths a_grp_letters pat_length grp_howMany pat_bytes grp_lengths grp_letters) → va_S A s.heap H locs → lv_has ls 5 [(0, .ref a_grp), (1, .ref a_pat), (2, .int p2), (4, .int v4)] → f_GRP_addGroup_L37 pat_length pat_bytes p2 p3 n37 (v4, grp_howMany, grp_lengths, grp_letters) = some R0 → W p l e (headSpec ws_GRP_addGroup ({ frames := 1, cells := 0, slots := 0, locals := 21 })).room s m ([.ref a_grp, .ref a_pat, .int p2, .int p3] : List Value).toArray below meth c H locs 0 0 (MQ below (va_Qi (fun r (_ : Unit) => r = R0.1) (fun _ t => posS (dC, dI) classes [(cI, .int)] (w_14 cI tS a_pat a_pat_bytes a_grp a_grp_lengths a_grp_letters pat_length R0.2.1 pat_bytes R0.2.2.1 R0.2.2.2) (A) t) (A)) ([.ref a_grp, .ref a_pat, .int p2, .int p3] : List Value).toArray s 0 0 A) (F0 m 37 ls []) := by
    intro n37
    induction n37 with
    | zero =>
      intro v4 grp_howMany grp_lengths grp_letters H locs ls hP hD hS hl hf
      exact absurd (show (none : Option _) = some R0 from hf) (fun h => by cases h)
    | succ n37 ih37 =>
      intro v4 grp_howMany grp_lengths grp_letters H locs ls hP hD hS hl hf
      have hf : f_GRP_addGroup_B37 pat_length pat_bytes p2 p3 (f_GRP_addGroup_L37 pat_length pat_bytes p2 p3 n37) v4 grp_howMany grp_lengths grp_letters = some R0 := hf
      refine lv_iload hx hb d_GRP_addGroup_37 (lv_at hl 3 rfl) ?_
      refine lv_aload_n hx hb d_GRP_addGroup_39 rfl (lv_at hl 0 rfl) ?_
      refine va_get (D := (dC, dI)) (ci := 4) (v := .ref a_grp_lengths) (C := R_GRP) (T := F_GRP) (N := N_GRP) hx hb hts i_GRP hown hK hP 1 rfl rfl 0 (by decide) (hts _ tw_196) (fun _ h9 => h9) rfl d_GRP_addGroup_40 ?_
      refine lv_aload_n hx hb d_GRP_addGroup_43 rfl (lv_at hl 0 rfl) ?_
      refine va_get (D := (dC, dI)) (ci := 4) (v := .int grp_howMany) (C := R_GRP) (T := F_GRP) (N := N_GRP) hx hb hts i_GRP hown hK hP 1 rfl rfl 2 (by decide) (hts _ tw_198) (fun _ h9 => h9) rfl d_GRP_addGroup_44 ?_
      obtain ⟨hin, hf⟩ := grd_in hf
      refine va_iald hx hb hK hP 3 0 rfl rfl hin d_GRP_addGroup_47 ?_
      refine lv_icmp_ge (tgt := 80) hx hb d_GRP_addGroup_48 (by decide) (fun c_ => ?_) (fun c_ => ?_)
      · have hf := f_pos c_ hf
        refine lv_aload_n hx hb d_GRP_addGroup_80 rfl (lv_at hl 0 rfl) ?_
        refine va_get (D := (dC, dI)) (ci := 4) (v := .int grp_howMany) (C := R_GRP) (T := F_GRP) (N := N_GRP) hx hb hts i_GRP hown hK hP 1 rfl rfl 2 (by decide) (hts _ tw_198) (fun _ h9 => h9) rfl d_GRP_addGroup_81 ?_
        obtain rfl := Option.some.inj hf
        exact W.iret (v := grp_howMany) hx hb hr (fun t ht hW => ⟨⟨_, (), rfl, rfl, ⟨by rw [ht]; exact hP, va_K.moved hW.alike hK, hD⟩⟩, hS.F ht⟩) hS.2.2 d_GRP_addGroup_84
      · have hf := f_neg c_ hf
        refine lv_aload_n hx hb d_GRP_addGroup_51 rfl (lv_at hl 0 rfl) ?_
        refine va_get (D := (dC, dI)) (ci := 4) (v := .ref a_grp_letters) (C := R_GRP) (T := F_GRP) (N := N_GRP) hx hb hts i_GRP hown hK hP 1 rfl rfl 1 (by decide) (hts _ tw_197) (fun _ h9 => h9) rfl d_GRP_addGroup_52 ?_
        refine lv_aload_n hx hb d_GRP_addGroup_55 rfl (lv_at hl 0 rfl) ?_
        refine va_get (D := (dC, dI)) (ci := 4) (v := .int grp_howMany) (C := R_GRP) (T := F_GRP) (N := N_GRP) hx hb hts i_GRP hown hK hP 1 rfl rfl 2 (by decide) (hts _ tw_198) (fun _ h9 => h9) rfl d_GRP_addGroup_56 ?_
        refine lv_bipush (v := 12) hx hb d_GRP_addGroup_59 (by decide) ?_
        refine lv_imul hx hb d_GRP_addGroup_61 ?_
        refine lv_iload hx hb d_GRP_addGroup_62 (lv_at hl 3 rfl) ?_
        refine lv_iadd hx hb d_GRP_addGroup_64 ?_
        refine lv_aload_n hx hb d_GRP_addGroup_65 rfl (lv_at hl 1 rfl) ?_
        refine lv_iload_n hx hb d_GRP_addGroup_66 rfl (lv_at hl 2 rfl) ?_
        refine lv_iload hx hb d_GRP_addGroup_67 (lv_at hl 3 rfl) ?_
        refine lv_iadd hx hb d_GRP_addGroup_69 ?_
        obtain ⟨x70, hg, hf⟩ := bnd hf
        have hPc := hP.sub (ws' := (w_0 cI tS a_pat a_pat_bytes pat_length pat_bytes)) [0, 2] rfl
        have hDc := hD.sub (ws' := (w_0 cI tS a_pat a_pat_bytes pat_length pat_bytes)) [0, 2] (by decide) rfl
        have hFc := va_free (wc := (w_0 cI tS a_pat a_pat_bytes pat_length pat_bytes)) hD hS hA [0, 2] rfl
        refine cal_i (va_runV (As := [.int (p2 + v4)]) (rest := [.int ((grp_howMany * 12) + v4), .ref a_grp_letters]) ⟨hx, hb, hml, hown, hts⟩ (c_PAT_at l dC dI cI tS H.size a_pat a_pat_bytes pat_length pat_bytes (p2 + v4) x70 hg) ⟨callB_of 1 hts (gN tw_586) rfl rfl rfl (hts _ tw_80) (hts _ tw_654) hd_PAT_at ⟨Nat.le_of_ble_eq_true rfl, Nat.le_of_ble_eq_true rfl⟩, hts _ tw_584, hts _ tw_585⟩ (pre_V hK hPc hDc hst0 hS hFc (va_recv hK hPc (ci := 0) (q0 := 0) rfl rfl)) rfl rfl hl.1 rfl (lv_room (Nat.le_of_ble_eq_true rfl)) d_GRP_addGroup_70 ⟨Nat.zero_le _, Nat.zero_le _⟩) hP hD hS hA [0, 2] [1, 3, 4] rfl rfl (by decide) (by decide) (fun H locs hP hD hS => ?_)
        have hP := hP.sub (ws' := (w_14 cI tS a_pat a_pat_bytes a_grp a_grp_lengths a_grp_letters pat_length grp_howMany pat_bytes grp_lengths grp_letters)) [3, 0, 4, 1, 2] rfl
        have hD := hD.sub (ws' := (w_14 cI tS a_pat a_pat_bytes a_grp a_grp_lengths a_grp_letters pat_length grp_howMany pat_bytes grp_lengths grp_letters)) [3, 0, 4, 1, 2] (by decide) rfl
        obtain ⟨hin, hf⟩ := grd_in hf
        refine va_iast hx hb hK hP hD hS 4 0 rfl rfl hin d_GRP_addGroup_73 (fun H locs hP hD hS => ?_)
        have hP : va_P (dC, dI) classes (w_14 cI tS a_pat a_pat_bytes a_grp a_grp_lengths a_grp_letters pat_length grp_howMany pat_bytes grp_lengths (upd grp_letters ((grp_howMany * 12) + v4).toNatClampNeg x70)) H := hP
        have hD : va_D A (w_14 cI tS a_pat a_pat_bytes a_grp a_grp_lengths a_grp_letters pat_length grp_howMany pat_bytes grp_lengths (upd grp_letters ((grp_howMany * 12) + v4).toNatClampNeg x70)) := hD
        refine lv_iinc (v := v4 + 1) (lv' := [(4, .int (v4 + 1)), (0, .ref a_grp), (1, .ref a_pat), (2, .int p2)]) hx hb d_GRP_addGroup_74 hl (k := 3) rfl rfl (by decide) rfl (fun ls hl => ?_)
        refine lv_goto (tgt := 37) hx hb d_GRP_addGroup_77 (by decide) ?_
        exact ih37 (v4 + 1) grp_howMany grp_lengths (upd grp_letters ((grp_howMany * 12) + v4).toNatClampNeg x70) _ _ _ hP hD hS (lv_sub hl [1, 2, 3, 0] rfl) hf
  refine lv_aload_n hx hb d_GRP_addGroup_0 rfl (lv_at hl 0 rfl) ?_
  obtain ⟨x1, hg, hf⟩ := bnd hf
  have hPc := hP.sub (ws' := (w_4 cI tS a_grp a_grp_lengths a_grp_letters grp_howMany)) [1] rfl
  have hDc := hD.sub (ws' := (w_4 cI tS a_grp a_grp_lengths a_grp_letters grp_howMany)) [1] (by decide) rfl
  have hFc := va_free (wc := (w_4 cI tS a_grp a_grp_lengths a_grp_letters grp_howMany)) hD hS hA [1] rfl
  refine cal_i (va_runV (As := []) (rest := []) ⟨hx, hb, hml, hown, hts⟩ (c_GRP_isFull l dC dI cI tS s.heap.size a_grp a_grp_lengths a_grp_letters grp_howMany x1 hg) ⟨callB_of 0 hts (gN tw_658) rfl rfl rfl (hts _ tw_83) (hts _ tw_667) hd_GRP_isFull ⟨Nat.le_of_ble_eq_true rfl, Nat.le_of_ble_eq_true rfl⟩, hts _ tw_656, hts _ tw_657⟩ (pre_V hK hPc hDc hst0 hS hFc (va_recv hK hPc (ci := 4) (q0 := 0) rfl rfl)) rfl rfl hl.1 rfl (lv_room (Nat.le_of_ble_eq_true rfl)) d_GRP_addGroup_1 ⟨Nat.zero_le _, Nat.zero_le _⟩) hP hD hS hA [1] [0, 2, 3, 4] rfl rfl (by decide) (by decide) (fun H locs hP hD hS => ?_)
  have hP := hP.sub (ws' := (w_14 cI tS a_pat a_pat_bytes a_grp a_grp_lengths a_grp_letters pat_length grp_howMany pat_bytes grp_lengths grp_letters)) [0, 4, 1, 2, 3] rfl
  have hD := hD.sub (ws' := (w_14 cI tS a_pat a_pat_bytes a_grp a_grp_lengths a_grp_letters pat_length grp_howMany pat_bytes grp_lengths grp_letters)) [0, 4, 1, 2, 3] (by decide) rfl
  refine lv_if_eq (tgt := 9) hx hb d_GRP_addGroup_4 (by decide) (fun c_ => ?_) (fun c_ => ?_)
  · have hf := f_pos c_ hf
    refine lv_aload_n hx hb d_GRP_addGroup_9 rfl (lv_at hl 0 rfl) ?_
    refine lv_dup hx hb d_GRP_addGroup_10 rfl ?_
    refine va_get (D := (dC, dI)) (ci := 4) (v := .int grp_howMany) (C := R_GRP) (T := F_GRP) (N := N_GRP) hx hb hts i_GRP hown hK hP 1 rfl rfl 2 (by decide) (hts _ tw_198) (fun _ h9 => h9) rfl d_GRP_addGroup_11 ?_
    refine lv_iconst (v := 1) hx hb d_GRP_addGroup_14 (by decide) ?_
    refine lv_iadd hx hb d_GRP_addGroup_15 ?_
    refine va_put (D := (dC, dI)) (ci := 4) (v := .int (grp_howMany + 1)) (ty := .int) (C := R_GRP) (T := F_GRP) (N := N_GRP) hx hb hts i_GRP ty_GRP ty_GRP_ok n_GRP hown hK hP hD hS 1 rfl rfl 2 (by decide) (hts _ tw_198) (fun _ h9 => h9) rfl (ty_GRP_ok 2 (by decide)) rfl rfl (Nat.le_of_ble_eq_true rfl) d_GRP_addGroup_16 (fun H locs hP hD hS => ?_)
    have hP : va_P (dC, dI) classes (w_14 cI tS a_pat a_pat_bytes a_grp a_grp_lengths a_grp_letters pat_length (grp_howMany + 1) pat_bytes grp_lengths grp_letters) H := hP
    have hD : va_D A (w_14 cI tS a_pat a_pat_bytes a_grp a_grp_lengths a_grp_letters pat_length (grp_howMany + 1) pat_bytes grp_lengths grp_letters) := hD
    refine lv_aload_n hx hb d_GRP_addGroup_19 rfl (lv_at hl 0 rfl) ?_
    refine va_get (D := (dC, dI)) (ci := 4) (v := .ref a_grp_lengths) (C := R_GRP) (T := F_GRP) (N := N_GRP) hx hb hts i_GRP hown hK hP 1 rfl rfl 0 (by decide) (hts _ tw_196) (fun _ h9 => h9) rfl d_GRP_addGroup_20 ?_
    refine lv_aload_n hx hb d_GRP_addGroup_23 rfl (lv_at hl 0 rfl) ?_
    refine va_get (D := (dC, dI)) (ci := 4) (v := .int (grp_howMany + 1)) (C := R_GRP) (T := F_GRP) (N := N_GRP) hx hb hts i_GRP hown hK hP 1 rfl rfl 2 (by decide) (hts _ tw_198) (fun _ h9 => h9) rfl d_GRP_addGroup_24 ?_
    refine lv_iload_n hx hb d_GRP_addGroup_27 rfl (lv_at hl 3 rfl) ?_
    refine lv_bipush (v := 12) hx hb d_GRP_addGroup_28 (by decide) ?_
    refine va_mmin hx hb (hml.trans hl.1.symm) hown (hts _ tw_668) (hts _ tw_601) (hts _ tw_96) (hts _ tw_602) (Nat.le_of_ble_eq_true rfl) (Nat.le_of_ble_eq_true rfl) (Nat.zero_le _) (Nat.zero_le _) d_GRP_addGroup_30 ?_
    obtain ⟨hin, hf⟩ := grd_in hf
    refine va_iast hx hb hK hP hD hS 3 0 rfl rfl hin d_GRP_addGroup_33 (fun H locs hP hD hS => ?_)
    have hP : va_P (dC, dI) classes (w_14 cI tS a_pat a_pat_bytes a_grp a_grp_lengths a_grp_letters pat_length (grp_howMany + 1) pat_bytes (upd grp_lengths (grp_howMany + 1).toNatClampNeg (if 12 < p3 then 12 else p3)) grp_letters) H := hP
    have hD : va_D A (w_14 cI tS a_pat a_pat_bytes a_grp a_grp_lengths a_grp_letters pat_length (grp_howMany + 1) pat_bytes (upd grp_lengths (grp_howMany + 1).toNatClampNeg (if 12 < p3 then 12 else p3)) grp_letters) := hD
    refine lv_iconst (v := 0) hx hb d_GRP_addGroup_34 (by decide) ?_
    refine lv_istore (lv' := [(4, .int 0), (0, .ref a_grp), (1, .ref a_pat), (2, .int p2), (3, .int p3)]) hx hb d_GRP_addGroup_35 hl (by decide) rfl (fun ls hl => ?_)
    exact L37 FU 0 (grp_howMany + 1) (upd grp_lengths (grp_howMany + 1).toNatClampNeg (if 12 < p3 then 12 else p3)) grp_letters _ _ _ hP hD hS (lv_sub hl [1, 2, 3, 0] rfl) hf
  · have hf := f_neg c_ hf
    refine lv_iconst (v := 0) hx hb d_GRP_addGroup_7 (by decide) ?_
    obtain rfl := Option.some.inj hf
    exact W.iret (v := 0) hx hb hr (fun t ht hW => ⟨⟨_, (), rfl, rfl, ⟨by rw [ht]; exact hP, va_K.moved hW.alike hK, hD⟩⟩, hS.F ht⟩) hS.2.2 d_GRP_addGroup_8
def f_OPN_enter (opn_depth : Int32) (opn_places : Nat → Int32) (opn_numbers : Nat → Int32) (opn_flagsAround : Nat → Int32) (opn_rows : Nat → Int32) (opn_parts : Nat → Int32) (p1 : Int32) (p2 : Int32) (p3 : Int32) : Option (Int32 × (Nat → Int32) × (Nat → Int32) × (Nat → Int32) × (Nat → Int32) × (Nat → Int32)) :=
  if opn_depth < 30 then grd (inb (opn_depth + 1) 31) (grd (inb (opn_depth + 1) 31) (grd (inb (opn_depth + 1) 31) (grd (inb (opn_depth + 1) 31) (grd (inb (opn_depth + 1) 31) (some (opn_depth + 1, upd opn_places (opn_depth + 1).toNatClampNeg p1, upd opn_numbers (opn_depth + 1).toNatClampNeg p2, upd opn_flagsAround (opn_depth + 1).toNatClampNeg p3, upd opn_rows (opn_depth + 1).toNatClampNeg 0, upd opn_parts (opn_depth + 1).toNatClampNeg 0)))))) else some (opn_depth, opn_places, opn_numbers, opn_flagsAround, opn_rows, opn_parts)
set_option maxRecDepth 100000 in
set_option maxHeartbeats 4000000 in
theorem c_OPN_enter (l : Launch) (dC : Nat → ClassId) (dI : Nat → Nat → Nat) (cI : ClassId) (tS : Nat → Nat → Nat) (sz : Nat) (a_opn a_opn_places a_opn_numbers a_opn_flagsAround a_opn_rows a_opn_parts : Nat) (opn_depth : Int32) (opn_places : Nat → Int32) (opn_numbers : Nat → Int32) (opn_flagsAround : Nat → Int32) (opn_rows : Nat → Int32) (opn_parts : Nat → Int32) (p1 : Int32) (p2 : Int32) (p3 : Int32) (R0 : Int32 × (Nat → Int32) × (Nat → Int32) × (Nat → Int32) × (Nat → Int32) × (Nat → Int32)) (hf : f_OPN_enter opn_depth opn_places opn_numbers opn_flagsAround opn_rows opn_parts p1 p2 p3 = some R0) : Met l y_OPN_enter ws_OPN_enter ({ frames := 0, cells := 0, slots := 0, locals := 0 }) (va_Pc [.ref a_opn, .int p1, .int p2, .int p3] (preS (dC, dI) classes [(cI, .int)] tS (w_15 cI tS a_opn a_opn_places a_opn_numbers a_opn_flagsAround a_opn_rows a_opn_parts opn_depth opn_places opn_numbers opn_flagsAround opn_rows opn_parts) sz)) (va_Qv (fun _ : Unit => True) (fun _ t => posS (dC, dI) classes [(cI, .int)] (w_15 cI tS a_opn a_opn_places a_opn_numbers a_opn_flagsAround a_opn_rows a_opn_parts R0.1 R0.2.1 R0.2.2.1 R0.2.2.2.1 R0.2.2.2.2.1 R0.2.2.2.2.2) (va_A (w_15 cI tS a_opn a_opn_places a_opn_numbers a_opn_flagsAround a_opn_rows a_opn_parts opn_depth opn_places opn_numbers opn_flagsAround opn_rows opn_parts) sz) t) (va_A (w_15 cI tS a_opn a_opn_places a_opn_numbers a_opn_flagsAround a_opn_rows a_opn_parts opn_depth opn_places opn_numbers opn_flagsAround opn_rows opn_parts) sz)) 0 0 (va_A (w_15 cI tS a_opn a_opn_places a_opn_numbers a_opn_flagsAround a_opn_rows a_opn_parts opn_depth opn_places opn_numbers opn_flagsAround opn_rows opn_parts) sz) := by
  refine Met.ofW (cc := b_OPN_enter) (maxL := 4) (ret := none) (by decide) rfl ?_
  intro p e s m args below meth c s₁ B hml hv
  obtain ⟨rfl, hsz, hP, hK, hD0, hst0⟩ := hv
  have hx := B.exec
  have hb := B.bytes
  have hr := B.returns
  have hts0 := atoms_spec (ws := ws_OPN_enter) B.pre
  have hts : ∀ w ∈ GW, w.before _ s = true := fun w h => hts0 w (List.mem_cons_of_mem _ h)
  have hown : s.vm.findClass R_OPN = some m.cls := findClass_of_methodNamed B.named
  have hlocks := B.notSynchronized
  subst hsz
  have hD := hD0.self (sz := s.heap.size)
  generalize hAe : va_A (w_15 cI tS a_opn a_opn_places a_opn_numbers a_opn_flagsAround a_opn_rows a_opn_parts opn_depth opn_places opn_numbers opn_flagsAround opn_rows opn_parts) s.heap.size = A at hD hst0 ⊢
  have hA : ∀ q : Nat, s.heap.size ≤ q → A q := fun q h => by rw [← hAe]; exact Or.inr h
  have hS : va_S A s.heap s.heap [] := va_S.rf
  have hl := lv_entry ([.ref a_opn, .int p1, .int p2, .int p3]) (n := 4) (Nat.le_of_ble_eq_true rfl)
  rw [lg_entry_eq]
  generalize (lg_sl ([.ref a_opn, .int p1, .int p2, .int p3]) ++ List.replicate (4 - (lg_sl ([.ref a_opn, .int p1, .int p2, .int p3])).length) Slot.unset).toArray = ls at hl ⊢
  have hl : lv_has ls 4 [(0, .ref a_opn), (1, .int p1), (2, .int p2), (3, .int p3)] := hl
  refine lv_aload_n hx hb d_OPN_enter_0 rfl (lv_at hl 0 rfl) ?_
  refine va_get (D := (dC, dI)) (ci := 5) (v := .int opn_depth) (C := R_OPN) (T := F_OPN) (N := N_OPN) hx hb hts i_OPN hown hK hP 0 rfl rfl 5 (by decide) (hts _ tw_229) (fun _ h9 => h9) rfl d_OPN_enter_1 ?_
  refine lv_bipush (v := 30) hx hb d_OPN_enter_4 (by decide) ?_
  refine lv_icmp_lt (tgt := 10) hx hb d_OPN_enter_6 (by decide) (fun c_ => ?_) (fun c_ => ?_)
  · have hf := f_pos c_ hf
    refine lv_aload_n hx hb d_OPN_enter_10 rfl (lv_at hl 0 rfl) ?_
    refine lv_dup hx hb d_OPN_enter_11 rfl ?_
    refine va_get (D := (dC, dI)) (ci := 5) (v := .int opn_depth) (C := R_OPN) (T := F_OPN) (N := N_OPN) hx hb hts i_OPN hown hK hP 0 rfl rfl 5 (by decide) (hts _ tw_229) (fun _ h9 => h9) rfl d_OPN_enter_12 ?_
    refine lv_iconst (v := 1) hx hb d_OPN_enter_15 (by decide) ?_
    refine lv_iadd hx hb d_OPN_enter_16 ?_
    refine va_put (D := (dC, dI)) (ci := 5) (v := .int (opn_depth + 1)) (ty := .int) (C := R_OPN) (T := F_OPN) (N := N_OPN) hx hb hts i_OPN ty_OPN ty_OPN_ok n_OPN hown hK hP hD hS 0 rfl rfl 5 (by decide) (hts _ tw_229) (fun _ h9 => h9) rfl (ty_OPN_ok 5 (by decide)) rfl rfl (Nat.le_of_ble_eq_true rfl) d_OPN_enter_17 (fun H locs hP hD hS => ?_)
    have hP : va_P (dC, dI) classes (w_15 cI tS a_opn a_opn_places a_opn_numbers a_opn_flagsAround a_opn_rows a_opn_parts (opn_depth + 1) opn_places opn_numbers opn_flagsAround opn_rows opn_parts) H := hP
    have hD : va_D A (w_15 cI tS a_opn a_opn_places a_opn_numbers a_opn_flagsAround a_opn_rows a_opn_parts (opn_depth + 1) opn_places opn_numbers opn_flagsAround opn_rows opn_parts) := hD
    refine lv_aload_n hx hb d_OPN_enter_20 rfl (lv_at hl 0 rfl) ?_
    refine va_get (D := (dC, dI)) (ci := 5) (v := .ref a_opn_places) (C := R_OPN) (T := F_OPN) (N := N_OPN) hx hb hts i_OPN hown hK hP 0 rfl rfl 0 (by decide) (hts _ tw_219) (fun _ h9 => h9) rfl d_OPN_enter_21 ?_
    refine lv_aload_n hx hb d_OPN_enter_24 rfl (lv_at hl 0 rfl) ?_
    refine va_get (D := (dC, dI)) (ci := 5) (v := .int (opn_depth + 1)) (C := R_OPN) (T := F_OPN) (N := N_OPN) hx hb hts i_OPN hown hK hP 0 rfl rfl 5 (by decide) (hts _ tw_229) (fun _ h9 => h9) rfl d_OPN_enter_25 ?_
    refine lv_iload_n hx hb d_OPN_enter_28 rfl (lv_at hl 1 rfl) ?_
    obtain ⟨hin, hf⟩ := grd_in hf
    refine va_iast hx hb hK hP hD hS 1 0 rfl rfl hin d_OPN_enter_29 (fun H locs hP hD hS => ?_)
    have hP : va_P (dC, dI) classes (w_15 cI tS a_opn a_opn_places a_opn_numbers a_opn_flagsAround a_opn_rows a_opn_parts (opn_depth + 1) (upd opn_places (opn_depth + 1).toNatClampNeg p1) opn_numbers opn_flagsAround opn_rows opn_parts) H := hP
    have hD : va_D A (w_15 cI tS a_opn a_opn_places a_opn_numbers a_opn_flagsAround a_opn_rows a_opn_parts (opn_depth + 1) (upd opn_places (opn_depth + 1).toNatClampNeg p1) opn_numbers opn_flagsAround opn_rows opn_parts) := hD
    refine lv_aload_n hx hb d_OPN_enter_30 rfl (lv_at hl 0 rfl) ?_
    refine va_get (D := (dC, dI)) (ci := 5) (v := .ref a_opn_numbers) (C := R_OPN) (T := F_OPN) (N := N_OPN) hx hb hts i_OPN hown hK hP 0 rfl rfl 1 (by decide) (hts _ tw_221) (fun _ h9 => h9) rfl d_OPN_enter_31 ?_
    refine lv_aload_n hx hb d_OPN_enter_34 rfl (lv_at hl 0 rfl) ?_
    refine va_get (D := (dC, dI)) (ci := 5) (v := .int (opn_depth + 1)) (C := R_OPN) (T := F_OPN) (N := N_OPN) hx hb hts i_OPN hown hK hP 0 rfl rfl 5 (by decide) (hts _ tw_229) (fun _ h9 => h9) rfl d_OPN_enter_35 ?_
    refine lv_iload_n hx hb d_OPN_enter_38 rfl (lv_at hl 2 rfl) ?_
    obtain ⟨hin, hf⟩ := grd_in hf
    refine va_iast hx hb hK hP hD hS 2 0 rfl rfl hin d_OPN_enter_39 (fun H locs hP hD hS => ?_)
    have hP : va_P (dC, dI) classes (w_15 cI tS a_opn a_opn_places a_opn_numbers a_opn_flagsAround a_opn_rows a_opn_parts (opn_depth + 1) (upd opn_places (opn_depth + 1).toNatClampNeg p1) (upd opn_numbers (opn_depth + 1).toNatClampNeg p2) opn_flagsAround opn_rows opn_parts) H := hP
    have hD : va_D A (w_15 cI tS a_opn a_opn_places a_opn_numbers a_opn_flagsAround a_opn_rows a_opn_parts (opn_depth + 1) (upd opn_places (opn_depth + 1).toNatClampNeg p1) (upd opn_numbers (opn_depth + 1).toNatClampNeg p2) opn_flagsAround opn_rows opn_parts) := hD
    refine lv_aload_n hx hb d_OPN_enter_40 rfl (lv_at hl 0 rfl) ?_
    refine va_get (D := (dC, dI)) (ci := 5) (v := .ref a_opn_flagsAround) (C := R_OPN) (T := F_OPN) (N := N_OPN) hx hb hts i_OPN hown hK hP 0 rfl rfl 2 (by decide) (hts _ tw_223) (fun _ h9 => h9) rfl d_OPN_enter_41 ?_
    refine lv_aload_n hx hb d_OPN_enter_44 rfl (lv_at hl 0 rfl) ?_
    refine va_get (D := (dC, dI)) (ci := 5) (v := .int (opn_depth + 1)) (C := R_OPN) (T := F_OPN) (N := N_OPN) hx hb hts i_OPN hown hK hP 0 rfl rfl 5 (by decide) (hts _ tw_229) (fun _ h9 => h9) rfl d_OPN_enter_45 ?_
    refine lv_iload_n hx hb d_OPN_enter_48 rfl (lv_at hl 3 rfl) ?_
    obtain ⟨hin, hf⟩ := grd_in hf
    refine va_iast hx hb hK hP hD hS 3 0 rfl rfl hin d_OPN_enter_49 (fun H locs hP hD hS => ?_)
    have hP : va_P (dC, dI) classes (w_15 cI tS a_opn a_opn_places a_opn_numbers a_opn_flagsAround a_opn_rows a_opn_parts (opn_depth + 1) (upd opn_places (opn_depth + 1).toNatClampNeg p1) (upd opn_numbers (opn_depth + 1).toNatClampNeg p2) (upd opn_flagsAround (opn_depth + 1).toNatClampNeg p3) opn_rows opn_parts) H := hP
    have hD : va_D A (w_15 cI tS a_opn a_opn_places a_opn_numbers a_opn_flagsAround a_opn_rows a_opn_parts (opn_depth + 1) (upd opn_places (opn_depth + 1).toNatClampNeg p1) (upd opn_numbers (opn_depth + 1).toNatClampNeg p2) (upd opn_flagsAround (opn_depth + 1).toNatClampNeg p3) opn_rows opn_parts) := hD
    refine lv_aload_n hx hb d_OPN_enter_50 rfl (lv_at hl 0 rfl) ?_
    refine va_get (D := (dC, dI)) (ci := 5) (v := .ref a_opn_rows) (C := R_OPN) (T := F_OPN) (N := N_OPN) hx hb hts i_OPN hown hK hP 0 rfl rfl 3 (by decide) (hts _ tw_225) (fun _ h9 => h9) rfl d_OPN_enter_51 ?_
    refine lv_aload_n hx hb d_OPN_enter_54 rfl (lv_at hl 0 rfl) ?_
    refine va_get (D := (dC, dI)) (ci := 5) (v := .int (opn_depth + 1)) (C := R_OPN) (T := F_OPN) (N := N_OPN) hx hb hts i_OPN hown hK hP 0 rfl rfl 5 (by decide) (hts _ tw_229) (fun _ h9 => h9) rfl d_OPN_enter_55 ?_
    refine lv_iconst (v := 0) hx hb d_OPN_enter_58 (by decide) ?_
    obtain ⟨hin, hf⟩ := grd_in hf
    refine va_iast hx hb hK hP hD hS 4 0 rfl rfl hin d_OPN_enter_59 (fun H locs hP hD hS => ?_)
    have hP : va_P (dC, dI) classes (w_15 cI tS a_opn a_opn_places a_opn_numbers a_opn_flagsAround a_opn_rows a_opn_parts (opn_depth + 1) (upd opn_places (opn_depth + 1).toNatClampNeg p1) (upd opn_numbers (opn_depth + 1).toNatClampNeg p2) (upd opn_flagsAround (opn_depth + 1).toNatClampNeg p3) (upd opn_rows (opn_depth + 1).toNatClampNeg 0) opn_parts) H := hP
    have hD : va_D A (w_15 cI tS a_opn a_opn_places a_opn_numbers a_opn_flagsAround a_opn_rows a_opn_parts (opn_depth + 1) (upd opn_places (opn_depth + 1).toNatClampNeg p1) (upd opn_numbers (opn_depth + 1).toNatClampNeg p2) (upd opn_flagsAround (opn_depth + 1).toNatClampNeg p3) (upd opn_rows (opn_depth + 1).toNatClampNeg 0) opn_parts) := hD
    refine lv_aload_n hx hb d_OPN_enter_60 rfl (lv_at hl 0 rfl) ?_
    refine va_get (D := (dC, dI)) (ci := 5) (v := .ref a_opn_parts) (C := R_OPN) (T := F_OPN) (N := N_OPN) hx hb hts i_OPN hown hK hP 0 rfl rfl 4 (by decide) (hts _ tw_227) (fun _ h9 => h9) rfl d_OPN_enter_61 ?_
    refine lv_aload_n hx hb d_OPN_enter_64 rfl (lv_at hl 0 rfl) ?_
    refine va_get (D := (dC, dI)) (ci := 5) (v := .int (opn_depth + 1)) (C := R_OPN) (T := F_OPN) (N := N_OPN) hx hb hts i_OPN hown hK hP 0 rfl rfl 5 (by decide) (hts _ tw_229) (fun _ h9 => h9) rfl d_OPN_enter_65 ?_
    refine lv_iconst (v := 0) hx hb d_OPN_enter_68 (by decide) ?_
    obtain ⟨hin, hf⟩ := grd_in hf
    refine va_iast hx hb hK hP hD hS 5 0 rfl rfl hin d_OPN_enter_69 (fun H locs hP hD hS => ?_)
    have hP : va_P (dC, dI) classes (w_15 cI tS a_opn a_opn_places a_opn_numbers a_opn_flagsAround a_opn_rows a_opn_parts (opn_depth + 1) (upd opn_places (opn_depth + 1).toNatClampNeg p1) (upd opn_numbers (opn_depth + 1).toNatClampNeg p2) (upd opn_flagsAround (opn_depth + 1).toNatClampNeg p3) (upd opn_rows (opn_depth + 1).toNatClampNeg 0) (upd opn_parts (opn_depth + 1).toNatClampNeg 0)) H := hP
    have hD : va_D A (w_15 cI tS a_opn a_opn_places a_opn_numbers a_opn_flagsAround a_opn_rows a_opn_parts (opn_depth + 1) (upd opn_places (opn_depth + 1).toNatClampNeg p1) (upd opn_numbers (opn_depth + 1).toNatClampNeg p2) (upd opn_flagsAround (opn_depth + 1).toNatClampNeg p3) (upd opn_rows (opn_depth + 1).toNatClampNeg 0) (upd opn_parts (opn_depth + 1).toNatClampNeg 0)) := hD
    obtain rfl := Option.some.inj hf
    exact W.vret hx hb hr (fun t ht hW => ⟨⟨(), rfl, trivial, ⟨by rw [ht]; exact hP, va_K.moved hW.alike hK, hD⟩⟩, hS.F ht⟩) hS.2.2 d_OPN_enter_70
  · have hf := f_neg c_ hf
    obtain rfl := Option.some.inj hf
    exact W.vret hx hb hr (fun t ht hW => ⟨⟨(), rfl, trivial, ⟨by rw [ht]; exact hP, va_K.moved hW.alike hK, hD⟩⟩, hS.F ht⟩) hS.2.2 d_OPN_enter_9
