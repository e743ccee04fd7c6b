def f_SET_finish_L8 (p1 : Bool) (set_pieces : Int32) (set_begins : Nat → Int32) (set_ends : Nat → Int32) : Option (Int32 × (Nat → Int32) × (Nat → Int32)) :=
  bnd_ (f_SET_add set_pieces set_begins set_ends 55296 57343) (fun x13 => bnd_ (f_SET_turnRound x13.1 x13.2.1 x13.2.2) (fun x17 => some (x17.1, x17.2.1, x17.2.2)))
def f_SET_finish (set_pieces : Int32) (set_begins : Nat → Int32) (set_ends : Nat → Int32) (p1 : Bool) : Option (Int32 × (Nat → Int32) × (Nat → Int32)) :=
  if (b2i p1) = 0 then bnd_ (f_SET_turnRound set_pieces set_begins set_ends) (fun x5 => f_SET_finish_L8 p1 x5.1 x5.2.1 x5.2.2) else f_SET_finish_L8 p1 set_pieces set_begins set_ends
set_option maxRecDepth 100000 in
set_option maxHeartbeats 4000000 in
theorem c_SET_finish (l : Launch) (dC : Nat → ClassId) (dI : Nat → Nat → Nat) (cI : ClassId) (tS : Nat → Nat → Nat) (sz : Nat) (a_set a_set_begins a_set_ends : Nat) (set_pieces : Int32) (set_begins : Nat → Int32) (set_ends : Nat → Int32) (p1 : Bool) (R0 : Int32 × (Nat → Int32) × (Nat → Int32)) (hf : f_SET_finish set_pieces set_begins set_ends p1 = some R0) : Met l y_SET_finish ws_SET_finish ({ frames := 2, cells := 0, slots := 0, locals := 67 }) (va_Pc [.ref a_set, .int (b2i p1)] (preS (dC, dI) classes [(cI, .int)] tS (w_22 cI tS a_set a_set_begins a_set_ends set_pieces set_begins set_ends) sz)) (va_Qv (fun _ : Unit => True) (fun _ t => posS (dC, dI) classes [(cI, .int)] (w_22 cI tS a_set a_set_begins a_set_ends R0.1 R0.2.1 R0.2.2) (va_A (w_22 cI tS a_set a_set_begins a_set_ends set_pieces set_begins set_ends) sz) t) (va_A (w_22 cI tS a_set a_set_begins a_set_ends set_pieces set_begins set_ends) sz)) 0 0 (va_A (w_22 cI tS a_set a_set_begins a_set_ends set_pieces set_begins set_ends) sz) := by
  refine Met.ofW (cc := b_SET_finish) (maxL := 2) (ret := none) (by decide) rfl ?_
  intro p e s m args below meth c s₁ B hml hv
  obtain ⟨rfl, hsz, hP, hK, hD0, hst0⟩ := hv
  have hx := B.exec
  have hb := B.bytes
  have hr := B.returns
  have hts0 := atoms_spec (ws := ws_SET_finish) B.pre
  have hts : ∀ w ∈ GW, w.before _ s = true := fun w h => hts0 w (List.mem_cons_of_mem _ h)
  have hown : s.vm.findClass R_SET = some m.cls := findClass_of_methodNamed B.named
  have hlocks := B.notSynchronized
  subst hsz
  have hD := hD0.self (sz := s.heap.size)
  generalize hAe : va_A (w_22 cI tS a_set a_set_begins a_set_ends set_pieces set_begins set_ends) s.heap.size = A at hD hst0 ⊢
  have hA : ∀ q : Nat, s.heap.size ≤ q → A q := fun q h => by rw [← hAe]; exact Or.inr h
  have hS : va_S A s.heap s.heap [] := va_S.rf
  have hl := lv_entry ([.ref a_set, .int (b2i p1)]) (n := 2) (Nat.le_of_ble_eq_true rfl)
  rw [lg_entry_eq]
  generalize (lg_sl ([.ref a_set, .int (b2i p1)]) ++ List.replicate (2 - (lg_sl ([.ref a_set, .int (b2i p1)])).length) Slot.unset).toArray = ls at hl ⊢
  have hl : lv_has ls 2 [(0, .ref a_set), (1, .int (b2i p1))] := hl
  have L8 : ∀ (set_pieces : Int32) (set_begins : Nat → Int32) (set_ends : Nat → Int32) (H : Heap) (locs : List Loc) (ls : Array Slot), va_P (dC, dI) classes (w_22 cI tS a_set a_set_begins a_set_ends set_pieces set_begins set_ends) H → va_D A (w_22 cI tS a_set a_set_begins a_set_ends set_pieces set_begins set_ends) → va_S A s.heap H locs → lv_has ls 2 [(0, .ref a_set)] → f_SET_finish_L8 p1 set_pieces set_begins set_ends = some R0 → W p l e (headSpec ws_SET_finish ({ frames := 2, cells := 0, slots := 0, locals := 67 })).room s m ([.ref a_set, .int (b2i p1)] : List Value).toArray below meth c H locs 0 0 (MQ below (va_Qv (fun _ : Unit => True) (fun _ t => posS (dC, dI) classes [(cI, .int)] (w_22 cI tS a_set a_set_begins a_set_ends R0.1 R0.2.1 R0.2.2) (A) t) (A)) ([.ref a_set, .int (b2i p1)] : List Value).toArray s 0 0 A) (F0 m 8 ls []) := by
    intro set_pieces set_begins set_ends H locs ls hP hD hS hl hf
    refine lv_aload_n hx hb d_SET_finish_8 rfl (lv_at hl 0 rfl) ?_
    refine lv_ldc (v := 55296) hx hb hown (hts _ tw_707) d_SET_finish_9 ?_
    refine lv_ldc (v := 57343) hx hb hown (hts _ tw_708) d_SET_finish_11 ?_
    obtain ⟨x13, hg, hf⟩ := bnd hf
    have hPc := hP.sub (ws' := (w_22 cI tS a_set a_set_begins a_set_ends set_pieces set_begins set_ends)) [0, 1, 2] rfl
    have hDc := hD.sub (ws' := (w_22 cI tS a_set a_set_begins a_set_ends set_pieces set_begins set_ends)) [0, 1, 2] (by decide) rfl
    have hFc := va_free (wc := (w_22 cI tS a_set a_set_begins a_set_ends set_pieces set_begins set_ends)) hD hS hA [0, 1, 2] rfl
    refine cal_v (va_runV (As := [.int 55296, .int 57343]) (rest := []) ⟨hx, hb, hml, hown, hts⟩ (c_SET_add l dC dI cI tS H.size a_set a_set_begins a_set_ends set_pieces set_begins set_ends 55296 57343 x13 hg) ⟨callB_of 2 hts (gN tw_712) rfl rfl rfl (hts _ tw_86) (hts _ tw_709) hd_SET_add ⟨Nat.le_of_ble_eq_true rfl, Nat.le_of_ble_eq_true rfl⟩, hts _ tw_710, hts _ tw_711⟩ (pre_V hK hPc hDc hst0 hS hFc (va_recv hK hPc (ci := 2) (q0 := 0) rfl rfl)) rfl rfl hl.1 rfl (lv_room (Nat.le_of_ble_eq_true rfl)) d_SET_finish_13 ⟨Nat.zero_le _, Nat.zero_le _⟩) hP hD hS hA [0, 1, 2] [] rfl rfl (by decide) (by decide) (fun H locs hP hD hS => ?_)
    have hP := hP.sub (ws' := (w_22 cI tS a_set a_set_begins a_set_ends x13.1 x13.2.1 x13.2.2)) [0, 1, 2] rfl
    have hD := hD.sub (ws' := (w_22 cI tS a_set a_set_begins a_set_ends x13.1 x13.2.1 x13.2.2)) [0, 1, 2] (by decide) rfl
    refine lv_aload_n hx hb d_SET_finish_16 rfl (lv_at hl 0 rfl) ?_
    obtain ⟨x17, hg, hf⟩ := bnd hf
    have hPc := hP.sub (ws' := (w_22 cI tS a_set a_set_begins a_set_ends x13.1 x13.2.1 x13.2.2)) [0, 1, 2] rfl
    have hDc := hD.sub (ws' := (w_22 cI tS a_set a_set_begins a_set_ends x13.1 x13.2.1 x13.2.2)) [0, 1, 2] (by decide) rfl
    have hFc := va_free (wc := (w_22 cI tS a_set a_set_begins a_set_ends x13.1 x13.2.1 x13.2.2)) hD hS hA [0, 1, 2] rfl
    refine cal_v (va_runV (As := []) (rest := []) ⟨hx, hb, hml, hown, hts⟩ (c_SET_turnRound l dC dI cI tS H.size a_set a_set_begins a_set_ends x13.1 x13.2.1 x13.2.2 x17 hg) ⟨callB_of 0 hts (gN tw_705) rfl rfl rfl (hts _ tw_86) (hts _ tw_702) hd_SET_turnRound ⟨Nat.le_of_ble_eq_true rfl, Nat.le_of_ble_eq_true rfl⟩, hts _ tw_704, hts _ tw_12⟩ (pre_V hK hPc hDc hst0 hS hFc (va_recv hK hPc (ci := 2) (q0 := 0) rfl rfl)) rfl rfl hl.1 rfl (lv_room (Nat.le_of_ble_eq_true rfl)) d_SET_finish_17 ⟨Nat.zero_le _, Nat.zero_le _⟩) hP hD hS hA [0, 1, 2] [] rfl rfl (by decide) (by decide) (fun H locs hP hD hS => ?_)
    have hP := hP.sub (ws' := (w_22 cI tS a_set a_set_begins a_set_ends x17.1 x17.2.1 x17.2.2)) [0, 1, 2] rfl
    have hD := hD.sub (ws' := (w_22 cI tS a_set a_set_begins a_set_ends x17.1 x17.2.1 x17.2.2)) [0, 1, 2] (by decide) rfl
    obtain rfl := Option.some.inj hf
    exact W.vret hx hb hr (fun t ht hW => ⟨⟨(), rfl, trivial, ⟨by rw [ht]; exact hP, va_K.moved hW.alike hK, hD⟩⟩, hS.F ht⟩) hS.2.2 d_SET_finish_20
  refine lv_iload_n hx hb d_SET_finish_0 rfl (lv_at hl 1 rfl) ?_
  refine lv_if_ne (tgt := 8) hx hb d_SET_finish_1 (by decide) (fun c_ => ?_) (fun c_ => ?_)
  · have hf := f_neg c_ hf
    exact L8 set_pieces set_begins set_ends _ _ _ hP hD hS (lv_sub hl [0] rfl) hf
  · have hf := f_pos c_ hf
    refine lv_aload_n hx hb d_SET_finish_4 rfl (lv_at hl 0 rfl) ?_
    obtain ⟨x5, hg, hf⟩ := bnd hf
    have hPc := hP.sub (ws' := (w_22 cI tS a_set a_set_begins a_set_ends set_pieces set_begins set_ends)) [0, 1, 2] rfl
    have hDc := hD.sub (ws' := (w_22 cI tS a_set a_set_begins a_set_ends set_pieces set_begins set_ends)) [0, 1, 2] (by decide) rfl
    have hFc := va_free (wc := (w_22 cI tS a_set a_set_begins a_set_ends set_pieces set_begins set_ends)) hD hS hA [0, 1, 2] rfl
    refine cal_v (va_runV (As := []) (rest := []) ⟨hx, hb, hml, hown, hts⟩ (c_SET_turnRound l dC dI cI tS s.heap.size a_set a_set_begins a_set_ends set_pieces set_begins set_ends x5 hg) ⟨callB_of 0 hts (gN tw_705) rfl rfl rfl (hts _ tw_86) (hts _ tw_702) hd_SET_turnRound ⟨Nat.le_of_ble_eq_true rfl, Nat.le_of_ble_eq_true rfl⟩, hts _ tw_704, hts _ tw_12⟩ (pre_V hK hPc hDc hst0 hS hFc (va_recv hK hPc (ci := 2) (q0 := 0) rfl rfl)) rfl rfl hl.1 rfl (lv_room (Nat.le_of_ble_eq_true rfl)) d_SET_finish_5 ⟨Nat.zero_le _, Nat.zero_le _⟩) hP hD hS hA [0, 1, 2] [] rfl rfl (by decide) (by decide) (fun H locs hP hD hS => ?_)
    have hP := hP.sub (ws' := (w_22 cI tS a_set a_set_begins a_set_ends x5.1 x5.2.1 x5.2.2)) [0, 1, 2] rfl
    have hD := hD.sub (ws' := (w_22 cI tS a_set a_set_begins a_set_ends x5.1 x5.2.1 x5.2.2)) [0, 1, 2] (by decide) rfl
    exact L8 x5.1 x5.2.1 x5.2.2 _ _ _ hP hD hS (lv_sub hl [0] rfl) hf
def f_ESC_setOf (p0 : Int32) : Option Nat :=
  if p0 = 68 then some 2 else (if p0 = 83 then some 3 else (if p0 = 87 then some 4 else (if p0 = 100 then some 2 else (if p0 = 115 then some 3 else (if p0 = 119 then some 4 else some 0)))))
set_option maxRecDepth 100000 in
set_option maxHeartbeats 4000000 in
theorem c_ESC_setOf (l : Launch) (dC : Nat → ClassId) (dI : Nat → Nat → Nat) (cI : ClassId) (tS : Nat → Nat → Nat) (sz : Nat) (p0 : Int32) (R0 : Nat) (hf : f_ESC_setOf p0 = some R0) : Met l y_ESC_setOf ws_ESC_setOf ({ frames := 0, cells := 0, slots := 0, locals := 0 }) (va_Pc [.int p0] (preS (dC, dI) classes [(cI, .int)] tS (w_11 cI tS) sz)) (va_Qr (fun _ : Unit => True) (fun _ a t => a = tS 0 R0 ∧ posS (dC, dI) classes [(cI, .int)] (w_11 cI tS) (va_A (w_11 cI tS) sz) t) (va_A (w_11 cI tS) sz)) 0 0 (va_A (w_11 cI tS) sz) := by
  refine Met.ofW (cc := b_ESC_setOf) (maxL := 1) (ret := (some (.array .int))) (by decide) rfl ?_
  intro p e s m args below meth c s₁ B hml hv
  obtain ⟨rfl, hsz, hP, hK, hD0, hst0⟩ := hv
  have hx := B.exec
  have hb := B.bytes
  have hr := B.returns
  have hts0 := atoms_spec (ws := ws_ESC_setOf) B.pre
  have hts : ∀ w ∈ GW, w.before _ s = true := fun w h => hts0 w (List.mem_cons_of_mem _ h)
  have hown : s.vm.findClass R_ESC = some m.cls := findClass_of_methodNamed B.named
  have hlocks := B.notSynchronized
  subst hsz
  have hD := hD0.self (sz := s.heap.size)
  generalize hAe : va_A (w_11 cI tS) s.heap.size = A at hD hst0 ⊢
  have hA : ∀ q : Nat, s.heap.size ≤ q → A q := fun q h => by rw [← hAe]; exact Or.inr h
  have hS : va_S A s.heap s.heap [] := va_S.rf
  have hl := lv_entry ([.int p0]) (n := 1) (Nat.le_of_ble_eq_true rfl)
  rw [lg_entry_eq]
  generalize (lg_sl ([.int p0]) ++ List.replicate (1 - (lg_sl ([.int p0])).length) Slot.unset).toArray = ls at hl ⊢
  have hl : lv_has ls 1 [(0, .int p0)] := hl
  refine lv_iload_n hx hb d_ESC_setOf_0 rfl (lv_at hl 0 rfl) ?_
  rcases Classical.em (p0 = 68) with c_ | n_0
  · have hf := f_pos c_ hf
    refine lv_lookup (off := 59) (tgt := 60) hx hb d_ESC_setOf_1 (by decide) (by rw [c_]; try decide) (by decide) ?_
    refine va_getsN hx hb (st_Z hst0 2 (by decide)) hS hown (va_Nw.use rfl (hst0.2.1 _ tn_726)) (fun _ h9 => h9) d_ESC_setOf_60 ?_
    obtain rfl := Option.some.inj hf
    exact W.aret hx hb hr (Or.inr ⟨_, rfl⟩) (Or.inr ⟨_, rfl⟩) (fun t ht hW => ⟨⟨(), _, rfl, trivial, rfl, ⟨by rw [ht]; exact hP, va_K.moved hW.alike hK, hD⟩⟩, hS.F ht⟩) hS.2.2 d_ESC_setOf_63
  have hf := f_neg n_0 hf
  rcases Classical.em (p0 = 83) with c_ | n_1
  · have hf := f_pos c_ hf
    refine lv_lookup (off := 63) (tgt := 64) hx hb d_ESC_setOf_1 (by decide) (by rw [c_]; try decide) (by decide) ?_
    refine va_getsN hx hb (st_Z hst0 3 (by decide)) hS hown (va_Nw.use rfl (hst0.2.1 _ tn_728)) (fun _ h9 => h9) d_ESC_setOf_64 ?_
    obtain rfl := Option.some.inj hf
    exact W.aret hx hb hr (Or.inr ⟨_, rfl⟩) (Or.inr ⟨_, rfl⟩) (fun t ht hW => ⟨⟨(), _, rfl, trivial, rfl, ⟨by rw [ht]; exact hP, va_K.moved hW.alike hK, hD⟩⟩, hS.F ht⟩) hS.2.2 d_ESC_setOf_67
  have hf := f_neg n_1 hf
  rcases Classical.em (p0 = 87) with c_ | n_2
  · have hf := f_pos c_ hf
    refine lv_lookup (off := 67) (tgt := 68) hx hb d_ESC_setOf_1 (by decide) (by rw [c_]; try decide) (by decide) ?_
    refine va_getsN hx hb (st_Z hst0 4 (by decide)) hS hown (va_Nw.use rfl (hst0.2.1 _ tn_730)) (fun _ h9 => h9) d_ESC_setOf_68 ?_
    obtain rfl := Option.some.inj hf
    exact W.aret hx hb hr (Or.inr ⟨_, rfl⟩) (Or.inr ⟨_, rfl⟩) (fun t ht hW => ⟨⟨(), _, rfl, trivial, rfl, ⟨by rw [ht]; exact hP, va_K.moved hW.alike hK, hD⟩⟩, hS.F ht⟩) hS.2.2 d_ESC_setOf_71
  have hf := f_neg n_2 hf
  rcases Classical.em (p0 = 100) with c_ | n_3
  · have hf := f_pos c_ hf
    refine lv_lookup (off := 59) (tgt := 60) hx hb d_ESC_setOf_1 (by decide) (by rw [c_]; try decide) (by decide) ?_
    refine va_getsN hx hb (st_Z hst0 2 (by decide)) hS hown (va_Nw.use rfl (hst0.2.1 _ tn_726)) (fun _ h9 => h9) d_ESC_setOf_60 ?_
    obtain rfl := Option.some.inj hf
    exact W.aret hx hb hr (Or.inr ⟨_, rfl⟩) (Or.inr ⟨_, rfl⟩) (fun t ht hW => ⟨⟨(), _, rfl, trivial, rfl, ⟨by rw [ht]; exact hP, va_K.moved hW.alike hK, hD⟩⟩, hS.F ht⟩) hS.2.2 d_ESC_setOf_63
  have hf := f_neg n_3 hf
  rcases Classical.em (p0 = 115) with c_ | n_4
  · have hf := f_pos c_ hf
    refine lv_lookup (off := 63) (tgt := 64) hx hb d_ESC_setOf_1 (by decide) (by rw [c_]; try decide) (by decide) ?_
    refine va_getsN hx hb (st_Z hst0 3 (by decide)) hS hown (va_Nw.use rfl (hst0.2.1 _ tn_728)) (fun _ h9 => h9) d_ESC_setOf_64 ?_
    obtain rfl := Option.some.inj hf
    exact W.aret hx hb hr (Or.inr ⟨_, rfl⟩) (Or.inr ⟨_, rfl⟩) (fun t ht hW => ⟨⟨(), _, rfl, trivial, rfl, ⟨by rw [ht]; exact hP, va_K.moved hW.alike hK, hD⟩⟩, hS.F ht⟩) hS.2.2 d_ESC_setOf_67
  have hf := f_neg n_4 hf
  rcases Classical.em (p0 = 119) with c_ | n_5
  · have hf := f_pos c_ hf
    refine lv_lookup (off := 67) (tgt := 68) hx hb d_ESC_setOf_1 (by decide) (by rw [c_]; try decide) (by decide) ?_
    refine va_getsN hx hb (st_Z hst0 4 (by decide)) hS hown (va_Nw.use rfl (hst0.2.1 _ tn_730)) (fun _ h9 => h9) d_ESC_setOf_68 ?_
    obtain rfl := Option.some.inj hf
    exact W.aret hx hb hr (Or.inr ⟨_, rfl⟩) (Or.inr ⟨_, rfl⟩) (fun t ht hW => ⟨⟨(), _, rfl, trivial, rfl, ⟨by rw [ht]; exact hP, va_K.moved hW.alike hK, hD⟩⟩, hS.F ht⟩) hS.2.2 d_ESC_setOf_71
  have hf := f_neg n_5 hf
  refine lv_lookup (off := 71) (tgt := 72) hx hb d_ESC_setOf_1 (by decide) ((lv_osw n_0 (k := 68) rfl).trans ((lv_osw n_1 (k := 83) rfl).trans ((lv_osw n_2 (k := 87) rfl).trans ((lv_osw n_3 (k := 100) rfl).trans ((lv_osw n_4 (k := 115) rfl).trans ((lv_osw n_5 (k := 119) rfl).trans rfl)))))) (by decide) ?_
  refine va_getsN hx hb (st_Z hst0 0 (by decide)) hS hown (va_Nw.use rfl (hst0.2.1 _ tn_269)) (fun _ h9 => h9) d_ESC_setOf_72 ?_
  obtain rfl := Option.some.inj hf
  exact W.aret hx hb hr (Or.inr ⟨_, rfl⟩) (Or.inr ⟨_, rfl⟩) (fun t ht hW => ⟨⟨(), _, rfl, trivial, rfl, ⟨by rw [ht]; exact hP, va_K.moved hW.alike hK, hD⟩⟩, hS.F ht⟩) hS.2.2 d_ESC_setOf_75
def f_ESC_isSetLetter (p0 : Int32) : Option Bool :=
  if p0 = 112 then some true else (if p0 = 80 then some true else bnd_ (f_ESC_setOf p0) (fun x13 => if (Int32.ofNat (stN x13)) ≤ 0 then some false else some true))
set_option maxRecDepth 100000 in
set_option maxHeartbeats 4000000 in
theorem c_ESC_isSetLetter (l : Launch) (dC : Nat → ClassId) (dI : Nat → Nat → Nat) (cI : ClassId) (tS : Nat → Nat → Nat) (sz : Nat) (p0 : Int32) (R0 : Bool) (hf : f_ESC_isSetLetter p0 = some R0) : Met l y_ESC_isSetLetter ws_ESC_isSetLetter ({ frames := 1, cells := 0, slots := 0, locals := 20 }) (va_Pc [.int p0] (preS (dC, dI) classes [(cI, .int)] tS (w_11 cI tS) sz)) (va_Qi (fun r (_ : Unit) => r = b2i R0) (fun _ t => posS (dC, dI) classes [(cI, .int)] (w_11 cI tS) (va_A (w_11 cI tS) sz) t) (va_A (w_11 cI tS) sz)) 0 0 (va_A (w_11 cI tS) sz) := by
  refine Met.ofW (cc := b_ESC_isSetLetter) (maxL := 1) (ret := (some .boolean)) (by decide) rfl ?_
  intro p e s m args below meth c s₁ B hml hv
  obtain ⟨rfl, hsz, hP, hK, hD0, hst0⟩ := hv
  have hx := B.exec
  have hb := B.bytes
  have hr := B.returns
  have hts0 := atoms_spec (ws := ws_ESC_isSetLetter) B.pre
  have hts : ∀ w ∈ GW, w.before _ s = true := fun w h => hts0 w (List.mem_cons_of_mem _ h)
  have hown : s.vm.findClass R_ESC = some m.cls := findClass_of_methodNamed B.named
  have hlocks := B.notSynchronized
  subst hsz
  have hD := hD0.self (sz := s.heap.size)
  generalize hAe : va_A (w_11 cI tS) s.heap.size = A at hD hst0 ⊢
  have hA : ∀ q : Nat, s.heap.size ≤ q → A q := fun q h => by rw [← hAe]; exact Or.inr h
  have hS : va_S A s.heap s.heap [] := va_S.rf
  have hl := lv_entry ([.int p0]) (n := 1) (Nat.le_of_ble_eq_true rfl)
  rw [lg_entry_eq]
  generalize (lg_sl ([.int p0]) ++ List.replicate (1 - (lg_sl ([.int p0])).length) Slot.unset).toArray = ls at hl ⊢
  have hl : lv_has ls 1 [(0, .int p0)] := hl
  refine lv_iload_n hx hb d_ESC_isSetLetter_0 rfl (lv_at hl 0 rfl) ?_
  refine lv_bipush (v := 112) hx hb d_ESC_isSetLetter_1 (by decide) ?_
  refine lv_icmp_eq (tgt := 20) hx hb d_ESC_isSetLetter_3 (by decide) (fun c_ => ?_) (fun c_ => ?_)
  · have hf := f_pos c_ hf
    refine lv_iconst (v := 1) hx hb d_ESC_isSetLetter_20 (by decide) ?_
    refine lv_goto (tgt := 25) hx hb d_ESC_isSetLetter_21 (by decide) ?_
    obtain rfl := Option.some.inj hf
    exact W.zret (v := b2i true) hx hb hr (nr_b _) (fun t ht hW => ⟨⟨_, (), rfl, rfl, ⟨by rw [ht]; exact hP, va_K.moved hW.alike hK, hD⟩⟩, hS.F ht⟩) hS.2.2 d_ESC_isSetLetter_25
  · have hf := f_neg c_ hf
    refine lv_iload_n hx hb d_ESC_isSetLetter_6 rfl (lv_at hl 0 rfl) ?_
    refine lv_bipush (v := 80) hx hb d_ESC_isSetLetter_7 (by decide) ?_
    refine lv_icmp_eq (tgt := 20) hx hb d_ESC_isSetLetter_9 (by decide) (fun c_ => ?_) (fun c_ => ?_)
    · have hf := f_pos c_ hf
      refine lv_iconst (v := 1) hx hb d_ESC_isSetLetter_20 (by decide) ?_
      refine lv_goto (tgt := 25) hx hb d_ESC_isSetLetter_21 (by decide) ?_
      obtain rfl := Option.some.inj hf
      exact W.zret (v := b2i true) hx hb hr (nr_b _) (fun t ht hW => ⟨⟨_, (), rfl, rfl, ⟨by rw [ht]; exact hP, va_K.moved hW.alike hK, hD⟩⟩, hS.F ht⟩) hS.2.2 d_ESC_isSetLetter_25
    · have hf := f_neg c_ hf
      refine lv_iload_n hx hb d_ESC_isSetLetter_12 rfl (lv_at hl 0 rfl) ?_
      obtain ⟨x13, hg, hf⟩ := bnd hf
      have hPc := hP.sub (ws' := (w_11 cI tS)) [] rfl
      have hDc := hD.sub (ws' := (w_11 cI tS)) [] (by decide) rfl
      have hFc := va_free (wc := (w_11 cI tS)) hD hS hA [] rfl
      refine cal_r (va_runS (As := [.int p0]) (rest := []) ⟨hx, hb, hml, hown, hts⟩ (c_ESC_setOf l dC dI cI tS s.heap.size p0 x13 hg) ⟨callB_of 1 hts (gN tw_725) rfl rfl rfl (hts _ tw_87) (hts _ tw_723) hd_ESC_setOf ⟨Nat.le_of_ble_eq_true rfl, Nat.le_of_ble_eq_true rfl⟩, hts _ tw_724⟩ (pre_S hK hPc hDc hst0 hS hFc) rfl rfl hl.1 rfl (lv_room (Nat.le_of_ble_eq_true rfl)) d_ESC_isSetLetter_13 ⟨Nat.zero_le _, Nat.zero_le _⟩) hP hD hS hA [] [] rfl rfl (by decide) (by decide) (fun H locs hP hD hS => ?_)
      have hP := hP.sub (ws' := (w_11 cI tS)) [] rfl
      have hD := hD.sub (ws' := (w_11 cI tS)) [] (by decide) rfl
      refine va_tlen hx hb (st_T hst0 x13) hS rfl d_ESC_isSetLetter_16 ?_
      refine lv_if_le (tgt := 24) hx hb d_ESC_isSetLetter_17 (by decide) (fun c_ => ?_) (fun c_ => ?_)
      · have hf := f_pos c_ hf
        refine lv_iconst (v := 0) hx hb d_ESC_isSetLetter_24 (by decide) ?_
        obtain rfl := Option.some.inj hf
        exact W.zret (v := b2i false) hx hb hr (nr_b _) (fun t ht hW => ⟨⟨_, (), rfl, rfl, ⟨by rw [ht]; exact hP, va_K.moved hW.alike hK, hD⟩⟩, hS.F ht⟩) hS.2.2 d_ESC_isSetLetter_25
      · have hf := f_neg c_ hf
        refine lv_iconst (v := 1) hx hb d_ESC_isSetLetter_20 (by decide) ?_
        refine lv_goto (tgt := 25) hx hb d_ESC_isSetLetter_21 (by decide) ?_
        obtain rfl := Option.some.inj hf
        exact W.zret (v := b2i true) hx hb hr (nr_b _) (fun t ht hW => ⟨⟨_, (), rfl, rfl, ⟨by rw [ht]; exact hP, va_K.moved hW.alike hK, hD⟩⟩, hS.F ht⟩) hS.2.2 d_ESC_isSetLetter_25
def f_CLS_isSetItem (pat_length : Int32) (pat_bytes : Nat → Int32) (p1 : Int32) : Option Bool :=
  bnd_ (f_PAT_at pat_length pat_bytes (p1 + 1)) (fun x7 => bnd_ (f_PAT_at pat_length pat_bytes p1) (fun x16 => if x16 = 91 then (if x7 = 58 then some true else some false) else (if x16 = 92 then bnd_ (f_ESC_isSetLetter x7) (fun x57 => some x57) else some false)))
set_option maxRecDepth 100000 in
set_option maxHeartbeats 4000000 in
theorem c_CLS_isSetItem (l : Launch) (dC : Nat → ClassId) (dI : Nat → Nat → Nat) (cI : ClassId) (tS : Nat → Nat → Nat) (sz : Nat) (a_pat a_pat_bytes a_cls a_mis a_esc a_set : Nat) (pat_length : Int32) (cls_single : Int32) (pat_bytes : Nat → Int32) (p1 : Int32) (R0 : Bool) (hf : f_CLS_isSetItem pat_length pat_bytes p1 = some R0) : Met l y_CLS_isSetItem ws_CLS_isSetItem ({ frames := 2, cells := 0, slots := 0, locals := 40 }) (va_Pc [.ref a_cls, .int p1] (preS (dC, dI) classes [(cI, .int)] tS (w_23 cI tS a_pat a_pat_bytes a_cls a_mis a_esc a_set pat_length cls_single pat_bytes) sz)) (va_Qi (fun r (_ : Unit) => r = b2i R0) (fun _ t => posS (dC, dI) classes [(cI, .int)] (w_23 cI tS a_pat a_pat_bytes a_cls a_mis a_esc a_set pat_length cls_single pat_bytes) (va_A (w_23 cI tS a_pat a_pat_bytes a_cls a_mis a_esc a_set pat_length cls_single pat_bytes) sz) t) (va_A (w_23 cI tS a_pat a_pat_bytes a_cls a_mis a_esc a_set pat_length cls_single pat_bytes) sz)) 0 0 (va_A (w_23 cI tS a_pat a_pat_bytes a_cls a_mis a_esc a_set pat_length cls_single pat_bytes) sz) := by
  refine Met.ofW (cc := b_CLS_isSetItem) (maxL := 3) (ret := (some .boolean)) (by decide) rfl ?_
  intro p e s m args below meth c s₁ B hml hv
  obtain ⟨rfl, hsz, hP, hK, hD0, hst0⟩ := hv
  have hx := B.exec
  have hb := B.bytes
  have hr := B.returns
  have hts0 := atoms_spec (ws := ws_CLS_isSetItem) B.pre
  have hts : ∀ w ∈ GW, w.before _ s = true := fun w h => hts0 w (List.mem_cons_of_mem _ h)
  have hown : s.vm.findClass R_CLS = some m.cls := findClass_of_methodNamed B.named
  have hlocks := B.notSynchronized
  subst hsz
  have hD := hD0.self (sz := s.heap.size)
  generalize hAe : va_A (w_23 cI tS a_pat a_pat_bytes a_cls a_mis a_esc a_set pat_length cls_single pat_bytes) s.heap.size = A at hD hst0 ⊢
  have hA : ∀ q : Nat, s.heap.size ≤ q → A q := fun q h => by rw [← hAe]; exact Or.inr h
  have hS : va_S A s.heap s.heap [] := va_S.rf
  have hl := lv_entry ([.ref a_cls, .int p1]) (n := 3) (Nat.le_of_ble_eq_true rfl)
  rw [lg_entry_eq]
  generalize (lg_sl ([.ref a_cls, .int p1]) ++ List.replicate (3 - (lg_sl ([.ref a_cls, .int p1])).length) Slot.unset).toArray = ls at hl ⊢
  have hl : lv_has ls 3 [(0, .ref a_cls), (1, .int p1)] := hl
  refine lv_aload_n hx hb d_CLS_isSetItem_0 rfl (lv_at hl 0 rfl) ?_
  refine va_get (D := (dC, dI)) (ci := 7) (v := .ref a_pat) (C := R_CLS) (T := F_CLS) (N := N_CLS) hx hb hts i_CLS hown hK hP 1 rfl rfl 0 (by decide) (hts _ tw_306) (fun _ h9 => h9) rfl d_CLS_isSetItem_1 ?_
  refine lv_iload_n hx hb d_CLS_isSetItem_4 rfl (lv_at hl 1 rfl) ?_
  refine lv_iconst (v := 1) hx hb d_CLS_isSetItem_5 (by decide) ?_
  refine lv_iadd hx hb d_CLS_isSetItem_6 ?_
  obtain ⟨x7, hg, hf⟩ := bnd hf
  have hPc := hP.sub (ws' := (w_0 cI tS a_pat a_pat_bytes pat_length pat_bytes)) [0, 2] rfl
  have hDc := hD.sub (ws' := (w_0 cI tS a_pat a_pat_bytes pat_length pat_bytes)) [0, 2] (by decide) rfl
  have hFc := va_free (wc := (w_0 cI tS a_pat a_pat_bytes pat_length pat_bytes)) hD hS hA [0, 2] rfl
  refine cal_i (va_runV (As := [.int (p1 + 1)]) (rest := []) ⟨hx, hb, hml, hown, hts⟩ (c_PAT_at l dC dI cI tS s.heap.size a_pat a_pat_bytes pat_length pat_bytes (p1 + 1) x7 hg) ⟨callB_of 1 hts (gN tw_586) rfl rfl rfl (hts _ tw_80) (hts _ tw_693) hd_PAT_at ⟨Nat.le_of_ble_eq_true rfl, Nat.le_of_ble_eq_true rfl⟩, hts _ tw_584, hts _ tw_585⟩ (pre_V hK hPc hDc hst0 hS hFc (va_recv hK hPc (ci := 0) (q0 := 0) rfl rfl)) rfl rfl hl.1 rfl (lv_room (Nat.le_of_ble_eq_true rfl)) d_CLS_isSetItem_7 ⟨Nat.zero_le _, Nat.zero_le _⟩) hP hD hS hA [0, 2] [1] rfl rfl (by decide) (by decide) (fun H locs hP hD hS => ?_)
  have hP := hP.sub (ws' := (w_23 cI tS a_pat a_pat_bytes a_cls a_mis a_esc a_set pat_length cls_single pat_bytes)) [1, 0, 2] rfl
  have hD := hD.sub (ws' := (w_23 cI tS a_pat a_pat_bytes a_cls a_mis a_esc a_set pat_length cls_single pat_bytes)) [1, 0, 2] (by decide) rfl
  refine lv_istore_n (lv' := [(2, .int x7), (0, .ref a_cls), (1, .int p1)]) hx hb d_CLS_isSetItem_10 rfl hl (by decide) rfl (fun ls hl => ?_)
  refine lv_aload_n hx hb d_CLS_isSetItem_11 rfl (lv_at hl 1 rfl) ?_
  refine va_get (D := (dC, dI)) (ci := 7) (v := .ref a_pat) (C := R_CLS) (T := F_CLS) (N := N_CLS) hx hb hts i_CLS hown hK hP 1 rfl rfl 0 (by decide) (hts _ tw_306) (fun _ h9 => h9) rfl d_CLS_isSetItem_12 ?_
  refine lv_iload_n hx hb d_CLS_isSetItem_15 rfl (lv_at hl 2 rfl) ?_
  obtain ⟨x16, hg, hf⟩ := bnd hf
  have hPc := hP.sub (ws' := (w_0 cI tS a_pat a_pat_bytes pat_length pat_bytes)) [0, 2] rfl
  have hDc := hD.sub (ws' := (w_0 cI tS a_pat a_pat_bytes pat_length pat_bytes)) [0, 2] (by decide) rfl
  have hFc := va_free (wc := (w_0 cI tS a_pat a_pat_bytes pat_length pat_bytes)) hD hS hA [0, 2] rfl
  refine cal_i (va_runV (As := [.int p1]) (rest := []) ⟨hx, hb, hml, hown, hts⟩ (c_PAT_at l dC dI cI tS H.size a_pat a_pat_bytes pat_length pat_bytes p1 x16 hg) ⟨callB_of 1 hts (gN tw_586) rfl rfl rfl (hts _ tw_80) (hts _ tw_693) hd_PAT_at ⟨Nat.le_of_ble_eq_true rfl, Nat.le_of_ble_eq_true rfl⟩, hts _ tw_584, hts _ tw_585⟩ (pre_V hK hPc hDc hst0 hS hFc (va_recv hK hPc (ci := 0) (q0 := 0) rfl rfl)) rfl rfl hl.1 rfl (lv_room (Nat.le_of_ble_eq_true rfl)) d_CLS_isSetItem_16 ⟨Nat.zero_le _, Nat.zero_le _⟩) hP hD hS hA [0, 2] [1] rfl rfl (by decide) (by decide) (fun H locs hP hD hS => ?_)
  have hP := hP.sub (ws' := (w_23 cI tS a_pat a_pat_bytes a_cls a_mis a_esc a_set pat_length cls_single pat_bytes)) [1, 0, 2] rfl
  have hD := hD.sub (ws' := (w_23 cI tS a_pat a_pat_bytes a_cls a_mis a_esc a_set pat_length cls_single pat_bytes)) [1, 0, 2] (by decide) rfl
  rcases Classical.em (x16 = 91) with c_ | n_0
  · have hf := f_pos c_ hf
    refine lv_lookup (off := 25) (tgt := 44) hx hb d_CLS_isSetItem_19 (by decide) (by rw [c_]; try decide) (by decide) ?_
    refine lv_iload_n hx hb d_CLS_isSetItem_44 rfl (lv_at hl 0 rfl) ?_
    refine lv_bipush (v := 58) hx hb d_CLS_isSetItem_45 (by decide) ?_
    refine lv_icmp_ne (tgt := 54) hx hb d_CLS_isSetItem_47 (by decide) (fun c_ => ?_) (fun c_ => ?_)
    · have hf := f_neg c_ hf
      refine lv_iconst (v := 0) hx hb d_CLS_isSetItem_54 (by decide) ?_
      obtain rfl := Option.some.inj hf
      exact W.zret (v := b2i false) hx hb hr (nr_b _) (fun t ht hW => ⟨⟨_, (), rfl, rfl, ⟨by rw [ht]; exact hP, va_K.moved hW.alike hK, hD⟩⟩, hS.F ht⟩) hS.2.2 d_CLS_isSetItem_55
    · have hf := f_pos c_ hf
      refine lv_iconst (v := 1) hx hb d_CLS_isSetItem_50 (by decide) ?_
      refine lv_goto (tgt := 55) hx hb d_CLS_isSetItem_51 (by decide) ?_
      obtain rfl := Option.some.inj hf
      exact W.zret (v := b2i true) hx hb hr (nr_b _) (fun t ht hW => ⟨⟨_, (), rfl, rfl, ⟨by rw [ht]; exact hP, va_K.moved hW.alike hK, hD⟩⟩, hS.F ht⟩) hS.2.2 d_CLS_isSetItem_55
  have hf := f_neg n_0 hf
  rcases Classical.em (x16 = 92) with c_ | n_1
  · have hf := f_pos c_ hf
    refine lv_lookup (off := 37) (tgt := 56) hx hb d_CLS_isSetItem_19 (by decide) (by rw [c_]; try decide) (by decide) ?_
    refine lv_iload_n hx hb d_CLS_isSetItem_56 rfl (lv_at hl 0 rfl) ?_
    obtain ⟨x57, hg, hf⟩ := bnd hf
    have hPc := hP.sub (ws' := (w_11 cI tS)) [] rfl
    have hDc := hD.sub (ws' := (w_11 cI tS)) [] (by decide) rfl
    have hFc := va_free (wc := (w_11 cI tS)) hD hS hA [] rfl
    refine cal_i (va_runS (As := [.int x7]) (rest := []) ⟨hx, hb, hml, hown, hts⟩ (c_ESC_isSetLetter l dC dI cI tS H.size x7 x57 hg) ⟨callB_of 1 hts (gN tw_722) rfl rfl rfl (hts _ tw_87) (hts _ tw_720) hd_ESC_isSetLetter ⟨Nat.le_of_ble_eq_true rfl, Nat.le_of_ble_eq_true rfl⟩, hts _ tw_721⟩ (pre_S hK hPc hDc hst0 hS hFc) rfl rfl hl.1 rfl (lv_room (Nat.le_of_ble_eq_true rfl)) d_CLS_isSetItem_57 ⟨Nat.zero_le _, Nat.zero_le _⟩) hP hD hS hA [] [0, 1, 2] rfl rfl (by decide) (by decide) (fun H locs hP hD hS => ?_)
    have hP := hP.sub (ws' := (w_23 cI tS a_pat a_pat_bytes a_cls a_mis a_esc a_set pat_length cls_single pat_bytes)) [0, 1, 2] rfl
    have hD := hD.sub (ws' := (w_23 cI tS a_pat a_pat_bytes a_cls a_mis a_esc a_set pat_length cls_single pat_bytes)) [0, 1, 2] (by decide) rfl
    obtain rfl := Option.some.inj hf
    exact W.zret (v := b2i x57) hx hb hr (nr_b _) (fun t ht hW => ⟨⟨_, (), rfl, rfl, ⟨by rw [ht]; exact hP, va_K.moved hW.alike hK, hD⟩⟩, hS.F ht⟩) hS.2.2 d_CLS_isSetItem_60
  have hf := f_neg n_1 hf
  refine lv_lookup (off := 42) (tgt := 61) hx hb d_CLS_isSetItem_19 (by decide) ((lv_osw n_0 (k := 91) rfl).trans ((lv_osw n_1 (k := 92) rfl).trans rfl)) (by decide) ?_
  refine lv_iconst (v := 0) hx hb d_CLS_isSetItem_61 (by decide) ?_
  obtain rfl := Option.some.inj hf
  exact W.zret (v := b2i false) hx hb hr (nr_b _) (fun t ht hW => ⟨⟨_, (), rfl, rfl, ⟨by rw [ht]; exact hP, va_K.moved hW.alike hK, hD⟩⟩, hS.F ht⟩) hS.2.2 d_CLS_isSetItem_62
def f_ESC_found (esc_kind : Int32) (esc_value : Int32) (p1 : Int32) (p2 : Int32) : Option (Int32 × Int32 × Int32) :=
  some (0, p1, p2)
set_option maxRecDepth 100000 in
set_option maxHeartbeats 4000000 in
theorem c_ESC_found (l : Launch) (dC : Nat → ClassId) (dI : Nat → Nat → Nat) (cI : ClassId) (tS : Nat → Nat → Nat) (sz : Nat) (a_esc a_pat : Nat) (esc_kind : Int32) (esc_value : Int32) (esc_set : Nat) (esc_others : Bool) (esc_after : Int32) (p1 : Int32) (p2 : Int32) (R0 : Int32 × Int32 × Int32) (hf : f_ESC_found esc_kind esc_value p1 p2 = some R0) : Met l y_ESC_found ws_ESC_found ({ frames := 0, cells := 0, slots := 0, locals := 0 }) (va_Pc [.ref a_esc, .int p1, .int p2] (preS (dC, dI) classes [(cI, .int)] tS (w_24 cI tS a_esc a_pat esc_kind esc_value esc_set esc_others esc_after) sz)) (va_Qi (fun r (_ : Unit) => r = R0.1) (fun _ t => posS (dC, dI) classes [(cI, .int)] (w_24 cI tS a_esc a_pat R0.2.1 R0.2.2 esc_set esc_others esc_after) (va_A (w_24 cI tS a_esc a_pat esc_kind esc_value esc_set esc_others esc_after) sz) t) (va_A (w_24 cI tS a_esc a_pat esc_kind esc_value esc_set esc_others esc_after) sz)) 0 0 (va_A (w_24 cI tS a_esc a_pat esc_kind esc_value esc_set esc_others esc_after) sz) := by
  refine Met.ofW (cc := b_ESC_found) (maxL := 3) (ret := (some .int)) (by decide) rfl ?_
  intro p e s m args below meth c s₁ B hml hv
  obtain ⟨rfl, hsz, hP, hK, hD0, hst0⟩ := hv
  have hx := B.exec
  have hb := B.bytes
  have hr := B.returns
  have hts0 := atoms_spec (ws := ws_ESC_found) B.pre
  have hts : ∀ w ∈ GW, w.before _ s = true := fun w h => hts0 w (List.mem_cons_of_mem _ h)
  have hown : s.vm.findClass R_ESC = some m.cls := findClass_of_methodNamed B.named
  have hlocks := B.notSynchronized
  subst hsz
  have hD := hD0.self (sz := s.heap.size)
  generalize hAe : va_A (w_24 cI tS a_esc a_pat esc_kind esc_value esc_set esc_others esc_after) s.heap.size = A at hD hst0 ⊢
  have hA : ∀ q : Nat, s.heap.size ≤ q → A q := fun q h => by rw [← hAe]; exact Or.inr h
  have hS : va_S A s.heap s.heap [] := va_S.rf
  have hl := lv_entry ([.ref a_esc, .int p1, .int p2]) (n := 3) (Nat.le_of_ble_eq_true rfl)
  rw [lg_entry_eq]
  generalize (lg_sl ([.ref a_esc, .int p1, .int p2]) ++ List.replicate (3 - (lg_sl ([.ref a_esc, .int p1, .int p2])).length) Slot.unset).toArray = ls at hl ⊢
  have hl : lv_has ls 3 [(0, .ref a_esc), (1, .int p1), (2, .int p2)] := hl
  refine lv_aload_n hx hb d_ESC_found_0 rfl (lv_at hl 0 rfl) ?_
  refine lv_iload_n hx hb d_ESC_found_1 rfl (lv_at hl 1 rfl) ?_
  refine va_put (D := (dC, dI)) (ci := 6) (v := .int p1) (ty := .int) (C := R_ESC) (T := F_ESC) (N := N_ESC) hx hb hts i_ESC ty_ESC ty_ESC_ok n_ESC hown hK hP hD hS 0 rfl rfl 1 (by decide) (hts _ tw_272) (fun _ h9 => h9) rfl (ty_ESC_ok 1 (by decide)) rfl rfl (Nat.le_of_ble_eq_true rfl) d_ESC_found_2 (fun H locs hP hD hS => ?_)
  have hP : va_P (dC, dI) classes (w_24 cI tS a_esc a_pat p1 esc_value esc_set esc_others esc_after) H := hP
  have hD : va_D A (w_24 cI tS a_esc a_pat p1 esc_value esc_set esc_others esc_after) := hD
  refine lv_aload_n hx hb d_ESC_found_5 rfl (lv_at hl 0 rfl) ?_
  refine lv_iload_n hx hb d_ESC_found_6 rfl (lv_at hl 2 rfl) ?_
  refine va_put (D := (dC, dI)) (ci := 6) (v := .int p2) (ty := .int) (C := R_ESC) (T := F_ESC) (N := N_ESC) hx hb hts i_ESC ty_ESC ty_ESC_ok n_ESC hown hK hP hD hS 0 rfl rfl 2 (by decide) (hts _ tw_275) (fun _ h9 => h9) rfl (ty_ESC_ok 2 (by decide)) rfl rfl (Nat.le_of_ble_eq_true rfl) d_ESC_found_7 (fun H locs hP hD hS => ?_)
  have hP : va_P (dC, dI) classes (w_24 cI tS a_esc a_pat p1 p2 esc_set esc_others esc_after) H := hP
  have hD : va_D A (w_24 cI tS a_esc a_pat p1 p2 esc_set esc_others esc_after) := hD
  refine lv_iconst (v := 0) hx hb d_ESC_found_10 (by decide) ?_
  obtain rfl := Option.some.inj hf
  exact W.iret (v := 0) hx hb hr (fun t ht hW => ⟨⟨_, (), rfl, rfl, ⟨by rw [ht]; exact hP, va_K.moved hW.alike hK, hD⟩⟩, hS.F ht⟩) hS.2.2 d_ESC_found_11
def f_PN_hexadecimal_L37 (p0 : Int32) : Option Int32 :=
  if p0 < 97 then some (-1) else (if 102 < p0 then some (-1) else some ((p0 - 97) + 10))
def f_PN_hexadecimal_L17 (p0 : Int32) : Option Int32 :=
  if p0 < 65 then f_PN_hexadecimal_L37 p0 else (if 70 < p0 then f_PN_hexadecimal_L37 p0 else some ((p0 - 65) + 10))
def f_PN_hexadecimal (p0 : Int32) : Option Int32 :=
  if p0 < 48 then f_PN_hexadecimal_L17 p0 else (if 57 < p0 then f_PN_hexadecimal_L17 p0 else some (p0 - 48))
set_option maxRecDepth 100000 in
set_option maxHeartbeats 4000000 in
theorem c_PN_hexadecimal (l : Launch) (dC : Nat → ClassId) (dI : Nat → Nat → Nat) (cI : ClassId) (tS : Nat → Nat → Nat) (sz : Nat) (p0 : Int32) (R0 : Int32) (hf : f_PN_hexadecimal p0 = some R0) : Met l y_PN_hexadecimal ws_PN_hexadecimal ({ frames := 0, cells := 0, slots := 0, locals := 0 }) (va_Pc [.int p0] (preS (dC, dI) classes [(cI, .int)] tS (w_11 cI tS) sz)) (va_Qi (fun r (_ : Unit) => r = R0) (fun _ t => posS (dC, dI) classes [(cI, .int)] (w_11 cI tS) (va_A (w_11 cI tS) sz) t) (va_A (w_11 cI tS) sz)) 0 0 (va_A (w_11 cI tS) sz) := by
  refine Met.ofW (cc := b_PN_hexadecimal) (maxL := 1) (ret := (some .int)) (by decide) rfl ?_
  intro p e s m args below meth c s₁ B hml hv
  obtain ⟨rfl, hsz, hP, hK, hD0, hst0⟩ := hv
  have hx := B.exec
  have hb := B.bytes
  have hr := B.returns
  have hts0 := atoms_spec (ws := ws_PN_hexadecimal) B.pre
  have hts : ∀ w ∈ GW, w.before _ s = true := fun w h => hts0 w (List.mem_cons_of_mem _ h)
  have hown : s.vm.findClass R_PN = some m.cls := findClass_of_methodNamed B.named
  have hlocks := B.notSynchronized
  subst hsz
  have hD := hD0.self (sz := s.heap.size)
  generalize hAe : va_A (w_11 cI tS) s.heap.size = A at hD hst0 ⊢
  have hA : ∀ q : Nat, s.heap.size ≤ q → A q := fun q h => by rw [← hAe]; exact Or.inr h
  have hS : va_S A s.heap s.heap [] := va_S.rf
  have hl := lv_entry ([.int p0]) (n := 1) (Nat.le_of_ble_eq_true rfl)
  rw [lg_entry_eq]
  generalize (lg_sl ([.int p0]) ++ List.replicate (1 - (lg_sl ([.int p0])).length) Slot.unset).toArray = ls at hl ⊢
  have hl : lv_has ls 1 [(0, .int p0)] := hl
  have L37 : ∀ (H : Heap) (locs : List Loc) (ls : Array Slot), va_P (dC, dI) classes (w_11 cI tS) H → va_D A (w_11 cI tS) → va_S A s.heap H locs → lv_has ls 1 [(0, .int p0)] → f_PN_hexadecimal_L37 p0  = some R0 → W p l e (headSpec ws_PN_hexadecimal ({ frames := 0, cells := 0, slots := 0, locals := 0 })).room s m ([.int p0] : List Value).toArray below meth c H locs 0 0 (MQ below (va_Qi (fun r (_ : Unit) => r = R0) (fun _ t => posS (dC, dI) classes [(cI, .int)] (w_11 cI tS) (A) t) (A)) ([.int p0] : List Value).toArray s 0 0 A) (F0 m 37 ls []) := by
    intro  H locs ls hP hD hS hl hf
    refine lv_iload_n hx hb d_PN_hexadecimal_37 rfl (lv_at hl 0 rfl) ?_
    refine lv_bipush (v := 97) hx hb d_PN_hexadecimal_38 (by decide) ?_
    refine lv_icmp_lt (tgt := 59) hx hb d_PN_hexadecimal_40 (by decide) (fun c_ => ?_) (fun c_ => ?_)
    · have hf := f_pos c_ hf
      refine lv_iconst (v := (-1)) hx hb d_PN_hexadecimal_59 (by decide) ?_
      obtain rfl := Option.some.inj hf
      exact W.iret (v := (-1)) hx hb hr (fun t ht hW => ⟨⟨_, (), rfl, rfl, ⟨by rw [ht]; exact hP, va_K.moved hW.alike hK, hD⟩⟩, hS.F ht⟩) hS.2.2 d_PN_hexadecimal_60
    · have hf := f_neg c_ hf
      refine lv_iload_n hx hb d_PN_hexadecimal_43 rfl (lv_at hl 0 rfl) ?_
      refine lv_bipush (v := 102) hx hb d_PN_hexadecimal_44 (by decide) ?_
      refine lv_icmp_gt (tgt := 59) hx hb d_PN_hexadecimal_46 (by decide) (fun c_ => ?_) (fun c_ => ?_)
      · have hf := f_pos c_ hf
        refine lv_iconst (v := (-1)) hx hb d_PN_hexadecimal_59 (by decide) ?_
        obtain rfl := Option.some.inj hf
        exact W.iret (v := (-1)) hx hb hr (fun t ht hW => ⟨⟨_, (), rfl, rfl, ⟨by rw [ht]; exact hP, va_K.moved hW.alike hK, hD⟩⟩, hS.F ht⟩) hS.2.2 d_PN_hexadecimal_60
      · have hf := f_neg c_ hf
        refine lv_iload_n hx hb d_PN_hexadecimal_49 rfl (lv_at hl 0 rfl) ?_
        refine lv_bipush (v := 97) hx hb d_PN_hexadecimal_50 (by decide) ?_
        refine lv_isub hx hb d_PN_hexadecimal_52 ?_
        refine lv_bipush (v := 10) hx hb d_PN_hexadecimal_53 (by decide) ?_
        refine lv_iadd hx hb d_PN_hexadecimal_55 ?_
        refine lv_goto (tgt := 60) hx hb d_PN_hexadecimal_56 (by decide) ?_
        obtain rfl := Option.some.inj hf
        exact W.iret (v := (p0 - 97) + 10) hx hb hr (fun t ht hW => ⟨⟨_, (), rfl, rfl, ⟨by rw [ht]; exact hP, va_K.moved hW.alike hK, hD⟩⟩, hS.F ht⟩) hS.2.2 d_PN_hexadecimal_60
  have L17 : ∀ (H : Heap) (locs : List Loc) (ls : Array Slot), va_P (dC, dI) classes (w_11 cI tS) H → va_D A (w_11 cI tS) → va_S A s.heap H locs → lv_has ls 1 [(0, .int p0)] → f_PN_hexadecimal_L17 p0  = some R0 → W p l e (headSpec ws_PN_hexadecimal ({ frames := 0, cells := 0, slots := 0, locals := 0 })).room s m ([.int p0] : List Value).toArray below meth c H locs 0 0 (MQ below (va_Qi (fun r (_ : Unit) => r = R0) (fun _ t => posS (dC, dI) classes [(cI, .int)] (w_11 cI tS) (A) t) (A)) ([.int p0] : List Value).toArray s 0 0 A) (F0 m 17 ls []) := by
    intro  H locs ls hP hD hS hl hf
    refine lv_iload_n hx hb d_PN_hexadecimal_17 rfl (lv_at hl 0 rfl) ?_
    refine lv_bipush (v := 65) hx hb d_PN_hexadecimal_18 (by decide) ?_
    refine lv_icmp_lt (tgt := 37) hx hb d_PN_hexadecimal_20 (by decide) (fun c_ => ?_) (fun c_ => ?_)
    · have hf := f_pos c_ hf
      exact L37  _ _ _ hP hD hS (lv_sub hl [0] rfl) hf
    · have hf := f_neg c_ hf
      refine lv_iload_n hx hb d_PN_hexadecimal_23 rfl (lv_at hl 0 rfl) ?_
      refine lv_bipush (v := 70) hx hb d_PN_hexadecimal_24 (by decide) ?_
      refine lv_icmp_gt (tgt := 37) hx hb d_PN_hexadecimal_26 (by decide) (fun c_ => ?_) (fun c_ => ?_)
      · have hf := f_pos c_ hf
        exact L37  _ _ _ hP hD hS (lv_sub hl [0] rfl) hf
      · have hf := f_neg c_ hf
        refine lv_iload_n hx hb d_PN_hexadecimal_29 rfl (lv_at hl 0 rfl) ?_
        refine lv_bipush (v := 65) hx hb d_PN_hexadecimal_30 (by decide) ?_
        refine lv_isub hx hb d_PN_hexadecimal_32 ?_
        refine lv_bipush (v := 10) hx hb d_PN_hexadecimal_33 (by decide) ?_
        refine lv_iadd hx hb d_PN_hexadecimal_35 ?_
        obtain rfl := Option.some.inj hf
        exact W.iret (v := (p0 - 65) + 10) hx hb hr (fun t ht hW => ⟨⟨_, (), rfl, rfl, ⟨by rw [ht]; exact hP, va_K.moved hW.alike hK, hD⟩⟩, hS.F ht⟩) hS.2.2 d_PN_hexadecimal_36
  refine lv_iload_n hx hb d_PN_hexadecimal_0 rfl (lv_at hl 0 rfl) ?_
  refine lv_bipush (v := 48) hx hb d_PN_hexadecimal_1 (by decide) ?_
  refine lv_icmp_lt (tgt := 17) hx hb d_PN_hexadecimal_3 (by decide) (fun c_ => ?_) (fun c_ => ?_)
  · have hf := f_pos c_ hf
    exact L17  _ _ _ hP hD hS (lv_sub hl [0] rfl) hf
  · have hf := f_neg c_ hf
    refine lv_iload_n hx hb d_PN_hexadecimal_6 rfl (lv_at hl 0 rfl) ?_
    refine lv_bipush (v := 57) hx hb d_PN_hexadecimal_7 (by decide) ?_
    refine lv_icmp_gt (tgt := 17) hx hb d_PN_hexadecimal_9 (by decide) (fun c_ => ?_) (fun c_ => ?_)
    · have hf := f_pos c_ hf
      exact L17  _ _ _ hP hD hS (lv_sub hl [0] rfl) hf
    · have hf := f_neg c_ hf
      refine lv_iload_n hx hb d_PN_hexadecimal_12 rfl (lv_at hl 0 rfl) ?_
      refine lv_bipush (v := 48) hx hb d_PN_hexadecimal_13 (by decide) ?_
      refine lv_isub hx hb d_PN_hexadecimal_15 ?_
      obtain rfl := Option.some.inj hf
      exact W.iret (v := p0 - 48) hx hb hr (fun t ht hW => ⟨⟨_, (), rfl, rfl, ⟨by rw [ht]; exact hP, va_K.moved hW.alike hK, hD⟩⟩, hS.F ht⟩) hS.2.2 d_PN_hexadecimal_16
def f_PN_isCharacter (p0 : Int32) : Option Bool :=
  if p0 < 0 then some false else (if 1114111 < p0 then some false else (if p0 < 55296 then some true else (if p0 ≤ 57343 then some false else some true)))
set_option maxRecDepth 100000 in
set_option maxHeartbeats 4000000 in
theorem c_PN_isCharacter (l : Launch) (dC : Nat → ClassId) (dI : Nat → Nat → Nat) (cI : ClassId) (tS : Nat → Nat → Nat) (sz : Nat) (p0 : Int32) (R0 : Bool) (hf : f_PN_isCharacter p0 = some R0) : Met l y_PN_isCharacter ws_PN_isCharacter ({ frames := 0, cells := 0, slots := 0, locals := 0 }) (va_Pc [.int p0] (preS (dC, dI) classes [(cI, .int)] tS (w_11 cI tS) sz)) (va_Qi (fun r (_ : Unit) => r = b2i R0) (fun _ t => posS (dC, dI) classes [(cI, .int)] (w_11 cI tS) (va_A (w_11 cI tS) sz) t) (va_A (w_11 cI tS) sz)) 0 0 (va_A (w_11 cI tS) sz) := by
  refine Met.ofW (cc := b_PN_isCharacter) (maxL := 1) (ret := (some .boolean)) (by decide) rfl ?_
  intro p e s m args below meth c s₁ B hml hv
  obtain ⟨rfl, hsz, hP, hK, hD0, hst0⟩ := hv
  have hx := B.exec
  have hb := B.bytes
  have hr := B.returns
  have hts0 := atoms_spec (ws := ws_PN_isCharacter) B.pre
  have hts : ∀ w ∈ GW, w.before _ s = true := fun w h => hts0 w (List.mem_cons_of_mem _ h)
  have hown : s.vm.findClass R_PN = some m.cls := findClass_of_methodNamed B.named
  have hlocks := B.notSynchronized
  subst hsz
  have hD := hD0.self (sz := s.heap.size)
  generalize hAe : va_A (w_11 cI tS) s.heap.size = A at hD hst0 ⊢
  have hA : ∀ q : Nat, s.heap.size ≤ q → A q := fun q h => by rw [← hAe]; exact Or.inr h
  have hS : va_S A s.heap s.heap [] := va_S.rf
  have hl := lv_entry ([.int p0]) (n := 1) (Nat.le_of_ble_eq_true rfl)
  rw [lg_entry_eq]
  generalize (lg_sl ([.int p0]) ++ List.replicate (1 - (lg_sl ([.int p0])).length) Slot.unset).toArray = ls at hl ⊢
  have hl : lv_has ls 1 [(0, .int p0)] := hl
  refine lv_iload_n hx hb d_PN_isCharacter_0 rfl (lv_at hl 0 rfl) ?_
  refine lv_if_lt (tgt := 26) hx hb d_PN_isCharacter_1 (by decide) (fun c_ => ?_) (fun c_ => ?_)
  · have hf := f_pos c_ hf
    refine lv_iconst (v := 0) hx hb d_PN_isCharacter_26 (by decide) ?_
    obtain rfl := Option.some.inj hf
    exact W.zret (v := b2i false) hx hb hr (nr_b _) (fun t ht hW => ⟨⟨_, (), rfl, rfl, ⟨by rw [ht]; exact hP, va_K.moved hW.alike hK, hD⟩⟩, hS.F ht⟩) hS.2.2 d_PN_isCharacter_27
  · have hf := f_neg c_ hf
    refine lv_iload_n hx hb d_PN_isCharacter_4 rfl (lv_at hl 0 rfl) ?_
    refine lv_ldc (v := 1114111) hx hb hown (hts _ tw_759) d_PN_isCharacter_5 ?_
    refine lv_icmp_gt (tgt := 26) hx hb d_PN_isCharacter_7 (by decide) (fun c_ => ?_) (fun c_ => ?_)
    · have hf := f_pos c_ hf
      refine lv_iconst (v := 0) hx hb d_PN_isCharacter_26 (by decide) ?_
      obtain rfl := Option.some.inj hf
      exact W.zret (v := b2i false) hx hb hr (nr_b _) (fun t ht hW => ⟨⟨_, (), rfl, rfl, ⟨by rw [ht]; exact hP, va_K.moved hW.alike hK, hD⟩⟩, hS.F ht⟩) hS.2.2 d_PN_isCharacter_27
    · have hf := f_neg c_ hf
      refine lv_iload_n hx hb d_PN_isCharacter_10 rfl (lv_at hl 0 rfl) ?_
      refine lv_ldc (v := 55296) hx hb hown (hts _ tw_760) d_PN_isCharacter_11 ?_
      refine lv_icmp_lt (tgt := 22) hx hb d_PN_isCharacter_13 (by decide) (fun c_ => ?_) (fun c_ => ?_)
      · have hf := f_pos c_ hf
        refine lv_iconst (v := 1) hx hb d_PN_isCharacter_22 (by decide) ?_
        refine lv_goto (tgt := 27) hx hb d_PN_isCharacter_23 (by decide) ?_
        obtain rfl := Option.some.inj hf
        exact W.zret (v := b2i true) hx hb hr (nr_b _) (fun t ht hW => ⟨⟨_, (), rfl, rfl, ⟨by rw [ht]; exact hP, va_K.moved hW.alike hK, hD⟩⟩, hS.F ht⟩) hS.2.2 d_PN_isCharacter_27
      · have hf := f_neg c_ hf
        refine lv_iload_n hx hb d_PN_isCharacter_16 rfl (lv_at hl 0 rfl) ?_
        refine lv_ldc (v := 57343) hx hb hown (hts _ tw_761) d_PN_isCharacter_17 ?_
        refine lv_icmp_le (tgt := 26) hx hb d_PN_isCharacter_19 (by decide) (fun c_ => ?_) (fun c_ => ?_)
        · have hf := f_pos c_ hf
          refine lv_iconst (v := 0) hx hb d_PN_isCharacter_26 (by decide) ?_
          obtain rfl := Option.some.inj hf
          exact W.zret (v := b2i false) hx hb hr (nr_b _) (fun t ht hW => ⟨⟨_, (), rfl, rfl, ⟨by rw [ht]; exact hP, va_K.moved hW.alike hK, hD⟩⟩, hS.F ht⟩) hS.2.2 d_PN_isCharacter_27
        · have hf := f_neg c_ hf
          refine lv_iconst (v := 1) hx hb d_PN_isCharacter_22 (by decide) ?_
          refine lv_goto (tgt := 27) hx hb d_PN_isCharacter_23 (by decide) ?_
          obtain rfl := Option.some.inj hf
          exact W.zret (v := b2i true) hx hb hr (nr_b _) (fun t ht hW => ⟨⟨_, (), rfl, rfl, ⟨by rw [ht]; exact hP, va_K.moved hW.alike hK, hD⟩⟩, hS.F ht⟩) hS.2.2 d_PN_isCharacter_27
def f_ESC_readNumbered_L180 (pat_length : Int32) (pat_bytes : Nat → Int32) (p1 : Int32) (v6 : Int32) (z0 : Bool) (z1 : Int32) (esc_kind : Int32) (esc_value : Int32) (esc_after : Int32) : Option (Int32 × Int32 × Int32 × Int32) :=
  bnd_ (f_ESC_found esc_kind esc_value 0 v6) (fun x188 => some (x188.1, x188.2.1, x188.2.2, z1 + (b2i z0)))
def f_ESC_readNumbered_L149 (pat_length : Int32) (pat_bytes : Nat → Int32) (p1 : Int32) (v2 : Bool) (v3 : Int32) (v5 : Int32) (v6 : Int32) (z0 : Bool) (esc_kind : Int32) (esc_value : Int32) (esc_after : Int32) : Option (Int32 × Int32 × Int32 × Int32) :=
  if (b2i z0) = 0 then some (5, esc_kind, esc_value, esc_after) else bnd_ (f_PN_isCharacter v6) (fun x158 => if (b2i x158) = 0 then some (5, esc_kind, esc_value, esc_after) else (if (b2i v2) = 0 then f_ESC_readNumbered_L180 pat_length pat_bytes p1 v6 false (v3 + v5) esc_kind esc_value esc_after else f_ESC_readNumbered_L180 pat_length pat_bytes p1 v6 true (v3 + v5) esc_kind esc_value esc_after))
def f_ESC_readNumbered_L105 (pat_length : Int32) (pat_bytes : Nat → Int32) (p1 : Int32) (v2 : Bool) (v3 : Int32) (v5 : Int32) (v6 : Int32) (esc_kind : Int32) (esc_value : Int32) (esc_after : Int32) : Option (Int32 × Int32 × Int32 × Int32) :=
  if (b2i v2) = 0 then (if v5 = 2 then f_ESC_readNumbered_L149 pat_length pat_bytes p1 v2 v3 v5 v6 true esc_kind esc_value esc_after else f_ESC_readNumbered_L149 pat_length pat_bytes p1 v2 v3 v5 v6 false esc_kind esc_value esc_after) else (if v5 ≤ 0 then f_ESC_readNumbered_L149 pat_length pat_bytes p1 v2 v3 v5 v6 false esc_kind esc_value esc_after else bnd_ (f_PAT_at pat_length pat_bytes (v3 + v5)) (fun x122 => if x122 = 125 then f_ESC_readNumbered_L149 pat_length pat_bytes p1 v2 v3 v5 v6 true esc_kind esc_value esc_after else f_ESC_readNumbered_L149 pat_length pat_bytes p1 v2 v3 v5 v6 false esc_kind esc_value esc_after))
def f_ESC_readNumbered_B53 (pat_length : Int32) (pat_bytes : Nat → Int32) (p1 : Int32) (K53 : (Bool × Int32 × Int32 × Int32 × Int32 × Int32 × Int32 × Int32) → Option (Int32 × Int32 × Int32 × Int32)) (v2 : Bool) (v3 : Int32) (v4 : Int32) (v5 : Int32) (v6 : Int32) (esc_kind : Int32) (esc_value : Int32) (esc_after : Int32) : Option (Int32 × Int32 × Int32 × Int32) :=
  if v4 ≤ v5 then f_ESC_readNumbered_L105 pat_length pat_bytes p1 v2 v3 v5 v6 esc_kind esc_value esc_after else bnd_ (f_PAT_at pat_length pat_bytes (v3 + v5)) (fun x68 => bnd_ (f_PN_hexadecimal x68) (fun x71 => if x71 < 0 then f_ESC_readNumbered_L105 pat_length pat_bytes p1 v2 v3 v5 v6 esc_kind esc_value esc_after else bnd_ (f_PAT_at pat_length pat_bytes (v3 + v5)) (fun x90 => bnd_ (f_PN_hexadecimal x90) (fun x93 => K53 (v2, v3, v4, v5 + 1, (v6 * 16) + x93, esc_kind, esc_value, esc_after)))))
def f_ESC_readNumbered_L53 (pat_length : Int32) (pat_bytes : Nat → Int32) (p1 : Int32) (n : Nat) (a : Bool × Int32 × Int32 × Int32 × Int32 × Int32 × Int32 × Int32) : Option (Int32 × Int32 × Int32 × Int32) :=
  lpF (fun K53 v => f_ESC_readNumbered_B53 pat_length pat_bytes p1  K53 v.1 v.2.1 v.2.2.1 v.2.2.2.1 v.2.2.2.2.1 v.2.2.2.2.2.1 v.2.2.2.2.2.2.1 v.2.2.2.2.2.2.2) n a
def f_ESC_readNumbered_L45 (pat_length : Int32) (pat_bytes : Nat → Int32) (p1 : Int32) (v2 : Bool) (v3 : Int32) (z0 : Int32) (esc_kind : Int32) (esc_value : Int32) (esc_after : Int32) : Option (Int32 × Int32 × Int32 × Int32) :=
  f_ESC_readNumbered_L53 pat_length pat_bytes p1 FU (v2, v3, z0, 0, 0, esc_kind, esc_value, esc_after)
def f_ESC_readNumbered_L34 (pat_length : Int32) (pat_bytes : Nat → Int32) (p1 : Int32) (v2 : Bool) (z0 : Int32) (esc_kind : Int32) (esc_value : Int32) (esc_after : Int32) : Option (Int32 × Int32 × Int32 × Int32) :=
  if (b2i v2) = 0 then f_ESC_readNumbered_L45 pat_length pat_bytes p1 v2 z0 2 esc_kind esc_value esc_after else f_ESC_readNumbered_L45 pat_length pat_bytes p1 v2 z0 6 esc_kind esc_value esc_after
def f_ESC_readNumbered_L20 (pat_length : Int32) (pat_bytes : Nat → Int32) (p1 : Int32) (z0 : Bool) (esc_kind : Int32) (esc_value : Int32) (esc_after : Int32) : Option (Int32 × Int32 × Int32 × Int32) :=
  if (b2i z0) = 0 then f_ESC_readNumbered_L34 pat_length pat_bytes p1 z0 (p1 + 2) esc_kind esc_value esc_after else f_ESC_readNumbered_L34 pat_length pat_bytes p1 z0 (p1 + 3) esc_kind esc_value esc_after
def f_ESC_readNumbered (pat_length : Int32) (esc_kind : Int32) (esc_value : Int32) (esc_after : Int32) (pat_bytes : Nat → Int32) (p1 : Int32) : Option (Int32 × Int32 × Int32 × Int32) :=
  bnd_ (f_PAT_at pat_length pat_bytes (p1 + 2)) (fun x7 => if x7 = 123 then f_ESC_readNumbered_L20 pat_length pat_bytes p1 true esc_kind esc_value esc_after else f_ESC_readNumbered_L20 pat_length pat_bytes p1 false esc_kind esc_value esc_after)
set_option maxRecDepth 100000 in
set_option maxHeartbeats 4000000 in
theorem c_ESC_readNumbered (l : Launch) (dC : Nat → ClassId) (dI : Nat → Nat → Nat) (cI : ClassId) (tS : Nat → Nat → Nat) (sz : Nat) (a_pat a_pat_bytes a_esc : Nat) (pat_length : Int32) (esc_kind : Int32) (esc_value : Int32) (esc_set : Nat) (esc_others : Bool) (esc_after : Int32) (pat_bytes : Nat → Int32) (p1 : Int32) (R0 : Int32 × Int32 × Int32 × Int32) (hf : f_ESC_readNumbered pat_length esc_kind esc_value esc_after pat_bytes p1 = some R0) : Met l y_ESC_readNumbered ws_ESC_readNumbered ({ frames := 1, cells := 0, slots := 0, locals := 22 }) (va_Pc [.ref a_esc, .int p1] (preS (dC, dI) classes [(cI, .int)] tS (w_25 cI tS a_pat a_pat_bytes a_esc pat_length esc_kind esc_value esc_set esc_others esc_after pat_bytes) sz)) (va_Qi (fun r (_ : Unit) => r = R0.1) (fun _ t => posS (dC, dI) classes [(cI, .int)] (w_25 cI tS a_pat a_pat_bytes a_esc pat_length R0.2.1 R0.2.2.1 esc_set esc_others R0.2.2.2 pat_bytes) (va_A (w_25 cI tS a_pat a_pat_bytes a_esc pat_length esc_kind esc_value esc_set esc_others esc_after pat_bytes) sz) t) (va_A (w_25 cI tS a_pat a_pat_bytes a_esc pat_length esc_kind esc_value esc_set esc_others esc_after pat_bytes) sz)) 0 0 (va_A (w_25 cI tS a_pat a_pat_bytes a_esc pat_length esc_kind esc_value esc_set esc_others esc_after pat_bytes) sz) := by
  refine Met.ofW (cc := b_ESC_readNumbered) (maxL := 8) (ret := (some .int)) (by decide) rfl ?_
  intro p e s m args below meth c s₁ B hml hv
  obtain ⟨rfl, hsz, hP, hK, hD0, hst0⟩ := hv
  have hx := B.exec
  have hb := B.bytes
  have hr := B.returns
  have hts0 := atoms_spec (ws := ws_ESC_readNumbered) B.pre
  have hts : ∀ w ∈ GW, w.before _ s = true := fun w h => hts0 w (List.mem_cons_of_mem _ h)
  have hown : s.vm.findClass R_ESC = some m.cls := findClass_of_methodNamed B.named
  have hlocks := B.notSynchronized
  subst hsz
  have hD := hD0.self (sz := s.heap.size)
  generalize hAe : va_A (w_25 cI tS a_pat a_pat_bytes a_esc pat_length esc_kind esc_value esc_set esc_others esc_after pat_bytes) s.heap.size = A at hD hst0 ⊢
  have hA : ∀ q : Nat, s.heap.size ≤ q → A q := fun q h => by rw [← hAe]; exact Or.inr h
  have hS : va_S A s.heap s.heap [] := va_S.rf
  have hl := lv_entry ([.ref a_esc, .int p1]) (n := 8) (Nat.le_of_ble_eq_true rfl)
  rw [lg_entry_eq]
  generalize (lg_sl ([.ref a_esc, .int p1]) ++ List.replicate (8 - (lg_sl ([.ref a_esc, .int p1])).length) Slot.unset).toArray = ls at hl ⊢
  have hl : lv_has ls 8 [(0, .ref a_esc), (1, .int p1)] := hl
  have L180 : ∀ (v6 : Int32) (z0 : Bool) (z1 : Int32) (esc_kind : Int32) (esc_value : Int32) (esc_after : Int32) (H : Heap) (locs : List Loc) (ls : Array Slot), va_P (dC, dI) classes (w_25 cI tS a_pat a_pat_bytes a_esc pat_length esc_kind esc_value esc_set esc_others esc_after pat_bytes) H → va_D A (w_25 cI tS a_pat a_pat_bytes a_esc pat_length esc_kind esc_value esc_set esc_others esc_after pat_bytes) → va_S A s.heap H locs → lv_has ls 8 [(0, .ref a_esc), (6, .int v6)] → f_ESC_readNumbered_L180 pat_length pat_bytes p1 v6 z0 z1 esc_kind esc_value esc_after = some R0 → W p l e (headSpec ws_ESC_readNumbered ({ frames := 1, cells := 0, slots := 0, locals := 22 })).room s m ([.ref a_esc, .int p1] : List Value).toArray below meth c H locs 0 0 (MQ below (va_Qi (fun r (_ : Unit) => r = R0.1) (fun _ t => posS (dC, dI) classes [(cI, .int)] (w_25 cI tS a_pat a_pat_bytes a_esc pat_length R0.2.1 R0.2.2.1 esc_set esc_others R0.2.2.2 pat_bytes) (A) t) (A)) ([.ref a_esc, .int p1] : List Value).toArray s 0 0 A) (F0 m 180 ls [.int (b2i z0), .int z1, .ref a_esc]) := by
    intro v6 z0 z1 esc_kind esc_value esc_after H locs ls hP hD hS hl hf
    refine lv_iadd hx hb d_ESC_readNumbered_180 ?_
    refine va_put (D := (dC, dI)) (ci := 6) (v := .int (z1 + (b2i z0))) (ty := .int) (C := R_ESC) (T := F_ESC) (N := N_ESC) hx hb hts i_ESC ty_ESC ty_ESC_ok n_ESC hown hK hP hD hS 1 rfl rfl 5 (by decide) (hts _ tw_284) (fun _ h9 => h9) rfl (ty_ESC_ok 5 (by decide)) rfl rfl (Nat.le_of_ble_eq_true rfl) d_ESC_readNumbered_181 (fun H locs hP hD hS => ?_)
    have hP : va_P (dC, dI) classes (w_25 cI tS a_pat a_pat_bytes a_esc pat_length esc_kind esc_value esc_set esc_others (z1 + (b2i z0)) pat_bytes) H := hP
    have hD : va_D A (w_25 cI tS a_pat a_pat_bytes a_esc pat_length esc_kind esc_value esc_set esc_others (z1 + (b2i z0)) pat_bytes) := hD
    refine lv_aload_n hx hb d_ESC_readNumbered_184 rfl (lv_at hl 0 rfl) ?_
    refine lv_iconst (v := 0) hx hb d_ESC_readNumbered_185 (by decide) ?_
    refine lv_iload hx hb d_ESC_readNumbered_186 (lv_at hl 1 rfl) ?_
    obtain ⟨x188, hg, hf⟩ := bnd hf
    have hPc := hP.sub (ws' := (w_24 cI tS a_esc a_pat esc_kind esc_value esc_set esc_others (z1 + (b2i z0)))) [1] rfl
    have hDc := hD.sub (ws' := (w_24 cI tS a_esc a_pat esc_kind esc_value esc_set esc_others (z1 + (b2i z0)))) [1] (by decide) rfl
    have hFc := va_free (wc := (w_24 cI tS a_esc a_pat esc_kind esc_value esc_set esc_others (z1 + (b2i z0)))) hD hS hA [1] rfl
    refine cal_i (va_runV (As := [.int 0, .int v6]) (rest := []) ⟨hx, hb, hml, hown, hts⟩ (c_ESC_found l dC dI cI tS H.size a_esc a_pat esc_kind esc_value esc_set esc_others (z1 + (b2i z0)) 0 v6 x188 hg) ⟨callB_of 2 hts (gN tw_748) rfl rfl rfl (hts _ tw_87) (hts _ tw_745) hd_ESC_found ⟨Nat.le_of_ble_eq_true rfl, Nat.le_of_ble_eq_true rfl⟩, hts _ tw_747, hts _ tw_16⟩ (pre_V hK hPc hDc hst0 hS hFc (va_recv hK hPc (ci := 6) (q0 := 0) rfl rfl)) rfl rfl hl.1 rfl (lv_room (Nat.le_of_ble_eq_true rfl)) d_ESC_readNumbered_188 ⟨Nat.zero_le _, Nat.zero_le _⟩) hP hD hS hA [1] [0, 2] rfl rfl (by decide) (by decide) (fun H locs hP hD hS => ?_)
    have hP := hP.sub (ws' := (w_25 cI tS a_pat a_pat_bytes a_esc pat_length x188.2.1 x188.2.2 esc_set esc_others (z1 + (b2i z0)) pat_bytes)) [0, 2, 1] rfl
    have hD := hD.sub (ws' := (w_25 cI tS a_pat a_pat_bytes a_esc pat_length x188.2.1 x188.2.2 esc_set esc_others (z1 + (b2i z0)) pat_bytes)) [0, 2, 1] (by decide) rfl
    obtain rfl := Option.some.inj hf
    exact W.iret (v := x188.1) hx hb hr (fun t ht hW => ⟨⟨_, (), rfl, rfl, ⟨by rw [ht]; exact hP, va_K.moved hW.alike hK, hD⟩⟩, hS.F ht⟩) hS.2.2 d_ESC_readNumbered_191
  have L149 : ∀ (v2 : Bool) (v3 : Int32) (v5 : Int32) (v6 : Int32) (z0 : Bool) (esc_kind : Int32) (esc_value : Int32) (esc_after : Int32) (H : Heap) (locs : List Loc) (ls : Array Slot), va_P (dC, dI) classes (w_25 cI tS a_pat a_pat_bytes a_esc pat_length esc_kind esc_value esc_set esc_others esc_after pat_bytes) H → va_D A (w_25 cI tS a_pat a_pat_bytes a_esc pat_length esc_kind esc_value esc_set esc_others esc_after pat_bytes) → va_S A s.heap H locs → lv_has ls 8 [(0, .ref a_esc), (2, .int (b2i v2)), (3, .int v3), (5, .int v5), (6, .int v6)] → f_ESC_readNumbered_L149 pat_length pat_bytes p1 v2 v3 v5 v6 z0 esc_kind esc_value esc_after = some R0 → W p l e (headSpec ws_ESC_readNumbered ({ frames := 1, cells := 0, slots := 0, locals := 22 })).room s m ([.ref a_esc, .int p1] : List Value).toArray below meth c H locs 0 0 (MQ below (va_Qi (fun r (_ : Unit) => r = R0.1) (fun _ t => posS (dC, dI) classes [(cI, .int)] (w_25 cI tS a_pat a_pat_bytes a_esc pat_length R0.2.1 R0.2.2.1 esc_set esc_others R0.2.2.2 pat_bytes) (A) t) (A)) ([.ref a_esc, .int p1] : List Value).toArray s 0 0 A) (F0 m 149 ls [.int (b2i z0)]) := by
    intro v2 v3 v5 v6 z0 esc_kind esc_value esc_after H locs ls hP hD hS hl hf
    refine lv_istore (lv' := [(7, .int (b2i z0)), (0, .ref a_esc), (2, .int (b2i v2)), (3, .int v3), (5, .int v5), (6, .int v6)]) hx hb d_ESC_readNumbered_149 hl (by decide) rfl (fun ls hl => ?_)
    refine lv_iload hx hb d_ESC_readNumbered_151 (lv_at hl 0 rfl) ?_
    refine lv_if_eq (tgt := 164) hx hb d_ESC_readNumbered_153 (by decide) (fun c_ => ?_) (fun c_ => ?_)
    · have hf := f_pos c_ hf
      refine lv_iconst (v := 5) hx hb d_ESC_readNumbered_164 (by decide) ?_
      obtain rfl := Option.some.inj hf
      exact W.iret (v := 5) hx hb hr (fun t ht hW => ⟨⟨_, (), rfl, rfl, ⟨by rw [ht]; exact hP, va_K.moved hW.alike hK, hD⟩⟩, hS.F ht⟩) hS.2.2 d_ESC_readNumbered_165
    · have hf := f_neg c_ hf
      refine lv_iload hx hb d_ESC_readNumbered_156 (lv_at hl 5 rfl) ?_
      obtain ⟨x158, hg, hf⟩ := bnd hf
      have hPc := hP.sub (ws' := (w_11 cI tS)) [] rfl
      have hDc := hD.sub (ws' := (w_11 cI tS)) [] (by decide) rfl
      have hFc := va_free (wc := (w_11 cI tS)) hD hS hA [] rfl
      refine cal_i (va_runSN (As := [.int v6]) (rest := []) ⟨hx, hb, hml, hown, hts⟩ (c_PN_isCharacter l dC dI cI tS H.size v6 x158 hg) ⟨va_cnB 1 hts (gN tw_758) rfl rfl rfl (hst0.2.1 _ tn_756) (hts _ tw_79) hd_PN_isCharacter ⟨Nat.le_of_ble_eq_true rfl, Nat.le_of_ble_eq_true rfl⟩, hts _ tw_757, trivial⟩ (pre_S hK hPc hDc hst0 hS hFc) rfl rfl hl.1 rfl (lv_room (Nat.le_of_ble_eq_true rfl)) d_ESC_readNumbered_158 ⟨Nat.zero_le _, Nat.zero_le _⟩) hP hD hS hA [] [0, 1, 2] rfl rfl (by decide) (by decide) (fun H locs hP hD hS => ?_)
      have hP := hP.sub (ws' := (w_25 cI tS a_pat a_pat_bytes a_esc pat_length esc_kind esc_value esc_set esc_others esc_after pat_bytes)) [0, 1, 2] rfl
      have hD := hD.sub (ws' := (w_25 cI tS a_pat a_pat_bytes a_esc pat_length esc_kind esc_value esc_set esc_others esc_after pat_bytes)) [0, 1, 2] (by decide) rfl
      refine lv_if_ne (tgt := 166) hx hb d_ESC_readNumbered_161 (by decide) (fun c_ => ?_) (fun c_ => ?_)
      · have hf := f_neg c_ hf
        refine lv_aload_n hx hb d_ESC_readNumbered_166 rfl (lv_at hl 1 rfl) ?_
        refine lv_iload_n hx hb d_ESC_readNumbered_167 rfl (lv_at hl 3 rfl) ?_
        refine lv_iload hx hb d_ESC_readNumbered_168 (lv_at hl 4 rfl) ?_
        refine lv_iadd hx hb d_ESC_readNumbered_170 ?_
        refine lv_iload_n hx hb d_ESC_readNumbered_171 rfl (lv_at hl 2 rfl) ?_
        refine lv_if_eq (tgt := 179) hx hb d_ESC_readNumbered_172 (by decide) (fun c_ => ?_) (fun c_ => ?_)
        · have hf := f_pos c_ hf
          refine lv_iconst (v := 0) hx hb d_ESC_readNumbered_179 (by decide) ?_
          exact L180 v6 false (v3 + v5) esc_kind esc_value esc_after _ _ _ hP hD hS (lv_sub hl [1, 5] rfl) hf
        · have hf := f_neg c_ hf
          refine lv_iconst (v := 1) hx hb d_ESC_readNumbered_175 (by decide) ?_
          refine lv_goto (tgt := 180) hx hb d_ESC_readNumbered_176 (by decide) ?_
          exact L180 v6 true (v3 + v5) esc_kind esc_value esc_after _ _ _ hP hD hS (lv_sub hl [1, 5] rfl) hf
      · have hf := f_pos c_ hf
        refine lv_iconst (v := 5) hx hb d_ESC_readNumbered_164 (by decide) ?_
        obtain rfl := Option.some.inj hf
        exact W.iret (v := 5) hx hb hr (fun t ht hW => ⟨⟨_, (), rfl, rfl, ⟨by rw [ht]; exact hP, va_K.moved hW.alike hK, hD⟩⟩, hS.F ht⟩) hS.2.2 d_ESC_readNumbered_165
  have L105 : ∀ (v2 : Bool) (v3 : Int32) (v5 : Int32) (v6 : Int32) (esc_kind : Int32) (esc_value : Int32) (esc_after : Int32) (H : Heap) (locs : List Loc) (ls : Array Slot), va_P (dC, dI) classes (w_25 cI tS a_pat a_pat_bytes a_esc pat_length esc_kind esc_value esc_set esc_others esc_after pat_bytes) H → va_D A (w_25 cI tS a_pat a_pat_bytes a_esc pat_length esc_kind esc_value esc_set esc_others esc_after pat_bytes) → va_S A s.heap H locs → lv_has ls 8 [(0, .ref a_esc), (2, .int (b2i v2)), (3, .int v3), (5, .int v5), (6, .int v6)] → f_ESC_readNumbered_L105 pat_length pat_bytes p1 v2 v3 v5 v6 esc_kind esc_value esc_after = some R0 → W p l e (headSpec ws_ESC_readNumbered ({ frames := 1, cells := 0, slots := 0, locals := 22 })).room s m ([.ref a_esc, .int p1] : List Value).toArray below meth c H locs 0 0 (MQ below (va_Qi (fun r (_ : Unit) => r = R0.1) (fun _ t => posS (dC, dI) classes [(cI, .int)] (w_25 cI tS a_pat a_pat_bytes a_esc pat_length R0.2.1 R0.2.2.1 esc_set esc_others R0.2.2.2 pat_bytes) (A) t) (A)) ([.ref a_esc, .int p1] : List Value).toArray s 0 0 A) (F0 m 105 ls []) := by
    intro v2 v3 v5 v6 esc_kind esc_value esc_after H locs ls hP hD hS hl hf
    refine lv_iload_n hx hb d_ESC_readNumbered_105 rfl (lv_at hl 1 rfl) ?_
    refine lv_if_eq (tgt := 138) hx hb d_ESC_readNumbered_106 (by decide) (fun c_ => ?_) (fun c_ => ?_)
    · have hf := f_pos c_ hf
      refine lv_iload hx hb d_ESC_readNumbered_138 (lv_at hl 3 rfl) ?_
      refine lv_iconst (v := 2) hx hb d_ESC_readNumbered_140 (by decide) ?_
      refine lv_icmp_ne (tgt := 148) hx hb d_ESC_readNumbered_141 (by decide) (fun c_ => ?_) (fun c_ => ?_)
      · have hf := f_neg c_ hf
        refine lv_iconst (v := 0) hx hb d_ESC_readNumbered_148 (by decide) ?_
        exact L149 v2 v3 v5 v6 false esc_kind esc_value esc_after _ _ _ hP hD hS (lv_sub hl [0, 1, 2, 3, 4] rfl) hf
      · have hf := f_pos c_ hf
        refine lv_iconst (v := 1) hx hb d_ESC_readNumbered_144 (by decide) ?_
        refine lv_goto (tgt := 149) hx hb d_ESC_readNumbered_145 (by decide) ?_
        exact L149 v2 v3 v5 v6 true esc_kind esc_value esc_after _ _ _ hP hD hS (lv_sub hl [0, 1, 2, 3, 4] rfl) hf
    · have hf := f_neg c_ hf
      refine lv_iload hx hb d_ESC_readNumbered_109 (lv_at hl 3 rfl) ?_
      refine lv_if_le (tgt := 134) hx hb d_ESC_readNumbered_111 (by decide) (fun c_ => ?_) (fun c_ => ?_)
      · have hf := f_pos c_ hf
        refine lv_iconst (v := 0) hx hb d_ESC_readNumbered_134 (by decide) ?_
        refine lv_goto (tgt := 149) hx hb d_ESC_readNumbered_135 (by decide) ?_
        exact L149 v2 v3 v5 v6 false esc_kind esc_value esc_after _ _ _ hP hD hS (lv_sub hl [0, 1, 2, 3, 4] rfl) hf
      · have hf := f_neg c_ hf
        refine lv_aload_n hx hb d_ESC_readNumbered_114 rfl (lv_at hl 0 rfl) ?_
        refine va_get (D := (dC, dI)) (ci := 6) (v := .ref a_pat) (C := R_ESC) (T := F_ESC) (N := N_ESC) hx hb hts i_ESC hown hK hP 1 rfl rfl 0 (by decide) (hts _ tw_271) (fun _ h9 => h9) rfl d_ESC_readNumbered_115 ?_
        refine lv_iload_n hx hb d_ESC_readNumbered_118 rfl (lv_at hl 2 rfl) ?_
        refine lv_iload hx hb d_ESC_readNumbered_119 (lv_at hl 3 rfl) ?_
        refine lv_iadd hx hb d_ESC_readNumbered_121 ?_
        obtain ⟨x122, hg, hf⟩ := bnd hf
        have hPc := hP.sub (ws' := (w_0 cI tS a_pat a_pat_bytes pat_length pat_bytes)) [0, 2] rfl
        have hDc := hD.sub (ws' := (w_0 cI tS a_pat a_pat_bytes pat_length pat_bytes)) [0, 2] (by decide) rfl
        have hFc := va_free (wc := (w_0 cI tS a_pat a_pat_bytes pat_length pat_bytes)) hD hS hA [0, 2] rfl
        refine cal_i (va_runV (As := [.int (v3 + v5)]) (rest := []) ⟨hx, hb, hml, hown, hts⟩ (c_PAT_at l dC dI cI tS H.size a_pat a_pat_bytes pat_length pat_bytes (v3 + v5) x122 hg) ⟨callB_of 1 hts (gN tw_586) rfl rfl rfl (hts _ tw_80) (hts _ tw_744) hd_PAT_at ⟨Nat.le_of_ble_eq_true rfl, Nat.le_of_ble_eq_true rfl⟩, hts _ tw_584, hts _ tw_585⟩ (pre_V hK hPc hDc hst0 hS hFc (va_recv hK hPc (ci := 0) (q0 := 0) rfl rfl)) rfl rfl hl.1 rfl (lv_room (Nat.le_of_ble_eq_true rfl)) d_ESC_readNumbered_122 ⟨Nat.zero_le _, Nat.zero_le _⟩) hP hD hS hA [0, 2] [1] rfl rfl (by decide) (by decide) (fun H locs hP hD hS => ?_)
        have hP := hP.sub (ws' := (w_25 cI tS a_pat a_pat_bytes a_esc pat_length esc_kind esc_value esc_set esc_others esc_after pat_bytes)) [1, 0, 2] rfl
        have hD := hD.sub (ws' := (w_25 cI tS a_pat a_pat_bytes a_esc pat_length esc_kind esc_value esc_set esc_others esc_after pat_bytes)) [1, 0, 2] (by decide) rfl
        refine lv_bipush (v := 125) hx hb d_ESC_readNumbered_125 (by decide) ?_
        refine lv_icmp_ne (tgt := 134) hx hb d_ESC_readNumbered_127 (by decide) (fun c_ => ?_) (fun c_ => ?_)
        · have hf := f_neg c_ hf
          refine lv_iconst (v := 0) hx hb d_ESC_readNumbered_134 (by decide) ?_
          refine lv_goto (tgt := 149) hx hb d_ESC_readNumbered_135 (by decide) ?_
          exact L149 v2 v3 v5 v6 false esc_kind esc_value esc_after _ _ _ hP hD hS (lv_sub hl [0, 1, 2, 3, 4] rfl) hf
        · have hf := f_pos c_ hf
          refine lv_iconst (v := 1) hx hb d_ESC_readNumbered_130 (by decide) ?_
          refine lv_goto (tgt := 149) hx hb d_ESC_readNumbered_131 (by decide) ?_
          exact L149 v2 v3 v5 v6 true esc_kind esc_value esc_after _ _ _ hP hD hS (lv_sub hl [0, 1, 2, 3, 4] rfl) hf
  have L53 : ∀ n53 : Nat, ∀ (v2 : Bool) (v3 : Int32) (v4 : Int32) (v5 : Int32) (v6 : Int32) (esc_kind : Int32) (esc_value : Int32) (esc_after : Int32) (H : Heap) (locs : List Loc) (ls : Array Slot), va_P (dC, dI) classes (w_25 cI tS a_pat a_pat_bytes a_esc pat_length esc_kind esc_value esc_set esc_others esc_after pat_bytes) H → va_D A (w_25 cI tS a_pat a_pat_bytes a_esc pat_length esc_kind esc_value esc_set esc_others esc_after pat_bytes) → va_S A s.heap H locs → lv_has ls 8 [(0, .ref a_esc), (2, .int (b2i v2)), (3, .int v3), (4, .int v4), (5, .int v5), (6, .int v6)] → f_ESC_readNumbered_L53 pat_length pat_bytes p1 n53 (v2, v3, v4, v5, v6, esc_kind, esc_value, esc_after) = some R0 → W p l e (headSpec ws_ESC_readNumbered ({ frames := 1, cells := 0, slots := 0, locals := 22 })).room s m ([.ref a_esc, .int p1] : List Value).toArray below meth c H locs 0 0 (MQ below (va_Qi (fun r (_ : Unit) => r = R0.1) (fun _ t => posS (dC, dI) classes [(cI, .int)] (w_25 cI tS a_pat a_pat_bytes a_esc pat_length R0.2.1 R0.2.2.1 esc_set esc_others R0.2.2.2 pat_bytes) (A) t) (A)) ([.ref a_esc, .int p1] : List Value).toArray s 0 0 A) (F0 m 53 ls []) := by
    intro n53
    induction n53 with
    | zero =>
      intro v2 v3 v4 v5 v6 esc_kind esc_value esc_after H locs ls hP hD hS hl hf
      exact absurd (show (none : Option _) = some R0 from hf) (fun h => by cases h)
    | succ n53 ih53 =>
      intro v2 v3 v4 v5 v6 esc_kind esc_value esc_after H locs ls hP hD hS hl hf
      have hf : f_ESC_readNumbered_B53 pat_length pat_bytes p1 (f_ESC_readNumbered_L53 pat_length pat_bytes p1 n53) v2 v3 v4 v5 v6 esc_kind esc_value esc_after = some R0 := hf
      refine lv_iload hx hb d_ESC_readNumbered_53 (lv_at hl 4 rfl) ?_
      refine lv_iload hx hb d_ESC_readNumbered_55 (lv_at hl 3 rfl) ?_
      refine lv_icmp_ge (tgt := 105) hx hb d_ESC_readNumbered_57 (by decide) (fun c_ => ?_) (fun c_ => ?_)
      · have hf := f_pos c_ hf
        exact L105 v2 v3 v5 v6 esc_kind esc_value esc_after _ _ _ hP hD hS (lv_sub hl [0, 1, 2, 4, 5] rfl) hf
      · have hf := f_neg c_ hf
        refine lv_aload_n hx hb d_ESC_readNumbered_60 rfl (lv_at hl 0 rfl) ?_
        refine va_get (D := (dC, dI)) (ci := 6) (v := .ref a_pat) (C := R_ESC) (T := F_ESC) (N := N_ESC) hx hb hts i_ESC hown hK hP 1 rfl rfl 0 (by decide) (hts _ tw_271) (fun _ h9 => h9) rfl d_ESC_readNumbered_61 ?_
        refine lv_iload_n hx hb d_ESC_readNumbered_64 rfl (lv_at hl 2 rfl) ?_
        refine lv_iload hx hb d_ESC_readNumbered_65 (lv_at hl 4 rfl) ?_
        refine lv_iadd hx hb d_ESC_readNumbered_67 ?_
        obtain ⟨x68, hg, hf⟩ := bnd hf
        have hPc := hP.sub (ws' := (w_0 cI tS a_pat a_pat_bytes pat_length pat_bytes)) [0, 2] rfl
        have hDc := hD.sub (ws' := (w_0 cI tS a_pat a_pat_bytes pat_length pat_bytes)) [0, 2] (by decide) rfl
        have hFc := va_free (wc := (w_0 cI tS a_pat a_pat_bytes pat_length pat_bytes)) hD hS hA [0, 2] rfl
        refine cal_i (va_runV (As := [.int (v3 + v5)]) (rest := []) ⟨hx, hb, hml, hown, hts⟩ (c_PAT_at l dC dI cI tS H.size a_pat a_pat_bytes pat_length pat_bytes (v3 + v5) x68 hg) ⟨callB_of 1 hts (gN tw_586) rfl rfl rfl (hts _ tw_80) (hts _ tw_744) hd_PAT_at ⟨Nat.le_of_ble_eq_true rfl, Nat.le_of_ble_eq_true rfl⟩, hts _ tw_584, hts _ tw_585⟩ (pre_V hK hPc hDc hst0 hS hFc (va_recv hK hPc (ci := 0) (q0 := 0) rfl rfl)) rfl rfl hl.1 rfl (lv_room (Nat.le_of_ble_eq_true rfl)) d_ESC_readNumbered_68 ⟨Nat.zero_le _, Nat.zero_le _⟩) hP hD hS hA [0, 2] [1] rfl rfl (by decide) (by decide) (fun H locs hP hD hS => ?_)
        have hP := hP.sub (ws' := (w_25 cI tS a_pat a_pat_bytes a_esc pat_length esc_kind esc_value esc_set esc_others esc_after pat_bytes)) [1, 0, 2] rfl
        have hD := hD.sub (ws' := (w_25 cI tS a_pat a_pat_bytes a_esc pat_length esc_kind esc_value esc_set esc_others esc_after pat_bytes)) [1, 0, 2] (by decide) rfl
        obtain ⟨x71, hg, hf⟩ := bnd hf
        have hPc := hP.sub (ws' := (w_11 cI tS)) [] rfl
        have hDc := hD.sub (ws' := (w_11 cI tS)) [] (by decide) rfl
        have hFc := va_free (wc := (w_11 cI tS)) hD hS hA [] rfl
        refine cal_i (va_runSN (As := [.int x68]) (rest := []) ⟨hx, hb, hml, hown, hts⟩ (c_PN_hexadecimal l dC dI cI tS H.size x68 x71 hg) ⟨va_cnB 1 hts (gN tw_755) rfl rfl rfl (hst0.2.1 _ tn_753) (hts _ tw_79) hd_PN_hexadecimal ⟨Nat.le_of_ble_eq_true rfl, Nat.le_of_ble_eq_true rfl⟩, hts _ tw_754, trivial⟩ (pre_S hK hPc hDc hst0 hS hFc) rfl rfl hl.1 rfl (lv_room (Nat.le_of_ble_eq_true rfl)) d_ESC_readNumbered_71 ⟨Nat.zero_le _, Nat.zero_le _⟩) hP hD hS hA [] [0, 1, 2] rfl rfl (by decide) (by decide) (fun H locs hP hD hS => ?_)
        have hP := hP.sub (ws' := (w_25 cI tS a_pat a_pat_bytes a_esc pat_length esc_kind esc_value esc_set esc_others esc_after pat_bytes)) [0, 1, 2] rfl
        have hD := hD.sub (ws' := (w_25 cI tS a_pat a_pat_bytes a_esc pat_length esc_kind esc_value esc_set esc_others esc_after pat_bytes)) [0, 1, 2] (by decide) rfl
        refine lv_if_lt (tgt := 105) hx hb d_ESC_readNumbered_74 (by decide) (fun c_ => ?_) (fun c_ => ?_)
        · have hf := f_pos c_ hf
          exact L105 v2 v3 v5 v6 esc_kind esc_value esc_after _ _ _ hP hD hS (lv_sub hl [0, 1, 2, 4, 5] rfl) hf
        · have hf := f_neg c_ hf
          refine lv_iload hx hb d_ESC_readNumbered_77 (lv_at hl 5 rfl) ?_
          refine lv_bipush (v := 16) hx hb d_ESC_readNumbered_79 (by decide) ?_
          refine lv_imul hx hb d_ESC_readNumbered_81 ?_
          refine lv_aload_n hx hb d_ESC_readNumbered_82 rfl (lv_at hl 0 rfl) ?_
          refine va_get (D := (dC, dI)) (ci := 6) (v := .ref a_pat) (C := R_ESC) (T := F_ESC) (N := N_ESC) hx hb hts i_ESC hown hK hP 1 rfl rfl 0 (by decide) (hts _ tw_271) (fun _ h9 => h9) rfl d_ESC_readNumbered_83 ?_
          refine lv_iload_n hx hb d_ESC_readNumbered_86 rfl (lv_at hl 2 rfl) ?_
          refine lv_iload hx hb d_ESC_readNumbered_87 (lv_at hl 4 rfl) ?_
          refine lv_iadd hx hb d_ESC_readNumbered_89 ?_
          obtain ⟨x90, hg, hf⟩ := bnd hf
          have hPc := hP.sub (ws' := (w_0 cI tS a_pat a_pat_bytes pat_length pat_bytes)) [0, 2] rfl
          have hDc := hD.sub (ws' := (w_0 cI tS a_pat a_pat_bytes pat_length pat_bytes)) [0, 2] (by decide) rfl
          have hFc := va_free (wc := (w_0 cI tS a_pat a_pat_bytes pat_length pat_bytes)) hD hS hA [0, 2] rfl
          refine cal_i (va_runV (As := [.int (v3 + v5)]) (rest := [.int (v6 * 16)]) ⟨hx, hb, hml, hown, hts⟩ (c_PAT_at l dC dI cI tS H.size a_pat a_pat_bytes pat_length pat_bytes (v3 + v5) x90 hg) ⟨callB_of 1 hts (gN tw_586) rfl rfl rfl (hts _ tw_80) (hts _ tw_744) hd_PAT_at ⟨Nat.le_of_ble_eq_true rfl, Nat.le_of_ble_eq_true rfl⟩, hts _ tw_584, hts _ tw_585⟩ (pre_V hK hPc hDc hst0 hS hFc (va_recv hK hPc (ci := 0) (q0 := 0) rfl rfl)) rfl rfl hl.1 rfl (lv_room (Nat.le_of_ble_eq_true rfl)) d_ESC_readNumbered_90 ⟨Nat.zero_le _, Nat.zero_le _⟩) hP hD hS hA [0, 2] [1] rfl rfl (by decide) (by decide) (fun H locs hP hD hS => ?_)
          have hP := hP.sub (ws' := (w_25 cI tS a_pat a_pat_bytes a_esc pat_length esc_kind esc_value esc_set esc_others esc_after pat_bytes)) [1, 0, 2] rfl
          have hD := hD.sub (ws' := (w_25 cI tS a_pat a_pat_bytes a_esc pat_length esc_kind esc_value esc_set esc_others esc_after pat_bytes)) [1, 0, 2] (by decide) rfl
          obtain ⟨x93, hg, hf⟩ := bnd hf
          have hPc := hP.sub (ws' := (w_11 cI tS)) [] rfl
          have hDc := hD.sub (ws' := (w_11 cI tS)) [] (by decide) rfl
          have hFc := va_free (wc := (w_11 cI tS)) hD hS hA [] rfl
          refine cal_i (va_runSN (As := [.int x90]) (rest := [.int (v6 * 16)]) ⟨hx, hb, hml, hown, hts⟩ (c_PN_hexadecimal l dC dI cI tS H.size x90 x93 hg) ⟨va_cnB 1 hts (gN tw_755) rfl rfl rfl (hst0.2.1 _ tn_753) (hts _ tw_79) hd_PN_hexadecimal ⟨Nat.le_of_ble_eq_true rfl, Nat.le_of_ble_eq_true rfl⟩, hts _ tw_754, trivial⟩ (pre_S hK hPc hDc hst0 hS hFc) rfl rfl hl.1 rfl (lv_room (Nat.le_of_ble_eq_true rfl)) d_ESC_readNumbered_93 ⟨Nat.zero_le _, Nat.zero_le _⟩) hP hD hS hA [] [0, 1, 2] rfl rfl (by decide) (by decide) (fun H locs hP hD hS => ?_)
          have hP := hP.sub (ws' := (w_25 cI tS a_pat a_pat_bytes a_esc pat_length esc_kind esc_value esc_set esc_others esc_after pat_bytes)) [0, 1, 2] rfl
          have hD := hD.sub (ws' := (w_25 cI tS a_pat a_pat_bytes a_esc pat_length esc_kind esc_value esc_set esc_others esc_after pat_bytes)) [0, 1, 2] (by decide) rfl
          refine lv_iadd hx hb d_ESC_readNumbered_96 ?_
          refine lv_istore (lv' := [(6, .int ((v6 * 16) + x93)), (0, .ref a_esc), (2, .int (b2i v2)), (3, .int v3), (4, .int v4), (5, .int v5)]) hx hb d_ESC_readNumbered_97 hl (by decide) rfl (fun ls hl => ?_)
          refine lv_iinc (v := v5 + 1) (lv' := [(5, .int (v5 + 1)), (6, .int ((v6 * 16) + x93)), (0, .ref a_esc), (2, .int (b2i v2)), (3, .int v3), (4, .int v4)]) hx hb d_ESC_readNumbered_99 hl (k := 5) rfl rfl (by decide) rfl (fun ls hl => ?_)
          refine lv_goto (tgt := 53) hx hb d_ESC_readNumbered_102 (by decide) ?_
          exact ih53 v2 v3 v4 (v5 + 1) ((v6 * 16) + x93) esc_kind esc_value esc_after _ _ _ hP hD hS (lv_sub hl [2, 3, 4, 5, 0, 1] rfl) hf
  have L45 : ∀ (v2 : Bool) (v3 : Int32) (z0 : Int32) (esc_kind : Int32) (esc_value : Int32) (esc_after : Int32) (H : Heap) (locs : List Loc) (ls : Array Slot), va_P (dC, dI) classes (w_25 cI tS a_pat a_pat_bytes a_esc pat_length esc_kind esc_value esc_set esc_others esc_after pat_bytes) H → va_D A (w_25 cI tS a_pat a_pat_bytes a_esc pat_length esc_kind esc_value esc_set esc_others esc_after pat_bytes) → va_S A s.heap H locs → lv_has ls 8 [(0, .ref a_esc), (2, .int (b2i v2)), (3, .int v3)] → f_ESC_readNumbered_L45 pat_length pat_bytes p1 v2 v3 z0 esc_kind esc_value esc_after = some R0 → W p l e (headSpec ws_ESC_readNumbered ({ frames := 1, cells := 0, slots := 0, locals := 22 })).room s m ([.ref a_esc, .int p1] : List Value).toArray below meth c H locs 0 0 (MQ below (va_Qi (fun r (_ : Unit) => r = R0.1) (fun _ t => posS (dC, dI) classes [(cI, .int)] (w_25 cI tS a_pat a_pat_bytes a_esc pat_length R0.2.1 R0.2.2.1 esc_set esc_others R0.2.2.2 pat_bytes) (A) t) (A)) ([.ref a_esc, .int p1] : List Value).toArray s 0 0 A) (F0 m 45 ls [.int z0]) := by
    intro v2 v3 z0 esc_kind esc_value esc_after H locs ls hP hD hS hl hf
    refine lv_istore (lv' := [(4, .int z0), (0, .ref a_esc), (2, .int (b2i v2)), (3, .int v3)]) hx hb d_ESC_readNumbered_45 hl (by decide) rfl (fun ls hl => ?_)
    refine lv_iconst (v := 0) hx hb d_ESC_readNumbered_47 (by decide) ?_
    refine lv_istore (lv' := [(5, .int 0), (4, .int z0), (0, .ref a_esc), (2, .int (b2i v2)), (3, .int v3)]) hx hb d_ESC_readNumbered_48 hl (by decide) rfl (fun ls hl => ?_)
    refine lv_iconst (v := 0) hx hb d_ESC_readNumbered_50 (by decide) ?_
    refine lv_istore (lv' := [(6, .int 0), (5, .int 0), (4, .int z0), (0, .ref a_esc), (2, .int (b2i v2)), (3, .int v3)]) hx hb d_ESC_readNumbered_51 hl (by decide) rfl (fun ls hl => ?_)
    exact L53 FU v2 v3 z0 0 0 esc_kind esc_value esc_after _ _ _ hP hD hS (lv_sub hl [3, 4, 5, 2, 1, 0] rfl) hf
  have L34 : ∀ (v2 : Bool) (z0 : Int32) (esc_kind : Int32) (esc_value : Int32) (esc_after : Int32) (H : Heap) (locs : List Loc) (ls : Array Slot), va_P (dC, dI) classes (w_25 cI tS a_pat a_pat_bytes a_esc pat_length esc_kind esc_value esc_set esc_others esc_after pat_bytes) H → va_D A (w_25 cI tS a_pat a_pat_bytes a_esc pat_length esc_kind esc_value esc_set esc_others esc_after pat_bytes) → va_S A s.heap H locs → lv_has ls 8 [(0, .ref a_esc), (2, .int (b2i v2))] → f_ESC_readNumbered_L34 pat_length pat_bytes p1 v2 z0 esc_kind esc_value esc_after = some R0 → W p l e (headSpec ws_ESC_readNumbered ({ frames := 1, cells := 0, slots := 0, locals := 22 })).room s m ([.ref a_esc, .int p1] : List Value).toArray below meth c H locs 0 0 (MQ below (va_Qi (fun r (_ : Unit) => r = R0.1) (fun _ t => posS (dC, dI) classes [(cI, .int)] (w_25 cI tS a_pat a_pat_bytes a_esc pat_length R0.2.1 R0.2.2.1 esc_set esc_others R0.2.2.2 pat_bytes) (A) t) (A)) ([.ref a_esc, .int p1] : List Value).toArray s 0 0 A) (F0 m 34 ls [.int z0]) := by
    intro v2 z0 esc_kind esc_value esc_after H locs ls hP hD hS hl hf
    refine lv_istore_n (lv' := [(3, .int z0), (0, .ref a_esc), (2, .int (b2i v2))]) hx hb d_ESC_readNumbered_34 rfl hl (by decide) rfl (fun ls hl => ?_)
    refine lv_iload_n hx hb d_ESC_readNumbered_35 rfl (lv_at hl 2 rfl) ?_
    refine lv_if_eq (tgt := 44) hx hb d_ESC_readNumbered_36 (by decide) (fun c_ => ?_) (fun c_ => ?_)
    · have hf := f_pos c_ hf
      refine lv_iconst (v := 2) hx hb d_ESC_readNumbered_44 (by decide) ?_
      exact L45 v2 z0 2 esc_kind esc_value esc_after _ _ _ hP hD hS (lv_sub hl [1, 2, 0] rfl) hf
    · have hf := f_neg c_ hf
      refine lv_bipush (v := 6) hx hb d_ESC_readNumbered_39 (by decide) ?_
      refine lv_goto (tgt := 45) hx hb d_ESC_readNumbered_41 (by decide) ?_
      exact L45 v2 z0 6 esc_kind esc_value esc_after _ _ _ hP hD hS (lv_sub hl [1, 2, 0] rfl) hf
  have L20 : ∀ (z0 : Bool) (esc_kind : Int32) (esc_value : Int32) (esc_after : Int32) (H : Heap) (locs : List Loc) (ls : Array Slot), va_P (dC, dI) classes (w_25 cI tS a_pat a_pat_bytes a_esc pat_length esc_kind esc_value esc_set esc_others esc_after pat_bytes) H → va_D A (w_25 cI tS a_pat a_pat_bytes a_esc pat_length esc_kind esc_value esc_set esc_others esc_after pat_bytes) → va_S A s.heap H locs → lv_has ls 8 [(0, .ref a_esc), (1, .int p1)] → f_ESC_readNumbered_L20 pat_length pat_bytes p1 z0 esc_kind esc_value esc_after = some R0 → W p l e (headSpec ws_ESC_readNumbered ({ frames := 1, cells := 0, slots := 0, locals := 22 })).room s m ([.ref a_esc, .int p1] : List Value).toArray below meth c H locs 0 0 (MQ below (va_Qi (fun r (_ : Unit) => r = R0.1) (fun _ t => posS (dC, dI) classes [(cI, .int)] (w_25 cI tS a_pat a_pat_bytes a_esc pat_length R0.2.1 R0.2.2.1 esc_set esc_others R0.2.2.2 pat_bytes) (A) t) (A)) ([.ref a_esc, .int p1] : List Value).toArray s 0 0 A) (F0 m 20 ls [.int (b2i z0)]) := by
    intro z0 esc_kind esc_value esc_after H locs ls hP hD hS hl hf
    refine lv_istore_n (lv' := [(2, .int (b2i z0)), (0, .ref a_esc), (1, .int p1)]) hx hb d_ESC_readNumbered_20 rfl hl (by decide) rfl (fun ls hl => ?_)
    refine lv_iload_n hx hb d_ESC_readNumbered_21 rfl (lv_at hl 0 rfl) ?_
    refine lv_if_eq (tgt := 31) hx hb d_ESC_readNumbered_22 (by decide) (fun c_ => ?_) (fun c_ => ?_)
    · have hf := f_pos c_ hf
      refine lv_iload_n hx hb d_ESC_readNumbered_31 rfl (lv_at hl 2 rfl) ?_
      refine lv_iconst (v := 2) hx hb d_ESC_readNumbered_32 (by decide) ?_
      refine lv_iadd hx hb d_ESC_readNumbered_33 ?_
      exact L34 z0 (p1 + 2) esc_kind esc_value esc_after _ _ _ hP hD hS (lv_sub hl [1, 0] rfl) hf
    · have hf := f_neg c_ hf
      refine lv_iload_n hx hb d_ESC_readNumbered_25 rfl (lv_at hl 2 rfl) ?_
      refine lv_iconst (v := 3) hx hb d_ESC_readNumbered_26 (by decide) ?_
      refine lv_iadd hx hb d_ESC_readNumbered_27 ?_
      refine lv_goto (tgt := 34) hx hb d_ESC_readNumbered_28 (by decide) ?_
      exact L34 z0 (p1 + 3) esc_kind esc_value esc_after _ _ _ hP hD hS (lv_sub hl [1, 0] rfl) hf
  refine lv_aload_n hx hb d_ESC_readNumbered_0 rfl (lv_at hl 0 rfl) ?_
  refine va_get (D := (dC, dI)) (ci := 6) (v := .ref a_pat) (C := R_ESC) (T := F_ESC) (N := N_ESC) hx hb hts i_ESC hown hK hP 1 rfl rfl 0 (by decide) (hts _ tw_271) (fun _ h9 => h9) rfl d_ESC_readNumbered_1 ?_
  refine lv_iload_n hx hb d_ESC_readNumbered_4 rfl (lv_at hl 1 rfl) ?_
  refine lv_iconst (v := 2) hx hb d_ESC_readNumbered_5 (by decide) ?_
  refine lv_iadd hx hb d_ESC_readNumbered_6 ?_
  obtain ⟨x7, hg, hf⟩ := bnd hf
  have hPc := hP.sub (ws' := (w_0 cI tS a_pat a_pat_bytes pat_length pat_bytes)) [0, 2] rfl
  have hDc := hD.sub (ws' := (w_0 cI tS a_pat a_pat_bytes pat_length pat_bytes)) [0, 2] (by decide) rfl
  have hFc := va_free (wc := (w_0 cI tS a_pat a_pat_bytes pat_length pat_bytes)) hD hS hA [0, 2] rfl
  refine cal_i (va_runV (As := [.int (p1 + 2)]) (rest := []) ⟨hx, hb, hml, hown, hts⟩ (c_PAT_at l dC dI cI tS s.heap.size a_pat a_pat_bytes pat_length pat_bytes (p1 + 2) x7 hg) ⟨callB_of 1 hts (gN tw_586) rfl rfl rfl (hts _ tw_80) (hts _ tw_744) hd_PAT_at ⟨Nat.le_of_ble_eq_true rfl, Nat.le_of_ble_eq_true rfl⟩, hts _ tw_584, hts _ tw_585⟩ (pre_V hK hPc hDc hst0 hS hFc (va_recv hK hPc (ci := 0) (q0 := 0) rfl rfl)) rfl rfl hl.1 rfl (lv_room (Nat.le_of_ble_eq_true rfl)) d_ESC_readNumbered_7 ⟨Nat.zero_le _, Nat.zero_le _⟩) hP hD hS hA [0, 2] [1] rfl rfl (by decide) (by decide) (fun H locs hP hD hS => ?_)
  have hP := hP.sub (ws' := (w_25 cI tS a_pat a_pat_bytes a_esc pat_length esc_kind esc_value esc_set esc_others esc_after pat_bytes)) [1, 0, 2] rfl
  have hD := hD.sub (ws' := (w_25 cI tS a_pat a_pat_bytes a_esc pat_length esc_kind esc_value esc_set esc_others esc_after pat_bytes)) [1, 0, 2] (by decide) rfl
  refine lv_bipush (v := 123) hx hb d_ESC_readNumbered_10 (by decide) ?_
  refine lv_icmp_ne (tgt := 19) hx hb d_ESC_readNumbered_12 (by decide) (fun c_ => ?_) (fun c_ => ?_)
  · have hf := f_neg c_ hf
    refine lv_iconst (v := 0) hx hb d_ESC_readNumbered_19 (by decide) ?_
    exact L20 false esc_kind esc_value esc_after _ _ _ hP hD hS (lv_sub hl [0, 1] rfl) hf
  · have hf := f_pos c_ hf
    refine lv_iconst (v := 1) hx hb d_ESC_readNumbered_15 (by decide) ?_
    refine lv_goto (tgt := 20) hx hb d_ESC_readNumbered_16 (by decide) ?_
    exact L20 true esc_kind esc_value esc_after _ _ _ hP hD hS (lv_sub hl [0, 1] rfl) hf
def f_ESC_foundSet (esc_kind : Int32) (esc_value : Int32) (esc_set : Nat) (esc_others : Bool) (p1 : Nat) (p2 : Bool) : Option (Int32 × Int32 × Int32 × Nat × Bool) :=
  some (0, 1, (-1), p1, p2)
set_option maxRecDepth 100000 in
set_option maxHeartbeats 4000000 in
theorem c_ESC_foundSet (l : Launch) (dC : Nat → ClassId) (dI : Nat → Nat → Nat) (cI : ClassId) (tS : Nat → Nat → Nat) (sz : Nat) (a_esc a_pat : Nat) (esc_kind : Int32) (esc_value : Int32) (esc_set : Nat) (esc_others : Bool) (esc_after : Int32) (p1 : Nat) (p2 : Bool) (R0 : Int32 × Int32 × Int32 × Nat × Bool) (hf : f_ESC_foundSet esc_kind esc_value esc_set esc_others p1 p2 = some R0) : Met l y_ESC_foundSet ws_ESC_foundSet ({ frames := 0, cells := 0, slots := 0, locals := 0 }) (va_Pc [.ref a_esc, .ref (tS 0 p1), .int (b2i p2)] (preS (dC, dI) classes [(cI, .int)] tS (w_24 cI tS a_esc a_pat esc_kind esc_value esc_set esc_others esc_after) sz)) (va_Qi (fun r (_ : Unit) => r = R0.1) (fun _ t => posS (dC, dI) classes [(cI, .int)] (w_24 cI tS a_esc a_pat R0.2.1 R0.2.2.1 R0.2.2.2.1 R0.2.2.2.2 esc_after) (va_A (w_24 cI tS a_esc a_pat esc_kind esc_value esc_set esc_others esc_after) sz) t) (va_A (w_24 cI tS a_esc a_pat esc_kind esc_value esc_set esc_others esc_after) sz)) 0 0 (va_A (w_24 cI tS a_esc a_pat esc_kind esc_value esc_set esc_others esc_after) sz) := by
  refine Met.ofW (cc := b_ESC_foundSet) (maxL := 3) (ret := (some .int)) (by decide) rfl ?_
  intro p e s m args below meth c s₁ B hml hv
  obtain ⟨rfl, hsz, hP, hK, hD0, hst0⟩ := hv
  have hx := B.exec
  have hb := B.bytes
  have hr := B.returns
  have hts0 := atoms_spec (ws := ws_ESC_foundSet) B.pre
  have hts : ∀ w ∈ GW, w.before _ s = true := fun w h => hts0 w (List.mem_cons_of_mem _ h)
  have hown : s.vm.findClass R_ESC = some m.cls := findClass_of_methodNamed B.named
  have hlocks := B.notSynchronized
  subst hsz
  have hD := hD0.self (sz := s.heap.size)
  generalize hAe : va_A (w_24 cI tS a_esc a_pat esc_kind esc_value esc_set esc_others esc_after) s.heap.size = A at hD hst0 ⊢
  have hA : ∀ q : Nat, s.heap.size ≤ q → A q := fun q h => by rw [← hAe]; exact Or.inr h
  have hS : va_S A s.heap s.heap [] := va_S.rf
  have hl := lv_entry ([.ref a_esc, .ref (tS 0 p1), .int (b2i p2)]) (n := 3) (Nat.le_of_ble_eq_true rfl)
  rw [lg_entry_eq]
  generalize (lg_sl ([.ref a_esc, .ref (tS 0 p1), .int (b2i p2)]) ++ List.replicate (3 - (lg_sl ([.ref a_esc, .ref (tS 0 p1), .int (b2i p2)])).length) Slot.unset).toArray = ls at hl ⊢
  have hl : lv_has ls 3 [(0, .ref a_esc), (1, .ref (tS 0 p1)), (2, .int (b2i p2))] := hl
  refine lv_aload_n hx hb d_ESC_foundSet_0 rfl (lv_at hl 0 rfl) ?_
  refine lv_iconst (v := 1) hx hb d_ESC_foundSet_1 (by decide) ?_
  refine va_put (D := (dC, dI)) (ci := 6) (v := .int 1) (ty := .int) (C := R_ESC) (T := F_ESC) (N := N_ESC) hx hb hts i_ESC ty_ESC ty_ESC_ok n_ESC hown hK hP hD hS 0 rfl rfl 1 (by decide) (hts _ tw_272) (fun _ h9 => h9) rfl (ty_ESC_ok 1 (by decide)) rfl rfl (Nat.le_of_ble_eq_true rfl) d_ESC_foundSet_2 (fun H locs hP hD hS => ?_)
  have hP : va_P (dC, dI) classes (w_24 cI tS a_esc a_pat 1 esc_value esc_set esc_others esc_after) H := hP
  have hD : va_D A (w_24 cI tS a_esc a_pat 1 esc_value esc_set esc_others esc_after) := hD
  refine lv_aload_n hx hb d_ESC_foundSet_5 rfl (lv_at hl 0 rfl) ?_
  refine lv_iconst (v := (-1)) hx hb d_ESC_foundSet_6 (by decide) ?_
  refine va_put (D := (dC, dI)) (ci := 6) (v := .int (-1)) (ty := .int) (C := R_ESC) (T := F_ESC) (N := N_ESC) hx hb hts i_ESC ty_ESC ty_ESC_ok n_ESC hown hK hP hD hS 0 rfl rfl 2 (by decide) (hts _ tw_275) (fun _ h9 => h9) rfl (ty_ESC_ok 2 (by decide)) rfl rfl (Nat.le_of_ble_eq_true rfl) d_ESC_foundSet_7 (fun H locs hP hD hS => ?_)
  have hP : va_P (dC, dI) classes (w_24 cI tS a_esc a_pat 1 (-1) esc_set esc_others esc_after) H := hP
  have hD : va_D A (w_24 cI tS a_esc a_pat 1 (-1) esc_set esc_others esc_after) := hD
  refine lv_aload_n hx hb d_ESC_foundSet_10 rfl (lv_at hl 0 rfl) ?_
  refine lv_aload_n hx hb d_ESC_foundSet_11 rfl (lv_at hl 1 rfl) ?_
  refine va_put (D := (dC, dI)) (ci := 6) (v := .ref (tS 0 p1)) (ty := .array .int) (C := R_ESC) (T := F_ESC) (N := N_ESC) hx hb hts i_ESC ty_ESC ty_ESC_ok n_ESC hown hK hP hD hS 0 rfl rfl 3 (by decide) (hts _ tw_278) (fun _ h9 => h9) rfl (ty_ESC_ok 3 (by decide)) rfl rfl (Nat.le_of_ble_eq_true rfl) d_ESC_foundSet_12 (fun H locs hP hD hS => ?_)
  have hP : va_P (dC, dI) classes (w_24 cI tS a_esc a_pat 1 (-1) p1 esc_others esc_after) H := hP
  have hD : va_D A (w_24 cI tS a_esc a_pat 1 (-1) p1 esc_others esc_after) := hD
  refine lv_aload_n hx hb d_ESC_foundSet_15 rfl (lv_at hl 0 rfl) ?_
  refine lv_iload_n hx hb d_ESC_foundSet_16 rfl (lv_at hl 2 rfl) ?_
  refine va_put (D := (dC, dI)) (ci := 6) (v := .int (b2i p2)) (ty := .boolean) (C := R_ESC) (T := F_ESC) (N := N_ESC) hx hb hts i_ESC ty_ESC ty_ESC_ok n_ESC hown hK hP hD hS 0 rfl rfl 4 (by decide) (hts _ tw_281) (fun _ h9 => h9) rfl (ty_ESC_ok 4 (by decide)) (nr_b _) (ft_b _) (Nat.le_of_ble_eq_true rfl) d_ESC_foundSet_17 (fun H locs hP hD hS => ?_)
  have hP : va_P (dC, dI) classes (w_24 cI tS a_esc a_pat 1 (-1) p1 p2 esc_after) H := hP
  have hD : va_D A (w_24 cI tS a_esc a_pat 1 (-1) p1 p2 esc_after) := hD
  refine lv_iconst (v := 0) hx hb d_ESC_foundSet_20 (by decide) ?_
  obtain rfl := Option.some.inj hf
  exact W.iret (v := 0) hx hb hr (fun t ht hW => ⟨⟨_, (), rfl, rfl, ⟨by rw [ht]; exact hP, va_K.moved hW.alike hK, hD⟩⟩, hS.F ht⟩) hS.2.2 d_ESC_foundSet_21
def f_ESC_propertyOf (p0 : Int32) : Option Nat :=
  if p0 = 71 then some 7 else (if p0 = 76 then some 5 else (if p0 = 78 then some 6 else (if p0 = 89 then some 8 else some 0)))
set_option maxRecDepth 100000 in
set_option maxHeartbeats 4000000 in
theorem c_ESC_propertyOf (l : Launch) (dC : Nat → ClassId) (dI : Nat → Nat → Nat) (cI : ClassId) (tS : Nat → Nat → Nat) (sz : Nat) (p0 : Int32) (R0 : Nat) (hf : f_ESC_propertyOf p0 = some R0) : Met l y_ESC_propertyOf ws_ESC_propertyOf ({ frames := 0, cells := 0, slots := 0, locals := 0 }) (va_Pc [.int p0] (preS (dC, dI) classes [(cI, .int)] tS (w_11 cI tS) sz)) (va_Qr (fun _ : Unit => True) (fun _ a t => a = tS 0 R0 ∧ posS (dC, dI) classes [(cI, .int)] (w_11 cI tS) (va_A (w_11 cI tS) sz) t) (va_A (w_11 cI tS) sz)) 0 0 (va_A (w_11 cI tS) sz) := by
  refine Met.ofW (cc := b_ESC_propertyOf) (maxL := 1) (ret := (some (.array .int))) (by decide) rfl ?_
  intro p e s m args below meth c s₁ B hml hv
  obtain ⟨rfl, hsz, hP, hK, hD0, hst0⟩ := hv
  have hx := B.exec
  have hb := B.bytes
  have hr := B.returns
  have hts0 := atoms_spec (ws := ws_ESC_propertyOf) B.pre
  have hts : ∀ w ∈ GW, w.before _ s = true := fun w h => hts0 w (List.mem_cons_of_mem _ h)
  have hown : s.vm.findClass R_ESC = some m.cls := findClass_of_methodNamed B.named
  have hlocks := B.notSynchronized
  subst hsz
  have hD := hD0.self (sz := s.heap.size)
  generalize hAe : va_A (w_11 cI tS) s.heap.size = A at hD hst0 ⊢
  have hA : ∀ q : Nat, s.heap.size ≤ q → A q := fun q h => by rw [← hAe]; exact Or.inr h
  have hS : va_S A s.heap s.heap [] := va_S.rf
  have hl := lv_entry ([.int p0]) (n := 1) (Nat.le_of_ble_eq_true rfl)
  rw [lg_entry_eq]
  generalize (lg_sl ([.int p0]) ++ List.replicate (1 - (lg_sl ([.int p0])).length) Slot.unset).toArray = ls at hl ⊢
  have hl : lv_has ls 1 [(0, .int p0)] := hl
  refine lv_iload_n hx hb d_ESC_propertyOf_0 rfl (lv_at hl 0 rfl) ?_
  rcases Classical.em (p0 = 71) with c_ | n_0
  · have hf := f_pos c_ hf
    refine lv_lookup (off := 51) (tgt := 52) hx hb d_ESC_propertyOf_1 (by decide) (by rw [c_]; try decide) (by decide) ?_
    refine va_getsN hx hb (st_Z hst0 7 (by decide)) hS hown (va_Nw.use rfl (hst0.2.1 _ tn_777)) (fun _ h9 => h9) d_ESC_propertyOf_52 ?_
    obtain rfl := Option.some.inj hf
    exact W.aret hx hb hr (Or.inr ⟨_, rfl⟩) (Or.inr ⟨_, rfl⟩) (fun t ht hW => ⟨⟨(), _, rfl, trivial, rfl, ⟨by rw [ht]; exact hP, va_K.moved hW.alike hK, hD⟩⟩, hS.F ht⟩) hS.2.2 d_ESC_propertyOf_55
  have hf := f_neg n_0 hf
  rcases Classical.em (p0 = 76) with c_ | n_1
  · have hf := f_pos c_ hf
    refine lv_lookup (off := 43) (tgt := 44) hx hb d_ESC_propertyOf_1 (by decide) (by rw [c_]; try decide) (by decide) ?_
    refine va_getsN hx hb (st_Z hst0 5 (by decide)) hS hown (va_Nw.use rfl (hst0.2.1 _ tn_773)) (fun _ h9 => h9) d_ESC_propertyOf_44 ?_
    obtain rfl := Option.some.inj hf
    exact W.aret hx hb hr (Or.inr ⟨_, rfl⟩) (Or.inr ⟨_, rfl⟩) (fun t ht hW => ⟨⟨(), _, rfl, trivial, rfl, ⟨by rw [ht]; exact hP, va_K.moved hW.alike hK, hD⟩⟩, hS.F ht⟩) hS.2.2 d_ESC_propertyOf_47
  have hf := f_neg n_1 hf
  rcases Classical.em (p0 = 78) with c_ | n_2
  · have hf := f_pos c_ hf
    refine lv_lookup (off := 47) (tgt := 48) hx hb d_ESC_propertyOf_1 (by decide) (by rw [c_]; try decide) (by decide) ?_
    refine va_getsN hx hb (st_Z hst0 6 (by decide)) hS hown (va_Nw.use rfl (hst0.2.1 _ tn_775)) (fun _ h9 => h9) d_ESC_propertyOf_48 ?_
    obtain rfl := Option.some.inj hf
    exact W.aret hx hb hr (Or.inr ⟨_, rfl⟩) (Or.inr ⟨_, rfl⟩) (fun t ht hW => ⟨⟨(), _, rfl, trivial, rfl, ⟨by rw [ht]; exact hP, va_K.moved hW.alike hK, hD⟩⟩, hS.F ht⟩) hS.2.2 d_ESC_propertyOf_51
  have hf := f_neg n_2 hf
  rcases Classical.em (p0 = 89) with c_ | n_3
  · have hf := f_pos c_ hf
    refine lv_lookup (off := 55) (tgt := 56) hx hb d_ESC_propertyOf_1 (by decide) (by rw [c_]; try decide) (by decide) ?_
    refine va_getsN hx hb (st_Z hst0 8 (by decide)) hS hown (va_Nw.use rfl (hst0.2.1 _ tn_779)) (fun _ h9 => h9) d_ESC_propertyOf_56 ?_
    obtain rfl := Option.some.inj hf
    exact W.aret hx hb hr (Or.inr ⟨_, rfl⟩) (Or.inr ⟨_, rfl⟩) (fun t ht hW => ⟨⟨(), _, rfl, trivial, rfl, ⟨by rw [ht]; exact hP, va_K.moved hW.alike hK, hD⟩⟩, hS.F ht⟩) hS.2.2 d_ESC_propertyOf_59
  have hf := f_neg n_3 hf
  refine lv_lookup (off := 59) (tgt := 60) hx hb d_ESC_propertyOf_1 (by decide) ((lv_osw n_0 (k := 71) rfl).trans ((lv_osw n_1 (k := 76) rfl).trans ((lv_osw n_2 (k := 78) rfl).trans ((lv_osw n_3 (k := 89) rfl).trans rfl)))) (by decide) ?_
  refine va_getsN hx hb (st_Z hst0 0 (by decide)) hS hown (va_Nw.use rfl (hst0.2.1 _ tn_269)) (fun _ h9 => h9) d_ESC_propertyOf_60 ?_
  obtain rfl := Option.some.inj hf
  exact W.aret hx hb hr (Or.inr ⟨_, rfl⟩) (Or.inr ⟨_, rfl⟩) (fun t ht hW => ⟨⟨(), _, rfl, trivial, rfl, ⟨by rw [ht]; exact hP, va_K.moved hW.alike hK, hD⟩⟩, hS.F ht⟩) hS.2.2 d_ESC_propertyOf_63
def f_ESC_readProperty (pat_length : Int32) (esc_kind : Int32) (esc_value : Int32) (esc_set : Nat) (esc_others : Bool) (esc_after : Int32) (pat_bytes : Nat → Int32) (p1 : Int32) (p2 : Bool) : Option (Int32 × Int32 × Int32 × Nat × Bool × Int32) :=
  bnd_ (f_PAT_at pat_length pat_bytes (p1 + 2)) (fun x7 => if x7 = (-1) then some (5, esc_kind, esc_value, esc_set, esc_others, esc_after) else bnd_ (f_ESC_propertyOf x7) (fun x19 => if (Int32.ofNat (stN x19)) = 0 then some (7, esc_kind, esc_value, esc_set, esc_others, esc_after) else bnd_ (f_ESC_propertyOf x7) (fun x38 => bnd_ (f_ESC_foundSet esc_kind esc_value esc_set esc_others x38 p2) (fun x42 => some (x42.1, x42.2.1, x42.2.2.1, x42.2.2.2.1, x42.2.2.2.2, p1 + 3)))))
set_option maxRecDepth 100000 in
set_option maxHeartbeats 4000000 in
theorem c_ESC_readProperty (l : Launch) (dC : Nat → ClassId) (dI : Nat → Nat → Nat) (cI : ClassId) (tS : Nat → Nat → Nat) (sz : Nat) (a_pat a_pat_bytes a_esc : Nat) (pat_length : Int32) (esc_kind : Int32) (esc_value : Int32) (esc_set : Nat) (esc_others : Bool) (esc_after : Int32) (pat_bytes : Nat → Int32) (p1 : Int32) (p2 : Bool) (R0 : Int32 × Int32 × Int32 × Nat × Bool × Int32) (hf : f_ESC_readProperty pat_length esc_kind esc_value esc_set esc_others esc_after pat_bytes p1 p2 = some R0) : Met l y_ESC_readProperty ws_ESC_readProperty ({ frames := 1, cells := 0, slots := 0, locals := 22 }) (va_Pc [.ref a_esc, .int p1, .int (b2i p2)] (preS (dC, dI) classes [(cI, .int)] tS (w_25 cI tS a_pat a_pat_bytes a_esc pat_length esc_kind esc_value esc_set esc_others esc_after pat_bytes) sz)) (va_Qi (fun r (_ : Unit) => r = R0.1) (fun _ t => posS (dC, dI) classes [(cI, .int)] (w_25 cI tS a_pat a_pat_bytes a_esc pat_length R0.2.1 R0.2.2.1 R0.2.2.2.1 R0.2.2.2.2.1 R0.2.2.2.2.2 pat_bytes) (va_A (w_25 cI tS a_pat a_pat_bytes a_esc pat_length esc_kind esc_value esc_set esc_others esc_after pat_bytes) sz) t) (va_A (w_25 cI tS a_pat a_pat_bytes a_esc pat_length esc_kind esc_value esc_set esc_others esc_after pat_bytes) sz)) 0 0 (va_A (w_25 cI tS a_pat a_pat_bytes a_esc pat_length esc_kind esc_value esc_set esc_others esc_after pat_bytes) sz) := by
  refine Met.ofW (cc := b_ESC_readProperty) (maxL := 4) (ret := (some .int)) (by decide) rfl ?_
  intro p e s m args below meth c s₁ B hml hv
  obtain ⟨rfl, hsz, hP, hK, hD0, hst0⟩ := hv
  have hx := B.exec
  have hb := B.bytes
  have hr := B.returns
  have hts0 := atoms_spec (ws := ws_ESC_readProperty) B.pre
  have hts : ∀ w ∈ GW, w.before _ s = true := fun w h => hts0 w (List.mem_cons_of_mem _ h)
  have hown : s.vm.findClass R_ESC = some m.cls := findClass_of_methodNamed B.named
  have hlocks := B.notSynchronized
  subst hsz
  have hD := hD0.self (sz := s.heap.size)
  generalize hAe : va_A (w_25 cI tS a_pat a_pat_bytes a_esc pat_length esc_kind esc_value esc_set esc_others esc_after pat_bytes) s.heap.size = A at hD hst0 ⊢
  have hA : ∀ q : Nat, s.heap.size ≤ q → A q := fun q h => by rw [← hAe]; exact Or.inr h
  have hS : va_S A s.heap s.heap [] := va_S.rf
  have hl := lv_entry ([.ref a_esc, .int p1, .int (b2i p2)]) (n := 4) (Nat.le_of_ble_eq_true rfl)
  rw [lg_entry_eq]
  generalize (lg_sl ([.ref a_esc, .int p1, .int (b2i p2)]) ++ List.replicate (4 - (lg_sl ([.ref a_esc, .int p1, .int (b2i p2)])).length) Slot.unset).toArray = ls at hl ⊢
  have hl : lv_has ls 4 [(0, .ref a_esc), (1, .int p1), (2, .int (b2i p2))] := hl
  refine lv_aload_n hx hb d_ESC_readProperty_0 rfl (lv_at hl 0 rfl) ?_
  refine va_get (D := (dC, dI)) (ci := 6) (v := .ref a_pat) (C := R_ESC) (T := F_ESC) (N := N_ESC) hx hb hts i_ESC hown hK hP 1 rfl rfl 0 (by decide) (hts _ tw_271) (fun _ h9 => h9) rfl d_ESC_readProperty_1 ?_
  refine lv_iload_n hx hb d_ESC_readProperty_4 rfl (lv_at hl 1 rfl) ?_
  refine lv_iconst (v := 2) hx hb d_ESC_readProperty_5 (by decide) ?_
  refine lv_iadd hx hb d_ESC_readProperty_6 ?_
  obtain ⟨x7, hg, hf⟩ := bnd hf
  have hPc := hP.sub (ws' := (w_0 cI tS a_pat a_pat_bytes pat_length pat_bytes)) [0, 2] rfl
  have hDc := hD.sub (ws' := (w_0 cI tS a_pat a_pat_bytes pat_length pat_bytes)) [0, 2] (by decide) rfl
  have hFc := va_free (wc := (w_0 cI tS a_pat a_pat_bytes pat_length pat_bytes)) hD hS hA [0, 2] rfl
  refine cal_i (va_runV (As := [.int (p1 + 2)]) (rest := []) ⟨hx, hb, hml, hown, hts⟩ (c_PAT_at l dC dI cI tS s.heap.size a_pat a_pat_bytes pat_length pat_bytes (p1 + 2) x7 hg) ⟨callB_of 1 hts (gN tw_586) rfl rfl rfl (hts _ tw_80) (hts _ tw_744) hd_PAT_at ⟨Nat.le_of_ble_eq_true rfl, Nat.le_of_ble_eq_true rfl⟩, hts _ tw_584, hts _ tw_585⟩ (pre_V hK hPc hDc hst0 hS hFc (va_recv hK hPc (ci := 0) (q0 := 0) rfl rfl)) rfl rfl hl.1 rfl (lv_room (Nat.le_of_ble_eq_true rfl)) d_ESC_readProperty_7 ⟨Nat.zero_le _, Nat.zero_le _⟩) hP hD hS hA [0, 2] [1] rfl rfl (by decide) (by decide) (fun H locs hP hD hS => ?_)
  have hP := hP.sub (ws' := (w_25 cI tS a_pat a_pat_bytes a_esc pat_length esc_kind esc_value esc_set esc_others esc_after pat_bytes)) [1, 0, 2] rfl
  have hD := hD.sub (ws' := (w_25 cI tS a_pat a_pat_bytes a_esc pat_length esc_kind esc_value esc_set esc_others esc_after pat_bytes)) [1, 0, 2] (by decide) rfl
  refine lv_istore_n (lv' := [(3, .int x7), (0, .ref a_esc), (1, .int p1), (2, .int (b2i p2))]) hx hb d_ESC_readProperty_10 rfl hl (by decide) rfl (fun ls hl => ?_)
  refine lv_iload_n hx hb d_ESC_readProperty_11 rfl (lv_at hl 0 rfl) ?_
  refine lv_iconst (v := (-1)) hx hb d_ESC_readProperty_12 (by decide) ?_
  refine lv_icmp_ne (tgt := 18) hx hb d_ESC_readProperty_13 (by decide) (fun c_ => ?_) (fun c_ => ?_)
  · have hf := f_neg c_ hf
    refine lv_iload_n hx hb d_ESC_readProperty_18 rfl (lv_at hl 0 rfl) ?_
    obtain ⟨x19, hg, hf⟩ := bnd hf
    have hPc := hP.sub (ws' := (w_11 cI tS)) [] rfl
    have hDc := hD.sub (ws' := (w_11 cI tS)) [] (by decide) rfl
    have hFc := va_free (wc := (w_11 cI tS)) hD hS hA [] rfl
    refine cal_r (va_runS (As := [.int x7]) (rest := []) ⟨hx, hb, hml, hown, hts⟩ (c_ESC_propertyOf l dC dI cI tS H.size x7 x19 hg) ⟨callB_of 1 hts (gN tw_772) rfl rfl rfl (hts _ tw_87) (hts _ tw_770) hd_ESC_propertyOf ⟨Nat.le_of_ble_eq_true rfl, Nat.le_of_ble_eq_true rfl⟩, hts _ tw_771⟩ (pre_S hK hPc hDc hst0 hS hFc) rfl rfl hl.1 rfl (lv_room (Nat.le_of_ble_eq_true rfl)) d_ESC_readProperty_19 ⟨Nat.zero_le _, Nat.zero_le _⟩) hP hD hS hA [] [0, 1, 2] rfl rfl (by decide) (by decide) (fun H locs hP hD hS => ?_)
    have hP := hP.sub (ws' := (w_25 cI tS a_pat a_pat_bytes a_esc pat_length esc_kind esc_value esc_set esc_others esc_after pat_bytes)) [0, 1, 2] rfl
    have hD := hD.sub (ws' := (w_25 cI tS a_pat a_pat_bytes a_esc pat_length esc_kind esc_value esc_set esc_others esc_after pat_bytes)) [0, 1, 2] (by decide) rfl
    refine va_tlen hx hb (st_T hst0 x19) hS rfl d_ESC_readProperty_22 ?_
    refine lv_if_ne (tgt := 29) hx hb d_ESC_readProperty_23 (by decide) (fun c_ => ?_) (fun c_ => ?_)
    · have hf := f_neg c_ hf
      refine lv_aload_n hx hb d_ESC_readProperty_29 rfl (lv_at hl 1 rfl) ?_
      refine lv_iload_n hx hb d_ESC_readProperty_30 rfl (lv_at hl 2 rfl) ?_
      refine lv_iconst (v := 3) hx hb d_ESC_readProperty_31 (by decide) ?_
      refine lv_iadd hx hb d_ESC_readProperty_32 ?_
      refine va_put (D := (dC, dI)) (ci := 6) (v := .int (p1 + 3)) (ty := .int) (C := R_ESC) (T := F_ESC) (N := N_ESC) hx hb hts i_ESC ty_ESC ty_ESC_ok n_ESC hown hK hP hD hS 1 rfl rfl 5 (by decide) (hts _ tw_284) (fun _ h9 => h9) rfl (ty_ESC_ok 5 (by decide)) rfl rfl (Nat.le_of_ble_eq_true rfl) d_ESC_readProperty_33 (fun H locs hP hD hS => ?_)
      have hP : va_P (dC, dI) classes (w_25 cI tS a_pat a_pat_bytes a_esc pat_length esc_kind esc_value esc_set esc_others (p1 + 3) pat_bytes) H := hP
      have hD : va_D A (w_25 cI tS a_pat a_pat_bytes a_esc pat_length esc_kind esc_value esc_set esc_others (p1 + 3) pat_bytes) := hD
      refine lv_aload_n hx hb d_ESC_readProperty_36 rfl (lv_at hl 1 rfl) ?_
      refine lv_iload_n hx hb d_ESC_readProperty_37 rfl (lv_at hl 0 rfl) ?_
      obtain ⟨x38, hg, hf⟩ := bnd hf
      have hPc := hP.sub (ws' := (w_11 cI tS)) [] rfl
      have hDc := hD.sub (ws' := (w_11 cI tS)) [] (by decide) rfl
      have hFc := va_free (wc := (w_11 cI tS)) hD hS hA [] rfl
      refine cal_r (va_runS (As := [.int x7]) (rest := [.ref a_esc]) ⟨hx, hb, hml, hown, hts⟩ (c_ESC_propertyOf l dC dI cI tS H.size x7 x38 hg) ⟨callB_of 1 hts (gN tw_772) rfl rfl rfl (hts _ tw_87) (hts _ tw_770) hd_ESC_propertyOf ⟨Nat.le_of_ble_eq_true rfl, Nat.le_of_ble_eq_true rfl⟩, hts _ tw_771⟩ (pre_S hK hPc hDc hst0 hS hFc) rfl rfl hl.1 rfl (lv_room (Nat.le_of_ble_eq_true rfl)) d_ESC_readProperty_38 ⟨Nat.zero_le _, Nat.zero_le _⟩) hP hD hS hA [] [0, 1, 2] rfl rfl (by decide) (by decide) (fun H locs hP hD hS => ?_)
      have hP := hP.sub (ws' := (w_25 cI tS a_pat a_pat_bytes a_esc pat_length esc_kind esc_value esc_set esc_others (p1 + 3) pat_bytes)) [0, 1, 2] rfl
      have hD := hD.sub (ws' := (w_25 cI tS a_pat a_pat_bytes a_esc pat_length esc_kind esc_value esc_set esc_others (p1 + 3) pat_bytes)) [0, 1, 2] (by decide) rfl
      refine lv_iload_n hx hb d_ESC_readProperty_41 rfl (lv_at hl 3 rfl) ?_
      obtain ⟨x42, hg, hf⟩ := bnd hf
      have hPc := hP.sub (ws' := (w_24 cI tS a_esc a_pat esc_kind esc_value esc_set esc_others (p1 + 3))) [1] rfl
      have hDc := hD.sub (ws' := (w_24 cI tS a_esc a_pat esc_kind esc_value esc_set esc_others (p1 + 3))) [1] (by decide) rfl
      have hFc := va_free (wc := (w_24 cI tS a_esc a_pat esc_kind esc_value esc_set esc_others (p1 + 3))) hD hS hA [1] rfl
      refine cal_i (va_runV (As := [.ref (tS 0 x38), .int (b2i p2)]) (rest := []) ⟨hx, hb, hml, hown, hts⟩ (c_ESC_foundSet l dC dI cI tS H.size a_esc a_pat esc_kind esc_value esc_set esc_others (p1 + 3) x38 p2 x42 hg) ⟨callB_of 2 hts (gN tw_765) rfl rfl rfl (hts _ tw_87) (hts _ tw_762) hd_ESC_foundSet ⟨Nat.le_of_ble_eq_true rfl, Nat.le_of_ble_eq_true rfl⟩, hts _ tw_764, hts _ tw_18⟩ (pre_V hK hPc hDc hst0 hS hFc (va_recv hK hPc (ci := 6) (q0 := 0) rfl rfl)) rfl rfl hl.1 rfl (lv_room (Nat.le_of_ble_eq_true rfl)) d_ESC_readProperty_42 ⟨Nat.zero_le _, Nat.zero_le _⟩) hP hD hS hA [1] [0, 2] rfl rfl (by decide) (by decide) (fun H locs hP hD hS => ?_)
      have hP := hP.sub (ws' := (w_25 cI tS a_pat a_pat_bytes a_esc pat_length x42.2.1 x42.2.2.1 x42.2.2.2.1 x42.2.2.2.2 (p1 + 3) pat_bytes)) [0, 2, 1] rfl
      have hD := hD.sub (ws' := (w_25 cI tS a_pat a_pat_bytes a_esc pat_length x42.2.1 x42.2.2.1 x42.2.2.2.1 x42.2.2.2.2 (p1 + 3) pat_bytes)) [0, 2, 1] (by decide) rfl
      obtain rfl := Option.some.inj hf
      exact W.iret (v := x42.1) hx hb hr (fun t ht hW => ⟨⟨_, (), rfl, rfl, ⟨by rw [ht]; exact hP, va_K.moved hW.alike hK, hD⟩⟩, hS.F ht⟩) hS.2.2 d_ESC_readProperty_45
    · have hf := f_pos c_ hf
      refine lv_bipush (v := 7) hx hb d_ESC_readProperty_26 (by decide) ?_
      obtain rfl := Option.some.inj hf
      exact W.iret (v := 7) hx hb hr (fun t ht hW => ⟨⟨_, (), rfl, rfl, ⟨by rw [ht]; exact hP, va_K.moved hW.alike hK, hD⟩⟩, hS.F ht⟩) hS.2.2 d_ESC_readProperty_28
  · have hf := f_pos c_ hf
    refine lv_iconst (v := 5) hx hb d_ESC_readProperty_16 (by decide) ?_
    obtain rfl := Option.some.inj hf
    exact W.iret (v := 5) hx hb hr (fun t ht hW => ⟨⟨_, (), rfl, rfl, ⟨by rw [ht]; exact hP, va_K.moved hW.alike hK, hD⟩⟩, hS.F ht⟩) hS.2.2 d_ESC_readProperty_17
def f_ESC_readEscape_L390 (pat_length : Int32) (pat_bytes : Nat → Int32) (p1 : Int32) (v2 : Int32) (esc_kind : Int32) (esc_value : Int32) (esc_set : Nat) (esc_others : Bool) (esc_after : Int32) : Option (Int32 × Int32 × Int32 × Nat × Bool × Int32) :=
  if v2 < 0 then some (5, esc_kind, esc_value, esc_set, esc_others, esc_after) else (if 128 ≤ v2 then some (5, esc_kind, esc_value, esc_set, esc_others, esc_after) else bnd_ (f_PN_isWord v2) (fun x402 => if (b2i x402) = 0 then bnd_ (f_ESC_found esc_kind esc_value 0 v2) (fun x413 => some (x413.1, x413.2.1, x413.2.2, esc_set, esc_others, esc_after)) else some (5, esc_kind, esc_value, esc_set, esc_others, esc_after)))
def f_ESC_readEscape_L386 (pat_length : Int32) (pat_bytes : Nat → Int32) (p1 : Int32) (z0 : Bool) (z1 : Int32) (esc_kind : Int32) (esc_value : Int32) (esc_set : Nat) (esc_others : Bool) (esc_after : Int32) : Option (Int32 × Int32 × Int32 × Nat × Bool × Int32) :=
  bnd_ (f_ESC_readProperty pat_length esc_kind esc_value esc_set esc_others esc_after pat_bytes z1 z0) (fun x386 => some (x386.1, x386.2.1, x386.2.2.1, x386.2.2.2.1, x386.2.2.2.2.1, x386.2.2.2.2.2))
def f_ESC_readEscape (pat_length : Int32) (esc_kind : Int32) (esc_value : Int32) (esc_set : Nat) (esc_others : Bool) (esc_after : Int32) (pat_bytes : Nat → Int32) (p1 : Int32) : Option (Int32 × Int32 × Int32 × Nat × Bool × Int32) :=
  bnd_ (f_PAT_at pat_length pat_bytes (p1 + 1)) (fun x7 => if x7 = 65 then bnd_ (f_ESC_found esc_kind esc_value 3 0) (fun x267 => some (x267.1, x267.2.1, x267.2.2, esc_set, esc_others, p1 + 2)) else (if x7 = 66 then bnd_ (f_ESC_found esc_kind esc_value 3 5) (fun x288 => some (x288.1, x288.2.1, x288.2.2, esc_set, esc_others, p1 + 2)) else (if x7 = 67 then bnd_ (f_ESC_found esc_kind esc_value 2 (-1)) (fun x295 => some (x295.1, x295.2.1, x295.2.2, esc_set, esc_others, p1 + 2)) else (if x7 = 68 then bnd_ (f_ESC_setOf x7) (fun x365 => bnd_ (f_ESC_foundSet esc_kind esc_value esc_set esc_others x365 true) (fun x369 => some (x369.1, x369.2.1, x369.2.2.1, x369.2.2.2.1, x369.2.2.2.2, p1 + 2))) else (if x7 = 80 then (if x7 = 80 then f_ESC_readEscape_L386 pat_length pat_bytes p1 true p1 esc_kind esc_value esc_set esc_others (p1 + 2) else f_ESC_readEscape_L386 pat_length pat_bytes p1 false p1 esc_kind esc_value esc_set esc_others (p1 + 2)) else (if x7 = 83 then bnd_ (f_ESC_setOf x7) (fun x365 => bnd_ (f_ESC_foundSet esc_kind esc_value esc_set esc_others x365 true) (fun x369 => some (x369.1, x369.2.1, x369.2.2.1, x369.2.2.2.1, x369.2.2.2.2, p1 + 2))) else (if x7 = 87 then bnd_ (f_ESC_setOf x7) (fun x365 => bnd_ (f_ESC_foundSet esc_kind esc_value esc_set esc_others x365 true) (fun x369 => some (x369.1, x369.2.1, x369.2.2.1, x369.2.2.2.1, x369.2.2.2.2, p1 + 2))) else (if x7 = 97 then bnd_ (f_ESC_found esc_kind esc_value 0 7) (fun x303 => some (x303.1, x303.2.1, x303.2.2, esc_set, esc_others, p1 + 2)) else (if x7 = 98 then bnd_ (f_ESC_found esc_kind esc_value 3 4) (fun x281 => some (x281.1, x281.2.1, x281.2.2, esc_set, esc_others, p1 + 2)) else (if x7 = 100 then bnd_ (f_ESC_setOf x7) (fun x355 => bnd_ (f_ESC_foundSet esc_kind esc_value esc_set esc_others x355 false) (fun x359 => some (x359.1, x359.2.1, x359.2.2.1, x359.2.2.2.1, x359.2.2.2.2, p1 + 2))) else (if x7 = 102 then bnd_ (f_ESC_found esc_kind esc_value 0 12) (fun x311 => some (x311.1, x311.2.1, x311.2.2, esc_set, esc_others, p1 + 2)) else (if x7 = 110 then bnd_ (f_ESC_found esc_kind esc_value 0 10) (fun x319 => some (x319.1, x319.2.1, x319.2.2, esc_set, esc_others, p1 + 2)) else (if x7 = 112 then (if x7 = 80 then f_ESC_readEscape_L386 pat_length pat_bytes p1 true p1 esc_kind esc_value esc_set esc_others (p1 + 2) else f_ESC_readEscape_L386 pat_length pat_bytes p1 false p1 esc_kind esc_value esc_set esc_others (p1 + 2)) else (if x7 = 114 then bnd_ (f_ESC_found esc_kind esc_value 0 13) (fun x327 => some (x327.1, x327.2.1, x327.2.2, esc_set, esc_others, p1 + 2)) else (if x7 = 115 then bnd_ (f_ESC_setOf x7) (fun x355 => bnd_ (f_ESC_foundSet esc_kind esc_value esc_set esc_others x355 false) (fun x359 => some (x359.1, x359.2.1, x359.2.2.1, x359.2.2.2.1, x359.2.2.2.2, p1 + 2))) else (if x7 = 116 then bnd_ (f_ESC_found esc_kind esc_value 0 9) (fun x335 => some (x335.1, x335.2.1, x335.2.2, esc_set, esc_others, p1 + 2)) else (if x7 = 118 then bnd_ (f_ESC_found esc_kind esc_value 0 11) (fun x343 => some (x343.1, x343.2.1, x343.2.2, esc_set, esc_others, p1 + 2)) else (if x7 = 119 then bnd_ (f_ESC_setOf x7) (fun x355 => bnd_ (f_ESC_foundSet esc_kind esc_value esc_set esc_others x355 false) (fun x359 => some (x359.1, x359.2.1, x359.2.2.1, x359.2.2.2.1, x359.2.2.2.2, p1 + 2))) else (if x7 = 120 then bnd_ (f_ESC_readNumbered pat_length esc_kind esc_value (p1 + 2) pat_bytes p1) (fun x349 => some (x349.1, x349.2.1, x349.2.2.1, esc_set, esc_others, x349.2.2.2)) else (if x7 = 122 then bnd_ (f_ESC_found esc_kind esc_value 3 1) (fun x274 => some (x274.1, x274.2.1, x274.2.2, esc_set, esc_others, p1 + 2)) else f_ESC_readEscape_L390 pat_length pat_bytes p1 x7 esc_kind esc_value esc_set esc_others (p1 + 2)))))))))))))))))))))
set_option maxRecDepth 100000 in
set_option maxHeartbeats 4000000 in
theorem c_ESC_readEscape (l : Launch) (dC : Nat → ClassId) (dI : Nat → Nat → Nat) (cI : ClassId) (tS : Nat → Nat → Nat) (sz : Nat) (a_pat a_pat_bytes a_esc : Nat) (pat_length : Int32) (esc_kind : Int32) (esc_value : Int32) (esc_set : Nat) (esc_others : Bool) (esc_after : Int32) (pat_bytes : Nat → Int32) (p1 : Int32) (R0 : Int32 × Int32 × Int32 × Nat × Bool × Int32) (hf : f_ESC_readEscape pat_length esc_kind esc_value esc_set esc_others esc_after pat_bytes p1 = some R0) : Met l y_ESC_readEscape ws_ESC_readEscape ({ frames := 2, cells := 0, slots := 0, locals := 49 }) (va_Pc [.ref a_esc, .int p1] (preS (dC, dI) classes [(cI, .int)] tS (w_25 cI tS a_pat a_pat_bytes a_esc pat_length esc_kind esc_value esc_set esc_others esc_after pat_bytes) sz)) (va_Qi (fun r (_ : Unit) => r = R0.1) (fun _ t => posS (dC, dI) classes [(cI, .int)] (w_25 cI tS a_pat a_pat_bytes a_esc pat_length R0.2.1 R0.2.2.1 R0.2.2.2.1 R0.2.2.2.2.1 R0.2.2.2.2.2 pat_bytes) (va_A (w_25 cI tS a_pat a_pat_bytes a_esc pat_length esc_kind esc_value esc_set esc_others esc_after pat_bytes) sz) t) (va_A (w_25 cI tS a_pat a_pat_bytes a_esc pat_length esc_kind esc_value esc_set esc_others esc_after pat_bytes) sz)) 0 0 (va_A (w_25 cI tS a_pat a_pat_bytes a_esc pat_length esc_kind esc_value esc_set esc_others esc_after pat_bytes) sz) := by
  refine Met.ofW (cc := b_ESC_readEscape) (maxL := 3) (ret := (some .int)) (by decide) rfl ?_
  intro p e s m args below meth c s₁ B hml hv
  obtain ⟨rfl, hsz, hP, hK, hD0, hst0⟩ := hv
  have hx := B.exec
  have hb := B.bytes
  have hr := B.returns
  have hts0 := atoms_spec (ws := ws_ESC_readEscape) B.pre
  have hts : ∀ w ∈ GW, w.before _ s = true := fun w h => hts0 w (List.mem_cons_of_mem _ h)
  have hown : s.vm.findClass R_ESC = some m.cls := findClass_of_methodNamed B.named
  have hlocks := B.notSynchronized
  subst hsz
  have hD := hD0.self (sz := s.heap.size)
  generalize hAe : va_A (w_25 cI tS a_pat a_pat_bytes a_esc pat_length esc_kind esc_value esc_set esc_others esc_after pat_bytes) s.heap.size = A at hD hst0 ⊢
  have hA : ∀ q : Nat, s.heap.size ≤ q → A q := fun q h => by rw [← hAe]; exact Or.inr h
  have hS : va_S A s.heap s.heap [] := va_S.rf
  have hl := lv_entry ([.ref a_esc, .int p1]) (n := 3) (Nat.le_of_ble_eq_true rfl)
  rw [lg_entry_eq]
  generalize (lg_sl ([.ref a_esc, .int p1]) ++ List.replicate (3 - (lg_sl ([.ref a_esc, .int p1])).length) Slot.unset).toArray = ls at hl ⊢
  have hl : lv_has ls 3 [(0, .ref a_esc), (1, .int p1)] := hl
  have L390 : ∀ (v2 : Int32) (esc_kind : Int32) (esc_value : Int32) (esc_set : Nat) (esc_others : Bool) (esc_after : Int32) (H : Heap) (locs : List Loc) (ls : Array Slot), va_P (dC, dI) classes (w_25 cI tS a_pat a_pat_bytes a_esc pat_length esc_kind esc_value esc_set esc_others esc_after pat_bytes) H → va_D A (w_25 cI tS a_pat a_pat_bytes a_esc pat_length esc_kind esc_value esc_set esc_others esc_after pat_bytes) → va_S A s.heap H locs → lv_has ls 3 [(0, .ref a_esc), (2, .int v2)] → f_ESC_readEscape_L390 pat_length pat_bytes p1 v2 esc_kind esc_value esc_set esc_others esc_after = some R0 → W p l e (headSpec ws_ESC_readEscape ({ frames := 2, cells := 0, slots := 0, locals := 49 })).room s m ([.ref a_esc, .int p1] : List Value).toArray below meth c H locs 0 0 (MQ below (va_Qi (fun r (_ : Unit) => r = R0.1) (fun _ t => posS (dC, dI) classes [(cI, .int)] (w_25 cI tS a_pat a_pat_bytes a_esc pat_length R0.2.1 R0.2.2.1 R0.2.2.2.1 R0.2.2.2.2.1 R0.2.2.2.2.2 pat_bytes) (A) t) (A)) ([.ref a_esc, .int p1] : List Value).toArray s 0 0 A) (F0 m 390 ls []) := by
    intro v2 esc_kind esc_value esc_set esc_others esc_after H locs ls hP hD hS hl hf
    refine lv_iload_n hx hb d_ESC_readEscape_390 rfl (lv_at hl 1 rfl) ?_
    refine lv_if_lt (tgt := 408) hx hb d_ESC_readEscape_391 (by decide) (fun c_ => ?_) (fun c_ => ?_)
    · have hf := f_pos c_ hf
      refine lv_iconst (v := 5) hx hb d_ESC_readEscape_408 (by decide) ?_
      obtain rfl := Option.some.inj hf
      exact W.iret (v := 5) hx hb hr (fun t ht hW => ⟨⟨_, (), rfl, rfl, ⟨by rw [ht]; exact hP, va_K.moved hW.alike hK, hD⟩⟩, hS.F ht⟩) hS.2.2 d_ESC_readEscape_409
    · have hf := f_neg c_ hf
      refine lv_iload_n hx hb d_ESC_readEscape_394 rfl (lv_at hl 1 rfl) ?_
      refine lv_sipush (v := 128) hx hb d_ESC_readEscape_395 (by decide) ?_
      refine lv_icmp_ge (tgt := 408) hx hb d_ESC_readEscape_398 (by decide) (fun c_ => ?_) (fun c_ => ?_)
      · have hf := f_pos c_ hf
        refine lv_iconst (v := 5) hx hb d_ESC_readEscape_408 (by decide) ?_
        obtain rfl := Option.some.inj hf
        exact W.iret (v := 5) hx hb hr (fun t ht hW => ⟨⟨_, (), rfl, rfl, ⟨by rw [ht]; exact hP, va_K.moved hW.alike hK, hD⟩⟩, hS.F ht⟩) hS.2.2 d_ESC_readEscape_409
      · have hf := f_neg c_ hf
        refine lv_iload_n hx hb d_ESC_readEscape_401 rfl (lv_at hl 1 rfl) ?_
        obtain ⟨x402, hg, hf⟩ := bnd hf
        have hPc := hP.sub (ws' := (w_11 cI tS)) [] rfl
        have hDc := hD.sub (ws' := (w_11 cI tS)) [] (by decide) rfl
        have hFc := va_free (wc := (w_11 cI tS)) hD hS hA [] rfl
        refine cal_i (va_runSN (As := [.int v2]) (rest := []) ⟨hx, hb, hml, hown, hts⟩ (c_PN_isWord l dC dI cI tS H.size v2 x402 hg) ⟨va_cnB 1 hts (gN tw_618) rfl rfl rfl (hst0.2.1 _ tn_781) (hts _ tw_79) hd_PN_isWord ⟨Nat.le_of_ble_eq_true rfl, Nat.le_of_ble_eq_true rfl⟩, hts _ tw_617, trivial⟩ (pre_S hK hPc hDc hst0 hS hFc) rfl rfl hl.1 rfl (lv_room (Nat.le_of_ble_eq_true rfl)) d_ESC_readEscape_402 ⟨Nat.zero_le _, Nat.zero_le _⟩) hP hD hS hA [] [0, 1, 2] rfl rfl (by decide) (by decide) (fun H locs hP hD hS => ?_)
        have hP := hP.sub (ws' := (w_25 cI tS a_pat a_pat_bytes a_esc pat_length esc_kind esc_value esc_set esc_others esc_after pat_bytes)) [0, 1, 2] rfl
        have hD := hD.sub (ws' := (w_25 cI tS a_pat a_pat_bytes a_esc pat_length esc_kind esc_value esc_set esc_others esc_after pat_bytes)) [0, 1, 2] (by decide) rfl
        refine lv_if_eq (tgt := 410) hx hb d_ESC_readEscape_405 (by decide) (fun c_ => ?_) (fun c_ => ?_)
        · have hf := f_pos c_ hf
          refine lv_aload_n hx hb d_ESC_readEscape_410 rfl (lv_at hl 0 rfl) ?_
          refine lv_iconst (v := 0) hx hb d_ESC_readEscape_411 (by decide) ?_
          refine lv_iload_n hx hb d_ESC_readEscape_412 rfl (lv_at hl 1 rfl) ?_
          obtain ⟨x413, hg, hf⟩ := bnd hf
          have hPc := hP.sub (ws' := (w_24 cI tS a_esc a_pat esc_kind esc_value esc_set esc_others esc_after)) [1] rfl
          have hDc := hD.sub (ws' := (w_24 cI tS a_esc a_pat esc_kind esc_value esc_set esc_others esc_after)) [1] (by decide) rfl
          have hFc := va_free (wc := (w_24 cI tS a_esc a_pat esc_kind esc_value esc_set esc_others esc_after)) hD hS hA [1] rfl
          refine cal_i (va_runV (As := [.int 0, .int v2]) (rest := []) ⟨hx, hb, hml, hown, hts⟩ (c_ESC_found l dC dI cI tS H.size a_esc a_pat esc_kind esc_value esc_set esc_others esc_after 0 v2 x413 hg) ⟨callB_of 2 hts (gN tw_748) rfl rfl rfl (hts _ tw_87) (hts _ tw_745) hd_ESC_found ⟨Nat.le_of_ble_eq_true rfl, Nat.le_of_ble_eq_true rfl⟩, hts _ tw_747, hts _ tw_16⟩ (pre_V hK hPc hDc hst0 hS hFc (va_recv hK hPc (ci := 6) (q0 := 0) rfl rfl)) rfl rfl hl.1 rfl (lv_room (Nat.le_of_ble_eq_true rfl)) d_ESC_readEscape_413 ⟨Nat.zero_le _, Nat.zero_le _⟩) hP hD hS hA [1] [0, 2] rfl rfl (by decide) (by decide) (fun H locs hP hD hS => ?_)
          have hP := hP.sub (ws' := (w_25 cI tS a_pat a_pat_bytes a_esc pat_length x413.2.1 x413.2.2 esc_set esc_others esc_after pat_bytes)) [0, 2, 1] rfl
          have hD := hD.sub (ws' := (w_25 cI tS a_pat a_pat_bytes a_esc pat_length x413.2.1 x413.2.2 esc_set esc_others esc_after pat_bytes)) [0, 2, 1] (by decide) rfl
          obtain rfl := Option.some.inj hf
          exact W.iret (v := x413.1) hx hb hr (fun t ht hW => ⟨⟨_, (), rfl, rfl, ⟨by rw [ht]; exact hP, va_K.moved hW.alike hK, hD⟩⟩, hS.F ht⟩) hS.2.2 d_ESC_readEscape_416
        · have hf := f_neg c_ hf
          refine lv_iconst (v := 5) hx hb d_ESC_readEscape_408 (by decide) ?_
          obtain rfl := Option.some.inj hf
          exact W.iret (v := 5) hx hb hr (fun t ht hW => ⟨⟨_, (), rfl, rfl, ⟨by rw [ht]; exact hP, va_K.moved hW.alike hK, hD⟩⟩, hS.F ht⟩) hS.2.2 d_ESC_readEscape_409
  have L386 : ∀ (z0 : Bool) (z1 : Int32) (esc_kind : Int32) (esc_value : Int32) (esc_set : Nat) (esc_others : Bool) (esc_after : Int32) (H : Heap) (locs : List Loc) (ls : Array Slot), va_P (dC, dI) classes (w_25 cI tS a_pat a_pat_bytes a_esc pat_length esc_kind esc_value esc_set esc_others esc_after pat_bytes) H → va_D A (w_25 cI tS a_pat a_pat_bytes a_esc pat_length esc_kind esc_value esc_set esc_others esc_after pat_bytes) → va_S A s.heap H locs → lv_has ls 3 [] → f_ESC_readEscape_L386 pat_length pat_bytes p1 z0 z1 esc_kind esc_value esc_set esc_others esc_after = some R0 → W p l e (headSpec ws_ESC_readEscape ({ frames := 2, cells := 0, slots := 0, locals := 49 })).room s m ([.ref a_esc, .int p1] : List Value).toArray below meth c H locs 0 0 (MQ below (va_Qi (fun r (_ : Unit) => r = R0.1) (fun _ t => posS (dC, dI) classes [(cI, .int)] (w_25 cI tS a_pat a_pat_bytes a_esc pat_length R0.2.1 R0.2.2.1 R0.2.2.2.1 R0.2.2.2.2.1 R0.2.2.2.2.2 pat_bytes) (A) t) (A)) ([.ref a_esc, .int p1] : List Value).toArray s 0 0 A) (F0 m 386 ls [.int (b2i z0), .int z1, .ref a_esc]) := by
    intro z0 z1 esc_kind esc_value esc_set esc_others esc_after H locs ls hP hD hS hl hf
    obtain ⟨x386, hg, hf⟩ := bnd hf
    have hPc := hP.sub (ws' := (w_25 cI tS a_pat a_pat_bytes a_esc pat_length esc_kind esc_value esc_set esc_others esc_after pat_bytes)) [0, 1, 2] rfl
    have hDc := hD.sub (ws' := (w_25 cI tS a_pat a_pat_bytes a_esc pat_length esc_kind esc_value esc_set esc_others esc_after pat_bytes)) [0, 1, 2] (by decide) rfl
    have hFc := va_free (wc := (w_25 cI tS a_pat a_pat_bytes a_esc pat_length esc_kind esc_value esc_set esc_others esc_after pat_bytes)) hD hS hA [0, 1, 2] rfl
    refine cal_i (va_runV (As := [.int z1, .int (b2i z0)]) (rest := []) ⟨hx, hb, hml, hown, hts⟩ (c_ESC_readProperty l dC dI cI tS H.size a_pat a_pat_bytes a_esc pat_length esc_kind esc_value esc_set esc_others esc_after pat_bytes z1 z0 x386 hg) ⟨callB_of 2 hts (gN tw_769) rfl rfl rfl (hts _ tw_87) (hts _ tw_766) hd_ESC_readProperty ⟨Nat.le_of_ble_eq_true rfl, Nat.le_of_ble_eq_true rfl⟩, hts _ tw_768, hts _ tw_19⟩ (pre_V hK hPc hDc hst0 hS hFc (va_recv hK hPc (ci := 6) (q0 := 1) rfl rfl)) rfl rfl hl.1 rfl (lv_room (Nat.le_of_ble_eq_true rfl)) d_ESC_readEscape_386 ⟨Nat.zero_le _, Nat.zero_le _⟩) hP hD hS hA [0, 1, 2] [] rfl rfl (by decide) (by decide) (fun H locs hP hD hS => ?_)
    have hP := hP.sub (ws' := (w_25 cI tS a_pat a_pat_bytes a_esc pat_length x386.2.1 x386.2.2.1 x386.2.2.2.1 x386.2.2.2.2.1 x386.2.2.2.2.2 pat_bytes)) [0, 1, 2] rfl
    have hD := hD.sub (ws' := (w_25 cI tS a_pat a_pat_bytes a_esc pat_length x386.2.1 x386.2.2.1 x386.2.2.2.1 x386.2.2.2.2.1 x386.2.2.2.2.2 pat_bytes)) [0, 1, 2] (by decide) rfl
    obtain rfl := Option.some.inj hf
    exact W.iret (v := x386.1) hx hb hr (fun t ht hW => ⟨⟨_, (), rfl, rfl, ⟨by rw [ht]; exact hP, va_K.moved hW.alike hK, hD⟩⟩, hS.F ht⟩) hS.2.2 d_ESC_readEscape_389
  refine lv_aload_n hx hb d_ESC_readEscape_0 rfl (lv_at hl 0 rfl) ?_
  refine va_get (D := (dC, dI)) (ci := 6) (v := .ref a_pat) (C := R_ESC) (T := F_ESC) (N := N_ESC) hx hb hts i_ESC hown hK hP 1 rfl rfl 0 (by decide) (hts _ tw_271) (fun _ h9 => h9) rfl d_ESC_readEscape_1 ?_
  refine lv_iload_n hx hb d_ESC_readEscape_4 rfl (lv_at hl 1 rfl) ?_
  refine lv_iconst (v := 1) hx hb d_ESC_readEscape_5 (by decide) ?_
  refine lv_iadd hx hb d_ESC_readEscape_6 ?_
  obtain ⟨x7, hg, hf⟩ := bnd hf
  have hPc := hP.sub (ws' := (w_0 cI tS a_pat a_pat_bytes pat_length pat_bytes)) [0, 2] rfl
  have hDc := hD.sub (ws' := (w_0 cI tS a_pat a_pat_bytes pat_length pat_bytes)) [0, 2] (by decide) rfl
  have hFc := va_free (wc := (w_0 cI tS a_pat a_pat_bytes pat_length pat_bytes)) hD hS hA [0, 2] rfl
  refine cal_i (va_runV (As := [.int (p1 + 1)]) (rest := []) ⟨hx, hb, hml, hown, hts⟩ (c_PAT_at l dC dI cI tS s.heap.size a_pat a_pat_bytes pat_length pat_bytes (p1 + 1) x7 hg) ⟨callB_of 1 hts (gN tw_586) rfl rfl rfl (hts _ tw_80) (hts _ tw_744) hd_PAT_at ⟨Nat.le_of_ble_eq_true rfl, Nat.le_of_ble_eq_true rfl⟩, hts _ tw_584, hts _ tw_585⟩ (pre_V hK hPc hDc hst0 hS hFc (va_recv hK hPc (ci := 0) (q0 := 0) rfl rfl)) rfl rfl hl.1 rfl (lv_room (Nat.le_of_ble_eq_true rfl)) d_ESC_readEscape_7 ⟨Nat.zero_le _, Nat.zero_le _⟩) hP hD hS hA [0, 2] [1] rfl rfl (by decide) (by decide) (fun H locs hP hD hS => ?_)
  have hP := hP.sub (ws' := (w_25 cI tS a_pat a_pat_bytes a_esc pat_length esc_kind esc_value esc_set esc_others esc_after pat_bytes)) [1, 0, 2] rfl
  have hD := hD.sub (ws' := (w_25 cI tS a_pat a_pat_bytes a_esc pat_length esc_kind esc_value esc_set esc_others esc_after pat_bytes)) [1, 0, 2] (by decide) rfl
  refine lv_istore_n (lv' := [(2, .int x7), (0, .ref a_esc), (1, .int p1)]) hx hb d_ESC_readEscape_10 rfl hl (by decide) rfl (fun ls hl => ?_)
  refine lv_aload_n hx hb d_ESC_readEscape_11 rfl (lv_at hl 1 rfl) ?_
  refine lv_iload_n hx hb d_ESC_readEscape_12 rfl (lv_at hl 2 rfl) ?_
  refine lv_iconst (v := 2) hx hb d_ESC_readEscape_13 (by decide) ?_
  refine lv_iadd hx hb d_ESC_readEscape_14 ?_
  refine va_put (D := (dC, dI)) (ci := 6) (v := .int (p1 + 2)) (ty := .int) (C := R_ESC) (T := F_ESC) (N := N_ESC) hx hb hts i_ESC ty_ESC ty_ESC_ok n_ESC hown hK hP hD hS 1 rfl rfl 5 (by decide) (hts _ tw_284) (fun _ h9 => h9) rfl (ty_ESC_ok 5 (by decide)) rfl rfl (Nat.le_of_ble_eq_true rfl) d_ESC_readEscape_15 (fun H locs hP hD hS => ?_)
  have hP : va_P (dC, dI) classes (w_25 cI tS a_pat a_pat_bytes a_esc pat_length esc_kind esc_value esc_set esc_others (p1 + 2) pat_bytes) H := hP
  have hD : va_D A (w_25 cI tS a_pat a_pat_bytes a_esc pat_length esc_kind esc_value esc_set esc_others (p1 + 2) pat_bytes) := hD
  refine lv_iload_n hx hb d_ESC_readEscape_18 rfl (lv_at hl 0 rfl) ?_
  rcases Classical.em (x7 = 65) with c_ | n_0
  · have hf := f_pos c_ hf
    refine lv_tableIn (tgt := 264) hx hb d_ESC_readEscape_19 (by rw [c_]; try decide) (by rw [c_]; try decide) (by rw [c_]; try rfl) (by decide) ?_
    refine lv_aload_n hx hb d_ESC_readEscape_264 rfl (lv_at hl 1 rfl) ?_
    refine lv_iconst (v := 3) hx hb d_ESC_readEscape_265 (by decide) ?_
    refine lv_iconst (v := 0) hx hb d_ESC_readEscape_266 (by decide) ?_
    obtain ⟨x267, hg, hf⟩ := bnd hf
    have hPc := hP.sub (ws' := (w_24 cI tS a_esc a_pat esc_kind esc_value esc_set esc_others (p1 + 2))) [1] rfl
    have hDc := hD.sub (ws' := (w_24 cI tS a_esc a_pat esc_kind esc_value esc_set esc_others (p1 + 2))) [1] (by decide) rfl
    have hFc := va_free (wc := (w_24 cI tS a_esc a_pat esc_kind esc_value esc_set esc_others (p1 + 2))) hD hS hA [1] rfl
    refine cal_i (va_runV (As := [.int 3, .int 0]) (rest := []) ⟨hx, hb, hml, hown, hts⟩ (c_ESC_found l dC dI cI tS H.size a_esc a_pat esc_kind esc_value esc_set esc_others (p1 + 2) 3 0 x267 hg) ⟨callB_of 2 hts (gN tw_748) rfl rfl rfl (hts _ tw_87) (hts _ tw_745) hd_ESC_found ⟨Nat.le_of_ble_eq_true rfl, Nat.le_of_ble_eq_true rfl⟩, hts _ tw_747, hts _ tw_16⟩ (pre_V hK hPc hDc hst0 hS hFc (va_recv hK hPc (ci := 6) (q0 := 0) rfl rfl)) rfl rfl hl.1 rfl (lv_room (Nat.le_of_ble_eq_true rfl)) d_ESC_readEscape_267 ⟨Nat.zero_le _, Nat.zero_le _⟩) hP hD hS hA [1] [0, 2] rfl rfl (by decide) (by decide) (fun H locs hP hD hS => ?_)
    have hP := hP.sub (ws' := (w_25 cI tS a_pat a_pat_bytes a_esc pat_length x267.2.1 x267.2.2 esc_set esc_others (p1 + 2) pat_bytes)) [0, 2, 1] rfl
    have hD := hD.sub (ws' := (w_25 cI tS a_pat a_pat_bytes a_esc pat_length x267.2.1 x267.2.2 esc_set esc_others (p1 + 2) pat_bytes)) [0, 2, 1] (by decide) rfl
    obtain rfl := Option.some.inj hf
    exact W.iret (v := x267.1) hx hb hr (fun t ht hW => ⟨⟨_, (), rfl, rfl, ⟨by rw [ht]; exact hP, va_K.moved hW.alike hK, hD⟩⟩, hS.F ht⟩) hS.2.2 d_ESC_readEscape_270
  have hf := f_neg n_0 hf
  rcases Classical.em (x7 = 66) with c_ | n_1
  · have hf := f_pos c_ hf
    refine lv_tableIn (tgt := 285) hx hb d_ESC_readEscape_19 (by rw [c_]; try decide) (by rw [c_]; try decide) (by rw [c_]; try rfl) (by decide) ?_
    refine lv_aload_n hx hb d_ESC_readEscape_285 rfl (lv_at hl 1 rfl) ?_
    refine lv_iconst (v := 3) hx hb d_ESC_readEscape_286 (by decide) ?_
    refine lv_iconst (v := 5) hx hb d_ESC_readEscape_287 (by decide) ?_
    obtain ⟨x288, hg, hf⟩ := bnd hf
    have hPc := hP.sub (ws' := (w_24 cI tS a_esc a_pat esc_kind esc_value esc_set esc_others (p1 + 2))) [1] rfl
    have hDc := hD.sub (ws' := (w_24 cI tS a_esc a_pat esc_kind esc_value esc_set esc_others (p1 + 2))) [1] (by decide) rfl
    have hFc := va_free (wc := (w_24 cI tS a_esc a_pat esc_kind esc_value esc_set esc_others (p1 + 2))) hD hS hA [1] rfl
    refine cal_i (va_runV (As := [.int 3, .int 5]) (rest := []) ⟨hx, hb, hml, hown, hts⟩ (c_ESC_found l dC dI cI tS H.size a_esc a_pat esc_kind esc_value esc_set esc_others (p1 + 2) 3 5 x288 hg) ⟨callB_of 2 hts (gN tw_748) rfl rfl rfl (hts _ tw_87) (hts _ tw_745) hd_ESC_found ⟨Nat.le_of_ble_eq_true rfl, Nat.le_of_ble_eq_true rfl⟩, hts _ tw_747, hts _ tw_16⟩ (pre_V hK hPc hDc hst0 hS hFc (va_recv hK hPc (ci := 6) (q0 := 0) rfl rfl)) rfl rfl hl.1 rfl (lv_room (Nat.le_of_ble_eq_true rfl)) d_ESC_readEscape_288 ⟨Nat.zero_le _, Nat.zero_le _⟩) hP hD hS hA [1] [0, 2] rfl rfl (by decide) (by decide) (fun H locs hP hD hS => ?_)
    have hP := hP.sub (ws' := (w_25 cI tS a_pat a_pat_bytes a_esc pat_length x288.2.1 x288.2.2 esc_set esc_others (p1 + 2) pat_bytes)) [0, 2, 1] rfl
    have hD := hD.sub (ws' := (w_25 cI tS a_pat a_pat_bytes a_esc pat_length x288.2.1 x288.2.2 esc_set esc_others (p1 + 2) pat_bytes)) [0, 2, 1] (by decide) rfl
    obtain rfl := Option.some.inj hf
    exact W.iret (v := x288.1) hx hb hr (fun t ht hW => ⟨⟨_, (), rfl, rfl, ⟨by rw [ht]; exact hP, va_K.moved hW.alike hK, hD⟩⟩, hS.F ht⟩) hS.2.2 d_ESC_readEscape_291
  have hf := f_neg n_1 hf
  rcases Classical.em (x7 = 67) with c_ | n_2
  · have hf := f_pos c_ hf
    refine lv_tableIn (tgt := 292) hx hb d_ESC_readEscape_19 (by rw [c_]; try decide) (by rw [c_]; try decide) (by rw [c_]; try rfl) (by decide) ?_
    refine lv_aload_n hx hb d_ESC_readEscape_292 rfl (lv_at hl 1 rfl) ?_
    refine lv_iconst (v := 2) hx hb d_ESC_readEscape_293 (by decide) ?_
    refine lv_iconst (v := (-1)) hx hb d_ESC_readEscape_294 (by decide) ?_
    obtain ⟨x295, hg, hf⟩ := bnd hf
    have hPc := hP.sub (ws' := (w_24 cI tS a_esc a_pat esc_kind esc_value esc_set esc_others (p1 + 2))) [1] rfl
    have hDc := hD.sub (ws' := (w_24 cI tS a_esc a_pat esc_kind esc_value esc_set esc_others (p1 + 2))) [1] (by decide) rfl
    have hFc := va_free (wc := (w_24 cI tS a_esc a_pat esc_kind esc_value esc_set esc_others (p1 + 2))) hD hS hA [1] rfl
    refine cal_i (va_runV (As := [.int 2, .int (-1)]) (rest := []) ⟨hx, hb, hml, hown, hts⟩ (c_ESC_found l dC dI cI tS H.size a_esc a_pat esc_kind esc_value esc_set esc_others (p1 + 2) 2 (-1) x295 hg) ⟨callB_of 2 hts (gN tw_748) rfl rfl rfl (hts _ tw_87) (hts _ tw_745) hd_ESC_found ⟨Nat.le_of_ble_eq_true rfl, Nat.le_of_ble_eq_true rfl⟩, hts _ tw_747, hts _ tw_16⟩ (pre_V hK hPc hDc hst0 hS hFc (va_recv hK hPc (ci := 6) (q0 := 0) rfl rfl)) rfl rfl hl.1 rfl (lv_room (Nat.le_of_ble_eq_true rfl)) d_ESC_readEscape_295 ⟨Nat.zero_le _, Nat.zero_le _⟩) hP hD hS hA [1] [0, 2] rfl rfl (by decide) (by decide) (fun H locs hP hD hS => ?_)
    have hP := hP.sub (ws' := (w_25 cI tS a_pat a_pat_bytes a_esc pat_length x295.2.1 x295.2.2 esc_set esc_others (p1 + 2) pat_bytes)) [0, 2, 1] rfl
    have hD := hD.sub (ws' := (w_25 cI tS a_pat a_pat_bytes a_esc pat_length x295.2.1 x295.2.2 esc_set esc_others (p1 + 2) pat_bytes)) [0, 2, 1] (by decide) rfl
    obtain rfl := Option.some.inj hf
    exact W.iret (v := x295.1) hx hb hr (fun t ht hW => ⟨⟨_, (), rfl, rfl, ⟨by rw [ht]; exact hP, va_K.moved hW.alike hK, hD⟩⟩, hS.F ht⟩) hS.2.2 d_ESC_readEscape_298
  have hf := f_neg n_2 hf
  rcases Classical.em (x7 = 68) with c_ | n_3
  · have hf := f_pos c_ hf
    refine lv_tableIn (tgt := 363) hx hb d_ESC_readEscape_19 (by rw [c_]; try decide) (by rw [c_]; try decide) (by rw [c_]; try rfl) (by decide) ?_
    refine lv_aload_n hx hb d_ESC_readEscape_363 rfl (lv_at hl 1 rfl) ?_
    refine lv_iload_n hx hb d_ESC_readEscape_364 rfl (lv_at hl 0 rfl) ?_
    obtain ⟨x365, hg, hf⟩ := bnd hf
    have hPc := hP.sub (ws' := (w_11 cI tS)) [] rfl
    have hDc := hD.sub (ws' := (w_11 cI tS)) [] (by decide) rfl
    have hFc := va_free (wc := (w_11 cI tS)) hD hS hA [] rfl
    refine cal_r (va_runS (As := [.int x7]) (rest := [.ref a_esc]) ⟨hx, hb, hml, hown, hts⟩ (c_ESC_setOf l dC dI cI tS H.size x7 x365 hg) ⟨callB_of 1 hts (gN tw_725) rfl rfl rfl (hts _ tw_87) (hts _ tw_723) hd_ESC_setOf ⟨Nat.le_of_ble_eq_true rfl, Nat.le_of_ble_eq_true rfl⟩, hts _ tw_724⟩ (pre_S hK hPc hDc hst0 hS hFc) rfl rfl hl.1 rfl (lv_room (Nat.le_of_ble_eq_true rfl)) d_ESC_readEscape_365 ⟨Nat.zero_le _, Nat.zero_le _⟩) hP hD hS hA [] [0, 1, 2] rfl rfl (by decide) (by decide) (fun H locs hP hD hS => ?_)
    have hP := hP.sub (ws' := (w_25 cI tS a_pat a_pat_bytes a_esc pat_length esc_kind esc_value esc_set esc_others (p1 + 2) pat_bytes)) [0, 1, 2] rfl
    have hD := hD.sub (ws' := (w_25 cI tS a_pat a_pat_bytes a_esc pat_length esc_kind esc_value esc_set esc_others (p1 + 2) pat_bytes)) [0, 1, 2] (by decide) rfl
    refine lv_iconst (v := 1) hx hb d_ESC_readEscape_368 (by decide) ?_
    obtain ⟨x369, hg, hf⟩ := bnd hf
    have hPc := hP.sub (ws' := (w_24 cI tS a_esc a_pat esc_kind esc_value esc_set esc_others (p1 + 2))) [1] rfl
    have hDc := hD.sub (ws' := (w_24 cI tS a_esc a_pat esc_kind esc_value esc_set esc_others (p1 + 2))) [1] (by decide) rfl
    have hFc := va_free (wc := (w_24 cI tS a_esc a_pat esc_kind esc_value esc_set esc_others (p1 + 2))) hD hS hA [1] rfl
    refine cal_i (va_runV (As := [.ref (tS 0 x365), .int (b2i true)]) (rest := []) ⟨hx, hb, hml, hown, hts⟩ (c_ESC_foundSet l dC dI cI tS H.size a_esc a_pat esc_kind esc_value esc_set esc_others (p1 + 2) x365 true x369 hg) ⟨callB_of 2 hts (gN tw_765) rfl rfl rfl (hts _ tw_87) (hts _ tw_762) hd_ESC_foundSet ⟨Nat.le_of_ble_eq_true rfl, Nat.le_of_ble_eq_true rfl⟩, hts _ tw_764, hts _ tw_18⟩ (pre_V hK hPc hDc hst0 hS hFc (va_recv hK hPc (ci := 6) (q0 := 0) rfl rfl)) rfl rfl hl.1 rfl (lv_room (Nat.le_of_ble_eq_true rfl)) d_ESC_readEscape_369 ⟨Nat.zero_le _, Nat.zero_le _⟩) hP hD hS hA [1] [0, 2] rfl rfl (by decide) (by decide) (fun H locs hP hD hS => ?_)
    have hP := hP.sub (ws' := (w_25 cI tS a_pat a_pat_bytes a_esc pat_length x369.2.1 x369.2.2.1 x369.2.2.2.1 x369.2.2.2.2 (p1 + 2) pat_bytes)) [0, 2, 1] rfl
    have hD := hD.sub (ws' := (w_25 cI tS a_pat a_pat_bytes a_esc pat_length x369.2.1 x369.2.2.1 x369.2.2.2.1 x369.2.2.2.2 (p1 + 2) pat_bytes)) [0, 2, 1] (by decide) rfl
    obtain rfl := Option.some.inj hf
    exact W.iret (v := x369.1) hx hb hr (fun t ht hW => ⟨⟨_, (), rfl, rfl, ⟨by rw [ht]; exact hP, va_K.moved hW.alike hK, hD⟩⟩, hS.F ht⟩) hS.2.2 d_ESC_readEscape_372
  have hf := f_neg n_3 hf
  rcases Classical.em (x7 = 80) with c_ | n_4
  · have hf := f_pos c_ hf
    refine lv_tableIn (tgt := 373) hx hb d_ESC_readEscape_19 (by rw [c_]; try decide) (by rw [c_]; try decide) (by rw [c_]; try rfl) (by decide) ?_
    refine lv_aload_n hx hb d_ESC_readEscape_373 rfl (lv_at hl 1 rfl) ?_
    refine lv_iload_n hx hb d_ESC_readEscape_374 rfl (lv_at hl 2 rfl) ?_
    refine lv_iload_n hx hb d_ESC_readEscape_375 rfl (lv_at hl 0 rfl) ?_
    refine lv_bipush (v := 80) hx hb d_ESC_readEscape_376 (by decide) ?_
    refine lv_icmp_ne (tgt := 385) hx hb d_ESC_readEscape_378 (by decide) (fun c_ => ?_) (fun c_ => ?_)
    · have hf := f_neg c_ hf
      refine lv_iconst (v := 0) hx hb d_ESC_readEscape_385 (by decide) ?_
      exact L386 false p1 esc_kind esc_value esc_set esc_others (p1 + 2) _ _ _ hP hD hS (lv_sub hl [] rfl) hf
    · have hf := f_pos c_ hf
      refine lv_iconst (v := 1) hx hb d_ESC_readEscape_381 (by decide) ?_
      refine lv_goto (tgt := 386) hx hb d_ESC_readEscape_382 (by decide) ?_
      exact L386 true p1 esc_kind esc_value esc_set esc_others (p1 + 2) _ _ _ hP hD hS (lv_sub hl [] rfl) hf
  have hf := f_neg n_4 hf
  rcases Classical.em (x7 = 83) with c_ | n_5
  · have hf := f_pos c_ hf
    refine lv_tableIn (tgt := 363) hx hb d_ESC_readEscape_19 (by rw [c_]; try decide) (by rw [c_]; try decide) (by rw [c_]; try rfl) (by decide) ?_
    refine lv_aload_n hx hb d_ESC_readEscape_363 rfl (lv_at hl 1 rfl) ?_
    refine lv_iload_n hx hb d_ESC_readEscape_364 rfl (lv_at hl 0 rfl) ?_
    obtain ⟨x365, hg, hf⟩ := bnd hf
    have hPc := hP.sub (ws' := (w_11 cI tS)) [] rfl
    have hDc := hD.sub (ws' := (w_11 cI tS)) [] (by decide) rfl
    have hFc := va_free (wc := (w_11 cI tS)) hD hS hA [] rfl
    refine cal_r (va_runS (As := [.int x7]) (rest := [.ref a_esc]) ⟨hx, hb, hml, hown, hts⟩ (c_ESC_setOf l dC dI cI tS H.size x7 x365 hg) ⟨callB_of 1 hts (gN tw_725) rfl rfl rfl (hts _ tw_87) (hts _ tw_723) hd_ESC_setOf ⟨Nat.le_of_ble_eq_true rfl, Nat.le_of_ble_eq_true rfl⟩, hts _ tw_724⟩ (pre_S hK hPc hDc hst0 hS hFc) rfl rfl hl.1 rfl (lv_room (Nat.le_of_ble_eq_true rfl)) d_ESC_readEscape_365 ⟨Nat.zero_le _, Nat.zero_le _⟩) hP hD hS hA [] [0, 1, 2] rfl rfl (by decide) (by decide) (fun H locs hP hD hS => ?_)
    have hP := hP.sub (ws' := (w_25 cI tS a_pat a_pat_bytes a_esc pat_length esc_kind esc_value esc_set esc_others (p1 + 2) pat_bytes)) [0, 1, 2] rfl
    have hD := hD.sub (ws' := (w_25 cI tS a_pat a_pat_bytes a_esc pat_length esc_kind esc_value esc_set esc_others (p1 + 2) pat_bytes)) [0, 1, 2] (by decide) rfl
    refine lv_iconst (v := 1) hx hb d_ESC_readEscape_368 (by decide) ?_
    obtain ⟨x369, hg, hf⟩ := bnd hf
    have hPc := hP.sub (ws' := (w_24 cI tS a_esc a_pat esc_kind esc_value esc_set esc_others (p1 + 2))) [1] rfl
    have hDc := hD.sub (ws' := (w_24 cI tS a_esc a_pat esc_kind esc_value esc_set esc_others (p1 + 2))) [1] (by decide) rfl
    have hFc := va_free (wc := (w_24 cI tS a_esc a_pat esc_kind esc_value esc_set esc_others (p1 + 2))) hD hS hA [1] rfl
    refine cal_i (va_runV (As := [.ref (tS 0 x365), .int (b2i true)]) (rest := []) ⟨hx, hb, hml, hown, hts⟩ (c_ESC_foundSet l dC dI cI tS H.size a_esc a_pat esc_kind esc_value esc_set esc_others (p1 + 2) x365 true x369 hg) ⟨callB_of 2 hts (gN tw_765) rfl rfl rfl (hts _ tw_87) (hts _ tw_762) hd_ESC_foundSet ⟨Nat.le_of_ble_eq_true rfl, Nat.le_of_ble_eq_true rfl⟩, hts _ tw_764, hts _ tw_18⟩ (pre_V hK hPc hDc hst0 hS hFc (va_recv hK hPc (ci := 6) (q0 := 0) rfl rfl)) rfl rfl hl.1 rfl (lv_room (Nat.le_of_ble_eq_true rfl)) d_ESC_readEscape_369 ⟨Nat.zero_le _, Nat.zero_le _⟩) hP hD hS hA [1] [0, 2] rfl rfl (by decide) (by decide) (fun H locs hP hD hS => ?_)
    have hP := hP.sub (ws' := (w_25 cI tS a_pat a_pat_bytes a_esc pat_length x369.2.1 x369.2.2.1 x369.2.2.2.1 x369.2.2.2.2 (p1 + 2) pat_bytes)) [0, 2, 1] rfl
    have hD := hD.sub (ws' := (w_25 cI tS a_pat a_pat_bytes a_esc pat_length x369.2.1 x369.2.2.1 x369.2.2.2.1 x369.2.2.2.2 (p1 + 2) pat_bytes)) [0, 2, 1] (by decide) rfl
    obtain rfl := Option.some.inj hf
    exact W.iret (v := x369.1) hx hb hr (fun t ht hW => ⟨⟨_, (), rfl, rfl, ⟨by rw [ht]; exact hP, va_K.moved hW.alike hK, hD⟩⟩, hS.F ht⟩) hS.2.2 d_ESC_readEscape_372
  have hf := f_neg n_5 hf
  rcases Classical.em (x7 = 87) with c_ | n_6
  · have hf := f_pos c_ hf
    refine lv_tableIn (tgt := 363) hx hb d_ESC_readEscape_19 (by rw [c_]; try decide) (by rw [c_]; try decide) (by rw [c_]; try rfl) (by decide) ?_
    refine lv_aload_n hx hb d_ESC_readEscape_363 rfl (lv_at hl 1 rfl) ?_
    refine lv_iload_n hx hb d_ESC_readEscape_364 rfl (lv_at hl 0 rfl) ?_
    obtain ⟨x365, hg, hf⟩ := bnd hf
    have hPc := hP.sub (ws' := (w_11 cI tS)) [] rfl
    have hDc := hD.sub (ws' := (w_11 cI tS)) [] (by decide) rfl
    have hFc := va_free (wc := (w_11 cI tS)) hD hS hA [] rfl
    refine cal_r (va_runS (As := [.int x7]) (rest := [.ref a_esc]) ⟨hx, hb, hml, hown, hts⟩ (c_ESC_setOf l dC dI cI tS H.size x7 x365 hg) ⟨callB_of 1 hts (gN tw_725) rfl rfl rfl (hts _ tw_87) (hts _ tw_723) hd_ESC_setOf ⟨Nat.le_of_ble_eq_true rfl, Nat.le_of_ble_eq_true rfl⟩, hts _ tw_724⟩ (pre_S hK hPc hDc hst0 hS hFc) rfl rfl hl.1 rfl (lv_room (Nat.le_of_ble_eq_true rfl)) d_ESC_readEscape_365 ⟨Nat.zero_le _, Nat.zero_le _⟩) hP hD hS hA [] [0, 1, 2] rfl rfl (by decide) (by decide) (fun H locs hP hD hS => ?_)
    have hP := hP.sub (ws' := (w_25 cI tS a_pat a_pat_bytes a_esc pat_length esc_kind esc_value esc_set esc_others (p1 + 2) pat_bytes)) [0, 1, 2] rfl
    have hD := hD.sub (ws' := (w_25 cI tS a_pat a_pat_bytes a_esc pat_length esc_kind esc_value esc_set esc_others (p1 + 2) pat_bytes)) [0, 1, 2] (by decide) rfl
    refine lv_iconst (v := 1) hx hb d_ESC_readEscape_368 (by decide) ?_
    obtain ⟨x369, hg, hf⟩ := bnd hf
    have hPc := hP.sub (ws' := (w_24 cI tS a_esc a_pat esc_kind esc_value esc_set esc_others (p1 + 2))) [1] rfl
    have hDc := hD.sub (ws' := (w_24 cI tS a_esc a_pat esc_kind esc_value esc_set esc_others (p1 + 2))) [1] (by decide) rfl
    have hFc := va_free (wc := (w_24 cI tS a_esc a_pat esc_kind esc_value esc_set esc_others (p1 + 2))) hD hS hA [1] rfl
    refine cal_i (va_runV (As := [.ref (tS 0 x365), .int (b2i true)]) (rest := []) ⟨hx, hb, hml, hown, hts⟩ (c_ESC_foundSet l dC dI cI tS H.size a_esc a_pat esc_kind esc_value esc_set esc_others (p1 + 2) x365 true x369 hg) ⟨callB_of 2 hts (gN tw_765) rfl rfl rfl (hts _ tw_87) (hts _ tw_762) hd_ESC_foundSet ⟨Nat.le_of_ble_eq_true rfl, Nat.le_of_ble_eq_true rfl⟩, hts _ tw_764, hts _ tw_18⟩ (pre_V hK hPc hDc hst0 hS hFc (va_recv hK hPc (ci := 6) (q0 := 0) rfl rfl)) rfl rfl hl.1 rfl (lv_room (Nat.le_of_ble_eq_true rfl)) d_ESC_readEscape_369 ⟨Nat.zero_le _, Nat.zero_le _⟩) hP hD hS hA [1] [0, 2] rfl rfl (by decide) (by decide) (fun H locs hP hD hS => ?_)
    have hP := hP.sub (ws' := (w_25 cI tS a_pat a_pat_bytes a_esc pat_length x369.2.1 x369.2.2.1 x369.2.2.2.1 x369.2.2.2.2 (p1 + 2) pat_bytes)) [0, 2, 1] rfl
    have hD := hD.sub (ws' := (w_25 cI tS a_pat a_pat_bytes a_esc pat_length x369.2.1 x369.2.2.1 x369.2.2.2.1 x369.2.2.2.2 (p1 + 2) pat_bytes)) [0, 2, 1] (by decide) rfl
    obtain rfl := Option.some.inj hf
    exact W.iret (v := x369.1) hx hb hr (fun t ht hW => ⟨⟨_, (), rfl, rfl, ⟨by rw [ht]; exact hP, va_K.moved hW.alike hK, hD⟩⟩, hS.F ht⟩) hS.2.2 d_ESC_readEscape_372
  have hf := f_neg n_6 hf
  rcases Classical.em (x7 = 97) with c_ | n_7
  · have hf := f_pos c_ hf
    refine lv_tableIn (tgt := 299) hx hb d_ESC_readEscape_19 (by rw [c_]; try decide) (by rw [c_]; try decide) (by rw [c_]; try rfl) (by decide) ?_
    refine lv_aload_n hx hb d_ESC_readEscape_299 rfl (lv_at hl 1 rfl) ?_
    refine lv_iconst (v := 0) hx hb d_ESC_readEscape_300 (by decide) ?_
    refine lv_bipush (v := 7) hx hb d_ESC_readEscape_301 (by decide) ?_
    obtain ⟨x303, hg, hf⟩ := bnd hf
    have hPc := hP.sub (ws' := (w_24 cI tS a_esc a_pat esc_kind esc_value esc_set esc_others (p1 + 2))) [1] rfl
    have hDc := hD.sub (ws' := (w_24 cI tS a_esc a_pat esc_kind esc_value esc_set esc_others (p1 + 2))) [1] (by decide) rfl
    have hFc := va_free (wc := (w_24 cI tS a_esc a_pat esc_kind esc_value esc_set esc_others (p1 + 2))) hD hS hA [1] rfl
    refine cal_i (va_runV (As := [.int 0, .int 7]) (rest := []) ⟨hx, hb, hml, hown, hts⟩ (c_ESC_found l dC dI cI tS H.size a_esc a_pat esc_kind esc_value esc_set esc_others (p1 + 2) 0 7 x303 hg) ⟨callB_of 2 hts (gN tw_748) rfl rfl rfl (hts _ tw_87) (hts _ tw_745) hd_ESC_found ⟨Nat.le_of_ble_eq_true rfl, Nat.le_of_ble_eq_true rfl⟩, hts _ tw_747, hts _ tw_16⟩ (pre_V hK hPc hDc hst0 hS hFc (va_recv hK hPc (ci := 6) (q0 := 0) rfl rfl)) rfl rfl hl.1 rfl (lv_room (Nat.le_of_ble_eq_true rfl)) d_ESC_readEscape_303 ⟨Nat.zero_le _, Nat.zero_le _⟩) hP hD hS hA [1] [0, 2] rfl rfl (by decide) (by decide) (fun H locs hP hD hS => ?_)
    have hP := hP.sub (ws' := (w_25 cI tS a_pat a_pat_bytes a_esc pat_length x303.2.1 x303.2.2 esc_set esc_others (p1 + 2) pat_bytes)) [0, 2, 1] rfl
    have hD := hD.sub (ws' := (w_25 cI tS a_pat a_pat_bytes a_esc pat_length x303.2.1 x303.2.2 esc_set esc_others (p1 + 2) pat_bytes)) [0, 2, 1] (by decide) rfl
    obtain rfl := Option.some.inj hf
    exact W.iret (v := x303.1) hx hb hr (fun t ht hW => ⟨⟨_, (), rfl, rfl, ⟨by rw [ht]; exact hP, va_K.moved hW.alike hK, hD⟩⟩, hS.F ht⟩) hS.2.2 d_ESC_readEscape_306
  have hf := f_neg n_7 hf
  rcases Classical.em (x7 = 98) with c_ | n_8
  · have hf := f_pos c_ hf
    refine lv_tableIn (tgt := 278) hx hb d_ESC_readEscape_19 (by rw [c_]; try decide) (by rw [c_]; try decide) (by rw [c_]; try rfl) (by decide) ?_
    refine lv_aload_n hx hb d_ESC_readEscape_278 rfl (lv_at hl 1 rfl) ?_
    refine lv_iconst (v := 3) hx hb d_ESC_readEscape_279 (by decide) ?_
    refine lv_iconst (v := 4) hx hb d_ESC_readEscape_280 (by decide) ?_
    obtain ⟨x281, hg, hf⟩ := bnd hf
    have hPc := hP.sub (ws' := (w_24 cI tS a_esc a_pat esc_kind esc_value esc_set esc_others (p1 + 2))) [1] rfl
    have hDc := hD.sub (ws' := (w_24 cI tS a_esc a_pat esc_kind esc_value esc_set esc_others (p1 + 2))) [1] (by decide) rfl
    have hFc := va_free (wc := (w_24 cI tS a_esc a_pat esc_kind esc_value esc_set esc_others (p1 + 2))) hD hS hA [1] rfl
    refine cal_i (va_runV (As := [.int 3, .int 4]) (rest := []) ⟨hx, hb, hml, hown, hts⟩ (c_ESC_found l dC dI cI tS H.size a_esc a_pat esc_kind esc_value esc_set esc_others (p1 + 2) 3 4 x281 hg) ⟨callB_of 2 hts (gN tw_748) rfl rfl rfl (hts _ tw_87) (hts _ tw_745) hd_ESC_found ⟨Nat.le_of_ble_eq_true rfl, Nat.le_of_ble_eq_true rfl⟩, hts _ tw_747, hts _ tw_16⟩ (pre_V hK hPc hDc hst0 hS hFc (va_recv hK hPc (ci := 6) (q0 := 0) rfl rfl)) rfl rfl hl.1 rfl (lv_room (Nat.le_of_ble_eq_true rfl)) d_ESC_readEscape_281 ⟨Nat.zero_le _, Nat.zero_le _⟩) hP hD hS hA [1] [0, 2] rfl rfl (by decide) (by decide) (fun H locs hP hD hS => ?_)
    have hP := hP.sub (ws' := (w_25 cI tS a_pat a_pat_bytes a_esc pat_length x281.2.1 x281.2.2 esc_set esc_others (p1 + 2) pat_bytes)) [0, 2, 1] rfl
    have hD := hD.sub (ws' := (w_25 cI tS a_pat a_pat_bytes a_esc pat_length x281.2.1 x281.2.2 esc_set esc_others (p1 + 2) pat_bytes)) [0, 2, 1] (by decide) rfl
    obtain rfl := Option.some.inj hf
    exact W.iret (v := x281.1) hx hb hr (fun t ht hW => ⟨⟨_, (), rfl, rfl, ⟨by rw [ht]; exact hP, va_K.moved hW.alike hK, hD⟩⟩, hS.F ht⟩) hS.2.2 d_ESC_readEscape_284
  have hf := f_neg n_8 hf
  rcases Classical.em (x7 = 100) with c_ | n_9
  · have hf := f_pos c_ hf
    refine lv_tableIn (tgt := 353) hx hb d_ESC_readEscape_19 (by rw [c_]; try decide) (by rw [c_]; try decide) (by rw [c_]; try rfl) (by decide) ?_
    refine lv_aload_n hx hb d_ESC_readEscape_353 rfl (lv_at hl 1 rfl) ?_
    refine lv_iload_n hx hb d_ESC_readEscape_354 rfl (lv_at hl 0 rfl) ?_
    obtain ⟨x355, hg, hf⟩ := bnd hf
    have hPc := hP.sub (ws' := (w_11 cI tS)) [] rfl
    have hDc := hD.sub (ws' := (w_11 cI tS)) [] (by decide) rfl
    have hFc := va_free (wc := (w_11 cI tS)) hD hS hA [] rfl
    refine cal_r (va_runS (As := [.int x7]) (rest := [.ref a_esc]) ⟨hx, hb, hml, hown, hts⟩ (c_ESC_setOf l dC dI cI tS H.size x7 x355 hg) ⟨callB_of 1 hts (gN tw_725) rfl rfl rfl (hts _ tw_87) (hts _ tw_723) hd_ESC_setOf ⟨Nat.le_of_ble_eq_true rfl, Nat.le_of_ble_eq_true rfl⟩, hts _ tw_724⟩ (pre_S hK hPc hDc hst0 hS hFc) rfl rfl hl.1 rfl (lv_room (Nat.le_of_ble_eq_true rfl)) d_ESC_readEscape_355 ⟨Nat.zero_le _, Nat.zero_le _⟩) hP hD hS hA [] [0, 1, 2] rfl rfl (by decide) (by decide) (fun H locs hP hD hS => ?_)
    have hP := hP.sub (ws' := (w_25 cI tS a_pat a_pat_bytes a_esc pat_length esc_kind esc_value esc_set esc_others (p1 + 2) pat_bytes)) [0, 1, 2] rfl
    have hD := hD.sub (ws' := (w_25 cI tS a_pat a_pat_bytes a_esc pat_length esc_kind esc_value esc_set esc_others (p1 + 2) pat_bytes)) [0, 1, 2] (by decide) rfl
    refine lv_iconst (v := 0) hx hb d_ESC_readEscape_358 (by decide) ?_
    obtain ⟨x359, hg, hf⟩ := bnd hf
    have hPc := hP.sub (ws' := (w_24 cI tS a_esc a_pat esc_kind esc_value esc_set esc_others (p1 + 2))) [1] rfl
    have hDc := hD.sub (ws' := (w_24 cI tS a_esc a_pat esc_kind esc_value esc_set esc_others (p1 + 2))) [1] (by decide) rfl
    have hFc := va_free (wc := (w_24 cI tS a_esc a_pat esc_kind esc_value esc_set esc_others (p1 + 2))) hD hS hA [1] rfl
    refine cal_i (va_runV (As := [.ref (tS 0 x355), .int (b2i false)]) (rest := []) ⟨hx, hb, hml, hown, hts⟩ (c_ESC_foundSet l dC dI cI tS H.size a_esc a_pat esc_kind esc_value esc_set esc_others (p1 + 2) x355 false x359 hg) ⟨callB_of 2 hts (gN tw_765) rfl rfl rfl (hts _ tw_87) (hts _ tw_762) hd_ESC_foundSet ⟨Nat.le_of_ble_eq_true rfl, Nat.le_of_ble_eq_true rfl⟩, hts _ tw_764, hts _ tw_18⟩ (pre_V hK hPc hDc hst0 hS hFc (va_recv hK hPc (ci := 6) (q0 := 0) rfl rfl)) rfl rfl hl.1 rfl (lv_room (Nat.le_of_ble_eq_true rfl)) d_ESC_readEscape_359 ⟨Nat.zero_le _, Nat.zero_le _⟩) hP hD hS hA [1] [0, 2] rfl rfl (by decide) (by decide) (fun H locs hP hD hS => ?_)
    have hP := hP.sub (ws' := (w_25 cI tS a_pat a_pat_bytes a_esc pat_length x359.2.1 x359.2.2.1 x359.2.2.2.1 x359.2.2.2.2 (p1 + 2) pat_bytes)) [0, 2, 1] rfl
    have hD := hD.sub (ws' := (w_25 cI tS a_pat a_pat_bytes a_esc pat_length x359.2.1 x359.2.2.1 x359.2.2.2.1 x359.2.2.2.2 (p1 + 2) pat_bytes)) [0, 2, 1] (by decide) rfl
    obtain rfl := Option.some.inj hf
    exact W.iret (v := x359.1) hx hb hr (fun t ht hW => ⟨⟨_, (), rfl, rfl, ⟨by rw [ht]; exact hP, va_K.moved hW.alike hK, hD⟩⟩, hS.F ht⟩) hS.2.2 d_ESC_readEscape_362
  have hf := f_neg n_9 hf
  rcases Classical.em (x7 = 102) with c_ | n_10
  · have hf := f_pos c_ hf
    refine lv_tableIn (tgt := 307) hx hb d_ESC_readEscape_19 (by rw [c_]; try decide) (by rw [c_]; try decide) (by rw [c_]; try rfl) (by decide) ?_
    refine lv_aload_n hx hb d_ESC_readEscape_307 rfl (lv_at hl 1 rfl) ?_
    refine lv_iconst (v := 0) hx hb d_ESC_readEscape_308 (by decide) ?_
    refine lv_bipush (v := 12) hx hb d_ESC_readEscape_309 (by decide) ?_
    obtain ⟨x311, hg, hf⟩ := bnd hf
    have hPc := hP.sub (ws' := (w_24 cI tS a_esc a_pat esc_kind esc_value esc_set esc_others (p1 + 2))) [1] rfl
    have hDc := hD.sub (ws' := (w_24 cI tS a_esc a_pat esc_kind esc_value esc_set esc_others (p1 + 2))) [1] (by decide) rfl
    have hFc := va_free (wc := (w_24 cI tS a_esc a_pat esc_kind esc_value esc_set esc_others (p1 + 2))) hD hS hA [1] rfl
    refine cal_i (va_runV (As := [.int 0, .int 12]) (rest := []) ⟨hx, hb, hml, hown, hts⟩ (c_ESC_found l dC dI cI tS H.size a_esc a_pat esc_kind esc_value esc_set esc_others (p1 + 2) 0 12 x311 hg) ⟨callB_of 2 hts (gN tw_748) rfl rfl rfl (hts _ tw_87) (hts _ tw_745) hd_ESC_found ⟨Nat.le_of_ble_eq_true rfl, Nat.le_of_ble_eq_true rfl⟩, hts _ tw_747, hts _ tw_16⟩ (pre_V hK hPc hDc hst0 hS hFc (va_recv hK hPc (ci := 6) (q0 := 0) rfl rfl)) rfl rfl hl.1 rfl (lv_room (Nat.le_of_ble_eq_true rfl)) d_ESC_readEscape_311 ⟨Nat.zero_le _, Nat.zero_le _⟩) hP hD hS hA [1] [0, 2] rfl rfl (by decide) (by decide) (fun H locs hP hD hS => ?_)
    have hP := hP.sub (ws' := (w_25 cI tS a_pat a_pat_bytes a_esc pat_length x311.2.1 x311.2.2 esc_set esc_others (p1 + 2) pat_bytes)) [0, 2, 1] rfl
    have hD := hD.sub (ws' := (w_25 cI tS a_pat a_pat_bytes a_esc pat_length x311.2.1 x311.2.2 esc_set esc_others (p1 + 2) pat_bytes)) [0, 2, 1] (by decide) rfl
    obtain rfl := Option.some.inj hf
    exact W.iret (v := x311.1) hx hb hr (fun t ht hW => ⟨⟨_, (), rfl, rfl, ⟨by rw [ht]; exact hP, va_K.moved hW.alike hK, hD⟩⟩, hS.F ht⟩) hS.2.2 d_ESC_readEscape_314
  have hf := f_neg n_10 hf
  rcases Classical.em (x7 = 110) with c_ | n_11
  · have hf := f_pos c_ hf
    refine lv_tableIn (tgt := 315) hx hb d_ESC_readEscape_19 (by rw [c_]; try decide) (by rw [c_]; try decide) (by rw [c_]; try rfl) (by decide) ?_
    refine lv_aload_n hx hb d_ESC_readEscape_315 rfl (lv_at hl 1 rfl) ?_
    refine lv_iconst (v := 0) hx hb d_ESC_readEscape_316 (by decide) ?_
    refine lv_bipush (v := 10) hx hb d_ESC_readEscape_317 (by decide) ?_
    obtain ⟨x319, hg, hf⟩ := bnd hf
    have hPc := hP.sub (ws' := (w_24 cI tS a_esc a_pat esc_kind esc_value esc_set esc_others (p1 + 2))) [1] rfl
    have hDc := hD.sub (ws' := (w_24 cI tS a_esc a_pat esc_kind esc_value esc_set esc_others (p1 + 2))) [1] (by decide) rfl
    have hFc := va_free (wc := (w_24 cI tS a_esc a_pat esc_kind esc_value esc_set esc_others (p1 + 2))) hD hS hA [1] rfl
    refine cal_i (va_runV (As := [.int 0, .int 10]) (rest := []) ⟨hx, hb, hml, hown, hts⟩ (c_ESC_found l dC dI cI tS H.size a_esc a_pat esc_kind esc_value esc_set esc_others (p1 + 2) 0 10 x319 hg) ⟨callB_of 2 hts (gN tw_748) rfl rfl rfl (hts _ tw_87) (hts _ tw_745) hd_ESC_found ⟨Nat.le_of_ble_eq_true rfl, Nat.le_of_ble_eq_true rfl⟩, hts _ tw_747, hts _ tw_16⟩ (pre_V hK hPc hDc hst0 hS hFc (va_recv hK hPc (ci := 6) (q0 := 0) rfl rfl)) rfl rfl hl.1 rfl (lv_room (Nat.le_of_ble_eq_true rfl)) d_ESC_readEscape_319 ⟨Nat.zero_le _, Nat.zero_le _⟩) hP hD hS hA [1] [0, 2] rfl rfl (by decide) (by decide) (fun H locs hP hD hS => ?_)
    have hP := hP.sub (ws' := (w_25 cI tS a_pat a_pat_bytes a_esc pat_length x319.2.1 x319.2.2 esc_set esc_others (p1 + 2) pat_bytes)) [0, 2, 1] rfl
    have hD := hD.sub (ws' := (w_25 cI tS a_pat a_pat_bytes a_esc pat_length x319.2.1 x319.2.2 esc_set esc_others (p1 + 2) pat_bytes)) [0, 2, 1] (by decide) rfl
    obtain rfl := Option.some.inj hf
    exact W.iret (v := x319.1) hx hb hr (fun t ht hW => ⟨⟨_, (), rfl, rfl, ⟨by rw [ht]; exact hP, va_K.moved hW.alike hK, hD⟩⟩, hS.F ht⟩) hS.2.2 d_ESC_readEscape_322
  have hf := f_neg n_11 hf
  rcases Classical.em (x7 = 112) with c_ | n_12
  · have hf := f_pos c_ hf
    refine lv_tableIn (tgt := 373) hx hb d_ESC_readEscape_19 (by rw [c_]; try decide) (by rw [c_]; try decide) (by rw [c_]; try rfl) (by decide) ?_
    refine lv_aload_n hx hb d_ESC_readEscape_373 rfl (lv_at hl 1 rfl) ?_
    refine lv_iload_n hx hb d_ESC_readEscape_374 rfl (lv_at hl 2 rfl) ?_
    refine lv_iload_n hx hb d_ESC_readEscape_375 rfl (lv_at hl 0 rfl) ?_
    refine lv_bipush (v := 80) hx hb d_ESC_readEscape_376 (by decide) ?_
    refine lv_icmp_ne (tgt := 385) hx hb d_ESC_readEscape_378 (by decide) (fun c_ => ?_) (fun c_ => ?_)
    · have hf := f_neg c_ hf
      refine lv_iconst (v := 0) hx hb d_ESC_readEscape_385 (by decide) ?_
      exact L386 false p1 esc_kind esc_value esc_set esc_others (p1 + 2) _ _ _ hP hD hS (lv_sub hl [] rfl) hf
    · have hf := f_pos c_ hf
      refine lv_iconst (v := 1) hx hb d_ESC_readEscape_381 (by decide) ?_
      refine lv_goto (tgt := 386) hx hb d_ESC_readEscape_382 (by decide) ?_
      exact L386 true p1 esc_kind esc_value esc_set esc_others (p1 + 2) _ _ _ hP hD hS (lv_sub hl [] rfl) hf
  have hf := f_neg n_12 hf
  rcases Classical.em (x7 = 114) with c_ | n_13
  · have hf := f_pos c_ hf
    refine lv_tableIn (tgt := 323) hx hb d_ESC_readEscape_19 (by rw [c_]; try decide) (by rw [c_]; try decide) (by rw [c_]; try rfl) (by decide) ?_
    refine lv_aload_n hx hb d_ESC_readEscape_323 rfl (lv_at hl 1 rfl) ?_
    refine lv_iconst (v := 0) hx hb d_ESC_readEscape_324 (by decide) ?_
    refine lv_bipush (v := 13) hx hb d_ESC_readEscape_325 (by decide) ?_
    obtain ⟨x327, hg, hf⟩ := bnd hf
    have hPc := hP.sub (ws' := (w_24 cI tS a_esc a_pat esc_kind esc_value esc_set esc_others (p1 + 2))) [1] rfl
    have hDc := hD.sub (ws' := (w_24 cI tS a_esc a_pat esc_kind esc_value esc_set esc_others (p1 + 2))) [1] (by decide) rfl
    have hFc := va_free (wc := (w_24 cI tS a_esc a_pat esc_kind esc_value esc_set esc_others (p1 + 2))) hD hS hA [1] rfl
    refine cal_i (va_runV (As := [.int 0, .int 13]) (rest := []) ⟨hx, hb, hml, hown, hts⟩ (c_ESC_found l dC dI cI tS H.size a_esc a_pat esc_kind esc_value esc_set esc_others (p1 + 2) 0 13 x327 hg) ⟨callB_of 2 hts (gN tw_748) rfl rfl rfl (hts _ tw_87) (hts _ tw_745) hd_ESC_found ⟨Nat.le_of_ble_eq_true rfl, Nat.le_of_ble_eq_true rfl⟩, hts _ tw_747, hts _ tw_16⟩ (pre_V hK hPc hDc hst0 hS hFc (va_recv hK hPc (ci := 6) (q0 := 0) rfl rfl)) rfl rfl hl.1 rfl (lv_room (Nat.le_of_ble_eq_true rfl)) d_ESC_readEscape_327 ⟨Nat.zero_le _, Nat.zero_le _⟩) hP hD hS hA [1] [0, 2] rfl rfl (by decide) (by decide) (fun H locs hP hD hS => ?_)
    have hP := hP.sub (ws' := (w_25 cI tS a_pat a_pat_bytes a_esc pat_length x327.2.1 x327.2.2 esc_set esc_others (p1 + 2) pat_bytes)) [0, 2, 1] rfl
    have hD := hD.sub (ws' := (w_25 cI tS a_pat a_pat_bytes a_esc pat_length x327.2.1 x327.2.2 esc_set esc_others (p1 + 2) pat_bytes)) [0, 2, 1] (by decide) rfl
    obtain rfl := Option.some.inj hf
    exact W.iret (v := x327.1) hx hb hr (fun t ht hW => ⟨⟨_, (), rfl, rfl, ⟨by rw [ht]; exact hP, va_K.moved hW.alike hK, hD⟩⟩, hS.F ht⟩) hS.2.2 d_ESC_readEscape_330
  have hf := f_neg n_13 hf
  rcases Classical.em (x7 = 115) with c_ | n_14
  · have hf := f_pos c_ hf
    refine lv_tableIn (tgt := 353) hx hb d_ESC_readEscape_19 (by rw [c_]; try decide) (by rw [c_]; try decide) (by rw [c_]; try rfl) (by decide) ?_
    refine lv_aload_n hx hb d_ESC_readEscape_353 rfl (lv_at hl 1 rfl) ?_
    refine lv_iload_n hx hb d_ESC_readEscape_354 rfl (lv_at hl 0 rfl) ?_
    obtain ⟨x355, hg, hf⟩ := bnd hf
    have hPc := hP.sub (ws' := (w_11 cI tS)) [] rfl
    have hDc := hD.sub (ws' := (w_11 cI tS)) [] (by decide) rfl
    have hFc := va_free (wc := (w_11 cI tS)) hD hS hA [] rfl
    refine cal_r (va_runS (As := [.int x7]) (rest := [.ref a_esc]) ⟨hx, hb, hml, hown, hts⟩ (c_ESC_setOf l dC dI cI tS H.size x7 x355 hg) ⟨callB_of 1 hts (gN tw_725) rfl rfl rfl (hts _ tw_87) (hts _ tw_723) hd_ESC_setOf ⟨Nat.le_of_ble_eq_true rfl, Nat.le_of_ble_eq_true rfl⟩, hts _ tw_724⟩ (pre_S hK hPc hDc hst0 hS hFc) rfl rfl hl.1 rfl (lv_room (Nat.le_of_ble_eq_true rfl)) d_ESC_readEscape_355 ⟨Nat.zero_le _, Nat.zero_le _⟩) hP hD hS hA [] [0, 1, 2] rfl rfl (by decide) (by decide) (fun H locs hP hD hS => ?_)
    have hP := hP.sub (ws' := (w_25 cI tS a_pat a_pat_bytes a_esc pat_length esc_kind esc_value esc_set esc_others (p1 + 2) pat_bytes)) [0, 1, 2] rfl
    have hD := hD.sub (ws' := (w_25 cI tS a_pat a_pat_bytes a_esc pat_length esc_kind esc_value esc_set esc_others (p1 + 2) pat_bytes)) [0, 1, 2] (by decide) rfl
    refine lv_iconst (v := 0) hx hb d_ESC_readEscape_358 (by decide) ?_
    obtain ⟨x359, hg, hf⟩ := bnd hf
    have hPc := hP.sub (ws' := (w_24 cI tS a_esc a_pat esc_kind esc_value esc_set esc_others (p1 + 2))) [1] rfl
    have hDc := hD.sub (ws' := (w_24 cI tS a_esc a_pat esc_kind esc_value esc_set esc_others (p1 + 2))) [1] (by decide) rfl
    have hFc := va_free (wc := (w_24 cI tS a_esc a_pat esc_kind esc_value esc_set esc_others (p1 + 2))) hD hS hA [1] rfl
    refine cal_i (va_runV (As := [.ref (tS 0 x355), .int (b2i false)]) (rest := []) ⟨hx, hb, hml, hown, hts⟩ (c_ESC_foundSet l dC dI cI tS H.size a_esc a_pat esc_kind esc_value esc_set esc_others (p1 + 2) x355 false x359 hg) ⟨callB_of 2 hts (gN tw_765) rfl rfl rfl (hts _ tw_87) (hts _ tw_762) hd_ESC_foundSet ⟨Nat.le_of_ble_eq_true rfl, Nat.le_of_ble_eq_true rfl⟩, hts _ tw_764, hts _ tw_18⟩ (pre_V hK hPc hDc hst0 hS hFc (va_recv hK hPc (ci := 6) (q0 := 0) rfl rfl)) rfl rfl hl.1 rfl (lv_room (Nat.le_of_ble_eq_true rfl)) d_ESC_readEscape_359 ⟨Nat.zero_le _, Nat.zero_le _⟩) hP hD hS hA [1] [0, 2] rfl rfl (by decide) (by decide) (fun H locs hP hD hS => ?_)
    have hP := hP.sub (ws' := (w_25 cI tS a_pat a_pat_bytes a_esc pat_length x359.2.1 x359.2.2.1 x359.2.2.2.1 x359.2.2.2.2 (p1 + 2) pat_bytes)) [0, 2, 1] rfl
    have hD := hD.sub (ws' := (w_25 cI tS a_pat a_pat_bytes a_esc pat_length x359.2.1 x359.2.2.1 x359.2.2.2.1 x359.2.2.2.2 (p1 + 2) pat_bytes)) [0, 2, 1] (by decide) rfl
    obtain rfl := Option.some.inj hf
    exact W.iret (v := x359.1) hx hb hr (fun t ht hW => ⟨⟨_, (), rfl, rfl, ⟨by rw [ht]; exact hP, va_K.moved hW.alike hK, hD⟩⟩, hS.F ht⟩) hS.2.2 d_ESC_readEscape_362
  have hf := f_neg n_14 hf
  rcases Classical.em (x7 = 116) with c_ | n_15
  · have hf := f_pos c_ hf
    refine lv_tableIn (tgt := 331) hx hb d_ESC_readEscape_19 (by rw [c_]; try decide) (by rw [c_]; try decide) (by rw [c_]; try rfl) (by decide) ?_
    refine lv_aload_n hx hb d_ESC_readEscape_331 rfl (lv_at hl 1 rfl) ?_
    refine lv_iconst (v := 0) hx hb d_ESC_readEscape_332 (by decide) ?_
    refine lv_bipush (v := 9) hx hb d_ESC_readEscape_333 (by decide) ?_
    obtain ⟨x335, hg, hf⟩ := bnd hf
    have hPc := hP.sub (ws' := (w_24 cI tS a_esc a_pat esc_kind esc_value esc_set esc_others (p1 + 2))) [1] rfl
    have hDc := hD.sub (ws' := (w_24 cI tS a_esc a_pat esc_kind esc_value esc_set esc_others (p1 + 2))) [1] (by decide) rfl
    have hFc := va_free (wc := (w_24 cI tS a_esc a_pat esc_kind esc_value esc_set esc_others (p1 + 2))) hD hS hA [1] rfl
    refine cal_i (va_runV (As := [.int 0, .int 9]) (rest := []) ⟨hx, hb, hml, hown, hts⟩ (c_ESC_found l dC dI cI tS H.size a_esc a_pat esc_kind esc_value esc_set esc_others (p1 + 2) 0 9 x335 hg) ⟨callB_of 2 hts (gN tw_748) rfl rfl rfl (hts _ tw_87) (hts _ tw_745) hd_ESC_found ⟨Nat.le_of_ble_eq_true rfl, Nat.le_of_ble_eq_true rfl⟩, hts _ tw_747, hts _ tw_16⟩ (pre_V hK hPc hDc hst0 hS hFc (va_recv hK hPc (ci := 6) (q0 := 0) rfl rfl)) rfl rfl hl.1 rfl (lv_room (Nat.le_of_ble_eq_true rfl)) d_ESC_readEscape_335 ⟨Nat.zero_le _, Nat.zero_le _⟩) hP hD hS hA [1] [0, 2] rfl rfl (by decide) (by decide) (fun H locs hP hD hS => ?_)
    have hP := hP.sub (ws' := (w_25 cI tS a_pat a_pat_bytes a_esc pat_length x335.2.1 x335.2.2 esc_set esc_others (p1 + 2) pat_bytes)) [0, 2, 1] rfl
    have hD := hD.sub (ws' := (w_25 cI tS a_pat a_pat_bytes a_esc pat_length x335.2.1 x335.2.2 esc_set esc_others (p1 + 2) pat_bytes)) [0, 2, 1] (by decide) rfl
    obtain rfl := Option.some.inj hf
    exact W.iret (v := x335.1) hx hb hr (fun t ht hW => ⟨⟨_, (), rfl, rfl, ⟨by rw [ht]; exact hP, va_K.moved hW.alike hK, hD⟩⟩, hS.F ht⟩) hS.2.2 d_ESC_readEscape_338
  have hf := f_neg n_15 hf
  rcases Classical.em (x7 = 118) with c_ | n_16
  · have hf := f_pos c_ hf
    refine lv_tableIn (tgt := 339) hx hb d_ESC_readEscape_19 (by rw [c_]; try decide) (by rw [c_]; try decide) (by rw [c_]; try rfl) (by decide) ?_
    refine lv_aload_n hx hb d_ESC_readEscape_339 rfl (lv_at hl 1 rfl) ?_
    refine lv_iconst (v := 0) hx hb d_ESC_readEscape_340 (by decide) ?_
    refine lv_bipush (v := 11) hx hb d_ESC_readEscape_341 (by decide) ?_
    obtain ⟨x343, hg, hf⟩ := bnd hf
    have hPc := hP.sub (ws' := (w_24 cI tS a_esc a_pat esc_kind esc_value esc_set esc_others (p1 + 2))) [1] rfl
    have hDc := hD.sub (ws' := (w_24 cI tS a_esc a_pat esc_kind esc_value esc_set esc_others (p1 + 2))) [1] (by decide) rfl
    have hFc := va_free (wc := (w_24 cI tS a_esc a_pat esc_kind esc_value esc_set esc_others (p1 + 2))) hD hS hA [1] rfl
    refine cal_i (va_runV (As := [.int 0, .int 11]) (rest := []) ⟨hx, hb, hml, hown, hts⟩ (c_ESC_found l dC dI cI tS H.size a_esc a_pat esc_kind esc_value esc_set esc_others (p1 + 2) 0 11 x343 hg) ⟨callB_of 2 hts (gN tw_748) rfl rfl rfl (hts _ tw_87) (hts _ tw_745) hd_ESC_found ⟨Nat.le_of_ble_eq_true rfl, Nat.le_of_ble_eq_true rfl⟩, hts _ tw_747, hts _ tw_16⟩ (pre_V hK hPc hDc hst0 hS hFc (va_recv hK hPc (ci := 6) (q0 := 0) rfl rfl)) rfl rfl hl.1 rfl (lv_room (Nat.le_of_ble_eq_true rfl)) d_ESC_readEscape_343 ⟨Nat.zero_le _, Nat.zero_le _⟩) hP hD hS hA [1] [0, 2] rfl rfl (by decide) (by decide) (fun H locs hP hD hS => ?_)
    have hP := hP.sub (ws' := (w_25 cI tS a_pat a_pat_bytes a_esc pat_length x343.2.1 x343.2.2 esc_set esc_others (p1 + 2) pat_bytes)) [0, 2, 1] rfl
    have hD := hD.sub (ws' := (w_25 cI tS a_pat a_pat_bytes a_esc pat_length x343.2.1 x343.2.2 esc_set esc_others (p1 + 2) pat_bytes)) [0, 2, 1] (by decide) rfl
    obtain rfl := Option.some.inj hf
    exact W.iret (v := x343.1) hx hb hr (fun t ht hW => ⟨⟨_, (), rfl, rfl, ⟨by rw [ht]; exact hP, va_K.moved hW.alike hK, hD⟩⟩, hS.F ht⟩) hS.2.2 d_ESC_readEscape_346
  have hf := f_neg n_16 hf
  rcases Classical.em (x7 = 119) with c_ | n_17
  · have hf := f_pos c_ hf
    refine lv_tableIn (tgt := 353) hx hb d_ESC_readEscape_19 (by rw [c_]; try decide) (by rw [c_]; try decide) (by rw [c_]; try rfl) (by decide) ?_
    refine lv_aload_n hx hb d_ESC_readEscape_353 rfl (lv_at hl 1 rfl) ?_
    refine lv_iload_n hx hb d_ESC_readEscape_354 rfl (lv_at hl 0 rfl) ?_
    obtain ⟨x355, hg, hf⟩ := bnd hf
    have hPc := hP.sub (ws' := (w_11 cI tS)) [] rfl
    have hDc := hD.sub (ws' := (w_11 cI tS)) [] (by decide) rfl
    have hFc := va_free (wc := (w_11 cI tS)) hD hS hA [] rfl
    refine cal_r (va_runS (As := [.int x7]) (rest := [.ref a_esc]) ⟨hx, hb, hml, hown, hts⟩ (c_ESC_setOf l dC dI cI tS H.size x7 x355 hg) ⟨callB_of 1 hts (gN tw_725) rfl rfl rfl (hts _ tw_87) (hts _ tw_723) hd_ESC_setOf ⟨Nat.le_of_ble_eq_true rfl, Nat.le_of_ble_eq_true rfl⟩, hts _ tw_724⟩ (pre_S hK hPc hDc hst0 hS hFc) rfl rfl hl.1 rfl (lv_room (Nat.le_of_ble_eq_true rfl)) d_ESC_readEscape_355 ⟨Nat.zero_le _, Nat.zero_le _⟩) hP hD hS hA [] [0, 1, 2] rfl rfl (by decide) (by decide) (fun H locs hP hD hS => ?_)
    have hP := hP.sub (ws' := (w_25 cI tS a_pat a_pat_bytes a_esc pat_length esc_kind esc_value esc_set esc_others (p1 + 2) pat_bytes)) [0, 1, 2] rfl
    have hD := hD.sub (ws' := (w_25 cI tS a_pat a_pat_bytes a_esc pat_length esc_kind esc_value esc_set esc_others (p1 + 2) pat_bytes)) [0, 1, 2] (by decide) rfl
    refine lv_iconst (v := 0) hx hb d_ESC_readEscape_358 (by decide) ?_
    obtain ⟨x359, hg, hf⟩ := bnd hf
    have hPc := hP.sub (ws' := (w_24 cI tS a_esc a_pat esc_kind esc_value esc_set esc_others (p1 + 2))) [1] rfl
    have hDc := hD.sub (ws' := (w_24 cI tS a_esc a_pat esc_kind esc_value esc_set esc_others (p1 + 2))) [1] (by decide) rfl
    have hFc := va_free (wc := (w_24 cI tS a_esc a_pat esc_kind esc_value esc_set esc_others (p1 + 2))) hD hS hA [1] rfl
    refine cal_i (va_runV (As := [.ref (tS 0 x355), .int (b2i false)]) (rest := []) ⟨hx, hb, hml, hown, hts⟩ (c_ESC_foundSet l dC dI cI tS H.size a_esc a_pat esc_kind esc_value esc_set esc_others (p1 + 2) x355 false x359 hg) ⟨callB_of 2 hts (gN tw_765) rfl rfl rfl (hts _ tw_87) (hts _ tw_762) hd_ESC_foundSet ⟨Nat.le_of_ble_eq_true rfl, Nat.le_of_ble_eq_true rfl⟩, hts _ tw_764, hts _ tw_18⟩ (pre_V hK hPc hDc hst0 hS hFc (va_recv hK hPc (ci := 6) (q0 := 0) rfl rfl)) rfl rfl hl.1 rfl (lv_room (Nat.le_of_ble_eq_true rfl)) d_ESC_readEscape_359 ⟨Nat.zero_le _, Nat.zero_le _⟩) hP hD hS hA [1] [0, 2] rfl rfl (by decide) (by decide) (fun H locs hP hD hS => ?_)
    have hP := hP.sub (ws' := (w_25 cI tS a_pat a_pat_bytes a_esc pat_length x359.2.1 x359.2.2.1 x359.2.2.2.1 x359.2.2.2.2 (p1 + 2) pat_bytes)) [0, 2, 1] rfl
    have hD := hD.sub (ws' := (w_25 cI tS a_pat a_pat_bytes a_esc pat_length x359.2.1 x359.2.2.1 x359.2.2.2.1 x359.2.2.2.2 (p1 + 2) pat_bytes)) [0, 2, 1] (by decide) rfl
    obtain rfl := Option.some.inj hf
    exact W.iret (v := x359.1) hx hb hr (fun t ht hW => ⟨⟨_, (), rfl, rfl, ⟨by rw [ht]; exact hP, va_K.moved hW.alike hK, hD⟩⟩, hS.F ht⟩) hS.2.2 d_ESC_readEscape_362
  have hf := f_neg n_17 hf
  rcases Classical.em (x7 = 120) with c_ | n_18
  · have hf := f_pos c_ hf
    refine lv_tableIn (tgt := 347) hx hb d_ESC_readEscape_19 (by rw [c_]; try decide) (by rw [c_]; try decide) (by rw [c_]; try rfl) (by decide) ?_
    refine lv_aload_n hx hb d_ESC_readEscape_347 rfl (lv_at hl 1 rfl) ?_
    refine lv_iload_n hx hb d_ESC_readEscape_348 rfl (lv_at hl 2 rfl) ?_
    obtain ⟨x349, hg, hf⟩ := bnd hf
    have hPc := hP.sub (ws' := (w_25 cI tS a_pat a_pat_bytes a_esc pat_length esc_kind esc_value esc_set esc_others (p1 + 2) pat_bytes)) [0, 1, 2] rfl
    have hDc := hD.sub (ws' := (w_25 cI tS a_pat a_pat_bytes a_esc pat_length esc_kind esc_value esc_set esc_others (p1 + 2) pat_bytes)) [0, 1, 2] (by decide) rfl
    have hFc := va_free (wc := (w_25 cI tS a_pat a_pat_bytes a_esc pat_length esc_kind esc_value esc_set esc_others (p1 + 2) pat_bytes)) hD hS hA [0, 1, 2] rfl
    refine cal_i (va_runV (As := [.int p1]) (rest := []) ⟨hx, hb, hml, hown, hts⟩ (c_ESC_readNumbered l dC dI cI tS H.size a_pat a_pat_bytes a_esc pat_length esc_kind esc_value esc_set esc_others (p1 + 2) pat_bytes p1 x349 hg) ⟨callB_of 1 hts (gN tw_752) rfl rfl rfl (hts _ tw_87) (hts _ tw_749) hd_ESC_readNumbered ⟨Nat.le_of_ble_eq_true rfl, Nat.le_of_ble_eq_true rfl⟩, hts _ tw_751, hts _ tw_17⟩ (pre_V hK hPc hDc hst0 hS hFc (va_recv hK hPc (ci := 6) (q0 := 1) rfl rfl)) rfl rfl hl.1 rfl (lv_room (Nat.le_of_ble_eq_true rfl)) d_ESC_readEscape_349 ⟨Nat.zero_le _, Nat.zero_le _⟩) hP hD hS hA [0, 1, 2] [] rfl rfl (by decide) (by decide) (fun H locs hP hD hS => ?_)
    have hP := hP.sub (ws' := (w_25 cI tS a_pat a_pat_bytes a_esc pat_length x349.2.1 x349.2.2.1 esc_set esc_others x349.2.2.2 pat_bytes)) [0, 1, 2] rfl
    have hD := hD.sub (ws' := (w_25 cI tS a_pat a_pat_bytes a_esc pat_length x349.2.1 x349.2.2.1 esc_set esc_others x349.2.2.2 pat_bytes)) [0, 1, 2] (by decide) rfl
    obtain rfl := Option.some.inj hf
    exact W.iret (v := x349.1) hx hb hr (fun t ht hW => ⟨⟨_, (), rfl, rfl, ⟨by rw [ht]; exact hP, va_K.moved hW.alike hK, hD⟩⟩, hS.F ht⟩) hS.2.2 d_ESC_readEscape_352
  have hf := f_neg n_18 hf
  rcases Classical.em (x7 = 122) with c_ | n_19
  · have hf := f_pos c_ hf
    refine lv_tableIn (tgt := 271) hx hb d_ESC_readEscape_19 (by rw [c_]; try decide) (by rw [c_]; try decide) (by rw [c_]; try rfl) (by decide) ?_
    refine lv_aload_n hx hb d_ESC_readEscape_271 rfl (lv_at hl 1 rfl) ?_
    refine lv_iconst (v := 3) hx hb d_ESC_readEscape_272 (by decide) ?_
    refine lv_iconst (v := 1) hx hb d_ESC_readEscape_273 (by decide) ?_
    obtain ⟨x274, hg, hf⟩ := bnd hf
    have hPc := hP.sub (ws' := (w_24 cI tS a_esc a_pat esc_kind esc_value esc_set esc_others (p1 + 2))) [1] rfl
    have hDc := hD.sub (ws' := (w_24 cI tS a_esc a_pat esc_kind esc_value esc_set esc_others (p1 + 2))) [1] (by decide) rfl
    have hFc := va_free (wc := (w_24 cI tS a_esc a_pat esc_kind esc_value esc_set esc_others (p1 + 2))) hD hS hA [1] rfl
    refine cal_i (va_runV (As := [.int 3, .int 1]) (rest := []) ⟨hx, hb, hml, hown, hts⟩ (c_ESC_found l dC dI cI tS H.size a_esc a_pat esc_kind esc_value esc_set esc_others (p1 + 2) 3 1 x274 hg) ⟨callB_of 2 hts (gN tw_748) rfl rfl rfl (hts _ tw_87) (hts _ tw_745) hd_ESC_found ⟨Nat.le_of_ble_eq_true rfl, Nat.le_of_ble_eq_true rfl⟩, hts _ tw_747, hts _ tw_16⟩ (pre_V hK hPc hDc hst0 hS hFc (va_recv hK hPc (ci := 6) (q0 := 0) rfl rfl)) rfl rfl hl.1 rfl (lv_room (Nat.le_of_ble_eq_true rfl)) d_ESC_readEscape_274 ⟨Nat.zero_le _, Nat.zero_le _⟩) hP hD hS hA [1] [0, 2] rfl rfl (by decide) (by decide) (fun H locs hP hD hS => ?_)
    have hP := hP.sub (ws' := (w_25 cI tS a_pat a_pat_bytes a_esc pat_length x274.2.1 x274.2.2 esc_set esc_others (p1 + 2) pat_bytes)) [0, 2, 1] rfl
    have hD := hD.sub (ws' := (w_25 cI tS a_pat a_pat_bytes a_esc pat_length x274.2.1 x274.2.2 esc_set esc_others (p1 + 2) pat_bytes)) [0, 2, 1] (by decide) rfl
    obtain rfl := Option.some.inj hf
    exact W.iret (v := x274.1) hx hb hr (fun t ht hW => ⟨⟨_, (), rfl, rfl, ⟨by rw [ht]; exact hP, va_K.moved hW.alike hK, hD⟩⟩, hS.F ht⟩) hS.2.2 d_ESC_readEscape_277
  have hf := f_neg n_19 hf
  rcases Classical.em (x7 = 69) with c_ | n_20
  · refine lv_tableIn (tgt := 390) hx hb d_ESC_readEscape_19 (by rw [c_]; try decide) (by rw [c_]; try decide) (by rw [c_]; try rfl) (by decide) ?_
    exact L390 x7 esc_kind esc_value esc_set esc_others (p1 + 2) _ _ _ hP hD hS (lv_sub hl [1, 0] rfl) hf
  rcases Classical.em (x7 = 70) with c_ | n_21
  · refine lv_tableIn (tgt := 390) hx hb d_ESC_readEscape_19 (by rw [c_]; try decide) (by rw [c_]; try decide) (by rw [c_]; try rfl) (by decide) ?_
    exact L390 x7 esc_kind esc_value esc_set esc_others (p1 + 2) _ _ _ hP hD hS (lv_sub hl [1, 0] rfl) hf
  rcases Classical.em (x7 = 71) with c_ | n_22
  · refine lv_tableIn (tgt := 390) hx hb d_ESC_readEscape_19 (by rw [c_]; try decide) (by rw [c_]; try decide) (by rw [c_]; try rfl) (by decide) ?_
    exact L390 x7 esc_kind esc_value esc_set esc_others (p1 + 2) _ _ _ hP hD hS (lv_sub hl [1, 0] rfl) hf
  rcases Classical.em (x7 = 72) with c_ | n_23
  · refine lv_tableIn (tgt := 390) hx hb d_ESC_readEscape_19 (by rw [c_]; try decide) (by rw [c_]; try decide) (by rw [c_]; try rfl) (by decide) ?_
    exact L390 x7 esc_kind esc_value esc_set esc_others (p1 + 2) _ _ _ hP hD hS (lv_sub hl [1, 0] rfl) hf
  rcases Classical.em (x7 = 73) with c_ | n_24
  · refine lv_tableIn (tgt := 390) hx hb d_ESC_readEscape_19 (by rw [c_]; try decide) (by rw [c_]; try decide) (by rw [c_]; try rfl) (by decide) ?_
    exact L390 x7 esc_kind esc_value esc_set esc_others (p1 + 2) _ _ _ hP hD hS (lv_sub hl [1, 0] rfl) hf
  rcases Classical.em (x7 = 74) with c_ | n_25
  · refine lv_tableIn (tgt := 390) hx hb d_ESC_readEscape_19 (by rw [c_]; try decide) (by rw [c_]; try decide) (by rw [c_]; try rfl) (by decide) ?_
    exact L390 x7 esc_kind esc_value esc_set esc_others (p1 + 2) _ _ _ hP hD hS (lv_sub hl [1, 0] rfl) hf
  rcases Classical.em (x7 = 75) with c_ | n_26
  · refine lv_tableIn (tgt := 390) hx hb d_ESC_readEscape_19 (by rw [c_]; try decide) (by rw [c_]; try decide) (by rw [c_]; try rfl) (by decide) ?_
    exact L390 x7 esc_kind esc_value esc_set esc_others (p1 + 2) _ _ _ hP hD hS (lv_sub hl [1, 0] rfl) hf
  rcases Classical.em (x7 = 76) with c_ | n_27
  · refine lv_tableIn (tgt := 390) hx hb d_ESC_readEscape_19 (by rw [c_]; try decide) (by rw [c_]; try decide) (by rw [c_]; try rfl) (by decide) ?_
    exact L390 x7 esc_kind esc_value esc_set esc_others (p1 + 2) _ _ _ hP hD hS (lv_sub hl [1, 0] rfl) hf
  rcases Classical.em (x7 = 77) with c_ | n_28
  · refine lv_tableIn (tgt := 390) hx hb d_ESC_readEscape_19 (by rw [c_]; try decide) (by rw [c_]; try decide) (by rw [c_]; try rfl) (by decide) ?_
    exact L390 x7 esc_kind esc_value esc_set esc_others (p1 + 2) _ _ _ hP hD hS (lv_sub hl [1, 0] rfl) hf
  rcases Classical.em (x7 = 78) with c_ | n_29
  · refine lv_tableIn (tgt := 390) hx hb d_ESC_readEscape_19 (by rw [c_]; try decide) (by rw [c_]; try decide) (by rw [c_]; try rfl) (by decide) ?_
    exact L390 x7 esc_kind esc_value esc_set esc_others (p1 + 2) _ _ _ hP hD hS (lv_sub hl [1, 0] rfl) hf
  rcases Classical.em (x7 = 79) with c_ | n_30
  · refine lv_tableIn (tgt := 390) hx hb d_ESC_readEscape_19 (by rw [c_]; try decide) (by rw [c_]; try decide) (by rw [c_]; try rfl) (by decide) ?_
    exact L390 x7 esc_kind esc_value esc_set esc_others (p1 + 2) _ _ _ hP hD hS (lv_sub hl [1, 0] rfl) hf
  rcases Classical.em (x7 = 81) with c_ | n_31
  · refine lv_tableIn (tgt := 390) hx hb d_ESC_readEscape_19 (by rw [c_]; try decide) (by rw [c_]; try decide) (by rw [c_]; try rfl) (by decide) ?_
    exact L390 x7 esc_kind esc_value esc_set esc_others (p1 + 2) _ _ _ hP hD hS (lv_sub hl [1, 0] rfl) hf
  rcases Classical.em (x7 = 82) with c_ | n_32
  · refine lv_tableIn (tgt := 390) hx hb d_ESC_readEscape_19 (by rw [c_]; try decide) (by rw [c_]; try decide) (by rw [c_]; try rfl) (by decide) ?_
    exact L390 x7 esc_kind esc_value esc_set esc_others (p1 + 2) _ _ _ hP hD hS (lv_sub hl [1, 0] rfl) hf
  rcases Classical.em (x7 = 84) with c_ | n_33
  · refine lv_tableIn (tgt := 390) hx hb d_ESC_readEscape_19 (by rw [c_]; try decide) (by rw [c_]; try decide) (by rw [c_]; try rfl) (by decide) ?_
    exact L390 x7 esc_kind esc_value esc_set esc_others (p1 + 2) _ _ _ hP hD hS (lv_sub hl [1, 0] rfl) hf
  rcases Classical.em (x7 = 85) with c_ | n_34
  · refine lv_tableIn (tgt := 390) hx hb d_ESC_readEscape_19 (by rw [c_]; try decide) (by rw [c_]; try decide) (by rw [c_]; try rfl) (by decide) ?_
    exact L390 x7 esc_kind esc_value esc_set esc_others (p1 + 2) _ _ _ hP hD hS (lv_sub hl [1, 0] rfl) hf
  rcases Classical.em (x7 = 86) with c_ | n_35
  · refine lv_tableIn (tgt := 390) hx hb d_ESC_readEscape_19 (by rw [c_]; try decide) (by rw [c_]; try decide) (by rw [c_]; try rfl) (by decide) ?_
    exact L390 x7 esc_kind esc_value esc_set esc_others (p1 + 2) _ _ _ hP hD hS (lv_sub hl [1, 0] rfl) hf
  rcases Classical.em (x7 = 88) with c_ | n_36
  · refine lv_tableIn (tgt := 390) hx hb d_ESC_readEscape_19 (by rw [c_]; try decide) (by rw [c_]; try decide) (by rw [c_]; try rfl) (by decide) ?_
    exact L390 x7 esc_kind esc_value esc_set esc_others (p1 + 2) _ _ _ hP hD hS (lv_sub hl [1, 0] rfl) hf
  rcases Classical.em (x7 = 89) with c_ | n_37
  · refine lv_tableIn (tgt := 390) hx hb d_ESC_readEscape_19 (by rw [c_]; try decide) (by rw [c_]; try decide) (by rw [c_]; try rfl) (by decide) ?_
    exact L390 x7 esc_kind esc_value esc_set esc_others (p1 + 2) _ _ _ hP hD hS (lv_sub hl [1, 0] rfl) hf
  rcases Classical.em (x7 = 90) with c_ | n_38
  · refine lv_tableIn (tgt := 390) hx hb d_ESC_readEscape_19 (by rw [c_]; try decide) (by rw [c_]; try decide) (by rw [c_]; try rfl) (by decide) ?_
    exact L390 x7 esc_kind esc_value esc_set esc_others (p1 + 2) _ _ _ hP hD hS (lv_sub hl [1, 0] rfl) hf
  rcases Classical.em (x7 = 91) with c_ | n_39
  · refine lv_tableIn (tgt := 390) hx hb d_ESC_readEscape_19 (by rw [c_]; try decide) (by rw [c_]; try decide) (by rw [c_]; try rfl) (by decide) ?_
    exact L390 x7 esc_kind esc_value esc_set esc_others (p1 + 2) _ _ _ hP hD hS (lv_sub hl [1, 0] rfl) hf
  rcases Classical.em (x7 = 92) with c_ | n_40
  · refine lv_tableIn (tgt := 390) hx hb d_ESC_readEscape_19 (by rw [c_]; try decide) (by rw [c_]; try decide) (by rw [c_]; try rfl) (by decide) ?_
    exact L390 x7 esc_kind esc_value esc_set esc_others (p1 + 2) _ _ _ hP hD hS (lv_sub hl [1, 0] rfl) hf
  rcases Classical.em (x7 = 93) with c_ | n_41
  · refine lv_tableIn (tgt := 390) hx hb d_ESC_readEscape_19 (by rw [c_]; try decide) (by rw [c_]; try decide) (by rw [c_]; try rfl) (by decide) ?_
    exact L390 x7 esc_kind esc_value esc_set esc_others (p1 + 2) _ _ _ hP hD hS (lv_sub hl [1, 0] rfl) hf
  rcases Classical.em (x7 = 94) with c_ | n_42
  · refine lv_tableIn (tgt := 390) hx hb d_ESC_readEscape_19 (by rw [c_]; try decide) (by rw [c_]; try decide) (by rw [c_]; try rfl) (by decide) ?_
    exact L390 x7 esc_kind esc_value esc_set esc_others (p1 + 2) _ _ _ hP hD hS (lv_sub hl [1, 0] rfl) hf
  rcases Classical.em (x7 = 95) with c_ | n_43
  · refine lv_tableIn (tgt := 390) hx hb d_ESC_readEscape_19 (by rw [c_]; try decide) (by rw [c_]; try decide) (by rw [c_]; try rfl) (by decide) ?_
    exact L390 x7 esc_kind esc_value esc_set esc_others (p1 + 2) _ _ _ hP hD hS (lv_sub hl [1, 0] rfl) hf
  rcases Classical.em (x7 = 96) with c_ | n_44
  · refine lv_tableIn (tgt := 390) hx hb d_ESC_readEscape_19 (by rw [c_]; try decide) (by rw [c_]; try decide) (by rw [c_]; try rfl) (by decide) ?_
    exact L390 x7 esc_kind esc_value esc_set esc_others (p1 + 2) _ _ _ hP hD hS (lv_sub hl [1, 0] rfl) hf
  rcases Classical.em (x7 = 99) with c_ | n_45
  · refine lv_tableIn (tgt := 390) hx hb d_ESC_readEscape_19 (by rw [c_]; try decide) (by rw [c_]; try decide) (by rw [c_]; try rfl) (by decide) ?_
    exact L390 x7 esc_kind esc_value esc_set esc_others (p1 + 2) _ _ _ hP hD hS (lv_sub hl [1, 0] rfl) hf
  rcases Classical.em (x7 = 101) with c_ | n_46
  · refine lv_tableIn (tgt := 390) hx hb d_ESC_readEscape_19 (by rw [c_]; try decide) (by rw [c_]; try decide) (by rw [c_]; try rfl) (by decide) ?_
    exact L390 x7 esc_kind esc_value esc_set esc_others (p1 + 2) _ _ _ hP hD hS (lv_sub hl [1, 0] rfl) hf
  rcases Classical.em (x7 = 103) with c_ | n_47
  · refine lv_tableIn (tgt := 390) hx hb d_ESC_readEscape_19 (by rw [c_]; try decide) (by rw [c_]; try decide) (by rw [c_]; try rfl) (by decide) ?_
    exact L390 x7 esc_kind esc_value esc_set esc_others (p1 + 2) _ _ _ hP hD hS (lv_sub hl [1, 0] rfl) hf
  rcases Classical.em (x7 = 104) with c_ | n_48
  · refine lv_tableIn (tgt := 390) hx hb d_ESC_readEscape_19 (by rw [c_]; try decide) (by rw [c_]; try decide) (by rw [c_]; try rfl) (by decide) ?_
    exact L390 x7 esc_kind esc_value esc_set esc_others (p1 + 2) _ _ _ hP hD hS (lv_sub hl [1, 0] rfl) hf
  rcases Classical.em (x7 = 105) with c_ | n_49
  · refine lv_tableIn (tgt := 390) hx hb d_ESC_readEscape_19 (by rw [c_]; try decide) (by rw [c_]; try decide) (by rw [c_]; try rfl) (by decide) ?_
    exact L390 x7 esc_kind esc_value esc_set esc_others (p1 + 2) _ _ _ hP hD hS (lv_sub hl [1, 0] rfl) hf
  rcases Classical.em (x7 = 106) with c_ | n_50
  · refine lv_tableIn (tgt := 390) hx hb d_ESC_readEscape_19 (by rw [c_]; try decide) (by rw [c_]; try decide) (by rw [c_]; try rfl) (by decide) ?_
    exact L390 x7 esc_kind esc_value esc_set esc_others (p1 + 2) _ _ _ hP hD hS (lv_sub hl [1, 0] rfl) hf
  rcases Classical.em (x7 = 107) with c_ | n_51
  · refine lv_tableIn (tgt := 390) hx hb d_ESC_readEscape_19 (by rw [c_]; try decide) (by rw [c_]; try decide) (by rw [c_]; try rfl) (by decide) ?_
    exact L390 x7 esc_kind esc_value esc_set esc_others (p1 + 2) _ _ _ hP hD hS (lv_sub hl [1, 0] rfl) hf
  rcases Classical.em (x7 = 108) with c_ | n_52
  · refine lv_tableIn (tgt := 390) hx hb d_ESC_readEscape_19 (by rw [c_]; try decide) (by rw [c_]; try decide) (by rw [c_]; try rfl) (by decide) ?_
    exact L390 x7 esc_kind esc_value esc_set esc_others (p1 + 2) _ _ _ hP hD hS (lv_sub hl [1, 0] rfl) hf
  rcases Classical.em (x7 = 109) with c_ | n_53
  · refine lv_tableIn (tgt := 390) hx hb d_ESC_readEscape_19 (by rw [c_]; try decide) (by rw [c_]; try decide) (by rw [c_]; try rfl) (by decide) ?_
    exact L390 x7 esc_kind esc_value esc_set esc_others (p1 + 2) _ _ _ hP hD hS (lv_sub hl [1, 0] rfl) hf
  rcases Classical.em (x7 = 111) with c_ | n_54
  · refine lv_tableIn (tgt := 390) hx hb d_ESC_readEscape_19 (by rw [c_]; try decide) (by rw [c_]; try decide) (by rw [c_]; try rfl) (by decide) ?_
    exact L390 x7 esc_kind esc_value esc_set esc_others (p1 + 2) _ _ _ hP hD hS (lv_sub hl [1, 0] rfl) hf
  rcases Classical.em (x7 = 113) with c_ | n_55
  · refine lv_tableIn (tgt := 390) hx hb d_ESC_readEscape_19 (by rw [c_]; try decide) (by rw [c_]; try decide) (by rw [c_]; try rfl) (by decide) ?_
    exact L390 x7 esc_kind esc_value esc_set esc_others (p1 + 2) _ _ _ hP hD hS (lv_sub hl [1, 0] rfl) hf
  rcases Classical.em (x7 = 117) with c_ | n_56
  · refine lv_tableIn (tgt := 390) hx hb d_ESC_readEscape_19 (by rw [c_]; try decide) (by rw [c_]; try decide) (by rw [c_]; try rfl) (by decide) ?_
    exact L390 x7 esc_kind esc_value esc_set esc_others (p1 + 2) _ _ _ hP hD hS (lv_sub hl [1, 0] rfl) hf
  rcases Classical.em (x7 = 121) with c_ | n_57
  · refine lv_tableIn (tgt := 390) hx hb d_ESC_readEscape_19 (by rw [c_]; try decide) (by rw [c_]; try decide) (by rw [c_]; try rfl) (by decide) ?_
    exact L390 x7 esc_kind esc_value esc_set esc_others (p1 + 2) _ _ _ hP hD hS (lv_sub hl [1, 0] rfl) hf
  refine lv_tableOut (tgt := 390) hx hb d_ESC_readEscape_19 (by have e_0 := lv_neT n_0 (k := 65) (a := 65) rfl; have e_1 := lv_neT n_1 (k := 66) (a := 66) rfl; have e_2 := lv_neT n_2 (k := 67) (a := 67) rfl; have e_3 := lv_neT n_3 (k := 68) (a := 68) rfl; have e_4 := lv_neT n_4 (k := 80) (a := 80) rfl; have e_5 := lv_neT n_5 (k := 83) (a := 83) rfl; have e_6 := lv_neT n_6 (k := 87) (a := 87) rfl; have e_7 := lv_neT n_7 (k := 97) (a := 97) rfl; have e_8 := lv_neT n_8 (k := 98) (a := 98) rfl; have e_9 := lv_neT n_9 (k := 100) (a := 100) rfl; have e_10 := lv_neT n_10 (k := 102) (a := 102) rfl; have e_11 := lv_neT n_11 (k := 110) (a := 110) rfl; have e_12 := lv_neT n_12 (k := 112) (a := 112) rfl; have e_13 := lv_neT n_13 (k := 114) (a := 114) rfl; have e_14 := lv_neT n_14 (k := 115) (a := 115) rfl; have e_15 := lv_neT n_15 (k := 116) (a := 116) rfl; have e_16 := lv_neT n_16 (k := 118) (a := 118) rfl; have e_17 := lv_neT n_17 (k := 119) (a := 119) rfl; have e_18 := lv_neT n_18 (k := 120) (a := 120) rfl; have e_19 := lv_neT n_19 (k := 122) (a := 122) rfl; have e_20 := lv_neT n_20 (k := 69) (a := 69) rfl; have e_21 := lv_neT n_21 (k := 70) (a := 70) rfl; have e_22 := lv_neT n_22 (k := 71) (a := 71) rfl; have e_23 := lv_neT n_23 (k := 72) (a := 72) rfl; have e_24 := lv_neT n_24 (k := 73) (a := 73) rfl; have e_25 := lv_neT n_25 (k := 74) (a := 74) rfl; have e_26 := lv_neT n_26 (k := 75) (a := 75) rfl; have e_27 := lv_neT n_27 (k := 76) (a := 76) rfl; have e_28 := lv_neT n_28 (k := 77) (a := 77) rfl; have e_29 := lv_neT n_29 (k := 78) (a := 78) rfl; have e_30 := lv_neT n_30 (k := 79) (a := 79) rfl; have e_31 := lv_neT n_31 (k := 81) (a := 81) rfl; have e_32 := lv_neT n_32 (k := 82) (a := 82) rfl; have e_33 := lv_neT n_33 (k := 84) (a := 84) rfl; have e_34 := lv_neT n_34 (k := 85) (a := 85) rfl; have e_35 := lv_neT n_35 (k := 86) (a := 86) rfl; have e_36 := lv_neT n_36 (k := 88) (a := 88) rfl; have e_37 := lv_neT n_37 (k := 89) (a := 89) rfl; have e_38 := lv_neT n_38 (k := 90) (a := 90) rfl; have e_39 := lv_neT n_39 (k := 91) (a := 91) rfl; have e_40 := lv_neT n_40 (k := 92) (a := 92) rfl; have e_41 := lv_neT n_41 (k := 93) (a := 93) rfl; have e_42 := lv_neT n_42 (k := 94) (a := 94) rfl; have e_43 := lv_neT n_43 (k := 95) (a := 95) rfl; have e_44 := lv_neT n_44 (k := 96) (a := 96) rfl; have e_45 := lv_neT n_45 (k := 99) (a := 99) rfl; have e_46 := lv_neT n_46 (k := 101) (a := 101) rfl; have e_47 := lv_neT n_47 (k := 103) (a := 103) rfl; have e_48 := lv_neT n_48 (k := 104) (a := 104) rfl; have e_49 := lv_neT n_49 (k := 105) (a := 105) rfl; have e_50 := lv_neT n_50 (k := 106) (a := 106) rfl; have e_51 := lv_neT n_51 (k := 107) (a := 107) rfl; have e_52 := lv_neT n_52 (k := 108) (a := 108) rfl; have e_53 := lv_neT n_53 (k := 109) (a := 109) rfl; have e_54 := lv_neT n_54 (k := 111) (a := 111) rfl; have e_55 := lv_neT n_55 (k := 113) (a := 113) rfl; have e_56 := lv_neT n_56 (k := 117) (a := 117) rfl; have e_57 := lv_neT n_57 (k := 121) (a := 121) rfl; omega) (by decide) ?_
  exact L390 x7 esc_kind esc_value esc_set esc_others (p1 + 2) _ _ _ hP hD hS (lv_sub hl [1, 0] rfl) hf
