-- constructors: a new int array, the standard start of a constructor, the call of one
section NEWI
variable {p : Program} {l : Launch} {e : Env} {R : Room} {s : State} {m : MethodId} {args : Array Value} {below : List Frame} {meth : Method} {c : Code} {H : Heap} {locs : List Loc} {cells slots : Nat} {Q : State → Prop}
variable {cc : ByteArray} {pc : Nat} {ls : Array Slot} {rest st0 : List Value} {a : Array Value} {A : Nat → Prop} {D : va_G} {cl : List vw_C} {tys : List (ClassId × FieldType)} {ws wc : va_W} {H0 : Heap} {cI : ClassId}
theorem newI (hexec : p.tables.exec = Jvm.exec) (hb : c.code = cc) (harr : (Cond.arrayClass .int).before args s = true) (hK : va_K D cl [(cI, .int)] s) (hP : va_P D cl ws H) (hD : va_D A ws) (hS : va_S A H0 H locs) (hA : ∀ q, H0.size ≤ q → A q) {n : Int32} {N' : Nat} (hn : ¬ n < 0) (hN : n.toNatClampNeg = N') (hbytes : N' * componentBytes .int ≤ 536870912) (hcells : cells + 1 ≤ R.cells) (hslots : slots + N' ≤ R.slots) (hdg : decode cc pc = .ok (.newarray .int, 2))
    (kk : ∀ (q : Nat) (H1 : Heap), va_P D cl (ws ++ [(q, .inl (cI, N', .inl (fun _ => 0)))]) H1 → va_D A (ws ++ [(q, .inl (cI, N', .inl (fun _ => 0)))]) → va_S A H0 H1 locs → W p l e R s m args below meth c H1 locs (cells + 1) (slots + N') Q (F0 m (pc + 2) ls (.ref q :: rest))) : W p l e R s m args below meth c H locs cells slots Q (F0 m pc ls (.int n :: rest)) := by
  have ha : ∀ cA : ClassId, vp_cell cA (N', .inl (fun _ => 0)) = arrV cA N' (fun _ => defaultValue FieldType.int) := fun cA => rfl
  have ht : newarray.typeOf ArrayType.int = FieldType.int := rfl
  refine va_newa (atype := ArrayType.int) (ty := FieldType.int) (a0 := (N', .inl (fun _ => 0))) (N' := N') hexec hb (by rw [ht]; exact harr) ht hK hP hD hS hA ha hn hN hbytes hcells hslots hdg (fun q cA H1 hK1 hP1 hD1 hS1 => ?_)
  have e : cA = cI := by
    have h0 := (hK1.2 0 (cI, .int) rfl).2
    have h1 := (hK1.2 1 (cA, .int) rfl).2
    exact Option.some.inj (h1.symm.trans h0)
  subst e
  exact kk q H1 hP1 hD1 hS1
theorem cal_c {S : Type} {Bw : S → va_W} {mc ms : Nat} (hr : va_Run p l e R s m args below meth c H locs cells slots mc ms (F0 m pc ls st0) rest (va_Qv (fun _ : S => True) (fun u t => posS D cl tys (Bw u) (va_A wc H.size) t) (va_A wc H.size) a) (va_A wc H.size)) (hP : va_P D cl ws H) (hD : va_D A ws) (hS : va_S A s.heap H locs) (hA : ∀ q, s.heap.size ≤ q → A q) (isC isR : List Nat) (hC : isC.map (fun i => ws[i]?) = wc.map some) (hR : isR.map (fun i => ws[i]?) = (isR.filterMap (fun i => ws[i]?)).map some) (hn : va_nd isR = true) (hdis : ∀ i ∈ isR, i ∉ isC)
    (kk : ∀ (u : S) (H1 : Heap) (locs1 : List Loc), va_P D cl (isR.filterMap (fun i => ws[i]?) ++ Bw u) H1 → va_D A (isR.filterMap (fun i => ws[i]?) ++ Bw u) → va_S A s.heap H1 locs1 → W p l e R s m args below meth c H1 locs1 (cells + mc) (slots + ms) Q (F0 m (pc + 3) ls rest)) : W p l e R s m args below meth c H locs cells slots Q (F0 m pc ls st0) := by
  have hFc := va_free (wc := wc) hD hS hA isC hC
  refine va_callv hr hS (fun q _ h => hFc q h) hFc (fun u t H1 locs1 ht hvm hw hB hz1 hk1 hS1 => ?_)
  obtain ⟨hP1, hK1, hD1⟩ := hB
  rw [ht] at hP1
  obtain ⟨hP2, hD2⟩ := va_join hP hD isC isR hC hR hn hdis hk1 hFc hP1 hD1
  exact kk u H1 locs1 hP2 hD2 hS1
end NEWI

set_option maxRecDepth 100000 in
set_option maxHeartbeats 4000000 in
theorem c_PAT_init (l : Launch) (dC : Nat → ClassId) (dI : Nat → Nat → Nat) (cI : ClassId) (tS : Nat → Nat) (sz : Nat) (a_pat : Nat) : Met l y_PAT_init ws_PAT_init ({ frames := 1, cells := 1, slots := 400, locals := 14 }) (va_Pc [.ref a_pat] (preS (dC, dI) classes [(cI, .int)] tS [(a_pat, .inr (0, [.null, .int 0]))] sz)) (va_Qv (fun _ : Nat => True) (fun u t => posS (dC, dI) classes [(cI, .int)] [(a_pat, .inr (0, [.ref u, .int 0])), (u, .inl (cI, 400, .inl (fun _ => 0)))] (va_A [(a_pat, .inr (0, [.null, .int 0]))] sz) t) (va_A [(a_pat, .inr (0, [.null, .int 0]))] sz)) 1 400 (va_A [(a_pat, .inr (0, [.null, .int 0]))] sz) := by
  refine Met.ofW (cc := b_PAT_init) (maxL := 1) (ret := none) (by decide) rfl ?_
  intro p e s m args below meth c s₁ B hml hv
  obtain ⟨rfl, hsz, hP, hK, hD0, hst0⟩ := hv
  have hx := B.exec
  have hb := B.bytes
  have hr := B.returns
  have hts0 := atoms_spec (ws := ws_PAT_init) B.pre
  have hts : ∀ w ∈ GW, w.before _ s = true := fun w h => hts0 w (List.mem_cons_of_mem _ h)
  have hown : s.vm.findClass R_PAT = some m.cls := findClass_of_methodNamed B.named
  have hlocks := B.notSynchronized
  have hin : meth.name = "<init>" := (name_of_methodNamed B.named B.method).1
  subst hsz
  have hD := hD0.self (sz := s.heap.size)
  generalize hAe : va_A [(a_pat, .inr (0, [.null, .int 0]))] s.heap.size = A at hD hst0 ⊢
  have hA : ∀ q : Nat, s.heap.size ≤ q → A q := fun q h => by rw [← hAe]; exact Or.inr h
  have hS : va_S A s.heap s.heap [] := va_S.rf
  have hl := lv_entry ([.ref a_pat]) (n := 1) (Nat.le_of_ble_eq_true rfl)
  rw [lg_entry_eq]
  generalize (lg_sl ([.ref a_pat]) ++ List.replicate (1 - (lg_sl ([.ref a_pat])).length) Slot.unset).toArray = ls at hl ⊢
  have hl : lv_has ls 1 [(0, .ref a_pat)] := hl
  refine lv_aload_n hx hb d_PAT_init_0 rfl (lv_at hl 0 rfl) ?_
  refine W.objInit hx hb hown (hts _ tw_406) (hts _ tw_407) (hts _ tw_408) rfl (by rw [hml]; exact hl.1) rfl d_PAT_init_1 (Nat.le_of_ble_eq_true rfl) (Nat.le_of_ble_eq_true rfl) ?_
  refine W.eq (g2 := F0 m 4 ls []) rfl ?_
  refine lv_aload_n hx hb d_PAT_init_4 rfl (lv_at hl 0 rfl) ?_
  refine lv_sipush (v := 400) hx hb d_PAT_init_5 (by decide) ?_
  refine newI hx hb (hts _ tw_409) hK hP hD hS hA (N' := 400) (by decide) (by decide) (by decide) (Nat.le_of_ble_eq_true rfl) (Nat.le_of_ble_eq_true rfl) d_PAT_init_8 (fun q1 H hP hD hS => ?_)
  refine W.widen (k := 1) (n := 400) (Nat.le_of_ble_eq_true rfl) (Nat.le_of_ble_eq_true rfl) ?_
  have hP : va_P (dC, dI) classes [(a_pat, .inr (0, [.null, .int 0])), (q1, .inl (cI, 400, .inl (fun _ => 0)))] H := hP
  have hD : va_D A [(a_pat, .inr (0, [.null, .int 0])), (q1, .inl (cI, 400, .inl (fun _ => 0)))] := hD
  refine va_putF (D := (dC, dI)) (ci := 0) (v := .ref q1) (ty := .array .int) (C := R_PAT) (T := F_PAT) (N := N_PAT) hx hb hts i_PAT ty_PAT ty_PAT_ok n_PAT hown hK hP hD hS 0 rfl rfl 0 (by decide) (hts _ tw_0) (fun _ h9 => h9) rfl hin rfl (ty_PAT_ok 0 (by decide)) rfl rfl (Nat.le_of_ble_eq_true rfl) d_PAT_init_10 (fun H locs hP hD hS => ?_)
  have hP : va_P (dC, dI) classes [(a_pat, .inr (0, [.ref q1, .int 0])), (q1, .inl (cI, 400, .inl (fun _ => 0)))] H := hP
  have hD : va_D A [(a_pat, .inr (0, [.ref q1, .int 0])), (q1, .inl (cI, 400, .inl (fun _ => 0)))] := hD
  refine lv_aload_n hx hb d_PAT_init_13 rfl (lv_at hl 0 rfl) ?_
  refine lv_iconst (v := 0) hx hb d_PAT_init_14 (by decide) ?_
  refine va_put (D := (dC, dI)) (ci := 0) (v := .int 0) (ty := .int) (C := R_PAT) (T := F_PAT) (N := N_PAT) hx hb hts i_PAT ty_PAT ty_PAT_ok n_PAT hown hK hP hD hS 0 rfl rfl 1 (by decide) (hts _ tw_1) (fun _ h9 => h9) rfl (ty_PAT_ok 1 (by decide)) rfl rfl (Nat.le_of_ble_eq_true rfl) d_PAT_init_15 (fun H locs hP hD hS => ?_)
  have hP : va_P (dC, dI) classes [(a_pat, .inr (0, [.ref q1, .int 0])), (q1, .inl (cI, 400, .inl (fun _ => 0)))] H := hP
  have hD : va_D A [(a_pat, .inr (0, [.ref q1, .int 0])), (q1, .inl (cI, 400, .inl (fun _ => 0)))] := hD
  exact W.vret hx hb hr (fun t ht hW => ⟨⟨q1, rfl, trivial, ⟨by rw [ht]; exact hP, va_K.moved hW.alike hK, hD⟩⟩, hS.F ht⟩) hS.2.2 d_PAT_init_18
set_option maxRecDepth 100000 in
set_option maxHeartbeats 4000000 in
theorem c_MIS_init (l : Launch) (dC : Nat → ClassId) (dI : Nat → Nat → Nat) (cI : ClassId) (tS : Nat → Nat) (sz : Nat) (a_mis : Nat) : Met l y_MIS_init ws_MIS_init ({ frames := 1, cells := 0, slots := 0, locals := 14 }) (va_Pc [.ref a_mis] (preS (dC, dI) classes [(cI, .int)] tS [(a_mis, .inr (1, [.int 0, .int 0]))] sz)) (va_Qv (fun _ : Unit => True) (fun u t => posS (dC, dI) classes [(cI, .int)] [(a_mis, .inr (1, [.int 0, .int (-1)]))] (va_A [(a_mis, .inr (1, [.int 0, .int 0]))] sz) t) (va_A [(a_mis, .inr (1, [.int 0, .int 0]))] sz)) 0 0 (va_A [(a_mis, .inr (1, [.int 0, .int 0]))] sz) := by
  refine Met.ofW (cc := b_MIS_init) (maxL := 1) (ret := none) (by decide) rfl ?_
  intro p e s m args below meth c s₁ B hml hv
  obtain ⟨rfl, hsz, hP, hK, hD0, hst0⟩ := hv
  have hx := B.exec
  have hb := B.bytes
  have hr := B.returns
  have hts0 := atoms_spec (ws := ws_MIS_init) B.pre
  have hts : ∀ w ∈ GW, w.before _ s = true := fun w h => hts0 w (List.mem_cons_of_mem _ h)
  have hown : s.vm.findClass R_MIS = some m.cls := findClass_of_methodNamed B.named
  have hlocks := B.notSynchronized
  have hin : meth.name = "<init>" := (name_of_methodNamed B.named B.method).1
  subst hsz
  have hD := hD0.self (sz := s.heap.size)
  generalize hAe : va_A [(a_mis, .inr (1, [.int 0, .int 0]))] s.heap.size = A at hD hst0 ⊢
  have hA : ∀ q : Nat, s.heap.size ≤ q → A q := fun q h => by rw [← hAe]; exact Or.inr h
  have hS : va_S A s.heap s.heap [] := va_S.rf
  have hl := lv_entry ([.ref a_mis]) (n := 1) (Nat.le_of_ble_eq_true rfl)
  rw [lg_entry_eq]
  generalize (lg_sl ([.ref a_mis]) ++ List.replicate (1 - (lg_sl ([.ref a_mis])).length) Slot.unset).toArray = ls at hl ⊢
  have hl : lv_has ls 1 [(0, .ref a_mis)] := hl
  refine lv_aload_n hx hb d_MIS_init_0 rfl (lv_at hl 0 rfl) ?_
  refine W.objInit hx hb hown (hts _ tw_410) (hts _ tw_407) (hts _ tw_408) rfl (by rw [hml]; exact hl.1) rfl d_MIS_init_1 (Nat.le_of_ble_eq_true rfl) (Nat.le_of_ble_eq_true rfl) ?_
  refine W.eq (g2 := F0 m 4 ls []) rfl ?_
  refine lv_aload_n hx hb d_MIS_init_4 rfl (lv_at hl 0 rfl) ?_
  refine lv_iconst (v := 0) hx hb d_MIS_init_5 (by decide) ?_
  refine va_put (D := (dC, dI)) (ci := 1) (v := .int 0) (ty := .int) (C := R_MIS) (T := F_MIS) (N := N_MIS) hx hb hts i_MIS ty_MIS ty_MIS_ok n_MIS hown hK hP hD hS 0 rfl rfl 0 (by decide) (hts _ tw_8) (fun _ h9 => h9) rfl (ty_MIS_ok 0 (by decide)) rfl rfl (Nat.le_of_ble_eq_true rfl) d_MIS_init_6 (fun H locs hP hD hS => ?_)
  have hP : va_P (dC, dI) classes [(a_mis, .inr (1, [.int 0, .int 0]))] H := hP
  have hD : va_D A [(a_mis, .inr (1, [.int 0, .int 0]))] := hD
  refine lv_aload_n hx hb d_MIS_init_9 rfl (lv_at hl 0 rfl) ?_
  refine lv_iconst (v := (-1)) hx hb d_MIS_init_10 (by decide) ?_
  refine va_put (D := (dC, dI)) (ci := 1) (v := .int (-1)) (ty := .int) (C := R_MIS) (T := F_MIS) (N := N_MIS) hx hb hts i_MIS ty_MIS ty_MIS_ok n_MIS hown hK hP hD hS 0 rfl rfl 1 (by decide) (hts _ tw_9) (fun _ h9 => h9) rfl (ty_MIS_ok 1 (by decide)) rfl rfl (Nat.le_of_ble_eq_true rfl) d_MIS_init_11 (fun H locs hP hD hS => ?_)
  have hP : va_P (dC, dI) classes [(a_mis, .inr (1, [.int 0, .int (-1)]))] H := hP
  have hD : va_D A [(a_mis, .inr (1, [.int 0, .int (-1)]))] := hD
  exact W.vret hx hb hr (fun t ht hW => ⟨⟨(), rfl, trivial, ⟨by rw [ht]; exact hP, va_K.moved hW.alike hK, hD⟩⟩, hS.F ht⟩) hS.2.2 d_MIS_init_14
set_option maxRecDepth 100000 in
set_option maxHeartbeats 4000000 in
theorem c_TRE_init (l : Launch) (dC : Nat → ClassId) (dI : Nat → Nat → Nat) (cI : ClassId) (tS : Nat → Nat) (sz : Nat) (a_tre : Nat) : Met l y_TRE_init ws_TRE_init ({ frames := 1, cells := 10, slots := 7296, locals := 14 }) (va_Pc [.ref a_tre] (preS (dC, dI) classes [(cI, .int)] tS [(a_tre, .inr (3, [.null, .null, .null, .null, .null, .null, .null, .null, .null, .null, .int 0, .int 0, .int 0]))] sz)) (va_Qv (fun _ : Nat × Nat × Nat × Nat × Nat × Nat × Nat × Nat × Nat × Nat => True) (fun u t => posS (dC, dI) classes [(cI, .int)] [(a_tre, .inr (3, [.ref u.1, .ref u.2.1, .ref u.2.2.1, .ref u.2.2.2.1, .ref u.2.2.2.2.1, .ref u.2.2.2.2.2.1, .ref u.2.2.2.2.2.2.1, .ref u.2.2.2.2.2.2.2.1, .ref u.2.2.2.2.2.2.2.2.1, .ref u.2.2.2.2.2.2.2.2.2, .int 0, .int 0, .int 0])), (u.1, .inl (cI, 512, .inl (fun _ => 0))), (u.2.1, .inl (cI, 512, .inl (fun _ => 0))), (u.2.2.1, .inl (cI, 512, .inl (fun _ => 0))), (u.2.2.2.1, .inl (cI, 512, .inl (fun _ => 0))), (u.2.2.2.2.1, .inl (cI, 512, .inl (fun _ => 0))), (u.2.2.2.2.2.1, .inl (cI, 512, .inl (fun _ => 0))), (u.2.2.2.2.2.2.1, .inl (cI, 512, .inl (fun _ => 0))), (u.2.2.2.2.2.2.2.1, .inl (cI, 1600, .inl (fun _ => 0))), (u.2.2.2.2.2.2.2.2.1, .inl (cI, 1600, .inl (fun _ => 0))), (u.2.2.2.2.2.2.2.2.2, .inl (cI, 512, .inl (fun _ => 0)))] (va_A [(a_tre, .inr (3, [.null, .null, .null, .null, .null, .null, .null, .null, .null, .null, .int 0, .int 0, .int 0]))] sz) t) (va_A [(a_tre, .inr (3, [.null, .null, .null, .null, .null, .null, .null, .null, .null, .null, .int 0, .int 0, .int 0]))] sz)) 10 7296 (va_A [(a_tre, .inr (3, [.null, .null, .null, .null, .null, .null, .null, .null, .null, .null, .int 0, .int 0, .int 0]))] sz) := by
  refine Met.ofW (cc := b_TRE_init) (maxL := 1) (ret := none) (by decide) rfl ?_
  intro p e s m args below meth c s₁ B hml hv
  obtain ⟨rfl, hsz, hP, hK, hD0, hst0⟩ := hv
  have hx := B.exec
  have hb := B.bytes
  have hr := B.returns
  have hts0 := atoms_spec (ws := ws_TRE_init) B.pre
  have hts : ∀ w ∈ GW, w.before _ s = true := fun w h => hts0 w (List.mem_cons_of_mem _ h)
  have hown : s.vm.findClass R_TRE = some m.cls := findClass_of_methodNamed B.named
  have hlocks := B.notSynchronized
  have hin : meth.name = "<init>" := (name_of_methodNamed B.named B.method).1
  subst hsz
  have hD := hD0.self (sz := s.heap.size)
  generalize hAe : va_A [(a_tre, .inr (3, [.null, .null, .null, .null, .null, .null, .null, .null, .null, .null, .int 0, .int 0, .int 0]))] s.heap.size = A at hD hst0 ⊢
  have hA : ∀ q : Nat, s.heap.size ≤ q → A q := fun q h => by rw [← hAe]; exact Or.inr h
  have hS : va_S A s.heap s.heap [] := va_S.rf
  have hl := lv_entry ([.ref a_tre]) (n := 1) (Nat.le_of_ble_eq_true rfl)
  rw [lg_entry_eq]
  generalize (lg_sl ([.ref a_tre]) ++ List.replicate (1 - (lg_sl ([.ref a_tre])).length) Slot.unset).toArray = ls at hl ⊢
  have hl : lv_has ls 1 [(0, .ref a_tre)] := hl
  refine lv_aload_n hx hb d_TRE_init_0 rfl (lv_at hl 0 rfl) ?_
  refine W.objInit hx hb hown (hts _ tw_411) (hts _ tw_407) (hts _ tw_408) rfl (by rw [hml]; exact hl.1) rfl d_TRE_init_1 (Nat.le_of_ble_eq_true rfl) (Nat.le_of_ble_eq_true rfl) ?_
  refine W.eq (g2 := F0 m 4 ls []) rfl ?_
  refine lv_aload_n hx hb d_TRE_init_4 rfl (lv_at hl 0 rfl) ?_
  refine lv_sipush (v := 512) hx hb d_TRE_init_5 (by decide) ?_
  refine newI hx hb (hts _ tw_409) hK hP hD hS hA (N' := 512) (by decide) (by decide) (by decide) (Nat.le_of_ble_eq_true rfl) (Nat.le_of_ble_eq_true rfl) d_TRE_init_8 (fun q1 H hP hD hS => ?_)
  refine W.widen (k := 1) (n := 512) (Nat.le_of_ble_eq_true rfl) (Nat.le_of_ble_eq_true rfl) ?_
  have hP : va_P (dC, dI) classes [(a_tre, .inr (3, [.null, .null, .null, .null, .null, .null, .null, .null, .null, .null, .int 0, .int 0, .int 0])), (q1, .inl (cI, 512, .inl (fun _ => 0)))] H := hP
  have hD : va_D A [(a_tre, .inr (3, [.null, .null, .null, .null, .null, .null, .null, .null, .null, .null, .int 0, .int 0, .int 0])), (q1, .inl (cI, 512, .inl (fun _ => 0)))] := hD
  refine va_putF (D := (dC, dI)) (ci := 3) (v := .ref q1) (ty := .array .int) (C := R_TRE) (T := F_TRE) (N := N_TRE) hx hb hts i_TRE ty_TRE ty_TRE_ok n_TRE hown hK hP hD hS 0 rfl rfl 0 (by decide) (hts _ tw_54) (fun _ h9 => h9) rfl hin rfl (ty_TRE_ok 0 (by decide)) rfl rfl (Nat.le_of_ble_eq_true rfl) d_TRE_init_10 (fun H locs hP hD hS => ?_)
  have hP : va_P (dC, dI) classes [(a_tre, .inr (3, [.ref q1, .null, .null, .null, .null, .null, .null, .null, .null, .null, .int 0, .int 0, .int 0])), (q1, .inl (cI, 512, .inl (fun _ => 0)))] H := hP
  have hD : va_D A [(a_tre, .inr (3, [.ref q1, .null, .null, .null, .null, .null, .null, .null, .null, .null, .int 0, .int 0, .int 0])), (q1, .inl (cI, 512, .inl (fun _ => 0)))] := hD
  refine lv_aload_n hx hb d_TRE_init_13 rfl (lv_at hl 0 rfl) ?_
  refine lv_sipush (v := 512) hx hb d_TRE_init_14 (by decide) ?_
  refine newI hx hb (hts _ tw_409) hK hP hD hS hA (N' := 512) (by decide) (by decide) (by decide) (Nat.le_of_ble_eq_true rfl) (Nat.le_of_ble_eq_true rfl) d_TRE_init_17 (fun q2 H hP hD hS => ?_)
  refine W.widen (k := 2) (n := 1024) (Nat.le_of_ble_eq_true rfl) (Nat.le_of_ble_eq_true rfl) ?_
  have hP : va_P (dC, dI) classes [(a_tre, .inr (3, [.ref q1, .null, .null, .null, .null, .null, .null, .null, .null, .null, .int 0, .int 0, .int 0])), (q1, .inl (cI, 512, .inl (fun _ => 0))), (q2, .inl (cI, 512, .inl (fun _ => 0)))] H := hP
  have hD : va_D A [(a_tre, .inr (3, [.ref q1, .null, .null, .null, .null, .null, .null, .null, .null, .null, .int 0, .int 0, .int 0])), (q1, .inl (cI, 512, .inl (fun _ => 0))), (q2, .inl (cI, 512, .inl (fun _ => 0)))] := hD
  refine va_putF (D := (dC, dI)) (ci := 3) (v := .ref q2) (ty := .array .int) (C := R_TRE) (T := F_TRE) (N := N_TRE) hx hb hts i_TRE ty_TRE ty_TRE_ok n_TRE hown hK hP hD hS 0 rfl rfl 1 (by decide) (hts _ tw_55) (fun _ h9 => h9) rfl hin rfl (ty_TRE_ok 1 (by decide)) rfl rfl (Nat.le_of_ble_eq_true rfl) d_TRE_init_19 (fun H locs hP hD hS => ?_)
  have hP : va_P (dC, dI) classes [(a_tre, .inr (3, [.ref q1, .ref q2, .null, .null, .null, .null, .null, .null, .null, .null, .int 0, .int 0, .int 0])), (q1, .inl (cI, 512, .inl (fun _ => 0))), (q2, .inl (cI, 512, .inl (fun _ => 0)))] H := hP
  have hD : va_D A [(a_tre, .inr (3, [.ref q1, .ref q2, .null, .null, .null, .null, .null, .null, .null, .null, .int 0, .int 0, .int 0])), (q1, .inl (cI, 512, .inl (fun _ => 0))), (q2, .inl (cI, 512, .inl (fun _ => 0)))] := hD
  refine lv_aload_n hx hb d_TRE_init_22 rfl (lv_at hl 0 rfl) ?_
  refine lv_sipush (v := 512) hx hb d_TRE_init_23 (by decide) ?_
  refine newI hx hb (hts _ tw_409) hK hP hD hS hA (N' := 512) (by decide) (by decide) (by decide) (Nat.le_of_ble_eq_true rfl) (Nat.le_of_ble_eq_true rfl) d_TRE_init_26 (fun q3 H hP hD hS => ?_)
  refine W.widen (k := 3) (n := 1536) (Nat.le_of_ble_eq_true rfl) (Nat.le_of_ble_eq_true rfl) ?_
  have hP : va_P (dC, dI) classes [(a_tre, .inr (3, [.ref q1, .ref q2, .null, .null, .null, .null, .null, .null, .null, .null, .int 0, .int 0, .int 0])), (q1, .inl (cI, 512, .inl (fun _ => 0))), (q2, .inl (cI, 512, .inl (fun _ => 0))), (q3, .inl (cI, 512, .inl (fun _ => 0)))] H := hP
  have hD : va_D A [(a_tre, .inr (3, [.ref q1, .ref q2, .null, .null, .null, .null, .null, .null, .null, .null, .int 0, .int 0, .int 0])), (q1, .inl (cI, 512, .inl (fun _ => 0))), (q2, .inl (cI, 512, .inl (fun _ => 0))), (q3, .inl (cI, 512, .inl (fun _ => 0)))] := hD
  refine va_putF (D := (dC, dI)) (ci := 3) (v := .ref q3) (ty := .array .int) (C := R_TRE) (T := F_TRE) (N := N_TRE) hx hb hts i_TRE ty_TRE ty_TRE_ok n_TRE hown hK hP hD hS 0 rfl rfl 2 (by decide) (hts _ tw_56) (fun _ h9 => h9) rfl hin rfl (ty_TRE_ok 2 (by decide)) rfl rfl (Nat.le_of_ble_eq_true rfl) d_TRE_init_28 (fun H locs hP hD hS => ?_)
  have hP : va_P (dC, dI) classes [(a_tre, .inr (3, [.ref q1, .ref q2, .ref q3, .null, .null, .null, .null, .null, .null, .null, .int 0, .int 0, .int 0])), (q1, .inl (cI, 512, .inl (fun _ => 0))), (q2, .inl (cI, 512, .inl (fun _ => 0))), (q3, .inl (cI, 512, .inl (fun _ => 0)))] H := hP
  have hD : va_D A [(a_tre, .inr (3, [.ref q1, .ref q2, .ref q3, .null, .null, .null, .null, .null, .null, .null, .int 0, .int 0, .int 0])), (q1, .inl (cI, 512, .inl (fun _ => 0))), (q2, .inl (cI, 512, .inl (fun _ => 0))), (q3, .inl (cI, 512, .inl (fun _ => 0)))] := hD
  refine lv_aload_n hx hb d_TRE_init_31 rfl (lv_at hl 0 rfl) ?_
  refine lv_sipush (v := 512) hx hb d_TRE_init_32 (by decide) ?_
  refine newI hx hb (hts _ tw_409) hK hP hD hS hA (N' := 512) (by decide) (by decide) (by decide) (Nat.le_of_ble_eq_true rfl) (Nat.le_of_ble_eq_true rfl) d_TRE_init_35 (fun q4 H hP hD hS => ?_)
  refine W.widen (k := 4) (n := 2048) (Nat.le_of_ble_eq_true rfl) (Nat.le_of_ble_eq_true rfl) ?_
  have hP : va_P (dC, dI) classes [(a_tre, .inr (3, [.ref q1, .ref q2, .ref q3, .null, .null, .null, .null, .null, .null, .null, .int 0, .int 0, .int 0])), (q1, .inl (cI, 512, .inl (fun _ => 0))), (q2, .inl (cI, 512, .inl (fun _ => 0))), (q3, .inl (cI, 512, .inl (fun _ => 0))), (q4, .inl (cI, 512, .inl (fun _ => 0)))] H := hP
  have hD : va_D A [(a_tre, .inr (3, [.ref q1, .ref q2, .ref q3, .null, .null, .null, .null, .null, .null, .null, .int 0, .int 0, .int 0])), (q1, .inl (cI, 512, .inl (fun _ => 0))), (q2, .inl (cI, 512, .inl (fun _ => 0))), (q3, .inl (cI, 512, .inl (fun _ => 0))), (q4, .inl (cI, 512, .inl (fun _ => 0)))] := hD
  refine va_putF (D := (dC, dI)) (ci := 3) (v := .ref q4) (ty := .array .int) (C := R_TRE) (T := F_TRE) (N := N_TRE) hx hb hts i_TRE ty_TRE ty_TRE_ok n_TRE hown hK hP hD hS 0 rfl rfl 3 (by decide) (hts _ tw_57) (fun _ h9 => h9) rfl hin rfl (ty_TRE_ok 3 (by decide)) rfl rfl (Nat.le_of_ble_eq_true rfl) d_TRE_init_37 (fun H locs hP hD hS => ?_)
  have hP : va_P (dC, dI) classes [(a_tre, .inr (3, [.ref q1, .ref q2, .ref q3, .ref q4, .null, .null, .null, .null, .null, .null, .int 0, .int 0, .int 0])), (q1, .inl (cI, 512, .inl (fun _ => 0))), (q2, .inl (cI, 512, .inl (fun _ => 0))), (q3, .inl (cI, 512, .inl (fun _ => 0))), (q4, .inl (cI, 512, .inl (fun _ => 0)))] H := hP
  have hD : va_D A [(a_tre, .inr (3, [.ref q1, .ref q2, .ref q3, .ref q4, .null, .null, .null, .null, .null, .null, .int 0, .int 0, .int 0])), (q1, .inl (cI, 512, .inl (fun _ => 0))), (q2, .inl (cI, 512, .inl (fun _ => 0))), (q3, .inl (cI, 512, .inl (fun _ => 0))), (q4, .inl (cI, 512, .inl (fun _ => 0)))] := hD
  refine lv_aload_n hx hb d_TRE_init_40 rfl (lv_at hl 0 rfl) ?_
  refine lv_sipush (v := 512) hx hb d_TRE_init_41 (by decide) ?_
  refine newI hx hb (hts _ tw_409) hK hP hD hS hA (N' := 512) (by decide) (by decide) (by decide) (Nat.le_of_ble_eq_true rfl) (Nat.le_of_ble_eq_true rfl) d_TRE_init_44 (fun q5 H hP hD hS => ?_)
  refine W.widen (k := 5) (n := 2560) (Nat.le_of_ble_eq_true rfl) (Nat.le_of_ble_eq_true rfl) ?_
  have hP : va_P (dC, dI) classes [(a_tre, .inr (3, [.ref q1, .ref q2, .ref q3, .ref q4, .null, .null, .null, .null, .null, .null, .int 0, .int 0, .int 0])), (q1, .inl (cI, 512, .inl (fun _ => 0))), (q2, .inl (cI, 512, .inl (fun _ => 0))), (q3, .inl (cI, 512, .inl (fun _ => 0))), (q4, .inl (cI, 512, .inl (fun _ => 0))), (q5, .inl (cI, 512, .inl (fun _ => 0)))] H := hP
  have hD : va_D A [(a_tre, .inr (3, [.ref q1, .ref q2, .ref q3, .ref q4, .null, .null, .null, .null, .null, .null, .int 0, .int 0, .int 0])), (q1, .inl (cI, 512, .inl (fun _ => 0))), (q2, .inl (cI, 512, .inl (fun _ => 0))), (q3, .inl (cI, 512, .inl (fun _ => 0))), (q4, .inl (cI, 512, .inl (fun _ => 0))), (q5, .inl (cI, 512, .inl (fun _ => 0)))] := hD
  refine va_putF (D := (dC, dI)) (ci := 3) (v := .ref q5) (ty := .array .int) (C := R_TRE) (T := F_TRE) (N := N_TRE) hx hb hts i_TRE ty_TRE ty_TRE_ok n_TRE hown hK hP hD hS 0 rfl rfl 4 (by decide) (hts _ tw_47) (fun _ h9 => h9) rfl hin rfl (ty_TRE_ok 4 (by decide)) rfl rfl (Nat.le_of_ble_eq_true rfl) d_TRE_init_46 (fun H locs hP hD hS => ?_)
  have hP : va_P (dC, dI) classes [(a_tre, .inr (3, [.ref q1, .ref q2, .ref q3, .ref q4, .ref q5, .null, .null, .null, .null, .null, .int 0, .int 0, .int 0])), (q1, .inl (cI, 512, .inl (fun _ => 0))), (q2, .inl (cI, 512, .inl (fun _ => 0))), (q3, .inl (cI, 512, .inl (fun _ => 0))), (q4, .inl (cI, 512, .inl (fun _ => 0))), (q5, .inl (cI, 512, .inl (fun _ => 0)))] H := hP
  have hD : va_D A [(a_tre, .inr (3, [.ref q1, .ref q2, .ref q3, .ref q4, .ref q5, .null, .null, .null, .null, .null, .int 0, .int 0, .int 0])), (q1, .inl (cI, 512, .inl (fun _ => 0))), (q2, .inl (cI, 512, .inl (fun _ => 0))), (q3, .inl (cI, 512, .inl (fun _ => 0))), (q4, .inl (cI, 512, .inl (fun _ => 0))), (q5, .inl (cI, 512, .inl (fun _ => 0)))] := hD
  refine lv_aload_n hx hb d_TRE_init_49 rfl (lv_at hl 0 rfl) ?_
  refine lv_sipush (v := 512) hx hb d_TRE_init_50 (by decide) ?_
  refine newI hx hb (hts _ tw_409) hK hP hD hS hA (N' := 512) (by decide) (by decide) (by decide) (Nat.le_of_ble_eq_true rfl) (Nat.le_of_ble_eq_true rfl) d_TRE_init_53 (fun q6 H hP hD hS => ?_)
  refine W.widen (k := 6) (n := 3072) (Nat.le_of_ble_eq_true rfl) (Nat.le_of_ble_eq_true rfl) ?_
  have hP : va_P (dC, dI) classes [(a_tre, .inr (3, [.ref q1, .ref q2, .ref q3, .ref q4, .ref q5, .null, .null, .null, .null, .null, .int 0, .int 0, .int 0])), (q1, .inl (cI, 512, .inl (fun _ => 0))), (q2, .inl (cI, 512, .inl (fun _ => 0))), (q3, .inl (cI, 512, .inl (fun _ => 0))), (q4, .inl (cI, 512, .inl (fun _ => 0))), (q5, .inl (cI, 512, .inl (fun _ => 0))), (q6, .inl (cI, 512, .inl (fun _ => 0)))] H := hP
  have hD : va_D A [(a_tre, .inr (3, [.ref q1, .ref q2, .ref q3, .ref q4, .ref q5, .null, .null, .null, .null, .null, .int 0, .int 0, .int 0])), (q1, .inl (cI, 512, .inl (fun _ => 0))), (q2, .inl (cI, 512, .inl (fun _ => 0))), (q3, .inl (cI, 512, .inl (fun _ => 0))), (q4, .inl (cI, 512, .inl (fun _ => 0))), (q5, .inl (cI, 512, .inl (fun _ => 0))), (q6, .inl (cI, 512, .inl (fun _ => 0)))] := hD
  refine va_putF (D := (dC, dI)) (ci := 3) (v := .ref q6) (ty := .array .int) (C := R_TRE) (T := F_TRE) (N := N_TRE) hx hb hts i_TRE ty_TRE ty_TRE_ok n_TRE hown hK hP hD hS 0 rfl rfl 5 (by decide) (hts _ tw_58) (fun _ h9 => h9) rfl hin rfl (ty_TRE_ok 5 (by decide)) rfl rfl (Nat.le_of_ble_eq_true rfl) d_TRE_init_55 (fun H locs hP hD hS => ?_)
  have hP : va_P (dC, dI) classes [(a_tre, .inr (3, [.ref q1, .ref q2, .ref q3, .ref q4, .ref q5, .ref q6, .null, .null, .null, .null, .int 0, .int 0, .int 0])), (q1, .inl (cI, 512, .inl (fun _ => 0))), (q2, .inl (cI, 512, .inl (fun _ => 0))), (q3, .inl (cI, 512, .inl (fun _ => 0))), (q4, .inl (cI, 512, .inl (fun _ => 0))), (q5, .inl (cI, 512, .inl (fun _ => 0))), (q6, .inl (cI, 512, .inl (fun _ => 0)))] H := hP
  have hD : va_D A [(a_tre, .inr (3, [.ref q1, .ref q2, .ref q3, .ref q4, .ref q5, .ref q6, .null, .null, .null, .null, .int 0, .int 0, .int 0])), (q1, .inl (cI, 512, .inl (fun _ => 0))), (q2, .inl (cI, 512, .inl (fun _ => 0))), (q3, .inl (cI, 512, .inl (fun _ => 0))), (q4, .inl (cI, 512, .inl (fun _ => 0))), (q5, .inl (cI, 512, .inl (fun _ => 0))), (q6, .inl (cI, 512, .inl (fun _ => 0)))] := hD
  refine lv_aload_n hx hb d_TRE_init_58 rfl (lv_at hl 0 rfl) ?_
  refine lv_sipush (v := 512) hx hb d_TRE_init_59 (by decide) ?_
  refine newI hx hb (hts _ tw_409) hK hP hD hS hA (N' := 512) (by decide) (by decide) (by decide) (Nat.le_of_ble_eq_true rfl) (Nat.le_of_ble_eq_true rfl) d_TRE_init_62 (fun q7 H hP hD hS => ?_)
  refine W.widen (k := 7) (n := 3584) (Nat.le_of_ble_eq_true rfl) (Nat.le_of_ble_eq_true rfl) ?_
  have hP : va_P (dC, dI) classes [(a_tre, .inr (3, [.ref q1, .ref q2, .ref q3, .ref q4, .ref q5, .ref q6, .null, .null, .null, .null, .int 0, .int 0, .int 0])), (q1, .inl (cI, 512, .inl (fun _ => 0))), (q2, .inl (cI, 512, .inl (fun _ => 0))), (q3, .inl (cI, 512, .inl (fun _ => 0))), (q4, .inl (cI, 512, .inl (fun _ => 0))), (q5, .inl (cI, 512, .inl (fun _ => 0))), (q6, .inl (cI, 512, .inl (fun _ => 0))), (q7, .inl (cI, 512, .inl (fun _ => 0)))] H := hP
  have hD : va_D A [(a_tre, .inr (3, [.ref q1, .ref q2, .ref q3, .ref q4, .ref q5, .ref q6, .null, .null, .null, .null, .int 0, .int 0, .int 0])), (q1, .inl (cI, 512, .inl (fun _ => 0))), (q2, .inl (cI, 512, .inl (fun _ => 0))), (q3, .inl (cI, 512, .inl (fun _ => 0))), (q4, .inl (cI, 512, .inl (fun _ => 0))), (q5, .inl (cI, 512, .inl (fun _ => 0))), (q6, .inl (cI, 512, .inl (fun _ => 0))), (q7, .inl (cI, 512, .inl (fun _ => 0)))] := hD
  refine va_putF (D := (dC, dI)) (ci := 3) (v := .ref q7) (ty := .array .int) (C := R_TRE) (T := F_TRE) (N := N_TRE) hx hb hts i_TRE ty_TRE ty_TRE_ok n_TRE hown hK hP hD hS 0 rfl rfl 6 (by decide) (hts _ tw_59) (fun _ h9 => h9) rfl hin rfl (ty_TRE_ok 6 (by decide)) rfl rfl (Nat.le_of_ble_eq_true rfl) d_TRE_init_64 (fun H locs hP hD hS => ?_)
  have hP : va_P (dC, dI) classes [(a_tre, .inr (3, [.ref q1, .ref q2, .ref q3, .ref q4, .ref q5, .ref q6, .ref q7, .null, .null, .null, .int 0, .int 0, .int 0])), (q1, .inl (cI, 512, .inl (fun _ => 0))), (q2, .inl (cI, 512, .inl (fun _ => 0))), (q3, .inl (cI, 512, .inl (fun _ => 0))), (q4, .inl (cI, 512, .inl (fun _ => 0))), (q5, .inl (cI, 512, .inl (fun _ => 0))), (q6, .inl (cI, 512, .inl (fun _ => 0))), (q7, .inl (cI, 512, .inl (fun _ => 0)))] H := hP
  have hD : va_D A [(a_tre, .inr (3, [.ref q1, .ref q2, .ref q3, .ref q4, .ref q5, .ref q6, .ref q7, .null, .null, .null, .int 0, .int 0, .int 0])), (q1, .inl (cI, 512, .inl (fun _ => 0))), (q2, .inl (cI, 512, .inl (fun _ => 0))), (q3, .inl (cI, 512, .inl (fun _ => 0))), (q4, .inl (cI, 512, .inl (fun _ => 0))), (q5, .inl (cI, 512, .inl (fun _ => 0))), (q6, .inl (cI, 512, .inl (fun _ => 0))), (q7, .inl (cI, 512, .inl (fun _ => 0)))] := hD
  refine lv_aload_n hx hb d_TRE_init_67 rfl (lv_at hl 0 rfl) ?_
  refine lv_sipush (v := 1600) hx hb d_TRE_init_68 (by decide) ?_
  refine newI hx hb (hts _ tw_409) hK hP hD hS hA (N' := 1600) (by decide) (by decide) (by decide) (Nat.le_of_ble_eq_true rfl) (Nat.le_of_ble_eq_true rfl) d_TRE_init_71 (fun q8 H hP hD hS => ?_)
  refine W.widen (k := 8) (n := 5184) (Nat.le_of_ble_eq_true rfl) (Nat.le_of_ble_eq_true rfl) ?_
  have hP : va_P (dC, dI) classes [(a_tre, .inr (3, [.ref q1, .ref q2, .ref q3, .ref q4, .ref q5, .ref q6, .ref q7, .null, .null, .null, .int 0, .int 0, .int 0])), (q1, .inl (cI, 512, .inl (fun _ => 0))), (q2, .inl (cI, 512, .inl (fun _ => 0))), (q3, .inl (cI, 512, .inl (fun _ => 0))), (q4, .inl (cI, 512, .inl (fun _ => 0))), (q5, .inl (cI, 512, .inl (fun _ => 0))), (q6, .inl (cI, 512, .inl (fun _ => 0))), (q7, .inl (cI, 512, .inl (fun _ => 0))), (q8, .inl (cI, 1600, .inl (fun _ => 0)))] H := hP
  have hD : va_D A [(a_tre, .inr (3, [.ref q1, .ref q2, .ref q3, .ref q4, .ref q5, .ref q6, .ref q7, .null, .null, .null, .int 0, .int 0, .int 0])), (q1, .inl (cI, 512, .inl (fun _ => 0))), (q2, .inl (cI, 512, .inl (fun _ => 0))), (q3, .inl (cI, 512, .inl (fun _ => 0))), (q4, .inl (cI, 512, .inl (fun _ => 0))), (q5, .inl (cI, 512, .inl (fun _ => 0))), (q6, .inl (cI, 512, .inl (fun _ => 0))), (q7, .inl (cI, 512, .inl (fun _ => 0))), (q8, .inl (cI, 1600, .inl (fun _ => 0)))] := hD
  refine va_putF (D := (dC, dI)) (ci := 3) (v := .ref q8) (ty := .array .int) (C := R_TRE) (T := F_TRE) (N := N_TRE) hx hb hts i_TRE ty_TRE ty_TRE_ok n_TRE hown hK hP hD hS 0 rfl rfl 7 (by decide) (hts _ tw_308) (fun _ h9 => h9) rfl hin rfl (ty_TRE_ok 7 (by decide)) rfl rfl (Nat.le_of_ble_eq_true rfl) d_TRE_init_73 (fun H locs hP hD hS => ?_)
  have hP : va_P (dC, dI) classes [(a_tre, .inr (3, [.ref q1, .ref q2, .ref q3, .ref q4, .ref q5, .ref q6, .ref q7, .ref q8, .null, .null, .int 0, .int 0, .int 0])), (q1, .inl (cI, 512, .inl (fun _ => 0))), (q2, .inl (cI, 512, .inl (fun _ => 0))), (q3, .inl (cI, 512, .inl (fun _ => 0))), (q4, .inl (cI, 512, .inl (fun _ => 0))), (q5, .inl (cI, 512, .inl (fun _ => 0))), (q6, .inl (cI, 512, .inl (fun _ => 0))), (q7, .inl (cI, 512, .inl (fun _ => 0))), (q8, .inl (cI, 1600, .inl (fun _ => 0)))] H := hP
  have hD : va_D A [(a_tre, .inr (3, [.ref q1, .ref q2, .ref q3, .ref q4, .ref q5, .ref q6, .ref q7, .ref q8, .null, .null, .int 0, .int 0, .int 0])), (q1, .inl (cI, 512, .inl (fun _ => 0))), (q2, .inl (cI, 512, .inl (fun _ => 0))), (q3, .inl (cI, 512, .inl (fun _ => 0))), (q4, .inl (cI, 512, .inl (fun _ => 0))), (q5, .inl (cI, 512, .inl (fun _ => 0))), (q6, .inl (cI, 512, .inl (fun _ => 0))), (q7, .inl (cI, 512, .inl (fun _ => 0))), (q8, .inl (cI, 1600, .inl (fun _ => 0)))] := hD
  refine lv_aload_n hx hb d_TRE_init_76 rfl (lv_at hl 0 rfl) ?_
  refine lv_sipush (v := 1600) hx hb d_TRE_init_77 (by decide) ?_
  refine newI hx hb (hts _ tw_409) hK hP hD hS hA (N' := 1600) (by decide) (by decide) (by decide) (Nat.le_of_ble_eq_true rfl) (Nat.le_of_ble_eq_true rfl) d_TRE_init_80 (fun q9 H hP hD hS => ?_)
  refine W.widen (k := 9) (n := 6784) (Nat.le_of_ble_eq_true rfl) (Nat.le_of_ble_eq_true rfl) ?_
  have hP : va_P (dC, dI) classes [(a_tre, .inr (3, [.ref q1, .ref q2, .ref q3, .ref q4, .ref q5, .ref q6, .ref q7, .ref q8, .null, .null, .int 0, .int 0, .int 0])), (q1, .inl (cI, 512, .inl (fun _ => 0))), (q2, .inl (cI, 512, .inl (fun _ => 0))), (q3, .inl (cI, 512, .inl (fun _ => 0))), (q4, .inl (cI, 512, .inl (fun _ => 0))), (q5, .inl (cI, 512, .inl (fun _ => 0))), (q6, .inl (cI, 512, .inl (fun _ => 0))), (q7, .inl (cI, 512, .inl (fun _ => 0))), (q8, .inl (cI, 1600, .inl (fun _ => 0))), (q9, .inl (cI, 1600, .inl (fun _ => 0)))] H := hP
  have hD : va_D A [(a_tre, .inr (3, [.ref q1, .ref q2, .ref q3, .ref q4, .ref q5, .ref q6, .ref q7, .ref q8, .null, .null, .int 0, .int 0, .int 0])), (q1, .inl (cI, 512, .inl (fun _ => 0))), (q2, .inl (cI, 512, .inl (fun _ => 0))), (q3, .inl (cI, 512, .inl (fun _ => 0))), (q4, .inl (cI, 512, .inl (fun _ => 0))), (q5, .inl (cI, 512, .inl (fun _ => 0))), (q6, .inl (cI, 512, .inl (fun _ => 0))), (q7, .inl (cI, 512, .inl (fun _ => 0))), (q8, .inl (cI, 1600, .inl (fun _ => 0))), (q9, .inl (cI, 1600, .inl (fun _ => 0)))] := hD
  refine va_putF (D := (dC, dI)) (ci := 3) (v := .ref q9) (ty := .array .int) (C := R_TRE) (T := F_TRE) (N := N_TRE) hx hb hts i_TRE ty_TRE ty_TRE_ok n_TRE hown hK hP hD hS 0 rfl rfl 8 (by decide) (hts _ tw_311) (fun _ h9 => h9) rfl hin rfl (ty_TRE_ok 8 (by decide)) rfl rfl (Nat.le_of_ble_eq_true rfl) d_TRE_init_82 (fun H locs hP hD hS => ?_)
  have hP : va_P (dC, dI) classes [(a_tre, .inr (3, [.ref q1, .ref q2, .ref q3, .ref q4, .ref q5, .ref q6, .ref q7, .ref q8, .ref q9, .null, .int 0, .int 0, .int 0])), (q1, .inl (cI, 512, .inl (fun _ => 0))), (q2, .inl (cI, 512, .inl (fun _ => 0))), (q3, .inl (cI, 512, .inl (fun _ => 0))), (q4, .inl (cI, 512, .inl (fun _ => 0))), (q5, .inl (cI, 512, .inl (fun _ => 0))), (q6, .inl (cI, 512, .inl (fun _ => 0))), (q7, .inl (cI, 512, .inl (fun _ => 0))), (q8, .inl (cI, 1600, .inl (fun _ => 0))), (q9, .inl (cI, 1600, .inl (fun _ => 0)))] H := hP
  have hD : va_D A [(a_tre, .inr (3, [.ref q1, .ref q2, .ref q3, .ref q4, .ref q5, .ref q6, .ref q7, .ref q8, .ref q9, .null, .int 0, .int 0, .int 0])), (q1, .inl (cI, 512, .inl (fun _ => 0))), (q2, .inl (cI, 512, .inl (fun _ => 0))), (q3, .inl (cI, 512, .inl (fun _ => 0))), (q4, .inl (cI, 512, .inl (fun _ => 0))), (q5, .inl (cI, 512, .inl (fun _ => 0))), (q6, .inl (cI, 512, .inl (fun _ => 0))), (q7, .inl (cI, 512, .inl (fun _ => 0))), (q8, .inl (cI, 1600, .inl (fun _ => 0))), (q9, .inl (cI, 1600, .inl (fun _ => 0)))] := hD
  refine lv_aload_n hx hb d_TRE_init_85 rfl (lv_at hl 0 rfl) ?_
  refine lv_sipush (v := 512) hx hb d_TRE_init_86 (by decide) ?_
  refine newI hx hb (hts _ tw_409) hK hP hD hS hA (N' := 512) (by decide) (by decide) (by decide) (Nat.le_of_ble_eq_true rfl) (Nat.le_of_ble_eq_true rfl) d_TRE_init_89 (fun q10 H hP hD hS => ?_)
  refine W.widen (k := 10) (n := 7296) (Nat.le_of_ble_eq_true rfl) (Nat.le_of_ble_eq_true rfl) ?_
  have hP : va_P (dC, dI) classes [(a_tre, .inr (3, [.ref q1, .ref q2, .ref q3, .ref q4, .ref q5, .ref q6, .ref q7, .ref q8, .ref q9, .null, .int 0, .int 0, .int 0])), (q1, .inl (cI, 512, .inl (fun _ => 0))), (q2, .inl (cI, 512, .inl (fun _ => 0))), (q3, .inl (cI, 512, .inl (fun _ => 0))), (q4, .inl (cI, 512, .inl (fun _ => 0))), (q5, .inl (cI, 512, .inl (fun _ => 0))), (q6, .inl (cI, 512, .inl (fun _ => 0))), (q7, .inl (cI, 512, .inl (fun _ => 0))), (q8, .inl (cI, 1600, .inl (fun _ => 0))), (q9, .inl (cI, 1600, .inl (fun _ => 0))), (q10, .inl (cI, 512, .inl (fun _ => 0)))] H := hP
  have hD : va_D A [(a_tre, .inr (3, [.ref q1, .ref q2, .ref q3, .ref q4, .ref q5, .ref q6, .ref q7, .ref q8, .ref q9, .null, .int 0, .int 0, .int 0])), (q1, .inl (cI, 512, .inl (fun _ => 0))), (q2, .inl (cI, 512, .inl (fun _ => 0))), (q3, .inl (cI, 512, .inl (fun _ => 0))), (q4, .inl (cI, 512, .inl (fun _ => 0))), (q5, .inl (cI, 512, .inl (fun _ => 0))), (q6, .inl (cI, 512, .inl (fun _ => 0))), (q7, .inl (cI, 512, .inl (fun _ => 0))), (q8, .inl (cI, 1600, .inl (fun _ => 0))), (q9, .inl (cI, 1600, .inl (fun _ => 0))), (q10, .inl (cI, 512, .inl (fun _ => 0)))] := hD
  refine va_putF (D := (dC, dI)) (ci := 3) (v := .ref q10) (ty := .array .int) (C := R_TRE) (T := F_TRE) (N := N_TRE) hx hb hts i_TRE ty_TRE ty_TRE_ok n_TRE hown hK hP hD hS 0 rfl rfl 9 (by decide) (hts _ tw_48) (fun _ h9 => h9) rfl hin rfl (ty_TRE_ok 9 (by decide)) rfl rfl (Nat.le_of_ble_eq_true rfl) d_TRE_init_91 (fun H locs hP hD hS => ?_)
  have hP : va_P (dC, dI) classes [(a_tre, .inr (3, [.ref q1, .ref q2, .ref q3, .ref q4, .ref q5, .ref q6, .ref q7, .ref q8, .ref q9, .ref q10, .int 0, .int 0, .int 0])), (q1, .inl (cI, 512, .inl (fun _ => 0))), (q2, .inl (cI, 512, .inl (fun _ => 0))), (q3, .inl (cI, 512, .inl (fun _ => 0))), (q4, .inl (cI, 512, .inl (fun _ => 0))), (q5, .inl (cI, 512, .inl (fun _ => 0))), (q6, .inl (cI, 512, .inl (fun _ => 0))), (q7, .inl (cI, 512, .inl (fun _ => 0))), (q8, .inl (cI, 1600, .inl (fun _ => 0))), (q9, .inl (cI, 1600, .inl (fun _ => 0))), (q10, .inl (cI, 512, .inl (fun _ => 0)))] H := hP
  have hD : va_D A [(a_tre, .inr (3, [.ref q1, .ref q2, .ref q3, .ref q4, .ref q5, .ref q6, .ref q7, .ref q8, .ref q9, .ref q10, .int 0, .int 0, .int 0])), (q1, .inl (cI, 512, .inl (fun _ => 0))), (q2, .inl (cI, 512, .inl (fun _ => 0))), (q3, .inl (cI, 512, .inl (fun _ => 0))), (q4, .inl (cI, 512, .inl (fun _ => 0))), (q5, .inl (cI, 512, .inl (fun _ => 0))), (q6, .inl (cI, 512, .inl (fun _ => 0))), (q7, .inl (cI, 512, .inl (fun _ => 0))), (q8, .inl (cI, 1600, .inl (fun _ => 0))), (q9, .inl (cI, 1600, .inl (fun _ => 0))), (q10, .inl (cI, 512, .inl (fun _ => 0)))] := hD
  refine lv_aload_n hx hb d_TRE_init_94 rfl (lv_at hl 0 rfl) ?_
  refine lv_iconst (v := 0) hx hb d_TRE_init_95 (by decide) ?_
  refine va_put (D := (dC, dI)) (ci := 3) (v := .int 0) (ty := .int) (C := R_TRE) (T := F_TRE) (N := N_TRE) hx hb hts i_TRE ty_TRE ty_TRE_ok n_TRE hown hK hP hD hS 0 rfl rfl 10 (by decide) (hts _ tw_10) (fun _ h9 => h9) rfl (ty_TRE_ok 10 (by decide)) rfl rfl (Nat.le_of_ble_eq_true rfl) d_TRE_init_96 (fun H locs hP hD hS => ?_)
  have hP : va_P (dC, dI) classes [(a_tre, .inr (3, [.ref q1, .ref q2, .ref q3, .ref q4, .ref q5, .ref q6, .ref q7, .ref q8, .ref q9, .ref q10, .int 0, .int 0, .int 0])), (q1, .inl (cI, 512, .inl (fun _ => 0))), (q2, .inl (cI, 512, .inl (fun _ => 0))), (q3, .inl (cI, 512, .inl (fun _ => 0))), (q4, .inl (cI, 512, .inl (fun _ => 0))), (q5, .inl (cI, 512, .inl (fun _ => 0))), (q6, .inl (cI, 512, .inl (fun _ => 0))), (q7, .inl (cI, 512, .inl (fun _ => 0))), (q8, .inl (cI, 1600, .inl (fun _ => 0))), (q9, .inl (cI, 1600, .inl (fun _ => 0))), (q10, .inl (cI, 512, .inl (fun _ => 0)))] H := hP
  have hD : va_D A [(a_tre, .inr (3, [.ref q1, .ref q2, .ref q3, .ref q4, .ref q5, .ref q6, .ref q7, .ref q8, .ref q9, .ref q10, .int 0, .int 0, .int 0])), (q1, .inl (cI, 512, .inl (fun _ => 0))), (q2, .inl (cI, 512, .inl (fun _ => 0))), (q3, .inl (cI, 512, .inl (fun _ => 0))), (q4, .inl (cI, 512, .inl (fun _ => 0))), (q5, .inl (cI, 512, .inl (fun _ => 0))), (q6, .inl (cI, 512, .inl (fun _ => 0))), (q7, .inl (cI, 512, .inl (fun _ => 0))), (q8, .inl (cI, 1600, .inl (fun _ => 0))), (q9, .inl (cI, 1600, .inl (fun _ => 0))), (q10, .inl (cI, 512, .inl (fun _ => 0)))] := hD
  refine lv_aload_n hx hb d_TRE_init_99 rfl (lv_at hl 0 rfl) ?_
  refine lv_iconst (v := 0) hx hb d_TRE_init_100 (by decide) ?_
  refine va_put (D := (dC, dI)) (ci := 3) (v := .int 0) (ty := .int) (C := R_TRE) (T := F_TRE) (N := N_TRE) hx hb hts i_TRE ty_TRE ty_TRE_ok n_TRE hown hK hP hD hS 0 rfl rfl 11 (by decide) (hts _ tw_11) (fun _ h9 => h9) rfl (ty_TRE_ok 11 (by decide)) rfl rfl (Nat.le_of_ble_eq_true rfl) d_TRE_init_101 (fun H locs hP hD hS => ?_)
  have hP : va_P (dC, dI) classes [(a_tre, .inr (3, [.ref q1, .ref q2, .ref q3, .ref q4, .ref q5, .ref q6, .ref q7, .ref q8, .ref q9, .ref q10, .int 0, .int 0, .int 0])), (q1, .inl (cI, 512, .inl (fun _ => 0))), (q2, .inl (cI, 512, .inl (fun _ => 0))), (q3, .inl (cI, 512, .inl (fun _ => 0))), (q4, .inl (cI, 512, .inl (fun _ => 0))), (q5, .inl (cI, 512, .inl (fun _ => 0))), (q6, .inl (cI, 512, .inl (fun _ => 0))), (q7, .inl (cI, 512, .inl (fun _ => 0))), (q8, .inl (cI, 1600, .inl (fun _ => 0))), (q9, .inl (cI, 1600, .inl (fun _ => 0))), (q10, .inl (cI, 512, .inl (fun _ => 0)))] H := hP
  have hD : va_D A [(a_tre, .inr (3, [.ref q1, .ref q2, .ref q3, .ref q4, .ref q5, .ref q6, .ref q7, .ref q8, .ref q9, .ref q10, .int 0, .int 0, .int 0])), (q1, .inl (cI, 512, .inl (fun _ => 0))), (q2, .inl (cI, 512, .inl (fun _ => 0))), (q3, .inl (cI, 512, .inl (fun _ => 0))), (q4, .inl (cI, 512, .inl (fun _ => 0))), (q5, .inl (cI, 512, .inl (fun _ => 0))), (q6, .inl (cI, 512, .inl (fun _ => 0))), (q7, .inl (cI, 512, .inl (fun _ => 0))), (q8, .inl (cI, 1600, .inl (fun _ => 0))), (q9, .inl (cI, 1600, .inl (fun _ => 0))), (q10, .inl (cI, 512, .inl (fun _ => 0)))] := hD
  refine lv_aload_n hx hb d_TRE_init_104 rfl (lv_at hl 0 rfl) ?_
  refine lv_iconst (v := 0) hx hb d_TRE_init_105 (by decide) ?_
  refine va_put (D := (dC, dI)) (ci := 3) (v := .int 0) (ty := .int) (C := R_TRE) (T := F_TRE) (N := N_TRE) hx hb hts i_TRE ty_TRE ty_TRE_ok n_TRE hown hK hP hD hS 0 rfl rfl 12 (by decide) (hts _ tw_12) (fun _ h9 => h9) rfl (ty_TRE_ok 12 (by decide)) rfl rfl (Nat.le_of_ble_eq_true rfl) d_TRE_init_106 (fun H locs hP hD hS => ?_)
  have hP : va_P (dC, dI) classes [(a_tre, .inr (3, [.ref q1, .ref q2, .ref q3, .ref q4, .ref q5, .ref q6, .ref q7, .ref q8, .ref q9, .ref q10, .int 0, .int 0, .int 0])), (q1, .inl (cI, 512, .inl (fun _ => 0))), (q2, .inl (cI, 512, .inl (fun _ => 0))), (q3, .inl (cI, 512, .inl (fun _ => 0))), (q4, .inl (cI, 512, .inl (fun _ => 0))), (q5, .inl (cI, 512, .inl (fun _ => 0))), (q6, .inl (cI, 512, .inl (fun _ => 0))), (q7, .inl (cI, 512, .inl (fun _ => 0))), (q8, .inl (cI, 1600, .inl (fun _ => 0))), (q9, .inl (cI, 1600, .inl (fun _ => 0))), (q10, .inl (cI, 512, .inl (fun _ => 0)))] H := hP
  have hD : va_D A [(a_tre, .inr (3, [.ref q1, .ref q2, .ref q3, .ref q4, .ref q5, .ref q6, .ref q7, .ref q8, .ref q9, .ref q10, .int 0, .int 0, .int 0])), (q1, .inl (cI, 512, .inl (fun _ => 0))), (q2, .inl (cI, 512, .inl (fun _ => 0))), (q3, .inl (cI, 512, .inl (fun _ => 0))), (q4, .inl (cI, 512, .inl (fun _ => 0))), (q5, .inl (cI, 512, .inl (fun _ => 0))), (q6, .inl (cI, 512, .inl (fun _ => 0))), (q7, .inl (cI, 512, .inl (fun _ => 0))), (q8, .inl (cI, 1600, .inl (fun _ => 0))), (q9, .inl (cI, 1600, .inl (fun _ => 0))), (q10, .inl (cI, 512, .inl (fun _ => 0)))] := hD
  exact W.vret hx hb hr (fun t ht hW => ⟨⟨(q1, q2, q3, q4, q5, q6, q7, q8, q9, q10), rfl, trivial, ⟨by rw [ht]; exact hP, va_K.moved hW.alike hK, hD⟩⟩, hS.F ht⟩) hS.2.2 d_TRE_init_109
set_option maxRecDepth 100000 in
set_option maxHeartbeats 4000000 in
theorem c_GRP_init (l : Launch) (dC : Nat → ClassId) (dI : Nat → Nat → Nat) (cI : ClassId) (tS : Nat → Nat) (sz : Nat) (a_grp : Nat) : Met l y_GRP_init ws_GRP_init ({ frames := 1, cells := 2, slots := 130, locals := 14 }) (va_Pc [.ref a_grp] (preS (dC, dI) classes [(cI, .int)] tS [(a_grp, .inr (4, [.null, .null, .int 0]))] sz)) (va_Qv (fun _ : Nat × Nat => True) (fun u t => posS (dC, dI) classes [(cI, .int)] [(a_grp, .inr (4, [.ref u.1, .ref u.2, .int 0])), (u.1, .inl (cI, 10, .inl (fun _ => 0))), (u.2, .inl (cI, 120, .inl (fun _ => 0)))] (va_A [(a_grp, .inr (4, [.null, .null, .int 0]))] sz) t) (va_A [(a_grp, .inr (4, [.null, .null, .int 0]))] sz)) 2 130 (va_A [(a_grp, .inr (4, [.null, .null, .int 0]))] sz) := by
  refine Met.ofW (cc := b_GRP_init) (maxL := 1) (ret := none) (by decide) rfl ?_
  intro p e s m args below meth c s₁ B hml hv
  obtain ⟨rfl, hsz, hP, hK, hD0, hst0⟩ := hv
  have hx := B.exec
  have hb := B.bytes
  have hr := B.returns
  have hts0 := atoms_spec (ws := ws_GRP_init) B.pre
  have hts : ∀ w ∈ GW, w.before _ s = true := fun w h => hts0 w (List.mem_cons_of_mem _ h)
  have hown : s.vm.findClass R_GRP = some m.cls := findClass_of_methodNamed B.named
  have hlocks := B.notSynchronized
  have hin : meth.name = "<init>" := (name_of_methodNamed B.named B.method).1
  subst hsz
  have hD := hD0.self (sz := s.heap.size)
  generalize hAe : va_A [(a_grp, .inr (4, [.null, .null, .int 0]))] s.heap.size = A at hD hst0 ⊢
  have hA : ∀ q : Nat, s.heap.size ≤ q → A q := fun q h => by rw [← hAe]; exact Or.inr h
  have hS : va_S A s.heap s.heap [] := va_S.rf
  have hl := lv_entry ([.ref a_grp]) (n := 1) (Nat.le_of_ble_eq_true rfl)
  rw [lg_entry_eq]
  generalize (lg_sl ([.ref a_grp]) ++ List.replicate (1 - (lg_sl ([.ref a_grp])).length) Slot.unset).toArray = ls at hl ⊢
  have hl : lv_has ls 1 [(0, .ref a_grp)] := hl
  refine lv_aload_n hx hb d_GRP_init_0 rfl (lv_at hl 0 rfl) ?_
  refine W.objInit hx hb hown (hts _ tw_412) (hts _ tw_407) (hts _ tw_408) rfl (by rw [hml]; exact hl.1) rfl d_GRP_init_1 (Nat.le_of_ble_eq_true rfl) (Nat.le_of_ble_eq_true rfl) ?_
  refine W.eq (g2 := F0 m 4 ls []) rfl ?_
  refine lv_aload_n hx hb d_GRP_init_4 rfl (lv_at hl 0 rfl) ?_
  refine lv_bipush (v := 10) hx hb d_GRP_init_5 (by decide) ?_
  refine newI hx hb (hts _ tw_409) hK hP hD hS hA (N' := 10) (by decide) (by decide) (by decide) (Nat.le_of_ble_eq_true rfl) (Nat.le_of_ble_eq_true rfl) d_GRP_init_7 (fun q1 H hP hD hS => ?_)
  refine W.widen (k := 1) (n := 10) (Nat.le_of_ble_eq_true rfl) (Nat.le_of_ble_eq_true rfl) ?_
  have hP : va_P (dC, dI) classes [(a_grp, .inr (4, [.null, .null, .int 0])), (q1, .inl (cI, 10, .inl (fun _ => 0)))] H := hP
  have hD : va_D A [(a_grp, .inr (4, [.null, .null, .int 0])), (q1, .inl (cI, 10, .inl (fun _ => 0)))] := hD
  refine va_putF (D := (dC, dI)) (ci := 4) (v := .ref q1) (ty := .array .int) (C := R_GRP) (T := F_GRP) (N := N_GRP) hx hb hts i_GRP ty_GRP ty_GRP_ok n_GRP hown hK hP hD hS 0 rfl rfl 0 (by decide) (hts _ tw_106) (fun _ h9 => h9) rfl hin rfl (ty_GRP_ok 0 (by decide)) rfl rfl (Nat.le_of_ble_eq_true rfl) d_GRP_init_9 (fun H locs hP hD hS => ?_)
  have hP : va_P (dC, dI) classes [(a_grp, .inr (4, [.ref q1, .null, .int 0])), (q1, .inl (cI, 10, .inl (fun _ => 0)))] H := hP
  have hD : va_D A [(a_grp, .inr (4, [.ref q1, .null, .int 0])), (q1, .inl (cI, 10, .inl (fun _ => 0)))] := hD
  refine lv_aload_n hx hb d_GRP_init_12 rfl (lv_at hl 0 rfl) ?_
  refine lv_bipush (v := 120) hx hb d_GRP_init_13 (by decide) ?_
  refine newI hx hb (hts _ tw_409) hK hP hD hS hA (N' := 120) (by decide) (by decide) (by decide) (Nat.le_of_ble_eq_true rfl) (Nat.le_of_ble_eq_true rfl) d_GRP_init_15 (fun q2 H hP hD hS => ?_)
  refine W.widen (k := 2) (n := 130) (Nat.le_of_ble_eq_true rfl) (Nat.le_of_ble_eq_true rfl) ?_
  have hP : va_P (dC, dI) classes [(a_grp, .inr (4, [.ref q1, .null, .int 0])), (q1, .inl (cI, 10, .inl (fun _ => 0))), (q2, .inl (cI, 120, .inl (fun _ => 0)))] H := hP
  have hD : va_D A [(a_grp, .inr (4, [.ref q1, .null, .int 0])), (q1, .inl (cI, 10, .inl (fun _ => 0))), (q2, .inl (cI, 120, .inl (fun _ => 0)))] := hD
  refine va_putF (D := (dC, dI)) (ci := 4) (v := .ref q2) (ty := .array .int) (C := R_GRP) (T := F_GRP) (N := N_GRP) hx hb hts i_GRP ty_GRP ty_GRP_ok n_GRP hown hK hP hD hS 0 rfl rfl 1 (by decide) (hts _ tw_107) (fun _ h9 => h9) rfl hin rfl (ty_GRP_ok 1 (by decide)) rfl rfl (Nat.le_of_ble_eq_true rfl) d_GRP_init_17 (fun H locs hP hD hS => ?_)
  have hP : va_P (dC, dI) classes [(a_grp, .inr (4, [.ref q1, .ref q2, .int 0])), (q1, .inl (cI, 10, .inl (fun _ => 0))), (q2, .inl (cI, 120, .inl (fun _ => 0)))] H := hP
  have hD : va_D A [(a_grp, .inr (4, [.ref q1, .ref q2, .int 0])), (q1, .inl (cI, 10, .inl (fun _ => 0))), (q2, .inl (cI, 120, .inl (fun _ => 0)))] := hD
  refine lv_aload_n hx hb d_GRP_init_20 rfl (lv_at hl 0 rfl) ?_
  refine lv_iconst (v := 0) hx hb d_GRP_init_21 (by decide) ?_
  refine va_put (D := (dC, dI)) (ci := 4) (v := .int 0) (ty := .int) (C := R_GRP) (T := F_GRP) (N := N_GRP) hx hb hts i_GRP ty_GRP ty_GRP_ok n_GRP hown hK hP hD hS 0 rfl rfl 2 (by decide) (hts _ tw_13) (fun _ h9 => h9) rfl (ty_GRP_ok 2 (by decide)) rfl rfl (Nat.le_of_ble_eq_true rfl) d_GRP_init_22 (fun H locs hP hD hS => ?_)
  have hP : va_P (dC, dI) classes [(a_grp, .inr (4, [.ref q1, .ref q2, .int 0])), (q1, .inl (cI, 10, .inl (fun _ => 0))), (q2, .inl (cI, 120, .inl (fun _ => 0)))] H := hP
  have hD : va_D A [(a_grp, .inr (4, [.ref q1, .ref q2, .int 0])), (q1, .inl (cI, 10, .inl (fun _ => 0))), (q2, .inl (cI, 120, .inl (fun _ => 0)))] := hD
  exact W.vret hx hb hr (fun t ht hW => ⟨⟨(q1, q2), rfl, trivial, ⟨by rw [ht]; exact hP, va_K.moved hW.alike hK, hD⟩⟩, hS.F ht⟩) hS.2.2 d_GRP_init_25
set_option maxRecDepth 100000 in
set_option maxHeartbeats 4000000 in
theorem c_OPN_init (l : Launch) (dC : Nat → ClassId) (dI : Nat → Nat → Nat) (cI : ClassId) (tS : Nat → Nat) (sz : Nat) (a_opn : Nat) : Met l y_OPN_init ws_OPN_init ({ frames := 1, cells := 5, slots := 155, locals := 14 }) (va_Pc [.ref a_opn] (preS (dC, dI) classes [(cI, .int)] tS [(a_opn, .inr (5, [.null, .null, .null, .null, .null, .int 0]))] sz)) (va_Qv (fun _ : Nat × Nat × Nat × Nat × Nat => True) (fun u t => posS (dC, dI) classes [(cI, .int)] [(a_opn, .inr (5, [.ref u.1, .ref u.2.1, .ref u.2.2.1, .ref u.2.2.2.1, .ref u.2.2.2.2, .int 0])), (u.1, .inl (cI, 31, .inl (fun _ => 0))), (u.2.1, .inl (cI, 31, .inl (fun _ => 0))), (u.2.2.1, .inl (cI, 31, .inl (fun _ => 0))), (u.2.2.2.1, .inl (cI, 31, .inl (fun _ => 0))), (u.2.2.2.2, .inl (cI, 31, .inl (fun _ => 0)))] (va_A [(a_opn, .inr (5, [.null, .null, .null, .null, .null, .int 0]))] sz) t) (va_A [(a_opn, .inr (5, [.null, .null, .null, .null, .null, .int 0]))] sz)) 5 155 (va_A [(a_opn, .inr (5, [.null, .null, .null, .null, .null, .int 0]))] sz) := by
  refine Met.ofW (cc := b_OPN_init) (maxL := 1) (ret := none) (by decide) rfl ?_
  intro p e s m args below meth c s₁ B hml hv
  obtain ⟨rfl, hsz, hP, hK, hD0, hst0⟩ := hv
  have hx := B.exec
  have hb := B.bytes
  have hr := B.returns
  have hts0 := atoms_spec (ws := ws_OPN_init) B.pre
  have hts : ∀ w ∈ GW, w.before _ s = true := fun w h => hts0 w (List.mem_cons_of_mem _ h)
  have hown : s.vm.findClass R_OPN = some m.cls := findClass_of_methodNamed B.named
  have hlocks := B.notSynchronized
  have hin : meth.name = "<init>" := (name_of_methodNamed B.named B.method).1
  subst hsz
  have hD := hD0.self (sz := s.heap.size)
  generalize hAe : va_A [(a_opn, .inr (5, [.null, .null, .null, .null, .null, .int 0]))] s.heap.size = A at hD hst0 ⊢
  have hA : ∀ q : Nat, s.heap.size ≤ q → A q := fun q h => by rw [← hAe]; exact Or.inr h
  have hS : va_S A s.heap s.heap [] := va_S.rf
  have hl := lv_entry ([.ref a_opn]) (n := 1) (Nat.le_of_ble_eq_true rfl)
  rw [lg_entry_eq]
  generalize (lg_sl ([.ref a_opn]) ++ List.replicate (1 - (lg_sl ([.ref a_opn])).length) Slot.unset).toArray = ls at hl ⊢
  have hl : lv_has ls 1 [(0, .ref a_opn)] := hl
  refine lv_aload_n hx hb d_OPN_init_0 rfl (lv_at hl 0 rfl) ?_
  refine W.objInit hx hb hown (hts _ tw_413) (hts _ tw_407) (hts _ tw_408) rfl (by rw [hml]; exact hl.1) rfl d_OPN_init_1 (Nat.le_of_ble_eq_true rfl) (Nat.le_of_ble_eq_true rfl) ?_
  refine W.eq (g2 := F0 m 4 ls []) rfl ?_
  refine lv_aload_n hx hb d_OPN_init_4 rfl (lv_at hl 0 rfl) ?_
  refine lv_bipush (v := 31) hx hb d_OPN_init_5 (by decide) ?_
  refine newI hx hb (hts _ tw_409) hK hP hD hS hA (N' := 31) (by decide) (by decide) (by decide) (Nat.le_of_ble_eq_true rfl) (Nat.le_of_ble_eq_true rfl) d_OPN_init_7 (fun q1 H hP hD hS => ?_)
  refine W.widen (k := 1) (n := 31) (Nat.le_of_ble_eq_true rfl) (Nat.le_of_ble_eq_true rfl) ?_
  have hP : va_P (dC, dI) classes [(a_opn, .inr (5, [.null, .null, .null, .null, .null, .int 0])), (q1, .inl (cI, 31, .inl (fun _ => 0)))] H := hP
  have hD : va_D A [(a_opn, .inr (5, [.null, .null, .null, .null, .null, .int 0])), (q1, .inl (cI, 31, .inl (fun _ => 0)))] := hD
  refine va_putF (D := (dC, dI)) (ci := 5) (v := .ref q1) (ty := .array .int) (C := R_OPN) (T := F_OPN) (N := N_OPN) hx hb hts i_OPN ty_OPN ty_OPN_ok n_OPN hown hK hP hD hS 0 rfl rfl 0 (by decide) (hts _ tw_118) (fun _ h9 => h9) rfl hin rfl (ty_OPN_ok 0 (by decide)) rfl rfl (Nat.le_of_ble_eq_true rfl) d_OPN_init_9 (fun H locs hP hD hS => ?_)
  have hP : va_P (dC, dI) classes [(a_opn, .inr (5, [.ref q1, .null, .null, .null, .null, .int 0])), (q1, .inl (cI, 31, .inl (fun _ => 0)))] H := hP
  have hD : va_D A [(a_opn, .inr (5, [.ref q1, .null, .null, .null, .null, .int 0])), (q1, .inl (cI, 31, .inl (fun _ => 0)))] := hD
  refine lv_aload_n hx hb d_OPN_init_12 rfl (lv_at hl 0 rfl) ?_
  refine lv_bipush (v := 31) hx hb d_OPN_init_13 (by decide) ?_
  refine newI hx hb (hts _ tw_409) hK hP hD hS hA (N' := 31) (by decide) (by decide) (by decide) (Nat.le_of_ble_eq_true rfl) (Nat.le_of_ble_eq_true rfl) d_OPN_init_15 (fun q2 H hP hD hS => ?_)
  refine W.widen (k := 2) (n := 62) (Nat.le_of_ble_eq_true rfl) (Nat.le_of_ble_eq_true rfl) ?_
  have hP : va_P (dC, dI) classes [(a_opn, .inr (5, [.ref q1, .null, .null, .null, .null, .int 0])), (q1, .inl (cI, 31, .inl (fun _ => 0))), (q2, .inl (cI, 31, .inl (fun _ => 0)))] H := hP
  have hD : va_D A [(a_opn, .inr (5, [.ref q1, .null, .null, .null, .null, .int 0])), (q1, .inl (cI, 31, .inl (fun _ => 0))), (q2, .inl (cI, 31, .inl (fun _ => 0)))] := hD
  refine va_putF (D := (dC, dI)) (ci := 5) (v := .ref q2) (ty := .array .int) (C := R_OPN) (T := F_OPN) (N := N_OPN) hx hb hts i_OPN ty_OPN ty_OPN_ok n_OPN hown hK hP hD hS 0 rfl rfl 1 (by decide) (hts _ tw_119) (fun _ h9 => h9) rfl hin rfl (ty_OPN_ok 1 (by decide)) rfl rfl (Nat.le_of_ble_eq_true rfl) d_OPN_init_17 (fun H locs hP hD hS => ?_)
  have hP : va_P (dC, dI) classes [(a_opn, .inr (5, [.ref q1, .ref q2, .null, .null, .null, .int 0])), (q1, .inl (cI, 31, .inl (fun _ => 0))), (q2, .inl (cI, 31, .inl (fun _ => 0)))] H := hP
  have hD : va_D A [(a_opn, .inr (5, [.ref q1, .ref q2, .null, .null, .null, .int 0])), (q1, .inl (cI, 31, .inl (fun _ => 0))), (q2, .inl (cI, 31, .inl (fun _ => 0)))] := hD
  refine lv_aload_n hx hb d_OPN_init_20 rfl (lv_at hl 0 rfl) ?_
  refine lv_bipush (v := 31) hx hb d_OPN_init_21 (by decide) ?_
  refine newI hx hb (hts _ tw_409) hK hP hD hS hA (N' := 31) (by decide) (by decide) (by decide) (Nat.le_of_ble_eq_true rfl) (Nat.le_of_ble_eq_true rfl) d_OPN_init_23 (fun q3 H hP hD hS => ?_)
  refine W.widen (k := 3) (n := 93) (Nat.le_of_ble_eq_true rfl) (Nat.le_of_ble_eq_true rfl) ?_
  have hP : va_P (dC, dI) classes [(a_opn, .inr (5, [.ref q1, .ref q2, .null, .null, .null, .int 0])), (q1, .inl (cI, 31, .inl (fun _ => 0))), (q2, .inl (cI, 31, .inl (fun _ => 0))), (q3, .inl (cI, 31, .inl (fun _ => 0)))] H := hP
  have hD : va_D A [(a_opn, .inr (5, [.ref q1, .ref q2, .null, .null, .null, .int 0])), (q1, .inl (cI, 31, .inl (fun _ => 0))), (q2, .inl (cI, 31, .inl (fun _ => 0))), (q3, .inl (cI, 31, .inl (fun _ => 0)))] := hD
  refine va_putF (D := (dC, dI)) (ci := 5) (v := .ref q3) (ty := .array .int) (C := R_OPN) (T := F_OPN) (N := N_OPN) hx hb hts i_OPN ty_OPN ty_OPN_ok n_OPN hown hK hP hD hS 0 rfl rfl 2 (by decide) (hts _ tw_120) (fun _ h9 => h9) rfl hin rfl (ty_OPN_ok 2 (by decide)) rfl rfl (Nat.le_of_ble_eq_true rfl) d_OPN_init_25 (fun H locs hP hD hS => ?_)
  have hP : va_P (dC, dI) classes [(a_opn, .inr (5, [.ref q1, .ref q2, .ref q3, .null, .null, .int 0])), (q1, .inl (cI, 31, .inl (fun _ => 0))), (q2, .inl (cI, 31, .inl (fun _ => 0))), (q3, .inl (cI, 31, .inl (fun _ => 0)))] H := hP
  have hD : va_D A [(a_opn, .inr (5, [.ref q1, .ref q2, .ref q3, .null, .null, .int 0])), (q1, .inl (cI, 31, .inl (fun _ => 0))), (q2, .inl (cI, 31, .inl (fun _ => 0))), (q3, .inl (cI, 31, .inl (fun _ => 0)))] := hD
  refine lv_aload_n hx hb d_OPN_init_28 rfl (lv_at hl 0 rfl) ?_
  refine lv_bipush (v := 31) hx hb d_OPN_init_29 (by decide) ?_
  refine newI hx hb (hts _ tw_409) hK hP hD hS hA (N' := 31) (by decide) (by decide) (by decide) (Nat.le_of_ble_eq_true rfl) (Nat.le_of_ble_eq_true rfl) d_OPN_init_31 (fun q4 H hP hD hS => ?_)
  refine W.widen (k := 4) (n := 124) (Nat.le_of_ble_eq_true rfl) (Nat.le_of_ble_eq_true rfl) ?_
  have hP : va_P (dC, dI) classes [(a_opn, .inr (5, [.ref q1, .ref q2, .ref q3, .null, .null, .int 0])), (q1, .inl (cI, 31, .inl (fun _ => 0))), (q2, .inl (cI, 31, .inl (fun _ => 0))), (q3, .inl (cI, 31, .inl (fun _ => 0))), (q4, .inl (cI, 31, .inl (fun _ => 0)))] H := hP
  have hD : va_D A [(a_opn, .inr (5, [.ref q1, .ref q2, .ref q3, .null, .null, .int 0])), (q1, .inl (cI, 31, .inl (fun _ => 0))), (q2, .inl (cI, 31, .inl (fun _ => 0))), (q3, .inl (cI, 31, .inl (fun _ => 0))), (q4, .inl (cI, 31, .inl (fun _ => 0)))] := hD
  refine va_putF (D := (dC, dI)) (ci := 5) (v := .ref q4) (ty := .array .int) (C := R_OPN) (T := F_OPN) (N := N_OPN) hx hb hts i_OPN ty_OPN ty_OPN_ok n_OPN hown hK hP hD hS 0 rfl rfl 3 (by decide) (hts _ tw_15) (fun _ h9 => h9) rfl hin rfl (ty_OPN_ok 3 (by decide)) rfl rfl (Nat.le_of_ble_eq_true rfl) d_OPN_init_33 (fun H locs hP hD hS => ?_)
  have hP : va_P (dC, dI) classes [(a_opn, .inr (5, [.ref q1, .ref q2, .ref q3, .ref q4, .null, .int 0])), (q1, .inl (cI, 31, .inl (fun _ => 0))), (q2, .inl (cI, 31, .inl (fun _ => 0))), (q3, .inl (cI, 31, .inl (fun _ => 0))), (q4, .inl (cI, 31, .inl (fun _ => 0)))] H := hP
  have hD : va_D A [(a_opn, .inr (5, [.ref q1, .ref q2, .ref q3, .ref q4, .null, .int 0])), (q1, .inl (cI, 31, .inl (fun _ => 0))), (q2, .inl (cI, 31, .inl (fun _ => 0))), (q3, .inl (cI, 31, .inl (fun _ => 0))), (q4, .inl (cI, 31, .inl (fun _ => 0)))] := hD
  refine lv_aload_n hx hb d_OPN_init_36 rfl (lv_at hl 0 rfl) ?_
  refine lv_bipush (v := 31) hx hb d_OPN_init_37 (by decide) ?_
  refine newI hx hb (hts _ tw_409) hK hP hD hS hA (N' := 31) (by decide) (by decide) (by decide) (Nat.le_of_ble_eq_true rfl) (Nat.le_of_ble_eq_true rfl) d_OPN_init_39 (fun q5 H hP hD hS => ?_)
  refine W.widen (k := 5) (n := 155) (Nat.le_of_ble_eq_true rfl) (Nat.le_of_ble_eq_true rfl) ?_
  have hP : va_P (dC, dI) classes [(a_opn, .inr (5, [.ref q1, .ref q2, .ref q3, .ref q4, .null, .int 0])), (q1, .inl (cI, 31, .inl (fun _ => 0))), (q2, .inl (cI, 31, .inl (fun _ => 0))), (q3, .inl (cI, 31, .inl (fun _ => 0))), (q4, .inl (cI, 31, .inl (fun _ => 0))), (q5, .inl (cI, 31, .inl (fun _ => 0)))] H := hP
  have hD : va_D A [(a_opn, .inr (5, [.ref q1, .ref q2, .ref q3, .ref q4, .null, .int 0])), (q1, .inl (cI, 31, .inl (fun _ => 0))), (q2, .inl (cI, 31, .inl (fun _ => 0))), (q3, .inl (cI, 31, .inl (fun _ => 0))), (q4, .inl (cI, 31, .inl (fun _ => 0))), (q5, .inl (cI, 31, .inl (fun _ => 0)))] := hD
  refine va_putF (D := (dC, dI)) (ci := 5) (v := .ref q5) (ty := .array .int) (C := R_OPN) (T := F_OPN) (N := N_OPN) hx hb hts i_OPN ty_OPN ty_OPN_ok n_OPN hown hK hP hD hS 0 rfl rfl 4 (by decide) (hts _ tw_16) (fun _ h9 => h9) rfl hin rfl (ty_OPN_ok 4 (by decide)) rfl rfl (Nat.le_of_ble_eq_true rfl) d_OPN_init_41 (fun H locs hP hD hS => ?_)
  have hP : va_P (dC, dI) classes [(a_opn, .inr (5, [.ref q1, .ref q2, .ref q3, .ref q4, .ref q5, .int 0])), (q1, .inl (cI, 31, .inl (fun _ => 0))), (q2, .inl (cI, 31, .inl (fun _ => 0))), (q3, .inl (cI, 31, .inl (fun _ => 0))), (q4, .inl (cI, 31, .inl (fun _ => 0))), (q5, .inl (cI, 31, .inl (fun _ => 0)))] H := hP
  have hD : va_D A [(a_opn, .inr (5, [.ref q1, .ref q2, .ref q3, .ref q4, .ref q5, .int 0])), (q1, .inl (cI, 31, .inl (fun _ => 0))), (q2, .inl (cI, 31, .inl (fun _ => 0))), (q3, .inl (cI, 31, .inl (fun _ => 0))), (q4, .inl (cI, 31, .inl (fun _ => 0))), (q5, .inl (cI, 31, .inl (fun _ => 0)))] := hD
  refine lv_aload_n hx hb d_OPN_init_44 rfl (lv_at hl 0 rfl) ?_
  refine lv_iconst (v := 0) hx hb d_OPN_init_45 (by decide) ?_
  refine va_put (D := (dC, dI)) (ci := 5) (v := .int 0) (ty := .int) (C := R_OPN) (T := F_OPN) (N := N_OPN) hx hb hts i_OPN ty_OPN ty_OPN_ok n_OPN hown hK hP hD hS 0 rfl rfl 5 (by decide) (hts _ tw_14) (fun _ h9 => h9) rfl (ty_OPN_ok 5 (by decide)) rfl rfl (Nat.le_of_ble_eq_true rfl) d_OPN_init_46 (fun H locs hP hD hS => ?_)
  have hP : va_P (dC, dI) classes [(a_opn, .inr (5, [.ref q1, .ref q2, .ref q3, .ref q4, .ref q5, .int 0])), (q1, .inl (cI, 31, .inl (fun _ => 0))), (q2, .inl (cI, 31, .inl (fun _ => 0))), (q3, .inl (cI, 31, .inl (fun _ => 0))), (q4, .inl (cI, 31, .inl (fun _ => 0))), (q5, .inl (cI, 31, .inl (fun _ => 0)))] H := hP
  have hD : va_D A [(a_opn, .inr (5, [.ref q1, .ref q2, .ref q3, .ref q4, .ref q5, .int 0])), (q1, .inl (cI, 31, .inl (fun _ => 0))), (q2, .inl (cI, 31, .inl (fun _ => 0))), (q3, .inl (cI, 31, .inl (fun _ => 0))), (q4, .inl (cI, 31, .inl (fun _ => 0))), (q5, .inl (cI, 31, .inl (fun _ => 0)))] := hD
  exact W.vret hx hb hr (fun t ht hW => ⟨⟨(q1, q2, q3, q4, q5), rfl, trivial, ⟨by rw [ht]; exact hP, va_K.moved hW.alike hK, hD⟩⟩, hS.F ht⟩) hS.2.2 d_OPN_init_49
set_option maxRecDepth 100000 in
set_option maxHeartbeats 4000000 in
theorem c_SET_init (l : Launch) (dC : Nat → ClassId) (dI : Nat → Nat → Nat) (cI : ClassId) (tS : Nat → Nat) (sz : Nat) (a_set : Nat) : Met l y_SET_init ws_SET_init ({ frames := 1, cells := 2, slots := 2048, locals := 14 }) (va_Pc [.ref a_set] (preS (dC, dI) classes [(cI, .int)] tS [(a_set, .inr (2, [.null, .null, .int 0]))] sz)) (va_Qv (fun _ : Nat × Nat => True) (fun u t => posS (dC, dI) classes [(cI, .int)] [(a_set, .inr (2, [.ref u.1, .ref u.2, .int 0])), (u.1, .inl (cI, 1024, .inl (fun _ => 0))), (u.2, .inl (cI, 1024, .inl (fun _ => 0)))] (va_A [(a_set, .inr (2, [.null, .null, .int 0]))] sz) t) (va_A [(a_set, .inr (2, [.null, .null, .int 0]))] sz)) 2 2048 (va_A [(a_set, .inr (2, [.null, .null, .int 0]))] sz) := by
  refine Met.ofW (cc := b_SET_init) (maxL := 1) (ret := none) (by decide) rfl ?_
  intro p e s m args below meth c s₁ B hml hv
  obtain ⟨rfl, hsz, hP, hK, hD0, hst0⟩ := hv
  have hx := B.exec
  have hb := B.bytes
  have hr := B.returns
  have hts0 := atoms_spec (ws := ws_SET_init) B.pre
  have hts : ∀ w ∈ GW, w.before _ s = true := fun w h => hts0 w (List.mem_cons_of_mem _ h)
  have hown : s.vm.findClass R_SET = some m.cls := findClass_of_methodNamed B.named
  have hlocks := B.notSynchronized
  have hin : meth.name = "<init>" := (name_of_methodNamed B.named B.method).1
  subst hsz
  have hD := hD0.self (sz := s.heap.size)
  generalize hAe : va_A [(a_set, .inr (2, [.null, .null, .int 0]))] s.heap.size = A at hD hst0 ⊢
  have hA : ∀ q : Nat, s.heap.size ≤ q → A q := fun q h => by rw [← hAe]; exact Or.inr h
  have hS : va_S A s.heap s.heap [] := va_S.rf
  have hl := lv_entry ([.ref a_set]) (n := 1) (Nat.le_of_ble_eq_true rfl)
  rw [lg_entry_eq]
  generalize (lg_sl ([.ref a_set]) ++ List.replicate (1 - (lg_sl ([.ref a_set])).length) Slot.unset).toArray = ls at hl ⊢
  have hl : lv_has ls 1 [(0, .ref a_set)] := hl
  refine lv_aload_n hx hb d_SET_init_0 rfl (lv_at hl 0 rfl) ?_
  refine W.objInit hx hb hown (hts _ tw_414) (hts _ tw_407) (hts _ tw_408) rfl (by rw [hml]; exact hl.1) rfl d_SET_init_1 (Nat.le_of_ble_eq_true rfl) (Nat.le_of_ble_eq_true rfl) ?_
  refine W.eq (g2 := F0 m 4 ls []) rfl ?_
  refine lv_aload_n hx hb d_SET_init_4 rfl (lv_at hl 0 rfl) ?_
  refine lv_sipush (v := 1024) hx hb d_SET_init_5 (by decide) ?_
  refine newI hx hb (hts _ tw_409) hK hP hD hS hA (N' := 1024) (by decide) (by decide) (by decide) (Nat.le_of_ble_eq_true rfl) (Nat.le_of_ble_eq_true rfl) d_SET_init_8 (fun q1 H hP hD hS => ?_)
  refine W.widen (k := 1) (n := 1024) (Nat.le_of_ble_eq_true rfl) (Nat.le_of_ble_eq_true rfl) ?_
  have hP : va_P (dC, dI) classes [(a_set, .inr (2, [.null, .null, .int 0])), (q1, .inl (cI, 1024, .inl (fun _ => 0)))] H := hP
  have hD : va_D A [(a_set, .inr (2, [.null, .null, .int 0])), (q1, .inl (cI, 1024, .inl (fun _ => 0)))] := hD
  refine va_putF (D := (dC, dI)) (ci := 2) (v := .ref q1) (ty := .array .int) (C := R_SET) (T := F_SET) (N := N_SET) hx hb hts i_SET ty_SET ty_SET_ok n_SET hown hK hP hD hS 0 rfl rfl 0 (by decide) (hts _ tw_178) (fun _ h9 => h9) rfl hin rfl (ty_SET_ok 0 (by decide)) rfl rfl (Nat.le_of_ble_eq_true rfl) d_SET_init_10 (fun H locs hP hD hS => ?_)
  have hP : va_P (dC, dI) classes [(a_set, .inr (2, [.ref q1, .null, .int 0])), (q1, .inl (cI, 1024, .inl (fun _ => 0)))] H := hP
  have hD : va_D A [(a_set, .inr (2, [.ref q1, .null, .int 0])), (q1, .inl (cI, 1024, .inl (fun _ => 0)))] := hD
  refine lv_aload_n hx hb d_SET_init_13 rfl (lv_at hl 0 rfl) ?_
  refine lv_sipush (v := 1024) hx hb d_SET_init_14 (by decide) ?_
  refine newI hx hb (hts _ tw_409) hK hP hD hS hA (N' := 1024) (by decide) (by decide) (by decide) (Nat.le_of_ble_eq_true rfl) (Nat.le_of_ble_eq_true rfl) d_SET_init_17 (fun q2 H hP hD hS => ?_)
  refine W.widen (k := 2) (n := 2048) (Nat.le_of_ble_eq_true rfl) (Nat.le_of_ble_eq_true rfl) ?_
  have hP : va_P (dC, dI) classes [(a_set, .inr (2, [.ref q1, .null, .int 0])), (q1, .inl (cI, 1024, .inl (fun _ => 0))), (q2, .inl (cI, 1024, .inl (fun _ => 0)))] H := hP
  have hD : va_D A [(a_set, .inr (2, [.ref q1, .null, .int 0])), (q1, .inl (cI, 1024, .inl (fun _ => 0))), (q2, .inl (cI, 1024, .inl (fun _ => 0)))] := hD
  refine va_putF (D := (dC, dI)) (ci := 2) (v := .ref q2) (ty := .array .int) (C := R_SET) (T := F_SET) (N := N_SET) hx hb hts i_SET ty_SET ty_SET_ok n_SET hown hK hP hD hS 0 rfl rfl 1 (by decide) (hts _ tw_179) (fun _ h9 => h9) rfl hin rfl (ty_SET_ok 1 (by decide)) rfl rfl (Nat.le_of_ble_eq_true rfl) d_SET_init_19 (fun H locs hP hD hS => ?_)
  have hP : va_P (dC, dI) classes [(a_set, .inr (2, [.ref q1, .ref q2, .int 0])), (q1, .inl (cI, 1024, .inl (fun _ => 0))), (q2, .inl (cI, 1024, .inl (fun _ => 0)))] H := hP
  have hD : va_D A [(a_set, .inr (2, [.ref q1, .ref q2, .int 0])), (q1, .inl (cI, 1024, .inl (fun _ => 0))), (q2, .inl (cI, 1024, .inl (fun _ => 0)))] := hD
  refine lv_aload_n hx hb d_SET_init_22 rfl (lv_at hl 0 rfl) ?_
  refine lv_iconst (v := 0) hx hb d_SET_init_23 (by decide) ?_
  refine va_put (D := (dC, dI)) (ci := 2) (v := .int 0) (ty := .int) (C := R_SET) (T := F_SET) (N := N_SET) hx hb hts i_SET ty_SET ty_SET_ok n_SET hown hK hP hD hS 0 rfl rfl 2 (by decide) (hts _ tw_176) (fun _ h9 => h9) rfl (ty_SET_ok 2 (by decide)) rfl rfl (Nat.le_of_ble_eq_true rfl) d_SET_init_24 (fun H locs hP hD hS => ?_)
  have hP : va_P (dC, dI) classes [(a_set, .inr (2, [.ref q1, .ref q2, .int 0])), (q1, .inl (cI, 1024, .inl (fun _ => 0))), (q2, .inl (cI, 1024, .inl (fun _ => 0)))] H := hP
  have hD : va_D A [(a_set, .inr (2, [.ref q1, .ref q2, .int 0])), (q1, .inl (cI, 1024, .inl (fun _ => 0))), (q2, .inl (cI, 1024, .inl (fun _ => 0)))] := hD
  exact W.vret hx hb hr (fun t ht hW => ⟨⟨(q1, q2), rfl, trivial, ⟨by rw [ht]; exact hP, va_K.moved hW.alike hK, hD⟩⟩, hS.F ht⟩) hS.2.2 d_SET_init_27
set_option maxRecDepth 100000 in
set_option maxHeartbeats 4000000 in
theorem c_ESC_init (l : Launch) (dC : Nat → ClassId) (dI : Nat → Nat → Nat) (cI : ClassId) (tS : Nat → Nat) (sz : Nat) (a_esc p1 : Nat) : Met l y_ESC_init ws_ESC_init ({ frames := 1, cells := 0, slots := 0, locals := 14 }) (va_Pc [.ref a_esc, .ref p1] (preS (dC, dI) classes [(cI, .int)] tS [(a_esc, .inr (6, [.null, .int 0, .int 0, .null, .int 0, .int 0]))] sz)) (va_Qv (fun _ : Unit => True) (fun u t => posS (dC, dI) classes [(cI, .int)] [(a_esc, .inr (6, [.ref p1, .int 0, .int (-1), .ref (tS 0), .int 0, .int 0]))] (va_A [(a_esc, .inr (6, [.null, .int 0, .int 0, .null, .int 0, .int 0]))] sz) t) (va_A [(a_esc, .inr (6, [.null, .int 0, .int 0, .null, .int 0, .int 0]))] sz)) 0 0 (va_A [(a_esc, .inr (6, [.null, .int 0, .int 0, .null, .int 0, .int 0]))] sz) := by
  refine Met.ofW (cc := b_ESC_init) (maxL := 2) (ret := none) (by decide) rfl ?_
  intro p e s m args below meth c s₁ B hml hv
  obtain ⟨rfl, hsz, hP, hK, hD0, hst0⟩ := hv
  have hx := B.exec
  have hb := B.bytes
  have hr := B.returns
  have hts0 := atoms_spec (ws := ws_ESC_init) B.pre
  have hts : ∀ w ∈ GW, w.before _ s = true := fun w h => hts0 w (List.mem_cons_of_mem _ h)
  have hown : s.vm.findClass R_ESC = some m.cls := findClass_of_methodNamed B.named
  have hlocks := B.notSynchronized
  have hin : meth.name = "<init>" := (name_of_methodNamed B.named B.method).1
  subst hsz
  have hD := hD0.self (sz := s.heap.size)
  generalize hAe : va_A [(a_esc, .inr (6, [.null, .int 0, .int 0, .null, .int 0, .int 0]))] s.heap.size = A at hD hst0 ⊢
  have hA : ∀ q : Nat, s.heap.size ≤ q → A q := fun q h => by rw [← hAe]; exact Or.inr h
  have hS : va_S A s.heap s.heap [] := va_S.rf
  have hl := lv_entry ([.ref a_esc, .ref p1]) (n := 2) (Nat.le_of_ble_eq_true rfl)
  rw [lg_entry_eq]
  generalize (lg_sl ([.ref a_esc, .ref p1]) ++ List.replicate (2 - (lg_sl ([.ref a_esc, .ref p1])).length) Slot.unset).toArray = ls at hl ⊢
  have hl : lv_has ls 2 [(0, .ref a_esc), (1, .ref p1)] := hl
  refine lv_aload_n hx hb d_ESC_init_0 rfl (lv_at hl 0 rfl) ?_
  refine W.objInit hx hb hown (hts _ tw_415) (hts _ tw_407) (hts _ tw_408) rfl (by rw [hml]; exact hl.1) rfl d_ESC_init_1 (Nat.le_of_ble_eq_true rfl) (Nat.le_of_ble_eq_true rfl) ?_
  refine W.eq (g2 := F0 m 4 ls []) rfl ?_
  refine lv_aload_n hx hb d_ESC_init_4 rfl (lv_at hl 0 rfl) ?_
  refine lv_iconst (v := 0) hx hb d_ESC_init_5 (by decide) ?_
  refine va_put (D := (dC, dI)) (ci := 6) (v := .int 0) (ty := .int) (C := R_ESC) (T := F_ESC) (N := N_ESC) hx hb hts i_ESC ty_ESC ty_ESC_ok n_ESC hown hK hP hD hS 0 rfl rfl 1 (by decide) (hts _ tw_208) (fun _ h9 => h9) rfl (ty_ESC_ok 1 (by decide)) rfl rfl (Nat.le_of_ble_eq_true rfl) d_ESC_init_6 (fun H locs hP hD hS => ?_)
  have hP : va_P (dC, dI) classes [(a_esc, .inr (6, [.null, .int 0, .int 0, .null, .int 0, .int 0]))] H := hP
  have hD : va_D A [(a_esc, .inr (6, [.null, .int 0, .int 0, .null, .int 0, .int 0]))] := hD
  refine lv_aload_n hx hb d_ESC_init_9 rfl (lv_at hl 0 rfl) ?_
  refine lv_iconst (v := (-1)) hx hb d_ESC_init_10 (by decide) ?_
  refine va_put (D := (dC, dI)) (ci := 6) (v := .int (-1)) (ty := .int) (C := R_ESC) (T := F_ESC) (N := N_ESC) hx hb hts i_ESC ty_ESC ty_ESC_ok n_ESC hown hK hP hD hS 0 rfl rfl 2 (by decide) (hts _ tw_209) (fun _ h9 => h9) rfl (ty_ESC_ok 2 (by decide)) rfl rfl (Nat.le_of_ble_eq_true rfl) d_ESC_init_11 (fun H locs hP hD hS => ?_)
  have hP : va_P (dC, dI) classes [(a_esc, .inr (6, [.null, .int 0, .int (-1), .null, .int 0, .int 0]))] H := hP
  have hD : va_D A [(a_esc, .inr (6, [.null, .int 0, .int (-1), .null, .int 0, .int 0]))] := hD
  refine lv_aload_n hx hb d_ESC_init_14 rfl (lv_at hl 0 rfl) ?_
  refine va_getsN hx hb (st_Z hst0 0 (by decide)) hS hown (va_Nw.use rfl (hst0.2 _ tn_198)) (fun _ h9 => h9) d_ESC_init_15 ?_
  refine va_put (D := (dC, dI)) (ci := 6) (v := .ref (tS 0)) (ty := .array .int) (C := R_ESC) (T := F_ESC) (N := N_ESC) hx hb hts i_ESC ty_ESC ty_ESC_ok n_ESC hown hK hP hD hS 0 rfl rfl 3 (by decide) (hts _ tw_226) (fun _ h9 => h9) rfl (ty_ESC_ok 3 (by decide)) rfl rfl (Nat.le_of_ble_eq_true rfl) d_ESC_init_18 (fun H locs hP hD hS => ?_)
  have hP : va_P (dC, dI) classes [(a_esc, .inr (6, [.null, .int 0, .int (-1), .ref (tS 0), .int 0, .int 0]))] H := hP
  have hD : va_D A [(a_esc, .inr (6, [.null, .int 0, .int (-1), .ref (tS 0), .int 0, .int 0]))] := hD
  refine lv_aload_n hx hb d_ESC_init_21 rfl (lv_at hl 0 rfl) ?_
  refine lv_iconst (v := 0) hx hb d_ESC_init_22 (by decide) ?_
  refine va_put (D := (dC, dI)) (ci := 6) (v := .int 0) (ty := .boolean) (C := R_ESC) (T := F_ESC) (N := N_ESC) hx hb hts i_ESC ty_ESC ty_ESC_ok n_ESC hown hK hP hD hS 0 rfl rfl 4 (by decide) (hts _ tw_227) (fun _ h9 => h9) rfl (ty_ESC_ok 4 (by decide)) rfl rfl (Nat.le_of_ble_eq_true rfl) d_ESC_init_23 (fun H locs hP hD hS => ?_)
  have hP : va_P (dC, dI) classes [(a_esc, .inr (6, [.null, .int 0, .int (-1), .ref (tS 0), .int 0, .int 0]))] H := hP
  have hD : va_D A [(a_esc, .inr (6, [.null, .int 0, .int (-1), .ref (tS 0), .int 0, .int 0]))] := hD
  refine lv_aload_n hx hb d_ESC_init_26 rfl (lv_at hl 0 rfl) ?_
  refine lv_iconst (v := 0) hx hb d_ESC_init_27 (by decide) ?_
  refine va_put (D := (dC, dI)) (ci := 6) (v := .int 0) (ty := .int) (C := R_ESC) (T := F_ESC) (N := N_ESC) hx hb hts i_ESC ty_ESC ty_ESC_ok n_ESC hown hK hP hD hS 0 rfl rfl 5 (by decide) (hts _ tw_213) (fun _ h9 => h9) rfl (ty_ESC_ok 5 (by decide)) rfl rfl (Nat.le_of_ble_eq_true rfl) d_ESC_init_28 (fun H locs hP hD hS => ?_)
  have hP : va_P (dC, dI) classes [(a_esc, .inr (6, [.null, .int 0, .int (-1), .ref (tS 0), .int 0, .int 0]))] H := hP
  have hD : va_D A [(a_esc, .inr (6, [.null, .int 0, .int (-1), .ref (tS 0), .int 0, .int 0]))] := hD
  refine lv_aload_n hx hb d_ESC_init_31 rfl (lv_at hl 0 rfl) ?_
  refine lv_aload_n hx hb d_ESC_init_32 rfl (lv_at hl 1 rfl) ?_
  refine va_putF (D := (dC, dI)) (ci := 6) (v := .ref p1) (ty := .object "PatternNodes$Pattern") (C := R_ESC) (T := F_ESC) (N := N_ESC) hx hb hts i_ESC ty_ESC ty_ESC_ok n_ESC hown hK hP hD hS 0 rfl rfl 0 (by decide) (hts _ tw_221) (fun _ h9 => h9) rfl hin rfl (ty_ESC_ok 0 (by decide)) rfl rfl (Nat.le_of_ble_eq_true rfl) d_ESC_init_33 (fun H locs hP hD hS => ?_)
  have hP : va_P (dC, dI) classes [(a_esc, .inr (6, [.ref p1, .int 0, .int (-1), .ref (tS 0), .int 0, .int 0]))] H := hP
  have hD : va_D A [(a_esc, .inr (6, [.ref p1, .int 0, .int (-1), .ref (tS 0), .int 0, .int 0]))] := hD
  exact W.vret hx hb hr (fun t ht hW => ⟨⟨(), rfl, trivial, ⟨by rw [ht]; exact hP, va_K.moved hW.alike hK, hD⟩⟩, hS.F ht⟩) hS.2.2 d_ESC_init_36
set_option maxRecDepth 100000 in
set_option maxHeartbeats 4000000 in
theorem c_CLS_init (l : Launch) (dC : Nat → ClassId) (dI : Nat → Nat → Nat) (cI : ClassId) (tS : Nat → Nat) (sz : Nat) (a_cls p1 p2 p3 p4 : Nat) : Met l y_CLS_init ws_CLS_init ({ frames := 1, cells := 0, slots := 0, locals := 14 }) (va_Pc [.ref a_cls, .ref p1, .ref p2, .ref p3, .ref p4] (preS (dC, dI) classes [(cI, .int)] tS [(a_cls, .inr (7, [.null, .null, .null, .null, .int 0]))] sz)) (va_Qv (fun _ : Unit => True) (fun u t => posS (dC, dI) classes [(cI, .int)] [(a_cls, .inr (7, [.ref p1, .ref p2, .ref p3, .ref p4, .int (-1)]))] (va_A [(a_cls, .inr (7, [.null, .null, .null, .null, .int 0]))] sz) t) (va_A [(a_cls, .inr (7, [.null, .null, .null, .null, .int 0]))] sz)) 0 0 (va_A [(a_cls, .inr (7, [.null, .null, .null, .null, .int 0]))] sz) := by
  refine Met.ofW (cc := b_CLS_init) (maxL := 5) (ret := none) (by decide) rfl ?_
  intro p e s m args below meth c s₁ B hml hv
  obtain ⟨rfl, hsz, hP, hK, hD0, hst0⟩ := hv
  have hx := B.exec
  have hb := B.bytes
  have hr := B.returns
  have hts0 := atoms_spec (ws := ws_CLS_init) B.pre
  have hts : ∀ w ∈ GW, w.before _ s = true := fun w h => hts0 w (List.mem_cons_of_mem _ h)
  have hown : s.vm.findClass R_CLS = some m.cls := findClass_of_methodNamed B.named
  have hlocks := B.notSynchronized
  have hin : meth.name = "<init>" := (name_of_methodNamed B.named B.method).1
  subst hsz
  have hD := hD0.self (sz := s.heap.size)
  generalize hAe : va_A [(a_cls, .inr (7, [.null, .null, .null, .null, .int 0]))] s.heap.size = A at hD hst0 ⊢
  have hA : ∀ q : Nat, s.heap.size ≤ q → A q := fun q h => by rw [← hAe]; exact Or.inr h
  have hS : va_S A s.heap s.heap [] := va_S.rf
  have hl := lv_entry ([.ref a_cls, .ref p1, .ref p2, .ref p3, .ref p4]) (n := 5) (Nat.le_of_ble_eq_true rfl)
  rw [lg_entry_eq]
  generalize (lg_sl ([.ref a_cls, .ref p1, .ref p2, .ref p3, .ref p4]) ++ List.replicate (5 - (lg_sl ([.ref a_cls, .ref p1, .ref p2, .ref p3, .ref p4])).length) Slot.unset).toArray = ls at hl ⊢
  have hl : lv_has ls 5 [(0, .ref a_cls), (1, .ref p1), (2, .ref p2), (3, .ref p3), (4, .ref p4)] := hl
  refine lv_aload_n hx hb d_CLS_init_0 rfl (lv_at hl 0 rfl) ?_
  refine W.objInit hx hb hown (hts _ tw_416) (hts _ tw_407) (hts _ tw_408) rfl (by rw [hml]; exact hl.1) rfl d_CLS_init_1 (Nat.le_of_ble_eq_true rfl) (Nat.le_of_ble_eq_true rfl) ?_
  refine W.eq (g2 := F0 m 4 ls []) rfl ?_
  refine lv_aload_n hx hb d_CLS_init_4 rfl (lv_at hl 0 rfl) ?_
  refine lv_iconst (v := (-1)) hx hb d_CLS_init_5 (by decide) ?_
  refine va_put (D := (dC, dI)) (ci := 7) (v := .int (-1)) (ty := .int) (C := R_CLS) (T := F_CLS) (N := N_CLS) hx hb hts i_CLS ty_CLS ty_CLS_ok n_CLS hown hK hP hD hS 0 rfl rfl 4 (by decide) (hts _ tw_275) (fun _ h9 => h9) rfl (ty_CLS_ok 4 (by decide)) rfl rfl (Nat.le_of_ble_eq_true rfl) d_CLS_init_6 (fun H locs hP hD hS => ?_)
  have hP : va_P (dC, dI) classes [(a_cls, .inr (7, [.null, .null, .null, .null, .int (-1)]))] H := hP
  have hD : va_D A [(a_cls, .inr (7, [.null, .null, .null, .null, .int (-1)]))] := hD
  refine lv_aload_n hx hb d_CLS_init_9 rfl (lv_at hl 0 rfl) ?_
  refine lv_aload_n hx hb d_CLS_init_10 rfl (lv_at hl 1 rfl) ?_
  refine va_putF (D := (dC, dI)) (ci := 7) (v := .ref p1) (ty := .object "PatternNodes$Pattern") (C := R_CLS) (T := F_CLS) (N := N_CLS) hx hb hts i_CLS ty_CLS ty_CLS_ok n_CLS hown hK hP hD hS 0 rfl rfl 0 (by decide) (hts _ tw_203) (fun _ h9 => h9) rfl hin rfl (ty_CLS_ok 0 (by decide)) rfl rfl (Nat.le_of_ble_eq_true rfl) d_CLS_init_11 (fun H locs hP hD hS => ?_)
  have hP : va_P (dC, dI) classes [(a_cls, .inr (7, [.ref p1, .null, .null, .null, .int (-1)]))] H := hP
  have hD : va_D A [(a_cls, .inr (7, [.ref p1, .null, .null, .null, .int (-1)]))] := hD
  refine lv_aload_n hx hb d_CLS_init_14 rfl (lv_at hl 0 rfl) ?_
  refine lv_aload_n hx hb d_CLS_init_15 rfl (lv_at hl 2 rfl) ?_
  refine va_putF (D := (dC, dI)) (ci := 7) (v := .ref p2) (ty := .object "PatternNodes$Mistake") (C := R_CLS) (T := F_CLS) (N := N_CLS) hx hb hts i_CLS ty_CLS ty_CLS_ok n_CLS hown hK hP hD hS 0 rfl rfl 1 (by decide) (hts _ tw_248) (fun _ h9 => h9) rfl hin rfl (ty_CLS_ok 1 (by decide)) rfl rfl (Nat.le_of_ble_eq_true rfl) d_CLS_init_16 (fun H locs hP hD hS => ?_)
  have hP : va_P (dC, dI) classes [(a_cls, .inr (7, [.ref p1, .ref p2, .null, .null, .int (-1)]))] H := hP
  have hD : va_D A [(a_cls, .inr (7, [.ref p1, .ref p2, .null, .null, .int (-1)]))] := hD
  refine lv_aload_n hx hb d_CLS_init_19 rfl (lv_at hl 0 rfl) ?_
  refine lv_aload_n hx hb d_CLS_init_20 rfl (lv_at hl 3 rfl) ?_
  refine va_putF (D := (dC, dI)) (ci := 7) (v := .ref p3) (ty := .object "PatternNodes$EscapeReader") (C := R_CLS) (T := F_CLS) (N := N_CLS) hx hb hts i_CLS ty_CLS ty_CLS_ok n_CLS hown hK hP hD hS 0 rfl rfl 2 (by decide) (hts _ tw_250) (fun _ h9 => h9) rfl hin rfl (ty_CLS_ok 2 (by decide)) rfl rfl (Nat.le_of_ble_eq_true rfl) d_CLS_init_21 (fun H locs hP hD hS => ?_)
  have hP : va_P (dC, dI) classes [(a_cls, .inr (7, [.ref p1, .ref p2, .ref p3, .null, .int (-1)]))] H := hP
  have hD : va_D A [(a_cls, .inr (7, [.ref p1, .ref p2, .ref p3, .null, .int (-1)]))] := hD
  refine lv_aload_n hx hb d_CLS_init_24 rfl (lv_at hl 0 rfl) ?_
  refine lv_aload hx hb d_CLS_init_25 (lv_at hl 4 rfl) ?_
  refine va_putF (D := (dC, dI)) (ci := 7) (v := .ref p4) (ty := .object "PatternNodes$CharacterSet") (C := R_CLS) (T := F_CLS) (N := N_CLS) hx hb hts i_CLS ty_CLS ty_CLS_ok n_CLS hown hK hP hD hS 0 rfl rfl 3 (by decide) (hts _ tw_255) (fun _ h9 => h9) rfl hin rfl (ty_CLS_ok 3 (by decide)) rfl rfl (Nat.le_of_ble_eq_true rfl) d_CLS_init_27 (fun H locs hP hD hS => ?_)
  have hP : va_P (dC, dI) classes [(a_cls, .inr (7, [.ref p1, .ref p2, .ref p3, .ref p4, .int (-1)]))] H := hP
  have hD : va_D A [(a_cls, .inr (7, [.ref p1, .ref p2, .ref p3, .ref p4, .int (-1)]))] := hD
  exact W.vret hx hb hr (fun t ht hW => ⟨⟨(), rfl, trivial, ⟨by rw [ht]; exact hP, va_K.moved hW.alike hK, hD⟩⟩, hS.F ht⟩) hS.2.2 d_CLS_init_30
set_option maxRecDepth 100000 in
set_option maxHeartbeats 4000000 in
theorem c_OPG_init (l : Launch) (dC : Nat → ClassId) (dI : Nat → Nat → Nat) (cI : ClassId) (tS : Nat → Nat) (sz : Nat) (a_opg p1 : Nat) : Met l y_OPG_init ws_OPG_init ({ frames := 1, cells := 0, slots := 0, locals := 14 }) (va_Pc [.ref a_opg, .ref p1] (preS (dC, dI) classes [(cI, .int)] tS [(a_opg, .inr (8, [.null, .int 0, .int 0, .int 0, .int 0, .int 0, .int 0]))] sz)) (va_Qv (fun _ : Unit => True) (fun u t => posS (dC, dI) classes [(cI, .int)] [(a_opg, .inr (8, [.ref p1, .int 0, .int 0, .int 0, .int 0, .int 0, .int 0]))] (va_A [(a_opg, .inr (8, [.null, .int 0, .int 0, .int 0, .int 0, .int 0, .int 0]))] sz) t) (va_A [(a_opg, .inr (8, [.null, .int 0, .int 0, .int 0, .int 0, .int 0, .int 0]))] sz)) 0 0 (va_A [(a_opg, .inr (8, [.null, .int 0, .int 0, .int 0, .int 0, .int 0, .int 0]))] sz) := by
  refine Met.ofW (cc := b_OPG_init) (maxL := 2) (ret := none) (by decide) rfl ?_
  intro p e s m args below meth c s₁ B hml hv
  obtain ⟨rfl, hsz, hP, hK, hD0, hst0⟩ := hv
  have hx := B.exec
  have hb := B.bytes
  have hr := B.returns
  have hts0 := atoms_spec (ws := ws_OPG_init) B.pre
  have hts : ∀ w ∈ GW, w.before _ s = true := fun w h => hts0 w (List.mem_cons_of_mem _ h)
  have hown : s.vm.findClass R_OPG = some m.cls := findClass_of_methodNamed B.named
  have hlocks := B.notSynchronized
  have hin : meth.name = "<init>" := (name_of_methodNamed B.named B.method).1
  subst hsz
  have hD := hD0.self (sz := s.heap.size)
  generalize hAe : va_A [(a_opg, .inr (8, [.null, .int 0, .int 0, .int 0, .int 0, .int 0, .int 0]))] s.heap.size = A at hD hst0 ⊢
  have hA : ∀ q : Nat, s.heap.size ≤ q → A q := fun q h => by rw [← hAe]; exact Or.inr h
  have hS : va_S A s.heap s.heap [] := va_S.rf
  have hl := lv_entry ([.ref a_opg, .ref p1]) (n := 2) (Nat.le_of_ble_eq_true rfl)
  rw [lg_entry_eq]
  generalize (lg_sl ([.ref a_opg, .ref p1]) ++ List.replicate (2 - (lg_sl ([.ref a_opg, .ref p1])).length) Slot.unset).toArray = ls at hl ⊢
  have hl : lv_has ls 2 [(0, .ref a_opg), (1, .ref p1)] := hl
  refine lv_aload_n hx hb d_OPG_init_0 rfl (lv_at hl 0 rfl) ?_
  refine W.objInit hx hb hown (hts _ tw_417) (hts _ tw_407) (hts _ tw_408) rfl (by rw [hml]; exact hl.1) rfl d_OPG_init_1 (Nat.le_of_ble_eq_true rfl) (Nat.le_of_ble_eq_true rfl) ?_
  refine W.eq (g2 := F0 m 4 ls []) rfl ?_
  refine lv_aload_n hx hb d_OPG_init_4 rfl (lv_at hl 0 rfl) ?_
  refine lv_iconst (v := 0) hx hb d_OPG_init_5 (by decide) ?_
  refine va_put (D := (dC, dI)) (ci := 8) (v := .int 0) (ty := .boolean) (C := R_OPG) (T := F_OPG) (N := N_OPG) hx hb hts i_OPG ty_OPG ty_OPG_ok n_OPG hown hK hP hD hS 0 rfl rfl 1 (by decide) (hts _ tw_91) (fun _ h9 => h9) rfl (ty_OPG_ok 1 (by decide)) rfl rfl (Nat.le_of_ble_eq_true rfl) d_OPG_init_6 (fun H locs hP hD hS => ?_)
  have hP : va_P (dC, dI) classes [(a_opg, .inr (8, [.null, .int 0, .int 0, .int 0, .int 0, .int 0, .int 0]))] H := hP
  have hD : va_D A [(a_opg, .inr (8, [.null, .int 0, .int 0, .int 0, .int 0, .int 0, .int 0]))] := hD
  refine lv_aload_n hx hb d_OPG_init_9 rfl (lv_at hl 0 rfl) ?_
  refine lv_iconst (v := 0) hx hb d_OPG_init_10 (by decide) ?_
  refine va_put (D := (dC, dI)) (ci := 8) (v := .int 0) (ty := .boolean) (C := R_OPG) (T := F_OPG) (N := N_OPG) hx hb hts i_OPG ty_OPG ty_OPG_ok n_OPG hown hK hP hD hS 0 rfl rfl 2 (by decide) (hts _ tw_90) (fun _ h9 => h9) rfl (ty_OPG_ok 2 (by decide)) rfl rfl (Nat.le_of_ble_eq_true rfl) d_OPG_init_11 (fun H locs hP hD hS => ?_)
  have hP : va_P (dC, dI) classes [(a_opg, .inr (8, [.null, .int 0, .int 0, .int 0, .int 0, .int 0, .int 0]))] H := hP
  have hD : va_D A [(a_opg, .inr (8, [.null, .int 0, .int 0, .int 0, .int 0, .int 0, .int 0]))] := hD
  refine lv_aload_n hx hb d_OPG_init_14 rfl (lv_at hl 0 rfl) ?_
  refine lv_iconst (v := 0) hx hb d_OPG_init_15 (by decide) ?_
  refine va_put (D := (dC, dI)) (ci := 8) (v := .int 0) (ty := .int) (C := R_OPG) (T := F_OPG) (N := N_OPG) hx hb hts i_OPG ty_OPG ty_OPG_ok n_OPG hown hK hP hD hS 0 rfl rfl 3 (by decide) (hts _ tw_75) (fun _ h9 => h9) rfl (ty_OPG_ok 3 (by decide)) rfl rfl (Nat.le_of_ble_eq_true rfl) d_OPG_init_16 (fun H locs hP hD hS => ?_)
  have hP : va_P (dC, dI) classes [(a_opg, .inr (8, [.null, .int 0, .int 0, .int 0, .int 0, .int 0, .int 0]))] H := hP
  have hD : va_D A [(a_opg, .inr (8, [.null, .int 0, .int 0, .int 0, .int 0, .int 0, .int 0]))] := hD
  refine lv_aload_n hx hb d_OPG_init_19 rfl (lv_at hl 0 rfl) ?_
  refine lv_iconst (v := 0) hx hb d_OPG_init_20 (by decide) ?_
  refine va_put (D := (dC, dI)) (ci := 8) (v := .int 0) (ty := .int) (C := R_OPG) (T := F_OPG) (N := N_OPG) hx hb hts i_OPG ty_OPG ty_OPG_ok n_OPG hown hK hP hD hS 0 rfl rfl 4 (by decide) (hts _ tw_76) (fun _ h9 => h9) rfl (ty_OPG_ok 4 (by decide)) rfl rfl (Nat.le_of_ble_eq_true rfl) d_OPG_init_21 (fun H locs hP hD hS => ?_)
  have hP : va_P (dC, dI) classes [(a_opg, .inr (8, [.null, .int 0, .int 0, .int 0, .int 0, .int 0, .int 0]))] H := hP
  have hD : va_D A [(a_opg, .inr (8, [.null, .int 0, .int 0, .int 0, .int 0, .int 0, .int 0]))] := hD
  refine lv_aload_n hx hb d_OPG_init_24 rfl (lv_at hl 0 rfl) ?_
  refine lv_iconst (v := 0) hx hb d_OPG_init_25 (by decide) ?_
  refine va_put (D := (dC, dI)) (ci := 8) (v := .int 0) (ty := .int) (C := R_OPG) (T := F_OPG) (N := N_OPG) hx hb hts i_OPG ty_OPG ty_OPG_ok n_OPG hown hK hP hD hS 0 rfl rfl 5 (by decide) (hts _ tw_92) (fun _ h9 => h9) rfl (ty_OPG_ok 5 (by decide)) rfl rfl (Nat.le_of_ble_eq_true rfl) d_OPG_init_26 (fun H locs hP hD hS => ?_)
  have hP : va_P (dC, dI) classes [(a_opg, .inr (8, [.null, .int 0, .int 0, .int 0, .int 0, .int 0, .int 0]))] H := hP
  have hD : va_D A [(a_opg, .inr (8, [.null, .int 0, .int 0, .int 0, .int 0, .int 0, .int 0]))] := hD
  refine lv_aload_n hx hb d_OPG_init_29 rfl (lv_at hl 0 rfl) ?_
  refine lv_iconst (v := 0) hx hb d_OPG_init_30 (by decide) ?_
  refine va_put (D := (dC, dI)) (ci := 8) (v := .int 0) (ty := .int) (C := R_OPG) (T := F_OPG) (N := N_OPG) hx hb hts i_OPG ty_OPG ty_OPG_ok n_OPG hown hK hP hD hS 0 rfl rfl 6 (by decide) (hts _ tw_77) (fun _ h9 => h9) rfl (ty_OPG_ok 6 (by decide)) rfl rfl (Nat.le_of_ble_eq_true rfl) d_OPG_init_31 (fun H locs hP hD hS => ?_)
  have hP : va_P (dC, dI) classes [(a_opg, .inr (8, [.null, .int 0, .int 0, .int 0, .int 0, .int 0, .int 0]))] H := hP
  have hD : va_D A [(a_opg, .inr (8, [.null, .int 0, .int 0, .int 0, .int 0, .int 0, .int 0]))] := hD
  refine lv_aload_n hx hb d_OPG_init_34 rfl (lv_at hl 0 rfl) ?_
  refine lv_aload_n hx hb d_OPG_init_35 rfl (lv_at hl 1 rfl) ?_
  refine va_putF (D := (dC, dI)) (ci := 8) (v := .ref p1) (ty := .object "PatternNodes$Pattern") (C := R_OPG) (T := F_OPG) (N := N_OPG) hx hb hts i_OPG ty_OPG ty_OPG_ok n_OPG hown hK hP hD hS 0 rfl rfl 0 (by decide) (hts _ tw_78) (fun _ h9 => h9) rfl hin rfl (ty_OPG_ok 0 (by decide)) rfl rfl (Nat.le_of_ble_eq_true rfl) d_OPG_init_36 (fun H locs hP hD hS => ?_)
  have hP : va_P (dC, dI) classes [(a_opg, .inr (8, [.ref p1, .int 0, .int 0, .int 0, .int 0, .int 0, .int 0]))] H := hP
  have hD : va_D A [(a_opg, .inr (8, [.ref p1, .int 0, .int 0, .int 0, .int 0, .int 0, .int 0]))] := hD
  exact W.vret hx hb hr (fun t ht hW => ⟨⟨(), rfl, trivial, ⟨by rw [ht]; exact hP, va_K.moved hW.alike hK, hD⟩⟩, hS.F ht⟩) hS.2.2 d_OPG_init_39
set_option maxRecDepth 100000 in
set_option maxHeartbeats 4000000 in
theorem c_REP_init (l : Launch) (dC : Nat → ClassId) (dI : Nat → Nat → Nat) (cI : ClassId) (tS : Nat → Nat) (sz : Nat) (a_rep p1 : Nat) : Met l y_REP_init ws_REP_init ({ frames := 1, cells := 0, slots := 0, locals := 14 }) (va_Pc [.ref a_rep, .ref p1] (preS (dC, dI) classes [(cI, .int)] tS [(a_rep, .inr (9, [.null, .int 0, .int 0, .int 0, .int 0, .int 0]))] sz)) (va_Qv (fun _ : Unit => True) (fun u t => posS (dC, dI) classes [(cI, .int)] [(a_rep, .inr (9, [.ref p1, .int 0, .int (-1), .int 0, .int 0, .int 0]))] (va_A [(a_rep, .inr (9, [.null, .int 0, .int 0, .int 0, .int 0, .int 0]))] sz) t) (va_A [(a_rep, .inr (9, [.null, .int 0, .int 0, .int 0, .int 0, .int 0]))] sz)) 0 0 (va_A [(a_rep, .inr (9, [.null, .int 0, .int 0, .int 0, .int 0, .int 0]))] sz) := by
  refine Met.ofW (cc := b_REP_init) (maxL := 2) (ret := none) (by decide) rfl ?_
  intro p e s m args below meth c s₁ B hml hv
  obtain ⟨rfl, hsz, hP, hK, hD0, hst0⟩ := hv
  have hx := B.exec
  have hb := B.bytes
  have hr := B.returns
  have hts0 := atoms_spec (ws := ws_REP_init) B.pre
  have hts : ∀ w ∈ GW, w.before _ s = true := fun w h => hts0 w (List.mem_cons_of_mem _ h)
  have hown : s.vm.findClass R_REP = some m.cls := findClass_of_methodNamed B.named
  have hlocks := B.notSynchronized
  have hin : meth.name = "<init>" := (name_of_methodNamed B.named B.method).1
  subst hsz
  have hD := hD0.self (sz := s.heap.size)
  generalize hAe : va_A [(a_rep, .inr (9, [.null, .int 0, .int 0, .int 0, .int 0, .int 0]))] s.heap.size = A at hD hst0 ⊢
  have hA : ∀ q : Nat, s.heap.size ≤ q → A q := fun q h => by rw [← hAe]; exact Or.inr h
  have hS : va_S A s.heap s.heap [] := va_S.rf
  have hl := lv_entry ([.ref a_rep, .ref p1]) (n := 2) (Nat.le_of_ble_eq_true rfl)
  rw [lg_entry_eq]
  generalize (lg_sl ([.ref a_rep, .ref p1]) ++ List.replicate (2 - (lg_sl ([.ref a_rep, .ref p1])).length) Slot.unset).toArray = ls at hl ⊢
  have hl : lv_has ls 2 [(0, .ref a_rep), (1, .ref p1)] := hl
  refine lv_aload_n hx hb d_REP_init_0 rfl (lv_at hl 0 rfl) ?_
  refine W.objInit hx hb hown (hts _ tw_418) (hts _ tw_407) (hts _ tw_408) rfl (by rw [hml]; exact hl.1) rfl d_REP_init_1 (Nat.le_of_ble_eq_true rfl) (Nat.le_of_ble_eq_true rfl) ?_
  refine W.eq (g2 := F0 m 4 ls []) rfl ?_
  refine lv_aload_n hx hb d_REP_init_4 rfl (lv_at hl 0 rfl) ?_
  refine lv_iconst (v := 0) hx hb d_REP_init_5 (by decide) ?_
  refine va_put (D := (dC, dI)) (ci := 9) (v := .int 0) (ty := .int) (C := R_REP) (T := F_REP) (N := N_REP) hx hb hts i_REP ty_REP ty_REP_ok n_REP hown hK hP hD hS 0 rfl rfl 1 (by decide) (hts _ tw_363) (fun _ h9 => h9) rfl (ty_REP_ok 1 (by decide)) rfl rfl (Nat.le_of_ble_eq_true rfl) d_REP_init_6 (fun H locs hP hD hS => ?_)
  have hP : va_P (dC, dI) classes [(a_rep, .inr (9, [.null, .int 0, .int 0, .int 0, .int 0, .int 0]))] H := hP
  have hD : va_D A [(a_rep, .inr (9, [.null, .int 0, .int 0, .int 0, .int 0, .int 0]))] := hD
  refine lv_aload_n hx hb d_REP_init_9 rfl (lv_at hl 0 rfl) ?_
  refine lv_iconst (v := (-1)) hx hb d_REP_init_10 (by decide) ?_
  refine va_put (D := (dC, dI)) (ci := 9) (v := .int (-1)) (ty := .int) (C := R_REP) (T := F_REP) (N := N_REP) hx hb hts i_REP ty_REP ty_REP_ok n_REP hown hK hP hD hS 0 rfl rfl 2 (by decide) (hts _ tw_364) (fun _ h9 => h9) rfl (ty_REP_ok 2 (by decide)) rfl rfl (Nat.le_of_ble_eq_true rfl) d_REP_init_11 (fun H locs hP hD hS => ?_)
  have hP : va_P (dC, dI) classes [(a_rep, .inr (9, [.null, .int 0, .int (-1), .int 0, .int 0, .int 0]))] H := hP
  have hD : va_D A [(a_rep, .inr (9, [.null, .int 0, .int (-1), .int 0, .int 0, .int 0]))] := hD
  refine lv_aload_n hx hb d_REP_init_14 rfl (lv_at hl 0 rfl) ?_
  refine lv_iconst (v := 0) hx hb d_REP_init_15 (by decide) ?_
  refine va_put (D := (dC, dI)) (ci := 9) (v := .int 0) (ty := .boolean) (C := R_REP) (T := F_REP) (N := N_REP) hx hb hts i_REP ty_REP ty_REP_ok n_REP hown hK hP hD hS 0 rfl rfl 3 (by decide) (hts _ tw_365) (fun _ h9 => h9) rfl (ty_REP_ok 3 (by decide)) rfl rfl (Nat.le_of_ble_eq_true rfl) d_REP_init_16 (fun H locs hP hD hS => ?_)
  have hP : va_P (dC, dI) classes [(a_rep, .inr (9, [.null, .int 0, .int (-1), .int 0, .int 0, .int 0]))] H := hP
  have hD : va_D A [(a_rep, .inr (9, [.null, .int 0, .int (-1), .int 0, .int 0, .int 0]))] := hD
  refine lv_aload_n hx hb d_REP_init_19 rfl (lv_at hl 0 rfl) ?_
  refine lv_iconst (v := 0) hx hb d_REP_init_20 (by decide) ?_
  refine va_put (D := (dC, dI)) (ci := 9) (v := .int 0) (ty := .int) (C := R_REP) (T := F_REP) (N := N_REP) hx hb hts i_REP ty_REP ty_REP_ok n_REP hown hK hP hD hS 0 rfl rfl 4 (by decide) (hts _ tw_354) (fun _ h9 => h9) rfl (ty_REP_ok 4 (by decide)) rfl rfl (Nat.le_of_ble_eq_true rfl) d_REP_init_21 (fun H locs hP hD hS => ?_)
  have hP : va_P (dC, dI) classes [(a_rep, .inr (9, [.null, .int 0, .int (-1), .int 0, .int 0, .int 0]))] H := hP
  have hD : va_D A [(a_rep, .inr (9, [.null, .int 0, .int (-1), .int 0, .int 0, .int 0]))] := hD
  refine lv_aload_n hx hb d_REP_init_24 rfl (lv_at hl 0 rfl) ?_
  refine lv_iconst (v := 0) hx hb d_REP_init_25 (by decide) ?_
  refine va_put (D := (dC, dI)) (ci := 9) (v := .int 0) (ty := .int) (C := R_REP) (T := F_REP) (N := N_REP) hx hb hts i_REP ty_REP ty_REP_ok n_REP hown hK hP hD hS 0 rfl rfl 5 (by decide) (hts _ tw_357) (fun _ h9 => h9) rfl (ty_REP_ok 5 (by decide)) rfl rfl (Nat.le_of_ble_eq_true rfl) d_REP_init_26 (fun H locs hP hD hS => ?_)
  have hP : va_P (dC, dI) classes [(a_rep, .inr (9, [.null, .int 0, .int (-1), .int 0, .int 0, .int 0]))] H := hP
  have hD : va_D A [(a_rep, .inr (9, [.null, .int 0, .int (-1), .int 0, .int 0, .int 0]))] := hD
  refine lv_aload_n hx hb d_REP_init_29 rfl (lv_at hl 0 rfl) ?_
  refine lv_aload_n hx hb d_REP_init_30 rfl (lv_at hl 1 rfl) ?_
  refine va_putF (D := (dC, dI)) (ci := 9) (v := .ref p1) (ty := .object "PatternNodes$Pattern") (C := R_REP) (T := F_REP) (N := N_REP) hx hb hts i_REP ty_REP ty_REP_ok n_REP hown hK hP hD hS 0 rfl rfl 0 (by decide) (hts _ tw_353) (fun _ h9 => h9) rfl hin rfl (ty_REP_ok 0 (by decide)) rfl rfl (Nat.le_of_ble_eq_true rfl) d_REP_init_31 (fun H locs hP hD hS => ?_)
  have hP : va_P (dC, dI) classes [(a_rep, .inr (9, [.ref p1, .int 0, .int (-1), .int 0, .int 0, .int 0]))] H := hP
  have hD : va_D A [(a_rep, .inr (9, [.ref p1, .int 0, .int (-1), .int 0, .int 0, .int 0]))] := hD
  exact W.vret hx hb hr (fun t ht hW => ⟨⟨(), rfl, trivial, ⟨by rw [ht]; exact hP, va_K.moved hW.alike hK, hD⟩⟩, hS.F ht⟩) hS.2.2 d_REP_init_34
set_option maxRecDepth 100000 in
set_option maxHeartbeats 4000000 in
theorem c_RDR_init (l : Launch) (dC : Nat → ClassId) (dI : Nat → Nat → Nat) (cI : ClassId) (tS : Nat → Nat) (sz : Nat) (a_rdr p1 p2 p3 p4 : Nat) : Met l y_RDR_init ws_RDR_init ({ frames := 2, cells := 13, slots := 2236, locals := 38 }) (va_Pc [.ref a_rdr, .ref p1, .ref p2, .ref p3, .ref p4] (preS (dC, dI) classes [(cI, .int)] tS [(a_rdr, .inr (10, [.null, .null, .null, .null, .null, .null, .null, .null, .null, .null, .int 0, .int 0, .int 0]))] sz)) (va_Qv (fun _ : Nat × Nat × Nat × Nat × Nat × Nat × Nat × Nat × Nat × Nat × Nat × Nat × Nat => True) (fun u t => posS (dC, dI) classes [(cI, .int)] [(a_rdr, .inr (10, [.ref p1, .ref p2, .ref p3, .ref p4, .ref u.1, .ref u.2.2.2.2.2.2.1, .ref u.2.2.2.2.2.2.2.2.2.1, .ref u.2.2.2.2.2.2.2.2.2.2.1, .ref u.2.2.2.2.2.2.2.2.2.2.2.1, .ref u.2.2.2.2.2.2.2.2.2.2.2.2, .int 0, .int 0, .int 0])), (u.1, .inr (5, [.ref u.2.1, .ref u.2.2.1, .ref u.2.2.2.1, .ref u.2.2.2.2.1, .ref u.2.2.2.2.2.1, .int 0])), (u.2.1, .inl (cI, 31, .inl (fun _ => 0))), (u.2.2.1, .inl (cI, 31, .inl (fun _ => 0))), (u.2.2.2.1, .inl (cI, 31, .inl (fun _ => 0))), (u.2.2.2.2.1, .inl (cI, 31, .inl (fun _ => 0))), (u.2.2.2.2.2.1, .inl (cI, 31, .inl (fun _ => 0))), (u.2.2.2.2.2.2.1, .inr (2, [.ref u.2.2.2.2.2.2.2.1, .ref u.2.2.2.2.2.2.2.2.1, .int 0])), (u.2.2.2.2.2.2.2.1, .inl (cI, 1024, .inl (fun _ => 0))), (u.2.2.2.2.2.2.2.2.1, .inl (cI, 1024, .inl (fun _ => 0))), (u.2.2.2.2.2.2.2.2.2.1, .inr (6, [.ref p1, .int 0, .int (-1), .ref (tS 0), .int 0, .int 0])), (u.2.2.2.2.2.2.2.2.2.2.1, .inr (7, [.ref p1, .ref p2, .ref u.2.2.2.2.2.2.2.2.2.1, .ref u.2.2.2.2.2.2.1, .int (-1)])), (u.2.2.2.2.2.2.2.2.2.2.2.1, .inr (8, [.ref p1, .int 0, .int 0, .int 0, .int 0, .int 0, .int 0])), (u.2.2.2.2.2.2.2.2.2.2.2.2, .inr (9, [.ref p1, .int 0, .int (-1), .int 0, .int 0, .int 0]))] (va_A [(a_rdr, .inr (10, [.null, .null, .null, .null, .null, .null, .null, .null, .null, .null, .int 0, .int 0, .int 0]))] sz) t) (va_A [(a_rdr, .inr (10, [.null, .null, .null, .null, .null, .null, .null, .null, .null, .null, .int 0, .int 0, .int 0]))] sz)) 13 2236 (va_A [(a_rdr, .inr (10, [.null, .null, .null, .null, .null, .null, .null, .null, .null, .null, .int 0, .int 0, .int 0]))] sz) := by
  refine Met.ofW (cc := b_RDR_init) (maxL := 5) (ret := none) (by decide) rfl ?_
  intro p e s m args below meth c s₁ B hml hv
  obtain ⟨rfl, hsz, hP, hK, hD0, hst0⟩ := hv
  have hx := B.exec
  have hb := B.bytes
  have hr := B.returns
  have hts0 := atoms_spec (ws := ws_RDR_init) B.pre
  have hts : ∀ w ∈ GW, w.before _ s = true := fun w h => hts0 w (List.mem_cons_of_mem _ h)
  have hown : s.vm.findClass R_RDR = some m.cls := findClass_of_methodNamed B.named
  have hlocks := B.notSynchronized
  have hin : meth.name = "<init>" := (name_of_methodNamed B.named B.method).1
  subst hsz
  have hD := hD0.self (sz := s.heap.size)
  generalize hAe : va_A [(a_rdr, .inr (10, [.null, .null, .null, .null, .null, .null, .null, .null, .null, .null, .int 0, .int 0, .int 0]))] s.heap.size = A at hD hst0 ⊢
  have hA : ∀ q : Nat, s.heap.size ≤ q → A q := fun q h => by rw [← hAe]; exact Or.inr h
  have hS : va_S A s.heap s.heap [] := va_S.rf
  have hl := lv_entry ([.ref a_rdr, .ref p1, .ref p2, .ref p3, .ref p4]) (n := 5) (Nat.le_of_ble_eq_true rfl)
  rw [lg_entry_eq]
  generalize (lg_sl ([.ref a_rdr, .ref p1, .ref p2, .ref p3, .ref p4]) ++ List.replicate (5 - (lg_sl ([.ref a_rdr, .ref p1, .ref p2, .ref p3, .ref p4])).length) Slot.unset).toArray = ls at hl ⊢
  have hl : lv_has ls 5 [(0, .ref a_rdr), (1, .ref p1), (2, .ref p2), (3, .ref p3), (4, .ref p4)] := hl
  refine lv_aload_n hx hb d_RDR_init_0 rfl (lv_at hl 0 rfl) ?_
  refine W.objInit hx hb hown (hts _ tw_419) (hts _ tw_407) (hts _ tw_408) rfl (by rw [hml]; exact hl.1) rfl d_RDR_init_1 (Nat.le_of_ble_eq_true rfl) (Nat.le_of_ble_eq_true rfl) ?_
  refine W.eq (g2 := F0 m 4 ls []) rfl ?_
  refine lv_aload_n hx hb d_RDR_init_4 rfl (lv_at hl 0 rfl) ?_
  refine va_new (ci := 5) (fs := [.null, .null, .null, .null, .null, .int 0]) (C := R_OPN) (T := F_OPN) (N := N_OPN) hx hb hts i_OPN ty_OPN ty_OPN_ok hown (hts _ tw_420) (hts _ tw_421) (hts _ tw_38) hK hP hD hS hA rfl df_OPN (Nat.le_of_ble_eq_true rfl) (Nat.le_of_ble_eq_true rfl) d_RDR_init_5 (fun q1 H hP hD hS => ?_)
  refine W.widen (k := 1) (n := 6) (Nat.le_of_ble_eq_true rfl) (Nat.le_of_ble_eq_true rfl) ?_
  have hP : va_P (dC, dI) classes [(a_rdr, .inr (10, [.null, .null, .null, .null, .null, .null, .null, .null, .null, .null, .int 0, .int 0, .int 0])), (q1, .inr (5, [.null, .null, .null, .null, .null, .int 0]))] H := hP
  have hD : va_D A [(a_rdr, .inr (10, [.null, .null, .null, .null, .null, .null, .null, .null, .null, .null, .int 0, .int 0, .int 0])), (q1, .inr (5, [.null, .null, .null, .null, .null, .int 0]))] := hD
  refine lv_dup hx hb d_RDR_init_8 rfl ?_
  have hPc := hP.sub (ws' := [(q1, .inr (5, [.null, .null, .null, .null, .null, .int 0]))]) [1] rfl
  have hDc := hD.sub (ws' := [(q1, .inr (5, [.null, .null, .null, .null, .null, .int 0]))]) [1] (by decide) rfl
  have hFc := va_free (wc := [(q1, .inr (5, [.null, .null, .null, .null, .null, .int 0]))]) hD hS hA [1] rfl
  refine cal_c (va_runIN (As := []) (rest := [.ref q1, .ref a_rdr]) ⟨hx, hb, hml, hown, hts⟩ (c_OPN_init l dC dI cI tS H.size q1 ) ⟨va_cnB 0 hts (gN tw_422) rfl rfl rfl (hst0.2 _ tn_424) (hts _ tw_38) hd_OPN_init ⟨Nat.le_of_ble_eq_true rfl, Nat.le_of_ble_eq_true rfl⟩, rfl, hts _ tw_423⟩ (pre_S hK hPc hDc hst0 hS hFc) rfl rfl hl.1 rfl (lv_room (Nat.le_of_ble_eq_true rfl)) d_RDR_init_9 ⟨Nat.le_of_ble_eq_true rfl, Nat.le_of_ble_eq_true rfl⟩) hP hD hS hA [1] [0] rfl rfl (by decide) (by decide) (fun u H locs hP hD hS => ?_)
  refine W.widen (k := 6) (n := 161) (Nat.le_of_ble_eq_true rfl) (Nat.le_of_ble_eq_true rfl) ?_
  obtain ⟨q2_1, q2_2, q2_3, q2_4, q2_5⟩ := u
  have hP : va_P (dC, dI) classes [(a_rdr, .inr (10, [.null, .null, .null, .null, .null, .null, .null, .null, .null, .null, .int 0, .int 0, .int 0])), (q1, .inr (5, [.ref q2_1, .ref q2_2, .ref q2_3, .ref q2_4, .ref q2_5, .int 0])), (q2_1, .inl (cI, 31, .inl (fun _ => 0))), (q2_2, .inl (cI, 31, .inl (fun _ => 0))), (q2_3, .inl (cI, 31, .inl (fun _ => 0))), (q2_4, .inl (cI, 31, .inl (fun _ => 0))), (q2_5, .inl (cI, 31, .inl (fun _ => 0)))] H := hP
  have hD : va_D A [(a_rdr, .inr (10, [.null, .null, .null, .null, .null, .null, .null, .null, .null, .null, .int 0, .int 0, .int 0])), (q1, .inr (5, [.ref q2_1, .ref q2_2, .ref q2_3, .ref q2_4, .ref q2_5, .int 0])), (q2_1, .inl (cI, 31, .inl (fun _ => 0))), (q2_2, .inl (cI, 31, .inl (fun _ => 0))), (q2_3, .inl (cI, 31, .inl (fun _ => 0))), (q2_4, .inl (cI, 31, .inl (fun _ => 0))), (q2_5, .inl (cI, 31, .inl (fun _ => 0)))] := hD
  refine va_putF (D := (dC, dI)) (ci := 10) (v := .ref q1) (ty := .object "PatternNodes$OpenGroups") (C := R_RDR) (T := F_RDR) (N := N_RDR) hx hb hts i_RDR ty_RDR ty_RDR_ok n_RDR hown hK hP hD hS 0 rfl rfl 4 (by decide) (hts _ tw_35) (fun _ h9 => h9) rfl hin rfl (ty_RDR_ok 4 (by decide)) rfl rfl (Nat.le_of_ble_eq_true rfl) d_RDR_init_12 (fun H locs hP hD hS => ?_)
  have hP : va_P (dC, dI) classes [(a_rdr, .inr (10, [.null, .null, .null, .null, .ref q1, .null, .null, .null, .null, .null, .int 0, .int 0, .int 0])), (q1, .inr (5, [.ref q2_1, .ref q2_2, .ref q2_3, .ref q2_4, .ref q2_5, .int 0])), (q2_1, .inl (cI, 31, .inl (fun _ => 0))), (q2_2, .inl (cI, 31, .inl (fun _ => 0))), (q2_3, .inl (cI, 31, .inl (fun _ => 0))), (q2_4, .inl (cI, 31, .inl (fun _ => 0))), (q2_5, .inl (cI, 31, .inl (fun _ => 0)))] H := hP
  have hD : va_D A [(a_rdr, .inr (10, [.null, .null, .null, .null, .ref q1, .null, .null, .null, .null, .null, .int 0, .int 0, .int 0])), (q1, .inr (5, [.ref q2_1, .ref q2_2, .ref q2_3, .ref q2_4, .ref q2_5, .int 0])), (q2_1, .inl (cI, 31, .inl (fun _ => 0))), (q2_2, .inl (cI, 31, .inl (fun _ => 0))), (q2_3, .inl (cI, 31, .inl (fun _ => 0))), (q2_4, .inl (cI, 31, .inl (fun _ => 0))), (q2_5, .inl (cI, 31, .inl (fun _ => 0)))] := hD
  refine lv_aload_n hx hb d_RDR_init_15 rfl (lv_at hl 0 rfl) ?_
  refine va_new (ci := 2) (fs := [.null, .null, .int 0]) (C := R_SET) (T := F_SET) (N := N_SET) hx hb hts i_SET ty_SET ty_SET_ok hown (hts _ tw_425) (hts _ tw_426) (hts _ tw_188) hK hP hD hS hA rfl df_SET (Nat.le_of_ble_eq_true rfl) (Nat.le_of_ble_eq_true rfl) d_RDR_init_16 (fun q3 H hP hD hS => ?_)
  refine W.widen (k := 7) (n := 164) (Nat.le_of_ble_eq_true rfl) (Nat.le_of_ble_eq_true rfl) ?_
  have hP : va_P (dC, dI) classes [(a_rdr, .inr (10, [.null, .null, .null, .null, .ref q1, .null, .null, .null, .null, .null, .int 0, .int 0, .int 0])), (q1, .inr (5, [.ref q2_1, .ref q2_2, .ref q2_3, .ref q2_4, .ref q2_5, .int 0])), (q2_1, .inl (cI, 31, .inl (fun _ => 0))), (q2_2, .inl (cI, 31, .inl (fun _ => 0))), (q2_3, .inl (cI, 31, .inl (fun _ => 0))), (q2_4, .inl (cI, 31, .inl (fun _ => 0))), (q2_5, .inl (cI, 31, .inl (fun _ => 0))), (q3, .inr (2, [.null, .null, .int 0]))] H := hP
  have hD : va_D A [(a_rdr, .inr (10, [.null, .null, .null, .null, .ref q1, .null, .null, .null, .null, .null, .int 0, .int 0, .int 0])), (q1, .inr (5, [.ref q2_1, .ref q2_2, .ref q2_3, .ref q2_4, .ref q2_5, .int 0])), (q2_1, .inl (cI, 31, .inl (fun _ => 0))), (q2_2, .inl (cI, 31, .inl (fun _ => 0))), (q2_3, .inl (cI, 31, .inl (fun _ => 0))), (q2_4, .inl (cI, 31, .inl (fun _ => 0))), (q2_5, .inl (cI, 31, .inl (fun _ => 0))), (q3, .inr (2, [.null, .null, .int 0]))] := hD
  refine lv_dup hx hb d_RDR_init_19 rfl ?_
  have hPc := hP.sub (ws' := [(q3, .inr (2, [.null, .null, .int 0]))]) [7] rfl
  have hDc := hD.sub (ws' := [(q3, .inr (2, [.null, .null, .int 0]))]) [7] (by decide) rfl
  have hFc := va_free (wc := [(q3, .inr (2, [.null, .null, .int 0]))]) hD hS hA [7] rfl
  refine cal_c (va_runIN (As := []) (rest := [.ref q3, .ref a_rdr]) ⟨hx, hb, hml, hown, hts⟩ (c_SET_init l dC dI cI tS H.size q3 ) ⟨va_cnB 0 hts (gN tw_427) rfl rfl rfl (hst0.2 _ tn_429) (hts _ tw_188) hd_SET_init ⟨Nat.le_of_ble_eq_true rfl, Nat.le_of_ble_eq_true rfl⟩, rfl, hts _ tw_428⟩ (pre_S hK hPc hDc hst0 hS hFc) rfl rfl hl.1 rfl (lv_room (Nat.le_of_ble_eq_true rfl)) d_RDR_init_20 ⟨Nat.le_of_ble_eq_true rfl, Nat.le_of_ble_eq_true rfl⟩) hP hD hS hA [7] [0, 1, 2, 3, 4, 5, 6] rfl rfl (by decide) (by decide) (fun u H locs hP hD hS => ?_)
  refine W.widen (k := 9) (n := 2212) (Nat.le_of_ble_eq_true rfl) (Nat.le_of_ble_eq_true rfl) ?_
  obtain ⟨q4_1, q4_2⟩ := u
  have hP : va_P (dC, dI) classes [(a_rdr, .inr (10, [.null, .null, .null, .null, .ref q1, .null, .null, .null, .null, .null, .int 0, .int 0, .int 0])), (q1, .inr (5, [.ref q2_1, .ref q2_2, .ref q2_3, .ref q2_4, .ref q2_5, .int 0])), (q2_1, .inl (cI, 31, .inl (fun _ => 0))), (q2_2, .inl (cI, 31, .inl (fun _ => 0))), (q2_3, .inl (cI, 31, .inl (fun _ => 0))), (q2_4, .inl (cI, 31, .inl (fun _ => 0))), (q2_5, .inl (cI, 31, .inl (fun _ => 0))), (q3, .inr (2, [.ref q4_1, .ref q4_2, .int 0])), (q4_1, .inl (cI, 1024, .inl (fun _ => 0))), (q4_2, .inl (cI, 1024, .inl (fun _ => 0)))] H := hP
  have hD : va_D A [(a_rdr, .inr (10, [.null, .null, .null, .null, .ref q1, .null, .null, .null, .null, .null, .int 0, .int 0, .int 0])), (q1, .inr (5, [.ref q2_1, .ref q2_2, .ref q2_3, .ref q2_4, .ref q2_5, .int 0])), (q2_1, .inl (cI, 31, .inl (fun _ => 0))), (q2_2, .inl (cI, 31, .inl (fun _ => 0))), (q2_3, .inl (cI, 31, .inl (fun _ => 0))), (q2_4, .inl (cI, 31, .inl (fun _ => 0))), (q2_5, .inl (cI, 31, .inl (fun _ => 0))), (q3, .inr (2, [.ref q4_1, .ref q4_2, .int 0])), (q4_1, .inl (cI, 1024, .inl (fun _ => 0))), (q4_2, .inl (cI, 1024, .inl (fun _ => 0)))] := hD
  refine va_putF (D := (dC, dI)) (ci := 10) (v := .ref q3) (ty := .object "PatternNodes$CharacterSet") (C := R_RDR) (T := F_RDR) (N := N_RDR) hx hb hts i_RDR ty_RDR ty_RDR_ok n_RDR hown hK hP hD hS 0 rfl rfl 5 (by decide) (hts _ tw_312) (fun _ h9 => h9) rfl hin rfl (ty_RDR_ok 5 (by decide)) rfl rfl (Nat.le_of_ble_eq_true rfl) d_RDR_init_23 (fun H locs hP hD hS => ?_)
  have hP : va_P (dC, dI) classes [(a_rdr, .inr (10, [.null, .null, .null, .null, .ref q1, .ref q3, .null, .null, .null, .null, .int 0, .int 0, .int 0])), (q1, .inr (5, [.ref q2_1, .ref q2_2, .ref q2_3, .ref q2_4, .ref q2_5, .int 0])), (q2_1, .inl (cI, 31, .inl (fun _ => 0))), (q2_2, .inl (cI, 31, .inl (fun _ => 0))), (q2_3, .inl (cI, 31, .inl (fun _ => 0))), (q2_4, .inl (cI, 31, .inl (fun _ => 0))), (q2_5, .inl (cI, 31, .inl (fun _ => 0))), (q3, .inr (2, [.ref q4_1, .ref q4_2, .int 0])), (q4_1, .inl (cI, 1024, .inl (fun _ => 0))), (q4_2, .inl (cI, 1024, .inl (fun _ => 0)))] H := hP
  have hD : va_D A [(a_rdr, .inr (10, [.null, .null, .null, .null, .ref q1, .ref q3, .null, .null, .null, .null, .int 0, .int 0, .int 0])), (q1, .inr (5, [.ref q2_1, .ref q2_2, .ref q2_3, .ref q2_4, .ref q2_5, .int 0])), (q2_1, .inl (cI, 31, .inl (fun _ => 0))), (q2_2, .inl (cI, 31, .inl (fun _ => 0))), (q2_3, .inl (cI, 31, .inl (fun _ => 0))), (q2_4, .inl (cI, 31, .inl (fun _ => 0))), (q2_5, .inl (cI, 31, .inl (fun _ => 0))), (q3, .inr (2, [.ref q4_1, .ref q4_2, .int 0])), (q4_1, .inl (cI, 1024, .inl (fun _ => 0))), (q4_2, .inl (cI, 1024, .inl (fun _ => 0)))] := hD
  refine lv_aload_n hx hb d_RDR_init_26 rfl (lv_at hl 0 rfl) ?_
  refine lv_iconst (v := 0) hx hb d_RDR_init_27 (by decide) ?_
  refine va_put (D := (dC, dI)) (ci := 10) (v := .int 0) (ty := .int) (C := R_RDR) (T := F_RDR) (N := N_RDR) hx hb hts i_RDR ty_RDR ty_RDR_ok n_RDR hown hK hP hD hS 0 rfl rfl 10 (by decide) (hts _ tw_41) (fun _ h9 => h9) rfl (ty_RDR_ok 10 (by decide)) rfl rfl (Nat.le_of_ble_eq_true rfl) d_RDR_init_28 (fun H locs hP hD hS => ?_)
  have hP : va_P (dC, dI) classes [(a_rdr, .inr (10, [.null, .null, .null, .null, .ref q1, .ref q3, .null, .null, .null, .null, .int 0, .int 0, .int 0])), (q1, .inr (5, [.ref q2_1, .ref q2_2, .ref q2_3, .ref q2_4, .ref q2_5, .int 0])), (q2_1, .inl (cI, 31, .inl (fun _ => 0))), (q2_2, .inl (cI, 31, .inl (fun _ => 0))), (q2_3, .inl (cI, 31, .inl (fun _ => 0))), (q2_4, .inl (cI, 31, .inl (fun _ => 0))), (q2_5, .inl (cI, 31, .inl (fun _ => 0))), (q3, .inr (2, [.ref q4_1, .ref q4_2, .int 0])), (q4_1, .inl (cI, 1024, .inl (fun _ => 0))), (q4_2, .inl (cI, 1024, .inl (fun _ => 0)))] H := hP
  have hD : va_D A [(a_rdr, .inr (10, [.null, .null, .null, .null, .ref q1, .ref q3, .null, .null, .null, .null, .int 0, .int 0, .int 0])), (q1, .inr (5, [.ref q2_1, .ref q2_2, .ref q2_3, .ref q2_4, .ref q2_5, .int 0])), (q2_1, .inl (cI, 31, .inl (fun _ => 0))), (q2_2, .inl (cI, 31, .inl (fun _ => 0))), (q2_3, .inl (cI, 31, .inl (fun _ => 0))), (q2_4, .inl (cI, 31, .inl (fun _ => 0))), (q2_5, .inl (cI, 31, .inl (fun _ => 0))), (q3, .inr (2, [.ref q4_1, .ref q4_2, .int 0])), (q4_1, .inl (cI, 1024, .inl (fun _ => 0))), (q4_2, .inl (cI, 1024, .inl (fun _ => 0)))] := hD
  refine lv_aload_n hx hb d_RDR_init_31 rfl (lv_at hl 0 rfl) ?_
  refine lv_iconst (v := 0) hx hb d_RDR_init_32 (by decide) ?_
  refine va_put (D := (dC, dI)) (ci := 10) (v := .int 0) (ty := .int) (C := R_RDR) (T := F_RDR) (N := N_RDR) hx hb hts i_RDR ty_RDR ty_RDR_ok n_RDR hown hK hP hD hS 0 rfl rfl 11 (by decide) (hts _ tw_42) (fun _ h9 => h9) rfl (ty_RDR_ok 11 (by decide)) rfl rfl (Nat.le_of_ble_eq_true rfl) d_RDR_init_33 (fun H locs hP hD hS => ?_)
  have hP : va_P (dC, dI) classes [(a_rdr, .inr (10, [.null, .null, .null, .null, .ref q1, .ref q3, .null, .null, .null, .null, .int 0, .int 0, .int 0])), (q1, .inr (5, [.ref q2_1, .ref q2_2, .ref q2_3, .ref q2_4, .ref q2_5, .int 0])), (q2_1, .inl (cI, 31, .inl (fun _ => 0))), (q2_2, .inl (cI, 31, .inl (fun _ => 0))), (q2_3, .inl (cI, 31, .inl (fun _ => 0))), (q2_4, .inl (cI, 31, .inl (fun _ => 0))), (q2_5, .inl (cI, 31, .inl (fun _ => 0))), (q3, .inr (2, [.ref q4_1, .ref q4_2, .int 0])), (q4_1, .inl (cI, 1024, .inl (fun _ => 0))), (q4_2, .inl (cI, 1024, .inl (fun _ => 0)))] H := hP
  have hD : va_D A [(a_rdr, .inr (10, [.null, .null, .null, .null, .ref q1, .ref q3, .null, .null, .null, .null, .int 0, .int 0, .int 0])), (q1, .inr (5, [.ref q2_1, .ref q2_2, .ref q2_3, .ref q2_4, .ref q2_5, .int 0])), (q2_1, .inl (cI, 31, .inl (fun _ => 0))), (q2_2, .inl (cI, 31, .inl (fun _ => 0))), (q2_3, .inl (cI, 31, .inl (fun _ => 0))), (q2_4, .inl (cI, 31, .inl (fun _ => 0))), (q2_5, .inl (cI, 31, .inl (fun _ => 0))), (q3, .inr (2, [.ref q4_1, .ref q4_2, .int 0])), (q4_1, .inl (cI, 1024, .inl (fun _ => 0))), (q4_2, .inl (cI, 1024, .inl (fun _ => 0)))] := hD
  refine lv_aload_n hx hb d_RDR_init_36 rfl (lv_at hl 0 rfl) ?_
  refine lv_iconst (v := 0) hx hb d_RDR_init_37 (by decide) ?_
  refine va_put (D := (dC, dI)) (ci := 10) (v := .int 0) (ty := .boolean) (C := R_RDR) (T := F_RDR) (N := N_RDR) hx hb hts i_RDR ty_RDR ty_RDR_ok n_RDR hown hK hP hD hS 0 rfl rfl 12 (by decide) (hts _ tw_43) (fun _ h9 => h9) rfl (ty_RDR_ok 12 (by decide)) rfl rfl (Nat.le_of_ble_eq_true rfl) d_RDR_init_38 (fun H locs hP hD hS => ?_)
  have hP : va_P (dC, dI) classes [(a_rdr, .inr (10, [.null, .null, .null, .null, .ref q1, .ref q3, .null, .null, .null, .null, .int 0, .int 0, .int 0])), (q1, .inr (5, [.ref q2_1, .ref q2_2, .ref q2_3, .ref q2_4, .ref q2_5, .int 0])), (q2_1, .inl (cI, 31, .inl (fun _ => 0))), (q2_2, .inl (cI, 31, .inl (fun _ => 0))), (q2_3, .inl (cI, 31, .inl (fun _ => 0))), (q2_4, .inl (cI, 31, .inl (fun _ => 0))), (q2_5, .inl (cI, 31, .inl (fun _ => 0))), (q3, .inr (2, [.ref q4_1, .ref q4_2, .int 0])), (q4_1, .inl (cI, 1024, .inl (fun _ => 0))), (q4_2, .inl (cI, 1024, .inl (fun _ => 0)))] H := hP
  have hD : va_D A [(a_rdr, .inr (10, [.null, .null, .null, .null, .ref q1, .ref q3, .null, .null, .null, .null, .int 0, .int 0, .int 0])), (q1, .inr (5, [.ref q2_1, .ref q2_2, .ref q2_3, .ref q2_4, .ref q2_5, .int 0])), (q2_1, .inl (cI, 31, .inl (fun _ => 0))), (q2_2, .inl (cI, 31, .inl (fun _ => 0))), (q2_3, .inl (cI, 31, .inl (fun _ => 0))), (q2_4, .inl (cI, 31, .inl (fun _ => 0))), (q2_5, .inl (cI, 31, .inl (fun _ => 0))), (q3, .inr (2, [.ref q4_1, .ref q4_2, .int 0])), (q4_1, .inl (cI, 1024, .inl (fun _ => 0))), (q4_2, .inl (cI, 1024, .inl (fun _ => 0)))] := hD
  refine lv_aload_n hx hb d_RDR_init_41 rfl (lv_at hl 0 rfl) ?_
  refine lv_aload_n hx hb d_RDR_init_42 rfl (lv_at hl 1 rfl) ?_
  refine va_putF (D := (dC, dI)) (ci := 10) (v := .ref p1) (ty := .object "PatternNodes$Pattern") (C := R_RDR) (T := F_RDR) (N := N_RDR) hx hb hts i_RDR ty_RDR ty_RDR_ok n_RDR hown hK hP hD hS 0 rfl rfl 0 (by decide) (hts _ tw_45) (fun _ h9 => h9) rfl hin rfl (ty_RDR_ok 0 (by decide)) rfl rfl (Nat.le_of_ble_eq_true rfl) d_RDR_init_43 (fun H locs hP hD hS => ?_)
  have hP : va_P (dC, dI) classes [(a_rdr, .inr (10, [.ref p1, .null, .null, .null, .ref q1, .ref q3, .null, .null, .null, .null, .int 0, .int 0, .int 0])), (q1, .inr (5, [.ref q2_1, .ref q2_2, .ref q2_3, .ref q2_4, .ref q2_5, .int 0])), (q2_1, .inl (cI, 31, .inl (fun _ => 0))), (q2_2, .inl (cI, 31, .inl (fun _ => 0))), (q2_3, .inl (cI, 31, .inl (fun _ => 0))), (q2_4, .inl (cI, 31, .inl (fun _ => 0))), (q2_5, .inl (cI, 31, .inl (fun _ => 0))), (q3, .inr (2, [.ref q4_1, .ref q4_2, .int 0])), (q4_1, .inl (cI, 1024, .inl (fun _ => 0))), (q4_2, .inl (cI, 1024, .inl (fun _ => 0)))] H := hP
  have hD : va_D A [(a_rdr, .inr (10, [.ref p1, .null, .null, .null, .ref q1, .ref q3, .null, .null, .null, .null, .int 0, .int 0, .int 0])), (q1, .inr (5, [.ref q2_1, .ref q2_2, .ref q2_3, .ref q2_4, .ref q2_5, .int 0])), (q2_1, .inl (cI, 31, .inl (fun _ => 0))), (q2_2, .inl (cI, 31, .inl (fun _ => 0))), (q2_3, .inl (cI, 31, .inl (fun _ => 0))), (q2_4, .inl (cI, 31, .inl (fun _ => 0))), (q2_5, .inl (cI, 31, .inl (fun _ => 0))), (q3, .inr (2, [.ref q4_1, .ref q4_2, .int 0])), (q4_1, .inl (cI, 1024, .inl (fun _ => 0))), (q4_2, .inl (cI, 1024, .inl (fun _ => 0)))] := hD
  refine lv_aload_n hx hb d_RDR_init_46 rfl (lv_at hl 0 rfl) ?_
  refine lv_aload_n hx hb d_RDR_init_47 rfl (lv_at hl 2 rfl) ?_
  refine va_putF (D := (dC, dI)) (ci := 10) (v := .ref p2) (ty := .object "PatternNodes$Mistake") (C := R_RDR) (T := F_RDR) (N := N_RDR) hx hb hts i_RDR ty_RDR ty_RDR_ok n_RDR hown hK hP hD hS 0 rfl rfl 1 (by decide) (hts _ tw_17) (fun _ h9 => h9) rfl hin rfl (ty_RDR_ok 1 (by decide)) rfl rfl (Nat.le_of_ble_eq_true rfl) d_RDR_init_48 (fun H locs hP hD hS => ?_)
  have hP : va_P (dC, dI) classes [(a_rdr, .inr (10, [.ref p1, .ref p2, .null, .null, .ref q1, .ref q3, .null, .null, .null, .null, .int 0, .int 0, .int 0])), (q1, .inr (5, [.ref q2_1, .ref q2_2, .ref q2_3, .ref q2_4, .ref q2_5, .int 0])), (q2_1, .inl (cI, 31, .inl (fun _ => 0))), (q2_2, .inl (cI, 31, .inl (fun _ => 0))), (q2_3, .inl (cI, 31, .inl (fun _ => 0))), (q2_4, .inl (cI, 31, .inl (fun _ => 0))), (q2_5, .inl (cI, 31, .inl (fun _ => 0))), (q3, .inr (2, [.ref q4_1, .ref q4_2, .int 0])), (q4_1, .inl (cI, 1024, .inl (fun _ => 0))), (q4_2, .inl (cI, 1024, .inl (fun _ => 0)))] H := hP
  have hD : va_D A [(a_rdr, .inr (10, [.ref p1, .ref p2, .null, .null, .ref q1, .ref q3, .null, .null, .null, .null, .int 0, .int 0, .int 0])), (q1, .inr (5, [.ref q2_1, .ref q2_2, .ref q2_3, .ref q2_4, .ref q2_5, .int 0])), (q2_1, .inl (cI, 31, .inl (fun _ => 0))), (q2_2, .inl (cI, 31, .inl (fun _ => 0))), (q2_3, .inl (cI, 31, .inl (fun _ => 0))), (q2_4, .inl (cI, 31, .inl (fun _ => 0))), (q2_5, .inl (cI, 31, .inl (fun _ => 0))), (q3, .inr (2, [.ref q4_1, .ref q4_2, .int 0])), (q4_1, .inl (cI, 1024, .inl (fun _ => 0))), (q4_2, .inl (cI, 1024, .inl (fun _ => 0)))] := hD
  refine lv_aload_n hx hb d_RDR_init_51 rfl (lv_at hl 0 rfl) ?_
  refine lv_aload_n hx hb d_RDR_init_52 rfl (lv_at hl 3 rfl) ?_
  refine va_putF (D := (dC, dI)) (ci := 10) (v := .ref p3) (ty := .object "PatternNodes$Tree") (C := R_RDR) (T := F_RDR) (N := N_RDR) hx hb hts i_RDR ty_RDR ty_RDR_ok n_RDR hown hK hP hD hS 0 rfl rfl 2 (by decide) (hts _ tw_23) (fun _ h9 => h9) rfl hin rfl (ty_RDR_ok 2 (by decide)) rfl rfl (Nat.le_of_ble_eq_true rfl) d_RDR_init_53 (fun H locs hP hD hS => ?_)
  have hP : va_P (dC, dI) classes [(a_rdr, .inr (10, [.ref p1, .ref p2, .ref p3, .null, .ref q1, .ref q3, .null, .null, .null, .null, .int 0, .int 0, .int 0])), (q1, .inr (5, [.ref q2_1, .ref q2_2, .ref q2_3, .ref q2_4, .ref q2_5, .int 0])), (q2_1, .inl (cI, 31, .inl (fun _ => 0))), (q2_2, .inl (cI, 31, .inl (fun _ => 0))), (q2_3, .inl (cI, 31, .inl (fun _ => 0))), (q2_4, .inl (cI, 31, .inl (fun _ => 0))), (q2_5, .inl (cI, 31, .inl (fun _ => 0))), (q3, .inr (2, [.ref q4_1, .ref q4_2, .int 0])), (q4_1, .inl (cI, 1024, .inl (fun _ => 0))), (q4_2, .inl (cI, 1024, .inl (fun _ => 0)))] H := hP
  have hD : va_D A [(a_rdr, .inr (10, [.ref p1, .ref p2, .ref p3, .null, .ref q1, .ref q3, .null, .null, .null, .null, .int 0, .int 0, .int 0])), (q1, .inr (5, [.ref q2_1, .ref q2_2, .ref q2_3, .ref q2_4, .ref q2_5, .int 0])), (q2_1, .inl (cI, 31, .inl (fun _ => 0))), (q2_2, .inl (cI, 31, .inl (fun _ => 0))), (q2_3, .inl (cI, 31, .inl (fun _ => 0))), (q2_4, .inl (cI, 31, .inl (fun _ => 0))), (q2_5, .inl (cI, 31, .inl (fun _ => 0))), (q3, .inr (2, [.ref q4_1, .ref q4_2, .int 0])), (q4_1, .inl (cI, 1024, .inl (fun _ => 0))), (q4_2, .inl (cI, 1024, .inl (fun _ => 0)))] := hD
  refine lv_aload_n hx hb d_RDR_init_56 rfl (lv_at hl 0 rfl) ?_
  refine lv_aload hx hb d_RDR_init_57 (lv_at hl 4 rfl) ?_
  refine va_putF (D := (dC, dI)) (ci := 10) (v := .ref p4) (ty := .object "PatternNodes$NumberedGroups") (C := R_RDR) (T := F_RDR) (N := N_RDR) hx hb hts i_RDR ty_RDR ty_RDR_ok n_RDR hown hK hP hD hS 0 rfl rfl 3 (by decide) (hts _ tw_29) (fun _ h9 => h9) rfl hin rfl (ty_RDR_ok 3 (by decide)) rfl rfl (Nat.le_of_ble_eq_true rfl) d_RDR_init_59 (fun H locs hP hD hS => ?_)
  have hP : va_P (dC, dI) classes [(a_rdr, .inr (10, [.ref p1, .ref p2, .ref p3, .ref p4, .ref q1, .ref q3, .null, .null, .null, .null, .int 0, .int 0, .int 0])), (q1, .inr (5, [.ref q2_1, .ref q2_2, .ref q2_3, .ref q2_4, .ref q2_5, .int 0])), (q2_1, .inl (cI, 31, .inl (fun _ => 0))), (q2_2, .inl (cI, 31, .inl (fun _ => 0))), (q2_3, .inl (cI, 31, .inl (fun _ => 0))), (q2_4, .inl (cI, 31, .inl (fun _ => 0))), (q2_5, .inl (cI, 31, .inl (fun _ => 0))), (q3, .inr (2, [.ref q4_1, .ref q4_2, .int 0])), (q4_1, .inl (cI, 1024, .inl (fun _ => 0))), (q4_2, .inl (cI, 1024, .inl (fun _ => 0)))] H := hP
  have hD : va_D A [(a_rdr, .inr (10, [.ref p1, .ref p2, .ref p3, .ref p4, .ref q1, .ref q3, .null, .null, .null, .null, .int 0, .int 0, .int 0])), (q1, .inr (5, [.ref q2_1, .ref q2_2, .ref q2_3, .ref q2_4, .ref q2_5, .int 0])), (q2_1, .inl (cI, 31, .inl (fun _ => 0))), (q2_2, .inl (cI, 31, .inl (fun _ => 0))), (q2_3, .inl (cI, 31, .inl (fun _ => 0))), (q2_4, .inl (cI, 31, .inl (fun _ => 0))), (q2_5, .inl (cI, 31, .inl (fun _ => 0))), (q3, .inr (2, [.ref q4_1, .ref q4_2, .int 0])), (q4_1, .inl (cI, 1024, .inl (fun _ => 0))), (q4_2, .inl (cI, 1024, .inl (fun _ => 0)))] := hD
  refine lv_aload_n hx hb d_RDR_init_62 rfl (lv_at hl 0 rfl) ?_
  refine va_new (ci := 6) (fs := [.null, .int 0, .int 0, .null, .int 0, .int 0]) (C := R_ESC) (T := F_ESC) (N := N_ESC) hx hb hts i_ESC ty_ESC ty_ESC_ok hown (hts _ tw_430) (hts _ tw_431) (hts _ tw_201) hK hP hD hS hA rfl df_ESC (Nat.le_of_ble_eq_true rfl) (Nat.le_of_ble_eq_true rfl) d_RDR_init_63 (fun q5 H hP hD hS => ?_)
  refine W.widen (k := 10) (n := 2218) (Nat.le_of_ble_eq_true rfl) (Nat.le_of_ble_eq_true rfl) ?_
  have hP : va_P (dC, dI) classes [(a_rdr, .inr (10, [.ref p1, .ref p2, .ref p3, .ref p4, .ref q1, .ref q3, .null, .null, .null, .null, .int 0, .int 0, .int 0])), (q1, .inr (5, [.ref q2_1, .ref q2_2, .ref q2_3, .ref q2_4, .ref q2_5, .int 0])), (q2_1, .inl (cI, 31, .inl (fun _ => 0))), (q2_2, .inl (cI, 31, .inl (fun _ => 0))), (q2_3, .inl (cI, 31, .inl (fun _ => 0))), (q2_4, .inl (cI, 31, .inl (fun _ => 0))), (q2_5, .inl (cI, 31, .inl (fun _ => 0))), (q3, .inr (2, [.ref q4_1, .ref q4_2, .int 0])), (q4_1, .inl (cI, 1024, .inl (fun _ => 0))), (q4_2, .inl (cI, 1024, .inl (fun _ => 0))), (q5, .inr (6, [.null, .int 0, .int 0, .null, .int 0, .int 0]))] H := hP
  have hD : va_D A [(a_rdr, .inr (10, [.ref p1, .ref p2, .ref p3, .ref p4, .ref q1, .ref q3, .null, .null, .null, .null, .int 0, .int 0, .int 0])), (q1, .inr (5, [.ref q2_1, .ref q2_2, .ref q2_3, .ref q2_4, .ref q2_5, .int 0])), (q2_1, .inl (cI, 31, .inl (fun _ => 0))), (q2_2, .inl (cI, 31, .inl (fun _ => 0))), (q2_3, .inl (cI, 31, .inl (fun _ => 0))), (q2_4, .inl (cI, 31, .inl (fun _ => 0))), (q2_5, .inl (cI, 31, .inl (fun _ => 0))), (q3, .inr (2, [.ref q4_1, .ref q4_2, .int 0])), (q4_1, .inl (cI, 1024, .inl (fun _ => 0))), (q4_2, .inl (cI, 1024, .inl (fun _ => 0))), (q5, .inr (6, [.null, .int 0, .int 0, .null, .int 0, .int 0]))] := hD
  refine lv_dup hx hb d_RDR_init_66 rfl ?_
  refine lv_aload_n hx hb d_RDR_init_67 rfl (lv_at hl 1 rfl) ?_
  have hPc := hP.sub (ws' := [(q5, .inr (6, [.null, .int 0, .int 0, .null, .int 0, .int 0]))]) [10] rfl
  have hDc := hD.sub (ws' := [(q5, .inr (6, [.null, .int 0, .int 0, .null, .int 0, .int 0]))]) [10] (by decide) rfl
  have hFc := va_free (wc := [(q5, .inr (6, [.null, .int 0, .int 0, .null, .int 0, .int 0]))]) hD hS hA [10] rfl
  refine cal_c (va_runI (As := [.ref p1]) (rest := [.ref q5, .ref a_rdr]) ⟨hx, hb, hml, hown, hts⟩ (c_ESC_init l dC dI cI tS H.size q5 p1) ⟨callB_of 1 hts (gN tw_432) rfl rfl rfl (hts _ tw_201) (hts _ tw_434) hd_ESC_init ⟨Nat.le_of_ble_eq_true rfl, Nat.le_of_ble_eq_true rfl⟩, rfl, hts _ tw_433⟩ (pre_S hK hPc hDc hst0 hS hFc) rfl rfl hl.1 rfl (lv_room (Nat.le_of_ble_eq_true rfl)) d_RDR_init_68 ⟨Nat.le_of_ble_eq_true rfl, Nat.le_of_ble_eq_true rfl⟩) hP hD hS hA [10] [0, 1, 2, 3, 4, 5, 6, 7, 8, 9] rfl rfl (by decide) (by decide) (fun u H locs hP hD hS => ?_)
  refine W.widen (k := 10) (n := 2218) (Nat.le_of_ble_eq_true rfl) (Nat.le_of_ble_eq_true rfl) ?_
  have hP : va_P (dC, dI) classes [(a_rdr, .inr (10, [.ref p1, .ref p2, .ref p3, .ref p4, .ref q1, .ref q3, .null, .null, .null, .null, .int 0, .int 0, .int 0])), (q1, .inr (5, [.ref q2_1, .ref q2_2, .ref q2_3, .ref q2_4, .ref q2_5, .int 0])), (q2_1, .inl (cI, 31, .inl (fun _ => 0))), (q2_2, .inl (cI, 31, .inl (fun _ => 0))), (q2_3, .inl (cI, 31, .inl (fun _ => 0))), (q2_4, .inl (cI, 31, .inl (fun _ => 0))), (q2_5, .inl (cI, 31, .inl (fun _ => 0))), (q3, .inr (2, [.ref q4_1, .ref q4_2, .int 0])), (q4_1, .inl (cI, 1024, .inl (fun _ => 0))), (q4_2, .inl (cI, 1024, .inl (fun _ => 0))), (q5, .inr (6, [.ref p1, .int 0, .int (-1), .ref (tS 0), .int 0, .int 0]))] H := hP
  have hD : va_D A [(a_rdr, .inr (10, [.ref p1, .ref p2, .ref p3, .ref p4, .ref q1, .ref q3, .null, .null, .null, .null, .int 0, .int 0, .int 0])), (q1, .inr (5, [.ref q2_1, .ref q2_2, .ref q2_3, .ref q2_4, .ref q2_5, .int 0])), (q2_1, .inl (cI, 31, .inl (fun _ => 0))), (q2_2, .inl (cI, 31, .inl (fun _ => 0))), (q2_3, .inl (cI, 31, .inl (fun _ => 0))), (q2_4, .inl (cI, 31, .inl (fun _ => 0))), (q2_5, .inl (cI, 31, .inl (fun _ => 0))), (q3, .inr (2, [.ref q4_1, .ref q4_2, .int 0])), (q4_1, .inl (cI, 1024, .inl (fun _ => 0))), (q4_2, .inl (cI, 1024, .inl (fun _ => 0))), (q5, .inr (6, [.ref p1, .int 0, .int (-1), .ref (tS 0), .int 0, .int 0]))] := hD
  refine va_putF (D := (dC, dI)) (ci := 10) (v := .ref q5) (ty := .object "PatternNodes$EscapeReader") (C := R_RDR) (T := F_RDR) (N := N_RDR) hx hb hts i_RDR ty_RDR ty_RDR_ok n_RDR hown hK hP hD hS 0 rfl rfl 6 (by decide) (hts _ tw_336) (fun _ h9 => h9) rfl hin rfl (ty_RDR_ok 6 (by decide)) rfl rfl (Nat.le_of_ble_eq_true rfl) d_RDR_init_71 (fun H locs hP hD hS => ?_)
  have hP : va_P (dC, dI) classes [(a_rdr, .inr (10, [.ref p1, .ref p2, .ref p3, .ref p4, .ref q1, .ref q3, .ref q5, .null, .null, .null, .int 0, .int 0, .int 0])), (q1, .inr (5, [.ref q2_1, .ref q2_2, .ref q2_3, .ref q2_4, .ref q2_5, .int 0])), (q2_1, .inl (cI, 31, .inl (fun _ => 0))), (q2_2, .inl (cI, 31, .inl (fun _ => 0))), (q2_3, .inl (cI, 31, .inl (fun _ => 0))), (q2_4, .inl (cI, 31, .inl (fun _ => 0))), (q2_5, .inl (cI, 31, .inl (fun _ => 0))), (q3, .inr (2, [.ref q4_1, .ref q4_2, .int 0])), (q4_1, .inl (cI, 1024, .inl (fun _ => 0))), (q4_2, .inl (cI, 1024, .inl (fun _ => 0))), (q5, .inr (6, [.ref p1, .int 0, .int (-1), .ref (tS 0), .int 0, .int 0]))] H := hP
  have hD : va_D A [(a_rdr, .inr (10, [.ref p1, .ref p2, .ref p3, .ref p4, .ref q1, .ref q3, .ref q5, .null, .null, .null, .int 0, .int 0, .int 0])), (q1, .inr (5, [.ref q2_1, .ref q2_2, .ref q2_3, .ref q2_4, .ref q2_5, .int 0])), (q2_1, .inl (cI, 31, .inl (fun _ => 0))), (q2_2, .inl (cI, 31, .inl (fun _ => 0))), (q2_3, .inl (cI, 31, .inl (fun _ => 0))), (q2_4, .inl (cI, 31, .inl (fun _ => 0))), (q2_5, .inl (cI, 31, .inl (fun _ => 0))), (q3, .inr (2, [.ref q4_1, .ref q4_2, .int 0])), (q4_1, .inl (cI, 1024, .inl (fun _ => 0))), (q4_2, .inl (cI, 1024, .inl (fun _ => 0))), (q5, .inr (6, [.ref p1, .int 0, .int (-1), .ref (tS 0), .int 0, .int 0]))] := hD
  refine lv_aload_n hx hb d_RDR_init_74 rfl (lv_at hl 0 rfl) ?_
  refine va_new (ci := 7) (fs := [.null, .null, .null, .null, .int 0]) (C := R_CLS) (T := F_CLS) (N := N_CLS) hx hb hts i_CLS ty_CLS ty_CLS_ok hown (hts _ tw_435) (hts _ tw_436) (hts _ tw_265) hK hP hD hS hA rfl df_CLS (Nat.le_of_ble_eq_true rfl) (Nat.le_of_ble_eq_true rfl) d_RDR_init_75 (fun q7 H hP hD hS => ?_)
  refine W.widen (k := 11) (n := 2223) (Nat.le_of_ble_eq_true rfl) (Nat.le_of_ble_eq_true rfl) ?_
  have hP : va_P (dC, dI) classes [(a_rdr, .inr (10, [.ref p1, .ref p2, .ref p3, .ref p4, .ref q1, .ref q3, .ref q5, .null, .null, .null, .int 0, .int 0, .int 0])), (q1, .inr (5, [.ref q2_1, .ref q2_2, .ref q2_3, .ref q2_4, .ref q2_5, .int 0])), (q2_1, .inl (cI, 31, .inl (fun _ => 0))), (q2_2, .inl (cI, 31, .inl (fun _ => 0))), (q2_3, .inl (cI, 31, .inl (fun _ => 0))), (q2_4, .inl (cI, 31, .inl (fun _ => 0))), (q2_5, .inl (cI, 31, .inl (fun _ => 0))), (q3, .inr (2, [.ref q4_1, .ref q4_2, .int 0])), (q4_1, .inl (cI, 1024, .inl (fun _ => 0))), (q4_2, .inl (cI, 1024, .inl (fun _ => 0))), (q5, .inr (6, [.ref p1, .int 0, .int (-1), .ref (tS 0), .int 0, .int 0])), (q7, .inr (7, [.null, .null, .null, .null, .int 0]))] H := hP
  have hD : va_D A [(a_rdr, .inr (10, [.ref p1, .ref p2, .ref p3, .ref p4, .ref q1, .ref q3, .ref q5, .null, .null, .null, .int 0, .int 0, .int 0])), (q1, .inr (5, [.ref q2_1, .ref q2_2, .ref q2_3, .ref q2_4, .ref q2_5, .int 0])), (q2_1, .inl (cI, 31, .inl (fun _ => 0))), (q2_2, .inl (cI, 31, .inl (fun _ => 0))), (q2_3, .inl (cI, 31, .inl (fun _ => 0))), (q2_4, .inl (cI, 31, .inl (fun _ => 0))), (q2_5, .inl (cI, 31, .inl (fun _ => 0))), (q3, .inr (2, [.ref q4_1, .ref q4_2, .int 0])), (q4_1, .inl (cI, 1024, .inl (fun _ => 0))), (q4_2, .inl (cI, 1024, .inl (fun _ => 0))), (q5, .inr (6, [.ref p1, .int 0, .int (-1), .ref (tS 0), .int 0, .int 0])), (q7, .inr (7, [.null, .null, .null, .null, .int 0]))] := hD
  refine lv_dup hx hb d_RDR_init_78 rfl ?_
  refine lv_aload_n hx hb d_RDR_init_79 rfl (lv_at hl 1 rfl) ?_
  refine lv_aload_n hx hb d_RDR_init_80 rfl (lv_at hl 2 rfl) ?_
  refine lv_aload_n hx hb d_RDR_init_81 rfl (lv_at hl 0 rfl) ?_
  refine va_get (D := (dC, dI)) (ci := 10) (v := .ref q5) (C := R_RDR) (T := F_RDR) (N := N_RDR) hx hb hts i_RDR hown hK hP 0 rfl rfl 6 (by decide) (hts _ tw_336) (fun _ h9 => h9) rfl d_RDR_init_82 ?_
  refine lv_aload_n hx hb d_RDR_init_85 rfl (lv_at hl 0 rfl) ?_
  refine va_get (D := (dC, dI)) (ci := 10) (v := .ref q3) (C := R_RDR) (T := F_RDR) (N := N_RDR) hx hb hts i_RDR hown hK hP 0 rfl rfl 5 (by decide) (hts _ tw_312) (fun _ h9 => h9) rfl d_RDR_init_86 ?_
  have hPc := hP.sub (ws' := [(q7, .inr (7, [.null, .null, .null, .null, .int 0]))]) [11] rfl
  have hDc := hD.sub (ws' := [(q7, .inr (7, [.null, .null, .null, .null, .int 0]))]) [11] (by decide) rfl
  have hFc := va_free (wc := [(q7, .inr (7, [.null, .null, .null, .null, .int 0]))]) hD hS hA [11] rfl
  refine cal_c (va_runI (As := [.ref p1, .ref p2, .ref q5, .ref q3]) (rest := [.ref q7, .ref a_rdr]) ⟨hx, hb, hml, hown, hts⟩ (c_CLS_init l dC dI cI tS H.size q7 p1 p2 q5 q3) ⟨callB_of 4 hts (gN tw_437) rfl rfl rfl (hts _ tw_265) (hts _ tw_439) hd_CLS_init ⟨Nat.le_of_ble_eq_true rfl, Nat.le_of_ble_eq_true rfl⟩, rfl, hts _ tw_438⟩ (pre_S hK hPc hDc hst0 hS hFc) rfl rfl hl.1 rfl (lv_room (Nat.le_of_ble_eq_true rfl)) d_RDR_init_89 ⟨Nat.le_of_ble_eq_true rfl, Nat.le_of_ble_eq_true rfl⟩) hP hD hS hA [11] [0, 1, 2, 3, 4, 5, 6, 7, 8, 9, 10] rfl rfl (by decide) (by decide) (fun u H locs hP hD hS => ?_)
  refine W.widen (k := 11) (n := 2223) (Nat.le_of_ble_eq_true rfl) (Nat.le_of_ble_eq_true rfl) ?_
  have hP : va_P (dC, dI) classes [(a_rdr, .inr (10, [.ref p1, .ref p2, .ref p3, .ref p4, .ref q1, .ref q3, .ref q5, .null, .null, .null, .int 0, .int 0, .int 0])), (q1, .inr (5, [.ref q2_1, .ref q2_2, .ref q2_3, .ref q2_4, .ref q2_5, .int 0])), (q2_1, .inl (cI, 31, .inl (fun _ => 0))), (q2_2, .inl (cI, 31, .inl (fun _ => 0))), (q2_3, .inl (cI, 31, .inl (fun _ => 0))), (q2_4, .inl (cI, 31, .inl (fun _ => 0))), (q2_5, .inl (cI, 31, .inl (fun _ => 0))), (q3, .inr (2, [.ref q4_1, .ref q4_2, .int 0])), (q4_1, .inl (cI, 1024, .inl (fun _ => 0))), (q4_2, .inl (cI, 1024, .inl (fun _ => 0))), (q5, .inr (6, [.ref p1, .int 0, .int (-1), .ref (tS 0), .int 0, .int 0])), (q7, .inr (7, [.ref p1, .ref p2, .ref q5, .ref q3, .int (-1)]))] H := hP
  have hD : va_D A [(a_rdr, .inr (10, [.ref p1, .ref p2, .ref p3, .ref p4, .ref q1, .ref q3, .ref q5, .null, .null, .null, .int 0, .int 0, .int 0])), (q1, .inr (5, [.ref q2_1, .ref q2_2, .ref q2_3, .ref q2_4, .ref q2_5, .int 0])), (q2_1, .inl (cI, 31, .inl (fun _ => 0))), (q2_2, .inl (cI, 31, .inl (fun _ => 0))), (q2_3, .inl (cI, 31, .inl (fun _ => 0))), (q2_4, .inl (cI, 31, .inl (fun _ => 0))), (q2_5, .inl (cI, 31, .inl (fun _ => 0))), (q3, .inr (2, [.ref q4_1, .ref q4_2, .int 0])), (q4_1, .inl (cI, 1024, .inl (fun _ => 0))), (q4_2, .inl (cI, 1024, .inl (fun _ => 0))), (q5, .inr (6, [.ref p1, .int 0, .int (-1), .ref (tS 0), .int 0, .int 0])), (q7, .inr (7, [.ref p1, .ref p2, .ref q5, .ref q3, .int (-1)]))] := hD
  refine va_putF (D := (dC, dI)) (ci := 10) (v := .ref q7) (ty := .object "PatternNodes$ClassReader") (C := R_RDR) (T := F_RDR) (N := N_RDR) hx hb hts i_RDR ty_RDR ty_RDR_ok n_RDR hown hK hP hD hS 0 rfl rfl 7 (by decide) (hts _ tw_440) (fun _ h9 => h9) rfl hin rfl (ty_RDR_ok 7 (by decide)) rfl rfl (Nat.le_of_ble_eq_true rfl) d_RDR_init_92 (fun H locs hP hD hS => ?_)
  have hP : va_P (dC, dI) classes [(a_rdr, .inr (10, [.ref p1, .ref p2, .ref p3, .ref p4, .ref q1, .ref q3, .ref q5, .ref q7, .null, .null, .int 0, .int 0, .int 0])), (q1, .inr (5, [.ref q2_1, .ref q2_2, .ref q2_3, .ref q2_4, .ref q2_5, .int 0])), (q2_1, .inl (cI, 31, .inl (fun _ => 0))), (q2_2, .inl (cI, 31, .inl (fun _ => 0))), (q2_3, .inl (cI, 31, .inl (fun _ => 0))), (q2_4, .inl (cI, 31, .inl (fun _ => 0))), (q2_5, .inl (cI, 31, .inl (fun _ => 0))), (q3, .inr (2, [.ref q4_1, .ref q4_2, .int 0])), (q4_1, .inl (cI, 1024, .inl (fun _ => 0))), (q4_2, .inl (cI, 1024, .inl (fun _ => 0))), (q5, .inr (6, [.ref p1, .int 0, .int (-1), .ref (tS 0), .int 0, .int 0])), (q7, .inr (7, [.ref p1, .ref p2, .ref q5, .ref q3, .int (-1)]))] H := hP
  have hD : va_D A [(a_rdr, .inr (10, [.ref p1, .ref p2, .ref p3, .ref p4, .ref q1, .ref q3, .ref q5, .ref q7, .null, .null, .int 0, .int 0, .int 0])), (q1, .inr (5, [.ref q2_1, .ref q2_2, .ref q2_3, .ref q2_4, .ref q2_5, .int 0])), (q2_1, .inl (cI, 31, .inl (fun _ => 0))), (q2_2, .inl (cI, 31, .inl (fun _ => 0))), (q2_3, .inl (cI, 31, .inl (fun _ => 0))), (q2_4, .inl (cI, 31, .inl (fun _ => 0))), (q2_5, .inl (cI, 31, .inl (fun _ => 0))), (q3, .inr (2, [.ref q4_1, .ref q4_2, .int 0])), (q4_1, .inl (cI, 1024, .inl (fun _ => 0))), (q4_2, .inl (cI, 1024, .inl (fun _ => 0))), (q5, .inr (6, [.ref p1, .int 0, .int (-1), .ref (tS 0), .int 0, .int 0])), (q7, .inr (7, [.ref p1, .ref p2, .ref q5, .ref q3, .int (-1)]))] := hD
  refine lv_aload_n hx hb d_RDR_init_95 rfl (lv_at hl 0 rfl) ?_
  refine va_new (ci := 8) (fs := [.null, .int 0, .int 0, .int 0, .int 0, .int 0, .int 0]) (C := R_OPG) (T := F_OPG) (N := N_OPG) hx hb hts i_OPG ty_OPG ty_OPG_ok hown (hts _ tw_441) (hts _ tw_442) (hts _ tw_88) hK hP hD hS hA rfl df_OPG (Nat.le_of_ble_eq_true rfl) (Nat.le_of_ble_eq_true rfl) d_RDR_init_96 (fun q9 H hP hD hS => ?_)
  refine W.widen (k := 12) (n := 2230) (Nat.le_of_ble_eq_true rfl) (Nat.le_of_ble_eq_true rfl) ?_
  have hP : va_P (dC, dI) classes [(a_rdr, .inr (10, [.ref p1, .ref p2, .ref p3, .ref p4, .ref q1, .ref q3, .ref q5, .ref q7, .null, .null, .int 0, .int 0, .int 0])), (q1, .inr (5, [.ref q2_1, .ref q2_2, .ref q2_3, .ref q2_4, .ref q2_5, .int 0])), (q2_1, .inl (cI, 31, .inl (fun _ => 0))), (q2_2, .inl (cI, 31, .inl (fun _ => 0))), (q2_3, .inl (cI, 31, .inl (fun _ => 0))), (q2_4, .inl (cI, 31, .inl (fun _ => 0))), (q2_5, .inl (cI, 31, .inl (fun _ => 0))), (q3, .inr (2, [.ref q4_1, .ref q4_2, .int 0])), (q4_1, .inl (cI, 1024, .inl (fun _ => 0))), (q4_2, .inl (cI, 1024, .inl (fun _ => 0))), (q5, .inr (6, [.ref p1, .int 0, .int (-1), .ref (tS 0), .int 0, .int 0])), (q7, .inr (7, [.ref p1, .ref p2, .ref q5, .ref q3, .int (-1)])), (q9, .inr (8, [.null, .int 0, .int 0, .int 0, .int 0, .int 0, .int 0]))] H := hP
  have hD : va_D A [(a_rdr, .inr (10, [.ref p1, .ref p2, .ref p3, .ref p4, .ref q1, .ref q3, .ref q5, .ref q7, .null, .null, .int 0, .int 0, .int 0])), (q1, .inr (5, [.ref q2_1, .ref q2_2, .ref q2_3, .ref q2_4, .ref q2_5, .int 0])), (q2_1, .inl (cI, 31, .inl (fun _ => 0))), (q2_2, .inl (cI, 31, .inl (fun _ => 0))), (q2_3, .inl (cI, 31, .inl (fun _ => 0))), (q2_4, .inl (cI, 31, .inl (fun _ => 0))), (q2_5, .inl (cI, 31, .inl (fun _ => 0))), (q3, .inr (2, [.ref q4_1, .ref q4_2, .int 0])), (q4_1, .inl (cI, 1024, .inl (fun _ => 0))), (q4_2, .inl (cI, 1024, .inl (fun _ => 0))), (q5, .inr (6, [.ref p1, .int 0, .int (-1), .ref (tS 0), .int 0, .int 0])), (q7, .inr (7, [.ref p1, .ref p2, .ref q5, .ref q3, .int (-1)])), (q9, .inr (8, [.null, .int 0, .int 0, .int 0, .int 0, .int 0, .int 0]))] := hD
  refine lv_dup hx hb d_RDR_init_99 rfl ?_
  refine lv_aload_n hx hb d_RDR_init_100 rfl (lv_at hl 1 rfl) ?_
  have hPc := hP.sub (ws' := [(q9, .inr (8, [.null, .int 0, .int 0, .int 0, .int 0, .int 0, .int 0]))]) [12] rfl
  have hDc := hD.sub (ws' := [(q9, .inr (8, [.null, .int 0, .int 0, .int 0, .int 0, .int 0, .int 0]))]) [12] (by decide) rfl
  have hFc := va_free (wc := [(q9, .inr (8, [.null, .int 0, .int 0, .int 0, .int 0, .int 0, .int 0]))]) hD hS hA [12] rfl
  refine cal_c (va_runI (As := [.ref p1]) (rest := [.ref q9, .ref a_rdr]) ⟨hx, hb, hml, hown, hts⟩ (c_OPG_init l dC dI cI tS H.size q9 p1) ⟨callB_of 1 hts (gN tw_443) rfl rfl rfl (hts _ tw_88) (hts _ tw_445) hd_OPG_init ⟨Nat.le_of_ble_eq_true rfl, Nat.le_of_ble_eq_true rfl⟩, rfl, hts _ tw_444⟩ (pre_S hK hPc hDc hst0 hS hFc) rfl rfl hl.1 rfl (lv_room (Nat.le_of_ble_eq_true rfl)) d_RDR_init_101 ⟨Nat.le_of_ble_eq_true rfl, Nat.le_of_ble_eq_true rfl⟩) hP hD hS hA [12] [0, 1, 2, 3, 4, 5, 6, 7, 8, 9, 10, 11] rfl rfl (by decide) (by decide) (fun u H locs hP hD hS => ?_)
  refine W.widen (k := 12) (n := 2230) (Nat.le_of_ble_eq_true rfl) (Nat.le_of_ble_eq_true rfl) ?_
  have hP : va_P (dC, dI) classes [(a_rdr, .inr (10, [.ref p1, .ref p2, .ref p3, .ref p4, .ref q1, .ref q3, .ref q5, .ref q7, .null, .null, .int 0, .int 0, .int 0])), (q1, .inr (5, [.ref q2_1, .ref q2_2, .ref q2_3, .ref q2_4, .ref q2_5, .int 0])), (q2_1, .inl (cI, 31, .inl (fun _ => 0))), (q2_2, .inl (cI, 31, .inl (fun _ => 0))), (q2_3, .inl (cI, 31, .inl (fun _ => 0))), (q2_4, .inl (cI, 31, .inl (fun _ => 0))), (q2_5, .inl (cI, 31, .inl (fun _ => 0))), (q3, .inr (2, [.ref q4_1, .ref q4_2, .int 0])), (q4_1, .inl (cI, 1024, .inl (fun _ => 0))), (q4_2, .inl (cI, 1024, .inl (fun _ => 0))), (q5, .inr (6, [.ref p1, .int 0, .int (-1), .ref (tS 0), .int 0, .int 0])), (q7, .inr (7, [.ref p1, .ref p2, .ref q5, .ref q3, .int (-1)])), (q9, .inr (8, [.ref p1, .int 0, .int 0, .int 0, .int 0, .int 0, .int 0]))] H := hP
  have hD : va_D A [(a_rdr, .inr (10, [.ref p1, .ref p2, .ref p3, .ref p4, .ref q1, .ref q3, .ref q5, .ref q7, .null, .null, .int 0, .int 0, .int 0])), (q1, .inr (5, [.ref q2_1, .ref q2_2, .ref q2_3, .ref q2_4, .ref q2_5, .int 0])), (q2_1, .inl (cI, 31, .inl (fun _ => 0))), (q2_2, .inl (cI, 31, .inl (fun _ => 0))), (q2_3, .inl (cI, 31, .inl (fun _ => 0))), (q2_4, .inl (cI, 31, .inl (fun _ => 0))), (q2_5, .inl (cI, 31, .inl (fun _ => 0))), (q3, .inr (2, [.ref q4_1, .ref q4_2, .int 0])), (q4_1, .inl (cI, 1024, .inl (fun _ => 0))), (q4_2, .inl (cI, 1024, .inl (fun _ => 0))), (q5, .inr (6, [.ref p1, .int 0, .int (-1), .ref (tS 0), .int 0, .int 0])), (q7, .inr (7, [.ref p1, .ref p2, .ref q5, .ref q3, .int (-1)])), (q9, .inr (8, [.ref p1, .int 0, .int 0, .int 0, .int 0, .int 0, .int 0]))] := hD
  refine va_putF (D := (dC, dI)) (ci := 10) (v := .ref q9) (ty := .object "PatternNodes$OpeningReader") (C := R_RDR) (T := F_RDR) (N := N_RDR) hx hb hts i_RDR ty_RDR ty_RDR_ok n_RDR hown hK hP hD hS 0 rfl rfl 8 (by decide) (hts _ tw_125) (fun _ h9 => h9) rfl hin rfl (ty_RDR_ok 8 (by decide)) rfl rfl (Nat.le_of_ble_eq_true rfl) d_RDR_init_104 (fun H locs hP hD hS => ?_)
  have hP : va_P (dC, dI) classes [(a_rdr, .inr (10, [.ref p1, .ref p2, .ref p3, .ref p4, .ref q1, .ref q3, .ref q5, .ref q7, .ref q9, .null, .int 0, .int 0, .int 0])), (q1, .inr (5, [.ref q2_1, .ref q2_2, .ref q2_3, .ref q2_4, .ref q2_5, .int 0])), (q2_1, .inl (cI, 31, .inl (fun _ => 0))), (q2_2, .inl (cI, 31, .inl (fun _ => 0))), (q2_3, .inl (cI, 31, .inl (fun _ => 0))), (q2_4, .inl (cI, 31, .inl (fun _ => 0))), (q2_5, .inl (cI, 31, .inl (fun _ => 0))), (q3, .inr (2, [.ref q4_1, .ref q4_2, .int 0])), (q4_1, .inl (cI, 1024, .inl (fun _ => 0))), (q4_2, .inl (cI, 1024, .inl (fun _ => 0))), (q5, .inr (6, [.ref p1, .int 0, .int (-1), .ref (tS 0), .int 0, .int 0])), (q7, .inr (7, [.ref p1, .ref p2, .ref q5, .ref q3, .int (-1)])), (q9, .inr (8, [.ref p1, .int 0, .int 0, .int 0, .int 0, .int 0, .int 0]))] H := hP
  have hD : va_D A [(a_rdr, .inr (10, [.ref p1, .ref p2, .ref p3, .ref p4, .ref q1, .ref q3, .ref q5, .ref q7, .ref q9, .null, .int 0, .int 0, .int 0])), (q1, .inr (5, [.ref q2_1, .ref q2_2, .ref q2_3, .ref q2_4, .ref q2_5, .int 0])), (q2_1, .inl (cI, 31, .inl (fun _ => 0))), (q2_2, .inl (cI, 31, .inl (fun _ => 0))), (q2_3, .inl (cI, 31, .inl (fun _ => 0))), (q2_4, .inl (cI, 31, .inl (fun _ => 0))), (q2_5, .inl (cI, 31, .inl (fun _ => 0))), (q3, .inr (2, [.ref q4_1, .ref q4_2, .int 0])), (q4_1, .inl (cI, 1024, .inl (fun _ => 0))), (q4_2, .inl (cI, 1024, .inl (fun _ => 0))), (q5, .inr (6, [.ref p1, .int 0, .int (-1), .ref (tS 0), .int 0, .int 0])), (q7, .inr (7, [.ref p1, .ref p2, .ref q5, .ref q3, .int (-1)])), (q9, .inr (8, [.ref p1, .int 0, .int 0, .int 0, .int 0, .int 0, .int 0]))] := hD
  refine lv_aload_n hx hb d_RDR_init_107 rfl (lv_at hl 0 rfl) ?_
  refine va_new (ci := 9) (fs := [.null, .int 0, .int 0, .int 0, .int 0, .int 0]) (C := R_REP) (T := F_REP) (N := N_REP) hx hb hts i_REP ty_REP ty_REP_ok hown (hts _ tw_446) (hts _ tw_447) (hts _ tw_360) hK hP hD hS hA rfl df_REP (Nat.le_of_ble_eq_true rfl) (Nat.le_of_ble_eq_true rfl) d_RDR_init_108 (fun q11 H hP hD hS => ?_)
  refine W.widen (k := 13) (n := 2236) (Nat.le_of_ble_eq_true rfl) (Nat.le_of_ble_eq_true rfl) ?_
  have hP : va_P (dC, dI) classes [(a_rdr, .inr (10, [.ref p1, .ref p2, .ref p3, .ref p4, .ref q1, .ref q3, .ref q5, .ref q7, .ref q9, .null, .int 0, .int 0, .int 0])), (q1, .inr (5, [.ref q2_1, .ref q2_2, .ref q2_3, .ref q2_4, .ref q2_5, .int 0])), (q2_1, .inl (cI, 31, .inl (fun _ => 0))), (q2_2, .inl (cI, 31, .inl (fun _ => 0))), (q2_3, .inl (cI, 31, .inl (fun _ => 0))), (q2_4, .inl (cI, 31, .inl (fun _ => 0))), (q2_5, .inl (cI, 31, .inl (fun _ => 0))), (q3, .inr (2, [.ref q4_1, .ref q4_2, .int 0])), (q4_1, .inl (cI, 1024, .inl (fun _ => 0))), (q4_2, .inl (cI, 1024, .inl (fun _ => 0))), (q5, .inr (6, [.ref p1, .int 0, .int (-1), .ref (tS 0), .int 0, .int 0])), (q7, .inr (7, [.ref p1, .ref p2, .ref q5, .ref q3, .int (-1)])), (q9, .inr (8, [.ref p1, .int 0, .int 0, .int 0, .int 0, .int 0, .int 0])), (q11, .inr (9, [.null, .int 0, .int 0, .int 0, .int 0, .int 0]))] H := hP
  have hD : va_D A [(a_rdr, .inr (10, [.ref p1, .ref p2, .ref p3, .ref p4, .ref q1, .ref q3, .ref q5, .ref q7, .ref q9, .null, .int 0, .int 0, .int 0])), (q1, .inr (5, [.ref q2_1, .ref q2_2, .ref q2_3, .ref q2_4, .ref q2_5, .int 0])), (q2_1, .inl (cI, 31, .inl (fun _ => 0))), (q2_2, .inl (cI, 31, .inl (fun _ => 0))), (q2_3, .inl (cI, 31, .inl (fun _ => 0))), (q2_4, .inl (cI, 31, .inl (fun _ => 0))), (q2_5, .inl (cI, 31, .inl (fun _ => 0))), (q3, .inr (2, [.ref q4_1, .ref q4_2, .int 0])), (q4_1, .inl (cI, 1024, .inl (fun _ => 0))), (q4_2, .inl (cI, 1024, .inl (fun _ => 0))), (q5, .inr (6, [.ref p1, .int 0, .int (-1), .ref (tS 0), .int 0, .int 0])), (q7, .inr (7, [.ref p1, .ref p2, .ref q5, .ref q3, .int (-1)])), (q9, .inr (8, [.ref p1, .int 0, .int 0, .int 0, .int 0, .int 0, .int 0])), (q11, .inr (9, [.null, .int 0, .int 0, .int 0, .int 0, .int 0]))] := hD
  refine lv_dup hx hb d_RDR_init_111 rfl ?_
  refine lv_aload_n hx hb d_RDR_init_112 rfl (lv_at hl 1 rfl) ?_
  have hPc := hP.sub (ws' := [(q11, .inr (9, [.null, .int 0, .int 0, .int 0, .int 0, .int 0]))]) [13] rfl
  have hDc := hD.sub (ws' := [(q11, .inr (9, [.null, .int 0, .int 0, .int 0, .int 0, .int 0]))]) [13] (by decide) rfl
  have hFc := va_free (wc := [(q11, .inr (9, [.null, .int 0, .int 0, .int 0, .int 0, .int 0]))]) hD hS hA [13] rfl
  refine cal_c (va_runI (As := [.ref p1]) (rest := [.ref q11, .ref a_rdr]) ⟨hx, hb, hml, hown, hts⟩ (c_REP_init l dC dI cI tS H.size q11 p1) ⟨callB_of 1 hts (gN tw_448) rfl rfl rfl (hts _ tw_360) (hts _ tw_450) hd_REP_init ⟨Nat.le_of_ble_eq_true rfl, Nat.le_of_ble_eq_true rfl⟩, rfl, hts _ tw_449⟩ (pre_S hK hPc hDc hst0 hS hFc) rfl rfl hl.1 rfl (lv_room (Nat.le_of_ble_eq_true rfl)) d_RDR_init_113 ⟨Nat.le_of_ble_eq_true rfl, Nat.le_of_ble_eq_true rfl⟩) hP hD hS hA [13] [0, 1, 2, 3, 4, 5, 6, 7, 8, 9, 10, 11, 12] rfl rfl (by decide) (by decide) (fun u H locs hP hD hS => ?_)
  refine W.widen (k := 13) (n := 2236) (Nat.le_of_ble_eq_true rfl) (Nat.le_of_ble_eq_true rfl) ?_
  have hP : va_P (dC, dI) classes [(a_rdr, .inr (10, [.ref p1, .ref p2, .ref p3, .ref p4, .ref q1, .ref q3, .ref q5, .ref q7, .ref q9, .null, .int 0, .int 0, .int 0])), (q1, .inr (5, [.ref q2_1, .ref q2_2, .ref q2_3, .ref q2_4, .ref q2_5, .int 0])), (q2_1, .inl (cI, 31, .inl (fun _ => 0))), (q2_2, .inl (cI, 31, .inl (fun _ => 0))), (q2_3, .inl (cI, 31, .inl (fun _ => 0))), (q2_4, .inl (cI, 31, .inl (fun _ => 0))), (q2_5, .inl (cI, 31, .inl (fun _ => 0))), (q3, .inr (2, [.ref q4_1, .ref q4_2, .int 0])), (q4_1, .inl (cI, 1024, .inl (fun _ => 0))), (q4_2, .inl (cI, 1024, .inl (fun _ => 0))), (q5, .inr (6, [.ref p1, .int 0, .int (-1), .ref (tS 0), .int 0, .int 0])), (q7, .inr (7, [.ref p1, .ref p2, .ref q5, .ref q3, .int (-1)])), (q9, .inr (8, [.ref p1, .int 0, .int 0, .int 0, .int 0, .int 0, .int 0])), (q11, .inr (9, [.ref p1, .int 0, .int (-1), .int 0, .int 0, .int 0]))] H := hP
  have hD : va_D A [(a_rdr, .inr (10, [.ref p1, .ref p2, .ref p3, .ref p4, .ref q1, .ref q3, .ref q5, .ref q7, .ref q9, .null, .int 0, .int 0, .int 0])), (q1, .inr (5, [.ref q2_1, .ref q2_2, .ref q2_3, .ref q2_4, .ref q2_5, .int 0])), (q2_1, .inl (cI, 31, .inl (fun _ => 0))), (q2_2, .inl (cI, 31, .inl (fun _ => 0))), (q2_3, .inl (cI, 31, .inl (fun _ => 0))), (q2_4, .inl (cI, 31, .inl (fun _ => 0))), (q2_5, .inl (cI, 31, .inl (fun _ => 0))), (q3, .inr (2, [.ref q4_1, .ref q4_2, .int 0])), (q4_1, .inl (cI, 1024, .inl (fun _ => 0))), (q4_2, .inl (cI, 1024, .inl (fun _ => 0))), (q5, .inr (6, [.ref p1, .int 0, .int (-1), .ref (tS 0), .int 0, .int 0])), (q7, .inr (7, [.ref p1, .ref p2, .ref q5, .ref q3, .int (-1)])), (q9, .inr (8, [.ref p1, .int 0, .int 0, .int 0, .int 0, .int 0, .int 0])), (q11, .inr (9, [.ref p1, .int 0, .int (-1), .int 0, .int 0, .int 0]))] := hD
  refine va_putF (D := (dC, dI)) (ci := 10) (v := .ref q11) (ty := .object "PatternNodes$RepeatReader") (C := R_RDR) (T := F_RDR) (N := N_RDR) hx hb hts i_RDR ty_RDR ty_RDR_ok n_RDR hown hK hP hD hS 0 rfl rfl 9 (by decide) (hts _ tw_370) (fun _ h9 => h9) rfl hin rfl (ty_RDR_ok 9 (by decide)) rfl rfl (Nat.le_of_ble_eq_true rfl) d_RDR_init_116 (fun H locs hP hD hS => ?_)
  have hP : va_P (dC, dI) classes [(a_rdr, .inr (10, [.ref p1, .ref p2, .ref p3, .ref p4, .ref q1, .ref q3, .ref q5, .ref q7, .ref q9, .ref q11, .int 0, .int 0, .int 0])), (q1, .inr (5, [.ref q2_1, .ref q2_2, .ref q2_3, .ref q2_4, .ref q2_5, .int 0])), (q2_1, .inl (cI, 31, .inl (fun _ => 0))), (q2_2, .inl (cI, 31, .inl (fun _ => 0))), (q2_3, .inl (cI, 31, .inl (fun _ => 0))), (q2_4, .inl (cI, 31, .inl (fun _ => 0))), (q2_5, .inl (cI, 31, .inl (fun _ => 0))), (q3, .inr (2, [.ref q4_1, .ref q4_2, .int 0])), (q4_1, .inl (cI, 1024, .inl (fun _ => 0))), (q4_2, .inl (cI, 1024, .inl (fun _ => 0))), (q5, .inr (6, [.ref p1, .int 0, .int (-1), .ref (tS 0), .int 0, .int 0])), (q7, .inr (7, [.ref p1, .ref p2, .ref q5, .ref q3, .int (-1)])), (q9, .inr (8, [.ref p1, .int 0, .int 0, .int 0, .int 0, .int 0, .int 0])), (q11, .inr (9, [.ref p1, .int 0, .int (-1), .int 0, .int 0, .int 0]))] H := hP
  have hD : va_D A [(a_rdr, .inr (10, [.ref p1, .ref p2, .ref p3, .ref p4, .ref q1, .ref q3, .ref q5, .ref q7, .ref q9, .ref q11, .int 0, .int 0, .int 0])), (q1, .inr (5, [.ref q2_1, .ref q2_2, .ref q2_3, .ref q2_4, .ref q2_5, .int 0])), (q2_1, .inl (cI, 31, .inl (fun _ => 0))), (q2_2, .inl (cI, 31, .inl (fun _ => 0))), (q2_3, .inl (cI, 31, .inl (fun _ => 0))), (q2_4, .inl (cI, 31, .inl (fun _ => 0))), (q2_5, .inl (cI, 31, .inl (fun _ => 0))), (q3, .inr (2, [.ref q4_1, .ref q4_2, .int 0])), (q4_1, .inl (cI, 1024, .inl (fun _ => 0))), (q4_2, .inl (cI, 1024, .inl (fun _ => 0))), (q5, .inr (6, [.ref p1, .int 0, .int (-1), .ref (tS 0), .int 0, .int 0])), (q7, .inr (7, [.ref p1, .ref p2, .ref q5, .ref q3, .int (-1)])), (q9, .inr (8, [.ref p1, .int 0, .int 0, .int 0, .int 0, .int 0, .int 0])), (q11, .inr (9, [.ref p1, .int 0, .int (-1), .int 0, .int 0, .int 0]))] := hD
  exact W.vret hx hb hr (fun t ht hW => ⟨⟨(q1, q2_1, q2_2, q2_3, q2_4, q2_5, q3, q4_1, q4_2, q5, q7, q9, q11), rfl, trivial, ⟨by rw [ht]; exact hP, va_K.moved hW.alike hK, hD⟩⟩, hS.F ht⟩) hS.2.2 d_RDR_init_119
set_option maxRecDepth 100000 in
set_option maxHeartbeats 4000000 in
theorem c_PN_init (l : Launch) (dC : Nat → ClassId) (dI : Nat → Nat → Nat) (cI : ClassId) (tS : Nat → Nat) (sz : Nat) (a_pn : Nat) : Met l y_PN_init ws_PN_init ({ frames := 3, cells := 31, slots := 10095, locals := 62 }) (va_Pc [.ref a_pn] (preS (dC, dI) classes [(cI, .int)] tS [(a_pn, .inr (11, [.null, .null, .null, .null, .null]))] sz)) (va_Qv (fun _ : Nat × Nat × Nat × Nat × Nat × Nat × Nat × Nat × Nat × Nat × Nat × Nat × Nat × Nat × Nat × Nat × Nat × Nat × Nat × Nat × Nat × Nat × Nat × Nat × Nat × Nat × Nat × Nat × Nat × Nat × Nat => True) (fun u t => posS (dC, dI) classes [(cI, .int)] [(a_pn, .inr (11, [.ref u.1, .ref u.2.2.1, .ref u.2.2.2.1, .ref u.2.2.2.2.2.2.2.2.2.2.2.2.2.2.1, .ref u.2.2.2.2.2.2.2.2.2.2.2.2.2.2.2.2.2.1])), (u.1, .inr (0, [.ref u.2.1, .int 0])), (u.2.1, .inl (cI, 400, .inl (fun _ => 0))), (u.2.2.1, .inr (1, [.int 0, .int (-1)])), (u.2.2.2.1, .inr (3, [.ref u.2.2.2.2.1, .ref u.2.2.2.2.2.1, .ref u.2.2.2.2.2.2.1, .ref u.2.2.2.2.2.2.2.1, .ref u.2.2.2.2.2.2.2.2.1, .ref u.2.2.2.2.2.2.2.2.2.1, .ref u.2.2.2.2.2.2.2.2.2.2.1, .ref u.2.2.2.2.2.2.2.2.2.2.2.1, .ref u.2.2.2.2.2.2.2.2.2.2.2.2.1, .ref u.2.2.2.2.2.2.2.2.2.2.2.2.2.1, .int 0, .int 0, .int 0])), (u.2.2.2.2.1, .inl (cI, 512, .inl (fun _ => 0))), (u.2.2.2.2.2.1, .inl (cI, 512, .inl (fun _ => 0))), (u.2.2.2.2.2.2.1, .inl (cI, 512, .inl (fun _ => 0))), (u.2.2.2.2.2.2.2.1, .inl (cI, 512, .inl (fun _ => 0))), (u.2.2.2.2.2.2.2.2.1, .inl (cI, 512, .inl (fun _ => 0))), (u.2.2.2.2.2.2.2.2.2.1, .inl (cI, 512, .inl (fun _ => 0))), (u.2.2.2.2.2.2.2.2.2.2.1, .inl (cI, 512, .inl (fun _ => 0))), (u.2.2.2.2.2.2.2.2.2.2.2.1, .inl (cI, 1600, .inl (fun _ => 0))), (u.2.2.2.2.2.2.2.2.2.2.2.2.1, .inl (cI, 1600, .inl (fun _ => 0))), (u.2.2.2.2.2.2.2.2.2.2.2.2.2.1, .inl (cI, 512, .inl (fun _ => 0))), (u.2.2.2.2.2.2.2.2.2.2.2.2.2.2.1, .inr (4, [.ref u.2.2.2.2.2.2.2.2.2.2.2.2.2.2.2.1, .ref u.2.2.2.2.2.2.2.2.2.2.2.2.2.2.2.2.1, .int 0])), (u.2.2.2.2.2.2.2.2.2.2.2.2.2.2.2.1, .inl (cI, 10, .inl (fun _ => 0))), (u.2.2.2.2.2.2.2.2.2.2.2.2.2.2.2.2.1, .inl (cI, 120, .inl (fun _ => 0))), (u.2.2.2.2.2.2.2.2.2.2.2.2.2.2.2.2.2.1, .inr (10, [.ref u.1, .ref u.2.2.1, .ref u.2.2.2.1, .ref u.2.2.2.2.2.2.2.2.2.2.2.2.2.2.1, .ref u.2.2.2.2.2.2.2.2.2.2.2.2.2.2.2.2.2.2.1, .ref u.2.2.2.2.2.2.2.2.2.2.2.2.2.2.2.2.2.2.2.2.2.2.2.2.1, .ref u.2.2.2.2.2.2.2.2.2.2.2.2.2.2.2.2.2.2.2.2.2.2.2.2.2.2.2.1, .ref u.2.2.2.2.2.2.2.2.2.2.2.2.2.2.2.2.2.2.2.2.2.2.2.2.2.2.2.2.1, .ref u.2.2.2.2.2.2.2.2.2.2.2.2.2.2.2.2.2.2.2.2.2.2.2.2.2.2.2.2.2.1, .ref u.2.2.2.2.2.2.2.2.2.2.2.2.2.2.2.2.2.2.2.2.2.2.2.2.2.2.2.2.2.2, .int 0, .int 0, .int 0])), (u.2.2.2.2.2.2.2.2.2.2.2.2.2.2.2.2.2.2.1, .inr (5, [.ref u.2.2.2.2.2.2.2.2.2.2.2.2.2.2.2.2.2.2.2.1, .ref u.2.2.2.2.2.2.2.2.2.2.2.2.2.2.2.2.2.2.2.2.1, .ref u.2.2.2.2.2.2.2.2.2.2.2.2.2.2.2.2.2.2.2.2.2.1, .ref u.2.2.2.2.2.2.2.2.2.2.2.2.2.2.2.2.2.2.2.2.2.2.1, .ref u.2.2.2.2.2.2.2.2.2.2.2.2.2.2.2.2.2.2.2.2.2.2.2.1, .int 0])), (u.2.2.2.2.2.2.2.2.2.2.2.2.2.2.2.2.2.2.2.1, .inl (cI, 31, .inl (fun _ => 0))), (u.2.2.2.2.2.2.2.2.2.2.2.2.2.2.2.2.2.2.2.2.1, .inl (cI, 31, .inl (fun _ => 0))), (u.2.2.2.2.2.2.2.2.2.2.2.2.2.2.2.2.2.2.2.2.2.1, .inl (cI, 31, .inl (fun _ => 0))), (u.2.2.2.2.2.2.2.2.2.2.2.2.2.2.2.2.2.2.2.2.2.2.1, .inl (cI, 31, .inl (fun _ => 0))), (u.2.2.2.2.2.2.2.2.2.2.2.2.2.2.2.2.2.2.2.2.2.2.2.1, .inl (cI, 31, .inl (fun _ => 0))), (u.2.2.2.2.2.2.2.2.2.2.2.2.2.2.2.2.2.2.2.2.2.2.2.2.1, .inr (2, [.ref u.2.2.2.2.2.2.2.2.2.2.2.2.2.2.2.2.2.2.2.2.2.2.2.2.2.1, .ref u.2.2.2.2.2.2.2.2.2.2.2.2.2.2.2.2.2.2.2.2.2.2.2.2.2.2.1, .int 0])), (u.2.2.2.2.2.2.2.2.2.2.2.2.2.2.2.2.2.2.2.2.2.2.2.2.2.1, .inl (cI, 1024, .inl (fun _ => 0))), (u.2.2.2.2.2.2.2.2.2.2.2.2.2.2.2.2.2.2.2.2.2.2.2.2.2.2.1, .inl (cI, 1024, .inl (fun _ => 0))), (u.2.2.2.2.2.2.2.2.2.2.2.2.2.2.2.2.2.2.2.2.2.2.2.2.2.2.2.1, .inr (6, [.ref u.1, .int 0, .int (-1), .ref (tS 0), .int 0, .int 0])), (u.2.2.2.2.2.2.2.2.2.2.2.2.2.2.2.2.2.2.2.2.2.2.2.2.2.2.2.2.1, .inr (7, [.ref u.1, .ref u.2.2.1, .ref u.2.2.2.2.2.2.2.2.2.2.2.2.2.2.2.2.2.2.2.2.2.2.2.2.2.2.2.1, .ref u.2.2.2.2.2.2.2.2.2.2.2.2.2.2.2.2.2.2.2.2.2.2.2.2.1, .int (-1)])), (u.2.2.2.2.2.2.2.2.2.2.2.2.2.2.2.2.2.2.2.2.2.2.2.2.2.2.2.2.2.1, .inr (8, [.ref u.1, .int 0, .int 0, .int 0, .int 0, .int 0, .int 0])), (u.2.2.2.2.2.2.2.2.2.2.2.2.2.2.2.2.2.2.2.2.2.2.2.2.2.2.2.2.2.2, .inr (9, [.ref u.1, .int 0, .int (-1), .int 0, .int 0, .int 0]))] (va_A [(a_pn, .inr (11, [.null, .null, .null, .null, .null]))] sz) t) (va_A [(a_pn, .inr (11, [.null, .null, .null, .null, .null]))] sz)) 31 10095 (va_A [(a_pn, .inr (11, [.null, .null, .null, .null, .null]))] sz) := by
  refine Met.ofW (cc := b_PN_init) (maxL := 1) (ret := none) (by decide) rfl ?_
  intro p e s m args below meth c s₁ B hml hv
  obtain ⟨rfl, hsz, hP, hK, hD0, hst0⟩ := hv
  have hx := B.exec
  have hb := B.bytes
  have hr := B.returns
  have hts0 := atoms_spec (ws := ws_PN_init) B.pre
  have hts : ∀ w ∈ GW, w.before _ s = true := fun w h => hts0 w (List.mem_cons_of_mem _ h)
  have hown : s.vm.findClass R_PN = some m.cls := findClass_of_methodNamed B.named
  have hlocks := B.notSynchronized
  have hin : meth.name = "<init>" := (name_of_methodNamed B.named B.method).1
  subst hsz
  have hD := hD0.self (sz := s.heap.size)
  generalize hAe : va_A [(a_pn, .inr (11, [.null, .null, .null, .null, .null]))] s.heap.size = A at hD hst0 ⊢
  have hA : ∀ q : Nat, s.heap.size ≤ q → A q := fun q h => by rw [← hAe]; exact Or.inr h
  have hS : va_S A s.heap s.heap [] := va_S.rf
  have hl := lv_entry ([.ref a_pn]) (n := 1) (Nat.le_of_ble_eq_true rfl)
  rw [lg_entry_eq]
  generalize (lg_sl ([.ref a_pn]) ++ List.replicate (1 - (lg_sl ([.ref a_pn])).length) Slot.unset).toArray = ls at hl ⊢
  have hl : lv_has ls 1 [(0, .ref a_pn)] := hl
  refine lv_aload_n hx hb d_PN_init_0 rfl (lv_at hl 0 rfl) ?_
  refine W.objInit hx hb hown (hts _ tw_451) (hts _ tw_407) (hts _ tw_408) rfl (by rw [hml]; exact hl.1) rfl d_PN_init_1 (Nat.le_of_ble_eq_true rfl) (Nat.le_of_ble_eq_true rfl) ?_
  refine W.eq (g2 := F0 m 4 ls []) rfl ?_
  refine lv_aload_n hx hb d_PN_init_4 rfl (lv_at hl 0 rfl) ?_
  refine va_new (ci := 0) (fs := [.null, .int 0]) (C := R_PAT) (T := F_PAT) (N := N_PAT) hx hb hts i_PAT ty_PAT ty_PAT_ok hown (hts _ tw_452) (hts _ tw_453) (hts _ tw_5) hK hP hD hS hA rfl df_PAT (Nat.le_of_ble_eq_true rfl) (Nat.le_of_ble_eq_true rfl) d_PN_init_5 (fun q1 H hP hD hS => ?_)
  refine W.widen (k := 1) (n := 2) (Nat.le_of_ble_eq_true rfl) (Nat.le_of_ble_eq_true rfl) ?_
  have hP : va_P (dC, dI) classes [(a_pn, .inr (11, [.null, .null, .null, .null, .null])), (q1, .inr (0, [.null, .int 0]))] H := hP
  have hD : va_D A [(a_pn, .inr (11, [.null, .null, .null, .null, .null])), (q1, .inr (0, [.null, .int 0]))] := hD
  refine lv_dup hx hb d_PN_init_8 rfl ?_
  have hPc := hP.sub (ws' := [(q1, .inr (0, [.null, .int 0]))]) [1] rfl
  have hDc := hD.sub (ws' := [(q1, .inr (0, [.null, .int 0]))]) [1] (by decide) rfl
  have hFc := va_free (wc := [(q1, .inr (0, [.null, .int 0]))]) hD hS hA [1] rfl
  refine cal_c (va_runIN (As := []) (rest := [.ref q1, .ref a_pn]) ⟨hx, hb, hml, hown, hts⟩ (c_PAT_init l dC dI cI tS H.size q1 ) ⟨va_cnB 0 hts (gN tw_454) rfl rfl rfl (hst0.2 _ tn_456) (hts _ tw_5) hd_PAT_init ⟨Nat.le_of_ble_eq_true rfl, Nat.le_of_ble_eq_true rfl⟩, rfl, hts _ tw_455⟩ (pre_S hK hPc hDc hst0 hS hFc) rfl rfl hl.1 rfl (lv_room (Nat.le_of_ble_eq_true rfl)) d_PN_init_9 ⟨Nat.le_of_ble_eq_true rfl, Nat.le_of_ble_eq_true rfl⟩) hP hD hS hA [1] [0] rfl rfl (by decide) (by decide) (fun u H locs hP hD hS => ?_)
  refine W.widen (k := 2) (n := 402) (Nat.le_of_ble_eq_true rfl) (Nat.le_of_ble_eq_true rfl) ?_
  obtain ⟨q2_1, rfl⟩ : ∃ z, z = u := ⟨_, rfl⟩
  have hP : va_P (dC, dI) classes [(a_pn, .inr (11, [.null, .null, .null, .null, .null])), (q1, .inr (0, [.ref q2_1, .int 0])), (q2_1, .inl (cI, 400, .inl (fun _ => 0)))] H := hP
  have hD : va_D A [(a_pn, .inr (11, [.null, .null, .null, .null, .null])), (q1, .inr (0, [.ref q2_1, .int 0])), (q2_1, .inl (cI, 400, .inl (fun _ => 0)))] := hD
  refine va_putF (D := (dC, dI)) (ci := 11) (v := .ref q1) (ty := .object "PatternNodes$Pattern") (C := R_PN) (T := F_PN) (N := N_PN) hx hb hts i_PN ty_PN ty_PN_ok n_PN hown hK hP hD hS 0 rfl rfl 0 (by decide) (hts _ tw_2) (fun _ h9 => h9) rfl hin rfl (ty_PN_ok 0 (by decide)) rfl rfl (Nat.le_of_ble_eq_true rfl) d_PN_init_12 (fun H locs hP hD hS => ?_)
  have hP : va_P (dC, dI) classes [(a_pn, .inr (11, [.ref q1, .null, .null, .null, .null])), (q1, .inr (0, [.ref q2_1, .int 0])), (q2_1, .inl (cI, 400, .inl (fun _ => 0)))] H := hP
  have hD : va_D A [(a_pn, .inr (11, [.ref q1, .null, .null, .null, .null])), (q1, .inr (0, [.ref q2_1, .int 0])), (q2_1, .inl (cI, 400, .inl (fun _ => 0)))] := hD
  refine lv_aload_n hx hb d_PN_init_15 rfl (lv_at hl 0 rfl) ?_
  refine va_new (ci := 1) (fs := [.int 0, .int 0]) (C := R_MIS) (T := F_MIS) (N := N_MIS) hx hb hts i_MIS ty_MIS ty_MIS_ok hown (hts _ tw_457) (hts _ tw_458) (hts _ tw_20) hK hP hD hS hA rfl df_MIS (Nat.le_of_ble_eq_true rfl) (Nat.le_of_ble_eq_true rfl) d_PN_init_16 (fun q3 H hP hD hS => ?_)
  refine W.widen (k := 3) (n := 404) (Nat.le_of_ble_eq_true rfl) (Nat.le_of_ble_eq_true rfl) ?_
  have hP : va_P (dC, dI) classes [(a_pn, .inr (11, [.ref q1, .null, .null, .null, .null])), (q1, .inr (0, [.ref q2_1, .int 0])), (q2_1, .inl (cI, 400, .inl (fun _ => 0))), (q3, .inr (1, [.int 0, .int 0]))] H := hP
  have hD : va_D A [(a_pn, .inr (11, [.ref q1, .null, .null, .null, .null])), (q1, .inr (0, [.ref q2_1, .int 0])), (q2_1, .inl (cI, 400, .inl (fun _ => 0))), (q3, .inr (1, [.int 0, .int 0]))] := hD
  refine lv_dup hx hb d_PN_init_19 rfl ?_
  have hPc := hP.sub (ws' := [(q3, .inr (1, [.int 0, .int 0]))]) [3] rfl
  have hDc := hD.sub (ws' := [(q3, .inr (1, [.int 0, .int 0]))]) [3] (by decide) rfl
  have hFc := va_free (wc := [(q3, .inr (1, [.int 0, .int 0]))]) hD hS hA [3] rfl
  refine cal_c (va_runIN (As := []) (rest := [.ref q3, .ref a_pn]) ⟨hx, hb, hml, hown, hts⟩ (c_MIS_init l dC dI cI tS H.size q3 ) ⟨va_cnB 0 hts (gN tw_459) rfl rfl rfl (hst0.2 _ tn_461) (hts _ tw_20) hd_MIS_init ⟨Nat.le_of_ble_eq_true rfl, Nat.le_of_ble_eq_true rfl⟩, rfl, hts _ tw_460⟩ (pre_S hK hPc hDc hst0 hS hFc) rfl rfl hl.1 rfl (lv_room (Nat.le_of_ble_eq_true rfl)) d_PN_init_20 ⟨Nat.le_of_ble_eq_true rfl, Nat.le_of_ble_eq_true rfl⟩) hP hD hS hA [3] [0, 1, 2] rfl rfl (by decide) (by decide) (fun u H locs hP hD hS => ?_)
  refine W.widen (k := 3) (n := 404) (Nat.le_of_ble_eq_true rfl) (Nat.le_of_ble_eq_true rfl) ?_
  have hP : va_P (dC, dI) classes [(a_pn, .inr (11, [.ref q1, .null, .null, .null, .null])), (q1, .inr (0, [.ref q2_1, .int 0])), (q2_1, .inl (cI, 400, .inl (fun _ => 0))), (q3, .inr (1, [.int 0, .int (-1)]))] H := hP
  have hD : va_D A [(a_pn, .inr (11, [.ref q1, .null, .null, .null, .null])), (q1, .inr (0, [.ref q2_1, .int 0])), (q2_1, .inl (cI, 400, .inl (fun _ => 0))), (q3, .inr (1, [.int 0, .int (-1)]))] := hD
  refine va_putF (D := (dC, dI)) (ci := 11) (v := .ref q3) (ty := .object "PatternNodes$Mistake") (C := R_PN) (T := F_PN) (N := N_PN) hx hb hts i_PN ty_PN ty_PN_ok n_PN hown hK hP hD hS 0 rfl rfl 1 (by decide) (hts _ tw_386) (fun _ h9 => h9) rfl hin rfl (ty_PN_ok 1 (by decide)) rfl rfl (Nat.le_of_ble_eq_true rfl) d_PN_init_23 (fun H locs hP hD hS => ?_)
  have hP : va_P (dC, dI) classes [(a_pn, .inr (11, [.ref q1, .ref q3, .null, .null, .null])), (q1, .inr (0, [.ref q2_1, .int 0])), (q2_1, .inl (cI, 400, .inl (fun _ => 0))), (q3, .inr (1, [.int 0, .int (-1)]))] H := hP
  have hD : va_D A [(a_pn, .inr (11, [.ref q1, .ref q3, .null, .null, .null])), (q1, .inr (0, [.ref q2_1, .int 0])), (q2_1, .inl (cI, 400, .inl (fun _ => 0))), (q3, .inr (1, [.int 0, .int (-1)]))] := hD
  refine lv_aload_n hx hb d_PN_init_26 rfl (lv_at hl 0 rfl) ?_
  refine va_new (ci := 3) (fs := [.null, .null, .null, .null, .null, .null, .null, .null, .null, .null, .int 0, .int 0, .int 0]) (C := R_TRE) (T := F_TRE) (N := N_TRE) hx hb hts i_TRE ty_TRE ty_TRE_ok hown (hts _ tw_462) (hts _ tw_463) (hts _ tw_26) hK hP hD hS hA rfl df_TRE (Nat.le_of_ble_eq_true rfl) (Nat.le_of_ble_eq_true rfl) d_PN_init_27 (fun q5 H hP hD hS => ?_)
  refine W.widen (k := 4) (n := 417) (Nat.le_of_ble_eq_true rfl) (Nat.le_of_ble_eq_true rfl) ?_
  have hP : va_P (dC, dI) classes [(a_pn, .inr (11, [.ref q1, .ref q3, .null, .null, .null])), (q1, .inr (0, [.ref q2_1, .int 0])), (q2_1, .inl (cI, 400, .inl (fun _ => 0))), (q3, .inr (1, [.int 0, .int (-1)])), (q5, .inr (3, [.null, .null, .null, .null, .null, .null, .null, .null, .null, .null, .int 0, .int 0, .int 0]))] H := hP
  have hD : va_D A [(a_pn, .inr (11, [.ref q1, .ref q3, .null, .null, .null])), (q1, .inr (0, [.ref q2_1, .int 0])), (q2_1, .inl (cI, 400, .inl (fun _ => 0))), (q3, .inr (1, [.int 0, .int (-1)])), (q5, .inr (3, [.null, .null, .null, .null, .null, .null, .null, .null, .null, .null, .int 0, .int 0, .int 0]))] := hD
  refine lv_dup hx hb d_PN_init_30 rfl ?_
  have hPc := hP.sub (ws' := [(q5, .inr (3, [.null, .null, .null, .null, .null, .null, .null, .null, .null, .null, .int 0, .int 0, .int 0]))]) [4] rfl
  have hDc := hD.sub (ws' := [(q5, .inr (3, [.null, .null, .null, .null, .null, .null, .null, .null, .null, .null, .int 0, .int 0, .int 0]))]) [4] (by decide) rfl
  have hFc := va_free (wc := [(q5, .inr (3, [.null, .null, .null, .null, .null, .null, .null, .null, .null, .null, .int 0, .int 0, .int 0]))]) hD hS hA [4] rfl
  refine cal_c (va_runIN (As := []) (rest := [.ref q5, .ref a_pn]) ⟨hx, hb, hml, hown, hts⟩ (c_TRE_init l dC dI cI tS H.size q5 ) ⟨va_cnB 0 hts (gN tw_464) rfl rfl rfl (hst0.2 _ tn_466) (hts _ tw_26) hd_TRE_init ⟨Nat.le_of_ble_eq_true rfl, Nat.le_of_ble_eq_true rfl⟩, rfl, hts _ tw_465⟩ (pre_S hK hPc hDc hst0 hS hFc) rfl rfl hl.1 rfl (lv_room (Nat.le_of_ble_eq_true rfl)) d_PN_init_31 ⟨Nat.le_of_ble_eq_true rfl, Nat.le_of_ble_eq_true rfl⟩) hP hD hS hA [4] [0, 1, 2, 3] rfl rfl (by decide) (by decide) (fun u H locs hP hD hS => ?_)
  refine W.widen (k := 14) (n := 7713) (Nat.le_of_ble_eq_true rfl) (Nat.le_of_ble_eq_true rfl) ?_
  obtain ⟨q6_1, q6_2, q6_3, q6_4, q6_5, q6_6, q6_7, q6_8, q6_9, q6_10⟩ := u
  have hP : va_P (dC, dI) classes [(a_pn, .inr (11, [.ref q1, .ref q3, .null, .null, .null])), (q1, .inr (0, [.ref q2_1, .int 0])), (q2_1, .inl (cI, 400, .inl (fun _ => 0))), (q3, .inr (1, [.int 0, .int (-1)])), (q5, .inr (3, [.ref q6_1, .ref q6_2, .ref q6_3, .ref q6_4, .ref q6_5, .ref q6_6, .ref q6_7, .ref q6_8, .ref q6_9, .ref q6_10, .int 0, .int 0, .int 0])), (q6_1, .inl (cI, 512, .inl (fun _ => 0))), (q6_2, .inl (cI, 512, .inl (fun _ => 0))), (q6_3, .inl (cI, 512, .inl (fun _ => 0))), (q6_4, .inl (cI, 512, .inl (fun _ => 0))), (q6_5, .inl (cI, 512, .inl (fun _ => 0))), (q6_6, .inl (cI, 512, .inl (fun _ => 0))), (q6_7, .inl (cI, 512, .inl (fun _ => 0))), (q6_8, .inl (cI, 1600, .inl (fun _ => 0))), (q6_9, .inl (cI, 1600, .inl (fun _ => 0))), (q6_10, .inl (cI, 512, .inl (fun _ => 0)))] H := hP
  have hD : va_D A [(a_pn, .inr (11, [.ref q1, .ref q3, .null, .null, .null])), (q1, .inr (0, [.ref q2_1, .int 0])), (q2_1, .inl (cI, 400, .inl (fun _ => 0))), (q3, .inr (1, [.int 0, .int (-1)])), (q5, .inr (3, [.ref q6_1, .ref q6_2, .ref q6_3, .ref q6_4, .ref q6_5, .ref q6_6, .ref q6_7, .ref q6_8, .ref q6_9, .ref q6_10, .int 0, .int 0, .int 0])), (q6_1, .inl (cI, 512, .inl (fun _ => 0))), (q6_2, .inl (cI, 512, .inl (fun _ => 0))), (q6_3, .inl (cI, 512, .inl (fun _ => 0))), (q6_4, .inl (cI, 512, .inl (fun _ => 0))), (q6_5, .inl (cI, 512, .inl (fun _ => 0))), (q6_6, .inl (cI, 512, .inl (fun _ => 0))), (q6_7, .inl (cI, 512, .inl (fun _ => 0))), (q6_8, .inl (cI, 1600, .inl (fun _ => 0))), (q6_9, .inl (cI, 1600, .inl (fun _ => 0))), (q6_10, .inl (cI, 512, .inl (fun _ => 0)))] := hD
  refine va_putF (D := (dC, dI)) (ci := 11) (v := .ref q5) (ty := .object "PatternNodes$Tree") (C := R_PN) (T := F_PN) (N := N_PN) hx hb hts i_PN ty_PN ty_PN_ok n_PN hown hK hP hD hS 0 rfl rfl 2 (by decide) (hts _ tw_389) (fun _ h9 => h9) rfl hin rfl (ty_PN_ok 2 (by decide)) rfl rfl (Nat.le_of_ble_eq_true rfl) d_PN_init_34 (fun H locs hP hD hS => ?_)
  have hP : va_P (dC, dI) classes [(a_pn, .inr (11, [.ref q1, .ref q3, .ref q5, .null, .null])), (q1, .inr (0, [.ref q2_1, .int 0])), (q2_1, .inl (cI, 400, .inl (fun _ => 0))), (q3, .inr (1, [.int 0, .int (-1)])), (q5, .inr (3, [.ref q6_1, .ref q6_2, .ref q6_3, .ref q6_4, .ref q6_5, .ref q6_6, .ref q6_7, .ref q6_8, .ref q6_9, .ref q6_10, .int 0, .int 0, .int 0])), (q6_1, .inl (cI, 512, .inl (fun _ => 0))), (q6_2, .inl (cI, 512, .inl (fun _ => 0))), (q6_3, .inl (cI, 512, .inl (fun _ => 0))), (q6_4, .inl (cI, 512, .inl (fun _ => 0))), (q6_5, .inl (cI, 512, .inl (fun _ => 0))), (q6_6, .inl (cI, 512, .inl (fun _ => 0))), (q6_7, .inl (cI, 512, .inl (fun _ => 0))), (q6_8, .inl (cI, 1600, .inl (fun _ => 0))), (q6_9, .inl (cI, 1600, .inl (fun _ => 0))), (q6_10, .inl (cI, 512, .inl (fun _ => 0)))] H := hP
  have hD : va_D A [(a_pn, .inr (11, [.ref q1, .ref q3, .ref q5, .null, .null])), (q1, .inr (0, [.ref q2_1, .int 0])), (q2_1, .inl (cI, 400, .inl (fun _ => 0))), (q3, .inr (1, [.int 0, .int (-1)])), (q5, .inr (3, [.ref q6_1, .ref q6_2, .ref q6_3, .ref q6_4, .ref q6_5, .ref q6_6, .ref q6_7, .ref q6_8, .ref q6_9, .ref q6_10, .int 0, .int 0, .int 0])), (q6_1, .inl (cI, 512, .inl (fun _ => 0))), (q6_2, .inl (cI, 512, .inl (fun _ => 0))), (q6_3, .inl (cI, 512, .inl (fun _ => 0))), (q6_4, .inl (cI, 512, .inl (fun _ => 0))), (q6_5, .inl (cI, 512, .inl (fun _ => 0))), (q6_6, .inl (cI, 512, .inl (fun _ => 0))), (q6_7, .inl (cI, 512, .inl (fun _ => 0))), (q6_8, .inl (cI, 1600, .inl (fun _ => 0))), (q6_9, .inl (cI, 1600, .inl (fun _ => 0))), (q6_10, .inl (cI, 512, .inl (fun _ => 0)))] := hD
  refine lv_aload_n hx hb d_PN_init_37 rfl (lv_at hl 0 rfl) ?_
  refine va_new (ci := 4) (fs := [.null, .null, .int 0]) (C := R_GRP) (T := F_GRP) (N := N_GRP) hx hb hts i_GRP ty_GRP ty_GRP_ok hown (hts _ tw_467) (hts _ tw_468) (hts _ tw_32) hK hP hD hS hA rfl df_GRP (Nat.le_of_ble_eq_true rfl) (Nat.le_of_ble_eq_true rfl) d_PN_init_38 (fun q7 H hP hD hS => ?_)
  refine W.widen (k := 15) (n := 7716) (Nat.le_of_ble_eq_true rfl) (Nat.le_of_ble_eq_true rfl) ?_
  have hP : va_P (dC, dI) classes [(a_pn, .inr (11, [.ref q1, .ref q3, .ref q5, .null, .null])), (q1, .inr (0, [.ref q2_1, .int 0])), (q2_1, .inl (cI, 400, .inl (fun _ => 0))), (q3, .inr (1, [.int 0, .int (-1)])), (q5, .inr (3, [.ref q6_1, .ref q6_2, .ref q6_3, .ref q6_4, .ref q6_5, .ref q6_6, .ref q6_7, .ref q6_8, .ref q6_9, .ref q6_10, .int 0, .int 0, .int 0])), (q6_1, .inl (cI, 512, .inl (fun _ => 0))), (q6_2, .inl (cI, 512, .inl (fun _ => 0))), (q6_3, .inl (cI, 512, .inl (fun _ => 0))), (q6_4, .inl (cI, 512, .inl (fun _ => 0))), (q6_5, .inl (cI, 512, .inl (fun _ => 0))), (q6_6, .inl (cI, 512, .inl (fun _ => 0))), (q6_7, .inl (cI, 512, .inl (fun _ => 0))), (q6_8, .inl (cI, 1600, .inl (fun _ => 0))), (q6_9, .inl (cI, 1600, .inl (fun _ => 0))), (q6_10, .inl (cI, 512, .inl (fun _ => 0))), (q7, .inr (4, [.null, .null, .int 0]))] H := hP
  have hD : va_D A [(a_pn, .inr (11, [.ref q1, .ref q3, .ref q5, .null, .null])), (q1, .inr (0, [.ref q2_1, .int 0])), (q2_1, .inl (cI, 400, .inl (fun _ => 0))), (q3, .inr (1, [.int 0, .int (-1)])), (q5, .inr (3, [.ref q6_1, .ref q6_2, .ref q6_3, .ref q6_4, .ref q6_5, .ref q6_6, .ref q6_7, .ref q6_8, .ref q6_9, .ref q6_10, .int 0, .int 0, .int 0])), (q6_1, .inl (cI, 512, .inl (fun _ => 0))), (q6_2, .inl (cI, 512, .inl (fun _ => 0))), (q6_3, .inl (cI, 512, .inl (fun _ => 0))), (q6_4, .inl (cI, 512, .inl (fun _ => 0))), (q6_5, .inl (cI, 512, .inl (fun _ => 0))), (q6_6, .inl (cI, 512, .inl (fun _ => 0))), (q6_7, .inl (cI, 512, .inl (fun _ => 0))), (q6_8, .inl (cI, 1600, .inl (fun _ => 0))), (q6_9, .inl (cI, 1600, .inl (fun _ => 0))), (q6_10, .inl (cI, 512, .inl (fun _ => 0))), (q7, .inr (4, [.null, .null, .int 0]))] := hD
  refine lv_dup hx hb d_PN_init_41 rfl ?_
  have hPc := hP.sub (ws' := [(q7, .inr (4, [.null, .null, .int 0]))]) [15] rfl
  have hDc := hD.sub (ws' := [(q7, .inr (4, [.null, .null, .int 0]))]) [15] (by decide) rfl
  have hFc := va_free (wc := [(q7, .inr (4, [.null, .null, .int 0]))]) hD hS hA [15] rfl
  refine cal_c (va_runIN (As := []) (rest := [.ref q7, .ref a_pn]) ⟨hx, hb, hml, hown, hts⟩ (c_GRP_init l dC dI cI tS H.size q7 ) ⟨va_cnB 0 hts (gN tw_469) rfl rfl rfl (hst0.2 _ tn_471) (hts _ tw_32) hd_GRP_init ⟨Nat.le_of_ble_eq_true rfl, Nat.le_of_ble_eq_true rfl⟩, rfl, hts _ tw_470⟩ (pre_S hK hPc hDc hst0 hS hFc) rfl rfl hl.1 rfl (lv_room (Nat.le_of_ble_eq_true rfl)) d_PN_init_42 ⟨Nat.le_of_ble_eq_true rfl, Nat.le_of_ble_eq_true rfl⟩) hP hD hS hA [15] [0, 1, 2, 3, 4, 5, 6, 7, 8, 9, 10, 11, 12, 13, 14] rfl rfl (by decide) (by decide) (fun u H locs hP hD hS => ?_)
  refine W.widen (k := 17) (n := 7846) (Nat.le_of_ble_eq_true rfl) (Nat.le_of_ble_eq_true rfl) ?_
  obtain ⟨q8_1, q8_2⟩ := u
  have hP : va_P (dC, dI) classes [(a_pn, .inr (11, [.ref q1, .ref q3, .ref q5, .null, .null])), (q1, .inr (0, [.ref q2_1, .int 0])), (q2_1, .inl (cI, 400, .inl (fun _ => 0))), (q3, .inr (1, [.int 0, .int (-1)])), (q5, .inr (3, [.ref q6_1, .ref q6_2, .ref q6_3, .ref q6_4, .ref q6_5, .ref q6_6, .ref q6_7, .ref q6_8, .ref q6_9, .ref q6_10, .int 0, .int 0, .int 0])), (q6_1, .inl (cI, 512, .inl (fun _ => 0))), (q6_2, .inl (cI, 512, .inl (fun _ => 0))), (q6_3, .inl (cI, 512, .inl (fun _ => 0))), (q6_4, .inl (cI, 512, .inl (fun _ => 0))), (q6_5, .inl (cI, 512, .inl (fun _ => 0))), (q6_6, .inl (cI, 512, .inl (fun _ => 0))), (q6_7, .inl (cI, 512, .inl (fun _ => 0))), (q6_8, .inl (cI, 1600, .inl (fun _ => 0))), (q6_9, .inl (cI, 1600, .inl (fun _ => 0))), (q6_10, .inl (cI, 512, .inl (fun _ => 0))), (q7, .inr (4, [.ref q8_1, .ref q8_2, .int 0])), (q8_1, .inl (cI, 10, .inl (fun _ => 0))), (q8_2, .inl (cI, 120, .inl (fun _ => 0)))] H := hP
  have hD : va_D A [(a_pn, .inr (11, [.ref q1, .ref q3, .ref q5, .null, .null])), (q1, .inr (0, [.ref q2_1, .int 0])), (q2_1, .inl (cI, 400, .inl (fun _ => 0))), (q3, .inr (1, [.int 0, .int (-1)])), (q5, .inr (3, [.ref q6_1, .ref q6_2, .ref q6_3, .ref q6_4, .ref q6_5, .ref q6_6, .ref q6_7, .ref q6_8, .ref q6_9, .ref q6_10, .int 0, .int 0, .int 0])), (q6_1, .inl (cI, 512, .inl (fun _ => 0))), (q6_2, .inl (cI, 512, .inl (fun _ => 0))), (q6_3, .inl (cI, 512, .inl (fun _ => 0))), (q6_4, .inl (cI, 512, .inl (fun _ => 0))), (q6_5, .inl (cI, 512, .inl (fun _ => 0))), (q6_6, .inl (cI, 512, .inl (fun _ => 0))), (q6_7, .inl (cI, 512, .inl (fun _ => 0))), (q6_8, .inl (cI, 1600, .inl (fun _ => 0))), (q6_9, .inl (cI, 1600, .inl (fun _ => 0))), (q6_10, .inl (cI, 512, .inl (fun _ => 0))), (q7, .inr (4, [.ref q8_1, .ref q8_2, .int 0])), (q8_1, .inl (cI, 10, .inl (fun _ => 0))), (q8_2, .inl (cI, 120, .inl (fun _ => 0)))] := hD
  refine va_putF (D := (dC, dI)) (ci := 11) (v := .ref q7) (ty := .object "PatternNodes$NumberedGroups") (C := R_PN) (T := F_PN) (N := N_PN) hx hb hts i_PN ty_PN ty_PN_ok n_PN hown hK hP hD hS 0 rfl rfl 3 (by decide) (hts _ tw_391) (fun _ h9 => h9) rfl hin rfl (ty_PN_ok 3 (by decide)) rfl rfl (Nat.le_of_ble_eq_true rfl) d_PN_init_45 (fun H locs hP hD hS => ?_)
  have hP : va_P (dC, dI) classes [(a_pn, .inr (11, [.ref q1, .ref q3, .ref q5, .ref q7, .null])), (q1, .inr (0, [.ref q2_1, .int 0])), (q2_1, .inl (cI, 400, .inl (fun _ => 0))), (q3, .inr (1, [.int 0, .int (-1)])), (q5, .inr (3, [.ref q6_1, .ref q6_2, .ref q6_3, .ref q6_4, .ref q6_5, .ref q6_6, .ref q6_7, .ref q6_8, .ref q6_9, .ref q6_10, .int 0, .int 0, .int 0])), (q6_1, .inl (cI, 512, .inl (fun _ => 0))), (q6_2, .inl (cI, 512, .inl (fun _ => 0))), (q6_3, .inl (cI, 512, .inl (fun _ => 0))), (q6_4, .inl (cI, 512, .inl (fun _ => 0))), (q6_5, .inl (cI, 512, .inl (fun _ => 0))), (q6_6, .inl (cI, 512, .inl (fun _ => 0))), (q6_7, .inl (cI, 512, .inl (fun _ => 0))), (q6_8, .inl (cI, 1600, .inl (fun _ => 0))), (q6_9, .inl (cI, 1600, .inl (fun _ => 0))), (q6_10, .inl (cI, 512, .inl (fun _ => 0))), (q7, .inr (4, [.ref q8_1, .ref q8_2, .int 0])), (q8_1, .inl (cI, 10, .inl (fun _ => 0))), (q8_2, .inl (cI, 120, .inl (fun _ => 0)))] H := hP
  have hD : va_D A [(a_pn, .inr (11, [.ref q1, .ref q3, .ref q5, .ref q7, .null])), (q1, .inr (0, [.ref q2_1, .int 0])), (q2_1, .inl (cI, 400, .inl (fun _ => 0))), (q3, .inr (1, [.int 0, .int (-1)])), (q5, .inr (3, [.ref q6_1, .ref q6_2, .ref q6_3, .ref q6_4, .ref q6_5, .ref q6_6, .ref q6_7, .ref q6_8, .ref q6_9, .ref q6_10, .int 0, .int 0, .int 0])), (q6_1, .inl (cI, 512, .inl (fun _ => 0))), (q6_2, .inl (cI, 512, .inl (fun _ => 0))), (q6_3, .inl (cI, 512, .inl (fun _ => 0))), (q6_4, .inl (cI, 512, .inl (fun _ => 0))), (q6_5, .inl (cI, 512, .inl (fun _ => 0))), (q6_6, .inl (cI, 512, .inl (fun _ => 0))), (q6_7, .inl (cI, 512, .inl (fun _ => 0))), (q6_8, .inl (cI, 1600, .inl (fun _ => 0))), (q6_9, .inl (cI, 1600, .inl (fun _ => 0))), (q6_10, .inl (cI, 512, .inl (fun _ => 0))), (q7, .inr (4, [.ref q8_1, .ref q8_2, .int 0])), (q8_1, .inl (cI, 10, .inl (fun _ => 0))), (q8_2, .inl (cI, 120, .inl (fun _ => 0)))] := hD
  refine lv_aload_n hx hb d_PN_init_48 rfl (lv_at hl 0 rfl) ?_
  refine va_new (ci := 10) (fs := [.null, .null, .null, .null, .null, .null, .null, .null, .null, .null, .int 0, .int 0, .int 0]) (C := R_RDR) (T := F_RDR) (N := N_RDR) hx hb hts i_RDR ty_RDR ty_RDR_ok hown (hts _ tw_472) (hts _ tw_473) (hts _ tw_137) hK hP hD hS hA rfl df_RDR (Nat.le_of_ble_eq_true rfl) (Nat.le_of_ble_eq_true rfl) d_PN_init_49 (fun q9 H hP hD hS => ?_)
  refine W.widen (k := 18) (n := 7859) (Nat.le_of_ble_eq_true rfl) (Nat.le_of_ble_eq_true rfl) ?_
  have hP : va_P (dC, dI) classes [(a_pn, .inr (11, [.ref q1, .ref q3, .ref q5, .ref q7, .null])), (q1, .inr (0, [.ref q2_1, .int 0])), (q2_1, .inl (cI, 400, .inl (fun _ => 0))), (q3, .inr (1, [.int 0, .int (-1)])), (q5, .inr (3, [.ref q6_1, .ref q6_2, .ref q6_3, .ref q6_4, .ref q6_5, .ref q6_6, .ref q6_7, .ref q6_8, .ref q6_9, .ref q6_10, .int 0, .int 0, .int 0])), (q6_1, .inl (cI, 512, .inl (fun _ => 0))), (q6_2, .inl (cI, 512, .inl (fun _ => 0))), (q6_3, .inl (cI, 512, .inl (fun _ => 0))), (q6_4, .inl (cI, 512, .inl (fun _ => 0))), (q6_5, .inl (cI, 512, .inl (fun _ => 0))), (q6_6, .inl (cI, 512, .inl (fun _ => 0))), (q6_7, .inl (cI, 512, .inl (fun _ => 0))), (q6_8, .inl (cI, 1600, .inl (fun _ => 0))), (q6_9, .inl (cI, 1600, .inl (fun _ => 0))), (q6_10, .inl (cI, 512, .inl (fun _ => 0))), (q7, .inr (4, [.ref q8_1, .ref q8_2, .int 0])), (q8_1, .inl (cI, 10, .inl (fun _ => 0))), (q8_2, .inl (cI, 120, .inl (fun _ => 0))), (q9, .inr (10, [.null, .null, .null, .null, .null, .null, .null, .null, .null, .null, .int 0, .int 0, .int 0]))] H := hP
  have hD : va_D A [(a_pn, .inr (11, [.ref q1, .ref q3, .ref q5, .ref q7, .null])), (q1, .inr (0, [.ref q2_1, .int 0])), (q2_1, .inl (cI, 400, .inl (fun _ => 0))), (q3, .inr (1, [.int 0, .int (-1)])), (q5, .inr (3, [.ref q6_1, .ref q6_2, .ref q6_3, .ref q6_4, .ref q6_5, .ref q6_6, .ref q6_7, .ref q6_8, .ref q6_9, .ref q6_10, .int 0, .int 0, .int 0])), (q6_1, .inl (cI, 512, .inl (fun _ => 0))), (q6_2, .inl (cI, 512, .inl (fun _ => 0))), (q6_3, .inl (cI, 512, .inl (fun _ => 0))), (q6_4, .inl (cI, 512, .inl (fun _ => 0))), (q6_5, .inl (cI, 512, .inl (fun _ => 0))), (q6_6, .inl (cI, 512, .inl (fun _ => 0))), (q6_7, .inl (cI, 512, .inl (fun _ => 0))), (q6_8, .inl (cI, 1600, .inl (fun _ => 0))), (q6_9, .inl (cI, 1600, .inl (fun _ => 0))), (q6_10, .inl (cI, 512, .inl (fun _ => 0))), (q7, .inr (4, [.ref q8_1, .ref q8_2, .int 0])), (q8_1, .inl (cI, 10, .inl (fun _ => 0))), (q8_2, .inl (cI, 120, .inl (fun _ => 0))), (q9, .inr (10, [.null, .null, .null, .null, .null, .null, .null, .null, .null, .null, .int 0, .int 0, .int 0]))] := hD
  refine lv_dup hx hb d_PN_init_52 rfl ?_
  refine lv_aload_n hx hb d_PN_init_53 rfl (lv_at hl 0 rfl) ?_
  refine va_get (D := (dC, dI)) (ci := 11) (v := .ref q1) (C := R_PN) (T := F_PN) (N := N_PN) hx hb hts i_PN hown hK hP 0 rfl rfl 0 (by decide) (hts _ tw_2) (fun _ h9 => h9) rfl d_PN_init_54 ?_
  refine lv_aload_n hx hb d_PN_init_57 rfl (lv_at hl 0 rfl) ?_
  refine va_get (D := (dC, dI)) (ci := 11) (v := .ref q3) (C := R_PN) (T := F_PN) (N := N_PN) hx hb hts i_PN hown hK hP 0 rfl rfl 1 (by decide) (hts _ tw_386) (fun _ h9 => h9) rfl d_PN_init_58 ?_
  refine lv_aload_n hx hb d_PN_init_61 rfl (lv_at hl 0 rfl) ?_
  refine va_get (D := (dC, dI)) (ci := 11) (v := .ref q5) (C := R_PN) (T := F_PN) (N := N_PN) hx hb hts i_PN hown hK hP 0 rfl rfl 2 (by decide) (hts _ tw_389) (fun _ h9 => h9) rfl d_PN_init_62 ?_
  refine lv_aload_n hx hb d_PN_init_65 rfl (lv_at hl 0 rfl) ?_
  refine va_get (D := (dC, dI)) (ci := 11) (v := .ref q7) (C := R_PN) (T := F_PN) (N := N_PN) hx hb hts i_PN hown hK hP 0 rfl rfl 3 (by decide) (hts _ tw_391) (fun _ h9 => h9) rfl d_PN_init_66 ?_
  have hPc := hP.sub (ws' := [(q9, .inr (10, [.null, .null, .null, .null, .null, .null, .null, .null, .null, .null, .int 0, .int 0, .int 0]))]) [18] rfl
  have hDc := hD.sub (ws' := [(q9, .inr (10, [.null, .null, .null, .null, .null, .null, .null, .null, .null, .null, .int 0, .int 0, .int 0]))]) [18] (by decide) rfl
  have hFc := va_free (wc := [(q9, .inr (10, [.null, .null, .null, .null, .null, .null, .null, .null, .null, .null, .int 0, .int 0, .int 0]))]) hD hS hA [18] rfl
  refine cal_c (va_runI (As := [.ref q1, .ref q3, .ref q5, .ref q7]) (rest := [.ref q9, .ref a_pn]) ⟨hx, hb, hml, hown, hts⟩ (c_RDR_init l dC dI cI tS H.size q9 q1 q3 q5 q7) ⟨callB_of 4 hts (gN tw_474) rfl rfl rfl (hts _ tw_137) (hts _ tw_476) hd_RDR_init ⟨Nat.le_of_ble_eq_true rfl, Nat.le_of_ble_eq_true rfl⟩, rfl, hts _ tw_475⟩ (pre_S hK hPc hDc hst0 hS hFc) rfl rfl hl.1 rfl (lv_room (Nat.le_of_ble_eq_true rfl)) d_PN_init_69 ⟨Nat.le_of_ble_eq_true rfl, Nat.le_of_ble_eq_true rfl⟩) hP hD hS hA [18] [0, 1, 2, 3, 4, 5, 6, 7, 8, 9, 10, 11, 12, 13, 14, 15, 16, 17] rfl rfl (by decide) (by decide) (fun u H locs hP hD hS => ?_)
  refine W.widen (k := 31) (n := 10095) (Nat.le_of_ble_eq_true rfl) (Nat.le_of_ble_eq_true rfl) ?_
  obtain ⟨q10_1, q10_2, q10_3, q10_4, q10_5, q10_6, q10_7, q10_8, q10_9, q10_10, q10_11, q10_12, q10_13⟩ := u
  have hP : va_P (dC, dI) classes [(a_pn, .inr (11, [.ref q1, .ref q3, .ref q5, .ref q7, .null])), (q1, .inr (0, [.ref q2_1, .int 0])), (q2_1, .inl (cI, 400, .inl (fun _ => 0))), (q3, .inr (1, [.int 0, .int (-1)])), (q5, .inr (3, [.ref q6_1, .ref q6_2, .ref q6_3, .ref q6_4, .ref q6_5, .ref q6_6, .ref q6_7, .ref q6_8, .ref q6_9, .ref q6_10, .int 0, .int 0, .int 0])), (q6_1, .inl (cI, 512, .inl (fun _ => 0))), (q6_2, .inl (cI, 512, .inl (fun _ => 0))), (q6_3, .inl (cI, 512, .inl (fun _ => 0))), (q6_4, .inl (cI, 512, .inl (fun _ => 0))), (q6_5, .inl (cI, 512, .inl (fun _ => 0))), (q6_6, .inl (cI, 512, .inl (fun _ => 0))), (q6_7, .inl (cI, 512, .inl (fun _ => 0))), (q6_8, .inl (cI, 1600, .inl (fun _ => 0))), (q6_9, .inl (cI, 1600, .inl (fun _ => 0))), (q6_10, .inl (cI, 512, .inl (fun _ => 0))), (q7, .inr (4, [.ref q8_1, .ref q8_2, .int 0])), (q8_1, .inl (cI, 10, .inl (fun _ => 0))), (q8_2, .inl (cI, 120, .inl (fun _ => 0))), (q9, .inr (10, [.ref q1, .ref q3, .ref q5, .ref q7, .ref q10_1, .ref q10_7, .ref q10_10, .ref q10_11, .ref q10_12, .ref q10_13, .int 0, .int 0, .int 0])), (q10_1, .inr (5, [.ref q10_2, .ref q10_3, .ref q10_4, .ref q10_5, .ref q10_6, .int 0])), (q10_2, .inl (cI, 31, .inl (fun _ => 0))), (q10_3, .inl (cI, 31, .inl (fun _ => 0))), (q10_4, .inl (cI, 31, .inl (fun _ => 0))), (q10_5, .inl (cI, 31, .inl (fun _ => 0))), (q10_6, .inl (cI, 31, .inl (fun _ => 0))), (q10_7, .inr (2, [.ref q10_8, .ref q10_9, .int 0])), (q10_8, .inl (cI, 1024, .inl (fun _ => 0))), (q10_9, .inl (cI, 1024, .inl (fun _ => 0))), (q10_10, .inr (6, [.ref q1, .int 0, .int (-1), .ref (tS 0), .int 0, .int 0])), (q10_11, .inr (7, [.ref q1, .ref q3, .ref q10_10, .ref q10_7, .int (-1)])), (q10_12, .inr (8, [.ref q1, .int 0, .int 0, .int 0, .int 0, .int 0, .int 0])), (q10_13, .inr (9, [.ref q1, .int 0, .int (-1), .int 0, .int 0, .int 0]))] H := hP
  have hD : va_D A [(a_pn, .inr (11, [.ref q1, .ref q3, .ref q5, .ref q7, .null])), (q1, .inr (0, [.ref q2_1, .int 0])), (q2_1, .inl (cI, 400, .inl (fun _ => 0))), (q3, .inr (1, [.int 0, .int (-1)])), (q5, .inr (3, [.ref q6_1, .ref q6_2, .ref q6_3, .ref q6_4, .ref q6_5, .ref q6_6, .ref q6_7, .ref q6_8, .ref q6_9, .ref q6_10, .int 0, .int 0, .int 0])), (q6_1, .inl (cI, 512, .inl (fun _ => 0))), (q6_2, .inl (cI, 512, .inl (fun _ => 0))), (q6_3, .inl (cI, 512, .inl (fun _ => 0))), (q6_4, .inl (cI, 512, .inl (fun _ => 0))), (q6_5, .inl (cI, 512, .inl (fun _ => 0))), (q6_6, .inl (cI, 512, .inl (fun _ => 0))), (q6_7, .inl (cI, 512, .inl (fun _ => 0))), (q6_8, .inl (cI, 1600, .inl (fun _ => 0))), (q6_9, .inl (cI, 1600, .inl (fun _ => 0))), (q6_10, .inl (cI, 512, .inl (fun _ => 0))), (q7, .inr (4, [.ref q8_1, .ref q8_2, .int 0])), (q8_1, .inl (cI, 10, .inl (fun _ => 0))), (q8_2, .inl (cI, 120, .inl (fun _ => 0))), (q9, .inr (10, [.ref q1, .ref q3, .ref q5, .ref q7, .ref q10_1, .ref q10_7, .ref q10_10, .ref q10_11, .ref q10_12, .ref q10_13, .int 0, .int 0, .int 0])), (q10_1, .inr (5, [.ref q10_2, .ref q10_3, .ref q10_4, .ref q10_5, .ref q10_6, .int 0])), (q10_2, .inl (cI, 31, .inl (fun _ => 0))), (q10_3, .inl (cI, 31, .inl (fun _ => 0))), (q10_4, .inl (cI, 31, .inl (fun _ => 0))), (q10_5, .inl (cI, 31, .inl (fun _ => 0))), (q10_6, .inl (cI, 31, .inl (fun _ => 0))), (q10_7, .inr (2, [.ref q10_8, .ref q10_9, .int 0])), (q10_8, .inl (cI, 1024, .inl (fun _ => 0))), (q10_9, .inl (cI, 1024, .inl (fun _ => 0))), (q10_10, .inr (6, [.ref q1, .int 0, .int (-1), .ref (tS 0), .int 0, .int 0])), (q10_11, .inr (7, [.ref q1, .ref q3, .ref q10_10, .ref q10_7, .int (-1)])), (q10_12, .inr (8, [.ref q1, .int 0, .int 0, .int 0, .int 0, .int 0, .int 0])), (q10_13, .inr (9, [.ref q1, .int 0, .int (-1), .int 0, .int 0, .int 0]))] := hD
  refine va_putF (D := (dC, dI)) (ci := 11) (v := .ref q9) (ty := .object "PatternNodes$TreeReader") (C := R_PN) (T := F_PN) (N := N_PN) hx hb hts i_PN ty_PN ty_PN_ok n_PN hown hK hP hD hS 0 rfl rfl 4 (by decide) (hts _ tw_477) (fun _ h9 => h9) rfl hin rfl (ty_PN_ok 4 (by decide)) rfl rfl (Nat.le_of_ble_eq_true rfl) d_PN_init_72 (fun H locs hP hD hS => ?_)
  have hP : va_P (dC, dI) classes [(a_pn, .inr (11, [.ref q1, .ref q3, .ref q5, .ref q7, .ref q9])), (q1, .inr (0, [.ref q2_1, .int 0])), (q2_1, .inl (cI, 400, .inl (fun _ => 0))), (q3, .inr (1, [.int 0, .int (-1)])), (q5, .inr (3, [.ref q6_1, .ref q6_2, .ref q6_3, .ref q6_4, .ref q6_5, .ref q6_6, .ref q6_7, .ref q6_8, .ref q6_9, .ref q6_10, .int 0, .int 0, .int 0])), (q6_1, .inl (cI, 512, .inl (fun _ => 0))), (q6_2, .inl (cI, 512, .inl (fun _ => 0))), (q6_3, .inl (cI, 512, .inl (fun _ => 0))), (q6_4, .inl (cI, 512, .inl (fun _ => 0))), (q6_5, .inl (cI, 512, .inl (fun _ => 0))), (q6_6, .inl (cI, 512, .inl (fun _ => 0))), (q6_7, .inl (cI, 512, .inl (fun _ => 0))), (q6_8, .inl (cI, 1600, .inl (fun _ => 0))), (q6_9, .inl (cI, 1600, .inl (fun _ => 0))), (q6_10, .inl (cI, 512, .inl (fun _ => 0))), (q7, .inr (4, [.ref q8_1, .ref q8_2, .int 0])), (q8_1, .inl (cI, 10, .inl (fun _ => 0))), (q8_2, .inl (cI, 120, .inl (fun _ => 0))), (q9, .inr (10, [.ref q1, .ref q3, .ref q5, .ref q7, .ref q10_1, .ref q10_7, .ref q10_10, .ref q10_11, .ref q10_12, .ref q10_13, .int 0, .int 0, .int 0])), (q10_1, .inr (5, [.ref q10_2, .ref q10_3, .ref q10_4, .ref q10_5, .ref q10_6, .int 0])), (q10_2, .inl (cI, 31, .inl (fun _ => 0))), (q10_3, .inl (cI, 31, .inl (fun _ => 0))), (q10_4, .inl (cI, 31, .inl (fun _ => 0))), (q10_5, .inl (cI, 31, .inl (fun _ => 0))), (q10_6, .inl (cI, 31, .inl (fun _ => 0))), (q10_7, .inr (2, [.ref q10_8, .ref q10_9, .int 0])), (q10_8, .inl (cI, 1024, .inl (fun _ => 0))), (q10_9, .inl (cI, 1024, .inl (fun _ => 0))), (q10_10, .inr (6, [.ref q1, .int 0, .int (-1), .ref (tS 0), .int 0, .int 0])), (q10_11, .inr (7, [.ref q1, .ref q3, .ref q10_10, .ref q10_7, .int (-1)])), (q10_12, .inr (8, [.ref q1, .int 0, .int 0, .int 0, .int 0, .int 0, .int 0])), (q10_13, .inr (9, [.ref q1, .int 0, .int (-1), .int 0, .int 0, .int 0]))] H := hP
  have hD : va_D A [(a_pn, .inr (11, [.ref q1, .ref q3, .ref q5, .ref q7, .ref q9])), (q1, .inr (0, [.ref q2_1, .int 0])), (q2_1, .inl (cI, 400, .inl (fun _ => 0))), (q3, .inr (1, [.int 0, .int (-1)])), (q5, .inr (3, [.ref q6_1, .ref q6_2, .ref q6_3, .ref q6_4, .ref q6_5, .ref q6_6, .ref q6_7, .ref q6_8, .ref q6_9, .ref q6_10, .int 0, .int 0, .int 0])), (q6_1, .inl (cI, 512, .inl (fun _ => 0))), (q6_2, .inl (cI, 512, .inl (fun _ => 0))), (q6_3, .inl (cI, 512, .inl (fun _ => 0))), (q6_4, .inl (cI, 512, .inl (fun _ => 0))), (q6_5, .inl (cI, 512, .inl (fun _ => 0))), (q6_6, .inl (cI, 512, .inl (fun _ => 0))), (q6_7, .inl (cI, 512, .inl (fun _ => 0))), (q6_8, .inl (cI, 1600, .inl (fun _ => 0))), (q6_9, .inl (cI, 1600, .inl (fun _ => 0))), (q6_10, .inl (cI, 512, .inl (fun _ => 0))), (q7, .inr (4, [.ref q8_1, .ref q8_2, .int 0])), (q8_1, .inl (cI, 10, .inl (fun _ => 0))), (q8_2, .inl (cI, 120, .inl (fun _ => 0))), (q9, .inr (10, [.ref q1, .ref q3, .ref q5, .ref q7, .ref q10_1, .ref q10_7, .ref q10_10, .ref q10_11, .ref q10_12, .ref q10_13, .int 0, .int 0, .int 0])), (q10_1, .inr (5, [.ref q10_2, .ref q10_3, .ref q10_4, .ref q10_5, .ref q10_6, .int 0])), (q10_2, .inl (cI, 31, .inl (fun _ => 0))), (q10_3, .inl (cI, 31, .inl (fun _ => 0))), (q10_4, .inl (cI, 31, .inl (fun _ => 0))), (q10_5, .inl (cI, 31, .inl (fun _ => 0))), (q10_6, .inl (cI, 31, .inl (fun _ => 0))), (q10_7, .inr (2, [.ref q10_8, .ref q10_9, .int 0])), (q10_8, .inl (cI, 1024, .inl (fun _ => 0))), (q10_9, .inl (cI, 1024, .inl (fun _ => 0))), (q10_10, .inr (6, [.ref q1, .int 0, .int (-1), .ref (tS 0), .int 0, .int 0])), (q10_11, .inr (7, [.ref q1, .ref q3, .ref q10_10, .ref q10_7, .int (-1)])), (q10_12, .inr (8, [.ref q1, .int 0, .int 0, .int 0, .int 0, .int 0, .int 0])), (q10_13, .inr (9, [.ref q1, .int 0, .int (-1), .int 0, .int 0, .int 0]))] := hD
  exact W.vret hx hb hr (fun t ht hW => ⟨⟨(q1, q2_1, q3, q5, q6_1, q6_2, q6_3, q6_4, q6_5, q6_6, q6_7, q6_8, q6_9, q6_10, q7, q8_1, q8_2, q9, q10_1, q10_2, q10_3, q10_4, q10_5, q10_6, q10_7, q10_8, q10_9, q10_10, q10_11, q10_12, q10_13), rfl, trivial, ⟨by rw [ht]; exact hP, va_K.moved hW.alike hK, hD⟩⟩, hS.F ht⟩) hS.2.2 d_PN_init_75
