set_option maxRecDepth 100000
set_option linter.unusedVariables false
-- the tree: roots that wait, the latest first
def RT (wt spn : Ar) : Nat → List Nat → Prop
  | nd, [] => nd = 0
  | nd, r :: R => nd = r + 1 ∧ wt R.length = nI r ∧ ∃ m, m ≤ r ∧ spn r = nI (r + 1 - m) ∧ RT wt spn m R
theorem RT_out {wt spn wt' spn' : Ar} : ∀ {R : List Nat} {nd : Nat}, (∀ j, j < R.length → wt' j = wt j) → (∀ j, j < nd → spn' j = spn j) → RT wt spn nd R → RT wt' spn' nd R := by
  intro R
  induction R with
  | nil => intro nd _ _ h; exact h
  | cons r R ih =>
    intro nd h1 h2 h
    obtain ⟨a, b, m, c, d, e⟩ := h
    refine ⟨a, by rw [h1 _ (by simp)]; exact b, m, c, by rw [h2 r (by omega)]; exact d, ih (fun j hj => h1 j (by simp only [List.length_cons]; omega)) (fun j hj => h2 j (by omega)) e⟩
theorem RT_app {wt spn : Ar} : ∀ {P Q : List Nat} {nd : Nat}, RT wt spn nd (P ++ Q) → ∃ m, m ≤ nd ∧ RT wt spn m Q ∧ P.length ≤ nd - m := by
  intro P
  induction P with
  | nil => intro Q nd h; exact ⟨nd, Nat.le_refl _, h, by simp⟩
  | cons r P ih =>
    intro Q nd h
    obtain ⟨a, b, m, c, d, e⟩ := h
    obtain ⟨m', h1, h2, h3⟩ := ih e
    exact ⟨m', by omega, h2, by simp only [List.length_cons]; omega⟩
theorem RT_len {wt spn : Ar} {R : List Nat} {nd : Nat} (h : RT wt spn nd R) : R.length ≤ nd := by
  have := RT_app (P := R) (Q := []) (by rw [List.append_nil]; exact h)
  obtain ⟨m, _, _, h3⟩ := this
  omega
def sumS (sz : Ar) : List Nat → Int
  | [] => 0
  | r :: P => (sz r).toInt + sumS sz P
def setO (f : Ar) (v : Int32) : List Nat → Ar
  | [] => f
  | r :: P => setO (upd f r v) v P
theorem setO_at {v : Int32} : ∀ {P : List Nat} {f g : Ar} {i : Nat}, f i = g i → setO f v P i = setO g v P i := by
  intro P
  induction P with
  | nil => intro f g i h; exact h
  | cons r P ih =>
    intro f g i h
    refine ih ?_
    by_cases e : i = r
    · subst e; rw [upd_at, upd_at]
    · rw [upd_ne e, upd_ne e]; exact h
theorem setO_hi {v : Int32} : ∀ {P : List Nat} {f : Ar} {i : Nat}, (∀ r ∈ P, r < i) → setO f v P i = f i := by
  intro P
  induction P with
  | nil => intro f i _; rfl
  | cons r P ih =>
    intro f i h
    have h1 := h r List.mem_cons_self
    rw [setO, ih (fun q hq => h q (List.mem_cons_of_mem _ hq)), upd_ne (by omega)]
theorem RT_lt {wt spn : Ar} : ∀ {P Q : List Nat} {nd : Nat}, RT wt spn nd (P ++ Q) → ∀ r ∈ P, r < nd := by
  intro P
  induction P with
  | nil => intro Q nd _ r hr; cases hr
  | cons x P ih =>
    intro Q nd h r hr
    obtain ⟨a, b, m, c, d, e⟩ := h
    rcases List.mem_cons.mp hr with rfl | hr
    · omega
    · have := ih e r hr; omega
theorem sumS_le {sz : Ar} {nd : Nat} (hz : ∀ i, i < nd → 0 ≤ (sz i).toInt ∧ (sz i).toInt ≤ 1000000) : ∀ {P : List Nat}, (∀ r ∈ P, r < nd) → 0 ≤ sumS sz P ∧ sumS sz P ≤ 1000000 * P.length := by
  intro P
  induction P with
  | nil => intro _; simp [sumS]
  | cons r P ih =>
    intro h
    have h1 := hz r (h r List.mem_cons_self)
    have h2 := ih (fun q hq => h q (List.mem_cons_of_mem _ hq))
    rw [sumS]; simp only [List.length_cons]; omega
theorem wsize_loop {sz wt spn : Ar} {own : Nat} (ho : own ≤ 512) : ∀ (P Q : List Nat) (i nd : Nat) (s : Int32) (F W : Nat), RT wt spn nd (P ++ Q) → nd ≤ 512 → (∀ i, i < nd → 0 ≤ (sz i).toInt ∧ (sz i).toInt ≤ 1000000) → own = i + P.length → W = i + P.length + Q.length → W ≤ 512 → 0 ≤ s.toInt → s.toInt + 1000000 * P.length ≤ 600000000 →
    ∃ s' : Int32, f_TRE_waitingSize_L4 (nI W) sz wt (nI own) (F + P.length + 1) (s, nI (i + 1)) = some s' ∧ s'.toInt = s.toInt + sumS sz P := by
  intro P
  induction P with
  | nil =>
    intro Q i nd s F W h hnd hz e1 e2 hW h0 h1
    refine ⟨s, ?_, by simp [sumS]⟩
    rw [f_TRE_waitingSize_L4_s]
    unfold f_TRE_waitingSize_B4
    simp only [List.length_nil, Nat.add_zero] at e1
    rw [if_pos ((nI_ltI (by omega) (by omega)).mpr (by omega))]
  | cons r P ih =>
    intro Q i nd s F W h hnd hz e1 e2 hW h0 h1
    obtain ⟨a, b, m, c, d, e⟩ := h
    simp only [List.length_cons] at e1 e2 h1
    have hz' := hz r (by omega)
    have hl : (P ++ Q).length = P.length + Q.length := List.length_append
    have ew : nI W - nI (i + 1) = nI (P.length + Q.length) := by
      apply ti_eq.mpr
      rw [ti_sub (by rw [nI_toInt (by omega), nI_toInt (by omega)]; omega) (by rw [nI_toInt (by omega), nI_toInt (by omega)]; omega), nI_toInt (by omega), nI_toInt (by omega), nI_toInt (by omega)]
      omega
    have ec : (nI (P.length + Q.length)).toNatClampNeg = P.length + Q.length := nI_clamp (by omega)
    have er : (nI r).toNatClampNeg = r := nI_clamp (by omega)
    have g1 : inb (nI (P.length + Q.length)) 512 = true := inb_nI (by omega) (by decide)
    have g2 : inb (nI r) 512 = true := inb_nI (by omega) (by decide)
    have b : wt (P ++ Q).length = nI r := b
    rw [hl] at b
    have ea : (s + sz r).toInt = s.toInt + (sz r).toInt := ti_add (by omega) (by omega)
    rw [show F + (r :: P).length + 1 = (F + P.length + 1) + 1 by simp only [List.length_cons]; omega, f_TRE_waitingSize_L4_s]
    unfold f_TRE_waitingSize_B4
    rw [if_neg (fun q => by have := (nI_ltI (by omega) (by omega)).mp q; omega), if_neg (fun q => by have := (nI_ltI (by omega) (by omega)).mp q; omega), ew, ec, b, er, grd_t g1, grd_t g2, nI_1]
    obtain ⟨s', q1, q2⟩ := ih Q (i + 1) m (s + sz r) F W e (by omega) (fun j hj => hz j (by omega)) (by omega) (by omega) hW (by rw [ea]; omega) (by rw [ea]; omega)
    exact ⟨s', q1, by rw [q2, ea, sumS]; omega⟩
theorem wsize {sz wt spn : Ar} {P Q : List Nat} {nd : Nat} (h : RT wt spn nd (P ++ Q)) (hnd : nd ≤ 512) (hz : ∀ i, i < nd → 0 ≤ (sz i).toInt ∧ (sz i).toInt ≤ 1000000) : ∃ s : Int32, f_TRE_waitingSize (nI (P ++ Q).length) sz wt (nI P.length) = some s ∧ s.toInt = sumS sz P := by
  have hl := RT_len h
  rw [List.length_append] at hl ⊢
  unfold f_TRE_waitingSize
  obtain ⟨s, q1, q2⟩ := wsize_loop (own := P.length) (by omega) P Q 0 nd 0 (999999 - P.length) (P.length + Q.length) h hnd hz (by omega) (by omega) (by omega) (by decide) (by rw [ti0]; omega)
  rw [show 999999 - P.length + P.length + 1 = FU by rw [FU_s]; omega] at q1
  have q1' : f_TRE_waitingSize_L4 (nI (P.length + Q.length)) sz wt (nI P.length) FU (0, 1) = _ := q1
  exact ⟨s, q1', by rw [q2, ti0]; omega⟩
theorem over_loop {rgI k v m size : Int32} {spn : Ar} {own nd : Nat} (hnd : nd < 512) {kn vl mo sz fr rc wt : Ar} : ∀ (P Q : List Nat) (i b : Nat) (ow : Ar) (F : Nat), RT wt spn b (P ++ Q) → b ≤ nd → own = i + P.length → own ≤ 512 →
    f_TRE_addOver_L22 rgI (nI own) k v m size (F + P.length + 1) (nI i, nI nd, nI (P.length + Q.length), kn, vl, mo, ow, sz, fr, rc, wt) = some (nI (nd + 1), nI (Q.length + 1), upd kn nd k, upd vl nd v, upd mo nd m, upd (setO ow (nI nd) P) nd (-1), upd sz nd (if 1000000 < size then 1000000 else size), upd fr nd rgI, upd rc nd 0, upd wt Q.length (nI nd)) := by
  have ec : (nI nd).toNatClampNeg = nd := nI_clamp (by omega)
  have gn : inb (nI nd) 512 = true := inb_nI hnd (by decide)
  intro P
  induction P with
  | nil =>
    intro Q i b ow F h hb e1 ho
    have hl := RT_len h
    simp only [List.nil_append] at hl
    simp only [List.length_nil, Nat.add_zero, Nat.zero_add] at e1 ⊢
    have g1 : inb (nI Q.length) 512 = true := inb_nI (by omega) (by decide)
    have e2 : (nI Q.length).toNatClampNeg = Q.length := nI_clamp (by omega)
    rw [f_TRE_addOver_L22_s]
    unfold f_TRE_addOver_B22
    rw [e1, if_pos (show nI i ≤ nI i from Int32.le_refl _), grd_t gn, grd_t gn, grd_t gn, grd_t gn, grd_t gn, grd_t gn, grd_t gn, grd_t g1, ec, e2, nI_1, nI_1]
    rfl
  | cons r P ih =>
    intro Q i b ow F h hb e1 ho
    have hl := RT_len h
    obtain ⟨a, b1, m', c, d, e⟩ := h
    simp only [List.length_cons, List.length_append] at e1 hl
    have hl2 : (P ++ Q).length = P.length + Q.length := List.length_append
    have b1 : wt (P ++ Q).length = nI r := b1
    rw [hl2] at b1
    have ew : nI ((r :: P).length + Q.length) - 1 = nI (P.length + Q.length) := by
      have : (r :: P).length + Q.length = (P.length + Q.length) + 1 := by simp only [List.length_cons]; omega
      rw [this]; exact nI_pred _
    have e2 : (nI (P.length + Q.length)).toNatClampNeg = P.length + Q.length := nI_clamp (by omega)
    have er : (nI r).toNatClampNeg = r := nI_clamp (by omega)
    have g1 : inb (nI (P.length + Q.length)) 512 = true := inb_nI (by omega) (by decide)
    have g2 : inb (nI r) 512 = true := inb_nI (by omega) (by decide)
    rw [show F + (r :: P).length + 1 = (F + P.length + 1) + 1 by simp only [List.length_cons]; omega, f_TRE_addOver_L22_s]
    unfold f_TRE_addOver_B22
    rw [if_neg (fun q => by have := (nI_leI (by omega) (by omega)).mp q; omega), ew, e2, b1, er, grd_t g1, grd_t g2, nI_1]
    exact ih Q (i + 1) m' (upd ow r (nI nd)) F e (by omega) (by omega) ho

set_option maxRecDepth 100000
set_option linter.unusedVariables false
theorem tl_add {a b : Int64} (h1 : -9000000000000000000 ≤ a.toInt + b.toInt) (h2 : a.toInt + b.toInt ≤ 9000000000000000000) : (a + b).toInt = a.toInt + b.toInt := by
  rw [Int64.toInt_add]; exact Int.bmod_eq_of_le (by omega) (by omega)
theorem tl_sub {a b : Int64} (h1 : -9000000000000000000 ≤ a.toInt - b.toInt) (h2 : a.toInt - b.toInt ≤ 9000000000000000000) : (a - b).toInt = a.toInt - b.toInt := by
  rw [Int64.toInt_sub]; exact Int.bmod_eq_of_le (by omega) (by omega)
theorem tl_mul {a b : Int64} (h1 : -9000000000000000000 ≤ a.toInt * b.toInt) (h2 : a.toInt * b.toInt ≤ 9000000000000000000) : (a * b).toInt = a.toInt * b.toInt := by
  rw [Int64.toInt_mul]; exact Int.bmod_eq_of_le (by omega) (by omega)
theorem tl_i (a : Int32) : a.toInt64.toInt = a.toInt := Int32.toInt_toInt64 a
theorem atMost_val {z : Int64} {S : Int} (hz : z.toInt = S) (h0 : 0 ≤ S) (h1 : S ≤ 2000000000) {size : Int32} (hs : size.toInt = S) : f_MOD_atMost z = some (if 1000000 < size then 1000000 else size) := by
  have l : (1000000 : Int64).toInt = 1000000 := rfl
  have l3 : (1000000 : Int32).toInt = 1000000 := rfl
  unfold f_MOD_atMost lg_cmp
  by_cases c : 1000000 ≤ S
  · have e : (if z > 1000000 then (1 : Int32) else if z = 1000000 then 0 else -1) = 1 ∨ (if z > 1000000 then (1 : Int32) else if z = 1000000 then 0 else -1) = 0 := by
      by_cases q : z > 1000000
      · rw [if_pos q]; exact Or.inl rfl
      · rw [if_neg q]
        have : z = 1000000 := by
          apply Int64.toInt_inj.mp
          have := fun u => q (Int64.lt_iff_toInt_lt.mpr u)
          rw [l] at this ⊢
          rcases Int.lt_trichotomy z.toInt 1000000 with r | r | r
          · omega
          · exact r
          · exact absurd r this
        rw [if_pos this]; exact Or.inr rfl
    have e2 : (0 : Int32) ≤ (if z > 1000000 then (1 : Int32) else if z = 1000000 then 0 else -1) := by
      rcases e with e | e <;> rw [e] <;> decide
    rw [if_pos e2]
    by_cases d : 1000000 < size
    · rw [if_pos d]
    · rw [if_neg d]
      congr 1
      apply ti_eq.mpr
      rw [l3]
      have := fun u => d (lt_ti.mpr u)
      rw [l3] at this
      rcases Int.lt_trichotomy size.toInt 1000000 with r | r | r
      · omega
      · exact r.symm
      · exact absurd r this
  · have q1 : ¬ z > 1000000 := fun q => by have := Int64.lt_iff_toInt_lt.mp q; rw [l] at this; omega
    have q2 : ¬ z = 1000000 := fun q => by rw [q, l] at hz; omega
    rw [if_neg q1, if_neg q2, if_neg (show ¬ (0 : Int32) ≤ -1 by decide), if_neg (fun d => by have := lt_ti.mp d; rw [l3] at this; omega)]
    congr 1
    apply ti_eq.mpr
    rw [Int64.toInt_toInt32, hz, hs]
    exact Int.bmod_eq_of_le (by omega) (by omega)
theorem make_loop {rgI k v m size : Int32} {wt : Ar} {own nd : Nat} (hnd : nd < 512) {kn vl mo spn sz rf rm : Ar} (hz : ∀ i, i < nd → 0 ≤ (sz i).toInt ∧ (sz i).toInt ≤ 1000000) (hown : own ≤ 512) : ∀ (P Q : List Nat) (i b : Nat) (wh : Ar) (s : Int64) (F : Nat), RT wt spn b (P ++ Q) → b ≤ nd → own = i + P.length → 0 ≤ s.toInt → s.toInt + 1000000 * P.length ≤ 600000000 →
    (∀ s' : Int64, s'.toInt = s.toInt + sumS sz P → ∃ z : Int64, f_MOD_sizeOf k v m s' = some z ∧ z.toInt = size.toInt ∧ 0 ≤ z.toInt ∧ z.toInt ≤ 2000000000) →
    ∃ mm, mm ≤ b ∧ RT wt spn mm Q ∧ f_MOD_make_L77 rgI k v m (nI own) (F + P.length + 1) (s, nI b - 1, nI i, nI nd, kn, vl, mo, spn, sz, wh, rf, rm) = some (nI (nd + 1), kn, vl, mo, upd spn nd (nI (nd + 1 - mm)), upd sz nd (if 1000000 < size then 1000000 else size), setO wh (nI nd) P, rf, rm) := by
  have ec : (nI nd).toNatClampNeg = nd := nI_clamp (by omega)
  have gn : inb (nI nd) 1000 = true := inb_nI (by omega) (by decide)
  intro P
  induction P with
  | nil =>
    intro Q i b wh s F h hb e1 h0 h1 hs
    simp only [List.length_nil, Nat.add_zero] at e1
    refine ⟨b, Nat.le_refl _, h, ?_⟩
    obtain ⟨z, z1, z2, z3, z4⟩ := hs s (by simp [sumS])
    have ed : nI nd - (nI b - 1) = nI (nd + 1 - b) := by
      apply ti_eq.mpr
      have eb : (nI b - 1).toInt = (b : Int) - 1 := by rw [ti_sub (by rw [nI_toInt (by omega), ti1]; omega) (by rw [nI_toInt (by omega), ti1]; omega), nI_toInt (by omega), ti1]
      rw [ti_sub (by rw [nI_toInt (by omega), eb]; omega) (by rw [nI_toInt (by omega), eb]; omega), nI_toInt (by omega), eb, nI_toInt (by omega)]
      omega
    rw [f_MOD_make_L77_s]
    unfold f_MOD_make_B77
    rw [e1, if_pos (show nI i ≤ nI i from Int32.le_refl _), grd_t gn, bnd_s z1, bnd_s (atMost_val rfl z3 z4 z2.symm), grd_t gn, ec, nI_1, ed]
    rfl
  | cons r P ih =>
    intro Q i b wh s F h hb e1 h0 h1 hs
    obtain ⟨a, b1, m', c, d, e⟩ := h
    simp only [List.length_cons] at e1 h1
    have eb : nI b - 1 = nI r := by rw [a]; exact nI_pred r
    have er : (nI r).toNatClampNeg = r := nI_clamp (by omega)
    have gr : inb (nI r) 1000 = true := inb_nI (by omega) (by decide)
    have hzr := hz r (by omega)
    have ed : nI r - nI (r + 1 - m') = nI m' - 1 := by
      apply ti_eq.mpr
      rw [ti_sub (by rw [nI_toInt (by omega), nI_toInt (by omega)]; omega) (by rw [nI_toInt (by omega), nI_toInt (by omega)]; omega), ti_sub (by rw [nI_toInt (by omega), ti1]; omega) (by rw [nI_toInt (by omega), ti1]; omega), nI_toInt (by omega), nI_toInt (by omega), nI_toInt (by omega), ti1]
      omega
    have ea : (s + (sz r).toInt64).toInt = s.toInt + (sz r).toInt := by rw [tl_add (by rw [tl_i]; omega) (by rw [tl_i]; omega), tl_i]
    rw [show F + (r :: P).length + 1 = (F + P.length + 1) + 1 by simp only [List.length_cons]; omega, f_MOD_make_L77_s]
    unfold f_MOD_make_B77
    rw [if_neg (fun q => by have := (nI_leI (by omega) (by omega)).mp q; omega), eb, er, grd_t gr, grd_t gr, grd_t gr, d, ed, nI_1]
    obtain ⟨mm, q1, q2, q3⟩ := ih Q (i + 1) m' (upd wh r (nI nd)) (s + (sz r).toInt64) F e (by omega) (by omega) (by rw [ea]; omega) (by rw [ea]; omega) (fun s' hs' => hs s' (by rw [hs', ea, sumS]; omega))
    exact ⟨mm, by omega, q2, q3⟩
abbrev TR (nd rg : Nat) (R : List Nat) (kn vl mo ow sz fr rc bg en wt kn' vl' mo' sp' sz' wh' rf' rm' bg' en' : Ar) : Prop := (rg ≤ 1600) ∧ (∀ i, i < nd → kn i = kn' i ∧ vl i = vl' i ∧ mo i = mo' i ∧ ow i = wh' i ∧ sz i = sz' i ∧ fr i = rf' i ∧ rc i = rm' i) ∧ (∀ i, i < nd → 0 ≤ (sz i).toInt ∧ (sz i).toInt ≤ 1000000) ∧ (∀ i, i < nd → ∃ a c : Nat, fr i = nI a ∧ rc i = nI c ∧ a + c ≤ rg) ∧ (∀ j, j < rg → bg j = bg' j ∧ en j = en' j) ∧ (RT wt sp' nd R)
theorem TR.rg_le {nd rg : Nat} {R : List Nat} {kn vl mo ow sz fr rc bg en wt kn' vl' mo' sp' sz' wh' rf' rm' bg' en' : Ar} (h : TR nd rg R kn vl mo ow sz fr rc bg en wt kn' vl' mo' sp' sz' wh' rf' rm' bg' en') : rg ≤ 1600 := h.1
theorem TR.e {nd rg : Nat} {R : List Nat} {kn vl mo ow sz fr rc bg en wt kn' vl' mo' sp' sz' wh' rf' rm' bg' en' : Ar} (h : TR nd rg R kn vl mo ow sz fr rc bg en wt kn' vl' mo' sp' sz' wh' rf' rm' bg' en') : ∀ i, i < nd → kn i = kn' i ∧ vl i = vl' i ∧ mo i = mo' i ∧ ow i = wh' i ∧ sz i = sz' i ∧ fr i = rf' i ∧ rc i = rm' i := h.2.1
theorem TR.z {nd rg : Nat} {R : List Nat} {kn vl mo ow sz fr rc bg en wt kn' vl' mo' sp' sz' wh' rf' rm' bg' en' : Ar} (h : TR nd rg R kn vl mo ow sz fr rc bg en wt kn' vl' mo' sp' sz' wh' rf' rm' bg' en') : ∀ i, i < nd → 0 ≤ (sz i).toInt ∧ (sz i).toInt ≤ 1000000 := h.2.2.1
theorem TR.f {nd rg : Nat} {R : List Nat} {kn vl mo ow sz fr rc bg en wt kn' vl' mo' sp' sz' wh' rf' rm' bg' en' : Ar} (h : TR nd rg R kn vl mo ow sz fr rc bg en wt kn' vl' mo' sp' sz' wh' rf' rm' bg' en') : ∀ i, i < nd → ∃ a c : Nat, fr i = nI a ∧ rc i = nI c ∧ a + c ≤ rg := h.2.2.2.1
theorem TR.b {nd rg : Nat} {R : List Nat} {kn vl mo ow sz fr rc bg en wt kn' vl' mo' sp' sz' wh' rf' rm' bg' en' : Ar} (h : TR nd rg R kn vl mo ow sz fr rc bg en wt kn' vl' mo' sp' sz' wh' rf' rm' bg' en') : ∀ j, j < rg → bg j = bg' j ∧ en j = en' j := h.2.2.2.2.1
theorem TR.rt {nd rg : Nat} {R : List Nat} {kn vl mo ow sz fr rc bg en wt kn' vl' mo' sp' sz' wh' rf' rm' bg' en' : Ar} (h : TR nd rg R kn vl mo ow sz fr rc bg en wt kn' vl' mo' sp' sz' wh' rf' rm' bg' en') : RT wt sp' nd R := h.2.2.2.2.2
theorem over_eq {nd rg : Nat} {R P Q : List Nat} {kn vl mo ow sz fr rc bg en wt kn' vl' mo' sp' sz' wh' rf' rm' bg' en' : Ar} (h : TR nd rg R kn vl mo ow sz fr rc bg en wt kn' vl' mo' sp' sz' wh' rf' rm' bg' en') (hnd : nd < 512) (hR : R = P ++ Q) (k v m size : Int32) (hsz : 0 ≤ size.toInt ∧ size.toInt ≤ 2000000000)
    (hs : ∀ s' : Int64, s'.toInt = sumS sz P → ∃ z : Int64, f_MOD_sizeOf k v m s' = some z ∧ z.toInt = size.toInt) :
    ∃ ow2 wt2 sp2 wh2, f_TRE_addOver (nI nd) (nI rg) (nI R.length) kn vl mo ow sz fr rc wt (nI P.length) k v m size = some (nI (nd + 1), nI (Q.length + 1), upd kn nd k, upd vl nd v, upd mo nd m, ow2, upd sz nd (if 1000000 < size then 1000000 else size), upd fr nd (nI rg), upd rc nd 0, wt2) ∧
      f_MOD_make (nI nd) (nI rg) kn' vl' mo' sp' sz' wh' rf' rm' k v m (nI P.length) = some (nI (nd + 1), upd kn' nd k, upd vl' nd v, upd mo' nd m, sp2, upd sz' nd (if 1000000 < size then 1000000 else size), wh2, upd rf' nd (nI rg), upd rm' nd 0) ∧
      TR (nd + 1) rg (nd :: Q) (upd kn nd k) (upd vl nd v) (upd mo nd m) ow2 (upd sz nd (if 1000000 < size then 1000000 else size)) (upd fr nd (nI rg)) (upd rc nd 0) bg en wt2 (upd kn' nd k) (upd vl' nd v) (upd mo' nd m) sp2 (upd sz' nd (if 1000000 < size then 1000000 else size)) wh2 (upd rf' nd (nI rg)) (upd rm' nd 0) bg' en' := by
  subst hR
  have hl := RT_len h.rt
  have hlt := RT_lt h.rt
  rw [List.length_append] at hl
  have ec : (nI nd).toNatClampNeg = nd := nI_clamp (by omega)
  have gn : inb (nI nd) 1000 = true := inb_nI (by omega) (by decide)
  have hz' : ∀ i, i < nd → 0 ≤ (sz' i).toInt ∧ (sz' i).toInt ≤ 1000000 := fun i hi => by rw [← (h.e i hi).2.2.2.2.1]; exact h.z i hi
  have hsum : ∀ P : List Nat, (∀ r ∈ P, r < nd) → sumS sz' P = sumS sz P := by
    intro P
    induction P with
    | nil => intro _; rfl
    | cons r P ih =>
      intro hP
      rw [sumS, sumS, ih (fun q hq => hP q (List.mem_cons_of_mem _ hq)), (h.e r (hP r List.mem_cons_self)).2.2.2.2.1]
  obtain ⟨mm, m1, m2, m3⟩ := make_loop (rgI := nI rg) (k := k) (v := v) (m := m) (size := size) (own := P.length) hnd (kn := upd kn' nd k) (vl := upd vl' nd v) (mo := upd mo' nd m) (rf := upd rf' nd (nI rg)) (rm := upd rm' nd 0) hz' (by omega) P Q 0 nd (upd wh' nd (-1)) 0 (999999 - P.length) h.rt (Nat.le_refl _) (by omega) (by decide) (by show (0 : Int) + _ ≤ _; omega) (fun s' hs' => by
    have h0 : (0 : Int64).toInt = 0 := rfl
    rw [h0, hsum P hlt, Int.zero_add] at hs'
    obtain ⟨z, z1, z2⟩ := hs s' hs'
    exact ⟨z, z1, z2, by omega, by omega⟩)
  rw [show 999999 - P.length + P.length + 1 = FU by rw [FU_s]; omega] at m3
  have m3' : f_MOD_make_L77 (nI rg) k v m (nI P.length) FU (0, nI nd - 1, 0, nI nd, upd kn' nd k, upd vl' nd v, upd mo' nd m, sp', sz', upd wh' nd (-1), upd rf' nd (nI rg), upd rm' nd 0) = _ := m3
  have o1 := over_loop (rgI := nI rg) (k := k) (v := v) (m := m) (size := size) (own := P.length) hnd (kn := kn) (vl := vl) (mo := mo) (sz := sz) (fr := fr) (rc := rc) P Q 0 nd ow (999999 - P.length) h.rt (Nat.le_refl _) (by omega) (by omega)
  rw [show 999999 - P.length + P.length + 1 = FU by rw [FU_s]; omega] at o1
  have o1' : f_TRE_addOver_L22 (nI rg) (nI P.length) k v m size FU (0, nI nd, nI (P.length + Q.length), kn, vl, mo, ow, sz, fr, rc, wt) = _ := o1
  refine ⟨upd (setO ow (nI nd) P) nd (-1), upd wt Q.length (nI nd), upd sp' nd (nI (nd + 1 - mm)), setO (upd wh' nd (-1)) (nI nd) P, ?_, ?_, ?_⟩
  · unfold f_TRE_addOver
    rw [List.length_append, if_neg (fun q => by have := (nI_leI (a := 512) (by decide) (by omega)).mp q; omega), if_pos ((nI_leI (by omega) (by omega)).mpr (by omega))]
    exact o1'
  · unfold f_MOD_make
    rw [grd_t gn, grd_t gn, grd_t gn, grd_t gn, grd_t gn, grd_t gn, ec]
    exact m3'
  · refine ⟨h.rg_le, fun i hi => ?_, fun i hi => ?_, fun i hi => ?_, h.b, ?_⟩
    · by_cases c : i = nd
      · subst c
        refine ⟨by rw [upd_at, upd_at], by rw [upd_at, upd_at], by rw [upd_at, upd_at], ?_, by rw [upd_at, upd_at], by rw [upd_at, upd_at], by rw [upd_at, upd_at]⟩
        rw [upd_at, setO_hi hlt, upd_at]
      · obtain ⟨a1, a2, a3, a4, a5, a6, a7⟩ := h.e i (by omega)
        refine ⟨by rw [upd_ne c, upd_ne c]; exact a1, by rw [upd_ne c, upd_ne c]; exact a2, by rw [upd_ne c, upd_ne c]; exact a3, ?_, by rw [upd_ne c, upd_ne c]; exact a5, by rw [upd_ne c, upd_ne c]; exact a6, by rw [upd_ne c, upd_ne c]; exact a7⟩
        rw [upd_ne c]
        refine setO_at ?_
        rw [upd_ne c]; exact a4
    · by_cases c : i = nd
      · subst c
        rw [upd_at]
        by_cases q : 1000000 < size
        · rw [if_pos q]; decide
        · rw [if_neg q]
          have l3 : (1000000 : Int32).toInt = 1000000 := rfl
          refine ⟨hsz.1, ?_⟩
          rcases Int.lt_or_le 1000000 size.toInt with r | r
          · exact absurd (lt_ti.mpr (by rw [l3]; exact r)) q
          · exact r
      · rw [upd_ne c]; exact h.z i (by omega)
    · by_cases c : i = nd
      · subst c
        exact ⟨rg, 0, by rw [upd_at], by rw [upd_at]; rfl, by omega⟩
      · rw [upd_ne c, upd_ne c]; exact h.f i (by omega)
    · refine ⟨rfl, by rw [upd_at], mm, by omega, by rw [upd_at], ?_⟩
      refine RT_out (fun j hj => ?_) (fun j hj => ?_) m2
      · rw [upd_ne (by omega)]
      · rw [upd_ne (by omega)]

set_option maxRecDepth 100000
set_option linter.unusedVariables false
theorem classNode_eq {nd rg : Nat} {R : List Nat} {kn vl mo ow sz fr rc bg en wt kn' vl' mo' sp' sz' wh' rf' rm' bg' en' : Ar} (h : TR nd rg R kn vl mo ow sz fr rc bg en wt kn' vl' mo' sp' sz' wh' rf' rm' bg' en') (hnd : nd < 512) {spn : Int32} {sb se : Ar} {low high mn : Ar} {xs ys : PL} (hC : CSet spn sb se (keepL xs)) (hM : MS low high mn xs ys) (hrg : rg + (keepL xs).length ≤ 1600) (hk : (keepL xs).length ≤ 1000) {dep : Nat} (hd : dep < 31) (rp : Bool) (pa : Ar) :
    ∃ ow2 wt2 sp2 wh2 sz2 sz2' fr2 rf2 rc2 rm2 bg2 en2 bg2' en2', 
      f_TRE_addClass spn (nI nd) (nI rg) (nI R.length) sb se kn vl mo ow sz fr rc bg en wt = some (nI (nd + 1), nI (rg + (keepL xs).length), nI (R.length + 1), upd kn nd 1, upd vl nd (-1), upd mo nd (-1), ow2, sz2, fr2, rc2, bg2, en2, wt2) ∧
      f_MOD_classNode (nI nd) (nI rg) (nI dep) rp kn' vl' mo' sp' sz' wh' rf' rm' bg' en' pa low high mn = some (nI (nd + 1), nI (rg + (keepL xs).length), true, upd kn' nd 1, upd vl' nd (-1), upd mo' nd (-1), sp2, sz2', wh2, rf2, rm2, bg2', en2', upd pa dep (pa dep + 1)) ∧
      TR (nd + 1) (rg + (keepL xs).length) (nd :: R) (upd kn nd 1) (upd vl nd (-1)) (upd mo nd (-1)) ow2 sz2 fr2 rc2 bg2 en2 wt2 (upd kn' nd 1) (upd vl' nd (-1)) (upd mo' nd (-1)) sp2 sz2' wh2 rf2 rm2 bg2' en2' := by
  have hl := RT_len h.rt
  have ec : (nI nd).toNatClampNeg = nd := nI_clamp (by omega)
  have gn : inb (nI nd) 1000 = true := inb_nI (by omega) (by decide)
  have g5 : inb (nI nd) 512 = true := inb_nI (by omega) (by decide)
  obtain ⟨bk, ek, k1, k2, k3⟩ := mod_keep hM (rg := rg) bg' en' (by omega)
  generalize hL : (keepL xs).length = L at hrg hk k1 ⊢
  have hn : spn = nI L := by rw [hC.n, hL]
  -- sizes
  have e4 : (4 : Int32) * nI L = nI (4 * L) := by
    apply ti_eq.mpr
    rw [Int32.toInt_mul, nI_toInt (by omega), nI_toInt (by omega)]
    show ((4 : Int) * (L : Int)).bmod (2 ^ 32) = _
    rw [Int.bmod_eq_of_le (by omega) (by omega)]; omega
  have e2 : (2 : Int32) + nI (4 * L) = nI (2 + 4 * L) := nI_add 2 _
  have hmin : (if (1000000 : Int32) < nI (2 + 4 * L) then (1000000 : Int32) else nI (2 + 4 * L)) = nI (2 + 4 * L) := by
    rw [if_neg (fun q => by have := (nI_ltI (a := 1000000) (by decide) (by omega)).mp q; omega)]
  -- the class
  have o1 := over_loop (rgI := nI rg) (k := 1) (v := -1) (m := -1) (size := nI (2 + 4 * L)) (own := 0) hnd (kn := kn) (vl := vl) (mo := mo) (sz := sz) (fr := fr) (rc := rc) [] R 0 nd ow 999999 h.rt (Nat.le_refl _) rfl (by decide)
  simp only [List.length_nil, Nat.zero_add] at o1
  have o1' : f_TRE_addOver_L22 (nI rg) 0 1 (-1) (-1) (nI (2 + 4 * L)) FU (0, nI nd, nI R.length, kn, vl, mo, ow, sz, fr, rc, wt) = _ := o1
  have leaf : f_TRE_addLeaf (nI nd) (nI rg) (nI R.length) kn vl mo ow sz fr rc wt 1 (-1) (nI (2 + 4 * L)) = some (nI (nd + 1), nI (R.length + 1), upd kn nd 1, upd vl nd (-1), upd mo nd (-1), upd ow nd (-1), upd sz nd (nI (2 + 4 * L)), upd fr nd (nI rg), upd rc nd 0, upd wt R.length (nI nd)) := by
    unfold f_TRE_addLeaf f_TRE_addOver
    rw [if_neg (fun q => by have := (nI_leI (a := 512) (by decide) (by omega)).mp q; omega), if_pos (show (0 : Int32) ≤ nI R.length from (nI_leI (a := 0) (by decide) (by omega)).mpr (Nat.zero_le _)), bnd_s o1', hmin]
    rfl
  have ep : nI (nd + 1) - 1 = nI nd := nI_pred nd
  have er : (nI rg).toNatClampNeg = rg := nI_clamp (by omega)
  have eL : (nI L).toNatClampNeg = L := nI_clamp (by omega)
  have e16 : (1600 : Int32) - nI rg = nI (1600 - rg) := by
    apply ti_eq.mpr
    have l : (1600 : Int32).toInt = 1600 := rfl
    have := h.rg_le
    rw [ti_sub (by rw [l, nI_toInt (by omega)]; omega) (by rw [l, nI_toInt (by omega)]; omega), l, nI_toInt (by omega), nI_toInt (by omega)]
    omega
  have gc : cpok 0 (nI rg) (nI L) 1024 1600 = true := by
    unfold cpok
    rw [er, eL, cl0]
    exact decide_eq_true ⟨by decide, nI_pos (by omega), nI_pos (by omega), by omega, by omega⟩
  have cls : f_TRE_addClass spn (nI nd) (nI rg) (nI R.length) sb se kn vl mo ow sz fr rc bg en wt = some (nI (nd + 1), nI (rg + L), nI (R.length + 1), upd kn nd 1, upd vl nd (-1), upd mo nd (-1), upd ow nd (-1), upd sz nd (nI (2 + 4 * L)), upd fr nd (nI rg), upd (upd rc nd 0) nd (nI L), va_cpy sb bg 0 rg L, va_cpy se en 0 rg L, upd wt R.length (nI nd)) := by
    unfold f_TRE_addClass
    rw [hn, e4, e2, if_neg (fun q => by have := (nI_leI (a := 512) (by decide) (by omega)).mp q; omega), e16, if_pos ((nI_leI (by omega) (by omega)).mpr (by omega)), bnd_s leaf]
    simp only
    rw [ep, grd_t g5, grd_t gc, grd_t gc, nI_add, ec, er, eL, cl0]
  -- the reference
  have hz' : ∀ i, i < nd → 0 ≤ (sz' i).toInt ∧ (sz' i).toInt ≤ 1000000 := fun i hi => by rw [← (h.e i hi).2.2.2.2.1]; exact h.z i hi
  obtain ⟨mm, m1, m2, m3⟩ := make_loop (rgI := nI (rg + L)) (k := 1) (v := -1) (m := -1) (size := 1) (own := 0) hnd (kn := upd kn' nd 1) (vl := upd vl' nd (-1)) (mo := upd mo' nd (-1)) (rf := upd rf' nd (nI (rg + L))) (rm := upd rm' nd 0) hz' (by decide) [] R 0 nd (upd wh' nd (-1)) 0 999999 h.rt (Nat.le_refl _) rfl (by decide) (by decide) (fun s' _ => ⟨1, rfl, rfl, by decide, by decide⟩)
  simp only [List.length_nil, Nat.zero_add] at m3
  have m3' : f_MOD_make_L77 (nI (rg + L)) 1 (-1) (-1) 0 FU (0, nI nd - 1, 0, nI nd, upd kn' nd 1, upd vl' nd (-1), upd mo' nd (-1), sp', sz', upd wh' nd (-1), upd rf' nd (nI (rg + L)), upd rm' nd 0) = _ := m3
  have mk : f_MOD_make (nI nd) (nI (rg + L)) kn' vl' mo' sp' sz' wh' rf' rm' 1 (-1) (-1) 0 = some (nI (nd + 1), upd kn' nd 1, upd vl' nd (-1), upd mo' nd (-1), upd sp' nd (nI (nd + 1 - mm)), upd sz' nd 1, upd wh' nd (-1), upd rf' nd (nI (rg + L)), upd rm' nd 0) := by
    unfold f_MOD_make
    rw [grd_t gn, grd_t gn, grd_t gn, grd_t gn, grd_t gn, grd_t gn, ec, m3']
    rfl
  have gd : inb (nI dep) 32 = true := inb_nI (by omega) (by decide)
  have ed : (nI dep).toNatClampNeg = dep := nI_clamp (by omega)
  have part : f_MOD_part (nI dep) rp pa = some (true, upd pa dep (pa dep + 1)) := by
    unfold f_MOD_part
    rw [grd_t gd, grd_t gd, ed]
  have ref : f_MOD_classNode (nI nd) (nI rg) (nI dep) rp kn' vl' mo' sp' sz' wh' rf' rm' bg' en' pa low high mn = some (nI (nd + 1), nI (rg + L), true, upd kn' nd 1, upd vl' nd (-1), upd mo' nd (-1), upd sp' nd (nI (nd + 1 - mm)), upd (upd sz' nd 1) nd (nI (2 + 4 * L)), upd wh' nd (-1), upd (upd rf' nd (nI (rg + L))) nd (nI rg), upd (upd rm' nd 0) nd (nI L), bk, ek, upd pa dep (pa dep + 1)) := by
    unfold f_MOD_classNode
    rw [bnd_s k1]
    simp only
    rw [bnd_s mk]
    simp only
    rw [ep, grd_t gn, grd_t gn, grd_t gn, bnd_s part, ec, e4, e2]
  refine ⟨_, _, _, _, _, _, _, _, _, _, _, _, _, _, cls, ref, ⟨hrg, fun i hi => ?_, fun i hi => ?_, fun i hi => ?_, fun j hj => ?_, ?_⟩⟩
  · by_cases c : i = nd
    · subst c; simp only [upd_at, and_self]
    · obtain ⟨a1, a2, a3, a4, a5, a6, a7⟩ := h.e i (by omega)
      simp only [upd_ne c]
      exact ⟨a1, a2, a3, a4, a5, a6, a7⟩
  · by_cases c : i = nd
    · subst c; rw [upd_at, nI_toInt (by omega)]; omega
    · rw [upd_ne c]; exact h.z i (by omega)
  · by_cases c : i = nd
    · subst c
      exact ⟨rg, L, by rw [upd_at], by rw [upd_at], Nat.le_refl _⟩
    · simp only [upd_ne c]
      obtain ⟨a, b, q1, q2, q3⟩ := h.f i (by omega)
      exact ⟨a, b, q1, q2, by omega⟩
  · rw [cpy_at, cpy_at]
    by_cases c : rg ≤ j
    · rw [if_pos (by omega), if_pos (by omega), Nat.zero_add]
      -- both hold the kept ranges
      have key : ∀ (zs : PL) (l hh l' hh' : Ar) (a b : Nat), seg l hh a zs → seg l' hh' b zs → ∀ i, i < zs.length → l (a + i) = l' (b + i) ∧ hh (a + i) = hh' (b + i) := by
        intro zs
        induction zs with
        | nil => intro l hh l' hh' a b _ _ i hi; cases hi
        | cons p t ih =>
          intro l hh l' hh' a b s1 s2 i hi
          obtain ⟨x, y⟩ := p
          obtain ⟨a1, a2, a3⟩ := s1
          obtain ⟨b1, b2, b3⟩ := s2
          rcases Nat.eq_zero_or_pos i with q | q
          · subst q
            exact ⟨ti_eq.mpr (by rw [Nat.add_zero, Nat.add_zero, a1, b1]), ti_eq.mpr (by rw [Nat.add_zero, Nat.add_zero, a2, b2])⟩
          · have := ih l hh l' hh' (a + 1) (b + 1) a3 b3 (i - 1) (by simp only [List.length_cons] at hi; omega)
            rw [show a + i = a + 1 + (i - 1) by omega, show b + i = b + 1 + (i - 1) by omega]
            exact this
      have := key (keepL xs) sb se bk ek 0 rg hC.s k2 (j - rg) (by rw [hL]; omega)
      rw [Nat.zero_add, show rg + (j - rg) = j by omega] at this
      exact this
    · rw [if_neg (by omega), if_neg (by omega)]
      have := k3 j (by omega)
      rw [this.1, this.2]; exact h.b j (by omega)
  · refine ⟨rfl, by rw [upd_at], mm, by omega, by rw [upd_at], ?_⟩
    refine RT_out (fun j hj => ?_) (fun j hj => ?_) m2
    · rw [upd_ne (by omega)]
    · rw [upd_ne (by omega)]

set_option maxRecDepth 100000
set_option linter.unusedVariables false
def sumRP (r p : Nat → Nat) : Nat → Nat
  | 0 => r 0 + p 0
  | d + 1 => sumRP r p d + (r (d + 1) + p (d + 1))
theorem sumRP_le (r p : Nat → Nat) : ∀ d, r d + p d ≤ sumRP r p d := by
  intro d
  cases d with
  | zero => exact Nat.le_refl _
  | succ d => rw [sumRP]; omega
theorem sumRP_ext {r p r' p' : Nat → Nat} : ∀ {d : Nat}, (∀ j, j ≤ d → r' j = r j ∧ p' j = p j) → sumRP r' p' d = sumRP r p d := by
  intro d
  induction d with
  | zero => intro h; rw [sumRP, sumRP, (h 0 (Nat.le_refl _)).1, (h 0 (Nat.le_refl _)).2]
  | succ d ih =>
    intro h
    rw [sumRP, sumRP, ih (fun j hj => h j (by omega)), (h (d + 1) (Nat.le_refl _)).1, (h (d + 1) (Nat.le_refl _)).2]
/-- the value at d changed -/
def setN (f : Nat → Nat) (d v : Nat) : Nat → Nat := fun j => if j = d then v else f j
theorem setN_at (f : Nat → Nat) (d v : Nat) : setN f d v d = v := if_pos rfl
theorem setN_ne {f : Nat → Nat} {d v j : Nat} (h : j ≠ d) : setN f d v j = f j := if_neg h
theorem sumRP_set (r p : Nat → Nat) (d a b : Nat) : sumRP (setN r d a) (setN p d b) d + (r d + p d) = sumRP r p d + (a + b) := by
  cases d with
  | zero => rw [sumRP, sumRP, setN_at, setN_at]; omega
  | succ d =>
    rw [sumRP, sumRP, setN_at, setN_at, sumRP_ext (r := r) (p := p) (fun j hj => ⟨setN_ne (by omega), setN_ne (by omega)⟩)]
    omega
abbrev RS (N k nd rg ng dp : Nat) (R : List Nat) (r p : Nat → Nat) (flags : Int32) (rep : Bool) (kn vl mo ow sz fr rc bg en wt lens lets pls nus fas rws pts kn' vl' mo' sp' sz' wh' rf' rm' bg' en' nms nsz opd num fbf rws' pts' : Ar) : Prop := (TR nd rg R kn vl mo ow sz fr rc bg en wt kn' vl' mo' sp' sz' wh' rf' rm' bg' en') ∧ (k ≤ N) ∧ (nd + 2 * dp ≤ k + ng) ∧ (rg ≤ 4 * k) ∧ (ng ≤ 9) ∧ (dp ≤ 30) ∧ (∀ g, 1 ≤ g → g ≤ ng → ∃ L, L ≤ 12 ∧ lens g = nI L ∧ nsz g = nI L ∧ ∀ i, i < L → lets (12 * g + i) = nms (12 * g + i)) ∧ (∀ g, ng < g → g ≤ 10 → nsz g = 0) ∧ (∀ j, j ≤ dp → rws j = nI (r j) ∧ rws' j = nI (r j) ∧ pts j = nI (p j) ∧ pts' j = nI (p j)) ∧ (∀ j, 1 ≤ j → j ≤ dp → pls j = opd j ∧ nus j = num j ∧ fas j = fbf j ∧ (0 ≤ (fas j).toInt ∧ (fas j).toInt ≤ 15) ∧ (0 ≤ (nus j).toInt ∧ (nus j).toInt ≤ 9)) ∧ (R.length = sumRP r p dp) ∧ (0 ≤ flags.toInt ∧ flags.toInt ≤ 15) ∧ (rep = true → 1 ≤ p dp)
theorem RS.tr {N k nd rg ng dp : Nat} {R : List Nat} {r p : Nat → Nat} {flags : Int32} {rep : Bool} {kn vl mo ow sz fr rc bg en wt lens lets pls nus fas rws pts kn' vl' mo' sp' sz' wh' rf' rm' bg' en' nms nsz opd num fbf rws' pts' : Ar} (h : RS N k nd rg ng dp R r p flags rep kn vl mo ow sz fr rc bg en wt lens lets pls nus fas rws pts kn' vl' mo' sp' sz' wh' rf' rm' bg' en' nms nsz opd num fbf rws' pts') : TR nd rg R kn vl mo ow sz fr rc bg en wt kn' vl' mo' sp' sz' wh' rf' rm' bg' en' := h.1
theorem RS.k_le {N k nd rg ng dp : Nat} {R : List Nat} {r p : Nat → Nat} {flags : Int32} {rep : Bool} {kn vl mo ow sz fr rc bg en wt lens lets pls nus fas rws pts kn' vl' mo' sp' sz' wh' rf' rm' bg' en' nms nsz opd num fbf rws' pts' : Ar} (h : RS N k nd rg ng dp R r p flags rep kn vl mo ow sz fr rc bg en wt lens lets pls nus fas rws pts kn' vl' mo' sp' sz' wh' rf' rm' bg' en' nms nsz opd num fbf rws' pts') : k ≤ N := h.2.1
theorem RS.nd_le {N k nd rg ng dp : Nat} {R : List Nat} {r p : Nat → Nat} {flags : Int32} {rep : Bool} {kn vl mo ow sz fr rc bg en wt lens lets pls nus fas rws pts kn' vl' mo' sp' sz' wh' rf' rm' bg' en' nms nsz opd num fbf rws' pts' : Ar} (h : RS N k nd rg ng dp R r p flags rep kn vl mo ow sz fr rc bg en wt lens lets pls nus fas rws pts kn' vl' mo' sp' sz' wh' rf' rm' bg' en' nms nsz opd num fbf rws' pts') : nd + 2 * dp ≤ k + ng := h.2.2.1
theorem RS.rg_le {N k nd rg ng dp : Nat} {R : List Nat} {r p : Nat → Nat} {flags : Int32} {rep : Bool} {kn vl mo ow sz fr rc bg en wt lens lets pls nus fas rws pts kn' vl' mo' sp' sz' wh' rf' rm' bg' en' nms nsz opd num fbf rws' pts' : Ar} (h : RS N k nd rg ng dp R r p flags rep kn vl mo ow sz fr rc bg en wt lens lets pls nus fas rws pts kn' vl' mo' sp' sz' wh' rf' rm' bg' en' nms nsz opd num fbf rws' pts') : rg ≤ 4 * k := h.2.2.2.1
theorem RS.ng_le {N k nd rg ng dp : Nat} {R : List Nat} {r p : Nat → Nat} {flags : Int32} {rep : Bool} {kn vl mo ow sz fr rc bg en wt lens lets pls nus fas rws pts kn' vl' mo' sp' sz' wh' rf' rm' bg' en' nms nsz opd num fbf rws' pts' : Ar} (h : RS N k nd rg ng dp R r p flags rep kn vl mo ow sz fr rc bg en wt lens lets pls nus fas rws pts kn' vl' mo' sp' sz' wh' rf' rm' bg' en' nms nsz opd num fbf rws' pts') : ng ≤ 9 := h.2.2.2.2.1
theorem RS.dp_le {N k nd rg ng dp : Nat} {R : List Nat} {r p : Nat → Nat} {flags : Int32} {rep : Bool} {kn vl mo ow sz fr rc bg en wt lens lets pls nus fas rws pts kn' vl' mo' sp' sz' wh' rf' rm' bg' en' nms nsz opd num fbf rws' pts' : Ar} (h : RS N k nd rg ng dp R r p flags rep kn vl mo ow sz fr rc bg en wt lens lets pls nus fas rws pts kn' vl' mo' sp' sz' wh' rf' rm' bg' en' nms nsz opd num fbf rws' pts') : dp ≤ 30 := h.2.2.2.2.2.1
theorem RS.gr {N k nd rg ng dp : Nat} {R : List Nat} {r p : Nat → Nat} {flags : Int32} {rep : Bool} {kn vl mo ow sz fr rc bg en wt lens lets pls nus fas rws pts kn' vl' mo' sp' sz' wh' rf' rm' bg' en' nms nsz opd num fbf rws' pts' : Ar} (h : RS N k nd rg ng dp R r p flags rep kn vl mo ow sz fr rc bg en wt lens lets pls nus fas rws pts kn' vl' mo' sp' sz' wh' rf' rm' bg' en' nms nsz opd num fbf rws' pts') : ∀ g, 1 ≤ g → g ≤ ng → ∃ L, L ≤ 12 ∧ lens g = nI L ∧ nsz g = nI L ∧ ∀ i, i < L → lets (12 * g + i) = nms (12 * g + i) := h.2.2.2.2.2.2.1
theorem RS.gz {N k nd rg ng dp : Nat} {R : List Nat} {r p : Nat → Nat} {flags : Int32} {rep : Bool} {kn vl mo ow sz fr rc bg en wt lens lets pls nus fas rws pts kn' vl' mo' sp' sz' wh' rf' rm' bg' en' nms nsz opd num fbf rws' pts' : Ar} (h : RS N k nd rg ng dp R r p flags rep kn vl mo ow sz fr rc bg en wt lens lets pls nus fas rws pts kn' vl' mo' sp' sz' wh' rf' rm' bg' en' nms nsz opd num fbf rws' pts') : ∀ g, ng < g → g ≤ 10 → nsz g = 0 := h.2.2.2.2.2.2.2.1
theorem RS.rw_ {N k nd rg ng dp : Nat} {R : List Nat} {r p : Nat → Nat} {flags : Int32} {rep : Bool} {kn vl mo ow sz fr rc bg en wt lens lets pls nus fas rws pts kn' vl' mo' sp' sz' wh' rf' rm' bg' en' nms nsz opd num fbf rws' pts' : Ar} (h : RS N k nd rg ng dp R r p flags rep kn vl mo ow sz fr rc bg en wt lens lets pls nus fas rws pts kn' vl' mo' sp' sz' wh' rf' rm' bg' en' nms nsz opd num fbf rws' pts') : ∀ j, j ≤ dp → rws j = nI (r j) ∧ rws' j = nI (r j) ∧ pts j = nI (p j) ∧ pts' j = nI (p j) := h.2.2.2.2.2.2.2.2.1
theorem RS.st {N k nd rg ng dp : Nat} {R : List Nat} {r p : Nat → Nat} {flags : Int32} {rep : Bool} {kn vl mo ow sz fr rc bg en wt lens lets pls nus fas rws pts kn' vl' mo' sp' sz' wh' rf' rm' bg' en' nms nsz opd num fbf rws' pts' : Ar} (h : RS N k nd rg ng dp R r p flags rep kn vl mo ow sz fr rc bg en wt lens lets pls nus fas rws pts kn' vl' mo' sp' sz' wh' rf' rm' bg' en' nms nsz opd num fbf rws' pts') : ∀ j, 1 ≤ j → j ≤ dp → pls j = opd j ∧ nus j = num j ∧ fas j = fbf j ∧ (0 ≤ (fas j).toInt ∧ (fas j).toInt ≤ 15) ∧ (0 ≤ (nus j).toInt ∧ (nus j).toInt ≤ 9) := h.2.2.2.2.2.2.2.2.2.1
theorem RS.rl {N k nd rg ng dp : Nat} {R : List Nat} {r p : Nat → Nat} {flags : Int32} {rep : Bool} {kn vl mo ow sz fr rc bg en wt lens lets pls nus fas rws pts kn' vl' mo' sp' sz' wh' rf' rm' bg' en' nms nsz opd num fbf rws' pts' : Ar} (h : RS N k nd rg ng dp R r p flags rep kn vl mo ow sz fr rc bg en wt lens lets pls nus fas rws pts kn' vl' mo' sp' sz' wh' rf' rm' bg' en' nms nsz opd num fbf rws' pts') : R.length = sumRP r p dp := h.2.2.2.2.2.2.2.2.2.2.1
theorem RS.fl {N k nd rg ng dp : Nat} {R : List Nat} {r p : Nat → Nat} {flags : Int32} {rep : Bool} {kn vl mo ow sz fr rc bg en wt lens lets pls nus fas rws pts kn' vl' mo' sp' sz' wh' rf' rm' bg' en' nms nsz opd num fbf rws' pts' : Ar} (h : RS N k nd rg ng dp R r p flags rep kn vl mo ow sz fr rc bg en wt lens lets pls nus fas rws pts kn' vl' mo' sp' sz' wh' rf' rm' bg' en' nms nsz opd num fbf rws' pts') : 0 ≤ flags.toInt ∧ flags.toInt ≤ 15 := h.2.2.2.2.2.2.2.2.2.2.2.1
theorem RS.rp {N k nd rg ng dp : Nat} {R : List Nat} {r p : Nat → Nat} {flags : Int32} {rep : Bool} {kn vl mo ow sz fr rc bg en wt lens lets pls nus fas rws pts kn' vl' mo' sp' sz' wh' rf' rm' bg' en' nms nsz opd num fbf rws' pts' : Ar} (h : RS N k nd rg ng dp R r p flags rep kn vl mo ow sz fr rc bg en wt lens lets pls nus fas rws pts kn' vl' mo' sp' sz' wh' rf' rm' bg' en' nms nsz opd num fbf rws' pts') : rep = true → 1 ≤ p dp := h.2.2.2.2.2.2.2.2.2.2.2.2
theorem RS.small {N k nd rg ng dp : Nat} {R : List Nat} {r p : Nat → Nat} {flags : Int32} {rep : Bool} {kn vl mo ow sz fr rc bg en wt lens lets pls nus fas rws pts kn' vl' mo' sp' sz' wh' rf' rm' bg' en' nms nsz opd num fbf rws' pts' : Ar}
    (h : RS N k nd rg ng dp R r p flags rep kn vl mo ow sz fr rc bg en wt lens lets pls nus fas rws pts kn' vl' mo' sp' sz' wh' rf' rm' bg' en' nms nsz opd num fbf rws' pts') (hN : N ≤ 400) : nd ≤ 409 ∧ R.length ≤ nd ∧ p dp ≤ nd ∧ r dp ≤ nd ∧ r dp + p dp ≤ R.length := by
  have h1 := RT_len h.tr.rt
  have h2 := sumRP_le r p dp
  have h3 := h.rl
  have h4 := h.nd_le
  have h5 := h.ng_le
  have h6 := h.k_le
  omega
/-- one more part: the tree has a new root (nd :: R), its parts count one more -/
theorem RS.part {N k k' nd rg rg2 ng dp : Nat} {R : List Nat} {r p : Nat → Nat} {flags flags2 : Int32} {rep rep2 : Bool} {kn vl mo ow sz fr rc bg en wt lens lets pls nus fas rws pts kn' vl' mo' sp' sz' wh' rf' rm' bg' en' nms nsz opd num fbf rws' pts' : Ar}
    {kn2 vl2 mo2 ow2 sz2 fr2 rc2 bg2 en2 wt2 kn2' vl2' mo2' sp2' sz2' wh2' rf2' rm2' bg2' en2' : Ar}
    (h : RS N k nd rg ng dp R r p flags rep kn vl mo ow sz fr rc bg en wt lens lets pls nus fas rws pts kn' vl' mo' sp' sz' wh' rf' rm' bg' en' nms nsz opd num fbf rws' pts') (ht : TR (nd + 1) rg2 (nd :: R) kn2 vl2 mo2 ow2 sz2 fr2 rc2 bg2 en2 wt2 kn2' vl2' mo2' sp2' sz2' wh2' rf2' rm2' bg2' en2')
    (hk : k < k') (hN : k' ≤ N) (hrg : rg2 ≤ 4 * k') (hfl : 0 ≤ flags2.toInt ∧ flags2.toInt ≤ 15) :
    RS N k' (nd + 1) rg2 ng dp (nd :: R) r (setN p dp (p dp + 1)) flags2 rep2 kn2 vl2 mo2 ow2 sz2 fr2 rc2 bg2 en2 wt2 lens lets pls nus fas rws (upd pts dp (pts dp + 1)) kn2' vl2' mo2' sp2' sz2' wh2' rf2' rm2' bg2' en2' nms nsz opd num fbf rws' (upd pts' dp (pts' dp + 1)) := by
  refine ⟨ht, hN, by have := h.nd_le; omega, hrg, h.ng_le, h.dp_le, h.gr, h.gz, fun j hj => ?_, h.st, ?_, hfl, fun _ => by rw [setN_at]; omega⟩
  · obtain ⟨a1, a2, a3, a4⟩ := h.rw_ j hj
    by_cases c : j = dp
    · subst c
      refine ⟨a1, a2, ?_, ?_⟩
      · rw [upd_at, setN_at, a3, nI_1]
      · rw [upd_at, setN_at, a4, nI_1]
    · rw [upd_ne c, upd_ne c, setN_ne c]
      exact ⟨a1, a2, a3, a4⟩
  · have h1 := sumRP_set r p dp (r dp) (p dp + 1)
    have h2 := h.rl
    have h3 : sumRP (setN r dp (r dp)) (setN p dp (p dp + 1)) dp = sumRP r (setN p dp (p dp + 1)) dp := sumRP_ext (fun j _ => ⟨by
      by_cases c : j = dp
      · rw [c, setN_at]
      · rw [setN_ne c], rfl⟩)
    simp only [List.length_cons]
    omega
/-- a node without its own -/
theorem leaf_eq {nd rg : Nat} {R : List Nat} {kn vl mo ow sz fr rc bg en wt kn' vl' mo' sp' sz' wh' rf' rm' bg' en' : Ar} (h : TR nd rg R kn vl mo ow sz fr rc bg en wt kn' vl' mo' sp' sz' wh' rf' rm' bg' en') (hnd : nd < 512) (k v size : Int32) (hsz : 0 ≤ size.toInt ∧ size.toInt ≤ 100) (hs : ∀ s' : Int64, s'.toInt = 0 → ∃ z : Int64, f_MOD_sizeOf k v (-1) s' = some z ∧ z.toInt = size.toInt) :
    ∃ ow2 sz2 wt2 sp2 sz2' wh2, f_TRE_addLeaf (nI nd) (nI rg) (nI R.length) kn vl mo ow sz fr rc wt k v size = some (nI (nd + 1), nI (R.length + 1), upd kn nd k, upd vl nd v, upd mo nd (-1), ow2, sz2, upd fr nd (nI rg), upd rc nd 0, wt2) ∧
      f_MOD_make (nI nd) (nI rg) kn' vl' mo' sp' sz' wh' rf' rm' k v (-1) 0 = some (nI (nd + 1), upd kn' nd k, upd vl' nd v, upd mo' nd (-1), sp2, sz2', wh2, upd rf' nd (nI rg), upd rm' nd 0) ∧
      TR (nd + 1) rg (nd :: R) (upd kn nd k) (upd vl nd v) (upd mo nd (-1)) ow2 sz2 (upd fr nd (nI rg)) (upd rc nd 0) bg en wt2 (upd kn' nd k) (upd vl' nd v) (upd mo' nd (-1)) sp2 sz2' wh2 (upd rf' nd (nI rg)) (upd rm' nd 0) bg' en' := by
  obtain ⟨ow2, wt2, sp2, wh2, q1, q2, q3⟩ := over_eq (P := []) (Q := R) h hnd rfl k v (-1) size ⟨hsz.1, by omega⟩ (fun s' hs' => hs s' hs')
  refine ⟨ow2, _, wt2, sp2, _, wh2, ?_, q2, q3⟩
  unfold f_TRE_addLeaf
  have q1' : f_TRE_addOver (nI nd) (nI rg) (nI R.length) kn vl mo ow sz fr rc wt 0 k v (-1) size = _ := q1
  rw [bnd_s q1']
theorem size1 {k v : Int32} (hk : k = 0 ∨ k = 1 ∨ k = 2 ∨ k = 3) (s' : Int64) : ∃ z : Int64, f_MOD_sizeOf k v (-1) s' = some z ∧ z.toInt = (1 : Int32).toInt := by
  refine ⟨1, ?_, rfl⟩
  unfold f_MOD_sizeOf
  rcases hk with rfl | rfl | rfl | rfl <;> rfl
theorem partM {dep : Nat} (hd : dep < 31) (rp : Bool) (pa : Ar) : f_MOD_part (nI dep) rp pa = some (true, upd pa dep (pa dep + 1)) := by
  unfold f_MOD_part
  rw [grd_t (inb_nI (by omega) (by decide)), grd_t (inb_nI (by omega) (by decide)), nI_clamp (by omega)]
theorem partC {dep : Nat} (hd : dep < 31) (pl : Int32) (rp : Bool) (pa : Ar) (a : Int32) (m : Bool) : f_RDR_partDone (nI dep) pl rp pa a m = some (a, m, upd pa dep (pa dep + 1)) := by
  unfold f_RDR_partDone
  rw [grd_t (inb_nI (by omega) (by decide)), grd_t (inb_nI (by omega) (by decide)), nI_clamp (by omega)]

set_option maxRecDepth 100000
set_option linter.unusedVariables false
abbrev CT := Int32 × Int32 × Int32 × Int32 × Int32 × Int32 × Int32 × Int32 × Int32 × Int32 × Nat × Bool × Int32 × Int32 × Bool × Bool × Int32 × Int32 × Int32 × Int32 × Int32 × Int32 × Bool × Int32 × Int32 × Int32 × Int32 × Bool × (Nat → Int32) × (Nat → Int32) × (Nat → Int32) × (Nat → Int32) × (Nat → Int32) × (Nat → Int32) × (Nat → Int32) × (Nat → Int32) × (Nat → Int32) × (Nat → Int32) × (Nat → Int32) × (Nat → Int32) × (Nat → Int32) × (Nat → Int32) × (Nat → Int32) × (Nat → Int32) × (Nat → Int32) × (Nat → Int32) × (Nat → Int32)
abbrev MT := Int32 × Int32 × Int32 × Int32 × Int32 × Int32 × Int32 × Int32 × Bool × Int32 × Bool × Int32 × Int32 × (Nat → Int32) × (Nat → Int32) × (Nat → Int32) × (Nat → Int32) × (Nat → Int32) × (Nat → Int32) × (Nat → Int32) × (Nat → Int32) × (Nat → Int32) × (Nat → Int32) × (Nat → Int32) × (Nat → Int32) × (Nat → Int32) × (Nat → Int32) × (Nat → Int32) × (Nat → Int32) × (Nat → Int32) × (Nat → Int32) × (Nat → Int32) × (Nat → Int32)
/-- class and reference stand alike at k -/
def RSt (N k : Nat) (c : CT) (m : MT) : Prop := c.1 = 0 ∧ m.2.1 = 0 ∧ ∃ (nd rg ng dp : Nat) (R : List Nat) (r p : Nat → Nat), (c.2.2.2.1 = nI nd ∧ c.2.2.2.2.1 = nI rg ∧ c.2.2.2.2.2.1 = nI R.length ∧ c.2.2.2.2.2.2.1 = nI ng ∧ c.2.2.2.2.2.2.2.1 = nI dp ∧ c.2.2.2.2.2.2.2.2.2.2.2.2.2.2.2.2.2.2.2.2.2.2.2.2.2.1 = nI k) ∧ (m.1 = nI k ∧ m.2.2.2.1 = nI nd ∧ m.2.2.2.2.1 = nI rg ∧ m.2.2.2.2.2.1 = nI ng ∧ m.2.2.2.2.2.2.1 = nI dp ∧ m.2.2.2.2.2.2.2.1 = c.2.2.2.2.2.2.2.2.2.2.2.2.2.2.2.2.2.2.2.2.2.2.2.2.2.2.1 ∧ m.2.2.2.2.2.2.2.2.1 = c.2.2.2.2.2.2.2.2.2.2.2.2.2.2.2.2.2.2.2.2.2.2.2.2.2.2.2.1) ∧ (∃ xs ys, MS m.2.2.2.2.2.2.2.2.2.2.2.2.2.2.2.2.2.2.2.2.2.2.2.2.2.2.2.2.2.2.1 m.2.2.2.2.2.2.2.2.2.2.2.2.2.2.2.2.2.2.2.2.2.2.2.2.2.2.2.2.2.2.2.1 m.2.2.2.2.2.2.2.2.2.2.2.2.2.2.2.2.2.2.2.2.2.2.2.2.2.2.2.2.2.2.2.2 xs ys) ∧
  RS N k nd rg ng dp R r p c.2.2.2.2.2.2.2.2.2.2.2.2.2.2.2.2.2.2.2.2.2.2.2.2.2.2.1 c.2.2.2.2.2.2.2.2.2.2.2.2.2.2.2.2.2.2.2.2.2.2.2.2.2.2.2.1 c.2.2.2.2.2.2.2.2.2.2.2.2.2.2.2.2.2.2.2.2.2.2.2.2.2.2.2.2.2.2.1 c.2.2.2.2.2.2.2.2.2.2.2.2.2.2.2.2.2.2.2.2.2.2.2.2.2.2.2.2.2.2.2.1 c.2.2.2.2.2.2.2.2.2.2.2.2.2.2.2.2.2.2.2.2.2.2.2.2.2.2.2.2.2.2.2.2.1 c.2.2.2.2.2.2.2.2.2.2.2.2.2.2.2.2.2.2.2.2.2.2.2.2.2.2.2.2.2.2.2.2.2.1 c.2.2.2.2.2.2.2.2.2.2.2.2.2.2.2.2.2.2.2.2.2.2.2.2.2.2.2.2.2.2.2.2.2.2.1 c.2.2.2.2.2.2.2.2.2.2.2.2.2.2.2.2.2.2.2.2.2.2.2.2.2.2.2.2.2.2.2.2.2.2.2.1 c.2.2.2.2.2.2.2.2.2.2.2.2.2.2.2.2.2.2.2.2.2.2.2.2.2.2.2.2.2.2.2.2.2.2.2.2.1 c.2.2.2.2.2.2.2.2.2.2.2.2.2.2.2.2.2.2.2.2.2.2.2.2.2.2.2.2.2.2.2.2.2.2.2.2.2.1 c.2.2.2.2.2.2.2.2.2.2.2.2.2.2.2.2.2.2.2.2.2.2.2.2.2.2.2.2.2.2.2.2.2.2.2.2.2.2.1 c.2.2.2.2.2.2.2.2.2.2.2.2.2.2.2.2.2.2.2.2.2.2.2.2.2.2.2.2.2.2.2.2.2.2.2.2.2.2.2.1 c.2.2.2.2.2.2.2.2.2.2.2.2.2.2.2.2.2.2.2.2.2.2.2.2.2.2.2.2.2.2.2.2.2.2.2.2.2.2.2.2.1 c.2.2.2.2.2.2.2.2.2.2.2.2.2.2.2.2.2.2.2.2.2.2.2.2.2.2.2.2.2.2.2.2.2.2.2.2.2.2.2.2.2.1 c.2.2.2.2.2.2.2.2.2.2.2.2.2.2.2.2.2.2.2.2.2.2.2.2.2.2.2.2.2.2.2.2.2.2.2.2.2.2.2.2.2.2.1 c.2.2.2.2.2.2.2.2.2.2.2.2.2.2.2.2.2.2.2.2.2.2.2.2.2.2.2.2.2.2.2.2.2.2.2.2.2.2.2.2.2.2.2.1 c.2.2.2.2.2.2.2.2.2.2.2.2.2.2.2.2.2.2.2.2.2.2.2.2.2.2.2.2.2.2.2.2.2.2.2.2.2.2.2.2.2.2.2.2.1 c.2.2.2.2.2.2.2.2.2.2.2.2.2.2.2.2.2.2.2.2.2.2.2.2.2.2.2.2.2.2.2.2.2.2.2.2.2.2.2.2.2.2.2.2.2.1 c.2.2.2.2.2.2.2.2.2.2.2.2.2.2.2.2.2.2.2.2.2.2.2.2.2.2.2.2.2.2.2.2.2.2.2.2.2.2.2.2.2.2.2.2.2.2 m.2.2.2.2.2.2.2.2.2.2.2.2.2.1 m.2.2.2.2.2.2.2.2.2.2.2.2.2.2.1 m.2.2.2.2.2.2.2.2.2.2.2.2.2.2.2.1 m.2.2.2.2.2.2.2.2.2.2.2.2.2.2.2.2.1 m.2.2.2.2.2.2.2.2.2.2.2.2.2.2.2.2.2.1 m.2.2.2.2.2.2.2.2.2.2.2.2.2.2.2.2.2.2.1 m.2.2.2.2.2.2.2.2.2.2.2.2.2.2.2.2.2.2.2.1 m.2.2.2.2.2.2.2.2.2.2.2.2.2.2.2.2.2.2.2.2.1 m.2.2.2.2.2.2.2.2.2.2.2.2.2.2.2.2.2.2.2.2.2.1 m.2.2.2.2.2.2.2.2.2.2.2.2.2.2.2.2.2.2.2.2.2.2.1 m.2.2.2.2.2.2.2.2.2.2.2.2.2.2.2.2.2.2.2.2.2.2.2.1 m.2.2.2.2.2.2.2.2.2.2.2.2.2.2.2.2.2.2.2.2.2.2.2.2.1 m.2.2.2.2.2.2.2.2.2.2.2.2.2.2.2.2.2.2.2.2.2.2.2.2.2.1 m.2.2.2.2.2.2.2.2.2.2.2.2.2.2.2.2.2.2.2.2.2.2.2.2.2.2.1 m.2.2.2.2.2.2.2.2.2.2.2.2.2.2.2.2.2.2.2.2.2.2.2.2.2.2.2.1 m.2.2.2.2.2.2.2.2.2.2.2.2.2.2.2.2.2.2.2.2.2.2.2.2.2.2.2.2.1 m.2.2.2.2.2.2.2.2.2.2.2.2.2.2.2.2.2.2.2.2.2.2.2.2.2.2.2.2.2.1
def FLt (c : CT) (m : MT) : Prop := c.1 ≠ 0 ∧ 0 < m.2.1 ∧ (∃ d : Nat, c.2.2.2.2.2.2.2.1 = nI d ∧ d ≤ 30) ∧ ∃ xs ys, MS m.2.2.2.2.2.2.2.2.2.2.2.2.2.2.2.2.2.2.2.2.2.2.2.2.2.2.2.2.2.2.1 m.2.2.2.2.2.2.2.2.2.2.2.2.2.2.2.2.2.2.2.2.2.2.2.2.2.2.2.2.2.2.2.1 m.2.2.2.2.2.2.2.2.2.2.2.2.2.2.2.2.2.2.2.2.2.2.2.2.2.2.2.2.2.2.2.2 xs ys
def rN (len : Int32) (B : Ar) (c : CT) : Option CT := f_RDR_readNext len c.1 c.2.1 c.2.2.1 c.2.2.2.1 c.2.2.2.2.1 c.2.2.2.2.2.1 c.2.2.2.2.2.2.1 c.2.2.2.2.2.2.2.1 c.2.2.2.2.2.2.2.2.1 c.2.2.2.2.2.2.2.2.2.1 c.2.2.2.2.2.2.2.2.2.2.1 c.2.2.2.2.2.2.2.2.2.2.2.1 c.2.2.2.2.2.2.2.2.2.2.2.2.1 c.2.2.2.2.2.2.2.2.2.2.2.2.2.1 c.2.2.2.2.2.2.2.2.2.2.2.2.2.2.1 c.2.2.2.2.2.2.2.2.2.2.2.2.2.2.2.1 c.2.2.2.2.2.2.2.2.2.2.2.2.2.2.2.2.1 c.2.2.2.2.2.2.2.2.2.2.2.2.2.2.2.2.2.1 c.2.2.2.2.2.2.2.2.2.2.2.2.2.2.2.2.2.2.1 c.2.2.2.2.2.2.2.2.2.2.2.2.2.2.2.2.2.2.2.1 c.2.2.2.2.2.2.2.2.2.2.2.2.2.2.2.2.2.2.2.2.1 c.2.2.2.2.2.2.2.2.2.2.2.2.2.2.2.2.2.2.2.2.2.1 c.2.2.2.2.2.2.2.2.2.2.2.2.2.2.2.2.2.2.2.2.2.2.1 c.2.2.2.2.2.2.2.2.2.2.2.2.2.2.2.2.2.2.2.2.2.2.2.1 c.2.2.2.2.2.2.2.2.2.2.2.2.2.2.2.2.2.2.2.2.2.2.2.2.1 c.2.2.2.2.2.2.2.2.2.2.2.2.2.2.2.2.2.2.2.2.2.2.2.2.2.1 c.2.2.2.2.2.2.2.2.2.2.2.2.2.2.2.2.2.2.2.2.2.2.2.2.2.2.1 c.2.2.2.2.2.2.2.2.2.2.2.2.2.2.2.2.2.2.2.2.2.2.2.2.2.2.2.1 B c.2.2.2.2.2.2.2.2.2.2.2.2.2.2.2.2.2.2.2.2.2.2.2.2.2.2.2.2.1 c.2.2.2.2.2.2.2.2.2.2.2.2.2.2.2.2.2.2.2.2.2.2.2.2.2.2.2.2.2.1 c.2.2.2.2.2.2.2.2.2.2.2.2.2.2.2.2.2.2.2.2.2.2.2.2.2.2.2.2.2.2.1 c.2.2.2.2.2.2.2.2.2.2.2.2.2.2.2.2.2.2.2.2.2.2.2.2.2.2.2.2.2.2.2.1 c.2.2.2.2.2.2.2.2.2.2.2.2.2.2.2.2.2.2.2.2.2.2.2.2.2.2.2.2.2.2.2.2.1 c.2.2.2.2.2.2.2.2.2.2.2.2.2.2.2.2.2.2.2.2.2.2.2.2.2.2.2.2.2.2.2.2.2.1 c.2.2.2.2.2.2.2.2.2.2.2.2.2.2.2.2.2.2.2.2.2.2.2.2.2.2.2.2.2.2.2.2.2.2.1 c.2.2.2.2.2.2.2.2.2.2.2.2.2.2.2.2.2.2.2.2.2.2.2.2.2.2.2.2.2.2.2.2.2.2.2.1 c.2.2.2.2.2.2.2.2.2.2.2.2.2.2.2.2.2.2.2.2.2.2.2.2.2.2.2.2.2.2.2.2.2.2.2.2.1 c.2.2.2.2.2.2.2.2.2.2.2.2.2.2.2.2.2.2.2.2.2.2.2.2.2.2.2.2.2.2.2.2.2.2.2.2.2.1 c.2.2.2.2.2.2.2.2.2.2.2.2.2.2.2.2.2.2.2.2.2.2.2.2.2.2.2.2.2.2.2.2.2.2.2.2.2.2.1 c.2.2.2.2.2.2.2.2.2.2.2.2.2.2.2.2.2.2.2.2.2.2.2.2.2.2.2.2.2.2.2.2.2.2.2.2.2.2.2.1 c.2.2.2.2.2.2.2.2.2.2.2.2.2.2.2.2.2.2.2.2.2.2.2.2.2.2.2.2.2.2.2.2.2.2.2.2.2.2.2.2.1 c.2.2.2.2.2.2.2.2.2.2.2.2.2.2.2.2.2.2.2.2.2.2.2.2.2.2.2.2.2.2.2.2.2.2.2.2.2.2.2.2.2.1 c.2.2.2.2.2.2.2.2.2.2.2.2.2.2.2.2.2.2.2.2.2.2.2.2.2.2.2.2.2.2.2.2.2.2.2.2.2.2.2.2.2.2.1 c.2.2.2.2.2.2.2.2.2.2.2.2.2.2.2.2.2.2.2.2.2.2.2.2.2.2.2.2.2.2.2.2.2.2.2.2.2.2.2.2.2.2.2.1 c.2.2.2.2.2.2.2.2.2.2.2.2.2.2.2.2.2.2.2.2.2.2.2.2.2.2.2.2.2.2.2.2.2.2.2.2.2.2.2.2.2.2.2.2.1 c.2.2.2.2.2.2.2.2.2.2.2.2.2.2.2.2.2.2.2.2.2.2.2.2.2.2.2.2.2.2.2.2.2.2.2.2.2.2.2.2.2.2.2.2.2.1 c.2.2.2.2.2.2.2.2.2.2.2.2.2.2.2.2.2.2.2.2.2.2.2.2.2.2.2.2.2.2.2.2.2.2.2.2.2.2.2.2.2.2.2.2.2.2
def mS (n : Int32) (X lk tb tl tn : Ar) (m : MT) : Option MT := f_MOD_step n m.1 m.2.1 m.2.2.1 m.2.2.2.1 m.2.2.2.2.1 m.2.2.2.2.2.1 m.2.2.2.2.2.2.1 m.2.2.2.2.2.2.2.1 m.2.2.2.2.2.2.2.2.1 m.2.2.2.2.2.2.2.2.2.1 m.2.2.2.2.2.2.2.2.2.2.1 m.2.2.2.2.2.2.2.2.2.2.2.1 m.2.2.2.2.2.2.2.2.2.2.2.2.1 X m.2.2.2.2.2.2.2.2.2.2.2.2.2.1 m.2.2.2.2.2.2.2.2.2.2.2.2.2.2.1 m.2.2.2.2.2.2.2.2.2.2.2.2.2.2.2.1 m.2.2.2.2.2.2.2.2.2.2.2.2.2.2.2.2.1 m.2.2.2.2.2.2.2.2.2.2.2.2.2.2.2.2.2.1 m.2.2.2.2.2.2.2.2.2.2.2.2.2.2.2.2.2.2.1 m.2.2.2.2.2.2.2.2.2.2.2.2.2.2.2.2.2.2.2.1 m.2.2.2.2.2.2.2.2.2.2.2.2.2.2.2.2.2.2.2.2.1 m.2.2.2.2.2.2.2.2.2.2.2.2.2.2.2.2.2.2.2.2.2.1 m.2.2.2.2.2.2.2.2.2.2.2.2.2.2.2.2.2.2.2.2.2.2.1 m.2.2.2.2.2.2.2.2.2.2.2.2.2.2.2.2.2.2.2.2.2.2.2.1 m.2.2.2.2.2.2.2.2.2.2.2.2.2.2.2.2.2.2.2.2.2.2.2.2.1 m.2.2.2.2.2.2.2.2.2.2.2.2.2.2.2.2.2.2.2.2.2.2.2.2.2.1 m.2.2.2.2.2.2.2.2.2.2.2.2.2.2.2.2.2.2.2.2.2.2.2.2.2.2.1 m.2.2.2.2.2.2.2.2.2.2.2.2.2.2.2.2.2.2.2.2.2.2.2.2.2.2.2.1 m.2.2.2.2.2.2.2.2.2.2.2.2.2.2.2.2.2.2.2.2.2.2.2.2.2.2.2.2.1 m.2.2.2.2.2.2.2.2.2.2.2.2.2.2.2.2.2.2.2.2.2.2.2.2.2.2.2.2.2.1 m.2.2.2.2.2.2.2.2.2.2.2.2.2.2.2.2.2.2.2.2.2.2.2.2.2.2.2.2.2.2.1 m.2.2.2.2.2.2.2.2.2.2.2.2.2.2.2.2.2.2.2.2.2.2.2.2.2.2.2.2.2.2.2.1 m.2.2.2.2.2.2.2.2.2.2.2.2.2.2.2.2.2.2.2.2.2.2.2.2.2.2.2.2.2.2.2.2 lk tb tl tn
def StepOK (N k : Nat) (a : Option CT) (b : Option MT) : Prop := ∃ c m, a = some c ∧ b = some m ∧ (FLt c m ∨ ∃ k', k < k' ∧ RSt N k' c m)

set_option maxRecDepth 100000
set_option linter.unusedVariables false
theorem br_assert {len n : Int32} {B X : Ar} {N : Nat} (h : TX len B n X N) {lk tb tl tn : Ar} (hT : TB lk tb tl tn) {k : Nat} (hk : k < N) {nd rg ng dp : Nat} {R : List Nat} {r p : Nat → Nat} {xs ys : PL} {i_place : Int32} {s_pieces : Int32} {e_kind : Int32} {e_value : Int32} {e_set : Nat} {e_others : Bool} {e_after : Int32} {cl_single : Int32} {q_numbered : Bool} {q_flagsAlone : Bool} {q_nameAt : Int32} {q_nameLength : Int32} {q_flags : Int32} {q_after : Int32} {p_least : Int32} {p_most : Int32} {p_marked : Bool} {p_after : Int32} {p_number : Int32} {r_flags : Int32} {r_repeatable : Bool} {s_begins : Nat → Int32} {s_ends : Nat → Int32} {t_kinds : Nat → Int32} {t_values : Nat → Int32} {t_mosts : Nat → Int32} {t_owners : Nat → Int32} {t_sizes : Nat → Int32} {t_firstRanges : Nat → Int32} {t_rangeCounts : Nat → Int32} {t_begins : Nat → Int32} {t_ends : Nat → Int32} {t_waiting : Nat → Int32} {g_lengths : Nat → Int32} {g_letters : Nat → Int32} {o_places : Nat → Int32} {o_numbers : Nat → Int32} {o_flagsAround : Nat → Int32} {o_rows : Nat → Int32} {o_parts : Nat → Int32} {m_place : Int32} {m_behind : Int32} {m_notSet : Bool} {m_least : Int32} {m_greatest : Int32} {m_kind : Nat → Int32} {m_value : Nat → Int32} {m_most : Nat → Int32} {m_span : Nat → Int32} {m_size : Nat → Int32} {m_whose : Nat → Int32} {m_rangeFrom : Nat → Int32} {m_rangeMany : Nat → Int32} {m_begins : Nat → Int32} {m_ends : Nat → Int32} {m_names : Nat → Int32} {m_nameSize : Nat → Int32} {m_opened : Nat → Int32} {m_number : Nat → Int32} {m_flagsBefore : Nat → Int32} {m_rows : Nat → Int32} {m_parts : Nat → Int32} {m_low : Nat → Int32} {m_high : Nat → Int32} {m_many : Nat → Int32} (hM : MS m_low m_high m_many xs ys) (hS : RS N k nd rg ng dp R r p r_flags r_repeatable t_kinds t_values t_mosts t_owners t_sizes t_firstRanges t_rangeCounts t_begins t_ends t_waiting g_lengths g_letters o_places o_numbers o_flagsAround o_rows o_parts m_kind m_value m_most m_span m_size m_whose m_rangeFrom m_rangeMany m_begins m_ends m_names m_nameSize m_opened m_number m_flagsBefore m_rows m_parts) (x v : Int32) (hx : bt N B k = x) (hcls : rN len B (0, i_place, s_pieces, nI nd, nI rg, nI R.length, nI ng, nI dp, e_kind, e_value, e_set, e_others, e_after, cl_single, q_numbered, q_flagsAlone, q_nameAt, q_nameLength, q_flags, q_after, p_least, p_most, p_marked, p_after, p_number, nI k, r_flags, r_repeatable, s_begins, s_ends, t_kinds, t_values, t_mosts, t_owners, t_sizes, t_firstRanges, t_rangeCounts, t_begins, t_ends, t_waiting, g_lengths, g_letters, o_places, o_numbers, o_flagsAround, o_rows, o_parts) = bnd_ (f_RDR_addAssertion (nI nd) (nI rg) (nI R.length) (nI dp) (nI k) r_repeatable t_kinds t_values t_mosts t_owners t_sizes t_firstRanges t_rangeCounts t_waiting o_parts v) (fun x218 => some (0, i_place, s_pieces, x218.1, nI rg, x218.2.1, nI ng, nI dp, e_kind, e_value, e_set, e_others, e_after, cl_single, q_numbered, q_flagsAlone, q_nameAt, q_nameLength, q_flags, q_after, p_least, p_most, p_marked, p_after, p_number, x218.2.2.1, r_flags, x218.2.2.2.1, s_begins, s_ends, x218.2.2.2.2.1, x218.2.2.2.2.2.1, x218.2.2.2.2.2.2.1, x218.2.2.2.2.2.2.2.1, x218.2.2.2.2.2.2.2.2.1, x218.2.2.2.2.2.2.2.2.2.1, x218.2.2.2.2.2.2.2.2.2.2.1, t_begins, t_ends, x218.2.2.2.2.2.2.2.2.2.2.2.1, g_lengths, g_letters, o_places, o_numbers, o_flagsAround, o_rows, x218.2.2.2.2.2.2.2.2.2.2.2.2))) (href : mS n X lk tb tl tn (nI k, 0, m_place, nI nd, nI rg, nI ng, nI dp, r_flags, r_repeatable, m_behind, m_notSet, m_least, m_greatest, m_kind, m_value, m_most, m_span, m_size, m_whose, m_rangeFrom, m_rangeMany, m_begins, m_ends, m_names, m_nameSize, m_opened, m_number, m_flagsBefore, m_rows, m_parts, m_low, m_high, m_many) = bnd_ (f_MOD_assertion (nI nd) (nI rg) (nI dp) r_repeatable m_kind m_value m_most m_span m_size m_whose m_rangeFrom m_rangeMany m_parts v) (fun z => some (nI k + 1, 0, m_place, z.1, nI rg, nI ng, nI dp, r_flags, z.2.1, m_behind, m_notSet, m_least, m_greatest, z.2.2.1, z.2.2.2.1, z.2.2.2.2.1, z.2.2.2.2.2.1, z.2.2.2.2.2.2.1, z.2.2.2.2.2.2.2.1, z.2.2.2.2.2.2.2.2.1, z.2.2.2.2.2.2.2.2.2.1, m_begins, m_ends, m_names, m_nameSize, m_opened, m_number, m_flagsBefore, m_rows, z.2.2.2.2.2.2.2.2.2.2, m_low, m_high, m_many))) : StepOK N k (rN len B (0, i_place, s_pieces, nI nd, nI rg, nI R.length, nI ng, nI dp, e_kind, e_value, e_set, e_others, e_after, cl_single, q_numbered, q_flagsAlone, q_nameAt, q_nameLength, q_flags, q_after, p_least, p_most, p_marked, p_after, p_number, nI k, r_flags, r_repeatable, s_begins, s_ends, t_kinds, t_values, t_mosts, t_owners, t_sizes, t_firstRanges, t_rangeCounts, t_begins, t_ends, t_waiting, g_lengths, g_letters, o_places, o_numbers, o_flagsAround, o_rows, o_parts)) (mS n X lk tb tl tn (nI k, 0, m_place, nI nd, nI rg, nI ng, nI dp, r_flags, r_repeatable, m_behind, m_notSet, m_least, m_greatest, m_kind, m_value, m_most, m_span, m_size, m_whose, m_rangeFrom, m_rangeMany, m_begins, m_ends, m_names, m_nameSize, m_opened, m_number, m_flagsBefore, m_rows, m_parts, m_low, m_high, m_many)) := by
  have hN := h.le
  obtain ⟨s1, s2, s3, s4, s5⟩ := hS.small hN
  have hd := hS.dp_le
  obtain ⟨ow2, sz2, wt2, sp2, sz2', wh2, l1, l2, l3⟩ := leaf_eq hS.tr (by omega) 3 v 1 (by decide) (fun s' _ => size1 (Or.inr (Or.inr (Or.inr rfl))) s')
  rw [hcls, href]
  unfold f_RDR_addAssertion f_MOD_assertion
  have ek : nI k + 1 = nI (k + 1) := nI_1 k
  rw [ek, bnd_s l1, bnd_s l2]
  simp only
  rw [bnd_s (partC (by omega) _ _ _ _ _), bnd_s (partM (by omega) _ _)]
  exact ⟨_, _, rfl, rfl, Or.inr ⟨k + 1, by omega, rfl, rfl, nd + 1, rg, ng, dp, nd :: R, r, setN p dp (p dp + 1), ⟨rfl, rfl, rfl, rfl, rfl, rfl⟩, ⟨rfl, rfl, rfl, rfl, rfl, rfl, rfl⟩, ⟨xs, ys, hM⟩, hS.part l3 (by omega) (by omega) (by have := hS.rg_le; omega) hS.fl⟩⟩

set_option maxRecDepth 100000
set_option linter.unusedVariables false
/-- the end of a row -/
theorem row_eq {N k nd rg ng dp : Nat} {R : List Nat} {r p : Nat → Nat} {flags : Int32} {rep : Bool} {kn vl mo ow sz fr rc bg en wt lens lets pls nus fas rws pts kn' vl' mo' sp' sz' wh' rf' rm' bg' en' nms nsz opd num fbf rws' pts' : Ar}
    (h : RS N k nd rg ng dp R r p flags rep kn vl mo ow sz fr rc bg en wt lens lets pls nus fas rws pts kn' vl' mo' sp' sz' wh' rf' rm' bg' en' nms nsz opd num fbf rws' pts') (hN : N ≤ 400) (rep1 rep2 : Bool) :
    ∃ Q kn2 vl2 mo2 ow2 sz2 fr2 rc2 wt2 kn2' vl2' mo2' sp2' sz2' wh2' rf2' rm2', R.length = p dp + Q.length ∧
      f_RDR_endRow (nI nd) (nI rg) (nI R.length) (nI dp) rep1 kn vl mo ow sz fr rc wt rws pts = some (nI (nd + 1), nI (Q.length + 1), false, kn2, vl2, mo2, ow2, sz2, fr2, rc2, wt2, upd rws dp (nI (r dp + 1)), upd pts dp 0) ∧
      f_MOD_endRow (nI nd) (nI rg) (nI dp) rep2 kn' vl' mo' sp' sz' wh' rf' rm' rws' pts' = some (nI (nd + 1), false, kn2', vl2', mo2', sp2', sz2', wh2', rf2', rm2', upd rws' dp (nI (r dp + 1)), upd pts' dp 0) ∧
      TR (nd + 1) rg (nd :: Q) kn2 vl2 mo2 ow2 sz2 fr2 rc2 bg en wt2 kn2' vl2' mo2' sp2' sz2' wh2' rf2' rm2' bg' en' := by
  obtain ⟨s1, s2, s3, s4, s5⟩ := h.small hN
  have hd := h.dp_le
  obtain ⟨a1, a2, a3, a4⟩ := h.rw_ dp (Nat.le_refl _)
  have hsp : R = R.take (p dp) ++ R.drop (p dp) := (List.take_append_drop (p dp) R).symm
  have hlP : (R.take (p dp)).length = p dp := by rw [List.length_take]; omega
  have hlQ : R.length = p dp + (R.drop (p dp)).length := by rw [List.length_drop]; omega
  generalize R.take (p dp) = P at hsp hlP
  generalize R.drop (p dp) = Q at hsp hlQ
  have hrt := h.tr.rt
  rw [hsp] at hrt
  obtain ⟨s, w1, w2⟩ := wsize (sz := sz) hrt (by omega) h.tr.z
  have hsum := sumS_le h.tr.z (RT_lt hrt)
  rw [← hsp, hlP] at w1
  rw [hlP] at hsum
  obtain ⟨ow2, wt2, sp2, wh2, q1, q2, q3⟩ := over_eq h.tr (by omega) hsp 4 (nI (p dp)) (-1) s (by rw [w2]; omega) (fun s' hs' => ⟨s', rfl, by rw [hs', w2]⟩)
  rw [hlP] at q1 q2
  have gd : inb (nI dp) 31 = true := inb_nI (by omega) (by decide)
  have gd2 : inb (nI dp) 32 = true := inb_nI (by omega) (by decide)
  have ed : (nI dp).toNatClampNeg = dp := nI_clamp (by omega)
  refine ⟨Q, _, _, _, ow2, _, _, _, wt2, _, _, _, sp2, _, wh2, _, _, hlQ, ?_, ?_, q3⟩
  · unfold f_RDR_endRow
    rw [grd_t gd, ed, a3, bnd_s w1, bnd_s q1]
    simp only
    rw [grd_t gd, grd_t gd, grd_t gd, a1, nI_1]
  · unfold f_MOD_endRow
    rw [grd_t gd2, grd_t gd2, ed, a4, bnd_s q2]
    simp only
    rw [grd_t gd2, grd_t gd2, grd_t gd2, a2, nI_1]
/-- the end of the rows of a group: one node stands for them -/
theorem alts_eq {N k nd rg ng dp : Nat} {R : List Nat} {r p : Nat → Nat} {flags : Int32} {rep : Bool} {kn vl mo ow sz fr rc bg en wt lens lets pls nus fas rws pts kn' vl' mo' sp' sz' wh' rf' rm' bg' en' nms nsz opd num fbf rws' pts' : Ar}
    (h : RS N k nd rg ng dp R r p flags rep kn vl mo ow sz fr rc bg en wt lens lets pls nus fas rws pts kn' vl' mo' sp' sz' wh' rf' rm' bg' en' nms nsz opd num fbf rws' pts') (hN : N ≤ 400) (rep1 rep2 : Bool) :
    ∃ nd2 top Q kn2 vl2 mo2 ow2 sz2 fr2 rc2 wt2 kn2' vl2' mo2' sp2' sz2' wh2' rf2' rm2', nd + 1 ≤ nd2 ∧ nd2 ≤ nd + 2 ∧ R.length = p dp + r dp + Q.length ∧
      f_RDR_endAlternatives (nI nd) (nI rg) (nI R.length) (nI dp) rep1 kn vl mo ow sz fr rc wt rws pts = some (nI nd2, nI (Q.length + 1), false, kn2, vl2, mo2, ow2, sz2, fr2, rc2, wt2, upd rws dp (nI (r dp + 1)), upd pts dp 0) ∧
      f_MOD_endAlternatives (nI nd) (nI rg) (nI dp) rep2 kn' vl' mo' sp' sz' wh' rf' rm' rws' pts' = some (nI nd2, false, kn2', vl2', mo2', sp2', sz2', wh2', rf2', rm2', upd rws' dp (nI (r dp + 1)), upd pts' dp 0) ∧
      TR nd2 rg (top :: Q) kn2 vl2 mo2 ow2 sz2 fr2 rc2 bg en wt2 kn2' vl2' mo2' sp2' sz2' wh2' rf2' rm2' bg' en' := by
  obtain ⟨s1, s2, s3, s4, s5⟩ := h.small hN
  have hd := h.dp_le
  obtain ⟨Q, kn2, vl2, mo2, ow2, sz2, fr2, rc2, wt2, kn2', vl2', mo2', sp2', sz2', wh2', rf2', rm2', r0, r1, r2, r3⟩ := row_eq h hN rep1 rep2
  have gd : inb (nI dp) 31 = true := inb_nI (by omega) (by decide)
  have gd2 : inb (nI dp) 32 = true := inb_nI (by omega) (by decide)
  have ed : (nI dp).toNatClampNeg = dp := nI_clamp (by omega)
  unfold f_RDR_endAlternatives f_MOD_endAlternatives
  rw [bnd_s r1, bnd_s r2]
  simp only
  rw [grd_t gd, grd_t gd2, ed, upd_at, upd_at]
  by_cases c : r dp = 0
  · have e1 : nI (r dp + 1) ≤ 1 := by rw [c]; decide
    rw [if_pos e1, if_pos e1]
    refine ⟨nd + 1, nd, Q, kn2, vl2, mo2, ow2, sz2, fr2, rc2, wt2, kn2', vl2', mo2', sp2', sz2', wh2', rf2', rm2', by omega, by omega, by omega, rfl, rfl, r3⟩
  · have e1 : ¬ nI (r dp + 1) ≤ 1 := fun q => by have := (nI_leI (b := 1) (by omega) (by decide)).mp q; omega
    rw [if_neg e1, if_neg e1, grd_t gd2, grd_t gd2]
    have hl : (nd :: Q).length = Q.length + 1 := rfl
    have hsp : nd :: Q = (nd :: Q).take (r dp + 1) ++ (nd :: Q).drop (r dp + 1) := (List.take_append_drop (r dp + 1) (nd :: Q)).symm
    have hlP : ((nd :: Q).take (r dp + 1)).length = r dp + 1 := by rw [List.length_take, hl]; omega
    have hlQ : Q.length + 1 = (r dp + 1) + ((nd :: Q).drop (r dp + 1)).length := by rw [List.length_drop, hl]; omega
    generalize (nd :: Q).take (r dp + 1) = P at hsp hlP
    generalize (nd :: Q).drop (r dp + 1) = Q2 at hsp hlQ
    have hrt := r3.rt
    rw [hsp] at hrt
    obtain ⟨s, w1, w2⟩ := wsize (sz := sz2) hrt (by omega) r3.z
    have hsum := sumS_le r3.z (RT_lt hrt)
    rw [← hsp, hlP, hl] at w1
    rw [hlP] at hsum
    have en1 : (nI (r dp + 1)).toInt = ((r dp + 1 : Nat) : Int) := nI_toInt (by omega)
    have e5 : (s + nI (r dp + 1)).toInt = s.toInt + ((r dp + 1 : Nat) : Int) := by rw [ti_add (by rw [en1]; omega) (by rw [en1]; omega), en1]
    have e6 : (s + nI (r dp + 1) - 1).toInt = sumS sz2 P + (r dp : Int) := by
      rw [ti_sub (by rw [e5, ti1]; omega) (by rw [e5, ti1]; omega), e5, ti1, w2]; omega
    obtain ⟨ow3, wt3, sp3, wh3, q1, q2, q3⟩ := over_eq r3 (by omega) hsp 5 (nI (r dp + 1)) (-1) (s + nI (r dp + 1) - 1) (by rw [e6]; omega) (fun s' hs' => by
      refine ⟨s' + (nI (r dp + 1)).toInt64 - 1, rfl, ?_⟩
      have l1 : (1 : Int64).toInt = 1 := rfl
      have a1 : (s' + (nI (r dp + 1)).toInt64).toInt = s'.toInt + ((r dp + 1 : Nat) : Int) := by rw [tl_add (by rw [tl_i, en1]; omega) (by rw [tl_i, en1]; omega), tl_i, en1]
      rw [tl_sub (by rw [a1, l1]; omega) (by rw [a1, l1]; omega), a1, l1, e6, hs']; omega)
    rw [hlP, hl] at q1
    rw [hlP] at q2
    refine ⟨nd + 1 + 1, nd + 1, Q2, _, _, _, ow3, _, _, _, wt3, _, _, _, sp3, _, wh3, _, _, by omega, by omega, by omega, ?_, ?_, q3⟩
    · rw [bnd_s w1, bnd_s q1]
    · rw [bnd_s q2]

