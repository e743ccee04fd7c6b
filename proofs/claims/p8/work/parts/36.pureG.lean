set_option maxRecDepth 100000
set_option linter.unusedVariables false
/-- the digits from j on, at most m: how many, and the number -/
def drun (N : Nat) (B : Ar) : Nat → Nat → Int32 → Nat × Int32
  | 0, _, v => (0, v)
  | m + 1, j, v => if dgB (bt N B j) = true then ((drun N B m (j + 1) (v * 10 + bt N B j - 48)).1 + 1, (drun N B m (j + 1) (v * 10 + bt N B j - 48)).2) else (0, v)
theorem drun_s (N : Nat) (B : Ar) (m j : Nat) (v : Int32) : drun N B (m + 1) j v = if dgB (bt N B j) = true then ((drun N B m (j + 1) (v * 10 + bt N B j - 48)).1 + 1, (drun N B m (j + 1) (v * 10 + bt N B j - 48)).2) else (0, v) := rfl
theorem drun_le (N : Nat) (B : Ar) : ∀ m j v, (drun N B m j v).1 ≤ m ∧ ((drun N B m j v).1 < m → dgB (bt N B (j + (drun N B m j v).1)) = false) := by
  intro m
  induction m with
  | zero => intro j v; exact ⟨Nat.le_refl _, fun q => absurd q (Nat.not_lt_zero _)⟩
  | succ m ih =>
    intro j v
    rw [drun_s]
    by_cases c : dgB (bt N B j) = true
    · rw [if_pos c]
      obtain ⟨a, b⟩ := ih (j + 1) (v * 10 + bt N B j - 48)
      refine ⟨by simp only; omega, fun q => ?_⟩
      simp only at q ⊢
      rw [show j + ((drun N B m (j + 1) (v * 10 + bt N B j - 48)).1 + 1) = j + 1 + (drun N B m (j + 1) (v * 10 + bt N B j - 48)).1 from by omega]
      exact b (by omega)
    · rw [if_neg c]
      refine ⟨by simp only; omega, fun _ => ?_⟩
      simp only [Nat.add_zero]
      cases q : dgB (bt N B j) with
      | false => rfl
      | true => exact absurd q c
theorem drun_more (N : Nat) (B : Ar) : ∀ m j v, drun N B (m + 1) j v = if (drun N B m j v).1 = m ∧ dgB (bt N B (j + m)) = true then (m + 1, (drun N B m j v).2 * 10 + bt N B (j + m) - 48) else drun N B m j v := by
  intro m
  induction m with
  | zero =>
    intro j v
    rw [drun_s]
    by_cases c : dgB (bt N B j) = true
    · rw [if_pos c, if_pos ⟨rfl, c⟩]; rfl
    · rw [if_neg c, if_neg (fun q => c q.2)]; rfl
  | succ m ih =>
    intro j v
    rw [drun_s N B (m + 1) j v, drun_s N B m j v]
    by_cases c : dgB (bt N B j) = true
    · rw [if_pos c, if_pos c, ih (j + 1)]
      have e : j + 1 + m = j + (m + 1) := by omega
      rw [e]
      by_cases d : (drun N B m (j + 1) (v * 10 + bt N B j - 48)).1 = m ∧ dgB (bt N B (j + (m + 1))) = true
      · rw [if_pos d, if_pos ⟨by simp only; omega, d.2⟩]
      · rw [if_neg d, if_neg (fun q => d ⟨by have := q.1; simp only at this; omega, q.2⟩)]
    · rw [if_neg c, if_neg c]
      rw [if_neg (fun q => by have := q.1; simp only at this; omega)]
theorem dg_ti : ∀ i : Nat, i < 257 → dgB (nI i - 1) = true → 48 ≤ (nI i - 1).toInt ∧ (nI i - 1).toInt ≤ 57 := by decide +kernel
theorem drun_val {len n : Int32} {B X : Ar} {N : Nat} (h : TX len B n X N) : ∀ (m j : Nat) (v : Int32), 0 ≤ v.toInt → (v.toInt + 1) * 10 ^ m ≤ 1000000 → 0 ≤ (drun N B m j v).2.toInt := by
  intro m
  induction m with
  | zero => intro j v h0 _; exact h0
  | succ m ih =>
    intro j v h0 h1
    rw [drun_s]
    by_cases c : dgB (bt N B j) = true
    · rw [if_pos c]
      have hx : 48 ≤ (bt N B j).toInt ∧ (bt N B j).toInt ≤ 57 := by
        obtain ⟨i, hi, e⟩ := bt_fin h j
        rw [e] at c ⊢; exact dg_ti i hi c
      have p : (10 : Int) ^ (m + 1) = 10 ^ m * 10 := Int.pow_succ 10 m
      have pos : (1 : Int) ≤ 10 ^ m := by have : (0 : Int) < 10 ^ m := Int.pow_pos (by decide); omega
      have hv : (v.toInt + 1) * 10 ≤ 1000000 := by
        have : (v.toInt + 1) * 10 ≤ (v.toInt + 1) * (10 ^ m * 10) := Int.mul_le_mul_of_nonneg_left (by omega) (by omega)
        rw [p] at h1; omega
      have em : (v * 10).toInt = v.toInt * 10 := by
        rw [Int32.toInt_mul]
        show (v.toInt * 10).bmod _ = _
        exact Int.bmod_eq_of_le (by omega) (by omega)
      have ea : (v * 10 + bt N B j).toInt = v.toInt * 10 + (bt N B j).toInt := by
        rw [ti_add (by rw [em]; omega) (by rw [em]; omega), em]
      have t48 : (48 : Int32).toInt = 48 := rfl
      have es : (v * 10 + bt N B j - 48).toInt = v.toInt * 10 + (bt N B j).toInt - 48 := by
        rw [ti_sub (by rw [ea, t48]; omega) (by rw [ea, t48]; omega), ea, t48]
      refine ih (j + 1) _ (by rw [es]; omega) ?_
      rw [es]
      have : (v.toInt * 10 + (bt N B j).toInt - 48 + 1) * 10 ^ m ≤ ((v.toInt + 1) * 10) * 10 ^ m := Int.mul_le_mul_of_nonneg_right (by omega) (by omega)
      have e5 : (v.toInt + 1) * 10 * 10 ^ m = (v.toInt + 1) * (10 ^ m * 10) := by rw [Int.mul_assoc, Int.mul_comm 10 (10 ^ m)]
      rw [p] at h1; omega
    · rw [if_neg c]; exact h0
theorem numC3 {len n : Int32} {B X : Ar} {N : Nat} (h : TX len B n X N) : ∀ (m i j : Nat) (v : Int32) (F : Nat), i + m = 3 → j + m ≤ 2000 → f_REP_readNumber_L7 len B (F + m + 1) (nI i, nI j, v) = f_REP_readNumber_L71 len B (nI (i + (drun N B m j v).1)) (nI (j + (drun N B m j v).1)) (drun N B m j v).2 := by
  intro m
  induction m with
  | zero =>
    intro i j v F hi hj
    rw [f_REP_readNumber_L7_s]
    unfold f_REP_readNumber_B7
    have e : (3 : Int32) ≤ nI i := by have q : i = 3 := by omega
                                      rw [q]; decide
    rw [if_pos e]; rfl
  | succ m ih =>
    intro i j v F hi hj
    rw [f_REP_readNumber_L7_s]
    unfold f_REP_readNumber_B7
    have e : ¬ (3 : Int32) ≤ nI i := fun q => by have := (nI_leI (a := 3) (by decide) (by omega)).mp q; omega
    rw [if_neg e, bnd_s (at_C h (by omega)), bnd_s (wd_bt h j).2.1, drun_s]
    by_cases c : dgB (bt N B j) = true
    · have c2 : ¬ b2i (dgB (bt N B j)) = 0 := by rw [c]; decide
      rw [if_neg c2, if_pos c, bnd_s (at_C h (by omega)), nI_1, nI_1, show F + (m + 1) = F + m + 1 from rfl, ih (i + 1) (j + 1) _ F (by omega) (by omega)]
      simp only
      rw [show i + 1 + (drun N B m (j + 1) (v * 10 + bt N B j - 48)).1 = i + ((drun N B m (j + 1) (v * 10 + bt N B j - 48)).1 + 1) from by omega, show j + 1 + (drun N B m (j + 1) (v * 10 + bt N B j - 48)).1 = j + ((drun N B m (j + 1) (v * 10 + bt N B j - 48)).1 + 1) from by omega]
    · have c1 : dgB (bt N B j) = false := by cases q : dgB (bt N B j) with
        | false => rfl
        | true => exact absurd q c
      have c2 : b2i (dgB (bt N B j)) = 0 := by rw [c1]; decide
      rw [if_pos c2, if_neg c]; rfl
theorem mul10 (v : Int32) : 10 * v = v * 10 := Int32.mul_comm _ _
theorem numM16 {len n : Int32} {B X : Ar} {N : Nat} (h : TX len B n X N) (p1 bh gr : Int32) : ∀ (m i j : Nat) (v : Int32) (F : Nat), i + m = 4 → j + m ≤ 2000 → f_MOD_isRepeat_L16 n X p1 (F + m + 1) (nI j, nI i, bh, v, gr) = f_MOD_isRepeat_L61 n X p1 (nI (j + (drun N B m j v).1)) (nI (i + (drun N B m j v).1)) bh (drun N B m j v).2 gr := by
  intro m
  induction m with
  | zero =>
    intro i j v F hi hj
    rw [f_MOD_isRepeat_L16_s]
    unfold f_MOD_isRepeat_B16
    have e : (4 : Int32) ≤ nI i := by have q : i = 4 := by omega
                                      rw [q]; decide
    rw [bnd_s (at_M h (by omega)), bnd_s (wd_bt h j).2.2.2.1]
    by_cases c : b2i (dgB (bt N B j)) = 0
    · rw [if_pos c]; rfl
    · rw [if_neg c, if_pos e]; rfl
  | succ m ih =>
    intro i j v F hi hj
    rw [f_MOD_isRepeat_L16_s]
    unfold f_MOD_isRepeat_B16
    have e : ¬ (4 : Int32) ≤ nI i := fun q => by have := (nI_leI (a := 4) (by decide) (by omega)).mp q; omega
    rw [bnd_s (at_M h (by omega)), bnd_s (wd_bt h j).2.2.2.1, drun_s]
    by_cases c : dgB (bt N B j) = true
    · have c2 : ¬ b2i (dgB (bt N B j)) = 0 := by rw [c]; decide
      rw [if_neg c2, if_neg e, if_pos c, bnd_s (at_M h (by omega)), nI_1, nI_1, mul10, show F + (m + 1) = F + m + 1 from rfl, ih (i + 1) (j + 1) _ F (by omega) (by omega)]
      simp only
      rw [show i + 1 + (drun N B m (j + 1) (v * 10 + bt N B j - 48)).1 = i + ((drun N B m (j + 1) (v * 10 + bt N B j - 48)).1 + 1) from by omega, show j + 1 + (drun N B m (j + 1) (v * 10 + bt N B j - 48)).1 = j + ((drun N B m (j + 1) (v * 10 + bt N B j - 48)).1 + 1) from by omega]
    · have c1 : dgB (bt N B j) = false := by cases q : dgB (bt N B j) with
        | false => rfl
        | true => exact absurd q c
      have c2 : b2i (dgB (bt N B j)) = 0 := by rw [c1]; decide
      rw [if_pos c2, if_neg c]; rfl
theorem numM99 {len n : Int32} {B X : Ar} {N : Nat} (h : TX len B n X N) (p1 bh le gr : Int32) : ∀ (m i j : Nat) (v : Int32) (F : Nat), i + m = 4 → j + m ≤ 2000 → f_MOD_isRepeat_L99 n X p1 (F + m + 1) (nI j, nI i, v, bh, le, gr) = f_MOD_isRepeat_L140 n X p1 (nI (j + (drun N B m j v).1)) (nI (i + (drun N B m j v).1)) (drun N B m j v).2 bh le gr := by
  intro m
  induction m with
  | zero =>
    intro i j v F hi hj
    rw [f_MOD_isRepeat_L99_s]
    unfold f_MOD_isRepeat_B99
    have e : (4 : Int32) ≤ nI i := by have q : i = 4 := by omega
                                      rw [q]; decide
    rw [bnd_s (at_M h (by omega)), bnd_s (wd_bt h j).2.2.2.1]
    by_cases c : b2i (dgB (bt N B j)) = 0
    · rw [if_pos c]; rfl
    · rw [if_neg c, if_pos e]; rfl
  | succ m ih =>
    intro i j v F hi hj
    rw [f_MOD_isRepeat_L99_s]
    unfold f_MOD_isRepeat_B99
    have e : ¬ (4 : Int32) ≤ nI i := fun q => by have := (nI_leI (a := 4) (by decide) (by omega)).mp q; omega
    rw [bnd_s (at_M h (by omega)), bnd_s (wd_bt h j).2.2.2.1, drun_s]
    by_cases c : dgB (bt N B j) = true
    · have c2 : ¬ b2i (dgB (bt N B j)) = 0 := by rw [c]; decide
      rw [if_neg c2, if_neg e, if_pos c, bnd_s (at_M h (by omega)), nI_1, nI_1, mul10, show F + (m + 1) = F + m + 1 from rfl, ih (i + 1) (j + 1) _ F (by omega) (by omega)]
      simp only
      rw [show i + 1 + (drun N B m (j + 1) (v * 10 + bt N B j - 48)).1 = i + ((drun N B m (j + 1) (v * 10 + bt N B j - 48)).1 + 1) from by omega, show j + 1 + (drun N B m (j + 1) (v * 10 + bt N B j - 48)).1 = j + ((drun N B m (j + 1) (v * 10 + bt N B j - 48)).1 + 1) from by omega]
    · have c1 : dgB (bt N B j) = false := by cases q : dgB (bt N B j) with
        | false => rfl
        | true => exact absurd q c
      have c2 : b2i (dgB (bt N B j)) = 0 := by rw [c1]; decide
      rw [if_pos c2, if_neg c]; rfl
theorem numC {len n : Int32} {B X : Ar} {N : Nat} (h : TX len B n X N) {j : Nat} (hj : j ≤ 1900) (x : Int32) : f_REP_readNumber len (nI j) x B = some (decide (1 ≤ (drun N B 3 j 0).1), nI (j + (drun N B 3 j 0).1), (drun N B 3 j 0).2) := by
  have e : f_REP_readNumber len (nI j) x B = _ := numC3 h 3 0 j 0 999996 rfl (by omega)
  rw [e]
  have hle := (drun_le N B 3 j 0).1
  unfold f_REP_readNumber_L71
  rw [Nat.zero_add]
  by_cases c : 1 ≤ (drun N B 3 j 0).1
  · have c1 : ¬ nI (drun N B 3 j 0).1 ≤ 0 := fun q => by have := (nI_leI (b := 0) (by omega) (by decide)).mp q; omega
    rw [if_neg c1, decide_eq_true c]
  · have c1 : nI (drun N B 3 j 0).1 ≤ 0 := (nI_leI (b := 0) (by omega) (by decide)).mpr (by omega)
    rw [if_pos c1, decide_eq_false c]
theorem bounds_eq {len n : Int32} {B X : Ar} {N : Nat} (h : TX len B n X N) {k : Nat} (hk : k < N) (l0 m0 x0 b0 l1 m1 : Int32) :
    ∃ ok l m e x l' m' b', f_REP_readBounds len l0 m0 (nI (k + 1)) x0 B = some (ok, l, m, nI e, x) ∧ f_MOD_isRepeat n b0 l1 m1 X (nI k) = some (ok, b', l', m') ∧
      (ok = true → l = l' ∧ m = m' ∧ b' = nI e ∧ k < e ∧ e ≤ N ∧ 0 ≤ l.toInt ∧ (m = -1 ∨ 0 ≤ m.toInt)) := by
  have hN := h.le
  have e0 : nI k + 1 = nI (k + 1) := nI_1 k
  unfold f_REP_readBounds f_MOD_isRepeat
  have m16 : f_MOD_isRepeat_L16 n X (nI k) FU (nI (k + 1), 0, b0, 0, 0) = _ := numM16 h (nI k) b0 0 4 0 (k + 1) 0 999995 rfl (by omega)
  rw [e0, m16, bnd_s (numC h (by omega) _)]
  have dm := drun_more N B 3 (k + 1) 0
  obtain ⟨d1, d2⟩ := drun_le N B 3 (k + 1) 0
  have dv := drun_val h 3 (k + 1) 0 (by decide) (by decide)
  rw [dm]
  generalize (drun N B 3 (k + 1) 0) = D at *
  obtain ⟨c, v⟩ := D
  simp only at *
  have bF : b2i false = 0 := by decide
  have bT : ¬ b2i true = 0 := by decide
  -- the end, both
  have fin : ∀ (j : Nat) (l m x bh : Int32), j ≤ 1900 → k < j + 1 → 0 ≤ l.toInt → (m = -1 ∨ 0 ≤ m.toInt) → ∃ ok l2 m2 e x2 l' m' b', f_REP_readBounds_L70 len B l m (nI j) x = some (ok, l2, m2, nI e, x2) ∧ f_MOD_isRepeat_L161 n X (nI k) (nI j) bh l m = some (ok, b', l', m') ∧ (ok = true → l2 = l' ∧ m2 = m' ∧ b' = nI e ∧ k < e ∧ e ≤ N ∧ 0 ≤ l2.toInt ∧ (m2 = -1 ∨ 0 ≤ m2.toInt)) := by
    intro j l m x bh hj hkj hl hm
    unfold f_REP_readBounds_L70 f_MOD_isRepeat_L161
    have e1 : nI j + 1 - 1 = nI j := by rw [nI_1]; exact nI_pred j
    rw [e1, nI_1, bnd_s (at_C h (by omega)), bnd_s (at_M h (by omega))]
    by_cases q : bt N B j = 125
    · have hq : j < N := bt_in h (by rw [q]; decide)
      rw [if_pos q, if_pos q]
      exact ⟨true, l, m, j + 1, x, l, m, _, rfl, rfl, fun _ => ⟨rfl, rfl, rfl, by omega, by omega, hl, hm⟩⟩
    · rw [if_neg q, if_neg q]
      exact ⟨false, l, m, j + 1, x, l, m, _, rfl, rfl, (fun q => (by cases q))⟩
  by_cases c0 : c = 0
  · subst c0
    have q1 : decide (1 ≤ 0) = false := rfl
    have q2 : ¬ ((0 : Nat) = 3 ∧ dgB (bt N B (k + 1 + 3)) = true) := fun q => by have := q.1; omega
    rw [q1, if_pos bF, if_neg q2]
    unfold f_MOD_isRepeat_L61
    have q3 : nI (0 + 0) < 1 := by decide
    rw [if_pos q3]
    exact ⟨false, _, _, k + 1 + 0, _, _, _, _, rfl, rfl, (fun q => (by cases q))⟩
  · have q1 : decide (1 ≤ c) = true := decide_eq_true (by omega)
    rw [q1, if_neg bT, bnd_s (at_C h (by omega))]
    by_cases c4 : c = 3 ∧ dgB (bt N B (k + 1 + 3)) = true
    · rw [if_pos c4]
      obtain ⟨c3, dg⟩ := c4
      subst c3
      unfold f_MOD_isRepeat_L61
      have q3 : ¬ nI (0 + (3 + 1)) < 1 := by decide
      have q4 : ¬ nI (0 + (3 + 1)) ≤ 3 := by decide
      have q5 : ¬ bt N B (k + 1 + 3) = 44 := fun q => by rw [q] at dg; exact absurd dg (by decide)
      have q6 : ¬ bt N B (k + 1 + 3) = 125 := fun q => by rw [q] at dg; exact absurd dg (by decide)
      rw [if_neg q3, if_neg q4, if_neg q5]
      unfold f_REP_readBounds_L70
      have e1 : nI (k + 1 + 3) + 1 - 1 = nI (k + 1 + 3) := by rw [nI_1]; exact nI_pred _
      rw [e1, bnd_s (at_C h (by omega)), if_neg q6, nI_1]
      exact ⟨false, _, _, _, _, _, _, _, rfl, rfl, (fun q => (by cases q))⟩
    · rw [if_neg c4]
      unfold f_MOD_isRepeat_L61
      have q3 : ¬ nI (0 + c) < 1 := fun q => by have := (nI_ltI (b := 1) (by omega) (by decide)).mp q; omega
      have q4 : nI (0 + c) ≤ 3 := (nI_leI (b := 3) (by omega) (by decide)).mpr (by omega)
      rw [if_neg q3, if_pos q4, bnd_s (at_M h (by omega))]
      by_cases co : bt N B (k + 1 + c) = 44
      · have hco : k + 1 + c < N := bt_in h (by rw [co]; decide)
        rw [if_pos co, if_pos co, nI_1, bnd_s (numC h (by omega) _)]
        have m99 : f_MOD_isRepeat_L99 n X (nI k) FU (nI (k + 1 + c + 1), 0, 0, b0, v, v) = _ := numM99 h (nI k) b0 v v 4 0 (k + 1 + c + 1) 0 999995 rfl (by omega)
        rw [m99]
        have dm2 := drun_more N B 3 (k + 1 + c + 1) 0
        obtain ⟨f1, f2⟩ := drun_le N B 3 (k + 1 + c + 1) 0
        have fv := drun_val h 3 (k + 1 + c + 1) 0 (by decide) (by decide)
        rw [dm2]
        generalize (drun N B 3 (k + 1 + c + 1) 0) = D at *
        obtain ⟨c2, v2⟩ := D
        simp only at *
        by_cases g4 : c2 = 3 ∧ dgB (bt N B (k + 1 + c + 1 + 3)) = true
        · rw [if_pos g4]
          obtain ⟨g3, dg⟩ := g4
          subst g3
          have q7 : decide (1 ≤ 3) = true := rfl
          rw [q7, if_neg bT]
          unfold f_MOD_isRepeat_L140
          have q8 : ¬ nI (0 + (3 + 1)) ≤ 3 := by decide
          have q6 : ¬ bt N B (k + 1 + c + 1 + 3) = 125 := fun q => by rw [q] at dg; exact absurd dg (by decide)
          rw [if_neg q8]
          unfold f_REP_readBounds_L70
          have e1 : nI (k + 1 + c + 1 + 3) + 1 - 1 = nI (k + 1 + c + 1 + 3) := by rw [nI_1]; exact nI_pred _
          rw [e1, bnd_s (at_C h (by omega)), if_neg q6, nI_1]
          exact ⟨false, _, _, _, _, _, _, _, rfl, rfl, (fun q => (by cases q))⟩
        · rw [if_neg g4]
          unfold f_MOD_isRepeat_L140
          have q8 : nI (0 + c2) ≤ 3 := (nI_leI (b := 3) (by omega) (by decide)).mpr (by omega)
          rw [if_pos q8]
          by_cases c20 : c2 = 0
          · subst c20
            have q7 : decide (1 ≤ 0) = false := rfl
            have q9 : nI (0 + 0) = 0 := by decide
            rw [q7, if_pos bF, if_pos q9]
            exact fin _ _ _ _ _ (by omega) (by omega) dv (Or.inl rfl)
          · have q7 : decide (1 ≤ c2) = true := decide_eq_true (by omega)
            have q9 : ¬ nI (0 + c2) = 0 := fun q => by have := (nI_eq (b := 0) (by omega) (by decide)).mp q; omega
            rw [q7, if_neg bT, if_neg q9]
            exact fin _ _ _ _ _ (by omega) (by omega) dv (Or.inr fv)
      · rw [if_neg co, if_neg co]
        exact fin _ _ _ _ _ (by omega) (by omega) dv (Or.inr dv)

set_option maxRecDepth 100000
set_option linter.unusedVariables false
theorem RS.rep1 {N k nd rg ng dp : Nat} {R : List Nat} {r p : Nat → Nat} {flags : Int32} {rep : Bool} {kn vl mo ow sz fr rc bg en wt lens lets pls nus fas rws pts kn' vl' mo' sp' sz' wh' rf' rm' bg' en' nms nsz opd num fbf rws' pts' : Ar}
    (h : RS N k nd rg ng dp R r p flags rep kn vl mo ow sz fr rc bg en wt lens lets pls nus fas rws pts kn' vl' mo' sp' sz' wh' rf' rm' bg' en' nms nsz opd num fbf rws' pts') {Q : List Nat} {top k' : Nat} {kn2 vl2 mo2 ow2 sz2 fr2 rc2 wt2 kn2' vl2' mo2' sp2' sz2' wh2' rf2' rm2' : Ar} (hR : R = top :: Q) (hk : k < k') (hN : k' ≤ N)
    (ht : TR (nd + 1) rg (nd :: Q) kn2 vl2 mo2 ow2 sz2 fr2 rc2 bg en wt2 kn2' vl2' mo2' sp2' sz2' wh2' rf2' rm2' bg' en') :
    RS N k' (nd + 1) rg ng dp (nd :: Q) r p flags false kn2 vl2 mo2 ow2 sz2 fr2 rc2 bg en wt2 lens lets pls nus fas rws pts kn2' vl2' mo2' sp2' sz2' wh2' rf2' rm2' bg' en' nms nsz opd num fbf rws' pts' := by
  refine ⟨ht, hN, by have := h.nd_le; omega, by have := h.rg_le; omega, h.ng_le, h.dp_le, h.gr, h.gz, h.rw_, h.st, ?_, h.fl, (fun q => (by cases q))⟩
  have := h.rl
  rw [hR] at this
  exact this
theorem mul_b {a b : Int} (h0 : 0 ≤ a) (h1 : a ≤ 100) (h2 : 0 ≤ b) (h3 : b ≤ 1000000) : 0 ≤ a * b ∧ a * b ≤ 100000000 := by
  refine ⟨Int.mul_nonneg h0 h2, ?_⟩
  have q1 : a * b ≤ 100 * b := Int.mul_le_mul_of_nonneg_right h1 h2
  omega
theorem ti_mulb {a b : Int32} (h0 : 0 ≤ a.toInt) (h1 : a.toInt ≤ 100) (h2 : 0 ≤ b.toInt) (h3 : b.toInt ≤ 1000000) : (a * b).toInt = a.toInt * b.toInt := by
  obtain ⟨q1, q2⟩ := mul_b h0 h1 h2 h3
  rw [Int32.toInt_mul]
  exact Int.bmod_eq_of_le (by omega) (by omega)
theorem f8_all : ∀ a, a < 16 → (nI a &&& 8 = 0 ∧ ¬ nI a &&& 8 = 8) ∨ (¬ nI a &&& 8 = 0 ∧ nI a &&& 8 = 8) := by decide +kernel
theorem isOn8 {fl : Int32} (h : F15 fl) : ∃ b : Bool, f_RDR_isOn fl 8 = some b ∧ (b = true ↔ fl &&& 8 = 8) := by
  obtain ⟨a, ha, rfl⟩ := h
  unfold f_RDR_isOn
  rcases f8_all a ha with ⟨q1, q2⟩ | ⟨q1, q2⟩
  · rw [if_pos q1]; exact ⟨false, rfl, ⟨(fun q => (by cases q)), fun q => absurd q q2⟩⟩
  · rw [if_neg q1]; exact ⟨true, rfl, ⟨fun _ => q2, fun _ => rfl⟩⟩
theorem le_ti32 {a b : Int32} : a ≤ b ↔ a.toInt ≤ b.toInt := Int32.le_iff_toInt_le
theorem size_rep {l m s kd : Int32} (hkd : kd = 7 ∨ kd = 8) (h0 : 0 ≤ l.toInt) (h1 : l.toInt ≤ 100) (h2 : m = -1 ∨ (0 ≤ m.toInt ∧ m.toInt ≤ 100 ∧ l.toInt ≤ m.toInt)) (h3 : 0 ≤ s.toInt) (h4 : s.toInt ≤ 1000000) :
    ∃ size : Int32, f_REP_sizeOver l m s = some size ∧ (0 ≤ size.toInt ∧ size.toInt ≤ 2000000000) ∧ ∀ s' : Int64, s'.toInt = s.toInt → ∃ z : Int64, f_MOD_sizeOf kd l m s' = some z ∧ z.toInt = size.toInt := by
  have l1 : (1 : Int64).toInt = 1 := rfl
  have t1 : (1 : Int32).toInt = 1 := rfl
  have hkd2 : ∀ s' : Int64, f_MOD_sizeOf kd l m s' = if m = (-1) then some (((l.toInt64 * s') + s') + 1) else some (((m.toInt64 * s') + m.toInt64) - l.toInt64) := by
    intro s'
    rcases hkd with rfl | rfl <;> rfl
  unfold f_REP_sizeOver
  by_cases c : m = -1
  · rw [if_pos c]
    obtain ⟨b1, b2⟩ := mul_b h0 h1 h3 h4
    have e1 := ti_mulb h0 h1 h3 h4
    have e2 : (l * s + s).toInt = l.toInt * s.toInt + s.toInt := by rw [ti_add (by rw [e1]; omega) (by rw [e1]; omega), e1]
    have e3 : (l * s + s + 1).toInt = l.toInt * s.toInt + s.toInt + 1 := by rw [ti_add (by rw [e2, t1]; omega) (by rw [e2, t1]; omega), e2, t1]
    refine ⟨_, rfl, by rw [e3]; omega, fun s' hs => ⟨l.toInt64 * s' + s' + 1, by rw [hkd2, if_pos c], ?_⟩⟩
    have g1 : (l.toInt64 * s').toInt = l.toInt * s.toInt := by rw [tl_mul (by rw [tl_i, hs]; omega) (by rw [tl_i, hs]; omega), tl_i, hs]
    have g2 : (l.toInt64 * s' + s').toInt = l.toInt * s.toInt + s.toInt := by rw [tl_add (by rw [g1, hs]; omega) (by rw [g1, hs]; omega), g1, hs]
    rw [tl_add (by rw [g2, l1]; omega) (by rw [g2, l1]; omega), g2, l1, e3]
  · rw [if_neg c]
    obtain ⟨m0, m1, m2⟩ := h2.resolve_left c
    obtain ⟨b1, b2⟩ := mul_b m0 m1 h3 h4
    have e1 := ti_mulb m0 m1 h3 h4
    have e2 : (m * s + m).toInt = m.toInt * s.toInt + m.toInt := by rw [ti_add (by rw [e1]; omega) (by rw [e1]; omega), e1]
    have e3 : (m * s + m - l).toInt = m.toInt * s.toInt + m.toInt - l.toInt := by rw [ti_sub (by rw [e2]; omega) (by rw [e2]; omega), e2]
    refine ⟨_, rfl, by rw [e3]; omega, fun s' hs => ⟨m.toInt64 * s' + m.toInt64 - l.toInt64, by rw [hkd2, if_neg c], ?_⟩⟩
    have g1 : (m.toInt64 * s').toInt = m.toInt * s.toInt := by rw [tl_mul (by rw [tl_i, hs]; omega) (by rw [tl_i, hs]; omega), tl_i, hs]
    have g2 : (m.toInt64 * s' + m.toInt64).toInt = m.toInt * s.toInt + m.toInt := by rw [tl_add (by rw [g1, tl_i]; omega) (by rw [g1, tl_i]; omega), g1, tl_i]
    rw [tl_sub (by rw [g2, tl_i]; omega) (by rw [g2, tl_i]; omega), g2, tl_i, e3]
theorem rep_core {len n : Int32} {B X : Ar} {N : Nat} (h : TX len B n X N) {lk tb tl tn : Ar} (hT : TB lk tb tl tn) {k : Nat} (hk : k < N) {nd rg ng dp : Nat} {R : List Nat} {r p : Nat → Nat} {xs ys : PL} {i_place : Int32} {s_pieces : Int32} {e_kind : Int32} {e_value : Int32} {e_set : Nat} {e_others : Bool} {e_after : Int32} {cl_single : Int32} {q_numbered : Bool} {q_flagsAlone : Bool} {q_nameAt : Int32} {q_nameLength : Int32} {q_flags : Int32} {q_after : Int32} {r_flags : Int32} {r_repeatable : Bool} {s_begins : Nat → Int32} {s_ends : Nat → Int32} {t_kinds : Nat → Int32} {t_values : Nat → Int32} {t_mosts : Nat → Int32} {t_owners : Nat → Int32} {t_sizes : Nat → Int32} {t_firstRanges : Nat → Int32} {t_rangeCounts : Nat → Int32} {t_begins : Nat → Int32} {t_ends : Nat → Int32} {t_waiting : Nat → Int32} {g_lengths : Nat → Int32} {g_letters : Nat → Int32} {o_places : Nat → Int32} {o_numbers : Nat → Int32} {o_flagsAround : Nat → Int32} {o_rows : Nat → Int32} {o_parts : Nat → Int32} {m_place : Int32} {m_notSet : Bool} {m_kind : Nat → Int32} {m_value : Nat → Int32} {m_most : Nat → Int32} {m_span : Nat → Int32} {m_size : Nat → Int32} {m_whose : Nat → Int32} {m_rangeFrom : Nat → Int32} {m_rangeMany : Nat → Int32} {m_begins : Nat → Int32} {m_ends : Nat → Int32} {m_names : Nat → Int32} {m_nameSize : Nat → Int32} {m_opened : Nat → Int32} {m_number : Nat → Int32} {m_flagsBefore : Nat → Int32} {m_rows : Nat → Int32} {m_parts : Nat → Int32} {m_low : Nat → Int32} {m_high : Nat → Int32} {m_many : Nat → Int32} (hM : MS m_low m_high m_many xs ys) (hS : RS N k nd rg ng dp R r p r_flags r_repeatable t_kinds t_values t_mosts t_owners t_sizes t_firstRanges t_rangeCounts t_begins t_ends t_waiting g_lengths g_letters o_places o_numbers o_flagsAround o_rows o_parts m_kind m_value m_most m_span m_size m_whose m_rangeFrom m_rangeMany m_begins m_ends m_names m_nameSize m_opened m_number m_flagsBefore m_rows m_parts) (l m x ch : Int32) (mk : Bool) (e0 e : Nat) (he0 : k < e0) (he1 : e0 ≤ N) (hl : 0 ≤ l.toInt) (hm : m = -1 ∨ 0 ≤ m.toInt) (hmk : mk = true ↔ bt N B e0 = 63) (he : e = if mk = true then e0 + 1 else e0) (hr : r_repeatable = true) :
    StepOK N k (bnd_ (f_RDR_addRepeat 0 i_place (nI nd) (nI rg) (nI R.length) l m mk (nI e) (nI k) r_flags r_repeatable t_kinds t_values t_mosts t_owners t_sizes t_firstRanges t_rangeCounts t_waiting) (fun y => some (y.1, y.2.1, s_pieces, y.2.2.1, nI rg, y.2.2.2.1, nI ng, nI dp, e_kind, e_value, e_set, e_others, e_after, cl_single, q_numbered, q_flagsAlone, q_nameAt, q_nameLength, q_flags, q_after, l, m, mk, nI e, x, y.2.2.2.2.1, r_flags, y.2.2.2.2.2.1, s_begins, s_ends, y.2.2.2.2.2.2.1, y.2.2.2.2.2.2.2.1, y.2.2.2.2.2.2.2.2.1, y.2.2.2.2.2.2.2.2.2.1, y.2.2.2.2.2.2.2.2.2.2.1, y.2.2.2.2.2.2.2.2.2.2.2.1, y.2.2.2.2.2.2.2.2.2.2.2.2.1, t_begins, t_ends, y.2.2.2.2.2.2.2.2.2.2.2.2.2, g_lengths, g_letters, o_places, o_numbers, o_flagsAround, o_rows, o_parts))) (bnd_ (f_MOD_repeat_L64 n (nI rg) r_flags X ch (nI k) 0 m_place (nI nd) r_repeatable (nI e0) l m m_kind m_value m_most m_span m_size m_whose m_rangeFrom m_rangeMany) (fun z => some (z.1, z.2.1, z.2.2.1, z.2.2.2.1, nI rg, nI ng, nI dp, r_flags, z.2.2.2.2.1, z.2.2.2.2.2.1, m_notSet, z.2.2.2.2.2.2.1, z.2.2.2.2.2.2.2.1, z.2.2.2.2.2.2.2.2.1, z.2.2.2.2.2.2.2.2.2.1, z.2.2.2.2.2.2.2.2.2.2.1, z.2.2.2.2.2.2.2.2.2.2.2.1, z.2.2.2.2.2.2.2.2.2.2.2.2.1, z.2.2.2.2.2.2.2.2.2.2.2.2.2.1, z.2.2.2.2.2.2.2.2.2.2.2.2.2.2.1, z.2.2.2.2.2.2.2.2.2.2.2.2.2.2.2, m_begins, m_ends, m_names, m_nameSize, m_opened, m_number, m_flagsBefore, m_rows, m_parts, m_low, m_high, m_many))) := by
  have hN := h.le
  have hd := hS.dp_le
  obtain ⟨s1, s2, s3, s4, s5⟩ := hS.small hN
  have hp := hS.rp hr
  have bF : b2i false = 0 := by decide
  have bT : ¬ b2i true = 0 := by decide
  unfold f_RDR_addRepeat f_MOD_repeat_L64 f_REP_hasBadTimes f_MOD_repeat_L101
  subst hr
  rw [if_neg bT]
  by_cases a1 : 100 < l
  · rw [if_pos a1, if_pos a1, bnd_s (rfl : some _ = some _), if_neg bT]
    exact ⟨_, _, rfl, rfl, Or.inl ⟨(by decide : (9 : Int32) ≠ 0), (by decide : (0 : Int32) < 9), ⟨dp, rfl, hS.dp_le⟩, xs, ys, hM⟩⟩
  rw [if_neg a1, if_neg a1]
  by_cases a2 : 100 < m
  · rw [if_pos a2, if_pos a2, bnd_s (rfl : some _ = some _), if_neg bT]
    exact ⟨_, _, rfl, rfl, Or.inl ⟨(by decide : (9 : Int32) ≠ 0), (by decide : (0 : Int32) < 9), ⟨dp, rfl, hS.dp_le⟩, xs, ys, hM⟩⟩
  rw [if_neg a2, if_neg a2]
  have t100 : (100 : Int32).toInt = 100 := rfl
  have l100 : l.toInt ≤ 100 := by
    rcases Int.lt_or_le 100 l.toInt with q | q
    · exact absurd (Int32.lt_iff_toInt_lt.mpr (by rw [t100]; exact q)) a1
    · exact q
  have m100 : m.toInt ≤ 100 := by
    rcases Int.lt_or_le 100 m.toInt with q | q
    · exact absurd (Int32.lt_iff_toInt_lt.mpr (by rw [t100]; exact q)) a2
    · exact q
  obtain ⟨on, o1, o2⟩ := isOn8 (F15_of hS.fl)
  obtain ⟨top, Q, hR⟩ : ∃ top Q, R = top :: Q := by
    cases R with
    | nil => exfalso; simp only [List.length_nil] at s5; omega
    | cons a b => exact ⟨a, b, rfl⟩
  subst hR
  have hrt : RT t_waiting m_span nd ([top] ++ Q) := hS.tr.rt
  obtain ⟨s, w1, w2⟩ := wsize (sz := t_sizes) hrt (by omega) hS.tr.z
  have hsum := sumS_le hS.tr.z (RT_lt hrt)
  have hsl : 0 ≤ sumS t_sizes [top] ∧ sumS t_sizes [top] ≤ 1000000 := by have := hsum; simp at this; omega
  have w1' : f_TRE_waitingSize (nI (top :: Q).length) t_sizes t_waiting 1 = some s := w1
  have good : (m = -1 ∨ (0 ≤ m.toInt ∧ m.toInt ≤ 100 ∧ l.toInt ≤ m.toInt)) → StepOK N k (bnd_ (bnd_ (f_RDR_isOn r_flags 8) (fun x55 => if (b2i mk) = (b2i x55) then f_RDR_addRepeat_L68 (nI rg) l m mk (nI e) r_flags 7 0 i_place (nI nd) (nI (top :: Q).length) (nI k) true t_kinds t_values t_mosts t_owners t_sizes t_firstRanges t_rangeCounts t_waiting else f_RDR_addRepeat_L68 (nI rg) l m mk (nI e) r_flags 8 0 i_place (nI nd) (nI (top :: Q).length) (nI k) true t_kinds t_values t_mosts t_owners t_sizes t_firstRanges t_rangeCounts t_waiting)) (fun y => some (y.1, y.2.1, s_pieces, y.2.2.1, nI rg, y.2.2.2.1, nI ng, nI dp, e_kind, e_value, e_set, e_others, e_after, cl_single, q_numbered, q_flagsAlone, q_nameAt, q_nameLength, q_flags, q_after, l, m, mk, nI e, x, y.2.2.2.2.1, r_flags, y.2.2.2.2.2.1, s_begins, s_ends, y.2.2.2.2.2.2.1, y.2.2.2.2.2.2.2.1, y.2.2.2.2.2.2.2.2.1, y.2.2.2.2.2.2.2.2.2.1, y.2.2.2.2.2.2.2.2.2.2.1, y.2.2.2.2.2.2.2.2.2.2.2.1, y.2.2.2.2.2.2.2.2.2.2.2.2.1, t_begins, t_ends, y.2.2.2.2.2.2.2.2.2.2.2.2.2, g_lengths, g_letters, o_places, o_numbers, o_flagsAround, o_rows, o_parts))) (bnd_ (f_MOD_repeat_L112 n (nI rg) r_flags X ch (nI k) 0 m_place (nI nd) true (nI e0) l m m_kind m_value m_most m_span m_size m_whose m_rangeFrom m_rangeMany) (fun z => some (z.1, z.2.1, z.2.2.1, z.2.2.2.1, nI rg, nI ng, nI dp, r_flags, z.2.2.2.2.1, z.2.2.2.2.2.1, m_notSet, z.2.2.2.2.2.2.1, z.2.2.2.2.2.2.2.1, z.2.2.2.2.2.2.2.2.1, z.2.2.2.2.2.2.2.2.2.1, z.2.2.2.2.2.2.2.2.2.2.1, z.2.2.2.2.2.2.2.2.2.2.2.1, z.2.2.2.2.2.2.2.2.2.2.2.2.1, z.2.2.2.2.2.2.2.2.2.2.2.2.2.1, z.2.2.2.2.2.2.2.2.2.2.2.2.2.2.1, z.2.2.2.2.2.2.2.2.2.2.2.2.2.2.2, m_begins, m_ends, m_names, m_nameSize, m_opened, m_number, m_flagsBefore, m_rows, m_parts, m_low, m_high, m_many))) := by
    intro hm2
    have fin : ∀ kd : Int32, (kd = 7 ∨ kd = 8) → StepOK N k (bnd_ (f_RDR_addRepeat_L68 (nI rg) l m mk (nI e) r_flags kd 0 i_place (nI nd) (nI (top :: Q).length) (nI k) true t_kinds t_values t_mosts t_owners t_sizes t_firstRanges t_rangeCounts t_waiting) (fun y => some (y.1, y.2.1, s_pieces, y.2.2.1, nI rg, y.2.2.2.1, nI ng, nI dp, e_kind, e_value, e_set, e_others, e_after, cl_single, q_numbered, q_flagsAlone, q_nameAt, q_nameLength, q_flags, q_after, l, m, mk, nI e, x, y.2.2.2.2.1, r_flags, y.2.2.2.2.2.1, s_begins, s_ends, y.2.2.2.2.2.2.1, y.2.2.2.2.2.2.2.1, y.2.2.2.2.2.2.2.2.1, y.2.2.2.2.2.2.2.2.2.1, y.2.2.2.2.2.2.2.2.2.2.1, y.2.2.2.2.2.2.2.2.2.2.2.1, y.2.2.2.2.2.2.2.2.2.2.2.2.1, t_begins, t_ends, y.2.2.2.2.2.2.2.2.2.2.2.2.2, g_lengths, g_letters, o_places, o_numbers, o_flagsAround, o_rows, o_parts))) (bnd_ (f_MOD_repeat_L182 n (nI rg) r_flags X ch kd (nI e) 0 m_place (nI nd) true (nI e0) l m m_kind m_value m_most m_span m_size m_whose m_rangeFrom m_rangeMany) (fun z => some (z.1, z.2.1, z.2.2.1, z.2.2.2.1, nI rg, nI ng, nI dp, r_flags, z.2.2.2.2.1, z.2.2.2.2.2.1, m_notSet, z.2.2.2.2.2.2.1, z.2.2.2.2.2.2.2.1, z.2.2.2.2.2.2.2.2.1, z.2.2.2.2.2.2.2.2.2.1, z.2.2.2.2.2.2.2.2.2.2.1, z.2.2.2.2.2.2.2.2.2.2.2.1, z.2.2.2.2.2.2.2.2.2.2.2.2.1, z.2.2.2.2.2.2.2.2.2.2.2.2.2.1, z.2.2.2.2.2.2.2.2.2.2.2.2.2.2.1, z.2.2.2.2.2.2.2.2.2.2.2.2.2.2.2, m_begins, m_ends, m_names, m_nameSize, m_opened, m_number, m_flagsBefore, m_rows, m_parts, m_low, m_high, m_many))) := by
      intro kd hkd
      obtain ⟨size, z1, z2, z3⟩ := size_rep (kd := kd) hkd hl l100 hm2 (s := s) (by rw [w2]; exact hsl.1) (by rw [w2]; exact hsl.2)
      obtain ⟨ow3, wt3, sp3, wh3, q1, q2, q3⟩ := over_eq (P := [top]) (Q := Q) hS.tr (by omega) rfl kd l m size z2 (fun s' hs' => z3 s' (by rw [hs', w2]))
      have q1' : f_TRE_addOver (nI nd) (nI rg) (nI (top :: Q).length) t_kinds t_values t_mosts t_owners t_sizes t_firstRanges t_rangeCounts t_waiting 1 kd l m size = _ := q1
      have q2' : f_MOD_make (nI nd) (nI rg) m_kind m_value m_most m_span m_size m_whose m_rangeFrom m_rangeMany kd l m 1 = _ := q2
      unfold f_RDR_addRepeat_L68 f_MOD_repeat_L182
      rw [bnd_s w1', bnd_s z1, bnd_s q1', bnd_s q2']
      have hek : k < e ∧ e ≤ N := by
        rw [he]
        cases mk with
        | true => have := bt_in h (by rw [hmk.mp rfl]; decide); rw [if_pos rfl]; omega
        | false => rw [if_neg (by decide)]; omega
      exact ⟨_, _, rfl, rfl, Or.inr ⟨e, hek.1, rfl, rfl, nd + 1, rg, ng, dp, nd :: Q, r, p, ⟨rfl, rfl, rfl, rfl, rfl, rfl⟩, ⟨rfl, rfl, rfl, rfl, rfl, rfl, rfl⟩, ⟨xs, ys, hM⟩, hS.rep1 rfl hek.1 hek.2 q3⟩⟩
    rw [bnd_s o1]
    unfold f_MOD_repeat_L112
    rw [bnd_s (at_M h (by omega))]
    unfold f_MOD_repeat_L138 f_MOD_repeat_L153 f_MOD_repeat_L172
    cases mk with
    | true =>
      have c1 : bt N B e0 = 63 := hmk.mp rfl
      have ee : nI e0 + 1 = nI e := by rw [he, if_pos rfl, nI_1]
      rw [if_pos c1, if_neg bT, ee]
      cases on with
      | true =>
        rw [if_pos rfl, if_pos (o2.mp rfl), if_pos rfl]
        exact fin 7 (Or.inl rfl)
      | false =>
        have n1 : ¬ b2i true = b2i false := by decide
        have n2 : ¬ r_flags &&& 8 = 8 := fun q => by have := o2.mpr q; cases this
        rw [if_neg n1, if_neg n2, if_neg n1]
        exact fin 8 (Or.inr rfl)
    | false =>
      have c1 : ¬ bt N B e0 = 63 := fun q => by have := hmk.mpr q; cases this
      have ee : nI e0 = nI e := by rw [he, if_neg (by decide)]
      rw [if_neg c1, if_pos bF]
      cases on with
      | true =>
        have n1 : ¬ b2i false = b2i true := by decide
        rw [if_neg n1, if_pos (o2.mp rfl), if_neg n1, ee]
        have := fin 8 (Or.inr rfl)
        rw [ee] at this
        exact this
      | false =>
        have n2 : ¬ r_flags &&& 8 = 8 := fun q => by have := o2.mpr q; cases this
        rw [if_pos rfl, if_neg n2, if_pos rfl, ee]
        have := fin 7 (Or.inl rfl)
        rw [ee] at this
        exact this
  by_cases a3 : m = -1
  · rw [if_pos a3, if_pos a3, bnd_s (rfl : some _ = some _), if_pos bF]
    exact good (Or.inl a3)
  rw [if_neg a3, if_neg a3]
  by_cases a4 : l ≤ m
  · rw [if_pos a4, if_pos a4, bnd_s (rfl : some _ = some _), if_pos bF]
    exact good (Or.inr ⟨hm.resolve_left a3, m100, le_ti32.mp a4⟩)
  · rw [if_neg a4, if_neg a4, bnd_s (rfl : some _ = some _), if_neg bT]
    exact ⟨_, _, rfl, rfl, Or.inl ⟨(by decide : (9 : Int32) ≠ 0), (by decide : (0 : Int32) < 9), ⟨dp, rfl, hS.dp_le⟩, xs, ys, hM⟩⟩

set_option maxRecDepth 100000
set_option linter.unusedVariables false
theorem f1_all : ∀ a, a < 16 → (nI a &&& 1 = 0 ∧ ¬ nI a &&& 1 = 1) ∨ (¬ nI a &&& 1 = 0 ∧ nI a &&& 1 = 1) := by decide +kernel
theorem isOn1 {fl : Int32} (h : F15 fl) : ∃ b : Bool, f_RDR_isOn fl 1 = some b ∧ (b = true ↔ fl &&& 1 = 1) ∧ (b = false ↔ fl &&& 1 = 0) := by
  obtain ⟨a, ha, rfl⟩ := h
  unfold f_RDR_isOn
  rcases f1_all a ha with ⟨q1, q2⟩ | ⟨q1, q2⟩
  · rw [if_pos q1]; exact ⟨false, rfl, ⟨(fun q => (by cases q)), fun q => absurd q q2⟩, ⟨fun _ => q1, fun _ => rfl⟩⟩
  · rw [if_neg q1]; exact ⟨true, rfl, ⟨fun _ => q2, fun _ => rfl⟩, ⟨(fun q => (by cases q)), fun q => absurd q q1⟩⟩
theorem f2_all : ∀ a, a < 16 → (nI a &&& 2 = 0 ∧ ¬ nI a &&& 2 = 2) ∨ (¬ nI a &&& 2 = 0 ∧ nI a &&& 2 = 2) := by decide +kernel
theorem isOn2 {fl : Int32} (h : F15 fl) : ∃ b : Bool, f_RDR_isOn fl 2 = some b ∧ (b = true ↔ fl &&& 2 = 2) ∧ (b = false ↔ fl &&& 2 = 0) := by
  obtain ⟨a, ha, rfl⟩ := h
  unfold f_RDR_isOn
  rcases f2_all a ha with ⟨q1, q2⟩ | ⟨q1, q2⟩
  · rw [if_pos q1]; exact ⟨false, rfl, ⟨(fun q => (by cases q)), fun q => absurd q q2⟩, ⟨fun _ => q1, fun _ => rfl⟩⟩
  · rw [if_neg q1]; exact ⟨true, rfl, ⟨fun _ => q2, fun _ => rfl⟩, ⟨(fun q => (by cases q)), fun q => absurd q q1⟩⟩
theorem f4_all : ∀ a, a < 16 → (nI a &&& 4 = 0 ∧ ¬ nI a &&& 4 = 4) ∨ (¬ nI a &&& 4 = 0 ∧ nI a &&& 4 = 4) := by decide +kernel
theorem isOn4 {fl : Int32} (h : F15 fl) : ∃ b : Bool, f_RDR_isOn fl 4 = some b ∧ (b = true ↔ fl &&& 4 = 4) ∧ (b = false ↔ fl &&& 4 = 0) := by
  obtain ⟨a, ha, rfl⟩ := h
  unfold f_RDR_isOn
  rcases f4_all a ha with ⟨q1, q2⟩ | ⟨q1, q2⟩
  · rw [if_pos q1]; exact ⟨false, rfl, ⟨(fun q => (by cases q)), fun q => absurd q q2⟩, ⟨fun _ => q1, fun _ => rfl⟩⟩
  · rw [if_neg q1]; exact ⟨true, rfl, ⟨fun _ => q2, fun _ => rfl⟩, ⟨(fun q => (by cases q)), fun q => absurd q q1⟩⟩
theorem gap_rep {y z : Int} (h : rep y = rep z) (hy : y < 55296 ∨ 57343 < y) : z < 55296 ∨ 57343 < z := by
  rcases rep_cases h with q | q | q
  · omega
  · unfold mate at q; omega
  · unfold kin at q; omega
theorem chset {lk : Ar} (hlk : ∀ j, j < 36 → lk j = likeT j) {low high mn : Ar} {ys : PL} (hM : MS low high mn [] ys) (sb se : Ar) {flags : Int32} {alike : Bool} (hfl : alike = true ↔ flags &&& 1 = 1) (c : Int32) (hc : isCh c.toInt) :
    ∃ sp' sb' se' xs' l' h' m' ys', (alike = false → f_SET_add 0 sb se c c = some (sp', sb', se')) ∧ (alike = true → f_SET_addWithAlike 0 sb se c c = some (sp', sb', se')) ∧ CSet sp' sb' se' xs' ∧ f_MOD_take flags low high mn lk c c = some (l', h', m') ∧ MS l' h' m' xs' ys' ∧
      keepL xs' = xs' ∧ memL xs' c.toInt ∧ xs'.length ≤ 8 ∧ (c.toInt < 128 → xs'.length ≤ 4) := by
  obtain ⟨h0, h2, hg⟩ := hc
  have hC : CSet 0 sb se [] := ⟨rfl, trivial, trivial, fun p hp => (by cases hp)⟩
  obtain ⟨l', h', m', ys', t1, t2, t3, t4, t5⟩ := mod_take hlk hM (by decide) flags c c h0 (Int.le_refl _) h2
  have kp : ∀ {xs : PL}, canL xs → okL xs → (∀ z, memL xs z → z < 55296 ∨ 57343 < z) → keepL xs = xs := fun a b d => canL_uniq _ _ (keepL_can a b).1 a (fun z => by
    rw [keepL_mem b]; exact ⟨fun q => q.1, fun q => ⟨q, d z q⟩⟩)
  cases alike with
  | false =>
    have hf : flags &&& 1 ≠ 1 := fun q => by have := hfl.mpr q; cases this
    have e := t5 hf
    subst e
    obtain ⟨b', e', q1, q2⟩ := set_add hC.c (by decide) hC.s h0 (Int.le_refl _) h2
    have q2' : CSet (nI 1) b' e' [(c.toInt, c.toInt)] := ⟨rfl, q2, ins_can _ _ _ (Int.le_refl _) hC.c, ins_ok _ _ _ (Int.le_refl _) h0 h2 hC.o⟩
    refine ⟨_, b', e', [(c.toInt, c.toInt)], l', h', m', _, fun _ => q1, (fun q => (by cases q)), q2', t1, t2, kp q2'.c q2'.o (fun z hz => ?_), memL_one.mpr ⟨Int.le_refl _, Int.le_refl _⟩, by simp, fun _ => by simp⟩
    have := memL_one.mp hz
    omega
  | true =>
    have hf : flags &&& 1 = 1 := hfl.mp rfl
    have hA := t4 hf
    obtain ⟨n', b', e', xs', q1, q2, q3⟩ := cs_alike hC (by decide) c c h0 (Int.le_refl _) h2
    have q3' : ∀ z, memL xs' z ↔ AL c.toInt c.toInt z := fun z => by rw [q3 z]; exact ⟨fun q => q.resolve_left memL_nil, Or.inr⟩
    have eq : xs' = foldIns [] ys' := by
      refine canL_uniq _ _ q2.c t2.c0 (fun z => ?_)
      rw [q3 z, foldIns_mem ys' [] z t2.o1 hC.c, hA z]
    rw [← eq] at t2
    have l1 := al_len1 q2.c q3'
    refine ⟨n', b', e', xs', l', h', m', ys', (fun q => (by cases q)), fun _ => q1, q2, t1, t2, kp q2.c q2.o (fun z hz => ?_), (q3' _).mpr ⟨c.toInt, Int.le_refl _, Int.le_refl _, rfl⟩, l1.2, l1.1⟩
    obtain ⟨y, y1, y2, y3⟩ := (q3' z).mp hz
    exact gap_rep y3 (by omega)
theorem char_node {len n : Int32} {B X : Ar} {N : Nat} (h : TX len B n X N) {lk tb tl tn : Ar} (hT : TB lk tb tl tn) {k : Nat} (hk : k < N) {nd rg ng dp : Nat} {R : List Nat} {r p : Nat → Nat} {xs ys : PL} {s_pieces : Int32} {r_flags : Int32} {r_repeatable : Bool} {s_begins : Nat → Int32} {s_ends : Nat → Int32} {t_kinds : Nat → Int32} {t_values : Nat → Int32} {t_mosts : Nat → Int32} {t_owners : Nat → Int32} {t_sizes : Nat → Int32} {t_firstRanges : Nat → Int32} {t_rangeCounts : Nat → Int32} {t_begins : Nat → Int32} {t_ends : Nat → Int32} {t_waiting : Nat → Int32} {g_lengths : Nat → Int32} {g_letters : Nat → Int32} {o_places : Nat → Int32} {o_numbers : Nat → Int32} {o_flagsAround : Nat → Int32} {o_rows : Nat → Int32} {o_parts : Nat → Int32} {m_kind : Nat → Int32} {m_value : Nat → Int32} {m_most : Nat → Int32} {m_span : Nat → Int32} {m_size : Nat → Int32} {m_whose : Nat → Int32} {m_rangeFrom : Nat → Int32} {m_rangeMany : Nat → Int32} {m_begins : Nat → Int32} {m_ends : Nat → Int32} {m_names : Nat → Int32} {m_nameSize : Nat → Int32} {m_opened : Nat → Int32} {m_number : Nat → Int32} {m_flagsBefore : Nat → Int32} {m_rows : Nat → Int32} {m_parts : Nat → Int32} {m_low : Nat → Int32} {m_high : Nat → Int32} {m_many : Nat → Int32} (hM : MS m_low m_high m_many xs ys) (hS : RS N k nd rg ng dp R r p r_flags r_repeatable t_kinds t_values t_mosts t_owners t_sizes t_firstRanges t_rangeCounts t_begins t_ends t_waiting g_lengths g_letters o_places o_numbers o_flagsAround o_rows o_parts m_kind m_value m_most m_span m_size m_whose m_rangeFrom m_rangeMany m_begins m_ends m_names m_nameSize m_opened m_number m_flagsBefore m_rows m_parts) (c : Int32) (hc : isCh c.toInt) (hrg : rg + 8 ≤ 1600 ∨ (c.toInt < 128 ∧ rg + 4 ≤ 1600)) (rep1 : Bool) :
    ∃ (sp2 : Int32) (sb2 se2 : Ar) (rg2 : Nat) (kn2 vl2 mo2 ow2 sz2 fr2 rc2 bg2 en2 wt2 kn2' vl2' mo2' sp2' sz2' wh2' rf2' rm2' bg2' en2' low2 high2 mn2 : Ar) (xs2 ys2 : PL), f_RDR_addCharacter s_pieces (nI nd) (nI rg) (nI R.length) r_flags s_begins s_ends t_kinds t_values t_mosts t_owners t_sizes t_firstRanges t_rangeCounts t_begins t_ends t_waiting c = some (sp2, nI (nd + 1), nI rg2, nI (R.length + 1), sb2, se2, kn2, vl2, mo2, ow2, sz2, fr2, rc2, bg2, en2, wt2) ∧
      f_MOD_character (nI nd) (nI rg) (nI dp) r_flags rep1 m_kind m_value m_most m_span m_size m_whose m_rangeFrom m_rangeMany m_begins m_ends m_parts m_low m_high m_many lk c = some (nI (nd + 1), nI rg2, true, kn2', vl2', mo2', sp2', sz2', wh2', rf2', rm2', bg2', en2', upd m_parts dp (m_parts dp + 1), low2, high2, mn2) ∧ MS low2 high2 mn2 xs2 ys2 ∧ rg2 ≤ rg + 8 ∧ (c.toInt < 128 → rg2 ≤ rg + 4) ∧ TR (nd + 1) rg2 (nd :: R) kn2 vl2 mo2 ow2 sz2 fr2 rc2 bg2 en2 wt2 kn2' vl2' mo2' sp2' sz2' wh2' rf2' rm2' bg2' en2' := by
  have hN := h.le
  have hd := hS.dp_le
  obtain ⟨s1, s2, s3, s4, s5⟩ := hS.small hN
  have bF : b2i false = 0 := by decide
  have bT : ¬ b2i true = 0 := by decide
  obtain ⟨on, o1, o2, _⟩ := isOn1 (F15_of hS.fl)
  obtain ⟨m1, m2⟩ := hM.empty0
  obtain ⟨sp', sb', se', xs', l', h', m', ys', q1, q2, q3, q4, q5, q6, q7, q8, q9⟩ := chset hT.lk m2 s_begins s_ends o2 c hc
  have L36 : ∃ (rg2 : Nat) (kn2 vl2 mo2 ow2 sz2 fr2 rc2 bg2 en2 wt2 kn2' vl2' mo2' sp2' sz2' wh2' rf2' rm2' bg2' en2' : Ar), f_RDR_addCharacter_L36 r_flags c sp' (nI nd) (nI rg) (nI R.length) sb' se' t_kinds t_values t_mosts t_owners t_sizes t_firstRanges t_rangeCounts t_begins t_ends t_waiting = some (sp', nI (nd + 1), nI rg2, nI (R.length + 1), sb', se', kn2, vl2, mo2, ow2, sz2, fr2, rc2, bg2, en2, wt2) ∧
      f_MOD_character (nI nd) (nI rg) (nI dp) r_flags rep1 m_kind m_value m_most m_span m_size m_whose m_rangeFrom m_rangeMany m_begins m_ends m_parts m_low m_high m_many lk c = some (nI (nd + 1), nI rg2, true, kn2', vl2', mo2', sp2', sz2', wh2', rf2', rm2', bg2', en2', upd m_parts dp (m_parts dp + 1), l', h', m') ∧ rg2 ≤ rg + xs'.length ∧ TR (nd + 1) rg2 (nd :: R) kn2 vl2 mo2 ow2 sz2 fr2 rc2 bg2 en2 wt2 kn2' vl2' mo2' sp2' sz2' wh2' rf2' rm2' bg2' en2' := by
    have cls : ∃ (rg2 : Nat) (kn2 vl2 mo2 ow2 sz2 fr2 rc2 bg2 en2 wt2 kn2' vl2' mo2' sp2' sz2' wh2' rf2' rm2' bg2' en2' : Ar), f_TRE_addClass sp' (nI nd) (nI rg) (nI R.length) sb' se' t_kinds t_values t_mosts t_owners t_sizes t_firstRanges t_rangeCounts t_begins t_ends t_waiting = some (nI (nd + 1), nI rg2, nI (R.length + 1), kn2, vl2, mo2, ow2, sz2, fr2, rc2, bg2, en2, wt2) ∧ f_MOD_classNode (nI nd) (nI rg) (nI dp) rep1 m_kind m_value m_most m_span m_size m_whose m_rangeFrom m_rangeMany m_begins m_ends m_parts l' h' m' = some (nI (nd + 1), nI rg2, true, kn2', vl2', mo2', sp2', sz2', wh2', rf2', rm2', bg2', en2', upd m_parts dp (m_parts dp + 1)) ∧ rg2 ≤ rg + xs'.length ∧ TR (nd + 1) rg2 (nd :: R) kn2 vl2 mo2 ow2 sz2 fr2 rc2 bg2 en2 wt2 kn2' vl2' mo2' sp2' sz2' wh2' rf2' rm2' bg2' en2' := by
      have hC : CSet sp' sb' se' (keepL xs') := by rw [q6]; exact q3
      have hlen : (keepL xs').length = xs'.length := by rw [q6]
      have hrl : rg + (keepL xs').length ≤ 1600 := by
        rw [hlen]
        rcases hrg with q | ⟨qa, qb⟩
        · omega
        · have := q9 qa; omega
      obtain ⟨ow2, wt2, sp2, wh2, sz2, sz2', fr2, rf2, rc2, rm2, bg2, en2, bg2', en2', g1, g2, g3⟩ := classNode_eq hS.tr (by omega) hC q5 hrl (by rw [hlen]; omega) (dep := dp) (by omega) rep1 m_parts
      exact ⟨_, _, _, _, _, _, _, _, _, _, _, _, _, _, _, _, _, _, _, _, _, g1, g2, by omega, g3⟩
    unfold f_RDR_addCharacter_L36 f_SET_isOneCharacter f_MOD_character
    rw [bnd_s m1, bnd_s q4]
    simp only
    have i0 : inb 0 2 = true := by decide
    have i1 : inb 0 1200 = true := by decide
    have i2 : inb 0 1024 = true := by decide
    have z0 : (0 : Int32).toNatClampNeg = 0 := rfl
    rw [grd_t i0, grd_t i1, grd_t i1, grd_t i2, grd_t i2, z0, q5.m0, q3.n]
    cases xs' with
    | nil => exact absurd q7 memL_nil
    | cons pr tl =>
      obtain ⟨x, y⟩ := pr
      cases tl with
      | nil =>
        have e1 : nI [(x, y)].length = 1 := rfl
        have e2 : ¬ (1 : Int32) < nI [(x, y)].length := by rw [e1]; decide
        obtain ⟨b1, b2, _⟩ := q3.s
        obtain ⟨d1, d2, _⟩ := q5.s0
        rw [if_neg e2, if_pos e1]
        by_cases cc : x = y
        · have c1 : sb' 0 = se' 0 := ti_eq.mpr (by rw [b1, b2, cc])
          have c2 : l' 0 = h' 0 := ti_eq.mpr (by rw [d1, d2, cc])
          obtain ⟨ow2, sz2, wt2, sp2, sz2', wh2, l1, l2, l3⟩ := leaf_eq hS.tr (by omega) 0 c 1 (by decide) (fun s' _ => size1 (Or.inl rfl) s')
          rw [if_pos c1, if_pos c2, bnd_s (rfl : some true = some true), if_neg bT, bnd_s l1, bnd_s l2, bnd_s (partM (by omega) _ _)]
          exact ⟨rg, _, _, _, _, _, _, _, _, _, _, _, _, _, _, _, _, _, _, _, _, rfl, rfl, by omega, l3⟩
        · have c1 : ¬ sb' 0 = se' 0 := fun q => cc (by rw [← b1, ← b2, q])
          have c2 : ¬ l' 0 = h' 0 := fun q => cc (by rw [← d1, ← d2, q])
          obtain ⟨rg2, kn2, vl2, mo2, ow2, sz2, fr2, rc2, bg2, en2, wt2, kn2', vl2', mo2', sp2', sz2', wh2', rf2', rm2', bg2', en2', g1, g2, g3, g4⟩ := cls
          rw [if_neg c1, if_neg c2, bnd_s (rfl : some false = some false), if_pos bF]
          unfold f_MOD_character_L36
          rw [← q3.n, bnd_s g1, bnd_s g2]
          exact ⟨rg2, kn2, vl2, mo2, ow2, sz2, fr2, rc2, bg2, en2, wt2, kn2', vl2', mo2', sp2', sz2', wh2', rf2', rm2', bg2', en2', rfl, rfl, g3, g4⟩
      | cons p2 t2 =>
        have el : ((x, y) :: p2 :: t2).length = t2.length + 2 := rfl
        have e1 : ¬ nI ((x, y) :: p2 :: t2).length = 1 := fun q => by have := (nI_eq (b := 1) (by omega) (by decide)).mp q; omega
        have e2 : (1 : Int32) < nI ((x, y) :: p2 :: t2).length := (nI_ltI (a := 1) (by decide) (by omega)).mpr (by omega)
        obtain ⟨rg2, kn2, vl2, mo2, ow2, sz2, fr2, rc2, bg2, en2, wt2, kn2', vl2', mo2', sp2', sz2', wh2', rf2', rm2', bg2', en2', g1, g2, g3, g4⟩ := cls
        rw [if_pos e2, if_neg e1, bnd_s (rfl : some false = some false), if_pos bF]
        unfold f_MOD_character_L36
        rw [← q3.n, bnd_s g1, bnd_s g2]
        exact ⟨rg2, kn2, vl2, mo2, ow2, sz2, fr2, rc2, bg2, en2, wt2, kn2', vl2', mo2', sp2', sz2', wh2', rf2', rm2', bg2', en2', rfl, rfl, g3, g4⟩
  obtain ⟨rg2, kn2, vl2, mo2, ow2, sz2, fr2, rc2, bg2, en2, wt2, kn2', vl2', mo2', sp2', sz2', wh2', rf2', rm2', bg2', en2', g1, g2, g3, g4⟩ := L36
  refine ⟨sp', sb', se', rg2, kn2, vl2, mo2, ow2, sz2, fr2, rc2, bg2, en2, wt2, kn2', vl2', mo2', sp2', sz2', wh2', rf2', rm2', bg2', en2', l', h', m', xs', ys', ?_, g2, q5, by omega, fun q => by have := q9 q; omega, g4⟩
  unfold f_RDR_addCharacter
  rw [bnd_s (rfl : f_SET_clear s_pieces = some 0), bnd_s o1]
  cases on with
  | false => rw [if_pos bF, bnd_s (q1 rfl)]; exact g1
  | true => rw [if_neg bT, bnd_s (q2 rfl)]; exact g1

set_option maxRecDepth 100000
set_option linter.unusedVariables false
theorem spk_len : ∀ s, s < 14 → ∀ o : Bool, (keepL (if o then compl 0 (sp s) else sp s)).length ≤ 11 ∧ (s ≤ 4 → (keepL (if o then compl 0 (sp s) else sp s)).length ≤ 6) ∧ (s ≤ 1 → (keepL (if o then compl 0 (sp s) else sp s)).length ≤ 4) := by decide
theorem fixed_node {len n : Int32} {B X : Ar} {N : Nat} (h : TX len B n X N) {lk tb tl tn : Ar} (hT : TB lk tb tl tn) {k : Nat} (hk : k < N) {nd rg ng dp : Nat} {R : List Nat} {r p : Nat → Nat} {xs ys : PL} {s_pieces : Int32} {r_flags : Int32} {r_repeatable : Bool} {s_begins : Nat → Int32} {s_ends : Nat → Int32} {t_kinds : Nat → Int32} {t_values : Nat → Int32} {t_mosts : Nat → Int32} {t_owners : Nat → Int32} {t_sizes : Nat → Int32} {t_firstRanges : Nat → Int32} {t_rangeCounts : Nat → Int32} {t_begins : Nat → Int32} {t_ends : Nat → Int32} {t_waiting : Nat → Int32} {g_lengths : Nat → Int32} {g_letters : Nat → Int32} {o_places : Nat → Int32} {o_numbers : Nat → Int32} {o_flagsAround : Nat → Int32} {o_rows : Nat → Int32} {o_parts : Nat → Int32} {m_kind : Nat → Int32} {m_value : Nat → Int32} {m_most : Nat → Int32} {m_span : Nat → Int32} {m_size : Nat → Int32} {m_whose : Nat → Int32} {m_rangeFrom : Nat → Int32} {m_rangeMany : Nat → Int32} {m_begins : Nat → Int32} {m_ends : Nat → Int32} {m_names : Nat → Int32} {m_nameSize : Nat → Int32} {m_opened : Nat → Int32} {m_number : Nat → Int32} {m_flagsBefore : Nat → Int32} {m_rows : Nat → Int32} {m_parts : Nat → Int32} {m_low : Nat → Int32} {m_high : Nat → Int32} {m_many : Nat → Int32} (hM : MS m_low m_high m_many xs ys) (hS : RS N k nd rg ng dp R r p r_flags r_repeatable t_kinds t_values t_mosts t_owners t_sizes t_firstRanges t_rangeCounts t_begins t_ends t_waiting g_lengths g_letters o_places o_numbers o_flagsAround o_rows o_parts m_kind m_value m_most m_span m_size m_whose m_rangeFrom m_rangeMany m_begins m_ends m_names m_nameSize m_opened m_number m_flagsBefore m_rows m_parts) {low high mn : Ar} {s : Nat} (hs : s < 14) (o : Bool) (hM1 : MS low high mn [] (sp s)) (hrg : rg + (keepL (if o then compl 0 (sp s) else sp s)).length ≤ 1600) (rep1 : Bool) :
    ∃ (sp2 : Int32) (sb2 se2 : Ar) (rg2 : Nat) (kn2 vl2 mo2 ow2 sz2 fr2 rc2 bg2 en2 wt2 kn2' vl2' mo2' sp2' sz2' wh2' rf2' rm2' bg2' en2' low2 high2 mn2 : Ar) (xs2 : PL), f_RDR_addFixedSet s_pieces (nI nd) (nI rg) (nI R.length) s_begins s_ends t_kinds t_values t_mosts t_owners t_sizes t_firstRanges t_rangeCounts t_begins t_ends t_waiting s o = some (sp2, nI (nd + 1), nI rg2, nI (R.length + 1), sb2, se2, kn2, vl2, mo2, ow2, sz2, fr2, rc2, bg2, en2, wt2) ∧ f_MOD_give low high mn o = some (low2, high2, mn2) ∧
      f_MOD_classNode (nI nd) (nI rg) (nI dp) rep1 m_kind m_value m_most m_span m_size m_whose m_rangeFrom m_rangeMany m_begins m_ends m_parts low2 high2 mn2 = some (nI (nd + 1), nI rg2, true, kn2', vl2', mo2', sp2', sz2', wh2', rf2', rm2', bg2', en2', upd m_parts dp (m_parts dp + 1)) ∧ MS low2 high2 mn2 xs2 (sp s) ∧ rg2 = rg + (keepL (if o then compl 0 (sp s) else sp s)).length ∧ TR (nd + 1) rg2 (nd :: R) kn2 vl2 mo2 ow2 sz2 fr2 rc2 bg2 en2 wt2 kn2' vl2' mo2' sp2' sz2' wh2' rf2' rm2' bg2' en2' := by
  have hN := h.le
  have hd := hS.dp_le
  obtain ⟨s1, s2, s3, s4, s5⟩ := hS.small hN
  have hC : CSet 0 s_begins s_ends [] := ⟨rfl, trivial, trivial, fun p hp => (by cases hp)⟩
  obtain ⟨n', b', e', xs', q1, q2, q3, q4⟩ := cs_set hC (by decide) s hs o
  obtain ⟨c1, c2⟩ := spo_can s hs o
  have hsl := (sp_can s hs).1
  have hln := (sp_len s hs o).1
  have gv : ∃ l' h' m', f_MOD_give low high mn o = some (l', h', m') ∧ MS l' h' m' (foldIns [] (if o then compl 0 (sp s) else sp s)) (sp s) := by
    cases o with
    | false => exact mod_give0 hM1 (by simp only [List.length_nil]; omega)
    | true => exact mod_give1 hM1 (by simp only [List.length_nil]; omega)
  obtain ⟨l', h', m', g1, g2⟩ := gv
  have eq1 : xs' = (if o then compl 0 (sp s) else sp s) := canL_uniq _ _ q2.c c1 (fun z => by rw [q4 z]; exact ⟨fun q => q.resolve_left memL_nil, Or.inr⟩)
  have eq2 : foldIns [] (if o then compl 0 (sp s) else sp s) = (if o then compl 0 (sp s) else sp s) := canL_uniq _ _ g2.c0 c1 (fun z => by rw [foldIns_mem _ [] z c2 hC.c]; exact ⟨fun q => q.resolve_left memL_nil, Or.inr⟩)
  rw [eq2] at g2
  have hk11 := (spk_len s hs o).1
  obtain ⟨n2, b2, e2, f1, f2⟩ := cs_finish q2 (by simp only [List.length_nil] at q3; omega) false
  have f2' : CSet n2 b2 e2 (keepL (if o then compl 0 (sp s) else sp s)) := by rw [← eq1]; exact f2
  obtain ⟨ow2, wt2, sp2, wh2, sz2, sz2', fr2, rf2, rc2, rm2, bg2, en2, bg2', en2', k1, k2, k3⟩ := classNode_eq hS.tr (by omega) f2' g2 hrg (by omega) (dep := dp) (by omega) rep1 m_parts
  refine ⟨n2, b2, e2, _, _, _, _, _, _, _, _, _, _, _, _, _, _, _, _, _, _, _, _, _, l', h', m', _, ?_, g1, k2, g2, rfl, k3⟩
  unfold f_RDR_addFixedSet
  rw [bnd_s (rfl : f_SET_clear s_pieces = some 0), bnd_s q1, bnd_s f1, bnd_s k1]
theorem wid_ge (z : Int) : 1 ≤ wid z ∧ (128 ≤ z → 2 ≤ wid z) := by
  unfold wid
  by_cases a : z < 128
  · rw [if_pos a]; omega
  rw [if_neg a]
  by_cases b : z < 2048
  · rw [if_pos b]; omega
  rw [if_neg b]
  by_cases c : z < 65536
  · rw [if_pos c]; omega
  rw [if_neg c]; omega
theorem br_char {len n : Int32} {B X : Ar} {N : Nat} (h : TX len B n X N) {lk tb tl tn : Ar} (hT : TB lk tb tl tn) {k : Nat} (hk : k < N) {nd rg ng dp : Nat} {R : List Nat} {r p : Nat → Nat} {xs ys : PL} {i_place : Int32} {s_pieces : Int32} {e_kind : Int32} {e_value : Int32} {e_set : Nat} {e_others : Bool} {e_after : Int32} {cl_single : Int32} {q_numbered : Bool} {q_flagsAlone : Bool} {q_nameAt : Int32} {q_nameLength : Int32} {q_flags : Int32} {q_after : Int32} {p_least : Int32} {p_most : Int32} {p_marked : Bool} {p_after : Int32} {p_number : Int32} {r_flags : Int32} {r_repeatable : Bool} {s_begins : Nat → Int32} {s_ends : Nat → Int32} {t_kinds : Nat → Int32} {t_values : Nat → Int32} {t_mosts : Nat → Int32} {t_owners : Nat → Int32} {t_sizes : Nat → Int32} {t_firstRanges : Nat → Int32} {t_rangeCounts : Nat → Int32} {t_begins : Nat → Int32} {t_ends : Nat → Int32} {t_waiting : Nat → Int32} {g_lengths : Nat → Int32} {g_letters : Nat → Int32} {o_places : Nat → Int32} {o_numbers : Nat → Int32} {o_flagsAround : Nat → Int32} {o_rows : Nat → Int32} {o_parts : Nat → Int32} {m_place : Int32} {m_behind : Int32} {m_notSet : Bool} {m_least : Int32} {m_greatest : Int32} {m_kind : Nat → Int32} {m_value : Nat → Int32} {m_most : Nat → Int32} {m_span : Nat → Int32} {m_size : Nat → Int32} {m_whose : Nat → Int32} {m_rangeFrom : Nat → Int32} {m_rangeMany : Nat → Int32} {m_begins : Nat → Int32} {m_ends : Nat → Int32} {m_names : Nat → Int32} {m_nameSize : Nat → Int32} {m_opened : Nat → Int32} {m_number : Nat → Int32} {m_flagsBefore : Nat → Int32} {m_rows : Nat → Int32} {m_parts : Nat → Int32} {m_low : Nat → Int32} {m_high : Nat → Int32} {m_many : Nat → Int32} (hM : MS m_low m_high m_many xs ys) (hS : RS N k nd rg ng dp R r p r_flags r_repeatable t_kinds t_values t_mosts t_owners t_sizes t_firstRanges t_rangeCounts t_begins t_ends t_waiting g_lengths g_letters o_places o_numbers o_flagsAround o_rows o_parts m_kind m_value m_most m_span m_size m_whose m_rangeFrom m_rangeMany m_begins m_ends m_names m_nameSize m_opened m_number m_flagsBefore m_rows m_parts) (ch : Int32) (n1 : ¬ ch = 94) (n2 : ¬ ch = 36) (n3 : ¬ ch = 46) : StepOK N k (bnd_ (f_RDR_readCharacter len 0 i_place s_pieces (nI nd) (nI rg) (nI R.length) (nI dp) (nI k) r_flags r_repeatable B s_begins s_ends t_kinds t_values t_mosts t_owners t_sizes t_firstRanges t_rangeCounts t_begins t_ends t_waiting o_parts) (fun y => some (y.1, y.2.1, y.2.2.1, y.2.2.2.1, y.2.2.2.2.1, y.2.2.2.2.2.1, nI ng, nI dp, e_kind, e_value, e_set, e_others, e_after, cl_single, q_numbered, q_flagsAlone, q_nameAt, q_nameLength, q_flags, q_after, p_least, p_most, p_marked, p_after, p_number, y.2.2.2.2.2.2.1, r_flags, y.2.2.2.2.2.2.2.1, y.2.2.2.2.2.2.2.2.1, y.2.2.2.2.2.2.2.2.2.1, y.2.2.2.2.2.2.2.2.2.2.1, y.2.2.2.2.2.2.2.2.2.2.2.1, y.2.2.2.2.2.2.2.2.2.2.2.2.1, y.2.2.2.2.2.2.2.2.2.2.2.2.2.1, y.2.2.2.2.2.2.2.2.2.2.2.2.2.2.1, y.2.2.2.2.2.2.2.2.2.2.2.2.2.2.2.1, y.2.2.2.2.2.2.2.2.2.2.2.2.2.2.2.2.1, y.2.2.2.2.2.2.2.2.2.2.2.2.2.2.2.2.2.1, y.2.2.2.2.2.2.2.2.2.2.2.2.2.2.2.2.2.2.1, y.2.2.2.2.2.2.2.2.2.2.2.2.2.2.2.2.2.2.2.1, g_lengths, g_letters, o_places, o_numbers, o_flagsAround, o_rows, y.2.2.2.2.2.2.2.2.2.2.2.2.2.2.2.2.2.2.2.2))) (bnd_ (f_MOD_plain n (nI k) 0 m_place (nI nd) (nI rg) (nI dp) r_flags r_repeatable m_behind X m_kind m_value m_most m_span m_size m_whose m_rangeFrom m_rangeMany m_begins m_ends m_parts m_low m_high m_many lk ch) (fun z => some (z.1, z.2.1, z.2.2.1, z.2.2.2.1, z.2.2.2.2.1, nI ng, nI dp, r_flags, z.2.2.2.2.2.1, z.2.2.2.2.2.2.1, m_notSet, m_least, m_greatest, z.2.2.2.2.2.2.2.1, z.2.2.2.2.2.2.2.2.1, z.2.2.2.2.2.2.2.2.2.1, z.2.2.2.2.2.2.2.2.2.2.1, z.2.2.2.2.2.2.2.2.2.2.2.1, z.2.2.2.2.2.2.2.2.2.2.2.2.1, z.2.2.2.2.2.2.2.2.2.2.2.2.2.1, z.2.2.2.2.2.2.2.2.2.2.2.2.2.2.1, z.2.2.2.2.2.2.2.2.2.2.2.2.2.2.2.1, z.2.2.2.2.2.2.2.2.2.2.2.2.2.2.2.2.1, m_names, m_nameSize, m_opened, m_number, m_flagsBefore, m_rows, z.2.2.2.2.2.2.2.2.2.2.2.2.2.2.2.2.2.1, z.2.2.2.2.2.2.2.2.2.2.2.2.2.2.2.2.2.2.1, z.2.2.2.2.2.2.2.2.2.2.2.2.2.2.2.2.2.2.2.1, z.2.2.2.2.2.2.2.2.2.2.2.2.2.2.2.2.2.2.2.2))) := by
  have hN := h.le
  have hd := hS.dp_le
  obtain ⟨s1, s2, s3, s4, s5⟩ := hS.small hN
  unfold f_RDR_readCharacter f_MOD_plain
  obtain ⟨c, bh', c1, c2, c3⟩ := chr_eq h (k := k) (by omega) m_behind
  rw [if_neg n1, if_neg n2, if_neg n3, bnd_s c1, bnd_s c2]
  rcases c3 with e | ⟨hc, eb, hle⟩
  · have z0 : ¬ (0 : Int32) ≤ c := by rw [e]; decide
    rw [if_pos e]
    simp only
    rw [if_neg z0]
    exact ⟨_, _, rfl, rfl, Or.inl ⟨(by decide : (1 : Int32) ≠ 0), (by decide : (0 : Int32) < 1), ⟨dp, rfl, hS.dp_le⟩, xs, ys, hM⟩⟩
  · have e : ¬ c = -1 := fun q => by rw [q] at hc; exact absurd hc.1 (by decide)
    have z0 : (0 : Int32) ≤ c := le_ti32.mpr hc.1
    rw [if_neg e]
    simp only
    rw [if_pos z0, eb]
    obtain ⟨w1, w2⟩ := wid_ge c.toInt
    have hrg : rg + 8 ≤ 1600 ∨ (c.toInt < 128 ∧ rg + 4 ≤ 1600) := by
      have := hS.rg_le
      rcases Int.lt_or_le c.toInt 128 with q | q
      · exact Or.inr ⟨q, by omega⟩
      · have := w2 q; exact Or.inl (by omega)
    obtain ⟨sp2, sb2, se2, rg2, kn2, vl2, mo2, ow2, sz2, fr2, rc2, bg2, en2, wt2, kn2', vl2', mo2', sp2', sz2', wh2', rf2', rm2', bg2', en2', low2, high2, mn2, xs2, ys2, g1, g2, g3, g4, g5, g6⟩ := char_node h hT hk hM hS c hc hrg r_repeatable
    have hrl : rg2 ≤ 4 * (k + wid c.toInt) := by
      have := hS.rg_le
      rcases Int.lt_or_le c.toInt 128 with q | q
      · have := g5 q; omega
      · have := w2 q; omega
    rw [bnd_s g1, bnd_s g2, bnd_s (wid_val c), nI_add]
    simp only
    rw [bnd_s (partC (by omega) _ _ _ _ _)]
    exact ⟨_, _, rfl, rfl, Or.inr ⟨k + wid c.toInt, by omega, rfl, rfl, nd + 1, rg2, ng, dp, nd :: R, r, setN p dp (p dp + 1), ⟨rfl, rfl, rfl, rfl, rfl, rfl⟩, ⟨rfl, rfl, rfl, rfl, rfl, rfl, rfl⟩, ⟨xs2, ys2, g3⟩, hS.part g6 (by omega) (by omega) hrl hS.fl⟩⟩
theorem sp0 : sp 0 = [] := by decide
theorem sp1 : sp 1 = [(10, 10)] := by decide
theorem br_any {len n : Int32} {B X : Ar} {N : Nat} (h : TX len B n X N) {lk tb tl tn : Ar} (hT : TB lk tb tl tn) {k : Nat} (hk : k < N) {nd rg ng dp : Nat} {R : List Nat} {r p : Nat → Nat} {xs ys : PL} {i_place : Int32} {s_pieces : Int32} {e_kind : Int32} {e_value : Int32} {e_set : Nat} {e_others : Bool} {e_after : Int32} {cl_single : Int32} {q_numbered : Bool} {q_flagsAlone : Bool} {q_nameAt : Int32} {q_nameLength : Int32} {q_flags : Int32} {q_after : Int32} {p_least : Int32} {p_most : Int32} {p_marked : Bool} {p_after : Int32} {p_number : Int32} {r_flags : Int32} {r_repeatable : Bool} {s_begins : Nat → Int32} {s_ends : Nat → Int32} {t_kinds : Nat → Int32} {t_values : Nat → Int32} {t_mosts : Nat → Int32} {t_owners : Nat → Int32} {t_sizes : Nat → Int32} {t_firstRanges : Nat → Int32} {t_rangeCounts : Nat → Int32} {t_begins : Nat → Int32} {t_ends : Nat → Int32} {t_waiting : Nat → Int32} {g_lengths : Nat → Int32} {g_letters : Nat → Int32} {o_places : Nat → Int32} {o_numbers : Nat → Int32} {o_flagsAround : Nat → Int32} {o_rows : Nat → Int32} {o_parts : Nat → Int32} {m_place : Int32} {m_behind : Int32} {m_notSet : Bool} {m_least : Int32} {m_greatest : Int32} {m_kind : Nat → Int32} {m_value : Nat → Int32} {m_most : Nat → Int32} {m_span : Nat → Int32} {m_size : Nat → Int32} {m_whose : Nat → Int32} {m_rangeFrom : Nat → Int32} {m_rangeMany : Nat → Int32} {m_begins : Nat → Int32} {m_ends : Nat → Int32} {m_names : Nat → Int32} {m_nameSize : Nat → Int32} {m_opened : Nat → Int32} {m_number : Nat → Int32} {m_flagsBefore : Nat → Int32} {m_rows : Nat → Int32} {m_parts : Nat → Int32} {m_low : Nat → Int32} {m_high : Nat → Int32} {m_many : Nat → Int32} (hM : MS m_low m_high m_many xs ys) (hS : RS N k nd rg ng dp R r p r_flags r_repeatable t_kinds t_values t_mosts t_owners t_sizes t_firstRanges t_rangeCounts t_begins t_ends t_waiting g_lengths g_letters o_places o_numbers o_flagsAround o_rows o_parts m_kind m_value m_most m_span m_size m_whose m_rangeFrom m_rangeMany m_begins m_ends m_names m_nameSize m_opened m_number m_flagsBefore m_rows m_parts) : StepOK N k (bnd_ (f_RDR_readAny s_pieces (nI nd) (nI rg) (nI R.length) (nI dp) (nI k) r_flags r_repeatable s_begins s_ends t_kinds t_values t_mosts t_owners t_sizes t_firstRanges t_rangeCounts t_begins t_ends t_waiting o_parts) (fun y => some (0, i_place, y.1, y.2.1, y.2.2.1, y.2.2.2.1, nI ng, nI dp, e_kind, e_value, e_set, e_others, e_after, cl_single, q_numbered, q_flagsAlone, q_nameAt, q_nameLength, q_flags, q_after, p_least, p_most, p_marked, p_after, p_number, y.2.2.2.2.1, r_flags, y.2.2.2.2.2.1, y.2.2.2.2.2.2.1, y.2.2.2.2.2.2.2.1, y.2.2.2.2.2.2.2.2.1, y.2.2.2.2.2.2.2.2.2.1, y.2.2.2.2.2.2.2.2.2.2.1, y.2.2.2.2.2.2.2.2.2.2.2.1, y.2.2.2.2.2.2.2.2.2.2.2.2.1, y.2.2.2.2.2.2.2.2.2.2.2.2.2.1, y.2.2.2.2.2.2.2.2.2.2.2.2.2.2.1, y.2.2.2.2.2.2.2.2.2.2.2.2.2.2.2.1, y.2.2.2.2.2.2.2.2.2.2.2.2.2.2.2.2.1, y.2.2.2.2.2.2.2.2.2.2.2.2.2.2.2.2.2.1, g_lengths, g_letters, o_places, o_numbers, o_flagsAround, o_rows, y.2.2.2.2.2.2.2.2.2.2.2.2.2.2.2.2.2.2))) (bnd_ (f_MOD_plain n (nI k) 0 m_place (nI nd) (nI rg) (nI dp) r_flags r_repeatable m_behind X m_kind m_value m_most m_span m_size m_whose m_rangeFrom m_rangeMany m_begins m_ends m_parts m_low m_high m_many lk 46) (fun z => some (z.1, z.2.1, z.2.2.1, z.2.2.2.1, z.2.2.2.2.1, nI ng, nI dp, r_flags, z.2.2.2.2.2.1, z.2.2.2.2.2.2.1, m_notSet, m_least, m_greatest, z.2.2.2.2.2.2.2.1, z.2.2.2.2.2.2.2.2.1, z.2.2.2.2.2.2.2.2.2.1, z.2.2.2.2.2.2.2.2.2.2.1, z.2.2.2.2.2.2.2.2.2.2.2.1, z.2.2.2.2.2.2.2.2.2.2.2.2.1, z.2.2.2.2.2.2.2.2.2.2.2.2.2.1, z.2.2.2.2.2.2.2.2.2.2.2.2.2.2.1, z.2.2.2.2.2.2.2.2.2.2.2.2.2.2.2.1, z.2.2.2.2.2.2.2.2.2.2.2.2.2.2.2.2.1, m_names, m_nameSize, m_opened, m_number, m_flagsBefore, m_rows, z.2.2.2.2.2.2.2.2.2.2.2.2.2.2.2.2.2.1, z.2.2.2.2.2.2.2.2.2.2.2.2.2.2.2.2.2.2.1, z.2.2.2.2.2.2.2.2.2.2.2.2.2.2.2.2.2.2.2.1, z.2.2.2.2.2.2.2.2.2.2.2.2.2.2.2.2.2.2.2.2))) := by
  have hN := h.le
  have hd := hS.dp_le
  obtain ⟨s1, s2, s3, s4, s5⟩ := hS.small hN
  have n1 : ¬ (46 : Int32) = 94 := by decide
  have n2 : ¬ (46 : Int32) = 36 := by decide
  have bF : b2i false = 0 := by decide
  have bT : ¬ b2i true = 0 := by decide
  unfold f_RDR_readAny f_MOD_plain
  obtain ⟨on, o1, o2, o3⟩ := isOn4 (F15_of hS.fl)
  obtain ⟨m1, m2⟩ := hM.empty0
  obtain ⟨m3, m4⟩ := m2.empty1
  rw [if_neg n1, if_neg n2, if_pos rfl, bnd_s o1, bnd_s m1, bnd_s m3]
  have ek : nI k + 1 = nI (k + 1) := nI_1 k
  cases on with
  | true =>
    have f4 : ¬ r_flags &&& 4 = 0 := fun q => by have := o3.mpr q; cases this
    rw [if_neg bT, if_neg f4]
    unfold f_RDR_readAny_L18 f_MOD_plain_L105
    have m5 := m4
    rw [← sp0] at m5
    have hl := (spk_len 0 (by decide) true).2.2 (by decide)
    obtain ⟨sp2, sb2, se2, rg2, kn2, vl2, mo2, ow2, sz2, fr2, rc2, bg2, en2, wt2, kn2', vl2', mo2', sp2', sz2', wh2', rf2', rm2', bg2', en2', low2, high2, mn2, xs2, g1, g2, g3, g4, g5, g6⟩ := fixed_node h hT hk hM hS (s := 0) (by decide) true m5 (by have := hS.rg_le; omega) r_repeatable
    rw [bnd_s g1, bnd_s g2]
    simp only
    rw [bnd_s g3, ek, bnd_s (partC (by omega) _ _ _ _ _)]
    exact ⟨_, _, rfl, rfl, Or.inr ⟨k + 1, by omega, rfl, rfl, nd + 1, rg2, ng, dp, nd :: R, r, setN p dp (p dp + 1), ⟨rfl, rfl, rfl, rfl, rfl, rfl⟩, ⟨rfl, rfl, rfl, rfl, rfl, rfl, rfl⟩, ⟨xs2, _, g4⟩, hS.part g6 (by omega) (by omega) (by have := hS.rg_le; omega) hS.fl⟩⟩
  | false =>
    have f4 : r_flags &&& 4 = 0 := o3.mp rfl
    rw [if_pos bF, if_pos f4]
    obtain ⟨l', h', m', a1, a2⟩ := m4.add1 (p2 := 10) (p3 := 10) (by decide) (by decide) (by decide) (by decide)
    have a2' : MS l' h' m' [] (sp 1) := a2
    rw [bnd_s a1]
    unfold f_RDR_readAny_L18 f_MOD_plain_L105
    have hl := (spk_len 1 (by decide) true).2.2 (by decide)
    obtain ⟨sp2, sb2, se2, rg2, kn2, vl2, mo2, ow2, sz2, fr2, rc2, bg2, en2, wt2, kn2', vl2', mo2', sp2', sz2', wh2', rf2', rm2', bg2', en2', low2, high2, mn2, xs2, g1, g2, g3, g4, g5, g6⟩ := fixed_node h hT hk hM hS (s := 1) (by decide) true a2' (by have := hS.rg_le; omega) r_repeatable
    rw [bnd_s g1, bnd_s g2]
    simp only
    rw [bnd_s g3, ek, bnd_s (partC (by omega) _ _ _ _ _)]
    exact ⟨_, _, rfl, rfl, Or.inr ⟨k + 1, by omega, rfl, rfl, nd + 1, rg2, ng, dp, nd :: R, r, setN p dp (p dp + 1), ⟨rfl, rfl, rfl, rfl, rfl, rfl⟩, ⟨rfl, rfl, rfl, rfl, rfl, rfl, rfl⟩, ⟨xs2, _, g4⟩, hS.part g6 (by omega) (by omega) (by have := hS.rg_le; omega) hS.fl⟩⟩

set_option maxRecDepth 100000
set_option linter.unusedVariables false
theorem repC {len n : Int32} {B X : Ar} {N : Nat} (h : TX len B n X N) {e0 : Nat} (he : e0 ≤ 1000) (p1 l m x : Int32) (mk0 : Bool) : f_REP_readRepeat_L61 len B p1 l m mk0 (nI e0) x = some (true, l, m, decide (bt N B e0 = 63), nI (if decide (bt N B e0 = 63) = true then e0 + 1 else e0), x) := by
  unfold f_REP_readRepeat_L61
  rw [bnd_s (at_C h (by omega))]
  unfold f_REP_readRepeat_L83
  have bF : b2i false = 0 := by decide
  have bT : ¬ b2i true = 0 := by decide
  by_cases c : bt N B e0 = 63
  · rw [if_pos c, if_neg bT, decide_eq_true c, if_pos rfl, nI_1]
  · rw [if_neg c, if_pos bF, decide_eq_false c]; rfl
theorem rep_all {len n : Int32} {B X : Ar} {N : Nat} (h : TX len B n X N) {lk tb tl tn : Ar} (hT : TB lk tb tl tn) {k : Nat} (hk : k < N) {nd rg ng dp : Nat} {R : List Nat} {r p : Nat → Nat} {xs ys : PL} {i_place : Int32} {s_pieces : Int32} {e_kind : Int32} {e_value : Int32} {e_set : Nat} {e_others : Bool} {e_after : Int32} {cl_single : Int32} {q_numbered : Bool} {q_flagsAlone : Bool} {q_nameAt : Int32} {q_nameLength : Int32} {q_flags : Int32} {q_after : Int32} {r_flags : Int32} {r_repeatable : Bool} {s_begins : Nat → Int32} {s_ends : Nat → Int32} {t_kinds : Nat → Int32} {t_values : Nat → Int32} {t_mosts : Nat → Int32} {t_owners : Nat → Int32} {t_sizes : Nat → Int32} {t_firstRanges : Nat → Int32} {t_rangeCounts : Nat → Int32} {t_begins : Nat → Int32} {t_ends : Nat → Int32} {t_waiting : Nat → Int32} {g_lengths : Nat → Int32} {g_letters : Nat → Int32} {o_places : Nat → Int32} {o_numbers : Nat → Int32} {o_flagsAround : Nat → Int32} {o_rows : Nat → Int32} {o_parts : Nat → Int32} {m_place : Int32} {m_notSet : Bool} {m_kind : Nat → Int32} {m_value : Nat → Int32} {m_most : Nat → Int32} {m_span : Nat → Int32} {m_size : Nat → Int32} {m_whose : Nat → Int32} {m_rangeFrom : Nat → Int32} {m_rangeMany : Nat → Int32} {m_begins : Nat → Int32} {m_ends : Nat → Int32} {m_names : Nat → Int32} {m_nameSize : Nat → Int32} {m_opened : Nat → Int32} {m_number : Nat → Int32} {m_flagsBefore : Nat → Int32} {m_rows : Nat → Int32} {m_parts : Nat → Int32} {m_low : Nat → Int32} {m_high : Nat → Int32} {m_many : Nat → Int32} (hM : MS m_low m_high m_many xs ys) (hS : RS N k nd rg ng dp R r p r_flags r_repeatable t_kinds t_values t_mosts t_owners t_sizes t_firstRanges t_rangeCounts t_begins t_ends t_waiting g_lengths g_letters o_places o_numbers o_flagsAround o_rows o_parts m_kind m_value m_most m_span m_size m_whose m_rangeFrom m_rangeMany m_begins m_ends m_names m_nameSize m_opened m_number m_flagsBefore m_rows m_parts) (l m x ch : Int32) (e0 : Nat) (he0 : k < e0) (he1 : e0 ≤ N) (hl : 0 ≤ l.toInt) (hm : m = -1 ∨ 0 ≤ m.toInt) (E : Option MT)
    (h1 : r_repeatable = false → ∃ y, E = some y ∧ 0 < y.2.1 ∧ y.2.2.2.2.2.2.2.2.2.2.2.2.2.2.2.2.2.2.2.2.2.2.2.2.2.2.2.2.2.2.1 = m_low ∧ y.2.2.2.2.2.2.2.2.2.2.2.2.2.2.2.2.2.2.2.2.2.2.2.2.2.2.2.2.2.2.2.1 = m_high ∧ y.2.2.2.2.2.2.2.2.2.2.2.2.2.2.2.2.2.2.2.2.2.2.2.2.2.2.2.2.2.2.2.2 = m_many)
    (h2 : r_repeatable = true → E = bnd_ (f_MOD_repeat_L64 n (nI rg) r_flags X ch (nI k) 0 m_place (nI nd) r_repeatable (nI e0) l m m_kind m_value m_most m_span m_size m_whose m_rangeFrom m_rangeMany) (fun z => some (z.1, z.2.1, z.2.2.1, z.2.2.2.1, nI rg, nI ng, nI dp, r_flags, z.2.2.2.2.1, z.2.2.2.2.2.1, m_notSet, z.2.2.2.2.2.2.1, z.2.2.2.2.2.2.2.1, z.2.2.2.2.2.2.2.2.1, z.2.2.2.2.2.2.2.2.2.1, z.2.2.2.2.2.2.2.2.2.2.1, z.2.2.2.2.2.2.2.2.2.2.2.1, z.2.2.2.2.2.2.2.2.2.2.2.2.1, z.2.2.2.2.2.2.2.2.2.2.2.2.2.1, z.2.2.2.2.2.2.2.2.2.2.2.2.2.2.1, z.2.2.2.2.2.2.2.2.2.2.2.2.2.2.2, m_begins, m_ends, m_names, m_nameSize, m_opened, m_number, m_flagsBefore, m_rows, m_parts, m_low, m_high, m_many))) :
    StepOK N k (bnd_ (some (true, l, m, decide (bt N B e0 = 63), nI (if decide (bt N B e0 = 63) = true then e0 + 1 else e0), x)) (fun x => if (b2i x.1) = 0 then bnd_ (f_RDR_readCharacter len 0 i_place s_pieces (nI nd) (nI rg) (nI R.length) (nI dp) (nI k) r_flags r_repeatable B s_begins s_ends t_kinds t_values t_mosts t_owners t_sizes t_firstRanges t_rangeCounts t_begins t_ends t_waiting o_parts) (fun y => some (y.1, y.2.1, y.2.2.1, y.2.2.2.1, y.2.2.2.2.1, y.2.2.2.2.2.1, nI ng, nI dp, e_kind, e_value, e_set, e_others, e_after, cl_single, q_numbered, q_flagsAlone, q_nameAt, q_nameLength, q_flags, q_after, x.2.1, x.2.2.1, x.2.2.2.1, x.2.2.2.2.1, x.2.2.2.2.2, y.2.2.2.2.2.2.1, r_flags, y.2.2.2.2.2.2.2.1, y.2.2.2.2.2.2.2.2.1, y.2.2.2.2.2.2.2.2.2.1, y.2.2.2.2.2.2.2.2.2.2.1, y.2.2.2.2.2.2.2.2.2.2.2.1, y.2.2.2.2.2.2.2.2.2.2.2.2.1, y.2.2.2.2.2.2.2.2.2.2.2.2.2.1, y.2.2.2.2.2.2.2.2.2.2.2.2.2.2.1, y.2.2.2.2.2.2.2.2.2.2.2.2.2.2.2.1, y.2.2.2.2.2.2.2.2.2.2.2.2.2.2.2.2.1, y.2.2.2.2.2.2.2.2.2.2.2.2.2.2.2.2.2.1, y.2.2.2.2.2.2.2.2.2.2.2.2.2.2.2.2.2.2.1, y.2.2.2.2.2.2.2.2.2.2.2.2.2.2.2.2.2.2.2.1, g_lengths, g_letters, o_places, o_numbers, o_flagsAround, o_rows, y.2.2.2.2.2.2.2.2.2.2.2.2.2.2.2.2.2.2.2.2)) else bnd_ (f_RDR_addRepeat 0 i_place (nI nd) (nI rg) (nI R.length) x.2.1 x.2.2.1 x.2.2.2.1 x.2.2.2.2.1 (nI k) r_flags r_repeatable t_kinds t_values t_mosts t_owners t_sizes t_firstRanges t_rangeCounts t_waiting) (fun y => some (y.1, y.2.1, s_pieces, y.2.2.1, nI rg, y.2.2.2.1, nI ng, nI dp, e_kind, e_value, e_set, e_others, e_after, cl_single, q_numbered, q_flagsAlone, q_nameAt, q_nameLength, q_flags, q_after, x.2.1, x.2.2.1, x.2.2.2.1, x.2.2.2.2.1, x.2.2.2.2.2, y.2.2.2.2.1, r_flags, y.2.2.2.2.2.1, s_begins, s_ends, y.2.2.2.2.2.2.1, y.2.2.2.2.2.2.2.1, y.2.2.2.2.2.2.2.2.1, y.2.2.2.2.2.2.2.2.2.1, y.2.2.2.2.2.2.2.2.2.2.1, y.2.2.2.2.2.2.2.2.2.2.2.1, y.2.2.2.2.2.2.2.2.2.2.2.2.1, t_begins, t_ends, y.2.2.2.2.2.2.2.2.2.2.2.2.2, g_lengths, g_letters, o_places, o_numbers, o_flagsAround, o_rows, o_parts)))) E := by
  have bT : ¬ b2i true = 0 := by decide
  rw [bnd_s (rfl : some _ = some _)]
  simp only
  rw [if_neg bT]
  cases hr : r_repeatable with
  | false =>
    obtain ⟨y, y1, y2, y3, y4, y5⟩ := h1 hr
    rw [y1]
    unfold f_RDR_addRepeat
    have bF : b2i false = 0 := by decide
    rw [if_pos bF]
    exact ⟨_, _, rfl, rfl, Or.inl ⟨(by decide : (8 : Int32) ≠ 0), y2, ⟨dp, rfl, hS.dp_le⟩, xs, ys, by rw [y3, y4, y5]; exact hM⟩⟩
  | true =>
    rw [h2 hr]
    subst hr
    exact rep_core h hT hk hM hS l m x ch (decide (bt N B e0 = 63)) e0 _ he0 he1 hl hm (by simp) rfl rfl
theorem br_rep {len n : Int32} {B X : Ar} {N : Nat} (h : TX len B n X N) {lk tb tl tn : Ar} (hT : TB lk tb tl tn) {k : Nat} (hk : k < N) {nd rg ng dp : Nat} {R : List Nat} {r p : Nat → Nat} {xs ys : PL} {i_place : Int32} {s_pieces : Int32} {e_kind : Int32} {e_value : Int32} {e_set : Nat} {e_others : Bool} {e_after : Int32} {cl_single : Int32} {q_numbered : Bool} {q_flagsAlone : Bool} {q_nameAt : Int32} {q_nameLength : Int32} {q_flags : Int32} {q_after : Int32} {p_least : Int32} {p_most : Int32} {p_marked : Bool} {p_after : Int32} {p_number : Int32} {r_flags : Int32} {r_repeatable : Bool} {s_begins : Nat → Int32} {s_ends : Nat → Int32} {t_kinds : Nat → Int32} {t_values : Nat → Int32} {t_mosts : Nat → Int32} {t_owners : Nat → Int32} {t_sizes : Nat → Int32} {t_firstRanges : Nat → Int32} {t_rangeCounts : Nat → Int32} {t_begins : Nat → Int32} {t_ends : Nat → Int32} {t_waiting : Nat → Int32} {g_lengths : Nat → Int32} {g_letters : Nat → Int32} {o_places : Nat → Int32} {o_numbers : Nat → Int32} {o_flagsAround : Nat → Int32} {o_rows : Nat → Int32} {o_parts : Nat → Int32} {m_place : Int32} {m_behind : Int32} {m_notSet : Bool} {m_least : Int32} {m_greatest : Int32} {m_kind : Nat → Int32} {m_value : Nat → Int32} {m_most : Nat → Int32} {m_span : Nat → Int32} {m_size : Nat → Int32} {m_whose : Nat → Int32} {m_rangeFrom : Nat → Int32} {m_rangeMany : Nat → Int32} {m_begins : Nat → Int32} {m_ends : Nat → Int32} {m_names : Nat → Int32} {m_nameSize : Nat → Int32} {m_opened : Nat → Int32} {m_number : Nat → Int32} {m_flagsBefore : Nat → Int32} {m_rows : Nat → Int32} {m_parts : Nat → Int32} {m_low : Nat → Int32} {m_high : Nat → Int32} {m_many : Nat → Int32} (hM : MS m_low m_high m_many xs ys) (hS : RS N k nd rg ng dp R r p r_flags r_repeatable t_kinds t_values t_mosts t_owners t_sizes t_firstRanges t_rangeCounts t_begins t_ends t_waiting g_lengths g_letters o_places o_numbers o_flagsAround o_rows o_parts m_kind m_value m_most m_span m_size m_whose m_rangeFrom m_rangeMany m_begins m_ends m_names m_nameSize m_opened m_number m_flagsBefore m_rows m_parts) (ch : Int32) (hb : bt N B k = ch) (hch : ch = 42 ∨ ch = 43 ∨ ch = 63) : StepOK N k (bnd_ (f_REP_readRepeat len p_least p_most p_marked p_after p_number B (nI k)) (fun x => if (b2i x.1) = 0 then bnd_ (f_RDR_readCharacter len 0 i_place s_pieces (nI nd) (nI rg) (nI R.length) (nI dp) (nI k) r_flags r_repeatable B s_begins s_ends t_kinds t_values t_mosts t_owners t_sizes t_firstRanges t_rangeCounts t_begins t_ends t_waiting o_parts) (fun y => some (y.1, y.2.1, y.2.2.1, y.2.2.2.1, y.2.2.2.2.1, y.2.2.2.2.2.1, nI ng, nI dp, e_kind, e_value, e_set, e_others, e_after, cl_single, q_numbered, q_flagsAlone, q_nameAt, q_nameLength, q_flags, q_after, x.2.1, x.2.2.1, x.2.2.2.1, x.2.2.2.2.1, x.2.2.2.2.2, y.2.2.2.2.2.2.1, r_flags, y.2.2.2.2.2.2.2.1, y.2.2.2.2.2.2.2.2.1, y.2.2.2.2.2.2.2.2.2.1, y.2.2.2.2.2.2.2.2.2.2.1, y.2.2.2.2.2.2.2.2.2.2.2.1, y.2.2.2.2.2.2.2.2.2.2.2.2.1, y.2.2.2.2.2.2.2.2.2.2.2.2.2.1, y.2.2.2.2.2.2.2.2.2.2.2.2.2.2.1, y.2.2.2.2.2.2.2.2.2.2.2.2.2.2.2.1, y.2.2.2.2.2.2.2.2.2.2.2.2.2.2.2.2.1, y.2.2.2.2.2.2.2.2.2.2.2.2.2.2.2.2.2.1, y.2.2.2.2.2.2.2.2.2.2.2.2.2.2.2.2.2.2.1, y.2.2.2.2.2.2.2.2.2.2.2.2.2.2.2.2.2.2.2.1, g_lengths, g_letters, o_places, o_numbers, o_flagsAround, o_rows, y.2.2.2.2.2.2.2.2.2.2.2.2.2.2.2.2.2.2.2.2)) else bnd_ (f_RDR_addRepeat 0 i_place (nI nd) (nI rg) (nI R.length) x.2.1 x.2.2.1 x.2.2.2.1 x.2.2.2.2.1 (nI k) r_flags r_repeatable t_kinds t_values t_mosts t_owners t_sizes t_firstRanges t_rangeCounts t_waiting) (fun y => some (y.1, y.2.1, s_pieces, y.2.2.1, nI rg, y.2.2.2.1, nI ng, nI dp, e_kind, e_value, e_set, e_others, e_after, cl_single, q_numbered, q_flagsAlone, q_nameAt, q_nameLength, q_flags, q_after, x.2.1, x.2.2.1, x.2.2.2.1, x.2.2.2.2.1, x.2.2.2.2.2, y.2.2.2.2.1, r_flags, y.2.2.2.2.2.1, s_begins, s_ends, y.2.2.2.2.2.2.1, y.2.2.2.2.2.2.2.1, y.2.2.2.2.2.2.2.2.1, y.2.2.2.2.2.2.2.2.2.1, y.2.2.2.2.2.2.2.2.2.2.1, y.2.2.2.2.2.2.2.2.2.2.2.1, y.2.2.2.2.2.2.2.2.2.2.2.2.1, t_begins, t_ends, y.2.2.2.2.2.2.2.2.2.2.2.2.2, g_lengths, g_letters, o_places, o_numbers, o_flagsAround, o_rows, o_parts)))) (bnd_ (f_MOD_repeat n (nI k) 0 m_place (nI nd) (nI rg) r_flags r_repeatable m_behind m_least m_greatest X m_kind m_value m_most m_span m_size m_whose m_rangeFrom m_rangeMany ch) (fun z => some (z.1, z.2.1, z.2.2.1, z.2.2.2.1, nI rg, nI ng, nI dp, r_flags, z.2.2.2.2.1, z.2.2.2.2.2.1, m_notSet, z.2.2.2.2.2.2.1, z.2.2.2.2.2.2.2.1, z.2.2.2.2.2.2.2.2.1, z.2.2.2.2.2.2.2.2.2.1, z.2.2.2.2.2.2.2.2.2.2.1, z.2.2.2.2.2.2.2.2.2.2.2.1, z.2.2.2.2.2.2.2.2.2.2.2.2.1, z.2.2.2.2.2.2.2.2.2.2.2.2.2.1, z.2.2.2.2.2.2.2.2.2.2.2.2.2.2.1, z.2.2.2.2.2.2.2.2.2.2.2.2.2.2.2, m_begins, m_ends, m_names, m_nameSize, m_opened, m_number, m_flagsBefore, m_rows, m_parts, m_low, m_high, m_many))) := by
  have hN := h.le
  have ek : nI k + 1 = nI (k + 1) := nI_1 k
  unfold f_REP_readRepeat
  have nb : ¬ ch = 123 := by rcases hch with rfl | rfl | rfl <;> decide
  rw [bnd_s (at_C h (by omega)), hb, if_neg nb, ek]
  unfold f_REP_readRepeat_L43
  have fin : ∀ l m : Int32, 0 ≤ l.toInt → (m = -1 ∨ 0 ≤ m.toInt) → (r_repeatable = true → f_MOD_repeat n (nI k) 0 m_place (nI nd) (nI rg) r_flags r_repeatable m_behind m_least m_greatest X m_kind m_value m_most m_span m_size m_whose m_rangeFrom m_rangeMany ch = f_MOD_repeat_L64 n (nI rg) r_flags X ch (nI k) 0 m_place (nI nd) r_repeatable (nI (k + 1)) l m m_kind m_value m_most m_span m_size m_whose m_rangeFrom m_rangeMany) → StepOK N k (bnd_ (f_REP_readRepeat_L61 len B (nI k) l m p_marked (nI (k + 1)) p_number) (fun x => if (b2i x.1) = 0 then bnd_ (f_RDR_readCharacter len 0 i_place s_pieces (nI nd) (nI rg) (nI R.length) (nI dp) (nI k) r_flags r_repeatable B s_begins s_ends t_kinds t_values t_mosts t_owners t_sizes t_firstRanges t_rangeCounts t_begins t_ends t_waiting o_parts) (fun y => some (y.1, y.2.1, y.2.2.1, y.2.2.2.1, y.2.2.2.2.1, y.2.2.2.2.2.1, nI ng, nI dp, e_kind, e_value, e_set, e_others, e_after, cl_single, q_numbered, q_flagsAlone, q_nameAt, q_nameLength, q_flags, q_after, x.2.1, x.2.2.1, x.2.2.2.1, x.2.2.2.2.1, x.2.2.2.2.2, y.2.2.2.2.2.2.1, r_flags, y.2.2.2.2.2.2.2.1, y.2.2.2.2.2.2.2.2.1, y.2.2.2.2.2.2.2.2.2.1, y.2.2.2.2.2.2.2.2.2.2.1, y.2.2.2.2.2.2.2.2.2.2.2.1, y.2.2.2.2.2.2.2.2.2.2.2.2.1, y.2.2.2.2.2.2.2.2.2.2.2.2.2.1, y.2.2.2.2.2.2.2.2.2.2.2.2.2.2.1, y.2.2.2.2.2.2.2.2.2.2.2.2.2.2.2.1, y.2.2.2.2.2.2.2.2.2.2.2.2.2.2.2.2.1, y.2.2.2.2.2.2.2.2.2.2.2.2.2.2.2.2.2.1, y.2.2.2.2.2.2.2.2.2.2.2.2.2.2.2.2.2.2.1, y.2.2.2.2.2.2.2.2.2.2.2.2.2.2.2.2.2.2.2.1, g_lengths, g_letters, o_places, o_numbers, o_flagsAround, o_rows, y.2.2.2.2.2.2.2.2.2.2.2.2.2.2.2.2.2.2.2.2)) else bnd_ (f_RDR_addRepeat 0 i_place (nI nd) (nI rg) (nI R.length) x.2.1 x.2.2.1 x.2.2.2.1 x.2.2.2.2.1 (nI k) r_flags r_repeatable t_kinds t_values t_mosts t_owners t_sizes t_firstRanges t_rangeCounts t_waiting) (fun y => some (y.1, y.2.1, s_pieces, y.2.2.1, nI rg, y.2.2.2.1, nI ng, nI dp, e_kind, e_value, e_set, e_others, e_after, cl_single, q_numbered, q_flagsAlone, q_nameAt, q_nameLength, q_flags, q_after, x.2.1, x.2.2.1, x.2.2.2.1, x.2.2.2.2.1, x.2.2.2.2.2, y.2.2.2.2.1, r_flags, y.2.2.2.2.2.1, s_begins, s_ends, y.2.2.2.2.2.2.1, y.2.2.2.2.2.2.2.1, y.2.2.2.2.2.2.2.2.1, y.2.2.2.2.2.2.2.2.2.1, y.2.2.2.2.2.2.2.2.2.2.1, y.2.2.2.2.2.2.2.2.2.2.2.1, y.2.2.2.2.2.2.2.2.2.2.2.2.1, t_begins, t_ends, y.2.2.2.2.2.2.2.2.2.2.2.2.2, g_lengths, g_letters, o_places, o_numbers, o_flagsAround, o_rows, o_parts)))) (bnd_ (f_MOD_repeat n (nI k) 0 m_place (nI nd) (nI rg) r_flags r_repeatable m_behind m_least m_greatest X m_kind m_value m_most m_span m_size m_whose m_rangeFrom m_rangeMany ch) (fun z => some (z.1, z.2.1, z.2.2.1, z.2.2.2.1, nI rg, nI ng, nI dp, r_flags, z.2.2.2.2.1, z.2.2.2.2.2.1, m_notSet, z.2.2.2.2.2.2.1, z.2.2.2.2.2.2.2.1, z.2.2.2.2.2.2.2.2.1, z.2.2.2.2.2.2.2.2.2.1, z.2.2.2.2.2.2.2.2.2.2.1, z.2.2.2.2.2.2.2.2.2.2.2.1, z.2.2.2.2.2.2.2.2.2.2.2.2.1, z.2.2.2.2.2.2.2.2.2.2.2.2.2.1, z.2.2.2.2.2.2.2.2.2.2.2.2.2.2.1, z.2.2.2.2.2.2.2.2.2.2.2.2.2.2.2, m_begins, m_ends, m_names, m_nameSize, m_opened, m_number, m_flagsBefore, m_rows, m_parts, m_low, m_high, m_many))) := by
    intro l m hl hm hE
    rw [repC h (by omega)]
    refine rep_all h hT hk hM hS l m p_number ch (k + 1) (by omega) (by omega) hl hm _ (fun hr => ?_) (fun hr => by rw [hE hr])
    unfold f_MOD_repeat
    have bF : b2i r_repeatable = 0 := by rw [hr]; decide
    rw [if_pos bF]
    exact ⟨_, rfl, (by decide : (0 : Int32) < 8), rfl, rfl, rfl⟩
  have hM0 : ∀ hr : r_repeatable = true, ¬ b2i r_repeatable = 0 := fun hr => by rw [hr]; decide
  rcases hch with rfl | rfl | rfl
  · have n1 : ¬ (42 : Int32) = 43 := by decide
    have n2 : ¬ (42 : Int32) = 63 := by decide
    have n3 : ¬ (42 : Int32) = 123 := by decide
    rw [if_neg n1, if_neg n2]
    refine fin (b2i false) (-1) (by decide) (Or.inl rfl) (fun hr => ?_)
    unfold f_MOD_repeat f_MOD_repeat_L36 f_MOD_repeat_L51
    rw [if_neg (hM0 hr), if_neg n3, if_neg n1, if_neg n2, ek]
  · have n2 : ¬ (43 : Int32) = 63 := by decide
    have n3 : ¬ (43 : Int32) = 123 := by decide
    rw [if_pos rfl, if_neg n2]
    refine fin (b2i true) (-1) (by decide) (Or.inl rfl) (fun hr => ?_)
    unfold f_MOD_repeat f_MOD_repeat_L36 f_MOD_repeat_L51
    rw [if_neg (hM0 hr), if_neg n3, if_pos rfl, if_neg n2, ek]
  · have n1 : ¬ (63 : Int32) = 43 := by decide
    have n3 : ¬ (63 : Int32) = 123 := by decide
    rw [if_neg n1, if_pos rfl]
    refine fin (b2i false) 1 (by decide) (Or.inr (by decide)) (fun hr => ?_)
    unfold f_MOD_repeat f_MOD_repeat_L36 f_MOD_repeat_L51
    rw [if_neg (hM0 hr), if_neg n3, if_neg n1, if_pos rfl, ek]
theorem br_brace {len n : Int32} {B X : Ar} {N : Nat} (h : TX len B n X N) {lk tb tl tn : Ar} (hT : TB lk tb tl tn) {k : Nat} (hk : k < N) {nd rg ng dp : Nat} {R : List Nat} {r p : Nat → Nat} {xs ys : PL} {i_place : Int32} {s_pieces : Int32} {e_kind : Int32} {e_value : Int32} {e_set : Nat} {e_others : Bool} {e_after : Int32} {cl_single : Int32} {q_numbered : Bool} {q_flagsAlone : Bool} {q_nameAt : Int32} {q_nameLength : Int32} {q_flags : Int32} {q_after : Int32} {p_least : Int32} {p_most : Int32} {p_marked : Bool} {p_after : Int32} {p_number : Int32} {r_flags : Int32} {r_repeatable : Bool} {s_begins : Nat → Int32} {s_ends : Nat → Int32} {t_kinds : Nat → Int32} {t_values : Nat → Int32} {t_mosts : Nat → Int32} {t_owners : Nat → Int32} {t_sizes : Nat → Int32} {t_firstRanges : Nat → Int32} {t_rangeCounts : Nat → Int32} {t_begins : Nat → Int32} {t_ends : Nat → Int32} {t_waiting : Nat → Int32} {g_lengths : Nat → Int32} {g_letters : Nat → Int32} {o_places : Nat → Int32} {o_numbers : Nat → Int32} {o_flagsAround : Nat → Int32} {o_rows : Nat → Int32} {o_parts : Nat → Int32} {m_place : Int32} {m_behind : Int32} {m_notSet : Bool} {m_least : Int32} {m_greatest : Int32} {m_kind : Nat → Int32} {m_value : Nat → Int32} {m_most : Nat → Int32} {m_span : Nat → Int32} {m_size : Nat → Int32} {m_whose : Nat → Int32} {m_rangeFrom : Nat → Int32} {m_rangeMany : Nat → Int32} {m_begins : Nat → Int32} {m_ends : Nat → Int32} {m_names : Nat → Int32} {m_nameSize : Nat → Int32} {m_opened : Nat → Int32} {m_number : Nat → Int32} {m_flagsBefore : Nat → Int32} {m_rows : Nat → Int32} {m_parts : Nat → Int32} {m_low : Nat → Int32} {m_high : Nat → Int32} {m_many : Nat → Int32} (hM : MS m_low m_high m_many xs ys) (hS : RS N k nd rg ng dp R r p r_flags r_repeatable t_kinds t_values t_mosts t_owners t_sizes t_firstRanges t_rangeCounts t_begins t_ends t_waiting g_lengths g_letters o_places o_numbers o_flagsAround o_rows o_parts m_kind m_value m_most m_span m_size m_whose m_rangeFrom m_rangeMany m_begins m_ends m_names m_nameSize m_opened m_number m_flagsBefore m_rows m_parts) (hb : bt N B k = 123) : StepOK N k (bnd_ (f_REP_readRepeat len p_least p_most p_marked p_after p_number B (nI k)) (fun x => if (b2i x.1) = 0 then bnd_ (f_RDR_readCharacter len 0 i_place s_pieces (nI nd) (nI rg) (nI R.length) (nI dp) (nI k) r_flags r_repeatable B s_begins s_ends t_kinds t_values t_mosts t_owners t_sizes t_firstRanges t_rangeCounts t_begins t_ends t_waiting o_parts) (fun y => some (y.1, y.2.1, y.2.2.1, y.2.2.2.1, y.2.2.2.2.1, y.2.2.2.2.2.1, nI ng, nI dp, e_kind, e_value, e_set, e_others, e_after, cl_single, q_numbered, q_flagsAlone, q_nameAt, q_nameLength, q_flags, q_after, x.2.1, x.2.2.1, x.2.2.2.1, x.2.2.2.2.1, x.2.2.2.2.2, y.2.2.2.2.2.2.1, r_flags, y.2.2.2.2.2.2.2.1, y.2.2.2.2.2.2.2.2.1, y.2.2.2.2.2.2.2.2.2.1, y.2.2.2.2.2.2.2.2.2.2.1, y.2.2.2.2.2.2.2.2.2.2.2.1, y.2.2.2.2.2.2.2.2.2.2.2.2.1, y.2.2.2.2.2.2.2.2.2.2.2.2.2.1, y.2.2.2.2.2.2.2.2.2.2.2.2.2.2.1, y.2.2.2.2.2.2.2.2.2.2.2.2.2.2.2.1, y.2.2.2.2.2.2.2.2.2.2.2.2.2.2.2.2.1, y.2.2.2.2.2.2.2.2.2.2.2.2.2.2.2.2.2.1, y.2.2.2.2.2.2.2.2.2.2.2.2.2.2.2.2.2.2.1, y.2.2.2.2.2.2.2.2.2.2.2.2.2.2.2.2.2.2.2.1, g_lengths, g_letters, o_places, o_numbers, o_flagsAround, o_rows, y.2.2.2.2.2.2.2.2.2.2.2.2.2.2.2.2.2.2.2.2)) else bnd_ (f_RDR_addRepeat 0 i_place (nI nd) (nI rg) (nI R.length) x.2.1 x.2.2.1 x.2.2.2.1 x.2.2.2.2.1 (nI k) r_flags r_repeatable t_kinds t_values t_mosts t_owners t_sizes t_firstRanges t_rangeCounts t_waiting) (fun y => some (y.1, y.2.1, s_pieces, y.2.2.1, nI rg, y.2.2.2.1, nI ng, nI dp, e_kind, e_value, e_set, e_others, e_after, cl_single, q_numbered, q_flagsAlone, q_nameAt, q_nameLength, q_flags, q_after, x.2.1, x.2.2.1, x.2.2.2.1, x.2.2.2.2.1, x.2.2.2.2.2, y.2.2.2.2.1, r_flags, y.2.2.2.2.2.1, s_begins, s_ends, y.2.2.2.2.2.2.1, y.2.2.2.2.2.2.2.1, y.2.2.2.2.2.2.2.2.1, y.2.2.2.2.2.2.2.2.2.1, y.2.2.2.2.2.2.2.2.2.2.1, y.2.2.2.2.2.2.2.2.2.2.2.1, y.2.2.2.2.2.2.2.2.2.2.2.2.1, t_begins, t_ends, y.2.2.2.2.2.2.2.2.2.2.2.2.2, g_lengths, g_letters, o_places, o_numbers, o_flagsAround, o_rows, o_parts)))) (bnd_ (f_MOD_isRepeat n m_behind m_least m_greatest X (nI k)) (fun x => if (b2i x.1) = 0 then bnd_ (f_MOD_plain n (nI k) 0 m_place (nI nd) (nI rg) (nI dp) r_flags r_repeatable x.2.1 X m_kind m_value m_most m_span m_size m_whose m_rangeFrom m_rangeMany m_begins m_ends m_parts m_low m_high m_many lk 123) (fun z => some (z.1, z.2.1, z.2.2.1, z.2.2.2.1, z.2.2.2.2.1, nI ng, nI dp, r_flags, z.2.2.2.2.2.1, z.2.2.2.2.2.2.1, m_notSet, x.2.2.1, x.2.2.2, z.2.2.2.2.2.2.2.1, z.2.2.2.2.2.2.2.2.1, z.2.2.2.2.2.2.2.2.2.1, z.2.2.2.2.2.2.2.2.2.2.1, z.2.2.2.2.2.2.2.2.2.2.2.1, z.2.2.2.2.2.2.2.2.2.2.2.2.1, z.2.2.2.2.2.2.2.2.2.2.2.2.2.1, z.2.2.2.2.2.2.2.2.2.2.2.2.2.2.1, z.2.2.2.2.2.2.2.2.2.2.2.2.2.2.2.1, z.2.2.2.2.2.2.2.2.2.2.2.2.2.2.2.2.1, m_names, m_nameSize, m_opened, m_number, m_flagsBefore, m_rows, z.2.2.2.2.2.2.2.2.2.2.2.2.2.2.2.2.2.1, z.2.2.2.2.2.2.2.2.2.2.2.2.2.2.2.2.2.2.1, z.2.2.2.2.2.2.2.2.2.2.2.2.2.2.2.2.2.2.2.1, z.2.2.2.2.2.2.2.2.2.2.2.2.2.2.2.2.2.2.2.2)) else bnd_ (f_MOD_repeat n (nI k) 0 m_place (nI nd) (nI rg) r_flags r_repeatable x.2.1 x.2.2.1 x.2.2.2 X m_kind m_value m_most m_span m_size m_whose m_rangeFrom m_rangeMany 123) (fun z => some (z.1, z.2.1, z.2.2.1, z.2.2.2.1, nI rg, nI ng, nI dp, r_flags, z.2.2.2.2.1, z.2.2.2.2.2.1, m_notSet, z.2.2.2.2.2.2.1, z.2.2.2.2.2.2.2.1, z.2.2.2.2.2.2.2.2.1, z.2.2.2.2.2.2.2.2.2.1, z.2.2.2.2.2.2.2.2.2.2.1, z.2.2.2.2.2.2.2.2.2.2.2.1, z.2.2.2.2.2.2.2.2.2.2.2.2.1, z.2.2.2.2.2.2.2.2.2.2.2.2.2.1, z.2.2.2.2.2.2.2.2.2.2.2.2.2.2.1, z.2.2.2.2.2.2.2.2.2.2.2.2.2.2.2, m_begins, m_ends, m_names, m_nameSize, m_opened, m_number, m_flagsBefore, m_rows, m_parts, m_low, m_high, m_many)))) := by
  have hN := h.le
  have ek : nI k + 1 = nI (k + 1) := nI_1 k
  have bF : b2i false = 0 := by decide
  have bT : ¬ b2i true = 0 := by decide
  unfold f_REP_readRepeat
  rw [bnd_s (at_C h (by omega)), if_pos hb, ek]
  obtain ⟨ok, l, m, e, x, l', m', b', q1, q2, q3⟩ := bounds_eq h hk p_least p_most p_number m_behind m_least m_greatest
  rw [bnd_s q1, bnd_s q2]
  simp only
  cases ok with
  | false =>
    rw [if_pos bF, if_pos bF, bnd_s (rfl : some _ = some _)]
    simp only
    rw [if_pos bF]
    exact br_char h hT hk hM hS 123 (by decide) (by decide) (by decide)
  | true =>
    obtain ⟨rfl, rfl, rfl, r4, r5, r6, r7⟩ := q3 rfl
    rw [if_neg bT, if_neg bT, repC h (by omega)]
    refine rep_all (m_notSet := m_notSet) (m_place := m_place) h hT hk hM hS l m x 123 e r4 r5 r6 r7 _ (fun hr => ?_) (fun hr => ?_)
    · unfold f_MOD_repeat
      have bF : b2i r_repeatable = 0 := by rw [hr]; decide
      rw [if_pos bF]
      exact ⟨_, rfl, (by decide : (0 : Int32) < 8), rfl, rfl, rfl⟩
    · unfold f_MOD_repeat
      have bF : ¬ b2i r_repeatable = 0 := by rw [hr]; decide
      rw [if_neg bF, if_pos rfl]

set_option maxRecDepth 100000
set_option linter.unusedVariables false
theorem br_esc {len n : Int32} {B X : Ar} {N : Nat} (h : TX len B n X N) {lk tb tl tn : Ar} (hT : TB lk tb tl tn) {k : Nat} (hk : k < N) {nd rg ng dp : Nat} {R : List Nat} {r p : Nat → Nat} {xs ys : PL} {i_place : Int32} {s_pieces : Int32} {e_kind : Int32} {e_value : Int32} {e_set : Nat} {e_others : Bool} {e_after : Int32} {cl_single : Int32} {q_numbered : Bool} {q_flagsAlone : Bool} {q_nameAt : Int32} {q_nameLength : Int32} {q_flags : Int32} {q_after : Int32} {p_least : Int32} {p_most : Int32} {p_marked : Bool} {p_after : Int32} {p_number : Int32} {r_flags : Int32} {r_repeatable : Bool} {s_begins : Nat → Int32} {s_ends : Nat → Int32} {t_kinds : Nat → Int32} {t_values : Nat → Int32} {t_mosts : Nat → Int32} {t_owners : Nat → Int32} {t_sizes : Nat → Int32} {t_firstRanges : Nat → Int32} {t_rangeCounts : Nat → Int32} {t_begins : Nat → Int32} {t_ends : Nat → Int32} {t_waiting : Nat → Int32} {g_lengths : Nat → Int32} {g_letters : Nat → Int32} {o_places : Nat → Int32} {o_numbers : Nat → Int32} {o_flagsAround : Nat → Int32} {o_rows : Nat → Int32} {o_parts : Nat → Int32} {m_place : Int32} {m_behind : Int32} {m_notSet : Bool} {m_least : Int32} {m_greatest : Int32} {m_kind : Nat → Int32} {m_value : Nat → Int32} {m_most : Nat → Int32} {m_span : Nat → Int32} {m_size : Nat → Int32} {m_whose : Nat → Int32} {m_rangeFrom : Nat → Int32} {m_rangeMany : Nat → Int32} {m_begins : Nat → Int32} {m_ends : Nat → Int32} {m_names : Nat → Int32} {m_nameSize : Nat → Int32} {m_opened : Nat → Int32} {m_number : Nat → Int32} {m_flagsBefore : Nat → Int32} {m_rows : Nat → Int32} {m_parts : Nat → Int32} {m_low : Nat → Int32} {m_high : Nat → Int32} {m_many : Nat → Int32} (hM : MS m_low m_high m_many xs ys) (hS : RS N k nd rg ng dp R r p r_flags r_repeatable t_kinds t_values t_mosts t_owners t_sizes t_firstRanges t_rangeCounts t_begins t_ends t_waiting g_lengths g_letters o_places o_numbers o_flagsAround o_rows o_parts m_kind m_value m_most m_span m_size m_whose m_rangeFrom m_rangeMany m_begins m_ends m_names m_nameSize m_opened m_number m_flagsBefore m_rows m_parts) : StepOK N k (bnd_ (f_RDR_readEscapePart len 0 i_place s_pieces (nI nd) (nI rg) (nI R.length) (nI dp) e_kind e_value e_set e_others e_after (nI k) r_flags r_repeatable B s_begins s_ends t_kinds t_values t_mosts t_owners t_sizes t_firstRanges t_rangeCounts t_begins t_ends t_waiting o_parts) (fun y => some (y.1, y.2.1, y.2.2.1, y.2.2.2.1, y.2.2.2.2.1, y.2.2.2.2.2.1, nI ng, nI dp, y.2.2.2.2.2.2.1, y.2.2.2.2.2.2.2.1, y.2.2.2.2.2.2.2.2.1, y.2.2.2.2.2.2.2.2.2.1, y.2.2.2.2.2.2.2.2.2.2.1, cl_single, q_numbered, q_flagsAlone, q_nameAt, q_nameLength, q_flags, q_after, p_least, p_most, p_marked, p_after, p_number, y.2.2.2.2.2.2.2.2.2.2.2.1, r_flags, y.2.2.2.2.2.2.2.2.2.2.2.2.1, y.2.2.2.2.2.2.2.2.2.2.2.2.2.1, y.2.2.2.2.2.2.2.2.2.2.2.2.2.2.1, y.2.2.2.2.2.2.2.2.2.2.2.2.2.2.2.1, y.2.2.2.2.2.2.2.2.2.2.2.2.2.2.2.2.1, y.2.2.2.2.2.2.2.2.2.2.2.2.2.2.2.2.2.1, y.2.2.2.2.2.2.2.2.2.2.2.2.2.2.2.2.2.2.1, y.2.2.2.2.2.2.2.2.2.2.2.2.2.2.2.2.2.2.2.1, y.2.2.2.2.2.2.2.2.2.2.2.2.2.2.2.2.2.2.2.2.1, y.2.2.2.2.2.2.2.2.2.2.2.2.2.2.2.2.2.2.2.2.2.1, y.2.2.2.2.2.2.2.2.2.2.2.2.2.2.2.2.2.2.2.2.2.2.1, y.2.2.2.2.2.2.2.2.2.2.2.2.2.2.2.2.2.2.2.2.2.2.2.1, y.2.2.2.2.2.2.2.2.2.2.2.2.2.2.2.2.2.2.2.2.2.2.2.2.1, g_lengths, g_letters, o_places, o_numbers, o_flagsAround, o_rows, y.2.2.2.2.2.2.2.2.2.2.2.2.2.2.2.2.2.2.2.2.2.2.2.2.2))) (bnd_ (f_MOD_escape n (nI k) 0 m_place (nI nd) (nI rg) (nI dp) r_flags r_repeatable m_behind m_notSet X m_kind m_value m_most m_span m_size m_whose m_rangeFrom m_rangeMany m_begins m_ends m_parts m_low m_high m_many lk tb tl) (fun z => some (z.1, z.2.1, z.2.2.1, z.2.2.2.1, z.2.2.2.2.1, nI ng, nI dp, r_flags, z.2.2.2.2.2.1, z.2.2.2.2.2.2.1, z.2.2.2.2.2.2.2.1, m_least, m_greatest, z.2.2.2.2.2.2.2.2.1, z.2.2.2.2.2.2.2.2.2.1, z.2.2.2.2.2.2.2.2.2.2.1, z.2.2.2.2.2.2.2.2.2.2.2.1, z.2.2.2.2.2.2.2.2.2.2.2.2.1, z.2.2.2.2.2.2.2.2.2.2.2.2.2.1, z.2.2.2.2.2.2.2.2.2.2.2.2.2.2.1, z.2.2.2.2.2.2.2.2.2.2.2.2.2.2.2.1, z.2.2.2.2.2.2.2.2.2.2.2.2.2.2.2.2.1, z.2.2.2.2.2.2.2.2.2.2.2.2.2.2.2.2.2.1, m_names, m_nameSize, m_opened, m_number, m_flagsBefore, m_rows, z.2.2.2.2.2.2.2.2.2.2.2.2.2.2.2.2.2.2.1, z.2.2.2.2.2.2.2.2.2.2.2.2.2.2.2.2.2.2.2.1, z.2.2.2.2.2.2.2.2.2.2.2.2.2.2.2.2.2.2.2.2.1, z.2.2.2.2.2.2.2.2.2.2.2.2.2.2.2.2.2.2.2.2.2))) := by
  have hN := h.le
  have hd := hS.dp_le
  obtain ⟨s1, s2, s3, s4, s5⟩ := hS.small hN
  have ek : nI k + 1 = nI (k + 1) := nI_1 k
  have ek2 : nI k + 2 = nI (k + 2) := nI_add k 2
  have z00 : (0 : Int32) = 0 := rfl
  unfold f_RDR_readEscapePart f_MOD_escape
  rw [ek, ek2, bnd_s (at_M h (by omega))]
  rcases esc_eq h (k := k) (by omega) e_kind e_value e_set e_others e_after m_behind m_notSet hT.tb hT.tl hM with ⟨val, hv, q1, -, -, q4⟩ | ⟨hb, q1, -, -, q4⟩ | ⟨hn, w, hw, ⟨e', v', s', o', a', q1⟩, hq⟩ | ⟨hn, c, a, hc, ha1, ha2, ha3, q1, -, ⟨bh', ns', q2⟩, q3⟩ | ⟨hn, s, o, a, hs1, hs2, ha1, ha2, ha3, q1, -, l', h', m', q2, q3⟩
  · rw [bnd_s q1]
    have n1 : ¬ (3 : Int32) = 0 := by decide
    have n2 : ¬ (3 : Int32) = 1 := by decide
    simp only [↓reduceIte]
    rw [if_neg n1, if_neg n2]
    obtain ⟨ow2, sz2, wt2, sp2, sz2', wh2, l1, l2, l3⟩ := leaf_eq hS.tr (by omega) 3 val 1 (by decide) (fun s' _ => size1 (Or.inr (Or.inr (Or.inr rfl))) s')
    rw [bnd_s l1]
    unfold f_RDR_readEscapePart_L121 f_MOD_assertion
    rw [bnd_s (partC (by omega) _ _ _ _ _)]
    rcases hv with ⟨hb, rfl⟩ | ⟨hb, rfl⟩ | ⟨hb, rfl⟩ | ⟨hb, rfl⟩
    · rw [if_pos hb, bnd_s l2]
      simp only
      rw [bnd_s (partM (by omega) _ _)]
      exact ⟨_, _, rfl, rfl, Or.inr ⟨k + 2, by omega, rfl, rfl, nd + 1, rg, ng, dp, nd :: R, r, setN p dp (p dp + 1), ⟨rfl, rfl, rfl, rfl, rfl, rfl⟩, ⟨rfl, rfl, rfl, rfl, rfl, rfl, rfl⟩, ⟨xs, ys, hM⟩, hS.part l3 (by omega) (by omega) (by have := hS.rg_le; omega) hS.fl⟩⟩
    · have b1 : ¬ bt N B (k + 1) = 65 := by rw [hb]; decide
      rw [if_neg b1, if_pos hb, bnd_s l2]
      simp only
      rw [bnd_s (partM (by omega) _ _)]
      exact ⟨_, _, rfl, rfl, Or.inr ⟨k + 2, by omega, rfl, rfl, nd + 1, rg, ng, dp, nd :: R, r, setN p dp (p dp + 1), ⟨rfl, rfl, rfl, rfl, rfl, rfl⟩, ⟨rfl, rfl, rfl, rfl, rfl, rfl, rfl⟩, ⟨xs, ys, hM⟩, hS.part l3 (by omega) (by omega) (by have := hS.rg_le; omega) hS.fl⟩⟩
    · have b1 : ¬ bt N B (k + 1) = 65 := by rw [hb]; decide
      have b2 : ¬ bt N B (k + 1) = 122 := by rw [hb]; decide
      rw [if_neg b1, if_neg b2, if_pos hb, bnd_s l2]
      simp only
      rw [bnd_s (partM (by omega) _ _)]
      exact ⟨_, _, rfl, rfl, Or.inr ⟨k + 2, by omega, rfl, rfl, nd + 1, rg, ng, dp, nd :: R, r, setN p dp (p dp + 1), ⟨rfl, rfl, rfl, rfl, rfl, rfl⟩, ⟨rfl, rfl, rfl, rfl, rfl, rfl, rfl⟩, ⟨xs, ys, hM⟩, hS.part l3 (by omega) (by omega) (by have := hS.rg_le; omega) hS.fl⟩⟩
    · have b1 : ¬ bt N B (k + 1) = 65 := by rw [hb]; decide
      have b2 : ¬ bt N B (k + 1) = 122 := by rw [hb]; decide
      have b3 : ¬ bt N B (k + 1) = 98 := by rw [hb]; decide
      rw [if_neg b1, if_neg b2, if_neg b3, if_pos hb, bnd_s l2]
      simp only
      rw [bnd_s (partM (by omega) _ _)]
      exact ⟨_, _, rfl, rfl, Or.inr ⟨k + 2, by omega, rfl, rfl, nd + 1, rg, ng, dp, nd :: R, r, setN p dp (p dp + 1), ⟨rfl, rfl, rfl, rfl, rfl, rfl⟩, ⟨rfl, rfl, rfl, rfl, rfl, rfl, rfl⟩, ⟨xs, ys, hM⟩, hS.part l3 (by omega) (by omega) (by have := hS.rg_le; omega) hS.fl⟩⟩
  · rw [bnd_s q1]
    have n1 : ¬ (2 : Int32) = 0 := by decide
    have n2 : ¬ (2 : Int32) = 1 := by decide
    simp only [↓reduceIte]
    rw [if_neg n1, if_neg n2]
    obtain ⟨ow2, sz2, wt2, sp2, sz2', wh2, l1, l2, l3⟩ := leaf_eq hS.tr (by omega) 2 (-1) 1 (by decide) (fun s' _ => size1 (Or.inr (Or.inr (Or.inl rfl))) s')
    rw [bnd_s l1]
    unfold f_RDR_readEscapePart_L121
    have b1 : ¬ bt N B (k + 1) = 65 := by rw [hb]; decide
    have b2 : ¬ bt N B (k + 1) = 122 := by rw [hb]; decide
    have b3 : ¬ bt N B (k + 1) = 98 := by rw [hb]; decide
    have b4 : ¬ bt N B (k + 1) = 66 := by rw [hb]; decide
    rw [bnd_s (partC (by omega) _ _ _ _ _), if_neg b1, if_neg b2, if_neg b3, if_neg b4, if_pos hb, bnd_s l2, bnd_s (partM (by omega) _ _)]
    exact ⟨_, _, rfl, rfl, Or.inr ⟨k + 2, by omega, rfl, rfl, nd + 1, rg, ng, dp, nd :: R, r, setN p dp (p dp + 1), ⟨rfl, rfl, rfl, rfl, rfl, rfl⟩, ⟨rfl, rfl, rfl, rfl, rfl, rfl, rfl⟩, ⟨xs, ys, hM⟩, hS.part l3 (by omega) (by omega) (by have := hS.rg_le; omega) hS.fl⟩⟩
  · have b1 : ¬ bt N B (k + 1) = 65 := fun q => hn (Or.inl q)
    have b2 : ¬ bt N B (k + 1) = 122 := fun q => hn (Or.inr (Or.inr (Or.inr (Or.inr q))))
    have b3 : ¬ bt N B (k + 1) = 98 := fun q => hn (Or.inr (Or.inr (Or.inr (Or.inl q))))
    have b4 : ¬ bt N B (k + 1) = 66 := fun q => hn (Or.inr (Or.inl q))
    have b5 : ¬ bt N B (k + 1) = 67 := fun q => hn (Or.inr (Or.inr (Or.inl q)))
    have w0 : ¬ w = 0 := by rcases hw with rfl | rfl <;> decide
    rw [bnd_s q1, if_neg b1, if_neg b2, if_neg b3, if_neg b4, if_neg b5]
    simp only
    rw [if_neg w0]
    unfold f_MOD_escapeOfCharacters
    rcases hq with ⟨bh', ns', q2, -⟩ | ⟨w5, -, ⟨bh', ns', q2⟩, q3⟩
    · have w1 : ¬ (0 : Int32) ≤ -w := by rcases hw with rfl | rfl <;> decide
      rw [bnd_s q2]
      simp only
      rw [if_neg w1]
      have w2 : (0 : Int32) < - -w := by rcases hw with rfl | rfl <;> decide
      exact ⟨_, _, rfl, rfl, Or.inl ⟨w0, w2, ⟨dp, rfl, hS.dp_le⟩, xs, ys, hM⟩⟩
    · have w1 : (0 : Int32) ≤ 0 := by decide
      have w2 : ¬ (0 : Int32) = 1 := by decide
      have w3 : ¬ (0 : Int32) ≤ -1 := by decide
      obtain ⟨bh2, q4⟩ := q3 bh'
      rw [bnd_s q2]
      simp only
      rw [if_pos w1, if_neg w2, bnd_s q4]
      simp only
      rw [if_neg w3]
      exact ⟨_, _, rfl, rfl, Or.inl ⟨w0, (by decide : (0 : Int32) < 5), ⟨dp, rfl, hS.dp_le⟩, xs, ys, hM⟩⟩
  · have b1 : ¬ bt N B (k + 1) = 65 := fun q => hn (Or.inl q)
    have b2 : ¬ bt N B (k + 1) = 122 := fun q => hn (Or.inr (Or.inr (Or.inr (Or.inr q))))
    have b3 : ¬ bt N B (k + 1) = 98 := fun q => hn (Or.inr (Or.inr (Or.inr (Or.inl q))))
    have b4 : ¬ bt N B (k + 1) = 66 := fun q => hn (Or.inr (Or.inl q))
    have b5 : ¬ bt N B (k + 1) = 67 := fun q => hn (Or.inr (Or.inr (Or.inl q)))
    rw [bnd_s q1, if_neg b1, if_neg b2, if_neg b3, if_neg b4, if_neg b5]
    simp only [↓reduceIte]
    unfold f_MOD_escapeOfCharacters
    have w1 : (0 : Int32) ≤ 0 := by decide
    have w2 : ¬ (0 : Int32) = 1 := by decide
    have w3 : (0 : Int32) ≤ c := le_ti32.mpr hc.1
    rw [bnd_s q2]
    simp only
    rw [if_pos w1, if_neg w2, bnd_s (q3 bh')]
    simp only
    rw [if_pos w3]
    have hrg : rg + 8 ≤ 1600 ∨ (c.toInt < 128 ∧ rg + 4 ≤ 1600) := by
      have := hS.rg_le
      exact Or.inl (by omega)
    obtain ⟨sp2, sb2, se2, rg2, kn2, vl2, mo2, ow2, sz2, fr2, rc2, bg2, en2, wt2, kn2', vl2', mo2', sp2', sz2', wh2', rf2', rm2', bg2', en2', low2, high2, mn2, xs2, ys2, g1, g2, g3, g4, g5, g6⟩ := char_node h hT hk hM hS c hc hrg r_repeatable
    rw [bnd_s g1, bnd_s g2]
    unfold f_RDR_readEscapePart_L121
    rw [bnd_s (partC (by omega) _ _ _ _ _)]
    exact ⟨_, _, rfl, rfl, Or.inr ⟨a, by omega, rfl, rfl, nd + 1, rg2, ng, dp, nd :: R, r, setN p dp (p dp + 1), ⟨rfl, rfl, rfl, rfl, rfl, rfl⟩, ⟨rfl, rfl, rfl, rfl, rfl, rfl, rfl⟩, ⟨xs2, ys2, g3⟩, hS.part g6 (by omega) (by omega) (by have := hS.rg_le; omega) hS.fl⟩⟩
  · have b1 : ¬ bt N B (k + 1) = 65 := fun q => hn (Or.inl q)
    have b2 : ¬ bt N B (k + 1) = 122 := fun q => hn (Or.inr (Or.inr (Or.inr (Or.inr q))))
    have b3 : ¬ bt N B (k + 1) = 98 := fun q => hn (Or.inr (Or.inr (Or.inr (Or.inl q))))
    have b4 : ¬ bt N B (k + 1) = 66 := fun q => hn (Or.inr (Or.inl q))
    have b5 : ¬ bt N B (k + 1) = 67 := fun q => hn (Or.inr (Or.inr (Or.inl q)))
    have n1 : ¬ (1 : Int32) = 0 := by decide
    rw [bnd_s q1, if_neg b1, if_neg b2, if_neg b3, if_neg b4, if_neg b5]
    simp only [↓reduceIte]
    rw [if_neg n1]
    unfold f_MOD_escapeOfCharacters
    have w1 : (0 : Int32) ≤ 1 := by decide
    rw [bnd_s q2]
    simp only [↓reduceIte]
    rw [if_pos w1]
    obtain ⟨m1, m2⟩ := q3.empty0
    obtain ⟨y1, y2, y3⟩ := spk_len s (by omega) o
    have hrl : rg + (keepL (if o then compl 0 (sp s) else sp s)).length ≤ 4 * a := by
      have := hS.rg_le
      by_cases c5 : 5 ≤ s
      · have := ha3 c5; omega
      · have := y2 (by omega); omega
    obtain ⟨sp2, sb2, se2, rg2, kn2, vl2, mo2, ow2, sz2, fr2, rc2, bg2, en2, wt2, kn2', vl2', mo2', sp2', sz2', wh2', rf2', rm2', bg2', en2', low2, high2, mn2, xs2, g1, g2, g3, g4, g5, g6⟩ := fixed_node h hT hk hM hS (s := s) (by omega) o m2 (by omega) r_repeatable
    rw [bnd_s g1, bnd_s m1, bnd_s g2]
    simp only
    rw [bnd_s g3]
    unfold f_RDR_readEscapePart_L121
    rw [bnd_s (partC (by omega) _ _ _ _ _)]
    exact ⟨_, _, rfl, rfl, Or.inr ⟨a, by omega, rfl, rfl, nd + 1, rg2, ng, dp, nd :: R, r, setN p dp (p dp + 1), ⟨rfl, rfl, rfl, rfl, rfl, rfl⟩, ⟨rfl, rfl, rfl, rfl, rfl, rfl, rfl⟩, ⟨xs2, _, g4⟩, hS.part g6 (by omega) (by omega) (by omega) hS.fl⟩⟩

set_option maxRecDepth 100000
set_option linter.unusedVariables false
theorem br_class {len n : Int32} {B X : Ar} {N : Nat} (h : TX len B n X N) {lk tb tl tn : Ar} (hT : TB lk tb tl tn) {k : Nat} (hk : k < N) {nd rg ng dp : Nat} {R : List Nat} {r p : Nat → Nat} {xs ys : PL} {i_place : Int32} {s_pieces : Int32} {e_kind : Int32} {e_value : Int32} {e_set : Nat} {e_others : Bool} {e_after : Int32} {cl_single : Int32} {q_numbered : Bool} {q_flagsAlone : Bool} {q_nameAt : Int32} {q_nameLength : Int32} {q_flags : Int32} {q_after : Int32} {p_least : Int32} {p_most : Int32} {p_marked : Bool} {p_after : Int32} {p_number : Int32} {r_flags : Int32} {r_repeatable : Bool} {s_begins : Nat → Int32} {s_ends : Nat → Int32} {t_kinds : Nat → Int32} {t_values : Nat → Int32} {t_mosts : Nat → Int32} {t_owners : Nat → Int32} {t_sizes : Nat → Int32} {t_firstRanges : Nat → Int32} {t_rangeCounts : Nat → Int32} {t_begins : Nat → Int32} {t_ends : Nat → Int32} {t_waiting : Nat → Int32} {g_lengths : Nat → Int32} {g_letters : Nat → Int32} {o_places : Nat → Int32} {o_numbers : Nat → Int32} {o_flagsAround : Nat → Int32} {o_rows : Nat → Int32} {o_parts : Nat → Int32} {m_place : Int32} {m_behind : Int32} {m_notSet : Bool} {m_least : Int32} {m_greatest : Int32} {m_kind : Nat → Int32} {m_value : Nat → Int32} {m_most : Nat → Int32} {m_span : Nat → Int32} {m_size : Nat → Int32} {m_whose : Nat → Int32} {m_rangeFrom : Nat → Int32} {m_rangeMany : Nat → Int32} {m_begins : Nat → Int32} {m_ends : Nat → Int32} {m_names : Nat → Int32} {m_nameSize : Nat → Int32} {m_opened : Nat → Int32} {m_number : Nat → Int32} {m_flagsBefore : Nat → Int32} {m_rows : Nat → Int32} {m_parts : Nat → Int32} {m_low : Nat → Int32} {m_high : Nat → Int32} {m_many : Nat → Int32} (hM : MS m_low m_high m_many xs ys) (hS : RS N k nd rg ng dp R r p r_flags r_repeatable t_kinds t_values t_mosts t_owners t_sizes t_firstRanges t_rangeCounts t_begins t_ends t_waiting g_lengths g_letters o_places o_numbers o_flagsAround o_rows o_parts m_kind m_value m_most m_span m_size m_whose m_rangeFrom m_rangeMany m_begins m_ends m_names m_nameSize m_opened m_number m_flagsBefore m_rows m_parts) : StepOK N k (bnd_ (f_RDR_isOn r_flags 1) (fun u => bnd_ (f_CLS_readClass len 0 i_place s_pieces e_kind e_value e_set e_others e_after cl_single B s_begins s_ends (nI k) u) (fun x => bnd_ (f_RDR_addClassPart x.2.2.2.1 (nI nd) (nI rg) (nI R.length) (nI dp) (nI k) r_repeatable x.2.2.2.2.2.2.2.2.2.2.1 x.2.2.2.2.2.2.2.2.2.2.2 t_kinds t_values t_mosts t_owners t_sizes t_firstRanges t_rangeCounts t_begins t_ends t_waiting o_parts x.1) (fun y => some (x.2.1, x.2.2.1, x.2.2.2.1, y.1, y.2.1, y.2.2.1, nI ng, nI dp, x.2.2.2.2.1, x.2.2.2.2.2.1, x.2.2.2.2.2.2.1, x.2.2.2.2.2.2.2.1, x.2.2.2.2.2.2.2.2.1, x.2.2.2.2.2.2.2.2.2.1, q_numbered, q_flagsAlone, q_nameAt, q_nameLength, q_flags, q_after, p_least, p_most, p_marked, p_after, p_number, y.2.2.2.1, r_flags, y.2.2.2.2.1, x.2.2.2.2.2.2.2.2.2.2.1, x.2.2.2.2.2.2.2.2.2.2.2, y.2.2.2.2.2.1, y.2.2.2.2.2.2.1, y.2.2.2.2.2.2.2.1, y.2.2.2.2.2.2.2.2.1, y.2.2.2.2.2.2.2.2.2.1, y.2.2.2.2.2.2.2.2.2.2.1, y.2.2.2.2.2.2.2.2.2.2.2.1, y.2.2.2.2.2.2.2.2.2.2.2.2.1, y.2.2.2.2.2.2.2.2.2.2.2.2.2.1, y.2.2.2.2.2.2.2.2.2.2.2.2.2.2.1, g_lengths, g_letters, o_places, o_numbers, o_flagsAround, o_rows, y.2.2.2.2.2.2.2.2.2.2.2.2.2.2.2))))) (bnd_ (f_MOD_readClass n (nI k) 0 m_place (nI nd) (nI rg) (nI dp) r_flags r_repeatable m_behind m_notSet X m_kind m_value m_most m_span m_size m_whose m_rangeFrom m_rangeMany m_begins m_ends m_parts m_low m_high m_many lk tb tl tn) (fun z => some (z.1, z.2.1, z.2.2.1, z.2.2.2.1, z.2.2.2.2.1, nI ng, nI dp, r_flags, z.2.2.2.2.2.1, z.2.2.2.2.2.2.1, z.2.2.2.2.2.2.2.1, m_least, m_greatest, z.2.2.2.2.2.2.2.2.1, z.2.2.2.2.2.2.2.2.2.1, z.2.2.2.2.2.2.2.2.2.2.1, z.2.2.2.2.2.2.2.2.2.2.2.1, z.2.2.2.2.2.2.2.2.2.2.2.2.1, z.2.2.2.2.2.2.2.2.2.2.2.2.2.1, z.2.2.2.2.2.2.2.2.2.2.2.2.2.2.1, z.2.2.2.2.2.2.2.2.2.2.2.2.2.2.2.1, z.2.2.2.2.2.2.2.2.2.2.2.2.2.2.2.2.1, z.2.2.2.2.2.2.2.2.2.2.2.2.2.2.2.2.2.1, m_names, m_nameSize, m_opened, m_number, m_flagsBefore, m_rows, z.2.2.2.2.2.2.2.2.2.2.2.2.2.2.2.2.2.2.1, z.2.2.2.2.2.2.2.2.2.2.2.2.2.2.2.2.2.2.2.1, z.2.2.2.2.2.2.2.2.2.2.2.2.2.2.2.2.2.2.2.2.1, z.2.2.2.2.2.2.2.2.2.2.2.2.2.2.2.2.2.2.2.2.2))) := by
  have hN := h.le
  have hd := hS.dp_le
  obtain ⟨s1, s2, s3, s4, s5⟩ := hS.small hN
  have ek : nI k + 1 = nI (k + 1) := nI_1 k
  have ek2 : nI k + 2 = nI (k + 2) := nI_add k 2
  have bF : b2i false = 0 := by decide
  have bT : ¬ b2i true = 0 := by decide
  obtain ⟨on, o1, o2, _⟩ := isOn1 (F15_of hS.fl)
  obtain ⟨m1, m2⟩ := hM.empty0
  have hC : CSet 0 s_begins s_ends [] := ⟨rfl, trivial, trivial, fun p hp => (by cases hp)⟩
  rw [bnd_s o1]
  have fin : ∀ (oth : Bool) (k0 : Nat), k < k0 → k0 ≤ N → f_CLS_readClass_L34 len B (nI k) on oth (nI k0) 0 i_place s_pieces e_kind e_value e_set e_others e_after cl_single s_begins s_ends = f_CLS_readClass_L50 len B (nI k) on FU (oth, nI k0, nI k0, nI 0, 0, i_place, 0, e_kind, e_value, e_set, e_others, e_after, cl_single, s_begins, s_ends) →
      StepOK N k (bnd_ (f_CLS_readClass_L34 len B (nI k) on oth (nI k0) 0 i_place s_pieces e_kind e_value e_set e_others e_after cl_single s_begins s_ends) (fun x => bnd_ (f_RDR_addClassPart x.2.2.2.1 (nI nd) (nI rg) (nI R.length) (nI dp) (nI k) r_repeatable x.2.2.2.2.2.2.2.2.2.2.1 x.2.2.2.2.2.2.2.2.2.2.2 t_kinds t_values t_mosts t_owners t_sizes t_firstRanges t_rangeCounts t_begins t_ends t_waiting o_parts x.1) (fun y => some (x.2.1, x.2.2.1, x.2.2.2.1, y.1, y.2.1, y.2.2.1, nI ng, nI dp, x.2.2.2.2.1, x.2.2.2.2.2.1, x.2.2.2.2.2.2.1, x.2.2.2.2.2.2.2.1, x.2.2.2.2.2.2.2.2.1, x.2.2.2.2.2.2.2.2.2.1, q_numbered, q_flagsAlone, q_nameAt, q_nameLength, q_flags, q_after, p_least, p_most, p_marked, p_after, p_number, y.2.2.2.1, r_flags, y.2.2.2.2.1, x.2.2.2.2.2.2.2.2.2.2.1, x.2.2.2.2.2.2.2.2.2.2.2, y.2.2.2.2.2.1, y.2.2.2.2.2.2.1, y.2.2.2.2.2.2.2.1, y.2.2.2.2.2.2.2.2.1, y.2.2.2.2.2.2.2.2.2.1, y.2.2.2.2.2.2.2.2.2.2.1, y.2.2.2.2.2.2.2.2.2.2.2.1, y.2.2.2.2.2.2.2.2.2.2.2.2.1, y.2.2.2.2.2.2.2.2.2.2.2.2.2.1, y.2.2.2.2.2.2.2.2.2.2.2.2.2.2.1, g_lengths, g_letters, o_places, o_numbers, o_flagsAround, o_rows, y.2.2.2.2.2.2.2.2.2.2.2.2.2.2.2))))
        (bnd_ (f_MOD_readClass_L51 n (nI dp) r_flags X lk tb tl tn FU (nI k, oth, decide (k0 = k0), nI k0, 0, m_place, nI nd, nI rg, r_repeatable, m_behind, m_notSet, m_kind, m_value, m_most, m_span, m_size, m_whose, m_rangeFrom, m_rangeMany, m_begins, m_ends, m_parts, m_low, m_high, upd m_many 0 0)) (fun z => some (z.1, z.2.1, z.2.2.1, z.2.2.2.1, z.2.2.2.2.1, nI ng, nI dp, r_flags, z.2.2.2.2.2.1, z.2.2.2.2.2.2.1, z.2.2.2.2.2.2.2.1, m_least, m_greatest, z.2.2.2.2.2.2.2.2.1, z.2.2.2.2.2.2.2.2.2.1, z.2.2.2.2.2.2.2.2.2.2.1, z.2.2.2.2.2.2.2.2.2.2.2.1, z.2.2.2.2.2.2.2.2.2.2.2.2.1, z.2.2.2.2.2.2.2.2.2.2.2.2.2.1, z.2.2.2.2.2.2.2.2.2.2.2.2.2.2.1, z.2.2.2.2.2.2.2.2.2.2.2.2.2.2.2.1, z.2.2.2.2.2.2.2.2.2.2.2.2.2.2.2.2.1, z.2.2.2.2.2.2.2.2.2.2.2.2.2.2.2.2.2.1, m_names, m_nameSize, m_opened, m_number, m_flagsBefore, m_rows, z.2.2.2.2.2.2.2.2.2.2.2.2.2.2.2.2.2.2.1, z.2.2.2.2.2.2.2.2.2.2.2.2.2.2.2.2.2.2.2.1, z.2.2.2.2.2.2.2.2.2.2.2.2.2.2.2.2.2.2.2.2.1, z.2.2.2.2.2.2.2.2.2.2.2.2.2.2.2.2.2.2.2.2.2))) := by
    intro oth k0 hk0 hk1 e34
    have hSI : SI k0 k0 [] := ⟨[], by simp, fun p hp => (by cases hp), by simp⟩
    have qF : 999999 - (N - k0) + (N - k0) + 1 = FU := by show _ = 1000000; omega
    have cl := class_loop h hT o2 (nI k) i_place m_place oth (k0 := k0) (nI k) (nI dp) (nI nd) (nI rg) r_repeatable m_kind m_value m_most m_span m_size m_whose m_rangeFrom m_rangeMany m_begins m_ends m_parts (N - k0) k0 0 (by omega) (Nat.le_refl _) (by omega) e_kind e_value e_set e_others e_after cl_single m_behind m_notSet 0 s_begins s_ends m_low m_high (upd m_many 0 0) [] ys (999999 - (N - k0)) (999999 - (N - k0)) hC m2 hSI
    rw [qF] at cl
    rw [e34]
    rcases cl with ⟨w, pl', sp', ek', ev', es', eo', ea', sg', sb', se', at', w', pl2, bh', ns', l', h', m', xs2, ys2, w0, w1, c1, c2, c3⟩ | ⟨k', sp', ek', ev', es', eo', ea', sg', sb', se', bh', ns', l', h', m', xs', ys', q1, q2, q3, q4, q5, q6, c1, c2⟩
    · rw [c1, c2, bnd_s (rfl : some _ = some _)]
      unfold f_RDR_addClassPart
      simp only [↓reduceIte]
      exact ⟨_, _, rfl, rfl, Or.inl ⟨w0, w1, ⟨dp, rfl, hS.dp_le⟩, xs2, ys2, c3⟩⟩
    · rw [c1, c2, bnd_s (rfl : some _ = some _)]
      unfold f_RDR_addClassPart f_MOD_readClass_L95
      have z1 : ¬ nI (k' + 1) = -1 := fun q => by
        have q2 : (nI (k' + 1)).toInt = (-1 : Int32).toInt := by rw [q]
        rw [nI_toInt (by omega)] at q2
        have q3 : (-1 : Int32).toInt = -1 := rfl
        omega
      have z2 : (0 : Int32) ≤ 0 := by decide
      have z3 : nI k' < n := by rw [h.n]; exact (nI_ltI (by omega) (by omega)).mpr q2
      simp only
      rw [if_neg z1, if_pos z2, if_pos z3, nI_1]
      have hlen := q4.len q5.c0 (Nat.le_of_lt q2) hN
      obtain ⟨D, _, _, hl4⟩ := q4
      have nod : ∀ (l2 h2 m2 : Ar) (zs ws : PL), MS l2 h2 m2 zs ws → CSet sp' sb' se' (keepL zs) → zs.length ≤ xs'.length + 1 → canL zs → StepOK N k (bnd_ (f_TRE_addClass sp' (nI nd) (nI rg) (nI R.length) sb' se' t_kinds t_values t_mosts t_owners t_sizes t_firstRanges t_rangeCounts t_begins t_ends t_waiting) (fun x13 => bnd_ (f_RDR_partDone (nI dp) (nI k) r_repeatable o_parts (nI (k' + 1)) true) (fun x19 => some (x13.1, x13.2.1, x13.2.2.1, x19.1, x19.2.1, x13.2.2.2.1, x13.2.2.2.2.1, x13.2.2.2.2.2.1, x13.2.2.2.2.2.2.1, x13.2.2.2.2.2.2.2.1, x13.2.2.2.2.2.2.2.2.1, x13.2.2.2.2.2.2.2.2.2.1, x13.2.2.2.2.2.2.2.2.2.2.1, x13.2.2.2.2.2.2.2.2.2.2.2.1, x13.2.2.2.2.2.2.2.2.2.2.2.2, x19.2.2))) |> fun a => bnd_ a (fun y => some (0, i_place, sp', y.1, y.2.1, y.2.2.1, nI ng, nI dp, ek', ev', es', eo', ea', sg', q_numbered, q_flagsAlone, q_nameAt, q_nameLength, q_flags, q_after, p_least, p_most, p_marked, p_after, p_number, y.2.2.2.1, r_flags, y.2.2.2.2.1, sb', se', y.2.2.2.2.2.1, y.2.2.2.2.2.2.1, y.2.2.2.2.2.2.2.1, y.2.2.2.2.2.2.2.2.1, y.2.2.2.2.2.2.2.2.2.1, y.2.2.2.2.2.2.2.2.2.2.1, y.2.2.2.2.2.2.2.2.2.2.2.1, y.2.2.2.2.2.2.2.2.2.2.2.2.1, y.2.2.2.2.2.2.2.2.2.2.2.2.2.1, y.2.2.2.2.2.2.2.2.2.2.2.2.2.2.1, g_lengths, g_letters, o_places, o_numbers, o_flagsAround, o_rows, y.2.2.2.2.2.2.2.2.2.2.2.2.2.2.2))) (bnd_ (f_MOD_readClass_L139 n (nI dp) r_flags X lk tb tl tn (nI (k' + 1)) 0 m_place (nI nd) (nI rg) r_repeatable bh' ns' m_kind m_value m_most m_span m_size m_whose m_rangeFrom m_rangeMany m_begins m_ends m_parts l2 h2 m2) (fun z => some (z.1, z.2.1, z.2.2.1, z.2.2.2.1, z.2.2.2.2.1, nI ng, nI dp, r_flags, z.2.2.2.2.2.1, z.2.2.2.2.2.2.1, z.2.2.2.2.2.2.2.1, m_least, m_greatest, z.2.2.2.2.2.2.2.2.1, z.2.2.2.2.2.2.2.2.2.1, z.2.2.2.2.2.2.2.2.2.2.1, z.2.2.2.2.2.2.2.2.2.2.2.1, z.2.2.2.2.2.2.2.2.2.2.2.2.1, z.2.2.2.2.2.2.2.2.2.2.2.2.2.1, z.2.2.2.2.2.2.2.2.2.2.2.2.2.2.1, z.2.2.2.2.2.2.2.2.2.2.2.2.2.2.2.1, z.2.2.2.2.2.2.2.2.2.2.2.2.2.2.2.2.1, z.2.2.2.2.2.2.2.2.2.2.2.2.2.2.2.2.2.1, m_names, m_nameSize, m_opened, m_number, m_flagsBefore, m_rows, z.2.2.2.2.2.2.2.2.2.2.2.2.2.2.2.2.2.2.1, z.2.2.2.2.2.2.2.2.2.2.2.2.2.2.2.2.2.2.2.1, z.2.2.2.2.2.2.2.2.2.2.2.2.2.2.2.2.2.2.2.2.1, z.2.2.2.2.2.2.2.2.2.2.2.2.2.2.2.2.2.2.2.2.2))) := by
        intro l2 h2 m2 zs ws hms hcs hzl hcan
        have hkl := (keepL_len1 zs hcan).1
        obtain ⟨ow2, wt2, sp2, wh2, sz2, sz2', fr2, rf2, rc2, rm2, bg2, en2, bg2', en2', g1, g2, g3⟩ := classNode_eq hS.tr (by omega) hcs hms (by have := hS.rg_le; omega) (by omega) (dep := dp) (by omega) r_repeatable m_parts
        unfold f_MOD_readClass_L139
        simp only
        rw [bnd_s g1, bnd_s g2, bnd_s (partC (by omega) _ _ _ _ _)]
        exact ⟨_, _, rfl, rfl, Or.inr ⟨k' + 1, by omega, rfl, rfl, nd + 1, _, ng, dp, nd :: R, r, setN p dp (p dp + 1), ⟨rfl, rfl, rfl, rfl, rfl, rfl⟩, ⟨rfl, rfl, rfl, rfl, rfl, rfl, rfl⟩, ⟨zs, ws, hms⟩, hS.part g3 (by omega) (by omega) (by have := hS.rg_le; omega) hS.fl⟩⟩
      cases oth with
      | false =>
        rw [if_pos bF]
        exact nod l' h' m' xs' ys' q5 q6 (by omega) q5.c0
      | true =>
        obtain ⟨l2, h2, m3, n1, n2⟩ := mod_negate q5 (by omega)
        rw [if_neg bT, bnd_s n1]
        exact nod l2 h2 m3 (compl 0 xs') xs' n2 q6 (compl_len xs' 0) n2.c0
  unfold f_CLS_readClass f_MOD_readClass
  rw [ek, bnd_s (at_C h (by omega)), bnd_s (at_M h (by omega))]
  unfold f_CLS_readClass_L20 f_MOD_readClass_L25 f_MOD_readClass_L40
  by_cases c : bt N B (k + 1) = 94
  · have hk1 : k + 1 < N := bt_in h (by rw [c]; decide)
    rw [if_pos c, if_pos c, if_neg bT, if_neg bT, ek2, bnd_s m1]
    have := fin true (k + 2) (by omega) (by omega) rfl
    rw [decide_eq_true (rfl : k + 2 = k + 2)] at this
    exact this
  · rw [if_neg c, if_neg c, if_pos bF, if_pos bF, ek, bnd_s m1]
    have := fin false (k + 1) (by omega) (by omega) rfl
    rw [decide_eq_true (rfl : k + 1 = k + 1)] at this
    exact this

set_option maxRecDepth 100000
set_option linter.unusedVariables false
theorem bnd_assoc {α β γ : Type} (a : Option α) (f : α → β) (g : β → Option γ) : bnd_ (bnd_ a (fun x => some (f x))) g = bnd_ a (fun x => g (f x)) := by
  cases a <;> rfl
theorem step_eq {len n : Int32} {B X : Ar} {N : Nat} (h : TX len B n X N) {lk tb tl tn : Ar} (hT : TB lk tb tl tn) {k : Nat} (hk : k < N) {nd rg ng dp : Nat} {R : List Nat} {r p : Nat → Nat} {xs ys : PL} {i_place : Int32} {s_pieces : Int32} {e_kind : Int32} {e_value : Int32} {e_set : Nat} {e_others : Bool} {e_after : Int32} {cl_single : Int32} {q_numbered : Bool} {q_flagsAlone : Bool} {q_nameAt : Int32} {q_nameLength : Int32} {q_flags : Int32} {q_after : Int32} {p_least : Int32} {p_most : Int32} {p_marked : Bool} {p_after : Int32} {p_number : Int32} {r_flags : Int32} {r_repeatable : Bool} {s_begins : Nat → Int32} {s_ends : Nat → Int32} {t_kinds : Nat → Int32} {t_values : Nat → Int32} {t_mosts : Nat → Int32} {t_owners : Nat → Int32} {t_sizes : Nat → Int32} {t_firstRanges : Nat → Int32} {t_rangeCounts : Nat → Int32} {t_begins : Nat → Int32} {t_ends : Nat → Int32} {t_waiting : Nat → Int32} {g_lengths : Nat → Int32} {g_letters : Nat → Int32} {o_places : Nat → Int32} {o_numbers : Nat → Int32} {o_flagsAround : Nat → Int32} {o_rows : Nat → Int32} {o_parts : Nat → Int32} {m_place : Int32} {m_behind : Int32} {m_notSet : Bool} {m_least : Int32} {m_greatest : Int32} {m_kind : Nat → Int32} {m_value : Nat → Int32} {m_most : Nat → Int32} {m_span : Nat → Int32} {m_size : Nat → Int32} {m_whose : Nat → Int32} {m_rangeFrom : Nat → Int32} {m_rangeMany : Nat → Int32} {m_begins : Nat → Int32} {m_ends : Nat → Int32} {m_names : Nat → Int32} {m_nameSize : Nat → Int32} {m_opened : Nat → Int32} {m_number : Nat → Int32} {m_flagsBefore : Nat → Int32} {m_rows : Nat → Int32} {m_parts : Nat → Int32} {m_low : Nat → Int32} {m_high : Nat → Int32} {m_many : Nat → Int32} (hM : MS m_low m_high m_many xs ys) (hS : RS N k nd rg ng dp R r p r_flags r_repeatable t_kinds t_values t_mosts t_owners t_sizes t_firstRanges t_rangeCounts t_begins t_ends t_waiting g_lengths g_letters o_places o_numbers o_flagsAround o_rows o_parts m_kind m_value m_most m_span m_size m_whose m_rangeFrom m_rangeMany m_begins m_ends m_names m_nameSize m_opened m_number m_flagsBefore m_rows m_parts) : StepOK N k (rN len B (0, i_place, s_pieces, nI nd, nI rg, nI R.length, nI ng, nI dp, e_kind, e_value, e_set, e_others, e_after, cl_single, q_numbered, q_flagsAlone, q_nameAt, q_nameLength, q_flags, q_after, p_least, p_most, p_marked, p_after, p_number, nI k, r_flags, r_repeatable, s_begins, s_ends, t_kinds, t_values, t_mosts, t_owners, t_sizes, t_firstRanges, t_rangeCounts, t_begins, t_ends, t_waiting, g_lengths, g_letters, o_places, o_numbers, o_flagsAround, o_rows, o_parts)) (mS n X lk tb tl tn (nI k, 0, m_place, nI nd, nI rg, nI ng, nI dp, r_flags, r_repeatable, m_behind, m_notSet, m_least, m_greatest, m_kind, m_value, m_most, m_span, m_size, m_whose, m_rangeFrom, m_rangeMany, m_begins, m_ends, m_names, m_nameSize, m_opened, m_number, m_flagsBefore, m_rows, m_parts, m_low, m_high, m_many)) := by
  have hN := h.le
  by_cases c124 : bt N B k = 124
  · have n36 : ¬ (124 : Int32) = 36 := by decide
    have n40 : ¬ (124 : Int32) = 40 := by decide
    have n41 : ¬ (124 : Int32) = 41 := by decide
    have n42 : ¬ (124 : Int32) = 42 := by decide
    have n43 : ¬ (124 : Int32) = 43 := by decide
    have n46 : ¬ (124 : Int32) = 46 := by decide
    have n63 : ¬ (124 : Int32) = 63 := by decide
    have n91 : ¬ (124 : Int32) = 91 := by decide
    have n92 : ¬ (124 : Int32) = 92 := by decide
    have n94 : ¬ (124 : Int32) = 94 := by decide
    have n123 : ¬ (124 : Int32) = 123 := by decide
    refine br_bar h hT hk hM hS ?_ ?_
    · show f_RDR_readNext len 0 i_place s_pieces (nI nd) (nI rg) (nI R.length) (nI ng) (nI dp) e_kind e_value e_set e_others e_after cl_single q_numbered q_flagsAlone q_nameAt q_nameLength q_flags q_after p_least p_most p_marked p_after p_number (nI k) r_flags r_repeatable B s_begins s_ends t_kinds t_values t_mosts t_owners t_sizes t_firstRanges t_rangeCounts t_begins t_ends t_waiting g_lengths g_letters o_places o_numbers o_flagsAround o_rows o_parts = _
      unfold f_RDR_readNext
      rw [bnd_s (at_C h (by omega)), c124, if_neg n36, if_neg n40, if_neg n41, if_neg n42, if_neg n43, if_neg n46, if_neg n63, if_neg n91, if_neg n92, if_neg n94, if_neg n123, if_pos rfl]
    · show f_MOD_step n (nI k) 0 m_place (nI nd) (nI rg) (nI ng) (nI dp) r_flags r_repeatable m_behind m_notSet m_least m_greatest X m_kind m_value m_most m_span m_size m_whose m_rangeFrom m_rangeMany m_begins m_ends m_names m_nameSize m_opened m_number m_flagsBefore m_rows m_parts m_low m_high m_many lk tb tl tn = _
      unfold f_MOD_step
      rw [bnd_s (at_M h (by omega)), c124, if_neg n40, if_neg n41, if_neg n91, if_neg n92, if_neg n42, if_neg n43, if_neg n63, if_neg n123]
      unfold f_MOD_step_L104
      rw [if_pos rfl]
  by_cases c41 : bt N B k = 41
  · have n36 : ¬ (41 : Int32) = 36 := by decide
    have n40 : ¬ (41 : Int32) = 40 := by decide
    have n42 : ¬ (41 : Int32) = 42 := by decide
    have n43 : ¬ (41 : Int32) = 43 := by decide
    have n46 : ¬ (41 : Int32) = 46 := by decide
    have n63 : ¬ (41 : Int32) = 63 := by decide
    have n91 : ¬ (41 : Int32) = 91 := by decide
    have n92 : ¬ (41 : Int32) = 92 := by decide
    have n94 : ¬ (41 : Int32) = 94 := by decide
    have n123 : ¬ (41 : Int32) = 123 := by decide
    have n124 : ¬ (41 : Int32) = 124 := by decide
    refine br_close h hT hk hM hS ?_ ?_
    · show f_RDR_readNext len 0 i_place s_pieces (nI nd) (nI rg) (nI R.length) (nI ng) (nI dp) e_kind e_value e_set e_others e_after cl_single q_numbered q_flagsAlone q_nameAt q_nameLength q_flags q_after p_least p_most p_marked p_after p_number (nI k) r_flags r_repeatable B s_begins s_ends t_kinds t_values t_mosts t_owners t_sizes t_firstRanges t_rangeCounts t_begins t_ends t_waiting g_lengths g_letters o_places o_numbers o_flagsAround o_rows o_parts = _
      unfold f_RDR_readNext
      rw [bnd_s (at_C h (by omega)), c41, if_neg n36, if_neg n40, if_pos rfl]
    · show f_MOD_step n (nI k) 0 m_place (nI nd) (nI rg) (nI ng) (nI dp) r_flags r_repeatable m_behind m_notSet m_least m_greatest X m_kind m_value m_most m_span m_size m_whose m_rangeFrom m_rangeMany m_begins m_ends m_names m_nameSize m_opened m_number m_flagsBefore m_rows m_parts m_low m_high m_many lk tb tl tn = _
      unfold f_MOD_step
      rw [bnd_s (at_M h (by omega)), c41, if_neg n40, if_pos rfl]
  by_cases c40 : bt N B k = 40
  · have n36 : ¬ (40 : Int32) = 36 := by decide
    have n41 : ¬ (40 : Int32) = 41 := by decide
    have n42 : ¬ (40 : Int32) = 42 := by decide
    have n43 : ¬ (40 : Int32) = 43 := by decide
    have n46 : ¬ (40 : Int32) = 46 := by decide
    have n63 : ¬ (40 : Int32) = 63 := by decide
    have n91 : ¬ (40 : Int32) = 91 := by decide
    have n92 : ¬ (40 : Int32) = 92 := by decide
    have n94 : ¬ (40 : Int32) = 94 := by decide
    have n123 : ¬ (40 : Int32) = 123 := by decide
    have n124 : ¬ (40 : Int32) = 124 := by decide
    refine br_open h hT hk hM hS ?_ ?_
    · show f_RDR_readNext len 0 i_place s_pieces (nI nd) (nI rg) (nI R.length) (nI ng) (nI dp) e_kind e_value e_set e_others e_after cl_single q_numbered q_flagsAlone q_nameAt q_nameLength q_flags q_after p_least p_most p_marked p_after p_number (nI k) r_flags r_repeatable B s_begins s_ends t_kinds t_values t_mosts t_owners t_sizes t_firstRanges t_rangeCounts t_begins t_ends t_waiting g_lengths g_letters o_places o_numbers o_flagsAround o_rows o_parts = _
      unfold f_RDR_readNext
      rw [bnd_s (at_C h (by omega)), c40, if_neg n36, if_pos rfl]
    · show f_MOD_step n (nI k) 0 m_place (nI nd) (nI rg) (nI ng) (nI dp) r_flags r_repeatable m_behind m_notSet m_least m_greatest X m_kind m_value m_most m_span m_size m_whose m_rangeFrom m_rangeMany m_begins m_ends m_names m_nameSize m_opened m_number m_flagsBefore m_rows m_parts m_low m_high m_many lk tb tl tn = _
      unfold f_MOD_step
      rw [bnd_s (at_M h (by omega)), c40, if_pos rfl]
  by_cases c42 : bt N B k = 42
  · have n36 : ¬ (42 : Int32) = 36 := by decide
    have n40 : ¬ (42 : Int32) = 40 := by decide
    have n41 : ¬ (42 : Int32) = 41 := by decide
    have n43 : ¬ (42 : Int32) = 43 := by decide
    have n46 : ¬ (42 : Int32) = 46 := by decide
    have n63 : ¬ (42 : Int32) = 63 := by decide
    have n91 : ¬ (42 : Int32) = 91 := by decide
    have n92 : ¬ (42 : Int32) = 92 := by decide
    have n94 : ¬ (42 : Int32) = 94 := by decide
    have n123 : ¬ (42 : Int32) = 123 := by decide
    have n124 : ¬ (42 : Int32) = 124 := by decide
    show StepOK N k (f_RDR_readNext len 0 i_place s_pieces (nI nd) (nI rg) (nI R.length) (nI ng) (nI dp) e_kind e_value e_set e_others e_after cl_single q_numbered q_flagsAlone q_nameAt q_nameLength q_flags q_after p_least p_most p_marked p_after p_number (nI k) r_flags r_repeatable B s_begins s_ends t_kinds t_values t_mosts t_owners t_sizes t_firstRanges t_rangeCounts t_begins t_ends t_waiting g_lengths g_letters o_places o_numbers o_flagsAround o_rows o_parts) (f_MOD_step n (nI k) 0 m_place (nI nd) (nI rg) (nI ng) (nI dp) r_flags r_repeatable m_behind m_notSet m_least m_greatest X m_kind m_value m_most m_span m_size m_whose m_rangeFrom m_rangeMany m_begins m_ends m_names m_nameSize m_opened m_number m_flagsBefore m_rows m_parts m_low m_high m_many lk tb tl tn)
    unfold f_RDR_readNext f_MOD_step
    rw [bnd_s (at_C h (by omega)), bnd_s (at_M h (by omega)), c42, if_neg n36, if_neg n40, if_neg n41, if_pos rfl]
    rw [if_neg n40, if_neg n41, if_neg n91, if_neg n92, if_pos rfl]
    unfold f_MOD_step_L96
    exact br_rep h hT hk hM hS 42 c42 (Or.inl rfl)
  by_cases c43 : bt N B k = 43
  · have n36 : ¬ (43 : Int32) = 36 := by decide
    have n40 : ¬ (43 : Int32) = 40 := by decide
    have n41 : ¬ (43 : Int32) = 41 := by decide
    have n42 : ¬ (43 : Int32) = 42 := by decide
    have n46 : ¬ (43 : Int32) = 46 := by decide
    have n63 : ¬ (43 : Int32) = 63 := by decide
    have n91 : ¬ (43 : Int32) = 91 := by decide
    have n92 : ¬ (43 : Int32) = 92 := by decide
    have n94 : ¬ (43 : Int32) = 94 := by decide
    have n123 : ¬ (43 : Int32) = 123 := by decide
    have n124 : ¬ (43 : Int32) = 124 := by decide
    show StepOK N k (f_RDR_readNext len 0 i_place s_pieces (nI nd) (nI rg) (nI R.length) (nI ng) (nI dp) e_kind e_value e_set e_others e_after cl_single q_numbered q_flagsAlone q_nameAt q_nameLength q_flags q_after p_least p_most p_marked p_after p_number (nI k) r_flags r_repeatable B s_begins s_ends t_kinds t_values t_mosts t_owners t_sizes t_firstRanges t_rangeCounts t_begins t_ends t_waiting g_lengths g_letters o_places o_numbers o_flagsAround o_rows o_parts) (f_MOD_step n (nI k) 0 m_place (nI nd) (nI rg) (nI ng) (nI dp) r_flags r_repeatable m_behind m_notSet m_least m_greatest X m_kind m_value m_most m_span m_size m_whose m_rangeFrom m_rangeMany m_begins m_ends m_names m_nameSize m_opened m_number m_flagsBefore m_rows m_parts m_low m_high m_many lk tb tl tn)
    unfold f_RDR_readNext f_MOD_step
    rw [bnd_s (at_C h (by omega)), bnd_s (at_M h (by omega)), c43, if_neg n36, if_neg n40, if_neg n41, if_neg n42, if_pos rfl]
    rw [if_neg n40, if_neg n41, if_neg n91, if_neg n92, if_neg n42, if_pos rfl]
    unfold f_MOD_step_L96
    exact br_rep h hT hk hM hS 43 c43 (Or.inr (Or.inl rfl))
  by_cases c63 : bt N B k = 63
  · have n36 : ¬ (63 : Int32) = 36 := by decide
    have n40 : ¬ (63 : Int32) = 40 := by decide
    have n41 : ¬ (63 : Int32) = 41 := by decide
    have n42 : ¬ (63 : Int32) = 42 := by decide
    have n43 : ¬ (63 : Int32) = 43 := by decide
    have n46 : ¬ (63 : Int32) = 46 := by decide
    have n91 : ¬ (63 : Int32) = 91 := by decide
    have n92 : ¬ (63 : Int32) = 92 := by decide
    have n94 : ¬ (63 : Int32) = 94 := by decide
    have n123 : ¬ (63 : Int32) = 123 := by decide
    have n124 : ¬ (63 : Int32) = 124 := by decide
    show StepOK N k (f_RDR_readNext len 0 i_place s_pieces (nI nd) (nI rg) (nI R.length) (nI ng) (nI dp) e_kind e_value e_set e_others e_after cl_single q_numbered q_flagsAlone q_nameAt q_nameLength q_flags q_after p_least p_most p_marked p_after p_number (nI k) r_flags r_repeatable B s_begins s_ends t_kinds t_values t_mosts t_owners t_sizes t_firstRanges t_rangeCounts t_begins t_ends t_waiting g_lengths g_letters o_places o_numbers o_flagsAround o_rows o_parts) (f_MOD_step n (nI k) 0 m_place (nI nd) (nI rg) (nI ng) (nI dp) r_flags r_repeatable m_behind m_notSet m_least m_greatest X m_kind m_value m_most m_span m_size m_whose m_rangeFrom m_rangeMany m_begins m_ends m_names m_nameSize m_opened m_number m_flagsBefore m_rows m_parts m_low m_high m_many lk tb tl tn)
    unfold f_RDR_readNext f_MOD_step
    rw [bnd_s (at_C h (by omega)), bnd_s (at_M h (by omega)), c63, if_neg n36, if_neg n40, if_neg n41, if_neg n42, if_neg n43, if_neg n46, if_pos rfl]
    rw [if_neg n40, if_neg n41, if_neg n91, if_neg n92, if_neg n42, if_neg n43, if_pos rfl]
    unfold f_MOD_step_L96
    exact br_rep h hT hk hM hS 63 c63 (Or.inr (Or.inr rfl))
  by_cases c123 : bt N B k = 123
  · have n36 : ¬ (123 : Int32) = 36 := by decide
    have n40 : ¬ (123 : Int32) = 40 := by decide
    have n41 : ¬ (123 : Int32) = 41 := by decide
    have n42 : ¬ (123 : Int32) = 42 := by decide
    have n43 : ¬ (123 : Int32) = 43 := by decide
    have n46 : ¬ (123 : Int32) = 46 := by decide
    have n63 : ¬ (123 : Int32) = 63 := by decide
    have n91 : ¬ (123 : Int32) = 91 := by decide
    have n92 : ¬ (123 : Int32) = 92 := by decide
    have n94 : ¬ (123 : Int32) = 94 := by decide
    have n124 : ¬ (123 : Int32) = 124 := by decide
    show StepOK N k (f_RDR_readNext len 0 i_place s_pieces (nI nd) (nI rg) (nI R.length) (nI ng) (nI dp) e_kind e_value e_set e_others e_after cl_single q_numbered q_flagsAlone q_nameAt q_nameLength q_flags q_after p_least p_most p_marked p_after p_number (nI k) r_flags r_repeatable B s_begins s_ends t_kinds t_values t_mosts t_owners t_sizes t_firstRanges t_rangeCounts t_begins t_ends t_waiting g_lengths g_letters o_places o_numbers o_flagsAround o_rows o_parts) (f_MOD_step n (nI k) 0 m_place (nI nd) (nI rg) (nI ng) (nI dp) r_flags r_repeatable m_behind m_notSet m_least m_greatest X m_kind m_value m_most m_span m_size m_whose m_rangeFrom m_rangeMany m_begins m_ends m_names m_nameSize m_opened m_number m_flagsBefore m_rows m_parts m_low m_high m_many lk tb tl tn)
    unfold f_RDR_readNext f_MOD_step
    rw [bnd_s (at_C h (by omega)), bnd_s (at_M h (by omega)), c123, if_neg n36, if_neg n40, if_neg n41, if_neg n42, if_neg n43, if_neg n46, if_neg n63, if_neg n91, if_neg n92, if_neg n94, if_pos rfl]
    rw [if_neg n40, if_neg n41, if_neg n91, if_neg n92, if_neg n42, if_neg n43, if_neg n63, if_pos rfl]
    unfold f_MOD_step_L96 f_MOD_step_L104
    simp only [if_neg n124]
    exact br_brace h hT hk hM hS c123
  by_cases c91 : bt N B k = 91
  · have n36 : ¬ (91 : Int32) = 36 := by decide
    have n40 : ¬ (91 : Int32) = 40 := by decide
    have n41 : ¬ (91 : Int32) = 41 := by decide
    have n42 : ¬ (91 : Int32) = 42 := by decide
    have n43 : ¬ (91 : Int32) = 43 := by decide
    have n46 : ¬ (91 : Int32) = 46 := by decide
    have n63 : ¬ (91 : Int32) = 63 := by decide
    have n92 : ¬ (91 : Int32) = 92 := by decide
    have n94 : ¬ (91 : Int32) = 94 := by decide
    have n123 : ¬ (91 : Int32) = 123 := by decide
    have n124 : ¬ (91 : Int32) = 124 := by decide
    show StepOK N k (f_RDR_readNext len 0 i_place s_pieces (nI nd) (nI rg) (nI R.length) (nI ng) (nI dp) e_kind e_value e_set e_others e_after cl_single q_numbered q_flagsAlone q_nameAt q_nameLength q_flags q_after p_least p_most p_marked p_after p_number (nI k) r_flags r_repeatable B s_begins s_ends t_kinds t_values t_mosts t_owners t_sizes t_firstRanges t_rangeCounts t_begins t_ends t_waiting g_lengths g_letters o_places o_numbers o_flagsAround o_rows o_parts) (f_MOD_step n (nI k) 0 m_place (nI nd) (nI rg) (nI ng) (nI dp) r_flags r_repeatable m_behind m_notSet m_least m_greatest X m_kind m_value m_most m_span m_size m_whose m_rangeFrom m_rangeMany m_begins m_ends m_names m_nameSize m_opened m_number m_flagsBefore m_rows m_parts m_low m_high m_many lk tb tl tn)
    unfold f_RDR_readNext f_MOD_step
    rw [bnd_s (at_C h (by omega)), bnd_s (at_M h (by omega)), c91, if_neg n36, if_neg n40, if_neg n41, if_neg n42, if_neg n43, if_neg n46, if_neg n63, if_pos rfl]
    rw [if_neg n40, if_neg n41, if_pos rfl]
    exact br_class h hT hk hM hS
  by_cases c92 : bt N B k = 92
  · have n36 : ¬ (92 : Int32) = 36 := by decide
    have n40 : ¬ (92 : Int32) = 40 := by decide
    have n41 : ¬ (92 : Int32) = 41 := by decide
    have n42 : ¬ (92 : Int32) = 42 := by decide
    have n43 : ¬ (92 : Int32) = 43 := by decide
    have n46 : ¬ (92 : Int32) = 46 := by decide
    have n63 : ¬ (92 : Int32) = 63 := by decide
    have n91 : ¬ (92 : Int32) = 91 := by decide
    have n94 : ¬ (92 : Int32) = 94 := by decide
    have n123 : ¬ (92 : Int32) = 123 := by decide
    have n124 : ¬ (92 : Int32) = 124 := by decide
    show StepOK N k (f_RDR_readNext len 0 i_place s_pieces (nI nd) (nI rg) (nI R.length) (nI ng) (nI dp) e_kind e_value e_set e_others e_after cl_single q_numbered q_flagsAlone q_nameAt q_nameLength q_flags q_after p_least p_most p_marked p_after p_number (nI k) r_flags r_repeatable B s_begins s_ends t_kinds t_values t_mosts t_owners t_sizes t_firstRanges t_rangeCounts t_begins t_ends t_waiting g_lengths g_letters o_places o_numbers o_flagsAround o_rows o_parts) (f_MOD_step n (nI k) 0 m_place (nI nd) (nI rg) (nI ng) (nI dp) r_flags r_repeatable m_behind m_notSet m_least m_greatest X m_kind m_value m_most m_span m_size m_whose m_rangeFrom m_rangeMany m_begins m_ends m_names m_nameSize m_opened m_number m_flagsBefore m_rows m_parts m_low m_high m_many lk tb tl tn)
    unfold f_RDR_readNext f_MOD_step
    rw [bnd_s (at_C h (by omega)), bnd_s (at_M h (by omega)), c92, if_neg n36, if_neg n40, if_neg n41, if_neg n42, if_neg n43, if_neg n46, if_neg n63, if_neg n91, if_pos rfl]
    rw [if_neg n40, if_neg n41, if_neg n91, if_pos rfl]
    exact br_esc h hT hk hM hS
  by_cases c46 : bt N B k = 46
  · have n36 : ¬ (46 : Int32) = 36 := by decide
    have n40 : ¬ (46 : Int32) = 40 := by decide
    have n41 : ¬ (46 : Int32) = 41 := by decide
    have n42 : ¬ (46 : Int32) = 42 := by decide
    have n43 : ¬ (46 : Int32) = 43 := by decide
    have n63 : ¬ (46 : Int32) = 63 := by decide
    have n91 : ¬ (46 : Int32) = 91 := by decide
    have n92 : ¬ (46 : Int32) = 92 := by decide
    have n94 : ¬ (46 : Int32) = 94 := by decide
    have n123 : ¬ (46 : Int32) = 123 := by decide
    have n124 : ¬ (46 : Int32) = 124 := by decide
    show StepOK N k (f_RDR_readNext len 0 i_place s_pieces (nI nd) (nI rg) (nI R.length) (nI ng) (nI dp) e_kind e_value e_set e_others e_after cl_single q_numbered q_flagsAlone q_nameAt q_nameLength q_flags q_after p_least p_most p_marked p_after p_number (nI k) r_flags r_repeatable B s_begins s_ends t_kinds t_values t_mosts t_owners t_sizes t_firstRanges t_rangeCounts t_begins t_ends t_waiting g_lengths g_letters o_places o_numbers o_flagsAround o_rows o_parts) (f_MOD_step n (nI k) 0 m_place (nI nd) (nI rg) (nI ng) (nI dp) r_flags r_repeatable m_behind m_notSet m_least m_greatest X m_kind m_value m_most m_span m_size m_whose m_rangeFrom m_rangeMany m_begins m_ends m_names m_nameSize m_opened m_number m_flagsBefore m_rows m_parts m_low m_high m_many lk tb tl tn)
    unfold f_RDR_readNext f_MOD_step
    rw [bnd_s (at_C h (by omega)), bnd_s (at_M h (by omega)), c46, if_neg n36, if_neg n40, if_neg n41, if_neg n42, if_neg n43, if_pos rfl]
    rw [if_neg n40, if_neg n41, if_neg n91, if_neg n92, if_neg n42, if_neg n43, if_neg n63, if_neg n123]
    unfold f_MOD_step_L104
    rw [if_neg n124]
    exact br_any h hT hk hM hS
  by_cases c94 : bt N B k = 94
  · obtain ⟨on, o1, o2, o3⟩ := isOn2 (F15_of hS.fl)
    have n36 : ¬ (94 : Int32) = 36 := by decide
    have n40 : ¬ (94 : Int32) = 40 := by decide
    have n41 : ¬ (94 : Int32) = 41 := by decide
    have n42 : ¬ (94 : Int32) = 42 := by decide
    have n43 : ¬ (94 : Int32) = 43 := by decide
    have n46 : ¬ (94 : Int32) = 46 := by decide
    have n63 : ¬ (94 : Int32) = 63 := by decide
    have n91 : ¬ (94 : Int32) = 91 := by decide
    have n92 : ¬ (94 : Int32) = 92 := by decide
    have n123 : ¬ (94 : Int32) = 123 := by decide
    have n124 : ¬ (94 : Int32) = 124 := by decide
    cases on with
    | false =>
      have f2 : ¬ r_flags &&& 2 = 2 := fun q => by have := o2.mpr q; cases this
      refine br_assert h hT hk hM hS 94 0 c94 ?_ ?_
      · show f_RDR_readNext len 0 i_place s_pieces (nI nd) (nI rg) (nI R.length) (nI ng) (nI dp) e_kind e_value e_set e_others e_after cl_single q_numbered q_flagsAlone q_nameAt q_nameLength q_flags q_after p_least p_most p_marked p_after p_number (nI k) r_flags r_repeatable B s_begins s_ends t_kinds t_values t_mosts t_owners t_sizes t_firstRanges t_rangeCounts t_begins t_ends t_waiting g_lengths g_letters o_places o_numbers o_flagsAround o_rows o_parts = _
        unfold f_RDR_readNext
        rw [bnd_s (at_C h (by omega)), c94, if_neg n36, if_neg n40, if_neg n41, if_neg n42, if_neg n43, if_neg n46, if_neg n63, if_neg n91, if_neg n92, if_pos rfl, bnd_s o1, if_pos (by decide : b2i false = 0)]
        rfl
      · show f_MOD_step n (nI k) 0 m_place (nI nd) (nI rg) (nI ng) (nI dp) r_flags r_repeatable m_behind m_notSet m_least m_greatest X m_kind m_value m_most m_span m_size m_whose m_rangeFrom m_rangeMany m_begins m_ends m_names m_nameSize m_opened m_number m_flagsBefore m_rows m_parts m_low m_high m_many lk tb tl tn = _
        unfold f_MOD_step f_MOD_step_L104 f_MOD_plain
        rw [bnd_s (at_M h (by omega)), c94, if_neg n40, if_neg n41, if_neg n91, if_neg n92, if_neg n42, if_neg n43, if_neg n63, if_neg n123, if_neg n124, if_pos rfl, if_neg f2]
        unfold f_MOD_plain_L37
        exact bnd_assoc _ _ _
    | true =>
      have f2 : r_flags &&& 2 = 2 := o2.mp rfl
      refine br_assert h hT hk hM hS 94 2 c94 ?_ ?_
      · show f_RDR_readNext len 0 i_place s_pieces (nI nd) (nI rg) (nI R.length) (nI ng) (nI dp) e_kind e_value e_set e_others e_after cl_single q_numbered q_flagsAlone q_nameAt q_nameLength q_flags q_after p_least p_most p_marked p_after p_number (nI k) r_flags r_repeatable B s_begins s_ends t_kinds t_values t_mosts t_owners t_sizes t_firstRanges t_rangeCounts t_begins t_ends t_waiting g_lengths g_letters o_places o_numbers o_flagsAround o_rows o_parts = _
        unfold f_RDR_readNext
        rw [bnd_s (at_C h (by omega)), c94, if_neg n36, if_neg n40, if_neg n41, if_neg n42, if_neg n43, if_neg n46, if_neg n63, if_neg n91, if_neg n92, if_pos rfl, bnd_s o1, if_neg (by decide : ¬ b2i true = 0)]
        rfl
      · show f_MOD_step n (nI k) 0 m_place (nI nd) (nI rg) (nI ng) (nI dp) r_flags r_repeatable m_behind m_notSet m_least m_greatest X m_kind m_value m_most m_span m_size m_whose m_rangeFrom m_rangeMany m_begins m_ends m_names m_nameSize m_opened m_number m_flagsBefore m_rows m_parts m_low m_high m_many lk tb tl tn = _
        unfold f_MOD_step f_MOD_step_L104 f_MOD_plain
        rw [bnd_s (at_M h (by omega)), c94, if_neg n40, if_neg n41, if_neg n91, if_neg n92, if_neg n42, if_neg n43, if_neg n63, if_neg n123, if_neg n124, if_pos rfl, if_pos f2]
        unfold f_MOD_plain_L37
        exact bnd_assoc _ _ _
  by_cases c36 : bt N B k = 36
  · obtain ⟨on, o1, o2, o3⟩ := isOn2 (F15_of hS.fl)
    have n40 : ¬ (36 : Int32) = 40 := by decide
    have n41 : ¬ (36 : Int32) = 41 := by decide
    have n42 : ¬ (36 : Int32) = 42 := by decide
    have n43 : ¬ (36 : Int32) = 43 := by decide
    have n46 : ¬ (36 : Int32) = 46 := by decide
    have n63 : ¬ (36 : Int32) = 63 := by decide
    have n91 : ¬ (36 : Int32) = 91 := by decide
    have n92 : ¬ (36 : Int32) = 92 := by decide
    have n94 : ¬ (36 : Int32) = 94 := by decide
    have n123 : ¬ (36 : Int32) = 123 := by decide
    have n124 : ¬ (36 : Int32) = 124 := by decide
    cases on with
    | false =>
      have f2 : ¬ r_flags &&& 2 = 2 := fun q => by have := o2.mpr q; cases this
      refine br_assert h hT hk hM hS 36 1 c36 ?_ ?_
      · show f_RDR_readNext len 0 i_place s_pieces (nI nd) (nI rg) (nI R.length) (nI ng) (nI dp) e_kind e_value e_set e_others e_after cl_single q_numbered q_flagsAlone q_nameAt q_nameLength q_flags q_after p_least p_most p_marked p_after p_number (nI k) r_flags r_repeatable B s_begins s_ends t_kinds t_values t_mosts t_owners t_sizes t_firstRanges t_rangeCounts t_begins t_ends t_waiting g_lengths g_letters o_places o_numbers o_flagsAround o_rows o_parts = _
        unfold f_RDR_readNext
        rw [bnd_s (at_C h (by omega)), c36, if_pos rfl, bnd_s o1, if_pos (by decide : b2i false = 0)]
        rfl
      · show f_MOD_step n (nI k) 0 m_place (nI nd) (nI rg) (nI ng) (nI dp) r_flags r_repeatable m_behind m_notSet m_least m_greatest X m_kind m_value m_most m_span m_size m_whose m_rangeFrom m_rangeMany m_begins m_ends m_names m_nameSize m_opened m_number m_flagsBefore m_rows m_parts m_low m_high m_many lk tb tl tn = _
        unfold f_MOD_step f_MOD_step_L104 f_MOD_plain
        rw [bnd_s (at_M h (by omega)), c36, if_neg n40, if_neg n41, if_neg n91, if_neg n92, if_neg n42, if_neg n43, if_neg n63, if_neg n123, if_neg n124, if_neg n94, if_pos rfl, if_neg f2]
        unfold f_MOD_plain_L65
        exact bnd_assoc _ _ _
    | true =>
      have f2 : r_flags &&& 2 = 2 := o2.mp rfl
      refine br_assert h hT hk hM hS 36 3 c36 ?_ ?_
      · show f_RDR_readNext len 0 i_place s_pieces (nI nd) (nI rg) (nI R.length) (nI ng) (nI dp) e_kind e_value e_set e_others e_after cl_single q_numbered q_flagsAlone q_nameAt q_nameLength q_flags q_after p_least p_most p_marked p_after p_number (nI k) r_flags r_repeatable B s_begins s_ends t_kinds t_values t_mosts t_owners t_sizes t_firstRanges t_rangeCounts t_begins t_ends t_waiting g_lengths g_letters o_places o_numbers o_flagsAround o_rows o_parts = _
        unfold f_RDR_readNext
        rw [bnd_s (at_C h (by omega)), c36, if_pos rfl, bnd_s o1, if_neg (by decide : ¬ b2i true = 0)]
        rfl
      · show f_MOD_step n (nI k) 0 m_place (nI nd) (nI rg) (nI ng) (nI dp) r_flags r_repeatable m_behind m_notSet m_least m_greatest X m_kind m_value m_most m_span m_size m_whose m_rangeFrom m_rangeMany m_begins m_ends m_names m_nameSize m_opened m_number m_flagsBefore m_rows m_parts m_low m_high m_many lk tb tl tn = _
        unfold f_MOD_step f_MOD_step_L104 f_MOD_plain
        rw [bnd_s (at_M h (by omega)), c36, if_neg n40, if_neg n41, if_neg n91, if_neg n92, if_neg n42, if_neg n43, if_neg n63, if_neg n123, if_neg n124, if_neg n94, if_pos rfl, if_pos f2]
        unfold f_MOD_plain_L65
        exact bnd_assoc _ _ _
  show StepOK N k (f_RDR_readNext len 0 i_place s_pieces (nI nd) (nI rg) (nI R.length) (nI ng) (nI dp) e_kind e_value e_set e_others e_after cl_single q_numbered q_flagsAlone q_nameAt q_nameLength q_flags q_after p_least p_most p_marked p_after p_number (nI k) r_flags r_repeatable B s_begins s_ends t_kinds t_values t_mosts t_owners t_sizes t_firstRanges t_rangeCounts t_begins t_ends t_waiting g_lengths g_letters o_places o_numbers o_flagsAround o_rows o_parts) (f_MOD_step n (nI k) 0 m_place (nI nd) (nI rg) (nI ng) (nI dp) r_flags r_repeatable m_behind m_notSet m_least m_greatest X m_kind m_value m_most m_span m_size m_whose m_rangeFrom m_rangeMany m_begins m_ends m_names m_nameSize m_opened m_number m_flagsBefore m_rows m_parts m_low m_high m_many lk tb tl tn)
  unfold f_RDR_readNext f_MOD_step
  rw [bnd_s (at_C h (by omega)), bnd_s (at_M h (by omega)), if_neg c36, if_neg c40, if_neg c41, if_neg c42, if_neg c43, if_neg c46, if_neg c63, if_neg c91, if_neg c92, if_neg c94, if_neg c123, if_neg c124]
  rw [if_neg c40, if_neg c41, if_neg c91, if_neg c92, if_neg c42, if_neg c43, if_neg c63, if_neg c123]
  unfold f_MOD_step_L104
  rw [if_neg c124]
  exact br_char h hT hk hM hS (bt N B k) c94 c36 c46

