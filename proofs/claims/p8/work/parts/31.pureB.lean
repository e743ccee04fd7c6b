set_option maxRecDepth 100000
set_option linter.unusedVariables false
theorem bnd_s {α β : Type} {o : Option α} {x : α} {k : α → Option β} (h : o = some x) : bnd_ o k = k x := by rw [h]; rfl
theorem cl0 : (0 : Int32).toNatClampNeg = 0 := rfl
theorem cl1 : (1 : Int32).toNatClampNeg = 1 := rfl
theorem inb_c {i : Int32} {n : Nat} (h : inb i n = true := by decide) : inb i n = true := h
/-- the reference's two sets -/
abbrev MS (low high mn : Nat → Int32) (xs ys : PL) : Prop := (seg low high 0 xs) ∧ (mn 0 = nI xs.length) ∧ (seg low high 600 ys) ∧ (mn 1 = nI ys.length) ∧ (canL xs) ∧ (okL xs) ∧ (canL ys) ∧ (okL ys) ∧ (xs.length ≤ 600) ∧ (ys.length ≤ 600)
theorem MS.s0 {low high mn : Nat → Int32} {xs ys : PL} (h : MS low high mn xs ys) : seg low high 0 xs := h.1
theorem MS.m0 {low high mn : Nat → Int32} {xs ys : PL} (h : MS low high mn xs ys) : mn 0 = nI xs.length := h.2.1
theorem MS.s1 {low high mn : Nat → Int32} {xs ys : PL} (h : MS low high mn xs ys) : seg low high 600 ys := h.2.2.1
theorem MS.m1 {low high mn : Nat → Int32} {xs ys : PL} (h : MS low high mn xs ys) : mn 1 = nI ys.length := h.2.2.2.1
theorem MS.c0 {low high mn : Nat → Int32} {xs ys : PL} (h : MS low high mn xs ys) : canL xs := h.2.2.2.2.1
theorem MS.o0 {low high mn : Nat → Int32} {xs ys : PL} (h : MS low high mn xs ys) : okL xs := h.2.2.2.2.2.1
theorem MS.c1 {low high mn : Nat → Int32} {xs ys : PL} (h : MS low high mn xs ys) : canL ys := h.2.2.2.2.2.2.1
theorem MS.o1 {low high mn : Nat → Int32} {xs ys : PL} (h : MS low high mn xs ys) : okL ys := h.2.2.2.2.2.2.2.1
theorem MS.l0 {low high mn : Nat → Int32} {xs ys : PL} (h : MS low high mn xs ys) : xs.length ≤ 600 := h.2.2.2.2.2.2.2.2.1
theorem MS.l1 {low high mn : Nat → Int32} {xs ys : PL} (h : MS low high mn xs ys) : ys.length ≤ 600 := h.2.2.2.2.2.2.2.2.2
theorem MS.add0 {low high mn : Nat → Int32} {xs ys : PL} (h : MS low high mn xs ys) {p2 p3 : Int32} (hl : xs.length < 600) (h0 : 0 ≤ p2.toInt) (h1 : p2.toInt ≤ p3.toInt) (h2 : p3.toInt ≤ 1114111) :
    ∃ l' h' m', f_MOD_add low high mn 0 p2 p3 = some (l', h', m') ∧ MS l' h' m' (ins p2.toInt p3.toInt xs) ys := by
  obtain ⟨l', h', e1, e2, e3⟩ := mod_add (sn := 0) (by decide) h.c0 h.o0 hl (by simpa using h.s0) h.m0 h0 h1 h2
  refine ⟨l', h', _, e1, ⟨by simpa using e2, upd_at _ _ _, seg_out (l := low) (h := high) (fun j q1 q2 => e3 j (Or.inr (by omega))) h.s1, by rw [upd_ne (by decide)]; exact h.m1, ins_can _ _ _ h1 h.c0, ins_ok _ _ _ h1 h0 h2 h.o0, h.c1, h.o1, by have := (ins_len xs p2.toInt p3.toInt).1; omega, h.l1⟩⟩
theorem MS.add1 {low high mn : Nat → Int32} {xs ys : PL} (h : MS low high mn xs ys) {p2 p3 : Int32} (hl : ys.length < 600) (h0 : 0 ≤ p2.toInt) (h1 : p2.toInt ≤ p3.toInt) (h2 : p3.toInt ≤ 1114111) :
    ∃ l' h' m', f_MOD_add low high mn 1 p2 p3 = some (l', h', m') ∧ MS l' h' m' xs (ins p2.toInt p3.toInt ys) := by
  obtain ⟨l', h', e1, e2, e3⟩ := mod_add (sn := 1) (by decide) h.c1 h.o1 hl (by simpa using h.s1) h.m1 h0 h1 h2
  refine ⟨l', h', _, e1, ⟨seg_out (l := low) (h := high) (fun j q1 q2 => e3 j (Or.inl (by have := h.l0; omega))) h.s0, by rw [upd_ne (by decide)]; exact h.m0, by simpa using e2, upd_at _ _ _, h.c0, h.o0, ins_can _ _ _ h1 h.c1, ins_ok _ _ _ h1 h0 h2 h.o1, h.l0, by have := (ins_len ys p2.toInt p3.toInt).1; omega⟩⟩
theorem MS.empty0 {low high mn : Nat → Int32} {xs ys : PL} (h : MS low high mn xs ys) : f_MOD_empty mn 0 = some (upd mn 0 0) ∧ MS low high (upd mn 0 0) [] ys :=
  ⟨rfl, ⟨trivial, rfl, h.s1, by rw [upd_ne (by decide)]; exact h.m1, trivial, (fun p hp => nomatch hp), h.c1, h.o1, Nat.zero_le _, h.l1⟩⟩
theorem MS.empty1 {low high mn : Nat → Int32} {xs ys : PL} (h : MS low high mn xs ys) : f_MOD_empty mn 1 = some (upd mn 1 0) ∧ MS low high (upd mn 1 0) xs [] :=
  ⟨rfl, ⟨h.s0, by rw [upd_ne (by decide)]; exact h.m0, trivial, rfl, h.c0, h.o0, trivial, (fun p hp => nomatch hp), h.l0, Nat.zero_le _⟩⟩
/-- whatever lies in the arrays, two empty sets can be had -/
def foldIns (xs : PL) : PL → PL
  | [] => xs
  | (a, b) :: t => foldIns (ins a b xs) t
theorem foldIns_len : ∀ (ys xs : PL), (foldIns xs ys).length ≤ xs.length + ys.length := by
  intro ys
  induction ys with
  | nil => intro xs; exact Nat.le_refl _
  | cons p t ih =>
    intro xs
    obtain ⟨a, b⟩ := p
    have h1 := ih (ins a b xs)
    have h2 := (ins_len xs a b).1
    rw [foldIns]; simp only [List.length_cons]; omega
def okP (ys : PL) : Prop := ∀ p ∈ ys, 0 ≤ p.1 ∧ p.1 ≤ p.2 ∧ p.2 ≤ 1114111
theorem foldIns_can : ∀ (ys xs : PL), okL ys → canL xs → okL xs → canL (foldIns xs ys) ∧ okL (foldIns xs ys) := by
  intro ys
  induction ys with
  | nil => intro xs _ h1 h2; exact ⟨h1, h2⟩
  | cons p t ih =>
    intro xs hy h1 h2
    obtain ⟨a, b⟩ := p
    have hp := hy (a, b) List.mem_cons_self
    simp only at hp
    exact ih _ (fun q hq => hy q (List.mem_cons_of_mem _ hq)) (ins_can _ _ _ hp.2.1 h1) (ins_ok _ _ _ hp.2.1 hp.1 hp.2.2 h2)
theorem foldIns_mem : ∀ (ys xs : PL) (z : Int), okL ys → canL xs → (memL (foldIns xs ys) z ↔ memL xs z ∨ memL ys z) := by
  intro ys
  induction ys with
  | nil =>
    intro xs z _ _
    constructor
    · exact Or.inl
    · rintro (h | h)
      · exact h
      · exact absurd h memL_nil
  | cons p t ih =>
    intro xs z hy h1
    obtain ⟨a, b⟩ := p
    have hp := hy (a, b) List.mem_cons_self
    simp only at hp
    rw [foldIns, ih _ z (fun q hq => hy q (List.mem_cons_of_mem _ hq)) (ins_can _ _ _ hp.2.1 h1), ins_mem _ _ _ _ hp.2.1 h1, memL_cons]
    simp only
    constructor
    · rintro ((h | h) | h)
      · exact Or.inl h
      · exact Or.inr (Or.inl h)
      · exact Or.inr (Or.inr h)
    · rintro (h | h | h)
      · exact Or.inl (Or.inl h)
      · exact Or.inl (Or.inr h)
      · exact Or.inr h
theorem foldIns_self {ys : PL} (hc : canL ys) (ho : okL ys) : foldIns [] ys = ys := by
  refine canL_uniq _ _ (foldIns_can ys [] ho trivial (fun p hp => nomatch hp)).1 hc (fun z => ?_)
  rw [foldIns_mem ys [] z ho trivial]
  constructor
  · rintro (h | h)
    · exact absurd h memL_nil
    · exact h
  · exact Or.inr
-- give
theorem give_loop0 : ∀ (R D : PL) (xs : PL) (low high mn : Nat → Int32) (v2 : Int32) (F : Nat), MS low high mn xs (D ++ R) → xs.length + R.length < 600 →
    ∃ l' h' m', f_MOD_give_L4 false (F + R.length + 1) (v2, nI D.length, low, high, mn) = some (l', h', m') ∧ MS l' h' m' (foldIns xs R) (D ++ R) := by
  intro R
  induction R with
  | nil =>
    intro D xs low high mn v2 F h hl
    refine ⟨low, high, mn, ?_, h⟩
    have hL := h.l1
    have hm := h.m1
    rw [List.append_nil] at hL hm
    rw [f_MOD_give_L4_s]
    unfold f_MOD_give_B4
    rw [grd_t (show inb 1 2 = true by decide), cl1, hm, if_pos ((nI_leI (by omega) (by omega)).mpr (Nat.le_refl _)), if_pos (show b2i false = 0 from rfl)]
  | cons p r ih =>
    intro D xs low high mn v2 F h hl
    obtain ⟨x, y⟩ := p
    have hL := h.l1
    have hm := h.m1
    have hs := h.s1
    have hxy := h.o1 (x, y) (by simp)
    rw [seg_app] at hs
    simp only [List.length_append, List.length_cons] at hL hl hm
    simp only at hxy
    have e1 := hs.2.1
    have e2 := hs.2.2.1
    have ei : (600 : Int32) + nI D.length = nI (600 + D.length) := nI_add 600 _
    have ec : (nI (600 + D.length)).toNatClampNeg = 600 + D.length := nI_clamp (by omega)
    have gi : inb (nI (600 + D.length)) 1200 = true := inb_nI (by omega) (by decide)
    rw [show F + ((x, y) :: r).length + 1 = (F + r.length + 1) + 1 by simp only [List.length_cons]; omega, f_MOD_give_L4_s]
    unfold f_MOD_give_B4
    rw [grd_t (show inb 1 2 = true by decide), cl1, hm, if_neg (fun q => by have := (nI_leI (by omega) (by omega)).mp q; omega), ei, ec, grd_t gi, grd_t gi, if_pos (show b2i false = 0 from rfl)]
    obtain ⟨l', h', m', g1, g2⟩ := h.add0 (p2 := low (600 + D.length)) (p3 := high (600 + D.length)) (by omega) (by rw [e1]; omega) (by rw [e1, e2]; omega) (by rw [e2]; omega)
    rw [e1, e2] at g2
    rw [g1]
    show ∃ l2 h2 m2, f_MOD_give_L51 false _ _ _ _ _ _ _ _ = _ ∧ _
    unfold f_MOD_give_L51 f_MOD_give_L71
    rw [if_pos (show b2i false = 0 from rfl), nI_1]
    have := ih (D ++ [(x, y)]) (ins x y xs) l' h' m' (high (600 + D.length) + 1) F (by rw [List.append_assoc]; exact g2) (by have := (ins_len xs x y).1; omega)
    rw [List.append_assoc, show (D ++ [(x, y)]).length = D.length + 1 by simp] at this
    exact this
theorem mod_give0 {low high mn : Nat → Int32} {xs ys : PL} (h : MS low high mn xs ys) (hl : xs.length + ys.length < 600) : ∃ l' h' m', f_MOD_give low high mn false = some (l', h', m') ∧ MS l' h' m' (foldIns xs ys) ys := by
  unfold f_MOD_give
  have := give_loop0 ys [] xs low high mn 0 (999999 - ys.length) h hl
  rw [show 999999 - ys.length + ys.length + 1 = FU by rw [FU_s]; omega] at this
  exact this
theorem give_loop1 : ∀ (R D : PL) (xs : PL) (low high mn : Nat → Int32) (v2 : Int32) (F : Nat), MS low high mn xs (D ++ R) → xs.length + R.length + 1 < 600 → 0 ≤ v2.toInt → v2.toInt ≤ 1114112 →
    ∃ l' h' m', f_MOD_give_L4 true (F + R.length + 1) (v2, nI D.length, low, high, mn) = some (l', h', m') ∧ MS l' h' m' (foldIns xs (compl v2.toInt R)) (D ++ R) := by
  intro R
  induction R with
  | nil =>
    intro D xs low high mn v2 F h hl h0 h1
    have hL := h.l1
    have hm := h.m1
    rw [List.append_nil] at hL hm
    simp only [List.length_nil] at hl
    rw [f_MOD_give_L4_s]
    unfold f_MOD_give_B4
    rw [grd_t (show inb 1 2 = true by decide), cl1, hm, if_pos ((nI_leI (by omega) (by omega)).mpr (Nat.le_refl _)), if_neg (show ¬ b2i true = 0 by decide), compl]
    by_cases c : v2.toInt ≤ 1114111
    · rw [if_neg (fun q => by have := lt_ti.mp q; rw [ti_last] at this; omega), if_pos c]
      obtain ⟨l', h', m', g1, g2⟩ := h.add0 (p2 := v2) (p3 := 1114111) (by omega) h0 c (by decide)
      rw [g1]
      exact ⟨l', h', m', rfl, g2⟩
    · rw [if_pos (lt_ti.mpr (by rw [ti_last]; omega)), if_neg c]
      exact ⟨low, high, mn, rfl, h⟩
  | cons p r ih =>
    intro D xs low high mn v2 F h hl h0 h1
    obtain ⟨x, y⟩ := p
    have hL := h.l1
    have hm := h.m1
    have hs := h.s1
    have hxy := h.o1 (x, y) (by simp)
    rw [seg_app] at hs
    simp only [List.length_append, List.length_cons] at hL hl hm
    simp only at hxy
    have e1 := hs.2.1
    have e2 := hs.2.2.1
    have ei : (600 : Int32) + nI D.length = nI (600 + D.length) := nI_add 600 _
    have ec : (nI (600 + D.length)).toNatClampNeg = 600 + D.length := nI_clamp (by omega)
    have gi : inb (nI (600 + D.length)) 1200 = true := inb_nI (by omega) (by decide)
    have ee : (high (600 + D.length) + 1).toInt = y + 1 := by rw [ti_add (by rw [e2, ti1]; omega) (by rw [e2, ti1]; omega), e2, ti1]
    have eb : (low (600 + D.length) - 1).toInt = x - 1 := by rw [ti_sub (by rw [e1, ti1]; omega) (by rw [e1, ti1]; omega), e1, ti1]
    rw [show F + ((x, y) :: r).length + 1 = (F + r.length + 1) + 1 by simp only [List.length_cons]; omega, f_MOD_give_L4_s]
    unfold f_MOD_give_B4
    rw [grd_t (show inb 1 2 = true by decide), cl1, hm, if_neg (fun q => by have := (nI_leI (by omega) (by omega)).mp q; omega), ei, ec, grd_t gi, grd_t gi, if_neg (show ¬ b2i true = 0 by decide)]
    unfold f_MOD_give_L51 f_MOD_give_L71
    rw [if_neg (show ¬ b2i true = 0 by decide), nI_1, compl]
    by_cases c : v2.toInt < x
    · rw [if_neg (fun q => by have := le_ti.mp q; rw [e1] at this; omega), if_pos c]
      obtain ⟨l', h', m', g1, g2⟩ := h.add0 (p2 := v2) (p3 := low (600 + D.length) - 1) (by omega) h0 (by rw [eb]; omega) (by rw [eb]; omega)
      rw [eb] at g2
      rw [g1]
      have := ih (D ++ [(x, y)]) (ins v2.toInt (x - 1) xs) l' h' m' (high (600 + D.length) + 1) F (by rw [List.append_assoc]; exact g2) (by have := (ins_len xs v2.toInt (x - 1)).1; omega) (by rw [ee]; omega) (by rw [ee]; omega)
      rw [List.append_assoc, ee, show (D ++ [(x, y)]).length = D.length + 1 by simp] at this
      exact this
    · rw [if_pos (le_ti.mpr (by rw [e1]; omega)), if_neg c]
      have := ih (D ++ [(x, y)]) xs low high mn (high (600 + D.length) + 1) F (by rw [List.append_assoc]; exact h) (by omega) (by rw [ee]; omega) (by rw [ee]; omega)
      rw [List.append_assoc, ee, show (D ++ [(x, y)]).length = D.length + 1 by simp] at this
      exact this
theorem mod_give1 {low high mn : Nat → Int32} {xs ys : PL} (h : MS low high mn xs ys) (hl : xs.length + ys.length + 1 < 600) : ∃ l' h' m', f_MOD_give low high mn true = some (l', h', m') ∧ MS l' h' m' (foldIns xs (compl 0 ys)) ys := by
  unfold f_MOD_give
  have := give_loop1 ys [] xs low high mn 0 (999999 - ys.length) h hl (by decide) (by decide)
  rw [show 999999 - ys.length + ys.length + 1 = FU by rw [FU_s]; omega] at this
  exact this
-- negate
theorem neg_loop : ∀ (R D ys : PL) (low high mn : Nat → Int32) (F : Nat), MS low high mn (D ++ R) ys → ys.length + R.length + 1 < 600 →
    ∃ l' h' m', f_MOD_negate_L7 (F + R.length + 1) (nI D.length, low, high, mn) = some (l', h', m') ∧ MS l' h' m' (foldIns [] (compl 0 (foldIns ys R))) (foldIns ys R) := by
  intro R
  induction R with
  | nil =>
    intro D ys low high mn F h hl
    have hL := h.l0
    have hm := h.m0
    rw [List.append_nil] at hL hm
    simp only [List.length_nil] at hl
    rw [f_MOD_negate_L7_s]
    unfold f_MOD_negate_B7
    rw [grd_t (show inb 0 2 = true by decide), cl0, hm, if_pos ((nI_leI (by omega) (by omega)).mpr (Nat.le_refl _)), bnd_s h.empty0.1]
    obtain ⟨l', h', m', g1, g2⟩ := mod_give1 h.empty0.2 (by simp only [List.length_nil]; omega)
    rw [g1]
    exact ⟨l', h', m', rfl, g2⟩
  | cons p r ih =>
    intro D ys low high mn F h hl
    obtain ⟨x, y⟩ := p
    have hL := h.l0
    have hm := h.m0
    have hs := h.s0
    have hxy := h.o0 (x, y) (by simp)
    rw [seg_app] at hs
    simp only [List.length_append, List.length_cons] at hL hl hm
    simp only at hxy
    have e1 := hs.2.1
    have e2 := hs.2.2.1
    rw [Nat.zero_add] at e1 e2
    have ec : (nI D.length).toNatClampNeg = D.length := nI_clamp (by omega)
    have gi : inb (nI D.length) 1200 = true := inb_nI (by omega) (by decide)
    rw [show F + ((x, y) :: r).length + 1 = (F + r.length + 1) + 1 by simp only [List.length_cons]; omega, f_MOD_negate_L7_s]
    unfold f_MOD_negate_B7
    rw [grd_t (show inb 0 2 = true by decide), cl0, hm, if_neg (fun q => by have := (nI_leI (by omega) (by omega)).mp q; omega), ec, grd_t gi, grd_t gi]
    obtain ⟨l', h', m', g1, g2⟩ := h.add1 (p2 := low D.length) (p3 := high D.length) (by omega) (by rw [e1]; omega) (by rw [e1, e2]; omega) (by rw [e2]; omega)
    rw [e1, e2] at g2
    rw [bnd_s g1, nI_1]
    have := ih (D ++ [(x, y)]) (ins x y ys) l' h' m' F (by rw [List.append_assoc]; exact g2) (by have := (ins_len ys x y).1; omega)
    rw [show (D ++ [(x, y)]).length = D.length + 1 by simp] at this
    exact this
theorem abv_ok {xs : PL} (h : okL xs) : abv (0 - 1) xs := fun w hw => by have := h w hw; omega
theorem mod_negate {low high mn : Nat → Int32} {xs ys : PL} (h : MS low high mn xs ys) (hl : xs.length + 1 < 600) : ∃ l' h' m', f_MOD_negate low high mn = some (l', h', m') ∧ MS l' h' m' (compl 0 xs) xs := by
  unfold f_MOD_negate
  rw [bnd_s h.empty1.1]
  have := neg_loop xs [] [] low high (upd mn 1 0) (999999 - xs.length) h.empty1.2 (by simp only [List.length_nil]; omega)
  rw [show 999999 - xs.length + xs.length + 1 = FU by rw [FU_s]; omega, foldIns_self h.c0 h.o0, foldIns_self (compl_can xs 0 h.c0 h.o0 (abv_ok h.o0)).1 (compl_ok xs 0 h.c0 h.o0 (Int.le_refl _))] at this
  exact this
-- has
theorem has_loop (a b : Int32) : ∀ (R D xs : PL) (low high mn : Nat → Int32) (v : Bool) (F : Nat), MS low high mn xs (D ++ R) →
    f_MOD_has_L6 low high mn 1 a b (F + R.length + 1) (v, nI D.length) = some (v || R.any (fun p => decide (p.1 ≤ a.toInt ∧ b.toInt ≤ p.2))) := by
  intro R
  induction R with
  | nil =>
    intro D xs low high mn v F h
    have hL := h.l1
    have hm := h.m1
    rw [List.append_nil] at hL hm
    rw [f_MOD_has_L6_s]
    unfold f_MOD_has_B6
    rw [grd_t (show inb 1 2 = true by decide), cl1, hm, if_pos ((nI_leI (by omega) (by omega)).mpr (Nat.le_refl _))]
    simp
  | cons p r ih =>
    intro D xs low high mn v F h
    obtain ⟨x, y⟩ := p
    have hL := h.l1
    have hm := h.m1
    have hs := h.s1
    rw [seg_app] at hs
    simp only [List.length_append, List.length_cons] at hL hm
    have e1 := hs.2.1
    have e2 := hs.2.2.1
    have ei : (600 : Int32) * 1 + nI D.length = nI (600 + D.length) := nI_add 600 _
    have ec : (nI (600 + D.length)).toNatClampNeg = 600 + D.length := nI_clamp (by omega)
    have gi : inb (nI (600 + D.length)) 1200 = true := inb_nI (by omega) (by decide)
    have hi := fun w => ih (D ++ [(x, y)]) xs low high mn w F (by rw [List.append_assoc]; exact h)
    rw [show (D ++ [(x, y)]).length = D.length + 1 by simp] at hi
    rw [show F + ((x, y) :: r).length + 1 = (F + r.length + 1) + 1 by simp only [List.length_cons]; omega, f_MOD_has_L6_s]
    unfold f_MOD_has_B6
    rw [grd_t (show inb 1 2 = true by decide), cl1, hm, if_neg (fun q => by have := (nI_leI (by omega) (by omega)).mp q; omega), ei, ec, nI_1]
    cases v with
    | true => rw [if_neg (show ¬ b2i true = 0 by decide), hi]; simp
    | false =>
      rw [if_pos (show b2i false = 0 from rfl), grd_t gi]
      by_cases c1 : x ≤ a.toInt
      · rw [if_neg (fun q => by have := lt_ti.mp q; rw [e1] at this; omega), grd_t gi]
        by_cases c2 : b.toInt ≤ y
        · rw [if_neg (fun q => by have := lt_ti.mp q; rw [e2] at this; omega), hi]
          simp [c1, c2]
        · rw [if_pos (lt_ti.mpr (by rw [e2]; omega)), hi]
          simp [c1, c2]
      · rw [if_pos (lt_ti.mpr (by rw [e1]; omega)), hi]
        simp [c1]
theorem mod_has {low high mn : Nat → Int32} {xs ys : PL} (h : MS low high mn xs ys) (a b : Int32) : f_MOD_has low high mn 1 a b = some (ys.any (fun p => decide (p.1 ≤ a.toInt ∧ b.toInt ≤ p.2))) := by
  unfold f_MOD_has
  have := has_loop a b ys [] xs low high mn false (999999 - ys.length) h
  rw [show 999999 - ys.length + ys.length + 1 = FU by rw [FU_s]; have := h.l1; omega, Bool.false_or] at this
  exact this

set_option maxRecDepth 100000
set_option linter.unusedVariables false
-- shift
theorem can_contig {ys : PL} (hc : canL ys) {a b : Int} (hab : a ≤ b) (h : ∀ z, a ≤ z → z ≤ b → memL ys z) : ys.any (fun p => decide (p.1 ≤ a ∧ b ≤ p.2)) = true := by
  induction ys with
  | nil => exact absurd (h a (Int.le_refl _) hab) memL_nil
  | cons p t ih =>
    obtain ⟨x, y⟩ := p
    obtain ⟨c1, c2, c3⟩ := canL_tail hc
    simp only at c2 c3
    have lt : ∀ z, memL t z → y + 1 < z := by
      rintro z ⟨q, hq, h1, h2⟩
      have := c3 q hq; omega
    rw [List.any_cons]
    by_cases c : x ≤ a ∧ b ≤ y
    · simp [c]
    · rw [ih c1 (fun z h1 h2 => ?_), Bool.or_true]
      rcases memL_cons.mp (h z h1 h2) with q | q
      · simp only at q
        -- a piece of the head only: then y + 1 or a lies elsewhere
        exfalso
        rcases memL_cons.mp (h a (Int.le_refl _) hab) with u | u
        · simp only at u
          have hb : y < b := by omega
          rcases memL_cons.mp (h (y + 1) (by omega) (by omega)) with w | w
          · simp only at w; omega
          · have := lt _ w; omega
        · have := lt _ u; omega
      · exact q
def shOK (d f t : Int) : Prop := 0 ≤ f ∧ t ≤ 8491 ∧ 0 ≤ f - d ∧ t - d ≤ 8491 ∧ f ≤ t
theorem shift_loop (p1 p2 p3 : Int32) (hsh : shOK p3.toInt p1.toInt p2.toInt) (hd : -10000 ≤ p3.toInt ∧ p3.toInt ≤ 10000) : ∀ (R D xs : PL) (low high mn : Nat → Int32) (F : Nat), MS low high mn xs (D ++ R) → (D ++ R).length < 600 →
    (∀ z, memL D z → p1.toInt ≤ z → z ≤ p2.toInt → memL (D ++ R) (z - p3.toInt)) →
    ∃ r l' h' m' ys', f_MOD_shift_L3 p1 p2 p3 (F + R.length + 1) (nI D.length, low, high, mn) = some (r, l', h', m') ∧ MS l' h' m' xs ys' ∧
      ((r = false ∧ ys' = D ++ R ∧ ∀ z, memL (D ++ R) z → p1.toInt ≤ z → z ≤ p2.toInt → memL (D ++ R) (z - p3.toInt)) ∨
       (r = true ∧ ∃ a b, a ≤ b ∧ 0 ≤ a ∧ b ≤ 8491 ∧ ys' = ins a b (D ++ R) ∧ (∀ z, a ≤ z → z ≤ b → memL (D ++ R) (z + p3.toInt) ∧ p1.toInt ≤ z + p3.toInt ∧ z + p3.toInt ≤ p2.toInt) ∧ ∃ z, a ≤ z ∧ z ≤ b ∧ ¬ memL (D ++ R) z)) := by
  intro R
  induction R with
  | nil =>
    intro D xs low high mn F h hl hD
    have hm := h.m1
    rw [List.append_nil] at hm hl
    refine ⟨false, low, high, mn, D ++ [], ?_, h, Or.inl ⟨rfl, rfl, ?_⟩⟩
    · rw [f_MOD_shift_L3_s]
      unfold f_MOD_shift_B3
      rw [grd_t (show inb 1 2 = true by decide), cl1, hm, if_pos ((nI_leI (by omega) (by omega)).mpr (Nat.le_refl _))]
    · intro z hz; rw [List.append_nil] at hz; exact hD z hz
  | cons p r ih =>
    intro D xs low high mn F h hl hD
    obtain ⟨x, y⟩ := p
    have hm := h.m1
    have hs := h.s1
    have hxy := h.o1 (x, y) (by simp)
    rw [seg_app] at hs
    have hl' := hl
    simp only [List.length_append, List.length_cons] at hl' hm
    simp only at hxy
    have e1 := hs.2.1
    have e2 := hs.2.2.1
    have ei : (600 : Int32) + nI D.length = nI (600 + D.length) := nI_add 600 _
    have ec : (nI (600 + D.length)).toNatClampNeg = 600 + D.length := nI_clamp (by omega)
    have gi : inb (nI (600 + D.length)) 1200 = true := inb_nI (by omega) (by decide)
    have hi := ih (D ++ [(x, y)]) xs low high mn F (by rw [List.append_assoc]; exact h) (by rw [List.append_assoc]; exact hl)
    rw [show (D ++ [(x, y)]).length = D.length + 1 by simp, List.append_assoc] at hi
    have memA : ∀ z, memL (D ++ [(x, y)]) z ↔ memL D z ∨ (x ≤ z ∧ z ≤ y) := by
      intro z
      constructor
      · rintro ⟨q, hq, u⟩
        rcases List.mem_append.mp hq with hq | hq
        · exact Or.inl ⟨q, hq, u⟩
        · rw [List.mem_singleton] at hq; subst hq; exact Or.inr u
      · rintro (⟨q, hq, u⟩ | u)
        · exact ⟨q, List.mem_append_left _ hq, u⟩
        · exact ⟨(x, y), by simp, u⟩
    have memB : ∀ z, x ≤ z → z ≤ y → memL (D ++ (x, y) :: r) z := fun z u v => ⟨(x, y), by simp, u, v⟩
    obtain ⟨k1, k2, k3, k4, k5⟩ := hsh
    -- the two ends
    have main : ∀ (a b : Int32), a.toInt = (if x ≤ p1.toInt then p1.toInt else x) → b.toInt = (if p2.toInt ≤ y then p2.toInt else y) →
        ∃ rr l' h' m' ys', f_MOD_shift_L76 p1 p2 p3 (f_MOD_shift_L3 p1 p2 p3 (F + r.length + 1)) (nI D.length) a b low high mn = some (rr, l', h', m') ∧ MS l' h' m' xs ys' ∧
      ((rr = false ∧ ys' = D ++ (x, y) :: r ∧ ∀ z, memL (D ++ (x, y) :: r) z → p1.toInt ≤ z → z ≤ p2.toInt → memL (D ++ (x, y) :: r) (z - p3.toInt)) ∨
       (rr = true ∧ ∃ a b, a ≤ b ∧ 0 ≤ a ∧ b ≤ 8491 ∧ ys' = ins a b (D ++ (x, y) :: r) ∧ (∀ z, a ≤ z → z ≤ b → memL (D ++ (x, y) :: r) (z + p3.toInt) ∧ p1.toInt ≤ z + p3.toInt ∧ z + p3.toInt ≤ p2.toInt) ∧ ∃ z, a ≤ z ∧ z ≤ b ∧ ¬ memL (D ++ (x, y) :: r) z)) := by
      intro a b ha hb
      have ba : 0 ≤ a.toInt ∧ a.toInt ≤ 1200000 := by rw [ha]; split <;> omega
      have bb : -10000 ≤ b.toInt ∧ b.toInt ≤ 1200000 := by rw [hb]; split <;> omega
      have sa : (a - p3).toInt = a.toInt - p3.toInt := ti_sub (by omega) (by omega)
      have sb : (b - p3).toInt = b.toInt - p3.toInt := ti_sub (by omega) (by omega)
      unfold f_MOD_shift_L76
      by_cases c : b.toInt < a.toInt
      · rw [if_pos (lt_ti.mpr c), nI_1]
        refine hi (fun z hz u v => ?_)
        rcases (memA z).mp hz with q | q
        · exact hD z q u v
        · exfalso
          split at ha <;> split at hb <;> omega
      · rw [if_neg (fun q => c (lt_ti.mp q)), bnd_s (mod_has h (a - p3) (b - p3)), sa, sb]
        cases hh : (D ++ (x, y) :: r).any (fun p => decide (p.1 ≤ a.toInt - p3.toInt ∧ b.toInt - p3.toInt ≤ p.2)) with
        | false =>
          rw [if_pos (show b2i false = 0 from rfl)]
          obtain ⟨l', h', m', g1, g2⟩ := h.add1 (p2 := a - p3) (p3 := b - p3) hl (by rw [sa]; split at ha <;> omega) (by rw [sa, sb]; omega) (by rw [sb]; split at hb <;> omega)
          rw [bnd_s g1]
          rw [sa, sb] at g2
          refine ⟨true, l', h', m', _, rfl, g2, Or.inr ⟨rfl, a.toInt - p3.toInt, b.toInt - p3.toInt, by omega, by split at ha <;> omega, by split at hb <;> omega, rfl, ?_, ?_⟩⟩
          · intro z u v
            refine ⟨memB _ ?_ ?_, ?_, ?_⟩
            · split at ha <;> omega
            · split at hb <;> omega
            · split at ha <;> omega
            · split at hb <;> omega
          · apply Classical.byContradiction
            intro hno
            have hall : ∀ z, a.toInt - p3.toInt ≤ z → z ≤ b.toInt - p3.toInt → memL (D ++ (x, y) :: r) z := fun z u v => Classical.byContradiction fun w => hno ⟨z, u, v, w⟩
            have := can_contig h.c1 (show a.toInt - p3.toInt ≤ b.toInt - p3.toInt by omega) hall
            rw [hh] at this; cases this
        | true =>
          rw [if_neg (show ¬ b2i true = 0 by decide), nI_1]
          refine hi (fun z hz u v => ?_)
          rcases (memA z).mp hz with q | q
          · exact hD z q u v
          · obtain ⟨w, hw, w2⟩ := List.any_eq_true.mp hh
            have w2 := of_decide_eq_true w2
            refine ⟨w, hw, ?_, ?_⟩
            · split at ha <;> omega
            · split at hb <;> omega
    have step2 : ∀ (a : Int32), a.toInt = (if x ≤ p1.toInt then p1.toInt else x) → ∃ rr l' h' m' ys', f_MOD_shift_L44 p1 p2 p3 (f_MOD_shift_L3 p1 p2 p3 (F + r.length + 1)) (nI D.length) a low high mn = some (rr, l', h', m') ∧ MS l' h' m' xs ys' ∧
      ((rr = false ∧ ys' = D ++ (x, y) :: r ∧ ∀ z, memL (D ++ (x, y) :: r) z → p1.toInt ≤ z → z ≤ p2.toInt → memL (D ++ (x, y) :: r) (z - p3.toInt)) ∨
       (rr = true ∧ ∃ a b, a ≤ b ∧ 0 ≤ a ∧ b ≤ 8491 ∧ ys' = ins a b (D ++ (x, y) :: r) ∧ (∀ z, a ≤ z → z ≤ b → memL (D ++ (x, y) :: r) (z + p3.toInt) ∧ p1.toInt ≤ z + p3.toInt ∧ z + p3.toInt ≤ p2.toInt) ∧ ∃ z, a ≤ z ∧ z ≤ b ∧ ¬ memL (D ++ (x, y) :: r) z)) := by
      intro a ha
      unfold f_MOD_shift_L44
      rw [ei, ec, grd_t gi]
      by_cases c : p2.toInt ≤ y
      · rw [if_pos (le_ti.mpr (by rw [e2]; exact c))]
        exact main a p2 ha (by rw [if_pos c])
      · rw [if_neg (fun q => c (by have := le_ti.mp q; rw [e2] at this; exact this)), grd_t gi]
        exact main a _ ha (by rw [if_neg c, e2])
    rw [show F + ((x, y) :: r).length + 1 = (F + r.length + 1) + 1 by simp only [List.length_cons]; omega, f_MOD_shift_L3_s]
    unfold f_MOD_shift_B3
    rw [grd_t (show inb 1 2 = true by decide), cl1, hm, if_neg (fun q => by have := (nI_leI (by omega) (by omega)).mp q; omega), ei, ec, grd_t gi]
    by_cases c : x ≤ p1.toInt
    · rw [if_pos (le_ti.mpr (by rw [e1]; exact c))]
      exact step2 p1 (by rw [if_pos c])
    · rw [if_neg (fun q => c (by have := le_ti.mp q; rw [e1] at this; exact this)), grd_t gi]
      exact step2 _ (by rw [if_neg c, e1])
theorem mod_shift {low high mn : Nat → Int32} {xs ys : PL} (h : MS low high mn xs ys) (hl : ys.length < 600) (p1 p2 p3 : Int32) (hsh : shOK p3.toInt p1.toInt p2.toInt) (hd : -10000 ≤ p3.toInt ∧ p3.toInt ≤ 10000) :
    ∃ r l' h' m' ys', f_MOD_shift low high mn p1 p2 p3 = some (r, l', h', m') ∧ MS l' h' m' xs ys' ∧
      ((r = false ∧ ys' = ys ∧ ∀ z, memL ys z → p1.toInt ≤ z → z ≤ p2.toInt → memL ys (z - p3.toInt)) ∨
       (r = true ∧ ∃ a b, a ≤ b ∧ 0 ≤ a ∧ b ≤ 8491 ∧ ys' = ins a b ys ∧ (∀ z, a ≤ z → z ≤ b → memL ys (z + p3.toInt) ∧ p1.toInt ≤ z + p3.toInt ∧ z + p3.toInt ≤ p2.toInt) ∧ ∃ z, a ≤ z ∧ z ≤ b ∧ ¬ memL ys z)) := by
  unfold f_MOD_shift
  have := shift_loop p1 p2 p3 hsh hd ys [] xs low high mn (999999 - ys.length) h hl (fun z hz => absurd hz memL_nil)
  rw [show 999999 - ys.length + ys.length + 1 = FU by rw [FU_s]; omega] at this
  exact this

set_option maxRecDepth 100000
set_option linter.unusedVariables false
def likeL : List Int32 := [97, 122, 32, 224, 246, 32, 248, 254, 32, 945, 969, 32, 1072, 1103, 32, 1104, 1119, 80, 107, 107, -8383, 115, 115, -268, 229, 229, -8262, 181, 181, -775, 962, 962, -1, 962, 962, 31]
def likeT (j : Nat) : Int32 := likeL.getD j 0
def rF (k : Nat) : Int := (likeT (3 * k)).toInt
def rT (k : Nat) : Int := (likeT (3 * k + 1)).toInt
def rD (k : Nat) : Int := (likeT (3 * k + 2)).toInt
theorem row_ok : ∀ k : Nat, k < 12 → shOK (rD k) (rF k) (rT k) ∧ shOK (-rD k) (rF k - rD k) (rT k - rD k) ∧ -10000 ≤ rD k ∧ rD k ≤ 10000 ∧ (likeT (3 * k) - likeT (3 * k + 2)).toInt = rF k - rD k ∧ (likeT (3 * k + 1) - likeT (3 * k + 2)).toInt = rT k - rD k ∧ (-(likeT (3 * k + 2))).toInt = -rD k := by
  unfold shOK
  decide
def rowCl (k : Nat) (ys : PL) : Prop := ∀ z, memL ys z → (rF k ≤ z → z ≤ rT k → memL ys (z - rD k)) ∧ (rF k - rD k ≤ z → z ≤ rT k - rD k → memL ys (z + rD k))
-- how many below 8492 are not in the set
def cnt (ys : PL) : Nat := (List.range 8492).countP (fun n : Nat => !(ys.any (fun p => decide (p.1 ≤ (n : Int) ∧ (n : Int) ≤ p.2))))
theorem countP_lt {p q : Nat → Bool} : ∀ (l : List Nat), (∀ x ∈ l, q x = true → p x = true) → (∃ x ∈ l, p x = true ∧ q x = false) → l.countP q < l.countP p := by
  intro l
  induction l with
  | nil => rintro _ ⟨x, hx, _⟩; cases hx
  | cons a t ih =>
    intro h1 h2
    have hle : t.countP q ≤ t.countP p := List.countP_mono_left (fun x hx => h1 x (List.mem_cons_of_mem _ hx))
    rw [List.countP_cons, List.countP_cons]
    obtain ⟨x, hx, h3, h4⟩ := h2
    rcases List.mem_cons.mp hx with rfl | hx
    · rw [h3, h4]; simp; omega
    · have := ih (fun x hx => h1 x (List.mem_cons_of_mem _ hx)) ⟨x, hx, h3, h4⟩
      have h5 := h1 a List.mem_cons_self
      cases hq : q a with
      | false => cases hp : p a <;> simp <;> omega
      | true => rw [h5 hq]; simp; omega
theorem any_mem {ys : PL} {z : Int} : ys.any (fun p => decide (p.1 ≤ z ∧ z ≤ p.2)) = true ↔ memL ys z := by
  rw [List.any_eq_true]
  constructor
  · rintro ⟨p, hp, h⟩; exact ⟨p, hp, of_decide_eq_true h⟩
  · rintro ⟨p, hp, h⟩; exact ⟨p, hp, decide_eq_true h⟩
theorem cnt_lt {ys : PL} (hc : canL ys) {a b : Int} (hab : a ≤ b) (h0 : 0 ≤ a) (h1 : b ≤ 8491) (h2 : ∃ z, a ≤ z ∧ z ≤ b ∧ ¬ memL ys z) : cnt (ins a b ys) < cnt ys := by
  unfold cnt
  refine countP_lt _ (fun n hn h => ?_) ?_
  · cases hy : ys.any (fun p => decide (p.1 ≤ (n : Int) ∧ (n : Int) ≤ p.2)) with
    | false => rfl
    | true =>
      have : memL (ins a b ys) n := (ins_mem ys a b n hab hc).mpr (Or.inl (any_mem.mp hy))
      rw [any_mem.mpr this] at h; cases h
  · obtain ⟨z, z1, z2, z3⟩ := h2
    obtain ⟨n, rfl⟩ : ∃ n : Nat, z = n := ⟨z.toNat, by omega⟩
    refine ⟨n, List.mem_range.mpr (by omega), ?_, ?_⟩
    · cases hy : ys.any (fun p => decide (p.1 ≤ (n : Int) ∧ (n : Int) ≤ p.2)) with
      | false => rfl
      | true => exact absurd (any_mem.mp hy) z3
    · rw [any_mem.mpr ((ins_mem ys a b n hab hc).mpr (Or.inr ⟨z1, z2⟩))]; rfl
theorem cnt_le (ys : PL) : cnt ys ≤ 8492 := by
  unfold cnt
  have := List.countP_le_length (p := fun n : Nat => !(ys.any (fun p => decide (p.1 ≤ (n : Int) ∧ (n : Int) ≤ p.2)))) (l := List.range 8492)
  rw [List.length_range] at this; exact this
/-- Inv is closed under the twelve rows, both ways -/
def InvCl (Inv : Int → Prop) : Prop := ∀ k, k < 12 → ∀ z, Inv z → (rF k ≤ z → z ≤ rT k → Inv (z - rD k)) ∧ (rF k - rD k ≤ z → z ≤ rT k - rD k → Inv (z + rD k))
abbrev Good (Inv : Int → Prop) (a0 b0 : Int) (ys : PL) : Prop := (∀ z, memL ys z → Inv z) ∧ (∀ z, a0 ≤ z → z ≤ b0 → memL ys z)
theorem Good.inv {Inv : Int → Prop} {a0 b0 : Int} {ys : PL} (h : Good Inv a0 b0 ys) : ∀ z, memL ys z → Inv z := h.1
theorem Good.has {Inv : Int → Prop} {a0 b0 : Int} {ys : PL} (h : Good Inv a0 b0 ys) : ∀ z, a0 ≤ z → z ≤ b0 → memL ys z := h.2
def Prog (ys0 : PL) (v : Bool) (ys : PL) (k : Nat) : Prop := (v = false ∧ ys = ys0 ∧ ∀ k', k' < k → rowCl k' ys) ∨ (v = true ∧ cnt ys < cnt ys0)
theorem Good.ins {Inv : Int → Prop} {a0 b0 : Int} {ys : PL} (h : Good Inv a0 b0 ys) (hc : canL ys) {a b : Int} (hab : a ≤ b) (h1 : ∀ z, a ≤ z → z ≤ b → Inv z) : Good Inv a0 b0 (ins a b ys) := by
  refine ⟨fun z hz => ?_, fun z u v => (ins_mem ys a b z hab hc).mpr (Or.inl (h.has z u v))⟩
  rcases (ins_mem ys a b z hab hc).mp hz with q | q
  · exact h.inv z q
  · exact h1 z q.1 q.2
theorem take_pass {flags : Int32} {lk : Nat → Int32} (hlk : ∀ j, j < 36 → lk j = likeT j) {q1 q2 : Int32} {Inv : Int → Prop} (hInv : InvCl Inv) {a0 b0 : Int} (hlen : ∀ ys, canL ys → Good Inv a0 b0 ys → ys.length < 600) (K28 : (Bool × (Nat → Int32) × (Nat → Int32) × (Nat → Int32)) → Option ((Nat → Int32) × (Nat → Int32) × (Nat → Int32))) (ys0 : PL) :
    ∀ (j k : Nat), j + k = 12 → ∀ (v : Bool) (xs ys : PL) (low high mn : Nat → Int32) (F : Nat), MS low high mn xs ys → Good Inv a0 b0 ys → Prog ys0 v ys k →
      ∃ v' l' h' m' ys', f_MOD_take_L37 flags lk q1 q2 K28 (F + j + 1) (v, nI (3 * k), low, high, mn) = K28 (v', l', h', m') ∧ MS l' h' m' xs ys' ∧ Good Inv a0 b0 ys' ∧ Prog ys0 v' ys' 12 := by
  intro j
  induction j with
  | zero =>
    intro k hk v xs ys low high mn F h hg hp
    have : k = 12 := by omega
    subst this
    refine ⟨v, low, high, mn, ys, ?_, h, hg, hp⟩
    rw [f_MOD_take_L37_s]
    unfold f_MOD_take_B37
    rw [if_pos (show (36 : Int32) ≤ nI (3 * 12) by decide)]
  | succ j ih =>
    intro k hk v xs ys low high mn F h hg hp
    obtain ⟨r1, r2, r3, r4, r5, r6, r7⟩ := row_ok k (by omega)
    have ek1 : nI (3 * k) + 1 = nI (3 * k + 1) := nI_1 _
    have ek2 : nI (3 * k) + 2 = nI (3 * k + 2) := nI_add _ 2
    have ek3 : nI (3 * k) + 3 = nI (3 * (k + 1)) := by
      have : nI (3 * k) + nI 3 = nI (3 * k + 3) := nI_add _ _
      rw [show 3 * (k + 1) = 3 * k + 3 by omega]; exact this
    have c0 : (nI (3 * k)).toNatClampNeg = 3 * k := nI_clamp (by omega)
    have c1 : (nI (3 * k + 1)).toNatClampNeg = 3 * k + 1 := nI_clamp (by omega)
    have c2 : (nI (3 * k + 2)).toNatClampNeg = 3 * k + 2 := nI_clamp (by omega)
    have g0 : inb (nI (3 * k)) 36 = true := inb_nI (by omega) (by decide)
    have g1 : inb (nI (3 * k + 1)) 36 = true := inb_nI (by omega) (by decide)
    have g2 : inb (nI (3 * k + 2)) 36 = true := inb_nI (by omega) (by decide)
    rw [show F + (j + 1) + 1 = (F + j + 1) + 1 by omega, f_MOD_take_L37_s]
    unfold f_MOD_take_B37
    rw [if_neg (fun q => by have := (nI_leI (a := 36) (by decide) (by omega)).mp q; omega), ek1, ek2, c0, c1, c2, grd_t g0, grd_t g1, grd_t g2, hlk _ (show 3 * k < 36 by omega), hlk _ (show 3 * k + 1 < 36 by omega), hlk _ (show 3 * k + 2 < 36 by omega)]
    -- the second half
    have half2 : ∀ (w : Bool) (ys1 : PL) (l1 h1 m1 : Nat → Int32), MS l1 h1 m1 xs ys1 → Good Inv a0 b0 ys1 → ((w = false ∧ ys1 = ys0 ∧ (∀ k', k' < k → rowCl k' ys1) ∧ ∀ z, memL ys1 z → rF k ≤ z → z ≤ rT k → memL ys1 (z - rD k)) ∨ (w = true ∧ cnt ys1 < cnt ys0)) →
        ∃ v' l' h' m' ys', f_MOD_take_L81 flags lk q1 q2 K28 (f_MOD_take_L37 flags lk q1 q2 K28 (F + j + 1)) w (nI (3 * k)) l1 h1 m1 = K28 (v', l', h', m') ∧ MS l' h' m' xs ys' ∧ Good Inv a0 b0 ys' ∧ Prog ys0 v' ys' 12 := by
      intro w ys1 l1 h1 m1 hM hG hW
      unfold f_MOD_take_L81
      rw [ek1, ek2, c0, c1, c2, grd_t g0, grd_t g2, grd_t g1, grd_t g2, grd_t g2, hlk _ (show 3 * k < 36 by omega), hlk _ (show 3 * k + 1 < 36 by omega), hlk _ (show 3 * k + 2 < 36 by omega)]
      obtain ⟨r, l2, h2, m2, ys2, e1, e2, e3⟩ := mod_shift hM (hlen _ hM.c1 hG) (likeT (3 * k) - likeT (3 * k + 2)) (likeT (3 * k + 1) - likeT (3 * k + 2)) (-(likeT (3 * k + 2))) (by rw [r5, r6, r7]; exact r2) (by rw [r7]; omega)
      rw [r5, r6, r7] at e3
      rw [bnd_s e1]
      rcases e3 with ⟨rfl, rfl, e3⟩ | ⟨rfl, a, b, a1, a2, a3, rfl, a4, a5⟩
      · rw [if_pos (show b2i false = 0 from rfl), ek3]
        refine ih (k + 1) (by omega) w xs ys2 l2 h2 m2 F e2 hG ?_
        rcases hW with ⟨w1, w2, w3, w4⟩ | hW
        · refine Or.inl ⟨w1, w2, fun k' hk' => ?_⟩
          rcases Nat.lt_or_ge k' k with q | q
          · exact w3 k' q
          · have : k' = k := by omega
            subst this
            refine fun z hz => ⟨w4 z hz, fun u v => ?_⟩
            have := e3 z hz u v
            rw [show z - -rD k' = z + rD k' by omega] at this; exact this
        · exact Or.inr hW
      · rw [if_neg (show ¬ b2i true = 0 by decide), ek3]
        refine ih (k + 1) (by omega) true xs _ l2 h2 m2 F e2 (hG.ins hM.c1 a1 (fun z u v => ?_)) (Or.inr ⟨rfl, ?_⟩)
        · obtain ⟨b1, b2, b3⟩ := a4 z u v
          have := (hInv k (by omega) _ (hG.inv _ b1)).2 b2 b3
          rw [show z + -rD k + rD k = z by omega] at this; exact this
        · have hlt := cnt_lt hM.c1 a1 a2 a3 a5
          rcases hW with ⟨w1, w2, w3, w4⟩ | hW
          · rw [← w2]; exact hlt
          · exact Nat.lt_trans hlt hW.2
    obtain ⟨r, l2, h2, m2, ys2, e1, e2, e3⟩ := mod_shift h (hlen _ h.c1 hg) (likeT (3 * k)) (likeT (3 * k + 1)) (likeT (3 * k + 2)) r1 ⟨r3, r4⟩
    rw [bnd_s e1]
    rcases e3 with ⟨rfl, rfl, e3⟩ | ⟨rfl, a, b, a1, a2, a3, rfl, a4, a5⟩
    · rw [if_pos (show b2i false = 0 from rfl)]
      refine half2 v ys2 l2 h2 m2 e2 hg ?_
      rcases hp with ⟨w1, w2, w3⟩ | hp
      · exact Or.inl ⟨w1, w2, w3, e3⟩
      · exact Or.inr hp
    · rw [if_neg (show ¬ b2i true = 0 by decide)]
      refine half2 true _ l2 h2 m2 e2 (hg.ins h.c1 a1 (fun z u v => ?_)) (Or.inr ⟨rfl, ?_⟩)
      · obtain ⟨b1, b2, b3⟩ := a4 z u v
        have := (hInv k (by omega) _ (hg.inv _ b1)).1 b2 b3
        show Inv z
        have e : z + rD k - rD k = z := by omega
        rw [← e]; exact this
      · have hlt := cnt_lt h.c1 a1 a2 a3 a5
        rcases hp with ⟨w1, w2, w3⟩ | hp
        · rw [← w2]; exact hlt
        · exact Nat.lt_trans hlt hp.2
theorem take_loop {flags : Int32} {lk : Nat → Int32} (hlk : ∀ j, j < 36 → lk j = likeT j) {q1 q2 : Int32} {Inv : Int → Prop} (hInv : InvCl Inv) {a0 b0 : Int} (hlen : ∀ ys, canL ys → Good Inv a0 b0 ys → ys.length < 600) :
    ∀ (c : Nat) (xs ys : PL) (low high mn : Nat → Int32) (F : Nat), cnt ys ≤ c → MS low high mn xs ys → Good Inv a0 b0 ys →
      (∀ ys, canL ys → Good Inv a0 b0 ys → xs.length + ys.length < 600) →
      ∃ l' h' m' ys', f_MOD_take_L28 flags lk q1 q2 (F + c + 2) (true, low, high, mn) = some (l', h', m') ∧ MS l' h' m' (foldIns xs ys') ys' ∧ Good Inv a0 b0 ys' ∧ ∀ k, k < 12 → rowCl k ys' := by
  intro c
  induction c with
  | zero =>
    intro xs ys low high mn F hc h hg hl2
    rw [show F + 0 + 2 = (F + 1) + 1 by omega, f_MOD_take_L28_s]
    unfold f_MOD_take_B28
    rw [if_neg (show ¬ b2i true = 0 by decide)]
    obtain ⟨v', l', h', m', ys', e1, e2, e3, e4⟩ := take_pass (flags := flags) hlk (q1 := q1) (q2 := q2) hInv hlen (f_MOD_take_L28 flags lk q1 q2 (F + 1)) ys 12 0 rfl false xs ys low high mn (999999 - 12) h hg (Or.inl ⟨rfl, rfl, fun k hk => absurd hk (Nat.not_lt_zero _)⟩)
    have e1' : f_MOD_take_L37 flags lk q1 q2 (f_MOD_take_L28 flags lk q1 q2 (F + 1)) FU (false, 0, low, high, mn) = _ := e1
    rw [e1']
    rcases e4 with ⟨rfl, rfl, e4⟩ | ⟨rfl, e4⟩
    · rw [f_MOD_take_L28_s]
      unfold f_MOD_take_B28
      rw [if_pos (show b2i false = 0 from rfl)]
      obtain ⟨l2, h2, m2, g1, g2⟩ := mod_give0 e2 (hl2 _ e2.c1 e3)
      rw [bnd_s g1]
      exact ⟨l2, h2, m2, ys', rfl, g2, e3, e4⟩
    · omega
  | succ c ih =>
    intro xs ys low high mn F hc h hg hl2
    rw [show F + (c + 1) + 2 = (F + c + 2) + 1 by omega, f_MOD_take_L28_s]
    unfold f_MOD_take_B28
    rw [if_neg (show ¬ b2i true = 0 by decide)]
    obtain ⟨v', l', h', m', ys', e1, e2, e3, e4⟩ := take_pass (flags := flags) hlk (q1 := q1) (q2 := q2) hInv hlen (f_MOD_take_L28 flags lk q1 q2 (F + c + 2)) ys 12 0 rfl false xs ys low high mn (999999 - 12) h hg (Or.inl ⟨rfl, rfl, fun k hk => absurd hk (Nat.not_lt_zero _)⟩)
    have e1' : f_MOD_take_L37 flags lk q1 q2 (f_MOD_take_L28 flags lk q1 q2 (F + c + 2)) FU (false, 0, low, high, mn) = _ := e1
    rw [e1']
    rcases e4 with ⟨rfl, rfl, e4⟩ | ⟨rfl, e4⟩
    · rw [show F + c + 2 = (F + c + 1) + 1 by omega, f_MOD_take_L28_s]
      unfold f_MOD_take_B28
      rw [if_pos (show b2i false = 0 from rfl)]
      obtain ⟨l2, h2, m2, g1, g2⟩ := mod_give0 e2 (hl2 _ e2.c1 e3)
      rw [bnd_s g1]
      exact ⟨l2, h2, m2, ys', rfl, g2, e3, e4⟩
    · exact ih xs ys' l' h' m' F (by omega) e2 e3 hl2

set_option maxRecDepth 100000
set_option linter.unusedVariables false
def rep (z : Int) : Int :=
  if 97 ≤ z ∧ z ≤ 122 then z - 32
  else if (224 ≤ z ∧ z ≤ 246) ∨ (248 ≤ z ∧ z ≤ 254) then z - 32
  else if z = 931 ∨ z = 962 ∨ z = 963 then 930
  else if 945 ≤ z ∧ z ≤ 969 then z - 32
  else if 1072 ≤ z ∧ z ≤ 1103 then z - 32
  else if 1104 ≤ z ∧ z ≤ 1119 then z - 80
  else if z = 8490 then 75 else if z = 383 then 83 else if z = 8491 then 197 else if z = 181 then 924 else z
theorem rep_row : ∀ k, k < 12 → ∀ z, rF k ≤ z → z ≤ rT k → rep (z - rD k) = rep z := by
  intro k hk z h1 h2
  rcases (show k = 0 ∨ k = 1 ∨ k = 2 ∨ k = 3 ∨ k = 4 ∨ k = 5 ∨ k = 6 ∨ k = 7 ∨ k = 8 ∨ k = 9 ∨ k = 10 ∨ k = 11 by omega) with rfl | rfl | rfl | rfl | rfl | rfl | rfl | rfl | rfl | rfl | rfl | rfl
  · replace h1 : 97 ≤ z := h1
    replace h2 : z ≤ 122 := h2
    show rep (z - 32) = rep z
    unfold rep; omega
  · replace h1 : 224 ≤ z := h1
    replace h2 : z ≤ 246 := h2
    show rep (z - 32) = rep z
    unfold rep; omega
  · replace h1 : 248 ≤ z := h1
    replace h2 : z ≤ 254 := h2
    show rep (z - 32) = rep z
    unfold rep; omega
  · replace h1 : 945 ≤ z := h1
    replace h2 : z ≤ 969 := h2
    show rep (z - 32) = rep z
    unfold rep; omega
  · replace h1 : 1072 ≤ z := h1
    replace h2 : z ≤ 1103 := h2
    show rep (z - 32) = rep z
    unfold rep; omega
  · replace h1 : 1104 ≤ z := h1
    replace h2 : z ≤ 1119 := h2
    show rep (z - 80) = rep z
    unfold rep; omega
  · replace h1 : 107 ≤ z := h1
    replace h2 : z ≤ 107 := h2
    show rep (z - -8383) = rep z
    obtain rfl : z = 107 := by omega
    decide
  · replace h1 : 115 ≤ z := h1
    replace h2 : z ≤ 115 := h2
    obtain rfl : z = 115 := by omega
    decide
  · replace h1 : 229 ≤ z := h1
    replace h2 : z ≤ 229 := h2
    obtain rfl : z = 229 := by omega
    decide
  · replace h1 : 181 ≤ z := h1
    replace h2 : z ≤ 181 := h2
    obtain rfl : z = 181 := by omega
    decide
  · replace h1 : 962 ≤ z := h1
    replace h2 : z ≤ 962 := h2
    obtain rfl : z = 962 := by omega
    decide
  · replace h1 : 962 ≤ z := h1
    replace h2 : z ≤ 962 := h2
    obtain rfl : z = 962 := by omega
    decide
def AL (a b : Int) (z : Int) : Prop := ∃ y, a ≤ y ∧ y ≤ b ∧ rep y = rep z
theorem AL_cl (a b : Int) : InvCl (AL a b) := by
  intro k hk z hz
  obtain ⟨y, h1, h2, h3⟩ := hz
  refine ⟨fun u v => ⟨y, h1, h2, ?_⟩, fun u v => ⟨y, h1, h2, ?_⟩⟩
  · rw [rep_row k hk z u v]; exact h3
  · have := rep_row k hk (z + rD k) (by omega) (by omega)
    rw [show z + rD k - rD k = z by omega] at this
    rw [← this]; exact h3
theorem cl_rep {ys : PL} (h : ∀ k, k < 12 → rowCl k ys) (z : Int) : memL ys z ↔ memL ys (rep z) := by
  have fw : ∀ k, k < 12 → ∀ z, rF k ≤ z → z ≤ rT k → (memL ys z ↔ memL ys (z - rD k)) := by
    intro k hk z u v
    refine ⟨fun q => (h k hk z q).1 u v, fun q => ?_⟩
    have := (h k hk (z - rD k) q).2 (by omega) (by omega)
    rw [show z - rD k + rD k = z by omega] at this; exact this
  have f0 : ∀ z, 97 ≤ z → z ≤ 122 → (memL ys z ↔ memL ys (z - 32)) := fw 0 (by decide)
  have f1 : ∀ z, 224 ≤ z → z ≤ 246 → (memL ys z ↔ memL ys (z - 32)) := fw 1 (by decide)
  have f2 : ∀ z, 248 ≤ z → z ≤ 254 → (memL ys z ↔ memL ys (z - 32)) := fw 2 (by decide)
  have f3 : ∀ z, 945 ≤ z → z ≤ 969 → (memL ys z ↔ memL ys (z - 32)) := fw 3 (by decide)
  have f4 : ∀ z, 1072 ≤ z → z ≤ 1103 → (memL ys z ↔ memL ys (z - 32)) := fw 4 (by decide)
  have f5 : ∀ z, 1104 ≤ z → z ≤ 1119 → (memL ys z ↔ memL ys (z - 80)) := fw 5 (by decide)
  have f6 : memL ys 107 ↔ memL ys 8490 := fw 6 (by decide) 107 (by decide) (by decide)
  have f7 : memL ys 115 ↔ memL ys 383 := fw 7 (by decide) 115 (by decide) (by decide)
  have f8 : memL ys 229 ↔ memL ys 8491 := fw 8 (by decide) 229 (by decide) (by decide)
  have f9 : memL ys 181 ↔ memL ys 956 := fw 9 (by decide) 181 (by decide) (by decide)
  have f10 : memL ys 962 ↔ memL ys 963 := fw 10 (by decide) 962 (by decide) (by decide)
  have f11 : memL ys 962 ↔ memL ys 931 := fw 11 (by decide) 962 (by decide) (by decide)
  have g3 : memL ys 962 ↔ memL ys 930 := f3 962 (by decide) (by decide)
  unfold rep
  split
  · rename_i q; exact f0 z q.1 q.2
  split
  · rename_i q
    rcases q with q | q
    · exact f1 z q.1 q.2
    · exact f2 z q.1 q.2
  split
  · rename_i q
    rcases q with rfl | rfl | rfl
    · exact f11.symm.trans g3
    · exact g3
    · exact f10.symm.trans g3
  split
  · rename_i q; exact f3 z q.1 q.2
  split
  · rename_i q; exact f4 z q.1 q.2
  split
  · rename_i q; exact f5 z q.1 q.2
  split
  · rename_i q; subst q; exact f6.symm.trans (f0 107 (by decide) (by decide))
  split
  · rename_i q; subst q; exact f7.symm.trans (f0 115 (by decide) (by decide))
  split
  · rename_i q; subst q; exact f8.symm.trans (f1 229 (by decide) (by decide))
  split
  · rename_i q; subst q; exact f9.trans (f3 956 (by decide) (by decide))
  · exact Iff.rfl
theorem cl_AL {ys : PL} {a b : Int} (hg : Good (AL a b) a b ys) (h : ∀ k, k < 12 → rowCl k ys) (z : Int) : memL ys z ↔ AL a b z := by
  refine ⟨hg.inv z, ?_⟩
  rintro ⟨y, h1, h2, h3⟩
  rw [cl_rep h z, ← h3, ← cl_rep h y]
  exact hg.has y h1 h2
-- outside of [a, b] such a set lies in few places
theorem rep_dom {y z : Int} (h : rep y = rep z) (hne : y ≠ z) : (65 ≤ z ∧ z ≤ 122) ∨ (181 ≤ z ∧ z ≤ 254) ∨ z = 383 ∨ (913 ≤ z ∧ z ≤ 969) ∨ (1024 ≤ z ∧ z ≤ 1119) ∨ z = 8490 ∨ z = 8491 := by
  unfold rep at h
  omega

set_option maxRecDepth 100000
set_option linter.unusedVariables false
-- how many ranges begin in a stretch
def nb (lo hi : Int) (xs : PL) : Nat := xs.countP (fun p => decide (lo ≤ p.1 ∧ p.1 ≤ hi))
theorem nb_zero {lo hi : Int} : ∀ {xs : PL}, abv hi xs → nb lo hi xs = 0 := by
  intro xs h
  unfold nb
  rw [List.countP_eq_zero]
  intro p hp
  have := h p hp
  simp; omega
theorem nb_abv {lo hi : Int} : ∀ (xs : PL) (v : Int), canL xs → abv v xs → lo - 1 ≤ v → v ≤ hi + 1 → 2 * (nb lo hi xs : Int) ≤ hi - v + 1 := by
  intro xs
  induction xs with
  | nil => intro v _ _ h1 h2; simp [nb]; omega
  | cons p t ih =>
    intro v hc hv h1 h2
    obtain ⟨x, y⟩ := p
    obtain ⟨c1, c2, c3⟩ := canL_tail hc
    have hx := hv (x, y) List.mem_cons_self
    simp only at c2 c3 hx
    have e : nb lo hi ((x, y) :: t) = nb lo hi t + if x ≤ hi then 1 else 0 := by
      unfold nb
      rw [List.countP_cons]
      by_cases q : x ≤ hi
      · simp [q, show lo ≤ x by omega]
      · simp [q]
    rw [e]
    by_cases q : x ≤ hi
    · have := ih (x + 1) c1 (fun w hw => by have := c3 w hw; omega) (by omega) (by omega)
      rw [if_pos q]; omega
    · have : nb lo hi t = 0 := nb_zero (fun w hw => by have := c3 w hw; omega)
      rw [if_neg q, this]; omega
theorem nb_le {lo hi : Int} (h : lo ≤ hi + 1) : ∀ (xs : PL), canL xs → 2 * (nb lo hi xs : Int) ≤ hi - lo + 2 := by
  intro xs
  induction xs with
  | nil => intro _; simp [nb]; omega
  | cons p t ih =>
    intro hc
    obtain ⟨x, y⟩ := p
    obtain ⟨c1, c2, c3⟩ := canL_tail hc
    simp only at c2 c3
    by_cases q : x < lo
    · have e : nb lo hi ((x, y) :: t) = nb lo hi t := by
        unfold nb
        rw [List.countP_cons]
        simp [show ¬ lo ≤ x by omega]
      rw [e]; exact ih c1
    · have := nb_abv (lo := lo) (hi := hi) ((x, y) :: t) (lo - 1) hc (by
        intro w hw
        rcases List.mem_cons.mp hw with rfl | hw
        · simp only; omega
        · have := c3 w hw; omega) (by omega) (by omega)
      omega
theorem len_cats : ∀ (xs : PL) (cs : List (Int × Int)), (∀ p ∈ xs, ∃ c ∈ cs, c.1 ≤ p.1 ∧ p.1 ≤ c.2) → xs.length ≤ (cs.map (fun c => nb c.1 c.2 xs)).sum := by
  intro xs cs
  induction xs with
  | nil => intro _; simp
  | cons p t ih =>
    intro h
    have h1 := ih (fun q hq => h q (List.mem_cons_of_mem _ hq))
    obtain ⟨c, hc, h2⟩ := h p List.mem_cons_self
    have mono : ∀ c : Int × Int, nb c.1 c.2 t ≤ nb c.1 c.2 (p :: t) := by
      intro c; unfold nb; rw [List.countP_cons]; omega
    have strict : nb c.1 c.2 t + 1 ≤ nb c.1 c.2 (p :: t) := by
      unfold nb; rw [List.countP_cons]; simp [h2]
    have sum_lt : ∀ (l : List (Int × Int)), c ∈ l → (l.map (fun c => nb c.1 c.2 t)).sum + 1 ≤ (l.map (fun c => nb c.1 c.2 (p :: t))).sum := by
      intro l
      induction l with
      | nil => intro hc; cases hc
      | cons d l ih2 =>
        intro hc
        have hle : ∀ l : List (Int × Int), (l.map (fun c => nb c.1 c.2 t)).sum ≤ (l.map (fun c => nb c.1 c.2 (p :: t))).sum := by
          intro l
          induction l with
          | nil => exact Nat.le_refl _
          | cons e l ih3 => simp only [List.map_cons, List.sum_cons]; have := mono e; omega
        simp only [List.map_cons, List.sum_cons]
        rcases List.mem_cons.mp hc with rfl | hc
        · have := hle l; omega
        · have := ih2 hc; have := mono d; omega
    have := sum_lt cs hc
    simp only [List.length_cons]; omega
theorem can_begin {ys : PL} (hc : canL ys) {p : Int × Int} (hp : p ∈ ys) : memL ys p.1 ∧ ¬ memL ys (p.1 - 1) := by
  induction ys with
  | nil => cases hp
  | cons q t ih =>
    obtain ⟨x, y⟩ := q
    obtain ⟨c1, c2, c3⟩ := canL_tail hc
    simp only at c2 c3
    rcases List.mem_cons.mp hp with rfl | hp
    · refine ⟨⟨_, List.mem_cons_self, Int.le_refl _, c2⟩, ?_⟩
      rintro ⟨r, hr, h1, h2⟩
      rcases List.mem_cons.mp hr with rfl | hr
      · simp only at h1 h2; omega
      · have := c3 r hr; simp only at h1; omega
    · obtain ⟨⟨r, hr, h1, h2⟩, h3⟩ := ih c1 hp
      refine ⟨⟨r, List.mem_cons_of_mem _ hr, h1, h2⟩, ?_⟩
      rintro ⟨r, hr, h4, h5⟩
      rcases List.mem_cons.mp hr with rfl | hr
      · have := c3 p hp; simp only at h4 h5; omega
      · exact h3 ⟨r, hr, h4, h5⟩
def catsA (a : Int) : List (Int × Int) := [(65, 122), (181, 254), (383, 383), (913, 969), (1024, 1119), (8490, 8491), (a, a)]
theorem good_len {a b : Int} {ys : PL} (hc : canL ys) (hg : Good (AL a b) a b ys) : ys.length ≤ 146 := by
  have h1 := len_cats ys (catsA a) (by
    intro p hp
    obtain ⟨m1, m2⟩ := can_begin hc hp
    obtain ⟨y, y1, y2, y3⟩ := hg.inv _ m1
    by_cases e : y = p.1
    · have : p.1 = a := by
        apply Classical.byContradiction
        intro q
        exact m2 (hg.has _ (by omega) (by omega))
      exact ⟨(a, a), by simp [catsA], by simp only; omega, by simp only; omega⟩
    · rcases rep_dom y3 e with q | q | q | q | q | q | q
      · exact ⟨(65, 122), by simp [catsA], q⟩
      · exact ⟨(181, 254), by simp [catsA], q⟩
      · exact ⟨(383, 383), by simp [catsA], by simp only; omega⟩
      · exact ⟨(913, 969), by simp [catsA], q⟩
      · exact ⟨(1024, 1119), by simp [catsA], q⟩
      · exact ⟨(8490, 8491), by simp [catsA], by simp only; omega⟩
      · exact ⟨(8490, 8491), by simp [catsA], by simp only; omega⟩)
  simp only [catsA, List.map_cons, List.map_nil, List.sum_cons, List.sum_nil] at h1
  have a1 := nb_le (lo := 65) (hi := 122) (by decide) ys hc
  have a2 := nb_le (lo := 181) (hi := 254) (by decide) ys hc
  have a3 := nb_le (lo := 383) (hi := 383) (by decide) ys hc
  have a4 := nb_le (lo := 913) (hi := 969) (by decide) ys hc
  have a5 := nb_le (lo := 1024) (hi := 1119) (by decide) ys hc
  have a6 := nb_le (lo := 8490) (hi := 8491) (by decide) ys hc
  have a7 := nb_le (lo := a) (hi := a) (by omega) ys hc
  omega
-- take
theorem mod_take {lk : Nat → Int32} (hlk : ∀ j, j < 36 → lk j = likeT j) {low high mn : Nat → Int32} {xs ys : PL} (h : MS low high mn xs ys) (hl : xs.length < 450) (flags p1 p2 : Int32) (h0 : 0 ≤ p1.toInt) (h1 : p1.toInt ≤ p2.toInt) (h2 : p2.toInt ≤ 1114111) :
    ∃ l' h' m' ys', f_MOD_take flags low high mn lk p1 p2 = some (l', h', m') ∧ MS l' h' m' (foldIns xs ys') ys' ∧ ys'.length ≤ 146 ∧
      (flags &&& 1 = 1 → ∀ z, memL ys' z ↔ AL p1.toInt p2.toInt z) ∧ (flags &&& 1 ≠ 1 → ys' = [(p1.toInt, p2.toInt)]) := by
  unfold f_MOD_take
  rw [bnd_s h.empty1.1]
  obtain ⟨l1, h1', m1, e1, e2⟩ := h.empty1.2.add1 (p2 := p1) (p3 := p2) (by decide) h0 h1 h2
  rw [bnd_s e1]
  have e2 : MS l1 h1' m1 xs [(p1.toInt, p2.toInt)] := e2
  have memS : ∀ z, memL [(p1.toInt, p2.toInt)] z ↔ p1.toInt ≤ z ∧ z ≤ p2.toInt := by
    intro z
    rw [memL_cons]
    constructor
    · rintro (q | q)
      · exact q
      · exact absurd q memL_nil
    · exact Or.inl
  by_cases c : flags &&& 1 = 1
  · rw [if_pos c]
    have hg0 : Good (AL p1.toInt p2.toInt) p1.toInt p2.toInt [(p1.toInt, p2.toInt)] := ⟨fun z hz => by
      have := (memS z).mp hz
      exact ⟨z, this.1, this.2, rfl⟩, fun z u v => (memS z).mpr ⟨u, v⟩⟩
    obtain ⟨l2, h2', m2, ys', g1, g2, g3, g4⟩ := take_loop (flags := flags) hlk (q1 := p1) (q2 := p2) (AL_cl p1.toInt p2.toInt) (a0 := p1.toInt) (b0 := p2.toInt) (fun zs hz hG => by have := good_len hz hG; omega) (cnt [(p1.toInt, p2.toInt)]) xs _ l1 h1' m1 (999998 - cnt [(p1.toInt, p2.toInt)]) (Nat.le_refl _) e2 hg0 (fun zs hz hG => by have := good_len hz hG; omega)
    have hcnt := cnt_le [(p1.toInt, p2.toInt)]
    rw [show 999998 - cnt [(p1.toInt, p2.toInt)] + cnt [(p1.toInt, p2.toInt)] + 2 = FU by rw [FU_s]; omega] at g1
    exact ⟨l2, h2', m2, ys', g1, g2, good_len g2.c1 g3, fun _ => cl_AL g3 g4, fun q => absurd c q⟩
  · rw [if_neg c]
    have : f_MOD_take_L28 flags lk p1 p2 FU (false, l1, h1', m1) = bnd_ (f_MOD_give l1 h1' m1 false) (fun x147 => some (x147.1, x147.2.1, x147.2.2)) := by
      rw [FU_s, f_MOD_take_L28_s]
      unfold f_MOD_take_B28
      rw [if_pos (show b2i false = 0 from rfl)]
    rw [this]
    obtain ⟨l2, h2', m2, g1, g2⟩ := mod_give0 e2 (by simp only [List.length_cons, List.length_nil]; omega)
    rw [bnd_s g1]
    exact ⟨l2, h2', m2, _, rfl, g2, by simp, fun q => absurd q c, fun _ => rfl⟩

set_option maxRecDepth 100000
set_option linter.unusedVariables false
/-- y and z stand in one of the class's rows or lines -/
def mate (y z : Int) : Prop :=
  (65 ≤ y ∧ y ≤ 90 ∧ z = y + 32) ∨ (97 ≤ y ∧ y ≤ 122 ∧ z = y - 32) ∨ (192 ≤ y ∧ y ≤ 214 ∧ z = y + 32) ∨ (224 ≤ y ∧ y ≤ 246 ∧ z = y - 32) ∨ (216 ≤ y ∧ y ≤ 222 ∧ z = y + 32) ∨ (248 ≤ y ∧ y ≤ 254 ∧ z = y - 32) ∨ (913 ≤ y ∧ y ≤ 937 ∧ z = y + 32) ∨ (945 ≤ y ∧ y ≤ 969 ∧ z = y - 32) ∨ (1040 ≤ y ∧ y ≤ 1071 ∧ z = y + 32) ∨ (1072 ≤ y ∧ y ≤ 1103 ∧ z = y - 32) ∨ (1024 ≤ y ∧ y ≤ 1039 ∧ z = y + 80) ∨ (1104 ≤ y ∧ y ≤ 1119 ∧ z = y - 80)
def kin (y z : Int) : Prop :=
  ((y = 75 ∨ y = 107 ∨ y = 8490) ∧ (z = 75 ∨ z = 107 ∨ z = 8490)) ∨ ((y = 83 ∨ y = 115 ∨ y = 383) ∧ (z = 83 ∨ z = 115 ∨ z = 383)) ∨ ((y = 197 ∨ y = 229 ∨ y = 8491) ∧ (z = 197 ∨ z = 229 ∨ z = 8491)) ∨ ((y = 181 ∨ y = 924 ∨ y = 956) ∧ (z = 181 ∨ z = 924 ∨ z = 956)) ∨ ((y = 930 ∨ y = 931 ∨ y = 962 ∨ y = 963) ∧ (z = 930 ∨ z = 931 ∨ z = 962 ∨ z = 963))
theorem rep_val (z : Int) : (97 ≤ z ∧ z ≤ 122 ∧ rep z = z - 32) ∨ (224 ≤ z ∧ z ≤ 246 ∧ rep z = z - 32) ∨ (248 ≤ z ∧ z ≤ 254 ∧ rep z = z - 32) ∨ ((z = 931 ∨ z = 962 ∨ z = 963) ∧ rep z = 930) ∨ (945 ≤ z ∧ z ≤ 969 ∧ z ≠ 962 ∧ z ≠ 963 ∧ rep z = z - 32) ∨ (1072 ≤ z ∧ z ≤ 1103 ∧ rep z = z - 32) ∨ (1104 ≤ z ∧ z ≤ 1119 ∧ rep z = z - 80) ∨ (z = 8490 ∧ rep z = 75) ∨ (z = 383 ∧ rep z = 83) ∨ (z = 8491 ∧ rep z = 197) ∨ (z = 181 ∧ rep z = 924) ∨ (rep z = z ∧ ¬ (97 ≤ z ∧ z ≤ 122) ∧ ¬ (224 ≤ z ∧ z ≤ 246) ∧ ¬ (248 ≤ z ∧ z ≤ 254) ∧ z ≠ 931 ∧ ¬ (945 ≤ z ∧ z ≤ 969) ∧ ¬ (1072 ≤ z ∧ z ≤ 1119) ∧ z ≠ 8490 ∧ z ≠ 383 ∧ z ≠ 8491 ∧ z ≠ 181) := by
  unfold rep
  split
  · rename_i q; exact Or.inl (⟨q.1, q.2, rfl⟩)
  rename_i n1
  split
  · rename_i q
    rcases q with q | q
    · exact Or.inr (Or.inl (⟨q.1, q.2, rfl⟩))
    · exact Or.inr (Or.inr (Or.inl (⟨q.1, q.2, rfl⟩)))
  rename_i n2
  split
  · rename_i q; exact Or.inr (Or.inr (Or.inr (Or.inl (⟨q, rfl⟩))))
  rename_i n3
  split
  · rename_i q; exact Or.inr (Or.inr (Or.inr (Or.inr (Or.inl (⟨q.1, q.2, fun e => n3 (Or.inr (Or.inl e)), fun e => n3 (Or.inr (Or.inr e)), rfl⟩)))))
  rename_i n4
  split
  · rename_i q; exact Or.inr (Or.inr (Or.inr (Or.inr (Or.inr (Or.inl (⟨q.1, q.2, rfl⟩))))))
  rename_i n5
  split
  · rename_i q; exact Or.inr (Or.inr (Or.inr (Or.inr (Or.inr (Or.inr (Or.inl (⟨q.1, q.2, rfl⟩)))))))
  rename_i n6
  split
  · rename_i q; exact Or.inr (Or.inr (Or.inr (Or.inr (Or.inr (Or.inr (Or.inr (Or.inl (⟨q, rfl⟩))))))))
  rename_i n7
  split
  · rename_i q; exact Or.inr (Or.inr (Or.inr (Or.inr (Or.inr (Or.inr (Or.inr (Or.inr (Or.inl (⟨q, rfl⟩)))))))))
  rename_i n8
  split
  · rename_i q; exact Or.inr (Or.inr (Or.inr (Or.inr (Or.inr (Or.inr (Or.inr (Or.inr (Or.inr (Or.inl (⟨q, rfl⟩))))))))))
  rename_i n9
  split
  · rename_i q; exact Or.inr (Or.inr (Or.inr (Or.inr (Or.inr (Or.inr (Or.inr (Or.inr (Or.inr (Or.inr (Or.inl (⟨q, rfl⟩)))))))))))
  rename_i n10
  exact Or.inr (Or.inr (Or.inr (Or.inr (Or.inr (Or.inr (Or.inr (Or.inr (Or.inr (Or.inr (Or.inr ((⟨rfl, n1, fun e => n2 (Or.inl e), fun e => n2 (Or.inr e), fun e => n3 (Or.inl e), n4, fun e => by omega, n7, n8, n9, n10⟩))))))))))))
theorem rep_mate {y z : Int} (h : mate y z) : rep y = rep z := by
  unfold mate at h
  rcases h with h | h | h | h | h | h | h | h | h | h | h | h <;> (unfold rep; omega)
theorem rep_kin {y z : Int} (h : kin y z) : rep y = rep z := by
  unfold kin at h
  rcases h with ⟨rfl | rfl | rfl, rfl | rfl | rfl⟩ | ⟨rfl | rfl | rfl, rfl | rfl | rfl⟩ | ⟨rfl | rfl | rfl, rfl | rfl | rfl⟩ | ⟨rfl | rfl | rfl, rfl | rfl | rfl⟩ | ⟨rfl | rfl | rfl | rfl, rfl | rfl | rfl | rfl⟩ <;> decide
set_option maxHeartbeats 4000000 in
theorem rep_cases {y z : Int} (h : rep y = rep z) : y = z ∨ mate y z ∨ kin y z := by
  rcases rep_val y with a | a | a | a | a | a | a | a | a | a | a | a <;> rcases rep_val z with b | b | b | b | b | b | b | b | b | b | b | b <;> first | (exfalso; omega) | exact Or.inl (by omega) | exact Or.inr (Or.inr (Or.inl (⟨by omega, by omega⟩))) | exact Or.inr (Or.inr (Or.inr (Or.inl (⟨by omega, by omega⟩)))) | exact Or.inr (Or.inr (Or.inr (Or.inr (Or.inl (⟨by omega, by omega⟩))))) | exact Or.inr (Or.inr (Or.inr (Or.inr (Or.inr (Or.inl (⟨by omega, by omega⟩)))))) | exact Or.inr (Or.inr (Or.inr (Or.inr (Or.inr (Or.inr ((⟨by omega, by omega⟩))))))) | exact Or.inr (Or.inl (Or.inl (⟨by omega, by omega, by omega⟩))) | exact Or.inr (Or.inl (Or.inr (Or.inl (⟨by omega, by omega, by omega⟩)))) | exact Or.inr (Or.inl (Or.inr (Or.inr (Or.inl (⟨by omega, by omega, by omega⟩))))) | exact Or.inr (Or.inl (Or.inr (Or.inr (Or.inr (Or.inl (⟨by omega, by omega, by omega⟩)))))) | exact Or.inr (Or.inl (Or.inr (Or.inr (Or.inr (Or.inr (Or.inl (⟨by omega, by omega, by omega⟩))))))) | exact Or.inr (Or.inl (Or.inr (Or.inr (Or.inr (Or.inr (Or.inr (Or.inl (⟨by omega, by omega, by omega⟩)))))))) | exact Or.inr (Or.inl (Or.inr (Or.inr (Or.inr (Or.inr (Or.inr (Or.inr (Or.inl (⟨by omega, by omega, by omega⟩))))))))) | exact Or.inr (Or.inl (Or.inr (Or.inr (Or.inr (Or.inr (Or.inr (Or.inr (Or.inr (Or.inl (⟨by omega, by omega, by omega⟩)))))))))) | exact Or.inr (Or.inl (Or.inr (Or.inr (Or.inr (Or.inr (Or.inr (Or.inr (Or.inr (Or.inr (Or.inl (⟨by omega, by omega, by omega⟩))))))))))) | exact Or.inr (Or.inl (Or.inr (Or.inr (Or.inr (Or.inr (Or.inr (Or.inr (Or.inr (Or.inr (Or.inr (Or.inl (⟨by omega, by omega, by omega⟩)))))))))))) | exact Or.inr (Or.inl (Or.inr (Or.inr (Or.inr (Or.inr (Or.inr (Or.inr (Or.inr (Or.inr (Or.inr (Or.inr (Or.inl (⟨by omega, by omega, by omega⟩))))))))))))) | exact Or.inr (Or.inl (Or.inr (Or.inr (Or.inr (Or.inr (Or.inr (Or.inr (Or.inr (Or.inr (Or.inr (Or.inr (Or.inr ((⟨by omega, by omega, by omega⟩))))))))))))))

set_option maxRecDepth 100000
set_option linter.unusedVariables false
abbrev CSet (n : Int32) (b e : Nat → Int32) (xs : PL) : Prop := (n = nI xs.length) ∧ (seg b e 0 xs) ∧ (canL xs) ∧ (okL xs)
theorem CSet.n {n : Int32} {b e : Nat → Int32} {xs : PL} (h : CSet n b e xs) : n = nI xs.length := h.1
theorem CSet.s {n : Int32} {b e : Nat → Int32} {xs : PL} (h : CSet n b e xs) : seg b e 0 xs := h.2.1
theorem CSet.c {n : Int32} {b e : Nat → Int32} {xs : PL} (h : CSet n b e xs) : canL xs := h.2.2.1
theorem CSet.o {n : Int32} {b e : Nat → Int32} {xs : PL} (h : CSet n b e xs) : okL xs := h.2.2.2
theorem cs_add {n : Int32} {b e : Nat → Int32} {xs : PL} (h : CSet n b e xs) (hl : xs.length < 1024) (p1 p2 : Int32) (h0 : p1.toInt ≤ p2.toInt → 0 ≤ p1.toInt ∧ p2.toInt ≤ 1114111) :
    ∃ n' b' e' xs', f_SET_add n b e p1 p2 = some (n', b', e') ∧ CSet n' b' e' xs' ∧ xs'.length ≤ xs.length + 1 ∧ ∀ z, memL xs' z ↔ memL xs z ∨ (p1.toInt ≤ z ∧ z ≤ p2.toInt) := by
  rw [h.n]
  by_cases c : p1.toInt ≤ p2.toInt
  · obtain ⟨a1, a2⟩ := h0 c
    obtain ⟨b', e', e1, e2⟩ := set_add h.c hl h.s a1 c a2
    exact ⟨_, b', e', _, e1, ⟨rfl, e2, ins_can _ _ _ c h.c, ins_ok _ _ _ c a1 a2 h.o⟩, (ins_len _ _ _).1, fun z => ins_mem _ _ _ z c h.c⟩
  · refine ⟨_, b, e, xs, set_add_no (by omega), ⟨rfl, h.s, h.c, h.o⟩, Nat.le_succ _, fun z => ?_⟩
    constructor
    · exact Or.inl
    · rintro (q | q)
      · exact q
      · omega
def PF (k : Nat) : Int := (stF 14 (3 * k)).toInt
def PT (k : Nat) : Int := (stF 14 (3 * k + 1)).toInt
def PD (k : Nat) : Int := (stF 14 (3 * k + 2)).toInt
theorem prow_ok : ∀ k : Nat, k < 12 → 0 ≤ PF k ∧ PF k ≤ PT k ∧ PT k ≤ 1119 ∧ 0 ≤ PF k + PD k ∧ PT k + PD k ≤ 1119 ∧ -80 ≤ PD k ∧ PD k ≤ 80 := by decide
def rowM (k : Nat) (a b z : Int) : Prop := PF k ≤ z - PD k ∧ z - PD k ≤ PT k ∧ a ≤ z - PD k ∧ z - PD k ≤ b
theorem stN14 : stN 14 = 36 := rfl
theorem stN15 : stN 15 = 20 := rfl
theorem aw_rows (p1 p2 : Int32) (hp1 : 0 ≤ p1.toInt ∧ p1.toInt ≤ 1114111) (hp2 : 0 ≤ p2.toInt ∧ p2.toInt ≤ 1114111) : ∀ (j k : Nat), j + k = 12 → ∀ (n : Int32) (b e : Nat → Int32) (xs : PL) (F : Nat), CSet n b e xs → xs.length + j < 1024 →
    ∃ n' b' e' xs', f_SET_addWithAlike_L8 p1 p2 (F + j + 1) (nI (3 * k), n, b, e) = f_SET_addWithAlike_L65 p1 p2 FU (0, n', b', e') ∧ CSet n' b' e' xs' ∧ xs'.length ≤ xs.length + j ∧ ∀ z, memL xs' z ↔ memL xs z ∨ ∃ k', k ≤ k' ∧ k' < 12 ∧ rowM k' p1.toInt p2.toInt z := by
  intro j
  induction j with
  | zero =>
    intro k hk n b e xs F h hl
    have : k = 12 := by omega
    subst this
    refine ⟨n, b, e, xs, ?_, h, Nat.le_refl _, fun z => ?_⟩
    · rw [f_SET_addWithAlike_L8_s]
      unfold f_SET_addWithAlike_B8
      rw [if_pos (show Int32.ofNat (stN 14) ≤ nI (3 * 12) + 2 by decide)]
    · constructor
      · exact Or.inl
      · rintro (q | ⟨k', q1, q2, _⟩)
        · exact q
        · omega
  | succ j ih =>
    intro k hk n b e xs F h hl
    obtain ⟨r1, r2, r3, r4, r5, r6, r7⟩ := prow_ok k (by omega)
    have ek1 : nI (3 * k) + 1 = nI (3 * k + 1) := nI_1 _
    have ek2 : nI (3 * k) + 2 = nI (3 * k + 2) := nI_add _ 2
    have ek3 : nI (3 * k) + 3 = nI (3 * (k + 1)) := by
      have : nI (3 * k) + nI 3 = nI (3 * k + 3) := nI_add _ _
      rw [show 3 * (k + 1) = 3 * k + 3 by omega]; exact this
    have c0 : (nI (3 * k)).toNatClampNeg = 3 * k := nI_clamp (by omega)
    have c1 : (nI (3 * k + 1)).toNatClampNeg = 3 * k + 1 := nI_clamp (by omega)
    have c2 : (nI (3 * k + 2)).toNatClampNeg = 3 * k + 2 := nI_clamp (by omega)
    have g0 : inb (nI (3 * k)) (stN 14) = true := inb_nI (by rw [stN14]; omega) (by rw [stN14]; decide)
    have g1 : inb (nI (3 * k + 1)) (stN 14) = true := inb_nI (by rw [stN14]; omega) (by rw [stN14]; decide)
    have g2 : inb (nI (3 * k + 2)) (stN 14) = true := inb_nI (by rw [stN14]; omega) (by rw [stN14]; decide)
    rw [show F + (j + 1) + 1 = (F + j + 1) + 1 by omega, f_SET_addWithAlike_L8_s]
    unfold f_SET_addWithAlike_B8
    have eN : Int32.ofNat (stN 14) = nI 36 := rfl
    rw [ek1, ek2, eN, if_neg (fun q => by have := (nI_leI (by decide) (by omega)).mp q; omega), grd_t g2, grd_t g0, grd_t g1, c0, c1, c2, ek3]
    have hA : ((if p1 < stF 14 (3 * k) then stF 14 (3 * k) else p1) + stF 14 (3 * k + 2)).toInt = (if p1.toInt < PF k then PF k else p1.toInt) + PD k := by
      have : (if p1 < stF 14 (3 * k) then stF 14 (3 * k) else p1).toInt = if p1.toInt < PF k then PF k else p1.toInt := by
        by_cases q : p1.toInt < PF k
        · rw [if_pos (lt_ti.mpr q), if_pos q]; rfl
        · rw [if_neg (fun u => q (lt_ti.mp u)), if_neg q]
      have bb : -200 ≤ (if p1.toInt < PF k then PF k else p1.toInt) ∧ (if p1.toInt < PF k then PF k else p1.toInt) ≤ 1114111 := by split <;> omega
      have pd : (stF 14 (3 * k + 2)).toInt = PD k := rfl
      rw [ti_add (by rw [this, pd]; omega) (by rw [this, pd]; omega), this, pd]
    have hB : ((if stF 14 (3 * k + 1) < p2 then stF 14 (3 * k + 1) else p2) + stF 14 (3 * k + 2)).toInt = (if PT k < p2.toInt then PT k else p2.toInt) + PD k := by
      have : (if stF 14 (3 * k + 1) < p2 then stF 14 (3 * k + 1) else p2).toInt = if PT k < p2.toInt then PT k else p2.toInt := by
        by_cases q : PT k < p2.toInt
        · rw [if_pos (lt_ti.mpr q), if_pos q]; rfl
        · rw [if_neg (fun u => q (lt_ti.mp u)), if_neg q]
      have bb : -200 ≤ (if PT k < p2.toInt then PT k else p2.toInt) ∧ (if PT k < p2.toInt then PT k else p2.toInt) ≤ 1114111 := by split <;> omega
      have pd : (stF 14 (3 * k + 2)).toInt = PD k := rfl
      rw [ti_add (by rw [this, pd]; omega) (by rw [this, pd]; omega), this, pd]
    obtain ⟨n1, b1, e1, ys, f1, f2, f3, f4⟩ := cs_add h (by omega) ((if p1 < stF 14 (3 * k) then stF 14 (3 * k) else p1) + stF 14 (3 * k + 2)) ((if stF 14 (3 * k + 1) < p2 then stF 14 (3 * k + 1) else p2) + stF 14 (3 * k + 2)) (fun q => by
      rw [hA, hB] at q ⊢
      constructor
      · split <;> omega
      · split <;> omega)
    rw [bnd_s f1]
    obtain ⟨n2, b2, e2, zs, d1, d2, d3, d4⟩ := ih (k + 1) (by omega) n1 b1 e1 ys F f2 (by omega)
    refine ⟨n2, b2, e2, zs, d1, d2, by omega, fun z => ?_⟩
    rw [d4 z, f4 z, hA, hB]
    constructor
    · rintro ((q | q) | ⟨k', q1, q2, q3⟩)
      · exact Or.inl q
      · refine Or.inr ⟨k, Nat.le_refl _, by omega, ?_⟩
        unfold rowM
        obtain ⟨u, v⟩ := q
        split at u <;> split at v <;> omega
      · exact Or.inr ⟨k', by omega, q2, q3⟩
    · rintro (q | ⟨k', q1, q2, q3⟩)
      · exact Or.inl (Or.inl q)
      · rcases Nat.lt_or_ge k k' with u | u
        · exact Or.inr ⟨k', by omega, q2, q3⟩
        · have : k' = k := by omega
          subst this
          unfold rowM at q3
          refine Or.inl (Or.inr ⟨?_, ?_⟩)
          · split <;> omega
          · split <;> omega
def KN (j : Nat) : Int := (stF 15 j).toInt
theorem kn_ok : ∀ j : Nat, j < 20 → 0 ≤ KN j ∧ KN j ≤ 1114111 := by decide
/-- the second half of addKin: the adds -/
theorem kin_adds (p2 p3 : Int32) (k : Nat) (hk : k < 5) : ∀ (j i : Nat), j + i = 4 → ∀ (n : Int32) (b e : Nat → Int32) (xs : PL) (F : Nat), CSet n b e xs → xs.length + j < 1024 →
    ∃ n' b' e' xs', f_SET_addKin_L64 (nI (4 * k)) p2 p3 (F + j + 1) (true, nI (4 * k + i), n, b, e) = some (n', b', e') ∧ CSet n' b' e' xs' ∧ xs'.length ≤ xs.length + j ∧ ∀ z, memL xs' z ↔ memL xs z ∨ ∃ i', i ≤ i' ∧ i' < 4 ∧ z = KN (4 * k + i') := by
  intro j
  induction j with
  | zero =>
    intro i hi n b e xs F h hl
    have : i = 4 := by omega
    subst this
    refine ⟨n, b, e, xs, ?_, h, Nat.le_refl _, fun z => ?_⟩
    · rw [f_SET_addKin_L64_s]
      unfold f_SET_addKin_B64
      have : nI (4 * k) + 4 = nI (4 * k + 4) := nI_add _ 4
      rw [if_neg (show ¬ b2i true = 0 by decide), this, if_pos ((nI_leI (by omega) (by omega)).mpr (Nat.le_refl _))]
    · constructor
      · exact Or.inl
      · rintro (q | ⟨k', q1, q2, _⟩)
        · exact q
        · omega
  | succ j ih =>
    intro i hi n b e xs F h hl
    have ee : nI (4 * k) + 4 = nI (4 * k + 4) := nI_add _ 4
    have eN : Int32.ofNat (stN 15) = nI 20 := rfl
    have g : inb (nI (4 * k + i)) (stN 15) = true := inb_nI (by rw [stN15]; omega) (by rw [stN15]; decide)
    have cc : (nI (4 * k + i)).toNatClampNeg = 4 * k + i := nI_clamp (by omega)
    rw [show F + (j + 1) + 1 = (F + j + 1) + 1 by omega, f_SET_addKin_L64_s]
    unfold f_SET_addKin_B64
    rw [if_neg (show ¬ b2i true = 0 by decide), ee, eN, if_neg (fun q => by have := (nI_leI (by omega) (by omega)).mp q; omega), if_neg (fun q => by have := (nI_leI (by omega) (by omega)).mp q; omega), grd_t g, grd_t g, cc, nI_1]
    have ko := kn_ok (4 * k + i) (by omega)
    obtain ⟨n1, b1, e1, ys, f1, f2, f3, f4⟩ := cs_add h (by omega) (stF 15 (4 * k + i)) (stF 15 (4 * k + i)) (fun _ => ko)
    rw [bnd_s f1]
    obtain ⟨n2, b2, e2, zs, d1, d2, d3, d4⟩ := ih (i + 1) (by omega) n1 b1 e1 ys F f2 (by omega)
    refine ⟨n2, b2, e2, zs, d1, d2, by omega, fun z => ?_⟩
    rw [d4 z, f4 z]
    have kd : (stF 15 (4 * k + i)).toInt = KN (4 * k + i) := rfl
    rw [kd]
    constructor
    · rintro ((q | q) | ⟨k', q1, q2, q3⟩)
      · exact Or.inl q
      · exact Or.inr ⟨i, Nat.le_refl _, by omega, by omega⟩
      · exact Or.inr ⟨k', by omega, q2, q3⟩
    · rintro (q | ⟨k', q1, q2, q3⟩)
      · exact Or.inl (Or.inl q)
      · rcases Nat.lt_or_ge i k' with u | u
        · exact Or.inr ⟨k', by omega, q2, q3⟩
        · have : k' = i := by omega
          subst this
          exact Or.inl (Or.inr ⟨by omega, by omega⟩)
def metK (k : Nat) (a b : Int) (i0 : Nat) : Prop := ∃ i, i < i0 ∧ a ≤ KN (4 * k + i) ∧ KN (4 * k + i) ≤ b
theorem kin_met (p2 p3 : Int32) (k : Nat) (hk : k < 5) (n : Int32) (b e : Nat → Int32) : ∀ (j i : Nat), j + i = 4 → ∀ (v : Bool) (F : Nat), (v = true ↔ metK k p2.toInt p3.toInt i) →
    ∃ v', f_SET_addKin_L6 (nI (4 * k)) p2 p3 (F + j + 1) (v, nI (4 * k + i), n, b, e) = f_SET_addKin_L64 (nI (4 * k)) p2 p3 FU (v', nI (4 * k), n, b, e) ∧ (v' = true ↔ metK k p2.toInt p3.toInt 4) := by
  intro j
  induction j with
  | zero =>
    intro i hi v F hv
    have : i = 4 := by omega
    subst this
    refine ⟨v, ?_, hv⟩
    have : nI (4 * k) + 4 = nI (4 * k + 4) := nI_add _ 4
    rw [f_SET_addKin_L6_s]
    unfold f_SET_addKin_B6
    rw [this, if_pos ((nI_leI (by omega) (by omega)).mpr (Nat.le_refl _))]
  | succ j ih =>
    intro i hi v F hv
    have ee : nI (4 * k) + 4 = nI (4 * k + 4) := nI_add _ 4
    have eN : Int32.ofNat (stN 15) = nI 20 := rfl
    have g : inb (nI (4 * k + i)) (stN 15) = true := inb_nI (by rw [stN15]; omega) (by rw [stN15]; decide)
    have cc : (nI (4 * k + i)).toNatClampNeg = 4 * k + i := nI_clamp (by omega)
    have kd : (stF 15 (4 * k + i)).toInt = KN (4 * k + i) := rfl
    have stp : ∀ w : Bool, (w = true ↔ metK k p2.toInt p3.toInt (i + 1)) → ∃ v', f_SET_addKin_L6 (nI (4 * k)) p2 p3 (F + j + 1) (w, nI (4 * k + i + 1), n, b, e) = f_SET_addKin_L64 (nI (4 * k)) p2 p3 FU (v', nI (4 * k), n, b, e) ∧ (v' = true ↔ metK k p2.toInt p3.toInt 4) := fun w hw => ih (i + 1) (by omega) w F hw
    have mS : metK k p2.toInt p3.toInt (i + 1) ↔ metK k p2.toInt p3.toInt i ∨ (p2.toInt ≤ KN (4 * k + i) ∧ KN (4 * k + i) ≤ p3.toInt) := by
      constructor
      · rintro ⟨i', q1, q2⟩
        rcases Nat.lt_or_ge i' i with u | u
        · exact Or.inl ⟨i', u, q2⟩
        · have : i' = i := by omega
          subst this; exact Or.inr q2
      · rintro (⟨i', q1, q2⟩ | q)
        · exact ⟨i', by omega, q2⟩
        · exact ⟨i, by omega, q⟩
    rw [show F + (j + 1) + 1 = (F + j + 1) + 1 by omega, f_SET_addKin_L6_s]
    unfold f_SET_addKin_B6
    rw [ee, eN, if_neg (fun q => by have := (nI_leI (by omega) (by omega)).mp q; omega), if_neg (fun q => by have := (nI_leI (by omega) (by omega)).mp q; omega), cc, nI_1]
    cases v with
    | true =>
      rw [if_neg (show ¬ b2i true = 0 by decide)]
      exact stp true ⟨fun _ => mS.mpr (Or.inl (hv.mp rfl)), fun _ => rfl⟩
    | false =>
      have hv' : ¬ metK k p2.toInt p3.toInt i := fun q => by have := hv.mpr q; cases this
      rw [if_pos (show b2i false = 0 from rfl), grd_t g]
      by_cases q1 : KN (4 * k + i) < p2.toInt
      · rw [if_pos (lt_ti.mpr (by rw [kd]; exact q1))]
        refine stp false ⟨fun u => (by cases u), fun u => ?_⟩
        rcases mS.mp u with u | u
        · exact absurd u hv'
        · omega
      · rw [if_neg (fun u => q1 (by have := lt_ti.mp u; rw [kd] at this; exact this)), grd_t g]
        by_cases q2 : p3.toInt < KN (4 * k + i)
        · rw [if_pos (lt_ti.mpr (by rw [kd]; exact q2))]
          refine stp false ⟨fun u => (by cases u), fun u => ?_⟩
          rcases mS.mp u with u | u
          · exact absurd u hv'
          · omega
        · rw [if_neg (fun u => q2 (by have := lt_ti.mp u; rw [kd] at this; exact this))]
          exact stp true ⟨fun _ => mS.mpr (Or.inr ⟨by omega, by omega⟩), fun _ => rfl⟩
theorem cs_kin {n : Int32} {b e : Nat → Int32} {xs : PL} (h : CSet n b e xs) (hl : xs.length + 4 < 1024) (p2 p3 : Int32) (k : Nat) (hk : k < 5) :
    ∃ n' b' e' xs', f_SET_addKin n b e (nI (4 * k)) p2 p3 = some (n', b', e') ∧ CSet n' b' e' xs' ∧ xs'.length ≤ xs.length + 4 ∧ ∀ z, memL xs' z ↔ memL xs z ∨ (metK k p2.toInt p3.toInt 4 ∧ ∃ i', i' < 4 ∧ z = KN (4 * k + i')) := by
  unfold f_SET_addKin
  obtain ⟨v', e1, e2⟩ := kin_met p2 p3 k hk n b e 4 0 rfl false (999999 - 4) ⟨fun q => (by cases q), fun ⟨i, q, _⟩ => (by omega)⟩
  have e1' : f_SET_addKin_L6 (nI (4 * k)) p2 p3 FU (false, nI (4 * k), n, b, e) = _ := e1
  rw [e1']
  cases v' with
  | false =>
    have hn : ¬ metK k p2.toInt p3.toInt 4 := fun q => by have := e2.mpr q; cases this
    refine ⟨n, b, e, xs, ?_, h, by omega, fun z => ⟨Or.inl, ?_⟩⟩
    · rw [FU_s, f_SET_addKin_L64_s]
      unfold f_SET_addKin_B64
      rw [if_pos (show b2i false = 0 from rfl)]
    · rintro (q | q)
      · exact q
      · exact absurd q.1 hn
  | true =>
    obtain ⟨n2, b2, e2', zs, d1, d2, d3, d4⟩ := kin_adds p2 p3 k hk 4 0 rfl n b e xs (999999 - 4) h hl
    have d1' : f_SET_addKin_L64 (nI (4 * k)) p2 p3 FU (true, nI (4 * k), n, b, e) = _ := d1
    refine ⟨n2, b2, e2', zs, d1', d2, d3, fun z => ?_⟩
    rw [d4 z]
    constructor
    · rintro (q | ⟨i', q1, q2, q3⟩)
      · exact Or.inl q
      · exact Or.inr ⟨e2.mp rfl, i', q2, q3⟩
    · rintro (q | ⟨_, i', q2, q3⟩)
      · exact Or.inl q
      · exact Or.inr ⟨i', Nat.zero_le _, q2, q3⟩
theorem aw_lines (p1 p2 : Int32) : ∀ (j k : Nat), j + k = 5 → ∀ (n : Int32) (b e : Nat → Int32) (xs : PL) (F : Nat), CSet n b e xs → xs.length + 4 * j < 1024 →
    ∃ n' b' e' xs', f_SET_addWithAlike_L65 p1 p2 (F + j + 1) (nI (4 * k), n, b, e) = some (n', b', e') ∧ CSet n' b' e' xs' ∧ xs'.length ≤ xs.length + 4 * j ∧ ∀ z, memL xs' z ↔ memL xs z ∨ ∃ k', k ≤ k' ∧ k' < 5 ∧ metK k' p1.toInt p2.toInt 4 ∧ ∃ i', i' < 4 ∧ z = KN (4 * k' + i') := by
  intro j
  induction j with
  | zero =>
    intro k hk n b e xs F h hl
    have : k = 5 := by omega
    subst this
    refine ⟨n, b, e, xs, ?_, h, Nat.le_refl _, fun z => ⟨Or.inl, ?_⟩⟩
    · rw [f_SET_addWithAlike_L65_s]
      unfold f_SET_addWithAlike_B65
      rw [if_pos (show Int32.ofNat (stN 15) ≤ nI (4 * 5) + 3 by decide)]
    · rintro (q | ⟨k', q1, q2, _⟩)
      · exact q
      · omega
  | succ j ih =>
    intro k hk n b e xs F h hl
    have eN : Int32.ofNat (stN 15) = nI 20 := rfl
    have e3 : nI (4 * k) + 3 = nI (4 * k + 3) := nI_add _ 3
    have e4 : nI (4 * k) + 4 = nI (4 * (k + 1)) := by
      have : nI (4 * k) + nI 4 = nI (4 * k + 4) := nI_add _ _
      rw [show 4 * (k + 1) = 4 * k + 4 by omega]; exact this
    rw [show F + (j + 1) + 1 = (F + j + 1) + 1 by omega, f_SET_addWithAlike_L65_s]
    unfold f_SET_addWithAlike_B65
    rw [e3, eN, if_neg (fun q => by have := (nI_leI (by omega) (by omega)).mp q; omega), e4]
    obtain ⟨n1, b1, e1, ys, f1, f2, f3, f4⟩ := cs_kin h (by omega) p1 p2 k (by omega)
    rw [bnd_s f1]
    obtain ⟨n2, b2, e2, zs, d1, d2, d3, d4⟩ := ih (k + 1) (by omega) n1 b1 e1 ys F f2 (by omega)
    refine ⟨n2, b2, e2, zs, d1, d2, by omega, fun z => ?_⟩
    rw [d4 z, f4 z]
    constructor
    · rintro ((q | q) | ⟨k', q1, q2, q3⟩)
      · exact Or.inl q
      · exact Or.inr ⟨k, Nat.le_refl _, by omega, q⟩
      · exact Or.inr ⟨k', by omega, q2, q3⟩
    · rintro (q | ⟨k', q1, q2, q3⟩)
      · exact Or.inl (Or.inl q)
      · rcases Nat.lt_or_ge k k' with u | u
        · exact Or.inr ⟨k', by omega, q2, q3⟩
        · have : k' = k := by omega
          subst this
          exact Or.inl (Or.inr q3)
theorem rowM_mate {k : Nat} (hk : k < 12) {a b z : Int} (h : rowM k a b z) : ∃ y, a ≤ y ∧ y ≤ b ∧ mate y z := by
  unfold rowM at h
  refine ⟨z - PD k, h.2.2.1, h.2.2.2, ?_⟩
  obtain ⟨h1, h2, -, -⟩ := h
  rcases (show k = 0 ∨ k = 1 ∨ k = 2 ∨ k = 3 ∨ k = 4 ∨ k = 5 ∨ k = 6 ∨ k = 7 ∨ k = 8 ∨ k = 9 ∨ k = 10 ∨ k = 11 by omega) with rfl | rfl | rfl | rfl | rfl | rfl | rfl | rfl | rfl | rfl | rfl | rfl
  · exact Or.inl ⟨h1, h2, (by show z = z - 32 + 32; omega)⟩
  · exact Or.inr (Or.inl ⟨h1, h2, (by show z = z - -32 - 32; omega)⟩)
  · exact Or.inr (Or.inr (Or.inl ⟨h1, h2, (by show z = z - 32 + 32; omega)⟩))
  · exact Or.inr (Or.inr (Or.inr (Or.inl ⟨h1, h2, (by show z = z - -32 - 32; omega)⟩)))
  · exact Or.inr (Or.inr (Or.inr (Or.inr (Or.inl ⟨h1, h2, (by show z = z - 32 + 32; omega)⟩))))
  · exact Or.inr (Or.inr (Or.inr (Or.inr (Or.inr (Or.inl ⟨h1, h2, (by show z = z - -32 - 32; omega)⟩)))))
  · exact Or.inr (Or.inr (Or.inr (Or.inr (Or.inr (Or.inr (Or.inl ⟨h1, h2, (by show z = z - 32 + 32; omega)⟩))))))
  · exact Or.inr (Or.inr (Or.inr (Or.inr (Or.inr (Or.inr (Or.inr (Or.inl ⟨h1, h2, (by show z = z - -32 - 32; omega)⟩)))))))
  · exact Or.inr (Or.inr (Or.inr (Or.inr (Or.inr (Or.inr (Or.inr (Or.inr (Or.inl ⟨h1, h2, (by show z = z - 32 + 32; omega)⟩))))))))
  · exact Or.inr (Or.inr (Or.inr (Or.inr (Or.inr (Or.inr (Or.inr (Or.inr (Or.inr (Or.inl ⟨h1, h2, (by show z = z - -32 - 32; omega)⟩)))))))))
  · exact Or.inr (Or.inr (Or.inr (Or.inr (Or.inr (Or.inr (Or.inr (Or.inr (Or.inr (Or.inr (Or.inl ⟨h1, h2, (by show z = z - 80 + 80; omega)⟩))))))))))
  · exact Or.inr (Or.inr (Or.inr (Or.inr (Or.inr (Or.inr (Or.inr (Or.inr (Or.inr (Or.inr (Or.inr ⟨h1, h2, (by show z = z - -80 - 80; omega)⟩))))))))))
theorem mate_rowM {a b y z : Int} (ha : a ≤ y) (hb : y ≤ b) (h : mate y z) : ∃ k, k < 12 ∧ rowM k a b z := by
  unfold mate at h
  rcases h with h | h | h | h | h | h | h | h | h | h | h | h
  · exact ⟨0, by decide, (by show 65 ≤ z - 32; omega), (by show z - 32 ≤ 90; omega), (by show a ≤ z - 32; omega), (by show z - 32 ≤ b; omega)⟩
  · exact ⟨1, by decide, (by show 97 ≤ z - -32; omega), (by show z - -32 ≤ 122; omega), (by show a ≤ z - -32; omega), (by show z - -32 ≤ b; omega)⟩
  · exact ⟨2, by decide, (by show 192 ≤ z - 32; omega), (by show z - 32 ≤ 214; omega), (by show a ≤ z - 32; omega), (by show z - 32 ≤ b; omega)⟩
  · exact ⟨3, by decide, (by show 224 ≤ z - -32; omega), (by show z - -32 ≤ 246; omega), (by show a ≤ z - -32; omega), (by show z - -32 ≤ b; omega)⟩
  · exact ⟨4, by decide, (by show 216 ≤ z - 32; omega), (by show z - 32 ≤ 222; omega), (by show a ≤ z - 32; omega), (by show z - 32 ≤ b; omega)⟩
  · exact ⟨5, by decide, (by show 248 ≤ z - -32; omega), (by show z - -32 ≤ 254; omega), (by show a ≤ z - -32; omega), (by show z - -32 ≤ b; omega)⟩
  · exact ⟨6, by decide, (by show 913 ≤ z - 32; omega), (by show z - 32 ≤ 937; omega), (by show a ≤ z - 32; omega), (by show z - 32 ≤ b; omega)⟩
  · exact ⟨7, by decide, (by show 945 ≤ z - -32; omega), (by show z - -32 ≤ 969; omega), (by show a ≤ z - -32; omega), (by show z - -32 ≤ b; omega)⟩
  · exact ⟨8, by decide, (by show 1040 ≤ z - 32; omega), (by show z - 32 ≤ 1071; omega), (by show a ≤ z - 32; omega), (by show z - 32 ≤ b; omega)⟩
  · exact ⟨9, by decide, (by show 1072 ≤ z - -32; omega), (by show z - -32 ≤ 1103; omega), (by show a ≤ z - -32; omega), (by show z - -32 ≤ b; omega)⟩
  · exact ⟨10, by decide, (by show 1024 ≤ z - 80; omega), (by show z - 80 ≤ 1039; omega), (by show a ≤ z - 80; omega), (by show z - 80 ≤ b; omega)⟩
  · exact ⟨11, by decide, (by show 1104 ≤ z - -80; omega), (by show z - -80 ≤ 1119; omega), (by show a ≤ z - -80; omega), (by show z - -80 ≤ b; omega)⟩
theorem kn_kin : ∀ k, k < 5 → ∀ i, i < 4 → ∀ i', i' < 4 → rep (KN (4 * k + i)) = rep (KN (4 * k + i')) := by decide
theorem kin_line {y z : Int} (h : kin y z) : ∃ k, k < 5 ∧ (∃ i, i < 4 ∧ y = KN (4 * k + i)) ∧ ∃ i, i < 4 ∧ z = KN (4 * k + i) := by
  have l0 : ∀ z : Int, (z = 75 ∨ z = 107 ∨ z = 8490) → ∃ i, i < 4 ∧ z = KN (4 * 0 + i) := by
    rintro z (rfl | rfl | rfl)
    · exact ⟨0, by decide, rfl⟩
    · exact ⟨1, by decide, rfl⟩
    · exact ⟨2, by decide, rfl⟩
  have l1 : ∀ z : Int, (z = 83 ∨ z = 115 ∨ z = 383) → ∃ i, i < 4 ∧ z = KN (4 * 1 + i) := by
    rintro z (rfl | rfl | rfl)
    · exact ⟨0, by decide, rfl⟩
    · exact ⟨1, by decide, rfl⟩
    · exact ⟨2, by decide, rfl⟩
  have l2 : ∀ z : Int, (z = 197 ∨ z = 229 ∨ z = 8491) → ∃ i, i < 4 ∧ z = KN (4 * 2 + i) := by
    rintro z (rfl | rfl | rfl)
    · exact ⟨0, by decide, rfl⟩
    · exact ⟨1, by decide, rfl⟩
    · exact ⟨2, by decide, rfl⟩
  have l3 : ∀ z : Int, (z = 181 ∨ z = 924 ∨ z = 956) → ∃ i, i < 4 ∧ z = KN (4 * 3 + i) := by
    rintro z (rfl | rfl | rfl)
    · exact ⟨0, by decide, rfl⟩
    · exact ⟨1, by decide, rfl⟩
    · exact ⟨2, by decide, rfl⟩
  have l4 : ∀ z : Int, (z = 930 ∨ z = 931 ∨ z = 962 ∨ z = 963) → ∃ i, i < 4 ∧ z = KN (4 * 4 + i) := by
    rintro z (rfl | rfl | rfl | rfl)
    · exact ⟨0, by decide, rfl⟩
    · exact ⟨1, by decide, rfl⟩
    · exact ⟨2, by decide, rfl⟩
    · exact ⟨3, by decide, rfl⟩
  rcases h with h | h | h | h | h
  · exact ⟨0, by decide, l0 _ h.1, l0 _ h.2⟩
  · exact ⟨1, by decide, l1 _ h.1, l1 _ h.2⟩
  · exact ⟨2, by decide, l2 _ h.1, l2 _ h.2⟩
  · exact ⟨3, by decide, l3 _ h.1, l3 _ h.2⟩
  · exact ⟨4, by decide, l4 _ h.1, l4 _ h.2⟩
theorem cs_alike {n : Int32} {b e : Nat → Int32} {xs : PL} (h : CSet n b e xs) (hl : xs.length + 33 < 1024) (p1 p2 : Int32) (h0 : 0 ≤ p1.toInt) (h1 : p1.toInt ≤ p2.toInt) (h2 : p2.toInt ≤ 1114111) :
    ∃ n' b' e' xs', f_SET_addWithAlike n b e p1 p2 = some (n', b', e') ∧ CSet n' b' e' xs' ∧ ∀ z, memL xs' z ↔ memL xs z ∨ AL p1.toInt p2.toInt z := by
  unfold f_SET_addWithAlike
  obtain ⟨n1, b1, e1, ys, f1, f2, f3, f4⟩ := cs_add h (by omega) p1 p2 (fun _ => ⟨h0, h2⟩)
  rw [bnd_s f1]
  obtain ⟨n2, b2, e2, zs, d1, d2, d3, d4⟩ := aw_rows p1 p2 ⟨h0, by omega⟩ ⟨by omega, h2⟩ 12 0 rfl n1 b1 e1 ys (999999 - 12) f2 (by omega)
  have d1' : f_SET_addWithAlike_L8 p1 p2 FU (0, n1, b1, e1) = _ := d1
  rw [d1']
  obtain ⟨n3, b3, e3, ws, g1, g2, g3, g4⟩ := aw_lines p1 p2 5 0 rfl n2 b2 e2 zs (999999 - 5) d2 (by omega)
  have g1' : f_SET_addWithAlike_L65 p1 p2 FU (0, n2, b2, e2) = _ := g1
  refine ⟨n3, b3, e3, ws, g1', g2, fun z => ?_⟩
  rw [g4 z, d4 z, f4 z]
  constructor
  · rintro (((q | q) | ⟨k, _, q1, q2⟩) | ⟨k, _, q1, ⟨i, i1, i2, i3⟩, i', i4, i5⟩)
    · exact Or.inl q
    · exact Or.inr ⟨z, q.1, q.2, rfl⟩
    · obtain ⟨y, y1, y2, y3⟩ := rowM_mate q1 q2
      exact Or.inr ⟨y, y1, y2, rep_mate y3⟩
    · exact Or.inr ⟨KN (4 * k + i), i2, i3, by rw [i5]; exact kn_kin k q1 i i1 i' i4⟩
  · rintro (q | ⟨y, y1, y2, y3⟩)
    · exact Or.inl (Or.inl (Or.inl q))
    · rcases rep_cases y3 with u | u | u
      · subst u; exact Or.inl (Or.inl (Or.inr ⟨y1, y2⟩))
      · obtain ⟨k, k1, k2⟩ := mate_rowM y1 y2 u
        exact Or.inl (Or.inr ⟨k, Nat.zero_le _, k1, k2⟩)
      · obtain ⟨k, k1, ⟨i, i1, i2⟩, i', i3, i4⟩ := kin_line u
        exact Or.inr ⟨k, Nat.zero_le _, k1, ⟨i, i1, by rw [← i2]; exact ⟨y1, y2⟩⟩, i', i3, i4⟩

set_option maxRecDepth 100000
set_option linter.unusedVariables false
-- the class's fixed sets
def pF (k i : Nat) : Int × Int := ((stF k (2 * i)).toInt, (stF k (2 * i + 1)).toInt)
def spF (k : Nat) : Nat → Nat → PL
  | _, 0 => []
  | i, j + 1 => pF k i :: spF k (i + 1) j
def sp (k : Nat) : PL := spF k 0 (stN k / 2)
theorem sp_ok : ∀ k, k < 14 → stN k = 2 * (stN k / 2) ∧ stN k ≤ 18 ∧ ∀ i, i < stN k / 2 → 0 ≤ (pF k i).1 ∧ (pF k i).1 ≤ (pF k i).2 ∧ (pF k i).2 ≤ 1279 := by decide
theorem aset0 (k : Nat) (hk : k < 14) : ∀ (j i : Nat), i + j = stN k / 2 → ∀ (v3 n : Int32) (b e : Nat → Int32) (xs : PL) (F : Nat), CSet n b e xs → xs.length + j < 1024 →
    ∃ n' b' e' xs', f_SET_addSet_L5 k false (F + j + 1) (v3, nI (2 * i), n, b, e) = some (n', b', e') ∧ CSet n' b' e' xs' ∧ xs'.length ≤ xs.length + j ∧ ∀ z, memL xs' z ↔ memL xs z ∨ memL (spF k i j) z := by
  obtain ⟨s1, s2, s3⟩ := sp_ok k hk
  intro j
  induction j with
  | zero =>
    intro i hi v3 n b e xs F h hl
    refine ⟨n, b, e, xs, ?_, h, Nat.le_refl _, fun z => ⟨Or.inl, fun q => q.resolve_right memL_nil⟩⟩
    have eN : Int32.ofNat (stN k) = nI (stN k) := rfl
    rw [f_SET_addSet_L5_s]
    unfold f_SET_addSet_B5
    rw [eN, nI_1, if_pos ((nI_leI (by omega) (by omega)).mpr (by omega)), if_pos (show b2i false = 0 from rfl)]
  | succ j ih =>
    intro i hi v3 n b e xs F h hl
    have hp := s3 i (by omega)
    have eN : Int32.ofNat (stN k) = nI (stN k) := rfl
    have e2 : nI (2 * i) + 2 = nI (2 * (i + 1)) := by
      have : nI (2 * i) + nI 2 = nI (2 * i + 2) := nI_add _ _
      rw [show 2 * (i + 1) = 2 * i + 2 by omega]; exact this
    have c0 : (nI (2 * i)).toNatClampNeg = 2 * i := nI_clamp (by omega)
    have c1 : (nI (2 * i + 1)).toNatClampNeg = 2 * i + 1 := nI_clamp (by omega)
    have g0 : inb (nI (2 * i)) (stN k) = true := inb_nI (by omega) (by omega)
    have g1 : inb (nI (2 * i + 1)) (stN k) = true := inb_nI (by omega) (by omega)
    rw [show F + (j + 1) + 1 = (F + j + 1) + 1 by omega, f_SET_addSet_L5_s]
    unfold f_SET_addSet_B5 f_SET_addSet_L46
    rw [eN, nI_1, if_neg (fun q => by have := (nI_leI (by omega) (by omega)).mp q; omega), if_pos (show b2i false = 0 from rfl), grd_t g0, grd_t g1, c0, c1]
    obtain ⟨n1, b1, e1, ys, f1, f2, f3, f4⟩ := cs_add h (by omega) (stF k (2 * i)) (stF k (2 * i + 1)) (fun _ => ⟨hp.1, by have := hp.2.2; have e : (pF k i).2 = (stF k (2 * i + 1)).toInt := rfl; omega⟩)
    rw [bnd_s f1]
    simp only
    rw [grd_t g1, e2]
    obtain ⟨n2, b2, e2', zs, d1, d2, d3, d4⟩ := ih (i + 1) (by omega) (stF k (2 * i + 1) + 1) n1 b1 e1 ys F f2 (by omega)
    refine ⟨n2, b2, e2', zs, d1, d2, by omega, fun z => ?_⟩
    rw [d4 z, f4 z, spF, memL_cons]
    constructor
    · rintro ((q | q) | q)
      · exact Or.inl q
      · exact Or.inr (Or.inl q)
      · exact Or.inr (Or.inr q)
    · rintro (q | q | q)
      · exact Or.inl (Or.inl q)
      · exact Or.inl (Or.inr q)
      · exact Or.inr q
theorem aset1 (k : Nat) (hk : k < 14) : ∀ (j i : Nat), i + j = stN k / 2 → ∀ (v3 n : Int32) (b e : Nat → Int32) (xs : PL) (F : Nat), CSet n b e xs → xs.length + j + 1 < 1024 → 0 ≤ v3.toInt → v3.toInt ≤ 1280 →
    ∃ n' b' e' xs', f_SET_addSet_L5 k true (F + j + 1) (v3, nI (2 * i), n, b, e) = some (n', b', e') ∧ CSet n' b' e' xs' ∧ xs'.length ≤ xs.length + j + 1 ∧ ∀ z, memL xs' z ↔ memL xs z ∨ memL (compl v3.toInt (spF k i j)) z := by
  obtain ⟨s1, s2, s3⟩ := sp_ok k hk
  intro j
  induction j with
  | zero =>
    intro i hi v3 n b e xs F h hl h0 h1
    have eN : Int32.ofNat (stN k) = nI (stN k) := rfl
    rw [f_SET_addSet_L5_s]
    unfold f_SET_addSet_B5
    rw [eN, nI_1, if_pos ((nI_leI (by omega) (by omega)).mpr (by omega)), if_neg (show ¬ b2i true = 0 by decide)]
    obtain ⟨n1, b1, e1, ys, f1, f2, f3, f4⟩ := cs_add h (by omega) v3 1114111 (fun _ => ⟨h0, by decide⟩)
    rw [bnd_s f1]
    refine ⟨n1, b1, e1, ys, rfl, f2, by omega, fun z => ?_⟩
    rw [f4 z, spF, compl, if_pos (by omega), memL_cons, ti_last]
    constructor
    · rintro (q | q)
      · exact Or.inl q
      · exact Or.inr (Or.inl q)
    · rintro (q | q | q)
      · exact Or.inl q
      · exact Or.inr q
      · exact absurd q memL_nil
  | succ j ih =>
    intro i hi v3 n b e xs F h hl h0 h1
    have hp := s3 i (by omega)
    have ex : (pF k i).1 = (stF k (2 * i)).toInt := rfl
    have ey : (pF k i).2 = (stF k (2 * i + 1)).toInt := rfl
    have eN : Int32.ofNat (stN k) = nI (stN k) := rfl
    have e2 : nI (2 * i) + 2 = nI (2 * (i + 1)) := by
      have : nI (2 * i) + nI 2 = nI (2 * i + 2) := nI_add _ _
      rw [show 2 * (i + 1) = 2 * i + 2 by omega]; exact this
    have c0 : (nI (2 * i)).toNatClampNeg = 2 * i := nI_clamp (by omega)
    have c1 : (nI (2 * i + 1)).toNatClampNeg = 2 * i + 1 := nI_clamp (by omega)
    have g0 : inb (nI (2 * i)) (stN k) = true := inb_nI (by omega) (by omega)
    have g1 : inb (nI (2 * i + 1)) (stN k) = true := inb_nI (by omega) (by omega)
    have em : (stF k (2 * i) - 1).toInt = (pF k i).1 - 1 := by rw [ti_sub (by rw [ti1]; omega) (by rw [ti1]; omega), ti1, ex]
    have ep : (stF k (2 * i + 1) + 1).toInt = (pF k i).2 + 1 := by rw [ti_add (by rw [ti1]; omega) (by rw [ti1]; omega), ti1, ey]
    rw [show F + (j + 1) + 1 = (F + j + 1) + 1 by omega, f_SET_addSet_L5_s]
    unfold f_SET_addSet_B5 f_SET_addSet_L46
    rw [eN, nI_1, if_neg (fun q => by have := (nI_leI (by omega) (by omega)).mp q; omega), if_neg (show ¬ b2i true = 0 by decide), grd_t g0, c0, c1]
    obtain ⟨n1, b1, e1, ys, f1, f2, f3, f4⟩ := cs_add h (by omega) v3 (stF k (2 * i) - 1) (fun _ => ⟨h0, by rw [em]; omega⟩)
    rw [bnd_s f1]
    simp only
    rw [grd_t g1, e2]
    obtain ⟨n2, b2, e2', zs, d1, d2, d3, d4⟩ := ih (i + 1) (by omega) (stF k (2 * i + 1) + 1) n1 b1 e1 ys F f2 (by omega) (by rw [ep]; omega) (by rw [ep]; omega)
    refine ⟨n2, b2, e2', zs, d1, d2, by omega, fun z => ?_⟩
    rw [d4 z, f4 z, em, ep, spF]
    have ec : compl v3.toInt (pF k i :: spF k (i + 1) j) = if v3.toInt < (pF k i).1 then (v3.toInt, (pF k i).1 - 1) :: compl ((pF k i).2 + 1) (spF k (i + 1) j) else compl ((pF k i).2 + 1) (spF k (i + 1) j) := rfl
    rw [ec]
    split
    · rw [memL_cons]
      constructor
      · rintro ((q | q) | q)
        · exact Or.inl q
        · exact Or.inr (Or.inl q)
        · exact Or.inr (Or.inr q)
      · rintro (q | q | q)
        · exact Or.inl (Or.inl q)
        · exact Or.inl (Or.inr q)
        · exact Or.inr q
    · constructor
      · rintro ((q | q) | q)
        · exact Or.inl q
        · omega
        · exact Or.inr q
      · rintro (q | q)
        · exact Or.inl (Or.inl q)
        · exact Or.inr q
theorem cs_set {n : Int32} {b e : Nat → Int32} {xs : PL} (h : CSet n b e xs) (hl : xs.length + 20 < 1024) (k : Nat) (hk : k < 14) (oth : Bool) :
    ∃ n' b' e' xs', f_SET_addSet n b e k oth = some (n', b', e') ∧ CSet n' b' e' xs' ∧ xs'.length ≤ xs.length + 10 ∧ ∀ z, memL xs' z ↔ memL xs z ∨ memL (if oth then compl 0 (sp k) else sp k) z := by
  obtain ⟨s1, s2, s3⟩ := sp_ok k hk
  unfold f_SET_addSet
  cases oth with
  | false =>
    obtain ⟨n2, b2, e2, zs, d1, d2, d3, d4⟩ := aset0 k hk (stN k / 2) 0 (by omega) 0 n b e xs (999999 - stN k / 2) h (by omega)
    rw [show 999999 - stN k / 2 + stN k / 2 + 1 = FU by rw [FU_s]; omega] at d1
    exact ⟨n2, b2, e2, zs, d1, d2, by omega, d4⟩
  | true =>
    obtain ⟨n2, b2, e2, zs, d1, d2, d3, d4⟩ := aset1 k hk (stN k / 2) 0 (by omega) 0 n b e xs (999999 - stN k / 2) h (by omega) (by decide) (by decide)
    rw [show 999999 - stN k / 2 + stN k / 2 + 1 = FU by rw [FU_s]; omega] at d1
    exact ⟨n2, b2, e2, zs, d1, d2, by omega, d4⟩
-- finish, and the reference's keep
def keep1 (p : Int × Int) : PL := (if p.1 < 55296 then [(p.1, if p.2 < 55296 then p.2 else 55295)] else []) ++ (if 57343 < p.2 then [(if 57343 < p.1 then p.1 else 57344, p.2)] else [])
def keepL : PL → PL
  | [] => []
  | p :: t => keep1 p ++ keepL t
theorem memL_app {xs ys : PL} {z : Int} : memL (xs ++ ys) z ↔ memL xs z ∨ memL ys z := by
  constructor
  · rintro ⟨p, hp, h⟩
    rcases List.mem_append.mp hp with hp | hp
    · exact Or.inl ⟨p, hp, h⟩
    · exact Or.inr ⟨p, hp, h⟩
  · rintro (⟨p, hp, h⟩ | ⟨p, hp, h⟩)
    · exact ⟨p, List.mem_append_left _ hp, h⟩
    · exact ⟨p, List.mem_append_right _ hp, h⟩
theorem memL_one {a b z : Int} : memL [(a, b)] z ↔ a ≤ z ∧ z ≤ b := by
  rw [memL_cons]
  exact ⟨fun q => q.resolve_right memL_nil, Or.inl⟩
theorem memL_nilF {z : Int} : memL [] z ↔ False := ⟨memL_nil, False.elim⟩
theorem keep1_mem {p : Int × Int} (h : p.1 ≤ p.2) {z : Int} : memL (keep1 p) z ↔ (p.1 ≤ z ∧ z ≤ p.2) ∧ (z < 55296 ∨ 57343 < z) := by
  unfold keep1
  rw [memL_app]
  by_cases a1 : p.1 < 55296 <;> by_cases a2 : p.2 < 55296 <;> by_cases a3 : 57343 < p.2 <;> by_cases a4 : 57343 < p.1 <;> simp only [a1, a2, a3, a4, if_true, if_false, memL_one, memL_nilF, or_false, false_or, false_iff] <;> omega
theorem keepL_mem : ∀ {xs : PL}, okL xs → ∀ {z : Int}, memL (keepL xs) z ↔ memL xs z ∧ (z < 55296 ∨ 57343 < z) := by
  intro xs
  induction xs with
  | nil => intro _ z; exact ⟨fun q => absurd q memL_nil, fun q => absurd q.1 memL_nil⟩
  | cons p t ih =>
    intro h z
    rw [keepL, memL_app, memL_cons, keep1_mem (h p List.mem_cons_self).2.1, ih (fun q hq => h q (List.mem_cons_of_mem _ hq))]
    constructor
    · rintro (q | q)
      · exact ⟨Or.inl q.1, q.2⟩
      · exact ⟨Or.inr q.1, q.2⟩
    · rintro ⟨q | q, r⟩
      · exact Or.inl ⟨q, r⟩
      · exact Or.inr ⟨q, r⟩
theorem keepL_can : ∀ {xs : PL}, canL xs → okL xs → canL (keepL xs) ∧ ∀ v, abv v xs → abv v (keepL xs) := by
  intro xs
  induction xs with
  | nil => intro _ _; exact ⟨trivial, fun v _ p hp => (by cases hp)⟩
  | cons p t ih =>
    intro hc ho
    obtain ⟨x, y⟩ := p
    obtain ⟨c1, c2, c3⟩ := canL_tail hc
    simp only at c2 c3
    obtain ⟨i1, i2⟩ := ih c1 (fun q hq => ho q (List.mem_cons_of_mem _ hq))
    have hv := i2 _ c3
    have ha : ∀ v, abv v ((x, y) :: t) → abv v (keepL ((x, y) :: t)) := by
      intro v h q hq
      have hx := h (x, y) List.mem_cons_self
      simp only at hx
      rw [keepL, List.mem_append] at hq
      rcases hq with hq | hq
      · unfold keep1 at hq
        rw [List.mem_append] at hq
        rcases hq with hq | hq
        · split at hq
          · rw [List.mem_singleton] at hq; subst hq; exact hx
          · cases hq
        · split at hq
          · rw [List.mem_singleton] at hq; subst hq; simp only; split <;> omega
          · cases hq
      · exact i2 v (fun w hw => h w (List.mem_cons_of_mem _ hw)) q hq
    refine ⟨?_, ha⟩
    rw [keepL]
    unfold keep1
    simp only
    by_cases a1 : x < 55296
    · rw [if_pos a1]
      by_cases a2 : 57343 < y
      · rw [if_pos a2, if_neg (show ¬ y < 55296 by omega), if_neg (show ¬ 57343 < x by omega)]
        refine canL_cons (canL_cons i1 (by simp only; omega) hv) (by simp only; omega) ?_
        intro w hw
        rcases List.mem_cons.mp hw with rfl | hw
        · simp only; omega
        · have := hv w hw; simp only; omega
      · rw [if_neg a2]
        refine canL_cons i1 (by simp only; split <;> omega) ?_
        intro w hw
        have := hv w hw
        simp only
        split <;> omega
    · rw [if_neg a1]
      by_cases a2 : 57343 < y
      · rw [if_pos a2]
        refine canL_cons i1 (by simp only; split <;> omega) ?_
        intro w hw
        have := hv w hw
        exact this
      · rw [if_neg a2]; exact i1
theorem keepL_ok {xs : PL} (ho : okL xs) : okL (keepL xs) := by
  induction xs with
  | nil => intro p hp; cases hp
  | cons p t ih =>
    intro q hq
    have hp := ho p List.mem_cons_self
    rw [keepL, List.mem_append] at hq
    rcases hq with hq | hq
    · unfold keep1 at hq
      rw [List.mem_append] at hq
      rcases hq with hq | hq
      · split at hq
        · rw [List.mem_singleton] at hq; subst hq; simp only; split <;> omega
        · cases hq
      · split at hq
        · rw [List.mem_singleton] at hq; subst hq; simp only; split <;> omega
        · cases hq
    · exact ih (fun r hr => ho r (List.mem_cons_of_mem _ hr)) q hq
theorem compl_mem0 {xs : PL} (hc : canL xs) (ho : okL xs) {z : Int} : memL (compl 0 xs) z ↔ 0 ≤ z ∧ z ≤ 1114111 ∧ ¬ memL xs z := compl_mem xs 0 z hc ho (abv_ok ho)
theorem mem_ok {xs : PL} (ho : okL xs) {z : Int} (h : memL xs z) : 0 ≤ z ∧ z ≤ 1114111 := by
  obtain ⟨p, hp, h1, h2⟩ := h
  have := ho p hp; omega
/-- what finish leaves: the characters of the set, or those that are not -/
theorem cs_finish {n : Int32} {b e : Nat → Int32} {xs : PL} (h : CSet n b e xs) (hl : xs.length + 3 < 1024) (oth : Bool) :
    ∃ n' b' e', f_SET_finish n b e oth = some (n', b', e') ∧ CSet n' b' e' (keepL (if oth then compl 0 xs else xs)) := by
  have step : ∀ (n : Int32) (b e : Nat → Int32) (ys : PL), CSet n b e ys → ys.length + 2 < 1024 → ∃ n' b' e', f_SET_finish_L8 oth n b e = some (n', b', e') ∧ CSet n' b' e' (keepL (compl 0 ys)) := by
    intro n b e ys h hl
    unfold f_SET_finish_L8
    obtain ⟨n1, b1, e1, zs, f1, f2, f3, f4⟩ := cs_add h (by omega) 55296 57343 (fun _ => ⟨by decide, by decide⟩)
    rw [bnd_s f1]
    simp only
    rw [f2.n]
    obtain ⟨b2, e2, g1, g2⟩ := set_turn f2.o (by omega) f2.s
    rw [bnd_s g1]
    have hc2 := (compl_can zs 0 f2.c f2.o (abv_ok f2.o)).1
    have eq : compl 0 zs = keepL (compl 0 ys) := by
      refine canL_uniq _ _ hc2 (keepL_can (compl_can ys 0 h.c h.o (abv_ok h.o)).1 (compl_ok ys 0 h.c h.o (Int.le_refl _))).1 (fun z => ?_)
      rw [compl_mem0 f2.c f2.o, keepL_mem (compl_ok ys 0 h.c h.o (Int.le_refl _)), compl_mem0 h.c h.o, f4 z]
      have e5 : (55296 : Int32).toInt = 55296 := rfl
      have e6 : (57343 : Int32).toInt = 57343 := rfl
      rw [e5, e6]
      constructor
      · rintro ⟨q1, q2, q3⟩
        refine ⟨⟨q1, q2, fun r => q3 (Or.inl r)⟩, ?_⟩
        by_cases c : z < 55296
        · exact Or.inl c
        · by_cases c' : 57343 < z
          · exact Or.inr c'
          · exact absurd (Or.inr ⟨by omega, by omega⟩) q3
      · rintro ⟨⟨q1, q2, q3⟩, q4⟩
        refine ⟨q1, q2, ?_⟩
        rintro (r | r)
        · exact q3 r
        · omega
    rw [← eq]
    exact ⟨_, b2, e2, rfl, ⟨rfl, g2, hc2, compl_ok zs 0 f2.c f2.o (Int.le_refl _)⟩⟩
  unfold f_SET_finish
  cases oth with
  | true =>
    rw [if_neg (show ¬ b2i true = 0 by decide)]
    exact step n b e xs h (by omega)
  | false =>
    rw [if_pos (show b2i false = 0 from rfl), h.n]
    obtain ⟨b2, e2, g1, g2⟩ := set_turn h.o (by omega) h.s
    rw [bnd_s g1]
    have hc1 := (compl_can xs 0 h.c h.o (abv_ok h.o)).1
    have ho1 := compl_ok xs 0 h.c h.o (Int.le_refl _)
    have := step _ b2 e2 (compl 0 xs) ⟨rfl, g2, hc1, ho1⟩ (by have := compl_len xs 0; omega)
    have eq : compl 0 (compl 0 xs) = xs := by
      refine canL_uniq _ _ (compl_can _ 0 hc1 ho1 (abv_ok ho1)).1 h.c (fun z => ?_)
      rw [compl_mem0 hc1 ho1, compl_mem0 h.c h.o]
      constructor
      · rintro ⟨q1, q2, q3⟩
        exact Classical.byContradiction fun q => q3 ⟨q1, q2, q⟩
      · intro q
        have := mem_ok h.o q
        exact ⟨this.1, this.2, fun r => r.2.2 q⟩
    rw [eq] at this
    exact this

set_option maxRecDepth 100000
set_option linter.unusedVariables false
theorem keepL_len : ∀ (xs : PL), (keepL xs).length ≤ 2 * xs.length := by
  intro xs
  induction xs with
  | nil => exact Nat.le_refl _
  | cons p t ih =>
    have : (keep1 p).length ≤ 2 := by
      unfold keep1
      by_cases a : p.1 < 55296 <;> by_cases b : 57343 < p.2 <;> simp [a, b]
    rw [keepL, List.length_append]; simp only [List.length_cons]; omega
theorem keep_range {rg : Nat} (h : rg < 6000) (bg en : Nat → Int32) (a b : Int32) : f_MOD_keepRange (nI rg) bg en a b = some (nI (rg + 1), upd bg rg a, upd en rg b) := by
  unfold f_MOD_keepRange
  have g : inb (nI rg) 6000 = true := inb_nI h (by decide)
  rw [grd_t g, grd_t g, nI_1, nI_clamp (by omega)]
theorem keep_loop {low high mn : Nat → Int32} {xs ys : PL} (h : MS low high mn xs ys) (v1 : Int32) : ∀ (R D : PL) (rg : Nat) (bg en : Nat → Int32) (F : Nat), xs = D ++ R → rg + (keepL R).length < 6000 →
    ∃ bg' en', f_MOD_keep_L7 low high mn (F + R.length + 1) (v1, nI D.length, nI rg, bg, en) = some (nI (rg + (keepL R).length) - v1, nI (rg + (keepL R).length), bg', en') ∧ seg bg' en' rg (keepL R) ∧ ∀ j, j < rg → bg' j = bg j ∧ en' j = en j := by
  intro R
  induction R with
  | nil =>
    intro D rg bg en F hx hr
    rw [List.append_nil] at hx
    refine ⟨bg, en, ?_, trivial, fun j _ => ⟨rfl, rfl⟩⟩
    have hL := h.l0
    rw [f_MOD_keep_L7_s]
    unfold f_MOD_keep_B7
    rw [grd_t (show inb 0 2 = true by decide), cl0, h.m0, hx, if_pos ((nI_leI (by rw [hx] at hL; omega) (by rw [hx] at hL; omega)).mpr (Nat.le_refl _))]
    rfl
  | cons p r ih =>
    intro D rg bg en F hx hr
    obtain ⟨x, y⟩ := p
    have hL := h.l0
    have hxy := h.o0 (x, y) (by rw [hx]; simp)
    have hs := h.s0
    rw [hx, seg_app] at hs
    have hlen : xs.length = D.length + (r.length + 1) := by rw [hx]; simp
    simp only at hxy
    have e1 := hs.2.1
    have e2 := hs.2.2.1
    rw [Nat.zero_add] at e1 e2
    have ec : (nI D.length).toNatClampNeg = D.length := nI_clamp (by omega)
    have gi : inb (nI D.length) 1200 = true := inb_nI (by omega) (by decide)
    have hi := fun rg bg en => ih (D ++ [(x, y)]) rg bg en F (by rw [hx]; simp)
    rw [show (D ++ [(x, y)]).length = D.length + 1 by simp] at hi
    have i1 : (55296 : Int32).toInt = 55296 := rfl
    have i2 : (57343 : Int32).toInt = 57343 := rfl
    have i3 : (55295 : Int32).toInt = 55295 := rfl
    have i4 : (57344 : Int32).toInt = 57344 := rfl
    rw [keepL] at hr ⊢
    rw [List.length_append] at hr
    -- the second half, behind a possible first range
    have half : ∀ (K : PL) (rg' : Nat) (bg' en' : Nat → Int32), keep1 (x, y) = K ++ (if 57343 < y then [(if 57343 < x then x else 57344, y)] else []) → rg' = rg + K.length → seg bg' en' rg K → (∀ j, j < rg → bg' j = bg j ∧ en' j = en j) →
        ∃ bg2 en2, f_MOD_keep_L60 low high mn (f_MOD_keep_L7 low high mn (F + r.length + 1)) v1 (nI D.length) (nI rg') bg' en' = some (nI (rg + (keep1 (x, y) ++ keepL r).length) - v1, nI (rg + (keep1 (x, y) ++ keepL r).length), bg2, en2) ∧ seg bg2 en2 rg (keep1 (x, y) ++ keepL r) ∧ ∀ j, j < rg → bg2 j = bg j ∧ en2 j = en j := by
      intro K rg' bg' en' hK hrg hsK hold
      subst hrg
      unfold f_MOD_keep_L60
      rw [ec, grd_t gi, nI_1]
      by_cases c : 57343 < y
      · rw [if_pos c] at hK
        have hlK : (keep1 (x, y)).length = K.length + 1 := by rw [hK]; simp
        rw [if_neg (fun q => by have := le_ti.mp q; rw [e2, i2] at this; omega), grd_t gi]
        have go : ∀ z0 : Int32, z0.toInt = (if 57343 < x then x else 57344) → ∃ bg2 en2, f_MOD_keep_L94 low high mn (f_MOD_keep_L7 low high mn (F + r.length + 1)) v1 (nI D.length) z0 (nI (rg + K.length)) bg' en' = some (nI (rg + (keep1 (x, y) ++ keepL r).length) - v1, nI (rg + (keep1 (x, y) ++ keepL r).length), bg2, en2) ∧ seg bg2 en2 rg (keep1 (x, y) ++ keepL r) ∧ ∀ j, j < rg → bg2 j = bg j ∧ en2 j = en j := by
          intro z0 hz
          unfold f_MOD_keep_L94
          rw [ec, grd_t gi, bnd_s (keep_range (by omega) bg' en' z0 (high D.length)), nI_1]
          obtain ⟨bg2, en2, g1, g2, g3⟩ := hi (rg + K.length + 1) (upd bg' (rg + K.length) z0) (upd en' (rg + K.length) (high D.length)) (by omega)
          rw [show rg + K.length + 1 + (keepL r).length = rg + (keep1 (x, y) ++ keepL r).length by rw [List.length_append, hlK]; omega] at g1
          refine ⟨bg2, en2, g1, ?_, fun j hj => ?_⟩
          · rw [hK, List.append_assoc, seg_app]
            refine ⟨seg_out (l := bg') (h := en') (fun j q1 q2 => ?_) hsK, ?_, ?_, ?_⟩
            · have := g3 j (by omega)
              rw [this.1, this.2, upd_ne (by omega), upd_ne (by omega)]; exact ⟨rfl, rfl⟩
            · rw [(g3 (rg + K.length) (by omega)).1, upd_at]; exact hz
            · rw [(g3 (rg + K.length) (by omega)).2, upd_at]; exact e2
            · exact g2
          · have := g3 j (by omega)
            rw [this.1, this.2, upd_ne (by omega), upd_ne (by omega)]; exact hold j hj
        by_cases c2 : x ≤ 57343
        · rw [if_pos (le_ti.mpr (by rw [e1, i2]; exact c2))]
          exact go 57344 (by rw [i4, if_neg (by omega)])
        · rw [if_neg (fun q => c2 (by have := le_ti.mp q; rw [e1, i2] at this; exact this)), grd_t gi]
          exact go _ (by rw [e1, if_pos (by omega)])
      · rw [if_neg c, List.append_nil] at hK
        rw [if_pos (le_ti.mpr (by rw [e2, i2]; omega))]
        obtain ⟨bg2, en2, g1, g2, g3⟩ := hi (rg + K.length) bg' en' (by rw [hK] at hr; omega)
        rw [show rg + K.length + (keepL r).length = rg + (keep1 (x, y) ++ keepL r).length by rw [List.length_append, hK]; omega] at g1
        refine ⟨bg2, en2, g1, ?_, fun j hj => ?_⟩
        · rw [hK, seg_app]
          exact ⟨seg_out (l := bg') (h := en') (fun j q1 q2 => g3 j (by omega)) hsK, g2⟩
        · have := g3 j (by omega)
          rw [this.1, this.2]; exact hold j hj
    rw [show F + ((x, y) :: r).length + 1 = (F + r.length + 1) + 1 by simp only [List.length_cons]; omega, f_MOD_keep_L7_s]
    unfold f_MOD_keep_B7
    rw [grd_t (show inb 0 2 = true by decide), cl0, h.m0, if_neg (fun q => by have := (nI_leI (by omega) (by omega)).mp q; omega), ec, grd_t gi]
    by_cases c : x < 55296
    · rw [if_neg (fun q => by have := le_ti.mp q; rw [e1, i1] at this; omega), grd_t gi, grd_t gi]
      have hl1 : 1 ≤ (keep1 (x, y)).length := by unfold keep1; simp [c]
      have first : ∀ z0 : Int32, z0.toInt = (if y < 55296 then y else 55295) → ∃ bg2 en2, f_MOD_keep_L57 low high mn (f_MOD_keep_L7 low high mn (F + r.length + 1)) v1 (nI D.length) z0 (low D.length) (nI rg) bg en = some (nI (rg + (keep1 (x, y) ++ keepL r).length) - v1, nI (rg + (keep1 (x, y) ++ keepL r).length), bg2, en2) ∧ seg bg2 en2 rg (keep1 (x, y) ++ keepL r) ∧ ∀ j, j < rg → bg2 j = bg j ∧ en2 j = en j := by
        intro z0 hz
        unfold f_MOD_keep_L57
        rw [bnd_s (keep_range (by omega) bg en (low D.length) z0)]
        refine half [(x, if y < 55296 then y else 55295)] (rg + 1) (upd bg rg (low D.length)) (upd en rg z0) (by unfold keep1; simp [c]) rfl ⟨?_, ?_, trivial⟩ (fun j hj => ?_)
        · rw [upd_at]; exact e1
        · rw [upd_at]; exact hz
        · rw [upd_ne (by omega), upd_ne (by omega)]; exact ⟨rfl, rfl⟩
      by_cases c2 : y < 55296
      · rw [if_neg (fun q => by have := le_ti.mp q; rw [e2, i1] at this; omega), grd_t gi]
        exact first _ (by rw [e2, if_pos c2])
      · rw [if_pos (le_ti.mpr (by rw [e2, i1]; omega))]
        exact first 55295 (by rw [i3, if_neg c2])
    · rw [if_pos (le_ti.mpr (by rw [e1, i1]; omega))]
      exact half [] rg bg en (by unfold keep1; simp [c]) rfl trivial (fun j _ => ⟨rfl, rfl⟩)
theorem mod_keep {low high mn : Nat → Int32} {xs ys : PL} (h : MS low high mn xs ys) {rg : Nat} (bg en : Nat → Int32) (hr : rg + (keepL xs).length < 6000) :
    ∃ bg' en', f_MOD_keep (nI rg) bg en low high mn = some (nI (keepL xs).length, nI (rg + (keepL xs).length), bg', en') ∧ seg bg' en' rg (keepL xs) ∧ ∀ j, j < rg → bg' j = bg j ∧ en' j = en j := by
  unfold f_MOD_keep
  have hL := h.l0
  obtain ⟨bg', en', g1, g2, g3⟩ := keep_loop h (nI rg) xs [] rg bg en (999999 - xs.length) rfl hr
  rw [show 999999 - xs.length + xs.length + 1 = FU by rw [FU_s]; omega] at g1
  have g1' : f_MOD_keep_L7 low high mn FU (nI rg, 0, nI rg, bg, en) = _ := g1
  have es : nI (rg + (keepL xs).length) - nI rg = nI (keepL xs).length := by
    apply ti_eq.mpr
    rw [ti_sub (by rw [nI_toInt (by omega), nI_toInt (by omega)]; omega) (by rw [nI_toInt (by omega), nI_toInt (by omega)]; omega), nI_toInt (by omega), nI_toInt (by omega), nI_toInt (by omega)]
    omega
  rw [es] at g1'
  exact ⟨bg', en', g1', g2, g3⟩

set_option maxRecDepth 100000
set_option linter.unusedVariables false
-- the reference's tables
def setsL : List Int32 := [48, 57, 9, 10, 12, 13, 32, 32, 48, 57, 65, 90, 95, 95, 97, 122]
def largeL : List Int32 := [65, 90, 97, 122, 170, 170, 181, 181, 186, 186, 192, 214, 216, 246, 248, 687, 880, 1023, 1024, 1279, 48, 57, 178, 179, 185, 185, 188, 190]
def namedL : List Int32 := [48, 57, 65, 90, 97, 122, 65, 90, 97, 122, 33, 47, 58, 64, 91, 96, 123, 126, 9, 13, 32, 32]
def setsT (j : Nat) : Int32 := setsL.getD j 0
def largeT (j : Nat) : Int32 := largeL.getD j 0
def namedT (j : Nat) : Int32 := namedL.getD j 0
def tabF (T : Nat → Int32) : Nat → Nat → PL
  | _, 0 => []
  | i, j + 1 => ((T (2 * i)).toInt, (T (2 * i + 1)).toInt) :: tabF T (i + 1) j
theorem tabF_len (T : Nat → Int32) : ∀ j i, (tabF T i j).length = j := by
  intro j
  induction j with
  | zero => intro i; rfl
  | succ j ih => intro i; rw [tabF, List.length_cons, ih]
theorem sets_ok : ∀ i, i < 8 → 0 ≤ (setsT (2 * i)).toInt ∧ (setsT (2 * i)).toInt ≤ (setsT (2 * i + 1)).toInt ∧ (setsT (2 * i + 1)).toInt ≤ 1114111 := by decide
theorem fill_sets_loop {tb : Nat → Int32} (htb : ∀ j, j < 16 → tb j = setsT j) (p2 : Int32) (tot : Nat) (ht : tot ≤ 8) : ∀ (j i : Nat), i + j = tot → ∀ (low high mn : Nat → Int32) (xs ys : PL) (F : Nat), MS low high mn xs ys → ys.length + j < 600 →
    ∃ l' h' m', f_MOD_fill_sets_L8 tb p2 (nI (2 * tot)) (F + j + 1) (nI (2 * i), low, high, mn) = some (l', h', m') ∧ MS l' h' m' xs (foldIns ys (tabF setsT i j)) := by
  intro j
  induction j with
  | zero =>
    intro i hi low high mn xs ys F h hl
    refine ⟨low, high, mn, ?_, h⟩
    rw [f_MOD_fill_sets_L8_s]
    unfold f_MOD_fill_sets_B8
    rw [if_pos ((nI_leI (by omega) (by omega)).mpr (by omega))]
  | succ j ih =>
    intro i hi low high mn xs ys F h hl
    obtain ⟨o1, o2, o3⟩ := sets_ok i (by omega)
    have e2 : nI (2 * i) + 2 = nI (2 * (i + 1)) := by
      have : nI (2 * i) + nI 2 = nI (2 * i + 2) := nI_add _ _
      rw [show 2 * (i + 1) = 2 * i + 2 by omega]; exact this
    have c0 : (nI (2 * i)).toNatClampNeg = 2 * i := nI_clamp (by omega)
    have c1 : (nI (2 * i + 1)).toNatClampNeg = 2 * i + 1 := nI_clamp (by omega)
    have g0 : inb (nI (2 * i)) 16 = true := inb_nI (by omega) (by decide)
    have g1 : inb (nI (2 * i + 1)) 16 = true := inb_nI (by omega) (by decide)
    rw [show F + (j + 1) + 1 = (F + j + 1) + 1 by omega, f_MOD_fill_sets_L8_s]
    unfold f_MOD_fill_sets_B8
    rw [if_neg (fun q => by have := (nI_leI (by omega) (by omega)).mp q; omega), nI_1, grd_t g0, grd_t g1, c0, c1, e2, htb _ (show 2 * i < 16 by omega), htb _ (show 2 * i + 1 < 16 by omega)]
    obtain ⟨l', h', m', f1, f2⟩ := h.add1 (p2 := setsT (2 * i)) (p3 := setsT (2 * i + 1)) (by omega) o1 o2 o3
    rw [bnd_s f1]
    exact ih (i + 1) (by omega) l' h' m' xs _ F f2 (by have := (ins_len ys (setsT (2 * i)).toInt (setsT (2 * i + 1)).toInt).1; omega)
theorem mod_fill_sets {tb : Nat → Int32} (htb : ∀ j, j < 16 → tb j = setsT j) {low high mn : Nat → Int32} {xs ys : PL} (h : MS low high mn xs ys) (i j : Nat) (hij : i + j ≤ 8) :
    ∃ l' h' m', f_MOD_fill_sets low high mn tb (nI (2 * i)) (nI (2 * (i + j))) = some (l', h', m') ∧ MS l' h' m' xs (foldIns [] (tabF setsT i j)) := by
  unfold f_MOD_fill_sets
  rw [bnd_s h.empty1.1]
  have := fill_sets_loop htb (nI (2 * i)) (i + j) hij j i rfl low high (upd mn 1 0) xs [] (999999 - j) h.empty1.2 (by simp only [List.length_nil]; omega)
  rw [show 999999 - j + j + 1 = FU by rw [FU_s]; omega] at this
  exact this
theorem large_ok : ∀ i, i < 14 → 0 ≤ (largeT (2 * i)).toInt ∧ (largeT (2 * i)).toInt ≤ (largeT (2 * i + 1)).toInt ∧ (largeT (2 * i + 1)).toInt ≤ 1114111 := by decide
theorem fill_large_loop {tb : Nat → Int32} (htb : ∀ j, j < 28 → tb j = largeT j) (p2 : Int32) (tot : Nat) (ht : tot ≤ 14) : ∀ (j i : Nat), i + j = tot → ∀ (low high mn : Nat → Int32) (xs ys : PL) (F : Nat), MS low high mn xs ys → ys.length + j < 600 →
    ∃ l' h' m', f_MOD_fill_large_L8 tb p2 (nI (2 * tot)) (F + j + 1) (nI (2 * i), low, high, mn) = some (l', h', m') ∧ MS l' h' m' xs (foldIns ys (tabF largeT i j)) := by
  intro j
  induction j with
  | zero =>
    intro i hi low high mn xs ys F h hl
    refine ⟨low, high, mn, ?_, h⟩
    rw [f_MOD_fill_large_L8_s]
    unfold f_MOD_fill_large_B8
    rw [if_pos ((nI_leI (by omega) (by omega)).mpr (by omega))]
  | succ j ih =>
    intro i hi low high mn xs ys F h hl
    obtain ⟨o1, o2, o3⟩ := large_ok i (by omega)
    have e2 : nI (2 * i) + 2 = nI (2 * (i + 1)) := by
      have : nI (2 * i) + nI 2 = nI (2 * i + 2) := nI_add _ _
      rw [show 2 * (i + 1) = 2 * i + 2 by omega]; exact this
    have c0 : (nI (2 * i)).toNatClampNeg = 2 * i := nI_clamp (by omega)
    have c1 : (nI (2 * i + 1)).toNatClampNeg = 2 * i + 1 := nI_clamp (by omega)
    have g0 : inb (nI (2 * i)) 28 = true := inb_nI (by omega) (by decide)
    have g1 : inb (nI (2 * i + 1)) 28 = true := inb_nI (by omega) (by decide)
    rw [show F + (j + 1) + 1 = (F + j + 1) + 1 by omega, f_MOD_fill_large_L8_s]
    unfold f_MOD_fill_large_B8
    rw [if_neg (fun q => by have := (nI_leI (by omega) (by omega)).mp q; omega), nI_1, grd_t g0, grd_t g1, c0, c1, e2, htb _ (show 2 * i < 28 by omega), htb _ (show 2 * i + 1 < 28 by omega)]
    obtain ⟨l', h', m', f1, f2⟩ := h.add1 (p2 := largeT (2 * i)) (p3 := largeT (2 * i + 1)) (by omega) o1 o2 o3
    rw [bnd_s f1]
    exact ih (i + 1) (by omega) l' h' m' xs _ F f2 (by have := (ins_len ys (largeT (2 * i)).toInt (largeT (2 * i + 1)).toInt).1; omega)
theorem mod_fill_large {tb : Nat → Int32} (htb : ∀ j, j < 28 → tb j = largeT j) {low high mn : Nat → Int32} {xs ys : PL} (h : MS low high mn xs ys) (i j : Nat) (hij : i + j ≤ 14) :
    ∃ l' h' m', f_MOD_fill_large low high mn tb (nI (2 * i)) (nI (2 * (i + j))) = some (l', h', m') ∧ MS l' h' m' xs (foldIns [] (tabF largeT i j)) := by
  unfold f_MOD_fill_large
  rw [bnd_s h.empty1.1]
  have := fill_large_loop htb (nI (2 * i)) (i + j) hij j i rfl low high (upd mn 1 0) xs [] (999999 - j) h.empty1.2 (by simp only [List.length_nil]; omega)
  rw [show 999999 - j + j + 1 = FU by rw [FU_s]; omega] at this
  exact this
theorem named_ok : ∀ i, i < 11 → 0 ≤ (namedT (2 * i)).toInt ∧ (namedT (2 * i)).toInt ≤ (namedT (2 * i + 1)).toInt ∧ (namedT (2 * i + 1)).toInt ≤ 1114111 := by decide
theorem fill_named_loop {tb : Nat → Int32} (htb : ∀ j, j < 22 → tb j = namedT j) (p2 : Int32) (tot : Nat) (ht : tot ≤ 11) : ∀ (j i : Nat), i + j = tot → ∀ (low high mn : Nat → Int32) (xs ys : PL) (F : Nat), MS low high mn xs ys → ys.length + j < 600 →
    ∃ l' h' m', f_MOD_fill_named_L8 tb p2 (nI (2 * tot)) (F + j + 1) (nI (2 * i), low, high, mn) = some (l', h', m') ∧ MS l' h' m' xs (foldIns ys (tabF namedT i j)) := by
  intro j
  induction j with
  | zero =>
    intro i hi low high mn xs ys F h hl
    refine ⟨low, high, mn, ?_, h⟩
    rw [f_MOD_fill_named_L8_s]
    unfold f_MOD_fill_named_B8
    rw [if_pos ((nI_leI (by omega) (by omega)).mpr (by omega))]
  | succ j ih =>
    intro i hi low high mn xs ys F h hl
    obtain ⟨o1, o2, o3⟩ := named_ok i (by omega)
    have e2 : nI (2 * i) + 2 = nI (2 * (i + 1)) := by
      have : nI (2 * i) + nI 2 = nI (2 * i + 2) := nI_add _ _
      rw [show 2 * (i + 1) = 2 * i + 2 by omega]; exact this
    have c0 : (nI (2 * i)).toNatClampNeg = 2 * i := nI_clamp (by omega)
    have c1 : (nI (2 * i + 1)).toNatClampNeg = 2 * i + 1 := nI_clamp (by omega)
    have g0 : inb (nI (2 * i)) 22 = true := inb_nI (by omega) (by decide)
    have g1 : inb (nI (2 * i + 1)) 22 = true := inb_nI (by omega) (by decide)
    rw [show F + (j + 1) + 1 = (F + j + 1) + 1 by omega, f_MOD_fill_named_L8_s]
    unfold f_MOD_fill_named_B8
    rw [if_neg (fun q => by have := (nI_leI (by omega) (by omega)).mp q; omega), nI_1, grd_t g0, grd_t g1, c0, c1, e2, htb _ (show 2 * i < 22 by omega), htb _ (show 2 * i + 1 < 22 by omega)]
    obtain ⟨l', h', m', f1, f2⟩ := h.add1 (p2 := namedT (2 * i)) (p3 := namedT (2 * i + 1)) (by omega) o1 o2 o3
    rw [bnd_s f1]
    exact ih (i + 1) (by omega) l' h' m' xs _ F f2 (by have := (ins_len ys (namedT (2 * i)).toInt (namedT (2 * i + 1)).toInt).1; omega)
theorem mod_fill_named {tb : Nat → Int32} (htb : ∀ j, j < 22 → tb j = namedT j) {low high mn : Nat → Int32} {xs ys : PL} (h : MS low high mn xs ys) (i j : Nat) (hij : i + j ≤ 11) :
    ∃ l' h' m', f_MOD_fill_named low high mn tb (nI (2 * i)) (nI (2 * (i + j))) = some (l', h', m') ∧ MS l' h' m' xs (foldIns [] (tabF namedT i j)) := by
  unfold f_MOD_fill_named
  rw [bnd_s h.empty1.1]
  have := fill_named_loop htb (nI (2 * i)) (i + j) hij j i rfl low high (upd mn 1 0) xs [] (999999 - j) h.empty1.2 (by simp only [List.length_nil]; omega)
  rw [show 999999 - j + j + 1 = FU by rw [FU_s]; omega] at this
  exact this
theorem tab_d : foldIns [] (tabF setsT 0 1) = sp 2 := by decide
theorem tab_s : foldIns [] (tabF setsT 1 3) = sp 3 := by decide
theorem tab_w : foldIns [] (tabF setsT 4 4) = sp 4 := by decide
theorem tab_L : foldIns [] (tabF largeT 0 10) = sp 5 := by decide
theorem tab_N : foldIns [] (tabF largeT 10 4) = sp 6 := by decide
theorem tab_G : foldIns [] (tabF largeT 8 1) = sp 7 := by decide
theorem tab_Y : foldIns [] (tabF largeT 9 1) = sp 8 := by decide
theorem tab_digit : foldIns [] (tabF namedT 0 1) = sp 2 := by decide
theorem tab_alpha : foldIns [] (tabF namedT 1 2) = sp 9 := by decide
theorem tab_upper : foldIns [] (tabF namedT 3 1) = sp 10 := by decide
theorem tab_lower : foldIns [] (tabF namedT 4 1) = sp 11 := by decide
theorem tab_punct : foldIns [] (tabF namedT 5 4) = sp 12 := by decide
theorem tab_space : foldIns [] (tabF namedT 9 2) = sp 13 := by decide

