set_option maxRecDepth 100000
set_option linter.unusedVariables false
abbrev TX (len : Int32) (B : Nat → Int32) (n : Int32) (X : Nat → Int32) (N : Nat) : Prop := (len = nI N) ∧ (n = nI N) ∧ (N ≤ 400) ∧ (∀ j, j < N → X j = B j) ∧ (∀ j, j < N → 0 ≤ (B j).toInt ∧ (B j).toInt ≤ 255)
theorem TX.len {len : Int32} {B : Nat → Int32} {n : Int32} {X : Nat → Int32} {N : Nat} (h : TX len B n X N) : len = nI N := h.1
theorem TX.n {len : Int32} {B : Nat → Int32} {n : Int32} {X : Nat → Int32} {N : Nat} (h : TX len B n X N) : n = nI N := h.2.1
theorem TX.le {len : Int32} {B : Nat → Int32} {n : Int32} {X : Nat → Int32} {N : Nat} (h : TX len B n X N) : N ≤ 400 := h.2.2.1
theorem TX.eq {len : Int32} {B : Nat → Int32} {n : Int32} {X : Nat → Int32} {N : Nat} (h : TX len B n X N) : ∀ j, j < N → X j = B j := h.2.2.2.1
theorem TX.by_ {len : Int32} {B : Nat → Int32} {n : Int32} {X : Nat → Int32} {N : Nat} (h : TX len B n X N) : ∀ j, j < N → 0 ≤ (B j).toInt ∧ (B j).toInt ≤ 255 := h.2.2.2.2
def bt (N : Nat) (B : Nat → Int32) (k : Nat) : Int32 := if k < N then B k else -1
theorem at_C {len n : Int32} {B X : Nat → Int32} {N : Nat} (h : TX len B n X N) {k : Nat} (hk : k < 2 ^ 31) : f_PAT_at len B (nI k) = some (bt N B k) := by
  unfold f_PAT_at bt
  rw [if_neg (nI_pos hk), h.len]
  by_cases c : k < N
  · rw [if_neg (fun q => by have := (nI_leI (by have := h.le; omega) hk).mp q; omega), grd_t (inb_nI (by have := h.le; omega) (by decide)), nI_clamp hk, if_pos c]
  · rw [if_pos ((nI_leI (by have := h.le; omega) hk).mpr (by omega)), if_neg c]
theorem at_M {len n : Int32} {B X : Nat → Int32} {N : Nat} (h : TX len B n X N) {k : Nat} (hk : k < 2 ^ 31) : f_MOD_byteAt n X (nI k) = some (bt N B k) := by
  unfold f_MOD_byteAt bt
  rw [h.n]
  by_cases c : k < N
  · rw [if_neg (fun q => by have := (nI_leI (by have := h.le; omega) hk).mp q; omega), grd_t (inb_nI (by have := h.le; omega) (by decide)), nI_clamp hk, if_pos c, h.eq k c]
  · rw [if_pos ((nI_leI (by have := h.le; omega) hk).mpr (by omega)), if_neg c]
theorem bt_ti {len n : Int32} {B X : Nat → Int32} {N : Nat} (h : TX len B n X N) (k : Nat) : (k < N ∧ 0 ≤ (bt N B k).toInt ∧ (bt N B k).toInt ≤ 255) ∨ (N ≤ k ∧ bt N B k = -1) := by
  unfold bt
  by_cases c : k < N
  · rw [if_pos c]; exact Or.inl ⟨c, h.by_ k c⟩
  · rw [if_neg c]; exact Or.inr ⟨by omega, rfl⟩
theorem bt_in {len n : Int32} {B X : Nat → Int32} {N : Nat} (h : TX len B n X N) {k : Nat} (hb : 0 ≤ (bt N B k).toInt) : k < N := by
  rcases bt_ti h k with q | q
  · exact q.1
  · rw [q.2] at hb; exact absurd hb (by decide)
-- UTF-8
theorem toInt_nn {x : Int32} (h0 : 0 ≤ x.toInt) : x.toInt = (x.toBitVec.toNat : Int) := by
  have : x.toInt = x.toBitVec.toInt := rfl
  rw [this] at h0 ⊢
  rw [BitVec.toInt_eq_toNat_cond] at h0 ⊢
  split at h0
  · rename_i q; rw [if_pos q]
  · have := x.toBitVec.isLt; omega
theorem own_toInt_of {x : Int32} (h : x.toBitVec.toNat < 2147483648) : x.toInt = (x.toBitVec.toNat : Int) := by
  have : x.toInt = x.toBitVec.toInt := rfl
  rw [this, BitVec.toInt_eq_toNat_cond, if_pos (by omega)]
theorem and_lo (x : Int32) (m : Nat) (hm : m ≤ 8) (M : Int32) (hM : M.toBitVec = BitVec.ofNat 32 (2 ^ m - 1)) (h0 : 0 ≤ x.toInt) : (x &&& M).toInt = x.toInt % (2 ^ m : Nat) := by
  have h1 : (x &&& M).toBitVec.toNat = x.toBitVec.toNat % 2 ^ m := by
    rw [Int32.toBitVec_and, hM, BitVec.toNat_and, BitVec.toNat_ofNat]
    have : 2 ^ m ≤ 2 ^ 8 := Nat.pow_le_pow_right (by decide) hm
    rw [Nat.mod_eq_of_lt (show 2 ^ m - 1 < 2 ^ 32 by omega), Nat.and_two_pow_sub_one_eq_mod]
  have h2 := toInt_nn h0
  have h3 : x.toBitVec.toNat % 2 ^ m < 2 ^ m := Nat.mod_lt _ (Nat.two_pow_pos m)
  have h4 : 2 ^ m ≤ 2 ^ 8 := Nat.pow_le_pow_right (by decide) hm
  rw [own_toInt_of (by rw [h1]; omega), h1, h2]
  exact Int.natCast_emod _ _
theorem shl_or (a x : Int32) (ha : 0 ≤ a.toInt) (ha2 : a.toInt ≤ 100000) (hx : 0 ≤ x.toInt) (hx2 : x.toInt ≤ 63) : ((a <<< ((6 : Int32) &&& 31)) ||| x).toInt = a.toInt * 64 + x.toInt := by
  have e1 := toInt_nn ha
  have e2 := toInt_nn hx
  have h1 : ((a <<< ((6 : Int32) &&& 31)) ||| x).toBitVec.toNat = a.toBitVec.toNat * 64 + x.toBitVec.toNat := by
    rw [Int32.toBitVec_or, BitVec.toNat_or]
    have h2 : (a <<< ((6 : Int32) &&& 31)).toBitVec = a.toBitVec <<< 6 := by
      rw [Int32.toBitVec_shiftLeft]
      show a.toBitVec <<< ((6#32).smod 32#32) = _
      have : (6#32).smod 32#32 = 6#32 := by decide
      rw [this]; rfl
    rw [h2, BitVec.toNat_shiftLeft, Nat.shiftLeft_eq, Nat.mod_eq_of_lt (by omega)]
    have := Nat.shiftLeft_add_eq_or_of_lt (b := x.toBitVec.toNat) (i := 6) (by omega) a.toBitVec.toNat
    rw [Nat.shiftLeft_eq] at this
    rw [← this]
  rw [own_toInt_of (by rw [h1]; omega), h1, e1, e2]
  omega
theorem isC_eq {v : Int32} (h : 0 ≤ v.toInt) : f_PN_isCharacter v = f_MOD_isCharacter v := by
  unfold f_PN_isCharacter f_MOD_isCharacter
  rw [if_neg (fun q => by have := lt_ti.mp q; rw [ti0] at this; omega)]
abbrev isCh (z : Int) : Prop := 0 ≤ z ∧ z ≤ 1114111 ∧ (z < 55296 ∨ 57343 < z)
theorem isC_val {v : Int32} : (f_PN_isCharacter v = some true ∧ isCh v.toInt) ∨ (f_PN_isCharacter v = some false ∧ ¬ isCh v.toInt) := by
  unfold f_PN_isCharacter isCh
  have l : (1114111 : Int32).toInt = 1114111 := rfl
  have g : (55296 : Int32).toInt = 55296 := rfl
  have g' : (57343 : Int32).toInt = 57343 := rfl
  simp only [lt_ti, le_ti, ti0, l, g, g']
  by_cases a : v.toInt < 0
  · rw [if_pos a]; exact Or.inr ⟨rfl, by omega⟩
  · rw [if_neg a]
    by_cases b : 1114111 < v.toInt
    · rw [if_pos b]; exact Or.inr ⟨rfl, by omega⟩
    · rw [if_neg b]
      by_cases c : v.toInt < 55296
      · rw [if_pos c]; exact Or.inl ⟨rfl, by omega⟩
      · rw [if_neg c]
        by_cases d : v.toInt ≤ 57343
        · rw [if_pos d]; exact Or.inr ⟨rfl, by omega⟩
        · rw [if_neg d]; exact Or.inl ⟨rfl, by omega⟩
def wid (z : Int) : Nat := if z < 128 then 1 else if z < 2048 then 2 else if z < 65536 then 3 else 4
theorem wid_val (v : Int32) : f_PN_widthOf v = some (nI (wid v.toInt)) := by
  unfold f_PN_widthOf wid
  have l1 : (128 : Int32).toInt = 128 := rfl
  have l2 : (2048 : Int32).toInt = 2048 := rfl
  have l3 : (65536 : Int32).toInt = 65536 := rfl
  simp only [le_ti, l1, l2, l3]
  by_cases a : v.toInt < 128
  · rw [if_neg (by omega), if_pos a]; rfl
  · rw [if_pos (by omega), if_neg a]
    by_cases b : v.toInt < 2048
    · rw [if_neg (by omega), if_pos b]; rfl
    · rw [if_pos (by omega), if_neg b]
      by_cases c : v.toInt < 65536
      · rw [if_neg (by omega), if_pos c]; rfl
      · rw [if_pos (by omega), if_neg c]; rfl

set_option maxRecDepth 100000
set_option linter.unusedVariables false
def finC (m : Nat) (v : Int32) : Option Int32 := bnd_ (f_PN_isCharacter v) (fun x121 => if (b2i x121) = 0 then some (-1) else bnd_ (f_PN_widthOf v) (fun x129 => if x129 = (nI m + 1) then some v else some (-1)))
theorem finC_val (m : Nat) (hm : m ≤ 3) (v : Int32) : finC m v = some (if isCh v.toInt ∧ wid v.toInt = m + 1 then v else -1) := by
  unfold finC
  rcases isC_val (v := v) with ⟨h1, h2⟩ | ⟨h1, h2⟩
  · rw [bnd_s h1, if_neg (show ¬ b2i true = 0 by decide), bnd_s (wid_val v), nI_1]
    have hw : wid v.toInt ≤ 4 := by unfold wid; split <;> (try split) <;> (try split) <;> omega
    by_cases c : wid v.toInt = m + 1
    · rw [c, if_pos rfl, if_pos ⟨h2, rfl⟩]
    · rw [if_neg (fun q => c ((nI_eq (by omega) (by omega)).mp q)), if_neg (fun q => c q.2)]
  · rw [bnd_s h1, if_pos (show b2i false = 0 from rfl), if_neg (fun q => h2 q.1)]
theorem cont_loop {len n : Int32} {B X : Nat → Int32} {N : Nat} (h : TX len B n X N) {k m : Nat} (hk : k ≤ 1000) (hm : m ≤ 3) (bh : Int32) :
    ∀ (j i : Nat) (v : Int32) (F : Nat), j + i = m + 1 → 0 ≤ v.toInt → v.toInt * 64 ^ j + 64 ^ j ≤ 6000000 →
      (f_PAT_characterAt_L66 len B (nI k) (F + j + 1) (nI m, v, nI i) = some (-1) ∧ f_MOD_characterAt_L113 n X (nI k) (F + j + 1) (nI m, v, nI i, bh) = some (-1, bh)) ∨
      ∃ v' : Int32, v.toInt * 64 ^ j ≤ v'.toInt ∧ v'.toInt < v.toInt * 64 ^ j + 64 ^ j ∧ (0 < j → k + m < N) ∧ f_PAT_characterAt_L66 len B (nI k) (F + j + 1) (nI m, v, nI i) = finC m v' ∧
        f_MOD_characterAt_L113 n X (nI k) (F + j + 1) (nI m, v, nI i, bh) = (if nI m = 1 then f_MOD_characterAt_L190 n X (nI k) v' 128 ((nI k + 1) + nI m) else (if nI m = 2 then f_MOD_characterAt_L190 n X (nI k) v' 2048 ((nI k + 1) + nI m) else f_MOD_characterAt_L190 n X (nI k) v' 65536 ((nI k + 1) + nI m))) := by
  intro j
  induction j with
  | zero =>
    intro i v F hi h0 h1
    refine Or.inr ⟨v, by omega, by omega, fun q => absurd q (Nat.lt_irrefl _), ?_, ?_⟩
    · rw [f_PAT_characterAt_L66_s]
      unfold f_PAT_characterAt_B66
      rw [if_pos ((nI_ltI (by omega) (by omega)).mpr (by omega))]; rfl
    · rw [f_MOD_characterAt_L113_s]
      unfold f_MOD_characterAt_B113
      rw [if_pos ((nI_ltI (by omega) (by omega)).mpr (by omega))]
  | succ j ih =>
    intro i v F hi h0 h1
    have hlt : ¬ nI m < nI i := fun q => by have := (nI_ltI (by omega) (by omega)).mp q; omega
    have ei : nI k + nI i = nI (k + i) := nI_add _ _
    have l1 : (128 : Int32).toInt = 128 := rfl
    have l2 : (192 : Int32).toInt = 192 := rfl
    rw [show F + (j + 1) + 1 = (F + j + 1) + 1 by omega, f_PAT_characterAt_L66_s, f_MOD_characterAt_L113_s]
    unfold f_PAT_characterAt_B66 f_MOD_characterAt_B113 f_MOD_isMore
    rw [if_neg hlt, if_neg hlt, ei, bnd_s (at_C h (k := k + i) (by omega)), bnd_s (at_M h (k := k + i) (by omega)), nI_1]
    generalize hx : bt N B (k + i) = x
    by_cases c1 : x.toInt < 128
    · left
      have n1 : x < 128 := lt_ti.mpr c1
      rw [if_pos n1, if_pos n1]
      exact ⟨rfl, rfl⟩
    · have n1 : ¬ x < 128 := fun q => c1 (lt_ti.mp q)
      have eM : f_MOD_byteAt n X (nI (k + i)) = some x := by rw [← hx]; exact at_M h (by omega)
      rw [if_neg n1, if_neg n1, bnd_s eM]
      by_cases c2 : x.toInt < 192
      · have n2 : x < 192 := lt_ti.mpr c2
        have n3 : ¬ 192 ≤ x := fun q => by have := le_ti.mp q; omega
        rw [if_pos n2, if_neg n3]
        have eT : ∀ K : Bool → Option (Int32 × Int32), bnd_ (some true) K = K true := fun _ => rfl
        rw [eT, if_neg (show ¬ b2i true = 0 by decide), bnd_s eM]
        have ex : (x &&& 63).toInt = x.toInt % 64 := and_lo x 6 (by decide) 63 rfl (by omega)
        have p64 : (64 : Int) ^ (j + 1) = 64 ^ j * 64 := Int.pow_succ 64 j
        have pos : (1 : Int) ≤ 64 ^ j := by
          have : (0 : Int) < 64 ^ j := Int.pow_pos (by decide)
          omega
        have hv : v.toInt ≤ 100000 := by
          rw [p64] at h1
          have h9 : v.toInt * 64 ≤ v.toInt * (64 ^ j * 64) := Int.mul_le_mul_of_nonneg_left (by omega) h0
          omega
        have es := shl_or v (x &&& 63) h0 hv (by rw [ex]; omega) (by rw [ex]; omega)
        rw [ex] at es
        have key : (v.toInt * 64 + x.toInt % 64) * 64 ^ j = v.toInt * 64 ^ (j + 1) + (x.toInt % 64) * 64 ^ j := by
          rw [p64, Int.add_mul, Int.mul_assoc, Int.mul_comm 64 (64 ^ j)]
        have b1 : 0 ≤ x.toInt % 64 := Int.emod_nonneg _ (by decide)
        have b2 : x.toInt % 64 ≤ 63 := by omega
        have m1 : 0 ≤ (x.toInt % 64) * 64 ^ j := Int.mul_nonneg b1 (by omega)
        have m2 : (x.toInt % 64) * 64 ^ j ≤ 63 * 64 ^ j := Int.mul_le_mul_of_nonneg_right b2 (by omega)
        have hin : k + i < N := bt_in h (k := k + i) (by rw [hx]; omega)
        rcases ih (i + 1) ((v <<< ((6 : Int32) &&& 31)) ||| (x &&& 63)) F (by omega) (by rw [es]; omega) (by rw [es, key]; rw [p64] at h1 ⊢; omega) with q | ⟨v', q1, q2, q3, q4, q5⟩
        · exact Or.inl q
        · rw [es, key] at q1 q2
          refine Or.inr ⟨v', by omega, by rw [p64] at q2 ⊢; omega, fun _ => ?_, q4, q5⟩
          rcases Nat.eq_zero_or_pos j with u | u
          · have : i = m := by omega
            rw [← this]; exact hin
          · exact q3 u
      · left
        have n2 : ¬ x < 192 := fun q => c2 (lt_ti.mp q)
        have n3 : 192 ≤ x := le_ti.mpr (by omega)
        rw [if_neg n2, if_pos n3]
        exact ⟨rfl, rfl⟩
theorem lead_and (x : Int32) (h0 : 0 ≤ x.toInt) : x &&& ((63 : Int32) >>> ((1 : Int32) &&& 31)) = x &&& 31 ∧ x &&& ((63 : Int32) >>> ((2 : Int32) &&& 31)) = x &&& 15 ∧ x &&& ((63 : Int32) >>> ((3 : Int32) &&& 31)) = x &&& 7 := by
  refine ⟨?_, ?_, ?_⟩
  · rw [show ((63 : Int32) >>> ((1 : Int32) &&& 31)) = 31 by decide]
  · rw [show ((63 : Int32) >>> ((2 : Int32) &&& 31)) = 15 by decide]
  · rw [show ((63 : Int32) >>> ((3 : Int32) &&& 31)) = 7 by decide]
/-- what both read as a character -/
def ChrOK (N k : Nat) (c bh : Int32) : Prop := c = -1 ∨ (isCh c.toInt ∧ bh = nI (k + wid c.toInt) ∧ k + wid c.toInt ≤ N)
theorem L190_val {n : Int32} {X : Nat → Int32} (p v z bh : Int32) (h0 : 0 ≤ v.toInt) : f_MOD_characterAt_L190 n X p v z bh = some (if isCh v.toInt ∧ z.toInt ≤ v.toInt then v else -1, bh) := by
  unfold f_MOD_characterAt_L190
  by_cases c : v.toInt < z.toInt
  · rw [if_pos (lt_ti.mpr c), if_neg (fun q => by omega)]
  · rw [if_neg (fun q => c (lt_ti.mp q)), ← isC_eq h0]
    rcases isC_val (v := v) with ⟨h1, h2⟩ | ⟨h1, h2⟩
    · rw [bnd_s h1, if_neg (show ¬ b2i true = 0 by decide), if_pos ⟨h2, by omega⟩]
    · rw [bnd_s h1, if_pos (show b2i false = 0 from rfl), if_neg (fun q => h2 q.1)]
theorem chr_more {len n : Int32} {B X : Nat → Int32} {N : Nat} (h : TX len B n X N) {k m : Nat} (hk : k ≤ 1000) (hm1 : 1 ≤ m) (hm : m ≤ 3) (bh v : Int32) (h0 : 0 ≤ v.toInt) (h1 : v.toInt * 64 ^ m + 64 ^ m ≤ 6000000) (hw : v.toInt * 64 ^ m + 64 ^ m ≤ (if m = 1 then 2048 else if m = 2 then 65536 else 6000000)) :
    ∃ c bh', f_PAT_characterAt_L66 len B (nI k) FU (nI m, v, 1) = some c ∧ f_MOD_characterAt_L113 n X (nI k) FU (nI m, v, 1, bh) = some (c, bh') ∧ ChrOK N k c bh' := by
  rcases cont_loop h hk hm bh m 1 v (999999 - m) rfl h0 h1 with ⟨q1, q2⟩ | ⟨v', q1, q2, q3, q4, q5⟩
  · rw [show 999999 - m + m + 1 = FU by rw [FU_s]; omega] at q1 q2
    exact ⟨-1, bh, q1, q2, Or.inl rfl⟩
  · rw [show 999999 - m + m + 1 = FU by rw [FU_s]; omega] at q4 q5
    have q4' : f_PAT_characterAt_L66 len B (nI k) FU (nI m, v, 1) = finC m v' := q4
    have q5' : f_MOD_characterAt_L113 n X (nI k) FU (nI m, v, 1, bh) = _ := q5
    rw [q4', q5', finC_val m hm]
    have hv0 : 0 ≤ v'.toInt := by
      have : 0 ≤ v.toInt * 64 ^ m := Int.mul_nonneg h0 (Int.le_of_lt (Int.pow_pos (by decide)))
      omega
    have e1 : nI k + 1 = nI (k + 1) := nI_1 k
    have e2 : nI (k + 1) + nI m = nI (k + 1 + m) := nI_add _ _
    have l1 : (128 : Int32).toInt = 128 := rfl
    have l2 : (2048 : Int32).toInt = 2048 := rfl
    have l3 : (65536 : Int32).toInt = 65536 := rfl
    rw [e1, e2, L190_val _ _ _ _ hv0, L190_val _ _ _ _ hv0, L190_val _ _ _ _ hv0, l1, l2, l3]
    have hN := q3 (by omega)
    -- the two tests are one
    have fin : ∀ L : Int, (wid v'.toInt = m + 1 ↔ L ≤ v'.toInt) → ∃ c bh', some (if isCh v'.toInt ∧ wid v'.toInt = m + 1 then v' else -1) = some c ∧ (some (if isCh v'.toInt ∧ L ≤ v'.toInt then v' else -1, nI (k + 1 + m)) : Option (Int32 × Int32)) = some (c, bh') ∧ ChrOK N k c bh' := by
      intro L hL
      by_cases c : isCh v'.toInt ∧ wid v'.toInt = m + 1
      · rw [if_pos c, if_pos ⟨c.1, hL.mp c.2⟩]
        exact ⟨_, _, rfl, rfl, Or.inr ⟨c.1, by rw [c.2, show k + 1 + m = k + (m + 1) by omega], by rw [c.2]; omega⟩⟩
      · rw [if_neg c, if_neg (fun q => c ⟨q.1, hL.mpr q.2⟩)]
        exact ⟨_, _, rfl, rfl, Or.inl rfl⟩
    rcases (show m = 1 ∨ m = 2 ∨ m = 3 by omega) with rfl | rfl | rfl
    · rw [if_pos (show nI 1 = 1 from rfl)]
      rw [if_pos rfl] at hw
      refine fin 128 ?_
      unfold wid; split <;> (try split) <;> (try split) <;> omega
    · rw [if_neg (show ¬ nI 2 = 1 by decide), if_pos (show nI 2 = 2 from rfl)]
      rw [if_neg (by decide), if_pos rfl] at hw
      refine fin 2048 ?_
      unfold wid; split <;> (try split) <;> (try split) <;> omega
    · rw [if_neg (show ¬ nI 3 = 1 by decide), if_neg (show ¬ nI 3 = 2 by decide)]
      refine fin 65536 ?_
      unfold wid; split <;> (try split) <;> (try split) <;> omega
theorem chr_bad {len n : Int32} {B X : Nat → Int32} {N : Nat} (h : TX len B n X N) {k m : Nat} (hk : k ≤ 1000) (hm1 : 1 ≤ m) (hm : m ≤ 3) (v : Int32) (h0 : 0 ≤ v.toInt) (h1 : v.toInt * 64 ^ m + 64 ^ m ≤ 6000000) (hw : ∀ z : Int, v.toInt * 64 ^ m ≤ z → z < v.toInt * 64 ^ m + 64 ^ m → ¬ (isCh z ∧ wid z = m + 1)) :
    f_PAT_characterAt_L66 len B (nI k) FU (nI m, v, 1) = some (-1) := by
  rcases cont_loop h hk hm 0 m 1 v (999999 - m) rfl h0 h1 with ⟨q1, q2⟩ | ⟨v', q1, q2, q3, q4, q5⟩
  · rw [show 999999 - m + m + 1 = FU by rw [FU_s]; omega] at q1
    exact q1
  · rw [show 999999 - m + m + 1 = FU by rw [FU_s]; omega] at q4
    have q4' : f_PAT_characterAt_L66 len B (nI k) FU (nI m, v, 1) = finC m v' := q4
    rw [q4', finC_val m hm, if_neg (hw _ q1 q2)]
theorem chr_eq {len n : Int32} {B X : Nat → Int32} {N : Nat} (h : TX len B n X N) {k : Nat} (hk : k ≤ 1000) (bh : Int32) :
    ∃ c bh', f_PAT_characterAt len B (nI k) = some c ∧ f_MOD_characterAt n bh X (nI k) = some (c, bh') ∧ ChrOK N k c bh' := by
  unfold f_PAT_characterAt f_MOD_characterAt
  rw [bnd_s (at_C h (k := k) (by omega)), bnd_s (at_M h (k := k) (by omega))]
  have hb := bt_ti h k
  generalize hx : bt N B k = x at hb ⊢
  have e1 : nI k + 1 = nI (k + 1) := nI_1 k
  have l128 : (128 : Int32).toInt = 128 := rfl
  have l192 : (192 : Int32).toInt = 192 := rfl
  have l194 : (194 : Int32).toInt = 194 := rfl
  have l224 : (224 : Int32).toInt = 224 := rfl
  have l240 : (240 : Int32).toInt = 240 := rfl
  have l245 : (245 : Int32).toInt = 245 := rfl
  have l248 : (248 : Int32).toInt = 248 := rfl
  by_cases c1 : x.toInt < 128
  · have n1 : ¬ 128 ≤ x := fun q => by have := le_ti.mp q; omega
    rw [if_neg n1, if_neg n1]
    refine ⟨_, _, rfl, rfl, ?_⟩
    rcases hb with hb | hb
    · right
      have : wid x.toInt = 1 := by unfold wid; rw [if_pos c1]
      rw [this]
      exact ⟨by unfold isCh; omega, e1, by omega⟩
    · exact Or.inl hb.2
  have hb : k < N ∧ 0 ≤ x.toInt ∧ x.toInt ≤ 255 := by
    rcases hb with hb | hb
    · exact hb
    · rw [hb.2] at c1; exact absurd (show (-1 : Int32).toInt < 128 by decide) c1
  have n1 : 128 ≤ x := le_ti.mpr (by omega)
  rw [if_pos n1, if_pos n1, e1]
  unfold f_MOD_characterAt_L40 f_MOD_characterAt_L58 f_MOD_characterAt_L77 f_MOD_characterAt_L107 f_PAT_characterAt_L54
  obtain ⟨a1, a2, a3⟩ := lead_and x hb.2.1
  have z0 : (0 : Int32) = 0 := rfl
  by_cases c2 : x.toInt < 192
  · have m1 : x < 192 := lt_ti.mpr (by omega)
    have m2 : x < 194 := lt_ti.mpr (by omega)
    have m3 : x < 224 := lt_ti.mpr (by omega)
    have m4 : x < 240 := lt_ti.mpr (by omega)
    rw [if_pos m1, if_pos m2, if_pos m3, if_pos m4, if_pos z0]
    exact ⟨_, _, rfl, rfl, Or.inl rfl⟩
  have m1 : ¬ x < 192 := fun q => by have := lt_ti.mp q; omega
  rw [if_neg m1]
  by_cases c3 : 248 ≤ x.toInt
  · have m2 : ¬ x < 248 := fun q => by have := lt_ti.mp q; omega
    have m3 : ¬ x < 194 := fun q => by have := lt_ti.mp q; omega
    have m4 : 224 ≤ x := le_ti.mpr (by omega)
    have m5 : ¬ x < 224 := fun q => by have := lt_ti.mp q; omega
    have m6 : 240 ≤ x := le_ti.mpr (by omega)
    have m7 : ¬ x < 240 := fun q => by have := lt_ti.mp q; omega
    have m8 : 245 ≤ x := le_ti.mpr (by omega)
    rw [if_neg m2, if_neg m3, if_pos m4, if_neg m5, if_pos m6, if_neg m7, if_pos m8, if_pos z0]
    exact ⟨_, _, rfl, rfl, Or.inl rfl⟩
  have m2 : x < 248 := lt_ti.mpr (by omega)
  rw [if_pos m2]
  have and31 : (x &&& 31).toInt = x.toInt % 32 := and_lo x 5 (by decide) 31 rfl hb.2.1
  have and15 : (x &&& 15).toInt = x.toInt % 16 := and_lo x 4 (by decide) 15 rfl hb.2.1
  have and7 : (x &&& 7).toInt = x.toInt % 8 := and_lo x 3 (by decide) 7 rfl hb.2.1
  by_cases c4 : x.toInt < 224
  · have m3 : ¬ 224 ≤ x := fun q => by have := le_ti.mp q; omega
    rw [if_neg m3, a1]
    by_cases c5 : x.toInt < 194
    · have m4 : x < 194 := lt_ti.mpr (by omega)
      have m5 : x < 224 := lt_ti.mpr (by omega)
      have m6 : x < 240 := lt_ti.mpr (by omega)
      rw [if_pos m4, if_pos m5, if_pos m6, if_pos z0]
      have := chr_bad h (k := k) (m := 1) hk (by decide) (by decide) (x &&& 31) (by rw [and31]; omega) (by rw [and31]; omega) (by
        intro z u v
        rw [and31] at u v
        have hw : wid z = 1 := by unfold wid; rw [if_pos (by omega)]
        rintro ⟨_, w⟩; omega)
      exact ⟨-1, _, this, rfl, Or.inl rfl⟩
    · have m4 : ¬ x < 194 := fun q => by have := lt_ti.mp q; omega
      rw [if_neg m4, if_neg m3, if_neg (show ¬ (1 : Int32) = 0 by decide), if_pos (show (1 : Int32) = 1 from rfl)]
      exact chr_more h (k := k) (m := 1) hk (by decide) (by decide) _ (x &&& 31) (by rw [and31]; omega) (by rw [and31]; omega) (by rw [and31, if_pos rfl]; omega)
  · have m3 : 224 ≤ x := le_ti.mpr (by omega)
    have m4 : ¬ x < 194 := fun q => by have := lt_ti.mp q; omega
    have m5 : ¬ x < 224 := fun q => by have := lt_ti.mp q; omega
    rw [if_pos m3, if_neg m4, if_pos m3, if_neg m5]
    by_cases c5 : x.toInt < 240
    · have m6 : ¬ 240 ≤ x := fun q => by have := le_ti.mp q; omega
      rw [if_neg m6, if_neg m6, a2, if_neg (show ¬ (2 : Int32) = 0 by decide), if_neg (show ¬ (2 : Int32) = 1 by decide), if_pos (show (2 : Int32) = 2 from rfl)]
      exact chr_more h (k := k) (m := 2) hk (by decide) (by decide) _ (x &&& 15) (by rw [and15]; omega) (by rw [and15]; omega) (by rw [and15, if_neg (by decide), if_pos rfl]; omega)
    · have m6 : 240 ≤ x := le_ti.mpr (by omega)
      have m7 : ¬ x < 240 := fun q => by have := lt_ti.mp q; omega
      rw [if_pos m6, if_pos m6, if_neg m7, a3]
      by_cases c6 : x.toInt < 245
      · have m8 : ¬ 245 ≤ x := fun q => by have := le_ti.mp q; omega
        rw [if_neg m8, if_neg (show ¬ (3 : Int32) = 0 by decide), if_neg (show ¬ (3 : Int32) = 1 by decide), if_neg (show ¬ (3 : Int32) = 2 by decide)]
        exact chr_more h (k := k) (m := 3) hk (by decide) (by decide) _ (x &&& 7) (by rw [and7]; omega) (by rw [and7]; omega) (by rw [and7, if_neg (by decide), if_neg (by decide)]; omega)
      · have m8 : 245 ≤ x := le_ti.mpr (by omega)
        rw [if_pos m8, if_pos z0]
        have := chr_bad h (k := k) (m := 3) hk (by decide) (by decide) (x &&& 7) (by rw [and7]; omega) (by rw [and7]; omega) (by
          intro z u v
          rw [and7] at u v
          unfold isCh
          rintro ⟨⟨_, w, _⟩, _⟩; omega)
        exact ⟨-1, _, this, rfl, Or.inl rfl⟩

set_option maxRecDepth 100000
set_option linter.unusedVariables false
-- \x
theorem bt_fin {len n : Int32} {B X : Nat → Int32} {N : Nat} (h : TX len B n X N) (k : Nat) : ∃ i : Nat, i < 257 ∧ bt N B k = nI i - 1 := by
  rcases bt_ti h k with q | q
  · refine ⟨((bt N B k).toInt + 1).toNat, by omega, ?_⟩
    apply ti_eq.mpr
    have e : (nI ((bt N B k).toInt + 1).toNat).toInt = (bt N B k).toInt + 1 := by rw [nI_toInt (by omega)]; omega
    rw [ti_sub (by rw [e, ti1]; omega) (by rw [e, ti1]; omega), e, ti1]; omega
  · exact ⟨0, by decide, q.2⟩
def hxv (x : Int32) : Int32 := if x < 48 then -1 else if x ≤ 57 then x - 48 else if x < 65 then -1 else if x ≤ 70 then x - 55 else if x < 97 then -1 else if x ≤ 102 then x - 87 else -1
theorem hx_all : ∀ i : Nat, i < 257 → f_PN_hexadecimal (nI i - 1) = some (hxv (nI i - 1)) ∧ f_MOD_hexadecimal (nI i - 1) = some (hxv (nI i - 1)) ∧ -1 ≤ (hxv (nI i - 1)).toInt ∧ (hxv (nI i - 1)).toInt ≤ 15 ∧ (hxv (nI i - 1) < 0 ∨ nI i - 1 ≠ 125) := by decide +kernel
theorem hx_bt {len n : Int32} {B X : Nat → Int32} {N : Nat} (h : TX len B n X N) (k : Nat) : f_PN_hexadecimal (bt N B k) = some (hxv (bt N B k)) ∧ f_MOD_hexadecimal (bt N B k) = some (hxv (bt N B k)) ∧ -1 ≤ (hxv (bt N B k)).toInt ∧ (hxv (bt N B k)).toInt ≤ 15 ∧ (hxv (bt N B k) < 0 ∨ bt N B k ≠ 125) := by
  obtain ⟨i, hi, e⟩ := bt_fin h k
  rw [e]; exact hx_all i hi
/-- the run of digits: how many, and their value -/
def hrun (N : Nat) (B : Nat → Int32) (first : Nat) : Nat → Nat → Int32 → Nat × Int32
  | 0, i, v => (i, v)
  | j + 1, i, v => if hxv (bt N B (first + i)) < 0 then (i, v) else hrun N B first j (i + 1) (v * 16 + hxv (bt N B (first + i)))
theorem hrun_succ (N : Nat) (B : Nat → Int32) (first : Nat) : ∀ (j i : Nat) (v : Int32), (hrun N B first j i v).1 ≤ i + j ∧ i ≤ (hrun N B first j i v).1 ∧
    hrun N B first (j + 1) i v = (if hxv (bt N B (first + (hrun N B first j i v).1)) < 0 ∨ (hrun N B first j i v).1 < i + j then hrun N B first j i v else ((hrun N B first j i v).1 + 1, (hrun N B first j i v).2 * 16 + hxv (bt N B (first + (hrun N B first j i v).1)))) := by
  intro j
  induction j with
  | zero =>
    intro i v
    refine ⟨Nat.le_refl _, Nat.le_refl _, ?_⟩
    simp only [hrun, Nat.add_zero, Nat.lt_irrefl, or_false]
  | succ j ih =>
    intro i v
    by_cases c : hxv (bt N B (first + i)) < 0
    · have e1 : hrun N B first (j + 1) i v = (i, v) := by rw [hrun, if_pos c]
      have e2 : hrun N B first (j + 1 + 1) i v = (i, v) := by rw [hrun, if_pos c]
      rw [e1, e2]
      refine ⟨Nat.le_add_right _ _, Nat.le_refl _, ?_⟩
      rw [if_pos (Or.inl c)]
    · have e1 : hrun N B first (j + 1) i v = hrun N B first j (i + 1) (v * 16 + hxv (bt N B (first + i))) := by rw [hrun, if_neg c]
      have e2 : hrun N B first (j + 1 + 1) i v = hrun N B first (j + 1) (i + 1) (v * 16 + hxv (bt N B (first + i))) := by rw [hrun, if_neg c]
      obtain ⟨i1, i2, i3⟩ := ih (i + 1) (v * 16 + hxv (bt N B (first + i)))
      rw [e1, e2, i3]
      refine ⟨by omega, by omega, ?_⟩
      rw [show i + 1 + j = i + (j + 1) by omega]
theorem hrun_val {len n : Int32} {B X : Nat → Int32} {N : Nat} (h : TX len B n X N) (first : Nat) : ∀ (j i : Nat) (v : Int32), 0 ≤ v.toInt → (v.toInt + 1) * 16 ^ j ≤ 300000000 → 0 ≤ (hrun N B first j i v).2.toInt := by
  intro j
  induction j with
  | zero => intro i v h0 _; exact h0
  | succ j ih =>
    intro i v h0 h1
    rw [hrun]
    split
    · exact h0
    · rename_i c
      obtain ⟨-, -, a1, a2, -⟩ := hx_bt h (first + i)
      have a0 : 0 ≤ (hxv (bt N B (first + i))).toInt := by
        rcases Int.lt_or_le (hxv (bt N B (first + i))).toInt 0 with q | q
        · exact absurd (lt_ti.mpr (by rw [ti0]; exact q)) c
        · exact q
      have p : (16 : Int) ^ (j + 1) = 16 ^ j * 16 := Int.pow_succ 16 j
      have pos : (1 : Int) ≤ 16 ^ j := by have : (0 : Int) < 16 ^ j := Int.pow_pos (by decide); omega
      have hv : (v.toInt + 1) * 16 ≤ 300000000 := by
        have : (v.toInt + 1) * 16 ≤ (v.toInt + 1) * (16 ^ j * 16) := Int.mul_le_mul_of_nonneg_left (by omega) (by omega)
        rw [p] at h1; omega
      have em : (v * 16).toInt = v.toInt * 16 := by
        rw [Int32.toInt_mul]
        show (v.toInt * 16).bmod _ = _
        exact Int.bmod_eq_of_le (by omega) (by omega)
      have ea : (v * 16 + hxv (bt N B (first + i))).toInt = v.toInt * 16 + (hxv (bt N B (first + i))).toInt := by
        rw [ti_add (by rw [em]; omega) (by rw [em]; omega), em]
      refine ih (i + 1) _ (by rw [ea]; omega) ?_
      rw [ea]
      have : (v.toInt * 16 + (hxv (bt N B (first + i))).toInt + 1) * 16 ^ j ≤ ((v.toInt + 1) * 16) * 16 ^ j := Int.mul_le_mul_of_nonneg_right (by omega) (by omega)
      have e5 : (v.toInt + 1) * 16 * 16 ^ j = (v.toInt + 1) * (16 ^ j * 16) := by rw [Int.mul_assoc, Int.mul_comm 16 (16 ^ j)]
      rw [p] at h1; omega
theorem numC_loop {len n : Int32} {B X : Nat → Int32} {N : Nat} (h : TX len B n X N) (p1 : Int32) (br : Bool) {first : Nat} (hf : first ≤ 2000) (ek ev ea : Int32) : ∀ (j i : Nat) (v : Int32) (F most : Nat), i + j = most → most ≤ 10 →
    f_ESC_readNumbered_L53 len B p1 (F + j + 1) (br, nI first, nI most, nI i, v, ek, ev, ea) = f_ESC_readNumbered_L105 len B p1 br (nI first) (nI (hrun N B first j i v).1) (hrun N B first j i v).2 ek ev ea := by
  intro j
  induction j with
  | zero =>
    intro i v F most hi hm
    rw [f_ESC_readNumbered_L53_s]
    unfold f_ESC_readNumbered_B53
    rw [if_pos ((nI_leI (by omega) (by omega)).mpr (by omega))]; rfl
  | succ j ih =>
    intro i v F most hi hm
    obtain ⟨a0, -, -, -, -⟩ := hx_bt h (first + i)
    have ei : nI first + nI i = nI (first + i) := nI_add _ _
    rw [show F + (j + 1) + 1 = (F + j + 1) + 1 by omega, f_ESC_readNumbered_L53_s]
    unfold f_ESC_readNumbered_B53
    rw [if_neg (fun q => by have := (nI_leI (by omega) (by omega)).mp q; omega), ei, bnd_s (at_C h (by omega)), bnd_s a0, hrun]
    by_cases c : hxv (bt N B (first + i)) < 0
    · rw [if_pos c, if_pos c]
    · rw [if_neg c, if_neg c, bnd_s (at_C h (by omega)), bnd_s a0, nI_1]
      exact ih (i + 1) _ F most (by omega) hm
theorem numM_loop {len n : Int32} {B X : Nat → Int32} {N : Nat} (h : TX len B n X N) (p1 : Int32) (br : Bool) {first : Nat} (hf : first ≤ 2000) (bh : Int32) (most : Nat) (hmost : most = if br then 7 else 2) : ∀ (j i : Nat) (v : Int32) (F : Nat), i + j = most →
    f_MOD_hexadecimalAt_L34 n X p1 (F + j + 1) (br, nI (first + i), nI first, v, bh) = f_MOD_hexadecimalAt_L84 n X p1 br (nI (first + (hrun N B first j i v).1)) (nI first) (hrun N B first j i v).2 bh := by
  have hm : most ≤ 7 := by rw [hmost]; split <;> omega
  intro j
  induction j with
  | zero =>
    intro i v F hi
    obtain ⟨-, a0, -, -, -⟩ := hx_bt h (first + i)
    rw [f_MOD_hexadecimalAt_L34_s]
    unfold f_MOD_hexadecimalAt_B34
    rw [bnd_s (at_M h (by omega)), bnd_s a0]
    by_cases c : hxv (bt N B (first + i)) < 0
    · rw [if_pos c]; rfl
    · rw [if_neg c]
      unfold f_MOD_hexadecimalAt_L58
      cases br with
      | true =>
        rw [if_neg (show ¬ b2i true = 0 by decide)]
        have e7 : nI first + 7 = nI (first + 7) := nI_add _ 7
        rw [if_pos rfl] at hmost
        rw [e7, if_pos ((nI_leI (by omega) (by omega)).mpr (by omega))]; rfl
      | false =>
        rw [if_pos (show b2i false = 0 from rfl)]
        have e2 : nI first + 2 = nI (first + 2) := nI_add _ 2
        rw [if_neg (by decide)] at hmost
        rw [e2, if_pos ((nI_leI (by omega) (by omega)).mpr (by omega))]; rfl
  | succ j ih =>
    intro i v F hi
    obtain ⟨-, a0, -, -, -⟩ := hx_bt h (first + i)
    rw [show F + (j + 1) + 1 = (F + j + 1) + 1 by omega, f_MOD_hexadecimalAt_L34_s]
    unfold f_MOD_hexadecimalAt_B34
    rw [bnd_s (at_M h (by omega)), bnd_s a0, hrun]
    by_cases c : hxv (bt N B (first + i)) < 0
    · rw [if_pos c, if_pos c]
    · rw [if_neg c, if_neg c]
      unfold f_MOD_hexadecimalAt_L58
      have ec : (16 : Int32) * v + hxv (bt N B (first + i)) = v * 16 + hxv (bt N B (first + i)) := by rw [Int32.mul_comm]
      cases br with
      | true =>
        rw [if_neg (show ¬ b2i true = 0 by decide)]
        have e7 : nI first + 7 = nI (first + 7) := nI_add _ 7
        rw [if_pos rfl] at hmost
        rw [e7, if_neg (fun q => by have := (nI_leI (by omega) (by omega)).mp q; omega), bnd_s (at_M h (by omega)), bnd_s a0, nI_1, ec]
        exact ih (i + 1) _ F (by omega)
      | false =>
        rw [if_pos (show b2i false = 0 from rfl)]
        have e2 : nI first + 2 = nI (first + 2) := nI_add _ 2
        rw [if_neg (by decide)] at hmost
        rw [e2, if_neg (fun q => by have := (nI_leI (by omega) (by omega)).mp q; omega), bnd_s (at_M h (by omega)), bnd_s a0, nI_1, ec]
        exact ih (i + 1) _ F (by omega)
/-- both read \x alike: a character and the place behind it, or none -/
theorem num_eq {len n : Int32} {B X : Nat → Int32} {N : Nat} (h : TX len B n X N) {k : Nat} (hk : k ≤ 1000) (ek ev ea bh : Int32) :
    (∃ e' v' a' bh', f_ESC_readNumbered len ek ev ea B (nI k) = some (5, e', v', a') ∧ f_MOD_hexadecimalAt n bh X (nI (k + 2)) = some (-1, bh')) ∨
    (∃ (c : Int32) (a : Nat), isCh c.toInt ∧ k + 4 ≤ a ∧ a ≤ N ∧ f_ESC_readNumbered len ek ev ea B (nI k) = some (0, 0, c, nI a) ∧ f_MOD_hexadecimalAt n bh X (nI (k + 2)) = some (c, nI a)) := by
  have fC : ∀ (v : Int32) (z0 : Bool) (z1 : Int32), f_ESC_readNumbered_L180 len B (nI k) v z0 z1 ek ev ea = some (0, 0, v, z1 + b2i z0) := fun v z0 z1 => rfl
  unfold f_ESC_readNumbered f_MOD_hexadecimalAt
  have ek2 : nI k + 2 = nI (k + 2) := nI_add k 2
  have ek3 : nI k + 3 = nI (k + 3) := nI_add k 3
  rw [ek2, bnd_s (at_C h (by omega)), bnd_s (at_M h (by omega))]
  by_cases c : bt N B (k + 2) = 123
  · rw [if_pos c, if_pos c]
    unfold f_ESC_readNumbered_L20 f_MOD_hexadecimalAt_L15 f_ESC_readNumbered_L34 f_MOD_hexadecimalAt_L27 f_ESC_readNumbered_L45
    have bt1 : ¬ b2i true = 0 := by decide
    have e1 : nI (k + 2) + 1 = nI (k + 3) := nI_1 _
    rw [if_neg bt1, if_neg bt1, if_neg bt1, ek3, e1]
    have hC := numC_loop h (nI k) true (first := k + 3) (by omega) ek ev ea 6 0 0 (999999 - 6) 6 rfl (by decide)
    have hM := numM_loop h (nI (k + 2)) true (first := k + 3) (by omega) bh 7 rfl 7 0 0 (999999 - 7) rfl
    have hC' : f_ESC_readNumbered_L53 len B (nI k) FU (true, nI (k + 3), 6, 0, 0, ek, ev, ea) = _ := hC
    have hM' : f_MOD_hexadecimalAt_L34 n X (nI (k + 2)) FU (true, nI (k + 3), nI (k + 3), 0, bh) = _ := hM
    rw [hC', hM']
    obtain ⟨s1, s2, s3⟩ := hrun_succ N B (k + 3) 6 0 0
    rw [s3]
    have hval := hrun_val h (k + 3) 6 0 0 (by decide) (by decide)
    generalize hrun N B (k + 3) 6 0 0 = r at s1 s2 hval ⊢
    obtain ⟨d, v⟩ := r
    simp only at s1 s2 hval ⊢
    obtain ⟨-, -, -, -, b5⟩ := hx_bt h (k + 3 + d)
    have ed : nI (k + 3) + nI d = nI (k + 3 + d) := nI_add _ _
    by_cases c6 : hxv (bt N B (k + 3 + d)) < 0 ∨ d < 0 + 6
    · rw [if_pos c6]
      unfold f_ESC_readNumbered_L105 f_MOD_hexadecimalAt_L84 f_MOD_hexadecimalAt_L102
      have esub : nI (k + 3 + d) - nI (k + 3) = nI d := by
        apply ti_eq.mpr
        rw [ti_sub (by rw [nI_toInt (by omega), nI_toInt (by omega)]; omega) (by rw [nI_toInt (by omega), nI_toInt (by omega)]; omega), nI_toInt (by omega), nI_toInt (by omega), nI_toInt (by omega)]
        omega
      rw [if_neg bt1, if_neg bt1, if_neg bt1, esub]
      by_cases c7 : d = 0
      · subst c7
        rw [if_pos (show nI 0 ≤ 0 by decide), if_pos (show nI 0 ≤ 0 by decide)]
        exact Or.inl ⟨_, _, _, _, rfl, rfl⟩
      · have n0 : ¬ nI d ≤ 0 := fun q => by have := (nI_leI (b := 0) (by omega) (by decide)).mp q; omega
        have n7 : ¬ 7 ≤ nI d := fun q => by have := (nI_leI (a := 7) (by decide) (by omega)).mp q; omega
        rw [if_neg n0, if_neg n0, if_neg n7, ed, bnd_s (at_C h (by omega)), bnd_s (at_M h (by omega))]
        by_cases c8 : bt N B (k + 3 + d) = 125
        · rw [if_pos c8, if_pos c8]
          unfold f_ESC_readNumbered_L149 f_MOD_hexadecimalAt_L150
          rw [if_neg bt1, if_neg bt1, ← isC_eq hval]
          have hin : k + 3 + d < N := bt_in h (by rw [c8]; decide)
          rcases isC_val (v := v) with ⟨u1, u2⟩ | ⟨u1, u2⟩
          · rw [bnd_s u1, bnd_s u1, if_neg bt1, if_neg bt1, if_neg bt1, fC, ed]
            refine Or.inr ⟨v, k + 3 + d + 1, u2, by omega, by omega, ?_, ?_⟩
            · have : nI (k + 3 + d) + b2i true = nI (k + 3 + d + 1) := nI_1 _
              rw [this]
            · rw [nI_1]
          · rw [bnd_s u1, bnd_s u1, if_pos (show b2i false = 0 from rfl), if_pos (show b2i false = 0 from rfl)]
            exact Or.inl ⟨_, _, _, _, rfl, rfl⟩
        · rw [if_neg c8, if_neg c8]
          exact Or.inl ⟨_, _, _, _, rfl, rfl⟩
    · rw [if_neg c6]
      have hd : d = 6 := by
        have : ¬ d < 0 + 6 := fun q => c6 (Or.inr q)
        omega
      subst hd
      have hne : bt N B (k + 3 + 6) ≠ 125 := by
        rcases b5 with q | q
        · exact absurd (Or.inl q) c6
        · exact q
      unfold f_ESC_readNumbered_L105 f_MOD_hexadecimalAt_L84 f_MOD_hexadecimalAt_L102
      have esub : nI (k + 3 + (6 + 1)) - nI (k + 3) = nI 7 := by
        apply ti_eq.mpr
        rw [ti_sub (by rw [nI_toInt (by omega), nI_toInt (by omega)]; omega) (by rw [nI_toInt (by omega), nI_toInt (by omega)]; omega), nI_toInt (by omega), nI_toInt (by omega), nI_toInt (by omega)]
        omega
      rw [if_neg bt1, if_neg bt1, if_neg bt1]
      simp only [esub]
      rw [if_neg (show ¬ nI 6 ≤ 0 by decide), if_neg (show ¬ nI 7 ≤ 0 by decide), if_pos (show 7 ≤ nI 7 by decide), ed, bnd_s (at_C h (by omega)), if_neg hne]
      exact Or.inl ⟨_, _, _, _, rfl, rfl⟩
  · rw [if_neg c, if_neg c]
    unfold f_ESC_readNumbered_L20 f_MOD_hexadecimalAt_L15 f_ESC_readNumbered_L34 f_MOD_hexadecimalAt_L27 f_ESC_readNumbered_L45
    have bt1 : b2i false = 0 := rfl
    rw [if_pos bt1, if_pos bt1, if_pos bt1, ek2]
    have hC := numC_loop h (nI k) false (first := k + 2) (by omega) ek ev ea 2 0 0 (999999 - 2) 2 rfl (by decide)
    have hM := numM_loop h (nI (k + 2)) false (first := k + 2) (by omega) bh 2 rfl 2 0 0 (999999 - 2) rfl
    have hC' : f_ESC_readNumbered_L53 len B (nI k) FU (false, nI (k + 2), 2, 0, 0, ek, ev, ea) = _ := hC
    have hM' : f_MOD_hexadecimalAt_L34 n X (nI (k + 2)) FU (false, nI (k + 2), nI (k + 2), 0, bh) = _ := hM
    rw [hC', hM']
    obtain ⟨s1, s2, s3⟩ := hrun_succ N B (k + 2) 2 0 0
    have hval := hrun_val h (k + 2) 2 0 0 (by decide) (by decide)
    -- two digits were read: both places are in the pattern
    have hin : (hrun N B (k + 2) 2 0 0).1 = 2 → k + 4 ≤ N := by
      intro e
      rw [hrun] at e
      split at e
      · cases e
      · rename_i q1
        rw [hrun] at e
        split at e
        · cases e
        · rename_i q2
          have : ¬ bt N B (k + 2 + (0 + 1)) = -1 := fun q => q2 (by rw [q]; decide)
          rcases bt_ti h (k + 2 + (0 + 1)) with u | u
          · omega
          · exact absurd u.2 this
    generalize hrun N B (k + 2) 2 0 0 = r at s1 s2 hval hin ⊢
    obtain ⟨d, v⟩ := r
    simp only at s1 s2 hval hin ⊢
    have esub : nI (k + 2 + d) - nI (k + 2) = nI d := by
      apply ti_eq.mpr
      rw [ti_sub (by rw [nI_toInt (by omega), nI_toInt (by omega)]; omega) (by rw [nI_toInt (by omega), nI_toInt (by omega)]; omega), nI_toInt (by omega), nI_toInt (by omega), nI_toInt (by omega)]
      omega
    unfold f_ESC_readNumbered_L105 f_MOD_hexadecimalAt_L84 f_MOD_hexadecimalAt_L102
    rw [if_pos bt1, if_pos bt1, if_pos bt1, esub]
    by_cases c7 : d = 2
    · subst c7
      rw [if_pos (show nI 2 = 2 from rfl), if_pos (show nI 2 = 2 from rfl)]
      unfold f_ESC_readNumbered_L149 f_MOD_hexadecimalAt_L150
      have bt2 : ¬ b2i true = 0 := by decide
      rw [if_neg bt2, if_neg bt2, ← isC_eq hval]
      rcases isC_val (v := v) with ⟨u1, u2⟩ | ⟨u1, u2⟩
      · rw [bnd_s u1, bnd_s u1, if_neg bt2, if_neg bt2, if_pos bt1, fC]
        refine Or.inr ⟨v, k + 4, u2, by omega, hin rfl, ?_, ?_⟩
        · have e4 : nI (k + 2) + nI 2 = nI (k + 4) := nI_add _ 2
          rw [e4]
          have : nI (k + 4) + b2i false = nI (k + 4) := by
            show nI (k + 4) + 0 = nI (k + 4)
            exact Int32.add_zero _
          rw [this]
        · rfl
      · rw [bnd_s u1, bnd_s u1, if_pos bt1, if_pos bt1]
        exact Or.inl ⟨_, _, _, _, rfl, rfl⟩
    · have n2 : ¬ nI d = 2 := fun q => c7 ((nI_eq (b := 2) (by omega) (by decide)).mp q)
      rw [if_neg n2, if_neg n2]
      exact Or.inl ⟨_, _, _, _, rfl, rfl⟩

set_option maxRecDepth 100000
set_option linter.unusedVariables false
def dgB (x : Int32) : Bool := decide (48 ≤ x) && decide (x ≤ 57)
def ltB (x : Int32) : Bool := (decide (97 ≤ x) && decide (x ≤ 122)) || (decide (65 ≤ x) && decide (x ≤ 90))
def wdB (x : Int32) : Bool := ltB x || dgB x || decide (x = 95)
theorem wd_all : ∀ i : Nat, i < 257 → f_PN_isWord (nI i - 1) = some (wdB (nI i - 1)) ∧ f_PN_isDigit (nI i - 1) = some (dgB (nI i - 1)) ∧ f_MOD_isLetter (nI i - 1) = some (ltB (nI i - 1)) ∧ f_MOD_isDigit (nI i - 1) = some (dgB (nI i - 1)) ∧ ((nI i - 1) ||| 32 = 98 ↔ (nI i - 1 = 66 ∨ nI i - 1 = 98)) := by decide +kernel
theorem wd_bt {len n : Int32} {B X : Nat → Int32} {N : Nat} (h : TX len B n X N) (k : Nat) : f_PN_isWord (bt N B k) = some (wdB (bt N B k)) ∧ f_PN_isDigit (bt N B k) = some (dgB (bt N B k)) ∧ f_MOD_isLetter (bt N B k) = some (ltB (bt N B k)) ∧ f_MOD_isDigit (bt N B k) = some (dgB (bt N B k)) ∧ (bt N B k ||| 32 = 98 ↔ (bt N B k = 66 ∨ bt N B k = 98)) := by
  obtain ⟨i, hi, e⟩ := bt_fin h k
  rw [e]; exact wd_all i hi
/-- the letters of \A \z \b \B \C -/
def asL (x : Int32) : Prop := x = 65 ∨ x = 66 ∨ x = 67 ∨ x = 98 ∨ x = 122
theorem esc_eq {len n : Int32} {B X : Nat → Int32} {N : Nat} (h : TX len B n X N) {k : Nat} (hk : k ≤ 1000) (ek ev : Int32) (es : Nat) (eo : Bool) (ea bh : Int32) (ns : Bool)
    {tb tl : Nat → Int32} (htb : ∀ j, j < 16 → tb j = setsT j) (htl : ∀ j, j < 28 → tl j = largeT j) {low high mn : Nat → Int32} {xs ys : PL} (hM : MS low high mn xs ys) :
    -- an assertion
    (∃ val : Int32, ((bt N B (k + 1) = 65 ∧ val = 0) ∨ (bt N B (k + 1) = 122 ∧ val = 1) ∨ (bt N B (k + 1) = 98 ∧ val = 4) ∨ (bt N B (k + 1) = 66 ∧ val = 5)) ∧ f_ESC_readEscape len ek ev es eo ea B (nI k) = some (0, 3, val, es, eo, nI (k + 2)) ∧
      (∃ bh' ns', f_MOD_setAt n bh ns X low high mn tb tl (nI k) = some (-5, bh', ns', low, high, mn)) ∧ f_ESC_isSetLetter (bt N B (k + 1)) = some false ∧ k + 2 ≤ N) ∨
    -- any byte
    (bt N B (k + 1) = 67 ∧ f_ESC_readEscape len ek ev es eo ea B (nI k) = some (0, 2, -1, es, eo, nI (k + 2)) ∧
      (∃ bh' ns', f_MOD_setAt n bh ns X low high mn tb tl (nI k) = some (-5, bh', ns', low, high, mn)) ∧ f_ESC_isSetLetter (bt N B (k + 1)) = some false ∧ k + 2 ≤ N) ∨
    -- a fault
    (¬ asL (bt N B (k + 1)) ∧ ∃ w : Int32, (w = 5 ∨ w = 7) ∧ (∃ e' v' s' o' a', f_ESC_readEscape len ek ev es eo ea B (nI k) = some (w, e', v', s', o', a')) ∧
      ((∃ bh' ns', f_MOD_setAt n bh ns X low high mn tb tl (nI k) = some (-w, bh', ns', low, high, mn) ∧ ∃ sl, f_ESC_isSetLetter (bt N B (k + 1)) = some sl ∧ (sl = false → w = 5)) ∨
       (w = 5 ∧ f_ESC_isSetLetter (bt N B (k + 1)) = some false ∧ (∃ bh' ns', f_MOD_setAt n bh ns X low high mn tb tl (nI k) = some (0, bh', ns', low, high, mn)) ∧ ∀ bb, ∃ bh', f_MOD_escaped n bb X (nI k) = some (-1, bh')))) ∨
    -- a character
    (¬ asL (bt N B (k + 1)) ∧ ∃ (c : Int32) (a : Nat), isCh c.toInt ∧ k + 2 ≤ a ∧ a ≤ N ∧ (128 ≤ c.toInt → k + 4 ≤ a) ∧ f_ESC_readEscape len ek ev es eo ea B (nI k) = some (0, 0, c, es, eo, nI a) ∧
      f_ESC_isSetLetter (bt N B (k + 1)) = some false ∧ (∃ bh' ns', f_MOD_setAt n bh ns X low high mn tb tl (nI k) = some (0, bh', ns', low, high, mn)) ∧ ∀ bb, f_MOD_escaped n bb X (nI k) = some (c, nI a)) ∨
    -- a set
    (¬ asL (bt N B (k + 1)) ∧ ∃ (s : Nat) (o : Bool) (a : Nat), 2 ≤ s ∧ s ≤ 8 ∧ k + 2 ≤ a ∧ a ≤ N ∧ (5 ≤ s → k + 3 ≤ a) ∧ f_ESC_readEscape len ek ev es eo ea B (nI k) = some (0, 1, -1, s, o, nI a) ∧ f_ESC_isSetLetter (bt N B (k + 1)) = some true ∧
      ∃ l' h' m', f_MOD_setAt n bh ns X low high mn tb tl (nI k) = some (1, nI a, o, l', h', m') ∧ MS l' h' m' xs (sp s)) := by
  have e1 : nI k + 1 = nI (k + 1) := nI_1 k
  have e2 : nI k + 2 = nI (k + 2) := nI_add k 2
  have e3 : nI (k + 2) + 1 = nI (k + 3) := nI_1 _
  have e3' : nI k + 3 = nI (k + 3) := nI_add k 3
  have aC := at_C h (k := k + 1) (by omega)
  have aM := at_M h (k := k + 1) (by omega)
  have hin : ∀ v : Int32, bt N B (k + 1) = v → 0 ≤ v.toInt → k + 2 ≤ N := by
    intro v e h0
    have := bt_in h (k := k + 1) (by rw [e]; exact h0)
    omega
  obtain ⟨w1, w2, w3, w4, w5⟩ := wd_bt h (k + 1)
  have hb := bt_ti h (k + 1)
  unfold f_ESC_readEscape f_MOD_setAt f_MOD_escaped f_MOD_setAt_L25
  rw [e1, e2, bnd_s aC, bnd_s aM]
  simp only [bnd_s aM]
  generalize bt N B (k + 1) = x at hin w1 w2 w3 w4 w5 hb ⊢
  by_cases x65 : x = 65
  · subst x65; exact Or.inl ⟨0, Or.inl ⟨rfl, rfl⟩, rfl, ⟨_, _, rfl⟩, rfl, hin _ rfl (by decide)⟩
  by_cases x66 : x = 66
  · subst x66; exact Or.inl ⟨5, Or.inr (Or.inr (Or.inr ⟨rfl, rfl⟩)), rfl, ⟨_, _, rfl⟩, rfl, hin _ rfl (by decide)⟩
  by_cases x98 : x = 98
  · subst x98; exact Or.inl ⟨4, Or.inr (Or.inr (Or.inl ⟨rfl, rfl⟩)), rfl, ⟨_, _, rfl⟩, rfl, hin _ rfl (by decide)⟩
  by_cases x122 : x = 122
  · subst x122; exact Or.inl ⟨1, Or.inr (Or.inl ⟨rfl, rfl⟩), rfl, ⟨_, _, rfl⟩, rfl, hin _ rfl (by decide)⟩
  by_cases x67 : x = 67
  · subst x67; exact Or.inr (Or.inl ⟨rfl, rfl, ⟨_, _, rfl⟩, rfl, hin _ rfl (by decide)⟩)
  have nas : ¬ asL x := by
    unfold asL
    rintro (q | q | q | q | q)
    · exact x65 q
    · exact x66 q
    · exact x67 q
    · exact x98 q
    · exact x122 q
  right; right
  have setCase : ∀ (s : Nat) (o : Bool) (i j : Nat), 2 ≤ s → s ≤ 4 → i + j ≤ 8 → foldIns [] (tabF setsT i j) = sp s → ∃ l' h' m', bnd_ (f_MOD_fill_sets low high mn tb (nI (2 * i)) (nI (2 * (i + j)))) (fun x54 => (some ((1 : Int32), nI (k + 2), o, x54.1, x54.2.1, x54.2.2) : Option (Int32 × Int32 × Bool × (Nat → Int32) × (Nat → Int32) × (Nat → Int32)))) = some (1, nI (k + 2), o, l', h', m') ∧ MS l' h' m' xs (sp s) := by
    intro s o i j _ _ hij he
    obtain ⟨l', h', m', f1, f2⟩ := mod_fill_sets htb hM i j hij
    rw [bnd_s f1, ← he]
    exact ⟨l', h', m', rfl, f2⟩
  by_cases x68 : x = 68
  · subst x68
    obtain ⟨l', h', m', g1, g2⟩ := setCase 2 true 0 1 (by decide) (by decide) (by decide) tab_d
    exact Or.inr (Or.inr ⟨nas, 2, true, k + 2, by decide, by decide, Nat.le_refl _, hin _ rfl (by decide), by omega, rfl, rfl, l', h', m', g1, g2⟩)
  by_cases x100 : x = 100
  · subst x100
    obtain ⟨l', h', m', g1, g2⟩ := setCase 2 false 0 1 (by decide) (by decide) (by decide) tab_d
    exact Or.inr (Or.inr ⟨nas, 2, false, k + 2, by decide, by decide, Nat.le_refl _, hin _ rfl (by decide), by omega, rfl, rfl, l', h', m', g1, g2⟩)
  by_cases x83 : x = 83
  · subst x83
    obtain ⟨l', h', m', g1, g2⟩ := setCase 3 true 1 3 (by decide) (by decide) (by decide) tab_s
    exact Or.inr (Or.inr ⟨nas, 3, true, k + 2, by decide, by decide, Nat.le_refl _, hin _ rfl (by decide), by omega, rfl, rfl, l', h', m', g1, g2⟩)
  by_cases x115 : x = 115
  · subst x115
    obtain ⟨l', h', m', g1, g2⟩ := setCase 3 false 1 3 (by decide) (by decide) (by decide) tab_s
    exact Or.inr (Or.inr ⟨nas, 3, false, k + 2, by decide, by decide, Nat.le_refl _, hin _ rfl (by decide), by omega, rfl, rfl, l', h', m', g1, g2⟩)
  by_cases x87 : x = 87
  · subst x87
    obtain ⟨l', h', m', g1, g2⟩ := setCase 4 true 4 4 (by decide) (by decide) (by decide) tab_w
    exact Or.inr (Or.inr ⟨nas, 4, true, k + 2, by decide, by decide, Nat.le_refl _, hin _ rfl (by decide), by omega, rfl, rfl, l', h', m', g1, g2⟩)
  by_cases x119 : x = 119
  · subst x119
    obtain ⟨l', h', m', g1, g2⟩ := setCase 4 false 4 4 (by decide) (by decide) (by decide) tab_w
    exact Or.inr (Or.inr ⟨nas, 4, false, k + 2, by decide, by decide, Nat.le_refl _, hin _ rfl (by decide), by omega, rfl, rfl, l', h', m', g1, g2⟩)
  -- \p, \P
  have prop : ∀ o : Bool, (∃ w : Int32, (w = 5 ∨ w = 7) ∧ (∃ e' v' s' o' a', f_ESC_readProperty len ek ev es eo (nI (k + 2)) B (nI k) o = some (w, e', v', s', o', a')) ∧ ∃ bh', f_MOD_largeAt n (nI (k + 2)) X low high mn tl (nI (k + 2)) = some (-w, bh', low, high, mn)) ∨
      (∃ s, 5 ≤ s ∧ s ≤ 8 ∧ k + 3 ≤ N ∧ f_ESC_readProperty len ek ev es eo (nI (k + 2)) B (nI k) o = some (0, 1, -1, s, o, nI (k + 3)) ∧ ∃ l' h' m', f_MOD_largeAt n (nI (k + 2)) X low high mn tl (nI (k + 2)) = some (1, nI (k + 3), l', h', m') ∧ MS l' h' m' xs (sp s)) := by
    intro o
    unfold f_ESC_readProperty f_MOD_largeAt
    rw [e2, e3, e3', bnd_s (at_C h (k := k + 2) (by omega)), bnd_s (at_M h (k := k + 2) (by omega))]
    have hin2 : ∀ v : Int32, bt N B (k + 2) = v → 0 ≤ v.toInt → k + 3 ≤ N := by
      intro v e h0
      have := bt_in h (k := k + 2) (by rw [e]; exact h0)
      omega
    generalize bt N B (k + 2) = y at hin2 ⊢
    have lg : ∀ (s i j : Nat), i + j ≤ 14 → foldIns [] (tabF largeT i j) = sp s → ∃ l' h' m', bnd_ (f_MOD_fill_large low high mn tl (nI (2 * i)) (nI (2 * (i + j)))) (fun x35 => (some ((1 : Int32), nI (k + 3), x35.1, x35.2.1, x35.2.2) : Option (Int32 × Int32 × (Nat → Int32) × (Nat → Int32) × (Nat → Int32)))) = some (1, nI (k + 3), l', h', m') ∧ MS l' h' m' xs (sp s) := by
      intro s i j hij he
      obtain ⟨l', h', m', f1, f2⟩ := mod_fill_large htl hM i j hij
      rw [bnd_s f1, ← he]
      exact ⟨l', h', m', rfl, f2⟩
    by_cases y1 : y = -1
    · subst y1; exact Or.inl ⟨5, Or.inl rfl, ⟨_, _, _, _, _, rfl⟩, _, rfl⟩
    by_cases y76 : y = 76
    · subst y76
      obtain ⟨l', h', m', g1, g2⟩ := lg 5 0 10 (by decide) tab_L
      exact Or.inr ⟨5, by decide, by decide, hin2 _ rfl (by decide), rfl, l', h', m', g1, g2⟩
    by_cases y78 : y = 78
    · subst y78
      obtain ⟨l', h', m', g1, g2⟩ := lg 6 10 4 (by decide) tab_N
      exact Or.inr ⟨6, by decide, by decide, hin2 _ rfl (by decide), rfl, l', h', m', g1, g2⟩
    by_cases y71 : y = 71
    · subst y71
      obtain ⟨l', h', m', g1, g2⟩ := lg 7 8 1 (by decide) tab_G
      exact Or.inr ⟨7, by decide, by decide, hin2 _ rfl (by decide), rfl, l', h', m', g1, g2⟩
    by_cases y89 : y = 89
    · subst y89
      obtain ⟨l', h', m', g1, g2⟩ := lg 8 9 1 (by decide) tab_Y
      exact Or.inr ⟨8, by decide, by decide, hin2 _ rfl (by decide), rfl, l', h', m', g1, g2⟩
    · refine Or.inl ⟨7, Or.inr rfl, ⟨ek, ev, es, eo, nI (k + 2), ?_⟩, nI (k + 3), ?_⟩
      · have : f_ESC_propertyOf y = some 0 := by unfold f_ESC_propertyOf; rw [if_neg y71, if_neg y76, if_neg y78, if_neg y89]
        rw [if_neg y1, bnd_s this, if_pos (show Int32.ofNat (stN 0) = 0 by decide)]
      · rw [if_neg y1, if_neg y76, if_neg y78, if_neg y71, if_neg y89]
  by_cases x80 : x = 80
  · subst x80
    rcases prop true with ⟨w, u1, ⟨e', v', s', o', a', u2⟩, bh', u3⟩ | ⟨s, u1, u2, u3, u4, l', h', m', u5, u6⟩
    · refine Or.inl ⟨nas, w, u1, ⟨e', v', s', o', a', ?_⟩, Or.inl ⟨bh', true, ?_, true, rfl, fun q => by cases q⟩⟩
      · show bnd_ (f_ESC_readProperty len ek ev es eo (nI (k + 2)) B (nI k) true) _ = _
        rw [bnd_s u2]
      · show bnd_ (f_MOD_largeAt n (nI (k + 2)) X low high mn tl (nI k + 2)) _ = _
        rw [e2, bnd_s u3]
    · refine Or.inr (Or.inr ⟨nas, s, true, k + 3, by omega, u2, by omega, u3, fun _ => Nat.le_refl _, ?_, rfl, l', h', m', ?_, u6⟩)
      · show bnd_ (f_ESC_readProperty len ek ev es eo (nI (k + 2)) B (nI k) true) _ = _
        rw [bnd_s u4]
      · show bnd_ (f_MOD_largeAt n (nI (k + 2)) X low high mn tl (nI k + 2)) _ = _
        rw [e2, bnd_s u5]
  by_cases x112 : x = 112
  · subst x112
    rcases prop false with ⟨w, u1, ⟨e', v', s', o', a', u2⟩, bh', u3⟩ | ⟨s, u1, u2, u3, u4, l', h', m', u5, u6⟩
    · refine Or.inl ⟨nas, w, u1, ⟨e', v', s', o', a', ?_⟩, Or.inl ⟨bh', false, ?_, true, rfl, fun q => by cases q⟩⟩
      · show bnd_ (f_ESC_readProperty len ek ev es eo (nI (k + 2)) B (nI k) false) _ = _
        rw [bnd_s u2]
      · show bnd_ (f_MOD_largeAt n (nI (k + 2)) X low high mn tl (nI k + 2)) _ = _
        rw [e2, bnd_s u3]
    · refine Or.inr (Or.inr ⟨nas, s, false, k + 3, by omega, u2, by omega, u3, fun _ => Nat.le_refl _, ?_, rfl, l', h', m', ?_, u6⟩)
      · show bnd_ (f_ESC_readProperty len ek ev es eo (nI (k + 2)) B (nI k) false) _ = _
        rw [bnd_s u4]
      · show bnd_ (f_MOD_largeAt n (nI (k + 2)) X low high mn tl (nI k + 2)) _ = _
        rw [e2, bnd_s u5]
  -- letters of characters
  have small : ∀ (v c : Int32), x = v → 0 ≤ v.toInt → isCh c.toInt → c.toInt < 128 → True := fun _ _ _ _ _ _ => trivial
  by_cases x97 : x = 97
  · subst x97; exact Or.inr (Or.inl ⟨nas, 7, k + 2, by decide, Nat.le_refl _, hin _ rfl (by decide), (fun q => absurd q (by decide)), rfl, rfl, ⟨_, _, rfl⟩, fun bb => rfl⟩)
  by_cases x102 : x = 102
  · subst x102; exact Or.inr (Or.inl ⟨nas, 12, k + 2, by decide, Nat.le_refl _, hin _ rfl (by decide), (fun q => absurd q (by decide)), rfl, rfl, ⟨_, _, rfl⟩, fun bb => rfl⟩)
  by_cases x110 : x = 110
  · subst x110; exact Or.inr (Or.inl ⟨nas, 10, k + 2, by decide, Nat.le_refl _, hin _ rfl (by decide), (fun q => absurd q (by decide)), rfl, rfl, ⟨_, _, rfl⟩, fun bb => rfl⟩)
  by_cases x114 : x = 114
  · subst x114; exact Or.inr (Or.inl ⟨nas, 13, k + 2, by decide, Nat.le_refl _, hin _ rfl (by decide), (fun q => absurd q (by decide)), rfl, rfl, ⟨_, _, rfl⟩, fun bb => rfl⟩)
  by_cases x116 : x = 116
  · subst x116; exact Or.inr (Or.inl ⟨nas, 9, k + 2, by decide, Nat.le_refl _, hin _ rfl (by decide), (fun q => absurd q (by decide)), rfl, rfl, ⟨_, _, rfl⟩, fun bb => rfl⟩)
  by_cases x118 : x = 118
  · subst x118; exact Or.inr (Or.inl ⟨nas, 11, k + 2, by decide, Nat.le_refl _, hin _ rfl (by decide), (fun q => absurd q (by decide)), rfl, rfl, ⟨_, _, rfl⟩, fun bb => rfl⟩)
  by_cases x120 : x = 120
  · subst x120
    rcases num_eq h hk ek ev (nI (k + 2)) (nI (k + 2)) with ⟨e', v', a', bh', u1, u2⟩ | ⟨c, a, u1, u2, u3, u4, u5⟩
    · refine Or.inl ⟨nas, 5, Or.inl rfl, ⟨e', v', es, eo, a', ?_⟩, Or.inr ⟨rfl, rfl, ⟨_, _, rfl⟩, fun bb => ⟨bh', ?_⟩⟩⟩
      · show bnd_ (f_ESC_readNumbered len ek ev (nI (k + 2)) B (nI k)) _ = _
        rw [bnd_s u1]
      · show bnd_ (f_MOD_hexadecimalAt n (nI (k + 2)) X (nI (k + 2))) _ = _
        rw [bnd_s u2]
    · refine Or.inr (Or.inl ⟨nas, c, a, u1, by omega, u3, fun _ => u2, ?_, rfl, ⟨_, _, rfl⟩, fun bb => ?_⟩)
      · show bnd_ (f_ESC_readNumbered len ek ev (nI (k + 2)) B (nI k)) _ = _
        rw [bnd_s u4]
      · show bnd_ (f_MOD_hexadecimalAt n (nI (k + 2)) X (nI (k + 2))) _ = _
        rw [bnd_s u5]
  -- all others
  have sl : f_ESC_isSetLetter x = some false := by
    unfold f_ESC_isSetLetter f_ESC_setOf
    rw [if_neg x112, if_neg x80, if_neg x68, if_neg x83, if_neg x87, if_neg x100, if_neg x115, if_neg x119]; rfl
  have o32 : ¬ (x ||| 32) = 98 := fun q => by
    rcases w5.mp q with u | u
    · exact x66 u
    · exact x98 u
  simp only [x65, x66, x67, x68, x80, x83, x87, x97, x98, x100, x102, x110, x112, x114, x115, x116, x118, x119, x120, x122, o32, if_false]
  unfold f_ESC_readEscape_L390 f_MOD_escaped_L154
  by_cases xm : x = -1
  · subst xm
    exact Or.inl ⟨nas, 5, Or.inl rfl, ⟨_, _, _, _, _, rfl⟩, Or.inl ⟨_, _, rfl, false, sl, fun _ => rfl⟩⟩
  have hx0 : 0 ≤ x.toInt := by
    rcases hb with q | q
    · exact q.2.1
    · exact absurd q.2 xm
  have nn : ¬ x < 0 := fun q => by have := lt_ti.mp q; rw [ti0] at this; omega
  have l128 : (128 : Int32).toInt = 128 := rfl
  have l127 : (127 : Int32).toInt = 127 := rfl
  simp only [xm, if_false, if_neg nn, bnd_s w1, bnd_s w3]
  have sa : ∃ bh' ns', (if 97 ≤ x then (some ((0 : Int32), nI (k + 2), false, low, high, mn) : Option (Int32 × Int32 × Bool × (Nat → Int32) × (Nat → Int32) × (Nat → Int32))) else some (0, nI (k + 2), true, low, high, mn)) = some (0, bh', ns', low, high, mn) := by
    split
    · exact ⟨_, _, rfl⟩
    · exact ⟨_, _, rfl⟩
  by_cases c : x.toInt < 128
  · have c1 : ¬ 128 ≤ x := fun q => by have := le_ti.mp q; omega
    have c2 : ¬ 127 < x := fun q => by have := lt_ti.mp q; omega
    simp only [if_neg c1, if_neg c2]
    cases hw : wdB x with
    | true =>
      refine Or.inl ⟨nas, 5, Or.inl rfl, ⟨ek, ev, es, eo, nI (k + 2), by rw [if_neg (show ¬ b2i true = 0 by decide)]⟩, Or.inr ⟨rfl, sl, sa, fun bb => ⟨nI (k + 2), ?_⟩⟩⟩
      cases hl : ltB x with
      | true => rw [if_neg (show ¬ b2i true = 0 by decide)]
      | false =>
        rw [if_pos (show b2i false = 0 from rfl), bnd_s w4]
        cases hd : dgB x with
        | true => rw [if_neg (show ¬ b2i true = 0 by decide)]
        | false =>
          have : x = 95 := by
            unfold wdB at hw
            rw [hl, hd] at hw
            simpa using hw
          rw [if_pos (show b2i false = 0 from rfl), if_pos this]
    | false =>
      have hl : ltB x = false := by
        unfold wdB at hw
        cases q : ltB x with
        | false => rfl
        | true => rw [q] at hw; simp at hw
      have hd : dgB x = false := by
        unfold wdB at hw
        cases q : dgB x with
        | false => rfl
        | true => rw [q] at hw; simp at hw
      have h95 : ¬ x = 95 := by
        unfold wdB at hw
        intro q
        rw [q] at hw; revert hw; decide
      refine Or.inr (Or.inl ⟨nas, x, k + 2, by unfold isCh; omega, Nat.le_refl _, hin x rfl hx0, by omega, ?_, sl, sa, fun bb => ?_⟩)
      · rw [if_pos (show b2i false = 0 from rfl)]; rfl
      · rw [hl, if_pos (show b2i false = 0 from rfl), bnd_s w4, hd, if_pos (show b2i false = 0 from rfl), if_neg h95]
  · have c1 : 128 ≤ x := le_ti.mpr (by omega)
    have c2 : 127 < x := lt_ti.mpr (by omega)
    simp only [if_pos c1, if_pos c2]
    exact Or.inl ⟨nas, 5, Or.inl rfl, ⟨_, _, _, _, _, rfl⟩, Or.inr ⟨rfl, sl, sa, fun bb => ⟨_, rfl⟩⟩⟩

set_option maxRecDepth 100000
set_option linter.unusedVariables false
-- [:name:]
theorem isWord_val {len n : Int32} {B X : Nat → Int32} {N : Nat} (h : TX len B n X N) {k : Nat} (hk : k ≤ 1000) (a b c d e : Int32) :
    f_MOD_isWord n X (nI k) a b c d e = some (decide (bt N B k = a ∧ bt N B (k + 1) = b ∧ bt N B (k + 2) = c ∧ bt N B (k + 3) = d ∧ bt N B (k + 4) = e)) := by
  unfold f_MOD_isWord
  have e1 : nI k + 1 = nI (k + 1) := nI_add k 1
  have e2 : nI k + 2 = nI (k + 2) := nI_add k 2
  have e3 : nI k + 3 = nI (k + 3) := nI_add k 3
  have e4 : nI k + 4 = nI (k + 4) := nI_add k 4
  rw [e1, e2, e3, e4, bnd_s (at_M h (k := k) (by omega))]
  by_cases c0 : bt N B k = a
  · rw [if_pos c0, bnd_s (at_M h (k := k + 1) (by omega))]
    by_cases c1 : bt N B (k + 1) = b
    · rw [if_pos c1, bnd_s (at_M h (k := k + 2) (by omega))]
      by_cases c2 : bt N B (k + 2) = c
      · rw [if_pos c2, bnd_s (at_M h (k := k + 3) (by omega))]
        by_cases c3 : bt N B (k + 3) = d
        · rw [if_pos c3, bnd_s (at_M h (k := k + 4) (by omega))]
          by_cases c4 : bt N B (k + 4) = e
          · rw [if_pos c4, decide_eq_true ⟨c0, c1, c2, c3, c4⟩]
          · rw [if_neg c4, decide_eq_false (fun q => c4 q.2.2.2.2)]
        · rw [if_neg c3, decide_eq_false (fun q => c3 q.2.2.2.1)]
      · rw [if_neg c2, decide_eq_false (fun q => c2 q.2.2.1)]
    · rw [if_neg c1, decide_eq_false (fun q => c1 q.2.1)]
  · rw [if_neg c0, decide_eq_false (fun q => c0 q.1)]
theorem sx_len : ∀ t, t < 6 → sxL t = nI 7 ∧ sxN t = 7 := by decide
theorem hasText_loop {len n : Int32} {B X : Nat → Int32} {N : Nat} (h : TX len B n X N) {k : Nat} (hk : k ≤ 1000) {t : Nat} (ht : t < 6) : ∀ (j i : Nat) (F : Nat), i + j = 7 →
    ∃ r : Bool, f_PAT_hasText_L2 len B (nI k) t (F + j + 1) (nI i) = some r ∧ (r = true ↔ ∀ i', i ≤ i' → i' < 7 → bt N B (k + i') = sxC t i') := by
  obtain ⟨s1, s2⟩ := sx_len t ht
  intro j
  induction j with
  | zero =>
    intro i F hi
    refine ⟨true, ?_, fun _ i' q1 q2 => by omega, fun _ => rfl⟩
    rw [f_PAT_hasText_L2_s]
    unfold f_PAT_hasText_B2
    rw [s1, if_pos ((nI_leI (by omega) (by omega)).mpr (by omega))]
  | succ j ih =>
    intro i F hi
    have ei : nI k + nI i = nI (k + i) := nI_add _ _
    have ec : (nI i).toNatClampNeg = i := nI_clamp (by omega)
    rw [show F + (j + 1) + 1 = (F + j + 1) + 1 by omega, f_PAT_hasText_L2_s]
    unfold f_PAT_hasText_B2
    rw [s1, s2, if_neg (fun q => by have := (nI_leI (by omega) (by omega)).mp q; omega), ei, bnd_s (at_C h (by omega)), ec, grd_t (inb_nI (by omega) (by decide)), nI_1]
    by_cases c : bt N B (k + i) = sxC t i
    · rw [if_pos c]
      obtain ⟨r, h1, h2⟩ := ih (i + 1) F (by omega)
      refine ⟨r, h1, fun q i' q1 q2 => ?_, fun q => h2.mpr (fun i' q1 q2 => q i' (by omega) q2)⟩
      rcases Nat.eq_or_lt_of_le q1 with u | u
      · rw [← u]; exact c
      · exact h2.mp q i' u q2
    · rw [if_neg c]
      exact ⟨false, rfl, fun q => (by cases q), fun q => absurd (q i (Nat.le_refl _) (by omega)) c⟩
abbrev W5 (N : Nat) (B : Nat → Int32) (k : Nat) (a b c d e : Int32) : Prop := bt N B k = a ∧ bt N B (k + 1) = b ∧ bt N B (k + 2) = c ∧ bt N B (k + 3) = d ∧ bt N B (k + 4) = e
def E2 (N : Nat) (B : Nat → Int32) (k : Nat) : Prop := bt N B (k + 5) = 58 ∧ bt N B (k + 6) = 93
theorem hasText_val {len n : Int32} {B X : Nat → Int32} {N : Nat} (h : TX len B n X N) {k : Nat} (hk : k ≤ 1000) {t : Nat} (ht : t < 6) (a b c d e : Int32) (h0 : sxC t 0 = a) (h1 : sxC t 1 = b) (h2 : sxC t 2 = c) (h3 : sxC t 3 = d) (h4 : sxC t 4 = e) (h5 : sxC t 5 = 58) (h6 : sxC t 6 = 93) :
    ∃ r : Bool, f_PAT_hasText len B (nI k) t = some r ∧ (r = true ↔ W5 N B k a b c d e ∧ E2 N B k) := by
  obtain ⟨r, e1, e2⟩ := hasText_loop h hk ht 7 0 (999999 - 7) rfl
  refine ⟨r, e1, ?_⟩
  rw [e2]
  constructor
  · intro q
    refine ⟨⟨?_, ?_, ?_, ?_, ?_⟩, ?_, ?_⟩
    · rw [← h0]; exact q 0 (by omega) (by omega)
    · rw [← h1]; exact q 1 (by omega) (by omega)
    · rw [← h2]; exact q 2 (by omega) (by omega)
    · rw [← h3]; exact q 3 (by omega) (by omega)
    · rw [← h4]; exact q 4 (by omega) (by omega)
    · rw [← h5]; exact q 5 (by omega) (by omega)
    · rw [← h6]; exact q 6 (by omega) (by omega)
  · rintro ⟨⟨q0, q1, q2, q3, q4⟩, q5, q6⟩ i' _ hi
    rcases (show i' = 0 ∨ i' = 1 ∨ i' = 2 ∨ i' = 3 ∨ i' = 4 ∨ i' = 5 ∨ i' = 6 by omega) with rfl | rfl | rfl | rfl | rfl | rfl | rfl
    · rw [h0]; exact q0
    · rw [h1]; exact q1
    · rw [h2]; exact q2
    · rw [h3]; exact q3
    · rw [h4]; exact q4
    · rw [h5]; exact q5
    · rw [h6]; exact q6
theorem L231_val {len n : Int32} {B X : Nat → Int32} {N : Nat} (h : TX len B n X N) {k : Nat} (hk : k ≤ 1000) (nm : Nat → Int32) (p1 bh : Int32) (ns : Bool) (low high mn : Nat → Int32) :
    ∃ r : Bool, f_MOD_isName_L231 n X nm p1 (nI k) bh ns low high mn = some (r, nI (k + 7), ns, low, high, mn) ∧ (r = true ↔ E2 N B k) := by
  unfold f_MOD_isName_L231 E2
  have e5 : nI k + 5 = nI (k + 5) := nI_add k 5
  have e6 : nI k + 6 = nI (k + 6) := nI_add k 6
  have e7 : nI k + 7 = nI (k + 7) := nI_add k 7
  rw [e5, e6, e7, bnd_s (at_M h (k := k + 5) (by omega))]
  by_cases c : bt N B (k + 5) = 58
  · rw [if_pos c, bnd_s (at_M h (k := k + 6) (by omega))]
    by_cases d : bt N B (k + 6) = 93
    · rw [if_pos d]; exact ⟨true, rfl, fun _ => ⟨c, d⟩, fun _ => rfl⟩
    · rw [if_neg d]; exact ⟨false, rfl, fun q => (by cases q), fun q => absurd q.2 d⟩
  · rw [if_neg c]; exact ⟨false, rfl, fun q => (by cases q), fun q => absurd q.1 c⟩
/-- the name at k: both know it, with the same set behind it, or neither does -/
theorem name_eq {len n : Int32} {B X : Nat → Int32} {N : Nat} (h : TX len B n X N) {k : Nat} (hk : k ≤ 1000) {nm : Nat → Int32} (hnm : ∀ j, j < 22 → nm j = namedT j) {low high mn : Nat → Int32} {xs ys : PL} (hM : MS low high mn xs ys) (p1 bh : Int32) (ns : Bool) :
    (f_CLS_setNamedAt len B (nI k) = some 0 ∧ ∃ bh' l' h' m' ys', f_MOD_isName_L33 n X nm p1 (nI k) bh ns low high mn = some (false, bh', ns, l', h', m') ∧ MS l' h' m' xs ys') ∨
    (∃ s, 2 ≤ s ∧ s ≤ 13 ∧ k + 7 ≤ N ∧ f_CLS_setNamedAt len B (nI k) = some s ∧ ∃ l' h' m', f_MOD_isName_L33 n X nm p1 (nI k) bh ns low high mn = some (true, nI (k + 7), ns, l', h', m') ∧ MS l' h' m' xs (sp s)) := by
  obtain ⟨r0, a0, b0⟩ := hasText_val h hk (t := 0) (by decide) 100 105 103 105 116 rfl rfl rfl rfl rfl rfl rfl
  obtain ⟨r1, a1, b1⟩ := hasText_val h hk (t := 1) (by decide) 97 108 112 104 97 rfl rfl rfl rfl rfl rfl rfl
  obtain ⟨r2, a2, b2⟩ := hasText_val h hk (t := 2) (by decide) 117 112 112 101 114 rfl rfl rfl rfl rfl rfl rfl
  obtain ⟨r3, a3, b3⟩ := hasText_val h hk (t := 3) (by decide) 108 111 119 101 114 rfl rfl rfl rfl rfl rfl rfl
  obtain ⟨r4, a4, b4⟩ := hasText_val h hk (t := 4) (by decide) 112 117 110 99 116 rfl rfl rfl rfl rfl rfl rfl
  obtain ⟨r5, a5, b5⟩ := hasText_val h hk (t := 5) (by decide) 115 112 97 99 101 rfl rfl rfl rfl rfl rfl rfl
  unfold f_CLS_setNamedAt f_MOD_isName_L33
  rw [bnd_s a0, bnd_s (isWord_val h hk _ _ _ _ _)]
  simp only [bnd_s a1, bnd_s a2, bnd_s a3, bnd_s a4, bnd_s a5, bnd_s (isWord_val h hk _ _ _ _ _)]
  have f0 : b2i false = 0 := rfl
  have f1 : ¬ b2i true = 0 := by decide
  have hin : E2 N B k → k + 7 ≤ N := by
    intro q
    have := bt_in h (k := k + 6) (by rw [q.2]; decide)
    omega
  -- one of the names stands there
  have one : ∀ (s i j : Nat), 2 ≤ s → s ≤ 13 → i + j ≤ 11 → foldIns [] (tabF namedT i j) = sp s → ∃ (r : Bool) (l' h' m' : Nat → Int32), bnd_ (f_MOD_fill_named low high mn nm (nI (2 * i)) (nI (2 * (i + j)))) (fun x93 => f_MOD_isName_L231 n X nm p1 (nI k) bh ns x93.1 x93.2.1 x93.2.2) = some (r, nI (k + 7), ns, l', h', m') ∧ MS l' h' m' xs (sp s) ∧ (r = true ↔ E2 N B k) := by
    intro s i j _ _ hij he
    obtain ⟨l', h', m', g1, g2⟩ := mod_fill_named hnm hM i j hij
    rw [bnd_s g1, ← he]
    obtain ⟨r, q1, q2⟩ := L231_val h hk nm p1 bh ns l' h' m'
    exact ⟨r, l', h', m', q1, g2, q2⟩
  have pick : ∀ (s : Nat) (cs : Bool → Option Nat) (r : Bool) (l' h' m' : Nat → Int32) (b : Bool), 2 ≤ s → s ≤ 13 → (r = true ↔ E2 N B k) → (b = true ↔ E2 N B k) → MS l' h' m' xs (sp s) → cs true = some s → cs false = some 0 →
      ((cs b = some 0 ∧ ∃ bh' l2 h2 m2 ys', (some (r, nI (k + 7), ns, l', h', m') : Option (Bool × Int32 × Bool × (Nat → Int32) × (Nat → Int32) × (Nat → Int32))) = some (false, bh', ns, l2, h2, m2) ∧ MS l2 h2 m2 xs ys') ∨
      (∃ s', 2 ≤ s' ∧ s' ≤ 13 ∧ k + 7 ≤ N ∧ cs b = some s' ∧ ∃ l2 h2 m2, (some (r, nI (k + 7), ns, l', h', m') : Option (Bool × Int32 × Bool × (Nat → Int32) × (Nat → Int32) × (Nat → Int32))) = some (true, nI (k + 7), ns, l2, h2, m2) ∧ MS l2 h2 m2 xs (sp s'))) := by
    intro s cs r l' h' m' b s1 s2 q1 q2 q3 q4 q5
    by_cases e : E2 N B k
    · rw [q1.mpr e, q2.mpr e]
      exact Or.inr ⟨s, s1, s2, hin e, q4, l', h', m', rfl, q3⟩
    · have e1 : r = false := by cases r with
        | false => rfl
        | true => exact absurd (q1.mp rfl) e
      have e2 : b = false := by cases b with
        | false => rfl
        | true => exact absurd (q2.mp rfl) e
      rw [e1, e2]
      exact Or.inl ⟨q5, _, _, _, _, _, rfl, q3⟩
  have no : ∀ {r : Bool} {P : Prop}, (r = true ↔ P) → ¬ P → r = false := by
    intro r P q1 q2
    cases r with
    | false => rfl
    | true => exact absurd (q1.mp rfl) q2
  by_cases w1 : W5 N B k 97 108 112 104 97
  · have z : bt N B k = 97 := w1.1
    have n0 : r0 = false := no b0 (fun q => by have := q.1.1; rw [z] at this; exact absurd this (by decide))
    have n2 : r2 = false := no b2 (fun q => by have := q.1.1; rw [z] at this; exact absurd this (by decide))
    have n3 : r3 = false := no b3 (fun q => by have := q.1.1; rw [z] at this; exact absurd this (by decide))
    have n4 : r4 = false := no b4 (fun q => by have := q.1.1; rw [z] at this; exact absurd this (by decide))
    have n5 : r5 = false := no b5 (fun q => by have := q.1.1; rw [z] at this; exact absurd this (by decide))
    rw [decide_eq_true w1, if_neg f1, n0, if_pos f0, n2, n3, n4, n5]
    obtain ⟨r, l', h', m', g1, g2, g3⟩ := one 9 1 2 (by decide) (by decide) (by decide) tab_alpha
    have g1' : bnd_ (f_MOD_fill_named low high mn nm 2 6) _ = _ := g1
    rw [g1']
    exact pick 9 (fun b => if b2i b = 0 then (if b2i false = 0 then (if b2i false = 0 then (if b2i false = 0 then (if b2i false = 0 then some 0 else some 13) else some 12) else some 11) else some 10) else some 9) r l' h' m' r1 (by decide) (by decide) g3 ⟨fun q => (b1.mp q).2, fun q => b1.mpr ⟨w1, q⟩⟩ g2 rfl rfl
  rw [decide_eq_false w1, if_pos f0]
  have n1 : r1 = false := no b1 (fun q => w1 q.1)
  by_cases w2 : W5 N B k 117 112 112 101 114
  · have z : bt N B k = 117 := w2.1
    have n0 : r0 = false := no b0 (fun q => by have := q.1.1; rw [z] at this; exact absurd this (by decide))
    have n3 : r3 = false := no b3 (fun q => by have := q.1.1; rw [z] at this; exact absurd this (by decide))
    have n4 : r4 = false := no b4 (fun q => by have := q.1.1; rw [z] at this; exact absurd this (by decide))
    have n5 : r5 = false := no b5 (fun q => by have := q.1.1; rw [z] at this; exact absurd this (by decide))
    rw [decide_eq_true w2, if_neg f1, n0, if_pos f0, n1, if_pos f0, n3, n4, n5]
    obtain ⟨r, l', h', m', g1, g2, g3⟩ := one 10 3 1 (by decide) (by decide) (by decide) tab_upper
    have g1' : bnd_ (f_MOD_fill_named low high mn nm 6 8) _ = _ := g1
    rw [g1']
    exact pick 10 (fun b => if b2i b = 0 then (if b2i false = 0 then (if b2i false = 0 then (if b2i false = 0 then some 0 else some 13) else some 12) else some 11) else some 10) r l' h' m' r2 (by decide) (by decide) g3 ⟨fun q => (b2.mp q).2, fun q => b2.mpr ⟨w2, q⟩⟩ g2 rfl rfl
  rw [decide_eq_false w2, if_pos f0]
  have n2 : r2 = false := no b2 (fun q => w2 q.1)
  by_cases w3 : W5 N B k 108 111 119 101 114
  · have z : bt N B k = 108 := w3.1
    have n0 : r0 = false := no b0 (fun q => by have := q.1.1; rw [z] at this; exact absurd this (by decide))
    have n4 : r4 = false := no b4 (fun q => by have := q.1.1; rw [z] at this; exact absurd this (by decide))
    have n5 : r5 = false := no b5 (fun q => by have := q.1.1; rw [z] at this; exact absurd this (by decide))
    rw [decide_eq_true w3, if_neg f1, n0, if_pos f0, n1, if_pos f0, n2, if_pos f0, n4, n5]
    obtain ⟨r, l', h', m', g1, g2, g3⟩ := one 11 4 1 (by decide) (by decide) (by decide) tab_lower
    have g1' : bnd_ (f_MOD_fill_named low high mn nm 8 10) _ = _ := g1
    rw [g1']
    exact pick 11 (fun b => if b2i b = 0 then (if b2i false = 0 then (if b2i false = 0 then some 0 else some 13) else some 12) else some 11) r l' h' m' r3 (by decide) (by decide) g3 ⟨fun q => (b3.mp q).2, fun q => b3.mpr ⟨w3, q⟩⟩ g2 rfl rfl
  rw [decide_eq_false w3, if_pos f0]
  have n3 : r3 = false := no b3 (fun q => w3 q.1)
  by_cases w4 : W5 N B k 112 117 110 99 116
  · have z : bt N B k = 112 := w4.1
    have n0 : r0 = false := no b0 (fun q => by have := q.1.1; rw [z] at this; exact absurd this (by decide))
    have n5 : r5 = false := no b5 (fun q => by have := q.1.1; rw [z] at this; exact absurd this (by decide))
    rw [decide_eq_true w4, if_neg f1, n0, if_pos f0, n1, if_pos f0, n2, if_pos f0, n3, if_pos f0, n5]
    obtain ⟨r, l', h', m', g1, g2, g3⟩ := one 12 5 4 (by decide) (by decide) (by decide) tab_punct
    have g1' : bnd_ (f_MOD_fill_named low high mn nm 10 18) _ = _ := g1
    rw [g1']
    exact pick 12 (fun b => if b2i b = 0 then (if b2i false = 0 then some 0 else some 13) else some 12) r l' h' m' r4 (by decide) (by decide) g3 ⟨fun q => (b4.mp q).2, fun q => b4.mpr ⟨w4, q⟩⟩ g2 rfl rfl
  rw [decide_eq_false w4, if_pos f0]
  have n4 : r4 = false := no b4 (fun q => w4 q.1)
  by_cases w5 : W5 N B k 115 112 97 99 101
  · have z : bt N B k = 115 := w5.1
    have n0 : r0 = false := no b0 (fun q => by have := q.1.1; rw [z] at this; exact absurd this (by decide))
    rw [decide_eq_true w5, if_neg f1, n0, if_pos f0, n1, if_pos f0, n2, if_pos f0, n3, if_pos f0, n4, if_pos f0]
    obtain ⟨r, l', h', m', g1, g2, g3⟩ := one 13 9 2 (by decide) (by decide) (by decide) tab_space
    have g1' : bnd_ (f_MOD_fill_named low high mn nm 18 22) _ = _ := g1
    rw [g1']
    exact pick 13 (fun b => if b2i b = 0 then some 0 else some 13) r l' h' m' r5 (by decide) (by decide) g3 ⟨fun q => (b5.mp q).2, fun q => b5.mpr ⟨w5, q⟩⟩ g2 rfl rfl
  rw [decide_eq_false w5, if_pos f0]
  have n5 : r5 = false := no b5 (fun q => w5 q.1)
  by_cases w0 : W5 N B k 100 105 103 105 116
  · rw [decide_eq_true w0, if_neg f1, n1, n2, n3, n4, n5]
    obtain ⟨r, l', h', m', g1, g2, g3⟩ := one 2 0 1 (by decide) (by decide) (by decide) tab_digit
    have g1' : bnd_ (f_MOD_fill_named low high mn nm 0 2) _ = _ := g1
    rw [g1']
    exact pick 2 (fun b => if b2i b = 0 then (if b2i false = 0 then (if b2i false = 0 then (if b2i false = 0 then (if b2i false = 0 then (if b2i false = 0 then some 0 else some 13) else some 12) else some 11) else some 10) else some 9) else some 2) r l' h' m' r0 (by decide) (by decide) g3 ⟨fun q => (b0.mp q).2, fun q => b0.mpr ⟨w0, q⟩⟩ g2 rfl rfl
  · have n0 : r0 = false := no b0 (fun q => w0 q.1)
    rw [decide_eq_false w0, if_pos f0, n0, n1, n2, n3, n4, n5]
    exact Or.inl ⟨rfl, _, _, _, _, _, rfl, hM⟩

set_option maxRecDepth 100000
set_option linter.unusedVariables false
-- where the ranges of a set begin
theorem begin_of {ys : PL} (hc : canL ys) {z : Int} (h1 : memL ys z) (h2 : ¬ memL ys (z - 1)) : ∃ p ∈ ys, p.1 = z := by
  obtain ⟨p, hp, a, b⟩ := h1
  refine ⟨p, hp, ?_⟩
  apply Classical.byContradiction
  intro q
  exact h2 ⟨p, hp, by omega, by omega⟩
theorem begin_union {xs ys zs : PL} (hx : canL xs) (hy : canL ys) (hz : canL zs) (hm : ∀ z, memL zs z ↔ memL xs z ∨ memL ys z) {p : Int × Int} (hp : p ∈ zs) : (∃ q ∈ xs, q.1 = p.1) ∨ ∃ q ∈ ys, q.1 = p.1 := by
  obtain ⟨m1, m2⟩ := can_begin hz hp
  have n1 : ¬ memL xs (p.1 - 1) := fun q => m2 ((hm _).mpr (Or.inl q))
  have n2 : ¬ memL ys (p.1 - 1) := fun q => m2 ((hm _).mpr (Or.inr q))
  rcases (hm _).mp m1 with q | q
  · exact Or.inl (begin_of hx q n1)
  · exact Or.inr (begin_of hy q n2)
def inC (z : Int) : Prop := (0 ≤ z ∧ z ≤ 254) ∨ z = 383 ∨ z = 688 ∨ z = 880 ∨ (913 ≤ z ∧ z ≤ 1119) ∨ z = 1280 ∨ z = 8490 ∨ z = 8491
def catsS (D : List Int) : List (Int × Int) := [(0, 254), (383, 383), (688, 688), (880, 880), (913, 1119), (1280, 1280), (8490, 8491)] ++ D.map (fun d => (d, d))
/-- the ranges begin at known places or at those of D -/
def Beg (D : List Int) (xs : PL) : Prop := ∀ p ∈ xs, inC p.1 ∨ p.1 ∈ D
theorem beg_len {D : List Int} {xs : PL} (hc : canL xs) (h : Beg D xs) : xs.length ≤ 237 + D.length := by
  have h1 := len_cats xs (catsS D) (by
    intro p hp
    rcases h p hp with q | q
    · unfold inC at q
      rcases q with q | q | q | q | q | q | q | q
      · exact ⟨(0, 254), by simp [catsS], q⟩
      · exact ⟨(383, 383), by simp [catsS], by simp only; omega⟩
      · exact ⟨(688, 688), by simp [catsS], by simp only; omega⟩
      · exact ⟨(880, 880), by simp [catsS], by simp only; omega⟩
      · exact ⟨(913, 1119), by simp [catsS], q⟩
      · exact ⟨(1280, 1280), by simp [catsS], by simp only; omega⟩
      · exact ⟨(8490, 8491), by simp [catsS], by simp only; omega⟩
      · exact ⟨(8490, 8491), by simp [catsS], by simp only; omega⟩
    · exact ⟨(p.1, p.1), List.mem_append_right _ (List.mem_map.mpr ⟨p.1, q, rfl⟩), Int.le_refl _, Int.le_refl _⟩)
  have h2 : ((D.map (fun d => (d, d))).map (fun c : Int × Int => nb c.1 c.2 xs)).sum ≤ D.length := by
    clear h h1
    induction D with
    | nil => simp
    | cons d D ih =>
      simp only [List.map_cons, List.sum_cons, List.length_cons]
      have := nb_le (lo := d) (hi := d) (by omega) xs hc
      omega
  simp only [catsS, List.map_append, List.map_cons, List.map_nil, List.sum_append, List.sum_cons, List.sum_nil] at h1
  have a1 := nb_le (lo := 0) (hi := 254) (by decide) xs hc
  have a2 := nb_le (lo := 383) (hi := 383) (by decide) xs hc
  have a3 := nb_le (lo := 688) (hi := 688) (by decide) xs hc
  have a4 := nb_le (lo := 880) (hi := 880) (by decide) xs hc
  have a5 := nb_le (lo := 913) (hi := 1119) (by decide) xs hc
  have a6 := nb_le (lo := 1280) (hi := 1280) (by decide) xs hc
  have a7 := nb_le (lo := 8490) (hi := 8491) (by decide) xs hc
  omega
theorem beg_union {D : List Int} {xs ys zs : PL} (hx : canL xs) (hy : canL ys) (hz : canL zs) (hm : ∀ z, memL zs z ↔ memL xs z ∨ memL ys z) (h1 : Beg D xs) (h2 : Beg D ys) : Beg D zs := by
  intro p hp
  rcases begin_union hx hy hz hm hp with ⟨q, q1, q2⟩ | ⟨q, q1, q2⟩
  · rw [← q2]; exact h1 q q1
  · rw [← q2]; exact h2 q q1
/-- of a closure: its first character, or known places -/
theorem beg_AL {a b : Int} (hab : a ≤ b) {ys : PL} (hc : canL ys) (h : ∀ z, memL ys z ↔ AL a b z) : ∀ p ∈ ys, p.1 = a ∨ inC p.1 := by
  intro p hp
  obtain ⟨m1, m2⟩ := can_begin hc hp
  obtain ⟨y, y1, y2, y3⟩ := (h _).mp m1
  by_cases e : y = p.1
  · left
    apply Classical.byContradiction
    intro q
    exact m2 ((h _).mpr ⟨p.1 - 1, by omega, by omega, rfl⟩)
  · right
    unfold inC
    rcases rep_dom y3 e with q | q | q | q | q | q | q <;> omega
theorem sp_beg : ∀ s, s < 14 → ∀ o : Bool, ∀ p ∈ (if o then compl 0 (sp s) else sp s), (0 ≤ p.1 ∧ p.1 ≤ 254) ∨ p.1 = 688 ∨ p.1 = 880 ∨ p.1 = 1024 ∨ p.1 = 1280 := by decide
theorem sp_can : ∀ s, s < 14 → (sp s).length ≤ 9 ∧ (sp s).all (fun p => decide (0 ≤ p.1 ∧ p.1 ≤ p.2 ∧ p.2 ≤ 1279)) = true := by decide
theorem canL_dec : ∀ s, s < 14 → canL (sp s) := by
  intro s hs
  rcases (show s = 0 ∨ s = 1 ∨ s = 2 ∨ s = 3 ∨ s = 4 ∨ s = 5 ∨ s = 6 ∨ s = 7 ∨ s = 8 ∨ s = 9 ∨ s = 10 ∨ s = 11 ∨ s = 12 ∨ s = 13 by omega) with rfl | rfl | rfl | rfl | rfl | rfl | rfl | rfl | rfl | rfl | rfl | rfl | rfl | rfl <;> simp [sp, spF, stN, stL, pF, stF, canL] <;> decide
theorem sp_okL (s : Nat) (hs : s < 14) : okL (sp s) := by
  intro p hp
  have := List.all_eq_true.mp (sp_can s hs).2 p hp
  have := of_decide_eq_true this
  omega
-- keep parts at most one range
theorem keepL_len1 : ∀ (xs : PL), canL xs → (keepL xs).length ≤ xs.length + 1 ∧ (abv 55295 xs → (keepL xs).length ≤ xs.length) := by
  intro xs
  induction xs with
  | nil => intro _; exact ⟨Nat.zero_le _, fun _ => Nat.le_refl _⟩
  | cons p t ih =>
    intro hc
    obtain ⟨x, y⟩ := p
    obtain ⟨c1, c2, c3⟩ := canL_tail hc
    simp only at c2 c3
    obtain ⟨i1, i2⟩ := ih c1
    rw [keepL, List.length_append]
    simp only [List.length_cons]
    have k2 : (keep1 (x, y)).length ≤ 2 := by
      unfold keep1
      by_cases a : x < 55296 <;> by_cases b : 57343 < y <;> simp [a, b]
    have k1 : ¬ x < 55296 → (keep1 (x, y)).length ≤ 1 := by
      intro a
      unfold keep1
      by_cases b : 57343 < y <;> simp [a, b]
    have k3 : ¬ 57343 < y → (keep1 (x, y)).length ≤ 1 := by
      intro a
      unfold keep1
      by_cases b : x < 55296 <;> simp [a, b]
    constructor
    · by_cases a : 57343 < y
      · have := i2 (fun w hw => by have := c3 w hw; omega)
        omega
      · have := k3 a; omega
    · intro h
      have hx := h (x, y) List.mem_cons_self
      simp only at hx
      have := k1 (by omega)
      have := i2 (fun w hw => by have := c3 w hw; omega)
      omega
-- how many ranges a closure has
theorem al_len1 {c : Int} {ys : PL} (hc : canL ys) (h : ∀ z, memL ys z ↔ AL c c z) : (c < 128 → ys.length ≤ 4) ∧ ys.length ≤ 8 := by
  have hb : ∀ p ∈ ys, rep p.1 = rep c := by
    intro p hp
    obtain ⟨m1, _⟩ := can_begin hc hp
    obtain ⟨y, y1, y2, y3⟩ := (h _).mp m1
    rw [← y3, show y = c by omega]
  constructor
  · intro hc0
    have h1 := len_cats ys [(rep c, rep c), (rep c + 32, rep c + 32), (383, 383), (8490, 8490)] (by
      intro p hp
      have e := hb p hp
      have : p.1 = rep c ∨ p.1 = rep c + 32 ∨ p.1 = 383 ∨ p.1 = 8490 := by
        rcases rep_val p.1 with q | q | q | q | q | q | q | q | q | q | q | q <;> rcases rep_val c with r | r | r | r | r | r | r | r | r | r | r | r <;> omega
      rcases this with q | q | q | q
      · exact ⟨(rep c, rep c), by simp, by simp only; omega⟩
      · exact ⟨(rep c + 32, rep c + 32), by simp, by simp only; omega⟩
      · exact ⟨(383, 383), by simp, by simp only; omega⟩
      · exact ⟨(8490, 8490), by simp, by simp only; omega⟩)
    simp only [List.map_cons, List.map_nil, List.sum_cons, List.sum_nil] at h1
    have a1 := nb_le (lo := rep c) (hi := rep c) (by omega) ys hc
    have a2 := nb_le (lo := rep c + 32) (hi := rep c + 32) (by omega) ys hc
    have a3 := nb_le (lo := 383) (hi := 383) (by decide) ys hc
    have a4 := nb_le (lo := 8490) (hi := 8490) (by decide) ys hc
    omega
  · have h1 := len_cats ys [(rep c, rep c), (rep c + 32, rep c + 32), (rep c + 80, rep c + 80), (383, 383), (8490, 8491), (181, 181), (931, 931), (962, 963)] (by
      intro p hp
      have e := hb p hp
      have : p.1 = rep c ∨ p.1 = rep c + 32 ∨ p.1 = rep c + 80 ∨ p.1 = 383 ∨ (8490 ≤ p.1 ∧ p.1 ≤ 8491) ∨ p.1 = 181 ∨ p.1 = 931 ∨ (962 ≤ p.1 ∧ p.1 ≤ 963) := by
        rcases rep_val p.1 with q | q | q | q | q | q | q | q | q | q | q | q <;> omega
      rcases this with q | q | q | q | q | q | q | q
      · exact ⟨(rep c, rep c), by simp, by simp only; omega⟩
      · exact ⟨(rep c + 32, rep c + 32), by simp, by simp only; omega⟩
      · exact ⟨(rep c + 80, rep c + 80), by simp, by simp only; omega⟩
      · exact ⟨(383, 383), by simp, by simp only; omega⟩
      · exact ⟨(8490, 8491), by simp, q⟩
      · exact ⟨(181, 181), by simp, by simp only; omega⟩
      · exact ⟨(931, 931), by simp, by simp only; omega⟩
      · exact ⟨(962, 963), by simp, q⟩)
    simp only [List.map_cons, List.map_nil, List.sum_cons, List.sum_nil] at h1
    have a1 := nb_le (lo := rep c) (hi := rep c) (by omega) ys hc
    have a2 := nb_le (lo := rep c + 32) (hi := rep c + 32) (by omega) ys hc
    have a3 := nb_le (lo := rep c + 80) (hi := rep c + 80) (by omega) ys hc
    have a4 := nb_le (lo := 383) (hi := 383) (by decide) ys hc
    have a5 := nb_le (lo := 8490) (hi := 8491) (by decide) ys hc
    have a6 := nb_le (lo := 181) (hi := 181) (by decide) ys hc
    have a7 := nb_le (lo := 931) (hi := 931) (by decide) ys hc
    have a8 := nb_le (lo := 962) (hi := 963) (by decide) ys hc
    omega

set_option maxRecDepth 100000
set_option linter.unusedVariables false
/-- (from, to, shift) of the twelve rows -/
def rows12 : List (Int × Int × Int) := [(65, 90, 32), (97, 122, -32), (192, 214, 32), (224, 246, -32), (216, 222, 32), (248, 254, -32), (913, 937, 32), (945, 969, -32), (1040, 1071, 32), (1072, 1103, -32), (1024, 1039, 80), (1104, 1119, -80)]
theorem mate_rows {y z : Int} (h : mate y z) : ∃ r ∈ rows12, r.1 ≤ y ∧ y ≤ r.2.1 ∧ z = y + r.2.2 := by
  unfold mate at h
  rcases h with h | h | h | h | h | h | h | h | h | h | h | h
  · exact ⟨(65, 90, 32), by simp [rows12], h.1, h.2.1, h.2.2⟩
  · exact ⟨(97, 122, -32), by simp [rows12], h.1, h.2.1, (by simp only; omega)⟩
  · exact ⟨(192, 214, 32), by simp [rows12], h.1, h.2.1, h.2.2⟩
  · exact ⟨(224, 246, -32), by simp [rows12], h.1, h.2.1, (by simp only; omega)⟩
  · exact ⟨(216, 222, 32), by simp [rows12], h.1, h.2.1, h.2.2⟩
  · exact ⟨(248, 254, -32), by simp [rows12], h.1, h.2.1, (by simp only; omega)⟩
  · exact ⟨(913, 937, 32), by simp [rows12], h.1, h.2.1, h.2.2⟩
  · exact ⟨(945, 969, -32), by simp [rows12], h.1, h.2.1, (by simp only; omega)⟩
  · exact ⟨(1040, 1071, 32), by simp [rows12], h.1, h.2.1, h.2.2⟩
  · exact ⟨(1072, 1103, -32), by simp [rows12], h.1, h.2.1, (by simp only; omega)⟩
  · exact ⟨(1024, 1039, 80), by simp [rows12], h.1, h.2.1, h.2.2⟩
  · exact ⟨(1104, 1119, -80), by simp [rows12], h.1, h.2.1, (by simp only; omega)⟩
theorem rows_mate {r : Int × Int × Int} (hr : r ∈ rows12) {y : Int} (h1 : r.1 ≤ y) (h2 : y ≤ r.2.1) : rep y = rep (y + r.2.2) := by
  simp only [rows12, List.mem_cons, List.not_mem_nil, or_false] at hr
  rcases hr with rfl | rfl | rfl | rfl | rfl | rfl | rfl | rfl | rfl | rfl | rfl | rfl
  · exact rep_mate (Or.inl (⟨h1, h2, rfl⟩))
  · exact rep_mate (Or.inr (Or.inl (⟨h1, h2, (show y + (-32) = y - 32 by omega)⟩)))
  · exact rep_mate (Or.inr (Or.inr (Or.inl (⟨h1, h2, rfl⟩))))
  · exact rep_mate (Or.inr (Or.inr (Or.inr (Or.inl (⟨h1, h2, (show y + (-32) = y - 32 by omega)⟩)))))
  · exact rep_mate (Or.inr (Or.inr (Or.inr (Or.inr (Or.inl (⟨h1, h2, rfl⟩))))))
  · exact rep_mate (Or.inr (Or.inr (Or.inr (Or.inr (Or.inr (Or.inl (⟨h1, h2, (show y + (-32) = y - 32 by omega)⟩)))))))
  · exact rep_mate (Or.inr (Or.inr (Or.inr (Or.inr (Or.inr (Or.inr (Or.inl (⟨h1, h2, rfl⟩))))))))
  · exact rep_mate (Or.inr (Or.inr (Or.inr (Or.inr (Or.inr (Or.inr (Or.inr (Or.inl (⟨h1, h2, (show y + (-32) = y - 32 by omega)⟩)))))))))
  · exact rep_mate (Or.inr (Or.inr (Or.inr (Or.inr (Or.inr (Or.inr (Or.inr (Or.inr (Or.inl (⟨h1, h2, rfl⟩))))))))))
  · exact rep_mate (Or.inr (Or.inr (Or.inr (Or.inr (Or.inr (Or.inr (Or.inr (Or.inr (Or.inr (Or.inl (⟨h1, h2, (show y + (-32) = y - 32 by omega)⟩)))))))))))
  · exact rep_mate (Or.inr (Or.inr (Or.inr (Or.inr (Or.inr (Or.inr (Or.inr (Or.inr (Or.inr (Or.inr (Or.inl (⟨h1, h2, rfl⟩))))))))))))
  · exact rep_mate (Or.inr (Or.inr (Or.inr (Or.inr (Or.inr (Or.inr (Or.inr (Or.inr (Or.inr (Or.inr (Or.inr ((⟨h1, h2, (show y + (-80) = y - 80 by omega)⟩)))))))))))))
theorem begin_cand {a b : Int} {ys : PL} (hc : canL ys) (h : ∀ z, memL ys z ↔ AL a b z) {p : Int × Int} (hp : p ∈ ys) (hne : p.1 ≠ a) :
    (p.1 < a ∨ b < p.1) ∧ p.1 ≠ 931 ∧ p.1 ≠ 963 ∧
    ((∃ r ∈ rows12, p.1 = r.1 + r.2.2 ∧ a ≤ r.1 ∧ r.1 ≤ b) ∨ (∃ r ∈ rows12, r.1 ≤ a ∧ a ≤ r.2.1 ∧ p.1 = a + r.2.2) ∨ ∃ y, a ≤ y ∧ y ≤ b ∧ y ≠ p.1 ∧ kin y p.1) := by
  obtain ⟨m1, m2⟩ := can_begin hc hp
  have n2 : ¬ AL a b (p.1 - 1) := fun q => m2 ((h _).mpr q)
  have hout : p.1 < a ∨ b < p.1 := by
    apply Classical.byContradiction
    intro q
    exact n2 ⟨p.1 - 1, by omega, by omega, rfl⟩
  obtain ⟨y, y1, y2, y3⟩ := (h _).mp m1
  have hyne : y ≠ p.1 := by omega
  refine ⟨hout, ?_, ?_, ?_⟩
  · intro q
    refine n2 ⟨y, y1, y2, ?_⟩
    rw [y3, q]; decide
  · intro q
    refine n2 ⟨y, y1, y2, ?_⟩
    rw [y3, q]; decide
  · rcases rep_cases y3 with u | u | u
    · exact absurd u hyne
    · obtain ⟨r, hr, r1, r2, r3⟩ := mate_rows u
      by_cases e : y = r.1
      · exact Or.inl ⟨r, hr, by rw [r3, e], by omega, by omega⟩
      · by_cases e2 : y = a
        · exact Or.inr (Or.inl ⟨r, hr, by omega, by omega, by rw [r3, e2]⟩)
        · exfalso
          refine n2 ⟨y - 1, by omega, by omega, ?_⟩
          rw [rows_mate hr (show r.1 ≤ y - 1 by omega) (by omega), r3]
          congr 1; omega
    · exact Or.inr (Or.inr ⟨y, y1, y2, hyne, u⟩)
/-- ranges that begin elsewhere than at a -/
def oth (a : Int) (ys : PL) : PL := ys.filter (fun p => !decide (p.1 = a))
theorem oth_len {a : Int} {ys : PL} (hc : canL ys) : ys.length ≤ (oth a ys).length + 1 := by
  have h1 : ∀ zs : PL, zs.length = (oth a zs).length + nb a a zs := by
    intro zs
    induction zs with
    | nil => rfl
    | cons p t ih =>
      unfold oth nb at ih ⊢
      rw [List.countP_cons, List.length_cons]
      by_cases e : p.1 = a
      · have q : a ≤ p.1 ∧ p.1 ≤ a := ⟨by omega, by omega⟩
        rw [List.filter_cons_of_neg (by simp [e]), if_pos (decide_eq_true q), ih]; omega
      · have q : ¬ (a ≤ p.1 ∧ p.1 ≤ a) := by omega
        rw [List.filter_cons_of_pos (by simp [e]), if_neg (by rw [decide_eq_false q]; decide), List.length_cons, ih]; omega
  have h2 := nb_le (lo := a) (hi := a) (by omega) ys hc
  have := h1 ys
  omega
theorem oth_nb {a : Int} {ys : PL} (hc : canL ys) (c : Int) : nb c c (oth a ys) ≤ 1 ∧ (nb c c (oth a ys) ≠ 0 → ∃ p ∈ ys, p.1 = c ∧ p.1 ≠ a) := by
  constructor
  · have h1 : nb c c (oth a ys) ≤ nb c c ys := List.Sublist.countP_le List.filter_sublist
    have h2 := nb_le (lo := c) (hi := c) (by omega) ys hc
    omega
  · intro h
    have h0 : 0 < (oth a ys).countP (fun p => decide (c ≤ p.1 ∧ p.1 ≤ c)) := Nat.pos_of_ne_zero h
    obtain ⟨p, hp, h2⟩ := List.countP_pos_iff.mp h0
    have h3 := of_decide_eq_true h2
    have h4 := List.mem_filter.mp hp
    refine ⟨p, h4.1, by omega, ?_⟩
    have := h4.2
    simpa using this
theorem al_lenS {a b : Int} (hab : a ≤ b) (hb : b < 128) {ys : PL} (hc : canL ys) (h : ∀ z, memL ys z ↔ AL a b z) : ys.length ≤ 12 := by
  have h1 := len_cats (oth a ys) [(97, 97), (65, 65), (a + 32, a + 32), (a - 32, a - 32), (8490, 8490), (383, 383)] (by
    intro p hp
    have h4 := List.mem_filter.mp hp
    have hne : p.1 ≠ a := by simpa using h4.2
    obtain ⟨c1, c2, c3, c4⟩ := begin_cand hc h h4.1 hne
    have : p.1 = 97 ∨ p.1 = 65 ∨ p.1 = a + 32 ∨ p.1 = a - 32 ∨ p.1 = 8490 ∨ p.1 = 383 := by
      rcases c4 with ⟨r, hr, r1, r2, r3⟩ | ⟨r, hr, r1, r2, r3⟩ | ⟨y, y1, y2, y3, y4⟩
      · simp only [rows12, List.mem_cons, List.not_mem_nil, or_false] at hr
        rcases hr with rfl | rfl | rfl | rfl | rfl | rfl | rfl | rfl | rfl | rfl | rfl | rfl <;> simp only at r1 r2 r3 <;> omega
      · simp only [rows12, List.mem_cons, List.not_mem_nil, or_false] at hr
        rcases hr with rfl | rfl | rfl | rfl | rfl | rfl | rfl | rfl | rfl | rfl | rfl | rfl <;> simp only at r1 r2 r3 <;> omega
      · -- a kin below 128 is a mate too
        have hk : (p.1 = 8490 ∨ p.1 = 383) ∨ mate y p.1 := by
          rcases y4 with ⟨u | u | u, v | v | v⟩ | ⟨u | u | u, v | v | v⟩ | ⟨u | u | u, v | v | v⟩ | ⟨u | u | u, v | v | v⟩ | ⟨u | u | u | u, v | v | v | v⟩ <;> first | (exfalso; omega) | exact Or.inl (Or.inl v) | exact Or.inl (Or.inr v) | exact Or.inr (Or.inl ⟨by omega, by omega, by omega⟩) | exact Or.inr (Or.inr (Or.inl ⟨by omega, by omega, by omega⟩))
        rcases hk with q | q
        · omega
        · obtain ⟨m1, m2⟩ := can_begin hc h4.1
          have n2 : ¬ AL a b (p.1 - 1) := fun q => m2 ((h _).mpr q)
          obtain ⟨r, hr, r1, r2, r3⟩ := mate_rows q
          by_cases e : y = r.1
          · simp only [rows12, List.mem_cons, List.not_mem_nil, or_false] at hr
            rcases hr with rfl | rfl | rfl | rfl | rfl | rfl | rfl | rfl | rfl | rfl | rfl | rfl <;> simp only at r1 r2 r3 e <;> omega
          · by_cases e2 : y = a
            · simp only [rows12, List.mem_cons, List.not_mem_nil, or_false] at hr
              rcases hr with rfl | rfl | rfl | rfl | rfl | rfl | rfl | rfl | rfl | rfl | rfl | rfl <;> simp only at r1 r2 r3 e <;> omega
            · exfalso
              refine n2 ⟨y - 1, by omega, by omega, ?_⟩
              rw [rows_mate hr (show r.1 ≤ y - 1 by omega) (by omega), r3]
              congr 1; omega
    rcases this with q | q | q | q | q | q
    · exact ⟨(97, 97), by simp, by simp only; omega⟩
    · exact ⟨(65, 65), by simp, by simp only; omega⟩
    · exact ⟨(a + 32, a + 32), by simp, by simp only; omega⟩
    · exact ⟨(a - 32, a - 32), by simp, by simp only; omega⟩
    · exact ⟨(8490, 8490), by simp, by simp only; omega⟩
    · exact ⟨(383, 383), by simp, by simp only; omega⟩)
  simp only [List.map_cons, List.map_nil, List.sum_cons, List.sum_nil] at h1
  have a1 := (oth_nb (a := a) hc 97).1
  have a2 := (oth_nb (a := a) hc 65).1
  have a3 := (oth_nb (a := a) hc (a + 32)).1
  have a4 := (oth_nb (a := a) hc (a - 32)).1
  have a5 := (oth_nb (a := a) hc 8490).1
  have a6 := (oth_nb (a := a) hc 383).1
  have := oth_len (a := a) hc
  omega

set_option maxRecDepth 100000
set_option linter.unusedVariables false
def ashF (a : Int) : Int := if (65 ≤ a ∧ a ≤ 90) ∨ (192 ≤ a ∧ a ≤ 214) ∨ (216 ≤ a ∧ a ≤ 222) ∨ (913 ≤ a ∧ a ≤ 937) ∨ (1040 ≤ a ∧ a ≤ 1071) then a + 32 else if (97 ≤ a ∧ a ≤ 122) ∨ (224 ≤ a ∧ a ≤ 246) ∨ (248 ≤ a ∧ a ≤ 254) ∨ (945 ≤ a ∧ a ≤ 969) ∨ (1072 ≤ a ∧ a ≤ 1103) then a - 32 else if 1024 ≤ a ∧ a ≤ 1039 then a + 80 else a - 80
theorem ash_row {a x : Int} (h : ∃ r ∈ rows12, r.1 ≤ a ∧ a ≤ r.2.1 ∧ x = a + r.2.2) : x = ashF a := by
  obtain ⟨r, hr, h1, h2, h3⟩ := h
  simp only [rows12, List.mem_cons, List.not_mem_nil, or_false] at hr
  unfold ashF
  rcases hr with rfl | rfl | rfl | rfl | rfl | rfl | rfl | rfl | rfl | rfl | rfl | rfl <;> simp only at h1 h2 h3 <;> (split <;> (try split) <;> (try split) <;> omega)
theorem cand_c {a b : Int} {ys : PL} (hc : canL ys) (h : ∀ z, memL ys z ↔ AL a b z) (c : Int) : nb c c (oth a ys) = 0 ∨ (nb c c (oth a ys) = 1 ∧ (c < a ∨ b < c) ∧ ∃ y, a ≤ y ∧ y ≤ b ∧ y ≠ c ∧ rep y = rep c) := by
  obtain ⟨n1, n2⟩ := oth_nb (a := a) hc c
  rcases Nat.eq_zero_or_pos (nb c c (oth a ys)) with q | q
  · exact Or.inl q
  · right
    obtain ⟨p, hp, e1, e2⟩ := n2 (by omega)
    obtain ⟨c1, -, -, -⟩ := begin_cand hc h hp e2
    obtain ⟨m1, -⟩ := can_begin hc hp
    obtain ⟨y, y1, y2, y3⟩ := (h _).mp m1
    rw [e1] at c1 y3
    exact ⟨by omega, c1, y, y1, y2, by omega, y3⟩
theorem cand_97 {a b : Int} {ys : PL} (hc : canL ys) (h : ∀ z, memL ys z ↔ AL a b z) : nb 97 97 (oth a ys) = 0 ∨ (nb 97 97 (oth a ys) = 1 ∧ (97 < a ∨ b < 97) ∧ (a ≤ 65 ∧ 65 ≤ b)) := by
  rcases cand_c hc h 97 with q | ⟨q1, q2, y, y1, y2, y3, y4⟩
  · exact Or.inl q
  · have e : rep 97 = 65 := by decide
    rw [e] at y4
    refine Or.inr ⟨q1, q2, ?_⟩
    rcases rep_val y with r | r | r | r | r | r | r | r | r | r | r | r <;> omega
theorem cand_65 {a b : Int} {ys : PL} (hc : canL ys) (h : ∀ z, memL ys z ↔ AL a b z) : nb 65 65 (oth a ys) = 0 ∨ (nb 65 65 (oth a ys) = 1 ∧ (65 < a ∨ b < 65) ∧ (a ≤ 97 ∧ 97 ≤ b)) := by
  rcases cand_c hc h 65 with q | ⟨q1, q2, y, y1, y2, y3, y4⟩
  · exact Or.inl q
  · have e : rep 65 = 65 := by decide
    rw [e] at y4
    refine Or.inr ⟨q1, q2, ?_⟩
    rcases rep_val y with r | r | r | r | r | r | r | r | r | r | r | r <;> omega
theorem cand_224 {a b : Int} {ys : PL} (hc : canL ys) (h : ∀ z, memL ys z ↔ AL a b z) : nb 224 224 (oth a ys) = 0 ∨ (nb 224 224 (oth a ys) = 1 ∧ (224 < a ∨ b < 224) ∧ (a ≤ 192 ∧ 192 ≤ b)) := by
  rcases cand_c hc h 224 with q | ⟨q1, q2, y, y1, y2, y3, y4⟩
  · exact Or.inl q
  · have e : rep 224 = 192 := by decide
    rw [e] at y4
    refine Or.inr ⟨q1, q2, ?_⟩
    rcases rep_val y with r | r | r | r | r | r | r | r | r | r | r | r <;> omega
theorem cand_192 {a b : Int} {ys : PL} (hc : canL ys) (h : ∀ z, memL ys z ↔ AL a b z) : nb 192 192 (oth a ys) = 0 ∨ (nb 192 192 (oth a ys) = 1 ∧ (192 < a ∨ b < 192) ∧ (a ≤ 224 ∧ 224 ≤ b)) := by
  rcases cand_c hc h 192 with q | ⟨q1, q2, y, y1, y2, y3, y4⟩
  · exact Or.inl q
  · have e : rep 192 = 192 := by decide
    rw [e] at y4
    refine Or.inr ⟨q1, q2, ?_⟩
    rcases rep_val y with r | r | r | r | r | r | r | r | r | r | r | r <;> omega
theorem cand_248 {a b : Int} {ys : PL} (hc : canL ys) (h : ∀ z, memL ys z ↔ AL a b z) : nb 248 248 (oth a ys) = 0 ∨ (nb 248 248 (oth a ys) = 1 ∧ (248 < a ∨ b < 248) ∧ (a ≤ 216 ∧ 216 ≤ b)) := by
  rcases cand_c hc h 248 with q | ⟨q1, q2, y, y1, y2, y3, y4⟩
  · exact Or.inl q
  · have e : rep 248 = 216 := by decide
    rw [e] at y4
    refine Or.inr ⟨q1, q2, ?_⟩
    rcases rep_val y with r | r | r | r | r | r | r | r | r | r | r | r <;> omega
theorem cand_216 {a b : Int} {ys : PL} (hc : canL ys) (h : ∀ z, memL ys z ↔ AL a b z) : nb 216 216 (oth a ys) = 0 ∨ (nb 216 216 (oth a ys) = 1 ∧ (216 < a ∨ b < 216) ∧ (a ≤ 248 ∧ 248 ≤ b)) := by
  rcases cand_c hc h 216 with q | ⟨q1, q2, y, y1, y2, y3, y4⟩
  · exact Or.inl q
  · have e : rep 216 = 216 := by decide
    rw [e] at y4
    refine Or.inr ⟨q1, q2, ?_⟩
    rcases rep_val y with r | r | r | r | r | r | r | r | r | r | r | r <;> omega
theorem cand_945 {a b : Int} {ys : PL} (hc : canL ys) (h : ∀ z, memL ys z ↔ AL a b z) : nb 945 945 (oth a ys) = 0 ∨ (nb 945 945 (oth a ys) = 1 ∧ (945 < a ∨ b < 945) ∧ (a ≤ 913 ∧ 913 ≤ b)) := by
  rcases cand_c hc h 945 with q | ⟨q1, q2, y, y1, y2, y3, y4⟩
  · exact Or.inl q
  · have e : rep 945 = 913 := by decide
    rw [e] at y4
    refine Or.inr ⟨q1, q2, ?_⟩
    rcases rep_val y with r | r | r | r | r | r | r | r | r | r | r | r <;> omega
theorem cand_913 {a b : Int} {ys : PL} (hc : canL ys) (h : ∀ z, memL ys z ↔ AL a b z) : nb 913 913 (oth a ys) = 0 ∨ (nb 913 913 (oth a ys) = 1 ∧ (913 < a ∨ b < 913) ∧ (a ≤ 945 ∧ 945 ≤ b)) := by
  rcases cand_c hc h 913 with q | ⟨q1, q2, y, y1, y2, y3, y4⟩
  · exact Or.inl q
  · have e : rep 913 = 913 := by decide
    rw [e] at y4
    refine Or.inr ⟨q1, q2, ?_⟩
    rcases rep_val y with r | r | r | r | r | r | r | r | r | r | r | r <;> omega
theorem cand_1072 {a b : Int} {ys : PL} (hc : canL ys) (h : ∀ z, memL ys z ↔ AL a b z) : nb 1072 1072 (oth a ys) = 0 ∨ (nb 1072 1072 (oth a ys) = 1 ∧ (1072 < a ∨ b < 1072) ∧ (a ≤ 1040 ∧ 1040 ≤ b)) := by
  rcases cand_c hc h 1072 with q | ⟨q1, q2, y, y1, y2, y3, y4⟩
  · exact Or.inl q
  · have e : rep 1072 = 1040 := by decide
    rw [e] at y4
    refine Or.inr ⟨q1, q2, ?_⟩
    rcases rep_val y with r | r | r | r | r | r | r | r | r | r | r | r <;> omega
theorem cand_1040 {a b : Int} {ys : PL} (hc : canL ys) (h : ∀ z, memL ys z ↔ AL a b z) : nb 1040 1040 (oth a ys) = 0 ∨ (nb 1040 1040 (oth a ys) = 1 ∧ (1040 < a ∨ b < 1040) ∧ (a ≤ 1072 ∧ 1072 ≤ b)) := by
  rcases cand_c hc h 1040 with q | ⟨q1, q2, y, y1, y2, y3, y4⟩
  · exact Or.inl q
  · have e : rep 1040 = 1040 := by decide
    rw [e] at y4
    refine Or.inr ⟨q1, q2, ?_⟩
    rcases rep_val y with r | r | r | r | r | r | r | r | r | r | r | r <;> omega
theorem cand_1104 {a b : Int} {ys : PL} (hc : canL ys) (h : ∀ z, memL ys z ↔ AL a b z) : nb 1104 1104 (oth a ys) = 0 ∨ (nb 1104 1104 (oth a ys) = 1 ∧ (1104 < a ∨ b < 1104) ∧ (a ≤ 1024 ∧ 1024 ≤ b)) := by
  rcases cand_c hc h 1104 with q | ⟨q1, q2, y, y1, y2, y3, y4⟩
  · exact Or.inl q
  · have e : rep 1104 = 1024 := by decide
    rw [e] at y4
    refine Or.inr ⟨q1, q2, ?_⟩
    rcases rep_val y with r | r | r | r | r | r | r | r | r | r | r | r <;> omega
theorem cand_1024 {a b : Int} {ys : PL} (hc : canL ys) (h : ∀ z, memL ys z ↔ AL a b z) : nb 1024 1024 (oth a ys) = 0 ∨ (nb 1024 1024 (oth a ys) = 1 ∧ (1024 < a ∨ b < 1024) ∧ (a ≤ 1104 ∧ 1104 ≤ b)) := by
  rcases cand_c hc h 1024 with q | ⟨q1, q2, y, y1, y2, y3, y4⟩
  · exact Or.inl q
  · have e : rep 1024 = 1024 := by decide
    rw [e] at y4
    refine Or.inr ⟨q1, q2, ?_⟩
    rcases rep_val y with r | r | r | r | r | r | r | r | r | r | r | r <;> omega
theorem cand_75 {a b : Int} {ys : PL} (hc : canL ys) (h : ∀ z, memL ys z ↔ AL a b z) : nb 75 75 (oth a ys) = 0 ∨ (nb 75 75 (oth a ys) = 1 ∧ (75 < a ∨ b < 75) ∧ ((a ≤ 107 ∧ 107 ≤ b) ∨ (a ≤ 8490 ∧ 8490 ≤ b))) := by
  rcases cand_c hc h 75 with q | ⟨q1, q2, y, y1, y2, y3, y4⟩
  · exact Or.inl q
  · have e : rep 75 = 75 := by decide
    rw [e] at y4
    refine Or.inr ⟨q1, q2, ?_⟩
    rcases rep_val y with r | r | r | r | r | r | r | r | r | r | r | r <;> omega
theorem cand_107 {a b : Int} {ys : PL} (hc : canL ys) (h : ∀ z, memL ys z ↔ AL a b z) : nb 107 107 (oth a ys) = 0 ∨ (nb 107 107 (oth a ys) = 1 ∧ (107 < a ∨ b < 107) ∧ ((a ≤ 75 ∧ 75 ≤ b) ∨ (a ≤ 8490 ∧ 8490 ≤ b))) := by
  rcases cand_c hc h 107 with q | ⟨q1, q2, y, y1, y2, y3, y4⟩
  · exact Or.inl q
  · have e : rep 107 = 75 := by decide
    rw [e] at y4
    refine Or.inr ⟨q1, q2, ?_⟩
    rcases rep_val y with r | r | r | r | r | r | r | r | r | r | r | r <;> omega
theorem cand_8490 {a b : Int} {ys : PL} (hc : canL ys) (h : ∀ z, memL ys z ↔ AL a b z) : nb 8490 8490 (oth a ys) = 0 ∨ (nb 8490 8490 (oth a ys) = 1 ∧ (8490 < a ∨ b < 8490) ∧ ((a ≤ 75 ∧ 75 ≤ b) ∨ (a ≤ 107 ∧ 107 ≤ b))) := by
  rcases cand_c hc h 8490 with q | ⟨q1, q2, y, y1, y2, y3, y4⟩
  · exact Or.inl q
  · have e : rep 8490 = 75 := by decide
    rw [e] at y4
    refine Or.inr ⟨q1, q2, ?_⟩
    rcases rep_val y with r | r | r | r | r | r | r | r | r | r | r | r <;> omega
theorem cand_83 {a b : Int} {ys : PL} (hc : canL ys) (h : ∀ z, memL ys z ↔ AL a b z) : nb 83 83 (oth a ys) = 0 ∨ (nb 83 83 (oth a ys) = 1 ∧ (83 < a ∨ b < 83) ∧ ((a ≤ 115 ∧ 115 ≤ b) ∨ (a ≤ 383 ∧ 383 ≤ b))) := by
  rcases cand_c hc h 83 with q | ⟨q1, q2, y, y1, y2, y3, y4⟩
  · exact Or.inl q
  · have e : rep 83 = 83 := by decide
    rw [e] at y4
    refine Or.inr ⟨q1, q2, ?_⟩
    rcases rep_val y with r | r | r | r | r | r | r | r | r | r | r | r <;> omega
theorem cand_115 {a b : Int} {ys : PL} (hc : canL ys) (h : ∀ z, memL ys z ↔ AL a b z) : nb 115 115 (oth a ys) = 0 ∨ (nb 115 115 (oth a ys) = 1 ∧ (115 < a ∨ b < 115) ∧ ((a ≤ 83 ∧ 83 ≤ b) ∨ (a ≤ 383 ∧ 383 ≤ b))) := by
  rcases cand_c hc h 115 with q | ⟨q1, q2, y, y1, y2, y3, y4⟩
  · exact Or.inl q
  · have e : rep 115 = 83 := by decide
    rw [e] at y4
    refine Or.inr ⟨q1, q2, ?_⟩
    rcases rep_val y with r | r | r | r | r | r | r | r | r | r | r | r <;> omega
theorem cand_383 {a b : Int} {ys : PL} (hc : canL ys) (h : ∀ z, memL ys z ↔ AL a b z) : nb 383 383 (oth a ys) = 0 ∨ (nb 383 383 (oth a ys) = 1 ∧ (383 < a ∨ b < 383) ∧ ((a ≤ 83 ∧ 83 ≤ b) ∨ (a ≤ 115 ∧ 115 ≤ b))) := by
  rcases cand_c hc h 383 with q | ⟨q1, q2, y, y1, y2, y3, y4⟩
  · exact Or.inl q
  · have e : rep 383 = 83 := by decide
    rw [e] at y4
    refine Or.inr ⟨q1, q2, ?_⟩
    rcases rep_val y with r | r | r | r | r | r | r | r | r | r | r | r <;> omega
theorem cand_197 {a b : Int} {ys : PL} (hc : canL ys) (h : ∀ z, memL ys z ↔ AL a b z) : nb 197 197 (oth a ys) = 0 ∨ (nb 197 197 (oth a ys) = 1 ∧ (197 < a ∨ b < 197) ∧ ((a ≤ 229 ∧ 229 ≤ b) ∨ (a ≤ 8491 ∧ 8491 ≤ b))) := by
  rcases cand_c hc h 197 with q | ⟨q1, q2, y, y1, y2, y3, y4⟩
  · exact Or.inl q
  · have e : rep 197 = 197 := by decide
    rw [e] at y4
    refine Or.inr ⟨q1, q2, ?_⟩
    rcases rep_val y with r | r | r | r | r | r | r | r | r | r | r | r <;> omega
theorem cand_229 {a b : Int} {ys : PL} (hc : canL ys) (h : ∀ z, memL ys z ↔ AL a b z) : nb 229 229 (oth a ys) = 0 ∨ (nb 229 229 (oth a ys) = 1 ∧ (229 < a ∨ b < 229) ∧ ((a ≤ 197 ∧ 197 ≤ b) ∨ (a ≤ 8491 ∧ 8491 ≤ b))) := by
  rcases cand_c hc h 229 with q | ⟨q1, q2, y, y1, y2, y3, y4⟩
  · exact Or.inl q
  · have e : rep 229 = 197 := by decide
    rw [e] at y4
    refine Or.inr ⟨q1, q2, ?_⟩
    rcases rep_val y with r | r | r | r | r | r | r | r | r | r | r | r <;> omega
theorem cand_8491 {a b : Int} {ys : PL} (hc : canL ys) (h : ∀ z, memL ys z ↔ AL a b z) : nb 8491 8491 (oth a ys) = 0 ∨ (nb 8491 8491 (oth a ys) = 1 ∧ (8491 < a ∨ b < 8491) ∧ ((a ≤ 197 ∧ 197 ≤ b) ∨ (a ≤ 229 ∧ 229 ≤ b))) := by
  rcases cand_c hc h 8491 with q | ⟨q1, q2, y, y1, y2, y3, y4⟩
  · exact Or.inl q
  · have e : rep 8491 = 197 := by decide
    rw [e] at y4
    refine Or.inr ⟨q1, q2, ?_⟩
    rcases rep_val y with r | r | r | r | r | r | r | r | r | r | r | r <;> omega
theorem cand_181 {a b : Int} {ys : PL} (hc : canL ys) (h : ∀ z, memL ys z ↔ AL a b z) : nb 181 181 (oth a ys) = 0 ∨ (nb 181 181 (oth a ys) = 1 ∧ (181 < a ∨ b < 181) ∧ ((a ≤ 924 ∧ 924 ≤ b) ∨ (a ≤ 956 ∧ 956 ≤ b))) := by
  rcases cand_c hc h 181 with q | ⟨q1, q2, y, y1, y2, y3, y4⟩
  · exact Or.inl q
  · have e : rep 181 = 924 := by decide
    rw [e] at y4
    refine Or.inr ⟨q1, q2, ?_⟩
    rcases rep_val y with r | r | r | r | r | r | r | r | r | r | r | r <;> omega
theorem cand_924 {a b : Int} {ys : PL} (hc : canL ys) (h : ∀ z, memL ys z ↔ AL a b z) : nb 924 924 (oth a ys) = 0 ∨ (nb 924 924 (oth a ys) = 1 ∧ (924 < a ∨ b < 924) ∧ ((a ≤ 181 ∧ 181 ≤ b) ∨ (a ≤ 956 ∧ 956 ≤ b))) := by
  rcases cand_c hc h 924 with q | ⟨q1, q2, y, y1, y2, y3, y4⟩
  · exact Or.inl q
  · have e : rep 924 = 924 := by decide
    rw [e] at y4
    refine Or.inr ⟨q1, q2, ?_⟩
    rcases rep_val y with r | r | r | r | r | r | r | r | r | r | r | r <;> omega
theorem cand_956 {a b : Int} {ys : PL} (hc : canL ys) (h : ∀ z, memL ys z ↔ AL a b z) : nb 956 956 (oth a ys) = 0 ∨ (nb 956 956 (oth a ys) = 1 ∧ (956 < a ∨ b < 956) ∧ ((a ≤ 181 ∧ 181 ≤ b) ∨ (a ≤ 924 ∧ 924 ≤ b))) := by
  rcases cand_c hc h 956 with q | ⟨q1, q2, y, y1, y2, y3, y4⟩
  · exact Or.inl q
  · have e : rep 956 = 924 := by decide
    rw [e] at y4
    refine Or.inr ⟨q1, q2, ?_⟩
    rcases rep_val y with r | r | r | r | r | r | r | r | r | r | r | r <;> omega
theorem cand_930 {a b : Int} {ys : PL} (hc : canL ys) (h : ∀ z, memL ys z ↔ AL a b z) : nb 930 930 (oth a ys) = 0 ∨ (nb 930 930 (oth a ys) = 1 ∧ (930 < a ∨ b < 930) ∧ ((a ≤ 931 ∧ 931 ≤ b) ∨ (a ≤ 962 ∧ 962 ≤ b) ∨ (a ≤ 963 ∧ 963 ≤ b))) := by
  rcases cand_c hc h 930 with q | ⟨q1, q2, y, y1, y2, y3, y4⟩
  · exact Or.inl q
  · have e : rep 930 = 930 := by decide
    rw [e] at y4
    refine Or.inr ⟨q1, q2, ?_⟩
    rcases rep_val y with r | r | r | r | r | r | r | r | r | r | r | r <;> omega
theorem cand_962 {a b : Int} {ys : PL} (hc : canL ys) (h : ∀ z, memL ys z ↔ AL a b z) : nb 962 962 (oth a ys) = 0 ∨ (nb 962 962 (oth a ys) = 1 ∧ (962 < a ∨ b < 962) ∧ ((a ≤ 930 ∧ 930 ≤ b) ∨ (a ≤ 931 ∧ 931 ≤ b) ∨ (a ≤ 963 ∧ 963 ≤ b))) := by
  rcases cand_c hc h 962 with q | ⟨q1, q2, y, y1, y2, y3, y4⟩
  · exact Or.inl q
  · have e : rep 962 = 930 := by decide
    rw [e] at y4
    refine Or.inr ⟨q1, q2, ?_⟩
    rcases rep_val y with r | r | r | r | r | r | r | r | r | r | r | r <;> omega
theorem pair_r {a b u l : Int} {x y : Nat} (hul : u < l) (hu : x = 0 ∨ (x = 1 ∧ (u < a ∨ b < u) ∧ (a ≤ l ∧ l ≤ b))) (hl : y = 0 ∨ (y = 1 ∧ (l < a ∨ b < l) ∧ (a ≤ u ∧ u ≤ b))) : x + y = 0 ∨ (x + y = 1 ∧ ((u < a ∧ a ≤ l) ∨ (u ≤ b ∧ b < l))) := by omega
theorem kin_r {a b p q r : Int} {x y z : Nat} (hx : x = 0 ∨ (x = 1 ∧ (p < a ∨ b < p) ∧ ((a ≤ q ∧ q ≤ b) ∨ (a ≤ r ∧ r ≤ b)))) (hy : y = 0 ∨ (y = 1 ∧ (q < a ∨ b < q) ∧ ((a ≤ p ∧ p ≤ b) ∨ (a ≤ r ∧ r ≤ b)))) (hz : z = 0 ∨ (z = 1 ∧ (r < a ∨ b < r) ∧ ((a ≤ p ∧ p ≤ b) ∨ (a ≤ q ∧ q ≤ b)))) : x + y + z ≤ 2 := by omega
theorem side_a {a : Int} {x1 x2 x3 x4 x5 x6 : Nat} (h1 : x1 = 0 ∨ (x1 = 1 ∧ 65 < a ∧ a ≤ 97)) (h2 : x2 = 0 ∨ (x2 = 1 ∧ 192 < a ∧ a ≤ 224)) (h3 : x3 = 0 ∨ (x3 = 1 ∧ 216 < a ∧ a ≤ 248)) (h4 : x4 = 0 ∨ (x4 = 1 ∧ 913 < a ∧ a ≤ 945)) (h5 : x5 = 0 ∨ (x5 = 1 ∧ 1040 < a ∧ a ≤ 1072)) (h6 : x6 = 0 ∨ (x6 = 1 ∧ 1024 < a ∧ a ≤ 1104)) : x1 + x2 + x3 + x4 + x5 + x6 ≤ 2 := by
  rcases h1 with h1 | h1 <;> rcases h2 with h2 | h2 <;> rcases h3 with h3 | h3 <;> rcases h4 with h4 | h4 <;> rcases h5 with h5 | h5 <;> rcases h6 with h6 | h6 <;> omega
theorem split_ab {a b u l : Int} {r : Nat} (h : r = 0 ∨ (r = 1 ∧ ((u < a ∧ a ≤ l) ∨ (u ≤ b ∧ b < l)))) : ∃ x y : Nat, r = x + y ∧ (x = 0 ∨ (x = 1 ∧ u < a ∧ a ≤ l)) ∧ (y = 0 ∨ (y = 1 ∧ u < b + 1 ∧ b + 1 ≤ l)) := by
  rcases h with h | ⟨h, q | q⟩
  · exact ⟨0, 0, by omega, Or.inl rfl, Or.inl rfl⟩
  · exact ⟨1, 0, by omega, Or.inr ⟨rfl, q⟩, Or.inl rfl⟩
  · exact ⟨0, 1, by omega, Or.inl rfl, Or.inr ⟨rfl, by omega, by omega⟩⟩
set_option maxHeartbeats 2000000 in
theorem al_lenG {a b : Int} (hab : a ≤ b) {ys : PL} (hc : canL ys) (h : ∀ z, memL ys z ↔ AL a b z) : ys.length ≤ 16 := by
  have h1 := len_cats (oth a ys) [(ashF a, ashF a), (97, 97), (65, 65), (224, 224), (192, 192), (248, 248), (216, 216), (945, 945), (913, 913), (1072, 1072), (1040, 1040), (1104, 1104), (1024, 1024), (75, 75), (107, 107), (8490, 8490), (83, 83), (115, 115), (383, 383), (197, 197), (229, 229), (8491, 8491), (181, 181), (924, 924), (956, 956), (930, 930), (962, 962)] (by
    intro p hp
    have h4 := List.mem_filter.mp hp
    have hne : p.1 ≠ a := by simpa using h4.2
    obtain ⟨c1, c2, c3, c4⟩ := begin_cand hc h h4.1 hne
    have pt : ∀ c : Int, (c, c) ∈ [(ashF a, ashF a), (97, 97), (65, 65), (224, 224), (192, 192), (248, 248), (216, 216), (945, 945), (913, 913), (1072, 1072), (1040, 1040), (1104, 1104), (1024, 1024), (75, 75), (107, 107), (8490, 8490), (83, 83), (115, 115), (383, 383), (197, 197), (229, 229), (8491, 8491), (181, 181), (924, 924), (956, 956), (930, 930), (962, 962)] → p.1 = c → ∃ d ∈ [(ashF a, ashF a), (97, 97), (65, 65), (224, 224), (192, 192), (248, 248), (216, 216), (945, 945), (913, 913), (1072, 1072), (1040, 1040), (1104, 1104), (1024, 1024), (75, 75), (107, 107), (8490, 8490), (83, 83), (115, 115), (383, 383), (197, 197), (229, 229), (8491, 8491), (181, 181), (924, 924), (956, 956), (930, 930), (962, 962)], d.1 ≤ p.1 ∧ p.1 ≤ d.2 := fun c hm e => ⟨(c, c), hm, by simp only; omega, by simp only; omega⟩
    rcases c4 with ⟨r, hr, r1, r2, r3⟩ | q | ⟨y, y1, y2, y3, y4⟩
    · simp only [rows12, List.mem_cons, List.not_mem_nil, or_false] at hr
      rcases hr with rfl | rfl | rfl | rfl | rfl | rfl | rfl | rfl | rfl | rfl | rfl | rfl
      · exact pt 97 (by simp) r1
      · exact pt 65 (by simp) r1
      · exact pt 224 (by simp) r1
      · exact pt 192 (by simp) r1
      · exact pt 248 (by simp) r1
      · exact pt 216 (by simp) r1
      · exact pt 945 (by simp) r1
      · exact pt 913 (by simp) r1
      · exact pt 1072 (by simp) r1
      · exact pt 1040 (by simp) r1
      · exact pt 1104 (by simp) r1
      · exact pt 1024 (by simp) r1
    · exact pt _ (by simp) (ash_row q)
    · rcases y4 with ⟨-, v⟩ | ⟨-, v⟩ | ⟨-, v⟩ | ⟨-, v⟩ | ⟨-, v⟩
      · rcases v with v | v | v <;> exact pt _ (by simp) v
      · rcases v with v | v | v <;> exact pt _ (by simp) v
      · rcases v with v | v | v <;> exact pt _ (by simp) v
      · rcases v with v | v | v <;> exact pt _ (by simp) v
      · rcases v with v | v | v | v
        · exact pt _ (by simp) v
        · exact absurd v c2
        · exact pt _ (by simp) v
        · exact absurd v c3)
  simp only [List.map_cons, List.map_nil, List.sum_cons, List.sum_nil] at h1
  have na := (oth_nb (a := a) hc (ashF a)).1
  have n97 := cand_97 hc h
  have n65 := cand_65 hc h
  have n224 := cand_224 hc h
  have n192 := cand_192 hc h
  have n248 := cand_248 hc h
  have n216 := cand_216 hc h
  have n945 := cand_945 hc h
  have n913 := cand_913 hc h
  have n1072 := cand_1072 hc h
  have n1040 := cand_1040 hc h
  have n1104 := cand_1104 hc h
  have n1024 := cand_1024 hc h
  have n75 := cand_75 hc h
  have n107 := cand_107 hc h
  have n8490 := cand_8490 hc h
  have n83 := cand_83 hc h
  have n115 := cand_115 hc h
  have n383 := cand_383 hc h
  have n197 := cand_197 hc h
  have n229 := cand_229 hc h
  have n8491 := cand_8491 hc h
  have n181 := cand_181 hc h
  have n924 := cand_924 hc h
  have n956 := cand_956 hc h
  have n930 := cand_930 hc h
  have n962 := cand_962 hc h
  have hl := oth_len (a := a) hc
  generalize nb 97 97 (oth a ys) = v97 at h1 n97
  generalize nb 65 65 (oth a ys) = v65 at h1 n65
  generalize nb 224 224 (oth a ys) = v224 at h1 n224
  generalize nb 192 192 (oth a ys) = v192 at h1 n192
  generalize nb 248 248 (oth a ys) = v248 at h1 n248
  generalize nb 216 216 (oth a ys) = v216 at h1 n216
  generalize nb 945 945 (oth a ys) = v945 at h1 n945
  generalize nb 913 913 (oth a ys) = v913 at h1 n913
  generalize nb 1072 1072 (oth a ys) = v1072 at h1 n1072
  generalize nb 1040 1040 (oth a ys) = v1040 at h1 n1040
  generalize nb 1104 1104 (oth a ys) = v1104 at h1 n1104
  generalize nb 1024 1024 (oth a ys) = v1024 at h1 n1024
  generalize nb 75 75 (oth a ys) = v75 at h1 n75
  generalize nb 107 107 (oth a ys) = v107 at h1 n107
  generalize nb 8490 8490 (oth a ys) = v8490 at h1 n8490
  generalize nb 83 83 (oth a ys) = v83 at h1 n83
  generalize nb 115 115 (oth a ys) = v115 at h1 n115
  generalize nb 383 383 (oth a ys) = v383 at h1 n383
  generalize nb 197 197 (oth a ys) = v197 at h1 n197
  generalize nb 229 229 (oth a ys) = v229 at h1 n229
  generalize nb 8491 8491 (oth a ys) = v8491 at h1 n8491
  generalize nb 181 181 (oth a ys) = v181 at h1 n181
  generalize nb 924 924 (oth a ys) = v924 at h1 n924
  generalize nb 956 956 (oth a ys) = v956 at h1 n956
  generalize nb 930 930 (oth a ys) = v930 at h1 n930
  generalize nb 962 962 (oth a ys) = v962 at h1 n962
  obtain ⟨x0, y0, e0, a0, b0⟩ := split_ab (pair_r (u := 65) (l := 97) (by decide) n65 n97)
  obtain ⟨x1, y1, e1, a1, b1⟩ := split_ab (pair_r (u := 192) (l := 224) (by decide) n192 n224)
  obtain ⟨x2, y2, e2, a2, b2⟩ := split_ab (pair_r (u := 216) (l := 248) (by decide) n216 n248)
  obtain ⟨x3, y3, e3, a3, b3⟩ := split_ab (pair_r (u := 913) (l := 945) (by decide) n913 n945)
  obtain ⟨x4, y4, e4, a4, b4⟩ := split_ab (pair_r (u := 1040) (l := 1072) (by decide) n1040 n1072)
  obtain ⟨x5, y5, e5, a5, b5⟩ := split_ab (pair_r (u := 1024) (l := 1104) (by decide) n1024 n1104)
  have sa := side_a a0 a1 a2 a3 a4 a5
  have sb := side_a b0 b1 b2 b3 b4 b5
  have k1 := kin_r n75 n107 n8490
  have k2 := kin_r n83 n115 n383
  have k3 := kin_r n197 n229 n8491
  have k4 := kin_r n181 n924 n956
  have k5 : v930 + v962 ≤ 2 := by clear h1 sa sb k1 k2 k3 k4 a0 b0 e0 a1 b1 e1 a2 b2 e2 a3 b3 e3 a4 b4 e4 a5 b5 e5 n97 n65 n224 n192 n248 n216 n945 n913 n1072 n1040 n1104 n1024 n75 n107 n8490 n83 n115 n383 n197 n229 n8491 n181 n924 n956; omega
  clear n97 n65 n224 n192 n248 n216 n945 n913 n1072 n1040 n1104 n1024 n75 n107 n8490 n83 n115 n383 n197 n229 n8491 n181 n924 n956 n930 n962
  clear a0 a1 a2 a3 a4 a5 b0 b1 b2 b3 b4 b5
  omega

