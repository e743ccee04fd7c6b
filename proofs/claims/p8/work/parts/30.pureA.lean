-- sets of whole numbers as sorted ranges apart by more than 1: the canonical form is one
def Can (lo hi : Nat → Int) (n : Nat) : Prop := (∀ i, i < n → lo i ≤ hi i) ∧ ∀ i, i + 1 < n → hi i + 1 < lo (i + 1)
def Mem (lo hi : Nat → Int) (n : Nat) (x : Int) : Prop := ∃ i, i < n ∧ lo i ≤ x ∧ x ≤ hi i
theorem can_lt {lo hi : Nat → Int} {n : Nat} (h : Can lo hi n) : ∀ (d i : Nat), i + d + 1 < n → hi i + 1 < lo (i + d + 1) := by
  intro d
  induction d with
  | zero => intro i hi; exact h.2 i hi
  | succ d ih =>
    intro i hd
    have h1 := ih i (by omega)
    have h2 := h.1 (i + d + 1) (by omega)
    have h3 := h.2 (i + d + 1) (by omega)
    have e : i + (d + 1) + 1 = i + d + 1 + 1 := by omega
    rw [e]; omega
theorem can_lt' {lo hi : Nat → Int} {n i j : Nat} (h : Can lo hi n) (hij : i < j) (hj : j < n) : hi i + 1 < lo j := by
  obtain ⟨d, rfl⟩ : ∃ d, j = i + d + 1 := ⟨j - i - 1, by omega⟩
  exact can_lt h d i hj
theorem can_step {lo hi lo' hi' : Nat → Int} {n n' : Nat} (h : Can lo hi n) (h' : Can lo' hi' n') (hm : ∀ x, Mem lo hi n x ↔ Mem lo' hi' n' x) :
    ∀ k i, i < k → i < n → i < n' ∧ lo i = lo' i ∧ hi i = hi' i := by
  intro k
  induction k with
  | zero => intro i h0; omega
  | succ k ih =>
    intro i hk hn
    rcases Nat.lt_or_ge i k with hlt | hge
    · exact ih i hlt hn
    have hik : i = k := by omega
    subst hik
    have hl := h.1 i hn
    have hin : i < n' ∧ lo' i ≤ lo i := by
      obtain ⟨j, hj, h1, h2⟩ := (hm (lo i)).mp ⟨i, hn, Int.le_refl _, hl⟩
      have hji : i ≤ j := by
        rcases Nat.lt_or_ge j i with q | q
        · obtain ⟨-, e1, e2⟩ := ih j q (by omega)
          have := can_lt' h q hn
          omega
        · exact q
      refine ⟨by omega, ?_⟩
      rcases Nat.lt_or_ge i j with q | q
      · have h3 := can_lt' h' q hj
        have h4 := h'.1 i (by omega)
        omega
      · have : j = i := by omega
        subst this; exact h1
    obtain ⟨hn', hle⟩ := hin
    have hl' := h'.1 i hn'
    have hge : lo i ≤ lo' i := by
      obtain ⟨j, hj, h1, h2⟩ := (hm (lo' i)).mpr ⟨i, hn', Int.le_refl _, hl'⟩
      have hji : i ≤ j := by
        rcases Nat.lt_or_ge j i with q | q
        · obtain ⟨qn, e1, e2⟩ := ih j q hj
          have := can_lt' h' q hn'
          omega
        · exact q
      rcases Nat.lt_or_ge i j with q | q
      · have h3 := can_lt' h q hj
        omega
      · have : j = i := by omega
        subst this; exact h1
    have hh1 : hi' i ≤ hi i := by
      rcases Int.lt_or_le (hi i) (hi' i) with q | q
      · obtain ⟨j, hj, h1, h2⟩ := (hm (hi i + 1)).mpr ⟨i, hn', by omega, by omega⟩
        rcases Nat.lt_trichotomy j i with q1 | q1 | q1
        · have := can_lt' h q1 hn; omega
        · subst q1; omega
        · have := can_lt' h q1 hj; omega
      · exact q
    have hh2 : hi i ≤ hi' i := by
      rcases Int.lt_or_le (hi' i) (hi i) with q | q
      · obtain ⟨j, hj, h1, h2⟩ := (hm (hi' i + 1)).mp ⟨i, hn, by omega, by omega⟩
        rcases Nat.lt_trichotomy j i with q1 | q1 | q1
        · have := can_lt' h' q1 hn'; omega
        · subst q1; omega
        · have := can_lt' h' q1 hj; omega
      · exact q
    exact ⟨hn', by omega, by omega⟩
theorem can_uniq {lo hi lo' hi' : Nat → Int} {n n' : Nat} (h : Can lo hi n) (h' : Can lo' hi' n') (hm : ∀ x, Mem lo hi n x ↔ Mem lo' hi' n' x) : n = n' ∧ ∀ i, i < n → lo i = lo' i ∧ hi i = hi' i := by
  refine ⟨?_, fun i hi => (can_step h h' hm (i + 1) i (by omega) hi).2⟩
  rcases Nat.lt_trichotomy n n' with q | q | q
  · have := (can_step h' h (fun x => (hm x).symm) (n + 1) n (by omega) q).1
    omega
  · exact q
  · have := (can_step h h' hm (n' + 1) n' (by omega) q).1
    omega

-- put: class and reference
theorem FU_s : FU = 999999 + 1 := rfl
theorem inb_nI {i n : Nat} (h : i < n) (hn : n < 2 ^ 31) : inb (nI i) n = true := by
  unfold inb
  exact decide_eq_true (vp_in_nI h hn)
theorem grd_t {α : Type} {b : Bool} {k : Option α} (h : b = true) : grd b k = k := by rw [h]; rfl
theorem upd_at (f : Nat → Int32) (k : Nat) (x : Int32) : upd f k x k = x := pk_us
theorem upd_ne {f : Nat → Int32} {k j : Nat} {x : Int32} (h : j ≠ k) : upd f k x j = f j := pk_un h
theorem byt_eq0 (x : BitVec 64) (n : Nat) (h : n ≤ 56) : ((x >>> n).setWidth 32) &&& 255#32 = ((x.sshiftRight n).setWidth 32) &&& 255#32 := by
  apply BitVec.eq_of_getLsbD_eq
  intro i hi
  by_cases h8 : i < 8
  · have h1 : n + i < 64 := by omega
    rw [BitVec.getLsbD_and, BitVec.getLsbD_and, BitVec.getLsbD_setWidth, BitVec.getLsbD_setWidth, BitVec.getLsbD_ushiftRight, BitVec.getLsbD_sshiftRight, if_pos h1]
    simp [show ¬ 64 ≤ i by omega]
  · have : (255#32).getLsbD i = false := by
      have e : (255#32) = BitVec.ofNat 32 (2 ^ 8 - 1) := rfl
      rw [e, BitVec.getLsbD_ofNat, Nat.testBit_two_pow_sub_one]
      simp; omega
    simp [BitVec.getLsbD_and, this]
theorem byt_c (v : Int64) (a : Int64) (n : Nat) (hn : n ≤ 56) (ha : a = Int64.ofNat n) (hs : (BitVec.ofNat 64 n).smod 64#64 = BitVec.ofNat 64 n) : (((v.toUInt64 >>> (a.toUInt64)).toInt64).toInt32) &&& 255 = ((v >>> a).toInt32) &&& 255 := by
  subst ha
  apply Int32.toBitVec_inj.mp
  have h0 : (BitVec.ofNat 64 n % 64#64).toNat = n := by
    simp [BitVec.toNat_umod]; omega
  have h1 : ((v.toUInt64 >>> (Int64.ofNat n).toUInt64).toInt64).toBitVec = v.toBitVec >>> n := by
    show (v.toUInt64 >>> (Int64.ofNat n).toUInt64).toBitVec = _
    rw [UInt64.toBitVec_shiftRight]
    show v.toBitVec >>> ((BitVec.ofNat 64 n) % 64#64) = _
    rw [BitVec.ushiftRight_eq', h0]
  have h2 : (v >>> Int64.ofNat n).toBitVec = v.toBitVec.sshiftRight n := by
    rw [Int64.toBitVec_shiftRight]
    show v.toBitVec.sshiftRight' ((BitVec.ofNat 64 n).smod 64#64) = _
    rw [hs, BitVec.sshiftRight'_ofNat_eq_sshiftRight, Nat.mod_eq_of_lt (by omega)]
  simp only [Int32.toBitVec_and, Int64.toBitVec_toInt32]
  rw [h1, h2, BitVec.signExtend_eq_setWidth_of_le _ (by decide), BitVec.signExtend_eq_setWidth_of_le _ (by decide)]
  exact byt_eq0 _ _ hn
theorem byt_eq (v : Int64) : ∀ k : Nat, k < 8 → (((v.toUInt64 >>> ((8 * nI k).toInt64.toUInt64 &&& Int64.toUInt64 63)).toInt64).toInt32) &&& 255 = ((v >>> ((8 * nI k).toInt64 &&& 63)).toInt32) &&& 255 := by
  intro k hk
  have e : ∀ z : Int64, z.toUInt64 &&& Int64.toUInt64 63 = (z &&& 63).toUInt64 := fun z => rfl
  rw [e]
  rcases (show k = 0 ∨ k = 1 ∨ k = 2 ∨ k = 3 ∨ k = 4 ∨ k = 5 ∨ k = 6 ∨ k = 7 by omega) with rfl | rfl | rfl | rfl | rfl | rfl | rfl | rfl
  · exact byt_c v _ 0 (by decide) (by decide) (by decide)
  · exact byt_c v _ 8 (by decide) (by decide) (by decide)
  · exact byt_c v _ 16 (by decide) (by decide) (by decide)
  · exact byt_c v _ 24 (by decide) (by decide) (by decide)
  · exact byt_c v _ 32 (by decide) (by decide) (by decide)
  · exact byt_c v _ 40 (by decide) (by decide) (by decide)
  · exact byt_c v _ 48 (by decide) (by decide) (by decide)
  · exact byt_c v _ 56 (by decide) (by decide) (by decide)
theorem put_loop (v : Int64) (n th : Int32) : ∀ (j F h : Nat) (B G : Nat → Int32), j ≤ 8 → h + j ≤ 400 → (∀ i, i < h → B i = G i) →
    ∃ B' G', f_PAT_append_L29 v n (F + j + 1) (nI j - 1, nI h, B) = some (true, nI (h + j), B') ∧ f_MOD_put_L34 v n (F + j + 1) (nI j - 1, th, nI h, G) = some (true, th, nI (h + j), G') ∧ ∀ i, i < h + j → B' i = G' i := by
  intro j
  induction j with
  | zero =>
    intro F h B G _ _ hB
    have h0 : nI 0 - 1 < 0 := by decide
    refine ⟨B, G, ?_, ?_, hB⟩
    · rw [f_PAT_append_L29_s]
      unfold f_PAT_append_B29
      rw [if_pos h0]; rfl
    · rw [f_MOD_put_L34_s]
      unfold f_MOD_put_B34
      rw [if_pos h0]; rfl
  | succ j ih =>
    intro F h B G hj hh hB
    have e0 : nI (j + 1) - 1 = nI j := nI_pred j
    have e1 : nI j + (-1) = nI j - 1 := (Int32.sub_eq_add_neg (nI j) 1).symm
    have hn0 : ¬ nI j < 0 := nI_pos (by omega)
    have ec : (nI h).toNatClampNeg = h := nI_clamp (by omega)
    have e2 : nI h + 1 = nI (h + 1) := nI_1 h
    obtain ⟨B', G', h1, h2, h3⟩ := ih F (h + 1) (upd B h ((((v.toUInt64 >>> ((8 * nI j).toInt64.toUInt64 &&& Int64.toUInt64 63)).toInt64).toInt32) &&& 255)) (upd G h (((v >>> ((8 * nI j).toInt64 &&& 63)).toInt32) &&& 255)) (by omega) (by omega) (by
      intro i hi
      rcases Nat.lt_or_ge i h with q | q
      · rw [upd_ne (by omega), upd_ne (by omega)]; exact hB i q
      · have : i = h := by omega
        subst this
        rw [upd_at, upd_at]; exact byt_eq v j (by omega))
    have ej : h + (j + 1) = h + 1 + j := by omega
    refine ⟨B', G', ?_, ?_, by rw [ej]; exact h3⟩
    · rw [f_PAT_append_L29_s]
      unfold f_PAT_append_B29
      rw [e0, if_neg hn0, grd_t (inb_nI (by omega) (by decide)), e1, e2, ec, ej]
      exact h1
    · rw [f_MOD_put_L34_s]
      unfold f_MOD_put_B34
      rw [e0, if_neg hn0, grd_t (inb_nI (by omega) (by decide)), e1, e2, ec, ej]
      exact h2
theorem put_eq {h : Nat} {B G : Nat → Int32} {th : Int32} (v : Int64) (n : Int32) (hh : h ≤ 400) (hB : ∀ i, i < h → B i = G i) :
    ∃ (r : Bool) (h' : Nat) (B' G' : Nat → Int32), f_PN_put (nI h) B v n = some (r, nI h', B') ∧ f_MOD_put th (nI h) G v n = some (r, 0, nI h', G') ∧ h' ≤ 400 ∧ ∀ i, i < h' → B' i = G' i := by
  have e1 : ∀ x, bnd_ (some x) (fun y : Bool × Int32 × (Nat → Int32) => some (y.1, y.2.1, y.2.2)) = some x := fun _ => rfl
  unfold f_PN_put f_PAT_append f_MOD_put
  by_cases c1 : n < 0
  · refine ⟨false, h, B, G, ?_, ?_, hh, hB⟩
    · rw [if_pos c1]; rfl
    · rw [if_pos c1]
  · rw [if_neg c1, if_neg c1]
    by_cases c2 : 8 < n
    · refine ⟨false, h, B, G, ?_, ?_, hh, hB⟩
      · rw [if_pos c2]; rfl
      · rw [if_pos c2]
    · rw [if_neg c2, if_neg c2]
      obtain ⟨j, hj, rfl⟩ := nI_of2 (x := n) (M := 8) (n := 8) rfl c1 (Int32.not_lt.mp c2)
      have e2 : (400 : Int32) - nI h = nI (400 - h) := by
        apply Int32.toInt_inj.mp
        have a1 : (nI (400 - h)).toInt = ((400 - h : Nat) : Int) := nI_toInt (by omega)
        have a2 : (nI h).toInt = (h : Int) := nI_toInt (by omega)
        rw [Int32.toInt_sub, a1, a2]
        show ((400 : Int) - h).bmod (2^32) = _
        rw [Int.bmod_eq_of_le (by omega) (by omega)]
        omega
      have e3 : nI h + nI j = nI (h + j) := nI_add h j
      have e4 : (400 : Int32) = nI 400 := rfl
      rw [e2, e3, e4]
      by_cases c3 : h + j ≤ 400
      · rw [if_pos ((nI_leI (by omega) (by omega)).mpr (by omega)), if_pos ((nI_leI (by omega) (by omega)).mpr c3)]
        obtain ⟨B', G', h1, h2, h3⟩ := put_loop v (nI j) 0 j (999999 - j) h B G hj c3 hB
        have ef : 999999 - j + j + 1 = FU := by rw [FU_s]; omega
        rw [ef] at h1 h2
        refine ⟨true, h + j, B', G', ?_, h2, c3, h3⟩
        rw [h1]; rfl
      · rw [if_neg (fun q => c3 (by have := (nI_leI (by omega) (by omega)).mp q; omega)), if_neg (fun q => c3 ((nI_leI (by omega) (by omega)).mp q))]
        exact ⟨false, h, B, G, rfl, rfl, hh, hB⟩

set_option maxRecDepth 100000
-- whole numbers behind Int32
theorem lt_ti {a b : Int32} : a < b ↔ a.toInt < b.toInt := Int32.lt_iff_toInt_lt
theorem le_ti {a b : Int32} : a ≤ b ↔ a.toInt ≤ b.toInt := Int32.le_iff_toInt_le
theorem ti_add {a b : Int32} (h1 : -2147483648 ≤ a.toInt + b.toInt) (h2 : a.toInt + b.toInt ≤ 2147483647) : (a + b).toInt = a.toInt + b.toInt := by
  rw [Int32.toInt_add]; exact Int.bmod_eq_of_le (by omega) (by omega)
theorem ti_sub {a b : Int32} (h1 : -2147483648 ≤ a.toInt - b.toInt) (h2 : a.toInt - b.toInt ≤ 2147483647) : (a - b).toInt = a.toInt - b.toInt := by
  rw [Int32.toInt_sub]; exact Int.bmod_eq_of_le (by omega) (by omega)
theorem ti1 : (1 : Int32).toInt = 1 := rfl
theorem ti0 : (0 : Int32).toInt = 0 := rfl
theorem ti_eq {a b : Int32} : a = b ↔ a.toInt = b.toInt := Int32.toInt_inj.symm
theorem nI_sub1 {n : Nat} (h : 0 < n) : nI n - 1 = nI (n - 1) := by
  obtain ⟨m, rfl⟩ : ∃ m, n = m + 1 := ⟨n - 1, by omega⟩
  exact nI_pred m
theorem nI_m1 {n : Nat} (h : 0 < n) : nI n + (-1) = nI (n - 1) := by
  rw [← nI_sub1 h]; exact (Int32.sub_eq_add_neg _ _).symm
-- a stretch of two arrays as a list of pairs
abbrev PL := List (Int × Int)
def seg (l h : Nat → Int32) : Nat → PL → Prop
  | _, [] => True
  | B, (x, y) :: t => (l B).toInt = x ∧ (h B).toInt = y ∧ seg l h (B + 1) t
theorem seg_app {l h : Nat → Int32} : ∀ {B : Nat} {xs ys : PL}, seg l h B (xs ++ ys) ↔ seg l h B xs ∧ seg l h (B + xs.length) ys := by
  intro B xs
  induction xs generalizing B with
  | nil => intro ys; simp [seg]
  | cons p t ih =>
    intro ys
    obtain ⟨x, y⟩ := p
    simp only [List.cons_append, seg, List.length_cons, ih, and_assoc]
    rw [show B + 1 + t.length = B + (t.length + 1) by omega]
theorem seg_out {l h l' h' : Nat → Int32} : ∀ {xs : PL} {B : Nat}, (∀ j, B ≤ j → j < B + xs.length → l' j = l j ∧ h' j = h j) → seg l h B xs → seg l' h' B xs := by
  intro xs
  induction xs with
  | nil => intro B _ _; trivial
  | cons p t ih =>
    intro B hj hs
    obtain ⟨x, y⟩ := p
    obtain ⟨h1, h2, h3⟩ := hs
    have := hj B (by omega) (by simp)
    refine ⟨by rw [this.1]; exact h1, by rw [this.2]; exact h2, ih (fun j a b => hj j (by omega) (by simp only [List.length_cons]; omega)) h3⟩
-- the values of a list are characters (or what lies between them)
def okL (xs : PL) : Prop := ∀ p ∈ xs, 0 ≤ p.1 ∧ p.1 ≤ p.2 ∧ p.2 ≤ 1114111
-- the reference's add, on lists
def scan (f t : Int) : Int → Int → PL → PL → Int × Int × PL
  | a, b, kept, [] => (a, b, kept)
  | a, b, kept, (x, y) :: r => if y + 1 < f ∨ t + 1 < x then scan f t a b (kept ++ [(x, y)]) r else scan f t (if x < a then x else a) (if b < y then y else b) kept r
theorem add_scan (p1 p2 p3 : Int32) (B n : Nat) (mn : Nat → Int32) (hp : inb p1 2 = true) (hB : B ≤ 600) (hn : n ≤ 600) (hm : mn p1.toNatClampNeg = nI n) (hp2 : 0 ≤ p2.toInt ∧ p2.toInt ≤ 1114111) (hp3 : 0 ≤ p3.toInt ∧ p3.toInt ≤ 1114111) :
    ∀ (rest : PL) (i : Nat) (kept : PL) (a b : Int32) (low high : Nat → Int32) (F : Nat), okL rest → seg low high (B + i) rest → seg low high B kept → kept.length ≤ i → i + rest.length = n →
      ∃ (a' b' : Int32) (low' high' : Nat → Int32) (kept' : PL), f_MOD_add_L19 p1 p2 p3 (F + rest.length + 1) (a, b, nI B, nI kept.length, nI i, low, high, mn) = f_MOD_add_L142 p1 p2 p3 FU (a', b', nI B, nI kept'.length, nI kept'.length, low', high', mn) ∧
        scan p2.toInt p3.toInt a.toInt b.toInt kept rest = (a'.toInt, b'.toInt, kept') ∧ seg low' high' B kept' ∧ kept'.length ≤ n ∧ ∀ j, (j < B ∨ B + n ≤ j) → low' j = low j ∧ high' j = high j := by
  intro rest
  induction rest with
  | nil =>
    intro i kept a b low high F _ _ hk hki hin
    refine ⟨a, b, low, high, kept, ?_, rfl, hk, by simp at hin; omega, fun j _ => ⟨rfl, rfl⟩⟩
    rw [f_MOD_add_L19_s]
    unfold f_MOD_add_B19
    rw [grd_t hp, hm, if_pos ((nI_leI (by omega) (by simp at hin; omega)).mpr (by simp at hin; omega))]
  | cons p r ih =>
    intro i kept a b low high F hok hs hk hki hin
    obtain ⟨x, y⟩ := p
    obtain ⟨e1, e2, hs'⟩ := hs
    simp only [List.length_cons] at hin
    have hxy := hok (x, y) (List.mem_cons_self)
    simp only at hxy
    have hok' : okL r := fun q hq => hok q (List.mem_cons_of_mem _ hq)
    have eF : F + (((x, y) :: r).length) + 1 = (F + r.length + 1) + 1 := by simp only [List.length_cons]; omega
    have ei : nI B + nI i = nI (B + i) := nI_add B i
    have ek : nI B + nI kept.length = nI (B + kept.length) := nI_add B _
    have ec : (nI (B + i)).toNatClampNeg = B + i := nI_clamp (by omega)
    have ekc : (nI (B + kept.length)).toNatClampNeg = B + kept.length := nI_clamp (by omega)
    have gi : inb (nI (B + i)) 1200 = true := inb_nI (by omega) (by decide)
    have gk : inb (nI (B + kept.length)) 1200 = true := inb_nI (by omega) (by decide)
    have en : nI i + 1 = nI (i + 1) := nI_1 i
    have ekn : nI kept.length + 1 = nI (kept.length + 1) := nI_1 _
    rw [eF, f_MOD_add_L19_s]
    unfold f_MOD_add_B19
    rw [grd_t hp, hm, if_neg (fun q => by have := (nI_leI (by omega) (by omega)).mp q; omega), ei, ec, grd_t gi, grd_t gi]
    have ey : (high (B + i) + 1).toInt = y + 1 := by rw [ti_add (by rw [e2, ti1]; omega) (by rw [e2, ti1]; omega), e2, ti1]
    have ep : (p3 + 1).toInt = p3.toInt + 1 := by rw [ti_add (by rw [ti1]; omega) (by rw [ti1]; omega), ti1]
    -- the piece is kept
    have keepCase : (y + 1 < p2.toInt ∨ p3.toInt + 1 < x) → ∃ (a' b' : Int32) (low' high' : Nat → Int32) (kept' : PL), f_MOD_add_L105 p1 p2 p3 (f_MOD_add_L19 p1 p2 p3 (F + r.length + 1)) a b (nI B) (nI kept.length) (nI i) (low (B + i)) (high (B + i)) low high mn = f_MOD_add_L142 p1 p2 p3 FU (a', b', nI B, nI kept'.length, nI kept'.length, low', high', mn) ∧
        scan p2.toInt p3.toInt a.toInt b.toInt kept ((x, y) :: r) = (a'.toInt, b'.toInt, kept') ∧ seg low' high' B kept' ∧ kept'.length ≤ n ∧ ∀ j, (j < B ∨ B + n ≤ j) → low' j = low j ∧ high' j = high j := by
      intro hc
      unfold f_MOD_add_L105
      rw [ek, ekc, grd_t gk, grd_t gk, en, ekn]
      have hl : (kept ++ [(x, y)]).length = kept.length + 1 := by simp
      obtain ⟨a', b', low', high', kept', h1, h2, h3, h4, h5⟩ := ih (i + 1) (kept ++ [(x, y)]) a b (upd low (B + kept.length) (low (B + i))) (upd high (B + kept.length) (high (B + i))) F hok'
        (by
          refine seg_out (l := low) (h := high) (fun j q1 q2 => ?_) (by rw [show B + (i + 1) = B + i + 1 by omega]; exact hs')
          rw [upd_ne (by omega), upd_ne (by omega)]; exact ⟨rfl, rfl⟩)
        (by
          rw [seg_app]
          refine ⟨seg_out (l := low) (h := high) (fun j q1 q2 => ?_) hk, ?_⟩
          · rw [upd_ne (by omega), upd_ne (by omega)]; exact ⟨rfl, rfl⟩
          · exact ⟨by rw [upd_at]; exact e1, by rw [upd_at]; exact e2, trivial⟩)
        (by rw [hl]; omega) (by omega)
      rw [hl] at h1
      refine ⟨a', b', low', high', kept', h1, ?_, h3, h4, fun j hj => ?_⟩
      · rw [scan, if_pos hc]; exact h2
      · have := h5 j hj
        rw [this.1, this.2, upd_ne (by omega), upd_ne (by omega)]; exact ⟨rfl, rfl⟩
    by_cases c1 : y + 1 < p2.toInt
    · rw [if_pos (lt_ti.mpr (by rw [ey]; exact c1))]
      exact keepCase (Or.inl c1)
    rw [if_neg (fun q => c1 (by have := lt_ti.mp q; rw [ey] at this; exact this))]
    by_cases c2 : p3.toInt + 1 < x
    · rw [if_pos (lt_ti.mpr (by rw [ep, e1]; exact c2))]
      exact keepCase (Or.inr c2)
    rw [if_neg (fun q => c2 (by have := lt_ti.mp q; rw [ep, e1] at this; exact this))]
    have takeCase : ∀ z0 : Int32, z0.toInt = (if x < a.toInt then x else a.toInt) → ∃ (a' b' : Int32) (low' high' : Nat → Int32) (kept' : PL), f_MOD_add_L84 p1 p2 p3 (f_MOD_add_L19 p1 p2 p3 (F + r.length + 1)) b (nI B) (nI kept.length) (nI i) (high (B + i)) z0 low high mn = f_MOD_add_L142 p1 p2 p3 FU (a', b', nI B, nI kept'.length, nI kept'.length, low', high', mn) ∧
        scan p2.toInt p3.toInt a.toInt b.toInt kept ((x, y) :: r) = (a'.toInt, b'.toInt, kept') ∧ seg low' high' B kept' ∧ kept'.length ≤ n ∧ ∀ j, (j < B ∨ B + n ≤ j) → low' j = low j ∧ high' j = high j := by
      intro z0 hz
      unfold f_MOD_add_L84
      have go : ∀ b2 : Int32, b2.toInt = (if b.toInt < y then y else b.toInt) → ∃ (a' b' : Int32) (low' high' : Nat → Int32) (kept' : PL), f_MOD_add_L19 p1 p2 p3 (F + r.length + 1) (z0, b2, nI B, nI kept.length, nI i + 1, low, high, mn) = f_MOD_add_L142 p1 p2 p3 FU (a', b', nI B, nI kept'.length, nI kept'.length, low', high', mn) ∧
        scan p2.toInt p3.toInt a.toInt b.toInt kept ((x, y) :: r) = (a'.toInt, b'.toInt, kept') ∧ seg low' high' B kept' ∧ kept'.length ≤ n ∧ ∀ j, (j < B ∨ B + n ≤ j) → low' j = low j ∧ high' j = high j := by
        intro b2 hb2
        rw [en]
        obtain ⟨a', b', low', high', kept', h1, h2, h3, h4, h5⟩ := ih (i + 1) kept z0 b2 low high F hok' (by rw [show B + (i + 1) = B + i + 1 by omega]; exact hs') hk (by omega) (by omega)
        refine ⟨a', b', low', high', kept', h1, ?_, h3, h4, h5⟩
        rw [scan, if_neg (by rintro (q | q) <;> omega), ← hz, ← hb2]; exact h2
      by_cases c3 : y ≤ b.toInt
      · rw [if_pos (le_ti.mpr (by rw [e2]; exact c3))]
        exact go b (by rw [if_neg (by omega)])
      · rw [if_neg (fun q => c3 (by have := le_ti.mp q; rw [e2] at this; exact this))]
        exact go (high (B + i)) (by rw [if_pos (by omega), e2])
    by_cases c4 : a.toInt ≤ x
    · rw [if_pos (le_ti.mpr (by rw [e1]; exact c4))]
      exact takeCase a (by rw [if_neg (by omega)])
    · rw [if_neg (fun q => c4 (by have := le_ti.mp q; rw [e1] at this; exact this))]
      exact takeCase (low (B + i)) (by rw [if_pos (by omega), e1])

set_option maxRecDepth 100000
set_option linter.unusedVariables false
def bub (a b : Int) : PL → PL → PL
  | [], S => (a, b) :: S
  | (x, y) :: r, S => if a < x then bub a b r ((x, y) :: S) else r.reverse ++ (x, y) :: (a, b) :: S
theorem add_bub (p1 p2 p3 : Int32) (B : Nat) (mn : Nat → Int32) (hp : inb p1 2 = true) (hB : B ≤ 600) (a b : Int32) (tot : Nat) :
    ∀ (R S : PL) (low high : Nat → Int32) (F : Nat), tot < 600 → R.length + S.length = tot → seg low high B R.reverse → seg low high (B + R.length + 1) S →
      ∃ (low' high' : Nat → Int32), f_MOD_add_L142 p1 p2 p3 (F + R.length + 1) (a, b, nI B, nI tot, nI R.length, low, high, mn) = some (low', high', upd mn p1.toNatClampNeg (nI (tot + 1))) ∧
        seg low' high' B (bub a.toInt b.toInt R S) ∧ ∀ j, (j < B ∨ B + tot + 1 ≤ j) → low' j = low j ∧ high' j = high j := by
  intro R
  have fin : ∀ (R S : PL) (low high : Nat → Int32), tot < 600 → R.length + S.length = tot → seg low high B R.reverse → seg low high (B + R.length + 1) S →
      ∃ (low' high' : Nat → Int32), f_MOD_add_L214 p1 p2 p3 a b (nI B) (nI tot) (nI R.length) low high mn = some (low', high', upd mn p1.toNatClampNeg (nI (tot + 1))) ∧
        seg low' high' B (R.reverse ++ (a.toInt, b.toInt) :: S) ∧ ∀ j, (j < B ∨ B + tot + 1 ≤ j) → low' j = low j ∧ high' j = high j := by
    intro R S low high ht hl hr hs
    have ei : nI B + nI R.length = nI (B + R.length) := nI_add B _
    have ec : (nI (B + R.length)).toNatClampNeg = B + R.length := nI_clamp (by omega)
    have gi : inb (nI (B + R.length)) 1200 = true := inb_nI (by omega) (by decide)
    refine ⟨upd low (B + R.length) a, upd high (B + R.length) b, ?_, ?_, ?_⟩
    · unfold f_MOD_add_L214
      rw [ei, ec, grd_t gi, grd_t gi, grd_t hp, nI_1]
    · rw [seg_app]
      refine ⟨seg_out (l := low) (h := high) (fun j q1 q2 => ?_) hr, ?_, ?_, ?_⟩
      · simp only [List.length_reverse] at q2
        rw [upd_ne (by omega), upd_ne (by omega)]; exact ⟨rfl, rfl⟩
      · rw [List.length_reverse, upd_at]
      · rw [List.length_reverse, upd_at]
      · rw [List.length_reverse]
        refine seg_out (l := low) (h := high) (fun j q1 q2 => ?_) hs
        rw [upd_ne (by omega), upd_ne (by omega)]; exact ⟨rfl, rfl⟩
    · intro j hj
      rw [upd_ne (by omega), upd_ne (by omega)]; exact ⟨rfl, rfl⟩
  induction R with
  | nil =>
    intro S low high F ht hl hr hs
    rw [f_MOD_add_L142_s]
    unfold f_MOD_add_B142
    rw [if_pos (show nI ([] : PL).length ≤ 0 by decide)]
    exact fin [] S low high ht hl hr hs
  | cons p r ih =>
    intro S low high F ht hl hr hs
    obtain ⟨x, y⟩ := p
    simp only [List.length_cons] at hl hs
    have eL : ((x, y) :: r).length = r.length + 1 := rfl
    have ei : nI B + nI (r.length + 1) = nI (B + r.length + 1) := by rw [nI_add]; rfl
    have ei1 : nI (B + r.length + 1) - 1 = nI (B + r.length) := nI_pred _
    have ec : (nI (B + r.length + 1)).toNatClampNeg = B + r.length + 1 := nI_clamp (by omega)
    have ec1 : (nI (B + r.length)).toNatClampNeg = B + r.length := nI_clamp (by omega)
    have g0 : inb (nI (B + r.length + 1)) 1200 = true := inb_nI (by omega) (by decide)
    have g1 : inb (nI (B + r.length)) 1200 = true := inb_nI (by omega) (by decide)
    have hr2 : seg low high B r.reverse ∧ (low (B + r.length)).toInt = x ∧ (high (B + r.length)).toInt = y := by
      rw [List.reverse_cons, seg_app, List.length_reverse] at hr
      exact ⟨hr.1, hr.2.1, hr.2.2.1⟩
    rw [show F + ((x, y) :: r).length + 1 = (F + r.length + 1) + 1 by rw [eL]; omega, eL, f_MOD_add_L142_s]
    unfold f_MOD_add_B142
    rw [if_neg (fun q => by have := (nI_leI (b := 0) (by omega) (by decide)).mp q; omega), ei, ei1, ec1, grd_t g1]
    by_cases c : a.toInt < x
    · rw [if_neg (fun q => by have := le_ti.mp q; rw [hr2.2.1] at this; omega), grd_t g1, grd_t g0, grd_t g1, grd_t g0, ec, nI_m1 (by omega)]
      obtain ⟨low', high', h1, h2, h3⟩ := ih ((x, y) :: S) (upd low (B + r.length + 1) (low (B + r.length))) (upd high (B + r.length + 1) (high (B + r.length))) F ht (by simp only [List.length_cons]; omega)
        (seg_out (l := low) (h := high) (fun j q1 q2 => by
          simp only [List.length_reverse] at q2
          rw [upd_ne (by omega), upd_ne (by omega)]; exact ⟨rfl, rfl⟩) hr2.1)
        ⟨by rw [upd_at]; exact hr2.2.1, by rw [upd_at]; exact hr2.2.2, seg_out (l := low) (h := high) (fun j q1 q2 => by
          rw [upd_ne (by omega), upd_ne (by omega)]; exact ⟨rfl, rfl⟩) hs⟩
      rw [show r.length + 1 - 1 = r.length by omega]
      refine ⟨low', high', h1, ?_, fun j hj => ?_⟩
      · rw [bub, if_pos c]; exact h2
      · have := h3 j hj
        rw [this.1, this.2, upd_ne (by omega), upd_ne (by omega)]; exact ⟨rfl, rfl⟩
    · rw [if_pos (le_ti.mpr (by rw [hr2.2.1]; omega))]
      obtain ⟨low', high', h1, h2, h3⟩ := fin ((x, y) :: r) S low high ht (by simp only [List.length_cons]; omega) hr hs
      rw [eL] at h1
      refine ⟨low', high', h1, ?_, h3⟩
      rw [bub, if_neg c]
      rw [List.reverse_cons, List.append_assoc] at h2
      exact h2
-- canonical lists and putting a range in
def canL : PL → Prop
  | [] => True
  | [(x, y)] => x ≤ y
  | (x, y) :: (x', y') :: t => x ≤ y ∧ y + 1 < x' ∧ canL ((x', y') :: t)
def ins (a b : Int) : PL → PL
  | [] => [(a, b)]
  | (x, y) :: t => if y + 1 < a then (x, y) :: ins a b t else if b + 1 < x then (a, b) :: (x, y) :: t else ins (if x < a then x else a) (if b < y then y else b) t
/-- all begins lie above v -/
def abv (v : Int) (xs : PL) : Prop := ∀ p ∈ xs, v < p.1
theorem canL_tail {p : Int × Int} {t : PL} (h : canL (p :: t)) : canL t ∧ p.1 ≤ p.2 ∧ abv (p.2 + 1) t := by
  induction t generalizing p with
  | nil => exact ⟨trivial, h, fun q hq => by cases hq⟩
  | cons q t ih =>
    obtain ⟨x, y⟩ := p
    obtain ⟨x', y'⟩ := q
    obtain ⟨h1, h2, h3⟩ := h
    obtain ⟨i1, i2, i3⟩ := ih h3
    refine ⟨h3, h1, fun r hr => ?_⟩
    rcases List.mem_cons.mp hr with rfl | hr
    · exact h2
    · have := i3 r hr
      simp only at i2 this ⊢
      omega
theorem canL_cons {p : Int × Int} {t : PL} (h1 : canL t) (h2 : p.1 ≤ p.2) (h3 : abv (p.2 + 1) t) : canL (p :: t) := by
  obtain ⟨x, y⟩ := p
  cases t with
  | nil => exact h2
  | cons q t =>
    obtain ⟨x', y'⟩ := q
    exact ⟨h2, h3 _ List.mem_cons_self, h1⟩

set_option maxRecDepth 100000
set_option linter.unusedVariables false
theorem scan_mid (f t : Int) : ∀ (xs : PL) (a b v : Int) (kept : PL), canL xs → abv v xs → a ≤ f → f ≤ v → f ≤ t → t ≤ b → (b = t ∨ b + 1 ≤ v) →
    ∃ a' b' S, scan f t a b kept xs = (a', b', kept ++ S) ∧ ins a b xs = (a', b') :: S ∧ a' = a ∧ abv a' S ∧ abv (b' + 1) S ∧ t ≤ b' := by
  intro xs
  induction xs with
  | nil => intro a b v kept _ _ h1 h2 h3 h4 h5; exact ⟨a, b, [], by simp [scan], rfl, rfl, (fun p hp => nomatch hp), (fun p hp => nomatch hp), h4⟩
  | cons p r ih =>
    intro a b v kept hc hv h1 h2 h3 h4 h5
    obtain ⟨x, y⟩ := p
    obtain ⟨c1, c2, c3⟩ := canL_tail hc
    have hx := hv (x, y) List.mem_cons_self
    simp only at c2 c3 hx
    by_cases c : t + 1 < x
    · -- the rest is behind
      have c' : b + 1 < x := by rcases h5 with h5 | h5 <;> omega
      have hall : ∀ (zs : PL) (kept : PL), abv (t + 1) zs → scan f t a b kept zs = (a, b, kept ++ zs) := by
        intro zs
        induction zs with
        | nil => intro kept _; simp [scan]
        | cons q zs ih2 =>
          intro kept hz
          obtain ⟨x2, y2⟩ := q
          have := hz (x2, y2) List.mem_cons_self
          simp only at this
          rw [scan, if_pos (Or.inr this), ih2 _ (fun w hw => hz w (List.mem_cons_of_mem _ hw))]
          simp
      refine ⟨a, b, (x, y) :: r, hall _ _ ?_, ?_, rfl, ?_, ?_, h4⟩
      · intro w hw
        rcases List.mem_cons.mp hw with rfl | hw
        · exact c
        · have := c3 w hw; omega
      · rw [ins, if_neg (by omega), if_pos c']
      · intro w hw
        rcases List.mem_cons.mp hw with rfl | hw
        · simp only; omega
        · have := c3 w hw; omega
      · intro w hw
        rcases List.mem_cons.mp hw with rfl | hw
        · exact c'
        · have := c3 w hw; omega
    · have hb : b = t := by rcases h5 with h5 | h5 <;> omega
      rw [scan, if_neg (by rintro (q | q) <;> omega), ins, if_neg (show ¬ y + 1 < a by omega), if_neg (show ¬ b + 1 < x by omega), if_neg (show ¬ x < a by omega)]
      by_cases cb : b < y
      · rw [if_pos cb]
        exact ih a y (y + 1) kept c1 c3 h1 (by omega) h3 (by omega) (Or.inr (by omega))
      · rw [if_neg cb]
        exact ih a b (y + 1) kept c1 c3 h1 (by omega) h3 h4 (Or.inl hb)
theorem scan_ins (f t : Int) (hft : f ≤ t) : ∀ (xs : PL) (kept : PL), canL xs →
    ∃ a' b' P S, scan f t f t kept xs = (a', b', kept ++ P ++ S) ∧ ins f t xs = P ++ (a', b') :: S ∧ (∀ p ∈ P, p.1 ≤ a') ∧ abv a' S := by
  intro xs
  induction xs with
  | nil => intro kept _; exact ⟨f, t, [], [], by simp [scan], rfl, (fun p hp => nomatch hp), (fun p hp => nomatch hp)⟩
  | cons p r ih =>
    intro kept hc
    obtain ⟨x, y⟩ := p
    obtain ⟨c1, c2, c3⟩ := canL_tail hc
    simp only at c2 c3
    by_cases c : y + 1 < f
    · obtain ⟨a', b', P, S, h1, h2, h3, h4⟩ := ih (kept ++ [(x, y)]) c1
      refine ⟨a', b', (x, y) :: P, S, ?_, ?_, ?_, h4⟩
      · rw [scan, if_pos (Or.inl c), h1]; simp
      · rw [ins, if_pos c, h2]; rfl
      · intro w hw
        rcases List.mem_cons.mp hw with rfl | hw
        · simp only
          -- a' is the hull's begin: at least min f (begins above y + 1)
          have : x < a' := by
            have hm : ∀ (zs : PL) (a b : Int), x < a → abv (y + 1) zs → ∀ (kp : PL), x < (scan f t a b kp zs).1 := by
              intro zs
              induction zs with
              | nil => intro a b h _ kp; exact h
              | cons q zs ih2 =>
                intro a b h hz kp
                obtain ⟨x2, y2⟩ := q
                have hq := hz (x2, y2) List.mem_cons_self
                simp only at hq
                have hz' : abv (y + 1) zs := fun w hw => hz w (List.mem_cons_of_mem _ hw)
                rw [scan]
                split
                · exact ih2 a b h hz' _
                · refine ih2 _ _ ?_ hz' _
                  split <;> omega
            have := hm r f t (by omega) c3 (kept ++ [(x, y)])
            rw [h1] at this; exact this
          omega
        · exact h3 w hw
    · by_cases c2' : t + 1 < x
      · obtain ⟨a', b', S, h1, h2, h3, h4, h5, h6⟩ := scan_mid f t ((x, y) :: r) f t f kept hc (by
          intro w hw
          rcases List.mem_cons.mp hw with rfl | hw
          · simp only; omega
          · have := c3 w hw; omega) (Int.le_refl _) (Int.le_refl _) hft (Int.le_refl _) (Or.inl rfl)
        exact ⟨a', b', [], S, by rw [h1]; simp, by rw [h2]; rfl, (fun p hp => nomatch hp), h4⟩
      · rw [scan, if_neg (by rintro (q | q) <;> omega), ins, if_neg c, if_neg c2']
        obtain ⟨a', b', S, h1, h2, h3, h4, h5, h6⟩ := scan_mid f t r (if x < f then x else f) (if t < y then y else t) (y + 1) kept c1 c3 (by split <;> omega) (by omega) hft (by split <;> omega) (by
          split
          · exact Or.inr (by omega)
          · exact Or.inl rfl)
        exact ⟨a', b', [], S, by rw [h1]; simp, by rw [h2]; rfl, (fun p hp => nomatch hp), h4⟩
theorem bub_suf (a b : Int) : ∀ (R Q T : PL), (∀ p ∈ R, a < p.1) → bub a b (R ++ Q) T = bub a b Q (R.reverse ++ T) := by
  intro R
  induction R with
  | nil => intro Q T _; rfl
  | cons p r ih =>
    intro Q T h
    obtain ⟨x, y⟩ := p
    have := h (x, y) List.mem_cons_self
    simp only at this
    rw [List.cons_append, bub, if_pos this, ih _ _ (fun w hw => h w (List.mem_cons_of_mem _ hw))]
    simp
theorem bub_pre (a b : Int) (P T : PL) (h : ∀ p ∈ P, p.1 ≤ a) : bub a b P.reverse T = P ++ (a, b) :: T := by
  cases hr : P.reverse with
  | nil => rw [List.reverse_eq_nil_iff] at hr; subst hr; rfl
  | cons p r =>
    obtain ⟨x, y⟩ := p
    have hm : (x, y) ∈ P := by rw [← List.mem_reverse, hr]; exact List.mem_cons_self
    have := h _ hm
    simp only at this
    rw [bub, if_neg (by omega)]
    have : P = r.reverse ++ [(x, y)] := by
      rw [← List.reverse_reverse P, hr]; simp
    rw [this]; simp
theorem bub_scan {f t : Int} (hft : f ≤ t) {xs : PL} (hc : canL xs) {a b : Int} {kept : PL} (h : scan f t f t [] xs = (a, b, kept)) : bub a b kept.reverse [] = ins f t xs := by
  obtain ⟨a', b', P, S, h1, h2, h3, h4⟩ := scan_ins f t hft xs [] hc
  rw [h] at h1
  simp only [List.nil_append, Prod.mk.injEq] at h1
  obtain ⟨rfl, rfl, rfl⟩ := h1
  rw [List.reverse_append, bub_suf a b _ _ _ (fun p hp => h4 p (List.mem_reverse.mp hp)), bub_pre a b P _ h3, h2]
  simp
-- what ins gives
def memL (xs : PL) (z : Int) : Prop := ∃ p ∈ xs, p.1 ≤ z ∧ z ≤ p.2
theorem memL_nil {z : Int} : ¬ memL [] z := fun ⟨p, h, _⟩ => by cases h
theorem memL_cons {p : Int × Int} {t : PL} {z : Int} : memL (p :: t) z ↔ (p.1 ≤ z ∧ z ≤ p.2) ∨ memL t z := by
  constructor
  · rintro ⟨q, hq, h⟩
    rcases List.mem_cons.mp hq with rfl | hq
    · exact Or.inl h
    · exact Or.inr ⟨q, hq, h⟩
  · rintro (h | ⟨q, hq, h⟩)
    · exact ⟨p, List.mem_cons_self, h⟩
    · exact ⟨q, List.mem_cons_of_mem _ hq, h⟩
theorem ins_mem : ∀ (xs : PL) (a b z : Int), a ≤ b → canL xs → (memL (ins a b xs) z ↔ memL xs z ∨ (a ≤ z ∧ z ≤ b)) := by
  intro xs
  induction xs with
  | nil => intro a b z h _; rw [ins, memL_cons]; simp only; constructor
           · rintro (h | h)
             · exact Or.inr h
             · exact absurd h memL_nil
           · rintro (h | h)
             · exact absurd h memL_nil
             · exact Or.inl h
  | cons p r ih =>
    intro a b z h hc
    obtain ⟨x, y⟩ := p
    obtain ⟨c1, c2, c3⟩ := canL_tail hc
    simp only at c2
    rw [ins]
    split
    · rw [memL_cons, memL_cons, ih a b z h c1]; simp only; grind
    · split
      · rw [memL_cons]; simp only; grind
      · rw [ih _ _ z (by split <;> split <;> omega) c1, memL_cons]
        simp only
        constructor
        · rintro (q | q)
          · exact Or.inl (Or.inr q)
          · by_cases q1 : x ≤ z ∧ z ≤ y
            · exact Or.inl (Or.inl q1)
            · right
              split at q <;> split at q <;> omega
        · rintro ((q | q) | q)
          · right; split <;> split <;> omega
          · exact Or.inl q
          · right; split <;> split <;> omega
theorem ins_abv : ∀ (xs : PL) (a b v : Int), v < a → abv v xs → abv v (ins a b xs) := by
  intro xs
  induction xs with
  | nil => intro a b v h _ p hp; rw [ins, List.mem_singleton] at hp; subst hp; exact h
  | cons q r ih =>
    intro a b v h hv
    obtain ⟨x, y⟩ := q
    have hx := hv (x, y) List.mem_cons_self
    have hr : abv v r := fun w hw => hv w (List.mem_cons_of_mem _ hw)
    simp only at hx
    rw [ins]
    split
    · intro p hp
      rcases List.mem_cons.mp hp with rfl | hp
      · exact hx
      · exact ih a b v h hr p hp
    · split
      · intro p hp
        rcases List.mem_cons.mp hp with rfl | hp
        · exact h
        · exact hv p hp
      · exact ih _ _ v (by split <;> omega) hr
theorem ins_can : ∀ (xs : PL) (a b : Int), a ≤ b → canL xs → canL (ins a b xs) := by
  intro xs
  induction xs with
  | nil => intro a b h _; exact h
  | cons q r ih =>
    intro a b h hc
    obtain ⟨x, y⟩ := q
    obtain ⟨c1, c2, c3⟩ := canL_tail hc
    simp only at c2 c3
    rw [ins]
    split
    · exact canL_cons (ih a b h c1) c2 (ins_abv r a b (y + 1) (by omega) c3)
    · split
      · exact canL_cons hc h (fun w hw => by
          rcases List.mem_cons.mp hw with rfl | hw
          · simp only; omega
          · have := c3 w hw; simp only; omega)
      · exact ih _ _ (by split <;> split <;> omega) c1
theorem ins_len : ∀ (xs : PL) (a b : Int), (ins a b xs).length ≤ xs.length + 1 ∧ 0 < (ins a b xs).length := by
  intro xs
  induction xs with
  | nil => intro a b; exact ⟨Nat.le_refl _, Nat.zero_lt_one⟩
  | cons q r ih =>
    intro a b
    obtain ⟨x, y⟩ := q
    rw [ins]
    split
    · have := ih a b; simp only [List.length_cons]; omega
    · split
      · simp only [List.length_cons]; omega
      · have := ih (if x < a then x else a) (if b < y then y else b); simp only [List.length_cons]; omega
theorem ins_ok : ∀ (xs : PL) (a b : Int), a ≤ b → 0 ≤ a → b ≤ 1114111 → okL xs → okL (ins a b xs) := by
  intro xs
  induction xs with
  | nil => intro a b h h0 h1 _ p hp; rw [ins, List.mem_singleton] at hp; subst hp; exact ⟨h0, h, h1⟩
  | cons q r ih =>
    intro a b h h0 h1 hv
    obtain ⟨x, y⟩ := q
    have hx := hv (x, y) List.mem_cons_self
    have hr : okL r := fun w hw => hv w (List.mem_cons_of_mem _ hw)
    simp only at hx
    rw [ins]
    split
    · intro p hp
      rcases List.mem_cons.mp hp with rfl | hp
      · exact hx
      · exact ih a b h h0 h1 hr p hp
    · split
      · intro p hp
        rcases List.mem_cons.mp hp with rfl | hp
        · exact ⟨h0, h, h1⟩
        · exact hv p hp
      · exact ih _ _ (by split <;> split <;> omega) (by split <;> omega) (by split <;> omega) hr
theorem mod_add {sn : Nat} (hsn : sn ≤ 1) {low high mn : Nat → Int32} {p2 p3 : Int32} {xs : PL} (hc : canL xs) (hok : okL xs) (hl : xs.length < 600) (hs : seg low high (600 * sn) xs) (hm : mn sn = nI xs.length) (h0 : 0 ≤ p2.toInt) (h1 : p2.toInt ≤ p3.toInt) (h2 : p3.toInt ≤ 1114111) :
    ∃ low' high', f_MOD_add low high mn (nI sn) p2 p3 = some (low', high', upd mn sn (nI (ins p2.toInt p3.toInt xs).length)) ∧ seg low' high' (600 * sn) (ins p2.toInt p3.toInt xs) ∧ ∀ j, (j < 600 * sn ∨ 600 * sn + xs.length + 1 ≤ j) → low' j = low j ∧ high' j = high j := by
  have ec : (nI sn).toNatClampNeg = sn := nI_clamp (by omega)
  have hp : inb (nI sn) 2 = true := inb_nI (by omega) (by decide)
  have eB : (600 : Int32) * nI sn = nI (600 * sn) := by
    rcases (show sn = 0 ∨ sn = 1 by omega) with rfl | rfl <;> decide
  unfold f_MOD_add
  rw [eB]
  obtain ⟨a', b', l', h', kept', e1, e2, e3, e4, e5⟩ := add_scan (nI sn) p2 p3 (600 * sn) xs.length mn hp (by omega) (by omega) (by rw [ec]; exact hm) ⟨h0, by omega⟩ ⟨by omega, h2⟩ xs 0 [] p2 p3 low high (999999 - xs.length) hok (by simpa using hs) trivial (Nat.zero_le _) (by omega)
  rw [show 999999 - xs.length + xs.length + 1 = FU by rw [FU_s]; omega] at e1
  have e1' : f_MOD_add_L19 (nI sn) p2 p3 FU (p2, p3, nI (600 * sn), 0, 0, low, high, mn) = _ := e1
  rw [e1']
  obtain ⟨l2, h2', g1, g2, g3⟩ := add_bub (nI sn) p2 p3 (600 * sn) mn hp (by omega) a' b' kept'.length kept'.reverse [] l' h' (999999 - kept'.length) (by omega) (by simp) (by rw [List.reverse_reverse]; exact e3) trivial
  rw [List.length_reverse, show 999999 - kept'.length + kept'.length + 1 = FU by rw [FU_s]; omega] at g1
  have hb := bub_scan h1 hc e2
  rw [hb] at g2
  have hlen : (ins p2.toInt p3.toInt xs).length = kept'.length + 1 := by
    rw [← hb]
    have : ∀ (R S : PL) (a b : Int), (bub a b R S).length = R.length + S.length + 1 := by
      intro R
      induction R with
      | nil => intro S a b; simp [bub]
      | cons p r ih =>
        intro S a b
        obtain ⟨x, y⟩ := p
        rw [bub]
        split
        · rw [ih]; simp only [List.length_cons]; omega
        · simp only [List.length_append, List.length_reverse, List.length_cons]; omega
    rw [this]; simp
  refine ⟨l2, h2', ?_, g2, fun j hj => ?_⟩
  · rw [g1, hlen, ec]
  · have q1 := g3 j (by omega)
    have q2 := e5 j (by omega)
    rw [q1.1, q1.2, q2.1, q2.2]; exact ⟨rfl, rfl⟩

set_option maxRecDepth 100000
set_option linter.unusedVariables false
-- the class's add
def hend (t : Int) : PL → Int
  | [] => t
  | [(x, y)] => if t < y then y else t
  | _ :: q :: r => hend t (q :: r)
theorem ins_beh {a b : Int} {S : PL} (hc : canL S) (h : abv (b + 1) S) (hab : a ≤ b) : ins a b S = (a, b) :: S := by
  cases S with
  | nil => rfl
  | cons p r =>
    obtain ⟨x, y⟩ := p
    have h1 := h (x, y) List.mem_cons_self
    have h2 := (canL_tail hc).2.1
    simp only at h1 h2
    rw [ins, if_neg (by omega), if_pos h1]
theorem ins_hull {t : Int} {S : PL} (hS : abv (t + 1) S) : ∀ (M : PL) (a : Int), a ≤ t → canL (M ++ S) → (∀ p ∈ M, a ≤ p.1 ∧ p.1 ≤ t + 1) → ins a t (M ++ S) = (a, hend t M) :: S := by
  intro M
  induction M with
  | nil => intro a h hc _; exact ins_beh hc hS h
  | cons p r ih =>
    intro a h hc hm
    obtain ⟨x, y⟩ := p
    obtain ⟨c1, c2, c3⟩ := canL_tail hc
    have hx := hm (x, y) List.mem_cons_self
    simp only at c2 c3 hx
    rw [List.cons_append, ins, if_neg (by omega), if_neg (by omega), if_neg (by omega)]
    cases r with
    | nil =>
      rw [hend]
      refine ins_beh c1 ?_ (by split <;> omega)
      split
      · exact c3
      · exact hS
    | cons q r =>
      have h1 := c3 q List.mem_cons_self
      have h2 := (hm q (List.mem_cons_of_mem _ List.mem_cons_self)).2
      rw [if_neg (by omega), hend]
      exact ih a h c1 (fun w hw => hm w (List.mem_cons_of_mem _ hw))
theorem ins_pre {f t : Int} {R : PL} : ∀ (P : PL), (∀ p ∈ P, p.2 + 1 < f) → ins f t (P ++ R) = P ++ ins f t R := by
  intro P
  induction P with
  | nil => intro _; rfl
  | cons p r ih =>
    intro h
    obtain ⟨x, y⟩ := p
    have := h (x, y) List.mem_cons_self
    simp only at this
    rw [List.cons_append, ins, if_pos this, ih (fun w hw => h w (List.mem_cons_of_mem _ hw))]; rfl
def hbeg (f : Int) : PL → Int
  | [] => f
  | (x, _) :: _ => if x < f then x else f
theorem ins_pms {f t : Int} {P M S : PL} (hft : f ≤ t) (hc : canL (P ++ (M ++ S))) (hP : ∀ p ∈ P, p.2 + 1 < f) (hM : ∀ p ∈ M, ¬ p.2 + 1 < f ∧ p.1 ≤ t + 1) (hS : abv (t + 1) S) : ins f t (P ++ (M ++ S)) = P ++ (hbeg f M, hend t M) :: S := by
  rw [ins_pre P hP]
  have hc2 : canL (M ++ S) := by
    clear hM hS
    induction P with
    | nil => exact hc
    | cons p r ih => exact ih (canL_tail hc).1 (fun w hw => hP w (List.mem_cons_of_mem _ hw))
  congr 1
  cases M with
  | nil => exact ins_beh hc2 hS hft
  | cons p r =>
    obtain ⟨x, y⟩ := p
    obtain ⟨c1, c2, c3⟩ := canL_tail hc2
    have hx := hM (x, y) List.mem_cons_self
    simp only at c2 c3 hx
    rw [List.cons_append, ins, if_neg hx.1, if_neg (by omega), hbeg]
    cases r with
    | nil =>
      rw [hend]
      refine ins_beh c1 ?_ (by split <;> split <;> omega)
      split
      · exact c3
      · exact hS
    | cons q r =>
      have h1 := c3 q List.mem_cons_self
      have h2 := (hM q (List.mem_cons_of_mem _ List.mem_cons_self)).2
      rw [if_neg (show ¬ t < y by omega), hend]
      refine ins_hull hS (q :: r) _ (by split <;> omega) c1 (fun w hw => ⟨?_, (hM w (List.mem_cons_of_mem _ hw)).2⟩)
      have := c3 w (List.mem_append_left _ hw)
      split <;> omega
theorem hend_last {t : Int} : ∀ {M : PL} (h : M ≠ []), hend t M = if t < (M.getLast h).2 then (M.getLast h).2 else t := by
  intro M
  induction M with
  | nil => intro h; exact absurd rfl h
  | cons p r ih =>
    intro h
    obtain ⟨x, y⟩ := p
    cases r with
    | nil => rfl
    | cons q r =>
      have hq : q :: r ≠ [] := fun h => by cases h
      rw [hend, ih hq, List.getLast_cons hq]
theorem seg_last {l h : Nat → Int32} {B : Nat} {M : PL} (hm : M ≠ []) (hs : seg l h B M) : (h (B + M.length - 1)).toInt = (M.getLast hm).2 := by
  have e := List.dropLast_concat_getLast hm
  generalize hg : M.getLast hm = p at e ⊢
  obtain ⟨x, y⟩ := p
  rw [← e, seg_app] at hs
  have hl : M.dropLast.length = M.length - 1 := by simp
  have hp : 0 < M.length := List.length_pos_iff.mpr hm
  rw [hl] at hs
  have := hs.2.2.1
  rw [show B + M.length - 1 = B + (M.length - 1) by omega]; exact this
theorem cpy_at {f g : Nat → Int32} {sp dp n k : Nat} : va_cpy f g sp dp n k = if dp ≤ k ∧ k < dp + n then f (sp + (k - dp)) else g k := rfl
theorem seg_shift {l h l' h' : Nat → Int32} : ∀ {S : PL} {B C : Nat}, (∀ j, j < S.length → l' (C + j) = l (B + j) ∧ h' (C + j) = h (B + j)) → seg l h B S → seg l' h' C S := by
  intro S
  induction S with
  | nil => intro B C _ _; trivial
  | cons p r ih =>
    intro B C hj hs
    obtain ⟨x, y⟩ := p
    obtain ⟨h1, h2, h3⟩ := hs
    have := hj 0 (by simp)
    refine ⟨by rw [show C = C + 0 by rfl, this.1]; exact h1, by rw [show C = C + 0 by rfl, this.2]; exact h2, ih (fun j q => ?_) h3⟩
    have := hj (j + 1) (by simp only [List.length_cons]; omega)
    rw [show C + 1 + j = C + (j + 1) by omega, show B + 1 + j = B + (j + 1) by omega]; exact this
theorem set_add_end (p1 p2 : Int32) {P M S : PL} {b e : Nat → Int32} (hs : seg b e 0 (P ++ (M ++ S))) (hl : (P ++ (M ++ S)).length < 1024) :
    ∃ b' e', f_SET_add_L65 p1 p2 (nI P.length) (nI (P.length + M.length)) (nI (P ++ (M ++ S)).length) b e = some (nI (P.length + 1 + S.length), b', e') ∧ seg b' e' 0 (P ++ (hbeg p1.toInt M, hend p2.toInt M) :: S) := by
  simp only [List.length_append] at hl ⊢
  rw [seg_app, seg_app] at hs
  obtain ⟨s1, s2, s3⟩ := hs
  simp only [Nat.zero_add] at s2 s3
  have eb : nI (P.length + (M.length + S.length)) - nI (P.length + M.length) = nI S.length := by
    apply ti_eq.mpr
    rw [ti_sub (by rw [nI_toInt (by omega), nI_toInt (by omega)]; omega) (by rw [nI_toInt (by omega), nI_toInt (by omega)]; omega), nI_toInt (by omega), nI_toInt (by omega), nI_toInt (by omega)]
    omega
  have e1 : nI P.length + 1 = nI (P.length + 1) := nI_1 _
  have e2 : nI (P.length + 1) + nI S.length = nI (P.length + 1 + S.length) := nI_add _ _
  have c1 : (nI (P.length + 1)).toNatClampNeg = P.length + 1 := nI_clamp (by omega)
  have c0 : (nI P.length).toNatClampNeg = P.length := nI_clamp (by omega)
  have cM : (nI (P.length + M.length)).toNatClampNeg = P.length + M.length := nI_clamp (by omega)
  have cS : (nI S.length).toNatClampNeg = S.length := nI_clamp (by omega)
  have g0 : inb (nI P.length) 1024 = true := inb_nI (by omega) (by decide)
  have gc : cpok (nI (P.length + M.length)) (nI (P.length + 1)) (nI S.length) 1024 1024 = true := by
    unfold cpok
    rw [cM, c1, cS]
    exact decide_eq_true ⟨nI_pos (by omega), nI_pos (by omega), nI_pos (by omega), by omega, by omega⟩
  -- the last step
  have fin : ∀ v6 z0 : Int32, v6.toInt = hbeg p1.toInt M → z0.toInt = hend p2.toInt M → ∃ b' e', f_SET_add_L147 p1 p2 (nI P.length) (nI (P.length + M.length)) (nI S.length) v6 z0 (nI (P.length + (M.length + S.length))) b e = some (nI (P.length + 1 + S.length), b', e') ∧ seg b' e' 0 (P ++ (hbeg p1.toInt M, hend p2.toInt M) :: S) := by
    intro v6 z0 h6 h0
    unfold f_SET_add_L147
    rw [e1, grd_t gc, grd_t gc, grd_t g0, grd_t g0, e2, c1, c0, cM, cS]
    refine ⟨_, _, rfl, ?_⟩
    rw [seg_app]
    refine ⟨seg_out (l := b) (h := e) (fun j q1 q2 => ?_) s1, ?_, ?_, ?_⟩
    · rw [upd_ne (by omega), upd_ne (by omega), cpy_at, cpy_at, if_neg (by omega), if_neg (by omega)]; exact ⟨rfl, rfl⟩
    · rw [Nat.zero_add, upd_at]; exact h6
    · rw [Nat.zero_add, upd_at]; exact h0
    · refine seg_shift (l := b) (h := e) (fun j q => ?_) s3
      rw [upd_ne (by omega), upd_ne (by omega), cpy_at, cpy_at, if_pos (by omega), if_pos (by omega)]
      rw [show P.length + M.length + (0 + P.length + 1 + j - (P.length + 1)) = P.length + M.length + j by omega]
      exact ⟨rfl, rfl⟩
  have step2 : ∀ z : Int32, z.toInt = hbeg p1.toInt M → ∃ b' e', f_SET_add_L113 p1 p2 (nI P.length) (nI (P.length + M.length)) (nI S.length) z (nI (P.length + (M.length + S.length))) b e = some (nI (P.length + 1 + S.length), b', e') ∧ seg b' e' 0 (P ++ (hbeg p1.toInt M, hend p2.toInt M) :: S) := by
    intro z hz
    unfold f_SET_add_L113
    by_cases hm : M = []
    · subst hm
      rw [if_pos ((nI_leI (by omega) (by omega)).mpr (by simp))]
      exact fin z p2 hz rfl
    · have hp : 0 < M.length := List.length_pos_iff.mpr hm
      have em : nI (P.length + M.length) - 1 = nI (P.length + M.length - 1) := nI_sub1 (by omega)
      have cm : (nI (P.length + M.length - 1)).toNatClampNeg = P.length + M.length - 1 := nI_clamp (by omega)
      have gm : inb (nI (P.length + M.length - 1)) 1024 = true := inb_nI (by omega) (by decide)
      have hlst := seg_last hm s2
      rw [if_neg (fun q => by have := (nI_leI (by omega) (by omega)).mp q; omega), em, cm, grd_t gm]
      by_cases c : (M.getLast hm).2 ≤ p2.toInt
      · rw [if_pos (le_ti.mpr (by rw [hlst]; exact c))]
        exact fin z p2 hz (by rw [hend_last hm, if_neg (by omega)])
      · rw [if_neg (fun q => c (by have := le_ti.mp q; rw [hlst] at this; exact this)), grd_t gm]
        exact fin z _ hz (by rw [hend_last hm, if_pos (by omega), hlst])
  unfold f_SET_add_L65
  rw [eb, e1, e2, if_pos (show nI (P.length + 1 + S.length) ≤ 1024 from (nI_leI (b := 1024) (by omega) (by decide)).mpr (by omega))]
  cases M with
  | nil =>
    rw [if_pos ((nI_leI (by simp; omega) (by omega)).mpr (by simp))]
    exact step2 p1 rfl
  | cons p r =>
    obtain ⟨x, y⟩ := p
    have hx := s2.1
    rw [if_neg (fun q => by have := (nI_leI (by omega) (by omega)).mp q; simp only [List.length_cons] at this; omega), c0, grd_t g0]
    by_cases c : p1.toInt ≤ x
    · rw [if_pos (le_ti.mpr (by rw [hx]; exact c))]
      exact step2 p1 (by rw [hbeg, if_neg (by omega)])
    · rw [if_neg (fun q => c (by have := le_ti.mp q; rw [hx] at this; exact this)), grd_t g0]
      exact step2 _ (by rw [hbeg, if_pos (by omega), hx])
theorem set_add_hi (p1 p2 : Int32) (P : PL) (b e : Nat → Int32) (xs : PL) (hp2 : 0 ≤ p2.toInt ∧ p2.toInt ≤ 1114111) (hl : xs.length < 1024) (hs : seg b e 0 xs) :
    ∀ (R M : PL) (F : Nat), canL R → xs = P ++ (M ++ R) → ∃ M' S, f_SET_add_L37 p1 p2 (F + R.length + 1) (nI P.length, nI (P.length + M.length), nI xs.length, b, e) = f_SET_add_L65 p1 p2 (nI P.length) (nI (P.length + (M ++ M').length)) (nI xs.length) b e ∧ R = M' ++ S ∧ (∀ p ∈ M', p.1 ≤ p2.toInt + 1) ∧ abv (p2.toInt + 1) S := by
  intro R
  induction R with
  | nil =>
    intro M F _ hx
    refine ⟨[], [], ?_, rfl, (fun p hp => nomatch hp), (fun p hp => nomatch hp)⟩
    rw [f_SET_add_L37_s]
    unfold f_SET_add_B37
    have : xs.length = P.length + M.length := by rw [hx]; simp
    rw [if_pos ((nI_leI (by omega) (by omega)).mpr (by omega)), List.append_nil]
  | cons p r ih =>
    intro M F hc hx
    obtain ⟨x, y⟩ := p
    obtain ⟨c1, c2, c3⟩ := canL_tail hc
    simp only at c2 c3
    have hlen : xs.length = P.length + (M.length + (r.length + 1)) := by rw [hx]; simp
    have hsx := hs
    rw [hx, seg_app, seg_app] at hsx
    have hxx := hsx.2.2.1
    simp only [Nat.zero_add] at hxx
    have ep : (p2 + 1).toInt = p2.toInt + 1 := by rw [ti_add (by rw [ti1]; omega) (by rw [ti1]; omega), ti1]
    have cM : (nI (P.length + M.length)).toNatClampNeg = P.length + M.length := nI_clamp (by omega)
    have gM : inb (nI (P.length + M.length)) 1024 = true := inb_nI (by omega) (by decide)
    rw [show F + ((x, y) :: r).length + 1 = (F + r.length + 1) + 1 by simp only [List.length_cons]; omega, f_SET_add_L37_s]
    unfold f_SET_add_B37
    rw [if_neg (fun q => by have := (nI_leI (by omega) (by omega)).mp q; omega), cM, grd_t gM]
    by_cases c : p2.toInt + 1 < x
    · rw [if_pos (lt_ti.mpr (by rw [ep, hxx]; exact c))]
      refine ⟨[], (x, y) :: r, by rw [List.append_nil], rfl, (fun p hp => nomatch hp), ?_⟩
      intro w hw
      rcases List.mem_cons.mp hw with rfl | hw
      · exact c
      · have := c3 w hw; omega
    · rw [if_neg (fun q => c (by have := lt_ti.mp q; rw [ep, hxx] at this; exact this)), nI_1]
      obtain ⟨M', S, h1, h2, h3, h4⟩ := ih (M ++ [(x, y)]) F c1 (by rw [hx]; simp)
      rw [show P.length + (M ++ [(x, y)]).length = P.length + M.length + 1 by simp; omega] at h1
      refine ⟨(x, y) :: M', S, ?_, by rw [h2]; rfl, ?_, h4⟩
      · rw [h1]; simp
      · intro w hw
        rcases List.mem_cons.mp hw with rfl | hw
        · simp only; omega
        · exact h3 w hw
theorem set_add_lo (p1 p2 : Int32) (b e : Nat → Int32) (xs : PL) (hp1 : 0 ≤ p1.toInt ∧ p1.toInt ≤ 1114111) (hl : xs.length < 1024) (hs : seg b e 0 xs) :
    ∀ (R P : PL) (F : Nat), canL R → xs = P ++ R → (∀ p ∈ P, p.2 + 1 < p1.toInt) → ∃ P' Q, f_SET_add_L8 p1 p2 (F + R.length + 1) (nI P.length, nI xs.length, b, e) = f_SET_add_L37 p1 p2 FU (nI P'.length, nI P'.length, nI xs.length, b, e) ∧ xs = P' ++ Q ∧ (∀ p ∈ P', p.2 + 1 < p1.toInt) ∧ (∀ p ∈ Q, ¬ p.2 + 1 < p1.toInt) ∧ canL Q := by
  intro R
  induction R with
  | nil =>
    intro P F _ hx hP
    refine ⟨P, [], ?_, hx, hP, (fun p hp => nomatch hp), trivial⟩
    rw [f_SET_add_L8_s]
    unfold f_SET_add_B8
    have : xs.length = P.length := by rw [hx]; simp
    rw [if_pos ((nI_leI (by omega) (by omega)).mpr (by omega))]
  | cons p r ih =>
    intro P F hc hx hP
    obtain ⟨x, y⟩ := p
    obtain ⟨c1, c2, c3⟩ := canL_tail hc
    simp only at c2 c3
    have hlen : xs.length = P.length + (r.length + 1) := by rw [hx]; simp
    have hsx := hs
    rw [hx, seg_app] at hsx
    have hyy := hsx.2.2.1
    simp only [Nat.zero_add] at hyy
    have ep : (p1 - 1).toInt = p1.toInt - 1 := by rw [ti_sub (by rw [ti1]; omega) (by rw [ti1]; omega), ti1]
    have cM : (nI P.length).toNatClampNeg = P.length := nI_clamp (by omega)
    have gM : inb (nI P.length) 1024 = true := inb_nI (by omega) (by decide)
    rw [show F + ((x, y) :: r).length + 1 = (F + r.length + 1) + 1 by simp only [List.length_cons]; omega, f_SET_add_L8_s]
    unfold f_SET_add_B8
    rw [if_neg (fun q => by have := (nI_leI (by omega) (by omega)).mp q; omega), cM, grd_t gM]
    by_cases c : p1.toInt - 1 ≤ y
    · rw [if_pos (le_ti.mpr (by rw [ep, hyy]; exact c))]
      refine ⟨P, (x, y) :: r, rfl, hx, hP, ?_, hc⟩
      intro w hw
      rcases List.mem_cons.mp hw with rfl | hw
      · simp only; omega
      · have h1 := c3 w hw
        have h2 : w.1 ≤ w.2 := by
          have hcr : ∀ (zs : PL), canL zs → ∀ q ∈ zs, q.1 ≤ q.2 := by
            intro zs
            induction zs with
            | nil => intro _ q hq; cases hq
            | cons z zs ih3 =>
              intro hz q hq
              rcases List.mem_cons.mp hq with rfl | hq
              · exact (canL_tail hz).2.1
              · exact ih3 (canL_tail hz).1 q hq
          exact hcr r c1 w hw
        omega
    · rw [if_neg (fun q => c (by have := le_ti.mp q; rw [ep, hyy] at this; exact this)), nI_1]
      have := ih (P ++ [(x, y)]) F c1 (by rw [hx]; simp) (by
        intro w hw
        rcases List.mem_append.mp hw with hw | hw
        · exact hP w hw
        · rw [List.mem_singleton] at hw; subst hw; simp only; omega)
      rw [show (P ++ [(x, y)]).length = P.length + 1 by simp] at this
      exact this
theorem set_add {b e : Nat → Int32} {p1 p2 : Int32} {xs : PL} (hc : canL xs) (hl : xs.length < 1024) (hs : seg b e 0 xs) (h0 : 0 ≤ p1.toInt) (h1 : p1.toInt ≤ p2.toInt) (h2 : p2.toInt ≤ 1114111) :
    ∃ b' e', f_SET_add (nI xs.length) b e p1 p2 = some (nI (ins p1.toInt p2.toInt xs).length, b', e') ∧ seg b' e' 0 (ins p1.toInt p2.toInt xs) := by
  unfold f_SET_add
  rw [if_pos (le_ti.mpr h1)]
  obtain ⟨P, Q, a1, a2, a3, a4, a5⟩ := set_add_lo p1 p2 b e xs ⟨h0, by omega⟩ hl hs xs [] (999999 - xs.length) hc rfl (fun p hp => nomatch hp)
  rw [show 999999 - xs.length + xs.length + 1 = FU by rw [FU_s]; omega] at a1
  have a1' : f_SET_add_L8 p1 p2 FU (0, nI xs.length, b, e) = _ := a1
  have hq : Q.length ≤ xs.length := by rw [a2]; simp
  obtain ⟨M, S, b1, b2, b3, b4⟩ := set_add_hi p1 p2 P b e xs ⟨by omega, h2⟩ hl hs Q [] (999999 - Q.length) a5 (by rw [a2]; rfl)
  rw [show 999999 - Q.length + Q.length + 1 = FU by rw [FU_s]; omega] at b1
  have b1' : f_SET_add_L37 p1 p2 FU (nI P.length, nI P.length, nI xs.length, b, e) = _ := b1
  rw [a1', b1', List.nil_append]
  subst b2
  subst a2
  obtain ⟨b', e', d1, d2⟩ := set_add_end p1 p2 hs hl
  have hi := ins_pms (f := p1.toInt) (t := p2.toInt) h1 hc a3 (fun p hp => ⟨a4 p (List.mem_append_left _ hp), b3 p hp⟩) b4
  rw [← hi] at d2
  refine ⟨b', e', ?_, d2⟩
  rw [d1, hi]
  simp only [List.length_append, List.length_cons]
  rw [show P.length + 1 + S.length = P.length + (S.length + 1) by omega]
theorem set_add_no {b e : Nat → Int32} {p1 p2 n : Int32} (h : p2.toInt < p1.toInt) : f_SET_add n b e p1 p2 = some (n, b, e) := by
  unfold f_SET_add
  rw [if_neg (fun q => by have := le_ti.mp q; omega)]

set_option maxRecDepth 100000
set_option linter.unusedVariables false
def compl (nx : Int) : PL → PL
  | [] => if nx ≤ 1114111 then [(nx, 1114111)] else []
  | (x, y) :: t => if nx < x then (nx, x - 1) :: compl (y + 1) t else compl (y + 1) t
theorem compl_len : ∀ (xs : PL) (nx : Int), (compl nx xs).length ≤ xs.length + 1 := by
  intro xs
  induction xs with
  | nil => intro nx; rw [compl]; split <;> simp
  | cons p t ih =>
    intro nx
    obtain ⟨x, y⟩ := p
    rw [compl]
    have := ih (y + 1)
    split <;> simp only [List.length_cons] <;> omega
theorem ti_last : (1114111 : Int32).toInt = 1114111 := rfl
theorem turn_loop : ∀ (R : PL) (K : PL) (i : Nat) (nx : Int32) (b e : Nat → Int32) (n F : Nat), okL R → seg b e 0 K → seg b e i R → K.length ≤ i → i + R.length = n → n < 1024 → 0 ≤ nx.toInt → nx.toInt ≤ 1114112 →
    ∃ b' e', f_SET_turnRound_L6 (F + R.length + 1) (nx, nI K.length, nI i, nI n, b, e) = some (nI (K ++ compl nx.toInt R).length, b', e') ∧ seg b' e' 0 (K ++ compl nx.toInt R) := by
  intro R
  induction R with
  | nil =>
    intro K i nx b e n F hok hk hr hki hin hn h0 h1
    simp only [List.length_nil, Nat.add_zero] at hin
    rw [f_SET_turnRound_L6_s]
    unfold f_SET_turnRound_B6
    rw [if_pos ((nI_leI (by omega) (by omega)).mpr (by omega)), compl]
    by_cases c : nx.toInt ≤ 1114111
    · have g : inb (nI K.length) 1024 = true := inb_nI (by omega) (by decide)
      have ec : (nI K.length).toNatClampNeg = K.length := nI_clamp (by omega)
      rw [if_neg (fun q => by have := lt_ti.mp q; rw [ti_last] at this; omega), if_neg (fun q => by have := (nI_leI (a := 1024) (by decide) (by omega)).mp q; omega), grd_t g, grd_t g, ec, nI_1, if_pos c]
      refine ⟨upd b K.length nx, upd e K.length 1114111, by rw [List.length_append]; rfl, ?_⟩
      rw [seg_app]
      refine ⟨seg_out (l := b) (h := e) (fun j q1 q2 => ?_) hk, ?_, ?_, trivial⟩
      · rw [upd_ne (by omega), upd_ne (by omega)]; exact ⟨rfl, rfl⟩
      · rw [Nat.zero_add, upd_at]
      · rw [Nat.zero_add, upd_at]; rfl
    · rw [if_pos (lt_ti.mpr (by rw [ti_last]; omega)), if_neg c, List.append_nil]
      exact ⟨b, e, rfl, hk⟩
  | cons p r ih =>
    intro K i nx b e n F hok hk hr hki hin hn h0 h1
    obtain ⟨x, y⟩ := p
    obtain ⟨r1, r2, r3⟩ := hr
    simp only [List.length_cons] at hin
    have hxy := hok (x, y) List.mem_cons_self
    simp only at hxy
    have hok' : okL r := fun q hq => hok q (List.mem_cons_of_mem _ hq)
    have gi : inb (nI i) 1024 = true := inb_nI (by omega) (by decide)
    have ei : (nI i).toNatClampNeg = i := nI_clamp (by omega)
    have gk : inb (nI K.length) 1024 = true := inb_nI (by omega) (by decide)
    have ek : (nI K.length).toNatClampNeg = K.length := nI_clamp (by omega)
    have ee : (e i + 1).toInt = y + 1 := by rw [ti_add (by rw [r2, ti1]; omega) (by rw [r2, ti1]; omega), r2, ti1]
    have eb : (b i - 1).toInt = x - 1 := by rw [ti_sub (by rw [r1, ti1]; omega) (by rw [r1, ti1]; omega), r1, ti1]
    rw [show F + ((x, y) :: r).length + 1 = (F + r.length + 1) + 1 by simp only [List.length_cons]; omega, f_SET_turnRound_L6_s]
    unfold f_SET_turnRound_B6 f_SET_turnRound_L56
    rw [if_neg (fun q => by have := (nI_leI (by omega) (by omega)).mp q; omega), ei, grd_t gi, grd_t gi, compl]
    by_cases c : nx.toInt < x
    · rw [if_neg (fun q => by have := le_ti.mp q; rw [r1] at this; omega), grd_t gk, grd_t gk, ek, nI_1, nI_1, if_pos c]
      obtain ⟨b', e', q1, q2⟩ := ih (K ++ [(nx.toInt, x - 1)]) (i + 1) (e i + 1) (upd b K.length nx) (upd e K.length (b i - 1)) n F hok' (by
        rw [seg_app]
        refine ⟨seg_out (l := b) (h := e) (fun j q1 q2 => ?_) hk, ?_, ?_, trivial⟩
        · rw [upd_ne (by omega), upd_ne (by omega)]; exact ⟨rfl, rfl⟩
        · rw [Nat.zero_add, upd_at]
        · rw [Nat.zero_add, upd_at, eb]) (by
        refine seg_out (l := b) (h := e) (fun j q1 q2 => ?_) r3
        rw [upd_ne (by omega), upd_ne (by omega)]; exact ⟨rfl, rfl⟩) (by simp; omega) (by omega) hn (by rw [ee]; omega) (by rw [ee]; omega)
      rw [ee, List.append_assoc] at q1 q2
      rw [show (K ++ [(nx.toInt, x - 1)]).length = K.length + 1 by simp] at q1
      exact ⟨b', e', q1, q2⟩
    · rw [if_pos (le_ti.mpr (by rw [r1]; omega)), nI_1, if_neg c]
      obtain ⟨b', e', q1, q2⟩ := ih K (i + 1) (e i + 1) b e n F hok' hk r3 (by omega) (by omega) hn (by rw [ee]; omega) (by rw [ee]; omega)
      rw [ee] at q1 q2
      exact ⟨b', e', q1, q2⟩
theorem set_turn {b e : Nat → Int32} {xs : PL} (hok : okL xs) (hl : xs.length < 1024) (hs : seg b e 0 xs) : ∃ b' e', f_SET_turnRound (nI xs.length) b e = some (nI (compl 0 xs).length, b', e') ∧ seg b' e' 0 (compl 0 xs) := by
  unfold f_SET_turnRound
  obtain ⟨b', e', q1, q2⟩ := turn_loop xs [] 0 0 b e xs.length (999999 - xs.length) hok trivial hs (Nat.zero_le _) (by omega) hl (by decide) (by decide)
  rw [show 999999 - xs.length + xs.length + 1 = FU by rw [FU_s]; omega] at q1
  exact ⟨b', e', q1, q2⟩
-- the complement's members
theorem compl_mem : ∀ (xs : PL) (nx z : Int), canL xs → okL xs → abv (nx - 1) xs → (memL (compl nx xs) z ↔ nx ≤ z ∧ z ≤ 1114111 ∧ ¬ memL xs z) := by
  intro xs
  induction xs with
  | nil =>
    intro nx z _ _ _
    rw [compl]
    split
    · rw [memL_cons]
      simp only
      constructor
      · rintro (h | h)
        · exact ⟨h.1, h.2, memL_nil⟩
        · exact absurd h memL_nil
      · intro h; exact Or.inl ⟨h.1, h.2.1⟩
    · constructor
      · intro h; exact absurd h memL_nil
      · intro h; omega
  | cons p t ih =>
    intro nx z hc hok hv
    obtain ⟨x, y⟩ := p
    obtain ⟨c1, c2, c3⟩ := canL_tail hc
    have hx := hv (x, y) List.mem_cons_self
    have hxy := hok (x, y) List.mem_cons_self
    simp only at c2 c3 hx hxy
    have hi := ih (y + 1) z c1 (fun q hq => hok q (List.mem_cons_of_mem _ hq)) (fun w hw => by have := c3 w hw; omega)
    have hlow : memL t z → y + 1 < z := by
      rintro ⟨q, hq, h1, h2⟩
      have := c3 q hq; omega
    rw [compl]
    split
    · rw [memL_cons, hi, memL_cons]
      simp only
      constructor
      · rintro (h | h)
        · refine ⟨h.1, by omega, ?_⟩
          rintro (q | q)
          · omega
          · have := hlow q; omega
        · refine ⟨by omega, h.2.1, ?_⟩
          rintro (q | q)
          · omega
          · exact h.2.2 q
      · rintro ⟨h1, h2, h3⟩
        by_cases c : z < x
        · exact Or.inl ⟨h1, by omega⟩
        · right
          refine ⟨?_, h2, fun q => h3 (Or.inr q)⟩
          by_cases c' : z ≤ y
          · exact absurd (Or.inl ⟨by omega, c'⟩) h3
          · omega
    · rw [hi, memL_cons]
      simp only
      constructor
      · rintro ⟨h1, h2, h3⟩
        refine ⟨by omega, h2, ?_⟩
        rintro (q | q)
        · omega
        · exact h3 q
      · rintro ⟨h1, h2, h3⟩
        refine ⟨?_, h2, fun q => h3 (Or.inr q)⟩
        by_cases c' : z ≤ y
        · exact absurd (Or.inl ⟨by omega, c'⟩) h3
        · omega
theorem compl_can : ∀ (xs : PL) (nx : Int), canL xs → okL xs → abv (nx - 1) xs → canL (compl nx xs) ∧ abv (nx - 1) (compl nx xs) := by
  intro xs
  induction xs with
  | nil =>
    intro nx _ _ _
    rw [compl]
    split
    · rename_i h
      exact ⟨h, fun w hw => by rw [List.mem_singleton] at hw; subst hw; simp only; omega⟩
    · exact ⟨trivial, (fun w hw => nomatch hw)⟩
  | cons p t ih =>
    intro nx hc hok hv
    obtain ⟨x, y⟩ := p
    obtain ⟨c1, c2, c3⟩ := canL_tail hc
    have hx := hv (x, y) List.mem_cons_self
    simp only at c2 c3 hx
    obtain ⟨i1, i2⟩ := ih (y + 1) c1 (fun q hq => hok q (List.mem_cons_of_mem _ hq)) (fun w hw => by have := c3 w hw; omega)
    rw [compl]
    split
    · rename_i h
      refine ⟨canL_cons i1 (by simp only; omega) (fun w hw => by have := i2 w hw; simp only; omega), ?_⟩
      intro w hw
      rcases List.mem_cons.mp hw with rfl | hw
      · simp only; omega
      · have := i2 w hw; omega
    · exact ⟨i1, fun w hw => by have := i2 w hw; omega⟩
theorem compl_ok : ∀ (xs : PL) (nx : Int), canL xs → okL xs → 0 ≤ nx → okL (compl nx xs) := by
  intro xs
  induction xs with
  | nil =>
    intro nx _ _ h0
    rw [compl]
    split
    · rename_i h
      exact fun w hw => by rw [List.mem_singleton] at hw; subst hw; exact ⟨h0, h, Int.le_refl _⟩
    · exact (fun w hw => nomatch hw)
  | cons p t ih =>
    intro nx hc hok h0
    obtain ⟨x, y⟩ := p
    obtain ⟨c1, c2, c3⟩ := canL_tail hc
    have hxy := hok (x, y) List.mem_cons_self
    simp only at c2 c3 hxy
    have hi := ih (y + 1) c1 (fun q hq => hok q (List.mem_cons_of_mem _ hq)) (by omega)
    rw [compl]
    split
    · rename_i h
      intro w hw
      rcases List.mem_cons.mp hw with rfl | hw
      · exact ⟨h0, by simp only; omega, by simp only; omega⟩
      · exact hi w hw
    · exact hi
-- one canonical list for one set
theorem canL_uniq : ∀ (xs ys : PL), canL xs → canL ys → (∀ z, memL xs z ↔ memL ys z) → xs = ys := by
  intro xs
  induction xs with
  | nil =>
    intro ys _ hy h
    cases ys with
    | nil => rfl
    | cons q t =>
      exact absurd ((h q.1).mpr ⟨q, List.mem_cons_self, Int.le_refl _, (canL_tail hy).2.1⟩) memL_nil
  | cons p s ih =>
    intro ys hx hy h
    obtain ⟨x, y⟩ := p
    cases ys with
    | nil => exact absurd ((h x).mp ⟨(x, y), List.mem_cons_self, Int.le_refl _, (canL_tail hx).2.1⟩) memL_nil
    | cons q t =>
      obtain ⟨x', y'⟩ := q
      obtain ⟨a1, a2, a3⟩ := canL_tail hx
      obtain ⟨b1, b2, b3⟩ := canL_tail hy
      simp only at a2 a3 b2 b3
      have la : ∀ z, memL s z → y + 1 < z := by
        rintro z ⟨q, hq, h1, h2⟩
        have := a3 q hq; omega
      have lb : ∀ z, memL t z → y' + 1 < z := by
        rintro z ⟨q, hq, h1, h2⟩
        have := b3 q hq; omega
      have hm : ∀ z, ((x ≤ z ∧ z ≤ y) ∨ memL s z) ↔ ((x' ≤ z ∧ z ≤ y') ∨ memL t z) := by
        intro z
        have := h z
        rw [memL_cons, memL_cons] at this
        exact this
      have e1 : x = x' := by
        have u1 := (hm x).mp (Or.inl ⟨Int.le_refl _, a2⟩)
        have u2 := (hm x').mpr (Or.inl ⟨Int.le_refl _, b2⟩)
        have v1 : x' ≤ x := by
          rcases u1 with u | u
          · omega
          · have := lb x u; omega
        have v2 : x ≤ x' := by
          rcases u2 with u | u
          · omega
          · have := la x' u; omega
        omega
      subst e1
      have e2 : y = y' := by
        rcases Int.lt_trichotomy y y' with q | q | q
        · have := (hm (y + 1)).mpr (Or.inl ⟨by omega, by omega⟩)
          rcases this with u | u
          · omega
          · have := la (y + 1) u; omega
        · exact q
        · have := (hm (y' + 1)).mp (Or.inl ⟨by omega, by omega⟩)
          rcases this with u | u
          · omega
          · have := lb (y' + 1) u; omega
      subst e2
      congr 1
      refine ih t a1 b1 (fun z => ?_)
      constructor
      · intro q
        have := la z q
        rcases (hm z).mp (Or.inr q) with u | u
        · omega
        · exact u
      · intro q
        have := lb z q
        rcases (hm z).mpr (Or.inr q) with u | u
        · omega
        · exact u

