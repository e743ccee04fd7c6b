set_option maxRecDepth 100000
set_option linter.unusedVariables false
theorem p1_rdC (p : Int32) (h1 : ¬ p < 0) (h2 : p ≤ 15) : ∃ x, f_PN_read 0 0 (-1) 0 0 0 0 0 0 0 (-1) 0 false 0 (-1) false false 0 0 0 0 0 (-1) false 0 0 0 0 false (fun _ => 0) (fun _ => 0) (fun _ => 0) (fun _ => 0) (fun _ => 0) (fun _ => 0) (fun _ => 0) (fun _ => 0) (fun _ => 0) (fun _ => 0) (fun _ => 0) (fun _ => 0) (fun _ => 0) (fun _ => 0) (fun _ => 0) (fun _ => 0) (fun _ => 0) (fun _ => 0) (fun _ => 0) (fun _ => 0) p = some x ∧ x.1 = some 0 := by
  unfold f_PN_read
  rw [if_neg h1, if_pos h2]
  exact ⟨_, rfl, rfl⟩
theorem p1_rdM (mod_like mod_sets mod_large mod_named : Nat → Int32) (p : Int32) (h1 : ¬ p < 0) (h2 : p ≤ 15) : ∃ x, f_MOD_read 0 0 0 0 0 (-1) 0 0 0 0 0 false 0 false 0 0 (fun _ => 0) (fun _ => 0) (fun _ => 0) (fun _ => 0) (fun _ => 0) (fun _ => 0) (fun _ => 0) (fun _ => 0) (fun _ => 0) (fun _ => 0) (fun _ => 0) (fun _ => 0) (fun _ => 0) (fun _ => 0) (fun _ => 0) (fun _ => 0) (fun _ => 0) (fun _ => 0) (fun _ => 0) (fun _ => 0) (fun _ => 0) (fun _ => 0) mod_like mod_sets mod_large mod_named p = some x ∧ x.1 = 0 ∧ x.2.1 = 0 := by
  unfold f_MOD_read
  rw [if_neg h1, if_pos h2]
  exact ⟨_, rfl, rfl, rfl⟩

theorem p1_rdCx (p : Int32) (h : p < 0 ∨ ¬ p ≤ 15) : ∃ x, f_PN_read 0 0 (-1) 0 0 0 0 0 0 0 (-1) 0 false 0 (-1) false false 0 0 0 0 0 (-1) false 0 0 0 0 false (fun _ => 0) (fun _ => 0) (fun _ => 0) (fun _ => 0) (fun _ => 0) (fun _ => 0) (fun _ => 0) (fun _ => 0) (fun _ => 0) (fun _ => 0) (fun _ => 0) (fun _ => 0) (fun _ => 0) (fun _ => 0) (fun _ => 0) (fun _ => 0) (fun _ => 0) (fun _ => 0) (fun _ => 0) (fun _ => 0) p = some x ∧ x.1 = none := by
  unfold f_PN_read
  by_cases h1 : p < 0
  · rw [if_pos h1]; exact ⟨_, rfl, rfl⟩
  · rw [if_neg h1, if_neg (h.resolve_left h1)]; exact ⟨_, rfl, rfl⟩
theorem p1_rdMx (mod_like mod_sets mod_large mod_named : Nat → Int32) (p : Int32) (h : p < 0 ∨ ¬ p ≤ 15) : ∃ x, f_MOD_read 0 0 0 0 0 (-1) 0 0 0 0 0 false 0 false 0 0 (fun _ => 0) (fun _ => 0) (fun _ => 0) (fun _ => 0) (fun _ => 0) (fun _ => 0) (fun _ => 0) (fun _ => 0) (fun _ => 0) (fun _ => 0) (fun _ => 0) (fun _ => 0) (fun _ => 0) (fun _ => 0) (fun _ => 0) (fun _ => 0) (fun _ => 0) (fun _ => 0) (fun _ => 0) (fun _ => 0) (fun _ => 0) (fun _ => 0) mod_like mod_sets mod_large mod_named p = some x ∧ x.2.1 = 1 := by
  unfold f_MOD_read
  by_cases h1 : p < 0
  · rw [if_pos h1]; exact ⟨_, rfl, rfl⟩
  · rw [if_neg h1, if_neg (h.resolve_left h1)]; exact ⟨_, rfl, rfl⟩
theorem p1_i32_le {a b : Int32} (h : ¬ a < b) : b ≤ a := Int32.not_lt.mp h
theorem p1_q1_fault (th w a b : Int32) : ∃ r, f_PN_fault a b w = some r ∧ f_MOD_fault th a b w = some (r, 0) := by
  unfold f_PN_fault f_MOD_fault
  by_cases c0 : w = 0
  · rw [if_pos c0, if_pos c0]; exact ⟨_, rfl, rfl⟩
  · rw [if_neg c0, if_neg c0]
    by_cases c1 : w = 1
    · rw [if_pos c1, if_pos c1]; exact ⟨_, rfl, rfl⟩
    · rw [if_neg c1, if_neg c1]; exact ⟨_, rfl, rfl⟩
theorem p1_q1_count (th w a b c : Int32) : ∃ r, f_PN_count a b c w = some r ∧ f_MOD_count th a b c w = some (r, 0) := by
  unfold f_PN_count f_MOD_count
  by_cases c0 : w = 0
  · rw [if_pos c0, if_pos c0]; exact ⟨_, rfl, rfl⟩
  · rw [if_neg c0, if_neg c0]
    by_cases c1 : w = 1
    · rw [if_pos c1, if_pos c1]; exact ⟨_, rfl, rfl⟩
    · rw [if_neg c1, if_neg c1]
      by_cases c2 : w = 2
      · rw [if_pos c2, if_pos c2]; exact ⟨_, rfl, rfl⟩
      · rw [if_neg c2, if_neg c2]; exact ⟨_, rfl, rfl⟩
theorem p1_q1_node (th i w : Int32) (a b c d e f a2 b2 c2 d2 e2 f2 : Nat → Int32) : f_PN_node 0 a b c d e f i w = some (-1) ∧ f_MOD_node th 0 a2 b2 c2 d2 e2 f2 i w = some ((-1), 0) := by
  unfold f_PN_node f_TRE_told f_MOD_node
  by_cases c0 : i < 0
  · rw [if_pos c0, if_pos c0]; exact ⟨rfl, rfl⟩
  · rw [if_neg c0, if_neg c0, if_neg c0, if_neg c0]; exact ⟨rfl, rfl⟩
theorem p1_q1_range (th i k w : Int32) (a b c d a2 b2 c2 d2 : Nat → Int32) : f_PN_range 0 a b c d i k w = some (-1) ∧ f_MOD_range th 0 a2 b2 c2 d2 i k w = some ((-1), 0) := by
  unfold f_PN_range f_TRE_rangeEdge f_MOD_range
  by_cases c0 : i < 0
  · rw [if_pos c0, if_pos c0]; exact ⟨rfl, rfl⟩
  · rw [if_neg c0, if_neg c0, if_pos (p1_i32_le c0), if_pos (p1_i32_le c0)]; exact ⟨rfl, rfl⟩
theorem p1_q1_name (th k i : Int32) (a b a2 b2 : Nat → Int32) : f_PN_name 0 a b k i = some (-1) ∧ f_MOD_name th 0 a2 b2 k i = some ((-1), 0) := by
  unfold f_PN_name f_GRP_nameByte f_MOD_name
  by_cases c0 : k < 1
  · rw [if_pos c0, if_pos c0]; exact ⟨rfl, rfl⟩
  · have c1 : 0 < k := by
      have := p1_i32_le c0
      rw [Int32.le_iff_toInt_le] at this
      rw [Int32.lt_iff_toInt_lt]
      have e1 : (1 : Int32).toInt = 1 := rfl
      have e0 : (0 : Int32).toInt = 0 := rfl
      omega
    rw [if_neg c0, if_neg c0, if_pos c1, if_pos c1]; exact ⟨rfl, rfl⟩
theorem p1_bnd_s {α β : Type} {o : Option α} {x : α} {k : α → Option β} (h : o = some x) : bnd_ o k = k x := by rw [h]; rfl
theorem p1_law_end4 (mod_like mod_sets mod_large mod_named xs : Nat → Int32) (n : Nat) (pat_length : Int32) (mis_number : Int32) (mis_place : Int32) (set_pieces : Int32) (tre_nodes : Int32) (tre_ranges : Int32) (tre_waits : Int32) (grp_howMany : Int32) (opn_depth : Int32) (esc_kind : Int32) (esc_value : Int32) (esc_set : Nat) (esc_others : Bool) (esc_after : Int32) (cls_single : Int32) (opg_numbered : Bool) (opg_flagsAlone : Bool) (opg_nameAt : Int32) (opg_nameLength : Int32) (opg_flags : Int32) (opg_after : Int32) (rep_least : Int32) (rep_most : Int32) (rep_marked : Bool) (rep_after : Int32) (rep_number : Int32) (rdr_place : Int32) (rdr_flags : Int32) (rdr_repeatable : Bool) (mod_thrown : Int32) (mod_inHand : Int32) (mod_n : Int32) (mod_at : Int32) (mod_fault : Int32) (mod_place : Int32) (mod_nodes : Int32) (mod_ranges : Int32) (mod_numbered : Int32) (mod_depth : Int32) (mod_flags : Int32) (mod_repeatable : Bool) (mod_behind : Int32) (mod_notSet : Bool) (mod_least : Int32) (mod_greatest : Int32) (pat_bytes : Nat → Int32) (set_begins : Nat → Int32) (set_ends : Nat → Int32) (tre_kinds : Nat → Int32) (tre_values : Nat → Int32) (tre_mosts : Nat → Int32) (tre_owners : Nat → Int32) (tre_sizes : Nat → Int32) (tre_firstRanges : Nat → Int32) (tre_rangeCounts : Nat → Int32) (tre_begins : Nat → Int32) (tre_ends : Nat → Int32) (tre_waiting : Nat → Int32) (grp_lengths : Nat → Int32) (grp_letters : Nat → Int32) (opn_places : Nat → Int32) (opn_numbers : Nat → Int32) (opn_flagsAround : Nat → Int32) (opn_rows : Nat → Int32) (opn_parts : Nat → Int32) (mod_hand : Nat → Int32) (mod_text : Nat → Int32) (mod_kind : Nat → Int32) (mod_value : Nat → Int32) (mod_most : Nat → Int32) (mod_span : Nat → Int32) (mod_size : Nat → Int32) (mod_whose : Nat → Int32) (mod_rangeFrom : Nat → Int32) (mod_rangeMany : Nat → Int32) (mod_begins : Nat → Int32) (mod_ends : Nat → Int32) (mod_names : Nat → Int32) (mod_nameSize : Nat → Int32) (mod_opened : Nat → Int32) (mod_number : Nat → Int32) (mod_flagsBefore : Nat → Int32) (mod_rows : Nat → Int32) (mod_parts : Nat → Int32) (mod_low : Nat → Int32) (mod_high : Nat → Int32) (mod_many : Nat → Int32) (out : Nat → Int64) : f_LAW_L23 mod_like mod_sets mod_large mod_named xs 4 (n + 1) (0 + 4, pat_length, mis_number, mis_place, set_pieces, tre_nodes, tre_ranges, tre_waits, grp_howMany, opn_depth, esc_kind, esc_value, esc_set, esc_others, esc_after, cls_single, opg_numbered, opg_flagsAlone, opg_nameAt, opg_nameLength, opg_flags, opg_after, rep_least, rep_most, rep_marked, rep_after, rep_number, rdr_place, rdr_flags, rdr_repeatable, mod_thrown, mod_inHand, mod_n, mod_at, mod_fault, mod_place, mod_nodes, mod_ranges, mod_numbered, mod_depth, mod_flags, mod_repeatable, mod_behind, mod_notSet, mod_least, mod_greatest, pat_bytes, set_begins, set_ends, tre_kinds, tre_values, tre_mosts, tre_owners, tre_sizes, tre_firstRanges, tre_rangeCounts, tre_begins, tre_ends, tre_waiting, grp_lengths, grp_letters, opn_places, opn_numbers, opn_flagsAround, opn_rows, opn_parts, mod_hand, mod_text, mod_kind, mod_value, mod_most, mod_span, mod_size, mod_whose, mod_rangeFrom, mod_rangeMany, mod_begins, mod_ends, mod_names, mod_nameSize, mod_opened, mod_number, mod_flagsBefore, mod_rows, mod_parts, mod_low, mod_high, mod_many, out) = some true := by
  rw [f_LAW_L23_s]
  unfold f_LAW_B23
  rw [if_pos (show nI 4 - 4 < 0 + 4 by decide)]
theorem p1_pure (mod_like mod_sets mod_large mod_named xs : Nat → Int32) (L : Nat) (hL : L ≤ 4) : f_LAW_L23 mod_like mod_sets mod_large mod_named xs L FU (0, 0, 0, (-1), 0, 0, 0, 0, 0, 0, 0, (-1), 0, false, 0, (-1), false, false, 0, 0, 0, 0, 0, (-1), false, 0, 0, 0, 0, false, 0, 0, 0, 0, 0, (-1), 0, 0, 0, 0, 0, false, 0, false, 0, 0, (fun _ => 0), (fun _ => 0), (fun _ => 0), (fun _ => 0), (fun _ => 0), (fun _ => 0), (fun _ => 0), (fun _ => 0), (fun _ => 0), (fun _ => 0), (fun _ => 0), (fun _ => 0), (fun _ => 0), (fun _ => 0), (fun _ => 0), (fun _ => 0), (fun _ => 0), (fun _ => 0), (fun _ => 0), (fun _ => 0), (fun _ => 0), (fun _ => 0), (fun _ => 0), (fun _ => 0), (fun _ => 0), (fun _ => 0), (fun _ => 0), (fun _ => 0), (fun _ => 0), (fun _ => 0), (fun _ => 0), (fun _ => 0), (fun _ => 0), (fun _ => 0), (fun _ => 0), (fun _ => 0), (fun _ => 0), (fun _ => 0), (fun _ => 0), (fun _ => 0), (fun _ => 0), (fun _ => 0), (fun _ => 0)) = some true := by
  rcases (show L = 0 ∨ L = 1 ∨ L = 2 ∨ L = 3 ∨ L = 4 by omega) with rfl | rfl | rfl | rfl | rfl
  · rfl
  · rfl
  · rfl
  · rfl
  rw [FU_s, f_LAW_L23_s]
  unfold f_LAW_B23
  rw [if_neg (show ¬ nI 4 - 4 < 0 by decide), grd_t (show inb 0 4 = true by decide)]
  have g1 : inb (0 + 1) 4 = true := by decide
  have g2 : inb (0 + 2) 4 = true := by decide
  have g3 : inb (0 + 3) 4 = true := by decide
  generalize xs (0 : Int32).toNatClampNeg &&& 7 = w
  generalize xs (0 + 1 : Int32).toNatClampNeg = a
  generalize xs (0 + 2 : Int32).toNatClampNeg = b
  generalize xs (0 + 3 : Int32).toNatClampNeg = d
  by_cases c0 : w = 0
  · rw [if_pos c0, grd_t g1, grd_t g2, grd_t g3]
    generalize ((a.toInt64 <<< ((32 : Int32).toInt64 &&& 63)) ||| (b.toInt64 &&& 4294967295)) = v
    obtain ⟨r, h', B', G', e1, e2, -, -⟩ := put_eq (h := 0) (B := fun _ => 0) (G := fun _ => 0) (th := 0) v d (by decide) (fun i hi => rfl)
    rw [nI_0] at e1 e2
    rw [p1_bnd_s e1, grd_t g1, grd_t g2, grd_t g3, p1_bnd_s e2, if_pos rfl]
    exact p1_law_end4 ..
  rw [if_neg c0]
  by_cases c1 : w = 1
  · rw [if_pos c1, grd_t g1]
    by_cases h : a < 0 ∨ ¬ a ≤ 15
    · obtain ⟨x, e1, e2⟩ := p1_rdCx a h
      obtain ⟨y, f1, f2⟩ := p1_rdMx mod_like mod_sets mod_large mod_named a h
      rw [p1_bnd_s e1, grd_t g1, p1_bnd_s f1, p1_bnd_s (show f_MOD_thrown y.2.1 = some y.2.1 from rfl), e2, f2, if_pos (show (1 : Int32) = oR none from rfl), if_neg (show ¬ oR none = 0 by decide)]
      exact p1_law_end4 ..
    · have h1 : ¬ a < 0 := fun q => h (Or.inl q)
      have h2 : a ≤ 15 := Decidable.byContradiction fun q => h (Or.inr q)
      obtain ⟨x, e1, e2⟩ := p1_rdC a h1 h2
      obtain ⟨y, f1, f2, f3⟩ := p1_rdM mod_like mod_sets mod_large mod_named a h1 h2
      rw [p1_bnd_s e1, grd_t g1, p1_bnd_s f1, p1_bnd_s (show f_MOD_thrown y.2.1 = some y.2.1 from rfl), e2, f3, f2, if_pos (show (0 : Int32) = oR (some 0) from rfl), if_pos (show oR (some 0) = 0 from rfl), if_pos (by decide)]
      exact p1_law_end4 ..
  rw [if_neg c1]
  by_cases c2 : w = 2
  · obtain ⟨r, e1, e2⟩ := p1_q1_fault 0 a 0 (-1)
    rw [if_pos c2, grd_t g1, p1_bnd_s e1, grd_t g1, p1_bnd_s e2, if_pos rfl]
    exact p1_law_end4 ..
  rw [if_neg c2]
  by_cases c3 : w = 3
  · obtain ⟨r, e1, e2⟩ := p1_q1_count 0 a 0 0 0
    rw [if_pos c3, grd_t g1, p1_bnd_s e1, grd_t g1, p1_bnd_s e2, if_pos rfl]
    exact p1_law_end4 ..
  rw [if_neg c3]
  by_cases c4 : w = 4
  · rw [if_pos c4, grd_t g1, grd_t g2, p1_bnd_s (p1_q1_node 0 a b _ _ _ _ _ _ (fun _ => 0) (fun _ => 0) (fun _ => 0) (fun _ => 0) (fun _ => 0) (fun _ => 0)).1, grd_t g1, grd_t g2, p1_bnd_s (p1_q1_node 0 a b (fun _ => 0) (fun _ => 0) (fun _ => 0) (fun _ => 0) (fun _ => 0) (fun _ => 0) _ _ _ _ _ _).2, if_pos rfl]
    exact p1_law_end4 ..
  rw [if_neg c4]
  by_cases c5 : w = 5
  · rw [if_pos c5, grd_t g1, grd_t g2, grd_t g3, p1_bnd_s (p1_q1_range 0 a b d _ _ _ _ (fun _ => 0) (fun _ => 0) (fun _ => 0) (fun _ => 0)).1, grd_t g1, grd_t g2, grd_t g3, p1_bnd_s (p1_q1_range 0 a b d (fun _ => 0) (fun _ => 0) (fun _ => 0) (fun _ => 0) _ _ _ _).2, if_pos rfl]
    exact p1_law_end4 ..
  rw [if_neg c5]
  by_cases c6 : w = 6
  · rw [if_pos c6, grd_t g1, grd_t g2, p1_bnd_s (p1_q1_name 0 a b _ _ (fun _ => 0) (fun _ => 0)).1, grd_t g1, grd_t g2, p1_bnd_s (p1_q1_name 0 a b (fun _ => 0) (fun _ => 0) _ _).2, if_pos rfl]
    exact p1_law_end4 ..
  rw [if_neg c6]
  exact p1_law_end4 ..
theorem part_pure (xs : Nat → Int32) {L : Nat} (hL : L ≤ 4) : f_LAW_L23 (upd (upd (upd (upd (upd (upd (upd (upd (upd (upd (upd (upd (upd (upd (upd (upd (upd (upd (upd (upd (upd (upd (upd (upd (upd (upd (upd (upd (upd (upd (upd (upd (upd (upd (upd (upd (fun _ => 0) 0 97) 1 122) 2 32) 3 224) 4 246) 5 32) 6 248) 7 254) 8 32) 9 945) 10 969) 11 32) 12 1072) 13 1103) 14 32) 15 1104) 16 1119) 17 80) 18 107) 19 107) 20 (-8383)) 21 115) 22 115) 23 (-268)) 24 229) 25 229) 26 (-8262)) 27 181) 28 181) 29 (-775)) 30 962) 31 962) 32 (-1)) 33 962) 34 962) 35 31) (upd (upd (upd (upd (upd (upd (upd (upd (upd (upd (upd (upd (upd (upd (upd (upd (fun _ => 0) 0 48) 1 57) 2 9) 3 10) 4 12) 5 13) 6 32) 7 32) 8 48) 9 57) 10 65) 11 90) 12 95) 13 95) 14 97) 15 122) (upd (upd (upd (upd (upd (upd (upd (upd (upd (upd (upd (upd (upd (upd (upd (upd (upd (upd (upd (upd (upd (upd (upd (upd (upd (upd (upd (upd (fun _ => 0) 0 65) 1 90) 2 97) 3 122) 4 170) 5 170) 6 181) 7 181) 8 186) 9 186) 10 192) 11 214) 12 216) 13 246) 14 248) 15 687) 16 880) 17 1023) 18 1024) 19 1279) 20 48) 21 57) 22 178) 23 179) 24 185) 25 185) 26 188) 27 190) (upd (upd (upd (upd (upd (upd (upd (upd (upd (upd (upd (upd (upd (upd (upd (upd (upd (upd (upd (upd (upd (upd (fun _ => 0) 0 48) 1 57) 2 65) 3 90) 4 97) 5 122) 6 65) 7 90) 8 97) 9 122) 10 33) 11 47) 12 58) 13 64) 14 91) 15 96) 16 123) 17 126) 18 9) 19 13) 20 32) 21 32) xs L FU (0, 0, 0, (-1), 0, 0, 0, 0, 0, 0, 0, (-1), 0, false, 0, (-1), false, false, 0, 0, 0, 0, 0, (-1), false, 0, 0, 0, 0, false, 0, 0, 0, 0, 0, (-1), 0, 0, 0, 0, 0, false, 0, false, 0, 0, (fun _ => 0), (fun _ => 0), (fun _ => 0), (fun _ => 0), (fun _ => 0), (fun _ => 0), (fun _ => 0), (fun _ => 0), (fun _ => 0), (fun _ => 0), (fun _ => 0), (fun _ => 0), (fun _ => 0), (fun _ => 0), (fun _ => 0), (fun _ => 0), (fun _ => 0), (fun _ => 0), (fun _ => 0), (fun _ => 0), (fun _ => 0), (fun _ => 0), (fun _ => 0), (fun _ => 0), (fun _ => 0), (fun _ => 0), (fun _ => 0), (fun _ => 0), (fun _ => 0), (fun _ => 0), (fun _ => 0), (fun _ => 0), (fun _ => 0), (fun _ => 0), (fun _ => 0), (fun _ => 0), (fun _ => 0), (fun _ => 0), (fun _ => 0), (fun _ => 0), (fun _ => 0), (fun _ => 0), (fun _ => 0)) = some true := p1_pure _ _ _ _ xs L hL
