set_option maxRecDepth 100000
set_option linter.unusedVariables false
/-- behind the end of a row -/
theorem RS.row {N k nd rg ng dp : Nat} {R : List Nat} {r p : Nat → Nat} {flags : Int32} {rep : Bool} {kn vl mo ow sz fr rc bg en wt lens lets pls nus fas rws pts kn' vl' mo' sp' sz' wh' rf' rm' bg' en' nms nsz opd num fbf rws' pts' : Ar}
    (h : RS N k nd rg ng dp R r p flags rep kn vl mo ow sz fr rc bg en wt lens lets pls nus fas rws pts kn' vl' mo' sp' sz' wh' rf' rm' bg' en' nms nsz opd num fbf rws' pts') {Q : List Nat} {k' : Nat} {kn2 vl2 mo2 ow2 sz2 fr2 rc2 wt2 kn2' vl2' mo2' sp2' sz2' wh2' rf2' rm2' : Ar} (hk : k < k') (hN : k' ≤ N) (hl : R.length = p dp + Q.length)
    (ht : TR (nd + 1) rg (nd :: Q) kn2 vl2 mo2 ow2 sz2 fr2 rc2 bg en wt2 kn2' vl2' mo2' sp2' sz2' wh2' rf2' rm2' bg' en') :
    RS N k' (nd + 1) rg ng dp (nd :: Q) (setN r dp (r dp + 1)) (setN p dp 0) flags false kn2 vl2 mo2 ow2 sz2 fr2 rc2 bg en wt2 lens lets pls nus fas (upd rws dp (nI (r dp + 1))) (upd pts dp 0) kn2' vl2' mo2' sp2' sz2' wh2' rf2' rm2' bg' en' nms nsz opd num fbf (upd rws' dp (nI (r dp + 1))) (upd pts' dp 0) := by
  refine ⟨ht, hN, by have := h.nd_le; omega, by have := h.rg_le; omega, h.ng_le, h.dp_le, h.gr, h.gz, fun j hj => ?_, h.st, ?_, h.fl, fun q => by cases q⟩
  · obtain ⟨a1, a2, a3, a4⟩ := h.rw_ j hj
    by_cases c : j = dp
    · subst c
      rw [upd_at, upd_at, upd_at, upd_at, setN_at, setN_at]
      exact ⟨rfl, rfl, rfl, rfl⟩
    · rw [upd_ne c, upd_ne c, upd_ne c, upd_ne c, setN_ne c, setN_ne c]
      exact ⟨a1, a2, a3, a4⟩
  · have h1 := sumRP_set r p dp (r dp + 1) 0
    have h2 := h.rl
    simp only [List.length_cons]
    omega
theorem br_bar {len n : Int32} {B X : Ar} {N : Nat} (h : TX len B n X N) {lk tb tl tn : Ar} (hT : TB lk tb tl tn) {k : Nat} (hk : k < N) {nd rg ng dp : Nat} {R : List Nat} {r p : Nat → Nat} {xs ys : PL} {i_place : Int32} {s_pieces : Int32} {e_kind : Int32} {e_value : Int32} {e_set : Nat} {e_others : Bool} {e_after : Int32} {cl_single : Int32} {q_numbered : Bool} {q_flagsAlone : Bool} {q_nameAt : Int32} {q_nameLength : Int32} {q_flags : Int32} {q_after : Int32} {p_least : Int32} {p_most : Int32} {p_marked : Bool} {p_after : Int32} {p_number : Int32} {r_flags : Int32} {r_repeatable : Bool} {s_begins : Nat → Int32} {s_ends : Nat → Int32} {t_kinds : Nat → Int32} {t_values : Nat → Int32} {t_mosts : Nat → Int32} {t_owners : Nat → Int32} {t_sizes : Nat → Int32} {t_firstRanges : Nat → Int32} {t_rangeCounts : Nat → Int32} {t_begins : Nat → Int32} {t_ends : Nat → Int32} {t_waiting : Nat → Int32} {g_lengths : Nat → Int32} {g_letters : Nat → Int32} {o_places : Nat → Int32} {o_numbers : Nat → Int32} {o_flagsAround : Nat → Int32} {o_rows : Nat → Int32} {o_parts : Nat → Int32} {m_place : Int32} {m_behind : Int32} {m_notSet : Bool} {m_least : Int32} {m_greatest : Int32} {m_kind : Nat → Int32} {m_value : Nat → Int32} {m_most : Nat → Int32} {m_span : Nat → Int32} {m_size : Nat → Int32} {m_whose : Nat → Int32} {m_rangeFrom : Nat → Int32} {m_rangeMany : Nat → Int32} {m_begins : Nat → Int32} {m_ends : Nat → Int32} {m_names : Nat → Int32} {m_nameSize : Nat → Int32} {m_opened : Nat → Int32} {m_number : Nat → Int32} {m_flagsBefore : Nat → Int32} {m_rows : Nat → Int32} {m_parts : Nat → Int32} {m_low : Nat → Int32} {m_high : Nat → Int32} {m_many : Nat → Int32} (hM : MS m_low m_high m_many xs ys) (hS : RS N k nd rg ng dp R r p r_flags r_repeatable t_kinds t_values t_mosts t_owners t_sizes t_firstRanges t_rangeCounts t_begins t_ends t_waiting g_lengths g_letters o_places o_numbers o_flagsAround o_rows o_parts m_kind m_value m_most m_span m_size m_whose m_rangeFrom m_rangeMany m_begins m_ends m_names m_nameSize m_opened m_number m_flagsBefore m_rows m_parts) (hcls : rN len B (0, i_place, s_pieces, nI nd, nI rg, nI R.length, nI ng, nI dp, e_kind, e_value, e_set, e_others, e_after, cl_single, q_numbered, q_flagsAlone, q_nameAt, q_nameLength, q_flags, q_after, p_least, p_most, p_marked, p_after, p_number, nI k, r_flags, r_repeatable, s_begins, s_ends, t_kinds, t_values, t_mosts, t_owners, t_sizes, t_firstRanges, t_rangeCounts, t_begins, t_ends, t_waiting, g_lengths, g_letters, o_places, o_numbers, o_flagsAround, o_rows, o_parts) = bnd_ (f_RDR_endRow (nI nd) (nI rg) (nI R.length) (nI dp) r_repeatable t_kinds t_values t_mosts t_owners t_sizes t_firstRanges t_rangeCounts t_waiting o_rows o_parts) (fun x => some (0, i_place, s_pieces, x.1, nI rg, x.2.1, nI ng, nI dp, e_kind, e_value, e_set, e_others, e_after, cl_single, q_numbered, q_flagsAlone, q_nameAt, q_nameLength, q_flags, q_after, p_least, p_most, p_marked, p_after, p_number, nI k + 1, r_flags, x.2.2.1, s_begins, s_ends, x.2.2.2.1, x.2.2.2.2.1, x.2.2.2.2.2.1, x.2.2.2.2.2.2.1, x.2.2.2.2.2.2.2.1, x.2.2.2.2.2.2.2.2.1, x.2.2.2.2.2.2.2.2.2.1, t_begins, t_ends, x.2.2.2.2.2.2.2.2.2.2.1, g_lengths, g_letters, o_places, o_numbers, o_flagsAround, x.2.2.2.2.2.2.2.2.2.2.2.1, x.2.2.2.2.2.2.2.2.2.2.2.2))) (href : mS n X lk tb tl tn (nI k, 0, m_place, nI nd, nI rg, nI ng, nI dp, r_flags, r_repeatable, m_behind, m_notSet, m_least, m_greatest, m_kind, m_value, m_most, m_span, m_size, m_whose, m_rangeFrom, m_rangeMany, m_begins, m_ends, m_names, m_nameSize, m_opened, m_number, m_flagsBefore, m_rows, m_parts, m_low, m_high, m_many) = bnd_ (f_MOD_endRow (nI nd) (nI rg) (nI dp) r_repeatable m_kind m_value m_most m_span m_size m_whose m_rangeFrom m_rangeMany m_rows m_parts) (fun z => some (nI k + 1, 0, m_place, z.1, nI rg, nI ng, nI dp, r_flags, z.2.1, m_behind, m_notSet, m_least, m_greatest, z.2.2.1, z.2.2.2.1, z.2.2.2.2.1, z.2.2.2.2.2.1, z.2.2.2.2.2.2.1, z.2.2.2.2.2.2.2.1, z.2.2.2.2.2.2.2.2.1, z.2.2.2.2.2.2.2.2.2.1, m_begins, m_ends, m_names, m_nameSize, m_opened, m_number, m_flagsBefore, z.2.2.2.2.2.2.2.2.2.2.1, z.2.2.2.2.2.2.2.2.2.2.2, m_low, m_high, m_many))) : StepOK N k (rN len B (0, i_place, s_pieces, nI nd, nI rg, nI R.length, nI ng, nI dp, e_kind, e_value, e_set, e_others, e_after, cl_single, q_numbered, q_flagsAlone, q_nameAt, q_nameLength, q_flags, q_after, p_least, p_most, p_marked, p_after, p_number, nI k, r_flags, r_repeatable, s_begins, s_ends, t_kinds, t_values, t_mosts, t_owners, t_sizes, t_firstRanges, t_rangeCounts, t_begins, t_ends, t_waiting, g_lengths, g_letters, o_places, o_numbers, o_flagsAround, o_rows, o_parts)) (mS n X lk tb tl tn (nI k, 0, m_place, nI nd, nI rg, nI ng, nI dp, r_flags, r_repeatable, m_behind, m_notSet, m_least, m_greatest, m_kind, m_value, m_most, m_span, m_size, m_whose, m_rangeFrom, m_rangeMany, m_begins, m_ends, m_names, m_nameSize, m_opened, m_number, m_flagsBefore, m_rows, m_parts, m_low, m_high, m_many)) := by
  have hN := h.le
  have hd := hS.dp_le
  obtain ⟨Q, kn2, vl2, mo2, ow2, sz2, fr2, rc2, wt2, kn2', vl2', mo2', sp2', sz2', wh2', rf2', rm2', r0, r1, r2, r3⟩ := row_eq hS hN r_repeatable r_repeatable
  rw [hcls, href, bnd_s r1, bnd_s r2]
  have ek : nI k + 1 = nI (k + 1) := nI_1 k
  simp only
  rw [ek]
  exact ⟨_, _, rfl, rfl, Or.inr ⟨k + 1, by omega, rfl, rfl, nd + 1, rg, ng, dp, nd :: Q, setN r dp (r dp + 1), setN p dp 0, ⟨rfl, rfl, rfl, rfl, rfl, rfl⟩, ⟨rfl, rfl, rfl, rfl, rfl, rfl, rfl⟩, ⟨xs, ys, hM⟩, hS.row (by omega) (by omega) r0 r3⟩⟩
theorem RS.leave {N k nd rg ng d : Nat} {R : List Nat} {r p : Nat → Nat} {flags : Int32} {rep : Bool} {kn vl mo ow sz fr rc bg en wt lens lets pls nus fas rws pts kn' vl' mo' sp' sz' wh' rf' rm' bg' en' nms nsz opd num fbf rws' pts' : Ar}
    (h : RS N k nd rg ng (d + 1) R r p flags rep kn vl mo ow sz fr rc bg en wt lens lets pls nus fas rws pts kn' vl' mo' sp' sz' wh' rf' rm' bg' en' nms nsz opd num fbf rws' pts') {Q : List Nat} {k' nd2 : Nat} {a b a' b' : Int32} {kn2 vl2 mo2 ow2 sz2 fr2 rc2 wt2 kn2' vl2' mo2' sp2' sz2' wh2' rf2' rm2' : Ar} (hk : k < k') (hN : k' ≤ N) (hl : R.length = p (d + 1) + r (d + 1) + Q.length) (hn : nd2 ≤ nd + 2)
    (ht : TR (nd2 + 1) rg (nd2 :: Q) kn2 vl2 mo2 ow2 sz2 fr2 rc2 bg en wt2 kn2' vl2' mo2' sp2' sz2' wh2' rf2' rm2' bg' en') :
    RS N k' (nd2 + 1) rg ng d (nd2 :: Q) r (setN p d (p d + 1)) (fas (d + 1)) true kn2 vl2 mo2 ow2 sz2 fr2 rc2 bg en wt2 lens lets pls nus fas (upd rws (d + 1) a) (upd (upd pts (d + 1) b) d (upd pts (d + 1) b d + 1)) kn2' vl2' mo2' sp2' sz2' wh2' rf2' rm2' bg' en' nms nsz opd num fbf (upd rws' (d + 1) a') (upd (upd pts' (d + 1) b') d (upd pts' (d + 1) b' d + 1)) := by
  have hst := h.st (d + 1) (by omega) (by omega)
  refine ⟨ht, hN, by have := h.nd_le; omega, by have := h.rg_le; omega, h.ng_le, by have := h.dp_le; omega, h.gr, h.gz, fun j hj => ?_, fun j h1 hj => h.st j h1 (by omega), ?_, hst.2.2.2.1, fun q => by rw [setN_at]; omega⟩
  · obtain ⟨a1, a2, a3, a4⟩ := h.rw_ j (by omega)
    have c1 : j ≠ d + 1 := by omega
    have c2 : d ≠ d + 1 := by omega
    by_cases c : j = d
    · subst c
      rw [upd_ne c1, upd_ne c1, upd_at, upd_at, upd_ne c2, upd_ne c2, setN_at, a3, a4, nI_1]
      exact ⟨a1, a2, rfl, rfl⟩
    · rw [upd_ne c, upd_ne c, upd_ne c1, upd_ne c1, upd_ne c1, upd_ne c1, setN_ne c]
      exact ⟨a1, a2, a3, a4⟩
  · have h1 := sumRP_set r p d (r d) (p d + 1)
    have h2 := h.rl
    rw [sumRP] at h2
    have h3 : sumRP (setN r d (r d)) (setN p d (p d + 1)) d = sumRP r (setN p d (p d + 1)) d := sumRP_ext (fun j _ => ⟨by
      by_cases c : j = d
      · rw [c, setN_at]
      · rw [setN_ne c], rfl⟩)
    simp only [List.length_cons]
    omega
theorem tellC (a b c d : Int32) : ∃ y, f_MIS_tell a b c d = some y ∧ (a = 0 → y.1 = c) ∧ (a ≠ 0 → y.1 = a) := by
  unfold f_MIS_tell
  by_cases q : a = 0
  · exact ⟨(c, d), by simp [q], fun _ => rfl, fun w => absurd q w⟩
  · exact ⟨(a, b), by simp [q], fun w => absurd w q, fun _ => rfl⟩

set_option maxRecDepth 100000
set_option linter.unusedVariables false
theorem br_close {len n : Int32} {B X : Ar} {N : Nat} (h : TX len B n X N) {lk tb tl tn : Ar} (hT : TB lk tb tl tn) {k : Nat} (hk : k < N) {nd rg ng dp : Nat} {R : List Nat} {r p : Nat → Nat} {xs ys : PL} {i_place : Int32} {s_pieces : Int32} {e_kind : Int32} {e_value : Int32} {e_set : Nat} {e_others : Bool} {e_after : Int32} {cl_single : Int32} {q_numbered : Bool} {q_flagsAlone : Bool} {q_nameAt : Int32} {q_nameLength : Int32} {q_flags : Int32} {q_after : Int32} {p_least : Int32} {p_most : Int32} {p_marked : Bool} {p_after : Int32} {p_number : Int32} {r_flags : Int32} {r_repeatable : Bool} {s_begins : Nat → Int32} {s_ends : Nat → Int32} {t_kinds : Nat → Int32} {t_values : Nat → Int32} {t_mosts : Nat → Int32} {t_owners : Nat → Int32} {t_sizes : Nat → Int32} {t_firstRanges : Nat → Int32} {t_rangeCounts : Nat → Int32} {t_begins : Nat → Int32} {t_ends : Nat → Int32} {t_waiting : Nat → Int32} {g_lengths : Nat → Int32} {g_letters : Nat → Int32} {o_places : Nat → Int32} {o_numbers : Nat → Int32} {o_flagsAround : Nat → Int32} {o_rows : Nat → Int32} {o_parts : Nat → Int32} {m_place : Int32} {m_behind : Int32} {m_notSet : Bool} {m_least : Int32} {m_greatest : Int32} {m_kind : Nat → Int32} {m_value : Nat → Int32} {m_most : Nat → Int32} {m_span : Nat → Int32} {m_size : Nat → Int32} {m_whose : Nat → Int32} {m_rangeFrom : Nat → Int32} {m_rangeMany : Nat → Int32} {m_begins : Nat → Int32} {m_ends : Nat → Int32} {m_names : Nat → Int32} {m_nameSize : Nat → Int32} {m_opened : Nat → Int32} {m_number : Nat → Int32} {m_flagsBefore : Nat → Int32} {m_rows : Nat → Int32} {m_parts : Nat → Int32} {m_low : Nat → Int32} {m_high : Nat → Int32} {m_many : Nat → Int32} (hM : MS m_low m_high m_many xs ys) (hS : RS N k nd rg ng dp R r p r_flags r_repeatable t_kinds t_values t_mosts t_owners t_sizes t_firstRanges t_rangeCounts t_begins t_ends t_waiting g_lengths g_letters o_places o_numbers o_flagsAround o_rows o_parts m_kind m_value m_most m_span m_size m_whose m_rangeFrom m_rangeMany m_begins m_ends m_names m_nameSize m_opened m_number m_flagsBefore m_rows m_parts) (hcls : rN len B (0, i_place, s_pieces, nI nd, nI rg, nI R.length, nI ng, nI dp, e_kind, e_value, e_set, e_others, e_after, cl_single, q_numbered, q_flagsAlone, q_nameAt, q_nameLength, q_flags, q_after, p_least, p_most, p_marked, p_after, p_number, nI k, r_flags, r_repeatable, s_begins, s_ends, t_kinds, t_values, t_mosts, t_owners, t_sizes, t_firstRanges, t_rangeCounts, t_begins, t_ends, t_waiting, g_lengths, g_letters, o_places, o_numbers, o_flagsAround, o_rows, o_parts) = bnd_ (f_RDR_closeGroup 0 i_place (nI nd) (nI rg) (nI R.length) (nI dp) (nI k) r_flags r_repeatable t_kinds t_values t_mosts t_owners t_sizes t_firstRanges t_rangeCounts t_waiting o_numbers o_flagsAround o_rows o_parts) (fun x => some (x.1, x.2.1, s_pieces, x.2.2.1, nI rg, x.2.2.2.1, nI ng, x.2.2.2.2.1, e_kind, e_value, e_set, e_others, e_after, cl_single, q_numbered, q_flagsAlone, q_nameAt, q_nameLength, q_flags, q_after, p_least, p_most, p_marked, p_after, p_number, x.2.2.2.2.2.1, x.2.2.2.2.2.2.1, x.2.2.2.2.2.2.2.1, s_begins, s_ends, x.2.2.2.2.2.2.2.2.1, x.2.2.2.2.2.2.2.2.2.1, x.2.2.2.2.2.2.2.2.2.2.1, x.2.2.2.2.2.2.2.2.2.2.2.1, x.2.2.2.2.2.2.2.2.2.2.2.2.1, x.2.2.2.2.2.2.2.2.2.2.2.2.2.1, x.2.2.2.2.2.2.2.2.2.2.2.2.2.2.1, t_begins, t_ends, x.2.2.2.2.2.2.2.2.2.2.2.2.2.2.2.1, g_lengths, g_letters, o_places, o_numbers, o_flagsAround, x.2.2.2.2.2.2.2.2.2.2.2.2.2.2.2.2.1, x.2.2.2.2.2.2.2.2.2.2.2.2.2.2.2.2.2))) (href : mS n X lk tb tl tn (nI k, 0, m_place, nI nd, nI rg, nI ng, nI dp, r_flags, r_repeatable, m_behind, m_notSet, m_least, m_greatest, m_kind, m_value, m_most, m_span, m_size, m_whose, m_rangeFrom, m_rangeMany, m_begins, m_ends, m_names, m_nameSize, m_opened, m_number, m_flagsBefore, m_rows, m_parts, m_low, m_high, m_many) = bnd_ (f_MOD_close (nI k) 0 m_place (nI nd) (nI rg) (nI dp) r_flags r_repeatable m_kind m_value m_most m_span m_size m_whose m_rangeFrom m_rangeMany m_number m_flagsBefore m_rows m_parts) (fun z => some (z.1, z.2.1, z.2.2.1, z.2.2.2.1, nI rg, nI ng, z.2.2.2.2.1, z.2.2.2.2.2.1, z.2.2.2.2.2.2.1, m_behind, m_notSet, m_least, m_greatest, z.2.2.2.2.2.2.2.1, z.2.2.2.2.2.2.2.2.1, z.2.2.2.2.2.2.2.2.2.1, z.2.2.2.2.2.2.2.2.2.2.1, z.2.2.2.2.2.2.2.2.2.2.2.1, z.2.2.2.2.2.2.2.2.2.2.2.2.1, z.2.2.2.2.2.2.2.2.2.2.2.2.2.1, z.2.2.2.2.2.2.2.2.2.2.2.2.2.2.1, m_begins, m_ends, m_names, m_nameSize, m_opened, m_number, m_flagsBefore, z.2.2.2.2.2.2.2.2.2.2.2.2.2.2.2.1, z.2.2.2.2.2.2.2.2.2.2.2.2.2.2.2.2, m_low, m_high, m_many))) : StepOK N k (rN len B (0, i_place, s_pieces, nI nd, nI rg, nI R.length, nI ng, nI dp, e_kind, e_value, e_set, e_others, e_after, cl_single, q_numbered, q_flagsAlone, q_nameAt, q_nameLength, q_flags, q_after, p_least, p_most, p_marked, p_after, p_number, nI k, r_flags, r_repeatable, s_begins, s_ends, t_kinds, t_values, t_mosts, t_owners, t_sizes, t_firstRanges, t_rangeCounts, t_begins, t_ends, t_waiting, g_lengths, g_letters, o_places, o_numbers, o_flagsAround, o_rows, o_parts)) (mS n X lk tb tl tn (nI k, 0, m_place, nI nd, nI rg, nI ng, nI dp, r_flags, r_repeatable, m_behind, m_notSet, m_least, m_greatest, m_kind, m_value, m_most, m_span, m_size, m_whose, m_rangeFrom, m_rangeMany, m_begins, m_ends, m_names, m_nameSize, m_opened, m_number, m_flagsBefore, m_rows, m_parts, m_low, m_high, m_many)) := by
  have hN := h.le
  have hd := hS.dp_le
  obtain ⟨s1, s2, s3, s4, s5⟩ := hS.small hN
  rw [hcls, href]
  unfold f_RDR_closeGroup f_MOD_close
  cases dp with
  | zero =>
    have e0 : nI 0 = 0 := nI_0
    rw [if_pos e0, if_pos e0]
    refine ⟨_, _, rfl, rfl, Or.inl ⟨?_, ?_, ⟨0, rfl, by omega⟩, xs, ys, hM⟩⟩
    · exact (by decide : (3 : Int32) ≠ 0)
    · exact (by decide : (0 : Int32) < 3)
  | succ d =>
    have e0 : ¬ nI (d + 1) = 0 := fun q => by have := (nI_eq (b := 0) (by omega) (by decide)).mp q; omega
    rw [if_neg e0, if_neg e0]
    obtain ⟨nd2, top, Q, kn2, vl2, mo2, ow2, sz2, fr2, rc2, wt2, kn2', vl2', mo2', sp2', sz2', wh2', rf2', rm2', b1, b2, b3, a1, a2, a3⟩ := alts_eq hS hN r_repeatable r_repeatable
    rw [bnd_s a1, bnd_s a2]
    simp only
    have gd : inb (nI (d + 1)) 31 = true := inb_nI (by omega) (by decide)
    have gd2 : inb (nI (d + 1)) 32 = true := inb_nI (by omega) (by decide)
    have ed : (nI (d + 1)).toNatClampNeg = d + 1 := nI_clamp (by omega)
    rw [grd_t gd, grd_t gd2, ed]
    have hrt : RT wt2 sp2' nd2 ([top] ++ Q) := a3.rt
    obtain ⟨s, w1, w2⟩ := wsize (sz := sz2) hrt (by omega) a3.z
    have hsum := sumS_le a3.z (RT_lt hrt)
    have w1' : f_TRE_waitingSize (nI (Q.length + 1)) sz2 wt2 1 = some s := w1
    rw [bnd_s w1']
    have hst := hS.st (d + 1) (by omega) (by omega)
    have hnum := hst.2.2.2.2
    have en1 : o_numbers (d + 1) = m_number (d + 1) := hst.2.1
    have ef1 : o_flagsAround (d + 1) = m_flagsBefore (d + 1) := hst.2.2.1
    have ep : nI (d + 1) - 1 = nI d := nI_pred d
    have el : f_OPN_leave (nI (d + 1)) = some (nI d) := by
      unfold f_OPN_leave
      have q : ¬ nI (d + 1) ≤ 0 := fun q => by have := (nI_leI (b := 0) (by omega) (by decide)).mp q; omega
      rw [if_neg q, ep]
    have hsl : 0 ≤ sumS sz2 [top] ∧ sumS sz2 [top] ≤ 1000000 := by have := hsum; simp at this; omega
    have key : ∀ z0 : Int32, (z0 = 0 ∨ z0 = 2) → (∀ s' : Int64, f_MOD_sizeOf 6 (m_number (d + 1)) (-1) s' = some (s' + z0.toInt64)) → StepOK N k (bnd_ (f_RDR_closeGroup_L60 (nI rg) o_numbers o_flagsAround (o_numbers (d + 1)) z0 s 0 i_place (nI nd2) (nI (Q.length + 1)) (nI (d + 1)) (nI k) r_flags false kn2 vl2 mo2 ow2 sz2 fr2 rc2 wt2 (upd o_rows (d + 1) (nI (r (d + 1) + 1))) (upd o_parts (d + 1) 0)) (fun x => some (x.1, x.2.1, s_pieces, x.2.2.1, nI rg, x.2.2.2.1, nI ng, x.2.2.2.2.1, e_kind, e_value, e_set, e_others, e_after, cl_single, q_numbered, q_flagsAlone, q_nameAt, q_nameLength, q_flags, q_after, p_least, p_most, p_marked, p_after, p_number, x.2.2.2.2.2.1, x.2.2.2.2.2.2.1, x.2.2.2.2.2.2.2.1, s_begins, s_ends, x.2.2.2.2.2.2.2.2.1, x.2.2.2.2.2.2.2.2.2.1, x.2.2.2.2.2.2.2.2.2.2.1, x.2.2.2.2.2.2.2.2.2.2.2.1, x.2.2.2.2.2.2.2.2.2.2.2.2.1, x.2.2.2.2.2.2.2.2.2.2.2.2.2.1, x.2.2.2.2.2.2.2.2.2.2.2.2.2.2.1, t_begins, t_ends, x.2.2.2.2.2.2.2.2.2.2.2.2.2.2.2.1, g_lengths, g_letters, o_places, o_numbers, o_flagsAround, x.2.2.2.2.2.2.2.2.2.2.2.2.2.2.2.2.1, x.2.2.2.2.2.2.2.2.2.2.2.2.2.2.2.2.2)))
        (bnd_ (bnd_ (f_MOD_make (nI nd2) (nI rg) kn2' vl2' mo2' sp2' sz2' wh2' rf2' rm2' 6 (m_number (d + 1)) (-1) 1) (fun x35 => grd (inb (nI (d + 1)) 32) (bnd_ (f_MOD_part (nI (d + 1) - 1) false (upd m_parts (d + 1) 0)) (fun x72 => some (nI k + 1, 0, m_place, x35.1, nI (d + 1) - 1, m_flagsBefore (d + 1), x72.1, x35.2.1, x35.2.2.1, x35.2.2.2.1, x35.2.2.2.2.1, x35.2.2.2.2.2.1, x35.2.2.2.2.2.2.1, x35.2.2.2.2.2.2.2.1, x35.2.2.2.2.2.2.2.2, upd m_rows (d + 1) (nI (r (d + 1) + 1)), x72.2))))) (fun z => some (z.1, z.2.1, z.2.2.1, z.2.2.2.1, nI rg, nI ng, z.2.2.2.2.1, z.2.2.2.2.2.1, z.2.2.2.2.2.2.1, m_behind, m_notSet, m_least, m_greatest, z.2.2.2.2.2.2.2.1, z.2.2.2.2.2.2.2.2.1, z.2.2.2.2.2.2.2.2.2.1, z.2.2.2.2.2.2.2.2.2.2.1, z.2.2.2.2.2.2.2.2.2.2.2.1, z.2.2.2.2.2.2.2.2.2.2.2.2.1, z.2.2.2.2.2.2.2.2.2.2.2.2.2.1, z.2.2.2.2.2.2.2.2.2.2.2.2.2.2.1, m_begins, m_ends, m_names, m_nameSize, m_opened, m_number, m_flagsBefore, z.2.2.2.2.2.2.2.2.2.2.2.2.2.2.2.1, z.2.2.2.2.2.2.2.2.2.2.2.2.2.2.2.2, m_low, m_high, m_many))) := by
      intro z0 hz0 hsz0
      have hz1 : z0.toInt = 0 ∨ z0.toInt = 2 := by rcases hz0 with rfl | rfl; · exact Or.inl rfl
                                                   · exact Or.inr rfl
      have e5 : (s + z0).toInt = s.toInt + z0.toInt := ti_add (by omega) (by omega)
      obtain ⟨ow3, wt3, sp3, wh3, q1, q2, q3⟩ := over_eq (P := [top]) (Q := Q) a3 (by omega) rfl 6 (m_number (d + 1)) (-1) (s + z0) (by rw [e5, w2]; omega) (fun s' hs' => ⟨_, hsz0 s', by rw [tl_add (by rw [tl_i]; omega) (by rw [tl_i]; omega), tl_i, e5, hs', w2]⟩)
      have q1' : f_TRE_addOver (nI nd2) (nI rg) (nI (Q.length + 1)) kn2 vl2 mo2 ow2 sz2 fr2 rc2 wt2 1 6 (m_number (d + 1)) (-1) (s + z0) = _ := q1
      have q2' : f_MOD_make (nI nd2) (nI rg) kn2' vl2' mo2' sp2' sz2' wh2' rf2' rm2' 6 (m_number (d + 1)) (-1) 1 = _ := q2
      unfold f_RDR_closeGroup_L60
      rw [en1, bnd_s q1', bnd_s q2', grd_t gd, grd_t gd2, bnd_s el, ep, ed, nI_1]
      simp only
      rw [bnd_s (partC (by omega) _ _ _ _ _), bnd_s (partM (by omega) _ _)]
      exact ⟨_, _, rfl, rfl, Or.inr ⟨k + 1, by omega, rfl, rfl, nd2 + 1, rg, ng, d, nd2 :: Q, r, setN p d (p d + 1), ⟨rfl, rfl, rfl, rfl, rfl, rfl⟩, ⟨rfl, rfl, rfl, rfl, rfl, ef1.symm, rfl⟩, ⟨xs, ys, hM⟩, hS.leave (by omega) (by omega) b3 b2 q3⟩⟩
    by_cases c : o_numbers (d + 1) ≤ 0
    · rw [if_pos c]
      exact key 0 (Or.inl rfl) (fun s' => by unfold f_MOD_sizeOf; rw [if_neg (by decide), if_neg (by decide), if_pos rfl, if_pos (en1 ▸ c)])
    · rw [if_neg c]
      exact key 2 (Or.inr rfl) (fun s' => by unfold f_MOD_sizeOf; rw [if_neg (by decide), if_neg (by decide), if_pos rfl, if_neg (en1 ▸ c)])

set_option maxRecDepth 100000
set_option linter.unusedVariables false
def flv (x : Int32) : Int32 := if x = 105 then 1 else if x = 109 then 2 else if x = 115 then 4 else if x = 85 then 8 else 0
theorem flvM (x : Int32) : f_MOD_flagOf x = some (flv x) := by
  unfold f_MOD_flagOf flv
  by_cases a : x = 105
  · rw [if_pos a, if_pos a]
  by_cases b : x = 109
  · rw [if_neg a, if_neg a, if_pos b, if_pos b]
  by_cases c : x = 115
  · rw [if_neg a, if_neg a, if_neg b, if_neg b, if_pos c, if_pos c]
  by_cases d : x = 85
  · rw [if_neg a, if_neg a, if_neg b, if_neg b, if_neg c, if_neg c, if_pos d, if_pos d]
  · rw [if_neg a, if_neg a, if_neg b, if_neg b, if_neg c, if_neg c, if_neg d, if_neg d]
theorem flvC (x : Int32) : f_OPG_flagOf x = some (flv x) := by
  unfold f_OPG_flagOf flv
  by_cases d : x = 85
  · rw [if_pos d]; subst d; rfl
  by_cases a : x = 105
  · rw [if_neg d, if_pos a, if_pos a]
  by_cases b : x = 109
  · rw [if_neg d, if_neg a, if_neg a, if_pos b, if_pos b]
  by_cases c : x = 115
  · rw [if_neg d, if_neg a, if_neg a, if_neg b, if_neg b, if_pos c, if_pos c]
  · rw [if_neg d, if_neg a, if_neg a, if_neg b, if_neg b, if_neg c, if_neg c, if_neg d]
def F15 (x : Int32) : Prop := ∃ a : Nat, a < 16 ∧ x = nI a
theorem or15 : ∀ a, a < 16 → ∀ b, b < 16 → ∃ c, c < 16 ∧ nI a ||| nI b = nI c := by decide +kernel
theorem an15 : ∀ a, a < 16 → ∀ b, b < 16 → ∃ c, c < 16 ∧ nI a &&& (nI b ^^^ (-1)) = nI c := by decide +kernel
theorem F15.or {x y : Int32} (hx : F15 x) (hy : F15 y) : F15 (x ||| y) := by
  obtain ⟨a, ha, rfl⟩ := hx
  obtain ⟨b, hb, rfl⟩ := hy
  exact or15 a ha b hb
theorem F15.an {x y : Int32} (hx : F15 x) (hy : F15 y) : F15 (x &&& (y ^^^ (-1))) := by
  obtain ⟨a, ha, rfl⟩ := hx
  obtain ⟨b, hb, rfl⟩ := hy
  exact an15 a ha b hb
theorem F15.ti {x : Int32} (h : F15 x) : 0 ≤ x.toInt ∧ x.toInt ≤ 15 := by
  obtain ⟨a, ha, rfl⟩ := h
  rw [nI_toInt (by omega)]; omega
theorem F15_of {x : Int32} (h : 0 ≤ x.toInt ∧ x.toInt ≤ 15) : F15 x := by
  have h1 : ¬ x < 0 := fun q => by have := Int32.lt_iff_toInt_lt.mp q; have e : (0 : Int32).toInt = 0 := rfl; omega
  obtain ⟨j, hj, rfl⟩ := nI_of h1
  rw [nI_toInt hj] at h
  exact ⟨j, by omega, rfl⟩
theorem flv15 (x : Int32) : F15 (flv x) ∧ (flv x ≤ 0 ↔ flv x = 0) := by
  unfold flv
  by_cases a : x = 105
  · rw [if_pos a]; exact ⟨⟨1, by decide, rfl⟩, by decide⟩
  by_cases b : x = 109
  · rw [if_neg a, if_pos b]; exact ⟨⟨2, by decide, rfl⟩, by decide⟩
  by_cases c : x = 115
  · rw [if_neg a, if_neg b, if_pos c]; exact ⟨⟨4, by decide, rfl⟩, by decide⟩
  by_cases d : x = 85
  · rw [if_neg a, if_neg b, if_neg c, if_pos d]; exact ⟨⟨8, by decide, rfl⟩, by decide⟩
  · rw [if_neg a, if_neg b, if_neg c, if_neg d]; exact ⟨⟨0, by decide, rfl⟩, by decide⟩
theorem an_an (v a b : Int32) : (v &&& (a ^^^ (-1))) &&& (b ^^^ (-1)) = v &&& ((a ||| b) ^^^ (-1)) := by
  apply Int32.toBitVec_inj.mp
  simp only [Int32.toBitVec_and, Int32.toBitVec_or, Int32.toBitVec_xor]
  have e : (-1 : Int32).toBitVec = BitVec.allOnes 32 := by decide
  rw [e, BitVec.xor_allOnes, BitVec.xor_allOnes, BitVec.xor_allOnes, BitVec.not_or, BitVec.and_assoc]
theorem or_or (v a b : Int32) : (v ||| a) ||| b = v ||| (a ||| b) := by
  apply Int32.toBitVec_inj.mp
  simp only [Int32.toBitVec_or]
  rw [BitVec.or_assoc]
theorem or_0 (v : Int32) : v ||| 0 = v ∧ 0 ||| v = v ∧ v &&& (0 ^^^ (-1)) = v := by
  have e : (0 : Int32).toBitVec = 0#32 := by decide
  have e1 : (-1 : Int32).toBitVec = BitVec.allOnes 32 := by decide
  refine ⟨?_, ?_, ?_⟩ <;> apply Int32.toBitVec_inj.mp <;> simp [e, e1]
/-- the letters of flags from j on: where they end, and what they are together -/
def frun (N : Nat) (B : Ar) : Nat → Nat → Int32 → Nat × Int32
  | 0, j, v => (j, v)
  | m + 1, j, v => if flv (bt N B j) = 0 then (j, v) else frun N B m (j + 1) (v ||| flv (bt N B j))
theorem frun_s (N : Nat) (B : Ar) (m j : Nat) (v : Int32) : frun N B (m + 1) j v = if flv (bt N B j) = 0 then (j, v) else frun N B m (j + 1) (v ||| flv (bt N B j)) := rfl
theorem frun_acc (N : Nat) (B : Ar) : ∀ m j v, frun N B m j v = ((frun N B m j 0).1, v ||| (frun N B m j 0).2) := by
  intro m
  induction m with
  | zero => intro j v; simp only [frun]; rw [(or_0 v).1]
  | succ m ih =>
    intro j v
    simp only [frun]
    by_cases c : flv (bt N B j) = 0
    · rw [if_pos c, if_pos c]; simp only; rw [(or_0 v).1]
    · rw [if_neg c, if_neg c, ih (j + 1) (v ||| _), ih (j + 1) (0 ||| _)]
      simp only
      rw [or_or, (or_0 (flv (bt N B j))).2.1]
theorem frun_in {len n : Int32} {B X : Ar} {N : Nat} (h : TX len B n X N) : ∀ m j v, F15 v → N < j + m → j ≤ N → F15 (frun N B m j v).2 ∧ j ≤ (frun N B m j v).1 ∧ (frun N B m j v).1 ≤ N ∧ flv (bt N B (frun N B m j v).1) = 0 := by
  intro m
  induction m with
  | zero => intro j v _ h1 h2; omega
  | succ m ih =>
    intro j v hv h1 h2
    simp only [frun]
    by_cases c : flv (bt N B j) = 0
    · rw [if_pos c]; exact ⟨hv, Nat.le_refl _, h2, c⟩
    · rw [if_neg c]
      have hj : j < N := by
        rcases bt_ti h j with q | q
        · exact q.1
        · rw [q.2] at c; exact absurd rfl c
      obtain ⟨a, b, d, e⟩ := ih (j + 1) (v ||| flv (bt N B j)) (hv.or (flv15 _).1) (by omega) (by omega)
      exact ⟨a, by omega, d, e⟩
theorem flagsC {len n : Int32} {B X : Ar} {N : Nat} (h : TX len B n X N) : ∀ (m i j : Nat) (v : Int32) (F : Nat), i + m = 400 → j ≤ 1000 → f_OPG_takeFlags_L4 len B (F + m + 1) (v, nI i, nI j) = some ((frun N B m j v).2, nI (frun N B m j v).1) := by
  intro m
  induction m with
  | zero =>
    intro i j v F hi hj
    rw [f_OPG_takeFlags_L4_s]
    unfold f_OPG_takeFlags_B4
    have e : (400 : Int32) ≤ nI i := by have q : i = 400 := by omega
                                        rw [q]; decide
    rw [if_pos e]; rfl
  | succ m ih =>
    intro i j v F hi hj
    rw [f_OPG_takeFlags_L4_s]
    unfold f_OPG_takeFlags_B4
    have e : ¬ (400 : Int32) ≤ nI i := fun q => by have := (nI_leI (a := 400) (by decide) (by omega)).mp q; omega
    rw [if_neg e, bnd_s (at_C h (by omega)), bnd_s (flvC _)]
    simp only [frun]
    by_cases c : flv (bt N B j) = 0
    · rw [if_pos c, if_pos c]
    · rw [if_neg c, if_neg c, nI_1, nI_1]
      by_cases hj' : j + 1 ≤ 1000
      · exact ih (i + 1) (j + 1) _ F (by omega) hj'
      · exfalso
        have := h.le
        rcases bt_ti h j with q | q
        · omega
        · rw [q.2] at c; exact absurd rfl c
theorem flagsC0 {len n : Int32} {B X : Ar} {N : Nat} (h : TX len B n X N) {j : Nat} (hj : j ≤ 1000) : f_OPG_takeFlags len (nI j) B = some ((frun N B 400 j 0).2, nI (frun N B 400 j 0).1) := flagsC h 400 0 j 0 999599 rfl hj
theorem flagsM12 {len n : Int32} {B X : Ar} {N : Nat} (h : TX len B n X N) (rg p1 : Int32) (q_at : Int32) (q_fault : Int32) (q_place : Int32) (q_nodes : Int32) (q_numbered : Int32) (q_depth : Int32) (q_flags : Int32) (q_repeatable : Bool) (q_kind : Ar) (q_value : Ar) (q_most : Ar) (q_span : Ar) (q_size : Ar) (q_whose : Ar) (q_rangeFrom : Ar) (q_rangeMany : Ar) (q_opened : Ar) (q_number : Ar) (q_flagsBefore : Ar) (q_rows : Ar) (q_parts : Ar) : ∀ (m j : Nat) (v : Int32) (F : Nat), j + m ≤ 2000 → ∃ F', f_MOD_openFlagged_L12 n rg X p1 (F + m + 1) (nI j, v, q_at, q_fault, q_place, q_nodes, q_numbered, q_depth, q_flags, q_repeatable, q_kind, q_value, q_most, q_span, q_size, q_whose, q_rangeFrom, q_rangeMany, q_opened, q_number, q_flagsBefore, q_rows, q_parts) = f_MOD_openFlagged_L12 n rg X p1 (F' + 1) (nI (frun N B m j v).1, (frun N B m j v).2, q_at, q_fault, q_place, q_nodes, q_numbered, q_depth, q_flags, q_repeatable, q_kind, q_value, q_most, q_span, q_size, q_whose, q_rangeFrom, q_rangeMany, q_opened, q_number, q_flagsBefore, q_rows, q_parts) := by
  intro m
  induction m with
  | zero => intro j v F _; exact ⟨F, rfl⟩
  | succ m ih =>
    intro j v F hj
    simp only [frun]
    by_cases c : flv (bt N B j) = 0
    · rw [if_pos c]; exact ⟨_, rfl⟩
    · rw [if_neg c]
      obtain ⟨F', e⟩ := ih (j + 1) (v ||| flv (bt N B j)) F (by omega)
      refine ⟨F', ?_⟩
      rw [← e, f_MOD_openFlagged_L12_s]
      unfold f_MOD_openFlagged_B12
      have c2 : ¬ flv (bt N B j) ≤ 0 := fun q => c ((flv15 _).2.mp q)
      rw [bnd_s (at_M h (by omega)), bnd_s (flvM _), if_neg c2, bnd_s (at_M h (by omega)), bnd_s (flvM _), nI_1]
      rfl
theorem flagsM74 {len n : Int32} {B X : Ar} {N : Nat} (h : TX len B n X N) (rg p1 : Int32) (g : Bool) (q_at : Int32) (q_fault : Int32) (q_place : Int32) (q_nodes : Int32) (q_numbered : Int32) (q_depth : Int32) (q_flags : Int32) (q_repeatable : Bool) (q_kind : Ar) (q_value : Ar) (q_most : Ar) (q_span : Ar) (q_size : Ar) (q_whose : Ar) (q_rangeFrom : Ar) (q_rangeMany : Ar) (q_opened : Ar) (q_number : Ar) (q_flagsBefore : Ar) (q_rows : Ar) (q_parts : Ar) (v0 : Int32) : ∀ (m j : Nat) (v : Int32) (F : Nat), j + m ≤ 2000 → ∃ F', f_MOD_openFlagged_L74 n rg X p1 (F + m + 1) (nI j, v0 &&& (v ^^^ (-1)), g, q_at, q_fault, q_place, q_nodes, q_numbered, q_depth, q_flags, q_repeatable, q_kind, q_value, q_most, q_span, q_size, q_whose, q_rangeFrom, q_rangeMany, q_opened, q_number, q_flagsBefore, q_rows, q_parts) = f_MOD_openFlagged_L74 n rg X p1 (F' + 1) (nI (frun N B m j v).1, v0 &&& ((frun N B m j v).2 ^^^ (-1)), g, q_at, q_fault, q_place, q_nodes, q_numbered, q_depth, q_flags, q_repeatable, q_kind, q_value, q_most, q_span, q_size, q_whose, q_rangeFrom, q_rangeMany, q_opened, q_number, q_flagsBefore, q_rows, q_parts) := by
  intro m
  induction m with
  | zero => intro j v F _; exact ⟨F, rfl⟩
  | succ m ih =>
    intro j v F hj
    simp only [frun]
    by_cases c : flv (bt N B j) = 0
    · rw [if_pos c]; exact ⟨_, rfl⟩
    · rw [if_neg c]
      obtain ⟨F', e⟩ := ih (j + 1) (v ||| flv (bt N B j)) F (by omega)
      refine ⟨F', ?_⟩
      rw [← e, f_MOD_openFlagged_L74_s]
      unfold f_MOD_openFlagged_B74
      have c2 : ¬ flv (bt N B j) ≤ 0 := fun q => c ((flv15 _).2.mp q)
      rw [bnd_s (at_M h (by omega)), bnd_s (flvM _), if_neg c2, bnd_s (at_M h (by omega)), bnd_s (flvM _), nI_1, an_an]
      rfl
theorem nz15 : ∀ a, a < 16 → ∀ b, b < 16 → ¬ nI a = 0 → ¬ (0 ||| nI a) ||| nI b = 0 := by decide +kernel
theorem frun_nz {x y : Int32} (hx : F15 x) (hn : ¬ x = 0) (hy : F15 y) : ¬ (0 ||| x) ||| y = 0 := by
  obtain ⟨a, ha, rfl⟩ := hx
  obtain ⟨b, hb, rfl⟩ := hy
  exact nz15 a ha b hb hn
theorem frun_in' {len n : Int32} {B X : Ar} {N : Nat} (h : TX len B n X N) : ∀ m j v, F15 v → F15 (frun N B m j v).2 := by
  intro m
  induction m with
  | zero => intro j v hv; exact hv
  | succ m ih =>
    intro j v hv
    simp only [frun]
    by_cases c : flv (bt N B j) = 0
    · rw [if_pos c]; exact hv
    · rw [if_neg c]; exact ih _ _ (hv.or (flv15 _).1)
theorem flags_eq {len n : Int32} {B X : Ar} {N : Nat} (h : TX len B n X N) (rg p1 : Int32) (q_at : Int32) (q_fault : Int32) (q_place : Int32) (q_nodes : Int32) (q_numbered : Int32) (q_depth : Int32) (q_flags : Int32) (q_repeatable : Bool) (q_kind : Ar) (q_value : Ar) (q_most : Ar) (q_span : Ar) (q_size : Ar) (q_whose : Ar) (q_rangeFrom : Ar) (q_rangeMany : Ar) (q_opened : Ar) (q_number : Ar) (q_flagsBefore : Ar) (q_rows : Ar) (q_parts : Ar) {k : Nat} (hk : k + 2 ≤ N) (hat : q_at = nI (k + 1)) (hfl : F15 q_flags) (nm al : Bool) (a0 : Int32) :
    ∃ ok al2 fl e, f_OPG_readFlags len nm al q_flags a0 B (nI (k + 2)) = some (ok, false, al2, fl, nI e) ∧ F15 fl ∧
      (ok = false → f_MOD_openFlagged n q_at q_fault q_place q_nodes rg q_numbered q_depth q_flags q_repeatable X q_kind q_value q_most q_span q_size q_whose q_rangeFrom q_rangeMany q_opened q_number q_flagsBefore q_rows q_parts p1 = f_MOD_openFlagged_L130 n rg X p1 q_at q_fault q_place q_nodes q_numbered q_depth q_flags q_repeatable q_kind q_value q_most q_span q_size q_whose q_rangeFrom q_rangeMany q_opened q_number q_flagsBefore q_rows q_parts) ∧
      (ok = true → k + 2 < e ∧ e ≤ N ∧ f_MOD_openFlagged n q_at q_fault q_place q_nodes rg q_numbered q_depth q_flags q_repeatable X q_kind q_value q_most q_span q_size q_whose q_rangeFrom q_rangeMany q_opened q_number q_flagsBefore q_rows q_parts p1 = f_MOD_openFlagged_L138 n rg X p1 (nI (e - 1)) fl (if al2 then 41 else 58) q_at q_fault q_place q_nodes q_numbered q_depth q_flags q_repeatable q_kind q_value q_most q_span q_size q_whose q_rangeFrom q_rangeMany q_opened q_number q_flagsBefore q_rows q_parts) := by
  have hN := h.le
  have ha1 : nI (k + 1) + 1 = nI (k + 2) := nI_1 (k + 1)
  unfold f_OPG_readFlags f_MOD_openFlagged
  rw [hat, ha1, ← hat]
  obtain ⟨F', e1⟩ := flagsM12 h rg p1 q_at q_fault q_place q_nodes q_numbered q_depth q_flags q_repeatable q_kind q_value q_most q_span q_size q_whose q_rangeFrom q_rangeMany q_opened q_number q_flagsBefore q_rows q_parts 400 (k + 2) q_flags 999599 (by omega)
  have e1' : f_MOD_openFlagged_L12 n rg X p1 FU (nI (k + 2), q_flags, q_at, q_fault, q_place, q_nodes, q_numbered, q_depth, q_flags, q_repeatable, q_kind, q_value, q_most, q_span, q_size, q_whose, q_rangeFrom, q_rangeMany, q_opened, q_number, q_flagsBefore, q_rows, q_parts) = _ := e1
  rw [e1', bnd_s (flagsC0 h (by omega))]
  obtain ⟨i1, i2, i3, i4⟩ := frun_in h 400 (k + 2) 0 ⟨0, by decide, rfl⟩ (by omega) (by omega)
  have hacc := frun_acc N B 400 (k + 2) q_flags
  rw [hacc]
  generalize (frun N B 400 (k + 2) 0).1 = j1 at *
  generalize (frun N B 400 (k + 2) 0).2 = on at *
  simp only
  rw [f_MOD_openFlagged_L12_s]
  unfold f_MOD_openFlagged_B12
  have z1 : flv (bt N B j1) ≤ 0 := (flv15 _).2.mpr i4
  rw [bnd_s (at_C h (by omega)), bnd_s (at_M h (by omega)), bnd_s (flvM _), if_pos z1]
  rw [bnd_s (at_M h (by omega))]
  have fin : ∀ (j : Nat) (fl : Int32), k + 2 ≤ j → j ≤ N → F15 fl → ∃ ok al2 fl2 e, f_OPG_readFlags_L72 len B (nI (k + 2)) false al fl (nI j) = some (ok, false, al2, fl2, nI e) ∧ F15 fl2 ∧
      (ok = false → f_MOD_openFlagged_L104 n rg X p1 (nI j) fl true q_at q_fault q_place q_nodes q_numbered q_depth q_flags q_repeatable q_kind q_value q_most q_span q_size q_whose q_rangeFrom q_rangeMany q_opened q_number q_flagsBefore q_rows q_parts = f_MOD_openFlagged_L130 n rg X p1 q_at q_fault q_place q_nodes q_numbered q_depth q_flags q_repeatable q_kind q_value q_most q_span q_size q_whose q_rangeFrom q_rangeMany q_opened q_number q_flagsBefore q_rows q_parts) ∧
      (ok = true → k + 2 < e ∧ e ≤ N ∧ f_MOD_openFlagged_L104 n rg X p1 (nI j) fl true q_at q_fault q_place q_nodes q_numbered q_depth q_flags q_repeatable q_kind q_value q_most q_span q_size q_whose q_rangeFrom q_rangeMany q_opened q_number q_flagsBefore q_rows q_parts = f_MOD_openFlagged_L138 n rg X p1 (nI (e - 1)) fl2 (if al2 then 41 else 58) q_at q_fault q_place q_nodes q_numbered q_depth q_flags q_repeatable q_kind q_value q_most q_span q_size q_whose q_rangeFrom q_rangeMany q_opened q_number q_flagsBefore q_rows q_parts) := by
    intro j fl hj1 hj2 hf
    unfold f_OPG_readFlags_L72 f_MOD_openFlagged_L104
    rw [bnd_s (at_C h (by omega)), bnd_s (at_M h (by omega)), nI_1]
    have nb : ¬ b2i true = 0 := by decide
    rw [if_neg nb]
    unfold f_OPG_readFlags_L106
    have nf : b2i false = 0 := by decide
    by_cases c : bt N B j = 41
    · have hj3 : j < N := bt_in h (by rw [c]; decide)
      have c2 : ¬ bt N B j = 58 := by rw [c]; decide
      rw [if_pos c, if_neg nb, if_neg c2, if_pos c]
      refine ⟨true, true, fl, j + 1, rfl, hf, (fun q => (by cases q)), fun _ => ⟨by omega, by omega, ?_⟩⟩
      rw [c]; rfl
    · rw [if_neg c, if_pos nf]
      by_cases c2 : bt N B j = 58
      · have hj3 : j < N := bt_in h (by rw [c2]; decide)
        rw [if_pos c2, if_pos c2]
        refine ⟨true, false, fl, j + 1, rfl, hf, (fun q => (by cases q)), fun _ => ⟨by omega, by omega, ?_⟩⟩
        rw [c2]; rfl
      · rw [if_neg c2, if_neg c2, if_neg c]
        exact ⟨false, false, fl, j + 1, rfl, hf, fun _ => rfl, (fun q => (by cases q))⟩
  by_cases c : bt N B j1 = 45
  · have hj3 : j1 < N := bt_in h (by rw [c]; decide)
    rw [if_pos c, if_pos c, nI_1, bnd_s (flagsC0 h (by omega)), bnd_s (at_M h (by omega)), bnd_s (flvM _)]
    obtain ⟨u1, u2, u3, u4⟩ := frun_in h 400 (j1 + 1) 0 ⟨0, by decide, rfl⟩ (by omega) (by omega)
    by_cases g : flv (bt N B (j1 + 1)) = 0
    · have g1 : flv (bt N B (j1 + 1)) ≤ 0 := (flv15 _).2.mpr g
      have g2 : frun N B 400 (j1 + 1) 0 = (j1 + 1, 0) := by
        have q := frun_s N B 399 (j1 + 1) 0
        rw [if_pos g] at q
        exact q
      rw [if_pos g1, g2]
      simp only [↓reduceIte]
      refine ⟨false, al, _, j1 + 1, rfl, hfl.or i1, fun _ => ?_, (fun q => (by cases q))⟩
      show f_MOD_openFlagged_L74 n rg X p1 (999999 + 1) _ = _
      rw [f_MOD_openFlagged_L74_s]
      unfold f_MOD_openFlagged_B74
      rw [bnd_s (at_M h (by omega)), bnd_s (flvM _), if_pos g1]
      unfold f_MOD_openFlagged_L104
      have nf : b2i false = 0 := by decide
      rw [bnd_s (at_M h (by omega)), if_pos nf]
    · have g1 : ¬ flv (bt N B (j1 + 1)) ≤ 0 := fun q => g ((flv15 _).2.mp q)
      rw [if_neg g1]
      obtain ⟨F2, e2⟩ := flagsM74 h rg p1 true q_at q_fault q_place q_nodes q_numbered q_depth q_flags q_repeatable q_kind q_value q_most q_span q_size q_whose q_rangeFrom q_rangeMany q_opened q_number q_flagsBefore q_rows q_parts (q_flags ||| on) 400 (j1 + 1) 0 999599 (by omega)
      rw [(or_0 (q_flags ||| on)).2.2] at e2
      have e2' : f_MOD_openFlagged_L74 n rg X p1 FU (nI (j1 + 1), q_flags ||| on, true, q_at, q_fault, q_place, q_nodes, q_numbered, q_depth, q_flags, q_repeatable, q_kind, q_value, q_most, q_span, q_size, q_whose, q_rangeFrom, q_rangeMany, q_opened, q_number, q_flagsBefore, q_rows, q_parts) = _ := e2
      rw [e2']
      have nz : ¬ (frun N B 400 (j1 + 1) 0).2 = 0 := by
        have q := frun_s N B 399 (j1 + 1) 0
        rw [if_neg g, frun_acc N B 399] at q
        have q2 : frun N B 400 (j1 + 1) 0 = _ := q
        rw [q2]
        exact frun_nz (flv15 _).1 g (frun_in' h 399 (j1 + 1 + 1) 0 ⟨0, by decide, rfl⟩)
      rw [if_neg nz]
      generalize (frun N B 400 (j1 + 1) 0).1 = j2 at *
      generalize (frun N B 400 (j1 + 1) 0).2 = off at *
      rw [f_MOD_openFlagged_L74_s]
      unfold f_MOD_openFlagged_B74
      have g3 : flv (bt N B j2) ≤ 0 := (flv15 _).2.mpr u4
      rw [bnd_s (at_M h (by omega)), bnd_s (flvM _), if_pos g3]
      exact fin j2 _ (by omega) u3 ((hfl.or i1).an u1)
  · rw [if_neg c, if_neg c]
    exact fin j1 _ i2 i3 (hfl.or i1)

set_option maxRecDepth 100000
set_option linter.unusedVariables false
theorem nI_sub (a b : Nat) : nI (a + b) - nI a = nI b := by
  rw [← nI_add]
  apply Int32.toBitVec_inj.mp
  simp [Int32.toBitVec_sub, Int32.toBitVec_add]
  rw [BitVec.add_comm, BitVec.add_sub_cancel]
/-- how many word bytes stand from j on, at most m -/
def wlen (N : Nat) (B : Ar) : Nat → Nat → Nat
  | 0, _ => 0
  | m + 1, j => if wdB (bt N B j) = true then wlen N B m (j + 1) + 1 else 0
theorem wlen_s (N : Nat) (B : Ar) (m j : Nat) : wlen N B (m + 1) j = if wdB (bt N B j) = true then wlen N B m (j + 1) + 1 else 0 := rfl
theorem wlen_min (N : Nat) (B : Ar) : ∀ m d j, wlen N B m j = min m (wlen N B (m + d) j) := by
  intro m
  induction m with
  | zero => intro d j; simp [wlen]
  | succ m ih =>
    intro d j
    have e : m + 1 + d = (m + d) + 1 := by omega
    rw [e, wlen_s, wlen_s]
    by_cases c : wdB (bt N B j) = true
    · rw [if_pos c, if_pos c, ih d (j + 1)]; omega
    · rw [if_neg c, if_neg c]; omega
theorem wd_end : wdB (-1) = false := by decide
theorem wlen_end {len n : Int32} {B X : Ar} {N : Nat} (h : TX len B n X N) : ∀ m j, N < j + m → wdB (bt N B (j + wlen N B m j)) = false ∧ wlen N B m j ≤ m ∧ ∀ i, i < wlen N B m j → wdB (bt N B (j + i)) = true := by
  intro m
  induction m with
  | zero =>
    intro j hj
    refine ⟨?_, Nat.le_refl _, fun i hi => absurd hi (Nat.not_lt_zero i)⟩
    have e : bt N B (j + wlen N B 0 j) = -1 := if_neg (by simp only [wlen]; omega)
    rw [e]; exact wd_end
  | succ m ih =>
    intro j hj
    rw [wlen_s]
    by_cases c : wdB (bt N B j) = true
    · rw [if_pos c]
      obtain ⟨a, b, d⟩ := ih (j + 1) (by omega)
      refine ⟨by rw [show j + (wlen N B m (j + 1) + 1) = j + 1 + wlen N B m (j + 1) from by omega]; exact a, by omega, fun i hi => ?_⟩
      cases i with
      | zero => exact c
      | succ i => rw [show j + (i + 1) = j + 1 + i from by omega]; exact d i (by omega)
    · rw [if_neg c]
      refine ⟨?_, by omega, fun i hi => absurd hi (Nat.not_lt_zero i)⟩
      cases q : wdB (bt N B (j + 0)) with
      | false => rfl
      | true => exact absurd q c
theorem nameC_loop {len n : Int32} {B X : Ar} {N : Nat} (h : TX len B n X N) (p1 a0 : Int32) {a : Nat} (ha : a ≤ 1000) : ∀ (m i : Nat) (F : Nat), i + m = 12 → f_OPG_readName_L7 len B p1 (F + m + 1) (nI a, nI i, a0) = f_OPG_readName_L51 len B p1 (nI a) (nI (i + wlen N B m (a + i))) a0 := by
  intro m
  induction m with
  | zero =>
    intro i F hi
    rw [f_OPG_readName_L7_s]
    unfold f_OPG_readName_B7
    have e : (12 : Int32) ≤ nI i := by have q : i = 12 := by omega
                                       rw [q]; decide
    rw [if_pos e]; rfl
  | succ m ih =>
    intro i F hi
    rw [f_OPG_readName_L7_s]
    unfold f_OPG_readName_B7
    have e : ¬ (12 : Int32) ≤ nI i := fun q => by have := (nI_leI (a := 12) (by decide) (by omega)).mp q; omega
    rw [if_neg e, nI_add, bnd_s (at_C h (by omega)), bnd_s (wd_bt h (a + i)).1, wlen_s]
    by_cases c : wdB (bt N B (a + i)) = true
    · have c2 : ¬ b2i (wdB (bt N B (a + i))) = 0 := by rw [c]; decide
      rw [if_neg c2, if_pos c, nI_1]
      have q := ih (i + 1) F (by omega)
      rw [show i + (wlen N B m (a + i + 1) + 1) = i + 1 + wlen N B m (a + (i + 1)) from by rw [Nat.add_assoc a i 1]; omega]
      exact q
    · have c1 : wdB (bt N B (a + i)) = false := by cases q : wdB (bt N B (a + i)) with
        | false => rfl
        | true => exact absurd q c
      have c2 : b2i (wdB (bt N B (a + i))) = 0 := by rw [c1]; decide
      rw [if_pos c2, if_neg c]; rfl
theorem nameM_loop {len n : Int32} {B X : Ar} {N : Nat} (h : TX len B n X N) (p1 fl v2 : Int32) (q_at : Int32) (q_fault : Int32) (q_place : Int32) (q_numbered : Int32) (q_depth : Int32) (q_repeatable : Bool) (q_names : Ar) (q_nameSize : Ar) (q_opened : Ar) (q_number : Ar) (q_flagsBefore : Ar) (q_rows : Ar) (q_parts : Ar) : ∀ (m j : Nat) (F : Nat), j + m ≤ 2000 → ∃ F', f_MOD_openNamed_L9 n fl X p1 (F + m + 1) (v2, nI j, q_at, q_fault, q_place, q_numbered, q_depth, q_repeatable, q_names, q_nameSize, q_opened, q_number, q_flagsBefore, q_rows, q_parts) = f_MOD_openNamed_L9 n fl X p1 (F' + 1) (v2, nI (j + wlen N B m j), q_at, q_fault, q_place, q_numbered, q_depth, q_repeatable, q_names, q_nameSize, q_opened, q_number, q_flagsBefore, q_rows, q_parts) := by
  intro m
  induction m with
  | zero => intro j F _; exact ⟨F, rfl⟩
  | succ m ih =>
    intro j F hj
    rw [wlen_s]
    by_cases c : wdB (bt N B j) = true
    · rw [if_pos c]
      obtain ⟨F', e⟩ := ih (j + 1) F (by omega)
      refine ⟨F', ?_⟩
      rw [show j + (wlen N B m (j + 1) + 1) = j + 1 + wlen N B m (j + 1) from by omega, ← e, f_MOD_openNamed_L9_s]
      unfold f_MOD_openNamed_B9
      obtain ⟨_, _, w3, w4, _⟩ := wd_bt h j
      rw [bnd_s (at_M h (by omega)), bnd_s w3]
      have c' : (ltB (bt N B j) || dgB (bt N B j) || decide (bt N B j = 95)) = true := c
      cases cl : ltB (bt N B j) with
      | true => rw [if_neg (by decide), nI_1]; rfl
      | false =>
        rw [if_pos (by decide), bnd_s (at_M h (by omega)), bnd_s w4]
        cases cd : dgB (bt N B j) with
        | true => rw [if_neg (by decide), nI_1]; rfl
        | false =>
          rw [cl, cd] at c'
          have c5 : bt N B j = 95 := of_decide_eq_true c'
          rw [if_pos (by decide), bnd_s (at_M h (by omega)), if_pos c5, nI_1]; rfl
    · rw [if_neg c]; exact ⟨_, rfl⟩
theorem name_read {len n : Int32} {B X : Ar} {N : Nat} (h : TX len B n X N) (p1 fl : Int32) (q_at : Int32) (q_fault : Int32) (q_place : Int32) (q_numbered : Int32) (q_depth : Int32) (q_repeatable : Bool) (q_names : Ar) (q_nameSize : Ar) (q_opened : Ar) (q_number : Ar) (q_flagsBefore : Ar) (q_rows : Ar) (q_parts : Ar) {k : Nat} (hk : k ≤ N) (hat : q_at = nI (k + 1)) (na a0 : Int32) :
    ∃ ok L, L ≤ 12 ∧ f_OPG_readName len na 0 a0 B (nI (k + 3)) = some (ok, nI (k + 4), nI L, nI (k + 4 + L + 1)) ∧
      (ok = false → f_MOD_openNamed n q_at q_fault q_place q_numbered q_depth fl q_repeatable X q_names q_nameSize q_opened q_number q_flagsBefore q_rows q_parts p1 = f_MOD_openNamed_L90 n fl X p1 q_at q_fault q_place q_numbered q_depth q_repeatable q_names q_nameSize q_opened q_number q_flagsBefore q_rows q_parts) ∧
      (ok = true → 1 ≤ L ∧ k + 4 + L < N ∧ f_MOD_openNamed n q_at q_fault q_place q_numbered q_depth fl q_repeatable X q_names q_nameSize q_opened q_number q_flagsBefore q_rows q_parts p1 = f_MOD_openNamed_L101 n fl X p1 FU (nI (k + 4), nI (k + 4 + L), nI L, 1, q_at, q_fault, q_place, q_numbered, q_depth, q_repeatable, q_names, q_nameSize, q_opened, q_number, q_flagsBefore, q_rows, q_parts)) := by
  have hN := h.le
  have e13 : nI (k + 1) + 3 = nI (k + 4) := nI_add (k + 1) 3
  have e12 : nI (k + 1) + 2 = nI (k + 3) := nI_add (k + 1) 2
  have e31 : nI (k + 3) + 1 = nI (k + 4) := nI_1 (k + 3)
  unfold f_OPG_readName f_MOD_openNamed
  rw [e31, hat, e13, ← hat]
  have c1 : f_OPG_readName_L7 len B (nI (k + 3)) FU (nI (k + 4), 0, a0) = _ := nameC_loop h (nI (k + 3)) a0 (a := k + 4) (by omega) 12 0 999987 rfl
  obtain ⟨F', m1⟩ := nameM_loop h p1 fl (nI (k + 4)) q_at q_fault q_place q_numbered q_depth q_repeatable q_names q_nameSize q_opened q_number q_flagsBefore q_rows q_parts 401 (k + 4) 999598 (by omega)
  have m1' : f_MOD_openNamed_L9 n fl X p1 FU (nI (k + 4), nI (k + 4), q_at, q_fault, q_place, q_numbered, q_depth, q_repeatable, q_names, q_nameSize, q_opened, q_number, q_flagsBefore, q_rows, q_parts) = _ := m1
  rw [c1, m1']
  obtain ⟨w1, w2, w3⟩ := wlen_end h 401 (k + 4) (by omega)
  have wm : wlen N B 12 (k + 4) = min 12 (wlen N B 401 (k + 4)) := wlen_min N B 12 389 (k + 4)
  simp only [Nat.add_zero, Nat.zero_add]
  rw [wm]
  generalize wlen N B 401 (k + 4) = W at *
  rw [f_MOD_openNamed_L9_s]
  unfold f_MOD_openNamed_B9 f_OPG_readName_L51
  obtain ⟨_, _, v3, v4, _⟩ := wd_bt h (k + 4 + W)
  have w1' : (ltB (bt N B (k + 4 + W)) || dgB (bt N B (k + 4 + W)) || decide (bt N B (k + 4 + W) = 95)) = false := w1
  have x1 : ltB (bt N B (k + 4 + W)) = false := by cases q : ltB (bt N B (k + 4 + W)) with
    | false => rfl
    | true => rw [q] at w1'; simp at w1'
  have x2 : dgB (bt N B (k + 4 + W)) = false := by cases q : dgB (bt N B (k + 4 + W)) with
    | false => rfl
    | true => rw [q] at w1'; simp at w1'
  have x3 : ¬ bt N B (k + 4 + W) = 95 := fun q => by rw [q] at w1'; exact absurd w1' (by decide)
  have bf : b2i false = 0 := by decide
  rw [bnd_s (at_M h (by omega)), bnd_s v3, x1, if_pos bf, bnd_s (at_M h (by omega)), bnd_s v4, x2, if_pos bf, bnd_s (at_M h (by omega)), if_neg x3]
  have ea2 : q_at + 2 = nI (k + 3) := by rw [hat, e12]
  rw [ea2, bnd_s (at_M h (by omega)), bnd_s (at_C h (by omega))]
  have eL : ∀ l : Nat, nI (k + 4) + nI l + 1 = nI (k + 4 + l + 1) := fun l => by rw [nI_add, nI_1]
  rw [eL]
  have hmin : min 12 W ≤ 12 := Nat.min_le_left _ _
  by_cases a : bt N B (k + 3) = 60
  · rw [if_pos a, if_pos a, nI_sub]
    by_cases z : W = 0
    · have z1 : nI W < 1 := by rw [z]; decide
      have z2 : nI (min 12 W) ≤ 0 := by rw [z]; decide
      rw [if_pos z1, if_pos z2]
      exact ⟨false, min 12 W, hmin, rfl, fun _ => rfl, (fun q => (by cases q))⟩
    · have z1 : ¬ nI W < 1 := fun q => by have := (nI_ltI (b := 1) (by omega) (by decide)).mp q; omega
      have z2 : ¬ nI (min 12 W) ≤ 0 := fun q => by have := (nI_leI (b := 0) (by omega) (by decide)).mp q; omega
      rw [if_neg z1, if_neg z2]
      have e5 : nI (k + 4 + min 12 W + 1) - 1 = nI (k + 4 + min 12 W) := nI_pred _
      rw [e5, bnd_s (at_C h (by omega))]
      by_cases y : 12 < W
      · have y1 : (12 : Int32) < nI W := (nI_ltI (a := 12) (by decide) (by omega)).mpr y
        have y2 : min 12 W = 12 := by omega
        have y3 := w3 12 y
        have y4 : ¬ bt N B (k + 4 + min 12 W) = 62 := fun q => by rw [y2] at q; rw [q] at y3; exact absurd y3 (by decide)
        rw [if_pos y1, if_neg y4]
        exact ⟨false, min 12 W, hmin, rfl, fun _ => rfl, (fun q => (by cases q))⟩
      · have y1 : ¬ (12 : Int32) < nI W := fun q => y ((nI_ltI (a := 12) (by decide) (by omega)).mp q)
        have y2 : min 12 W = W := by omega
        rw [if_neg y1, bnd_s (at_M h (by omega)), y2]
        by_cases g : bt N B (k + 4 + W) = 62
        · have hg : k + 4 + W < N := bt_in h (by rw [g]; decide)
          rw [if_pos g, if_pos g]
          exact ⟨true, W, by omega, rfl, (fun q => (by cases q)), fun _ => ⟨by omega, hg, rfl⟩⟩
        · rw [if_neg g, if_neg g]
          exact ⟨false, W, by omega, rfl, fun _ => rfl, (fun q => (by cases q))⟩
  · rw [if_neg a, if_neg a]
    exact ⟨false, min 12 W, hmin, rfl, fun _ => rfl, (fun q => (by cases q))⟩

set_option maxRecDepth 100000
set_option linter.unusedVariables false
theorem mul12 (g : Nat) : nI g * 12 = nI (12 * g) ∧ 12 * nI g = nI (12 * g) := by
  have e : (12 : Int32) = nI 12 := rfl
  have m : ∀ a b : Nat, nI a * nI b = nI (a * b) := fun a b => by
    show Int32.ofNat a * Int32.ofNat b = Int32.ofNat (a * b)
    rw [Int32.ofNat_mul]
  rw [e, m, m, Nat.mul_comm]
  exact ⟨rfl, rfl⟩
theorem named_loop {len n : Int32} {B X : Ar} {N : Nat} (h : TX len B n X N) {lens lets nms nsz : Ar} {g L a : Nat} (hg : g ≤ 9) (hL : L ≤ 12) (ha : a + L ≤ N) (h1 : lens g = nI L) (h3 : ∀ i, i < L → lets (12 * g + i) = nms (12 * g + i)) : ∀ (m i : Nat) (F G : Nat), i + m = L → ∃ b, f_GRP_isNamed_L3 len B lens lets (nI g) (nI a) (F + m + 1) (nI i) = some b ∧ f_MOD_isNamed_L20 X nms nsz (nI g) (nI a) (nI L) (G + m + 2) (true, nI i) = some b := by
  have hN := h.le
  intro m
  induction m with
  | zero =>
    intro i F G hi
    refine ⟨true, ?_, ?_⟩
    · rw [f_GRP_isNamed_L3_s]
      unfold f_GRP_isNamed_B3
      have e : nI L ≤ nI i := (nI_leI (by omega) (by omega)).mpr (by omega)
      rw [grd_t (inb_nI (by omega) (by decide)), nI_clamp (by omega), h1, if_pos e]
    · rw [f_MOD_isNamed_L20_s]
      unfold f_MOD_isNamed_B20
      have e : nI L ≤ nI i := (nI_leI (by omega) (by omega)).mpr (by omega)
      rw [if_pos e]
  | succ m ih =>
    intro i F G hi
    have e : ¬ nI L ≤ nI i := fun q => by have := (nI_leI (by omega) (by omega)).mp q; omega
    have nb : ¬ b2i true = 0 := by decide
    have bf : b2i false = 0 := by decide
    have hb : bt N B (a + i) = B (a + i) := if_pos (by omega)
    rw [f_GRP_isNamed_L3_s, show G + (m + 1) + 2 = (G + m + 2) + 1 from by omega, f_MOD_isNamed_L20_s]
    unfold f_GRP_isNamed_B3 f_MOD_isNamed_B20
    rw [grd_t (inb_nI (by omega) (by decide)), nI_clamp (by omega), h1, if_neg e, if_neg e, if_neg nb, (mul12 g).1, (mul12 g).2, nI_add, nI_add, grd_t (inb_nI (by omega) (by decide)), grd_t (inb_nI (by omega) (by decide)), grd_t (inb_nI (by omega) (by decide)), bnd_s (at_C h (by omega)), nI_clamp (by omega), nI_clamp (by omega), hb, h.eq (a + i) (by omega), h3 i (by omega), nI_1]
    by_cases c : nms (12 * g + i) = B (a + i)
    · rw [if_pos c, if_pos c]
      exact ih (i + 1) F G (by omega)
    · rw [if_neg c, if_neg c]
      refine ⟨false, rfl, ?_⟩
      rw [show G + m + 2 = (G + m + 1) + 1 from rfl, f_MOD_isNamed_L20_s]
      unfold f_MOD_isNamed_B20
      by_cases d : nI L ≤ nI (i + 1)
      · rw [if_pos d]
      · rw [if_neg d, if_pos bf]
theorem named_eq {len n : Int32} {B X : Ar} {N : Nat} (h : TX len B n X N) {lens lets nms nsz : Ar} {g L a L' : Nat} (hg : g ≤ 9) (hL : L ≤ 12) (ha : a + L ≤ N) (hL' : L' ≤ 12) (h1 : lens g = nI L') (h2 : nsz g = nI L') (h3 : ∀ i, i < L' → lets (12 * g + i) = nms (12 * g + i)) :
    ∃ b, f_MOD_isNamed X nms nsz (nI g) (nI a) (nI L) = some b ∧ ((lens g = nI L ∧ f_GRP_isNamed len B lens lets (nI g) (nI a) = some b) ∨ (¬ lens g = nI L ∧ b = false)) := by
  have hN := h.le
  unfold f_MOD_isNamed
  rw [grd_t (inb_nI (by omega) (by decide)), nI_clamp (by omega), h2, h1]
  by_cases c : L' = L
  · subst c
    rw [if_pos rfl]
    obtain ⟨b, e1, e2⟩ := named_loop h (nsz := nsz) hg hL ha h1 h3 L' 0 (999999 - L') (999998 - L') (by omega)
    refine ⟨b, ?_, Or.inl ⟨rfl, ?_⟩⟩
    · unfold f_MOD_isNamed_L15
      have q : FU = 999998 - L' + L' + 2 := by show 1000000 = _; omega
      rw [q]; exact e2
    · unfold f_GRP_isNamed
      have q : FU = 999999 - L' + L' + 1 := by show 1000000 = _; omega
      rw [q]; exact e1
  · have c2 : ¬ nI L' = nI L := fun q => c ((nI_eq (by omega) (by omega)).mp q)
    rw [if_neg c2]
    refine ⟨false, ?_, Or.inr ⟨c2, rfl⟩⟩
    unfold f_MOD_isNamed_L15
    show f_MOD_isNamed_L20 X nms nsz (nI g) (nI a) (nI L) (999999 + 1) (false, 0) = _
    rw [f_MOD_isNamed_L20_s]
    unfold f_MOD_isNamed_B20
    have bf : b2i false = 0 := by decide
    by_cases d : nI L ≤ 0
    · rw [if_pos d]
    · rw [if_neg d, if_pos bf]
/-- the reference's search once a name was found: the fault stays -/
theorem found_loop {n : Int32} {X : Ar} (fl p1 v2 v3 v4 : Int32) (q_at : Int32) (q_numbered : Int32) (q_depth : Int32) (q_repeatable : Bool) (q_names : Ar) (q_nameSize : Ar) (q_opened : Ar) (q_number : Ar) (q_flagsBefore : Ar) (q_rows : Ar) (q_parts : Ar) {ng : Nat} (hng : ng ≤ 9) (hn : q_numbered = nI ng) (hi : ∀ g, 1 ≤ g → g ≤ ng → ∃ b, f_MOD_isNamed X q_names q_nameSize (nI g) v2 v4 = some b) : ∀ (m g : Nat) (F : Nat), 1 ≤ g → g + m = ng + 1 → f_MOD_openNamed_L101 n fl X p1 (F + m + 1) (v2, v3, v4, nI g, q_at, 11, p1, q_numbered, q_depth, q_repeatable, q_names, q_nameSize, q_opened, q_number, q_flagsBefore, q_rows, q_parts) = some (q_at, 11, p1, q_numbered, q_depth, q_repeatable, q_names, q_nameSize, q_opened, q_number, q_flagsBefore, q_rows, q_parts) := by
  subst hn
  intro m
  induction m with
  | zero =>
    intro g F hg1 hg
    rw [f_MOD_openNamed_L101_s]
    unfold f_MOD_openNamed_B101
    have e : nI ng < nI g := (nI_ltI (by omega) (by omega)).mpr (by omega)
    have e2 : ¬ (11 : Int32) ≤ 0 := by decide
    rw [if_pos e, if_neg e2]
  | succ m ih =>
    intro g F hg1 hg
    rw [f_MOD_openNamed_L101_s]
    unfold f_MOD_openNamed_B101
    have e : ¬ nI ng < nI g := fun q => by have := (nI_ltI (by omega) (by omega)).mp q; omega
    obtain ⟨b, hb⟩ := hi g hg1 (by omega)
    rw [if_neg e, bnd_s hb, nI_1]
    cases b with
    | false => rw [if_pos (by decide)]; exact ih (g + 1) F (by omega) (by omega)
    | true => rw [if_neg (by decide)]; exact ih (g + 1) F (by omega) (by omega)
theorem hasName_loop {len n : Int32} {B X : Ar} {N : Nat} (h : TX len B n X N) {lens lets : Ar} (fl p1 v3 : Int32) (q_at : Int32) (q_place : Int32) (q_numbered : Int32) (q_depth : Int32) (q_repeatable : Bool) (q_names : Ar) (q_nameSize : Ar) (q_opened : Ar) (q_number : Ar) (q_flagsBefore : Ar) (q_rows : Ar) (q_parts : Ar) {ng L a : Nat} (hng : ng ≤ 9) (hn : q_numbered = nI ng) (hL : L ≤ 12) (ha : a + L ≤ N)
    (hgr : ∀ g, 1 ≤ g → g ≤ ng → ∃ L, L ≤ 12 ∧ lens g = nI L ∧ q_nameSize g = nI L ∧ ∀ i, i < L → lets (12 * g + i) = q_names (12 * g + i)) : ∀ (m g : Nat) (F G : Nat), 1 ≤ g → g + m = ng + 1 →
    ∃ b, f_GRP_hasName_L3 len (nI ng) B lens lets (nI a) (nI L) (F + m + 1) (nI g) = some b ∧ (b = true → f_MOD_openNamed_L101 n fl X p1 (G + m + 1) (nI a, v3, nI L, nI g, q_at, 0, q_place, q_numbered, q_depth, q_repeatable, q_names, q_nameSize, q_opened, q_number, q_flagsBefore, q_rows, q_parts) = some (q_at, 11, p1, q_numbered, q_depth, q_repeatable, q_names, q_nameSize, q_opened, q_number, q_flagsBefore, q_rows, q_parts)) ∧
      (b = false → ∃ G', f_MOD_openNamed_L101 n fl X p1 (G + m + 1) (nI a, v3, nI L, nI g, q_at, 0, q_place, q_numbered, q_depth, q_repeatable, q_names, q_nameSize, q_opened, q_number, q_flagsBefore, q_rows, q_parts) = f_MOD_openNamed_L101 n fl X p1 (G' + 1) (nI a, v3, nI L, nI (ng + 1), q_at, 0, q_place, q_numbered, q_depth, q_repeatable, q_names, q_nameSize, q_opened, q_number, q_flagsBefore, q_rows, q_parts)) := by
  subst hn
  have hall : ∀ g, 1 ≤ g → g ≤ ng → ∃ b, f_MOD_isNamed X q_names q_nameSize (nI g) (nI a) (nI L) = some b := fun g g1 g2 => by
    obtain ⟨L', l1, l2, l3, l4⟩ := hgr g g1 g2
    obtain ⟨b, e1, _⟩ := named_eq h (g := g) (by omega) hL ha l1 l2 l3 l4
    exact ⟨b, e1⟩
  intro m
  induction m with
  | zero =>
    intro g F G hg1 hg
    have eg : g = ng + 1 := by omega
    subst eg
    refine ⟨false, ?_, (fun q => (by cases q)), fun _ => ⟨G, rfl⟩⟩
    rw [f_GRP_hasName_L3_s]
    unfold f_GRP_hasName_B3
    have e : nI ng < nI (ng + 1) := (nI_ltI (by omega) (by omega)).mpr (by omega)
    rw [if_pos e]
  | succ m ih =>
    intro g F G hg1 hg
    have e : ¬ nI ng < nI g := fun q => by have := (nI_ltI (by omega) (by omega)).mp q; omega
    obtain ⟨L', l1, l2, l3, l4⟩ := hgr g hg1 (by omega)
    obtain ⟨b, e1, e2⟩ := named_eq h (g := g) (by omega) hL ha l1 l2 l3 l4
    rw [f_GRP_hasName_L3_s, f_MOD_openNamed_L101_s]
    unfold f_GRP_hasName_B3 f_MOD_openNamed_B101
    rw [if_neg e, if_neg e, bnd_s e1, grd_t (inb_nI (by omega) (by decide)), nI_clamp (by omega), nI_1]
    rcases e2 with ⟨c, e2⟩ | ⟨c, rfl⟩
    · rw [if_pos c, bnd_s e2]
      cases b with
      | false =>
        rw [if_pos (by decide), if_pos (by decide)]
        exact ih (g + 1) F G (by omega) (by omega)
      | true =>
        rw [if_neg (by decide), if_neg (by decide)]
        refine ⟨true, rfl, fun _ => ?_, (fun q => (by cases q))⟩
        exact found_loop fl p1 (nI a) v3 (nI L) q_at (nI ng) q_depth q_repeatable q_names q_nameSize q_opened q_number q_flagsBefore q_rows q_parts hng rfl hall m (g + 1) G (by omega) (by omega)
    · rw [if_neg c, if_pos (by decide)]
      exact ih (g + 1) F G (by omega) (by omega)

set_option maxRecDepth 100000
set_option linter.unusedVariables false
theorem addC_loop {len n : Int32} {B X : Ar} {N : Nat} (h : TX len B n X N) {lens : Ar} (p3 : Int32) {g L a : Nat} (hg : g ≤ 9) (hL : L ≤ 12) (ha : a + L ≤ N) (h1 : lens g = nI L) : ∀ (m i : Nat) (F : Nat) (lets : Ar), i + m = L → ∃ lets2, f_GRP_addGroup_L37 len B (nI a) p3 (F + m + 1) (nI i, nI g, lens, lets) = some (nI g, nI g, lens, lets2) ∧ (∀ j, j < 12 * g + i → lets2 j = lets j) ∧ (∀ x, i ≤ x → x < L → lets2 (12 * g + x) = B (a + x)) := by
  have hN := h.le
  intro m
  induction m with
  | zero =>
    intro i F lets hi
    refine ⟨lets, ?_, fun j _ => rfl, fun x h1 h2 => by omega⟩
    rw [f_GRP_addGroup_L37_s]
    unfold f_GRP_addGroup_B37
    have e : nI L ≤ nI i := (nI_leI (by omega) (by omega)).mpr (by omega)
    rw [grd_t (inb_nI (by omega) (by decide)), nI_clamp (by omega), h1, if_pos e]
  | succ m ih =>
    intro i F lets hi
    have e : ¬ nI L ≤ nI i := fun q => by have := (nI_leI (by omega) (by omega)).mp q; omega
    have hb : bt N B (a + i) = B (a + i) := if_pos (by omega)
    obtain ⟨l2, e1, e2, e3⟩ := ih (i + 1) F (upd lets (12 * g + i) (B (a + i))) (by omega)
    refine ⟨l2, ?_, fun j hj => by rw [e2 j (by omega), upd_ne (by omega)], fun x h1 h2 => ?_⟩
    · rw [f_GRP_addGroup_L37_s]
      unfold f_GRP_addGroup_B37
      rw [grd_t (inb_nI (by omega) (by decide)), nI_clamp (by omega), h1, if_neg e, nI_add, bnd_s (at_C h (by omega)), hb, (mul12 g).1, nI_add, grd_t (inb_nI (by omega) (by decide)), nI_clamp (by omega), nI_1]
      exact e1
    · by_cases c : x = i
      · subst c; rw [e2 _ (by omega), upd_at]
      · exact e3 x (by omega) h2
theorem addM_loop {len n : Int32} {B X : Ar} {N : Nat} (h : TX len B n X N) (fl p1 : Int32) (q_at : Int32) (q_fault : Int32) (q_place : Int32) (q_numbered : Int32) (q_depth : Int32) (q_repeatable : Bool) (q_nameSize : Ar) (q_opened : Ar) (q_number : Ar) (q_flagsBefore : Ar) (q_rows : Ar) (q_parts : Ar) {g L a : Nat} (hg : g ≤ 9) (hL : L ≤ 12) (ha : a + L ≤ N) (hn : q_numbered = nI g) : ∀ (m i : Nat) (F : Nat) (nms : Ar), i + m = L → ∃ nms2, f_MOD_openNamed_L178 n fl X p1 (F + m + 1) (nI a, nI L, nI i, q_at, q_fault, q_place, q_numbered, q_depth, q_repeatable, nms, q_nameSize, q_opened, q_number, q_flagsBefore, q_rows, q_parts) = some (q_at, q_fault, q_place, q_numbered, q_depth, q_repeatable, nms2, q_nameSize, q_opened, q_number, q_flagsBefore, q_rows, q_parts) ∧ (∀ j, j < 12 * g + i → nms2 j = nms j) ∧ (∀ x, i ≤ x → x < L → nms2 (12 * g + x) = B (a + x)) := by
  have hN := h.le
  subst hn
  intro m
  induction m with
  | zero =>
    intro i F nms hi
    refine ⟨nms, ?_, fun j _ => rfl, fun x h1 h2 => by omega⟩
    rw [f_MOD_openNamed_L178_s]
    unfold f_MOD_openNamed_B178
    have e : nI L ≤ nI i := (nI_leI (by omega) (by omega)).mpr (by omega)
    rw [if_pos e]
  | succ m ih =>
    intro i F nms hi
    have e : ¬ nI L ≤ nI i := fun q => by have := (nI_leI (by omega) (by omega)).mp q; omega
    obtain ⟨l2, e1, e2, e3⟩ := ih (i + 1) F (upd nms (12 * g + i) (B (a + i))) (by omega)
    refine ⟨l2, ?_, fun j hj => by rw [e2 j (by omega), upd_ne (by omega)], fun x h1 h2 => ?_⟩
    · rw [f_MOD_openNamed_L178_s]
      unfold f_MOD_openNamed_B178
      rw [if_neg e, nI_add, (mul12 g).2, nI_add, grd_t (inb_nI (by omega) (by decide)), grd_t (inb_nI (by omega) (by decide)), nI_clamp (by omega), nI_clamp (by omega), h.eq (a + i) (by omega), nI_1]
      exact e1
    · by_cases c : x = i
      · subst c; rw [e2 _ (by omega), upd_at]
      · exact e3 x (by omega) h2
theorem addGroup_eq {len n : Int32} {B X : Ar} {N : Nat} (h : TX len B n X N) (lens lets : Ar) {ng L a : Nat} (p2 : Int32) (hng : ng < 9) (hL : L ≤ 12) (hp : 1 ≤ L → p2 = nI a ∧ a + L ≤ N) :
    ∃ lets2, f_GRP_addGroup len (nI ng) B lens lets p2 (nI L) = some (nI (ng + 1), nI (ng + 1), upd lens (ng + 1) (nI L), lets2) ∧ (∀ j, j < 12 * (ng + 1) → lets2 j = lets j) ∧ (∀ x, x < L → lets2 (12 * (ng + 1) + x) = B (a + x)) := by
  unfold f_GRP_addGroup
  have e1 : f_GRP_isFull (nI ng) = some false := by
    unfold f_GRP_isFull
    have q : nI ng < 9 := (nI_ltI (b := 9) (by omega) (by decide)).mpr hng
    rw [if_pos q]
  have bf : b2i false = 0 := by decide
  have e2 : ¬ (12 : Int32) < nI L := fun q => by have := (nI_ltI (a := 12) (by decide) (by omega)).mp q; omega
  rw [bnd_s e1, if_pos bf, nI_1, grd_t (inb_nI (by omega) (by decide)), nI_clamp (by omega), if_neg e2]
  by_cases c : 1 ≤ L
  · obtain ⟨q1, q2⟩ := hp c
    obtain ⟨l2, e3, e4, e5⟩ := addC_loop h (lens := upd lens (ng + 1) (nI L)) (nI L) (g := ng + 1) (a := a) (by omega) hL q2 (upd_at _ _ _) L 0 (999999 - L) lets (by omega)
    refine ⟨l2, ?_, fun j hj => e4 j (by omega), fun x hx => e5 x (by omega) hx⟩
    have q : FU = 999999 - L + L + 1 := by show 1000000 = _; omega
    rw [q1, q]
    exact e3
  · have c0 : L = 0 := by omega
    subst c0
    refine ⟨lets, ?_, fun j _ => rfl, fun x hx => by omega⟩
    show f_GRP_addGroup_L37 len B p2 (nI 0) (999999 + 1) (0, nI (ng + 1), upd lens (ng + 1) (nI 0), lets) = _
    rw [f_GRP_addGroup_L37_s]
    unfold f_GRP_addGroup_B37
    have e : nI 0 ≤ (0 : Int32) := by decide
    rw [grd_t (inb_nI (by omega) (by decide)), nI_clamp (by omega), upd_at, if_pos e]
theorem enterC {dp : Nat} (hd : dp < 30) (pls nus fas rws pts : Ar) (p1 p2 p3 : Int32) : f_OPN_enter (nI dp) pls nus fas rws pts p1 p2 p3 = some (nI (dp + 1), upd pls (dp + 1) p1, upd nus (dp + 1) p2, upd fas (dp + 1) p3, upd rws (dp + 1) 0, upd pts (dp + 1) 0) := by
  unfold f_OPN_enter
  have e : nI dp < 30 := (nI_ltI (b := 30) (by omega) (by decide)).mpr hd
  have g : inb (nI (dp + 1)) 31 = true := inb_nI (by omega) (by decide)
  rw [if_pos e, nI_1, grd_t g, grd_t g, grd_t g, grd_t g, grd_t g, nI_clamp (by omega)]
theorem enterM {dp ng : Nat} (hd : dp < 30) (hng : ng ≤ 9) (c : Bool) (hc : c = true → ng < 9) (f pl fl : Int32) (rep : Bool) (opd num fbf rws pts : Ar) (p1 : Int32) : f_MOD_enter f pl (nI ng) (nI dp) fl rep opd num fbf rws pts p1 c = some (f, pl, nI (if c then ng + 1 else ng), nI (dp + 1), false, upd opd (dp + 1) p1, upd num (dp + 1) (if c then nI (ng + 1) else 0), upd fbf (dp + 1) fl, upd rws (dp + 1) 0, upd pts (dp + 1) 0) := by
  unfold f_MOD_enter
  have e : ¬ nI dp = 30 := fun q => by have := (nI_eq (b := 30) (by omega) (by decide)).mp q; omega
  have g : inb (nI (dp + 1)) 32 = true := inb_nI (by omega) (by decide)
  have bf : b2i false = 0 := by decide
  have bt' : ¬ b2i true = 0 := by decide
  have z0 : nI ng + b2i false = nI ng := by show nI ng + nI 0 = _; rw [nI_add]; rfl
  have z1 : nI ng + b2i true = nI (ng + 1) := nI_1 ng
  rw [if_neg e]
  cases c with
  | false =>
    rw [if_pos bf]
    unfold f_MOD_enter_L38
    rw [if_pos bf]
    unfold f_MOD_enter_L52
    rw [nI_1, grd_t g, if_pos bf]
    unfold f_MOD_enter_L96
    rw [grd_t g, grd_t g, grd_t g, grd_t g, nI_clamp (by omega), z0]
    rfl
  | true =>
    have e2 : ¬ nI ng = 9 := fun q => by have := (nI_eq (b := 9) (by omega) (by decide)).mp q; have := hc rfl; omega
    rw [if_neg bt', if_neg e2]
    unfold f_MOD_enter_L38
    rw [if_neg bt']
    unfold f_MOD_enter_L52
    rw [nI_1, grd_t g, if_neg bt']
    unfold f_MOD_enter_L96
    rw [grd_t g, grd_t g, grd_t g, grd_t g, nI_clamp (by omega), z1]
    rfl
theorem RS.enter {N k nd rg ng dp : Nat} {R : List Nat} {r p : Nat → Nat} {flags : Int32} {rep : Bool} {kn vl mo ow sz fr rc bg en wt lens lets pls nus fas rws pts kn' vl' mo' sp' sz' wh' rf' rm' bg' en' nms nsz opd num fbf rws' pts' : Ar}
    (h : RS N k nd rg ng dp R r p flags rep kn vl mo ow sz fr rc bg en wt lens lets pls nus fas rws pts kn' vl' mo' sp' sz' wh' rf' rm' bg' en' nms nsz opd num fbf rws' pts') {k' ng2 : Nat} {lens2 lets2 nms2 nsz2 : Ar} {nu pl fl2 : Int32} (hk : k < k') (hN : k' ≤ N) (hd : dp < 30) (hnd : nd + 2 * (dp + 1) ≤ k' + ng2) (hng : ng2 ≤ 9)
    (gr : ∀ g, 1 ≤ g → g ≤ ng2 → ∃ L, L ≤ 12 ∧ lens2 g = nI L ∧ nsz2 g = nI L ∧ ∀ i, i < L → lets2 (12 * g + i) = nms2 (12 * g + i)) (gz : ∀ g, ng2 < g → g ≤ 10 → nsz2 g = 0) (hnu : 0 ≤ nu.toInt ∧ nu.toInt ≤ 9) (hfl : 0 ≤ fl2.toInt ∧ fl2.toInt ≤ 15) :
    RS N k' nd rg ng2 (dp + 1) R (setN r (dp + 1) 0) (setN p (dp + 1) 0) fl2 false kn vl mo ow sz fr rc bg en wt lens2 lets2 (upd pls (dp + 1) pl) (upd nus (dp + 1) nu) (upd fas (dp + 1) flags) (upd rws (dp + 1) 0) (upd pts (dp + 1) 0) kn' vl' mo' sp' sz' wh' rf' rm' bg' en' nms2 nsz2 (upd opd (dp + 1) pl) (upd num (dp + 1) nu) (upd fbf (dp + 1) flags) (upd rws' (dp + 1) 0) (upd pts' (dp + 1) 0) := by
  refine ⟨h.tr, hN, hnd, by have := h.rg_le; omega, hng, by omega, gr, gz, fun j hj => ?_, fun j h1 hj => ?_, ?_, hfl, (fun q => (by cases q))⟩
  · by_cases c : j = dp + 1
    · subst c
      rw [upd_at, upd_at, upd_at, upd_at, setN_at, setN_at]
      exact ⟨rfl, rfl, rfl, rfl⟩
    · rw [upd_ne c, upd_ne c, upd_ne c, upd_ne c, setN_ne c, setN_ne c]
      exact h.rw_ j (by omega)
  · by_cases c : j = dp + 1
    · subst c
      rw [upd_at, upd_at, upd_at, upd_at, upd_at, upd_at]
      exact ⟨rfl, rfl, rfl, h.fl, hnu⟩
    · rw [upd_ne c, upd_ne c, upd_ne c, upd_ne c, upd_ne c, upd_ne c]
      exact h.st j h1 (by omega)
  · rw [sumRP, setN_at, setN_at, sumRP_ext (r := r) (p := p) (fun j hj => ⟨setN_ne (by omega), setN_ne (by omega)⟩)]
    exact h.rl

set_option maxRecDepth 100000
set_option linter.unusedVariables false
theorem RS.names {N k nd rg ng dp : Nat} {R : List Nat} {r p : Nat → Nat} {flags : Int32} {rep : Bool} {kn vl mo ow sz fr rc bg en wt lens lets pls nus fas rws pts kn' vl' mo' sp' sz' wh' rf' rm' bg' en' nms nsz opd num fbf rws' pts' : Ar}
    (h : RS N k nd rg ng dp R r p flags rep kn vl mo ow sz fr rc bg en wt lens lets pls nus fas rws pts kn' vl' mo' sp' sz' wh' rf' rm' bg' en' nms nsz opd num fbf rws' pts') {lets2 nms2 nsz2 V : Ar} {L : Nat} (hL : L ≤ 12) (h1 : ∀ j, j < 12 * (ng + 1) → lets2 j = lets j) (h2 : ∀ x, x < L → lets2 (12 * (ng + 1) + x) = V x) (h3 : ∀ j, j < 12 * (ng + 1) → nms2 j = nms j) (h4 : ∀ x, x < L → nms2 (12 * (ng + 1) + x) = V x) (h5 : nsz2 (ng + 1) = nI L) (h6 : ∀ g, g ≠ ng + 1 → nsz2 g = nsz g) :
    (∀ g, 1 ≤ g → g ≤ ng + 1 → ∃ L', L' ≤ 12 ∧ upd lens (ng + 1) (nI L) g = nI L' ∧ nsz2 g = nI L' ∧ ∀ i, i < L' → lets2 (12 * g + i) = nms2 (12 * g + i)) ∧ (∀ g, ng + 1 < g → g ≤ 10 → nsz2 g = 0) := by
  refine ⟨fun g g1 g2 => ?_, fun g g1 g2 => by rw [h6 g (by omega)]; exact h.gz g (by omega) g2⟩
  by_cases c : g = ng + 1
  · subst c
    exact ⟨L, hL, upd_at _ _ _, h5, fun i hi => by rw [h2 i hi, h4 i hi]⟩
  · obtain ⟨L', a1, a2, a3, a4⟩ := h.gr g g1 (by omega)
    refine ⟨L', a1, by rw [upd_ne c]; exact a2, by rw [h6 g c]; exact a3, fun i hi => ?_⟩
    rw [h1 _ (by omega), h3 _ (by omega)]; exact a4 i hi
theorem full_f {ng : Nat} (h : ng < 9) : f_GRP_isFull (nI ng) = some false := by
  unfold f_GRP_isFull
  have q : nI ng < 9 := (nI_ltI (b := 9) (by omega) (by decide)).mpr h
  rw [if_pos q]
theorem full_t {ng : Nat} (h : ¬ ng < 9) (h2 : ng ≤ 9) : f_GRP_isFull (nI ng) = some true := by
  unfold f_GRP_isFull
  have q : ¬ nI ng < 9 := fun q => h ((nI_ltI (b := 9) (by omega) (by decide)).mp q)
  rw [if_neg q]
theorem br_open1 {len n : Int32} {B X : Ar} {N : Nat} (h : TX len B n X N) {lk tb tl tn : Ar} (hT : TB lk tb tl tn) {k : Nat} (hk : k < N) {nd rg ng dp : Nat} {R : List Nat} {r p : Nat → Nat} {xs ys : PL} {i_place : Int32} {s_pieces : Int32} {e_kind : Int32} {e_value : Int32} {e_set : Nat} {e_others : Bool} {e_after : Int32} {cl_single : Int32} {q_numbered : Bool} {q_flagsAlone : Bool} {q_nameAt : Int32} {q_nameLength : Int32} {q_flags : Int32} {q_after : Int32} {p_least : Int32} {p_most : Int32} {p_marked : Bool} {p_after : Int32} {p_number : Int32} {r_flags : Int32} {r_repeatable : Bool} {s_begins : Nat → Int32} {s_ends : Nat → Int32} {t_kinds : Nat → Int32} {t_values : Nat → Int32} {t_mosts : Nat → Int32} {t_owners : Nat → Int32} {t_sizes : Nat → Int32} {t_firstRanges : Nat → Int32} {t_rangeCounts : Nat → Int32} {t_begins : Nat → Int32} {t_ends : Nat → Int32} {t_waiting : Nat → Int32} {g_lengths : Nat → Int32} {g_letters : Nat → Int32} {o_places : Nat → Int32} {o_numbers : Nat → Int32} {o_flagsAround : Nat → Int32} {o_rows : Nat → Int32} {o_parts : Nat → Int32} {m_place : Int32} {m_behind : Int32} {m_notSet : Bool} {m_least : Int32} {m_greatest : Int32} {m_kind : Nat → Int32} {m_value : Nat → Int32} {m_most : Nat → Int32} {m_span : Nat → Int32} {m_size : Nat → Int32} {m_whose : Nat → Int32} {m_rangeFrom : Nat → Int32} {m_rangeMany : Nat → Int32} {m_begins : Nat → Int32} {m_ends : Nat → Int32} {m_names : Nat → Int32} {m_nameSize : Nat → Int32} {m_opened : Nat → Int32} {m_number : Nat → Int32} {m_flagsBefore : Nat → Int32} {m_rows : Nat → Int32} {m_parts : Nat → Int32} {m_low : Nat → Int32} {m_high : Nat → Int32} {m_many : Nat → Int32} (hM : MS m_low m_high m_many xs ys) (hS : RS N k nd rg ng dp R r p r_flags r_repeatable t_kinds t_values t_mosts t_owners t_sizes t_firstRanges t_rangeCounts t_begins t_ends t_waiting g_lengths g_letters o_places o_numbers o_flagsAround o_rows o_parts m_kind m_value m_most m_span m_size m_whose m_rangeFrom m_rangeMany m_begins m_ends m_names m_nameSize m_opened m_number m_flagsBefore m_rows m_parts) (h1 : ¬ bt N B (k + 1) = 63) (hcls : rN len B (0, i_place, s_pieces, nI nd, nI rg, nI R.length, nI ng, nI dp, e_kind, e_value, e_set, e_others, e_after, cl_single, q_numbered, q_flagsAlone, q_nameAt, q_nameLength, q_flags, q_after, p_least, p_most, p_marked, p_after, p_number, nI k, r_flags, r_repeatable, s_begins, s_ends, t_kinds, t_values, t_mosts, t_owners, t_sizes, t_firstRanges, t_rangeCounts, t_begins, t_ends, t_waiting, g_lengths, g_letters, o_places, o_numbers, o_flagsAround, o_rows, o_parts) = bnd_ (f_RDR_openGroup len 0 i_place (nI nd) (nI rg) (nI R.length) (nI ng) (nI dp) q_numbered q_flagsAlone q_nameAt q_nameLength q_flags q_after (nI k) r_flags r_repeatable B t_kinds t_values t_mosts t_owners t_sizes t_firstRanges t_rangeCounts t_waiting g_lengths g_letters o_places o_numbers o_flagsAround o_rows o_parts) (fun x => some (x.1, x.2.1, s_pieces, x.2.2.1, nI rg, x.2.2.2.1, x.2.2.2.2.1, x.2.2.2.2.2.1, e_kind, e_value, e_set, e_others, e_after, cl_single, x.2.2.2.2.2.2.1, x.2.2.2.2.2.2.2.1, x.2.2.2.2.2.2.2.2.1, x.2.2.2.2.2.2.2.2.2.1, x.2.2.2.2.2.2.2.2.2.2.1, x.2.2.2.2.2.2.2.2.2.2.2.1, p_least, p_most, p_marked, p_after, p_number, x.2.2.2.2.2.2.2.2.2.2.2.2.1, x.2.2.2.2.2.2.2.2.2.2.2.2.2.1, x.2.2.2.2.2.2.2.2.2.2.2.2.2.2.1, s_begins, s_ends, x.2.2.2.2.2.2.2.2.2.2.2.2.2.2.2.1, x.2.2.2.2.2.2.2.2.2.2.2.2.2.2.2.2.1, x.2.2.2.2.2.2.2.2.2.2.2.2.2.2.2.2.2.1, x.2.2.2.2.2.2.2.2.2.2.2.2.2.2.2.2.2.2.1, x.2.2.2.2.2.2.2.2.2.2.2.2.2.2.2.2.2.2.2.1, x.2.2.2.2.2.2.2.2.2.2.2.2.2.2.2.2.2.2.2.2.1, x.2.2.2.2.2.2.2.2.2.2.2.2.2.2.2.2.2.2.2.2.2.1, t_begins, t_ends, x.2.2.2.2.2.2.2.2.2.2.2.2.2.2.2.2.2.2.2.2.2.2.1, x.2.2.2.2.2.2.2.2.2.2.2.2.2.2.2.2.2.2.2.2.2.2.2.1, x.2.2.2.2.2.2.2.2.2.2.2.2.2.2.2.2.2.2.2.2.2.2.2.2.1, x.2.2.2.2.2.2.2.2.2.2.2.2.2.2.2.2.2.2.2.2.2.2.2.2.2.1, x.2.2.2.2.2.2.2.2.2.2.2.2.2.2.2.2.2.2.2.2.2.2.2.2.2.2.1, x.2.2.2.2.2.2.2.2.2.2.2.2.2.2.2.2.2.2.2.2.2.2.2.2.2.2.2.1, x.2.2.2.2.2.2.2.2.2.2.2.2.2.2.2.2.2.2.2.2.2.2.2.2.2.2.2.2.1, x.2.2.2.2.2.2.2.2.2.2.2.2.2.2.2.2.2.2.2.2.2.2.2.2.2.2.2.2.2))) (href : mS n X lk tb tl tn (nI k, 0, m_place, nI nd, nI rg, nI ng, nI dp, r_flags, r_repeatable, m_behind, m_notSet, m_least, m_greatest, m_kind, m_value, m_most, m_span, m_size, m_whose, m_rangeFrom, m_rangeMany, m_begins, m_ends, m_names, m_nameSize, m_opened, m_number, m_flagsBefore, m_rows, m_parts, m_low, m_high, m_many) = bnd_ (f_MOD_open n (nI k) 0 m_place (nI nd) (nI rg) (nI ng) (nI dp) r_flags r_repeatable X m_kind m_value m_most m_span m_size m_whose m_rangeFrom m_rangeMany m_names m_nameSize m_opened m_number m_flagsBefore m_rows m_parts) (fun z => some (z.1, z.2.1, z.2.2.1, z.2.2.2.1, nI rg, z.2.2.2.2.1, z.2.2.2.2.2.1, z.2.2.2.2.2.2.1, z.2.2.2.2.2.2.2.1, m_behind, m_notSet, m_least, m_greatest, z.2.2.2.2.2.2.2.2.1, z.2.2.2.2.2.2.2.2.2.1, z.2.2.2.2.2.2.2.2.2.2.1, z.2.2.2.2.2.2.2.2.2.2.2.1, z.2.2.2.2.2.2.2.2.2.2.2.2.1, z.2.2.2.2.2.2.2.2.2.2.2.2.2.1, z.2.2.2.2.2.2.2.2.2.2.2.2.2.2.1, z.2.2.2.2.2.2.2.2.2.2.2.2.2.2.2.1, m_begins, m_ends, z.2.2.2.2.2.2.2.2.2.2.2.2.2.2.2.2.1, z.2.2.2.2.2.2.2.2.2.2.2.2.2.2.2.2.2.1, z.2.2.2.2.2.2.2.2.2.2.2.2.2.2.2.2.2.2.1, z.2.2.2.2.2.2.2.2.2.2.2.2.2.2.2.2.2.2.2.1, z.2.2.2.2.2.2.2.2.2.2.2.2.2.2.2.2.2.2.2.2.1, z.2.2.2.2.2.2.2.2.2.2.2.2.2.2.2.2.2.2.2.2.2.1, z.2.2.2.2.2.2.2.2.2.2.2.2.2.2.2.2.2.2.2.2.2.2, m_low, m_high, m_many))) : StepOK N k (rN len B (0, i_place, s_pieces, nI nd, nI rg, nI R.length, nI ng, nI dp, e_kind, e_value, e_set, e_others, e_after, cl_single, q_numbered, q_flagsAlone, q_nameAt, q_nameLength, q_flags, q_after, p_least, p_most, p_marked, p_after, p_number, nI k, r_flags, r_repeatable, s_begins, s_ends, t_kinds, t_values, t_mosts, t_owners, t_sizes, t_firstRanges, t_rangeCounts, t_begins, t_ends, t_waiting, g_lengths, g_letters, o_places, o_numbers, o_flagsAround, o_rows, o_parts)) (mS n X lk tb tl tn (nI k, 0, m_place, nI nd, nI rg, nI ng, nI dp, r_flags, r_repeatable, m_behind, m_notSet, m_least, m_greatest, m_kind, m_value, m_most, m_span, m_size, m_whose, m_rangeFrom, m_rangeMany, m_begins, m_ends, m_names, m_nameSize, m_opened, m_number, m_flagsBefore, m_rows, m_parts, m_low, m_high, m_many)) := by
  have hN := h.le
  have hd := hS.dp_le
  have hg := hS.ng_le
  obtain ⟨s1, s2, s3, s4, s5⟩ := hS.small hN
  rw [hcls, href]
  unfold f_RDR_openGroup f_OPG_readOpening f_MOD_open
  have ek : nI k + 1 = nI (k + 1) := nI_1 k
  have ek2 : nI k + 2 = nI (k + 2) := nI_add k 2
  have ek3 : nI k + 3 = nI (k + 3) := nI_add k 3
  have ek4 : nI (k + 1) + 1 = nI (k + 2) := nI_1 (k + 1)
  have bF : b2i false = 0 := by decide
  have bT : ¬ b2i true = 0 := by decide
  rw [ek, bnd_s (at_C h (by omega)), bnd_s (at_M h (by omega))]
  rw [if_neg h1, if_neg h1]
  have z0 : (0 : Int32) ≤ 0 := by decide
  rw [bnd_s (rfl : some _ = some _)]
  simp only
  rw [if_neg bT, if_pos bF, if_pos z0]
  unfold f_RDR_openGroup_L134
  by_cases c : dp < 30
  · have c1 : nI dp < 30 := (nI_ltI (b := 30) (by omega) (by decide)).mpr c
    rw [if_pos c1, if_neg bT]
    by_cases g : ng < 9
    · have e1 : f_GRP_isFull (nI ng) = some false := full_f g
      rw [bnd_s e1, if_pos bF, bnd_s (enterM c hg true (fun _ => g) _ _ _ _ _ _ _ _ _ _)]
      unfold f_RDR_openGroup_L198 f_RDR_enterGroup
      obtain ⟨lets2, a1, a2, a3⟩ := addGroup_eq h g_lengths g_letters (L := 0) (a := 0) q_nameAt g (by omega) (fun q => by omega)
      have a1' : f_GRP_addGroup len (nI ng) B g_lengths g_letters q_nameAt 0 = _ := a1
      rw [if_neg bT, bnd_s a1']
      unfold f_RDR_enterGroup_L38
      simp only
      rw [bnd_s (enterC c _ _ _ _ _ _ _ _)]
      have hnu : 0 ≤ (nI (ng + 1)).toInt ∧ (nI (ng + 1)).toInt ≤ 9 := by rw [nI_toInt (by omega)]; omega
      obtain ⟨n1, n2⟩ := hS.names (lets2 := lets2) (nms2 := m_names) (nsz2 := m_nameSize) (V := fun x => B (0 + x)) (L := 0) (by omega) a2 a3 (fun j _ => rfl) (fun x hx => by omega) (hS.gz (ng + 1) (by omega) (by omega)) (fun g _ => rfl)
      exact ⟨_, _, rfl, rfl, Or.inr ⟨k + 1, by omega, rfl, rfl, nd, rg, ng + 1, dp + 1, R, setN r (dp + 1) 0, setN p (dp + 1) 0, ⟨rfl, rfl, rfl, rfl, rfl, rfl⟩, ⟨rfl, rfl, rfl, rfl, rfl, rfl, rfl⟩, ⟨xs, ys, hM⟩, hS.enter (by omega) (by omega) c (by have := hS.nd_le; omega) (by omega) n1 n2 hnu hS.fl⟩⟩
    · have e1 : f_GRP_isFull (nI ng) = some true := full_t g hg
      rw [bnd_s e1, if_neg bT]
      have en : ¬ nI dp = 30 := fun q => by have := (nI_eq (b := 30) (by omega) (by decide)).mp q; omega
      have eg : nI ng = 9 := by have q : ng = 9 := by omega
                                rw [q]; rfl
      unfold f_MOD_enter
      rw [if_neg en, if_neg bT, if_pos eg]
      exact ⟨_, _, rfl, rfl, Or.inl ⟨(by decide : (13 : Int32) ≠ 0), (by decide : (0 : Int32) < 13), ⟨dp, rfl, hS.dp_le⟩, xs, ys, hM⟩⟩
  · have c1 : ¬ nI dp < 30 := fun q => c ((nI_ltI (b := 30) (by omega) (by decide)).mp q)
    have en : nI dp = 30 := by have q : dp = 30 := by omega
                               rw [q]; rfl
    rw [if_neg c1]
    unfold f_MOD_enter
    rw [if_pos en]
    exact ⟨_, _, rfl, rfl, Or.inl ⟨(by decide : (12 : Int32) ≠ 0), (by decide : (0 : Int32) < 12), ⟨dp, rfl, hS.dp_le⟩, xs, ys, hM⟩⟩

set_option maxRecDepth 100000
set_option linter.unusedVariables false
theorem br_open2 {len n : Int32} {B X : Ar} {N : Nat} (h : TX len B n X N) {lk tb tl tn : Ar} (hT : TB lk tb tl tn) {k : Nat} (hk : k < N) {nd rg ng dp : Nat} {R : List Nat} {r p : Nat → Nat} {xs ys : PL} {i_place : Int32} {s_pieces : Int32} {e_kind : Int32} {e_value : Int32} {e_set : Nat} {e_others : Bool} {e_after : Int32} {cl_single : Int32} {q_numbered : Bool} {q_flagsAlone : Bool} {q_nameAt : Int32} {q_nameLength : Int32} {q_flags : Int32} {q_after : Int32} {p_least : Int32} {p_most : Int32} {p_marked : Bool} {p_after : Int32} {p_number : Int32} {r_flags : Int32} {r_repeatable : Bool} {s_begins : Nat → Int32} {s_ends : Nat → Int32} {t_kinds : Nat → Int32} {t_values : Nat → Int32} {t_mosts : Nat → Int32} {t_owners : Nat → Int32} {t_sizes : Nat → Int32} {t_firstRanges : Nat → Int32} {t_rangeCounts : Nat → Int32} {t_begins : Nat → Int32} {t_ends : Nat → Int32} {t_waiting : Nat → Int32} {g_lengths : Nat → Int32} {g_letters : Nat → Int32} {o_places : Nat → Int32} {o_numbers : Nat → Int32} {o_flagsAround : Nat → Int32} {o_rows : Nat → Int32} {o_parts : Nat → Int32} {m_place : Int32} {m_behind : Int32} {m_notSet : Bool} {m_least : Int32} {m_greatest : Int32} {m_kind : Nat → Int32} {m_value : Nat → Int32} {m_most : Nat → Int32} {m_span : Nat → Int32} {m_size : Nat → Int32} {m_whose : Nat → Int32} {m_rangeFrom : Nat → Int32} {m_rangeMany : Nat → Int32} {m_begins : Nat → Int32} {m_ends : Nat → Int32} {m_names : Nat → Int32} {m_nameSize : Nat → Int32} {m_opened : Nat → Int32} {m_number : Nat → Int32} {m_flagsBefore : Nat → Int32} {m_rows : Nat → Int32} {m_parts : Nat → Int32} {m_low : Nat → Int32} {m_high : Nat → Int32} {m_many : Nat → Int32} (hM : MS m_low m_high m_many xs ys) (hS : RS N k nd rg ng dp R r p r_flags r_repeatable t_kinds t_values t_mosts t_owners t_sizes t_firstRanges t_rangeCounts t_begins t_ends t_waiting g_lengths g_letters o_places o_numbers o_flagsAround o_rows o_parts m_kind m_value m_most m_span m_size m_whose m_rangeFrom m_rangeMany m_begins m_ends m_names m_nameSize m_opened m_number m_flagsBefore m_rows m_parts) (h1 : bt N B (k + 1) = 63) (h2 : bt N B (k + 2) = 80) (hcls : rN len B (0, i_place, s_pieces, nI nd, nI rg, nI R.length, nI ng, nI dp, e_kind, e_value, e_set, e_others, e_after, cl_single, q_numbered, q_flagsAlone, q_nameAt, q_nameLength, q_flags, q_after, p_least, p_most, p_marked, p_after, p_number, nI k, r_flags, r_repeatable, s_begins, s_ends, t_kinds, t_values, t_mosts, t_owners, t_sizes, t_firstRanges, t_rangeCounts, t_begins, t_ends, t_waiting, g_lengths, g_letters, o_places, o_numbers, o_flagsAround, o_rows, o_parts) = bnd_ (f_RDR_openGroup len 0 i_place (nI nd) (nI rg) (nI R.length) (nI ng) (nI dp) q_numbered q_flagsAlone q_nameAt q_nameLength q_flags q_after (nI k) r_flags r_repeatable B t_kinds t_values t_mosts t_owners t_sizes t_firstRanges t_rangeCounts t_waiting g_lengths g_letters o_places o_numbers o_flagsAround o_rows o_parts) (fun x => some (x.1, x.2.1, s_pieces, x.2.2.1, nI rg, x.2.2.2.1, x.2.2.2.2.1, x.2.2.2.2.2.1, e_kind, e_value, e_set, e_others, e_after, cl_single, x.2.2.2.2.2.2.1, x.2.2.2.2.2.2.2.1, x.2.2.2.2.2.2.2.2.1, x.2.2.2.2.2.2.2.2.2.1, x.2.2.2.2.2.2.2.2.2.2.1, x.2.2.2.2.2.2.2.2.2.2.2.1, p_least, p_most, p_marked, p_after, p_number, x.2.2.2.2.2.2.2.2.2.2.2.2.1, x.2.2.2.2.2.2.2.2.2.2.2.2.2.1, x.2.2.2.2.2.2.2.2.2.2.2.2.2.2.1, s_begins, s_ends, x.2.2.2.2.2.2.2.2.2.2.2.2.2.2.2.1, x.2.2.2.2.2.2.2.2.2.2.2.2.2.2.2.2.1, x.2.2.2.2.2.2.2.2.2.2.2.2.2.2.2.2.2.1, x.2.2.2.2.2.2.2.2.2.2.2.2.2.2.2.2.2.2.1, x.2.2.2.2.2.2.2.2.2.2.2.2.2.2.2.2.2.2.2.1, x.2.2.2.2.2.2.2.2.2.2.2.2.2.2.2.2.2.2.2.2.1, x.2.2.2.2.2.2.2.2.2.2.2.2.2.2.2.2.2.2.2.2.2.1, t_begins, t_ends, x.2.2.2.2.2.2.2.2.2.2.2.2.2.2.2.2.2.2.2.2.2.2.1, x.2.2.2.2.2.2.2.2.2.2.2.2.2.2.2.2.2.2.2.2.2.2.2.1, x.2.2.2.2.2.2.2.2.2.2.2.2.2.2.2.2.2.2.2.2.2.2.2.2.1, x.2.2.2.2.2.2.2.2.2.2.2.2.2.2.2.2.2.2.2.2.2.2.2.2.2.1, x.2.2.2.2.2.2.2.2.2.2.2.2.2.2.2.2.2.2.2.2.2.2.2.2.2.2.1, x.2.2.2.2.2.2.2.2.2.2.2.2.2.2.2.2.2.2.2.2.2.2.2.2.2.2.2.1, x.2.2.2.2.2.2.2.2.2.2.2.2.2.2.2.2.2.2.2.2.2.2.2.2.2.2.2.2.1, x.2.2.2.2.2.2.2.2.2.2.2.2.2.2.2.2.2.2.2.2.2.2.2.2.2.2.2.2.2))) (href : mS n X lk tb tl tn (nI k, 0, m_place, nI nd, nI rg, nI ng, nI dp, r_flags, r_repeatable, m_behind, m_notSet, m_least, m_greatest, m_kind, m_value, m_most, m_span, m_size, m_whose, m_rangeFrom, m_rangeMany, m_begins, m_ends, m_names, m_nameSize, m_opened, m_number, m_flagsBefore, m_rows, m_parts, m_low, m_high, m_many) = bnd_ (f_MOD_open n (nI k) 0 m_place (nI nd) (nI rg) (nI ng) (nI dp) r_flags r_repeatable X m_kind m_value m_most m_span m_size m_whose m_rangeFrom m_rangeMany m_names m_nameSize m_opened m_number m_flagsBefore m_rows m_parts) (fun z => some (z.1, z.2.1, z.2.2.1, z.2.2.2.1, nI rg, z.2.2.2.2.1, z.2.2.2.2.2.1, z.2.2.2.2.2.2.1, z.2.2.2.2.2.2.2.1, m_behind, m_notSet, m_least, m_greatest, z.2.2.2.2.2.2.2.2.1, z.2.2.2.2.2.2.2.2.2.1, z.2.2.2.2.2.2.2.2.2.2.1, z.2.2.2.2.2.2.2.2.2.2.2.1, z.2.2.2.2.2.2.2.2.2.2.2.2.1, z.2.2.2.2.2.2.2.2.2.2.2.2.2.1, z.2.2.2.2.2.2.2.2.2.2.2.2.2.2.1, z.2.2.2.2.2.2.2.2.2.2.2.2.2.2.2.1, m_begins, m_ends, z.2.2.2.2.2.2.2.2.2.2.2.2.2.2.2.2.1, z.2.2.2.2.2.2.2.2.2.2.2.2.2.2.2.2.2.1, z.2.2.2.2.2.2.2.2.2.2.2.2.2.2.2.2.2.2.1, z.2.2.2.2.2.2.2.2.2.2.2.2.2.2.2.2.2.2.2.1, z.2.2.2.2.2.2.2.2.2.2.2.2.2.2.2.2.2.2.2.2.1, z.2.2.2.2.2.2.2.2.2.2.2.2.2.2.2.2.2.2.2.2.2.1, z.2.2.2.2.2.2.2.2.2.2.2.2.2.2.2.2.2.2.2.2.2.2, m_low, m_high, m_many))) : StepOK N k (rN len B (0, i_place, s_pieces, nI nd, nI rg, nI R.length, nI ng, nI dp, e_kind, e_value, e_set, e_others, e_after, cl_single, q_numbered, q_flagsAlone, q_nameAt, q_nameLength, q_flags, q_after, p_least, p_most, p_marked, p_after, p_number, nI k, r_flags, r_repeatable, s_begins, s_ends, t_kinds, t_values, t_mosts, t_owners, t_sizes, t_firstRanges, t_rangeCounts, t_begins, t_ends, t_waiting, g_lengths, g_letters, o_places, o_numbers, o_flagsAround, o_rows, o_parts)) (mS n X lk tb tl tn (nI k, 0, m_place, nI nd, nI rg, nI ng, nI dp, r_flags, r_repeatable, m_behind, m_notSet, m_least, m_greatest, m_kind, m_value, m_most, m_span, m_size, m_whose, m_rangeFrom, m_rangeMany, m_begins, m_ends, m_names, m_nameSize, m_opened, m_number, m_flagsBefore, m_rows, m_parts, m_low, m_high, m_many)) := by
  have hN := h.le
  have hd := hS.dp_le
  have hg := hS.ng_le
  obtain ⟨s1, s2, s3, s4, s5⟩ := hS.small hN
  rw [hcls, href]
  unfold f_RDR_openGroup f_OPG_readOpening f_MOD_open
  have ek : nI k + 1 = nI (k + 1) := nI_1 k
  have ek2 : nI k + 2 = nI (k + 2) := nI_add k 2
  have ek3 : nI k + 3 = nI (k + 3) := nI_add k 3
  have ek4 : nI (k + 1) + 1 = nI (k + 2) := nI_1 (k + 1)
  have bF : b2i false = 0 := by decide
  have bT : ¬ b2i true = 0 := by decide
  rw [ek, bnd_s (at_C h (by omega)), bnd_s (at_M h (by omega))]
  have hk2 : k + 2 < N := bt_in h (by rw [h2]; decide)
  rw [if_pos h1, if_pos h1, ek2, ek4, bnd_s (at_C h (by omega)), bnd_s (at_M h (by omega)), if_pos h2, if_pos h2, ek3]
  obtain ⟨ok, L, hL, c1, c2, c3⟩ := name_read h (nI k) r_flags (nI (k + 1)) 0 m_place (nI ng) (nI dp) r_repeatable m_names m_nameSize m_opened m_number m_flagsBefore m_rows m_parts (k := k) (by omega) rfl q_nameAt (nI (k + 1))
  rw [bnd_s c1]
  rw [bnd_s (rfl : some _ = some _)]
  simp only
  cases ok with
  | false =>
    rw [if_pos bF, c2 rfl]
    unfold f_MOD_openNamed_L90
    exact ⟨_, _, rfl, rfl, Or.inl ⟨(by decide : (10 : Int32) ≠ 0), (by decide : (0 : Int32) < 10), ⟨dp, rfl, hS.dp_le⟩, xs, ys, hM⟩⟩
  | true =>
    obtain ⟨hL1, hLN, c3⟩ := c3 rfl
    have z0 : ¬ nI L ≤ 0 := fun q => by have := (nI_leI (b := 0) (by omega) (by decide)).mp q; omega
    rw [if_neg bT, if_pos bF, if_neg z0, c3]
    obtain ⟨b, g1, g2, g3⟩ := hasName_loop h (lens := g_lengths) (lets := g_letters) r_flags (nI k) (nI (k + 4 + L)) (nI (k + 1)) m_place (nI ng) (nI dp) r_repeatable m_names m_nameSize m_opened m_number m_flagsBefore m_rows m_parts hg rfl hL (a := k + 4) (by omega) hS.gr ng 1 (999999 - ng) (999999 - ng) (by omega) (by omega)
    have qF : 999999 - ng + ng + 1 = FU := by show _ = 1000000; omega
    rw [qF] at g1 g2 g3
    have g1' : f_GRP_hasName len (nI ng) B g_lengths g_letters (nI (k + 4)) (nI L) = some b := g1
    rw [bnd_s g1']
    cases b with
    | true =>
      rw [if_neg bT]
      have g2' : f_MOD_openNamed_L101 n r_flags X (nI k) FU (nI (k + 4), nI (k + 4 + L), nI L, 1, nI (k + 1), 0, m_place, nI ng, nI dp, r_repeatable, m_names, m_nameSize, m_opened, m_number, m_flagsBefore, m_rows, m_parts) = _ := g2 rfl
      rw [g2']
      exact ⟨_, _, rfl, rfl, Or.inl ⟨(by decide : (11 : Int32) ≠ 0), (by decide : (0 : Int32) < 11), ⟨dp, rfl, hS.dp_le⟩, xs, ys, hM⟩⟩
    | false =>
      rw [if_pos bF]
      obtain ⟨G', g3⟩ := g3 rfl
      have g3' : f_MOD_openNamed_L101 n r_flags X (nI k) FU (nI (k + 4), nI (k + 4 + L), nI L, 1, nI (k + 1), 0, m_place, nI ng, nI dp, r_repeatable, m_names, m_nameSize, m_opened, m_number, m_flagsBefore, m_rows, m_parts) = _ := g3
      rw [g3', f_MOD_openNamed_L101_s]
      unfold f_MOD_openNamed_B101
      have e1 : nI ng < nI (ng + 1) := (nI_ltI (by omega) (by omega)).mpr (by omega)
      have e2 : (0 : Int32) ≤ 0 := by decide
      rw [if_pos e1, if_pos e2]
      unfold f_RDR_openGroup_L134
      by_cases c : dp < 30
      · have c1 : nI dp < 30 := (nI_ltI (b := 30) (by omega) (by decide)).mpr c
        rw [if_pos c1, if_neg bT]
        by_cases g : ng < 9
        · rw [bnd_s (full_f g), if_pos bF, bnd_s (enterM c hg true (fun _ => g) _ _ _ _ _ _ _ _ _ _)]
          unfold f_RDR_openGroup_L198 f_RDR_enterGroup
          obtain ⟨lets2, a1, a2, a3⟩ := addGroup_eq h g_lengths g_letters (L := L) (a := k + 4) (nI (k + 4)) g hL (fun _ => ⟨rfl, by omega⟩)
          rw [if_neg bT, bnd_s a1]
          unfold f_RDR_enterGroup_L38
          simp only [↓reduceIte]
          rw [bnd_s (enterC c _ _ _ _ _ _ _ _)]
          rw [if_pos e2, grd_t (inb_nI (by omega) (by decide)), nI_clamp (by omega), nI_1]
          obtain ⟨nms2, b1, b2, b3⟩ := addM_loop h r_flags (nI k) (nI (k + 4 + L + 1)) 0 m_place (nI (ng + 1)) (nI (dp + 1)) false (upd m_nameSize (ng + 1) (nI L)) (upd m_opened (dp + 1) (nI k)) (upd m_number (dp + 1) (nI (ng + 1))) (upd m_flagsBefore (dp + 1) r_flags) (upd m_rows (dp + 1) 0) (upd m_parts (dp + 1) 0) (g := ng + 1) (L := L) (a := k + 4) (by omega) hL (by omega) rfl L 0 (999999 - L) m_names (by omega)
          have qL : 999999 - L + L + 1 = FU := by show _ = 1000000; omega
          rw [qL] at b1
          have b1' : f_MOD_openNamed_L178 n r_flags X (nI k) FU (nI (k + 4), nI L, 0, nI (k + 4 + L + 1), 0, m_place, nI (ng + 1), nI (dp + 1), false, m_names, upd m_nameSize (ng + 1) (nI L), upd m_opened (dp + 1) (nI k), upd m_number (dp + 1) (nI (ng + 1)), upd m_flagsBefore (dp + 1) r_flags, upd m_rows (dp + 1) 0, upd m_parts (dp + 1) 0) = _ := b1
          rw [b1']
          have hnu : 0 ≤ (nI (ng + 1)).toInt ∧ (nI (ng + 1)).toInt ≤ 9 := by rw [nI_toInt (by omega)]; omega
          obtain ⟨n1, n2⟩ := hS.names (lets2 := lets2) (nms2 := nms2) (nsz2 := upd m_nameSize (ng + 1) (nI L)) (V := fun x => B (k + 4 + x)) (L := L) hL a2 a3 (fun j hj => b2 j (by omega)) (fun x hx => b3 x (by omega) hx) (upd_at _ _ _) (fun g hg => upd_ne hg)
          exact ⟨_, _, rfl, rfl, Or.inr ⟨k + 4 + L + 1, by omega, rfl, rfl, nd, rg, ng + 1, dp + 1, R, setN r (dp + 1) 0, setN p (dp + 1) 0, ⟨rfl, rfl, rfl, rfl, rfl, rfl⟩, ⟨rfl, rfl, rfl, rfl, rfl, rfl, rfl⟩, ⟨xs, ys, hM⟩, hS.enter (by omega) (by omega) c (by have := hS.nd_le; omega) (by omega) n1 n2 hnu hS.fl⟩⟩
        · rw [bnd_s (full_t g hg), if_neg bT]
          have en : ¬ nI dp = 30 := fun q => by have := (nI_eq (b := 30) (by omega) (by decide)).mp q; omega
          have eg : nI ng = 9 := by have q : ng = 9 := by omega
                                    rw [q]; rfl
          unfold f_MOD_enter
          rw [if_neg en, if_neg bT, if_pos eg]
          exact ⟨_, _, rfl, rfl, Or.inl ⟨(by decide : (13 : Int32) ≠ 0), (by decide : (0 : Int32) < 13), ⟨dp, rfl, hS.dp_le⟩, xs, ys, hM⟩⟩
      · have c1 : ¬ nI dp < 30 := fun q => c ((nI_ltI (b := 30) (by omega) (by decide)).mp q)
        have en : nI dp = 30 := by have q : dp = 30 := by omega
                                   rw [q]; rfl
        rw [if_neg c1]
        unfold f_MOD_enter
        rw [if_pos en]
        exact ⟨_, _, rfl, rfl, Or.inl ⟨(by decide : (12 : Int32) ≠ 0), (by decide : (0 : Int32) < 12), ⟨dp, rfl, hS.dp_le⟩, xs, ys, hM⟩⟩
theorem br_open3 {len n : Int32} {B X : Ar} {N : Nat} (h : TX len B n X N) {lk tb tl tn : Ar} (hT : TB lk tb tl tn) {k : Nat} (hk : k < N) {nd rg ng dp : Nat} {R : List Nat} {r p : Nat → Nat} {xs ys : PL} {i_place : Int32} {s_pieces : Int32} {e_kind : Int32} {e_value : Int32} {e_set : Nat} {e_others : Bool} {e_after : Int32} {cl_single : Int32} {q_numbered : Bool} {q_flagsAlone : Bool} {q_nameAt : Int32} {q_nameLength : Int32} {q_flags : Int32} {q_after : Int32} {p_least : Int32} {p_most : Int32} {p_marked : Bool} {p_after : Int32} {p_number : Int32} {r_flags : Int32} {r_repeatable : Bool} {s_begins : Nat → Int32} {s_ends : Nat → Int32} {t_kinds : Nat → Int32} {t_values : Nat → Int32} {t_mosts : Nat → Int32} {t_owners : Nat → Int32} {t_sizes : Nat → Int32} {t_firstRanges : Nat → Int32} {t_rangeCounts : Nat → Int32} {t_begins : Nat → Int32} {t_ends : Nat → Int32} {t_waiting : Nat → Int32} {g_lengths : Nat → Int32} {g_letters : Nat → Int32} {o_places : Nat → Int32} {o_numbers : Nat → Int32} {o_flagsAround : Nat → Int32} {o_rows : Nat → Int32} {o_parts : Nat → Int32} {m_place : Int32} {m_behind : Int32} {m_notSet : Bool} {m_least : Int32} {m_greatest : Int32} {m_kind : Nat → Int32} {m_value : Nat → Int32} {m_most : Nat → Int32} {m_span : Nat → Int32} {m_size : Nat → Int32} {m_whose : Nat → Int32} {m_rangeFrom : Nat → Int32} {m_rangeMany : Nat → Int32} {m_begins : Nat → Int32} {m_ends : Nat → Int32} {m_names : Nat → Int32} {m_nameSize : Nat → Int32} {m_opened : Nat → Int32} {m_number : Nat → Int32} {m_flagsBefore : Nat → Int32} {m_rows : Nat → Int32} {m_parts : Nat → Int32} {m_low : Nat → Int32} {m_high : Nat → Int32} {m_many : Nat → Int32} (hM : MS m_low m_high m_many xs ys) (hS : RS N k nd rg ng dp R r p r_flags r_repeatable t_kinds t_values t_mosts t_owners t_sizes t_firstRanges t_rangeCounts t_begins t_ends t_waiting g_lengths g_letters o_places o_numbers o_flagsAround o_rows o_parts m_kind m_value m_most m_span m_size m_whose m_rangeFrom m_rangeMany m_begins m_ends m_names m_nameSize m_opened m_number m_flagsBefore m_rows m_parts) (h1 : bt N B (k + 1) = 63) (h2 : ¬ bt N B (k + 2) = 80) (hcls : rN len B (0, i_place, s_pieces, nI nd, nI rg, nI R.length, nI ng, nI dp, e_kind, e_value, e_set, e_others, e_after, cl_single, q_numbered, q_flagsAlone, q_nameAt, q_nameLength, q_flags, q_after, p_least, p_most, p_marked, p_after, p_number, nI k, r_flags, r_repeatable, s_begins, s_ends, t_kinds, t_values, t_mosts, t_owners, t_sizes, t_firstRanges, t_rangeCounts, t_begins, t_ends, t_waiting, g_lengths, g_letters, o_places, o_numbers, o_flagsAround, o_rows, o_parts) = bnd_ (f_RDR_openGroup len 0 i_place (nI nd) (nI rg) (nI R.length) (nI ng) (nI dp) q_numbered q_flagsAlone q_nameAt q_nameLength q_flags q_after (nI k) r_flags r_repeatable B t_kinds t_values t_mosts t_owners t_sizes t_firstRanges t_rangeCounts t_waiting g_lengths g_letters o_places o_numbers o_flagsAround o_rows o_parts) (fun x => some (x.1, x.2.1, s_pieces, x.2.2.1, nI rg, x.2.2.2.1, x.2.2.2.2.1, x.2.2.2.2.2.1, e_kind, e_value, e_set, e_others, e_after, cl_single, x.2.2.2.2.2.2.1, x.2.2.2.2.2.2.2.1, x.2.2.2.2.2.2.2.2.1, x.2.2.2.2.2.2.2.2.2.1, x.2.2.2.2.2.2.2.2.2.2.1, x.2.2.2.2.2.2.2.2.2.2.2.1, p_least, p_most, p_marked, p_after, p_number, x.2.2.2.2.2.2.2.2.2.2.2.2.1, x.2.2.2.2.2.2.2.2.2.2.2.2.2.1, x.2.2.2.2.2.2.2.2.2.2.2.2.2.2.1, s_begins, s_ends, x.2.2.2.2.2.2.2.2.2.2.2.2.2.2.2.1, x.2.2.2.2.2.2.2.2.2.2.2.2.2.2.2.2.1, x.2.2.2.2.2.2.2.2.2.2.2.2.2.2.2.2.2.1, x.2.2.2.2.2.2.2.2.2.2.2.2.2.2.2.2.2.2.1, x.2.2.2.2.2.2.2.2.2.2.2.2.2.2.2.2.2.2.2.1, x.2.2.2.2.2.2.2.2.2.2.2.2.2.2.2.2.2.2.2.2.1, x.2.2.2.2.2.2.2.2.2.2.2.2.2.2.2.2.2.2.2.2.2.1, t_begins, t_ends, x.2.2.2.2.2.2.2.2.2.2.2.2.2.2.2.2.2.2.2.2.2.2.1, x.2.2.2.2.2.2.2.2.2.2.2.2.2.2.2.2.2.2.2.2.2.2.2.1, x.2.2.2.2.2.2.2.2.2.2.2.2.2.2.2.2.2.2.2.2.2.2.2.2.1, x.2.2.2.2.2.2.2.2.2.2.2.2.2.2.2.2.2.2.2.2.2.2.2.2.2.1, x.2.2.2.2.2.2.2.2.2.2.2.2.2.2.2.2.2.2.2.2.2.2.2.2.2.2.1, x.2.2.2.2.2.2.2.2.2.2.2.2.2.2.2.2.2.2.2.2.2.2.2.2.2.2.2.1, x.2.2.2.2.2.2.2.2.2.2.2.2.2.2.2.2.2.2.2.2.2.2.2.2.2.2.2.2.1, x.2.2.2.2.2.2.2.2.2.2.2.2.2.2.2.2.2.2.2.2.2.2.2.2.2.2.2.2.2))) (href : mS n X lk tb tl tn (nI k, 0, m_place, nI nd, nI rg, nI ng, nI dp, r_flags, r_repeatable, m_behind, m_notSet, m_least, m_greatest, m_kind, m_value, m_most, m_span, m_size, m_whose, m_rangeFrom, m_rangeMany, m_begins, m_ends, m_names, m_nameSize, m_opened, m_number, m_flagsBefore, m_rows, m_parts, m_low, m_high, m_many) = bnd_ (f_MOD_open n (nI k) 0 m_place (nI nd) (nI rg) (nI ng) (nI dp) r_flags r_repeatable X m_kind m_value m_most m_span m_size m_whose m_rangeFrom m_rangeMany m_names m_nameSize m_opened m_number m_flagsBefore m_rows m_parts) (fun z => some (z.1, z.2.1, z.2.2.1, z.2.2.2.1, nI rg, z.2.2.2.2.1, z.2.2.2.2.2.1, z.2.2.2.2.2.2.1, z.2.2.2.2.2.2.2.1, m_behind, m_notSet, m_least, m_greatest, z.2.2.2.2.2.2.2.2.1, z.2.2.2.2.2.2.2.2.2.1, z.2.2.2.2.2.2.2.2.2.2.1, z.2.2.2.2.2.2.2.2.2.2.2.1, z.2.2.2.2.2.2.2.2.2.2.2.2.1, z.2.2.2.2.2.2.2.2.2.2.2.2.2.1, z.2.2.2.2.2.2.2.2.2.2.2.2.2.2.1, z.2.2.2.2.2.2.2.2.2.2.2.2.2.2.2.1, m_begins, m_ends, z.2.2.2.2.2.2.2.2.2.2.2.2.2.2.2.2.1, z.2.2.2.2.2.2.2.2.2.2.2.2.2.2.2.2.2.1, z.2.2.2.2.2.2.2.2.2.2.2.2.2.2.2.2.2.2.1, z.2.2.2.2.2.2.2.2.2.2.2.2.2.2.2.2.2.2.2.1, z.2.2.2.2.2.2.2.2.2.2.2.2.2.2.2.2.2.2.2.2.1, z.2.2.2.2.2.2.2.2.2.2.2.2.2.2.2.2.2.2.2.2.2.1, z.2.2.2.2.2.2.2.2.2.2.2.2.2.2.2.2.2.2.2.2.2.2, m_low, m_high, m_many))) : StepOK N k (rN len B (0, i_place, s_pieces, nI nd, nI rg, nI R.length, nI ng, nI dp, e_kind, e_value, e_set, e_others, e_after, cl_single, q_numbered, q_flagsAlone, q_nameAt, q_nameLength, q_flags, q_after, p_least, p_most, p_marked, p_after, p_number, nI k, r_flags, r_repeatable, s_begins, s_ends, t_kinds, t_values, t_mosts, t_owners, t_sizes, t_firstRanges, t_rangeCounts, t_begins, t_ends, t_waiting, g_lengths, g_letters, o_places, o_numbers, o_flagsAround, o_rows, o_parts)) (mS n X lk tb tl tn (nI k, 0, m_place, nI nd, nI rg, nI ng, nI dp, r_flags, r_repeatable, m_behind, m_notSet, m_least, m_greatest, m_kind, m_value, m_most, m_span, m_size, m_whose, m_rangeFrom, m_rangeMany, m_begins, m_ends, m_names, m_nameSize, m_opened, m_number, m_flagsBefore, m_rows, m_parts, m_low, m_high, m_many)) := by
  have hN := h.le
  have hd := hS.dp_le
  have hg := hS.ng_le
  obtain ⟨s1, s2, s3, s4, s5⟩ := hS.small hN
  rw [hcls, href]
  unfold f_RDR_openGroup f_OPG_readOpening f_MOD_open
  have ek : nI k + 1 = nI (k + 1) := nI_1 k
  have ek2 : nI k + 2 = nI (k + 2) := nI_add k 2
  have ek3 : nI k + 3 = nI (k + 3) := nI_add k 3
  have ek4 : nI (k + 1) + 1 = nI (k + 2) := nI_1 (k + 1)
  have bF : b2i false = 0 := by decide
  have bT : ¬ b2i true = 0 := by decide
  rw [ek, bnd_s (at_C h (by omega)), bnd_s (at_M h (by omega))]
  have hk1 : k + 1 < N := bt_in h (by rw [h1]; decide)
  rw [if_pos h1, if_pos h1, ek2, ek4, bnd_s (at_C h (by omega)), bnd_s (at_M h (by omega)), if_neg h2, if_neg h2]
  obtain ⟨ok, al, fl, e, c1, c2, c3, c4⟩ := flags_eq h (nI rg) (nI k) (nI (k + 1)) 0 m_place (nI nd) (nI ng) (nI dp) r_flags r_repeatable m_kind m_value m_most m_span m_size m_whose m_rangeFrom m_rangeMany m_opened m_number m_flagsBefore m_rows m_parts (k := k) (by omega) rfl (F15_of hS.fl) true false (nI (k + 1))
  rw [bnd_s c1]
  rw [bnd_s (rfl : some _ = some _)]
  simp only
  cases ok with
  | false =>
    rw [if_pos bF, c3 rfl]
    unfold f_MOD_openFlagged_L130
    exact ⟨_, _, rfl, rfl, Or.inl ⟨(by decide : (10 : Int32) ≠ 0), (by decide : (0 : Int32) < 10), ⟨dp, rfl, hS.dp_le⟩, xs, ys, hM⟩⟩
  | true =>
    obtain ⟨he1, he2, c4⟩ := c4 rfl
    rw [if_neg bT, c4]
    have ee : nI (e - 1) + 1 = nI e := by rw [nI_1]; congr 1; omega
    unfold f_MOD_openFlagged_L138
    rw [ee]
    cases al with
    | true =>
      have n1 : ¬ (41 : Int32) = 58 := by decide
      simp only [↓reduceIte]
      rw [if_neg bT, if_neg n1]
      obtain ⟨ow2, sz2, wt2, sp2, sz2', wh2, l1, l2, l3⟩ := leaf_eq hS.tr (by omega) 4 0 0 (by decide) (fun s' hs' => ⟨s', rfl, hs'⟩)
      rw [bnd_s l1, bnd_s l2]
      simp only
      rw [bnd_s (partC (by omega) _ _ _ _ _), bnd_s (partM (by omega) _ _)]
      exact ⟨_, _, rfl, rfl, Or.inr ⟨e, by omega, rfl, rfl, nd + 1, rg, ng, dp, nd :: R, r, setN p dp (p dp + 1), ⟨rfl, rfl, rfl, rfl, rfl, rfl⟩, ⟨rfl, rfl, rfl, rfl, rfl, rfl, rfl⟩, ⟨xs, ys, hM⟩, hS.part l3 (by omega) (by omega) (by have := hS.rg_le; omega) c2.ti⟩⟩
    | false =>
      have z0 : (0 : Int32) ≤ 0 := by decide
      have n1 : (if (false = true) then (41 : Int32) else 58) = 58 := rfl
      rw [if_pos bF, if_pos z0, if_pos n1]
      unfold f_RDR_openGroup_L134
      by_cases c : dp < 30
      · have c1 : nI dp < 30 := (nI_ltI (b := 30) (by omega) (by decide)).mpr c
        rw [if_pos c1, if_pos bF, bnd_s (enterM c hg false (fun q => by cases q) _ _ _ _ _ _ _ _ _ _)]
        unfold f_RDR_openGroup_L198 f_RDR_enterGroup
        rw [if_pos bF]
        unfold f_RDR_enterGroup_L38
        rw [bnd_s (enterC c _ _ _ _ _ _ _ _)]
        exact ⟨_, _, rfl, rfl, Or.inr ⟨e, by omega, rfl, rfl, nd, rg, ng, dp + 1, R, setN r (dp + 1) 0, setN p (dp + 1) 0, ⟨rfl, rfl, rfl, rfl, rfl, rfl⟩, ⟨rfl, rfl, rfl, rfl, rfl, rfl, rfl⟩, ⟨xs, ys, hM⟩, hS.enter (by omega) (by omega) c (by have := hS.nd_le; omega) (by omega) hS.gr hS.gz (by decide) c2.ti⟩⟩
      · have c1 : ¬ nI dp < 30 := fun q => c ((nI_ltI (b := 30) (by omega) (by decide)).mp q)
        have en : nI dp = 30 := by have q : dp = 30 := by omega
                                   rw [q]; rfl
        rw [if_neg c1]
        unfold f_MOD_enter
        rw [if_pos en]
        exact ⟨_, _, rfl, rfl, Or.inl ⟨(by decide : (12 : Int32) ≠ 0), (by decide : (0 : Int32) < 12), ⟨dp, rfl, hS.dp_le⟩, xs, ys, hM⟩⟩
theorem br_open {len n : Int32} {B X : Ar} {N : Nat} (h : TX len B n X N) {lk tb tl tn : Ar} (hT : TB lk tb tl tn) {k : Nat} (hk : k < N) {nd rg ng dp : Nat} {R : List Nat} {r p : Nat → Nat} {xs ys : PL} {i_place : Int32} {s_pieces : Int32} {e_kind : Int32} {e_value : Int32} {e_set : Nat} {e_others : Bool} {e_after : Int32} {cl_single : Int32} {q_numbered : Bool} {q_flagsAlone : Bool} {q_nameAt : Int32} {q_nameLength : Int32} {q_flags : Int32} {q_after : Int32} {p_least : Int32} {p_most : Int32} {p_marked : Bool} {p_after : Int32} {p_number : Int32} {r_flags : Int32} {r_repeatable : Bool} {s_begins : Nat → Int32} {s_ends : Nat → Int32} {t_kinds : Nat → Int32} {t_values : Nat → Int32} {t_mosts : Nat → Int32} {t_owners : Nat → Int32} {t_sizes : Nat → Int32} {t_firstRanges : Nat → Int32} {t_rangeCounts : Nat → Int32} {t_begins : Nat → Int32} {t_ends : Nat → Int32} {t_waiting : Nat → Int32} {g_lengths : Nat → Int32} {g_letters : Nat → Int32} {o_places : Nat → Int32} {o_numbers : Nat → Int32} {o_flagsAround : Nat → Int32} {o_rows : Nat → Int32} {o_parts : Nat → Int32} {m_place : Int32} {m_behind : Int32} {m_notSet : Bool} {m_least : Int32} {m_greatest : Int32} {m_kind : Nat → Int32} {m_value : Nat → Int32} {m_most : Nat → Int32} {m_span : Nat → Int32} {m_size : Nat → Int32} {m_whose : Nat → Int32} {m_rangeFrom : Nat → Int32} {m_rangeMany : Nat → Int32} {m_begins : Nat → Int32} {m_ends : Nat → Int32} {m_names : Nat → Int32} {m_nameSize : Nat → Int32} {m_opened : Nat → Int32} {m_number : Nat → Int32} {m_flagsBefore : Nat → Int32} {m_rows : Nat → Int32} {m_parts : Nat → Int32} {m_low : Nat → Int32} {m_high : Nat → Int32} {m_many : Nat → Int32} (hM : MS m_low m_high m_many xs ys) (hS : RS N k nd rg ng dp R r p r_flags r_repeatable t_kinds t_values t_mosts t_owners t_sizes t_firstRanges t_rangeCounts t_begins t_ends t_waiting g_lengths g_letters o_places o_numbers o_flagsAround o_rows o_parts m_kind m_value m_most m_span m_size m_whose m_rangeFrom m_rangeMany m_begins m_ends m_names m_nameSize m_opened m_number m_flagsBefore m_rows m_parts) (hcls : rN len B (0, i_place, s_pieces, nI nd, nI rg, nI R.length, nI ng, nI dp, e_kind, e_value, e_set, e_others, e_after, cl_single, q_numbered, q_flagsAlone, q_nameAt, q_nameLength, q_flags, q_after, p_least, p_most, p_marked, p_after, p_number, nI k, r_flags, r_repeatable, s_begins, s_ends, t_kinds, t_values, t_mosts, t_owners, t_sizes, t_firstRanges, t_rangeCounts, t_begins, t_ends, t_waiting, g_lengths, g_letters, o_places, o_numbers, o_flagsAround, o_rows, o_parts) = bnd_ (f_RDR_openGroup len 0 i_place (nI nd) (nI rg) (nI R.length) (nI ng) (nI dp) q_numbered q_flagsAlone q_nameAt q_nameLength q_flags q_after (nI k) r_flags r_repeatable B t_kinds t_values t_mosts t_owners t_sizes t_firstRanges t_rangeCounts t_waiting g_lengths g_letters o_places o_numbers o_flagsAround o_rows o_parts) (fun x => some (x.1, x.2.1, s_pieces, x.2.2.1, nI rg, x.2.2.2.1, x.2.2.2.2.1, x.2.2.2.2.2.1, e_kind, e_value, e_set, e_others, e_after, cl_single, x.2.2.2.2.2.2.1, x.2.2.2.2.2.2.2.1, x.2.2.2.2.2.2.2.2.1, x.2.2.2.2.2.2.2.2.2.1, x.2.2.2.2.2.2.2.2.2.2.1, x.2.2.2.2.2.2.2.2.2.2.2.1, p_least, p_most, p_marked, p_after, p_number, x.2.2.2.2.2.2.2.2.2.2.2.2.1, x.2.2.2.2.2.2.2.2.2.2.2.2.2.1, x.2.2.2.2.2.2.2.2.2.2.2.2.2.2.1, s_begins, s_ends, x.2.2.2.2.2.2.2.2.2.2.2.2.2.2.2.1, x.2.2.2.2.2.2.2.2.2.2.2.2.2.2.2.2.1, x.2.2.2.2.2.2.2.2.2.2.2.2.2.2.2.2.2.1, x.2.2.2.2.2.2.2.2.2.2.2.2.2.2.2.2.2.2.1, x.2.2.2.2.2.2.2.2.2.2.2.2.2.2.2.2.2.2.2.1, x.2.2.2.2.2.2.2.2.2.2.2.2.2.2.2.2.2.2.2.2.1, x.2.2.2.2.2.2.2.2.2.2.2.2.2.2.2.2.2.2.2.2.2.1, t_begins, t_ends, x.2.2.2.2.2.2.2.2.2.2.2.2.2.2.2.2.2.2.2.2.2.2.1, x.2.2.2.2.2.2.2.2.2.2.2.2.2.2.2.2.2.2.2.2.2.2.2.1, x.2.2.2.2.2.2.2.2.2.2.2.2.2.2.2.2.2.2.2.2.2.2.2.2.1, x.2.2.2.2.2.2.2.2.2.2.2.2.2.2.2.2.2.2.2.2.2.2.2.2.2.1, x.2.2.2.2.2.2.2.2.2.2.2.2.2.2.2.2.2.2.2.2.2.2.2.2.2.2.1, x.2.2.2.2.2.2.2.2.2.2.2.2.2.2.2.2.2.2.2.2.2.2.2.2.2.2.2.1, x.2.2.2.2.2.2.2.2.2.2.2.2.2.2.2.2.2.2.2.2.2.2.2.2.2.2.2.2.1, x.2.2.2.2.2.2.2.2.2.2.2.2.2.2.2.2.2.2.2.2.2.2.2.2.2.2.2.2.2))) (href : mS n X lk tb tl tn (nI k, 0, m_place, nI nd, nI rg, nI ng, nI dp, r_flags, r_repeatable, m_behind, m_notSet, m_least, m_greatest, m_kind, m_value, m_most, m_span, m_size, m_whose, m_rangeFrom, m_rangeMany, m_begins, m_ends, m_names, m_nameSize, m_opened, m_number, m_flagsBefore, m_rows, m_parts, m_low, m_high, m_many) = bnd_ (f_MOD_open n (nI k) 0 m_place (nI nd) (nI rg) (nI ng) (nI dp) r_flags r_repeatable X m_kind m_value m_most m_span m_size m_whose m_rangeFrom m_rangeMany m_names m_nameSize m_opened m_number m_flagsBefore m_rows m_parts) (fun z => some (z.1, z.2.1, z.2.2.1, z.2.2.2.1, nI rg, z.2.2.2.2.1, z.2.2.2.2.2.1, z.2.2.2.2.2.2.1, z.2.2.2.2.2.2.2.1, m_behind, m_notSet, m_least, m_greatest, z.2.2.2.2.2.2.2.2.1, z.2.2.2.2.2.2.2.2.2.1, z.2.2.2.2.2.2.2.2.2.2.1, z.2.2.2.2.2.2.2.2.2.2.2.1, z.2.2.2.2.2.2.2.2.2.2.2.2.1, z.2.2.2.2.2.2.2.2.2.2.2.2.2.1, z.2.2.2.2.2.2.2.2.2.2.2.2.2.2.1, z.2.2.2.2.2.2.2.2.2.2.2.2.2.2.2.1, m_begins, m_ends, z.2.2.2.2.2.2.2.2.2.2.2.2.2.2.2.2.1, z.2.2.2.2.2.2.2.2.2.2.2.2.2.2.2.2.2.1, z.2.2.2.2.2.2.2.2.2.2.2.2.2.2.2.2.2.2.1, z.2.2.2.2.2.2.2.2.2.2.2.2.2.2.2.2.2.2.2.1, z.2.2.2.2.2.2.2.2.2.2.2.2.2.2.2.2.2.2.2.2.1, z.2.2.2.2.2.2.2.2.2.2.2.2.2.2.2.2.2.2.2.2.2.1, z.2.2.2.2.2.2.2.2.2.2.2.2.2.2.2.2.2.2.2.2.2.2, m_low, m_high, m_many))) : StepOK N k (rN len B (0, i_place, s_pieces, nI nd, nI rg, nI R.length, nI ng, nI dp, e_kind, e_value, e_set, e_others, e_after, cl_single, q_numbered, q_flagsAlone, q_nameAt, q_nameLength, q_flags, q_after, p_least, p_most, p_marked, p_after, p_number, nI k, r_flags, r_repeatable, s_begins, s_ends, t_kinds, t_values, t_mosts, t_owners, t_sizes, t_firstRanges, t_rangeCounts, t_begins, t_ends, t_waiting, g_lengths, g_letters, o_places, o_numbers, o_flagsAround, o_rows, o_parts)) (mS n X lk tb tl tn (nI k, 0, m_place, nI nd, nI rg, nI ng, nI dp, r_flags, r_repeatable, m_behind, m_notSet, m_least, m_greatest, m_kind, m_value, m_most, m_span, m_size, m_whose, m_rangeFrom, m_rangeMany, m_begins, m_ends, m_names, m_nameSize, m_opened, m_number, m_flagsBefore, m_rows, m_parts, m_low, m_high, m_many)) := by
  by_cases h1 : bt N B (k + 1) = 63
  · by_cases h2 : bt N B (k + 2) = 80
    · exact br_open2 h hT hk hM hS h1 h2 hcls href
    · exact br_open3 h hT hk hM hS h1 h2 hcls href
  · exact br_open1 h hT hk hM hS h1 hcls href

