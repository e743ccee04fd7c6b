set_option maxRecDepth 100000
set_option linter.unusedVariables false
theorem step_tup {len n : Int32} {B X : Ar} {N : Nat} (h : TX len B n X N) {lk tb tl tn : Ar} (hT : TB lk tb tl tn) {k : Nat} (hk : k < N) {c : CT} {m : MT} (hR : RSt N k c m) : StepOK N k (rN len B c) (mS n X lk tb tl tn m) := by
  obtain ⟨i_number, i_place, s_pieces, t_nodes, t_ranges, t_waits, g_howMany, o_depth, e_kind, e_value, e_set, e_others, e_after, cl_single, q_numbered, q_flagsAlone, q_nameAt, q_nameLength, q_flags, q_after, p_least, p_most, p_marked, p_after, p_number, r_place, r_flags, r_repeatable, s_begins, s_ends, t_kinds, t_values, t_mosts, t_owners, t_sizes, t_firstRanges, t_rangeCounts, t_begins, t_ends, t_waiting, g_lengths, g_letters, o_places, o_numbers, o_flagsAround, o_rows, o_parts⟩ := c
  obtain ⟨m_at, m_fault, m_place, m_nodes, m_ranges, m_numbered, m_depth, m_flags, m_repeatable, m_behind, m_notSet, m_least, m_greatest, m_kind, m_value, m_most, m_span, m_size, m_whose, m_rangeFrom, m_rangeMany, m_begins, m_ends, m_names, m_nameSize, m_opened, m_number, m_flagsBefore, m_rows, m_parts, m_low, m_high, m_many⟩ := m
  obtain ⟨f0, g0, nd, rg, ng, dp, R, r, p, ⟨e1, e2, e3, e4, e5, e6⟩, ⟨d1, d2, d3, d4, d5, d6, d7⟩, ⟨xs, ys, hM⟩, hS⟩ := hR
  simp only at f0 g0 e1 e2 e3 e4 e5 e6 d1 d2 d3 d4 d5 d6 d7 hM hS
  subst f0 g0 e1 e2 e3 e4 e5 e6 d1 d2 d3 d4 d5 d6 d7
  exact step_eq h hT hk hM hS
def l60 (B : Ar) (p1 len : Int32) (c : CT) := f_PN_read_L60 B p1 len c.1 c.2.1 c.2.2.1 c.2.2.2.1 c.2.2.2.2.1 c.2.2.2.2.2.1 c.2.2.2.2.2.2.1 c.2.2.2.2.2.2.2.1 c.2.2.2.2.2.2.2.2.1 c.2.2.2.2.2.2.2.2.2.1 c.2.2.2.2.2.2.2.2.2.2.1 c.2.2.2.2.2.2.2.2.2.2.2.1 c.2.2.2.2.2.2.2.2.2.2.2.2.1 c.2.2.2.2.2.2.2.2.2.2.2.2.2.1 c.2.2.2.2.2.2.2.2.2.2.2.2.2.2.1 c.2.2.2.2.2.2.2.2.2.2.2.2.2.2.2.1 c.2.2.2.2.2.2.2.2.2.2.2.2.2.2.2.2.1 c.2.2.2.2.2.2.2.2.2.2.2.2.2.2.2.2.2.1 c.2.2.2.2.2.2.2.2.2.2.2.2.2.2.2.2.2.2.1 c.2.2.2.2.2.2.2.2.2.2.2.2.2.2.2.2.2.2.2.1 c.2.2.2.2.2.2.2.2.2.2.2.2.2.2.2.2.2.2.2.2.1 c.2.2.2.2.2.2.2.2.2.2.2.2.2.2.2.2.2.2.2.2.2.1 c.2.2.2.2.2.2.2.2.2.2.2.2.2.2.2.2.2.2.2.2.2.2.1 c.2.2.2.2.2.2.2.2.2.2.2.2.2.2.2.2.2.2.2.2.2.2.2.1 c.2.2.2.2.2.2.2.2.2.2.2.2.2.2.2.2.2.2.2.2.2.2.2.2.1 c.2.2.2.2.2.2.2.2.2.2.2.2.2.2.2.2.2.2.2.2.2.2.2.2.2.1 c.2.2.2.2.2.2.2.2.2.2.2.2.2.2.2.2.2.2.2.2.2.2.2.2.2.2.1 c.2.2.2.2.2.2.2.2.2.2.2.2.2.2.2.2.2.2.2.2.2.2.2.2.2.2.2.1 c.2.2.2.2.2.2.2.2.2.2.2.2.2.2.2.2.2.2.2.2.2.2.2.2.2.2.2.2.1 c.2.2.2.2.2.2.2.2.2.2.2.2.2.2.2.2.2.2.2.2.2.2.2.2.2.2.2.2.2.1 c.2.2.2.2.2.2.2.2.2.2.2.2.2.2.2.2.2.2.2.2.2.2.2.2.2.2.2.2.2.2.1 c.2.2.2.2.2.2.2.2.2.2.2.2.2.2.2.2.2.2.2.2.2.2.2.2.2.2.2.2.2.2.2.1 c.2.2.2.2.2.2.2.2.2.2.2.2.2.2.2.2.2.2.2.2.2.2.2.2.2.2.2.2.2.2.2.2.1 c.2.2.2.2.2.2.2.2.2.2.2.2.2.2.2.2.2.2.2.2.2.2.2.2.2.2.2.2.2.2.2.2.2.1 c.2.2.2.2.2.2.2.2.2.2.2.2.2.2.2.2.2.2.2.2.2.2.2.2.2.2.2.2.2.2.2.2.2.2.1 c.2.2.2.2.2.2.2.2.2.2.2.2.2.2.2.2.2.2.2.2.2.2.2.2.2.2.2.2.2.2.2.2.2.2.2.1 c.2.2.2.2.2.2.2.2.2.2.2.2.2.2.2.2.2.2.2.2.2.2.2.2.2.2.2.2.2.2.2.2.2.2.2.2.1 c.2.2.2.2.2.2.2.2.2.2.2.2.2.2.2.2.2.2.2.2.2.2.2.2.2.2.2.2.2.2.2.2.2.2.2.2.2.1 c.2.2.2.2.2.2.2.2.2.2.2.2.2.2.2.2.2.2.2.2.2.2.2.2.2.2.2.2.2.2.2.2.2.2.2.2.2.2.1 c.2.2.2.2.2.2.2.2.2.2.2.2.2.2.2.2.2.2.2.2.2.2.2.2.2.2.2.2.2.2.2.2.2.2.2.2.2.2.2.1 c.2.2.2.2.2.2.2.2.2.2.2.2.2.2.2.2.2.2.2.2.2.2.2.2.2.2.2.2.2.2.2.2.2.2.2.2.2.2.2.2.1 c.2.2.2.2.2.2.2.2.2.2.2.2.2.2.2.2.2.2.2.2.2.2.2.2.2.2.2.2.2.2.2.2.2.2.2.2.2.2.2.2.2.1 c.2.2.2.2.2.2.2.2.2.2.2.2.2.2.2.2.2.2.2.2.2.2.2.2.2.2.2.2.2.2.2.2.2.2.2.2.2.2.2.2.2.2.1 c.2.2.2.2.2.2.2.2.2.2.2.2.2.2.2.2.2.2.2.2.2.2.2.2.2.2.2.2.2.2.2.2.2.2.2.2.2.2.2.2.2.2.2.1 c.2.2.2.2.2.2.2.2.2.2.2.2.2.2.2.2.2.2.2.2.2.2.2.2.2.2.2.2.2.2.2.2.2.2.2.2.2.2.2.2.2.2.2.2.1 c.2.2.2.2.2.2.2.2.2.2.2.2.2.2.2.2.2.2.2.2.2.2.2.2.2.2.2.2.2.2.2.2.2.2.2.2.2.2.2.2.2.2.2.2.2.1 c.2.2.2.2.2.2.2.2.2.2.2.2.2.2.2.2.2.2.2.2.2.2.2.2.2.2.2.2.2.2.2.2.2.2.2.2.2.2.2.2.2.2.2.2.2.2
def mkM (thr ih n : Int32) (X : Ar) (m : MT) := (thr, ih, n, m.1, m.2.1, m.2.2.1, m.2.2.2.1, m.2.2.2.2.1, m.2.2.2.2.2.1, m.2.2.2.2.2.2.1, m.2.2.2.2.2.2.2.1, m.2.2.2.2.2.2.2.2.1, m.2.2.2.2.2.2.2.2.2.1, m.2.2.2.2.2.2.2.2.2.2.1, m.2.2.2.2.2.2.2.2.2.2.2.1, m.2.2.2.2.2.2.2.2.2.2.2.2.1, X, m.2.2.2.2.2.2.2.2.2.2.2.2.2.1, m.2.2.2.2.2.2.2.2.2.2.2.2.2.2.1, m.2.2.2.2.2.2.2.2.2.2.2.2.2.2.2.1, m.2.2.2.2.2.2.2.2.2.2.2.2.2.2.2.2.1, m.2.2.2.2.2.2.2.2.2.2.2.2.2.2.2.2.2.1, m.2.2.2.2.2.2.2.2.2.2.2.2.2.2.2.2.2.2.1, m.2.2.2.2.2.2.2.2.2.2.2.2.2.2.2.2.2.2.2.1, m.2.2.2.2.2.2.2.2.2.2.2.2.2.2.2.2.2.2.2.2.1, m.2.2.2.2.2.2.2.2.2.2.2.2.2.2.2.2.2.2.2.2.2.1, m.2.2.2.2.2.2.2.2.2.2.2.2.2.2.2.2.2.2.2.2.2.2.1, m.2.2.2.2.2.2.2.2.2.2.2.2.2.2.2.2.2.2.2.2.2.2.2.1, m.2.2.2.2.2.2.2.2.2.2.2.2.2.2.2.2.2.2.2.2.2.2.2.2.1, m.2.2.2.2.2.2.2.2.2.2.2.2.2.2.2.2.2.2.2.2.2.2.2.2.2.1, m.2.2.2.2.2.2.2.2.2.2.2.2.2.2.2.2.2.2.2.2.2.2.2.2.2.2.1, m.2.2.2.2.2.2.2.2.2.2.2.2.2.2.2.2.2.2.2.2.2.2.2.2.2.2.2.1, m.2.2.2.2.2.2.2.2.2.2.2.2.2.2.2.2.2.2.2.2.2.2.2.2.2.2.2.2.1, m.2.2.2.2.2.2.2.2.2.2.2.2.2.2.2.2.2.2.2.2.2.2.2.2.2.2.2.2.2.1, m.2.2.2.2.2.2.2.2.2.2.2.2.2.2.2.2.2.2.2.2.2.2.2.2.2.2.2.2.2.2.1, m.2.2.2.2.2.2.2.2.2.2.2.2.2.2.2.2.2.2.2.2.2.2.2.2.2.2.2.2.2.2.2.1, m.2.2.2.2.2.2.2.2.2.2.2.2.2.2.2.2.2.2.2.2.2.2.2.2.2.2.2.2.2.2.2.2)
def l174 (hand lk tb tl tn : Ar) (p1 thr ih n : Int32) (X : Ar) (m : MT) := f_MOD_read_L174 hand lk tb tl tn p1 thr ih n m.1 m.2.1 m.2.2.1 m.2.2.2.1 m.2.2.2.2.1 m.2.2.2.2.2.1 m.2.2.2.2.2.2.1 m.2.2.2.2.2.2.2.1 m.2.2.2.2.2.2.2.2.1 m.2.2.2.2.2.2.2.2.2.1 m.2.2.2.2.2.2.2.2.2.2.1 m.2.2.2.2.2.2.2.2.2.2.2.1 m.2.2.2.2.2.2.2.2.2.2.2.2.1 X m.2.2.2.2.2.2.2.2.2.2.2.2.2.1 m.2.2.2.2.2.2.2.2.2.2.2.2.2.2.1 m.2.2.2.2.2.2.2.2.2.2.2.2.2.2.2.1 m.2.2.2.2.2.2.2.2.2.2.2.2.2.2.2.2.1 m.2.2.2.2.2.2.2.2.2.2.2.2.2.2.2.2.2.1 m.2.2.2.2.2.2.2.2.2.2.2.2.2.2.2.2.2.2.1 m.2.2.2.2.2.2.2.2.2.2.2.2.2.2.2.2.2.2.2.1 m.2.2.2.2.2.2.2.2.2.2.2.2.2.2.2.2.2.2.2.2.1 m.2.2.2.2.2.2.2.2.2.2.2.2.2.2.2.2.2.2.2.2.2.1 m.2.2.2.2.2.2.2.2.2.2.2.2.2.2.2.2.2.2.2.2.2.2.1 m.2.2.2.2.2.2.2.2.2.2.2.2.2.2.2.2.2.2.2.2.2.2.2.1 m.2.2.2.2.2.2.2.2.2.2.2.2.2.2.2.2.2.2.2.2.2.2.2.2.1 m.2.2.2.2.2.2.2.2.2.2.2.2.2.2.2.2.2.2.2.2.2.2.2.2.2.1 m.2.2.2.2.2.2.2.2.2.2.2.2.2.2.2.2.2.2.2.2.2.2.2.2.2.2.1 m.2.2.2.2.2.2.2.2.2.2.2.2.2.2.2.2.2.2.2.2.2.2.2.2.2.2.2.1 m.2.2.2.2.2.2.2.2.2.2.2.2.2.2.2.2.2.2.2.2.2.2.2.2.2.2.2.2.1 m.2.2.2.2.2.2.2.2.2.2.2.2.2.2.2.2.2.2.2.2.2.2.2.2.2.2.2.2.2.1 m.2.2.2.2.2.2.2.2.2.2.2.2.2.2.2.2.2.2.2.2.2.2.2.2.2.2.2.2.2.2.1 m.2.2.2.2.2.2.2.2.2.2.2.2.2.2.2.2.2.2.2.2.2.2.2.2.2.2.2.2.2.2.2.1 m.2.2.2.2.2.2.2.2.2.2.2.2.2.2.2.2.2.2.2.2.2.2.2.2.2.2.2.2.2.2.2.2
theorem L30_step (B : Ar) (p1 len t : Int32) (c : CT) (n : Nat) : f_PN_read_L30 B p1 (n + 1) (t, len, c) = if 400 ≤ t then l60 B p1 len c else bnd_ (f_RDR_hasMore len c.1 c.2.2.2.2.2.2.2.2.2.2.2.2.2.2.2.2.2.2.2.2.2.2.2.2.2.1) (fun x => if (b2i x) = 0 then l60 B p1 len c else bnd_ (rN len B c) (fun c' => f_PN_read_L30 B p1 n (t + 1, len, c'))) := rfl
theorem L149_step (hand lk tb tl tn : Ar) (p1 thr ih n : Int32) (X : Ar) (m : MT) (k : Nat) : f_MOD_read_L149 hand lk tb tl tn p1 (k + 1) (mkM thr ih n X m) = if n ≤ m.1 then l174 hand lk tb tl tn p1 thr ih n X m else (if m.2.1 = 0 then bnd_ (mS n X lk tb tl tn m) (fun m' => f_MOD_read_L149 hand lk tb tl tn p1 k (mkM thr ih n X m')) else l174 hand lk tb tl tn p1 thr ih n X m) := rfl
theorem read_loop {len n : Int32} {B X : Ar} {N : Nat} (h : TX len B n X N) {lk tb tl tn : Ar} (hT : TB lk tb tl tn) (hand : Ar) (p1 thr ih : Int32) : ∀ (d k t : Nat) (c : CT) (m : MT) (F G : Nat), k + d = N → t ≤ k → RSt N k c m →
    ∃ c' m', f_PN_read_L30 B p1 (F + d + 1) (nI t, len, c) = l60 B p1 len c' ∧ f_MOD_read_L149 hand lk tb tl tn p1 (G + d + 1) (mkM thr ih n X m) = l174 hand lk tb tl tn p1 thr ih n X m' ∧ (FLt c' m' ∨ RSt N N c' m') := by
  have hN := h.le
  have bF : b2i false = 0 := by decide
  have bT : ¬ b2i true = 0 := by decide
  intro d
  induction d using Nat.strongRecOn with
  | _ d ihd =>
    intro k t c m F G hk ht hR
    have hpl : c.2.2.2.2.2.2.2.2.2.2.2.2.2.2.2.2.2.2.2.2.2.2.2.2.2.1 = nI k := by obtain ⟨_, _, nd, rg, ng, dp, R, r, p, ⟨_, _, _, _, _, e6⟩, _⟩ := hR; exact e6
    have hat : m.1 = nI k := by obtain ⟨_, _, nd, rg, ng, dp, R, r, p, _, ⟨d1, _⟩, _⟩ := hR; exact d1
    have hmi : c.1 = 0 := hR.1
    have hfa : m.2.1 = 0 := hR.2.1
    rw [L30_step, L149_step]
    by_cases e : d = 0
    · have ek : k = N := by omega
      have q1 : n ≤ m.1 := by rw [hat, h.n]; exact (nI_leI (by omega) (by omega)).mpr (by omega)
      have q2 : len ≤ c.2.2.2.2.2.2.2.2.2.2.2.2.2.2.2.2.2.2.2.2.2.2.2.2.2.1 := by rw [hpl, h.len]; exact (nI_leI (by omega) (by omega)).mpr (by omega)
      rw [if_pos q1]
      have hm : f_RDR_hasMore len c.1 c.2.2.2.2.2.2.2.2.2.2.2.2.2.2.2.2.2.2.2.2.2.2.2.2.2.1 = some false := by unfold f_RDR_hasMore; rw [if_pos hmi, if_pos q2]
      rw [bnd_s hm, if_pos bF]
      refine ⟨c, m, ?_, rfl, Or.inr (ek ▸ hR)⟩
      by_cases q : (400 : Int32) ≤ nI t
      · rw [if_pos q]
      · rw [if_neg q]
    · have q1 : ¬ n ≤ m.1 := fun q => by rw [hat, h.n] at q; have := (nI_leI (by omega) (by omega)).mp q; omega
      have q2 : ¬ len ≤ c.2.2.2.2.2.2.2.2.2.2.2.2.2.2.2.2.2.2.2.2.2.2.2.2.2.1 := fun q => by rw [hpl, h.len] at q; have := (nI_leI (by omega) (by omega)).mp q; omega
      have q3 : ¬ (400 : Int32) ≤ nI t := fun q => by have := (nI_leI (a := 400) (by decide) (by omega)).mp q; omega
      have hm : f_RDR_hasMore len c.1 c.2.2.2.2.2.2.2.2.2.2.2.2.2.2.2.2.2.2.2.2.2.2.2.2.2.1 = some true := by unfold f_RDR_hasMore; rw [if_pos hmi, if_neg q2]
      rw [if_neg q1, if_neg q3, if_pos hfa, bnd_s hm, if_neg bT]
      obtain ⟨c1, m1, a1, a2, a3⟩ := step_tup h hT (show k < N by omega) hR
      rw [bnd_s a1, bnd_s a2, nI_1]
      rcases a3 with hF | ⟨k', hkk, hR'⟩
      · refine ⟨c1, m1, ?_, ?_, Or.inl hF⟩
        · rw [show F + d = (F + d - 1) + 1 from by omega, L30_step]
          have hm2 : f_RDR_hasMore len c1.1 c1.2.2.2.2.2.2.2.2.2.2.2.2.2.2.2.2.2.2.2.2.2.2.2.2.2.1 = some false := by unfold f_RDR_hasMore; rw [if_neg hF.1]
          rw [bnd_s hm2, if_pos bF]
          by_cases q : (400 : Int32) ≤ nI (t + 1)
          · rw [if_pos q]
          · rw [if_neg q]
        · rw [show G + d = (G + d - 1) + 1 from by omega, L149_step]
          have hf2 : ¬ m1.2.1 = 0 := fun q => by have := hF.2.1; rw [q] at this; exact absurd this (by decide)
          rw [if_neg hf2]
          by_cases q : n ≤ m1.1
          · rw [if_pos q]
          · rw [if_neg q]
      · have hle : k' ≤ N := by obtain ⟨_, _, nd, rg, ng, dp, R, r, p, _, _, _, hS⟩ := hR'; exact hS.k_le
        obtain ⟨c2, m2, b1, b2, b3⟩ := ihd (N - k') (by omega) k' (t + 1) c1 m1 (F + d - (N - k') - 1) (G + d - (N - k') - 1) (by omega) (by omega) hR'
        refine ⟨c2, m2, ?_, ?_, b3⟩
        · rw [show F + d - (N - k') - 1 + (N - k') + 1 = F + d from by omega] at b1; exact b1
        · rw [show G + d - (N - k') - 1 + (N - k') + 1 = G + d from by omega] at b2; exact b2

set_option maxRecDepth 100000
set_option linter.unusedVariables false
/-- class and reference alike between calls (but for the fault's number and place) -/
def BR (len : Int32) (B : Ar) (c : CT) (ih : Int32) (hand : Ar) (m : MT) : Prop :=
  ∃ (n nd ng : Nat), (len = nI n ∧ ih = nI n ∧ n ≤ 400 ∧ ∀ j, j < n → hand j = B j ∧ 0 ≤ (B j).toInt ∧ (B j).toInt ≤ 255) ∧
    (c.2.2.2.1 = nI nd ∧ m.2.2.2.1 = nI nd ∧ nd ≤ 512) ∧ (c.2.2.2.2.2.2.1 = nI ng ∧ m.2.2.2.2.2.1 = nI ng ∧ ng ≤ 9) ∧
    (∀ i, i < nd → (c.2.2.2.2.2.2.2.2.2.2.2.2.2.2.2.2.2.2.2.2.2.2.2.2.2.2.2.2.2.2.1 i = m.2.2.2.2.2.2.2.2.2.2.2.2.2.1 i ∧ c.2.2.2.2.2.2.2.2.2.2.2.2.2.2.2.2.2.2.2.2.2.2.2.2.2.2.2.2.2.2.2.1 i = m.2.2.2.2.2.2.2.2.2.2.2.2.2.2.1 i ∧ c.2.2.2.2.2.2.2.2.2.2.2.2.2.2.2.2.2.2.2.2.2.2.2.2.2.2.2.2.2.2.2.2.1 i = m.2.2.2.2.2.2.2.2.2.2.2.2.2.2.2.1 i ∧ c.2.2.2.2.2.2.2.2.2.2.2.2.2.2.2.2.2.2.2.2.2.2.2.2.2.2.2.2.2.2.2.2.2.1 i = m.2.2.2.2.2.2.2.2.2.2.2.2.2.2.2.2.2.2.1 i ∧ c.2.2.2.2.2.2.2.2.2.2.2.2.2.2.2.2.2.2.2.2.2.2.2.2.2.2.2.2.2.2.2.2.2.2.1 i = m.2.2.2.2.2.2.2.2.2.2.2.2.2.2.2.2.2.1 i ∧ c.2.2.2.2.2.2.2.2.2.2.2.2.2.2.2.2.2.2.2.2.2.2.2.2.2.2.2.2.2.2.2.2.2.2.2.1 i = m.2.2.2.2.2.2.2.2.2.2.2.2.2.2.2.2.2.2.2.1 i ∧ c.2.2.2.2.2.2.2.2.2.2.2.2.2.2.2.2.2.2.2.2.2.2.2.2.2.2.2.2.2.2.2.2.2.2.2.2.1 i = m.2.2.2.2.2.2.2.2.2.2.2.2.2.2.2.2.2.2.2.2.1 i) ∧ ∃ a q : Nat, c.2.2.2.2.2.2.2.2.2.2.2.2.2.2.2.2.2.2.2.2.2.2.2.2.2.2.2.2.2.2.2.2.2.2.2.1 i = nI a ∧ c.2.2.2.2.2.2.2.2.2.2.2.2.2.2.2.2.2.2.2.2.2.2.2.2.2.2.2.2.2.2.2.2.2.2.2.2.1 i = nI q ∧ a + q ≤ 1600 ∧ ∀ j, j < a + q → c.2.2.2.2.2.2.2.2.2.2.2.2.2.2.2.2.2.2.2.2.2.2.2.2.2.2.2.2.2.2.2.2.2.2.2.2.2.1 j = m.2.2.2.2.2.2.2.2.2.2.2.2.2.2.2.2.2.2.2.2.2.1 j ∧ c.2.2.2.2.2.2.2.2.2.2.2.2.2.2.2.2.2.2.2.2.2.2.2.2.2.2.2.2.2.2.2.2.2.2.2.2.2.2.1 j = m.2.2.2.2.2.2.2.2.2.2.2.2.2.2.2.2.2.2.2.2.2.2.1 j) ∧
    (∀ g, 1 ≤ g → g ≤ ng → ∃ L : Nat, L ≤ 12 ∧ c.2.2.2.2.2.2.2.2.2.2.2.2.2.2.2.2.2.2.2.2.2.2.2.2.2.2.2.2.2.2.2.2.2.2.2.2.2.2.2.2.1 g = nI L ∧ m.2.2.2.2.2.2.2.2.2.2.2.2.2.2.2.2.2.2.2.2.2.2.2.2.1 g = nI L ∧ ∀ i, i < L → c.2.2.2.2.2.2.2.2.2.2.2.2.2.2.2.2.2.2.2.2.2.2.2.2.2.2.2.2.2.2.2.2.2.2.2.2.2.2.2.2.2.1 (12 * g + i) = m.2.2.2.2.2.2.2.2.2.2.2.2.2.2.2.2.2.2.2.2.2.2.2.1 (12 * g + i)) ∧ ∃ xs ys, MS m.2.2.2.2.2.2.2.2.2.2.2.2.2.2.2.2.2.2.2.2.2.2.2.2.2.2.2.2.2.2.1 m.2.2.2.2.2.2.2.2.2.2.2.2.2.2.2.2.2.2.2.2.2.2.2.2.2.2.2.2.2.2.2.1 m.2.2.2.2.2.2.2.2.2.2.2.2.2.2.2.2.2.2.2.2.2.2.2.2.2.2.2.2.2.2.2.2 xs ys
theorem end_eq {len n : Int32} {B X : Ar} {N : Nat} (h : TX len B n X N) (hand lk tb tl tn : Ar) (p1 : Int32) (c : CT) (m : MT) (hE : FLt c m ∨ RSt N N c m) :
    ∃ (r : Option Int32) (c2 : CT) (a : Int32) (m2 : MT), l60 B p1 len c = some (r, 0, c2) ∧ l174 hand lk tb tl tn p1 0 0 n X m = some (a, mkM (oR r) 0 n X m2) ∧ (∀ v, r = some v → a = v) ∧ BR 0 B c2 0 hand m2 := by
  have hN := h.le
  obtain ⟨i_number, i_place, s_pieces, t_nodes, t_ranges, t_waits, g_howMany, o_depth, e_kind, e_value, e_set, e_others, e_after, cl_single, q_numbered, q_flagsAlone, q_nameAt, q_nameLength, q_flags, q_after, p_least, p_most, p_marked, p_after, p_number, r_place, r_flags, r_repeatable, s_begins, s_ends, t_kinds, t_values, t_mosts, t_owners, t_sizes, t_firstRanges, t_rangeCounts, t_begins, t_ends, t_waiting, g_lengths, g_letters, o_places, o_numbers, o_flagsAround, o_rows, o_parts⟩ := c
  obtain ⟨m_at, m_fault, m_place, m_nodes, m_ranges, m_numbered, m_depth, m_flags, m_repeatable, m_behind, m_notSet, m_least, m_greatest, m_kind, m_value, m_most, m_span, m_size, m_whose, m_rangeFrom, m_rangeMany, m_begins, m_ends, m_names, m_nameSize, m_opened, m_number, m_flagsBefore, m_rows, m_parts, m_low, m_high, m_many⟩ := m
  unfold l60 l174
  simp only
  rcases hE with ⟨w0, w1, ⟨d, hd, hd2⟩, hM⟩ | ⟨f0, g0, nd, rg, ng, dp, R, r, p, ⟨e1, e2, e3, e4, e5, e6⟩, ⟨d1, d2, d3, d4, d5, d6, d7⟩, ⟨xs, ys, hM⟩, hS⟩
  · simp only at w0 w1 hd hM
    have f1 : ¬ m_fault = 0 := fun q => by rw [q] at w1; exact absurd w1 (by decide)
    unfold f_PN_read_L60 f_RDR_end f_RDR_end_L33 f_MOD_read_L174 f_MOD_read_L202
    have tl : ∀ y, f_MIS_tell i_number i_place 2 y = some (i_number, i_place) := fun y => by unfold f_MIS_tell; rw [if_neg w0]
    rw [if_neg f1, if_neg f1, hd]
    by_cases z : nI d ≤ 0
    · rw [if_pos z, if_neg w0, bnd_s (rfl : some _ = some _), bnd_s (rfl : f_PAT_clear len = some 0)]
      simp only
      rw [if_neg w0]
      exact ⟨none, _, _, (m_at, m_fault, m_place, 0, m_ranges, 0, m_depth, m_flags, m_repeatable, m_behind, m_notSet, m_least, m_greatest, m_kind, m_value, m_most, m_span, m_size, m_whose, m_rangeFrom, m_rangeMany, m_begins, m_ends, m_names, m_nameSize, m_opened, m_number, m_flagsBefore, m_rows, m_parts, m_low, m_high, m_many), rfl, rfl, (fun v q => (by cases q)), ⟨0, 0, 0, ⟨rfl, rfl, by omega, fun j hj => by omega⟩, ⟨rfl, rfl, by omega⟩, ⟨rfl, rfl, by omega⟩, fun i hi => by omega, fun g h1 h2 => by omega, hM⟩⟩
    · rw [if_neg z, grd_t (inb_nI (by omega) (by decide)), bnd_s (tl _)]
      simp only
      rw [if_neg w0, bnd_s (rfl : some _ = some _), bnd_s (rfl : f_PAT_clear len = some 0)]
      simp only
      rw [if_neg w0]
      exact ⟨none, _, _, (m_at, m_fault, m_place, 0, m_ranges, 0, m_depth, m_flags, m_repeatable, m_behind, m_notSet, m_least, m_greatest, m_kind, m_value, m_most, m_span, m_size, m_whose, m_rangeFrom, m_rangeMany, m_begins, m_ends, m_names, m_nameSize, m_opened, m_number, m_flagsBefore, m_rows, m_parts, m_low, m_high, m_many), rfl, rfl, (fun v q => (by cases q)), ⟨0, 0, 0, ⟨rfl, rfl, by omega, fun j hj => by omega⟩, ⟨rfl, rfl, by omega⟩, ⟨rfl, rfl, by omega⟩, fun i hi => by omega, fun g h1 h2 => by omega, hM⟩⟩
  · simp only at f0 g0 e1 e2 e3 e4 e5 e6 d1 d2 d3 d4 d5 d6 d7 hM hS
    subst f0 g0 e1 e2 e3 e4 e5 e6 d1 d2 d3 d4 d5 d6 d7
    have hdp := hS.dp_le
    unfold f_PN_read_L60 f_RDR_end f_RDR_end_L33 f_MOD_read_L174 f_MOD_read_L202
    have z00 : (0 : Int32) = 0 := rfl
    by_cases z : dp = 0
    · subst z
      have z1 : nI 0 ≤ 0 := by decide
      rw [if_pos z1, if_pos z1, if_pos z00, if_pos z00, if_pos z00]
      obtain ⟨s1, s2, s3, s4, s5⟩ := hS.small hN
      obtain ⟨nd2, top, Q, kn2, vl2, mo2, ow2, sz2, fr2, rc2, wt2, kn2', vl2', mo2', sp2', sz2', wh2', rf2', rm2', b1, b2, b3, a1, a2, a3⟩ := alts_eq hS hN m_repeatable m_repeatable
      rw [bnd_s a1, bnd_s a2, bnd_s (rfl : some _ = some _), bnd_s (rfl : f_PAT_clear len = some 0)]
      simp only [↓reduceIte]
      refine ⟨some (nI ng), _, _, (nI N, 0, m_place, nI nd2, nI rg, nI ng, nI 0, m_flags, false, m_behind, m_notSet, m_least, m_greatest, kn2', vl2', mo2', sp2', sz2', wh2', rf2', rm2', m_begins, m_ends, m_names, m_nameSize, m_opened, m_number, m_flagsBefore, upd m_rows 0 (nI (r 0 + 1)), upd m_parts 0 0, m_low, m_high, m_many), rfl, rfl, (fun v q => Option.some.inj q), ⟨0, nd2, ng, ⟨rfl, rfl, by omega, fun j hj => by omega⟩, ⟨rfl, rfl, by omega⟩, ⟨rfl, rfl, hS.ng_le⟩, fun i hi => ?_, hS.gr, xs, ys, hM⟩⟩
      obtain ⟨u1, u2, u3, u4, u5, u6, u7⟩ := a3.e i hi
      obtain ⟨a, q, v1, v2, v3⟩ := a3.f i hi
      have hrg := a3.rg_le
      exact ⟨⟨u1, u2, u3, u4, u5, u6, u7⟩, a, q, v1, v2, by omega, fun j hj => a3.b j (by omega)⟩
    · have z1 : ¬ nI dp ≤ 0 := fun q => by have := (nI_leI (b := 0) (by omega) (by decide)).mp q; omega
      have n2 : ¬ (2 : Int32) = 0 := by decide
      rw [if_neg z1, if_pos z00, if_neg z1, grd_t (inb_nI (by omega) (by decide)), grd_t (inb_nI (by omega) (by decide))]
      have tl : ∀ y, f_MIS_tell 0 i_place 2 y = some (2, y) := fun y => rfl
      have tm : ∀ y, f_MOD_fail 0 m_place 2 y = some (2, y) := fun y => rfl
      rw [bnd_s (tl _), bnd_s (tm _)]
      simp only
      rw [if_neg n2, if_neg n2, bnd_s (rfl : some _ = some _), bnd_s (rfl : f_PAT_clear len = some 0)]
      simp only
      rw [if_neg n2]
      exact ⟨none, _, _, (nI N, 2, m_opened (nI dp).toNatClampNeg, 0, nI rg, 0, nI dp, m_flags, m_repeatable, m_behind, m_notSet, m_least, m_greatest, m_kind, m_value, m_most, m_span, m_size, m_whose, m_rangeFrom, m_rangeMany, m_begins, m_ends, m_names, m_nameSize, m_opened, m_number, m_flagsBefore, m_rows, m_parts, m_low, m_high, m_many), rfl, rfl, (fun v q => (by cases q)), ⟨0, 0, 0, ⟨rfl, rfl, by omega, fun j hj => by omega⟩, ⟨rfl, rfl, by omega⟩, ⟨rfl, rfl, by omega⟩, fun i hi => by omega, fun g h1 h2 => by omega, xs, ys, hM⟩⟩

set_option maxRecDepth 100000
set_option linter.unusedVariables false
theorem copy_loop (m_hand lk tb tl tn : Ar) (p1 : Int32) {N : Nat} (hN : N ≤ 400) (m_thrown : Int32) (m_inHand : Int32) (m_at : Int32) (m_fault : Int32) (m_place : Int32) (m_nodes : Int32) (m_ranges : Int32) (m_numbered : Int32) (m_depth : Int32) (m_flags : Int32) (m_repeatable : Bool) (m_behind : Int32) (m_notSet : Bool) (m_least : Int32) (m_greatest : Int32) (m_kind : Ar) (m_value : Ar) (m_most : Ar) (m_span : Ar) (m_size : Ar) (m_whose : Ar) (m_rangeFrom : Ar) (m_rangeMany : Ar) (m_begins : Ar) (m_ends : Ar) (m_names : Ar) (m_nameSize : Ar) (m_opened : Ar) (m_number : Ar) (m_flagsBefore : Ar) (m_rows : Ar) (m_parts : Ar) (m_low : Ar) (m_high : Ar) (m_many : Ar) : ∀ (d v F : Nat) (X : Ar), v + d = N → ∃ X', f_MOD_read_L38 m_hand lk tb tl tn p1 (F + d + 1) (nI v, m_thrown, m_inHand, nI N, m_at, m_fault, m_place, m_nodes, m_ranges, m_numbered, m_depth, m_flags, m_repeatable, m_behind, m_notSet, m_least, m_greatest, X, m_kind, m_value, m_most, m_span, m_size, m_whose, m_rangeFrom, m_rangeMany, m_begins, m_ends, m_names, m_nameSize, m_opened, m_number, m_flagsBefore, m_rows, m_parts, m_low, m_high, m_many) = f_MOD_read_L101 m_hand lk tb tl tn p1 FU (0, m_thrown, 0, nI N, 0, 0, (-1), 0, 0, 0, m_depth, m_flags, m_repeatable, m_behind, m_notSet, m_least, m_greatest, X', m_kind, m_value, m_most, m_span, m_size, m_whose, m_rangeFrom, m_rangeMany, m_begins, m_ends, m_names, m_nameSize, m_opened, m_number, m_flagsBefore, m_rows, m_parts, m_low, m_high, m_many) ∧ (∀ j, j < v → X' j = X j) ∧ ∀ j, v ≤ j → j < N → X' j = m_hand j := by
  intro d
  induction d with
  | zero =>
    intro v F X hv
    refine ⟨X, ?_, fun j _ => rfl, fun j h1 h2 => by omega⟩
    rw [f_MOD_read_L38_s]
    unfold f_MOD_read_B38
    have e : nI N ≤ nI v := (nI_leI (by omega) (by omega)).mpr (by omega)
    rw [if_pos e]
  | succ d ih =>
    intro v F X hv
    have e : ¬ nI N ≤ nI v := fun q => by have := (nI_leI (by omega) (by omega)).mp q; omega
    obtain ⟨X', e1, e2, e3⟩ := ih (v + 1) F (upd X v (m_hand v)) (by omega)
    refine ⟨X', ?_, fun j hj => by rw [e2 j (by omega), upd_ne (by omega)], fun j h1 h2 => ?_⟩
    · rw [f_MOD_read_L38_s]
      unfold f_MOD_read_B38
      rw [if_neg e, grd_t (inb_nI (by omega) (by decide)), grd_t (inb_nI (by omega) (by decide)), nI_clamp (by omega), nI_1]
      exact e1
    · by_cases q : j = v
      · subst q; rw [e2 _ (by omega), upd_at]
      · exact e3 j (by omega) h2
theorem zero_loop (m_hand lk tb tl tn : Ar) (p1 : Int32) (m_thrown : Int32) (m_inHand : Int32) (m_n : Int32) (m_at : Int32) (m_fault : Int32) (m_place : Int32) (m_nodes : Int32) (m_ranges : Int32) (m_numbered : Int32) (m_depth : Int32) (m_flags : Int32) (m_repeatable : Bool) (m_behind : Int32) (m_notSet : Bool) (m_least : Int32) (m_greatest : Int32) (m_text : Ar) (m_kind : Ar) (m_value : Ar) (m_most : Ar) (m_span : Ar) (m_size : Ar) (m_whose : Ar) (m_rangeFrom : Ar) (m_rangeMany : Ar) (m_begins : Ar) (m_ends : Ar) (m_names : Ar) (m_opened : Ar) (m_number : Ar) (m_flagsBefore : Ar) (m_rows : Ar) (m_parts : Ar) (m_low : Ar) (m_high : Ar) (m_many : Ar) : ∀ (d v F : Nat) (Z : Ar), v + d = 11 → (∀ g, g < v → Z g = 0) → ∃ Z', f_MOD_read_L101 m_hand lk tb tl tn p1 (F + d + 1) (nI v, m_thrown, m_inHand, m_n, m_at, m_fault, m_place, m_nodes, m_ranges, m_numbered, m_depth, m_flags, m_repeatable, m_behind, m_notSet, m_least, m_greatest, m_text, m_kind, m_value, m_most, m_span, m_size, m_whose, m_rangeFrom, m_rangeMany, m_begins, m_ends, m_names, Z, m_opened, m_number, m_flagsBefore, m_rows, m_parts, m_low, m_high, m_many) = f_MOD_read_L149 m_hand lk tb tl tn p1 FU (m_thrown, m_inHand, m_n, m_at, m_fault, m_place, m_nodes, m_ranges, m_numbered, 0, p1, false, m_behind, m_notSet, m_least, m_greatest, m_text, m_kind, m_value, m_most, m_span, m_size, m_whose, m_rangeFrom, m_rangeMany, m_begins, m_ends, m_names, Z', m_opened, m_number, m_flagsBefore, upd m_rows 0 0, upd m_parts 0 0, m_low, m_high, m_many) ∧ ∀ g, g < 11 → Z' g = 0 := by
  intro d
  induction d with
  | zero =>
    intro v F Z hv hz
    refine ⟨Z, ?_, fun g hg => hz g (by omega)⟩
    rw [f_MOD_read_L101_s]
    unfold f_MOD_read_B101
    have e : (11 : Int32) ≤ nI v := (nI_leI (a := 11) (by decide) (by omega)).mpr (by omega)
    rw [if_pos e, grd_t (by decide), grd_t (by decide)]
    rfl
  | succ d ih =>
    intro v F Z hv hz
    have e : ¬ (11 : Int32) ≤ nI v := fun q => by have := (nI_leI (a := 11) (by decide) (by omega)).mp q; omega
    obtain ⟨Z', e1, e2⟩ := ih (v + 1) F (upd Z v 0) (by omega) (fun g hg => by
      by_cases q : g = v
      · subst q; exact upd_at _ _ _
      · rw [upd_ne q]; exact hz g (by omega))
    refine ⟨Z', ?_, e2⟩
    rw [f_MOD_read_L101_s]
    unfold f_MOD_read_B101
    rw [if_neg e, grd_t (inb_nI (by omega) (by decide)), nI_clamp (by omega), nI_1]
    exact e1
def pnR (len : Int32) (B : Ar) (c : CT) (p1 : Int32) : Option (Option Int32 × Int32 × CT) := f_PN_read len c.1 c.2.1 c.2.2.1 c.2.2.2.1 c.2.2.2.2.1 c.2.2.2.2.2.1 c.2.2.2.2.2.2.1 c.2.2.2.2.2.2.2.1 c.2.2.2.2.2.2.2.2.1 c.2.2.2.2.2.2.2.2.2.1 c.2.2.2.2.2.2.2.2.2.2.1 c.2.2.2.2.2.2.2.2.2.2.2.1 c.2.2.2.2.2.2.2.2.2.2.2.2.1 c.2.2.2.2.2.2.2.2.2.2.2.2.2.1 c.2.2.2.2.2.2.2.2.2.2.2.2.2.2.1 c.2.2.2.2.2.2.2.2.2.2.2.2.2.2.2.1 c.2.2.2.2.2.2.2.2.2.2.2.2.2.2.2.2.1 c.2.2.2.2.2.2.2.2.2.2.2.2.2.2.2.2.2.1 c.2.2.2.2.2.2.2.2.2.2.2.2.2.2.2.2.2.2.1 c.2.2.2.2.2.2.2.2.2.2.2.2.2.2.2.2.2.2.2.1 c.2.2.2.2.2.2.2.2.2.2.2.2.2.2.2.2.2.2.2.2.1 c.2.2.2.2.2.2.2.2.2.2.2.2.2.2.2.2.2.2.2.2.2.1 c.2.2.2.2.2.2.2.2.2.2.2.2.2.2.2.2.2.2.2.2.2.2.1 c.2.2.2.2.2.2.2.2.2.2.2.2.2.2.2.2.2.2.2.2.2.2.2.1 c.2.2.2.2.2.2.2.2.2.2.2.2.2.2.2.2.2.2.2.2.2.2.2.2.1 c.2.2.2.2.2.2.2.2.2.2.2.2.2.2.2.2.2.2.2.2.2.2.2.2.2.1 c.2.2.2.2.2.2.2.2.2.2.2.2.2.2.2.2.2.2.2.2.2.2.2.2.2.2.1 c.2.2.2.2.2.2.2.2.2.2.2.2.2.2.2.2.2.2.2.2.2.2.2.2.2.2.2.1 B c.2.2.2.2.2.2.2.2.2.2.2.2.2.2.2.2.2.2.2.2.2.2.2.2.2.2.2.2.1 c.2.2.2.2.2.2.2.2.2.2.2.2.2.2.2.2.2.2.2.2.2.2.2.2.2.2.2.2.2.1 c.2.2.2.2.2.2.2.2.2.2.2.2.2.2.2.2.2.2.2.2.2.2.2.2.2.2.2.2.2.2.1 c.2.2.2.2.2.2.2.2.2.2.2.2.2.2.2.2.2.2.2.2.2.2.2.2.2.2.2.2.2.2.2.1 c.2.2.2.2.2.2.2.2.2.2.2.2.2.2.2.2.2.2.2.2.2.2.2.2.2.2.2.2.2.2.2.2.1 c.2.2.2.2.2.2.2.2.2.2.2.2.2.2.2.2.2.2.2.2.2.2.2.2.2.2.2.2.2.2.2.2.2.1 c.2.2.2.2.2.2.2.2.2.2.2.2.2.2.2.2.2.2.2.2.2.2.2.2.2.2.2.2.2.2.2.2.2.2.1 c.2.2.2.2.2.2.2.2.2.2.2.2.2.2.2.2.2.2.2.2.2.2.2.2.2.2.2.2.2.2.2.2.2.2.2.1 c.2.2.2.2.2.2.2.2.2.2.2.2.2.2.2.2.2.2.2.2.2.2.2.2.2.2.2.2.2.2.2.2.2.2.2.2.1 c.2.2.2.2.2.2.2.2.2.2.2.2.2.2.2.2.2.2.2.2.2.2.2.2.2.2.2.2.2.2.2.2.2.2.2.2.2.1 c.2.2.2.2.2.2.2.2.2.2.2.2.2.2.2.2.2.2.2.2.2.2.2.2.2.2.2.2.2.2.2.2.2.2.2.2.2.2.1 c.2.2.2.2.2.2.2.2.2.2.2.2.2.2.2.2.2.2.2.2.2.2.2.2.2.2.2.2.2.2.2.2.2.2.2.2.2.2.2.1 c.2.2.2.2.2.2.2.2.2.2.2.2.2.2.2.2.2.2.2.2.2.2.2.2.2.2.2.2.2.2.2.2.2.2.2.2.2.2.2.2.1 c.2.2.2.2.2.2.2.2.2.2.2.2.2.2.2.2.2.2.2.2.2.2.2.2.2.2.2.2.2.2.2.2.2.2.2.2.2.2.2.2.2.1 c.2.2.2.2.2.2.2.2.2.2.2.2.2.2.2.2.2.2.2.2.2.2.2.2.2.2.2.2.2.2.2.2.2.2.2.2.2.2.2.2.2.2.1 c.2.2.2.2.2.2.2.2.2.2.2.2.2.2.2.2.2.2.2.2.2.2.2.2.2.2.2.2.2.2.2.2.2.2.2.2.2.2.2.2.2.2.2.1 c.2.2.2.2.2.2.2.2.2.2.2.2.2.2.2.2.2.2.2.2.2.2.2.2.2.2.2.2.2.2.2.2.2.2.2.2.2.2.2.2.2.2.2.2.1 c.2.2.2.2.2.2.2.2.2.2.2.2.2.2.2.2.2.2.2.2.2.2.2.2.2.2.2.2.2.2.2.2.2.2.2.2.2.2.2.2.2.2.2.2.2.1 c.2.2.2.2.2.2.2.2.2.2.2.2.2.2.2.2.2.2.2.2.2.2.2.2.2.2.2.2.2.2.2.2.2.2.2.2.2.2.2.2.2.2.2.2.2.2 p1
def mdR (thr ih n : Int32) (X hand lk tb tl tn : Ar) (m : MT) (p1 : Int32) := f_MOD_read thr ih n m.1 m.2.1 m.2.2.1 m.2.2.2.1 m.2.2.2.2.1 m.2.2.2.2.2.1 m.2.2.2.2.2.2.1 m.2.2.2.2.2.2.2.1 m.2.2.2.2.2.2.2.2.1 m.2.2.2.2.2.2.2.2.2.1 m.2.2.2.2.2.2.2.2.2.2.1 m.2.2.2.2.2.2.2.2.2.2.2.1 m.2.2.2.2.2.2.2.2.2.2.2.2.1 hand X m.2.2.2.2.2.2.2.2.2.2.2.2.2.1 m.2.2.2.2.2.2.2.2.2.2.2.2.2.2.1 m.2.2.2.2.2.2.2.2.2.2.2.2.2.2.2.1 m.2.2.2.2.2.2.2.2.2.2.2.2.2.2.2.2.1 m.2.2.2.2.2.2.2.2.2.2.2.2.2.2.2.2.2.1 m.2.2.2.2.2.2.2.2.2.2.2.2.2.2.2.2.2.2.1 m.2.2.2.2.2.2.2.2.2.2.2.2.2.2.2.2.2.2.2.1 m.2.2.2.2.2.2.2.2.2.2.2.2.2.2.2.2.2.2.2.2.1 m.2.2.2.2.2.2.2.2.2.2.2.2.2.2.2.2.2.2.2.2.2.1 m.2.2.2.2.2.2.2.2.2.2.2.2.2.2.2.2.2.2.2.2.2.2.1 m.2.2.2.2.2.2.2.2.2.2.2.2.2.2.2.2.2.2.2.2.2.2.2.1 m.2.2.2.2.2.2.2.2.2.2.2.2.2.2.2.2.2.2.2.2.2.2.2.2.1 m.2.2.2.2.2.2.2.2.2.2.2.2.2.2.2.2.2.2.2.2.2.2.2.2.2.1 m.2.2.2.2.2.2.2.2.2.2.2.2.2.2.2.2.2.2.2.2.2.2.2.2.2.2.1 m.2.2.2.2.2.2.2.2.2.2.2.2.2.2.2.2.2.2.2.2.2.2.2.2.2.2.2.1 m.2.2.2.2.2.2.2.2.2.2.2.2.2.2.2.2.2.2.2.2.2.2.2.2.2.2.2.2.1 m.2.2.2.2.2.2.2.2.2.2.2.2.2.2.2.2.2.2.2.2.2.2.2.2.2.2.2.2.2.1 m.2.2.2.2.2.2.2.2.2.2.2.2.2.2.2.2.2.2.2.2.2.2.2.2.2.2.2.2.2.2.1 m.2.2.2.2.2.2.2.2.2.2.2.2.2.2.2.2.2.2.2.2.2.2.2.2.2.2.2.2.2.2.2.1 m.2.2.2.2.2.2.2.2.2.2.2.2.2.2.2.2.2.2.2.2.2.2.2.2.2.2.2.2.2.2.2.2 lk tb tl tn p1
theorem read_eq {lk tb tl tn : Ar} (hT : TB lk tb tl tn) {len ih : Int32} {B hand : Ar} {c : CT} {m : MT} (hB : BR len B c ih hand m) (thr n0 : Int32) (X0 : Ar) (p1 : Int32) :
    ∃ r len2 c2 a ih2 n2 X2 m2, pnR len B c p1 = some (r, len2, c2) ∧ mdR thr ih n0 X0 hand lk tb tl tn m p1 = some (a, mkM (oR r) ih2 n2 X2 m2) ∧ (∀ v, r = some v → a = v) ∧ BR len2 B c2 ih2 hand m2 := by
  have refuse : f_MOD_read_L16 hand lk tb tl tn p1 true thr ih n0 m.1 m.2.1 m.2.2.1 m.2.2.2.1 m.2.2.2.2.1 m.2.2.2.2.2.1 m.2.2.2.2.2.2.1 m.2.2.2.2.2.2.2.1 m.2.2.2.2.2.2.2.2.1 m.2.2.2.2.2.2.2.2.2.1 m.2.2.2.2.2.2.2.2.2.2.1 m.2.2.2.2.2.2.2.2.2.2.2.1 m.2.2.2.2.2.2.2.2.2.2.2.2.1 X0 m.2.2.2.2.2.2.2.2.2.2.2.2.2.1 m.2.2.2.2.2.2.2.2.2.2.2.2.2.2.1 m.2.2.2.2.2.2.2.2.2.2.2.2.2.2.2.1 m.2.2.2.2.2.2.2.2.2.2.2.2.2.2.2.2.1 m.2.2.2.2.2.2.2.2.2.2.2.2.2.2.2.2.2.1 m.2.2.2.2.2.2.2.2.2.2.2.2.2.2.2.2.2.2.1 m.2.2.2.2.2.2.2.2.2.2.2.2.2.2.2.2.2.2.2.1 m.2.2.2.2.2.2.2.2.2.2.2.2.2.2.2.2.2.2.2.2.1 m.2.2.2.2.2.2.2.2.2.2.2.2.2.2.2.2.2.2.2.2.2.1 m.2.2.2.2.2.2.2.2.2.2.2.2.2.2.2.2.2.2.2.2.2.2.1 m.2.2.2.2.2.2.2.2.2.2.2.2.2.2.2.2.2.2.2.2.2.2.2.1 m.2.2.2.2.2.2.2.2.2.2.2.2.2.2.2.2.2.2.2.2.2.2.2.2.1 m.2.2.2.2.2.2.2.2.2.2.2.2.2.2.2.2.2.2.2.2.2.2.2.2.2.1 m.2.2.2.2.2.2.2.2.2.2.2.2.2.2.2.2.2.2.2.2.2.2.2.2.2.2.1 m.2.2.2.2.2.2.2.2.2.2.2.2.2.2.2.2.2.2.2.2.2.2.2.2.2.2.2.1 m.2.2.2.2.2.2.2.2.2.2.2.2.2.2.2.2.2.2.2.2.2.2.2.2.2.2.2.2.1 m.2.2.2.2.2.2.2.2.2.2.2.2.2.2.2.2.2.2.2.2.2.2.2.2.2.2.2.2.2.1 m.2.2.2.2.2.2.2.2.2.2.2.2.2.2.2.2.2.2.2.2.2.2.2.2.2.2.2.2.2.2.1 m.2.2.2.2.2.2.2.2.2.2.2.2.2.2.2.2.2.2.2.2.2.2.2.2.2.2.2.2.2.2.2.1 m.2.2.2.2.2.2.2.2.2.2.2.2.2.2.2.2.2.2.2.2.2.2.2.2.2.2.2.2.2.2.2.2 = some (0, mkM 1 ih n0 X0 m) := by
    unfold f_MOD_read_L16
    rw [if_neg (by decide : ¬ b2i true ≤ 0)]
    rfl
  have refC : f_PN_read_L10 B p1 len c.1 c.2.1 c.2.2.1 c.2.2.2.1 c.2.2.2.2.1 c.2.2.2.2.2.1 c.2.2.2.2.2.2.1 c.2.2.2.2.2.2.2.1 c.2.2.2.2.2.2.2.2.1 c.2.2.2.2.2.2.2.2.2.1 c.2.2.2.2.2.2.2.2.2.2.1 c.2.2.2.2.2.2.2.2.2.2.2.1 c.2.2.2.2.2.2.2.2.2.2.2.2.1 c.2.2.2.2.2.2.2.2.2.2.2.2.2.1 c.2.2.2.2.2.2.2.2.2.2.2.2.2.2.1 c.2.2.2.2.2.2.2.2.2.2.2.2.2.2.2.1 c.2.2.2.2.2.2.2.2.2.2.2.2.2.2.2.2.1 c.2.2.2.2.2.2.2.2.2.2.2.2.2.2.2.2.2.1 c.2.2.2.2.2.2.2.2.2.2.2.2.2.2.2.2.2.2.1 c.2.2.2.2.2.2.2.2.2.2.2.2.2.2.2.2.2.2.2.1 c.2.2.2.2.2.2.2.2.2.2.2.2.2.2.2.2.2.2.2.2.1 c.2.2.2.2.2.2.2.2.2.2.2.2.2.2.2.2.2.2.2.2.2.1 c.2.2.2.2.2.2.2.2.2.2.2.2.2.2.2.2.2.2.2.2.2.2.1 c.2.2.2.2.2.2.2.2.2.2.2.2.2.2.2.2.2.2.2.2.2.2.2.1 c.2.2.2.2.2.2.2.2.2.2.2.2.2.2.2.2.2.2.2.2.2.2.2.2.1 c.2.2.2.2.2.2.2.2.2.2.2.2.2.2.2.2.2.2.2.2.2.2.2.2.2.1 c.2.2.2.2.2.2.2.2.2.2.2.2.2.2.2.2.2.2.2.2.2.2.2.2.2.2.1 c.2.2.2.2.2.2.2.2.2.2.2.2.2.2.2.2.2.2.2.2.2.2.2.2.2.2.2.1 c.2.2.2.2.2.2.2.2.2.2.2.2.2.2.2.2.2.2.2.2.2.2.2.2.2.2.2.2.1 c.2.2.2.2.2.2.2.2.2.2.2.2.2.2.2.2.2.2.2.2.2.2.2.2.2.2.2.2.2.1 c.2.2.2.2.2.2.2.2.2.2.2.2.2.2.2.2.2.2.2.2.2.2.2.2.2.2.2.2.2.2.1 c.2.2.2.2.2.2.2.2.2.2.2.2.2.2.2.2.2.2.2.2.2.2.2.2.2.2.2.2.2.2.2.1 c.2.2.2.2.2.2.2.2.2.2.2.2.2.2.2.2.2.2.2.2.2.2.2.2.2.2.2.2.2.2.2.2.1 c.2.2.2.2.2.2.2.2.2.2.2.2.2.2.2.2.2.2.2.2.2.2.2.2.2.2.2.2.2.2.2.2.2.1 c.2.2.2.2.2.2.2.2.2.2.2.2.2.2.2.2.2.2.2.2.2.2.2.2.2.2.2.2.2.2.2.2.2.2.1 c.2.2.2.2.2.2.2.2.2.2.2.2.2.2.2.2.2.2.2.2.2.2.2.2.2.2.2.2.2.2.2.2.2.2.2.1 c.2.2.2.2.2.2.2.2.2.2.2.2.2.2.2.2.2.2.2.2.2.2.2.2.2.2.2.2.2.2.2.2.2.2.2.2.1 c.2.2.2.2.2.2.2.2.2.2.2.2.2.2.2.2.2.2.2.2.2.2.2.2.2.2.2.2.2.2.2.2.2.2.2.2.2.1 c.2.2.2.2.2.2.2.2.2.2.2.2.2.2.2.2.2.2.2.2.2.2.2.2.2.2.2.2.2.2.2.2.2.2.2.2.2.2.1 c.2.2.2.2.2.2.2.2.2.2.2.2.2.2.2.2.2.2.2.2.2.2.2.2.2.2.2.2.2.2.2.2.2.2.2.2.2.2.2.1 c.2.2.2.2.2.2.2.2.2.2.2.2.2.2.2.2.2.2.2.2.2.2.2.2.2.2.2.2.2.2.2.2.2.2.2.2.2.2.2.2.1 c.2.2.2.2.2.2.2.2.2.2.2.2.2.2.2.2.2.2.2.2.2.2.2.2.2.2.2.2.2.2.2.2.2.2.2.2.2.2.2.2.2.1 c.2.2.2.2.2.2.2.2.2.2.2.2.2.2.2.2.2.2.2.2.2.2.2.2.2.2.2.2.2.2.2.2.2.2.2.2.2.2.2.2.2.2.1 c.2.2.2.2.2.2.2.2.2.2.2.2.2.2.2.2.2.2.2.2.2.2.2.2.2.2.2.2.2.2.2.2.2.2.2.2.2.2.2.2.2.2.2.1 c.2.2.2.2.2.2.2.2.2.2.2.2.2.2.2.2.2.2.2.2.2.2.2.2.2.2.2.2.2.2.2.2.2.2.2.2.2.2.2.2.2.2.2.2.1 c.2.2.2.2.2.2.2.2.2.2.2.2.2.2.2.2.2.2.2.2.2.2.2.2.2.2.2.2.2.2.2.2.2.2.2.2.2.2.2.2.2.2.2.2.2.1 c.2.2.2.2.2.2.2.2.2.2.2.2.2.2.2.2.2.2.2.2.2.2.2.2.2.2.2.2.2.2.2.2.2.2.2.2.2.2.2.2.2.2.2.2.2.2 = some (none, len, c) := by
    unfold f_PN_read_L10
    rfl
  unfold pnR mdR f_PN_read f_MOD_read
  by_cases a1 : p1 < 0
  · rw [if_pos a1, if_pos a1]
    exact ⟨none, len, c, 0, ih, n0, X0, m, refC, refuse, (fun v q => (by cases q)), hB⟩
  rw [if_neg a1, if_neg a1]
  by_cases a2 : p1 ≤ 15
  · rw [if_pos a2, if_pos a2]
    have t0 : (0 : Int32).toInt = 0 := rfl
    have t15 : (15 : Int32).toInt = 15 := rfl
    have hfl : 0 ≤ p1.toInt ∧ p1.toInt ≤ 15 := by
      constructor
      · rcases Int.lt_or_le p1.toInt 0 with q | q
        · exact absurd (Int32.lt_iff_toInt_lt.mpr (by rw [t0]; exact q)) a1
        · exact q
      · have := le_ti32.mp a2; rw [t15] at this; exact this
    obtain ⟨N, nd, ng, ⟨hlen, hih, hN, hby⟩, _, _, _, _, xs, ys, hM⟩ := hB
    subst hlen hih
    obtain ⟨X', x1, x2, x3⟩ := copy_loop hand lk tb tl tn p1 hN 0 (nI N) m.1 m.2.1 m.2.2.1 m.2.2.2.1 m.2.2.2.2.1 m.2.2.2.2.2.1 m.2.2.2.2.2.2.1 m.2.2.2.2.2.2.2.1 m.2.2.2.2.2.2.2.2.1 m.2.2.2.2.2.2.2.2.2.1 m.2.2.2.2.2.2.2.2.2.2.1 m.2.2.2.2.2.2.2.2.2.2.2.1 m.2.2.2.2.2.2.2.2.2.2.2.2.1 m.2.2.2.2.2.2.2.2.2.2.2.2.2.1 m.2.2.2.2.2.2.2.2.2.2.2.2.2.2.1 m.2.2.2.2.2.2.2.2.2.2.2.2.2.2.2.1 m.2.2.2.2.2.2.2.2.2.2.2.2.2.2.2.2.1 m.2.2.2.2.2.2.2.2.2.2.2.2.2.2.2.2.2.1 m.2.2.2.2.2.2.2.2.2.2.2.2.2.2.2.2.2.2.1 m.2.2.2.2.2.2.2.2.2.2.2.2.2.2.2.2.2.2.2.1 m.2.2.2.2.2.2.2.2.2.2.2.2.2.2.2.2.2.2.2.2.1 m.2.2.2.2.2.2.2.2.2.2.2.2.2.2.2.2.2.2.2.2.2.1 m.2.2.2.2.2.2.2.2.2.2.2.2.2.2.2.2.2.2.2.2.2.2.1 m.2.2.2.2.2.2.2.2.2.2.2.2.2.2.2.2.2.2.2.2.2.2.2.1 m.2.2.2.2.2.2.2.2.2.2.2.2.2.2.2.2.2.2.2.2.2.2.2.2.1 m.2.2.2.2.2.2.2.2.2.2.2.2.2.2.2.2.2.2.2.2.2.2.2.2.2.1 m.2.2.2.2.2.2.2.2.2.2.2.2.2.2.2.2.2.2.2.2.2.2.2.2.2.2.1 m.2.2.2.2.2.2.2.2.2.2.2.2.2.2.2.2.2.2.2.2.2.2.2.2.2.2.2.1 m.2.2.2.2.2.2.2.2.2.2.2.2.2.2.2.2.2.2.2.2.2.2.2.2.2.2.2.2.1 m.2.2.2.2.2.2.2.2.2.2.2.2.2.2.2.2.2.2.2.2.2.2.2.2.2.2.2.2.2.1 m.2.2.2.2.2.2.2.2.2.2.2.2.2.2.2.2.2.2.2.2.2.2.2.2.2.2.2.2.2.2.1 m.2.2.2.2.2.2.2.2.2.2.2.2.2.2.2.2.2.2.2.2.2.2.2.2.2.2.2.2.2.2.2.1 m.2.2.2.2.2.2.2.2.2.2.2.2.2.2.2.2.2.2.2.2.2.2.2.2.2.2.2.2.2.2.2.2 N 0 (999999 - N) X0 (by omega)
    obtain ⟨Z', y1, y2⟩ := zero_loop hand lk tb tl tn p1 0 0 (nI N) 0 0 (-1) 0 0 0 m.2.2.2.2.2.2.1 m.2.2.2.2.2.2.2.1 m.2.2.2.2.2.2.2.2.1 m.2.2.2.2.2.2.2.2.2.1 m.2.2.2.2.2.2.2.2.2.2.1 m.2.2.2.2.2.2.2.2.2.2.2.1 m.2.2.2.2.2.2.2.2.2.2.2.2.1 X' m.2.2.2.2.2.2.2.2.2.2.2.2.2.1 m.2.2.2.2.2.2.2.2.2.2.2.2.2.2.1 m.2.2.2.2.2.2.2.2.2.2.2.2.2.2.2.1 m.2.2.2.2.2.2.2.2.2.2.2.2.2.2.2.2.1 m.2.2.2.2.2.2.2.2.2.2.2.2.2.2.2.2.2.1 m.2.2.2.2.2.2.2.2.2.2.2.2.2.2.2.2.2.2.1 m.2.2.2.2.2.2.2.2.2.2.2.2.2.2.2.2.2.2.2.1 m.2.2.2.2.2.2.2.2.2.2.2.2.2.2.2.2.2.2.2.2.1 m.2.2.2.2.2.2.2.2.2.2.2.2.2.2.2.2.2.2.2.2.2.1 m.2.2.2.2.2.2.2.2.2.2.2.2.2.2.2.2.2.2.2.2.2.2.1 m.2.2.2.2.2.2.2.2.2.2.2.2.2.2.2.2.2.2.2.2.2.2.2.1 m.2.2.2.2.2.2.2.2.2.2.2.2.2.2.2.2.2.2.2.2.2.2.2.2.2.1 m.2.2.2.2.2.2.2.2.2.2.2.2.2.2.2.2.2.2.2.2.2.2.2.2.2.2.1 m.2.2.2.2.2.2.2.2.2.2.2.2.2.2.2.2.2.2.2.2.2.2.2.2.2.2.2.1 m.2.2.2.2.2.2.2.2.2.2.2.2.2.2.2.2.2.2.2.2.2.2.2.2.2.2.2.2.1 m.2.2.2.2.2.2.2.2.2.2.2.2.2.2.2.2.2.2.2.2.2.2.2.2.2.2.2.2.2.1 m.2.2.2.2.2.2.2.2.2.2.2.2.2.2.2.2.2.2.2.2.2.2.2.2.2.2.2.2.2.2.1 m.2.2.2.2.2.2.2.2.2.2.2.2.2.2.2.2.2.2.2.2.2.2.2.2.2.2.2.2.2.2.2.1 m.2.2.2.2.2.2.2.2.2.2.2.2.2.2.2.2.2.2.2.2.2.2.2.2.2.2.2.2.2.2.2.2 11 0 999988 m.2.2.2.2.2.2.2.2.2.2.2.2.2.2.2.2.2.2.2.2.2.2.2.2.1 (by omega) (fun g hg => by omega)
    have qN : 999999 - N + N + 1 = FU := by show _ = 1000000; omega
    rw [qN] at x1
    have hTX : TX (nI N) B (nI N) X' N := ⟨rfl, rfl, hN, fun j hj => by rw [x3 j (by omega) hj]; exact (hby j hj).1, fun j hj => (hby j hj).2⟩
    have hR0 : RSt N 0 (0, (-1), c.2.2.1, 0, 0, 0, 0, 0, c.2.2.2.2.2.2.2.2.1, c.2.2.2.2.2.2.2.2.2.1, c.2.2.2.2.2.2.2.2.2.2.1, c.2.2.2.2.2.2.2.2.2.2.2.1, c.2.2.2.2.2.2.2.2.2.2.2.2.1, c.2.2.2.2.2.2.2.2.2.2.2.2.2.1, c.2.2.2.2.2.2.2.2.2.2.2.2.2.2.1, c.2.2.2.2.2.2.2.2.2.2.2.2.2.2.2.1, c.2.2.2.2.2.2.2.2.2.2.2.2.2.2.2.2.1, c.2.2.2.2.2.2.2.2.2.2.2.2.2.2.2.2.2.1, c.2.2.2.2.2.2.2.2.2.2.2.2.2.2.2.2.2.2.1, c.2.2.2.2.2.2.2.2.2.2.2.2.2.2.2.2.2.2.2.1, c.2.2.2.2.2.2.2.2.2.2.2.2.2.2.2.2.2.2.2.2.1, c.2.2.2.2.2.2.2.2.2.2.2.2.2.2.2.2.2.2.2.2.2.1, c.2.2.2.2.2.2.2.2.2.2.2.2.2.2.2.2.2.2.2.2.2.2.1, c.2.2.2.2.2.2.2.2.2.2.2.2.2.2.2.2.2.2.2.2.2.2.2.1, c.2.2.2.2.2.2.2.2.2.2.2.2.2.2.2.2.2.2.2.2.2.2.2.2.1, 0, p1, false, c.2.2.2.2.2.2.2.2.2.2.2.2.2.2.2.2.2.2.2.2.2.2.2.2.2.2.2.2.1, c.2.2.2.2.2.2.2.2.2.2.2.2.2.2.2.2.2.2.2.2.2.2.2.2.2.2.2.2.2.1, c.2.2.2.2.2.2.2.2.2.2.2.2.2.2.2.2.2.2.2.2.2.2.2.2.2.2.2.2.2.2.1, c.2.2.2.2.2.2.2.2.2.2.2.2.2.2.2.2.2.2.2.2.2.2.2.2.2.2.2.2.2.2.2.1, c.2.2.2.2.2.2.2.2.2.2.2.2.2.2.2.2.2.2.2.2.2.2.2.2.2.2.2.2.2.2.2.2.1, c.2.2.2.2.2.2.2.2.2.2.2.2.2.2.2.2.2.2.2.2.2.2.2.2.2.2.2.2.2.2.2.2.2.1, c.2.2.2.2.2.2.2.2.2.2.2.2.2.2.2.2.2.2.2.2.2.2.2.2.2.2.2.2.2.2.2.2.2.2.1, c.2.2.2.2.2.2.2.2.2.2.2.2.2.2.2.2.2.2.2.2.2.2.2.2.2.2.2.2.2.2.2.2.2.2.2.1, c.2.2.2.2.2.2.2.2.2.2.2.2.2.2.2.2.2.2.2.2.2.2.2.2.2.2.2.2.2.2.2.2.2.2.2.2.1, c.2.2.2.2.2.2.2.2.2.2.2.2.2.2.2.2.2.2.2.2.2.2.2.2.2.2.2.2.2.2.2.2.2.2.2.2.2.1, c.2.2.2.2.2.2.2.2.2.2.2.2.2.2.2.2.2.2.2.2.2.2.2.2.2.2.2.2.2.2.2.2.2.2.2.2.2.2.1, c.2.2.2.2.2.2.2.2.2.2.2.2.2.2.2.2.2.2.2.2.2.2.2.2.2.2.2.2.2.2.2.2.2.2.2.2.2.2.2.1, c.2.2.2.2.2.2.2.2.2.2.2.2.2.2.2.2.2.2.2.2.2.2.2.2.2.2.2.2.2.2.2.2.2.2.2.2.2.2.2.2.1, c.2.2.2.2.2.2.2.2.2.2.2.2.2.2.2.2.2.2.2.2.2.2.2.2.2.2.2.2.2.2.2.2.2.2.2.2.2.2.2.2.2.1, c.2.2.2.2.2.2.2.2.2.2.2.2.2.2.2.2.2.2.2.2.2.2.2.2.2.2.2.2.2.2.2.2.2.2.2.2.2.2.2.2.2.2.1, c.2.2.2.2.2.2.2.2.2.2.2.2.2.2.2.2.2.2.2.2.2.2.2.2.2.2.2.2.2.2.2.2.2.2.2.2.2.2.2.2.2.2.2.1, c.2.2.2.2.2.2.2.2.2.2.2.2.2.2.2.2.2.2.2.2.2.2.2.2.2.2.2.2.2.2.2.2.2.2.2.2.2.2.2.2.2.2.2.2.1, upd c.2.2.2.2.2.2.2.2.2.2.2.2.2.2.2.2.2.2.2.2.2.2.2.2.2.2.2.2.2.2.2.2.2.2.2.2.2.2.2.2.2.2.2.2.2.1 0 0, upd c.2.2.2.2.2.2.2.2.2.2.2.2.2.2.2.2.2.2.2.2.2.2.2.2.2.2.2.2.2.2.2.2.2.2.2.2.2.2.2.2.2.2.2.2.2.2 0 0) (0, 0, (-1), 0, 0, 0, 0, p1, false, m.2.2.2.2.2.2.2.2.2.1, m.2.2.2.2.2.2.2.2.2.2.1, m.2.2.2.2.2.2.2.2.2.2.2.1, m.2.2.2.2.2.2.2.2.2.2.2.2.1, m.2.2.2.2.2.2.2.2.2.2.2.2.2.1, m.2.2.2.2.2.2.2.2.2.2.2.2.2.2.1, m.2.2.2.2.2.2.2.2.2.2.2.2.2.2.2.1, m.2.2.2.2.2.2.2.2.2.2.2.2.2.2.2.2.1, m.2.2.2.2.2.2.2.2.2.2.2.2.2.2.2.2.2.1, m.2.2.2.2.2.2.2.2.2.2.2.2.2.2.2.2.2.2.1, m.2.2.2.2.2.2.2.2.2.2.2.2.2.2.2.2.2.2.2.1, m.2.2.2.2.2.2.2.2.2.2.2.2.2.2.2.2.2.2.2.2.1, m.2.2.2.2.2.2.2.2.2.2.2.2.2.2.2.2.2.2.2.2.2.1, m.2.2.2.2.2.2.2.2.2.2.2.2.2.2.2.2.2.2.2.2.2.2.1, m.2.2.2.2.2.2.2.2.2.2.2.2.2.2.2.2.2.2.2.2.2.2.2.1, Z', m.2.2.2.2.2.2.2.2.2.2.2.2.2.2.2.2.2.2.2.2.2.2.2.2.2.1, m.2.2.2.2.2.2.2.2.2.2.2.2.2.2.2.2.2.2.2.2.2.2.2.2.2.2.1, m.2.2.2.2.2.2.2.2.2.2.2.2.2.2.2.2.2.2.2.2.2.2.2.2.2.2.2.1, upd m.2.2.2.2.2.2.2.2.2.2.2.2.2.2.2.2.2.2.2.2.2.2.2.2.2.2.2.2.1 0 0, upd m.2.2.2.2.2.2.2.2.2.2.2.2.2.2.2.2.2.2.2.2.2.2.2.2.2.2.2.2.2.1 0 0, m.2.2.2.2.2.2.2.2.2.2.2.2.2.2.2.2.2.2.2.2.2.2.2.2.2.2.2.2.2.2.1, m.2.2.2.2.2.2.2.2.2.2.2.2.2.2.2.2.2.2.2.2.2.2.2.2.2.2.2.2.2.2.2.1, m.2.2.2.2.2.2.2.2.2.2.2.2.2.2.2.2.2.2.2.2.2.2.2.2.2.2.2.2.2.2.2.2) := by
      refine ⟨rfl, rfl, 0, 0, 0, 0, [], fun _ => 0, fun _ => 0, ⟨rfl, rfl, rfl, rfl, rfl, rfl⟩, ⟨rfl, rfl, rfl, rfl, rfl, rfl, rfl⟩, ⟨xs, ys, hM⟩, ?_⟩
      refine ⟨⟨by omega, fun i hi => by omega, fun i hi => by omega, fun i hi => by omega, fun j hj => by omega, ?_⟩, by omega, by omega, by omega, by omega, by omega, fun g g1 g2 => by omega, fun g g1 g2 => y2 g (by omega), fun j hj => ?_, fun j j1 j2 => by omega, rfl, hfl, (fun q => (by cases q))⟩
      · exact rfl
      · have j0 : j = 0 := by omega
        subst j0
        exact ⟨upd_at c.2.2.2.2.2.2.2.2.2.2.2.2.2.2.2.2.2.2.2.2.2.2.2.2.2.2.2.2.2.2.2.2.2.2.2.2.2.2.2.2.2.2.2.2.2.1 0 0, upd_at m.2.2.2.2.2.2.2.2.2.2.2.2.2.2.2.2.2.2.2.2.2.2.2.2.2.2.2.2.1 0 0, upd_at c.2.2.2.2.2.2.2.2.2.2.2.2.2.2.2.2.2.2.2.2.2.2.2.2.2.2.2.2.2.2.2.2.2.2.2.2.2.2.2.2.2.2.2.2.2.2 0 0, upd_at m.2.2.2.2.2.2.2.2.2.2.2.2.2.2.2.2.2.2.2.2.2.2.2.2.2.2.2.2.2.1 0 0⟩
    obtain ⟨c1, m1, l1, l2, l3⟩ := read_loop hTX hT hand p1 0 0 N 0 0 _ _ (999999 - N) (999999 - N) (by omega) (by omega) hR0
    rw [qN] at l1 l2
    obtain ⟨r, c2, a, m2, z1, z2, z3, z4⟩ := end_eq hTX hand lk tb tl tn p1 c1 m1 l3
    refine ⟨r, 0, c2, a, 0, nI N, X', m2, ?_, ?_, z3, z4⟩
    · have hb : f_RDR_begin c.1 c.2.1 c.2.2.2.1 c.2.2.2.2.1 c.2.2.2.2.2.1 c.2.2.2.2.2.2.1 c.2.2.2.2.2.2.2.1 c.2.2.2.2.2.2.2.2.2.2.2.2.2.2.2.2.2.2.2.2.2.2.2.2.2.1 c.2.2.2.2.2.2.2.2.2.2.2.2.2.2.2.2.2.2.2.2.2.2.2.2.2.2.1 c.2.2.2.2.2.2.2.2.2.2.2.2.2.2.2.2.2.2.2.2.2.2.2.2.2.2.2.1 c.2.2.2.2.2.2.2.2.2.2.2.2.2.2.2.2.2.2.2.2.2.2.2.2.2.2.2.2.2.2.2.2.2.2.2.2.2.2.2.2.2.2.2.2.2.1 c.2.2.2.2.2.2.2.2.2.2.2.2.2.2.2.2.2.2.2.2.2.2.2.2.2.2.2.2.2.2.2.2.2.2.2.2.2.2.2.2.2.2.2.2.2.2 p1 = some (0, -1, 0, 0, 0, 0, 0, 0, p1, false, upd c.2.2.2.2.2.2.2.2.2.2.2.2.2.2.2.2.2.2.2.2.2.2.2.2.2.2.2.2.2.2.2.2.2.2.2.2.2.2.2.2.2.2.2.2.2.1 0 0, upd c.2.2.2.2.2.2.2.2.2.2.2.2.2.2.2.2.2.2.2.2.2.2.2.2.2.2.2.2.2.2.2.2.2.2.2.2.2.2.2.2.2.2.2.2.2.2 0 0) := by
        unfold f_RDR_begin f_OPN_begin
        rfl
      rw [← z1]
      rw [bnd_s hb]
      exact l1
    · rw [← z2]
      unfold f_MOD_read_L16
      rw [if_pos (by decide : b2i false ≤ 0)]
      have y1' : f_MOD_read_L101 hand lk tb tl tn p1 FU (0, b2i false, 0, nI N, 0, 0, (-1), 0, 0, 0, m.2.2.2.2.2.2.1, m.2.2.2.2.2.2.2.1, m.2.2.2.2.2.2.2.2.1, m.2.2.2.2.2.2.2.2.2.1, m.2.2.2.2.2.2.2.2.2.2.1, m.2.2.2.2.2.2.2.2.2.2.2.1, m.2.2.2.2.2.2.2.2.2.2.2.2.1, X', m.2.2.2.2.2.2.2.2.2.2.2.2.2.1, m.2.2.2.2.2.2.2.2.2.2.2.2.2.2.1, m.2.2.2.2.2.2.2.2.2.2.2.2.2.2.2.1, m.2.2.2.2.2.2.2.2.2.2.2.2.2.2.2.2.1, m.2.2.2.2.2.2.2.2.2.2.2.2.2.2.2.2.2.1, m.2.2.2.2.2.2.2.2.2.2.2.2.2.2.2.2.2.2.1, m.2.2.2.2.2.2.2.2.2.2.2.2.2.2.2.2.2.2.2.1, m.2.2.2.2.2.2.2.2.2.2.2.2.2.2.2.2.2.2.2.2.1, m.2.2.2.2.2.2.2.2.2.2.2.2.2.2.2.2.2.2.2.2.2.1, m.2.2.2.2.2.2.2.2.2.2.2.2.2.2.2.2.2.2.2.2.2.2.1, m.2.2.2.2.2.2.2.2.2.2.2.2.2.2.2.2.2.2.2.2.2.2.2.1, m.2.2.2.2.2.2.2.2.2.2.2.2.2.2.2.2.2.2.2.2.2.2.2.2.1, m.2.2.2.2.2.2.2.2.2.2.2.2.2.2.2.2.2.2.2.2.2.2.2.2.2.1, m.2.2.2.2.2.2.2.2.2.2.2.2.2.2.2.2.2.2.2.2.2.2.2.2.2.2.1, m.2.2.2.2.2.2.2.2.2.2.2.2.2.2.2.2.2.2.2.2.2.2.2.2.2.2.2.1, m.2.2.2.2.2.2.2.2.2.2.2.2.2.2.2.2.2.2.2.2.2.2.2.2.2.2.2.2.1, m.2.2.2.2.2.2.2.2.2.2.2.2.2.2.2.2.2.2.2.2.2.2.2.2.2.2.2.2.2.1, m.2.2.2.2.2.2.2.2.2.2.2.2.2.2.2.2.2.2.2.2.2.2.2.2.2.2.2.2.2.2.1, m.2.2.2.2.2.2.2.2.2.2.2.2.2.2.2.2.2.2.2.2.2.2.2.2.2.2.2.2.2.2.2.1, m.2.2.2.2.2.2.2.2.2.2.2.2.2.2.2.2.2.2.2.2.2.2.2.2.2.2.2.2.2.2.2.2) = _ := y1
      have x1' : f_MOD_read_L38 hand lk tb tl tn p1 FU (0, b2i false, nI N, nI N, m.1, m.2.1, m.2.2.1, m.2.2.2.1, m.2.2.2.2.1, m.2.2.2.2.2.1, m.2.2.2.2.2.2.1, m.2.2.2.2.2.2.2.1, m.2.2.2.2.2.2.2.2.1, m.2.2.2.2.2.2.2.2.2.1, m.2.2.2.2.2.2.2.2.2.2.1, m.2.2.2.2.2.2.2.2.2.2.2.1, m.2.2.2.2.2.2.2.2.2.2.2.2.1, X0, m.2.2.2.2.2.2.2.2.2.2.2.2.2.1, m.2.2.2.2.2.2.2.2.2.2.2.2.2.2.1, m.2.2.2.2.2.2.2.2.2.2.2.2.2.2.2.1, m.2.2.2.2.2.2.2.2.2.2.2.2.2.2.2.2.1, m.2.2.2.2.2.2.2.2.2.2.2.2.2.2.2.2.2.1, m.2.2.2.2.2.2.2.2.2.2.2.2.2.2.2.2.2.2.1, m.2.2.2.2.2.2.2.2.2.2.2.2.2.2.2.2.2.2.2.1, m.2.2.2.2.2.2.2.2.2.2.2.2.2.2.2.2.2.2.2.2.1, m.2.2.2.2.2.2.2.2.2.2.2.2.2.2.2.2.2.2.2.2.2.1, m.2.2.2.2.2.2.2.2.2.2.2.2.2.2.2.2.2.2.2.2.2.2.1, m.2.2.2.2.2.2.2.2.2.2.2.2.2.2.2.2.2.2.2.2.2.2.2.1, m.2.2.2.2.2.2.2.2.2.2.2.2.2.2.2.2.2.2.2.2.2.2.2.2.1, m.2.2.2.2.2.2.2.2.2.2.2.2.2.2.2.2.2.2.2.2.2.2.2.2.2.1, m.2.2.2.2.2.2.2.2.2.2.2.2.2.2.2.2.2.2.2.2.2.2.2.2.2.2.1, m.2.2.2.2.2.2.2.2.2.2.2.2.2.2.2.2.2.2.2.2.2.2.2.2.2.2.2.1, m.2.2.2.2.2.2.2.2.2.2.2.2.2.2.2.2.2.2.2.2.2.2.2.2.2.2.2.2.1, m.2.2.2.2.2.2.2.2.2.2.2.2.2.2.2.2.2.2.2.2.2.2.2.2.2.2.2.2.2.1, m.2.2.2.2.2.2.2.2.2.2.2.2.2.2.2.2.2.2.2.2.2.2.2.2.2.2.2.2.2.2.1, m.2.2.2.2.2.2.2.2.2.2.2.2.2.2.2.2.2.2.2.2.2.2.2.2.2.2.2.2.2.2.2.1, m.2.2.2.2.2.2.2.2.2.2.2.2.2.2.2.2.2.2.2.2.2.2.2.2.2.2.2.2.2.2.2.2) = _ := x1
      have l2' : f_MOD_read_L149 hand lk tb tl tn p1 FU (b2i false, 0, nI N, 0, 0, (-1), 0, 0, 0, 0, p1, false, m.2.2.2.2.2.2.2.2.2.1, m.2.2.2.2.2.2.2.2.2.2.1, m.2.2.2.2.2.2.2.2.2.2.2.1, m.2.2.2.2.2.2.2.2.2.2.2.2.1, X', m.2.2.2.2.2.2.2.2.2.2.2.2.2.1, m.2.2.2.2.2.2.2.2.2.2.2.2.2.2.1, m.2.2.2.2.2.2.2.2.2.2.2.2.2.2.2.1, m.2.2.2.2.2.2.2.2.2.2.2.2.2.2.2.2.1, m.2.2.2.2.2.2.2.2.2.2.2.2.2.2.2.2.2.1, m.2.2.2.2.2.2.2.2.2.2.2.2.2.2.2.2.2.2.1, m.2.2.2.2.2.2.2.2.2.2.2.2.2.2.2.2.2.2.2.1, m.2.2.2.2.2.2.2.2.2.2.2.2.2.2.2.2.2.2.2.2.1, m.2.2.2.2.2.2.2.2.2.2.2.2.2.2.2.2.2.2.2.2.2.1, m.2.2.2.2.2.2.2.2.2.2.2.2.2.2.2.2.2.2.2.2.2.2.1, m.2.2.2.2.2.2.2.2.2.2.2.2.2.2.2.2.2.2.2.2.2.2.2.1, Z', m.2.2.2.2.2.2.2.2.2.2.2.2.2.2.2.2.2.2.2.2.2.2.2.2.2.1, m.2.2.2.2.2.2.2.2.2.2.2.2.2.2.2.2.2.2.2.2.2.2.2.2.2.2.1, m.2.2.2.2.2.2.2.2.2.2.2.2.2.2.2.2.2.2.2.2.2.2.2.2.2.2.2.1, upd m.2.2.2.2.2.2.2.2.2.2.2.2.2.2.2.2.2.2.2.2.2.2.2.2.2.2.2.2.1 0 0, upd m.2.2.2.2.2.2.2.2.2.2.2.2.2.2.2.2.2.2.2.2.2.2.2.2.2.2.2.2.2.1 0 0, m.2.2.2.2.2.2.2.2.2.2.2.2.2.2.2.2.2.2.2.2.2.2.2.2.2.2.2.2.2.2.1, m.2.2.2.2.2.2.2.2.2.2.2.2.2.2.2.2.2.2.2.2.2.2.2.2.2.2.2.2.2.2.2.1, m.2.2.2.2.2.2.2.2.2.2.2.2.2.2.2.2.2.2.2.2.2.2.2.2.2.2.2.2.2.2.2.2) = _ := l2
      exact x1'.trans (y1'.trans l2')
  · rw [if_neg a2, if_neg a2]
    exact ⟨none, len, c, 0, ih, n0, X0, m, refC, refuse, (fun v q => (by cases q)), hB⟩

set_option maxRecDepth 100000
set_option linter.unusedVariables false
def RB (x y : Int32) : Prop := x = y ∧ 0 ≤ x.toInt ∧ x.toInt ≤ 255
theorem and255 (x : Int32) : 0 ≤ (x &&& 255).toInt ∧ (x &&& 255).toInt ≤ 255 := by
  have h1 : (x &&& 255).toBitVec.toNat ≤ 255 := by
    rw [Int32.toBitVec_and, BitVec.toNat_and]
    exact Nat.and_le_right
  have h2 : (x &&& 255).toInt = ((x &&& 255).toBitVec.toNat : Int) := by
    show (x &&& 255).toBitVec.toInt = _
    exact BitVec.toInt_eq_toNat_of_lt (by omega)
  omega
theorem put_loop2 (v : Int64) (n th : Int32) : ∀ (j F h : Nat) (B G : Nat → Int32), j ≤ 8 → h + j ≤ 400 → (∀ i, i < h → RB (B i) (G i)) →
    ∃ B' G', f_PAT_append_L29 v n (F + j + 1) (nI j - 1, nI h, B) = some (true, nI (h + j), B') ∧ f_MOD_put_L34 v n (F + j + 1) (nI j - 1, th, nI h, G) = some (true, th, nI (h + j), G') ∧ ∀ i, i < h + j → RB (B' i) (G' i) := by
  intro j
  induction j with
  | zero =>
    intro F h B G _ _ hB
    have h0 : nI 0 - 1 < 0 := by decide
    refine ⟨B, G, ?_, ?_, hB⟩
    · rw [f_PAT_append_L29_s]
      unfold f_PAT_append_B29
      rw [if_pos h0]; rfl
    · rw [f_MOD_put_L34_s]
      unfold f_MOD_put_B34
      rw [if_pos h0]; rfl
  | succ j ih =>
    intro F h B G hj hh hB
    have e0 : nI (j + 1) - 1 = nI j := nI_pred j
    have e1 : nI j + (-1) = nI j - 1 := (Int32.sub_eq_add_neg (nI j) 1).symm
    have hn0 : ¬ nI j < 0 := nI_pos (by omega)
    have ec : (nI h).toNatClampNeg = h := nI_clamp (by omega)
    have e2 : nI h + 1 = nI (h + 1) := nI_1 h
    obtain ⟨B', G', h1, h2, h3⟩ := ih F (h + 1) (upd B h ((((v.toUInt64 >>> ((8 * nI j).toInt64.toUInt64 &&& Int64.toUInt64 63)).toInt64).toInt32) &&& 255)) (upd G h (((v >>> ((8 * nI j).toInt64 &&& 63)).toInt32) &&& 255)) (by omega) (by omega) (by
      intro i hi
      rcases Nat.lt_or_ge i h with q | q
      · rw [upd_ne (by omega), upd_ne (by omega)]; exact hB i q
      · have : i = h := by omega
        subst this
        rw [upd_at, upd_at]; exact ⟨byt_eq v j (by omega), and255 _⟩)
    have ej : h + (j + 1) = h + 1 + j := by omega
    refine ⟨B', G', ?_, ?_, by rw [ej]; exact h3⟩
    · rw [f_PAT_append_L29_s]
      unfold f_PAT_append_B29
      rw [e0, if_neg hn0, grd_t (inb_nI (by omega) (by decide)), e1, e2, ec, ej]
      exact h1
    · rw [f_MOD_put_L34_s]
      unfold f_MOD_put_B34
      rw [e0, if_neg hn0, grd_t (inb_nI (by omega) (by decide)), e1, e2, ec, ej]
      exact h2
theorem put_eq2 {h : Nat} {B G : Nat → Int32} {th : Int32} (v : Int64) (n : Int32) (hh : h ≤ 400) (hB : ∀ i, i < h → RB (B i) (G i)) :
    ∃ (r : Bool) (h' : Nat) (B' G' : Nat → Int32), f_PN_put (nI h) B v n = some (r, nI h', B') ∧ f_MOD_put th (nI h) G v n = some (r, 0, nI h', G') ∧ h' ≤ 400 ∧ ∀ i, i < h' → RB (B' i) (G' i) := by
  have e1 : ∀ x, bnd_ (some x) (fun y : Bool × Int32 × (Nat → Int32) => some (y.1, y.2.1, y.2.2)) = some x := fun _ => rfl
  unfold f_PN_put f_PAT_append f_MOD_put
  by_cases c1 : n < 0
  · refine ⟨false, h, B, G, ?_, ?_, hh, hB⟩
    · rw [if_pos c1]; rfl
    · rw [if_pos c1]
  · rw [if_neg c1, if_neg c1]
    by_cases c2 : 8 < n
    · refine ⟨false, h, B, G, ?_, ?_, hh, hB⟩
      · rw [if_pos c2]; rfl
      · rw [if_pos c2]
    · rw [if_neg c2, if_neg c2]
      obtain ⟨j, hj, rfl⟩ := nI_of2 (x := n) (M := 8) (n := 8) rfl c1 (Int32.not_lt.mp c2)
      have e2 : (400 : Int32) - nI h = nI (400 - h) := by
        apply Int32.toInt_inj.mp
        have a1 : (nI (400 - h)).toInt = ((400 - h : Nat) : Int) := nI_toInt (by omega)
        have a2 : (nI h).toInt = (h : Int) := nI_toInt (by omega)
        rw [Int32.toInt_sub, a1, a2]
        show ((400 : Int) - h).bmod (2^32) = _
        rw [Int.bmod_eq_of_le (by omega) (by omega)]
        omega
      have e3 : nI h + nI j = nI (h + j) := nI_add h j
      have e4 : (400 : Int32) = nI 400 := rfl
      rw [e2, e3, e4]
      by_cases c3 : h + j ≤ 400
      · rw [if_pos ((nI_leI (by omega) (by omega)).mpr (by omega)), if_pos ((nI_leI (by omega) (by omega)).mpr c3)]
        obtain ⟨B', G', h1, h2, h3⟩ := put_loop2 v (nI j) 0 j (999999 - j) h B G hj c3 hB
        have ef : 999999 - j + j + 1 = FU := by rw [FU_s]; omega
        rw [ef] at h1 h2
        refine ⟨true, h + j, B', G', ?_, h2, c3, h3⟩
        rw [h1]; rfl
      · rw [if_neg (fun q => c3 (by have := (nI_leI (by omega) (by omega)).mp q; omega)), if_neg (fun q => c3 ((nI_leI (by omega) (by omega)).mp q))]
        exact ⟨false, h, B, G, rfl, rfl, hh, hB⟩
theorem BR.put {len ih : Int32} {B hand : Ar} {c : CT} {m : MT} (hB : BR len B c ih hand m) (thr : Int32) (v : Int64) (n : Int32) :
    ∃ r len2 B2 ih2 hand2, f_PN_put len B v n = some (r, len2, B2) ∧ f_MOD_put thr ih hand v n = some (r, 0, ih2, hand2) ∧ BR len2 B2 c ih2 hand2 m := by
  obtain ⟨N, nd, ng, ⟨hlen, hih, hN, hby⟩, h2⟩ := hB
  subst hlen hih
  obtain ⟨r, h', B', G', a1, a2, a3, a4⟩ := put_eq2 (th := thr) v n hN (fun i hi => ⟨(hby i hi).1.symm, (hby i hi).2⟩)
  exact ⟨r, _, B', _, G', a1, a2, h', nd, ng, ⟨rfl, rfl, a3, fun j hj => ⟨(a4 j hj).1.symm, (a4 j hj).2⟩⟩, h2⟩
theorem BR.count {len ih : Int32} {B hand : Ar} {c : CT} {m : MT} (hB : BR len B c ih hand m) (thr p1 : Int32) :
    ∃ x, f_PN_count len c.2.2.2.1 c.2.2.2.2.2.2.1 p1 = some x ∧ f_MOD_count thr ih m.2.2.2.1 m.2.2.2.2.2.1 p1 = some (x, 0) := by
  obtain ⟨N, nd, ng, ⟨hlen, hih, hN, hby⟩, ⟨n1, n2, n3⟩, ⟨g1, g2, g3⟩, _⟩ := hB
  unfold f_PN_count f_MOD_count
  rw [hlen, hih, n1, n2, g1, g2]
  by_cases a : p1 = 0
  · rw [if_pos a, if_pos a]; exact ⟨_, rfl, rfl⟩
  rw [if_neg a, if_neg a]
  by_cases b : p1 = 1
  · rw [if_pos b, if_pos b]; exact ⟨_, rfl, rfl⟩
  rw [if_neg b, if_neg b]
  by_cases d : p1 = 2
  · rw [if_pos d, if_pos d]; exact ⟨_, rfl, rfl⟩
  rw [if_neg d, if_neg d]; exact ⟨_, rfl, rfl⟩
theorem fault_some (a b p1 : Int32) : ∃ x, f_PN_fault a b p1 = some x := by
  unfold f_PN_fault
  by_cases c : p1 = 0
  · rw [if_pos c]; exact ⟨_, rfl⟩
  rw [if_neg c]
  by_cases d : p1 = 1
  · rw [if_pos d]; exact ⟨_, rfl⟩
  · rw [if_neg d]; exact ⟨_, rfl⟩
theorem faultM_some (t a b p1 : Int32) : ∃ x, f_MOD_fault t a b p1 = some (x, 0) := by
  unfold f_MOD_fault
  by_cases c : p1 = 0
  · rw [if_pos c]; exact ⟨_, rfl⟩
  rw [if_neg c]
  by_cases d : p1 = 1
  · rw [if_pos d]; exact ⟨_, rfl⟩
  · rw [if_neg d]; exact ⟨_, rfl⟩
theorem BR.node {len ih : Int32} {B hand : Ar} {c : CT} {m : MT} (hB : BR len B c ih hand m) (thr p1 p2 : Int32) :
    ∃ x, f_PN_node c.2.2.2.1 c.2.2.2.2.2.2.2.2.2.2.2.2.2.2.2.2.2.2.2.2.2.2.2.2.2.2.2.2.2.2.1 c.2.2.2.2.2.2.2.2.2.2.2.2.2.2.2.2.2.2.2.2.2.2.2.2.2.2.2.2.2.2.2.1 c.2.2.2.2.2.2.2.2.2.2.2.2.2.2.2.2.2.2.2.2.2.2.2.2.2.2.2.2.2.2.2.2.1 c.2.2.2.2.2.2.2.2.2.2.2.2.2.2.2.2.2.2.2.2.2.2.2.2.2.2.2.2.2.2.2.2.2.1 c.2.2.2.2.2.2.2.2.2.2.2.2.2.2.2.2.2.2.2.2.2.2.2.2.2.2.2.2.2.2.2.2.2.2.1 c.2.2.2.2.2.2.2.2.2.2.2.2.2.2.2.2.2.2.2.2.2.2.2.2.2.2.2.2.2.2.2.2.2.2.2.2.1 p1 p2 = some x ∧ f_MOD_node thr m.2.2.2.1 m.2.2.2.2.2.2.2.2.2.2.2.2.2.1 m.2.2.2.2.2.2.2.2.2.2.2.2.2.2.1 m.2.2.2.2.2.2.2.2.2.2.2.2.2.2.2.1 m.2.2.2.2.2.2.2.2.2.2.2.2.2.2.2.2.2.1 m.2.2.2.2.2.2.2.2.2.2.2.2.2.2.2.2.2.2.1 m.2.2.2.2.2.2.2.2.2.2.2.2.2.2.2.2.2.2.2.2.1 p1 p2 = some (x, 0) := by
  obtain ⟨N, nd, ng, _, ⟨n1, n2, n3⟩, _, he, _⟩ := hB
  unfold f_PN_node f_TRE_told f_MOD_node
  rw [n1, n2]
  by_cases a : p1 < 0
  · rw [if_pos a, if_pos a]; exact ⟨_, rfl, rfl⟩
  rw [if_neg a, if_neg a]
  obtain ⟨i, hi, rfl⟩ := nI_of a
  by_cases b : nI i < nI nd
  · have hi2 : i < nd := (nI_ltI hi (by omega)).mp b
    obtain ⟨⟨u1, u2, u3, u4, u5, u6, u7⟩, _⟩ := he i hi2
    have e1 : inb (nI i) 512 = true := inb_nI (by omega) (by decide)
    have e2 : inb (nI i) 1000 = true := inb_nI (by omega) (by decide)
    rw [if_pos b, if_pos b, nI_clamp hi, u1, u2, u3, u4, u5, u7, grd_t e1, grd_t e1, grd_t e1, grd_t e1, grd_t e1, grd_t e1, grd_t e2, grd_t e2, grd_t e2, grd_t e2, grd_t e2, grd_t e2]
    by_cases d0 : p2 = 0
    · rw [if_pos d0, if_pos d0]; exact ⟨_, rfl, rfl⟩
    rw [if_neg d0, if_neg d0]
    by_cases d1 : p2 = 1
    · rw [if_pos d1, if_pos d1]; exact ⟨_, rfl, rfl⟩
    rw [if_neg d1, if_neg d1]
    by_cases d2 : p2 = 2
    · rw [if_pos d2, if_pos d2]; exact ⟨_, rfl, rfl⟩
    rw [if_neg d2, if_neg d2]
    by_cases d3 : p2 = 3
    · rw [if_pos d3, if_pos d3]; exact ⟨_, rfl, rfl⟩
    rw [if_neg d3, if_neg d3]
    by_cases d4 : p2 = 4
    · rw [if_pos d4, if_pos d4]; exact ⟨_, rfl, rfl⟩
    rw [if_neg d4, if_neg d4]
    by_cases d5 : p2 = 5
    · rw [if_pos d5, if_pos d5]; exact ⟨_, rfl, rfl⟩
    rw [if_neg d5, if_neg d5]; exact ⟨_, rfl, rfl⟩
  · rw [if_neg b, if_neg b]; exact ⟨_, rfl, rfl⟩
theorem BR.range {len ih : Int32} {B hand : Ar} {c : CT} {m : MT} (hB : BR len B c ih hand m) (thr p1 p2 p3 : Int32) :
    ∃ x, f_PN_range c.2.2.2.1 c.2.2.2.2.2.2.2.2.2.2.2.2.2.2.2.2.2.2.2.2.2.2.2.2.2.2.2.2.2.2.2.2.2.2.2.1 c.2.2.2.2.2.2.2.2.2.2.2.2.2.2.2.2.2.2.2.2.2.2.2.2.2.2.2.2.2.2.2.2.2.2.2.2.1 c.2.2.2.2.2.2.2.2.2.2.2.2.2.2.2.2.2.2.2.2.2.2.2.2.2.2.2.2.2.2.2.2.2.2.2.2.2.1 c.2.2.2.2.2.2.2.2.2.2.2.2.2.2.2.2.2.2.2.2.2.2.2.2.2.2.2.2.2.2.2.2.2.2.2.2.2.2.1 p1 p2 p3 = some x ∧ f_MOD_range thr m.2.2.2.1 m.2.2.2.2.2.2.2.2.2.2.2.2.2.2.2.2.2.2.2.1 m.2.2.2.2.2.2.2.2.2.2.2.2.2.2.2.2.2.2.2.2.1 m.2.2.2.2.2.2.2.2.2.2.2.2.2.2.2.2.2.2.2.2.2.1 m.2.2.2.2.2.2.2.2.2.2.2.2.2.2.2.2.2.2.2.2.2.2.1 p1 p2 p3 = some (x, 0) := by
  obtain ⟨N, nd, ng, _, ⟨n1, n2, n3⟩, _, he, _⟩ := hB
  unfold f_PN_range f_TRE_rangeEdge f_MOD_range
  rw [n1, n2]
  by_cases a : p1 < 0
  · rw [if_pos a, if_pos a]; exact ⟨_, rfl, rfl⟩
  rw [if_neg a, if_neg a]
  obtain ⟨i, hi, rfl⟩ := nI_of a
  by_cases b : nI nd ≤ nI i
  · rw [if_pos b, if_pos b]; exact ⟨_, rfl, rfl⟩
  have hi2 : i < nd := by
    rcases Nat.lt_or_ge i nd with q | q
    · exact q
    · exact absurd ((nI_leI (by omega) hi).mpr q) b
  obtain ⟨⟨u1, u2, u3, u4, u5, u6, u7⟩, x, q, w1, w2, w3, w4⟩ := he i hi2
  rw [if_neg b, if_neg b]
  by_cases d : p2 < 0
  · rw [if_pos d, if_pos d]; exact ⟨_, rfl, rfl⟩
  have e1 : inb (nI i) 512 = true := inb_nI (by omega) (by decide)
  have e2 : inb (nI i) 1000 = true := inb_nI (by omega) (by decide)
  rw [if_neg d, if_neg d]
  simp only [grd_t e1, grd_t e2]
  rw [nI_clamp hi, ← u7, ← u6, w2]
  obtain ⟨y, hy, rfl⟩ := nI_of d
  by_cases f : nI y < nI q
  · have hyq : y < q := (nI_ltI hy (by omega)).mp f
    have f2 : ¬ nI q ≤ nI y := fun z => by have := (nI_leI (by omega) hy).mp z; omega
    obtain ⟨v1, v2⟩ := w4 (x + y) (by omega)
    have e3 : inb (nI (x + y)) 1600 = true := inb_nI (by omega) (by decide)
    have e4 : inb (nI (x + y)) 6000 = true := inb_nI (by omega) (by decide)
    rw [if_pos f, if_neg f2, w1, nI_add]
    simp only [grd_t e3, grd_t e4]
    rw [nI_clamp (by omega), v1, v2]
    by_cases g0 : p3 = 0
    · subst g0
      rw [if_pos rfl, if_neg (by decide : ¬ (0 : Int32) < 0), if_pos (by decide : (0 : Int32) ≤ 1), if_pos rfl]
      exact ⟨_, rfl, rfl⟩
    rw [if_neg g0, if_neg g0]
    by_cases g1 : p3 = 1
    · subst g1
      rw [if_pos rfl, if_neg (by decide : ¬ (1 : Int32) < 0), if_pos (by decide : (1 : Int32) ≤ 1)]
      exact ⟨_, rfl, rfl⟩
    rw [if_neg g1]
    refine ⟨-1, rfl, ?_⟩
    by_cases g2 : p3 < 0
    · rw [if_pos g2]
    · have g3 : ¬ p3 ≤ 1 := fun z => by
        have t1 : (1 : Int32).toInt = 1 := rfl
        have z1 := le_ti32.mp z
        rw [t1] at z1
        obtain ⟨k, hk, rfl⟩ := nI_of g2
        rw [nI_toInt hk] at z1
        rcases (show k = 0 ∨ k = 1 by omega) with rfl | rfl
        · exact g0 rfl
        · exact g1 rfl
      rw [if_neg g2, if_neg g3]
  · have f2 : nI q ≤ nI y := (nI_leI (by omega) hy).mpr (by
      rcases Nat.lt_or_ge y q with z | z
      · exact absurd ((nI_ltI hy (by omega)).mpr z) f
      · exact z)
    rw [if_neg f, if_pos f2]; exact ⟨_, rfl, rfl⟩
theorem BR.name {len ih : Int32} {B hand : Ar} {c : CT} {m : MT} (hB : BR len B c ih hand m) (thr p1 p2 : Int32) :
    ∃ x, f_PN_name c.2.2.2.2.2.2.1 c.2.2.2.2.2.2.2.2.2.2.2.2.2.2.2.2.2.2.2.2.2.2.2.2.2.2.2.2.2.2.2.2.2.2.2.2.2.2.2.2.1 c.2.2.2.2.2.2.2.2.2.2.2.2.2.2.2.2.2.2.2.2.2.2.2.2.2.2.2.2.2.2.2.2.2.2.2.2.2.2.2.2.2.1 p1 p2 = some x ∧ f_MOD_name thr m.2.2.2.2.2.1 m.2.2.2.2.2.2.2.2.2.2.2.2.2.2.2.2.2.2.2.2.2.2.2.1 m.2.2.2.2.2.2.2.2.2.2.2.2.2.2.2.2.2.2.2.2.2.2.2.2.1 p1 p2 = some (x, 0) := by
  obtain ⟨N, nd, ng, _, _, ⟨g1, g2, g3⟩, _, hg, _⟩ := hB
  unfold f_PN_name f_GRP_nameByte f_MOD_name
  rw [g1, g2]
  by_cases a : p1 < 1
  · rw [if_pos a, if_pos a]; exact ⟨_, rfl, rfl⟩
  rw [if_neg a, if_neg a]
  by_cases b : nI ng < p1
  · rw [if_pos b, if_pos b]; exact ⟨_, rfl, rfl⟩
  rw [if_neg b, if_neg b]
  by_cases d : p2 < 0
  · rw [if_pos d, if_pos d]; exact ⟨_, rfl, rfl⟩
  have a0 : ¬ p1 < 0 := fun q => a (by
    have t1 : (1 : Int32).toInt = 1 := rfl
    have t0 : (0 : Int32).toInt = 0 := rfl
    have z := Int32.lt_iff_toInt_lt.mp q
    exact Int32.lt_iff_toInt_lt.mpr (by rw [t1]; rw [t0] at z; omega))
  obtain ⟨g, hgl, rfl⟩ := nI_of a0
  have g4 : 1 ≤ g := by
    rcases Nat.lt_or_ge g 1 with q | q
    · exact absurd ((nI_ltI (b := 1) hgl (by decide)).mpr q) a
    · exact q
  have g5 : g ≤ ng := by
    rcases Nat.lt_or_ge ng g with q | q
    · exact absurd ((nI_ltI (by omega) hgl).mpr q) b
    · exact q
  obtain ⟨L, l1, l2, l3, l4⟩ := hg g g4 g5
  obtain ⟨y, hy, rfl⟩ := nI_of d
  rw [if_neg d, if_neg d, grd_t (inb_nI (by omega) (by decide)), grd_t (inb_nI (by omega) (by decide)), nI_clamp hgl, l2, l3]
  by_cases f : nI y < nI L
  · have hyL : y < L := (nI_ltI hy (by omega)).mp f
    rw [if_pos f, if_pos f, (mul12 g).1, (mul12 g).2, nI_add, grd_t (inb_nI (by omega) (by decide)), grd_t (inb_nI (by omega) (by decide)), nI_clamp (by omega), l4 y hyL]
    exact ⟨_, rfl, rfl⟩
  · rw [if_neg f, if_neg f]; exact ⟨_, rfl, rfl⟩

