-- sets of whole numbers as sorted ranges apart by more than 1: the canonical form is one
def Can (lo hi : Nat → Int) (n : Nat) : Prop := (∀ i, i < n → lo i ≤ hi i) ∧ ∀ i, i + 1 < n → hi i + 1 < lo (i + 1)
def Mem (lo hi : Nat → Int) (n : Nat) (x : Int) : Prop := ∃ i, i < n ∧ lo i ≤ x ∧ x ≤ hi i
theorem can_lt {lo hi : Nat → Int} {n : Nat} (h : Can lo hi n) : ∀ (d i : Nat), i + d + 1 < n → hi i + 1 < lo (i + d + 1) := by
  intro d
  induction d with
  | zero => intro i hi; exact h.2 i hi
  | succ d ih =>
    intro i hd
    have h1 := ih i (by omega)
    have h2 := h.1 (i + d + 1) (by omega)
    have h3 := h.2 (i + d + 1) (by omega)
    have e : i + (d + 1) + 1 = i + d + 1 + 1 := by omega
    rw [e]; omega
theorem can_lt' {lo hi : Nat → Int} {n i j : Nat} (h : Can lo hi n) (hij : i < j) (hj : j < n) : hi i + 1 < lo j := by
  obtain ⟨d, rfl⟩ : ∃ d, j = i + d + 1 := ⟨j - i - 1, by omega⟩
  exact can_lt h d i hj
theorem can_step {lo hi lo' hi' : Nat → Int} {n n' : Nat} (h : Can lo hi n) (h' : Can lo' hi' n') (hm : ∀ x, Mem lo hi n x ↔ Mem lo' hi' n' x) :
    ∀ k i, i < k → i < n → i < n' ∧ lo i = lo' i ∧ hi i = hi' i := by
  intro k
  induction k with
  | zero => intro i h0; omega
  | succ k ih =>
    intro i hk hn
    rcases Nat.lt_or_ge i k with hlt | hge
    · exact ih i hlt hn
    have hik : i = k := by omega
    subst hik
    have hl := h.1 i hn
    have hin : i < n' ∧ lo' i ≤ lo i := by
      obtain ⟨j, hj, h1, h2⟩ := (hm (lo i)).mp ⟨i, hn, Int.le_refl _, hl⟩
      have hji : i ≤ j := by
        rcases Nat.lt_or_ge j i with q | q
        · obtain ⟨-, e1, e2⟩ := ih j q (by omega)
          have := can_lt' h q hn
          omega
        · exact q
      refine ⟨by omega, ?_⟩
      rcases Nat.lt_or_ge i j with q | q
      · have h3 := can_lt' h' q hj
        have h4 := h'.1 i (by omega)
        omega
      · have : j = i := by omega
        subst this; exact h1
    obtain ⟨hn', hle⟩ := hin
    have hl' := h'.1 i hn'
    have hge : lo i ≤ lo' i := by
      obtain ⟨j, hj, h1, h2⟩ := (hm (lo' i)).mpr ⟨i, hn', Int.le_refl _, hl'⟩
      have hji : i ≤ j := by
        rcases Nat.lt_or_ge j i with q | q
        · obtain ⟨qn, e1, e2⟩ := ih j q hj
          have := can_lt' h' q hn'
          omega
        · exact q
      rcases Nat.lt_or_ge i j with q | q
      · have h3 := can_lt' h q hj
        omega
      · have : j = i := by omega
        subst this; exact h1
    have hh1 : hi' i ≤ hi i := by
      rcases Int.lt_or_le (hi i) (hi' i) with q | q
      · obtain ⟨j, hj, h1, h2⟩ := (hm (hi i + 1)).mpr ⟨i, hn', by omega, by omega⟩
        rcases Nat.lt_trichotomy j i with q1 | q1 | q1
        · have := can_lt' h q1 hn; omega
        · subst q1; omega
        · have := can_lt' h q1 hj; omega
      · exact q
    have hh2 : hi i ≤ hi' i := by
      rcases Int.lt_or_le (hi' i) (hi i) with q | q
      · obtain ⟨j, hj, h1, h2⟩ := (hm (hi' i + 1)).mp ⟨i, hn, by omega, by omega⟩
        rcases Nat.lt_trichotomy j i with q1 | q1 | q1
        · have := can_lt' h' q1 hn'; omega
        · subst q1; omega
        · have := can_lt' h' q1 hj; omega
      · exact q
    exact ⟨hn', by omega, by omega⟩
theorem can_uniq {lo hi lo' hi' : Nat → Int} {n n' : Nat} (h : Can lo hi n) (h' : Can lo' hi' n') (hm : ∀ x, Mem lo hi n x ↔ Mem lo' hi' n' x) : n = n' ∧ ∀ i, i < n → lo i = lo' i ∧ hi i = hi' i := by
  refine ⟨?_, fun i hi => (can_step h h' hm (i + 1) i (by omega) hi).2⟩
  rcases Nat.lt_trichotomy n n' with q | q | q
  · have := (can_step h' h (fun x => (hm x).symm) (n + 1) n (by omega) q).1
    omega
  · exact q
  · have := (can_step h h' hm (n' + 1) n' (by omega) q).1
    omega

