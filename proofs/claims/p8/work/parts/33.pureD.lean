set_option maxRecDepth 100000
set_option linter.unusedVariables false
theorem isSet_val {len n : Int32} {B X : Nat → Int32} {N : Nat} (h : TX len B n X N) {k : Nat} (hk : k ≤ 1000) :
    f_CLS_isSetItem len B (nI k) = (if bt N B k = 91 then (if bt N B (k + 1) = 58 then some true else some false) else (if bt N B k = 92 then bnd_ (f_ESC_isSetLetter (bt N B (k + 1))) (fun x57 => some x57) else some false)) := by
  unfold f_CLS_isSetItem
  have e1 : nI k + 1 = nI (k + 1) := nI_1 k
  rw [e1, bnd_s (at_C h (k := k + 1) (by omega)), bnd_s (at_C h (k := k) (by omega))]
theorem refused_val (mp w pl : Int32) : f_CLS_refused 0 mp w pl = some (-1, w, pl) := by
  unfold f_CLS_refused f_MIS_tell
  rw [if_pos rfl]; rfl
theorem n92 : ¬ (91 : Int32) = 92 := by decide
/-- what stands at k in a class, as both see it -/
theorem head_eq {len n : Int32} {B X : Nat → Int32} {N : Nat} (h : TX len B n X N) {k : Nat} (hk : k < N) (mp ek ev : Int32) (es : Nat) (eo : Bool) (ea sg bh : Int32) (ns : Bool) (mpl : Int32)
    {tb tl : Nat → Int32} (htb : ∀ j, j < 16 → tb j = setsT j) (htl : ∀ j, j < 28 → tl j = largeT j) {low high mn : Nat → Int32} {xs ys : PL} (hM : MS low high mn xs ys) :
    -- A: [:
    (bt N B k = 91 ∧ bt N B (k + 1) = 58 ∧ f_CLS_isSetItem len B (nI k) = some true) ∨
    -- B: an escape that is a set
    (bt N B k = 92 ∧ f_CLS_isSetItem len B (nI k) = some true ∧ ∃ (s : Nat) (o : Bool) (a : Nat), 2 ≤ s ∧ s ≤ 8 ∧ k + 2 ≤ a ∧ a ≤ N ∧ (5 ≤ s → k + 3 ≤ a) ∧ f_ESC_readEscape len ek ev es eo ea B (nI k) = some (0, 1, -1, s, o, nI a) ∧
      ∃ l' h' m', f_MOD_setAt n bh ns X low high mn tb tl (nI k) = some (1, nI a, o, l', h', m') ∧ MS l' h' m' xs (sp s)) ∨
    -- C: \p without a letter
    (bt N B k = 92 ∧ f_CLS_isSetItem len B (nI k) = some true ∧ ∃ w : Int32, (w = 5 ∨ w = 7) ∧ (∃ e' v' s' o' a', f_ESC_readEscape len ek ev es eo ea B (nI k) = some (w, e', v', s', o', a')) ∧
      ∃ bh' ns', f_MOD_setAt n bh ns X low high mn tb tl (nI k) = some (-w, bh', ns', low, high, mn)) ∨
    -- D: no character
    (f_CLS_isSetItem len B (nI k) = some false ∧ ¬ (bt N B k = 91 ∧ bt N B (k + 1) = 58) ∧ (∃ w e' v' s' o' a' sg', (w = 1 ∨ w = 5) ∧ f_CLS_readSingle len 0 mp ek ev es eo ea sg B (nI k) = some (-1, w, nI k, e', v', s', o', a', sg')) ∧
      ((bt N B k = 92 ∧ ∃ bh' ns', f_MOD_setAt n bh ns X low high mn tb tl (nI k) = some (-5, bh', ns', low, high, mn)) ∨
       ((bt N B k ≠ 92 ∨ ∃ bh' ns', f_MOD_setAt n bh ns X low high mn tb tl (nI k) = some (0, bh', ns', low, high, mn)) ∧ ∀ bb, ∃ c w bh', (w = 1 ∨ w = 5) ∧ f_MOD_end n 0 mpl bb X (nI k) = some (c, w, nI k, bh')))) ∨
    -- E: a character
    (f_CLS_isSetItem len B (nI k) = some false ∧ ¬ (bt N B k = 91 ∧ bt N B (k + 1) = 58) ∧ ∃ (c : Int32) (a : Nat), isCh c.toInt ∧ k < a ∧ a ≤ N ∧ (128 ≤ c.toInt → k + 2 ≤ a) ∧ (∃ e' v' s' o' a', f_CLS_readSingle len 0 mp ek ev es eo ea sg B (nI k) = some (nI a, 0, mp, e', v', s', o', a', c)) ∧
      (bt N B k ≠ 92 ∨ ∃ bh' ns', f_MOD_setAt n bh ns X low high mn tb tl (nI k) = some (0, bh', ns', low, high, mn)) ∧ ∀ bb, f_MOD_end n 0 mpl bb X (nI k) = some (c, 0, mpl, nI a)) := by
  have hN := h.le
  have hk2 : k ≤ 1000 := by omega
  have e1 : nI k + 1 = nI (k + 1) := nI_1 k
  have aC := at_C h (k := k) (by omega)
  have aM := at_M h (k := k) (by omega)
  have hsv := isSet_val h hk2
  have L44 : ∀ v2 z0 bb, f_MOD_end_L44 n X (nI k) v2 z0 0 mpl bb = some (v2, z0, nI k, bb) := fun _ _ _ => rfl
  have c0 : ∀ c : Int32, isCh c.toInt → 0 ≤ c := fun c q => le_ti.mpr (by rw [ti0]; exact q.1)
  by_cases b92 : bt N B k = 92
  · have b91 : ¬ bt N B k = 91 := by rw [b92]; decide
    rw [if_neg b91, if_pos b92] at hsv
    rcases esc_eq h hk2 ek ev es eo ea bh ns htb htl hM with ⟨val, v1, v2, v3, v4, v5⟩ | ⟨v1, v2, v3, v4, v5⟩ | ⟨v0, w, v1, ⟨e', v', s', o', a', v2⟩, v3⟩ | ⟨v0, c, a, v1, v2, v3, v4, v5, v6, v7, v8⟩ | ⟨v0, s, o, a, v1, v2, v3, v4, v5, v6, v7, l', h', m', v8, v9⟩
    · -- an assertion
      rw [bnd_s v4] at hsv
      refine Or.inr (Or.inr (Or.inr (Or.inl ⟨hsv, fun q => b91 q.1, ⟨5, 3, val, es, eo, nI (k + 2), val, Or.inr rfl, ?_⟩, Or.inl ⟨b92, v3⟩⟩)))
      unfold f_CLS_readSingle f_CLS_readSingle_L77
      rw [bnd_s aC, if_pos b92, bnd_s v2, if_pos rfl, if_neg (show ¬ (3 : Int32) = 0 by decide), if_neg (show ¬ (5 : Int32) = 0 by decide), bnd_s (refused_val mp 5 (nI k))]
    · rw [bnd_s v4] at hsv
      refine Or.inr (Or.inr (Or.inr (Or.inl ⟨hsv, fun q => b91 q.1, ⟨5, 2, -1, es, eo, nI (k + 2), -1, Or.inr rfl, ?_⟩, Or.inl ⟨b92, v3⟩⟩)))
      unfold f_CLS_readSingle f_CLS_readSingle_L77
      rw [bnd_s aC, if_pos b92, bnd_s v2, if_pos rfl, if_neg (show ¬ (2 : Int32) = 0 by decide), if_neg (show ¬ (5 : Int32) = 0 by decide), bnd_s (refused_val mp 5 (nI k))]
    · -- a fault
      have w0 : ¬ w = 0 := by rcases v1 with q | q <;> rw [q] <;> decide
      rcases v3 with ⟨bh', ns', u1, sl, u2, u3⟩ | ⟨u0, u1, u2, u3⟩
      · cases sl with
        | true =>
          rw [bnd_s u2] at hsv
          exact Or.inr (Or.inr (Or.inl ⟨b92, hsv, w, v1, ⟨e', v', s', o', a', v2⟩, bh', ns', u1⟩))
        | false =>
          have w5 := u3 rfl
          subst w5
          rw [bnd_s u2] at hsv
          refine Or.inr (Or.inr (Or.inr (Or.inl ⟨hsv, fun q => b91 q.1, ⟨5, e', v', s', o', a', v', Or.inr rfl, ?_⟩, Or.inl ⟨b92, bh', ns', u1⟩⟩)))
          unfold f_CLS_readSingle f_CLS_readSingle_L77
          rw [bnd_s aC, if_pos b92, bnd_s v2, if_neg (show ¬ (5 : Int32) = 0 by decide), if_neg (show ¬ (5 : Int32) = 0 by decide), bnd_s (refused_val mp 5 (nI k))]
      · subst u0
        rw [bnd_s u1] at hsv
        refine Or.inr (Or.inr (Or.inr (Or.inl ⟨hsv, fun q => b91 q.1, ⟨5, e', v', s', o', a', v', Or.inr rfl, ?_⟩, Or.inr ⟨Or.inr u2, fun bb => ?_⟩⟩)))
        · unfold f_CLS_readSingle f_CLS_readSingle_L77
          rw [bnd_s aC, if_pos b92, bnd_s v2, if_neg (show ¬ (5 : Int32) = 0 by decide), if_neg (show ¬ (5 : Int32) = 0 by decide), bnd_s (refused_val mp 5 (nI k))]
        · obtain ⟨bh', u4⟩ := u3 bb
          refine ⟨-1, 5, bh', Or.inr rfl, ?_⟩
          unfold f_MOD_end f_MOD_end_L23
          rw [bnd_s aM, if_pos b92, bnd_s u4, if_neg (show ¬ (0 : Int32) ≤ -1 by decide), bnd_s aM, if_pos b92, L44]
    · -- a character
      rw [bnd_s v6] at hsv
      refine Or.inr (Or.inr (Or.inr (Or.inr ⟨hsv, fun q => b91 q.1, c, a, v1, by omega, v3, fun q => by have := v4 q; omega, ⟨0, c, es, eo, nI a, ?_⟩, Or.inr v7, fun bb => ?_⟩)))
      · unfold f_CLS_readSingle f_CLS_readSingle_L77
        rw [bnd_s aC, if_pos b92, bnd_s v5, if_pos rfl, if_pos rfl, if_pos rfl]
      · unfold f_MOD_end f_MOD_end_L23
        rw [bnd_s aM, if_pos b92, bnd_s (v8 bb), if_pos (c0 c v1)]
    · rw [bnd_s v7] at hsv
      exact Or.inr (Or.inl ⟨b92, hsv, s, o, a, v1, v2, v3, v4, v5, v6, l', h', m', v8, v9⟩)
  · have hs2 : f_CLS_isSetItem len B (nI k) = (if bt N B k = 91 then (if bt N B (k + 1) = 58 then some true else some false) else some false) := by rw [hsv, if_neg b92]
    by_cases bA : bt N B k = 91 ∧ bt N B (k + 1) = 58
    · exact Or.inl ⟨bA.1, bA.2, by rw [hs2, if_pos bA.1, if_pos bA.2]⟩
    have hs3 : f_CLS_isSetItem len B (nI k) = some false := by
      rw [hs2]
      by_cases q : bt N B k = 91
      · rw [if_pos q, if_neg (fun u => bA ⟨q, u⟩)]
      · rw [if_neg q]
    obtain ⟨c, bh', u1, -, -⟩ := chr_eq h hk2 0
    have hM2 : ∀ bb, ∃ bh', f_MOD_characterAt n bb X (nI k) = some (c, bh') ∧ ChrOK N k c bh' := by
      intro bb
      obtain ⟨c2, bh2, w1, w2, w3⟩ := chr_eq h hk2 bb
      have : c2 = c := Option.some.inj (w1.symm.trans u1)
      subst this
      exact ⟨bh2, w2, w3⟩
    obtain ⟨bh0, w2, w3⟩ := hM2 0
    rcases w3 with w3 | ⟨x1, x2, x3⟩
    · refine Or.inr (Or.inr (Or.inr (Or.inl ⟨hs3, bA, ⟨1, ek, ev, es, eo, ea, c, Or.inl rfl, ?_⟩, Or.inr ⟨Or.inl b92, fun bb => ?_⟩⟩)))
      · unfold f_CLS_readSingle
        rw [bnd_s aC, if_neg b92, bnd_s u1, if_pos w3, bnd_s (refused_val mp 1 (nI k))]
      · obtain ⟨bh1, q1, -⟩ := hM2 bb
        refine ⟨c, 1, bh1, Or.inl rfl, ?_⟩
        unfold f_MOD_end f_MOD_end_L23
        rw [bnd_s aM, if_neg b92, bnd_s q1, w3, if_neg (show ¬ (0 : Int32) ≤ -1 by decide), bnd_s aM, if_neg b92, L44]
    · have hc1 : ¬ c = -1 := by
        intro q
        rw [q] at x1
        exact absurd x1.1 (by decide)
      have hw : 1 ≤ wid c.toInt := by unfold wid; split <;> (try split) <;> (try split) <;> omega
      refine Or.inr (Or.inr (Or.inr (Or.inr ⟨hs3, bA, c, k + wid c.toInt, x1, by omega, x3, fun q => ?_, ⟨ek, ev, es, eo, ea, ?_⟩, Or.inl b92, fun bb => ?_⟩)))
      · have : 2 ≤ wid c.toInt := by unfold wid; rw [if_neg (by omega)]; split <;> (try split) <;> omega
        omega
      · unfold f_CLS_readSingle
        rw [bnd_s aC, if_neg b92, bnd_s u1, if_neg hc1, bnd_s (wid_val c), nI_add]
      · obtain ⟨bh1, q1, q2⟩ := hM2 bb
        have hb1 : bh1 = nI (k + wid c.toInt) := by
          rcases q2 with q2 | q2
          · exact absurd q2 hc1
          · exact q2.2.1
        unfold f_MOD_end f_MOD_end_L23
        rw [bnd_s aM, if_neg b92, bnd_s q1, if_pos (c0 c x1), hb1]

set_option maxRecDepth 100000
set_option linter.unusedVariables false
theorem take_eq {lk : Nat → Int32} (hlk : ∀ j, j < 36 → lk j = likeT j) {spn : Int32} {sb se : Nat → Int32} {low high mn : Nat → Int32} {xs ys : PL} (hC : CSet spn sb se xs) (hM : MS low high mn xs ys) (hl : xs.length < 450) {flags : Int32} {alike : Bool} (hfl : alike = true ↔ flags &&& 1 = 1) (a b : Int32) (h0 : 0 ≤ a.toInt) (h1 : a.toInt ≤ b.toInt) (h2 : b.toInt ≤ 1114111) :
    ∃ sp' sb' se' xs' l' h' m' ys', (if b2i alike = 0 then f_SET_add spn sb se a b else f_SET_addWithAlike spn sb se a b) = some (sp', sb', se') ∧ CSet sp' sb' se' xs' ∧ f_MOD_take flags low high mn lk a b = some (l', h', m') ∧ MS l' h' m' xs' ys' ∧
      (∀ D : List Int, Beg D xs → (inC a.toInt ∨ a.toInt ∈ D) → Beg D xs') ∧ xs'.length ≤ xs.length + 16 ∧ (b.toInt < 128 → xs'.length ≤ xs.length + 12) ∧ (a = b → xs'.length ≤ xs.length + 8 ∧ (a.toInt < 128 → xs'.length ≤ xs.length + 4)) := by
  obtain ⟨l', h', m', ys', t1, t2, t3, t4, t5⟩ := mod_take hlk hM hl flags a b h0 h1 h2
  cases alike with
  | false =>
    have hf : flags &&& 1 ≠ 1 := fun q => by have := hfl.mpr q; cases this
    have e := t5 hf
    subst e
    obtain ⟨b', e', q1, q2⟩ := set_add hC.c (by omega) hC.s h0 h1 h2
    have hlen := (ins_len xs a.toInt b.toInt).1
    rw [if_pos (show b2i false = 0 from rfl), hC.n]
    refine ⟨_, b', e', _, l', h', m', _, q1, ⟨rfl, q2, ins_can _ _ _ h1 hC.c, ins_ok _ _ _ h1 h0 h2 hC.o⟩, t1, t2, ?_, by omega, fun _ => by omega, fun _ => ⟨by omega, fun _ => by omega⟩⟩
    intro D hD ha
    refine beg_union hC.c (ys := [(a.toInt, b.toInt)]) h1 (ins_can _ _ _ h1 hC.c) (fun z => ?_) hD ?_
    · rw [ins_mem _ _ _ _ h1 hC.c, memL_one]
    · intro p hp
      rw [List.mem_singleton] at hp
      subst hp; exact ha
  | true =>
    have hf : flags &&& 1 = 1 := hfl.mp rfl
    have hA := t4 hf
    obtain ⟨n', b', e', xs', q1, q2, q3⟩ := cs_alike hC (by omega) a b h0 h1 h2
    have eq : xs' = foldIns xs ys' := by
      refine canL_uniq _ _ q2.c t2.c0 (fun z => ?_)
      rw [q3 z, foldIns_mem ys' xs z t2.o1 hC.c, hA z]
    rw [if_neg (show ¬ b2i true = 0 by decide)]
    have hlen := foldIns_len ys' xs
    rw [← eq] at hlen t2
    have hG := al_lenG h1 t2.c1 hA
    refine ⟨n', b', e', xs', l', h', m', ys', q1, q2, t1, t2, ?_, by omega, fun q => ?_, fun q => ?_⟩
    · intro D hD ha
      refine beg_union hC.c t2.c1 q2.c (fun z => ?_) hD ?_
      · rw [q3 z, hA z]
      · intro p hp
        rcases beg_AL h1 t2.c1 hA p hp with u | u
        · rw [u]; exact ha
        · exact Or.inl u
    · have := al_lenS h1 q t2.c1 hA; omega
    · subst q
      have := al_len1 t2.c1 hA
      exact ⟨by omega, fun q => by have := this.1 q; omega⟩
theorem sp_len : ∀ s, s < 14 → ∀ o : Bool, (if o then compl 0 (sp s) else sp s).length ≤ 10 ∧ (s ≤ 4 → (if o then compl 0 (sp s) else sp s).length ≤ 5) := by decide
theorem spo_can (s : Nat) (hs : s < 14) (o : Bool) : canL (if o then compl 0 (sp s) else sp s) ∧ okL (if o then compl 0 (sp s) else sp s) := by
  cases o with
  | true => exact ⟨(compl_can _ 0 (canL_dec s hs) (sp_okL s hs) (abv_ok (sp_okL s hs))).1, compl_ok _ 0 (canL_dec s hs) (sp_okL s hs) (Int.le_refl _)⟩
  | false => exact ⟨canL_dec s hs, sp_okL s hs⟩
theorem give_eq {spn : Int32} {sb se : Nat → Int32} {low high mn : Nat → Int32} {xs : PL} {s : Nat} (hs : s < 14) (o : Bool) (hC : CSet spn sb se xs) (hM : MS low high mn xs (sp s)) (hl : xs.length < 450) :
    ∃ sp' sb' se' xs' l' h' m', f_SET_addSet spn sb se s o = some (sp', sb', se') ∧ CSet sp' sb' se' xs' ∧ f_MOD_give low high mn o = some (l', h', m') ∧ MS l' h' m' xs' (sp s) ∧ (∀ D : List Int, Beg D xs → Beg D xs') ∧ xs'.length ≤ xs.length + 10 ∧ (s ≤ 4 → xs'.length ≤ xs.length + 5) := by
  obtain ⟨n', b', e', xs', q1, q2, q3, q4⟩ := cs_set hC (by omega) s hs o
  obtain ⟨c1, c2⟩ := spo_can s hs o
  have hln := (sp_len s hs o)
  have hsl := (sp_can s hs).1
  have gv : ∃ l' h' m', f_MOD_give low high mn o = some (l', h', m') ∧ MS l' h' m' (foldIns xs (if o then compl 0 (sp s) else sp s)) (sp s) := by
    cases o with
    | false => exact mod_give0 hM (by omega)
    | true => exact mod_give1 hM (by omega)
  obtain ⟨l', h', m', g1, g2⟩ := gv
  have eq : xs' = foldIns xs (if o then compl 0 (sp s) else sp s) := by
    refine canL_uniq _ _ q2.c g2.c0 (fun z => ?_)
    rw [q4 z, foldIns_mem _ xs z c2 hC.c]
  have hlen := foldIns_len (if o then compl 0 (sp s) else sp s) xs
  rw [← eq] at hlen g2
  refine ⟨n', b', e', xs', l', h', m', q1, q2, g1, g2, ?_, by omega, fun q => by have := hln.2 q; omega⟩
  intro D hD
  refine beg_union hC.c c1 q2.c q4 hD ?_
  intro p hp
  left
  unfold inC
  rcases sp_beg s hs o p hp with u | u | u | u | u <;> omega
/-- the set under work, of the items from k0 up to k -/
def SI (k0 k : Nat) (xs : PL) : Prop := ∃ D : List Int, 2 * D.length ≤ k - k0 ∧ Beg D xs ∧ xs.length ≤ 4 * (k - k0)
theorem SI.len {k0 k N : Nat} {xs : PL} (hc : canL xs) (h : SI k0 k xs) (hk : k ≤ N) (hN : N ≤ 400) : xs.length < 450 := by
  obtain ⟨D, h1, h2, h3⟩ := h
  have := beg_len hc h2
  omega
theorem give_SI {k0 k k' : Nat} {xs xs' : PL} (hk0 : k0 ≤ k) (h : SI k0 k xs) (hB : ∀ D : List Int, Beg D xs → Beg D xs') (hkk : k < k') (hl : xs'.length ≤ xs.length + 4 * (k' - k)) : SI k0 k' xs' := by
  obtain ⟨D, h1, h2, h3⟩ := h
  exact ⟨D, by omega, hB D h2, by omega⟩
theorem take_SI {k0 k k' : Nat} {xs xs' : PL} {a : Int} (hk0 : k0 ≤ k) (h : SI k0 k xs) (hB : ∀ D : List Int, Beg D xs → (inC a ∨ a ∈ D) → Beg D xs') (h0 : 0 ≤ a) (hkk : k < k') (ha : 128 ≤ a → k + 2 ≤ k') (hl : xs'.length ≤ xs.length + 4 * (k' - k)) : SI k0 k' xs' := by
  obtain ⟨D, h1, h2, h3⟩ := h
  by_cases c : a < 128
  · exact ⟨D, by omega, hB D h2 (Or.inl (Or.inl ⟨h0, by omega⟩)), by omega⟩
  · refine ⟨a :: D, by have := ha (by omega); simp only [List.length_cons]; omega, hB _ (fun p hp => ?_) (Or.inr List.mem_cons_self), by omega⟩
    rcases h2 p hp with q | q
    · exact Or.inl q
    · exact Or.inr (List.mem_cons_of_mem _ q)

set_option maxRecDepth 100000
set_option linter.unusedVariables false
/-- the reference's tables -/
abbrev TB (lk tb tl tn : Nat → Int32) : Prop := (∀ j, j < 36 → lk j = likeT j) ∧ (∀ j, j < 16 → tb j = setsT j) ∧ (∀ j, j < 28 → tl j = largeT j) ∧ (∀ j, j < 22 → tn j = namedT j)
theorem TB.lk {lk tb tl tn : Nat → Int32} (h : TB lk tb tl tn) : ∀ j, j < 36 → lk j = likeT j := h.1
theorem TB.tb {lk tb tl tn : Nat → Int32} (h : TB lk tb tl tn) : ∀ j, j < 16 → tb j = setsT j := h.2.1
theorem TB.tl {lk tb tl tn : Nat → Int32} (h : TB lk tb tl tn) : ∀ j, j < 28 → tl j = largeT j := h.2.2.1
theorem TB.tn {lk tb tl tn : Nat → Int32} (h : TB lk tb tl tn) : ∀ j, j < 22 → tn j = namedT j := h.2.2.2
abbrev CTup := Int32 × Int32 × Int32 × Int32 × Int32 × Int32 × Nat × Bool × Int32 × Int32 × (Nat → Int32) × (Nat → Int32)
abbrev KTup := Bool × Int32 × Int32 × Int32 × Int32 × Int32 × Int32 × Int32 × Int32 × Nat × Bool × Int32 × Int32 × (Nat → Int32) × (Nat → Int32)
theorem item_eq {len n : Int32} {B X : Nat → Int32} {N : Nat} (h : TX len B n X N) {lk tb tl tn : Nat → Int32} (hT : TB lk tb tl tn) {k0 k : Nat} (hk0 : k0 ≤ k) (hk : k < N) (mp ek ev : Int32) (es : Nat) (eo : Bool) (ea sg bh : Int32) (ns : Bool) (mpl : Int32)
    {spn : Int32} {sb se : Nat → Int32} {low high mn : Nat → Int32} {xs ys : PL} (hC : CSet spn sb se xs) (hM : MS low high mn xs ys) (hSI : SI k0 k xs) {flags : Int32} {alike : Bool} (hfl : alike = true ↔ flags &&& 1 = 1) (p1 : Int32) (K50 : KTup → Option CTup) (v3 : Bool) (v4 v6 : Int32) :
    (∃ (w pl' sp' ek' ev' : Int32) (es' : Nat) (eo' : Bool) (ea' sg' : Int32) (sb' se' : Nat → Int32) (at' w' pl2 bh' : Int32) (ns' : Bool) (l' h' m' : Nat → Int32) (xs2 ys2 : PL), w ≠ 0 ∧ 0 < w' ∧
      f_CLS_readClass_L104 len B p1 alike K50 v3 v4 (nI k) v6 0 mp spn ek ev es eo ea sg sb se = some (-1, w, pl', sp', ek', ev', es', eo', ea', sg', sb', se') ∧
      f_MOD_item n (nI k) 0 mpl flags bh ns X low high mn lk tb tl tn = some (at', w', pl2, bh', ns', l', h', m') ∧ MS l' h' m' xs2 ys2) ∨
    (∃ (k' : Nat) (sp' ek' ev' : Int32) (es' : Nat) (eo' : Bool) (ea' sg' : Int32) (sb' se' : Nat → Int32) (bh' : Int32) (ns' : Bool) (l' h' m' : Nat → Int32) (xs' ys' : PL), k < k' ∧ k' ≤ N ∧ SI k0 k' xs' ∧ CSet sp' sb' se' xs' ∧ MS l' h' m' xs' ys' ∧
      f_CLS_readClass_L104 len B p1 alike K50 v3 v4 (nI k) v6 0 mp spn ek ev es eo ea sg sb se = K50 (v3, v4, nI k', v6 + 1, 0, mp, sp', ek', ev', es', eo', ea', sg', sb', se') ∧
      f_MOD_item n (nI k) 0 mpl flags bh ns X low high mn lk tb tl tn = some (nI k', 0, mpl, bh', ns', l', h', m')) := by
  have hN := h.le
  have hlen := hSI.len hC.c (Nat.le_of_lt hk) hN
  have e1 : nI k + 1 = nI (k + 1) := nI_1 k
  have e2 : nI k + 2 = nI (k + 2) := nI_add k 2
  have e3 : nI k + 3 = nI (k + 3) := nI_add k 3
  have aC := at_C h (k := k) (by omega)
  have aM := at_M h (k := k) (by omega)
  have aC1 := at_C h (k := k + 1) (by omega)
  have aM1 := at_M h (k := k + 1) (by omega)
  have nm1 : ∀ j : Nat, j < 2 ^ 31 → ¬ nI j = -1 := by
    intro j hj q
    exact nI_pos hj (by rw [q]; decide)
  have f1 : ¬ b2i true = 0 := by decide
  have f0 : b2i false = 0 := rfl
  have okP : ∀ {c : Int32}, isCh c.toInt → 0 ≤ c.toInt ∧ c.toInt ≤ 1114111 := fun q => ⟨q.1, q.2.1⟩
  rcases head_eq h hk mp ek ev es eo ea sg bh ns mpl hT.tb hT.tl hM with ⟨A1, A2, A3⟩ | ⟨B1, B2, s, o, a, s1, s2, a1, a2, a3, B3, l', h', m', B4, B5⟩ | ⟨C1, C2, w, C3, ⟨e', v', s', o', a', C4⟩, bh', ns', C5⟩ | ⟨D1, D2, ⟨w, e', v', s', o', a', sg', D3, D4⟩, D5⟩ | ⟨E1, E2, c, a, E3, E4, E5, E6, ⟨e', v', s', o', a', E7⟩, E8, E9⟩
  · -- [: a name
    have hne92 : ¬ bt N B k = 92 := by rw [A1]; decide
    unfold f_CLS_readClass_L104 f_CLS_readSetItem f_CLS_readSetItem_L39 f_CLS_readSetItem_L53
    unfold f_MOD_item f_MOD_isName f_MOD_isName_L16
    rw [bnd_s A3, if_neg f1, bnd_s aC, if_neg hne92, e2, e3, bnd_s (at_C h (k := k + 2) (by omega)), bnd_s aM, if_pos A1, e1, bnd_s aM1, if_pos A2]
    have aM2 := at_M h (k := k + 2) (by omega)
    rw [bnd_s aM2]
    have e21 : nI (k + 2) + 1 = nI (k + 3) := nI_1 _
    rw [e21]
    -- with or without ^
    have go : ∀ (o : Bool) (q : Nat), q ≤ 1000 → k + 2 ≤ q → 
        (∃ (w pl' sp' ek' ev' : Int32) (es' : Nat) (eo' : Bool) (ea' sg' : Int32) (sb' se' : Nat → Int32) (at' w' pl2 bh' : Int32) (ns' : Bool) (l' h' m' : Nat → Int32) (xs2 ys2 : PL), w ≠ 0 ∧ 0 < w' ∧
          bnd_ (bnd_ (f_CLS_setNamedAt len B (nI q)) (fun x56 => if (Int32.ofNat (stN x56)) = 0 then bnd_ (f_CLS_refused 0 mp 7 (nI k)) (fun x71 => some (x71.1, x71.2.1, x71.2.2, spn, ek, ev, es, eo, ea, sb, se)) else bnd_ (f_SET_addSet spn sb se x56 o) (fun x82 => some (nI q + 7, 0, mp, x82.1, ek, ev, es, eo, ea, x82.2.1, x82.2.2)))) (fun x116 => f_CLS_readClass_L129 len B p1 alike K50 v3 v4 v6 x116.1 x116.2.1 x116.2.2.1 x116.2.2.2.1 x116.2.2.2.2.1 x116.2.2.2.2.2.1 x116.2.2.2.2.2.2.1 x116.2.2.2.2.2.2.2.1 x116.2.2.2.2.2.2.2.2.1 sg x116.2.2.2.2.2.2.2.2.2.1 x116.2.2.2.2.2.2.2.2.2.2) = some (-1, w, pl', sp', ek', ev', es', eo', ea', sg', sb', se') ∧
          bnd_ (f_MOD_isName_L33 n X tn (nI (k + 2)) (nI q) bh o low high mn) (fun x31 => if (b2i x31.1) = 0 then bnd_ (f_MOD_fail 0 mpl 7 (nI k)) (fun x41 => some (nI k, x41.1, x41.2, x31.2.1, x31.2.2.1, x31.2.2.2.1, x31.2.2.2.2.1, x31.2.2.2.2.2)) else bnd_ (f_MOD_give x31.2.2.2.1 x31.2.2.2.2.1 x31.2.2.2.2.2 x31.2.2.1) (fun x58 => some (x31.2.1, 0, mpl, x31.2.1, x31.2.2.1, x58.1, x58.2.1, x58.2.2))) = some (at', w', pl2, bh', ns', l', h', m') ∧ MS l' h' m' xs2 ys2) ∨
        (∃ (k' : Nat) (sp' ek' ev' : Int32) (es' : Nat) (eo' : Bool) (ea' sg' : Int32) (sb' se' : Nat → Int32) (bh' : Int32) (ns' : Bool) (l' h' m' : Nat → Int32) (xs' ys' : PL), k < k' ∧ k' ≤ N ∧ SI k0 k' xs' ∧ CSet sp' sb' se' xs' ∧ MS l' h' m' xs' ys' ∧
          bnd_ (bnd_ (f_CLS_setNamedAt len B (nI q)) (fun x56 => if (Int32.ofNat (stN x56)) = 0 then bnd_ (f_CLS_refused 0 mp 7 (nI k)) (fun x71 => some (x71.1, x71.2.1, x71.2.2, spn, ek, ev, es, eo, ea, sb, se)) else bnd_ (f_SET_addSet spn sb se x56 o) (fun x82 => some (nI q + 7, 0, mp, x82.1, ek, ev, es, eo, ea, x82.2.1, x82.2.2)))) (fun x116 => f_CLS_readClass_L129 len B p1 alike K50 v3 v4 v6 x116.1 x116.2.1 x116.2.2.1 x116.2.2.2.1 x116.2.2.2.2.1 x116.2.2.2.2.2.1 x116.2.2.2.2.2.2.1 x116.2.2.2.2.2.2.2.1 x116.2.2.2.2.2.2.2.2.1 sg x116.2.2.2.2.2.2.2.2.2.1 x116.2.2.2.2.2.2.2.2.2.2) = K50 (v3, v4, nI k', v6 + 1, 0, mp, sp', ek', ev', es', eo', ea', sg', sb', se') ∧
          bnd_ (f_MOD_isName_L33 n X tn (nI (k + 2)) (nI q) bh o low high mn) (fun x31 => if (b2i x31.1) = 0 then bnd_ (f_MOD_fail 0 mpl 7 (nI k)) (fun x41 => some (nI k, x41.1, x41.2, x31.2.1, x31.2.2.1, x31.2.2.2.1, x31.2.2.2.2.1, x31.2.2.2.2.2)) else bnd_ (f_MOD_give x31.2.2.2.1 x31.2.2.2.2.1 x31.2.2.2.2.2 x31.2.2.1) (fun x58 => some (x31.2.1, 0, mpl, x31.2.1, x31.2.2.1, x58.1, x58.2.1, x58.2.2))) = some (nI k', 0, mpl, bh', ns', l', h', m')) := by
      intro o q hq hq2
      rcases name_eq h hq hT.tn hM (nI (k + 2)) bh o with ⟨u1, bh', l', h', m', ys', u2, u3⟩ | ⟨s, u1, u2, u3, u4, l', h', m', u5, u6⟩
      · left
        rw [bnd_s u1, if_pos (show Int32.ofNat (stN 0) = 0 by decide), bnd_s (refused_val mp 7 (nI k)), bnd_s u2, if_pos f0]
        refine ⟨7, nI k, spn, ek, ev, es, eo, ea, sg, sb, se, nI k, 7, nI k, bh', o, l', h', m', xs, ys', by decide, by decide, ?_, rfl, u3⟩
        show f_CLS_readClass_L129 len B p1 alike K50 v3 v4 v6 (-1) 7 (nI k) spn ek ev es eo ea sg sb se = _
        unfold f_CLS_readClass_L129
        rw [if_pos rfl]
      · right
        obtain ⟨sp', sb', se', xs', l2, h2, m2, g1, g2, g3, g4, g5, g6, g7⟩ := give_eq (s := s) (by omega) o hC u6 hlen
        have hs0 : ¬ Int32.ofNat (stN s) = 0 := by
          have : ∀ s, s < 14 → 2 ≤ s → ¬ Int32.ofNat (stN s) = 0 := by decide
          exact this s (by omega) u1
        have e7 : nI q + 7 = nI (q + 7) := nI_add q 7
        rw [bnd_s u4, if_neg hs0, bnd_s g1, bnd_s u5, if_neg f1, bnd_s g3, e7]
        refine ⟨q + 7, sp', ek, ev, es, eo, ea, sg, sb', se', nI (q + 7), o, l2, h2, m2, xs', sp s, by omega, u3, give_SI hk0 hSI g5 (by omega) (by omega), g2, g4, ?_, rfl⟩
        show f_CLS_readClass_L129 len B p1 alike K50 v3 v4 v6 (nI (q + 7)) 0 mp sp' ek ev es eo ea sg sb' se' = _
        unfold f_CLS_readClass_L129
        rw [if_neg (nm1 _ (by omega))]
    by_cases c94 : bt N B (k + 2) = 94
    · rw [if_pos c94, if_pos c94, if_neg f1, if_neg f1]
      exact go true (k + 3) (by omega) (by omega)
    · rw [if_neg c94, if_neg c94, if_pos f0, if_pos f0]
      exact go false (k + 2) (by omega) (by omega)
  · -- an escape that is a set
    right
    have hne91 : ¬ bt N B k = 91 := by rw [B1]; decide
    obtain ⟨sp', sb', se', xs', l2, h2, m2, g1, g2, g3, g4, g5, g6, g7⟩ := give_eq (s := s) (by omega) o hC B5 hlen
    refine ⟨a, sp', 1, -1, s, o, nI a, sg, sb', se', nI a, o, l2, h2, m2, xs', sp s, by omega, a2, give_SI hk0 hSI g5 (by omega) ?_, g2, g4, ?_, ?_⟩
    · rcases Nat.lt_or_ge s 5 with q | q
      · have := g7 (by omega); omega
      · have := a3 q; omega
    · unfold f_CLS_readClass_L104 f_CLS_readSetItem f_CLS_readSetEscape
      rw [bnd_s B2, if_neg f1, bnd_s aC, if_pos B1, bnd_s B3, if_pos rfl, bnd_s g1]
      show f_CLS_readClass_L129 len B p1 alike K50 v3 v4 v6 (nI a) 0 mp sp' 1 (-1) s o (nI a) sg sb' se' = _
      unfold f_CLS_readClass_L129
      rw [if_neg (nm1 _ (by omega))]
    · unfold f_MOD_item f_MOD_item_L62 f_MOD_item_L81
      rw [bnd_s aM, if_neg hne91, bnd_s aM, if_pos B1, bnd_s B4, if_pos rfl, bnd_s g3]
  · -- \p without a letter
    left
    have hne91 : ¬ bt N B k = 91 := by rw [C1]; decide
    have w0 : ¬ w = 0 := by rcases C3 with q | q <;> rw [q] <;> decide
    have wp : ¬ (-w) = 1 ∧ ¬ (0 : Int32) ≤ -w ∧ (0 : Int32) < -(-w) := by rcases C3 with q | q <;> rw [q] <;> decide
    refine ⟨w, nI k, spn, e', v', s', o', a', sg, sb, se, nI k, -(-w), nI k, bh', ns', low, high, mn, xs, ys, w0, wp.2.2, ?_, ?_, hM⟩
    · unfold f_CLS_readClass_L104 f_CLS_readSetItem f_CLS_readSetEscape
      rw [bnd_s C2, if_neg f1, bnd_s aC, if_pos C1, bnd_s C4, if_neg w0, bnd_s (refused_val mp w (nI k))]
      show f_CLS_readClass_L129 len B p1 alike K50 v3 v4 v6 (-1) w (nI k) spn e' v' s' o' a' sg sb se = _
      unfold f_CLS_readClass_L129
      rw [if_pos rfl]
    · unfold f_MOD_item f_MOD_item_L62 f_MOD_item_L81
      rw [bnd_s aM, if_neg hne91, bnd_s aM, if_pos C1, bnd_s C5, if_neg wp.1, if_neg wp.2.1]
      rfl
  · -- no character
    left
    have w0 : w ≠ 0 := by rcases D3 with q | q <;> rw [q] <;> decide
    have cls : f_CLS_readClass_L104 len B p1 alike K50 v3 v4 (nI k) v6 0 mp spn ek ev es eo ea sg sb se = some (-1, w, nI k, spn, e', v', s', o', a', sg', sb, se) := by
      unfold f_CLS_readClass_L104 f_CLS_readRange
      rw [bnd_s D1, if_pos f0, bnd_s D4, if_pos rfl]
      show f_CLS_readClass_L129 len B p1 alike K50 v3 v4 v6 (-1) w (nI k) spn e' v' s' o' a' sg' sb se = _
      unfold f_CLS_readClass_L129
      rw [if_pos rfl]
    have item62 : f_MOD_item n (nI k) 0 mpl flags bh ns X low high mn lk tb tl tn = f_MOD_item_L62 n flags X lk tb tl tn (nI k) (nI k) 0 mpl bh ns low high mn := by
      unfold f_MOD_item
      rw [bnd_s aM, e1]
      by_cases q : bt N B k = 91
      · rw [if_pos q, bnd_s aM1, if_neg (fun u => D2 ⟨q, u⟩)]
      · rw [if_neg q]
    rw [item62]
    unfold f_MOD_item_L62 f_MOD_item_L81
    rcases D5 with ⟨u1, bh', ns', u2⟩ | ⟨u1, u2⟩
    · refine ⟨w, nI k, spn, e', v', s', o', a', sg', sb, se, nI k, -(-5), nI k, bh', ns', low, high, mn, xs, ys, w0, by decide, cls, ?_, hM⟩
      rw [bnd_s aM, if_pos u1, bnd_s u2, if_neg (show ¬ (-5 : Int32) = 1 by decide), if_neg (show ¬ (0 : Int32) ≤ -5 by decide)]
      rfl
    · -- the end is no character either
      have endF : ∀ (bb : Int32) (nn : Bool), ∃ w' bh2, 0 < w' ∧ (bnd_ (f_MOD_end n 0 mpl bb X (nI k)) (fun x118 => if x118.2.1 ≤ 0 then bnd_ (f_MOD_byteAt n X x118.2.2.2) (fun x143 => if x143 = 45 then (if n ≤ (x118.2.2.2 + 1) then f_MOD_item_L184 n flags X lk tb tl tn (nI k) x118.1 false x118.2.2.2 x118.2.1 x118.2.2.1 x118.2.2.2 nn low high mn else bnd_ (f_MOD_byteAt n X (x118.2.2.2 + 1)) (fun x171 => if x171 = 93 then f_MOD_item_L184 n flags X lk tb tl tn (nI k) x118.1 false x118.2.2.2 x118.2.1 x118.2.2.1 x118.2.2.2 nn low high mn else f_MOD_item_L184 n flags X lk tb tl tn (nI k) x118.1 true x118.2.2.2 x118.2.1 x118.2.2.1 x118.2.2.2 nn low high mn)) else f_MOD_item_L184 n flags X lk tb tl tn (nI k) x118.1 false x118.2.2.2 x118.2.1 x118.2.2.1 x118.2.2.2 nn low high mn) else some (nI k, x118.2.1, x118.2.2.1, x118.2.2.2, nn, low, high, mn))) = some (nI k, w', nI k, bh2, nn, low, high, mn) := by
        intro bb nn
        obtain ⟨c, w', bh', q1, q2⟩ := u2 bb
        have wp : ¬ w' ≤ 0 ∧ 0 < w' := by rcases q1 with q | q <;> rw [q] <;> decide
        refine ⟨w', bh', wp.2, ?_⟩
        rw [bnd_s q2, if_neg wp.1]
      rw [bnd_s aM]
      by_cases b92 : bt N B k = 92
      · rcases u1 with u1 | ⟨bh', ns', u1⟩
        · exact absurd b92 u1
        · obtain ⟨w', bh2, q1, q2⟩ := endF bh' ns'
          refine ⟨w, nI k, spn, e', v', s', o', a', sg', sb, se, nI k, w', nI k, bh2, ns', low, high, mn, xs, ys, w0, q1, cls, ?_, hM⟩
          rw [if_pos b92, bnd_s u1, if_neg (show ¬ (0 : Int32) = 1 by decide), if_pos (show (0 : Int32) ≤ 0 by decide)]
          exact q2
      · obtain ⟨w', bh2, q1, q2⟩ := endF bh ns
        refine ⟨w, nI k, spn, e', v', s', o', a', sg', sb, se, nI k, w', nI k, bh2, ns, low, high, mn, xs, ys, w0, q1, cls, ?_, hM⟩
        rw [if_neg b92, if_neg (show ¬ (0 : Int32) = 1 by decide), if_pos (show (0 : Int32) ≤ 0 by decide)]
        exact q2
  · -- a character
    have hN2 : a < 2 ^ 31 := by omega
    obtain ⟨c0, c1⟩ := okP E3
    have ea1 : nI a + 1 = nI (a + 1) := nI_1 a
    have ea2 : nI (a + 1) + 1 = nI (a + 2) := nI_1 _
    have aCa := at_C h (k := a) hN2
    have aMa := at_M h (k := a) hN2
    have aCa1 := at_C h (k := a + 1) (by omega)
    have aMa1 := at_M h (k := a + 1) (by omega)
    have item62 : f_MOD_item n (nI k) 0 mpl flags bh ns X low high mn lk tb tl tn = f_MOD_item_L62 n flags X lk tb tl tn (nI k) (nI k) 0 mpl bh ns low high mn := by
      unfold f_MOD_item
      rw [bnd_s aM, e1]
      by_cases q : bt N B k = 91
      · rw [if_pos q, bnd_s aM1, if_neg (fun u => E2 ⟨q, u⟩)]
      · rw [if_neg q]
    -- the reference comes to its item's second half
    have ref : ∃ (bb : Int32) (nn : Bool), f_MOD_item n (nI k) 0 mpl flags bh ns X low high mn lk tb tl tn = (if bt N B a = 45 then (if n ≤ nI (a + 1) then f_MOD_item_L184 n flags X lk tb tl tn (nI k) c false (nI a) 0 mpl (nI a) nn low high mn else (if bt N B (a + 1) = 93 then f_MOD_item_L184 n flags X lk tb tl tn (nI k) c false (nI a) 0 mpl (nI a) nn low high mn else f_MOD_item_L184 n flags X lk tb tl tn (nI k) c true (nI a) 0 mpl (nI a) nn low high mn)) else f_MOD_item_L184 n flags X lk tb tl tn (nI k) c false (nI a) 0 mpl (nI a) nn low high mn) := by
      rw [item62]
      unfold f_MOD_item_L62 f_MOD_item_L81
      have fin : ∀ (bb : Int32) (nn : Bool), (bnd_ (f_MOD_end n 0 mpl bb X (nI k)) (fun x118 => if x118.2.1 ≤ 0 then bnd_ (f_MOD_byteAt n X x118.2.2.2) (fun x143 => if x143 = 45 then (if n ≤ (x118.2.2.2 + 1) then f_MOD_item_L184 n flags X lk tb tl tn (nI k) x118.1 false x118.2.2.2 x118.2.1 x118.2.2.1 x118.2.2.2 nn low high mn else bnd_ (f_MOD_byteAt n X (x118.2.2.2 + 1)) (fun x171 => if x171 = 93 then f_MOD_item_L184 n flags X lk tb tl tn (nI k) x118.1 false x118.2.2.2 x118.2.1 x118.2.2.1 x118.2.2.2 nn low high mn else f_MOD_item_L184 n flags X lk tb tl tn (nI k) x118.1 true x118.2.2.2 x118.2.1 x118.2.2.1 x118.2.2.2 nn low high mn)) else f_MOD_item_L184 n flags X lk tb tl tn (nI k) x118.1 false x118.2.2.2 x118.2.1 x118.2.2.1 x118.2.2.2 nn low high mn) else some (nI k, x118.2.1, x118.2.2.1, x118.2.2.2, nn, low, high, mn))) = (if bt N B a = 45 then (if n ≤ nI (a + 1) then f_MOD_item_L184 n flags X lk tb tl tn (nI k) c false (nI a) 0 mpl (nI a) nn low high mn else (if bt N B (a + 1) = 93 then f_MOD_item_L184 n flags X lk tb tl tn (nI k) c false (nI a) 0 mpl (nI a) nn low high mn else f_MOD_item_L184 n flags X lk tb tl tn (nI k) c true (nI a) 0 mpl (nI a) nn low high mn)) else f_MOD_item_L184 n flags X lk tb tl tn (nI k) c false (nI a) 0 mpl (nI a) nn low high mn) := by
        intro bb nn
        rw [bnd_s (E9 bb), if_pos (show (0 : Int32) ≤ 0 by decide), bnd_s aMa, ea1]
        rw [bnd_s aMa1]
      rw [bnd_s aM]
      by_cases b92 : bt N B k = 92
      · rcases E8 with u1 | ⟨bh', ns', u1⟩
        · exact absurd b92 u1
        · refine ⟨bh', ns', ?_⟩
          rw [if_pos b92, bnd_s u1, if_neg (show ¬ (0 : Int32) = 1 by decide), if_pos (show (0 : Int32) ≤ 0 by decide)]
          exact fin bh' ns'
      · refine ⟨bh, ns, ?_⟩
        rw [if_neg b92, if_neg (show ¬ (0 : Int32) = 1 by decide), if_pos (show (0 : Int32) ≤ 0 by decide)]
        exact fin bh ns
    obtain ⟨_, nn, ref⟩ := ref
    -- the class comes to its own
    have clsT : f_CLS_readClass_L104 len B p1 alike K50 v3 v4 (nI k) v6 0 mp spn ek ev es eo ea sg sb se = bnd_ (f_CLS_readRange len 0 mp spn ek ev es eo ea sg B sb se (nI k) alike) (fun x126 => f_CLS_readClass_L129 len B p1 alike K50 v3 v4 v6 x126.1 x126.2.1 x126.2.2.1 x126.2.2.2.1 x126.2.2.2.2.1 x126.2.2.2.2.2.1 x126.2.2.2.2.2.2.1 x126.2.2.2.2.2.2.2.1 x126.2.2.2.2.2.2.2.2.1 x126.2.2.2.2.2.2.2.2.2.1 x126.2.2.2.2.2.2.2.2.2.2.1 x126.2.2.2.2.2.2.2.2.2.2.2) := by
      unfold f_CLS_readClass_L104
      rw [bnd_s E1, if_pos f0]
    have clsR : f_CLS_readRange len 0 mp spn ek ev es eo ea sg B sb se (nI k) alike = (if bt N B a = 45 then (if bt N B (a + 1) = 93 then f_CLS_readRange_L90 len B (nI k) alike (nI a) c 0 mp spn e' v' s' o' a' c sb se else (if bt N B (a + 1) = (-1) then f_CLS_readRange_L90 len B (nI k) alike (nI a) c 0 mp spn e' v' s' o' a' c sb se else bnd_ (f_CLS_isSetItem len B (nI (a + 1))) (fun x61 => if (b2i x61) = 0 then bnd_ (f_CLS_readSingle len 0 mp e' v' s' o' a' c B (nI (a + 1))) (fun x79 => if x79.1 = (-1) then some ((-1), x79.2.1, x79.2.2.1, spn, x79.2.2.2.1, x79.2.2.2.2.1, x79.2.2.2.2.2.1, x79.2.2.2.2.2.2.1, x79.2.2.2.2.2.2.2.1, x79.2.2.2.2.2.2.2.2, sb, se) else f_CLS_readRange_L90 len B (nI k) alike x79.1 c x79.2.1 x79.2.2.1 spn x79.2.2.2.1 x79.2.2.2.2.1 x79.2.2.2.2.2.1 x79.2.2.2.2.2.2.1 x79.2.2.2.2.2.2.2.1 x79.2.2.2.2.2.2.2.2 sb se) else bnd_ (f_CLS_refused 0 mp 6 (nI k)) (fun x71 => some (x71.1, x71.2.1, x71.2.2, spn, e', v', s', o', a', c, sb, se))))) else f_CLS_readRange_L90 len B (nI k) alike (nI a) c 0 mp spn e' v' s' o' a' c sb se) := by
      unfold f_CLS_readRange
      rw [bnd_s E7, if_neg (nm1 a hN2), ea1, bnd_s aCa1, bnd_s aCa]
    -- a range from c to d, whose end lies ahead of a2
    have good : ∀ (d : Int32) (a2 : Nat) (ek2 ev2 : Int32) (es2 : Nat) (eo2 : Bool) (ea2 : Int32), isCh d.toInt → c.toInt ≤ d.toInt → a ≤ a2 → a2 ≤ N → (c = d ∨ (a + 2 ≤ a2 ∧ (128 ≤ d.toInt → a + 3 ≤ a2))) →
        ∃ (sp' : Int32) (sb' se' : Nat → Int32) (l' h' m' : Nat → Int32) (xs' ys' : PL), SI k0 a2 xs' ∧ CSet sp' sb' se' xs' ∧ MS l' h' m' xs' ys' ∧ f_MOD_take flags low high mn lk c d = some (l', h', m') ∧
          bnd_ (f_CLS_readRange_L90 len B (nI k) alike (nI a2) c 0 mp spn ek2 ev2 es2 eo2 ea2 d sb se) (fun x126 => f_CLS_readClass_L129 len B p1 alike K50 v3 v4 v6 x126.1 x126.2.1 x126.2.2.1 x126.2.2.2.1 x126.2.2.2.2.1 x126.2.2.2.2.2.1 x126.2.2.2.2.2.2.1 x126.2.2.2.2.2.2.2.1 x126.2.2.2.2.2.2.2.2.1 x126.2.2.2.2.2.2.2.2.2.1 x126.2.2.2.2.2.2.2.2.2.2.1 x126.2.2.2.2.2.2.2.2.2.2.2) = K50 (v3, v4, nI a2, v6 + 1, 0, mp, sp', ek2, ev2, es2, eo2, ea2, d, sb', se') := by
      intro d a2 ek2 ev2 es2 eo2 ea2 d1 d2 d3 d4 d5
      obtain ⟨sp', sb', se', xs', l', h', m', ys', t1, t2, t3, t4, t5, t6, t7, t8⟩ := take_eq hT.lk hC hM hlen hfl c d c0 d2 d1.2.1
      refine ⟨sp', sb', se', l', h', m', xs', ys', ?_, t2, t4, t3, ?_⟩
      · refine take_SI hk0 hSI t5 c0 (by omega) (fun q => by have := E6 q; omega) ?_
        rcases d5 with q | ⟨q1, q2⟩
        · obtain ⟨u1, u2⟩ := t8 q
          rcases Int.lt_or_le c.toInt 128 with r | r
          · have := u2 r; omega
          · have := E6 r; omega
        · rcases Int.lt_or_le d.toInt 128 with r | r
          · have := t7 r; omega
          · have := q2 r; omega
      · have L90 : f_CLS_readRange_L90 len B (nI k) alike (nI a2) c 0 mp spn ek2 ev2 es2 eo2 ea2 d sb se = some (nI a2, 0, mp, sp', ek2, ev2, es2, eo2, ea2, d, sb', se') := by
          unfold f_CLS_readRange_L90
          rw [if_pos (le_ti.mpr d2)]
          cases alike with
          | false => rw [if_pos f0] at t1; rw [if_pos f0, bnd_s t1]
          | true => rw [if_neg f1] at t1; rw [if_neg f1, bnd_s t1]
        rw [bnd_s L90]
        show f_CLS_readClass_L129 len B p1 alike K50 v3 v4 v6 (nI a2) 0 mp sp' ek2 ev2 es2 eo2 ea2 d sb' se' = _
        unfold f_CLS_readClass_L129
        rw [if_neg (nm1 _ (by omega))]
    -- the character alone
    have single : bnd_ (f_CLS_readRange_L90 len B (nI k) alike (nI a) c 0 mp spn e' v' s' o' a' c sb se) (fun x126 => f_CLS_readClass_L129 len B p1 alike K50 v3 v4 v6 x126.1 x126.2.1 x126.2.2.1 x126.2.2.2.1 x126.2.2.2.2.1 x126.2.2.2.2.2.1 x126.2.2.2.2.2.2.1 x126.2.2.2.2.2.2.2.1 x126.2.2.2.2.2.2.2.2.1 x126.2.2.2.2.2.2.2.2.2.1 x126.2.2.2.2.2.2.2.2.2.2.1 x126.2.2.2.2.2.2.2.2.2.2.2) = f_CLS_readClass_L104 len B p1 alike K50 v3 v4 (nI k) v6 0 mp spn ek ev es eo ea sg sb se → f_MOD_item n (nI k) 0 mpl flags bh ns X low high mn lk tb tl tn = f_MOD_item_L184 n flags X lk tb tl tn (nI k) c false (nI a) 0 mpl (nI a) nn low high mn →
      (∃ (k' : Nat) (sp' ek' ev' : Int32) (es' : Nat) (eo' : Bool) (ea' sg' : Int32) (sb' se' : Nat → Int32) (bh' : Int32) (ns' : Bool) (l' h' m' : Nat → Int32) (xs' ys' : PL), k < k' ∧ k' ≤ N ∧ SI k0 k' xs' ∧ CSet sp' sb' se' xs' ∧ MS l' h' m' xs' ys' ∧
      f_CLS_readClass_L104 len B p1 alike K50 v3 v4 (nI k) v6 0 mp spn ek ev es eo ea sg sb se = K50 (v3, v4, nI k', v6 + 1, 0, mp, sp', ek', ev', es', eo', ea', sg', sb', se') ∧
      f_MOD_item n (nI k) 0 mpl flags bh ns X low high mn lk tb tl tn = some (nI k', 0, mpl, bh', ns', l', h', m')) := by
      intro h1 h2
      obtain ⟨sp', sb', se', l', h', m', xs', ys', g1, g2, g3, g4, g5⟩ := good c a e' v' s' o' a' E3 (Int.le_refl _) (Nat.le_refl _) E5 (Or.inl rfl)
      refine ⟨a, sp', e', v', s', o', a', c, sb', se', nI a, nn, l', h', m', xs', ys', E4, E5, g1, g2, g3, h1.symm.trans g5, ?_⟩
      rw [h2]
      unfold f_MOD_item_L184
      rw [if_pos f0, bnd_s g4]
    by_cases m45 : bt N B a = 45
    · rw [if_pos m45] at ref clsR
      by_cases m93 : bt N B (a + 1) = 93
      · rw [if_pos m93] at clsR
        have : f_MOD_item n (nI k) 0 mpl flags bh ns X low high mn lk tb tl tn = f_MOD_item_L184 n flags X lk tb tl tn (nI k) c false (nI a) 0 mpl (nI a) nn low high mn := by
          rw [ref, if_pos m93]
          split <;> rfl
        exact Or.inr (single (by rw [clsT, clsR]) this)
      · rw [if_neg m93] at clsR
        by_cases mN : N ≤ a + 1
        · have hb1 : bt N B (a + 1) = -1 := by unfold bt; rw [if_neg (by omega)]
          rw [if_pos hb1] at clsR
          rw [if_pos (by rw [h.n]; exact (nI_leI (by omega) (by omega)).mpr mN)] at ref
          exact Or.inr (single (by rw [clsT, clsR]) ref)
        · have hb1 : ¬ bt N B (a + 1) = -1 := by
            intro q
            rcases bt_ti h (a + 1) with u | u
            · rw [q] at u; exact absurd u.2.1 (by decide)
            · omega
          rw [if_neg hb1] at clsR
          rw [if_neg (fun q => mN (by rw [h.n] at q; exact (nI_leI (by omega) (by omega)).mp q)), if_neg m93] at ref
          have hka : a + 1 < N := by omega
          rw [clsT, clsR, ref]
          unfold f_MOD_item_L184
          rw [if_neg f1]
          -- a fault of the class
          have cF : ∀ (w pl' ek2 ev2 : Int32) (es2 : Nat) (eo2 : Bool) (ea2 sg2 : Int32), f_CLS_readClass_L129 len B p1 alike K50 v3 v4 v6 (-1) w pl' spn ek2 ev2 es2 eo2 ea2 sg2 sb se = some (-1, w, pl', spn, ek2, ev2, es2, eo2, ea2, sg2, sb, se) := by
            intro w pl' ek2 ev2 es2 eo2 ea2 sg2
            unfold f_CLS_readClass_L129
            rw [if_pos rfl]
          rcases head_eq h hka mp e' v' s' o' a' c (nI a) nn mpl hT.tb hT.tl hM with ⟨A1, A2, A3⟩ | ⟨B1, B2, s, o, a2, s1, s2, x1, x2, x3, B3, l', h', m', B4, B5⟩ | ⟨C1, C2, w, C3, ⟨e2', v2', s2', o2', a2', C4⟩, bh', ns', C5⟩ | ⟨D1, D2, ⟨w, e2', v2', s2', o2', a2', sg', D3, D4⟩, D5⟩ | ⟨F1, F2, d, a2, F3, F4, F5, F6, ⟨e2', v2', s2', o2', a2', F7⟩, F8, F9⟩
          · left
            refine ⟨6, nI k, spn, e', v', s', o', a', c, sb, se, nI a, 6, nI k, nI a, nn, low, high, mn, xs, ys, by decide, by decide, ?_, ?_, hM⟩
            · rw [bnd_s A3, if_neg f1, bnd_s (refused_val mp 6 (nI k))]
              exact cF 6 (nI k) e' v' s' o' a' c
            · unfold f_MOD_rangeFrom
              rw [ea1, bnd_s aMa1, if_pos A1, ea2, bnd_s (at_M h (k := a + 2) (by omega)), if_pos A2]
              rfl
          · left
            have hne91 : ¬ bt N B (a + 1) = 91 := by rw [B1]; decide
            refine ⟨6, nI k, spn, e', v', s', o', a', c, sb, se, nI a, 6, nI k, nI a2, o, l', h', m', xs, sp s, by decide, by decide, ?_, ?_, B5⟩
            · rw [bnd_s B2, if_neg f1, bnd_s (refused_val mp 6 (nI k))]
              exact cF 6 (nI k) e' v' s' o' a' c
            · unfold f_MOD_rangeFrom f_MOD_rangeFrom_L37 f_MOD_rangeFrom_L56 f_MOD_rangeFrom_L78 f_MOD_rangeFrom_L89
              rw [ea1, bnd_s aMa1, if_neg hne91, bnd_s aMa1, if_pos B1, bnd_s B4]
              rfl
          · left
            have hne91 : ¬ bt N B (a + 1) = 91 := by rw [C1]; decide
            have wp : ¬ (-w) = 0 ∧ ¬ (-w) = 1 ∧ (0 : Int32) < -(-w) := by rcases C3 with q | q <;> rw [q] <;> decide
            refine ⟨6, nI k, spn, e', v', s', o', a', c, sb, se, nI a, -(-w), nI (a + 1), bh', ns', low, high, mn, xs, ys, by decide, wp.2.2, ?_, ?_, hM⟩
            · rw [bnd_s C2, if_neg f1, bnd_s (refused_val mp 6 (nI k))]
              exact cF 6 (nI k) e' v' s' o' a' c
            · unfold f_MOD_rangeFrom f_MOD_rangeFrom_L37 f_MOD_rangeFrom_L56 f_MOD_rangeFrom_L78 f_MOD_rangeFrom_L89
              rw [ea1, bnd_s aMa1, if_neg hne91, bnd_s aMa1, if_pos C1, bnd_s C5, if_neg wp.1, if_neg wp.2.1, if_neg wp.2.1]
              rfl
          · left
            have w0 : w ≠ 0 := by rcases D3 with q | q <;> rw [q] <;> decide
            have cls : bnd_ (bnd_ (f_CLS_isSetItem len B (nI (a + 1))) (fun x61 => if (b2i x61) = 0 then bnd_ (f_CLS_readSingle len 0 mp e' v' s' o' a' c B (nI (a + 1))) (fun x79 => if x79.1 = (-1) then some ((-1), x79.2.1, x79.2.2.1, spn, x79.2.2.2.1, x79.2.2.2.2.1, x79.2.2.2.2.2.1, x79.2.2.2.2.2.2.1, x79.2.2.2.2.2.2.2.1, x79.2.2.2.2.2.2.2.2, sb, se) else f_CLS_readRange_L90 len B (nI k) alike x79.1 c x79.2.1 x79.2.2.1 spn x79.2.2.2.1 x79.2.2.2.2.1 x79.2.2.2.2.2.1 x79.2.2.2.2.2.2.1 x79.2.2.2.2.2.2.2.1 x79.2.2.2.2.2.2.2.2 sb se) else bnd_ (f_CLS_refused 0 mp 6 (nI k)) (fun x71 => some (x71.1, x71.2.1, x71.2.2, spn, e', v', s', o', a', c, sb, se)))) (fun x126 => f_CLS_readClass_L129 len B p1 alike K50 v3 v4 v6 x126.1 x126.2.1 x126.2.2.1 x126.2.2.2.1 x126.2.2.2.2.1 x126.2.2.2.2.2.1 x126.2.2.2.2.2.2.1 x126.2.2.2.2.2.2.2.1 x126.2.2.2.2.2.2.2.2.1 x126.2.2.2.2.2.2.2.2.2.1 x126.2.2.2.2.2.2.2.2.2.2.1 x126.2.2.2.2.2.2.2.2.2.2.2) = some (-1, w, nI (a + 1), spn, e2', v2', s2', o2', a2', sg', sb, se) := by
              rw [bnd_s D1, if_pos f0, bnd_s D4, if_pos rfl]
              exact cF w (nI (a + 1)) e2' v2' s2' o2' a2' sg'
            have rf37 : f_MOD_rangeFrom n (nI a) 0 mpl flags (nI a) nn X low high mn lk tb tl (nI k) c = f_MOD_rangeFrom_L37 n flags X lk tb tl (nI k) c (nI (a + 1)) (nI a) 0 mpl (nI a) nn low high mn := by
              unfold f_MOD_rangeFrom
              rw [ea1, bnd_s aMa1, ea2]
              by_cases q : bt N B (a + 1) = 91
              · rw [if_pos q, bnd_s (at_M h (k := a + 2) (by omega)), if_neg (fun u => D2 ⟨q, u⟩)]
              · rw [if_neg q]
            rw [cls, rf37]
            unfold f_MOD_rangeFrom_L37 f_MOD_rangeFrom_L56 f_MOD_rangeFrom_L78 f_MOD_rangeFrom_L89
            rw [bnd_s aMa1]
            rcases D5 with ⟨u1, bh', ns', u2⟩ | ⟨u1, u2⟩
            · refine ⟨w, nI (a + 1), spn, e2', v2', s2', o2', a2', sg', sb, se, nI a, -(-5), nI (a + 1), bh', ns', low, high, mn, xs, ys, w0, by decide, rfl, ?_, hM⟩
              rw [if_pos u1, bnd_s u2]
              rfl
            · by_cases b92 : bt N B (a + 1) = 92
              · rcases u1 with u1 | ⟨bh', ns', u1⟩
                · exact absurd b92 u1
                · obtain ⟨c2, w', bh2, q1, q2⟩ := u2 bh'
                  have wp : ¬ w' ≤ 0 ∧ 0 < w' := by rcases q1 with q | q <;> rw [q] <;> decide
                  refine ⟨w, nI (a + 1), spn, e2', v2', s2', o2', a2', sg', sb, se, nI a, w', nI (a + 1), bh2, ns', low, high, mn, xs, ys, w0, wp.2, rfl, ?_, hM⟩
                  rw [if_pos b92, bnd_s u1, if_pos rfl, bnd_s q2, if_neg wp.1]
                  rfl
              · obtain ⟨c2, w', bh2, q1, q2⟩ := u2 (nI a)
                have wp : ¬ w' ≤ 0 ∧ 0 < w' := by rcases q1 with q | q <;> rw [q] <;> decide
                refine ⟨w, nI (a + 1), spn, e2', v2', s2', o2', a2', sg', sb, se, nI a, w', nI (a + 1), bh2, nn, low, high, mn, xs, ys, w0, wp.2, rfl, ?_, hM⟩
                rw [if_neg b92, if_pos rfl, bnd_s q2, if_neg wp.1]
                rfl
          · have rf37 : f_MOD_rangeFrom n (nI a) 0 mpl flags (nI a) nn X low high mn lk tb tl (nI k) c = f_MOD_rangeFrom_L37 n flags X lk tb tl (nI k) c (nI (a + 1)) (nI a) 0 mpl (nI a) nn low high mn := by
              unfold f_MOD_rangeFrom
              rw [ea1, bnd_s aMa1, ea2]
              by_cases q : bt N B (a + 1) = 91
              · rw [if_pos q, bnd_s (at_M h (k := a + 2) (by omega)), if_neg (fun u => F2 ⟨q, u⟩)]
              · rw [if_neg q]
            have cls : bnd_ (bnd_ (f_CLS_isSetItem len B (nI (a + 1))) (fun x61 => if (b2i x61) = 0 then bnd_ (f_CLS_readSingle len 0 mp e' v' s' o' a' c B (nI (a + 1))) (fun x79 => if x79.1 = (-1) then some ((-1), x79.2.1, x79.2.2.1, spn, x79.2.2.2.1, x79.2.2.2.2.1, x79.2.2.2.2.2.1, x79.2.2.2.2.2.2.1, x79.2.2.2.2.2.2.2.1, x79.2.2.2.2.2.2.2.2, sb, se) else f_CLS_readRange_L90 len B (nI k) alike x79.1 c x79.2.1 x79.2.2.1 spn x79.2.2.2.1 x79.2.2.2.2.1 x79.2.2.2.2.2.1 x79.2.2.2.2.2.2.1 x79.2.2.2.2.2.2.2.1 x79.2.2.2.2.2.2.2.2 sb se) else bnd_ (f_CLS_refused 0 mp 6 (nI k)) (fun x71 => some (x71.1, x71.2.1, x71.2.2, spn, e', v', s', o', a', c, sb, se)))) (fun x126 => f_CLS_readClass_L129 len B p1 alike K50 v3 v4 v6 x126.1 x126.2.1 x126.2.2.1 x126.2.2.2.1 x126.2.2.2.2.1 x126.2.2.2.2.2.1 x126.2.2.2.2.2.2.1 x126.2.2.2.2.2.2.2.1 x126.2.2.2.2.2.2.2.2.1 x126.2.2.2.2.2.2.2.2.2.1 x126.2.2.2.2.2.2.2.2.2.2.1 x126.2.2.2.2.2.2.2.2.2.2.2) = bnd_ (f_CLS_readRange_L90 len B (nI k) alike (nI a2) c 0 mp spn e2' v2' s2' o2' a2' d sb se) (fun x126 => f_CLS_readClass_L129 len B p1 alike K50 v3 v4 v6 x126.1 x126.2.1 x126.2.2.1 x126.2.2.2.1 x126.2.2.2.2.1 x126.2.2.2.2.2.1 x126.2.2.2.2.2.2.1 x126.2.2.2.2.2.2.2.1 x126.2.2.2.2.2.2.2.2.1 x126.2.2.2.2.2.2.2.2.2.1 x126.2.2.2.2.2.2.2.2.2.2.1 x126.2.2.2.2.2.2.2.2.2.2.2) := by
              rw [bnd_s F1, if_pos f0, bnd_s F7, if_neg (nm1 a2 (by omega))]
            rw [cls, rf37]
            -- the reference at its end
            have endG : ∃ nn2 : Bool, f_MOD_rangeFrom_L37 n flags X lk tb tl (nI k) c (nI (a + 1)) (nI a) 0 mpl (nI a) nn low high mn = (if c ≤ d then bnd_ (f_MOD_take flags low high mn lk c d) (fun x136 => some (nI a2, 0, mpl, nI a2, nn2, x136.1, x136.2.1, x136.2.2)) else bnd_ (f_MOD_fail 0 mpl 6 (nI k)) (fun x126 => some (nI a2, x126.1, x126.2, nI a2, nn2, low, high, mn))) := by
              unfold f_MOD_rangeFrom_L37 f_MOD_rangeFrom_L56
              rw [bnd_s aMa1]
              by_cases b92 : bt N B (a + 1) = 92
              · rcases F8 with u1 | ⟨bh', ns', u1⟩
                · exact absurd b92 u1
                · refine ⟨ns', ?_⟩
                  rw [if_pos b92, bnd_s u1, if_pos rfl, bnd_s (F9 bh'), if_pos (show (0 : Int32) ≤ 0 by decide)]
              · refine ⟨nn, ?_⟩
                rw [if_neg b92, if_pos rfl, bnd_s (F9 (nI a)), if_pos (show (0 : Int32) ≤ 0 by decide)]
            obtain ⟨nn2, endG⟩ := endG
            rw [endG]
            by_cases cd : c.toInt ≤ d.toInt
            · right
              obtain ⟨sp', sb', se', l', h', m', xs', ys', g1, g2, g3, g4, g5⟩ := good d a2 e2' v2' s2' o2' a2' F3 cd (by omega) F5 (Or.inr ⟨by omega, fun q => by have := F6 q; omega⟩)
              refine ⟨a2, sp', e2', v2', s2', o2', a2', d, sb', se', nI a2, nn2, l', h', m', xs', ys', by omega, F5, g1, g2, g3, g5, ?_⟩
              rw [if_pos (le_ti.mpr cd), bnd_s g4]
              rfl
            · left
              refine ⟨6, nI k, spn, e2', v2', s2', o2', a2', d, sb, se, nI a2, 6, nI k, nI a2, nn2, low, high, mn, xs, ys, by decide, by decide, ?_, ?_, hM⟩
              · have : f_CLS_readRange_L90 len B (nI k) alike (nI a2) c 0 mp spn e2' v2' s2' o2' a2' d sb se = some (-1, 6, nI k, spn, e2', v2', s2', o2', a2', d, sb, se) := by
                  unfold f_CLS_readRange_L90
                  rw [if_neg (fun q => cd (le_ti.mp q)), bnd_s (refused_val mp 6 (nI k))]
                rw [bnd_s this]
                exact cF 6 (nI k) e2' v2' s2' o2' a2' d
              · rw [if_neg (fun q => cd (le_ti.mp q))]
                rfl
    · rw [if_neg m45] at ref clsR
      exact Or.inr (single (by rw [clsT, clsR]) ref)

set_option maxRecDepth 100000
set_option linter.unusedVariables false
abbrev Ar := Nat → Int32
theorem class_loop {len n : Int32} {B X : Nat → Int32} {N : Nat} (h : TX len B n X N) {lk tb tl tn : Nat → Int32} (hT : TB lk tb tl tn) {flags : Int32} {alike : Bool} (hfl : alike = true ↔ flags &&& 1 = 1) (p1 mp mpl : Int32) (oth : Bool) {k0 : Nat} (begin depth : Int32) (nodes ranges : Int32) (rp : Bool) (t1 t2 t3 t4 t5 t6 t7 t8 t9 t10 t11 : Ar) :
    ∀ (d k t : Nat), k + d = N → k0 ≤ k → t ≤ k - k0 → ∀ (ek ev : Int32) (es : Nat) (eo : Bool) (ea sg bh : Int32) (ns : Bool) (spn : Int32) (sb se low high mn : Ar) (xs ys : PL) (F G : Nat), CSet spn sb se xs → MS low high mn xs ys → SI k0 k xs →
      (∃ (w pl' sp' ek' ev' : Int32) (es' : Nat) (eo' : Bool) (ea' sg' : Int32) (sb' se' : Ar) (at' w' pl2 bh' : Int32) (ns' : Bool) (l' h' m' : Ar) (xs2 ys2 : PL), w ≠ 0 ∧ 0 < w' ∧
        f_CLS_readClass_L50 len B p1 alike (F + d + 1) (oth, nI k0, nI k, nI t, 0, mp, spn, ek, ev, es, eo, ea, sg, sb, se) = some (-1, w, pl', sp', ek', ev', es', eo', ea', sg', sb', se') ∧
        f_MOD_readClass_L51 n depth flags X lk tb tl tn (G + d + 1) (begin, oth, decide (k = k0), nI k, 0, mpl, nodes, ranges, rp, bh, ns, t1, t2, t3, t4, t5, t6, t7, t8, t9, t10, t11, low, high, mn) = some (at', w', pl2, nodes, ranges, rp, bh', ns', t1, t2, t3, t4, t5, t6, t7, t8, t9, t10, t11, l', h', m') ∧ MS l' h' m' xs2 ys2) ∨
      (∃ (k' : Nat) (sp' ek' ev' : Int32) (es' : Nat) (eo' : Bool) (ea' sg' : Int32) (sb' se' : Ar) (bh' : Int32) (ns' : Bool) (l' h' m' : Ar) (xs' ys' : PL), k0 < k' ∧ k' < N ∧ bt N B k' = 93 ∧ SI k0 k' xs' ∧ MS l' h' m' xs' ys' ∧ CSet sp' sb' se' (keepL (if oth then compl 0 xs' else xs')) ∧
        f_CLS_readClass_L50 len B p1 alike (F + d + 1) (oth, nI k0, nI k, nI t, 0, mp, spn, ek, ev, es, eo, ea, sg, sb, se) = some (nI (k' + 1), 0, mp, sp', ek', ev', es', eo', ea', sg', sb', se') ∧
        f_MOD_readClass_L51 n depth flags X lk tb tl tn (G + d + 1) (begin, oth, decide (k = k0), nI k, 0, mpl, nodes, ranges, rp, bh, ns, t1, t2, t3, t4, t5, t6, t7, t8, t9, t10, t11, low, high, mn) = f_MOD_readClass_L95 n depth flags X lk tb tl tn begin oth (nI k') 0 mpl nodes ranges rp bh' ns' t1 t2 t3 t4 t5 t6 t7 t8 t9 t10 t11 l' h' m') := by
  have hN := h.le
  have f1 : ¬ b2i true = 0 := by decide
  have f0 : b2i false = 0 := rfl
  intro d
  induction d using Nat.strongRecOn with
  | ind d ih =>
  rcases d with _ | d
  · intro k t hk hk0 ht ek ev es eo ea sg bh ns spn sb se low high mn xs ys F G hC hM hS
    have : k = N := by omega
    subst this
    left
    refine ⟨4, p1, spn, ek, ev, es, eo, ea, sg, sb, se, nI k, 4, begin, bh, ns, low, high, mn, xs, ys, by decide, by decide, ?_, ?_, hM⟩
    · rw [f_CLS_readClass_L50_s]
      unfold f_CLS_readClass_B50 f_CLS_readClass_L145
      rw [bnd_s (refused_val mp 4 p1), h.len, if_pos (show nI k ≤ nI k from (nI_leI (by omega) (by omega)).mpr (Nat.le_refl _))]
      split <;> rfl
    · rw [f_MOD_readClass_L51_s]
      unfold f_MOD_readClass_B51 f_MOD_readClass_L95
      have e : ¬ nI k < nI k := fun q => by have := (nI_ltI (by omega) (by omega)).mp q; omega
      rw [h.n, if_pos rfl, if_pos (show nI k ≤ nI k from (nI_leI (by omega) (by omega)).mpr (Nat.le_refl _)), if_pos (show (0 : Int32) ≤ 0 by decide), if_neg e]
      rfl
  · intro k t hk hk0 ht ek ev es eo ea sg bh ns spn sb se low high mn xs ys F G hC hM hS
    have hkN : k < N := by omega
    have aC := at_C h (k := k) (by omega)
    have aM := at_M h (k := k) (by omega)
    have c1 : ¬ (400 : Int32) ≤ nI t := fun q => by have := (nI_leI (a := 400) (by decide) (by omega)).mp q; omega
    have c2 : ¬ nI N ≤ nI k := fun q => by have := (nI_leI (by omega) (by omega)).mp q; omega
    have eC : f_CLS_readClass_L50 len B p1 alike (F + (d + 1) + 1) (oth, nI k0, nI k, nI t, 0, mp, spn, ek, ev, es, eo, ea, sg, sb, se) = (if bt N B k = 93 then (if nI k ≤ nI k0 then f_CLS_readClass_L104 len B p1 alike (f_CLS_readClass_L50 len B p1 alike (F + d + 1)) oth (nI k0) (nI k) (nI t) 0 mp spn ek ev es eo ea sg sb se else bnd_ (f_SET_finish spn sb se oth) (fun x96 => some (nI k + 1, 0, mp, x96.1, ek, ev, es, eo, ea, sg, x96.2.1, x96.2.2))) else f_CLS_readClass_L104 len B p1 alike (f_CLS_readClass_L50 len B p1 alike (F + d + 1)) oth (nI k0) (nI k) (nI t) 0 mp spn ek ev es eo ea sg sb se) := by
      rw [show F + (d + 1) + 1 = (F + d + 1) + 1 by omega, f_CLS_readClass_L50_s]
      unfold f_CLS_readClass_B50
      rw [if_neg c1, h.len, if_neg c2, ← h.len, bnd_s aC]
    have eM : f_MOD_readClass_L51 n depth flags X lk tb tl tn (G + (d + 1) + 1) (begin, oth, decide (k = k0), nI k, 0, mpl, nodes, ranges, rp, bh, ns, t1, t2, t3, t4, t5, t6, t7, t8, t9, t10, t11, low, high, mn) = (if b2i (decide (k = k0)) = 0 then (if bt N B k = 93 then f_MOD_readClass_L95 n depth flags X lk tb tl tn begin oth (nI k) 0 mpl nodes ranges rp bh ns t1 t2 t3 t4 t5 t6 t7 t8 t9 t10 t11 low high mn else f_MOD_readClass_L86 n depth flags X lk tb tl tn (f_MOD_readClass_L51 n depth flags X lk tb tl tn (G + d + 1)) begin oth (nI k) 0 mpl nodes ranges rp bh ns t1 t2 t3 t4 t5 t6 t7 t8 t9 t10 t11 low high mn) else f_MOD_readClass_L86 n depth flags X lk tb tl tn (f_MOD_readClass_L51 n depth flags X lk tb tl tn (G + d + 1)) begin oth (nI k) 0 mpl nodes ranges rp bh ns t1 t2 t3 t4 t5 t6 t7 t8 t9 t10 t11 low high mn) := by
      rw [show G + (d + 1) + 1 = (G + d + 1) + 1 by omega, f_MOD_readClass_L51_s]
      unfold f_MOD_readClass_B51
      rw [if_pos rfl, h.n, if_neg c2, ← h.n, bnd_s aM]
    -- an item
    have step : f_CLS_readClass_L50 len B p1 alike (F + (d + 1) + 1) (oth, nI k0, nI k, nI t, 0, mp, spn, ek, ev, es, eo, ea, sg, sb, se) = f_CLS_readClass_L104 len B p1 alike (f_CLS_readClass_L50 len B p1 alike (F + d + 1)) oth (nI k0) (nI k) (nI t) 0 mp spn ek ev es eo ea sg sb se →
        f_MOD_readClass_L51 n depth flags X lk tb tl tn (G + (d + 1) + 1) (begin, oth, decide (k = k0), nI k, 0, mpl, nodes, ranges, rp, bh, ns, t1, t2, t3, t4, t5, t6, t7, t8, t9, t10, t11, low, high, mn) = f_MOD_readClass_L86 n depth flags X lk tb tl tn (f_MOD_readClass_L51 n depth flags X lk tb tl tn (G + d + 1)) begin oth (nI k) 0 mpl nodes ranges rp bh ns t1 t2 t3 t4 t5 t6 t7 t8 t9 t10 t11 low high mn →
        (∃ (w pl' sp' ek' ev' : Int32) (es' : Nat) (eo' : Bool) (ea' sg' : Int32) (sb' se' : Ar) (at' w' pl2 bh' : Int32) (ns' : Bool) (l' h' m' : Ar) (xs2 ys2 : PL), w ≠ 0 ∧ 0 < w' ∧
        f_CLS_readClass_L50 len B p1 alike (F + (d + 1) + 1) (oth, nI k0, nI k, nI t, 0, mp, spn, ek, ev, es, eo, ea, sg, sb, se) = some (-1, w, pl', sp', ek', ev', es', eo', ea', sg', sb', se') ∧
        f_MOD_readClass_L51 n depth flags X lk tb tl tn (G + (d + 1) + 1) (begin, oth, decide (k = k0), nI k, 0, mpl, nodes, ranges, rp, bh, ns, t1, t2, t3, t4, t5, t6, t7, t8, t9, t10, t11, low, high, mn) = some (at', w', pl2, nodes, ranges, rp, bh', ns', t1, t2, t3, t4, t5, t6, t7, t8, t9, t10, t11, l', h', m') ∧ MS l' h' m' xs2 ys2) ∨
      (∃ (k' : Nat) (sp' ek' ev' : Int32) (es' : Nat) (eo' : Bool) (ea' sg' : Int32) (sb' se' : Ar) (bh' : Int32) (ns' : Bool) (l' h' m' : Ar) (xs' ys' : PL), k0 < k' ∧ k' < N ∧ bt N B k' = 93 ∧ SI k0 k' xs' ∧ MS l' h' m' xs' ys' ∧ CSet sp' sb' se' (keepL (if oth then compl 0 xs' else xs')) ∧
        f_CLS_readClass_L50 len B p1 alike (F + (d + 1) + 1) (oth, nI k0, nI k, nI t, 0, mp, spn, ek, ev, es, eo, ea, sg, sb, se) = some (nI (k' + 1), 0, mp, sp', ek', ev', es', eo', ea', sg', sb', se') ∧
        f_MOD_readClass_L51 n depth flags X lk tb tl tn (G + (d + 1) + 1) (begin, oth, decide (k = k0), nI k, 0, mpl, nodes, ranges, rp, bh, ns, t1, t2, t3, t4, t5, t6, t7, t8, t9, t10, t11, low, high, mn) = f_MOD_readClass_L95 n depth flags X lk tb tl tn begin oth (nI k') 0 mpl nodes ranges rp bh' ns' t1 t2 t3 t4 t5 t6 t7 t8 t9 t10 t11 l' h' m') := by
      intro hc hm
      rcases item_eq h hT hk0 hkN mp ek ev es eo ea sg bh ns mpl hC hM hS hfl p1 (f_CLS_readClass_L50 len B p1 alike (F + d + 1)) oth (nI k0) (nI t) with ⟨w, pl', sp', ek', ev', es', eo', ea', sg', sb', se', at', w', pl2, bh', ns', l', h', m', xs2, ys2, i1, i2, i3, i4, i5⟩ | ⟨k', sp', ek', ev', es', eo', ea', sg', sb', se', bh', ns', l', h', m', xs', ys', i1, i2, i3, i4, i5, i6, i7⟩
      · left
        refine ⟨w, pl', sp', ek', ev', es', eo', ea', sg', sb', se', at', w', pl2, bh', ns', l', h', m', xs2, ys2, i1, i2, hc.trans i3, ?_, i5⟩
        rw [hm]
        unfold f_MOD_readClass_L86
        rw [bnd_s i4]
        have w0 : ¬ w' = 0 := fun q => by rw [q] at i2; exact absurd i2 (by decide)
        have w1 : ¬ w' ≤ 0 := fun q => by have := le_ti.mp q; have := lt_ti.mp i2; omega
        show f_MOD_readClass_L51 n depth flags X lk tb tl tn (G + d + 1) (begin, oth, false, at', w', pl2, nodes, ranges, rp, bh', ns', t1, t2, t3, t4, t5, t6, t7, t8, t9, t10, t11, l', h', m') = _
        rw [f_MOD_readClass_L51_s]
        unfold f_MOD_readClass_B51 f_MOD_readClass_L95
        rw [if_neg w0, if_neg w1]
      · have hm2 : f_MOD_readClass_L51 n depth flags X lk tb tl tn (G + (d + 1) + 1) (begin, oth, decide (k = k0), nI k, 0, mpl, nodes, ranges, rp, bh, ns, t1, t2, t3, t4, t5, t6, t7, t8, t9, t10, t11, low, high, mn) = f_MOD_readClass_L51 n depth flags X lk tb tl tn (G + d + 1) (begin, oth, decide (k' = k0), nI k', 0, mpl, nodes, ranges, rp, bh', ns', t1, t2, t3, t4, t5, t6, t7, t8, t9, t10, t11, l', h', m') := by
          rw [hm]
          unfold f_MOD_readClass_L86
          rw [bnd_s i7, decide_eq_false (show ¬ k' = k0 by omega)]
        have hc2 : f_CLS_readClass_L50 len B p1 alike (F + (d + 1) + 1) (oth, nI k0, nI k, nI t, 0, mp, spn, ek, ev, es, eo, ea, sg, sb, se) = f_CLS_readClass_L50 len B p1 alike (F + d + 1) (oth, nI k0, nI k', nI (t + 1), 0, mp, sp', ek', ev', es', eo', ea', sg', sb', se') := by
          rw [hc, i6, nI_1]
        -- more fuel than places: k' may lie further on
        obtain ⟨j, hj⟩ : ∃ j, d = j + (N - k') := ⟨d - (N - k'), by omega⟩
        rw [hc2, hm2]
        rw [show F + d + 1 = (F + j) + (N - k') + 1 by omega, show G + d + 1 = (G + j) + (N - k') + 1 by omega]
        exact ih (N - k') (by omega) k' (t + 1) (by omega) (by omega) (by omega) ek' ev' es' eo' ea' sg' bh' ns' sp' sb' se' l' h' m' xs' ys' (F + j) (G + j) i4 i5 i3
    by_cases c93 : bt N B k = 93
    · by_cases ck : k = k0
      · refine step ?_ ?_
        · rw [eC, if_pos c93, if_pos ((nI_leI (by omega) (by omega)).mpr (by omega))]
        · rw [eM, decide_eq_true ck, if_neg f1]
      · right
        obtain ⟨n', b', e', g1, g2⟩ := cs_finish hC (by have := hS.len hC.c (Nat.le_of_lt hkN) hN; omega) oth
        refine ⟨k, n', ek, ev, es, eo, ea, sg, b', e', bh, ns, low, high, mn, xs, ys, by omega, hkN, c93, hS, hM, g2, ?_, ?_⟩
        · rw [eC, if_pos c93, if_neg (fun q => by have := (nI_leI (by omega) (by omega)).mp q; omega), bnd_s g1, nI_1]
        · rw [eM, decide_eq_false ck, if_pos f0, if_pos c93]
    · refine step ?_ ?_
      · rw [eC, if_neg c93]
      · rw [eM, if_neg c93]
        split <;> rfl

