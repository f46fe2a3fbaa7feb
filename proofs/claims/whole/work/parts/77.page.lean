/-! the reference's affixes and its digits at the start -/
theorem cn3' : (3 : Int32).toNatClampNeg = 3 := by decide
theorem in36 : vp_in (3 : Int32) 6 := by unfold vp_in; decide
theorem in26 : vp_in (2 : Int32) 6 := by unfold vp_in; decide
theorem s_mAffixL {sf : Nat → Int32} {s : Nat → Nat} (hs : Num6 sf s) {pn : Int32} {pf af al : Nat → Int32} {a k : Nat} (ha : a < 4) (hk : k ≤ 40) (hr : RelAf pn pf af al a k) {w : List Int32} (hl : w.length + k ≤ 256) : ∀ (d i : Nat), i + d = k → ∀ (n : Int32) (f : Nat → Int32), Pg n f (w ++ affW s pf i) → ∃ (n' : Int32) (f' : Nat → Int32) (m : Nat), Pg n' f' (w ++ affW s pf k) ∧ ∀ Q : (Int32 × (Nat → Int32)) → Prop, Q (n', f') → wp_M_putAffix_L20 m af al sf (nI a) (nI i) n f Q := by
  intro d
  have ea : (nI a).toNatClampNeg = a := nI_clamp (by omega)
  have ia : vp_in (nI a) 4 := vp_in_nI (by omega) (by omega)
  induction d with
  | zero =>
    intro i hi n f h
    obtain rfl : i = k := by omega
    refine ⟨n, f, 1, h, fun Q hQ => ?_⟩
    unfold wp_M_putAffix_L20
    rw [ea, hr.2.1]
    exact ⟨ia, fun _ => hQ, fun z => absurd (nI_le (Nat.le_refl _) (by omega)) z⟩
  | succ d ih =>
    intro i hi n f h
    have hlen : (w ++ affW s pf i).length < 256 := by rw [List.length_append, affW_len]; omega
    have e4 : ¬ nI k ≤ nI i := nI_ge (by omega) (by omega)
    have e3 : 40 * nI a + nI i = nI (40 * a + i) := by
      have : (40 : Int32) * nI a = nI (40 * a) := pk_mul 40 a
      rw [this, nI_add]
    have ii : vp_in (nI (40 * a + i)) 160 := vp_in_nI (by omega) (by omega)
    have z258 : (258 : Int32) = nI 258 := rfl
    have z259 : (259 : Int32) = nI 259 := rfl
    have z200 : (200 : Int32) = nI 200 := rfl
    have z201 : (201 : Int32) = nI 201 := rfl
    have go : ∀ (n1 : Int32) (f1 : Nat → Int32), Pg n1 f1 ((w ++ affW s pf i) ++ [sbc s (pf i)]) → ∃ (n' : Int32) (f' : Nat → Int32) (m : Nat), Pg n' f' (w ++ affW s pf k) ∧ ∀ Q : (Int32 × (Nat → Int32)) → Prop, Q (n', f') → wp_M_putAffix_L20 m af al sf (nI a) (nI (i + 1)) n1 f1 Q := by
      intro n1 f1 h1
      rw [List.append_assoc, ← affW_s] at h1
      exact ih (i + 1) (by omega) n1 f1 h1
    rcases hr.2.2 i (by omega) with ⟨hx, hy⟩ | ⟨hx, hy⟩ | ⟨hxy, h32, h126⟩
    · have es : sbc s (pf i) = nI (s 2) := by unfold sbc; rw [if_pos hx]
      obtain ⟨n1, f1, hp1, hw1⟩ := s_mput h hlen (nI (s 2))
      obtain ⟨n', f', m, hp, hw⟩ := go n1 f1 (by rw [es]; exact hp1)
      refine ⟨n', f', m + 1, hp, fun Q hQ => ?_⟩
      have hw' := hw Q hQ
      unfold wp_M_putAffix_L20
      rw [ea, hr.2.1, nI_1 i, e3, nI_clamp (by omega), hy, cn2, (hs 2 (by omega)).1]
      exact ⟨ia, fun z => absurd z e4, fun _ => ⟨ii, fun z => absurd rfl z, fun _ => ⟨in26, hw1 _ hw'⟩⟩⟩
    · have es : sbc s (pf i) = nI (s 3) := by unfold sbc; rw [if_neg (by rw [hx]; decide), if_pos hx]
      obtain ⟨n1, f1, hp1, hw1⟩ := s_mput h hlen (nI (s 3))
      obtain ⟨n', f', m, hp, hw⟩ := go n1 f1 (by rw [es]; exact hp1)
      refine ⟨n', f', m + 1, hp, fun Q hQ => ?_⟩
      have hw' := hw Q hQ
      unfold wp_M_putAffix_L20
      rw [ea, hr.2.1, nI_1 i, e3, nI_clamp (by omega), hy, cn3, (hs 3 (by omega)).1]
      exact ⟨ia, fun z => absurd z e4, fun _ => ⟨ii, fun _ => ⟨fun z => absurd rfl z, fun _ => ⟨in36, hw1 _ hw'⟩⟩, fun z => absurd z (by decide)⟩⟩
    · obtain ⟨c, hcx, c1, c2⟩ := code_of h32 h126
      have n258 : ¬ pf i = 258 := by rw [hcx, z258]; exact fun z => absurd ((nI_eq (by omega) (by omega)).mp z) (by omega)
      have n259 : ¬ pf i = 259 := by rw [hcx, z259]; exact fun z => absurd ((nI_eq (by omega) (by omega)).mp z) (by omega)
      have n200 : ¬ pf i = 200 := by rw [hcx, z200]; exact fun z => absurd ((nI_eq (by omega) (by omega)).mp z) (by omega)
      have n201 : ¬ pf i = 201 := by rw [hcx, z201]; exact fun z => absurd ((nI_eq (by omega) (by omega)).mp z) (by omega)
      have es : sbc s (pf i) = pf i := by unfold sbc; rw [if_neg n258, if_neg n259]
      obtain ⟨n1, f1, hp1, hw1⟩ := s_mput h hlen (pf i)
      obtain ⟨n', f', m, hp, hw⟩ := go n1 f1 (by rw [es]; exact hp1)
      refine ⟨n', f', m + 1, hp, fun Q hQ => ?_⟩
      have hw' := hw Q hQ
      unfold wp_M_putAffix_L20
      rw [ea, hr.2.1, nI_1 i, e3, nI_clamp (by omega), ← hxy]
      exact ⟨ia, fun z => absurd z e4, fun _ => ⟨ii, fun _ => ⟨fun _ => hw1 _ hw', fun z => absurd z n201⟩, fun z => absurd z n200⟩⟩
theorem s_mAffix {sf : Nat → Int32} {s : Nat → Nat} (hs : Num6 sf s) {pn : Int32} {pf af al : Nat → Int32} {a k : Nat} (ha : a < 4) (hk : k ≤ 40) (hr : RelAf pn pf af al a k) {w : List Int32} (hl : w.length + k ≤ 256) {n : Int32} {f : Nat → Int32} (h : Pg n f w) : ∃ (n' : Int32) (f' : Nat → Int32), Pg n' f' (w ++ affW s pf k) ∧ ∀ Q : (Int32 × (Nat → Int32)) → Prop, Q (n', f') → wp_M_putAffix n af al sf f (nI a) Q := by
  obtain ⟨n', f', m, hp, hw⟩ := s_mAffixL hs ha hk hr hl k 0 (by omega) n f (by unfold affW; simpa using h)
  exact ⟨n', f', hp, fun Q hQ => ⟨m, hw Q hQ⟩⟩
/-- both sides write the same affix -/
theorem op_affix {sf mf : Nat → Int32} {s : Nat → Nat} (hs : Num6 sf s) (hm : Num6 mf s) {pn : Int32} {pf af al : Nat → Int32} {a k : Nat} (ha : a < 4) (hk : k ≤ 40) (hr : RelAf pn pf af al a k) {w : List Int32} (hl : w.length + k ≤ 256) {n n2 : Int32} {f f2 : Nat → Int32} (h : Pg n f w) (h2 : Pg n2 f2 w) :
    ∃ (n' n2' : Int32) (f' f2' : Nat → Int32), Pg n' f' (w ++ affW s pf k) ∧ Pg n2' f2' (w ++ affW s pf k) ∧ (∀ Q : (Int32 × (Nat → Int32)) → Prop, Q (n', f') → wp_Sc_putAffix n f sf pn pf Q) ∧ (∀ Q : (Int32 × (Nat → Int32)) → Prop, Q (n2', f2') → wp_M_putAffix n2 af al mf f2 (nI a) Q) := by
  obtain ⟨n', f', hp, hw⟩ := s_putAffix hs hk (fun i hi => ⟨_, hr.2.2 i hi⟩) hl h
  obtain ⟨n2', f2', hp2, hw2⟩ := s_mAffix hm ha hk hr hl h2
  exact ⟨n', n2', f', f2', hp, hp2, by rw [hr.1]; exact hw, hw2⟩
/-- the reference's load: all its places cleared, then the digits -/
theorem s_clr128 {af al : Nat → Int32} {u : Int64} {sl : Int32} : ∀ (d i : Nat), i + d = 128 → ∀ g : Nat → Int32, (∀ j, j < i → g j = 0) → ∃ (g' : Nat → Int32) (n : Nat), (∀ j, j < 128 → g' j = 0) ∧ ∀ Q : (Nat → Int32) → Prop, ((u ≤ 0 → wp_M_load_J370 af al sl u g' Q) ∧ (¬ u ≤ 0 → wp_M_load_J370 af al sl (-u) g' Q)) → wp_M_load_L30 n af al u sl (nI i) g Q := by
  intro d
  induction d with
  | zero =>
    intro i hi g h
    obtain rfl : i = 128 := by omega
    refine ⟨g, 1, h, fun Q hQ => ?_⟩
    unfold wp_M_load_L30
    exact ⟨fun _ => hQ, fun z => absurd (nI_le (a := 128) (b := 128) (Nat.le_refl _) (by omega)) z⟩
  | succ d ih =>
    intro i hi g h
    obtain ⟨g', n, hg', hw⟩ := ih (i + 1) (by omega) (upd g i 0) (fun j hj => by
      by_cases hji : j = i
      · subst hji; rw [upd_same]
      · rw [upd_other _ _ hji]; exact h j (by omega))
    refine ⟨g', n + 1, hg', fun Q hQ => ?_⟩
    have hw' := hw Q hQ
    unfold wp_M_load_L30
    rw [nI_clamp (by omega), nI_1]
    have e1 : ¬ (128 : Int32) ≤ nI i := nI_ge (b := 128) (by omega) (by omega)
    exact ⟨fun z => absurd z e1, fun _ => ⟨vp_in_nI (by omega) (by omega), hw'⟩⟩
theorem s_load {pm : Bool} {pn sn : Int32} {pf sf af al : Nat → Int32} {kp ks : Nat} (h0 : RelAf pn pf af al 0 kp) (h1 : RelAf sn sf af al 1 ks) (hk0 : kp ≤ 40) (hk1 : ks ≤ 40) (hpm : PMx pm pf sf kp ks) {u : Int64} {N : Nat} (hN : N ≤ 9223372036854775808) (hu : (u ≤ 0 → u = jI (-(N : Int))) ∧ (¬ u ≤ 0 → -u = jI (-(N : Int)))) {s : Nat} (hs : s ≤ 18) (g : Nat → Int32) :
    ∃ g' : Nat → Int32, DigM g' (dN N ((if pm = true then 2 else 0) - (s : Int)) 19) ∧ ∀ Q : (Nat → Int32) → Prop, Q g' → wp_M_load af al g u (nI s) Q := by
  obtain ⟨g0, n0, hg0, hw0⟩ := s_clr128 (af := af) (al := al) (u := u) (sl := nI s) 128 0 (by omega) g (fun j h => absurd h (Nat.not_lt_zero j))
  have hpow : N / 10 ^ 0 = N := by simp
  have hz : ∀ x : Int, DigM g0 (dN N x 0) := fun x p p1 p2 => by rw [dN_0, hg0 _ (by omega)]; rfl
  have body : ∃ g' : Nat → Int32, DigM g' (dN N ((if pm = true then 2 else 0) - (s : Int)) 19) ∧ ∀ Q : (Nat → Int32) → Prop, Q g' → wp_M_load_J370 af al (nI s) (jI (-(N : Int))) g0 Q := by
    cases hpv : pm with
    | false =>
      have e0 : ((if false = true then 2 else 0) - (s : Int)) = -(s : Int) := by simp
      rw [e0]
      obtain ⟨g', n, hg', hw⟩ := s_loadL (af := af) (al := al) hN (x := -(s : Int)) (by omega) (by omega) 20 0 (by omega) g0 (hz _)
      rw [dN_20 hN] at hg'
      refine ⟨g', hg', fun Q hQ => ?_⟩
      unfold wp_M_load_J370 wp_M_load_J540
      have e1 : -nI s = iI (-(s : Int)) := by rw [nI_iI, iI_neg]
      rw [e1]
      have := hw Q hQ
      rw [hpow] at this
      exact s_pct h0 h1 hk0 hk1 hpm _ (by rw [hpv]; exact ⟨fun _ => ⟨n, this⟩, fun z => (by cases z)⟩)
    | true =>
      have e0 : ((if true = true then 2 else 0) - (s : Int)) = 2 - (s : Int) := by simp
      rw [e0]
      obtain ⟨g', n, hg', hw⟩ := s_loadL (af := af) (al := al) hN (x := 2 - (s : Int)) (by omega) (by omega) 20 0 (by omega) g0 (hz _)
      rw [dN_20 hN] at hg'
      refine ⟨g', hg', fun Q hQ => ?_⟩
      unfold wp_M_load_J370 wp_M_load_J540
      have z2 : (2 : Int32) = iI 2 := by decide
      have e1 : 2 - nI s = iI (2 - (s : Int)) := by rw [nI_iI, z2, iI_sub]
      rw [e1]
      have := hw Q hQ
      rw [hpow] at this
      exact s_pct h0 h1 hk0 hk1 hpm _ (by rw [hpv]; exact ⟨fun z => (by cases z), fun _ => ⟨n, this⟩⟩)
  obtain ⟨g', hg', hw⟩ := body
  refine ⟨g', hg', fun Q hQ => ⟨n0, hw0 Q ⟨fun z => ?_, fun z => ?_⟩⟩⟩
  · rw [hu.1 z]; exact hw Q hQ
  · rw [hu.2 z]; exact hw Q hQ
