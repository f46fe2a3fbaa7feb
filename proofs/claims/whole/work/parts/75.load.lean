/-! fill and load, percent -/
/-- the first i digits of N, from the power x on -/
def dN (N : Nat) (x : Int) (i : Nat) : Int → Nat := fun p => if x ≤ p ∧ p < x + i then N / 10 ^ (p - x).toNat % 10 else 0
theorem dN_0 (N : Nat) (x : Int) : dN N x 0 = fun _ => 0 := by
  funext p
  unfold dN
  rw [if_neg (by omega)]
theorem dN_s (N : Nat) (x : Int) (i : Nat) : dset (dN N x i) (x + i) (N / 10 ^ i % 10) = dN N x (i + 1) := by
  funext p
  unfold dset dN
  by_cases h : p = x + i
  · subst h
    rw [if_pos rfl, if_pos (by omega)]
    have : (x + (i : Int) - x).toNat = i := by omega
    rw [this]
  · rw [if_neg h]
    by_cases h2 : x ≤ p ∧ p < x + i
    · rw [if_pos h2, if_pos (by omega)]
    · rw [if_neg h2, if_neg (by omega)]
theorem p19 {N : Nat} (h : N ≤ 9223372036854775808) : N / 10 ^ 19 % 10 = 0 := by
  have : N / 10 ^ 19 = 0 := Nat.div_eq_of_lt (by omega)
  rw [this]
theorem dN_20 {N : Nat} (h : N ≤ 9223372036854775808) (x : Int) : dN N x 20 = dN N x 19 := by
  rw [← dN_s N x 19]
  funext p
  unfold dset
  by_cases hp : p = x + ((19 : Nat) : Int)
  · rw [if_pos hp, p19 h]
    unfold dN
    rw [if_neg (by omega)]
  · rw [if_neg hp]
theorem dN_ok {N : Nat} {x : Int} (h1 : -18 ≤ x) (h2 : x ≤ 2) : DigOk (dN N x 19) ∧ dN N x 19 21 = 0 := by
  refine ⟨⟨fun p => ?_, fun p hp => ?_⟩, ?_⟩
  · unfold dN
    split
    · omega
    · omega
  · unfold dN
    rw [if_neg (by omega)]
  · unfold dN
    rw [if_neg (by omega)]
theorem n_div {N : Nat} (i : Nat) : N / 10 ^ i / 10 = N / 10 ^ (i + 1) := by rw [Nat.div_div_eq_div_mul, Nat.pow_succ]
theorem n_le {N : Nat} (h : N ≤ 9223372036854775808) (i : Nat) : N / 10 ^ i ≤ 9223372036854775808 := Nat.le_trans (Nat.div_le_self _ _) h
theorem s_fillL {N : Nat} (hN : N ≤ 9223372036854775808) {x : Int} (h1 : -18 ≤ x) (h2 : x ≤ 2) : ∀ (d i : Nat), i + d = 19 → ∀ f : Nat → Int32, DigC f (dN N x i) → ∃ (f' : Nat → Int32) (n : Nat), DigC f' (dN N x 19) ∧ ∀ Q : (Nat → Int32) → Prop, Q f' → wp_Am_fill_L270 n (iI x) (jI (-((N / 10 ^ i : Nat) : Int))) (nI i) f Q := by
  intro d
  induction d with
  | zero =>
    intro i hi f hf
    obtain rfl : i = 19 := by omega
    refine ⟨f, 1, hf, fun Q hQ => ?_⟩
    unfold wp_Am_fill_L270
    exact ⟨fun _ => hQ, fun z => absurd (nI_le (a := 19) (b := 19) (Nat.le_refl _) (by omega)) z⟩
  | succ d ih =>
    intro i hi f hf
    obtain ⟨f', n, hf', hw⟩ := ih (i + 1) (by omega) (upd f (x + i + 18).toNat (nI (N / 10 ^ i % 10))) (by rw [← dN_s]; exact hf.set (by omega) (by omega))
    refine ⟨f', n + 1, hf', fun Q hQ => ?_⟩
    have hw' := hw Q hQ
    unfold wp_Am_fill_L270
    have e1 : ¬ (19 : Int32) ≤ nI i := nI_ge (b := 19) (by omega) (by omega)
    have e2 : iI x + nI i = iI (x + i) := by rw [nI_iI, iI_add]
    rw [jI_dig (n_le hN i), jI_div (n_le hN i), n_div, e2, nI_1]
    exact ⟨fun z => absurd z e1, fun _ => s_put (by omega) (by omega) _ hw'⟩
theorem s_fill {N : Nat} (hN : N ≤ 9223372036854775808) {s : Nat} (hs : s ≤ 18) (hu : Bool) (f : Nat → Int32) : ∃ f' : Nat → Int32, DigC f' (dN N ((if hu = true then 2 else 0) - (s : Int)) 19) ∧ ∀ Q : (Nat → Int32) → Prop, Q f' → wp_Am_fill f (jI (-(N : Int))) (nI s) hu Q := by
  obtain ⟨f0, hf0, hw0⟩ := s_clr0 f
  have hpow : N / 10 ^ 0 = N := by simp
  cases hu with
  | false =>
    have e0 : ((if false = true then 2 else 0) - (s : Int)) = -(s : Int) := by simp
    rw [e0]
    obtain ⟨f', n, hf', hw⟩ := s_fillL hN (x := -(s : Int)) (by omega) (by omega) 19 0 (by omega) f0 (by rw [dN_0]; exact hf0)
    refine ⟨f', hf', fun Q hQ => ?_⟩
    unfold wp_Am_fill wp_Am_fill_J190
    have e1 : -nI s = iI (-(s : Int)) := by rw [nI_iI, iI_neg]
    rw [e1]
    have := hw Q hQ
    rw [hpow] at this
    exact hw0 _ ⟨fun _ => ⟨n, this⟩, fun z => (by cases z)⟩
  | true =>
    have e0 : ((if true = true then 2 else 0) - (s : Int)) = 2 - (s : Int) := by simp
    rw [e0]
    obtain ⟨f', n, hf', hw⟩ := s_fillL hN (x := 2 - (s : Int)) (by omega) (by omega) 19 0 (by omega) f0 (by rw [dN_0]; exact hf0)
    refine ⟨f', hf', fun Q hQ => ?_⟩
    unfold wp_Am_fill wp_Am_fill_J190
    have z2 : (2 : Int32) = iI 2 := by decide
    have e1 : 2 - nI s = iI (2 - (s : Int)) := by rw [nI_iI, z2, iI_sub]
    rw [e1]
    have := hw Q hQ
    rw [hpow] at this
    exact hw0 _ ⟨fun z => (by cases z), fun _ => ⟨n, this⟩⟩
theorem s_loadL {af al : Nat → Int32} {N : Nat} (hN : N ≤ 9223372036854775808) {x : Int} (h1 : -18 ≤ x) (h2 : x ≤ 2) : ∀ (d i : Nat), i + d = 20 → ∀ g : Nat → Int32, DigM g (dN N x i) → ∃ (g' : Nat → Int32) (n : Nat), DigM g' (dN N x 20) ∧ ∀ Q : (Nat → Int32) → Prop, Q g' → wp_M_load_L590 n af al (jI (-((N / 10 ^ i : Nat) : Int))) (iI x) (nI i) g Q := by
  intro d
  induction d with
  | zero =>
    intro i hi g hg
    obtain rfl : i = 20 := by omega
    refine ⟨g, 1, hg, fun Q hQ => ?_⟩
    unfold wp_M_load_L590
    exact ⟨fun _ => hQ, fun z => absurd (nI_le (a := 20) (b := 20) (Nat.le_refl _) (by omega)) z⟩
  | succ d ih =>
    intro i hi g hg
    obtain ⟨g', n, hg', hw⟩ := ih (i + 1) (by omega) (upd g (x + i + 64).toNat (nI (N / 10 ^ i % 10))) (by rw [← dN_s]; exact hg.set (by omega) (by omega))
    refine ⟨g', n + 1, hg', fun Q hQ => ?_⟩
    have hw' := hw Q hQ
    unfold wp_M_load_L590
    have e1 : ¬ (20 : Int32) ≤ nI i := nI_ge (b := 20) (by omega) (by omega)
    have e2 : 64 + iI x + nI i = iI (x + i + 64) := by
      rw [nI_iI, z_64, iI_add, iI_add]
      congr 1
      omega
    rw [jI_dig (n_le hN i), jI_div (n_le hN i), n_div, e2, nI_1, cCl (by omega) (by omega)]
    exact ⟨fun z => absurd z e1, fun _ => ⟨iI_in (by omega) (by omega) (by omega), hw'⟩⟩
theorem s_pctL {af al : Nat → Int32} {a k : Nat} (ha : a < 2) (hk : k ≤ 40) (hal : al a = nI k) : ∀ (d i : Nat), i + d = k → ∀ b0 : Bool, ∃ (b : Bool) (n : Nat), (b = true ↔ b0 = true ∨ ∃ j, i ≤ j ∧ j < k ∧ af (40 * a + j) = 201) ∧ ∀ (K : Bool → Int32 → Prop) (Q : Bool → Unit → Prop), K b (nI (a + 1)) → wp_M_percent_L110 n af al b0 (nI a) (nI i) K Q := by
  intro d
  have ea : (nI a).toNatClampNeg = a := nI_clamp (by omega)
  have ia : vp_in (nI a) 4 := vp_in_nI (by omega) (by omega)
  induction d with
  | zero =>
    intro i hi b0
    obtain rfl : i = k := by omega
    refine ⟨b0, 1, ⟨Or.inl, fun z => z.elim id fun ⟨j, j1, j2, _⟩ => absurd j2 (by omega)⟩, fun K Q hK => ?_⟩
    unfold wp_M_percent_L110
    rw [ea, hal, nI_1]
    exact ⟨ia, fun _ => hK, fun z => absurd (nI_le (Nat.le_refl _) (by omega)) z⟩
  | succ d ih =>
    intro i hi b0
    have hn : ¬ nI k ≤ nI i := nI_ge (by omega) (by omega)
    have e3 : 40 * nI a + nI i = nI (40 * a + i) := by
      have : (40 : Int32) * nI a = nI (40 * a) := pk_mul 40 a
      rw [this, nI_add]
    have go : ∀ b1 : Bool, (b1 = true ↔ b0 = true ∨ af (40 * a + i) = 201) → ∃ (b : Bool) (n : Nat), (b = true ↔ b0 = true ∨ ∃ j, i ≤ j ∧ j < k ∧ af (40 * a + j) = 201) ∧ ∀ (K : Bool → Int32 → Prop) (Q : Bool → Unit → Prop), K b (nI (a + 1)) → wp_M_percent_L110 n af al b1 (nI a) (nI (i + 1)) K Q := by
      intro b1 hb1
      obtain ⟨b, n, hb, hw⟩ := ih (i + 1) (by omega) b1
      refine ⟨b, n, ⟨fun z => ?_, fun z => hb.mpr ?_⟩, hw⟩
      · rcases hb.mp z with h | ⟨j, j1, j2, j3⟩
        · rcases hb1.mp h with h | h
          · exact Or.inl h
          · exact Or.inr ⟨i, by omega, by omega, h⟩
        · exact Or.inr ⟨j, by omega, j2, j3⟩
      · rcases z with h | ⟨j, j1, j2, j3⟩
        · exact Or.inl (hb1.mpr (Or.inl h))
        · by_cases hji : j = i
          · subst hji; exact Or.inl (hb1.mpr (Or.inr j3))
          · exact Or.inr ⟨j, by omega, j2, j3⟩
    cases b0 with
    | true =>
      obtain ⟨b, n, hb, hw⟩ := go true (by simp)
      refine ⟨b, n + 1, hb, fun K Q hK => ?_⟩
      unfold wp_M_percent_L110
      rw [ea, hal, nI_1 i]
      exact ⟨ia, fun z => absurd z hn, fun _ => ⟨fun _ => hw K Q hK, fun z => (by cases z)⟩⟩
    | false =>
      by_cases h0 : af (40 * a + i) = 201
      · obtain ⟨b, n, hb, hw⟩ := go true (by simp [h0])
        refine ⟨b, n + 1, hb, fun K Q hK => ?_⟩
        unfold wp_M_percent_L110
        rw [ea, hal, nI_1 i, e3, nI_clamp (by omega)]
        exact ⟨ia, fun z => absurd z hn, fun _ => ⟨fun z => (by cases z), fun _ => ⟨vp_in_nI (by omega) (by omega), fun z => absurd h0 z, fun _ => hw K Q hK⟩⟩⟩
      · obtain ⟨b, n, hb, hw⟩ := go false (by simp [h0])
        refine ⟨b, n + 1, hb, fun K Q hK => ?_⟩
        unfold wp_M_percent_L110
        rw [ea, hal, nI_1 i, e3, nI_clamp (by omega)]
        exact ⟨ia, fun z => absurd z hn, fun _ => ⟨fun z => (by cases z), fun _ => ⟨vp_in_nI (by omega) (by omega), fun _ => hw K Q hK, fun z => absurd z h0⟩⟩⟩
theorem mc_pct {x y : Int32} (h : mc x y) : y = 201 ↔ x = 259 := by
  rcases h with ⟨rfl, rfl⟩ | ⟨rfl, rfl⟩ | ⟨rfl, h1, h2⟩
  · decide
  · decide
  · constructor
    · intro z; rw [z] at h2; exact absurd h2 (by decide)
    · intro z; rw [z] at h2; exact absurd h2 (by decide)
theorem s_pct {pm : Bool} {pn sn : Int32} {pf sf af al : Nat → Int32} {kp ks : Nat} (h0 : RelAf pn pf af al 0 kp) (h1 : RelAf sn sf af al 1 ks) (hk0 : kp ≤ 40) (hk1 : ks ≤ 40) (hpm : PMx pm pf sf kp ks) : ∀ Q : Bool → Unit → Prop, Q pm () → wp_M_percent af al Q := by
  intro Q hQ
  obtain ⟨b1, n1, hb1, hw1⟩ := s_pctL (a := 0) (by omega) hk0 h0.2.1 kp 0 (by omega) false
  obtain ⟨b2, n2, hb2, hw2⟩ := s_pctL (a := 1) (by omega) hk1 h1.2.1 ks 0 (by omega) b1
  have e : b2 = pm := by
    have t : b2 = true ↔ pm = true := by
      unfold PMx at hpm
      rw [hb2, hb1, hpm]
      constructor
      · rintro ((z | ⟨j, -, j2, j3⟩) | ⟨j, -, j2, j3⟩)
        · cases z
        · exact Or.inl ⟨j, j2, (mc_pct (h0.2.2 j j2)).mp j3⟩
        · exact Or.inr ⟨j, j2, (mc_pct (h1.2.2 j j2)).mp j3⟩
      · rintro (⟨j, j2, j3⟩ | ⟨j, j2, j3⟩)
        · exact Or.inl (Or.inr ⟨j, by omega, j2, (mc_pct (h0.2.2 j j2)).mpr j3⟩)
        · exact Or.inr ⟨j, by omega, j2, (mc_pct (h1.2.2 j j2)).mpr j3⟩
    exact Bool.eq_iff_iff.mpr t
  subst e
  refine ⟨3, ?_⟩
  unfold wp_M_percent_L40
  refine ⟨fun z => absurd z (by decide), fun _ => ⟨n1, hw1 _ _ ?_⟩⟩
  show wp_M_percent_L40 2 af al b1 (nI 1) Q
  unfold wp_M_percent_L40
  refine ⟨fun z => absurd z (by decide), fun _ => ⟨n2, hw2 _ _ ?_⟩⟩
  show wp_M_percent_L40 1 af al b2 (nI 2) Q
  unfold wp_M_percent_L40
  exact ⟨fun _ => hQ, fun z => absurd (by decide) z⟩
