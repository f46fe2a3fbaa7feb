/-! digits: clearing, the first and the last that isn't zero -/
section DH
variable {D : Int → Nat} {f g : Nat → Int32}
def dclr (D : Int → Nat) (k : Int) : Int → Nat := fun p => if p < k then 0 else D p
theorem DigOk.clr (hD : DigOk D) (k : Int) : DigOk (dclr D k) := by
  refine ⟨fun p => ?_, fun p hp => ?_⟩
  · unfold dclr; split
    · omega
    · exact hD.1 p
  · unfold dclr; split
    · rfl
    · exact hD.2 p hp
/-- the class: what stands below k is cleared (f holds digits of any kind before) -/
theorem s_clrL {k : Int} (k1 : -1000 ≤ k) (k2 : k ≤ 1000) : ∀ (d : Nat) (i : Int), i + d = 22 → -18 ≤ i → ∀ f : Nat → Int32, ∃ (f' : Nat → Int32) (n : Nat), (∀ p : Int, -18 ≤ p → p ≤ 21 → f' (p + 18).toNat = if i ≤ p ∧ p < k then 0 else f (p + 18).toNat) ∧ ∀ Q : (Nat → Int32) → Prop, Q f' → wp_Am_clearBelow_L30 n (iI k) (iI i) f Q := by
  intro d
  induction d with
  | zero =>
    intro i hi h18 f
    refine ⟨f, 1, fun p p1 p2 => by rw [if_neg (by omega)], fun Q hQ => ?_⟩
    unfold wp_Am_clearBelow_L30
    rw [z_21, cLe (by omega) (by omega) (by omega) (by omega), cLt (by omega) (by omega) (by omega) (by omega)]
    exact ⟨fun _ => hQ, fun _ => ⟨fun _ => hQ, fun z => absurd (show (21 : Int) < i by omega) z⟩⟩
  | succ d ih =>
    intro i hi h18 f
    have e1 : (i - -18) = i + 18 := by omega
    by_cases hk : k ≤ i
    · refine ⟨f, 1, fun p p1 p2 => by rw [if_neg (by omega)], fun Q hQ => ?_⟩
      unfold wp_Am_clearBelow_L30
      rw [cLe (by omega) (by omega) (by omega) (by omega)]
      exact ⟨fun _ => hQ, fun z => absurd hk z⟩
    · obtain ⟨f', n, hf', hw⟩ := ih (i + 1) (by omega) (by omega) (upd f (i + 18).toNat 0)
      refine ⟨f', n + 1, fun p p1 p2 => ?_, fun Q hQ => ?_⟩
      · rw [hf' p p1 p2]
        by_cases hpi : p = i
        · subst hpi; rw [if_neg (by omega), if_pos (by omega), upd_same]
        · rw [upd_other _ _ (by omega)]
          by_cases h : i + 1 ≤ p ∧ p < k
          · rw [if_pos h, if_pos (by omega)]
          · rw [if_neg h, if_neg (by omega)]
      · unfold wp_Am_clearBelow_L30
        rw [z_m18, z_21, z_1, iI_sub, iI_add, cLe (by omega) (by omega) (by omega) (by omega), cLt (by omega) (by omega) (by omega) (by omega), cCl (by omega) (by omega), e1]
        exact ⟨fun z => absurd z hk, fun _ => ⟨fun z => absurd z (by omega), fun _ => ⟨iI_in (by omega) (by omega) (by omega), hw Q hQ⟩⟩⟩
theorem s_clr (hf : DigC f D) {k : Int} (k1 : -1000 ≤ k) (k2 : k ≤ 1000) : ∃ f' : Nat → Int32, DigC f' (dclr D k) ∧ ∀ Q : (Nat → Int32) → Prop, Q f' → wp_Am_clearBelow f (iI k) Q := by
  obtain ⟨f', n, hf', hw⟩ := s_clrL k1 k2 40 (-18) (by omega) (by omega) f
  refine ⟨f', fun p p1 p2 => ?_, fun Q hQ => ⟨n, by rw [z_m18]; exact hw Q hQ⟩⟩
  rw [hf' p p1 p2]
  unfold dclr
  by_cases h : p < k
  · rw [if_pos ⟨p1, h⟩, if_pos h]; rfl
  · rw [if_neg (by omega), if_neg h]; exact hf p p1 p2
theorem s_clr0 (f : Nat → Int32) : ∃ f' : Nat → Int32, DigC f' (fun _ => 0) ∧ ∀ Q : (Nat → Int32) → Prop, Q f' → wp_Am_clearBelow f 22 Q := by
  obtain ⟨f', n, hf', hw⟩ := s_clrL (k := 22) (by omega) (by omega) 40 (-18) (by omega) (by omega) f
  refine ⟨f', fun p p1 p2 => ?_, fun Q hQ => ⟨n, by rw [z_m18, z_22]; exact hw Q hQ⟩⟩
  rw [hf' p p1 p2, if_pos ⟨p1, by omega⟩]; rfl
theorem s_firstL (hD : DigOk D) (hf : DigC f D) : ∀ (d : Nat), d ≤ 39 → (∀ p, -18 + (d : Int) < p → D p = 0) → ∃ (r : Int32) (n : Nat), (∀ t, Top D t → r = iI t) ∧ ((∀ p, D p = 0) → r = iI (-18)) ∧ ∀ Q : Int32 → Unit → Prop, Q r () → wp_Am_firstPower_L30 n f (iI (-18 + (d : Int))) Q := by
  intro d
  induction d with
  | zero =>
    intro _ hz
    refine ⟨iI (-18), 1, fun t ht => ?_, fun _ => rfl, fun Q hQ => ?_⟩
    · by_cases h : t = -18
      · rw [h]
      · by_cases h2 : t < -18
        · exact absurd (hD.2 t (Or.inl h2)) ht.1
        · exact absurd (hz t (by omega)) ht.1
    · unfold wp_Am_firstPower_L30
      rw [z_m18, cLe (by omega) (by omega) (by omega) (by omega)]
      exact ⟨fun _ => hQ, fun z => absurd (show (-18 + ((0 : Nat) : Int)) ≤ -18 by omega) z⟩
  | succ d ih =>
    intro hd hz
    have e0 : (-18 + ((d + 1 : Nat) : Int)) = -18 + (d : Int) + 1 := by omega
    rw [e0] at hz ⊢
    by_cases h0 : D (-18 + (d : Int) + 1) = 0
    · obtain ⟨r, n, h1, h2, hw⟩ := ih (by omega) (fun p hp => by
        by_cases h : p = -18 + (d : Int) + 1
        · rw [h]; exact h0
        · exact hz p (by omega))
      refine ⟨r, n + 1, h1, h2, fun Q hQ => ?_⟩
      unfold wp_Am_firstPower_L30
      have e1 : (-18 + (d : Int) + 1 + -1) = -18 + (d : Int) := by omega
      rw [z_m18, z_m1, iI_add, e1, cLe (by omega) (by omega) (by omega) (by omega)]
      exact ⟨fun z => absurd z (by omega), fun _ => s_digit hD hf (by omega) (by omega) _ (by rw [dz (hD.1 _)]; exact ⟨fun _ => hw Q hQ, fun z => absurd h0 z⟩)⟩
    · refine ⟨iI (-18 + (d : Int) + 1), 1, fun t ht => ?_, fun z => absurd (z _) h0, fun Q hQ => ?_⟩
      · by_cases h : t < -18 + (d : Int) + 1
        · exact absurd (ht.2 _ h) h0
        · by_cases h2 : -18 + (d : Int) + 1 < t
          · exact absurd (hz t h2) ht.1
          · have : t = -18 + (d : Int) + 1 := by omega
            rw [this]
      · unfold wp_Am_firstPower_L30
        rw [z_m18, cLe (by omega) (by omega) (by omega) (by omega)]
        exact ⟨fun z => absurd z (by omega), fun _ => s_digit hD hf (by omega) (by omega) _ (by rw [dz (hD.1 _)]; exact ⟨fun z => absurd z h0, fun _ => hQ⟩)⟩
theorem s_first (hD : DigOk D) (hf : DigC f D) : ∃ r : Int32, (∀ t, Top D t → r = iI t) ∧ ((∀ p, D p = 0) → r = iI (-18)) ∧ ∀ Q : Int32 → Unit → Prop, Q r () → wp_Am_firstPower f Q := by
  obtain ⟨r, n, h1, h2, hw⟩ := s_firstL hD hf 39 (by omega) (fun p hp => hD.2 p (Or.inr (by omega)))
  exact ⟨r, h1, h2, fun Q hQ => ⟨n, by rw [z_21]; exact hw Q hQ⟩⟩
theorem s_lastL (hD : DigOk D) (hf : DigC f D) : ∀ (d : Nat), d ≤ 39 → (∀ p, p < 21 - (d : Int) → D p = 0) → ∃ (r : Int32) (n : Nat), (∀ t, Bot D t → r = iI t) ∧ ∀ Q : Int32 → Unit → Prop, Q r () → wp_Am_lastPower_L30 n f (iI (21 - (d : Int))) Q := by
  intro d
  induction d with
  | zero =>
    intro _ hz
    refine ⟨iI 21, 1, fun t ht => ?_, fun Q hQ => ?_⟩
    · by_cases h : t = 21
      · rw [h]
      · by_cases h2 : 21 < t
        · exact absurd (hD.2 t (Or.inr h2)) ht.1
        · exact absurd (hz t (by omega)) ht.1
    · unfold wp_Am_lastPower_L30
      rw [z_21, cLe (by omega) (by omega) (by omega) (by omega)]
      exact ⟨fun _ => hQ, fun z => absurd (show (21 : Int) ≤ 21 - ((0 : Nat) : Int) by omega) z⟩
  | succ d ih =>
    intro hd hz
    have e0 : (21 - ((d + 1 : Nat) : Int)) = 21 - (d : Int) - 1 := by omega
    rw [e0] at hz ⊢
    by_cases h0 : D (21 - (d : Int) - 1) = 0
    · obtain ⟨r, n, h1, hw⟩ := ih (by omega) (fun p hp => by
        by_cases h : p = 21 - (d : Int) - 1
        · rw [h]; exact h0
        · exact hz p (by omega))
      refine ⟨r, n + 1, h1, fun Q hQ => ?_⟩
      unfold wp_Am_lastPower_L30
      have e1 : (21 - (d : Int) - 1 + 1) = 21 - (d : Int) := by omega
      rw [z_21, z_1, iI_add, e1, cLe (by omega) (by omega) (by omega) (by omega)]
      exact ⟨fun z => absurd z (by omega), fun _ => s_digit hD hf (by omega) (by omega) _ (by rw [dz (hD.1 _)]; exact ⟨fun _ => hw Q hQ, fun z => absurd h0 z⟩)⟩
    · refine ⟨iI (21 - (d : Int) - 1), 1, fun t ht => ?_, fun Q hQ => ?_⟩
      · by_cases h : 21 - (d : Int) - 1 < t
        · exact absurd (ht.2 _ h) h0
        · by_cases h2 : t < 21 - (d : Int) - 1
          · exact absurd (hz t h2) ht.1
          · have : t = 21 - (d : Int) - 1 := by omega
            rw [this]
      · unfold wp_Am_lastPower_L30
        rw [z_21, cLe (by omega) (by omega) (by omega) (by omega)]
        exact ⟨fun z => absurd z (by omega), fun _ => s_digit hD hf (by omega) (by omega) _ (by rw [dz (hD.1 _)]; exact ⟨fun z => absurd z h0, fun _ => hQ⟩)⟩
theorem s_last (hD : DigOk D) (hf : DigC f D) : ∃ r : Int32, (∀ t, Bot D t → r = iI t) ∧ ∀ Q : Int32 → Unit → Prop, Q r () → wp_Am_lastPower f Q := by
  obtain ⟨r, n, h1, hw⟩ := s_lastL hD hf 39 (by omega) (fun p hp => hD.2 p (Or.inl (by omega)))
  exact ⟨r, h1, fun Q hQ => ⟨n, by rw [z_m18]; exact hw Q hQ⟩⟩
theorem s_isZero (hD : DigOk D) (hf : DigC f D) : ∃ b : Bool, (b = true ↔ ∀ p, D p = 0) ∧ ∀ Q : Bool → Unit → Prop, Q b () → wp_Am_isZero f Q := by
  obtain ⟨b, hb, hw⟩ := s_any hD hf (k := 22) (by omega) (by omega)
  refine ⟨!b, ⟨fun h p => ?_, fun h => ?_⟩, fun Q hQ => ?_⟩
  · by_cases h0 : D p = 0
    · exact h0
    · have : b = true := hb.mpr ⟨p, by
        by_cases h2 : 21 < p
        · exact absurd (hD.2 p (Or.inr h2)) h0
        · omega, h0⟩
      rw [this] at h; cases h
  · cases hbv : b with
    | false => rfl
    | true =>
      obtain ⟨p, -, h0⟩ := hb.mp hbv
      exact absurd (h p) h0
  · unfold wp_Am_isZero
    rw [z_22]
    exact hw _ ⟨fun h => by rw [h] at hQ; exact hQ, fun h => by rw [h] at hQ; exact hQ⟩
theorem s_topL (hD : DigOk D) (hg : DigM g D) : ∀ (d : Nat) (i : Int), i + d = 64 → -64 ≤ i → ∀ t0 : Int32, ∃ (r : Int32) (n : Nat), (∀ t, Top D t → i ≤ t → r = iI t) ∧ ((∀ p, i ≤ p → D p = 0) → r = t0) ∧ ∀ Q : Int32 → Unit → Prop, Q r () → wp_M_top_L60 n g t0 (iI i) Q := by
  intro d
  induction d with
  | zero =>
    intro i hi h64 t0
    refine ⟨t0, 1, fun t ht h => absurd (hD.2 t (Or.inr (by omega))) ht.1, fun _ => rfl, fun Q hQ => ?_⟩
    unfold wp_M_top_L60
    rw [z_64, cLe (by omega) (by omega) (by omega) (by omega)]
    exact ⟨fun _ => hQ, fun z => absurd (show (64 : Int) ≤ i by omega) z⟩
  | succ d ih =>
    intro i hi h64 t0
    by_cases h0 : D i = 0
    · obtain ⟨r, n, h1, h2, hw⟩ := ih (i + 1) (by omega) (by omega) t0
      refine ⟨r, n + 1, fun t ht h => h1 t ht ?_, fun h => h2 (fun p hp => h p (by omega)), fun Q hQ => ?_⟩
      · by_cases hti : t = i
        · subst hti; exact absurd h0 ht.1
        · omega
      · unfold wp_M_top_L60
        rw [z_64, z_1, iI_add, cLe (by omega) (by omega) (by omega) (by omega)]
        exact ⟨fun z => absurd z (by omega), fun _ => s_digitAt hD hg (by omega) (by omega) _ (by rw [dz (hD.1 _)]; exact ⟨fun _ => hw Q hQ, fun z => absurd h0 z⟩)⟩
    · obtain ⟨r, n, h1, h2, hw⟩ := ih (i + 1) (by omega) (by omega) (iI i)
      refine ⟨r, n + 1, fun t ht h => ?_, fun h => absurd (h i (Int.le_refl i)) h0, fun Q hQ => ?_⟩
      · by_cases hti : t = i
        · subst hti; exact h2 (fun p hp => ht.2 p (by omega))
        · exact h1 t ht (by omega)
      · unfold wp_M_top_L60
        rw [z_64, z_1, iI_add, cLe (by omega) (by omega) (by omega) (by omega)]
        exact ⟨fun z => absurd z (by omega), fun _ => s_digitAt hD hg (by omega) (by omega) _ (by rw [dz (hD.1 _)]; exact ⟨fun z => absurd z h0, fun _ => hw Q hQ⟩)⟩
theorem s_top (hD : DigOk D) (hg : DigM g D) : ∃ r : Int32, (∀ t, Top D t → r = iI t) ∧ ((∀ p, D p = 0) → r = iI (-100)) ∧ ∀ Q : Int32 → Unit → Prop, Q r () → wp_M_top g Q := by
  obtain ⟨r, n, h1, h2, hw⟩ := s_topL hD hg 128 (-64) (by omega) (by omega) (iI (-100))
  refine ⟨r, fun t ht => h1 t ht ?_, fun h => h2 (fun p _ => h p), fun Q hQ => ⟨n, by rw [z_m100, z_m64]; exact hw Q hQ⟩⟩
  by_cases h : t < -18
  · exact absurd (hD.2 t (Or.inl h)) ht.1
  · omega
/-- digits that aren't all zero have a first one and a last one -/
theorem dig_has (hD : DigOk D) (h : ¬ ∀ p, D p = 0) : ∃ t l, Top D t ∧ Bot D l ∧ l ≤ t ∧ -18 ≤ l ∧ t ≤ 21 := by
  have hex : ∃ p, D p ≠ 0 := Classical.byContradiction fun hn => h fun p => Classical.byContradiction fun z => hn ⟨p, z⟩
  obtain ⟨p, hp⟩ := hex
  have hr : -18 ≤ p ∧ p ≤ 21 := by
    constructor
    · by_cases z : p < -18
      · exact absurd (hD.2 p (Or.inl z)) hp
      · omega
    · by_cases z : 21 < p
      · exact absurd (hD.2 p (Or.inr z)) hp
      · omega
  obtain ⟨a, ha, hmin⟩ := pk_least (fun n => D (-18 + (n : Int)) ≠ 0) ⟨(p + 18).toNat, by
    have : -18 + (((p + 18).toNat : Nat) : Int) = p := by omega
    show D (-18 + (((p + 18).toNat : Nat) : Int)) ≠ 0
    rw [this]; exact hp⟩
  obtain ⟨c, hc, hmin2⟩ := pk_least (fun n => D (21 - (n : Int)) ≠ 0) ⟨(21 - p).toNat, by
    have : 21 - (((21 - p).toNat : Nat) : Int) = p := by omega
    show D (21 - (((21 - p).toNat : Nat) : Int)) ≠ 0
    rw [this]; exact hp⟩
  have hb : ∀ q, q < -18 + (a : Int) → D q = 0 := fun q hq => by
    by_cases z : q < -18
    · exact hD.2 q (Or.inl z)
    · have e : q = -18 + (((q + 18).toNat : Nat) : Int) := by omega
      have := hmin (q + 18).toNat (by omega)
      rw [e]; exact Classical.byContradiction this
  have ht : ∀ q, 21 - (c : Int) < q → D q = 0 := fun q hq => by
    by_cases z : 21 < q
    · exact hD.2 q (Or.inr z)
    · have e : q = 21 - (((21 - q).toNat : Nat) : Int) := by omega
      have := hmin2 (21 - q).toNat (by omega)
      rw [e]; exact Classical.byContradiction this
  refine ⟨21 - (c : Int), -18 + (a : Int), ⟨hc, ht⟩, ⟨ha, hb⟩, ?_, by omega, by omega⟩
  by_cases z : 21 - (c : Int) < -18 + (a : Int)
  · exact absurd (ht _ z) ha
  · omega
end DH
