/-! digits under their powers of ten: D p, class (powers -18 .. 21) and reference (-64 .. 63) -/
def DigOk (D : Int → Nat) : Prop := (∀ p, D p ≤ 9) ∧ ∀ p, p < -18 ∨ 21 < p → D p = 0
def DigC (f : Nat → Int32) (D : Int → Nat) : Prop := ∀ p : Int, -18 ≤ p → p ≤ 21 → f (p + 18).toNat = nI (D p)
def DigM (g : Nat → Int32) (D : Int → Nat) : Prop := ∀ p : Int, -64 ≤ p → p ≤ 63 → g (p + 64).toNat = nI (D p)
def Top (D : Int → Nat) (t : Int) : Prop := D t ≠ 0 ∧ ∀ p, t < p → D p = 0
def Bot (D : Int → Nat) (t : Int) : Prop := D t ≠ 0 ∧ ∀ p, p < t → D p = 0
theorem z_m18 : (-18 : Int32) = iI (-18) := by decide
theorem z_21 : (21 : Int32) = iI 21 := by decide
theorem z_22 : (22 : Int32) = iI 22 := by decide
theorem z_m64 : (-64 : Int32) = iI (-64) := by decide
theorem z_63 : (63 : Int32) = iI 63 := by decide
theorem z_64 : (64 : Int32) = iI 64 := by decide
theorem z_m100 : (-100 : Int32) = iI (-100) := by decide
theorem z_1 : (1 : Int32) = iI 1 := by decide
theorem z_m1 : (-1 : Int32) = iI (-1) := by decide
theorem z_0 : (0 : Int32) = iI 0 := by decide
theorem cLt {a b : Int} (h1 : -100000 ≤ a) (h2 : a ≤ 100000) (h3 : -100000 ≤ b) (h4 : b ≤ 100000) : (iI a < iI b) = (a < b) := propext (iI_lt ⟨by omega, by omega⟩ ⟨by omega, by omega⟩)
theorem cLe {a b : Int} (h1 : -100000 ≤ a) (h2 : a ≤ 100000) (h3 : -100000 ≤ b) (h4 : b ≤ 100000) : (iI a ≤ iI b) = (a ≤ b) := propext (iI_le ⟨by omega, by omega⟩ ⟨by omega, by omega⟩)
theorem cEq {a b : Int} (h1 : -100000 ≤ a) (h2 : a ≤ 100000) (h3 : -100000 ≤ b) (h4 : b ≤ 100000) : (iI a = iI b) = (a = b) := propext (iI_eq ⟨by omega, by omega⟩ ⟨by omega, by omega⟩)
theorem cCl {a : Int} (h1 : -100000 ≤ a) (h2 : a ≤ 100000) : (iI a).toNatClampNeg = a.toNat := iI_clamp ⟨by omega, by omega⟩
theorem dz {d : Nat} (h : d ≤ 9) : (nI d = 0) = (d = 0) := propext ⟨fun z => (nI_eq (b := 0) (by omega) (by omega)).mp z, fun z => by rw [z]; rfl⟩
section DG
variable {D : Int → Nat} {f g : Nat → Int32}
theorem s_digit (hD : DigOk D) (hf : DigC f D) {p : Int} (h1 : -1000 ≤ p) (h2 : p ≤ 1000) : ∀ Q : Int32 → Unit → Prop, Q (nI (D p)) () → wp_Am_digit f (iI p) Q := by
  intro Q hQ
  unfold wp_Am_digit
  rw [z_m18, z_21, iI_sub, cLt (by omega) (by omega) (by omega) (by omega), cLt (by omega) (by omega) (by omega) (by omega), cCl (by omega) (by omega)]
  refine ⟨fun h => ?_, fun h => ⟨fun h' => ?_, fun h' => ⟨iI_in (by omega) (by omega) (by omega), ?_⟩⟩⟩
  · rw [hD.2 p (Or.inl h)] at hQ; exact hQ
  · rw [hD.2 p (Or.inr h')] at hQ; exact hQ
  · have : (p - -18) = p + 18 := by omega
    rw [this, hf p (by omega) (by omega)]; exact hQ
theorem s_digitAt (hD : DigOk D) (hg : DigM g D) {p : Int} (h1 : -1000 ≤ p) (h2 : p ≤ 1000) : ∀ Q : Int32 → Unit → Prop, Q (nI (D p)) () → wp_M_digitAt g (iI p) Q := by
  intro Q hQ
  unfold wp_M_digitAt
  rw [z_m64, z_63, z_64, iI_add, cLt (by omega) (by omega) (by omega) (by omega), cLe (by omega) (by omega) (by omega) (by omega), cCl (by omega) (by omega)]
  refine ⟨fun h => ?_, fun h => ⟨fun h' => ⟨iI_in (by omega) (by omega) (by omega), ?_⟩, fun h' => ?_⟩⟩
  · rw [hD.2 p (Or.inl (by omega))] at hQ; exact hQ
  · have : (64 + p) = p + 64 := by omega
    rw [this, hg p (by omega) (by omega)]; exact hQ
  · rw [hD.2 p (Or.inr (by omega))] at hQ; exact hQ
/-- the digit at one power changed -/
def dset (D : Int → Nat) (p : Int) (v : Nat) : Int → Nat := fun q => if q = p then v else D q
theorem dset_same {p : Int} {v : Nat} : dset D p v p = v := if_pos rfl
theorem dset_other {p q : Int} {v : Nat} (h : q ≠ p) : dset D p v q = D q := if_neg h
theorem DigOk.set (hD : DigOk D) {p : Int} {v : Nat} (h1 : -18 ≤ p) (h2 : p ≤ 21) (hv : v ≤ 9) : DigOk (dset D p v) := by
  refine ⟨fun q => ?_, fun q hq => ?_⟩
  · by_cases h : q = p
    · subst h; rw [dset_same]; exact hv
    · rw [dset_other h]; exact hD.1 q
  · rw [dset_other (by omega)]; exact hD.2 q hq
theorem DigC.set (hf : DigC f D) {p : Int} {v : Nat} (h1 : -18 ≤ p) (h2 : p ≤ 21) : DigC (upd f (p + 18).toNat (nI v)) (dset D p v) := fun q h3 h4 => by
  by_cases h : q = p
  · subst h; rw [upd_same, dset_same]
  · rw [upd_other _ _ (by omega), dset_other h]; exact hf q h3 h4
theorem DigM.set (hg : DigM g D) {p : Int} {v : Nat} (h1 : -64 ≤ p) (h2 : p ≤ 63) : DigM (upd g (p + 64).toNat (nI v)) (dset D p v) := fun q h3 h4 => by
  by_cases h : q = p
  · subst h; rw [upd_same, dset_same]
  · rw [upd_other _ _ (by omega), dset_other h]; exact hg q h3 h4
theorem s_put {p : Int} {v : Nat} (h1 : -18 ≤ p) (h2 : p ≤ 21) : ∀ Q : (Nat → Int32) → Prop, Q (upd f (p + 18).toNat (nI v)) → wp_Am_put f (iI p) (nI v) Q := by
  intro Q hQ
  unfold wp_Am_put
  have : (p - -18) = p + 18 := by omega
  rw [z_m18, z_21, iI_sub, cLt (by omega) (by omega) (by omega) (by omega), cLt (by omega) (by omega) (by omega) (by omega), cCl (by omega) (by omega), this]
  exact ⟨fun h => absurd h (by omega), fun _ => ⟨fun h => absurd h (by omega), fun _ => ⟨iI_in (by omega) (by omega) (by omega), hQ⟩⟩⟩
theorem s_anyL (hD : DigOk D) (hf : DigC f D) {k : Int} (k1 : -1000 ≤ k) (k2 : k ≤ 1000) : ∀ (d : Nat) (i : Int), i + d = 22 → -18 ≤ i → ∃ (b : Bool) (n : Nat), (b = true ↔ ∃ p, i ≤ p ∧ p < k ∧ D p ≠ 0) ∧ ∀ Q : Bool → Unit → Prop, Q b () → wp_Am_anyBelow_L30 n f (iI k) (iI i) Q := by
  intro d
  induction d with
  | zero =>
    intro i hi h18
    refine ⟨false, 1, ⟨fun z => (by cases z), fun ⟨p, p1, p2, p3⟩ => absurd (hD.2 p (Or.inr (by omega))) p3⟩, fun Q hQ => ?_⟩
    unfold wp_Am_anyBelow_L30
    rw [z_21, cLe (by omega) (by omega) (by omega) (by omega), cLt (by omega) (by omega) (by omega) (by omega)]
    exact ⟨fun _ => hQ, fun _ => ⟨fun _ => hQ, fun z => absurd (show (21 : Int) < i by omega) z⟩⟩
  | succ d ih =>
    intro i hi h18
    obtain ⟨b, n, hb, hw⟩ := ih (i + 1) (by omega) (by omega)
    have e1 : (i - -18) = i + 18 := by omega
    have hfi := hf i (by omega) (by omega)
    by_cases hk : k ≤ i
    · refine ⟨false, 1, ⟨fun z => (by cases z), fun ⟨p, p1, p2, p3⟩ => absurd p2 (by omega)⟩, fun Q hQ => ?_⟩
      unfold wp_Am_anyBelow_L30
      rw [cLe (by omega) (by omega) (by omega) (by omega)]
      exact ⟨fun _ => hQ, fun z => absurd hk z⟩
    · by_cases h0 : D i = 0
      · refine ⟨b, n + 1, ⟨fun z => ?_, fun ⟨p, p1, p2, p3⟩ => hb.mpr ⟨p, ?_, p2, p3⟩⟩, fun Q hQ => ?_⟩
        · obtain ⟨p, p1, p2, p3⟩ := hb.mp z
          exact ⟨p, by omega, p2, p3⟩
        · by_cases hpi : p = i
          · subst hpi; exact absurd h0 p3
          · omega
        · unfold wp_Am_anyBelow_L30
          rw [z_m18, z_21, z_1, iI_sub, iI_add, cLe (by omega) (by omega) (by omega) (by omega), cLt (by omega) (by omega) (by omega) (by omega), cCl (by omega) (by omega), e1, hfi, dz (hD.1 i)]
          exact ⟨fun z => absurd z hk, fun _ => ⟨fun z => absurd z (by omega), fun _ => ⟨iI_in (by omega) (by omega) (by omega), fun _ => hw Q hQ, fun z => absurd h0 z⟩⟩⟩
      · refine ⟨true, 1, ⟨fun _ => ⟨i, by omega, by omega, h0⟩, fun _ => rfl⟩, fun Q hQ => ?_⟩
        unfold wp_Am_anyBelow_L30
        rw [z_m18, z_21, iI_sub, cLe (by omega) (by omega) (by omega) (by omega), cLt (by omega) (by omega) (by omega) (by omega), cCl (by omega) (by omega), e1, hfi, dz (hD.1 i)]
        exact ⟨fun z => absurd z hk, fun _ => ⟨fun z => absurd z (by omega), fun _ => ⟨iI_in (by omega) (by omega) (by omega), fun z => absurd z h0, fun _ => hQ⟩⟩⟩
theorem s_any (hD : DigOk D) (hf : DigC f D) {k : Int} (k1 : -1000 ≤ k) (k2 : k ≤ 1000) : ∃ b : Bool, (b = true ↔ ∃ p, p < k ∧ D p ≠ 0) ∧ ∀ Q : Bool → Unit → Prop, Q b () → wp_Am_anyBelow f (iI k) Q := by
  obtain ⟨b, n, hb, hw⟩ := s_anyL hD hf k1 k2 40 (-18) (by omega) (by omega)
  refine ⟨b, ⟨fun z => ?_, fun ⟨p, p1, p2⟩ => hb.mpr ⟨p, ?_, p1, p2⟩⟩, fun Q hQ => ⟨n, by rw [z_m18]; exact hw Q hQ⟩⟩
  · obtain ⟨p, -, p2, p3⟩ := hb.mp z
    exact ⟨p, p2, p3⟩
  · by_cases h : p < -18
    · exact absurd (hD.2 p (Or.inl h)) p2
    · omega
theorem s_belowL (hD : DigOk D) (hg : DigM g D) {k : Int} (k1 : -1000 ≤ k) (k2 : k ≤ 1000) : ∀ (d : Nat) (i : Int), i + d = k → -64 ≤ i → ∀ b0 : Bool, ∃ (b : Bool) (n : Nat), (b = true ↔ b0 = true ∨ ∃ p, i ≤ p ∧ p < k ∧ D p ≠ 0) ∧ ∀ Q : Bool → Unit → Prop, Q b () → wp_M_below_L50 n g (iI k) b0 (iI i) Q := by
  intro d
  induction d with
  | zero =>
    intro i hi h64 b0
    refine ⟨b0, 1, ⟨Or.inl, fun z => z.elim id fun ⟨p, p1, p2, _⟩ => absurd p2 (by omega)⟩, fun Q hQ => ?_⟩
    unfold wp_M_below_L50
    rw [cLe (by omega) (by omega) (by omega) (by omega)]
    exact ⟨fun _ => hQ, fun z => absurd (show k ≤ i by omega) z⟩
  | succ d ih =>
    intro i hi h64 b0
    have hk : ¬ k ≤ i := by omega
    have go : ∀ b1 : Bool, (b1 = true ↔ b0 = true ∨ D i ≠ 0) → ∃ (b : Bool) (n : Nat), (b = true ↔ b0 = true ∨ ∃ p, i ≤ p ∧ p < k ∧ D p ≠ 0) ∧ ∀ Q : Bool → Unit → Prop, Q b () → wp_M_below_L50 n g (iI k) b1 (iI (i + 1)) Q := by
      intro b1 hb1
      obtain ⟨b, n, hb, hw⟩ := ih (i + 1) (by omega) (by omega) b1
      refine ⟨b, n, ⟨fun z => ?_, fun z => hb.mpr ?_⟩, hw⟩
      · rcases hb.mp z with h | ⟨p, p1, p2, p3⟩
        · rcases hb1.mp h with h | h
          · exact Or.inl h
          · exact Or.inr ⟨i, by omega, by omega, h⟩
        · exact Or.inr ⟨p, by omega, p2, p3⟩
      · rcases z with h | ⟨p, p1, p2, p3⟩
        · exact Or.inl (hb1.mpr (Or.inl h))
        · by_cases hpi : p = i
          · subst hpi; exact Or.inl (hb1.mpr (Or.inr p3))
          · exact Or.inr ⟨p, by omega, p2, p3⟩
    cases b0 with
    | true =>
      obtain ⟨b, n, hb, hw⟩ := go true (by simp)
      refine ⟨b, n + 1, hb, fun Q hQ => ?_⟩
      unfold wp_M_below_L50
      rw [z_1, iI_add, cLe (by omega) (by omega) (by omega) (by omega)]
      exact ⟨fun z => absurd z hk, fun _ => ⟨fun _ => hw Q hQ, fun z => (by cases z)⟩⟩
    | false =>
      by_cases h0 : D i = 0
      · obtain ⟨b, n, hb, hw⟩ := go false (by simp [h0])
        refine ⟨b, n + 1, hb, fun Q hQ => ?_⟩
        unfold wp_M_below_L50
        rw [z_1, iI_add, cLe (by omega) (by omega) (by omega) (by omega)]
        exact ⟨fun z => absurd z hk, fun _ => ⟨fun z => (by cases z), fun _ => s_digitAt hD hg (by omega) (by omega) _ (by rw [dz (hD.1 i)]; exact ⟨fun _ => hw Q hQ, fun z => absurd h0 z⟩)⟩⟩
      · obtain ⟨b, n, hb, hw⟩ := go true (by simp [h0])
        refine ⟨b, n + 1, hb, fun Q hQ => ?_⟩
        unfold wp_M_below_L50
        rw [z_1, iI_add, cLe (by omega) (by omega) (by omega) (by omega)]
        exact ⟨fun z => absurd z hk, fun _ => ⟨fun z => (by cases z), fun _ => s_digitAt hD hg (by omega) (by omega) _ (by rw [dz (hD.1 i)]; exact ⟨fun z => absurd z h0, fun _ => hw Q hQ⟩)⟩⟩
theorem s_below (hD : DigOk D) (hg : DigM g D) {k : Int} (k1 : -1000 ≤ k) (k2 : k ≤ 1000) : ∃ b : Bool, (b = true ↔ ∃ p, p < k ∧ D p ≠ 0) ∧ ∀ Q : Bool → Unit → Prop, Q b () → wp_M_below g (iI k) Q := by
  by_cases hk : k ≤ -64
  · refine ⟨false, ⟨fun z => (by cases z), fun ⟨p, p1, p2⟩ => absurd (hD.2 p (Or.inl (by omega))) p2⟩, fun Q hQ => ⟨1, ?_⟩⟩
    unfold wp_M_below_L50
    rw [z_m64, cLe (by omega) (by omega) (by omega) (by omega)]
    exact ⟨fun _ => hQ, fun z => absurd hk z⟩
  · obtain ⟨b, n, hb, hw⟩ := s_belowL hD hg k1 k2 (k + 64).toNat (-64) (by omega) (by omega) false
    refine ⟨b, ⟨fun z => ?_, fun ⟨p, p1, p2⟩ => hb.mpr (Or.inr ⟨p, ?_, p1, p2⟩)⟩, fun Q hQ => ⟨n, by rw [z_m64]; exact hw Q hQ⟩⟩
    · rcases hb.mp z with h | ⟨p, -, p2, p3⟩
      · cases h
      · exact ⟨p, p2, p3⟩
    · by_cases h : p < -18
      · exact absurd (hD.2 p (Or.inl h)) p2
      · omega
end DG
