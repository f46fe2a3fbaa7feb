/-! rounding: one more at a power, with its carries; then the whole of it -/
section RE
def dinc (D : Int → Nat) (p m : Int) : Int → Nat := fun q => if q = m then D m + 1 else if p ≤ q ∧ q < m then 0 else D q
theorem dinc_0 {D : Int → Nat} {m : Int} : dinc D m m = dset D m (D m + 1) := by
  funext q
  unfold dinc dset
  by_cases h : q = m
  · rw [if_pos h, if_pos h]
  · rw [if_neg h, if_neg h, if_neg (by omega)]
theorem dinc_s {D : Int → Nat} {p m : Int} (h : p < m) : dinc (dset D p 0) (p + 1) m = dinc D p m := by
  funext q
  unfold dinc
  by_cases h1 : q = m
  · rw [if_pos h1, if_pos h1, dset_other (by omega)]
  · rw [if_neg h1, if_neg h1]
    by_cases h2 : q = p
    · subst h2; rw [if_neg (by omega), if_pos (by omega), dset_same]
    · rw [dset_other h2]
      by_cases h3 : p + 1 ≤ q ∧ q < m
      · rw [if_pos h3, if_pos (by omega)]
      · rw [if_neg h3, if_neg (by omega)]
theorem DigOk.inc {D : Int → Nat} (hD : DigOk D) {p m : Int} (h1 : -18 ≤ p) (h2 : m ≤ 21) (hpm : p ≤ m) (h8 : D m ≤ 8) : DigOk (dinc D p m) := by
  refine ⟨fun q => ?_, fun q hq => ?_⟩
  · unfold dinc
    by_cases h : q = m
    · rw [if_pos h]; omega
    · rw [if_neg h]
      by_cases h3 : p ≤ q ∧ q < m
      · rw [if_pos h3]; omega
      · rw [if_neg h3]; exact hD.1 q
  · unfold dinc
    rw [if_neg (by omega), if_neg (by omega)]; exact hD.2 q hq
theorem s_addL {m : Int} (hm : m ≤ 21) : ∀ (d : Nat) (p : Int) (f : Nat → Int32) (D : Int → Nat), p + d = m → -18 ≤ p → DigOk D → DigC f D → (∀ q, p ≤ q → q < m → D q = 9) → D m ≤ 8 → ∃ (f' : Nat → Int32) (n : Nat), DigC f' (dinc D p m) ∧ ∀ Q : (Nat → Int32) → Prop, Q f' → wp_Am_addOneAt_L20 n (iI p) f Q := by
  intro d
  induction d with
  | zero =>
    intro p f D hp h18 hD hf h9 h8
    obtain rfl : p = m := by omega
    refine ⟨upd f (p + 18).toNat (nI (D p + 1)), 1, by rw [dinc_0]; exact hf.set (by omega) hm, fun Q hQ => ?_⟩
    unfold wp_Am_addOneAt_L20
    rw [z_21, cLt (by omega) (by omega) (by omega) (by omega)]
    refine ⟨fun z => absurd z (by omega), fun _ => s_digit hD hf (by omega) (by omega) _ ?_⟩
    rw [d9le (hD.1 p)]
    refine ⟨fun z => absurd z (by omega), fun _ => s_digit hD hf (by omega) (by omega) _ ?_⟩
    rw [nI_1]
    exact s_put (by omega) hm _ hQ
  | succ d ih =>
    intro p f D hp h18 hD hf h9 h8
    obtain ⟨f', n, hf', hw⟩ := ih (p + 1) (upd f (p + 18).toNat (nI 0)) (dset D p 0) (by omega) (by omega) (hD.set (by omega) (by omega) (by omega)) (hf.set (by omega) (by omega)) (fun q q1 q2 => by rw [dset_other (by omega)]; exact h9 q (by omega) q2) (by rw [dset_other (by omega)]; exact h8)
    rw [dinc_s (by omega)] at hf'
    refine ⟨f', n + 1, hf', fun Q hQ => ?_⟩
    have h9p := h9 p (by omega) (by omega)
    unfold wp_Am_addOneAt_L20
    rw [z_21, z_1, iI_add, cLt (by omega) (by omega) (by omega) (by omega)]
    refine ⟨fun z => absurd z (by omega), fun _ => s_digit hD hf (by omega) (by omega) _ ?_⟩
    rw [d9le (hD.1 p)]
    exact ⟨fun _ => s_put (v := 0) (by omega) (by omega) _ (hw Q hQ), fun z => absurd (by omega) z⟩
theorem s_rndL {m : Int} (hm : m ≤ 21) : ∀ (d : Nat) (p : Int) (g : Nat → Int32) (D : Int → Nat), p + d = m → -18 ≤ p → DigOk D → DigM g D → (∀ q, p ≤ q → q < m → D q = 9) → D m ≤ 8 → ∃ (g' : Nat → Int32) (n : Nat), DigM g' (dinc D p m) ∧ ∀ Q : Bool → (Nat → Int32) → Prop, Q true g' → wp_M_round_L570 n true (iI p) g Q := by
  intro d
  have z60 : (60 : Int32) = iI 60 := by decide
  induction d with
  | zero =>
    intro p g D hp h18 hD hg h9 h8
    obtain rfl : p = m := by omega
    have e1 : (64 + p) = p + 64 := by omega
    have hgp := hg p (by omega) (by omega)
    refine ⟨upd g (p + 64).toNat (nI (D p + 1)), 2, by rw [dinc_0]; exact hg.set (by omega) (by omega), fun Q hQ => ?_⟩
    unfold wp_M_round_L570 wp_M_round_J890
    have ii : vp_in (iI (p + 64)) 128 := iI_in (by omega) (by omega) (by omega)
    rw [z60, z_64, iI_add, e1, cLe (by omega) (by omega) (by omega) (by omega), cCl (by omega) (by omega), hgp, d9 (hD.1 p), nI_1]
    refine ⟨fun z => (by cases z), fun _ => ⟨fun z => absurd z (by omega), fun _ => ⟨ii, fun _ => ⟨fun _ => ⟨ii, ii, ?_⟩, fun z => (by cases z)⟩, fun z => absurd z (by omega)⟩⟩⟩
    unfold wp_M_round_L570
    exact ⟨fun _ => hQ, fun z => (by cases z)⟩
  | succ d ih =>
    intro p g D hp h18 hD hg h9 h8
    have e1 : (64 + p) = p + 64 := by omega
    have hgp := hg p (by omega) (by omega)
    have h9p := h9 p (by omega) (by omega)
    obtain ⟨g', n, hg', hw⟩ := ih (p + 1) (upd g (p + 64).toNat (nI 0)) (dset D p 0) (by omega) (by omega) (hD.set (by omega) (by omega) (by omega)) (hg.set (by omega) (by omega)) (fun q q1 q2 => by rw [dset_other (by omega)]; exact h9 q (by omega) q2) (by rw [dset_other (by omega)]; exact h8)
    rw [dinc_s (by omega)] at hg'
    refine ⟨g', n + 1, hg', fun Q hQ => ?_⟩
    have ii : vp_in (iI (p + 64)) 128 := iI_in (by omega) (by omega) (by omega)
    have hw' := hw Q hQ
    unfold wp_M_round_L570 wp_M_round_J890
    have e2 : iI p + 1 = iI (p + 1) := by rw [z_1, iI_add]
    rw [z60, z_64, iI_add, e1, cLe (by omega) (by omega) (by omega) (by omega), cCl (by omega) (by omega), hgp, d9 (hD.1 p), e2]
    exact ⟨fun z => (by cases z), fun _ => ⟨fun z => absurd z (by omega), fun _ => ⟨ii, fun z => absurd h9p z, fun _ => ⟨fun z => (by cases z), fun _ => ⟨ii, hw'⟩⟩⟩⟩⟩
theorem s_clrM {k : Int} (k2 : k ≤ 63) : ∀ (d : Nat) (i : Int), i + d = k → -64 ≤ i → ∀ g : Nat → Int32, ∃ (g' : Nat → Int32) (n : Nat), (∀ p : Int, -64 ≤ p → p ≤ 63 → g' (p + 64).toNat = if i ≤ p ∧ p < k then 0 else g (p + 64).toNat) ∧ ∀ (up : Bool) (Q : Bool → (Nat → Int32) → Prop), (∃ n570, wp_M_round_L570 n570 up (iI k) g' Q) → wp_M_round_L310 n (iI k) up (iI i) g Q := by
  intro d
  induction d with
  | zero =>
    intro i hi h64 g
    refine ⟨g, 1, fun p p1 p2 => by rw [if_neg (by omega)], fun up Q hQ => ?_⟩
    unfold wp_M_round_L310
    rw [cLe (by omega) (by omega) (by omega) (by omega)]
    exact ⟨fun _ => hQ, fun z => absurd (show k ≤ i by omega) z⟩
  | succ d ih =>
    intro i hi h64 g
    have e1 : (64 + i) = i + 64 := by omega
    obtain ⟨g', n, hg', hw⟩ := ih (i + 1) (by omega) (by omega) (upd g (i + 64).toNat 0)
    refine ⟨g', n + 1, fun p p1 p2 => ?_, fun up Q hQ => ?_⟩
    · rw [hg' p p1 p2]
      by_cases hpi : p = i
      · subst hpi; rw [if_neg (by omega), if_pos (by omega), upd_same]
      · rw [upd_other _ _ (by omega)]
        by_cases h : i + 1 ≤ p ∧ p < k
        · rw [if_pos h, if_pos (by omega)]
        · rw [if_neg h, if_neg (by omega)]
    · have hw' := hw up Q hQ
      unfold wp_M_round_L310
      have e2 : iI i + 1 = iI (i + 1) := by rw [z_1, iI_add]
      rw [z_64, iI_add, e1, e2, cLe (by omega) (by omega) (by omega) (by omega), cCl (by omega) (by omega)]
      exact ⟨fun z => absurd z (by omega), fun _ => ⟨iI_in (by omega) (by omega) (by omega), hw'⟩⟩
theorem op_round {D : Int → Nat} {f g : Nat → Int32} (hD : DigOk D) (hf : DigC f D) (hg : DigM g D) (h21 : D 21 = 0) {k : Int} (k1 : -900 ≤ k) (k2 : k ≤ 20) (m : Nat) (hm7 : m ≤ 7) (ng : Bool) :
    ∃ (b : Bool) (f' g' : Nat → Int32) (D' : Int → Nat), DigOk D' ∧ DigC f' D' ∧ DigM g' D' ∧ (b = true → ∀ p, p < k → D' p = 0) ∧ ((∃ p, k ≤ p ∧ D p ≠ 0) → ∃ p, D' p ≠ 0) ∧ (∀ Q : Bool → (Nat → Int32) → Prop, Q b f' → wp_Am_roundTo f (iI k) (nI m) ng Q) ∧ (∀ Q : Bool → (Nat → Int32) → Prop, Q b g' → wp_M_round g (nI m) ng (iI k) Q) := by
  obtain ⟨a, ha, haw⟩ := s_any hD hf (k := k) (by omega) (by omega)
  obtain ⟨a2, ha2, haw2⟩ := s_below hD hg (k := k) (by omega) (by omega)
  have haa : a2 = a := by
    have t : a2 = true ↔ a = true := ha2.trans ha.symm
    cases a2 <;> cases a <;> simp_all
  subst haa
  have e7 : (nI m = (7 : Int32)) = (m = 7) := propext (nI_eq (b := 7) (by omega) (by omega))
  cases hav : a2 with
  | false =>
    refine ⟨true, f, g, D, hD, hf, hg, fun _ p hp => Classical.byContradiction fun z => ?_, fun ⟨p, _, hp⟩ => ⟨p, hp⟩, fun Q hQ => ?_, fun Q hQ => ?_⟩
    · have := ha.mpr ⟨p, hp, z⟩; rw [hav] at this; cases this
    · unfold wp_Am_roundTo
      exact haw _ (by rw [hav]; exact ⟨fun z => (by cases z), fun _ => hQ⟩)
    · unfold wp_M_round
      exact haw2 _ (by rw [hav]; exact ⟨fun z => (by cases z), fun _ => hQ⟩)
  | true =>
    obtain ⟨p0, hp0, hp0'⟩ := ha.mp hav
    have hk18 : -18 < k := by
      by_cases z : p0 < -18
      · exact absurd (hD.2 p0 (Or.inl z)) hp0'
      · omega
    by_cases h7 : m = 7
    · refine ⟨false, f, g, D, hD, hf, hg, fun z => (by cases z), fun ⟨p, _, hp⟩ => ⟨p, hp⟩, fun Q hQ => ?_, fun Q hQ => ?_⟩
      · unfold wp_Am_roundTo
        refine haw _ ?_
        rw [hav, e7]
        exact ⟨fun _ => ⟨fun z => absurd h7 z, fun _ => hQ⟩, fun z => (by cases z)⟩
      · unfold wp_M_round
        refine haw2 _ ?_
        rw [hav, e7]
        exact ⟨fun _ => ⟨fun z => absurd h7 z, fun _ => hQ⟩, fun z => (by cases z)⟩
    · obtain ⟨up, hu1, hu2⟩ := op_up hD hf hg k1 (by omega) m (by omega) ng
      obtain ⟨f1, hf1, hfw⟩ := s_clr hf (k := k) (by omega) (by omega)
      obtain ⟨g1, n1, hg1, hgw⟩ := s_clrM (k := k) (by omega) (k + 64).toNat (-64) (by omega) (by omega) g
      have hD1 := hD.clr k
      have hg1' : DigM g1 (dclr D k) := fun p p1 p2 => by
        rw [hg1 p p1 p2]
        unfold dclr
        by_cases h : p < k
        · rw [if_pos ⟨p1, h⟩, if_pos h]; rfl
        · rw [if_neg (by omega), if_neg h]; exact hg p p1 p2
      have e21 : dclr D k 21 = 0 := by unfold dclr; rw [if_neg (by omega)]; exact h21
      -- put both together, up or not
      have fin : ∃ (f' g' : Nat → Int32) (D' : Int → Nat) (n2 : Nat), DigOk D' ∧ DigC f' D' ∧ DigM g' D' ∧ (∀ p, p < k → D' p = 0) ∧ ((∃ p, k ≤ p ∧ D p ≠ 0) → ∃ p, D' p ≠ 0) ∧ (∀ Q : Bool → (Nat → Int32) → Prop, Q true f' → ((up = false → Q true f1) ∧ (up = true → wp_Am_addOneAt f1 (iI k) (fun u8 => Q true u8)))) ∧ (∀ Q : Bool → (Nat → Int32) → Prop, Q true g' → wp_M_round_L570 n2 up (iI k) g1 Q) := by
        cases up with
        | false =>
          refine ⟨f1, g1, dclr D k, 1, hD1, hf1, hg1', fun p hp => if_pos hp, fun ⟨p, p1, hp⟩ => ⟨p, by unfold dclr; rw [if_neg (by omega)]; exact hp⟩, fun Q hQ => ⟨fun _ => hQ, fun z => (by cases z)⟩, fun Q hQ => ?_⟩
          unfold wp_M_round_L570
          exact ⟨fun _ => hQ, fun z => (by cases z)⟩
        | true =>
          obtain ⟨c, hc, hmin⟩ := pk_least (fun n => dclr D k (k + (n : Int)) ≠ 9) ⟨(21 - k).toNat, by
            have : k + (((21 - k).toNat : Nat) : Int) = 21 := by omega
            show dclr D k (k + (((21 - k).toNat : Nat) : Int)) ≠ 9
            rw [this, e21]; omega⟩
          have hc21 : k + (c : Int) ≤ 21 := by
            by_cases z : (c : Int) ≤ 21 - k
            · omega
            · have := hmin (21 - k).toNat (by omega)
              have e : k + (((21 - k).toNat : Nat) : Int) = 21 := by omega
              rw [e, e21] at this
              exact absurd (by omega) this
          have h9 : ∀ q, k ≤ q → q < k + (c : Int) → dclr D k q = 9 := fun q q1 q2 => by
            have e : q = k + (((q - k).toNat : Nat) : Int) := by omega
            have := hmin (q - k).toNat (by omega)
            rw [e]; exact Classical.byContradiction this
          have h8 : dclr D k (k + (c : Int)) ≤ 8 := by
            have := hD1.1 (k + (c : Int))
            omega
          obtain ⟨f2, nf, hf2, hfw2⟩ := s_addL hc21 c k f1 (dclr D k) rfl (by omega) hD1 hf1 h9 h8
          obtain ⟨g2, ng2, hg2, hgw2⟩ := s_rndL hc21 c k g1 (dclr D k) rfl (by omega) hD1 hg1' h9 h8
          refine ⟨f2, g2, dinc (dclr D k) k (k + (c : Int)), ng2, hD1.inc (by omega) hc21 (by omega) h8, hf2, hg2, fun p hp => ?_, fun _ => ⟨k + (c : Int), by unfold dinc; rw [if_pos rfl]; omega⟩, fun Q hQ => ⟨fun z => (by cases z), fun _ => ⟨nf, hfw2 _ hQ⟩⟩, hgw2⟩
          unfold dinc
          rw [if_neg (by omega), if_neg (by omega)]
          exact if_pos hp
      obtain ⟨f', g', D', n2, q1, q2, q3, q4, q4b, q5, q6⟩ := fin
      refine ⟨true, f', g', D', q1, q2, q3, fun _ => q4, q4b, fun Q hQ => ?_, fun Q hQ => ?_⟩
      · unfold wp_Am_roundTo
        refine haw _ ?_
        rw [hav, e7]
        exact ⟨fun _ => ⟨fun _ => hu1 _ (hfw _ (q5 Q hQ)), fun z => absurd z h7⟩, fun z => (by cases z)⟩
      · unfold wp_M_round
        refine haw2 _ ?_
        rw [hav, e7, z_m64]
        exact ⟨fun _ => ⟨fun _ => hu2 _ ⟨n1, hgw up Q ⟨n2, q6 Q hQ⟩⟩, fun z => absurd z h7⟩, fun z => (by cases z)⟩
end RE
