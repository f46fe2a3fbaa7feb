/-! loading, rounding, the exponent: class and reference -/
section PR
theorem s_expFor0 {f : Nat → Int32} {H Z E : Nat} (h : E = 0) : ∀ Q : Int32 → Unit → Prop, Q (iI 0) () → wp_Sc_exponentFor f (nI H) (nI Z) (nI E) Q := by
  intro Q hQ
  have e0 : nI E ≤ 0 := by rw [h]; decide
  unfold wp_Sc_exponentFor wp_Sub_hasExponent
  exact ⟨fun _ => ⟨fun _ => hQ, fun z => (by cases z)⟩, fun z => absurd e0 z⟩
/-- the exponent of a number whose first digit stands at t -/
def eOf (t : Int) (H Z : Nat) : Int := if H = 0 then t - Z + 1 else t / ((H + Z : Nat) : Int) * ((H + Z : Nat) : Int)
theorem eOf_bounds {t : Int} {H Z : Nat} (h1 : -18 ≤ t) (h2 : t ≤ 21) (hZ : 1 ≤ Z) (hHZ : H + Z ≤ 40) : -99 ≤ eOf t H Z ∧ eOf t H Z ≤ t ∧ t - eOf t H Z + 1 ≤ 40 := by
  unfold eOf
  by_cases h : H = 0
  · rw [if_pos h]; omega
  · rw [if_neg h]
    have hp : (0 : Int) < ((H + Z : Nat) : Int) := by omega
    have e1 : t / ((H + Z : Nat) : Int) * ((H + Z : Nat) : Int) = t - t % ((H + Z : Nat) : Int) := by
      have := Int.mul_ediv_add_emod t ((H + Z : Nat) : Int)
      rw [Int.mul_comm] at this; omega
    have e2 := Int.emod_nonneg t (b := ((H + Z : Nat) : Int)) (by omega)
    have e3 := Int.emod_lt_of_pos t hp
    rw [e1]; omega
theorem s_expFor {D : Int → Nat} {f : Nat → Int32} (hD : DigOk D) (hf : DigC f D) {H Z E : Nat} (hE1 : 1 ≤ E) (hE : E ≤ 40) (hZ : 1 ≤ Z) (hHZ : H + Z ≤ 40) : ((∀ p, D p = 0) → ∀ Q : Int32 → Unit → Prop, Q (iI 0) () → wp_Sc_exponentFor f (nI H) (nI Z) (nI E) Q) ∧ (∀ t, Top D t → ∀ Q : Int32 → Unit → Prop, Q (iI (eOf t H Z)) () → wp_Sc_exponentFor f (nI H) (nI Z) (nI E) Q) := by
  have e0 : ¬ nI E ≤ 0 := nI_nle (by omega) (by omega)
  obtain ⟨b, hb, hbw⟩ := s_isZero hD hf
  refine ⟨fun hz Q hQ => ?_, fun t ht Q hQ => ?_⟩
  · have hbt : b = true := hb.mpr hz
    unfold wp_Sc_exponentFor wp_Sub_hasExponent
    exact ⟨fun z => absurd z e0, fun _ => ⟨fun z => (by cases z), fun _ => hbw _ ⟨fun z => (by rw [hbt] at z; cases z), fun _ => hQ⟩⟩⟩
  · have hbf : b = false := by
      cases hv : b
      · rfl
      · exact absurd (hb.mp hv t) ht.1
    have hr : -18 ≤ t ∧ t ≤ 21 := by
      constructor
      · by_cases z : t < -18
        · exact absurd (hD.2 t (Or.inl z)) ht.1
        · omega
      · by_cases z : 21 < t
        · exact absurd (hD.2 t (Or.inr z)) ht.1
        · omega
    obtain ⟨r, hr1, -, hrw⟩ := s_first hD hf
    have er := hr1 t ht
    have es : nI H + nI Z = nI (H + Z) := nI_add H Z
    have hs0 : ¬ nI (H + Z) ≤ 0 := nI_nle (by omega) (by omega)
    have eh : (nI H = 0) = (H = 0) := propext ⟨fun z => (nI_eq (b := 0) (by omega) (by omega)).mp z, fun z => by rw [z]; rfl⟩
    unfold wp_Sc_exponentFor wp_Sub_hasExponent
    rw [es, eh]
    refine ⟨fun z => absurd z e0, fun _ => ⟨fun z => (by cases z), fun _ => hbw _ ⟨fun _ => ⟨fun hH => ⟨fun z => absurd z hs0, fun _ => hrw _ ?_⟩, fun hH => hrw _ ?_⟩, fun z => (by rw [hbf] at z; cases z)⟩⟩⟩
    · rw [er]
      refine (op_floor (by omega) (by omega) (by omega) (by omega)).1 _ ?_
      unfold eOf at hQ
      rw [if_neg hH] at hQ
      rw [nI_iI, iI_mul]; exact hQ
    · unfold eOf at hQ
      rw [if_pos hH] at hQ
      rw [er, nI_iI, iI_sub, z_1, iI_add]; exact hQ
theorem op_prep {has af al : Nat → Int32} {H Z C B T F G E kp ks : Nat} {pm : Bool} {pn sn : Int32} {pf sf : Nat → Int32} (h0 : has 0 = nI H) (h1 : has 1 = nI Z) (h2 : has 2 = nI F) (h4 : has 4 = nI E) (hbd : Bd 40 H Z C B T F G E) (hEZ : 0 < E → 1 ≤ Z) (ha0 : RelAf pn pf af al 0 kp) (ha1 : RelAf sn sf af al 1 ks) (hk0 : kp ≤ 40) (hk1 : ks ≤ 40) (hpm : PMx pm pf sf kp ks) {u : Int64} {N : Nat} (hN : N ≤ 9223372036854775808) (hu : (u ≤ 0 → u = jI (-(N : Int))) ∧ (¬ u ≤ 0 → -u = jI (-(N : Int)))) {sc : Nat} (hsc : sc ≤ 18) (m : Nat) (hm7 : m ≤ 7) (ng : Bool) (f g : Nat → Int32) :
    ∃ (b : Bool) (f' g' : Nat → Int32) (D : Int → Nat) (e : Int), DigOk D ∧ DigC f' D ∧ DigM g' D ∧ (-99 ≤ e ∧ e ≤ 99) ∧ (∀ t, Top D t → t - e + 1 ≤ 40) ∧ (∀ l, Bot D l → e - l ≤ 40) ∧ (∀ Q : Int32 → Unit → Prop, Q (iI e) () → wp_Sc_exponentFor f' (nI H) (nI Z) (nI E) Q) ∧
      (∀ K : Bool → (Nat → Int32) → Prop, K b f' → wp_Am_fill f (jI (-(N : Int))) (nI sc) pm (fun u2 => wp_Sc_roundingPower u2 (nI Z) (nI F) (nI E) (fun r3 u4 => wp_Am_roundTo u2 r3 (nI m) ng (fun r5 u6 => K r5 u6)))) ∧
      (∀ (two : Bool) (ml os : Int32) (sy out : Nat → Int32) (Q : Bool → (Int32 × (Nat → Int32) × (Nat → Int32)) → Prop), wp_M_render_J1380 two ml has af al sy ng (iI e) b os g' out Q → wp_M_render two ml os has af al sy g out ng u (nI sc) (nI m) Q) := by
  obtain ⟨bHZ, bC, bB, bT, bF, bG, bE⟩ := hbd
  obtain ⟨f1, hf1, hfw⟩ := s_fill hN hsc pm f
  obtain ⟨g1, hg1, hgw⟩ := s_load ha0 ha1 hk0 hk1 hpm hN hu hsc g
  have hx : -18 ≤ (if pm = true then (2 : Int) else 0) - (sc : Int) ∧ (if pm = true then (2 : Int) else 0) - (sc : Int) ≤ 2 := by
    split <;> omega
  obtain ⟨hD, h21⟩ := dN_ok (N := N) hx.1 hx.2
  generalize dN N ((if pm = true then 2 else 0) - (sc : Int)) 19 = D at hf1 hg1 hD h21
  by_cases hE0 : E = 0
  · have e0 : nI E ≤ 0 := by rw [hE0]; decide
    have ek : -nI F = iI (-(F : Int)) := by rw [nI_iI, iI_neg]
    obtain ⟨b, f', g', D', hD', hf', hg', hz', hn', hc, hr⟩ := op_round hD hf1 hg1 h21 (k := -(F : Int)) (by omega) (by omega) m hm7 ng
    refine ⟨b, f', g', D', 0, hD', hf', hg', by omega, fun t ht => ?_, fun l hl => ?_, s_expFor0 hE0, fun K hK => ?_, fun two ml os sy out Q hQ => ?_⟩
    · by_cases z : 21 < t
      · exact absurd (hD'.2 t (Or.inr z)) ht.1
      · omega
    · by_cases z : l < -18
      · exact absurd (hD'.2 l (Or.inl z)) hl.1
      · omega
    · refine hfw _ ?_
      unfold wp_Sc_roundingPower wp_Sub_hasExponent
      rw [ek]
      exact ⟨fun _ => ⟨fun z => (by cases z), fun _ => hc _ hK⟩, fun z => absurd e0 z⟩
    · unfold wp_M_render
      rw [cn4, cn2, h4, h2, ek]
      exact hgw _ ⟨in4, fun z => absurd (by rw [hE0]; rfl) z, fun _ => ⟨in2, hr _ hQ⟩⟩
  · have e0 : ¬ nI E ≤ 0 := nI_nle (by omega) (by omega)
    have e0' : ¬ nI E = 0 := nI_ne0 (by omega) (by omega)
    have hZ : 1 ≤ Z := hEZ (by omega)
    obtain ⟨r, hr1, hr2, hrw⟩ := s_first hD hf1
    obtain ⟨q, hq1, hq2, hqw⟩ := s_top hD hg1
    by_cases hz : ∀ p, D p = 0
    · obtain ⟨a, ha, haw⟩ := s_any hD hf1 (k := -18 - (Z : Int) - (F : Int) + 1) (by omega) (by omega)
      have haf : a = false := by
        cases hv : a
        · rfl
        · obtain ⟨p, -, hp⟩ := ha.mp hv
          exact absurd (hz p) hp
      refine ⟨true, f1, g1, D, 0, hD, hf1, hg1, by omega, fun t ht => absurd (hz t) ht.1, fun l hl => absurd (hz l) hl.1, (s_expFor hD hf1 (by omega) (by omega) hZ (by omega)).1 hz, fun K hK => ?_, fun two ml os sy out Q hQ => ?_⟩
      · refine hfw _ ?_
        unfold wp_Sc_roundingPower wp_Sub_hasExponent
        refine ⟨fun z => absurd z e0, fun _ => ⟨fun _ => hrw _ ?_, fun z => (by cases z)⟩⟩
        have ek : r - nI Z - nI F + 1 = iI (-18 - (Z : Int) - (F : Int) + 1) := by rw [hr2 hz, nI_iI, nI_iI, iI_sub, iI_sub, z_1, iI_add]
        rw [ek]
        unfold wp_Am_roundTo
        exact haw _ ⟨fun z => (by rw [haf] at z; cases z), fun _ => hK⟩
      · unfold wp_M_render
        rw [cn4, cn2, cn1, cn0, h4, h2, h1, h0]
        refine hgw _ ⟨in4, fun _ => hqw _ ⟨fun z => absurd (by rw [hq2 hz]; rfl) z, fun _ => hQ⟩, fun z => absurd z e0'⟩
    · obtain ⟨t, l, ht, hl, hlt, l18, t21⟩ := dig_has hD hz
      have ht20 : t ≤ 20 := by
        by_cases z : t = 21
        · have := ht.1
          rw [z] at this; exact absurd h21 this
        · omega
      obtain ⟨b, f', g', D', hD', hf', hg', hz', hn', hc, hr⟩ := op_round hD hf1 hg1 h21 (k := t - (Z : Int) - (F : Int) + 1) (by omega) (by omega) m hm7 ng
      have hnz : ¬ ∀ p, D' p = 0 := fun y => by
        obtain ⟨p, hp⟩ := hn' ⟨t, by omega, ht.1⟩
        exact hp (y p)
      obtain ⟨t', l', ht', hl', hlt', l18', t21'⟩ := dig_has hD' hnz
      have hu' : ∀ t2, Top D' t2 → t2 = t' := fun t2 ht2 => by
        by_cases z : t2 < t'
        · exact absurd (ht2.2 _ z) ht'.1
        · by_cases z2 : t' < t2
          · exact absurd (ht'.2 _ z2) ht2.1
          · omega
      obtain ⟨eb1, eb2, eb3⟩ := eOf_bounds (t := t') (H := H) (Z := Z) (by omega) (by omega) hZ (by omega)
      obtain ⟨q', hq1', hq2', hqw'⟩ := s_top hD' hg'
      have eq' := hq1' t' ht'
      refine ⟨b, f', g', D', eOf t' H Z, hD', hf', hg', by omega, fun t2 ht2 => by rw [hu' t2 ht2]; exact eb3, fun l2 hl2 => ?_, (s_expFor hD' hf' (by omega) (by omega) hZ (by omega)).2 t' ht', fun K hK => ?_, fun two ml os sy out Q hQ => ?_⟩
      · by_cases z : l2 < -18
        · exact absurd (hD'.2 l2 (Or.inl z)) hl2.1
        · omega
      · refine hfw _ ?_
        unfold wp_Sc_roundingPower wp_Sub_hasExponent
        refine ⟨fun z => absurd z e0, fun _ => ⟨fun _ => hrw _ ?_, fun z => (by cases z)⟩⟩
        have ek : r - nI Z - nI F + 1 = iI (t - (Z : Int) - (F : Int) + 1) := by rw [hr1 t ht, nI_iI, nI_iI, iI_sub, iI_sub, z_1, iI_add]
        rw [ek]
        exact hc _ hK
      · have ek : q - nI Z - nI F + 1 = iI (t - (Z : Int) - (F : Int) + 1) := by rw [hq1 t ht, nI_iI, nI_iI, iI_sub, iI_sub, z_1, iI_add]
        have hq100 : ¬ q = (-100 : Int32) := by
          rw [hq1 t ht, z_m100, cEq (by omega) (by omega) (by omega) (by omega)]; omega
        have es : nI H + nI Z = nI (H + Z) := nI_add H Z
        have eh : (nI H = 0) = (H = 0) := propext ⟨fun z => (nI_eq (b := 0) (by omega) (by omega)).mp z, fun z => by rw [z]; rfl⟩
        unfold wp_M_render wp_M_render_J1360
        rw [cn4, cn2, cn1, cn0, h4, h2, h1, h0, es, eh]
        refine hgw _ ⟨in4, fun _ => hqw _ ⟨fun _ => hqw _ ⟨in1, in2, ?_⟩, fun z => absurd z hq100⟩, fun z => absurd z e0'⟩
        rw [ek]
        refine hr _ (hqw' _ ⟨in09, in1, in09, fun hH => ?_, fun hH => ⟨in1, ?_⟩⟩)
        · rw [eq']
          refine (op_floor (by omega) (by omega) (by omega) (by omega)).2 _ ?_
          unfold eOf at hQ
          rw [if_neg hH] at hQ
          rw [nI_iI, iI_mul]; exact hQ
        · unfold eOf at hQ
          rw [if_pos hH] at hQ
          rw [eq', nI_iI, iI_sub, z_1, iI_add]; exact hQ
end PR
