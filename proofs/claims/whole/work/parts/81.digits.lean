/-! putDigits as a whole, class and reference -/
section DQ
variable {D : Int → Nat} {f g sf mf has : Nat → Int32} {s : Nat → Nat} {H Z C B T F G E L : Nat}
theorem s_lowL (hD : DigOk D) (hg : DigM g D) {e y0 : Int} (b1 : -200 ≤ y0) (b2 : e ≤ 200) (hn : y0 < e → D y0 ≠ 0) {ml x3 mn : Int32} {mo : Nat → Int32} : ∀ (d : Nat), y0 + d ≤ e → ∀ (m : Nat) (Q : (Int32 × (Nat → Int32)) → Prop), wp_M_putDigits_L660 m ml has mf g (iI e) x3 (iI y0) mn mo Q → wp_M_putDigits_L660 (m + d) ml has mf g (iI e) x3 (iI (y0 + d)) mn mo Q := by
  intro d
  induction d with
  | zero =>
    intro _ m Q h
    simpa using h
  | succ d ih =>
    intro hd m Q h
    have h1 := ih (by omega) m Q h
    obtain ⟨b, hb, hbw⟩ := s_below hD hg (k := y0 + ((d + 1 : Nat) : Int)) (by omega) (by omega)
    have hbt : b = true := hb.mpr ⟨y0, by omega, hn (by omega)⟩
    have e6 : iI (y0 + ((d + 1 : Nat) : Int)) + (-1) = iI (y0 + (d : Int)) := by
      rw [z_m1, iI_add]; congr 1; omega
    show wp_M_putDigits_L660 ((m + d) + 1) ml has mf g (iI e) x3 (iI (y0 + ((d + 1 : Nat) : Int))) mn mo Q
    unfold wp_M_putDigits_L660
    rw [e6]
    exact hbw _ ⟨fun z => (by rw [hbt] at z; cases z), fun _ => h1⟩
/-- the reference: low comes down to the last digit that isn't zero, or stays -/
theorem s_low (hD : DigOk D) (hg : DigM g D) {e y0 : Int} (b1 : -200 ≤ y0) (b2 : e ≤ 200) (hye : y0 ≤ e) (hz : ∀ p, p < y0 → D p = 0) (hn : y0 < e → D y0 ≠ 0) (h3 : has 3 = nI G) (hG : G ≤ 40) (he40 : e - y0 ≤ 40) {K : Nat} (hK : (K : Int) = if (G : Int) ≤ e - y0 then e - y0 else (G : Int)) {ml x3 mn : Int32} {mo : Nat → Int32} (Q : (Int32 × (Nat → Int32)) → Prop) (h : wp_M_putDigits_J1070 ml has mf g (iI e) x3 (nI K) mn mo Q) : wp_M_putDigits_J620 ml has mf g (iI e) x3 mn mo Q := by
  obtain ⟨b, hb, hbw⟩ := s_below hD hg (k := y0) (by omega) (by omega)
  have hbf : b = false := by
    cases hv : b
    · rfl
    · obtain ⟨p, p1, p2⟩ := hb.mp hv
      exact absurd (hz p p1) p2
  have h0 : wp_M_putDigits_L660 1 ml has mf g (iI e) x3 (iI y0) mn mo Q := by
    unfold wp_M_putDigits_L660
    rw [cn3, h3, iI_sub]
    refine hbw _ ⟨fun _ => ⟨in3, fun z => ?_, fun z => ⟨in3, ?_⟩⟩, fun z => (by rw [hbf] at z; cases z)⟩
    · rw [nI_iI, cLe (by omega) (by omega) (by omega) (by omega)] at z
      rw [if_pos z] at hK
      rw [← hK, ← nI_iI]; exact h
    · rw [nI_iI, cLe (by omega) (by omega) (by omega) (by omega)] at z
      rw [if_neg z] at hK
      have : K = G := by omega
      rw [← this]; exact h
  have h1 := s_lowL hD hg (e := e) b1 b2 hn (e - y0).toNat (by omega) 1 Q h0
  have e1 : y0 + (((e - y0).toNat : Nat) : Int) = e := by omega
  rw [e1] at h1
  exact ⟨_, h1⟩
/-- the class from the wished whole digits on -/
theorem s_J220 (hD : DigOk D) (hf : DigC f D) {e y0 : Int} (b1 : -200 ≤ e) (b2 : e ≤ 200) (hG : G ≤ 40) {M W0 K : Nat} (hM : M ≤ 40) (hyl : ∀ t, Bot D t → y0 = if t < e then t else e) (hy0 : (∀ p, D p = 0) → y0 = e) (hK : (K : Int) = if (G : Int) ≤ e - y0 then e - y0 else (G : Int)) (hW : (∀ t, Top D t → (W0 : Int) = if (M : Int) < t - e + 1 then t - e + 1 else (M : Int)) ∧ ((∀ p, D p = 0) → W0 = M)) {sl a1 a2 a3 a4 a5 a7 pn : Int32} {pf : Nat → Int32} (Q : (Int32 × (Nat → Int32)) → Prop) (h : wp_Sc_putDigits_J710 f sl sf a1 a2 a3 a4 a5 (nI G) a7 (iI e) (nI W0) (nI K) pn pf Q) : wp_Sc_putDigits_J220 f sl sf a1 a2 a3 a4 a5 (nI G) a7 (iI e) (nI M) pn pf Q := by
  obtain ⟨b, hb, hbw⟩ := s_isZero hD hf
  unfold wp_Sc_putDigits_J220
  cases hbv : b with
  | true =>
    have hz := hb.mp hbv
    have hy := hy0 hz
    have hw := hW.2 hz
    have hk : K = G := by
      by_cases z : (G : Int) ≤ e - y0
      · rw [if_pos z] at hK; omega
      · rw [if_neg z] at hK; omega
    rw [hw, hk] at h
    exact hbw _ (by rw [hbv]; exact ⟨fun _ => h, fun z => (by cases z)⟩)
  | false =>
    have hnz : ¬ ∀ p, D p = 0 := fun z => by
      have := hb.mpr z
      rw [hbv] at this; cases this
    obtain ⟨t, l, ht, hl, hlt, l18, t21⟩ := dig_has hD hnz
    obtain ⟨r, hr, -, hrw⟩ := s_first hD hf
    obtain ⟨r2, hr2, hrw2⟩ := s_last hD hf
    have er := hr t ht
    have er2 := hr2 l hl
    have hw := hW.1 t ht
    have hy := hyl l hl
    have ew : (if nI M < (r - iI e) + 1 then (r - iI e) + 1 else nI M) = nI W0 := by
      rw [er, iI_sub, z_1, iI_add, nI_iI, nI_iI]
      by_cases z : (M : Int) < t - e + 1
      · rw [if_pos (by rw [cLt (by omega) (by omega) (by omega) (by omega)]; exact z), hw, if_pos z]
      · rw [if_neg (by rw [cLt (by omega) (by omega) (by omega) (by omega)]; exact z), hw, if_neg z]
    have ek : (if nI G < (iI e - r2) then (iI e - r2) else nI G) = nI K := by
      rw [er2, iI_sub, nI_iI, nI_iI, hK]
      by_cases z2 : l < e
      · rw [if_pos z2] at hy
        subst hy
        by_cases z : (G : Int) < e - y0
        · rw [if_pos (by rw [cLt (by omega) (by omega) (by omega) (by omega)]; exact z), if_pos (by omega)]
        · rw [if_neg (by rw [cLt (by omega) (by omega) (by omega) (by omega)]; exact z)]
          by_cases z3 : (G : Int) ≤ e - y0
          · rw [if_pos z3]; congr 1; omega
          · rw [if_neg z3]
      · rw [if_neg z2] at hy
        subst hy
        rw [if_neg (by rw [cLt (by omega) (by omega) (by omega) (by omega)]; omega)]
        by_cases z3 : (G : Int) ≤ y0 - y0
        · rw [if_pos z3]; congr 1; omega
        · rw [if_neg z3]
    exact hbw _ (by
      rw [hbv]
      refine ⟨fun z => (by cases z), fun _ => hrw _ (hrw2 _ ?_)⟩
      rw [ew, ek]; exact h)
theorem op_digits (hs : Num6 sf s) (hm : Num6 mf s) (hD : DigOk D) (hf : DigC f D) (hg : DigM g D) {e : Int} (e1 : -99 ≤ e) (e2 : e ≤ 99) (h0 : has 0 = nI H) (h1 : has 1 = nI Z) (h3 : has 3 = nI G) (h4 : has 4 = nI E) (h6 : has 6 = nI C) (h7 : has 7 = nI B) (h8 : has 8 = nI (if C = 1 then B else T)) (hbd : Bd 40 H Z C B T F G E) (hL : L ≤ 9) (hpos : 0 < C → 1 ≤ T ∧ 1 ≤ B) (hEC : 0 < E → C = 0) (hte : ∀ t, Top D t → t - e + 1 ≤ 40) (hle : ∀ l, Bot D l → e - l ≤ 40) {w : List Int32} {pn mn : Int32} {pf mo : Nat → Int32} (hp : Pg pn pf w) (hq : Pg mn mo w) (hl : w.length + 123 ≤ 256) :
    ∃ (W K : Nat) (pn' : Int32) (pf' : Nat → Int32) (mn' : Int32) (mo' : Nat → Int32), W ≤ 40 ∧ K ≤ 40 ∧ 1 ≤ W + K ∧ Pg pn' pf' (w ++ numW s D e (gpB W L C B T) W K) ∧ Pg mn' mo' (w ++ numW s D e (gpB W L C B T) W K) ∧ (∀ Q : (Int32 × (Nat → Int32)) → Prop, Q (pn', pf') → wp_Sc_putDigits pn pf f (nI L) sf (nI H) (nI Z) (nI C) (nI B) (nI T) (nI G) (nI E) (iI e) Q) ∧ (∀ Q : (Int32 × (Nat → Int32)) → Prop, Q (mn', mo') → wp_M_putDigits (nI L) mn has mf g mo (iI e) Q) := by
  obtain ⟨bHZ, bC, bB, bT, bF, bG, bE⟩ := hbd
  -- where low ends
  obtain ⟨y0, hyl, hy0, hye, hyz, hyn, hy40, hy200⟩ : ∃ y0 : Int, (∀ t, Bot D t → y0 = if t < e then t else e) ∧ ((∀ p, D p = 0) → y0 = e) ∧ y0 ≤ e ∧ (∀ p, p < y0 → D p = 0) ∧ (y0 < e → D y0 ≠ 0) ∧ e - y0 ≤ 40 ∧ -200 ≤ y0 := by
    by_cases hz : ∀ p, D p = 0
    · exact ⟨e, fun t ht => absurd (hz t) ht.1, fun _ => rfl, by omega, fun p _ => hz p, fun z => by omega, by omega, by omega⟩
    · obtain ⟨t, l, ht, hl', hlt, l18, t21⟩ := dig_has hD hz
      have hu : ∀ t', Bot D t' → t' = l := fun t' ht' => by
        by_cases z : t' < l
        · exact absurd (hl'.2 _ z) ht'.1
        · by_cases z2 : l < t'
          · exact absurd (ht'.2 _ z2) hl'.1
          · omega
      have hll := hle l hl'
      by_cases z : l < e
      · refine ⟨l, fun t' ht' => by rw [hu t' ht', if_pos z], fun y => absurd y hz, by omega, hl'.2, fun _ => hl'.1, hll, by omega⟩
      · refine ⟨e, fun t' ht' => by rw [hu t' ht', if_neg z], fun y => absurd y hz, by omega, fun p hp' => hl'.2 p (by omega), fun y => by omega, by omega, by omega⟩
  obtain ⟨K, hK, hK40⟩ : ∃ K : Nat, ((K : Int) = if (G : Int) ≤ e - y0 then e - y0 else (G : Int)) ∧ K ≤ 40 := by
    by_cases z : (G : Int) ≤ e - y0
    · exact ⟨(e - y0).toNat, by rw [if_pos z]; omega, by omega⟩
    · exact ⟨G, by rw [if_neg z], by omega⟩
  -- how many whole digits at least
  obtain ⟨M, hM40, hMc, hMm⟩ : ∃ M : Nat, M ≤ 40 ∧ (∀ Q : (Int32 × (Nat → Int32)) → Prop, wp_Sc_putDigits_J220 f (nI L) sf (nI H) (nI Z) (nI C) (nI B) (nI T) (nI G) (nI E) (iI e) (nI M) pn pf Q → wp_Sc_putDigits pn pf f (nI L) sf (nI H) (nI Z) (nI C) (nI B) (nI T) (nI G) (nI E) (iI e) Q) ∧ (∀ (x : Int32) (Q : (Int32 × (Nat → Int32)) → Prop), wp_M_putDigits_J480 (nI L) has mf g (iI e) x (nI M) mn mo Q → wp_M_putDigits_J190 (nI L) has mf g (iI e) x mn mo Q) := by
    by_cases hE : E = 0
    · have e0 : nI E ≤ 0 := by rw [hE]; decide
      refine ⟨Z, by omega, fun Q h => ?_, fun x Q h => ?_⟩
      · unfold wp_Sc_putDigits wp_Sub_hasExponent wp_Sc_putDigits_J180
        exact ⟨fun _ => ⟨fun _ => h, fun z => (by cases z)⟩, fun z => absurd e0 z⟩
      · unfold wp_M_putDigits_J190 wp_M_putDigits_J420
        rw [cn4, cn0, cn1, h4, h0, h1]
        exact ⟨in4, fun _ => ⟨in1, h⟩, fun z => absurd e0 z⟩
    · have e0 : ¬ nI E ≤ 0 := nI_nle (by omega) (by omega)
      by_cases hH : H = 0
      · have g0 : nI H ≤ 0 := by rw [hH]; decide
        refine ⟨Z, by omega, fun Q h => ?_, fun x Q h => ?_⟩
        · unfold wp_Sc_putDigits wp_Sub_hasExponent wp_Sc_putDigits_J180
          exact ⟨fun z => absurd z e0, fun _ => ⟨fun z => (by cases z), fun _ => ⟨fun _ => h, fun z => absurd g0 z⟩⟩⟩
        · unfold wp_M_putDigits_J190 wp_M_putDigits_J420
          rw [cn4, cn0, cn1, h4, h0, h1]
          exact ⟨in4, fun z => absurd z e0, fun _ => ⟨in09, fun _ => ⟨in1, h⟩, fun z => absurd g0 z⟩⟩
      · have g0 : ¬ nI H ≤ 0 := nI_nle (by omega) (by omega)
        refine ⟨1, by omega, fun Q h => ?_, fun x Q h => ?_⟩
        · unfold wp_Sc_putDigits wp_Sub_hasExponent wp_Sc_putDigits_J180
          exact ⟨fun z => absurd z e0, fun _ => ⟨fun z => (by cases z), fun _ => ⟨fun z => absurd z g0, fun _ => h⟩⟩⟩
        · unfold wp_M_putDigits_J190 wp_M_putDigits_J420
          rw [cn4, cn0, cn1, h4, h0, h1]
          exact ⟨in4, fun z => absurd z e0, fun _ => ⟨in09, fun z => absurd z g0, fun _ => h⟩⟩
  -- the reference's top
  obtain ⟨r, hr, hrz, hrw⟩ := s_top hD hg
  obtain ⟨W0, hW40, hWc, hWm⟩ : ∃ W0 : Nat, W0 ≤ 40 ∧ ((∀ t, Top D t → (W0 : Int) = if (M : Int) < t - e + 1 then t - e + 1 else (M : Int)) ∧ ((∀ p, D p = 0) → W0 = M)) ∧ (∀ Q : (Int32 × (Nat → Int32)) → Prop, wp_M_putDigits_J620 (nI L) has mf g (iI e) (nI W0) mn mo Q → wp_M_putDigits (nI L) mn has mf g mo (iI e) Q) := by
    have z0 : (0 : Int32) = nI 0 := rfl
    by_cases hz : ∀ p, D p = 0
    · refine ⟨M, hM40, ⟨fun t ht => absurd (hz t) ht.1, fun _ => rfl⟩, fun Q h => ?_⟩
      unfold wp_M_putDigits
      refine hrw _ ?_
      rw [hrz hz, cLt (by omega) (by omega) (by omega) (by omega)]
      refine ⟨fun _ => hMm _ Q ?_, fun z => absurd (by omega) z⟩
      unfold wp_M_putDigits_J480
      refine ⟨fun z => ?_, fun _ => h⟩
      by_cases m0 : M = 0
      · rw [m0] at h; exact h
      · rw [z0] at z
        exact absurd z (nI_ge (by omega) (by omega))
    · obtain ⟨t, l, ht, hl', hlt, l18, t21⟩ := dig_has hD hz
      have hu : ∀ t', Top D t' → t' = t := fun t' ht' => by
        by_cases z : t' < t
        · exact absurd (ht'.2 _ z) ht.1
        · by_cases z2 : t < t'
          · exact absurd (ht.2 _ z2) ht'.1
          · omega
      have htt := hte t ht
      by_cases z : (M : Int) < t - e + 1
      · have ew : iI t - iI e + 1 = nI (t - e + 1).toNat := by
          rw [iI_sub, z_1, iI_add, nI_iI]; congr 1; omega
        refine ⟨(t - e + 1).toNat, by omega, ⟨fun t' ht' => by rw [hu t' ht', if_pos z]; omega, fun y => absurd y hz⟩, fun Q h => ?_⟩
        unfold wp_M_putDigits
        refine hrw _ ?_
        rw [hr t ht, cLt (by omega) (by omega) (by omega) (by omega), ew]
        refine ⟨fun z => absurd z (by omega), fun _ => hMm _ Q ?_⟩
        unfold wp_M_putDigits_J480
        exact ⟨fun _ => h, fun z2 => absurd (nI_le (by omega) (by omega)) z2⟩
      · refine ⟨M, hM40, ⟨fun t' ht' => by rw [hu t' ht', if_neg z], fun y => absurd y hz⟩, fun Q h => ?_⟩
        unfold wp_M_putDigits
        refine hrw _ ?_
        rw [hr t ht, cLt (by omega) (by omega) (by omega) (by omega)]
        refine ⟨fun z1 => hMm _ Q ?_, fun z1 => hMm _ Q ?_⟩
        · unfold wp_M_putDigits_J480
          refine ⟨fun z2 => ?_, fun _ => h⟩
          by_cases m0 : M = 0
          · rw [m0] at h; exact h
          · rw [z0] at z2
            exact absurd z2 (nI_ge (by omega) (by omega))
        · have ew : iI t - iI e + 1 = nI (t - e + 1).toNat := by
            rw [iI_sub, z_1, iI_add, nI_iI]; congr 1; omega
          unfold wp_M_putDigits_J480
          rw [ew]
          refine ⟨fun z2 => ?_, fun _ => h⟩
          by_cases m0 : M = (t - e + 1).toNat
          · rw [← m0]; exact h
          · exact absurd z2 (nI_ge (by omega) (by omega))
  obtain ⟨W, pn', pf', mn', mo', hW, hWK, hp1, hp2, hw1, hw2⟩ := op_digits1 (e := e) (L := L) hs hm hD hf hg (by omega) (by omega) h4 h6 h7 h8 (by omega) (by omega) (by omega) (by omega) hL hpos hEC hW40 hK40 hp hq (by omega) (a1 := nI H) (a2 := nI Z) (a6 := nI G) (a7 := nI E)
  refine ⟨W, K, pn', pf', mn', mo', hW, hK40, hWK, hp1, hp2, fun Q hQ => ?_, fun Q hQ => ?_⟩
  · exact hMc Q (s_J220 hD hf (by omega) (by omega) (by omega) hM40 hyl hy0 hK hWc Q (hw1 Q hQ))
  · exact hWm Q (s_low hD hg hy200 (by omega) hye hyz hyn h3 (by omega) hy40 hK Q (hw2 Q hQ))
end DQ
