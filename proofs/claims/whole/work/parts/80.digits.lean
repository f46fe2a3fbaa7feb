/-! putDigits: how many digits, class and reference -/
def numW (s : Nat → Nat) (D : Int → Nat) (e : Int) (gp : Nat → Bool) (W K : Nat) : List Int32 := whW s D e gp W ++ ((if 0 < K then [nI (s 0)] else []) ++ frW s D e K)
theorem numW_len (s : Nat → Nat) (D : Int → Nat) (e : Int) (gp : Nat → Bool) (W K : Nat) : W + K ≤ (numW s D e gp W K).length ∧ (numW s D e gp W K).length ≤ 2 * W + 1 + K := by
  have := whW_len s D e gp W
  unfold numW
  rw [List.length_append, List.length_append, frW_len]
  split <;> simp <;> omega
section DP
variable {D : Int → Nat} {f g sf mf has : Nat → Int32} {s : Nat → Nat} {H Z C B T F G E L : Nat}
theorem s_J990 (hs : Num6 sf s) (hD : DigOk D) (hf : DigC f D) {e : Int} (e1 : -200 ≤ e) (e2 : e ≤ 200) {K : Nat} (hK : K ≤ 40) {w : List Int32} {pn : Int32} {pf : Nat → Int32} (hp : Pg pn pf w) (hl : w.length + 1 + K ≤ 256) {sl a1 a2 a3 a4 a5 a6 a7 : Int32} :
    ∃ (pn' : Int32) (pf' : Nat → Int32), Pg pn' pf' (w ++ ((if 0 < K then [nI (s 0)] else []) ++ frW s D e K)) ∧ ∀ Q : (Int32 × (Nat → Int32)) → Prop, Q (pn', pf') → ((nI K ≤ 0 → wp_Sc_putDigits_J990 f sl sf a1 a2 a3 a4 a5 a6 a7 (iI e) (nI K) pn pf Q) ∧ (¬ nI K ≤ 0 → wp_Sc_putSymbol pn pf sf 0 (fun u12 => wp_Sc_putDigits_J990 f sl sf a1 a2 a3 a4 a5 a6 a7 (iI e) (nI K) u12.1 u12.2 Q))) := by
  by_cases h0 : 0 < K
  · have k0 : ¬ nI K ≤ 0 := nI_nle h0 (by omega)
    obtain ⟨p1, f1, hp1, hw1⟩ := s_putSymbol hs hp (by omega) (k := 0) (by omega)
    obtain ⟨p2, f2, m, hp2, hw2⟩ := s_fracL (sl := sl) hs hD hf e1 e2 (K := K) (by omega) (w := w ++ [nI (s 0)]) (by simp; omega) (a1 := a1) (a2 := a2) (a3 := a3) (a4 := a4) (a5 := a5) (a6 := a6) (a7 := a7) K 0 (by omega) p1 f1 (by simpa [frW] using hp1)
    refine ⟨p2, f2, ?_, fun Q hQ => ⟨fun z => absurd z k0, fun _ => hw1 _ ⟨m, hw2 Q hQ⟩⟩⟩
    rw [if_pos h0, ← List.append_assoc]; exact hp2
  · obtain rfl : K = 0 := by omega
    have k0 : nI 0 ≤ 0 := by decide
    obtain ⟨p2, f2, m, hp2, hw2⟩ := s_fracL (sl := sl) hs hD hf e1 e2 (K := 0) (by omega) (w := w) (by omega) (a1 := a1) (a2 := a2) (a3 := a3) (a4 := a4) (a5 := a5) (a6 := a6) (a7 := a7) 0 0 (by omega) pn pf (by simpa [frW] using hp)
    refine ⟨p2, f2, ?_, fun Q hQ => ⟨fun _ => ⟨m, hw2 Q hQ⟩, fun z => absurd k0 z⟩⟩
    rw [if_neg h0]; simpa using hp2
theorem s_J2450 (hs : Num6 mf s) (hD : DigOk D) (hg : DigM g D) {e : Int} (e1 : -200 ≤ e) (e2 : e ≤ 200) {K : Nat} (hK : K ≤ 40) {w : List Int32} {pn : Int32} {pf : Nat → Int32} (hp : Pg pn pf w) (hl : w.length + 1 + K ≤ 256) {ml : Int32} {gd : Bool} :
    ∃ (pn' : Int32) (pf' : Nat → Int32), Pg pn' pf' (w ++ ((if 0 < K then [nI (s 0)] else []) ++ frW s D e K)) ∧ ∀ Q : (Int32 × (Nat → Int32)) → Prop, Q (pn', pf') → wp_M_putDigits_L1710 1 ml has mf g (iI e) (nI K) gd (iI (-1)) pn pf Q := by
  have n1 : iI (-1) < 0 := by decide
  have e10 : mf (0 : Int32).toNatClampNeg = nI (s 0) := by rw [cn0, (hs 0 (by omega)).1]
  by_cases h0 : 0 < K
  · have k0 : ¬ nI K ≤ 0 := nI_nle h0 (by omega)
    obtain ⟨p1, f1, hp1, hw1⟩ := s_mput hp (by omega) (nI (s 0))
    obtain ⟨p2, f2, m, hp2, hw2⟩ := s_mFracL (ml := ml) (has := has) hs hD hg e1 e2 (K := K) (by omega) (w := w ++ [nI (s 0)]) (by simp; omega) K 0 (by omega) p1 f1 (by simpa [frW] using hp1)
    refine ⟨p2, f2, ?_, fun Q hQ => ?_⟩
    · rw [if_pos h0, ← List.append_assoc]; exact hp2
    · unfold wp_M_putDigits_L1710
      rw [e10]
      exact ⟨fun _ => ⟨fun z => absurd z k0, fun _ => ⟨in06, hw1 _ ⟨m, hw2 Q hQ⟩⟩⟩, fun z => absurd n1 z⟩
  · obtain rfl : K = 0 := by omega
    have k0 : nI 0 ≤ 0 := by decide
    obtain ⟨p2, f2, m, hp2, hw2⟩ := s_mFracL (ml := ml) (has := has) hs hD hg e1 e2 (K := 0) (by omega) (w := w) (by omega) 0 0 (by omega) pn pf (by simpa [frW] using hp)
    refine ⟨p2, f2, ?_, fun Q hQ => ?_⟩
    · rw [if_neg h0]; simpa using hp2
    · unfold wp_M_putDigits_L1710
      exact ⟨fun _ => ⟨fun _ => ⟨m, hw2 Q hQ⟩, fun z => absurd k0 z⟩, fun z => absurd n1 z⟩
/-- the class from the numbers of digits on -/
theorem s_J820 (hs : Num6 sf s) (hD : DigOk D) (hf : DigC f D) {e : Int} (e1 : -200 ≤ e) (e2 : e ≤ 200) (hC : C ≤ 40) (hB : B ≤ 40) (hT : T ≤ 40) (hL : L ≤ 9) (hpos : 0 < C → 1 ≤ T ∧ 1 ≤ B) {W K : Nat} (hW : W ≤ 41) (hK : K ≤ 40) {w : List Int32} {pn : Int32} {pf : Nat → Int32} (hp : Pg pn pf w) (hl : w.length + 2 * W + 1 + K ≤ 256) {a1 a2 a6 a7 : Int32} :
    ∃ (pn' : Int32) (pf' : Nat → Int32), Pg pn' pf' (w ++ numW s D e (gpB W L C B T) W K) ∧ ∀ Q : (Int32 × (Nat → Int32)) → Prop, Q (pn', pf') → wp_Sc_putDigits_J820 f (nI L) sf a1 a2 (nI C) (nI B) (nI T) a6 a7 (iI e) (nI W) (nI K) pn pf Q := by
  have ew : nI W - 1 = iI ((W : Int) - 1) := by rw [nI_iI, z_1, iI_sub]
  have eb : nI B + nI L = nI (B + L) := nI_add B L
  obtain ⟨gd, hgd⟩ : ∃ gd : Bool, gd = true ↔ B + L ≤ W := ⟨decide (B + L ≤ W), decide_eq_true_iff⟩
  obtain ⟨p1, f1, m, hp1, hw1⟩ := s_putWholeL (sl := nI L) hs hD hf e1 e2 hC hB hT hpos (gd := gd) (gp := gpB W L C B T) (fun n _ => by rw [gpB_iff, hgd]) W (by omega) w pn pf hp (by omega)
  have hlen := (whW_len s D e (gpB W L C B T) W).2
  obtain ⟨p2, f2, hp2, hw2⟩ := s_J990 (sl := nI L) hs hD hf e1 e2 hK hp1 (by rw [List.length_append]; omega) (a1 := a1) (a2 := a2) (a3 := nI C) (a4 := nI B) (a5 := nI T) (a6 := a6) (a7 := a7)
  refine ⟨p2, f2, by unfold numW; rw [← List.append_assoc]; exact hp2, fun Q hQ => ?_⟩
  have h1 := hw1 (fun u10 => (nI K ≤ 0 → wp_Sc_putDigits_J990 f (nI L) sf a1 a2 (nI C) (nI B) (nI T) a6 a7 (iI e) (nI K) u10.1 u10.2 Q) ∧ (¬ nI K ≤ 0 → wp_Sc_putSymbol u10.1 u10.2 sf 0 (fun u12 => wp_Sc_putDigits_J990 f (nI L) sf a1 a2 (nI C) (nI B) (nI T) a6 a7 (iI e) (nI K) u12.1 u12.2 Q))) (hw2 Q hQ)
  unfold wp_Sc_putDigits_J820 wp_Sc_putWhole wp_Sc_putWhole_J210
  rw [eb, ew]
  by_cases hlt : W < B + L
  · have hg0 : gd = false := by
      cases hv : gd
      · rfl
      · have := hgd.mp hv; omega
    rw [hg0] at h1
    exact ⟨fun _ => ⟨m, h1⟩, fun z => absurd (nI_lt hlt (by omega)) z⟩
  · have hg1 : gd = true := hgd.mpr (by omega)
    rw [hg1] at h1
    exact ⟨fun z => absurd z (nI_nlt (by omega) (by omega)), fun _ => ⟨m, h1⟩⟩
theorem s_J1230 (hs : Num6 mf s) (hD : DigOk D) (hg : DigM g D) {e : Int} (e1 : -200 ≤ e) (e2 : e ≤ 200) (h4 : has 4 = nI E) (h6 : has 6 = nI C) (h7 : has 7 = nI B) (h8 : has 8 = nI (if C = 1 then B else T)) (hE : E ≤ 40) (hC : C ≤ 40) (hB : B ≤ 40) (hT : T ≤ 40) (hL : L ≤ 9) (hpos : 0 < C → 1 ≤ T ∧ 1 ≤ B) (hEC : 0 < E → C = 0) {W K : Nat} (hW : W ≤ 41) (hK : K ≤ 40) {w : List Int32} {pn : Int32} {pf : Nat → Int32} (hp : Pg pn pf w) (hl : w.length + 2 * W + 1 + K ≤ 256) :
    ∃ (pn' : Int32) (pf' : Nat → Int32), Pg pn' pf' (w ++ numW s D e (gpB W L C B T) W K) ∧ ∀ Q : (Int32 × (Nat → Int32)) → Prop, Q (pn', pf') → wp_M_putDigits_J1230 (nI L) has mf g (iI e) (nI K) (nI W) pn pf Q := by
  have ew : nI W - 1 = iI ((W : Int) - 1) := by rw [nI_iI, z_1, iI_sub]
  have eb : nI B + nI L = nI (B + L) := nI_add B L
  obtain ⟨gd, hgd⟩ : ∃ gd : Bool, gd = true ↔ 0 < C ∧ B + L ≤ W := ⟨decide (0 < C ∧ B + L ≤ W), decide_eq_true_iff⟩
  obtain ⟨p1, f1, hp1, hw1⟩ := s_mWholeL (ml := nI L) (bh := nI K) hs hD hg e1 e2 h7 h8 hC hB hT hpos (gd := gd) (gp := gpB W L C B T) (fun z => (hgd.mp z).1) (fun n _ => by rw [gpB_iff, hgd]; exact ⟨fun z => ⟨⟨z.2.1, z.1⟩, z.2⟩, fun z => ⟨z.1.2, z.2⟩⟩) W (by omega) w pn pf hp (by omega)
  have hlen := (whW_len s D e (gpB W L C B T) W).2
  obtain ⟨p2, f2, hp2, hw2⟩ := s_J2450 (ml := nI L) (has := has) (gd := gd) hs hD hg e1 e2 hK hp1 (by rw [List.length_append]; omega)
  refine ⟨p2, f2, by unfold numW; rw [← List.append_assoc]; exact hp2, fun Q hQ => ?_⟩
  have h1 := hw1 1 Q (hw2 Q hQ)
  unfold wp_M_putDigits_J1230 wp_M_putDigits_J1630 wp_M_putDigits_J1640
  rw [cn4, cn6, cn7, h4, h6, h7, eb, ew]
  by_cases hc : 0 < C ∧ B + L ≤ W
  · have hg1 : gd = true := hgd.mpr hc
    rw [hg1] at h1
    have hE0 : E = 0 := by
      by_cases z : 0 < E
      · have := hEC z; omega
      · omega
    have n6 : ¬ nI C ≤ 0 := nI_nle hc.1 (by omega)
    have nlt : ¬ nI W < nI (B + L) := nI_nlt hc.2 (by omega)
    subst hE0
    exact ⟨in4, fun z => absurd rfl z, fun _ => ⟨in6, fun z => absurd z n6, fun _ => ⟨in7, fun z => absurd z nlt, fun _ => ⟨1 + W, h1⟩⟩⟩⟩
  · have hg0 : gd = false := by
      cases hv : gd
      · rfl
      · exact absurd (hgd.mp hv) hc
    rw [hg0] at h1
    refine ⟨in4, fun _ => ⟨1 + W, h1⟩, fun _ => ⟨in6, fun _ => ⟨1 + W, h1⟩, fun z => ⟨in7, fun _ => ⟨1 + W, h1⟩, fun z2 => absurd ⟨?_, ?_⟩ hc⟩⟩⟩
    · by_cases y : 0 < C
      · exact y
      · exact absurd (by have : C = 0 := by omega
                         subst this; decide) z
    · by_cases y : B + L ≤ W
      · exact y
      · exact absurd (nI_lt (by omega) (by omega)) z2
/-- both sides from the wished numbers of digits on: at least one digit -/
theorem op_digits1 (hs : Num6 sf s) (hm : Num6 mf s) (hD : DigOk D) (hf : DigC f D) (hg : DigM g D) {e : Int} (e1 : -200 ≤ e) (e2 : e ≤ 200) (h4 : has 4 = nI E) (h6 : has 6 = nI C) (h7 : has 7 = nI B) (h8 : has 8 = nI (if C = 1 then B else T)) (hE : E ≤ 40) (hC : C ≤ 40) (hB : B ≤ 40) (hT : T ≤ 40) (hL : L ≤ 9) (hpos : 0 < C → 1 ≤ T ∧ 1 ≤ B) (hEC : 0 < E → C = 0) {W0 K : Nat} (hW : W0 ≤ 40) (hK : K ≤ 40) {w : List Int32} {pn mn : Int32} {pf mo : Nat → Int32} (hp : Pg pn pf w) (hq : Pg mn mo w) (hl : w.length + 83 + K ≤ 256) {a1 a2 a6 a7 : Int32} :
    ∃ (W : Nat) (pn' : Int32) (pf' : Nat → Int32) (mn' : Int32) (mo' : Nat → Int32), W ≤ 40 ∧ 1 ≤ W + K ∧ Pg pn' pf' (w ++ numW s D e (gpB W L C B T) W K) ∧ Pg mn' mo' (w ++ numW s D e (gpB W L C B T) W K) ∧ (∀ Q : (Int32 × (Nat → Int32)) → Prop, Q (pn', pf') → wp_Sc_putDigits_J710 f (nI L) sf a1 a2 (nI C) (nI B) (nI T) a6 a7 (iI e) (nI W0) (nI K) pn pf Q) ∧ (∀ Q : (Int32 × (Nat → Int32)) → Prop, Q (mn', mo') → wp_M_putDigits_J1070 (nI L) has mf g (iI e) (nI W0) (nI K) mn mo Q) := by
  have ez : ∀ n : Nat, n ≤ 40 → (nI n = 0) = (n = 0) := fun n h => propext ⟨fun z => (nI_eq (b := 0) (by omega) (by omega)).mp z, fun z => by rw [z]; rfl⟩
  by_cases h0 : W0 = 0 ∧ K = 0
  · obtain ⟨p1, f1, hp1, hw1⟩ := s_J820 hs hD hf e1 e2 hC hB hT hL hpos (W := 1) (K := K) (by omega) hK hp (by omega) (a1 := a1) (a2 := a2) (a6 := a6) (a7 := a7)
    obtain ⟨p2, f2, hp2, hw2⟩ := s_J1230 hm hD hg e1 e2 h4 h6 h7 h8 hE hC hB hT hL hpos hEC (W := 1) (K := K) (by omega) hK hq (by omega)
    refine ⟨1, p1, f1, p2, f2, by omega, by omega, hp1, hp2, fun Q hQ => ?_, fun Q hQ => ?_⟩
    · have := hw1 Q hQ
      unfold wp_Sc_putDigits_J710
      rw [ez W0 hW, ez K hK]
      exact ⟨fun z => absurd h0.1 z, fun _ => ⟨fun z => absurd h0.2 z, fun _ => this⟩⟩
    · have := hw2 Q hQ
      unfold wp_M_putDigits_J1070
      rw [ez W0 hW, ez K hK]
      exact ⟨fun z => absurd h0.1 z, fun _ => ⟨fun z => absurd h0.2 z, fun _ => this⟩⟩
  · obtain ⟨p1, f1, hp1, hw1⟩ := s_J820 hs hD hf e1 e2 hC hB hT hL hpos (W := W0) (K := K) (by omega) hK hp (by omega) (a1 := a1) (a2 := a2) (a6 := a6) (a7 := a7)
    obtain ⟨p2, f2, hp2, hw2⟩ := s_J1230 hm hD hg e1 e2 h4 h6 h7 h8 hE hC hB hT hL hpos hEC (W := W0) (K := K) (by omega) hK hq (by omega)
    refine ⟨W0, p1, f1, p2, f2, by omega, by omega, hp1, hp2, fun Q hQ => ?_, fun Q hQ => ?_⟩
    · have := hw1 Q hQ
      unfold wp_Sc_putDigits_J710
      rw [ez W0 hW, ez K hK]
      exact ⟨fun _ => this, fun z => ⟨fun _ => this, fun z2 => absurd ⟨z, z2⟩ h0⟩⟩
    · have := hw2 Q hQ
      unfold wp_M_putDigits_J1070 wp_M_putDigits_J1220
      rw [ez W0 hW, ez K hK]
      exact ⟨fun _ => this, fun z => ⟨fun _ => this, fun z2 => absurd ⟨z, z2⟩ h0⟩⟩
end DP
