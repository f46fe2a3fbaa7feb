/-! the digits of a number as they are written: whole ones with GROUP, then DECIMAL and the fraction's, class and reference -/
def whW (s : Nat → Nat) (D : Int → Nat) (e : Int) (gp : Nat → Bool) : Nat → List Int32
  | 0 => []
  | n + 1 => [nI (s 5 + D (e + n))] ++ ((if gp n = true then [nI (s 1)] else []) ++ whW s D e gp n)
theorem whW_len (s : Nat → Nat) (D : Int → Nat) (e : Int) (gp : Nat → Bool) : ∀ n, n ≤ (whW s D e gp n).length ∧ (whW s D e gp n).length ≤ 2 * n := by
  intro n
  induction n with
  | zero => simp [whW]
  | succ n ih =>
    simp only [whW, List.length_append, List.length_singleton]
    split <;> simp <;> omega
def frW (s : Nat → Nat) (D : Int → Nat) (e : Int) (k : Nat) : List Int32 := (List.range k).map (fun i => nI (s 5 + D (e - ((i + 1 : Nat) : Int))))
theorem frW_s (s : Nat → Nat) (D : Int → Nat) (e : Int) (k : Nat) : frW s D e (k + 1) = frW s D e k ++ [nI (s 5 + D (e - ((k + 1 : Nat) : Int)))] := by
  unfold frW
  rw [List.range_succ, List.map_append]; rfl
theorem frW_len (s : Nat → Nat) (D : Int → Nat) (e : Int) (k : Nat) : (frW s D e k).length = k := by unfold frW; simp
def gpB (W L C B T : Nat) (n : Nat) : Bool := decide (B + L ≤ W ∧ 0 < C ∧ B ≤ n ∧ (n - B) % (if C = 1 then B else T) = 0)
theorem gpB_iff {W L C B T n : Nat} : gpB W L C B T n = true ↔ B + L ≤ W ∧ grp C B T n := by
  unfold gpB grp
  exact decide_eq_true_iff
section DW
variable {D : Int → Nat} {f g sf mf has : Nat → Int32} {s : Nat → Nat} {C B T : Nat} {sl ml : Int32}
theorem s_putWholeL (hs : Num6 sf s) (hD : DigOk D) (hf : DigC f D) {e : Int} (e1 : -200 ≤ e) (e2 : e ≤ 200) (hC : C ≤ 40) (hB : B ≤ 40) (hT : T ≤ 40) (hpos : 0 < C → 1 ≤ T ∧ 1 ≤ B) {gd : Bool} {gp : Nat → Bool} (hgp : ∀ n, n ≤ 100 → (gp n = true ↔ gd = true ∧ grp C B T n)) :
    ∀ (n : Nat), n ≤ 100 → ∀ (w : List Int32) (pn : Int32) (pf : Nat → Int32), Pg pn pf w → w.length + 2 * n ≤ 256 → ∃ (pn' : Int32) (pf' : Nat → Int32) (m : Nat), Pg pn' pf' (w ++ whW s D e gp n) ∧ ∀ Q : (Int32 × (Nat → Int32)) → Prop, Q (pn', pf') → wp_Sc_putWhole_L280 m f sl sf (nI C) (nI B) (nI T) (iI e) gd (iI ((n : Int) - 1)) pn pf Q := by
  intro n
  induction n with
  | zero =>
    intro _ w pn pf hp hl
    refine ⟨pn, pf, 1, by simpa [whW] using hp, fun Q hQ => ?_⟩
    unfold wp_Sc_putWhole_L280
    exact ⟨fun _ => hQ, fun z => absurd (by decide) z⟩
  | succ n ih =>
    intro hn w pn pf hp hl
    have e5 : iI (((n + 1 : Nat) : Int) - 1) = nI n := by
      rw [nI_iI]; congr 1; omega
    have e6 : nI n + (-1) = iI ((n : Int) - 1) := by
      rw [nI_iI, z_m1, iI_add]; congr 1
    have e7 : iI e + nI n = iI (e + n) := by rw [nI_iI, iI_add]
    have e8 : ¬ nI n < 0 := nI_pos (by omega)
    obtain ⟨b, hb, hbw⟩ := s_groups (left := n) hC hB hT (by omega) hpos
    obtain ⟨p1, f1, hp1, hw1⟩ := s_putDigit hs hp (by omega) (D (e + n))
    by_cases hg : gp n = true
    · obtain ⟨p2, f2, hp2, hw2⟩ := s_putSymbol hs hp1 (by simp; omega) (k := 1) (by omega)
      obtain ⟨p3, f3, m, hp3, hw3⟩ := ih (by omega) _ p2 f2 hp2 (by simp; omega)
      obtain ⟨hgd, hgr⟩ := (hgp n (by omega)).mp hg
      have hbt : b = true := hb.mpr hgr
      refine ⟨p3, f3, m + 1, ?_, fun Q hQ => ?_⟩
      · have : w ++ whW s D e gp (n + 1) = w ++ [nI (s 5 + D (e + n))] ++ [nI (s 1)] ++ whW s D e gp n := by simp [whW, hg]
        rw [this]; exact hp3
      · have h3 := hw3 Q hQ
        unfold wp_Sc_putWhole_L280
        rw [e5, e6, e7]
        exact ⟨fun z => absurd z e8, fun _ => s_digit hD hf (by omega) (by omega) _ (hw1 _ ⟨fun z => (by rw [hgd] at z; cases z), fun _ => hbw _ ⟨fun z => (by rw [hbt] at z; cases z), fun _ => hw2 _ h3⟩⟩)⟩
    · obtain ⟨p3, f3, m, hp3, hw3⟩ := ih (by omega) _ p1 f1 hp1 (by simp; omega)
      refine ⟨p3, f3, m + 1, ?_, fun Q hQ => ?_⟩
      · have : w ++ whW s D e gp (n + 1) = w ++ [nI (s 5 + D (e + n))] ++ whW s D e gp n := by simp [whW, hg]
        rw [this]; exact hp3
      · have h3 := hw3 Q hQ
        unfold wp_Sc_putWhole_L280
        rw [e5, e6, e7]
        exact ⟨fun z => absurd z e8, fun _ => s_digit hD hf (by omega) (by omega) _ (hw1 _ ⟨fun _ => h3, fun z => hbw _ ⟨fun _ => h3, fun z2 => absurd ((hgp n (by omega)).mpr ⟨z, hb.mp z2⟩) hg⟩⟩)⟩
theorem in16 : vp_in (1 : Int32) 6 := by unfold vp_in; decide
theorem in06 : vp_in (0 : Int32) 6 := by unfold vp_in; decide
theorem in46 : vp_in (4 : Int32) 6 := by unfold vp_in; decide
theorem in09 : vp_in (0 : Int32) 9 := by unfold vp_in; decide
theorem cn0 : (0 : Int32).toNatClampNeg = 0 := by decide
theorem s_mWholeL (hs : Num6 mf s) (hD : DigOk D) (hg : DigM g D) {e : Int} (e1 : -200 ≤ e) (e2 : e ≤ 200) (h7 : has 7 = nI B) (h8 : has 8 = nI (if C = 1 then B else T)) (hC : C ≤ 40) (hB : B ≤ 40) (hT : T ≤ 40) (hpos : 0 < C → 1 ≤ T ∧ 1 ≤ B) {gd : Bool} {gp : Nat → Bool} (hgd : gd = true → 0 < C) (hgp : ∀ n, n ≤ 100 → (gp n = true ↔ gd = true ∧ grp C B T n)) {bh : Int32} :
    ∀ (n : Nat), n ≤ 100 → ∀ (w : List Int32) (pn : Int32) (pf : Nat → Int32), Pg pn pf w → w.length + 2 * n ≤ 256 → ∃ (pn' : Int32) (pf' : Nat → Int32), Pg pn' pf' (w ++ whW s D e gp n) ∧ ∀ (m : Nat) (Q : (Int32 × (Nat → Int32)) → Prop), wp_M_putDigits_L1710 m ml has mf g (iI e) bh gd (iI (-1)) pn' pf' Q → wp_M_putDigits_L1710 (m + n) ml has mf g (iI e) bh gd (iI ((n : Int) - 1)) pn pf Q := by
  intro n
  induction n with
  | zero =>
    intro _ w pn pf hp hl
    exact ⟨pn, pf, by simpa [whW] using hp, fun m Q hQ => hQ⟩
  | succ n ih =>
    intro hn w pn pf hp hl
    have e5 : iI (((n + 1 : Nat) : Int) - 1) = nI n := by
      rw [nI_iI]; congr 1; omega
    have e6 : nI n + (-1) = iI ((n : Int) - 1) := by
      rw [nI_iI, z_m1, iI_add]; congr 1
    have e7 : iI e + nI n = iI (e + n) := by rw [nI_iI, iI_add]
    have e8 : ¬ nI n < 0 := nI_pos (by omega)
    have e9 : mf (5 : Int32).toNatClampNeg + nI (D (e + n)) = nI (s 5 + D (e + n)) := by rw [cn5, (hs 5 (by omega)).1, nI_add]
    have e10 : mf (1 : Int32).toNatClampNeg = nI (s 1) := by rw [cn1, (hs 1 (by omega)).1]
    obtain ⟨p1, f1, hp1, hw1⟩ := s_mput hp (by omega) (nI (s 5 + D (e + n)))
    by_cases hg' : gp n = true
    · obtain ⟨p2, f2, hp2, hw2⟩ := s_mput hp1 (by simp; omega) (nI (s 1))
      obtain ⟨p3, f3, hp3, hw3⟩ := ih (by omega) _ p2 f2 hp2 (by simp; omega)
      obtain ⟨hgd', hgr⟩ := (hgp n (by omega)).mp hg'
      obtain ⟨b, hb, hbw⟩ := s_border (left := n) h7 h8 hgr.1 hC hB hT (by omega) hpos
      have hbt : b = true := hb.mpr hgr
      have hn0 : ¬ nI n ≤ 0 := nI_nle (by have := (hpos hgr.1).2; have := hgr.2.1; omega) (by omega)
      refine ⟨p3, f3, ?_, fun m Q hQ => ?_⟩
      · have : w ++ whW s D e gp (n + 1) = w ++ [nI (s 5 + D (e + n))] ++ [nI (s 1)] ++ whW s D e gp n := by simp [whW, hg']
        rw [this]; exact hp3
      · have h3 := hw3 m Q hQ
        show wp_M_putDigits_L1710 ((m + n) + 1) ml has mf g (iI e) bh gd (iI (((n + 1 : Nat) : Int) - 1)) pn pf Q
        unfold wp_M_putDigits_L1710
        rw [e5, e6, e7]
        refine ⟨fun z => absurd z e8, fun _ => ⟨in56, s_digitAt hD hg (by omega) (by omega) _ ?_⟩⟩
        rw [e9]
        refine hw1 _ ⟨fun z => (by rw [hgd'] at z; cases z), fun _ => ⟨fun z => absurd z hn0, fun _ => hbw _ ⟨fun z => (by rw [hbt] at z; cases z), fun _ => ⟨in16, ?_⟩⟩⟩⟩
        rw [e10]
        exact hw2 _ h3
    · obtain ⟨p3, f3, hp3, hw3⟩ := ih (by omega) _ p1 f1 hp1 (by simp; omega)
      refine ⟨p3, f3, ?_, fun m Q hQ => ?_⟩
      · have : w ++ whW s D e gp (n + 1) = w ++ [nI (s 5 + D (e + n))] ++ whW s D e gp n := by simp [whW, hg']
        rw [this]; exact hp3
      · have h3 := hw3 m Q hQ
        show wp_M_putDigits_L1710 ((m + n) + 1) ml has mf g (iI e) bh gd (iI (((n + 1 : Nat) : Int) - 1)) pn pf Q
        unfold wp_M_putDigits_L1710
        rw [e5, e6, e7]
        refine ⟨fun z => absurd z e8, fun _ => ⟨in56, s_digitAt hD hg (by omega) (by omega) _ ?_⟩⟩
        rw [e9]
        refine hw1 _ ⟨fun _ => h3, fun z => ⟨fun _ => h3, fun _ => ?_⟩⟩
        obtain ⟨b, hb, hbw⟩ := s_border (left := n) h7 h8 (hgd z) hC hB hT (by omega) hpos
        exact hbw _ ⟨fun _ => h3, fun z2 => absurd ((hgp n (by omega)).mpr ⟨z, hb.mp z2⟩) hg'⟩
theorem s_fracL (hs : Num6 sf s) (hD : DigOk D) (hf : DigC f D) {e : Int} (e1 : -200 ≤ e) (e2 : e ≤ 200) {K : Nat} (hK : K ≤ 100) {w : List Int32} (hl : w.length + K ≤ 256) {a1 a2 a3 a4 a5 a6 a7 : Int32} : ∀ (d i : Nat), i + d = K → ∀ (n : Int32) (p : Nat → Int32), Pg n p (w ++ frW s D e i) → ∃ (n' : Int32) (p' : Nat → Int32) (m : Nat), Pg n' p' (w ++ frW s D e K) ∧ ∀ Q : (Int32 × (Nat → Int32)) → Prop, Q (n', p') → wp_Sc_putDigits_L1020 m f sl sf a1 a2 a3 a4 a5 a6 a7 (iI e) (nI K) (nI (i + 1)) n p Q := by
  intro d
  induction d with
  | zero =>
    intro i hi n p hp
    obtain rfl : i = K := by omega
    refine ⟨n, p, 1, hp, fun Q hQ => ?_⟩
    unfold wp_Sc_putDigits_L1020
    exact ⟨fun _ => hQ, fun z => absurd (nI_lt (by omega) (by omega)) z⟩
  | succ d ih =>
    intro i hi n p hp
    have e5 : iI e - nI (i + 1) = iI (e - ((i + 1 : Nat) : Int)) := by rw [nI_iI, iI_sub]
    have e6 : ¬ nI K < nI (i + 1) := nI_nlt (by omega) (by omega)
    obtain ⟨p1, f1, hp1, hw1⟩ := s_putDigit hs hp (by rw [List.length_append, frW_len]; omega) (D (e - ((i + 1 : Nat) : Int)))
    rw [List.append_assoc, ← frW_s] at hp1
    obtain ⟨p2, f2, m, hp2, hw2⟩ := ih (i + 1) (by omega) p1 f1 hp1
    refine ⟨p2, f2, m + 1, hp2, fun Q hQ => ?_⟩
    have h2 := hw2 Q hQ
    unfold wp_Sc_putDigits_L1020
    rw [e5, nI_1]
    exact ⟨fun z => absurd z e6, fun _ => s_digit hD hf (by omega) (by omega) _ (hw1 _ h2)⟩
theorem s_mFracL (hs : Num6 mf s) (hD : DigOk D) (hg : DigM g D) {e : Int} (e1 : -200 ≤ e) (e2 : e ≤ 200) {K : Nat} (hK : K ≤ 100) {w : List Int32} (hl : w.length + K ≤ 256) : ∀ (d i : Nat), i + d = K → ∀ (n : Int32) (p : Nat → Int32), Pg n p (w ++ frW s D e i) → ∃ (n' : Int32) (p' : Nat → Int32) (m : Nat), Pg n' p' (w ++ frW s D e K) ∧ ∀ Q : (Int32 × (Nat → Int32)) → Prop, Q (n', p') → wp_M_putDigits_L2480 m ml has mf g (iI e) (nI K) (nI (i + 1)) n p Q := by
  intro d
  induction d with
  | zero =>
    intro i hi n p hp
    obtain rfl : i = K := by omega
    refine ⟨n, p, 1, hp, fun Q hQ => ?_⟩
    unfold wp_M_putDigits_L2480
    exact ⟨fun _ => hQ, fun z => absurd (nI_lt (by omega) (by omega)) z⟩
  | succ d ih =>
    intro i hi n p hp
    have e5 : iI e - nI (i + 1) = iI (e - ((i + 1 : Nat) : Int)) := by rw [nI_iI, iI_sub]
    have e6 : ¬ nI K < nI (i + 1) := nI_nlt (by omega) (by omega)
    have e9 : mf (5 : Int32).toNatClampNeg + nI (D (e - ((i + 1 : Nat) : Int))) = nI (s 5 + D (e - ((i + 1 : Nat) : Int))) := by rw [cn5, (hs 5 (by omega)).1, nI_add]
    obtain ⟨p1, f1, hp1, hw1⟩ := s_mput hp (by rw [List.length_append, frW_len]; omega) (nI (s 5 + D (e - ((i + 1 : Nat) : Int))))
    rw [List.append_assoc, ← frW_s] at hp1
    obtain ⟨p2, f2, m, hp2, hw2⟩ := ih (i + 1) (by omega) p1 f1 hp1
    refine ⟨p2, f2, m + 1, hp2, fun Q hQ => ?_⟩
    have h2 := hw2 Q hQ
    unfold wp_M_putDigits_L2480
    rw [e5, nI_1]
    refine ⟨fun z => absurd z e6, fun _ => ⟨in56, s_digitAt hD hg (by omega) (by omega) _ ?_⟩⟩
    rw [e9]
    exact hw1 _ h2
end DW
