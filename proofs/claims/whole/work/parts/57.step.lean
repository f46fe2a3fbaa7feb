/-! the reference's step, a row a state and kind -/
theorem cn1 : (1 : Int32).toNatClampNeg = 1 := by decide
theorem cn2 : (2 : Int32).toNatClampNeg = 2 := by decide
theorem cn3 : (3 : Int32).toNatClampNeg = 3 := by decide
theorem cn4 : (4 : Int32).toNatClampNeg = 4 := by decide
theorem cn5 : (5 : Int32).toNatClampNeg = 5 := by decide
theorem cn6 : (6 : Int32).toNatClampNeg = 6 := by decide
theorem cn7 : (7 : Int32).toNatClampNeg = 7 := by decide
theorem cn8 : (8 : Int32).toNatClampNeg = 8 := by decide
theorem in1 : vp_in (1 : Int32) 9 := by unfold vp_in; decide
theorem in2 : vp_in (2 : Int32) 9 := by unfold vp_in; decide
theorem in3 : vp_in (3 : Int32) 9 := by unfold vp_in; decide
theorem in4 : vp_in (4 : Int32) 9 := by unfold vp_in; decide
theorem in5 : vp_in (5 : Int32) 9 := by unfold vp_in; decide
theorem in6 : vp_in (6 : Int32) 9 := by unfold vp_in; decide
theorem in7 : vp_in (7 : Int32) 9 := by unfold vp_in; decide
theorem in8 : vp_in (8 : Int32) 9 := by unfold vp_in; decide
theorem clb0 : (bI false).toNatClampNeg = 0 := by decide
theorem clb1 : (bI true).toNatClampNeg = 1 := by decide
theorem inb0 : vp_in (bI false) 9 := by unfold vp_in; decide
theorem inb1 : vp_in (bI true) 9 := by unfold vp_in; decide
section MS
variable {m_sub m_q : Int32} {m_now m_first m_da m_dl : Nat → Int32} {c : Nat}
theorem ms_0_k35 (hc : c ≤ 126) (hk : c = 35) (hz : m_now 1 ≤ 0) : ∀ Q, Q true (2, m_sub, m_q, upd (upd m_now 0 (m_now 0 + 1)) 7 (upd m_now 0 (m_now 0 + 1) 7 + 1), m_first, m_da, m_dl) → wp_M_step 0 m_sub m_q m_now m_first m_da m_dl (nI c) Q := by
  intro Q hQ
  subst hk
  simp (decide := true) [wp_M_step, wp_M_step_J1920, wp_M_step_J2220, wp_M_integerDigit, wp_M_integerDigit_J170, wp_M_integerDigit_J320, wp_M_plainAffix, wp_M_special, wp_M_special_J180, wp_M_inNumber, wp_M_power, wp_M_behind, wp_M_inFraction, wp_M_inFraction_J140, wp_M_inFraction_J310, wp_M_inFraction_J790, clb0, clb1, cn1, cn2, cn3, cn4, cn5, cn6, cn7, cn8, inb0, inb1, in1, in2, in3, in4, in5, in6, in7, in8, q35 hc, q37 hc, q39 hc, q43 hc, q44 hc, q45 hc, q46 hc, q48 hc, q59 hc, q69 hc, ql48 hc, ql49 hc, qle57 hc, hz, hQ]
theorem ms_0_k35n (hc : c ≤ 126) (hk : c = 35) (hz : ¬ m_now 1 ≤ 0) : ∀ Q, Q false (0, m_sub, m_q, m_now, m_first, m_da, m_dl) → wp_M_step 0 m_sub m_q m_now m_first m_da m_dl (nI c) Q := by
  intro Q hQ
  subst hk
  simp (decide := true) [wp_M_step, wp_M_step_J1920, wp_M_step_J2220, wp_M_integerDigit, wp_M_integerDigit_J170, wp_M_integerDigit_J320, wp_M_plainAffix, wp_M_special, wp_M_special_J180, wp_M_inNumber, wp_M_power, wp_M_behind, wp_M_inFraction, wp_M_inFraction_J140, wp_M_inFraction_J310, wp_M_inFraction_J790, clb0, clb1, cn1, cn2, cn3, cn4, cn5, cn6, cn7, cn8, inb0, inb1, in1, in2, in3, in4, in5, in6, in7, in8, q35 hc, q37 hc, q39 hc, q43 hc, q44 hc, q45 hc, q46 hc, q48 hc, q59 hc, q69 hc, ql48 hc, ql49 hc, qle57 hc, hz, hQ]
theorem ms_0_k37 (hc : c ≤ 126) (hk : c = 37) {s k : Nat} (hs : s ≤ 1) (hsub : m_sub = nI s) (hkk : k < 40) (hdl : m_dl (2 * s + 0) = nI k) : ∀ Q, Q true (0, m_sub, m_q, m_now, m_first, upd m_da (40 * (2 * s + 0) + k) 201, upd m_dl (2 * s + 0) (nI (k + 1))) → wp_M_step 0 m_sub m_q m_now m_first m_da m_dl (nI c) Q := by
  intro Q hQ
  subst hk
  simp (decide := true) [wp_M_step, wp_M_step_J1920, wp_M_step_J2220, wp_M_integerDigit, wp_M_integerDigit_J170, wp_M_integerDigit_J320, wp_M_plainAffix, wp_M_special, wp_M_special_J180, wp_M_inNumber, wp_M_power, wp_M_behind, wp_M_inFraction, wp_M_inFraction_J140, wp_M_inFraction_J310, wp_M_inFraction_J790, clb0, clb1, cn1, cn2, cn3, cn4, cn5, cn6, cn7, cn8, inb0, inb1, in1, in2, in3, in4, in5, in6, in7, in8, q35 hc, q37 hc, q39 hc, q43 hc, q44 hc, q45 hc, q46 hc, q48 hc, q59 hc, q69 hc, ql48 hc, ql49 hc, qle57 hc]
  exact s_keep hs hsub (e := 0) (by omega) (by decide) hkk hdl _ hQ
theorem ms_0_k39 (hc : c ≤ 126) (hk : c = 39)  : ∀ Q, Q true (1, m_sub, 0, m_now, m_first, m_da, m_dl) → wp_M_step 0 m_sub m_q m_now m_first m_da m_dl (nI c) Q := by
  intro Q hQ
  subst hk
  simp (decide := true) [wp_M_step, wp_M_step_J1920, wp_M_step_J2220, wp_M_integerDigit, wp_M_integerDigit_J170, wp_M_integerDigit_J320, wp_M_plainAffix, wp_M_special, wp_M_special_J180, wp_M_inNumber, wp_M_power, wp_M_behind, wp_M_inFraction, wp_M_inFraction_J140, wp_M_inFraction_J310, wp_M_inFraction_J790, clb0, clb1, cn1, cn2, cn3, cn4, cn5, cn6, cn7, cn8, inb0, inb1, in1, in2, in3, in4, in5, in6, in7, in8, q35 hc, q37 hc, q39 hc, q43 hc, q44 hc, q45 hc, q46 hc, q48 hc, q59 hc, q69 hc, ql48 hc, ql49 hc, qle57 hc, hQ]
theorem ms_0_k43 (hc : c ≤ 126) (hk : c = 43) {s k : Nat} (hs : s ≤ 1) (hsub : m_sub = nI s) (hkk : k < 40) (hdl : m_dl (2 * s + 0) = nI k) : ∀ Q, Q true (0, m_sub, m_q, m_now, m_first, upd m_da (40 * (2 * s + 0) + k) 43, upd m_dl (2 * s + 0) (nI (k + 1))) → wp_M_step 0 m_sub m_q m_now m_first m_da m_dl (nI c) Q := by
  intro Q hQ
  subst hk
  simp (decide := true) [wp_M_step, wp_M_step_J1920, wp_M_step_J2220, wp_M_integerDigit, wp_M_integerDigit_J170, wp_M_integerDigit_J320, wp_M_plainAffix, wp_M_special, wp_M_special_J180, wp_M_inNumber, wp_M_power, wp_M_behind, wp_M_inFraction, wp_M_inFraction_J140, wp_M_inFraction_J310, wp_M_inFraction_J790, clb0, clb1, cn1, cn2, cn3, cn4, cn5, cn6, cn7, cn8, inb0, inb1, in1, in2, in3, in4, in5, in6, in7, in8, q35 hc, q37 hc, q39 hc, q43 hc, q44 hc, q45 hc, q46 hc, q48 hc, q59 hc, q69 hc, ql48 hc, ql49 hc, qle57 hc]
  exact s_keep hs hsub (e := 0) (by omega) (by decide) hkk hdl _ hQ
theorem ms_0_k44 (hc : c ≤ 126) (hk : c = 44)  : ∀ Q, Q false (0, m_sub, m_q, m_now, m_first, m_da, m_dl) → wp_M_step 0 m_sub m_q m_now m_first m_da m_dl (nI c) Q := by
  intro Q hQ
  subst hk
  simp (decide := true) [wp_M_step, wp_M_step_J1920, wp_M_step_J2220, wp_M_integerDigit, wp_M_integerDigit_J170, wp_M_integerDigit_J320, wp_M_plainAffix, wp_M_special, wp_M_special_J180, wp_M_inNumber, wp_M_power, wp_M_behind, wp_M_inFraction, wp_M_inFraction_J140, wp_M_inFraction_J310, wp_M_inFraction_J790, clb0, clb1, cn1, cn2, cn3, cn4, cn5, cn6, cn7, cn8, inb0, inb1, in1, in2, in3, in4, in5, in6, in7, in8, q35 hc, q37 hc, q39 hc, q43 hc, q44 hc, q45 hc, q46 hc, q48 hc, q59 hc, q69 hc, ql48 hc, ql49 hc, qle57 hc, hQ]
theorem ms_0_k45 (hc : c ≤ 126) (hk : c = 45) {s k : Nat} (hs : s ≤ 1) (hsub : m_sub = nI s) (hkk : k < 40) (hdl : m_dl (2 * s + 0) = nI k) : ∀ Q, Q true (0, m_sub, m_q, m_now, m_first, upd m_da (40 * (2 * s + 0) + k) 200, upd m_dl (2 * s + 0) (nI (k + 1))) → wp_M_step 0 m_sub m_q m_now m_first m_da m_dl (nI c) Q := by
  intro Q hQ
  subst hk
  simp (decide := true) [wp_M_step, wp_M_step_J1920, wp_M_step_J2220, wp_M_integerDigit, wp_M_integerDigit_J170, wp_M_integerDigit_J320, wp_M_plainAffix, wp_M_special, wp_M_special_J180, wp_M_inNumber, wp_M_power, wp_M_behind, wp_M_inFraction, wp_M_inFraction_J140, wp_M_inFraction_J310, wp_M_inFraction_J790, clb0, clb1, cn1, cn2, cn3, cn4, cn5, cn6, cn7, cn8, inb0, inb1, in1, in2, in3, in4, in5, in6, in7, in8, q35 hc, q37 hc, q39 hc, q43 hc, q44 hc, q45 hc, q46 hc, q48 hc, q59 hc, q69 hc, ql48 hc, ql49 hc, qle57 hc]
  exact s_keep hs hsub (e := 0) (by omega) (by decide) hkk hdl _ hQ
theorem ms_0_k46 (hc : c ≤ 126) (hk : c = 46)  : ∀ Q, Q true (4, m_sub, m_q, m_now, m_first, m_da, m_dl) → wp_M_step 0 m_sub m_q m_now m_first m_da m_dl (nI c) Q := by
  intro Q hQ
  subst hk
  simp (decide := true) [wp_M_step, wp_M_step_J1920, wp_M_step_J2220, wp_M_integerDigit, wp_M_integerDigit_J170, wp_M_integerDigit_J320, wp_M_plainAffix, wp_M_special, wp_M_special_J180, wp_M_inNumber, wp_M_power, wp_M_behind, wp_M_inFraction, wp_M_inFraction_J140, wp_M_inFraction_J310, wp_M_inFraction_J790, clb0, clb1, cn1, cn2, cn3, cn4, cn5, cn6, cn7, cn8, inb0, inb1, in1, in2, in3, in4, in5, in6, in7, in8, q35 hc, q37 hc, q39 hc, q43 hc, q44 hc, q45 hc, q46 hc, q48 hc, q59 hc, q69 hc, ql48 hc, ql49 hc, qle57 hc, hQ]
theorem ms_0_k48 (hc : c ≤ 126) (hk : c = 48)  : ∀ Q, Q true (2, m_sub, m_q, upd (upd m_now 1 (m_now 1 + 1)) 7 (upd m_now 1 (m_now 1 + 1) 7 + 1), m_first, m_da, m_dl) → wp_M_step 0 m_sub m_q m_now m_first m_da m_dl (nI c) Q := by
  intro Q hQ
  subst hk
  simp (decide := true) [wp_M_step, wp_M_step_J1920, wp_M_step_J2220, wp_M_integerDigit, wp_M_integerDigit_J170, wp_M_integerDigit_J320, wp_M_plainAffix, wp_M_special, wp_M_special_J180, wp_M_inNumber, wp_M_power, wp_M_behind, wp_M_inFraction, wp_M_inFraction_J140, wp_M_inFraction_J310, wp_M_inFraction_J790, clb0, clb1, cn1, cn2, cn3, cn4, cn5, cn6, cn7, cn8, inb0, inb1, in1, in2, in3, in4, in5, in6, in7, in8, q35 hc, q37 hc, q39 hc, q43 hc, q44 hc, q45 hc, q46 hc, q48 hc, q59 hc, q69 hc, ql48 hc, ql49 hc, qle57 hc, hQ]
theorem ms_0_k59 (hc : c ≤ 126) (hk : c = 59)  : ∀ Q, Q false (0, m_sub, m_q, m_now, m_first, m_da, m_dl) → wp_M_step 0 m_sub m_q m_now m_first m_da m_dl (nI c) Q := by
  intro Q hQ
  subst hk
  simp (decide := true) [wp_M_step, wp_M_step_J1920, wp_M_step_J2220, wp_M_integerDigit, wp_M_integerDigit_J170, wp_M_integerDigit_J320, wp_M_plainAffix, wp_M_special, wp_M_special_J180, wp_M_inNumber, wp_M_power, wp_M_behind, wp_M_inFraction, wp_M_inFraction_J140, wp_M_inFraction_J310, wp_M_inFraction_J790, clb0, clb1, cn1, cn2, cn3, cn4, cn5, cn6, cn7, cn8, inb0, inb1, in1, in2, in3, in4, in5, in6, in7, in8, q35 hc, q37 hc, q39 hc, q43 hc, q44 hc, q45 hc, q46 hc, q48 hc, q59 hc, q69 hc, ql48 hc, ql49 hc, qle57 hc, hQ]
theorem ms_0_k69 (hc : c ≤ 126) (hk : c = 69)  : ∀ Q, Q false (0, m_sub, m_q, m_now, m_first, m_da, m_dl) → wp_M_step 0 m_sub m_q m_now m_first m_da m_dl (nI c) Q := by
  intro Q hQ
  subst hk
  simp (decide := true) [wp_M_step, wp_M_step_J1920, wp_M_step_J2220, wp_M_integerDigit, wp_M_integerDigit_J170, wp_M_integerDigit_J320, wp_M_plainAffix, wp_M_special, wp_M_special_J180, wp_M_inNumber, wp_M_power, wp_M_behind, wp_M_inFraction, wp_M_inFraction_J140, wp_M_inFraction_J310, wp_M_inFraction_J790, clb0, clb1, cn1, cn2, cn3, cn4, cn5, cn6, cn7, cn8, inb0, inb1, in1, in2, in3, in4, in5, in6, in7, in8, q35 hc, q37 hc, q39 hc, q43 hc, q44 hc, q45 hc, q46 hc, q48 hc, q59 hc, q69 hc, ql48 hc, ql49 hc, qle57 hc, hQ]
theorem ms_0_kd (hc : c ≤ 126) (hk : 49 ≤ c ∧ c ≤ 57)  : ∀ Q, Q false (0, m_sub, m_q, m_now, m_first, m_da, m_dl) → wp_M_step 0 m_sub m_q m_now m_first m_da m_dl (nI c) Q := by
  intro Q hQ
  have n35 : ¬ c = 35 := by omega
  have n37 : ¬ c = 37 := by omega
  have n39 : ¬ c = 39 := by omega
  have n43 : ¬ c = 43 := by omega
  have n44 : ¬ c = 44 := by omega
  have n45 : ¬ c = 45 := by omega
  have n46 : ¬ c = 46 := by omega
  have n48 : ¬ c = 48 := by omega
  have n59 : ¬ c = 59 := by omega
  have n69 : ¬ c = 69 := by omega
  have d48 : ¬ c < 48 := by omega
  have d49 : ¬ c < 49 := by omega
  have d57 : c ≤ 57 := hk.2
  simp (decide := true) [wp_M_step, wp_M_step_J1920, wp_M_step_J2220, wp_M_integerDigit, wp_M_integerDigit_J170, wp_M_integerDigit_J320, wp_M_plainAffix, wp_M_special, wp_M_special_J180, wp_M_inNumber, wp_M_power, wp_M_behind, wp_M_inFraction, wp_M_inFraction_J140, wp_M_inFraction_J310, wp_M_inFraction_J790, clb0, clb1, cn1, cn2, cn3, cn4, cn5, cn6, cn7, cn8, inb0, inb1, in1, in2, in3, in4, in5, in6, in7, in8, q35 hc, q37 hc, q39 hc, q43 hc, q44 hc, q45 hc, q46 hc, q48 hc, q59 hc, q69 hc, ql48 hc, ql49 hc, qle57 hc, n35, n37, n39, n43, n44, n45, n46, n48, n59, n69, d48, d49, d57, hQ]
theorem ms_0_ko (hc : c ≤ 126) (hk : ¬ c = 35 ∧ ¬ c = 37 ∧ ¬ c = 39 ∧ ¬ c = 43 ∧ ¬ c = 44 ∧ ¬ c = 45 ∧ ¬ c = 46 ∧ ¬ c = 48 ∧ ¬ c = 59 ∧ ¬ c = 69 ∧ (c < 48 ∨ 57 < c)) {s k : Nat} (hs : s ≤ 1) (hsub : m_sub = nI s) (hkk : k < 40) (hdl : m_dl (2 * s + 0) = nI k) : ∀ Q, Q true (0, m_sub, m_q, m_now, m_first, upd m_da (40 * (2 * s + 0) + k) (nI c), upd m_dl (2 * s + 0) (nI (k + 1))) → wp_M_step 0 m_sub m_q m_now m_first m_da m_dl (nI c) Q := by
  intro Q hQ
  obtain ⟨n35, n37, n39, n43, n44, n45, n46, n48, n59, n69, hd⟩ := hk
  rcases hd with h1 | h1
  · simp (decide := true) [wp_M_step, wp_M_step_J1920, wp_M_step_J2220, wp_M_integerDigit, wp_M_integerDigit_J170, wp_M_integerDigit_J320, wp_M_plainAffix, wp_M_special, wp_M_special_J180, wp_M_inNumber, wp_M_power, wp_M_behind, wp_M_inFraction, wp_M_inFraction_J140, wp_M_inFraction_J310, wp_M_inFraction_J790, clb0, clb1, cn1, cn2, cn3, cn4, cn5, cn6, cn7, cn8, inb0, inb1, in1, in2, in3, in4, in5, in6, in7, in8, q35 hc, q37 hc, q39 hc, q43 hc, q44 hc, q45 hc, q46 hc, q48 hc, q59 hc, q69 hc, ql48 hc, ql49 hc, qle57 hc, n35, n37, n39, n43, n44, n45, n46, n48, n59, n69, h1]
    exact s_keep hs hsub (e := 0) (by omega) (by decide) hkk hdl _ hQ
  · have h2 : ¬ c < 48 := by omega
    have h3 : ¬ c ≤ 57 := by omega
    simp (decide := true) [wp_M_step, wp_M_step_J1920, wp_M_step_J2220, wp_M_integerDigit, wp_M_integerDigit_J170, wp_M_integerDigit_J320, wp_M_plainAffix, wp_M_special, wp_M_special_J180, wp_M_inNumber, wp_M_power, wp_M_behind, wp_M_inFraction, wp_M_inFraction_J140, wp_M_inFraction_J310, wp_M_inFraction_J790, clb0, clb1, cn1, cn2, cn3, cn4, cn5, cn6, cn7, cn8, inb0, inb1, in1, in2, in3, in4, in5, in6, in7, in8, q35 hc, q37 hc, q39 hc, q43 hc, q44 hc, q45 hc, q46 hc, q48 hc, q59 hc, q69 hc, ql48 hc, ql49 hc, qle57 hc, n35, n37, n39, n43, n44, n45, n46, n48, n59, n69, h2, h3]
    exact s_keep hs hsub (e := 0) (by omega) (by decide) hkk hdl _ hQ
theorem ms_2_k35 (hc : c ≤ 126) (hk : c = 35) (hz : m_now 1 ≤ 0) : ∀ Q, Q true (2, m_sub, m_q, upd (upd m_now 0 (m_now 0 + 1)) 7 (upd m_now 0 (m_now 0 + 1) 7 + 1), m_first, m_da, m_dl) → wp_M_step 2 m_sub m_q m_now m_first m_da m_dl (nI c) Q := by
  intro Q hQ
  subst hk
  simp (decide := true) [wp_M_step, wp_M_step_J1920, wp_M_step_J2220, wp_M_integerDigit, wp_M_integerDigit_J170, wp_M_integerDigit_J320, wp_M_plainAffix, wp_M_special, wp_M_special_J180, wp_M_inNumber, wp_M_power, wp_M_behind, wp_M_inFraction, wp_M_inFraction_J140, wp_M_inFraction_J310, wp_M_inFraction_J790, clb0, clb1, cn1, cn2, cn3, cn4, cn5, cn6, cn7, cn8, inb0, inb1, in1, in2, in3, in4, in5, in6, in7, in8, q35 hc, q37 hc, q39 hc, q43 hc, q44 hc, q45 hc, q46 hc, q48 hc, q59 hc, q69 hc, ql48 hc, ql49 hc, qle57 hc, hz, hQ]
theorem ms_2_k35n (hc : c ≤ 126) (hk : c = 35) (hz : ¬ m_now 1 ≤ 0) : ∀ Q, Q false (2, m_sub, m_q, m_now, m_first, m_da, m_dl) → wp_M_step 2 m_sub m_q m_now m_first m_da m_dl (nI c) Q := by
  intro Q hQ
  subst hk
  simp (decide := true) [wp_M_step, wp_M_step_J1920, wp_M_step_J2220, wp_M_integerDigit, wp_M_integerDigit_J170, wp_M_integerDigit_J320, wp_M_plainAffix, wp_M_special, wp_M_special_J180, wp_M_inNumber, wp_M_power, wp_M_behind, wp_M_inFraction, wp_M_inFraction_J140, wp_M_inFraction_J310, wp_M_inFraction_J790, clb0, clb1, cn1, cn2, cn3, cn4, cn5, cn6, cn7, cn8, inb0, inb1, in1, in2, in3, in4, in5, in6, in7, in8, q35 hc, q37 hc, q39 hc, q43 hc, q44 hc, q45 hc, q46 hc, q48 hc, q59 hc, q69 hc, ql48 hc, ql49 hc, qle57 hc, hz, hQ]
theorem ms_2_k37 (hc : c ≤ 126) (hk : c = 37) {s k : Nat} (hs : s ≤ 1) (hsub : m_sub = nI s) (hkk : k < 40) (hdl : m_dl (2 * s + 1) = nI k) : ∀ Q, Q true (10, m_sub, m_q, m_now, m_first, upd m_da (40 * (2 * s + 1) + k) 201, upd m_dl (2 * s + 1) (nI (k + 1))) → wp_M_step 2 m_sub m_q m_now m_first m_da m_dl (nI c) Q := by
  intro Q hQ
  subst hk
  simp (decide := true) [wp_M_step, wp_M_step_J1920, wp_M_step_J2220, wp_M_integerDigit, wp_M_integerDigit_J170, wp_M_integerDigit_J320, wp_M_plainAffix, wp_M_special, wp_M_special_J180, wp_M_inNumber, wp_M_power, wp_M_behind, wp_M_inFraction, wp_M_inFraction_J140, wp_M_inFraction_J310, wp_M_inFraction_J790, clb0, clb1, cn1, cn2, cn3, cn4, cn5, cn6, cn7, cn8, inb0, inb1, in1, in2, in3, in4, in5, in6, in7, in8, q35 hc, q37 hc, q39 hc, q43 hc, q44 hc, q45 hc, q46 hc, q48 hc, q59 hc, q69 hc, ql48 hc, ql49 hc, qle57 hc]
  exact s_keep hs hsub (e := 1) (by omega) (by decide) hkk hdl _ hQ
theorem ms_2_k39 (hc : c ≤ 126) (hk : c = 39)  : ∀ Q, Q true (11, m_sub, 0, m_now, m_first, m_da, m_dl) → wp_M_step 2 m_sub m_q m_now m_first m_da m_dl (nI c) Q := by
  intro Q hQ
  subst hk
  simp (decide := true) [wp_M_step, wp_M_step_J1920, wp_M_step_J2220, wp_M_integerDigit, wp_M_integerDigit_J170, wp_M_integerDigit_J320, wp_M_plainAffix, wp_M_special, wp_M_special_J180, wp_M_inNumber, wp_M_power, wp_M_behind, wp_M_inFraction, wp_M_inFraction_J140, wp_M_inFraction_J310, wp_M_inFraction_J790, clb0, clb1, cn1, cn2, cn3, cn4, cn5, cn6, cn7, cn8, inb0, inb1, in1, in2, in3, in4, in5, in6, in7, in8, q35 hc, q37 hc, q39 hc, q43 hc, q44 hc, q45 hc, q46 hc, q48 hc, q59 hc, q69 hc, ql48 hc, ql49 hc, qle57 hc, hQ]
theorem ms_2_k43 (hc : c ≤ 126) (hk : c = 43) {s k : Nat} (hs : s ≤ 1) (hsub : m_sub = nI s) (hkk : k < 40) (hdl : m_dl (2 * s + 1) = nI k) : ∀ Q, Q true (10, m_sub, m_q, m_now, m_first, upd m_da (40 * (2 * s + 1) + k) 43, upd m_dl (2 * s + 1) (nI (k + 1))) → wp_M_step 2 m_sub m_q m_now m_first m_da m_dl (nI c) Q := by
  intro Q hQ
  subst hk
  simp (decide := true) [wp_M_step, wp_M_step_J1920, wp_M_step_J2220, wp_M_integerDigit, wp_M_integerDigit_J170, wp_M_integerDigit_J320, wp_M_plainAffix, wp_M_special, wp_M_special_J180, wp_M_inNumber, wp_M_power, wp_M_behind, wp_M_inFraction, wp_M_inFraction_J140, wp_M_inFraction_J310, wp_M_inFraction_J790, clb0, clb1, cn1, cn2, cn3, cn4, cn5, cn6, cn7, cn8, inb0, inb1, in1, in2, in3, in4, in5, in6, in7, in8, q35 hc, q37 hc, q39 hc, q43 hc, q44 hc, q45 hc, q46 hc, q48 hc, q59 hc, q69 hc, ql48 hc, ql49 hc, qle57 hc]
  exact s_keep hs hsub (e := 1) (by omega) (by decide) hkk hdl _ hQ
theorem ms_2_k44 (hc : c ≤ 126) (hk : c = 44)  : ∀ Q, Q true (3, m_sub, m_q, upd (upd (upd m_now 8 (m_now 7)) 7 0) 6 (upd (upd m_now 8 (m_now 7)) 7 0 6 + 1), m_first, m_da, m_dl) → wp_M_step 2 m_sub m_q m_now m_first m_da m_dl (nI c) Q := by
  intro Q hQ
  subst hk
  simp (decide := true) [wp_M_step, wp_M_step_J1920, wp_M_step_J2220, wp_M_integerDigit, wp_M_integerDigit_J170, wp_M_integerDigit_J320, wp_M_plainAffix, wp_M_special, wp_M_special_J180, wp_M_inNumber, wp_M_power, wp_M_behind, wp_M_inFraction, wp_M_inFraction_J140, wp_M_inFraction_J310, wp_M_inFraction_J790, clb0, clb1, cn1, cn2, cn3, cn4, cn5, cn6, cn7, cn8, inb0, inb1, in1, in2, in3, in4, in5, in6, in7, in8, q35 hc, q37 hc, q39 hc, q43 hc, q44 hc, q45 hc, q46 hc, q48 hc, q59 hc, q69 hc, ql48 hc, ql49 hc, qle57 hc, hQ]
theorem ms_2_k45 (hc : c ≤ 126) (hk : c = 45) {s k : Nat} (hs : s ≤ 1) (hsub : m_sub = nI s) (hkk : k < 40) (hdl : m_dl (2 * s + 1) = nI k) : ∀ Q, Q true (10, m_sub, m_q, m_now, m_first, upd m_da (40 * (2 * s + 1) + k) 200, upd m_dl (2 * s + 1) (nI (k + 1))) → wp_M_step 2 m_sub m_q m_now m_first m_da m_dl (nI c) Q := by
  intro Q hQ
  subst hk
  simp (decide := true) [wp_M_step, wp_M_step_J1920, wp_M_step_J2220, wp_M_integerDigit, wp_M_integerDigit_J170, wp_M_integerDigit_J320, wp_M_plainAffix, wp_M_special, wp_M_special_J180, wp_M_inNumber, wp_M_power, wp_M_behind, wp_M_inFraction, wp_M_inFraction_J140, wp_M_inFraction_J310, wp_M_inFraction_J790, clb0, clb1, cn1, cn2, cn3, cn4, cn5, cn6, cn7, cn8, inb0, inb1, in1, in2, in3, in4, in5, in6, in7, in8, q35 hc, q37 hc, q39 hc, q43 hc, q44 hc, q45 hc, q46 hc, q48 hc, q59 hc, q69 hc, ql48 hc, ql49 hc, qle57 hc]
  exact s_keep hs hsub (e := 1) (by omega) (by decide) hkk hdl _ hQ
theorem ms_2_k46 (hc : c ≤ 126) (hk : c = 46)  : ∀ Q, Q true (4, m_sub, m_q, m_now, m_first, m_da, m_dl) → wp_M_step 2 m_sub m_q m_now m_first m_da m_dl (nI c) Q := by
  intro Q hQ
  subst hk
  simp (decide := true) [wp_M_step, wp_M_step_J1920, wp_M_step_J2220, wp_M_integerDigit, wp_M_integerDigit_J170, wp_M_integerDigit_J320, wp_M_plainAffix, wp_M_special, wp_M_special_J180, wp_M_inNumber, wp_M_power, wp_M_behind, wp_M_inFraction, wp_M_inFraction_J140, wp_M_inFraction_J310, wp_M_inFraction_J790, clb0, clb1, cn1, cn2, cn3, cn4, cn5, cn6, cn7, cn8, inb0, inb1, in1, in2, in3, in4, in5, in6, in7, in8, q35 hc, q37 hc, q39 hc, q43 hc, q44 hc, q45 hc, q46 hc, q48 hc, q59 hc, q69 hc, ql48 hc, ql49 hc, qle57 hc, hQ]
theorem ms_2_k48 (hc : c ≤ 126) (hk : c = 48)  : ∀ Q, Q true (2, m_sub, m_q, upd (upd m_now 1 (m_now 1 + 1)) 7 (upd m_now 1 (m_now 1 + 1) 7 + 1), m_first, m_da, m_dl) → wp_M_step 2 m_sub m_q m_now m_first m_da m_dl (nI c) Q := by
  intro Q hQ
  subst hk
  simp (decide := true) [wp_M_step, wp_M_step_J1920, wp_M_step_J2220, wp_M_integerDigit, wp_M_integerDigit_J170, wp_M_integerDigit_J320, wp_M_plainAffix, wp_M_special, wp_M_special_J180, wp_M_inNumber, wp_M_power, wp_M_behind, wp_M_inFraction, wp_M_inFraction_J140, wp_M_inFraction_J310, wp_M_inFraction_J790, clb0, clb1, cn1, cn2, cn3, cn4, cn5, cn6, cn7, cn8, inb0, inb1, in1, in2, in3, in4, in5, in6, in7, in8, q35 hc, q37 hc, q39 hc, q43 hc, q44 hc, q45 hc, q46 hc, q48 hc, q59 hc, q69 hc, ql48 hc, ql49 hc, qle57 hc, hQ]
theorem ms_2_k59 (hc : c ≤ 126) (hk : c = 59) {r nw dl2 : Nat → Int32} (hcp : ∀ Q, Q r → wp_M_copy m_now m_first Q) (hbg : ∀ Q, Q (0, 1, nw, dl2) → wp_M_begin 2 m_sub m_now m_dl 1 Q) (hsb : m_sub = 0) : ∀ Q, Q true (0, 1, m_q, nw, r, m_da, dl2) → wp_M_step 2 m_sub m_q m_now m_first m_da m_dl (nI c) Q := by
  intro Q hQ
  subst hk
  subst hsb
  simp (decide := true) [wp_M_step, wp_M_step_J1920, wp_M_step_J2220, wp_M_integerDigit, wp_M_integerDigit_J170, wp_M_integerDigit_J320, wp_M_plainAffix, wp_M_special, wp_M_special_J180, wp_M_inNumber, wp_M_power, wp_M_behind, wp_M_inFraction, wp_M_inFraction_J140, wp_M_inFraction_J310, wp_M_inFraction_J790, clb0, clb1, cn1, cn2, cn3, cn4, cn5, cn6, cn7, cn8, inb0, inb1, in1, in2, in3, in4, in5, in6, in7, in8, q35 hc, q37 hc, q39 hc, q43 hc, q44 hc, q45 hc, q46 hc, q48 hc, q59 hc, q69 hc, ql48 hc, ql49 hc, qle57 hc]
  exact hcp _ (hbg _ hQ)
theorem ms_2_k59n (hc : c ≤ 126) (hk : c = 59) {r nw dl2 : Nat → Int32} (hcp : ∀ Q, Q r → wp_M_copy m_now m_first Q) (hbg : ∀ Q, Q (0, 1, nw, dl2) → wp_M_begin 2 m_sub m_now m_dl 1 Q) (hsb : ¬ m_sub = 0) : ∀ Q, Q false (0, 1, m_q, nw, r, m_da, dl2) → wp_M_step 2 m_sub m_q m_now m_first m_da m_dl (nI c) Q := by
  intro Q hQ
  subst hk
  simp (decide := true) [wp_M_step, wp_M_step_J1920, wp_M_step_J2220, wp_M_integerDigit, wp_M_integerDigit_J170, wp_M_integerDigit_J320, wp_M_plainAffix, wp_M_special, wp_M_special_J180, wp_M_inNumber, wp_M_power, wp_M_behind, wp_M_inFraction, wp_M_inFraction_J140, wp_M_inFraction_J310, wp_M_inFraction_J790, clb0, clb1, cn1, cn2, cn3, cn4, cn5, cn6, cn7, cn8, inb0, inb1, in1, in2, in3, in4, in5, in6, in7, in8, q35 hc, q37 hc, q39 hc, q43 hc, q44 hc, q45 hc, q46 hc, q48 hc, q59 hc, q69 hc, ql48 hc, ql49 hc, qle57 hc, hsb]
  exact hcp _ (hbg _ hQ)
theorem ms_2_k69 (hc : c ≤ 126) (hk : c = 69) (hz : ¬ m_now 1 ≤ 0) (hcm : m_now 6 = 0) : ∀ Q, Q true (7, m_sub, m_q, m_now, m_first, m_da, m_dl) → wp_M_step 2 m_sub m_q m_now m_first m_da m_dl (nI c) Q := by
  intro Q hQ
  subst hk
  simp (decide := true) [wp_M_step, wp_M_step_J1920, wp_M_step_J2220, wp_M_integerDigit, wp_M_integerDigit_J170, wp_M_integerDigit_J320, wp_M_plainAffix, wp_M_special, wp_M_special_J180, wp_M_inNumber, wp_M_power, wp_M_behind, wp_M_inFraction, wp_M_inFraction_J140, wp_M_inFraction_J310, wp_M_inFraction_J790, clb0, clb1, cn1, cn2, cn3, cn4, cn5, cn6, cn7, cn8, inb0, inb1, in1, in2, in3, in4, in5, in6, in7, in8, q35 hc, q37 hc, q39 hc, q43 hc, q44 hc, q45 hc, q46 hc, q48 hc, q59 hc, q69 hc, ql48 hc, ql49 hc, qle57 hc, hz, hcm, hQ]
theorem ms_2_k69n (hc : c ≤ 126) (hk : c = 69) (hz : m_now 1 ≤ 0) : ∀ Q, Q false (7, m_sub, m_q, m_now, m_first, m_da, m_dl) → wp_M_step 2 m_sub m_q m_now m_first m_da m_dl (nI c) Q := by
  intro Q hQ
  subst hk
  simp (decide := true) [wp_M_step, wp_M_step_J1920, wp_M_step_J2220, wp_M_integerDigit, wp_M_integerDigit_J170, wp_M_integerDigit_J320, wp_M_plainAffix, wp_M_special, wp_M_special_J180, wp_M_inNumber, wp_M_power, wp_M_behind, wp_M_inFraction, wp_M_inFraction_J140, wp_M_inFraction_J310, wp_M_inFraction_J790, clb0, clb1, cn1, cn2, cn3, cn4, cn5, cn6, cn7, cn8, inb0, inb1, in1, in2, in3, in4, in5, in6, in7, in8, q35 hc, q37 hc, q39 hc, q43 hc, q44 hc, q45 hc, q46 hc, q48 hc, q59 hc, q69 hc, ql48 hc, ql49 hc, qle57 hc, hz, hQ]
theorem ms_2_k69m (hc : c ≤ 126) (hk : c = 69) (hz : ¬ m_now 1 ≤ 0) (hcm : ¬ m_now 6 = 0) : ∀ Q, Q false (7, m_sub, m_q, m_now, m_first, m_da, m_dl) → wp_M_step 2 m_sub m_q m_now m_first m_da m_dl (nI c) Q := by
  intro Q hQ
  subst hk
  simp (decide := true) [wp_M_step, wp_M_step_J1920, wp_M_step_J2220, wp_M_integerDigit, wp_M_integerDigit_J170, wp_M_integerDigit_J320, wp_M_plainAffix, wp_M_special, wp_M_special_J180, wp_M_inNumber, wp_M_power, wp_M_behind, wp_M_inFraction, wp_M_inFraction_J140, wp_M_inFraction_J310, wp_M_inFraction_J790, clb0, clb1, cn1, cn2, cn3, cn4, cn5, cn6, cn7, cn8, inb0, inb1, in1, in2, in3, in4, in5, in6, in7, in8, q35 hc, q37 hc, q39 hc, q43 hc, q44 hc, q45 hc, q46 hc, q48 hc, q59 hc, q69 hc, ql48 hc, ql49 hc, qle57 hc, hz, hcm, hQ]
theorem ms_2_kd (hc : c ≤ 126) (hk : 49 ≤ c ∧ c ≤ 57)  : ∀ Q, Q false (10, m_sub, m_q, m_now, m_first, m_da, m_dl) → wp_M_step 2 m_sub m_q m_now m_first m_da m_dl (nI c) Q := by
  intro Q hQ
  have n35 : ¬ c = 35 := by omega
  have n37 : ¬ c = 37 := by omega
  have n39 : ¬ c = 39 := by omega
  have n43 : ¬ c = 43 := by omega
  have n44 : ¬ c = 44 := by omega
  have n45 : ¬ c = 45 := by omega
  have n46 : ¬ c = 46 := by omega
  have n48 : ¬ c = 48 := by omega
  have n59 : ¬ c = 59 := by omega
  have n69 : ¬ c = 69 := by omega
  have d48 : ¬ c < 48 := by omega
  have d49 : ¬ c < 49 := by omega
  have d57 : c ≤ 57 := hk.2
  simp (decide := true) [wp_M_step, wp_M_step_J1920, wp_M_step_J2220, wp_M_integerDigit, wp_M_integerDigit_J170, wp_M_integerDigit_J320, wp_M_plainAffix, wp_M_special, wp_M_special_J180, wp_M_inNumber, wp_M_power, wp_M_behind, wp_M_inFraction, wp_M_inFraction_J140, wp_M_inFraction_J310, wp_M_inFraction_J790, clb0, clb1, cn1, cn2, cn3, cn4, cn5, cn6, cn7, cn8, inb0, inb1, in1, in2, in3, in4, in5, in6, in7, in8, q35 hc, q37 hc, q39 hc, q43 hc, q44 hc, q45 hc, q46 hc, q48 hc, q59 hc, q69 hc, ql48 hc, ql49 hc, qle57 hc, n35, n37, n39, n43, n44, n45, n46, n48, n59, n69, d48, d49, d57, hQ]
theorem ms_2_ko (hc : c ≤ 126) (hk : ¬ c = 35 ∧ ¬ c = 37 ∧ ¬ c = 39 ∧ ¬ c = 43 ∧ ¬ c = 44 ∧ ¬ c = 45 ∧ ¬ c = 46 ∧ ¬ c = 48 ∧ ¬ c = 59 ∧ ¬ c = 69 ∧ (c < 48 ∨ 57 < c)) {s k : Nat} (hs : s ≤ 1) (hsub : m_sub = nI s) (hkk : k < 40) (hdl : m_dl (2 * s + 1) = nI k) : ∀ Q, Q true (10, m_sub, m_q, m_now, m_first, upd m_da (40 * (2 * s + 1) + k) (nI c), upd m_dl (2 * s + 1) (nI (k + 1))) → wp_M_step 2 m_sub m_q m_now m_first m_da m_dl (nI c) Q := by
  intro Q hQ
  obtain ⟨n35, n37, n39, n43, n44, n45, n46, n48, n59, n69, hd⟩ := hk
  rcases hd with h1 | h1
  · simp (decide := true) [wp_M_step, wp_M_step_J1920, wp_M_step_J2220, wp_M_integerDigit, wp_M_integerDigit_J170, wp_M_integerDigit_J320, wp_M_plainAffix, wp_M_special, wp_M_special_J180, wp_M_inNumber, wp_M_power, wp_M_behind, wp_M_inFraction, wp_M_inFraction_J140, wp_M_inFraction_J310, wp_M_inFraction_J790, clb0, clb1, cn1, cn2, cn3, cn4, cn5, cn6, cn7, cn8, inb0, inb1, in1, in2, in3, in4, in5, in6, in7, in8, q35 hc, q37 hc, q39 hc, q43 hc, q44 hc, q45 hc, q46 hc, q48 hc, q59 hc, q69 hc, ql48 hc, ql49 hc, qle57 hc, n35, n37, n39, n43, n44, n45, n46, n48, n59, n69, h1]
    exact s_keep hs hsub (e := 1) (by omega) (by decide) hkk hdl _ hQ
  · have h2 : ¬ c < 48 := by omega
    have h3 : ¬ c ≤ 57 := by omega
    simp (decide := true) [wp_M_step, wp_M_step_J1920, wp_M_step_J2220, wp_M_integerDigit, wp_M_integerDigit_J170, wp_M_integerDigit_J320, wp_M_plainAffix, wp_M_special, wp_M_special_J180, wp_M_inNumber, wp_M_power, wp_M_behind, wp_M_inFraction, wp_M_inFraction_J140, wp_M_inFraction_J310, wp_M_inFraction_J790, clb0, clb1, cn1, cn2, cn3, cn4, cn5, cn6, cn7, cn8, inb0, inb1, in1, in2, in3, in4, in5, in6, in7, in8, q35 hc, q37 hc, q39 hc, q43 hc, q44 hc, q45 hc, q46 hc, q48 hc, q59 hc, q69 hc, ql48 hc, ql49 hc, qle57 hc, n35, n37, n39, n43, n44, n45, n46, n48, n59, n69, h2, h3]
    exact s_keep hs hsub (e := 1) (by omega) (by decide) hkk hdl _ hQ
theorem ms_3_k35 (hc : c ≤ 126) (hk : c = 35) (hz : m_now 1 ≤ 0) : ∀ Q, Q true (2, m_sub, m_q, upd (upd m_now 0 (m_now 0 + 1)) 7 (upd m_now 0 (m_now 0 + 1) 7 + 1), m_first, m_da, m_dl) → wp_M_step 3 m_sub m_q m_now m_first m_da m_dl (nI c) Q := by
  intro Q hQ
  subst hk
  simp (decide := true) [wp_M_step, wp_M_step_J1920, wp_M_step_J2220, wp_M_integerDigit, wp_M_integerDigit_J170, wp_M_integerDigit_J320, wp_M_plainAffix, wp_M_special, wp_M_special_J180, wp_M_inNumber, wp_M_power, wp_M_behind, wp_M_inFraction, wp_M_inFraction_J140, wp_M_inFraction_J310, wp_M_inFraction_J790, clb0, clb1, cn1, cn2, cn3, cn4, cn5, cn6, cn7, cn8, inb0, inb1, in1, in2, in3, in4, in5, in6, in7, in8, q35 hc, q37 hc, q39 hc, q43 hc, q44 hc, q45 hc, q46 hc, q48 hc, q59 hc, q69 hc, ql48 hc, ql49 hc, qle57 hc, hz, hQ]
theorem ms_3_k35n (hc : c ≤ 126) (hk : c = 35) (hz : ¬ m_now 1 ≤ 0) : ∀ Q, Q false (3, m_sub, m_q, m_now, m_first, m_da, m_dl) → wp_M_step 3 m_sub m_q m_now m_first m_da m_dl (nI c) Q := by
  intro Q hQ
  subst hk
  simp (decide := true) [wp_M_step, wp_M_step_J1920, wp_M_step_J2220, wp_M_integerDigit, wp_M_integerDigit_J170, wp_M_integerDigit_J320, wp_M_plainAffix, wp_M_special, wp_M_special_J180, wp_M_inNumber, wp_M_power, wp_M_behind, wp_M_inFraction, wp_M_inFraction_J140, wp_M_inFraction_J310, wp_M_inFraction_J790, clb0, clb1, cn1, cn2, cn3, cn4, cn5, cn6, cn7, cn8, inb0, inb1, in1, in2, in3, in4, in5, in6, in7, in8, q35 hc, q37 hc, q39 hc, q43 hc, q44 hc, q45 hc, q46 hc, q48 hc, q59 hc, q69 hc, ql48 hc, ql49 hc, qle57 hc, hz, hQ]
theorem ms_3_k37 (hc : c ≤ 126) (hk : c = 37)  : ∀ Q, Q false (3, m_sub, m_q, m_now, m_first, m_da, m_dl) → wp_M_step 3 m_sub m_q m_now m_first m_da m_dl (nI c) Q := by
  intro Q hQ
  subst hk
  simp (decide := true) [wp_M_step, wp_M_step_J1920, wp_M_step_J2220, wp_M_integerDigit, wp_M_integerDigit_J170, wp_M_integerDigit_J320, wp_M_plainAffix, wp_M_special, wp_M_special_J180, wp_M_inNumber, wp_M_power, wp_M_behind, wp_M_inFraction, wp_M_inFraction_J140, wp_M_inFraction_J310, wp_M_inFraction_J790, clb0, clb1, cn1, cn2, cn3, cn4, cn5, cn6, cn7, cn8, inb0, inb1, in1, in2, in3, in4, in5, in6, in7, in8, q35 hc, q37 hc, q39 hc, q43 hc, q44 hc, q45 hc, q46 hc, q48 hc, q59 hc, q69 hc, ql48 hc, ql49 hc, qle57 hc, hQ]
theorem ms_3_k39 (hc : c ≤ 126) (hk : c = 39)  : ∀ Q, Q false (3, m_sub, m_q, m_now, m_first, m_da, m_dl) → wp_M_step 3 m_sub m_q m_now m_first m_da m_dl (nI c) Q := by
  intro Q hQ
  subst hk
  simp (decide := true) [wp_M_step, wp_M_step_J1920, wp_M_step_J2220, wp_M_integerDigit, wp_M_integerDigit_J170, wp_M_integerDigit_J320, wp_M_plainAffix, wp_M_special, wp_M_special_J180, wp_M_inNumber, wp_M_power, wp_M_behind, wp_M_inFraction, wp_M_inFraction_J140, wp_M_inFraction_J310, wp_M_inFraction_J790, clb0, clb1, cn1, cn2, cn3, cn4, cn5, cn6, cn7, cn8, inb0, inb1, in1, in2, in3, in4, in5, in6, in7, in8, q35 hc, q37 hc, q39 hc, q43 hc, q44 hc, q45 hc, q46 hc, q48 hc, q59 hc, q69 hc, ql48 hc, ql49 hc, qle57 hc, hQ]
theorem ms_3_k43 (hc : c ≤ 126) (hk : c = 43)  : ∀ Q, Q false (3, m_sub, m_q, m_now, m_first, m_da, m_dl) → wp_M_step 3 m_sub m_q m_now m_first m_da m_dl (nI c) Q := by
  intro Q hQ
  subst hk
  simp (decide := true) [wp_M_step, wp_M_step_J1920, wp_M_step_J2220, wp_M_integerDigit, wp_M_integerDigit_J170, wp_M_integerDigit_J320, wp_M_plainAffix, wp_M_special, wp_M_special_J180, wp_M_inNumber, wp_M_power, wp_M_behind, wp_M_inFraction, wp_M_inFraction_J140, wp_M_inFraction_J310, wp_M_inFraction_J790, clb0, clb1, cn1, cn2, cn3, cn4, cn5, cn6, cn7, cn8, inb0, inb1, in1, in2, in3, in4, in5, in6, in7, in8, q35 hc, q37 hc, q39 hc, q43 hc, q44 hc, q45 hc, q46 hc, q48 hc, q59 hc, q69 hc, ql48 hc, ql49 hc, qle57 hc, hQ]
theorem ms_3_k44 (hc : c ≤ 126) (hk : c = 44)  : ∀ Q, Q false (3, m_sub, m_q, m_now, m_first, m_da, m_dl) → wp_M_step 3 m_sub m_q m_now m_first m_da m_dl (nI c) Q := by
  intro Q hQ
  subst hk
  simp (decide := true) [wp_M_step, wp_M_step_J1920, wp_M_step_J2220, wp_M_integerDigit, wp_M_integerDigit_J170, wp_M_integerDigit_J320, wp_M_plainAffix, wp_M_special, wp_M_special_J180, wp_M_inNumber, wp_M_power, wp_M_behind, wp_M_inFraction, wp_M_inFraction_J140, wp_M_inFraction_J310, wp_M_inFraction_J790, clb0, clb1, cn1, cn2, cn3, cn4, cn5, cn6, cn7, cn8, inb0, inb1, in1, in2, in3, in4, in5, in6, in7, in8, q35 hc, q37 hc, q39 hc, q43 hc, q44 hc, q45 hc, q46 hc, q48 hc, q59 hc, q69 hc, ql48 hc, ql49 hc, qle57 hc, hQ]
theorem ms_3_k45 (hc : c ≤ 126) (hk : c = 45)  : ∀ Q, Q false (3, m_sub, m_q, m_now, m_first, m_da, m_dl) → wp_M_step 3 m_sub m_q m_now m_first m_da m_dl (nI c) Q := by
  intro Q hQ
  subst hk
  simp (decide := true) [wp_M_step, wp_M_step_J1920, wp_M_step_J2220, wp_M_integerDigit, wp_M_integerDigit_J170, wp_M_integerDigit_J320, wp_M_plainAffix, wp_M_special, wp_M_special_J180, wp_M_inNumber, wp_M_power, wp_M_behind, wp_M_inFraction, wp_M_inFraction_J140, wp_M_inFraction_J310, wp_M_inFraction_J790, clb0, clb1, cn1, cn2, cn3, cn4, cn5, cn6, cn7, cn8, inb0, inb1, in1, in2, in3, in4, in5, in6, in7, in8, q35 hc, q37 hc, q39 hc, q43 hc, q44 hc, q45 hc, q46 hc, q48 hc, q59 hc, q69 hc, ql48 hc, ql49 hc, qle57 hc, hQ]
theorem ms_3_k46 (hc : c ≤ 126) (hk : c = 46)  : ∀ Q, Q false (3, m_sub, m_q, m_now, m_first, m_da, m_dl) → wp_M_step 3 m_sub m_q m_now m_first m_da m_dl (nI c) Q := by
  intro Q hQ
  subst hk
  simp (decide := true) [wp_M_step, wp_M_step_J1920, wp_M_step_J2220, wp_M_integerDigit, wp_M_integerDigit_J170, wp_M_integerDigit_J320, wp_M_plainAffix, wp_M_special, wp_M_special_J180, wp_M_inNumber, wp_M_power, wp_M_behind, wp_M_inFraction, wp_M_inFraction_J140, wp_M_inFraction_J310, wp_M_inFraction_J790, clb0, clb1, cn1, cn2, cn3, cn4, cn5, cn6, cn7, cn8, inb0, inb1, in1, in2, in3, in4, in5, in6, in7, in8, q35 hc, q37 hc, q39 hc, q43 hc, q44 hc, q45 hc, q46 hc, q48 hc, q59 hc, q69 hc, ql48 hc, ql49 hc, qle57 hc, hQ]
theorem ms_3_k48 (hc : c ≤ 126) (hk : c = 48)  : ∀ Q, Q true (2, m_sub, m_q, upd (upd m_now 1 (m_now 1 + 1)) 7 (upd m_now 1 (m_now 1 + 1) 7 + 1), m_first, m_da, m_dl) → wp_M_step 3 m_sub m_q m_now m_first m_da m_dl (nI c) Q := by
  intro Q hQ
  subst hk
  simp (decide := true) [wp_M_step, wp_M_step_J1920, wp_M_step_J2220, wp_M_integerDigit, wp_M_integerDigit_J170, wp_M_integerDigit_J320, wp_M_plainAffix, wp_M_special, wp_M_special_J180, wp_M_inNumber, wp_M_power, wp_M_behind, wp_M_inFraction, wp_M_inFraction_J140, wp_M_inFraction_J310, wp_M_inFraction_J790, clb0, clb1, cn1, cn2, cn3, cn4, cn5, cn6, cn7, cn8, inb0, inb1, in1, in2, in3, in4, in5, in6, in7, in8, q35 hc, q37 hc, q39 hc, q43 hc, q44 hc, q45 hc, q46 hc, q48 hc, q59 hc, q69 hc, ql48 hc, ql49 hc, qle57 hc, hQ]
theorem ms_3_k59 (hc : c ≤ 126) (hk : c = 59)  : ∀ Q, Q false (3, m_sub, m_q, m_now, m_first, m_da, m_dl) → wp_M_step 3 m_sub m_q m_now m_first m_da m_dl (nI c) Q := by
  intro Q hQ
  subst hk
  simp (decide := true) [wp_M_step, wp_M_step_J1920, wp_M_step_J2220, wp_M_integerDigit, wp_M_integerDigit_J170, wp_M_integerDigit_J320, wp_M_plainAffix, wp_M_special, wp_M_special_J180, wp_M_inNumber, wp_M_power, wp_M_behind, wp_M_inFraction, wp_M_inFraction_J140, wp_M_inFraction_J310, wp_M_inFraction_J790, clb0, clb1, cn1, cn2, cn3, cn4, cn5, cn6, cn7, cn8, inb0, inb1, in1, in2, in3, in4, in5, in6, in7, in8, q35 hc, q37 hc, q39 hc, q43 hc, q44 hc, q45 hc, q46 hc, q48 hc, q59 hc, q69 hc, ql48 hc, ql49 hc, qle57 hc, hQ]
theorem ms_3_k69 (hc : c ≤ 126) (hk : c = 69)  : ∀ Q, Q false (3, m_sub, m_q, m_now, m_first, m_da, m_dl) → wp_M_step 3 m_sub m_q m_now m_first m_da m_dl (nI c) Q := by
  intro Q hQ
  subst hk
  simp (decide := true) [wp_M_step, wp_M_step_J1920, wp_M_step_J2220, wp_M_integerDigit, wp_M_integerDigit_J170, wp_M_integerDigit_J320, wp_M_plainAffix, wp_M_special, wp_M_special_J180, wp_M_inNumber, wp_M_power, wp_M_behind, wp_M_inFraction, wp_M_inFraction_J140, wp_M_inFraction_J310, wp_M_inFraction_J790, clb0, clb1, cn1, cn2, cn3, cn4, cn5, cn6, cn7, cn8, inb0, inb1, in1, in2, in3, in4, in5, in6, in7, in8, q35 hc, q37 hc, q39 hc, q43 hc, q44 hc, q45 hc, q46 hc, q48 hc, q59 hc, q69 hc, ql48 hc, ql49 hc, qle57 hc, hQ]
theorem ms_3_kd (hc : c ≤ 126) (hk : 49 ≤ c ∧ c ≤ 57)  : ∀ Q, Q false (3, m_sub, m_q, m_now, m_first, m_da, m_dl) → wp_M_step 3 m_sub m_q m_now m_first m_da m_dl (nI c) Q := by
  intro Q hQ
  have n35 : ¬ c = 35 := by omega
  have n37 : ¬ c = 37 := by omega
  have n39 : ¬ c = 39 := by omega
  have n43 : ¬ c = 43 := by omega
  have n44 : ¬ c = 44 := by omega
  have n45 : ¬ c = 45 := by omega
  have n46 : ¬ c = 46 := by omega
  have n48 : ¬ c = 48 := by omega
  have n59 : ¬ c = 59 := by omega
  have n69 : ¬ c = 69 := by omega
  have d48 : ¬ c < 48 := by omega
  have d49 : ¬ c < 49 := by omega
  have d57 : c ≤ 57 := hk.2
  simp (decide := true) [wp_M_step, wp_M_step_J1920, wp_M_step_J2220, wp_M_integerDigit, wp_M_integerDigit_J170, wp_M_integerDigit_J320, wp_M_plainAffix, wp_M_special, wp_M_special_J180, wp_M_inNumber, wp_M_power, wp_M_behind, wp_M_inFraction, wp_M_inFraction_J140, wp_M_inFraction_J310, wp_M_inFraction_J790, clb0, clb1, cn1, cn2, cn3, cn4, cn5, cn6, cn7, cn8, inb0, inb1, in1, in2, in3, in4, in5, in6, in7, in8, q35 hc, q37 hc, q39 hc, q43 hc, q44 hc, q45 hc, q46 hc, q48 hc, q59 hc, q69 hc, ql48 hc, ql49 hc, qle57 hc, n35, n37, n39, n43, n44, n45, n46, n48, n59, n69, d48, d49, d57, hQ]
theorem ms_3_ko (hc : c ≤ 126) (hk : ¬ c = 35 ∧ ¬ c = 37 ∧ ¬ c = 39 ∧ ¬ c = 43 ∧ ¬ c = 44 ∧ ¬ c = 45 ∧ ¬ c = 46 ∧ ¬ c = 48 ∧ ¬ c = 59 ∧ ¬ c = 69 ∧ (c < 48 ∨ 57 < c))  : ∀ Q, Q false (3, m_sub, m_q, m_now, m_first, m_da, m_dl) → wp_M_step 3 m_sub m_q m_now m_first m_da m_dl (nI c) Q := by
  intro Q hQ
  obtain ⟨n35, n37, n39, n43, n44, n45, n46, n48, n59, n69, hd⟩ := hk
  rcases hd with h1 | h1
  · simp (decide := true) [wp_M_step, wp_M_step_J1920, wp_M_step_J2220, wp_M_integerDigit, wp_M_integerDigit_J170, wp_M_integerDigit_J320, wp_M_plainAffix, wp_M_special, wp_M_special_J180, wp_M_inNumber, wp_M_power, wp_M_behind, wp_M_inFraction, wp_M_inFraction_J140, wp_M_inFraction_J310, wp_M_inFraction_J790, clb0, clb1, cn1, cn2, cn3, cn4, cn5, cn6, cn7, cn8, inb0, inb1, in1, in2, in3, in4, in5, in6, in7, in8, q35 hc, q37 hc, q39 hc, q43 hc, q44 hc, q45 hc, q46 hc, q48 hc, q59 hc, q69 hc, ql48 hc, ql49 hc, qle57 hc, n35, n37, n39, n43, n44, n45, n46, n48, n59, n69, h1, hQ]
  · have h2 : ¬ c < 48 := by omega
    have h3 : ¬ c ≤ 57 := by omega
    simp (decide := true) [wp_M_step, wp_M_step_J1920, wp_M_step_J2220, wp_M_integerDigit, wp_M_integerDigit_J170, wp_M_integerDigit_J320, wp_M_plainAffix, wp_M_special, wp_M_special_J180, wp_M_inNumber, wp_M_power, wp_M_behind, wp_M_inFraction, wp_M_inFraction_J140, wp_M_inFraction_J310, wp_M_inFraction_J790, clb0, clb1, cn1, cn2, cn3, cn4, cn5, cn6, cn7, cn8, inb0, inb1, in1, in2, in3, in4, in5, in6, in7, in8, q35 hc, q37 hc, q39 hc, q43 hc, q44 hc, q45 hc, q46 hc, q48 hc, q59 hc, q69 hc, ql48 hc, ql49 hc, qle57 hc, n35, n37, n39, n43, n44, n45, n46, n48, n59, n69, h2, h3, hQ]
theorem ms_4_k35 (hc : c ≤ 126) (hk : c = 35)  : ∀ Q, Q true (6, m_sub, m_q, upd (upd m_now 2 (m_now 2 + 1)) 3 (upd m_now 2 (m_now 2 + 1) 3), m_first, m_da, m_dl) → wp_M_step 4 m_sub m_q m_now m_first m_da m_dl (nI c) Q := by
  intro Q hQ
  subst hk
  simp (decide := true) [wp_M_step, wp_M_step_J1920, wp_M_step_J2220, wp_M_integerDigit, wp_M_integerDigit_J170, wp_M_integerDigit_J320, wp_M_plainAffix, wp_M_special, wp_M_special_J180, wp_M_inNumber, wp_M_power, wp_M_behind, wp_M_inFraction, wp_M_inFraction_J140, wp_M_inFraction_J310, wp_M_inFraction_J790, clb0, clb1, cn1, cn2, cn3, cn4, cn5, cn6, cn7, cn8, inb0, inb1, in1, in2, in3, in4, in5, in6, in7, in8, q35 hc, q37 hc, q39 hc, q43 hc, q44 hc, q45 hc, q46 hc, q48 hc, q59 hc, q69 hc, ql48 hc, ql49 hc, qle57 hc, hQ]
theorem ms_4_k37 (hc : c ≤ 126) (hk : c = 37)  : ∀ Q, Q false (4, m_sub, m_q, m_now, m_first, m_da, m_dl) → wp_M_step 4 m_sub m_q m_now m_first m_da m_dl (nI c) Q := by
  intro Q hQ
  subst hk
  simp (decide := true) [wp_M_step, wp_M_step_J1920, wp_M_step_J2220, wp_M_integerDigit, wp_M_integerDigit_J170, wp_M_integerDigit_J320, wp_M_plainAffix, wp_M_special, wp_M_special_J180, wp_M_inNumber, wp_M_power, wp_M_behind, wp_M_inFraction, wp_M_inFraction_J140, wp_M_inFraction_J310, wp_M_inFraction_J790, clb0, clb1, cn1, cn2, cn3, cn4, cn5, cn6, cn7, cn8, inb0, inb1, in1, in2, in3, in4, in5, in6, in7, in8, q35 hc, q37 hc, q39 hc, q43 hc, q44 hc, q45 hc, q46 hc, q48 hc, q59 hc, q69 hc, ql48 hc, ql49 hc, qle57 hc, hQ]
theorem ms_4_k39 (hc : c ≤ 126) (hk : c = 39)  : ∀ Q, Q false (4, m_sub, m_q, m_now, m_first, m_da, m_dl) → wp_M_step 4 m_sub m_q m_now m_first m_da m_dl (nI c) Q := by
  intro Q hQ
  subst hk
  simp (decide := true) [wp_M_step, wp_M_step_J1920, wp_M_step_J2220, wp_M_integerDigit, wp_M_integerDigit_J170, wp_M_integerDigit_J320, wp_M_plainAffix, wp_M_special, wp_M_special_J180, wp_M_inNumber, wp_M_power, wp_M_behind, wp_M_inFraction, wp_M_inFraction_J140, wp_M_inFraction_J310, wp_M_inFraction_J790, clb0, clb1, cn1, cn2, cn3, cn4, cn5, cn6, cn7, cn8, inb0, inb1, in1, in2, in3, in4, in5, in6, in7, in8, q35 hc, q37 hc, q39 hc, q43 hc, q44 hc, q45 hc, q46 hc, q48 hc, q59 hc, q69 hc, ql48 hc, ql49 hc, qle57 hc, hQ]
theorem ms_4_k43 (hc : c ≤ 126) (hk : c = 43)  : ∀ Q, Q false (4, m_sub, m_q, m_now, m_first, m_da, m_dl) → wp_M_step 4 m_sub m_q m_now m_first m_da m_dl (nI c) Q := by
  intro Q hQ
  subst hk
  simp (decide := true) [wp_M_step, wp_M_step_J1920, wp_M_step_J2220, wp_M_integerDigit, wp_M_integerDigit_J170, wp_M_integerDigit_J320, wp_M_plainAffix, wp_M_special, wp_M_special_J180, wp_M_inNumber, wp_M_power, wp_M_behind, wp_M_inFraction, wp_M_inFraction_J140, wp_M_inFraction_J310, wp_M_inFraction_J790, clb0, clb1, cn1, cn2, cn3, cn4, cn5, cn6, cn7, cn8, inb0, inb1, in1, in2, in3, in4, in5, in6, in7, in8, q35 hc, q37 hc, q39 hc, q43 hc, q44 hc, q45 hc, q46 hc, q48 hc, q59 hc, q69 hc, ql48 hc, ql49 hc, qle57 hc, hQ]
theorem ms_4_k44 (hc : c ≤ 126) (hk : c = 44)  : ∀ Q, Q false (4, m_sub, m_q, m_now, m_first, m_da, m_dl) → wp_M_step 4 m_sub m_q m_now m_first m_da m_dl (nI c) Q := by
  intro Q hQ
  subst hk
  simp (decide := true) [wp_M_step, wp_M_step_J1920, wp_M_step_J2220, wp_M_integerDigit, wp_M_integerDigit_J170, wp_M_integerDigit_J320, wp_M_plainAffix, wp_M_special, wp_M_special_J180, wp_M_inNumber, wp_M_power, wp_M_behind, wp_M_inFraction, wp_M_inFraction_J140, wp_M_inFraction_J310, wp_M_inFraction_J790, clb0, clb1, cn1, cn2, cn3, cn4, cn5, cn6, cn7, cn8, inb0, inb1, in1, in2, in3, in4, in5, in6, in7, in8, q35 hc, q37 hc, q39 hc, q43 hc, q44 hc, q45 hc, q46 hc, q48 hc, q59 hc, q69 hc, ql48 hc, ql49 hc, qle57 hc, hQ]
theorem ms_4_k45 (hc : c ≤ 126) (hk : c = 45)  : ∀ Q, Q false (4, m_sub, m_q, m_now, m_first, m_da, m_dl) → wp_M_step 4 m_sub m_q m_now m_first m_da m_dl (nI c) Q := by
  intro Q hQ
  subst hk
  simp (decide := true) [wp_M_step, wp_M_step_J1920, wp_M_step_J2220, wp_M_integerDigit, wp_M_integerDigit_J170, wp_M_integerDigit_J320, wp_M_plainAffix, wp_M_special, wp_M_special_J180, wp_M_inNumber, wp_M_power, wp_M_behind, wp_M_inFraction, wp_M_inFraction_J140, wp_M_inFraction_J310, wp_M_inFraction_J790, clb0, clb1, cn1, cn2, cn3, cn4, cn5, cn6, cn7, cn8, inb0, inb1, in1, in2, in3, in4, in5, in6, in7, in8, q35 hc, q37 hc, q39 hc, q43 hc, q44 hc, q45 hc, q46 hc, q48 hc, q59 hc, q69 hc, ql48 hc, ql49 hc, qle57 hc, hQ]
theorem ms_4_k46 (hc : c ≤ 126) (hk : c = 46)  : ∀ Q, Q false (4, m_sub, m_q, m_now, m_first, m_da, m_dl) → wp_M_step 4 m_sub m_q m_now m_first m_da m_dl (nI c) Q := by
  intro Q hQ
  subst hk
  simp (decide := true) [wp_M_step, wp_M_step_J1920, wp_M_step_J2220, wp_M_integerDigit, wp_M_integerDigit_J170, wp_M_integerDigit_J320, wp_M_plainAffix, wp_M_special, wp_M_special_J180, wp_M_inNumber, wp_M_power, wp_M_behind, wp_M_inFraction, wp_M_inFraction_J140, wp_M_inFraction_J310, wp_M_inFraction_J790, clb0, clb1, cn1, cn2, cn3, cn4, cn5, cn6, cn7, cn8, inb0, inb1, in1, in2, in3, in4, in5, in6, in7, in8, q35 hc, q37 hc, q39 hc, q43 hc, q44 hc, q45 hc, q46 hc, q48 hc, q59 hc, q69 hc, ql48 hc, ql49 hc, qle57 hc, hQ]
theorem ms_4_k48 (hc : c ≤ 126) (hk : c = 48)  : ∀ Q, Q true (5, m_sub, m_q, upd (upd m_now 2 (m_now 2 + 1)) 3 (upd m_now 2 (m_now 2 + 1) 3 + 1), m_first, m_da, m_dl) → wp_M_step 4 m_sub m_q m_now m_first m_da m_dl (nI c) Q := by
  intro Q hQ
  subst hk
  simp (decide := true) [wp_M_step, wp_M_step_J1920, wp_M_step_J2220, wp_M_integerDigit, wp_M_integerDigit_J170, wp_M_integerDigit_J320, wp_M_plainAffix, wp_M_special, wp_M_special_J180, wp_M_inNumber, wp_M_power, wp_M_behind, wp_M_inFraction, wp_M_inFraction_J140, wp_M_inFraction_J310, wp_M_inFraction_J790, clb0, clb1, cn1, cn2, cn3, cn4, cn5, cn6, cn7, cn8, inb0, inb1, in1, in2, in3, in4, in5, in6, in7, in8, q35 hc, q37 hc, q39 hc, q43 hc, q44 hc, q45 hc, q46 hc, q48 hc, q59 hc, q69 hc, ql48 hc, ql49 hc, qle57 hc, hQ]
theorem ms_4_k59 (hc : c ≤ 126) (hk : c = 59)  : ∀ Q, Q false (4, m_sub, m_q, m_now, m_first, m_da, m_dl) → wp_M_step 4 m_sub m_q m_now m_first m_da m_dl (nI c) Q := by
  intro Q hQ
  subst hk
  simp (decide := true) [wp_M_step, wp_M_step_J1920, wp_M_step_J2220, wp_M_integerDigit, wp_M_integerDigit_J170, wp_M_integerDigit_J320, wp_M_plainAffix, wp_M_special, wp_M_special_J180, wp_M_inNumber, wp_M_power, wp_M_behind, wp_M_inFraction, wp_M_inFraction_J140, wp_M_inFraction_J310, wp_M_inFraction_J790, clb0, clb1, cn1, cn2, cn3, cn4, cn5, cn6, cn7, cn8, inb0, inb1, in1, in2, in3, in4, in5, in6, in7, in8, q35 hc, q37 hc, q39 hc, q43 hc, q44 hc, q45 hc, q46 hc, q48 hc, q59 hc, q69 hc, ql48 hc, ql49 hc, qle57 hc, hQ]
theorem ms_4_k69 (hc : c ≤ 126) (hk : c = 69)  : ∀ Q, Q false (4, m_sub, m_q, m_now, m_first, m_da, m_dl) → wp_M_step 4 m_sub m_q m_now m_first m_da m_dl (nI c) Q := by
  intro Q hQ
  subst hk
  simp (decide := true) [wp_M_step, wp_M_step_J1920, wp_M_step_J2220, wp_M_integerDigit, wp_M_integerDigit_J170, wp_M_integerDigit_J320, wp_M_plainAffix, wp_M_special, wp_M_special_J180, wp_M_inNumber, wp_M_power, wp_M_behind, wp_M_inFraction, wp_M_inFraction_J140, wp_M_inFraction_J310, wp_M_inFraction_J790, clb0, clb1, cn1, cn2, cn3, cn4, cn5, cn6, cn7, cn8, inb0, inb1, in1, in2, in3, in4, in5, in6, in7, in8, q35 hc, q37 hc, q39 hc, q43 hc, q44 hc, q45 hc, q46 hc, q48 hc, q59 hc, q69 hc, ql48 hc, ql49 hc, qle57 hc, hQ]
theorem ms_4_kd (hc : c ≤ 126) (hk : 49 ≤ c ∧ c ≤ 57)  : ∀ Q, Q false (4, m_sub, m_q, m_now, m_first, m_da, m_dl) → wp_M_step 4 m_sub m_q m_now m_first m_da m_dl (nI c) Q := by
  intro Q hQ
  have n35 : ¬ c = 35 := by omega
  have n37 : ¬ c = 37 := by omega
  have n39 : ¬ c = 39 := by omega
  have n43 : ¬ c = 43 := by omega
  have n44 : ¬ c = 44 := by omega
  have n45 : ¬ c = 45 := by omega
  have n46 : ¬ c = 46 := by omega
  have n48 : ¬ c = 48 := by omega
  have n59 : ¬ c = 59 := by omega
  have n69 : ¬ c = 69 := by omega
  have d48 : ¬ c < 48 := by omega
  have d49 : ¬ c < 49 := by omega
  have d57 : c ≤ 57 := hk.2
  simp (decide := true) [wp_M_step, wp_M_step_J1920, wp_M_step_J2220, wp_M_integerDigit, wp_M_integerDigit_J170, wp_M_integerDigit_J320, wp_M_plainAffix, wp_M_special, wp_M_special_J180, wp_M_inNumber, wp_M_power, wp_M_behind, wp_M_inFraction, wp_M_inFraction_J140, wp_M_inFraction_J310, wp_M_inFraction_J790, clb0, clb1, cn1, cn2, cn3, cn4, cn5, cn6, cn7, cn8, inb0, inb1, in1, in2, in3, in4, in5, in6, in7, in8, q35 hc, q37 hc, q39 hc, q43 hc, q44 hc, q45 hc, q46 hc, q48 hc, q59 hc, q69 hc, ql48 hc, ql49 hc, qle57 hc, n35, n37, n39, n43, n44, n45, n46, n48, n59, n69, d48, d49, d57, hQ]
theorem ms_4_ko (hc : c ≤ 126) (hk : ¬ c = 35 ∧ ¬ c = 37 ∧ ¬ c = 39 ∧ ¬ c = 43 ∧ ¬ c = 44 ∧ ¬ c = 45 ∧ ¬ c = 46 ∧ ¬ c = 48 ∧ ¬ c = 59 ∧ ¬ c = 69 ∧ (c < 48 ∨ 57 < c))  : ∀ Q, Q false (4, m_sub, m_q, m_now, m_first, m_da, m_dl) → wp_M_step 4 m_sub m_q m_now m_first m_da m_dl (nI c) Q := by
  intro Q hQ
  obtain ⟨n35, n37, n39, n43, n44, n45, n46, n48, n59, n69, hd⟩ := hk
  rcases hd with h1 | h1
  · simp (decide := true) [wp_M_step, wp_M_step_J1920, wp_M_step_J2220, wp_M_integerDigit, wp_M_integerDigit_J170, wp_M_integerDigit_J320, wp_M_plainAffix, wp_M_special, wp_M_special_J180, wp_M_inNumber, wp_M_power, wp_M_behind, wp_M_inFraction, wp_M_inFraction_J140, wp_M_inFraction_J310, wp_M_inFraction_J790, clb0, clb1, cn1, cn2, cn3, cn4, cn5, cn6, cn7, cn8, inb0, inb1, in1, in2, in3, in4, in5, in6, in7, in8, q35 hc, q37 hc, q39 hc, q43 hc, q44 hc, q45 hc, q46 hc, q48 hc, q59 hc, q69 hc, ql48 hc, ql49 hc, qle57 hc, n35, n37, n39, n43, n44, n45, n46, n48, n59, n69, h1, hQ]
  · have h2 : ¬ c < 48 := by omega
    have h3 : ¬ c ≤ 57 := by omega
    simp (decide := true) [wp_M_step, wp_M_step_J1920, wp_M_step_J2220, wp_M_integerDigit, wp_M_integerDigit_J170, wp_M_integerDigit_J320, wp_M_plainAffix, wp_M_special, wp_M_special_J180, wp_M_inNumber, wp_M_power, wp_M_behind, wp_M_inFraction, wp_M_inFraction_J140, wp_M_inFraction_J310, wp_M_inFraction_J790, clb0, clb1, cn1, cn2, cn3, cn4, cn5, cn6, cn7, cn8, inb0, inb1, in1, in2, in3, in4, in5, in6, in7, in8, q35 hc, q37 hc, q39 hc, q43 hc, q44 hc, q45 hc, q46 hc, q48 hc, q59 hc, q69 hc, ql48 hc, ql49 hc, qle57 hc, n35, n37, n39, n43, n44, n45, n46, n48, n59, n69, h2, h3, hQ]
theorem ms_5_k35 (hc : c ≤ 126) (hk : c = 35)  : ∀ Q, Q true (6, m_sub, m_q, upd (upd m_now 2 (m_now 2 + 1)) 3 (upd m_now 2 (m_now 2 + 1) 3), m_first, m_da, m_dl) → wp_M_step 5 m_sub m_q m_now m_first m_da m_dl (nI c) Q := by
  intro Q hQ
  subst hk
  simp (decide := true) [wp_M_step, wp_M_step_J1920, wp_M_step_J2220, wp_M_integerDigit, wp_M_integerDigit_J170, wp_M_integerDigit_J320, wp_M_plainAffix, wp_M_special, wp_M_special_J180, wp_M_inNumber, wp_M_power, wp_M_behind, wp_M_inFraction, wp_M_inFraction_J140, wp_M_inFraction_J310, wp_M_inFraction_J790, clb0, clb1, cn1, cn2, cn3, cn4, cn5, cn6, cn7, cn8, inb0, inb1, in1, in2, in3, in4, in5, in6, in7, in8, q35 hc, q37 hc, q39 hc, q43 hc, q44 hc, q45 hc, q46 hc, q48 hc, q59 hc, q69 hc, ql48 hc, ql49 hc, qle57 hc, hQ]
theorem ms_5_k37 (hc : c ≤ 126) (hk : c = 37) {s k : Nat} (hs : s ≤ 1) (hsub : m_sub = nI s) (hkk : k < 40) (hdl : m_dl (2 * s + 1) = nI k) : ∀ Q, Q true (10, m_sub, m_q, m_now, m_first, upd m_da (40 * (2 * s + 1) + k) 201, upd m_dl (2 * s + 1) (nI (k + 1))) → wp_M_step 5 m_sub m_q m_now m_first m_da m_dl (nI c) Q := by
  intro Q hQ
  subst hk
  simp (decide := true) [wp_M_step, wp_M_step_J1920, wp_M_step_J2220, wp_M_integerDigit, wp_M_integerDigit_J170, wp_M_integerDigit_J320, wp_M_plainAffix, wp_M_special, wp_M_special_J180, wp_M_inNumber, wp_M_power, wp_M_behind, wp_M_inFraction, wp_M_inFraction_J140, wp_M_inFraction_J310, wp_M_inFraction_J790, clb0, clb1, cn1, cn2, cn3, cn4, cn5, cn6, cn7, cn8, inb0, inb1, in1, in2, in3, in4, in5, in6, in7, in8, q35 hc, q37 hc, q39 hc, q43 hc, q44 hc, q45 hc, q46 hc, q48 hc, q59 hc, q69 hc, ql48 hc, ql49 hc, qle57 hc]
  exact s_keep hs hsub (e := 1) (by omega) (by decide) hkk hdl _ hQ
theorem ms_5_k39 (hc : c ≤ 126) (hk : c = 39)  : ∀ Q, Q true (11, m_sub, 0, m_now, m_first, m_da, m_dl) → wp_M_step 5 m_sub m_q m_now m_first m_da m_dl (nI c) Q := by
  intro Q hQ
  subst hk
  simp (decide := true) [wp_M_step, wp_M_step_J1920, wp_M_step_J2220, wp_M_integerDigit, wp_M_integerDigit_J170, wp_M_integerDigit_J320, wp_M_plainAffix, wp_M_special, wp_M_special_J180, wp_M_inNumber, wp_M_power, wp_M_behind, wp_M_inFraction, wp_M_inFraction_J140, wp_M_inFraction_J310, wp_M_inFraction_J790, clb0, clb1, cn1, cn2, cn3, cn4, cn5, cn6, cn7, cn8, inb0, inb1, in1, in2, in3, in4, in5, in6, in7, in8, q35 hc, q37 hc, q39 hc, q43 hc, q44 hc, q45 hc, q46 hc, q48 hc, q59 hc, q69 hc, ql48 hc, ql49 hc, qle57 hc, hQ]
theorem ms_5_k43 (hc : c ≤ 126) (hk : c = 43) {s k : Nat} (hs : s ≤ 1) (hsub : m_sub = nI s) (hkk : k < 40) (hdl : m_dl (2 * s + 1) = nI k) : ∀ Q, Q true (10, m_sub, m_q, m_now, m_first, upd m_da (40 * (2 * s + 1) + k) 43, upd m_dl (2 * s + 1) (nI (k + 1))) → wp_M_step 5 m_sub m_q m_now m_first m_da m_dl (nI c) Q := by
  intro Q hQ
  subst hk
  simp (decide := true) [wp_M_step, wp_M_step_J1920, wp_M_step_J2220, wp_M_integerDigit, wp_M_integerDigit_J170, wp_M_integerDigit_J320, wp_M_plainAffix, wp_M_special, wp_M_special_J180, wp_M_inNumber, wp_M_power, wp_M_behind, wp_M_inFraction, wp_M_inFraction_J140, wp_M_inFraction_J310, wp_M_inFraction_J790, clb0, clb1, cn1, cn2, cn3, cn4, cn5, cn6, cn7, cn8, inb0, inb1, in1, in2, in3, in4, in5, in6, in7, in8, q35 hc, q37 hc, q39 hc, q43 hc, q44 hc, q45 hc, q46 hc, q48 hc, q59 hc, q69 hc, ql48 hc, ql49 hc, qle57 hc]
  exact s_keep hs hsub (e := 1) (by omega) (by decide) hkk hdl _ hQ
theorem ms_5_k44 (hc : c ≤ 126) (hk : c = 44)  : ∀ Q, Q false (10, m_sub, m_q, m_now, m_first, m_da, m_dl) → wp_M_step 5 m_sub m_q m_now m_first m_da m_dl (nI c) Q := by
  intro Q hQ
  subst hk
  simp (decide := true) [wp_M_step, wp_M_step_J1920, wp_M_step_J2220, wp_M_integerDigit, wp_M_integerDigit_J170, wp_M_integerDigit_J320, wp_M_plainAffix, wp_M_special, wp_M_special_J180, wp_M_inNumber, wp_M_power, wp_M_behind, wp_M_inFraction, wp_M_inFraction_J140, wp_M_inFraction_J310, wp_M_inFraction_J790, clb0, clb1, cn1, cn2, cn3, cn4, cn5, cn6, cn7, cn8, inb0, inb1, in1, in2, in3, in4, in5, in6, in7, in8, q35 hc, q37 hc, q39 hc, q43 hc, q44 hc, q45 hc, q46 hc, q48 hc, q59 hc, q69 hc, ql48 hc, ql49 hc, qle57 hc, hQ]
theorem ms_5_k45 (hc : c ≤ 126) (hk : c = 45) {s k : Nat} (hs : s ≤ 1) (hsub : m_sub = nI s) (hkk : k < 40) (hdl : m_dl (2 * s + 1) = nI k) : ∀ Q, Q true (10, m_sub, m_q, m_now, m_first, upd m_da (40 * (2 * s + 1) + k) 200, upd m_dl (2 * s + 1) (nI (k + 1))) → wp_M_step 5 m_sub m_q m_now m_first m_da m_dl (nI c) Q := by
  intro Q hQ
  subst hk
  simp (decide := true) [wp_M_step, wp_M_step_J1920, wp_M_step_J2220, wp_M_integerDigit, wp_M_integerDigit_J170, wp_M_integerDigit_J320, wp_M_plainAffix, wp_M_special, wp_M_special_J180, wp_M_inNumber, wp_M_power, wp_M_behind, wp_M_inFraction, wp_M_inFraction_J140, wp_M_inFraction_J310, wp_M_inFraction_J790, clb0, clb1, cn1, cn2, cn3, cn4, cn5, cn6, cn7, cn8, inb0, inb1, in1, in2, in3, in4, in5, in6, in7, in8, q35 hc, q37 hc, q39 hc, q43 hc, q44 hc, q45 hc, q46 hc, q48 hc, q59 hc, q69 hc, ql48 hc, ql49 hc, qle57 hc]
  exact s_keep hs hsub (e := 1) (by omega) (by decide) hkk hdl _ hQ
theorem ms_5_k46 (hc : c ≤ 126) (hk : c = 46)  : ∀ Q, Q false (10, m_sub, m_q, m_now, m_first, m_da, m_dl) → wp_M_step 5 m_sub m_q m_now m_first m_da m_dl (nI c) Q := by
  intro Q hQ
  subst hk
  simp (decide := true) [wp_M_step, wp_M_step_J1920, wp_M_step_J2220, wp_M_integerDigit, wp_M_integerDigit_J170, wp_M_integerDigit_J320, wp_M_plainAffix, wp_M_special, wp_M_special_J180, wp_M_inNumber, wp_M_power, wp_M_behind, wp_M_inFraction, wp_M_inFraction_J140, wp_M_inFraction_J310, wp_M_inFraction_J790, clb0, clb1, cn1, cn2, cn3, cn4, cn5, cn6, cn7, cn8, inb0, inb1, in1, in2, in3, in4, in5, in6, in7, in8, q35 hc, q37 hc, q39 hc, q43 hc, q44 hc, q45 hc, q46 hc, q48 hc, q59 hc, q69 hc, ql48 hc, ql49 hc, qle57 hc, hQ]
theorem ms_5_k48 (hc : c ≤ 126) (hk : c = 48)  : ∀ Q, Q true (5, m_sub, m_q, upd (upd m_now 2 (m_now 2 + 1)) 3 (upd m_now 2 (m_now 2 + 1) 3 + 1), m_first, m_da, m_dl) → wp_M_step 5 m_sub m_q m_now m_first m_da m_dl (nI c) Q := by
  intro Q hQ
  subst hk
  simp (decide := true) [wp_M_step, wp_M_step_J1920, wp_M_step_J2220, wp_M_integerDigit, wp_M_integerDigit_J170, wp_M_integerDigit_J320, wp_M_plainAffix, wp_M_special, wp_M_special_J180, wp_M_inNumber, wp_M_power, wp_M_behind, wp_M_inFraction, wp_M_inFraction_J140, wp_M_inFraction_J310, wp_M_inFraction_J790, clb0, clb1, cn1, cn2, cn3, cn4, cn5, cn6, cn7, cn8, inb0, inb1, in1, in2, in3, in4, in5, in6, in7, in8, q35 hc, q37 hc, q39 hc, q43 hc, q44 hc, q45 hc, q46 hc, q48 hc, q59 hc, q69 hc, ql48 hc, ql49 hc, qle57 hc, hQ]
theorem ms_5_k59 (hc : c ≤ 126) (hk : c = 59) {r nw dl2 : Nat → Int32} (hcp : ∀ Q, Q r → wp_M_copy m_now m_first Q) (hbg : ∀ Q, Q (0, 1, nw, dl2) → wp_M_begin 5 m_sub m_now m_dl 1 Q) (hsb : m_sub = 0) : ∀ Q, Q true (0, 1, m_q, nw, r, m_da, dl2) → wp_M_step 5 m_sub m_q m_now m_first m_da m_dl (nI c) Q := by
  intro Q hQ
  subst hk
  subst hsb
  simp (decide := true) [wp_M_step, wp_M_step_J1920, wp_M_step_J2220, wp_M_integerDigit, wp_M_integerDigit_J170, wp_M_integerDigit_J320, wp_M_plainAffix, wp_M_special, wp_M_special_J180, wp_M_inNumber, wp_M_power, wp_M_behind, wp_M_inFraction, wp_M_inFraction_J140, wp_M_inFraction_J310, wp_M_inFraction_J790, clb0, clb1, cn1, cn2, cn3, cn4, cn5, cn6, cn7, cn8, inb0, inb1, in1, in2, in3, in4, in5, in6, in7, in8, q35 hc, q37 hc, q39 hc, q43 hc, q44 hc, q45 hc, q46 hc, q48 hc, q59 hc, q69 hc, ql48 hc, ql49 hc, qle57 hc]
  exact hcp _ (hbg _ hQ)
theorem ms_5_k59n (hc : c ≤ 126) (hk : c = 59) {r nw dl2 : Nat → Int32} (hcp : ∀ Q, Q r → wp_M_copy m_now m_first Q) (hbg : ∀ Q, Q (0, 1, nw, dl2) → wp_M_begin 5 m_sub m_now m_dl 1 Q) (hsb : ¬ m_sub = 0) : ∀ Q, Q false (0, 1, m_q, nw, r, m_da, dl2) → wp_M_step 5 m_sub m_q m_now m_first m_da m_dl (nI c) Q := by
  intro Q hQ
  subst hk
  simp (decide := true) [wp_M_step, wp_M_step_J1920, wp_M_step_J2220, wp_M_integerDigit, wp_M_integerDigit_J170, wp_M_integerDigit_J320, wp_M_plainAffix, wp_M_special, wp_M_special_J180, wp_M_inNumber, wp_M_power, wp_M_behind, wp_M_inFraction, wp_M_inFraction_J140, wp_M_inFraction_J310, wp_M_inFraction_J790, clb0, clb1, cn1, cn2, cn3, cn4, cn5, cn6, cn7, cn8, inb0, inb1, in1, in2, in3, in4, in5, in6, in7, in8, q35 hc, q37 hc, q39 hc, q43 hc, q44 hc, q45 hc, q46 hc, q48 hc, q59 hc, q69 hc, ql48 hc, ql49 hc, qle57 hc, hsb]
  exact hcp _ (hbg _ hQ)
theorem ms_5_k69 (hc : c ≤ 126) (hk : c = 69) (hz : ¬ m_now 1 ≤ 0) (hcm : m_now 6 = 0) : ∀ Q, Q true (7, m_sub, m_q, m_now, m_first, m_da, m_dl) → wp_M_step 5 m_sub m_q m_now m_first m_da m_dl (nI c) Q := by
  intro Q hQ
  subst hk
  simp (decide := true) [wp_M_step, wp_M_step_J1920, wp_M_step_J2220, wp_M_integerDigit, wp_M_integerDigit_J170, wp_M_integerDigit_J320, wp_M_plainAffix, wp_M_special, wp_M_special_J180, wp_M_inNumber, wp_M_power, wp_M_behind, wp_M_inFraction, wp_M_inFraction_J140, wp_M_inFraction_J310, wp_M_inFraction_J790, clb0, clb1, cn1, cn2, cn3, cn4, cn5, cn6, cn7, cn8, inb0, inb1, in1, in2, in3, in4, in5, in6, in7, in8, q35 hc, q37 hc, q39 hc, q43 hc, q44 hc, q45 hc, q46 hc, q48 hc, q59 hc, q69 hc, ql48 hc, ql49 hc, qle57 hc, hz, hcm, hQ]
theorem ms_5_k69n (hc : c ≤ 126) (hk : c = 69) (hz : m_now 1 ≤ 0) : ∀ Q, Q false (7, m_sub, m_q, m_now, m_first, m_da, m_dl) → wp_M_step 5 m_sub m_q m_now m_first m_da m_dl (nI c) Q := by
  intro Q hQ
  subst hk
  simp (decide := true) [wp_M_step, wp_M_step_J1920, wp_M_step_J2220, wp_M_integerDigit, wp_M_integerDigit_J170, wp_M_integerDigit_J320, wp_M_plainAffix, wp_M_special, wp_M_special_J180, wp_M_inNumber, wp_M_power, wp_M_behind, wp_M_inFraction, wp_M_inFraction_J140, wp_M_inFraction_J310, wp_M_inFraction_J790, clb0, clb1, cn1, cn2, cn3, cn4, cn5, cn6, cn7, cn8, inb0, inb1, in1, in2, in3, in4, in5, in6, in7, in8, q35 hc, q37 hc, q39 hc, q43 hc, q44 hc, q45 hc, q46 hc, q48 hc, q59 hc, q69 hc, ql48 hc, ql49 hc, qle57 hc, hz, hQ]
theorem ms_5_k69m (hc : c ≤ 126) (hk : c = 69) (hz : ¬ m_now 1 ≤ 0) (hcm : ¬ m_now 6 = 0) : ∀ Q, Q false (7, m_sub, m_q, m_now, m_first, m_da, m_dl) → wp_M_step 5 m_sub m_q m_now m_first m_da m_dl (nI c) Q := by
  intro Q hQ
  subst hk
  simp (decide := true) [wp_M_step, wp_M_step_J1920, wp_M_step_J2220, wp_M_integerDigit, wp_M_integerDigit_J170, wp_M_integerDigit_J320, wp_M_plainAffix, wp_M_special, wp_M_special_J180, wp_M_inNumber, wp_M_power, wp_M_behind, wp_M_inFraction, wp_M_inFraction_J140, wp_M_inFraction_J310, wp_M_inFraction_J790, clb0, clb1, cn1, cn2, cn3, cn4, cn5, cn6, cn7, cn8, inb0, inb1, in1, in2, in3, in4, in5, in6, in7, in8, q35 hc, q37 hc, q39 hc, q43 hc, q44 hc, q45 hc, q46 hc, q48 hc, q59 hc, q69 hc, ql48 hc, ql49 hc, qle57 hc, hz, hcm, hQ]
theorem ms_5_kd (hc : c ≤ 126) (hk : 49 ≤ c ∧ c ≤ 57)  : ∀ Q, Q false (10, m_sub, m_q, m_now, m_first, m_da, m_dl) → wp_M_step 5 m_sub m_q m_now m_first m_da m_dl (nI c) Q := by
  intro Q hQ
  have n35 : ¬ c = 35 := by omega
  have n37 : ¬ c = 37 := by omega
  have n39 : ¬ c = 39 := by omega
  have n43 : ¬ c = 43 := by omega
  have n44 : ¬ c = 44 := by omega
  have n45 : ¬ c = 45 := by omega
  have n46 : ¬ c = 46 := by omega
  have n48 : ¬ c = 48 := by omega
  have n59 : ¬ c = 59 := by omega
  have n69 : ¬ c = 69 := by omega
  have d48 : ¬ c < 48 := by omega
  have d49 : ¬ c < 49 := by omega
  have d57 : c ≤ 57 := hk.2
  simp (decide := true) [wp_M_step, wp_M_step_J1920, wp_M_step_J2220, wp_M_integerDigit, wp_M_integerDigit_J170, wp_M_integerDigit_J320, wp_M_plainAffix, wp_M_special, wp_M_special_J180, wp_M_inNumber, wp_M_power, wp_M_behind, wp_M_inFraction, wp_M_inFraction_J140, wp_M_inFraction_J310, wp_M_inFraction_J790, clb0, clb1, cn1, cn2, cn3, cn4, cn5, cn6, cn7, cn8, inb0, inb1, in1, in2, in3, in4, in5, in6, in7, in8, q35 hc, q37 hc, q39 hc, q43 hc, q44 hc, q45 hc, q46 hc, q48 hc, q59 hc, q69 hc, ql48 hc, ql49 hc, qle57 hc, n35, n37, n39, n43, n44, n45, n46, n48, n59, n69, d48, d49, d57, hQ]
theorem ms_5_ko (hc : c ≤ 126) (hk : ¬ c = 35 ∧ ¬ c = 37 ∧ ¬ c = 39 ∧ ¬ c = 43 ∧ ¬ c = 44 ∧ ¬ c = 45 ∧ ¬ c = 46 ∧ ¬ c = 48 ∧ ¬ c = 59 ∧ ¬ c = 69 ∧ (c < 48 ∨ 57 < c)) {s k : Nat} (hs : s ≤ 1) (hsub : m_sub = nI s) (hkk : k < 40) (hdl : m_dl (2 * s + 1) = nI k) : ∀ Q, Q true (10, m_sub, m_q, m_now, m_first, upd m_da (40 * (2 * s + 1) + k) (nI c), upd m_dl (2 * s + 1) (nI (k + 1))) → wp_M_step 5 m_sub m_q m_now m_first m_da m_dl (nI c) Q := by
  intro Q hQ
  obtain ⟨n35, n37, n39, n43, n44, n45, n46, n48, n59, n69, hd⟩ := hk
  rcases hd with h1 | h1
  · simp (decide := true) [wp_M_step, wp_M_step_J1920, wp_M_step_J2220, wp_M_integerDigit, wp_M_integerDigit_J170, wp_M_integerDigit_J320, wp_M_plainAffix, wp_M_special, wp_M_special_J180, wp_M_inNumber, wp_M_power, wp_M_behind, wp_M_inFraction, wp_M_inFraction_J140, wp_M_inFraction_J310, wp_M_inFraction_J790, clb0, clb1, cn1, cn2, cn3, cn4, cn5, cn6, cn7, cn8, inb0, inb1, in1, in2, in3, in4, in5, in6, in7, in8, q35 hc, q37 hc, q39 hc, q43 hc, q44 hc, q45 hc, q46 hc, q48 hc, q59 hc, q69 hc, ql48 hc, ql49 hc, qle57 hc, n35, n37, n39, n43, n44, n45, n46, n48, n59, n69, h1]
    exact s_keep hs hsub (e := 1) (by omega) (by decide) hkk hdl _ hQ
  · have h2 : ¬ c < 48 := by omega
    have h3 : ¬ c ≤ 57 := by omega
    simp (decide := true) [wp_M_step, wp_M_step_J1920, wp_M_step_J2220, wp_M_integerDigit, wp_M_integerDigit_J170, wp_M_integerDigit_J320, wp_M_plainAffix, wp_M_special, wp_M_special_J180, wp_M_inNumber, wp_M_power, wp_M_behind, wp_M_inFraction, wp_M_inFraction_J140, wp_M_inFraction_J310, wp_M_inFraction_J790, clb0, clb1, cn1, cn2, cn3, cn4, cn5, cn6, cn7, cn8, inb0, inb1, in1, in2, in3, in4, in5, in6, in7, in8, q35 hc, q37 hc, q39 hc, q43 hc, q44 hc, q45 hc, q46 hc, q48 hc, q59 hc, q69 hc, ql48 hc, ql49 hc, qle57 hc, n35, n37, n39, n43, n44, n45, n46, n48, n59, n69, h2, h3]
    exact s_keep hs hsub (e := 1) (by omega) (by decide) hkk hdl _ hQ
theorem ms_6_k35 (hc : c ≤ 126) (hk : c = 35)  : ∀ Q, Q true (6, m_sub, m_q, upd (upd m_now 2 (m_now 2 + 1)) 3 (upd m_now 2 (m_now 2 + 1) 3), m_first, m_da, m_dl) → wp_M_step 6 m_sub m_q m_now m_first m_da m_dl (nI c) Q := by
  intro Q hQ
  subst hk
  simp (decide := true) [wp_M_step, wp_M_step_J1920, wp_M_step_J2220, wp_M_integerDigit, wp_M_integerDigit_J170, wp_M_integerDigit_J320, wp_M_plainAffix, wp_M_special, wp_M_special_J180, wp_M_inNumber, wp_M_power, wp_M_behind, wp_M_inFraction, wp_M_inFraction_J140, wp_M_inFraction_J310, wp_M_inFraction_J790, clb0, clb1, cn1, cn2, cn3, cn4, cn5, cn6, cn7, cn8, inb0, inb1, in1, in2, in3, in4, in5, in6, in7, in8, q35 hc, q37 hc, q39 hc, q43 hc, q44 hc, q45 hc, q46 hc, q48 hc, q59 hc, q69 hc, ql48 hc, ql49 hc, qle57 hc, hQ]
theorem ms_6_k37 (hc : c ≤ 126) (hk : c = 37) {s k : Nat} (hs : s ≤ 1) (hsub : m_sub = nI s) (hkk : k < 40) (hdl : m_dl (2 * s + 1) = nI k) : ∀ Q, Q true (10, m_sub, m_q, m_now, m_first, upd m_da (40 * (2 * s + 1) + k) 201, upd m_dl (2 * s + 1) (nI (k + 1))) → wp_M_step 6 m_sub m_q m_now m_first m_da m_dl (nI c) Q := by
  intro Q hQ
  subst hk
  simp (decide := true) [wp_M_step, wp_M_step_J1920, wp_M_step_J2220, wp_M_integerDigit, wp_M_integerDigit_J170, wp_M_integerDigit_J320, wp_M_plainAffix, wp_M_special, wp_M_special_J180, wp_M_inNumber, wp_M_power, wp_M_behind, wp_M_inFraction, wp_M_inFraction_J140, wp_M_inFraction_J310, wp_M_inFraction_J790, clb0, clb1, cn1, cn2, cn3, cn4, cn5, cn6, cn7, cn8, inb0, inb1, in1, in2, in3, in4, in5, in6, in7, in8, q35 hc, q37 hc, q39 hc, q43 hc, q44 hc, q45 hc, q46 hc, q48 hc, q59 hc, q69 hc, ql48 hc, ql49 hc, qle57 hc]
  exact s_keep hs hsub (e := 1) (by omega) (by decide) hkk hdl _ hQ
theorem ms_6_k39 (hc : c ≤ 126) (hk : c = 39)  : ∀ Q, Q true (11, m_sub, 0, m_now, m_first, m_da, m_dl) → wp_M_step 6 m_sub m_q m_now m_first m_da m_dl (nI c) Q := by
  intro Q hQ
  subst hk
  simp (decide := true) [wp_M_step, wp_M_step_J1920, wp_M_step_J2220, wp_M_integerDigit, wp_M_integerDigit_J170, wp_M_integerDigit_J320, wp_M_plainAffix, wp_M_special, wp_M_special_J180, wp_M_inNumber, wp_M_power, wp_M_behind, wp_M_inFraction, wp_M_inFraction_J140, wp_M_inFraction_J310, wp_M_inFraction_J790, clb0, clb1, cn1, cn2, cn3, cn4, cn5, cn6, cn7, cn8, inb0, inb1, in1, in2, in3, in4, in5, in6, in7, in8, q35 hc, q37 hc, q39 hc, q43 hc, q44 hc, q45 hc, q46 hc, q48 hc, q59 hc, q69 hc, ql48 hc, ql49 hc, qle57 hc, hQ]
theorem ms_6_k43 (hc : c ≤ 126) (hk : c = 43) {s k : Nat} (hs : s ≤ 1) (hsub : m_sub = nI s) (hkk : k < 40) (hdl : m_dl (2 * s + 1) = nI k) : ∀ Q, Q true (10, m_sub, m_q, m_now, m_first, upd m_da (40 * (2 * s + 1) + k) 43, upd m_dl (2 * s + 1) (nI (k + 1))) → wp_M_step 6 m_sub m_q m_now m_first m_da m_dl (nI c) Q := by
  intro Q hQ
  subst hk
  simp (decide := true) [wp_M_step, wp_M_step_J1920, wp_M_step_J2220, wp_M_integerDigit, wp_M_integerDigit_J170, wp_M_integerDigit_J320, wp_M_plainAffix, wp_M_special, wp_M_special_J180, wp_M_inNumber, wp_M_power, wp_M_behind, wp_M_inFraction, wp_M_inFraction_J140, wp_M_inFraction_J310, wp_M_inFraction_J790, clb0, clb1, cn1, cn2, cn3, cn4, cn5, cn6, cn7, cn8, inb0, inb1, in1, in2, in3, in4, in5, in6, in7, in8, q35 hc, q37 hc, q39 hc, q43 hc, q44 hc, q45 hc, q46 hc, q48 hc, q59 hc, q69 hc, ql48 hc, ql49 hc, qle57 hc]
  exact s_keep hs hsub (e := 1) (by omega) (by decide) hkk hdl _ hQ
theorem ms_6_k44 (hc : c ≤ 126) (hk : c = 44)  : ∀ Q, Q false (10, m_sub, m_q, m_now, m_first, m_da, m_dl) → wp_M_step 6 m_sub m_q m_now m_first m_da m_dl (nI c) Q := by
  intro Q hQ
  subst hk
  simp (decide := true) [wp_M_step, wp_M_step_J1920, wp_M_step_J2220, wp_M_integerDigit, wp_M_integerDigit_J170, wp_M_integerDigit_J320, wp_M_plainAffix, wp_M_special, wp_M_special_J180, wp_M_inNumber, wp_M_power, wp_M_behind, wp_M_inFraction, wp_M_inFraction_J140, wp_M_inFraction_J310, wp_M_inFraction_J790, clb0, clb1, cn1, cn2, cn3, cn4, cn5, cn6, cn7, cn8, inb0, inb1, in1, in2, in3, in4, in5, in6, in7, in8, q35 hc, q37 hc, q39 hc, q43 hc, q44 hc, q45 hc, q46 hc, q48 hc, q59 hc, q69 hc, ql48 hc, ql49 hc, qle57 hc, hQ]
theorem ms_6_k45 (hc : c ≤ 126) (hk : c = 45) {s k : Nat} (hs : s ≤ 1) (hsub : m_sub = nI s) (hkk : k < 40) (hdl : m_dl (2 * s + 1) = nI k) : ∀ Q, Q true (10, m_sub, m_q, m_now, m_first, upd m_da (40 * (2 * s + 1) + k) 200, upd m_dl (2 * s + 1) (nI (k + 1))) → wp_M_step 6 m_sub m_q m_now m_first m_da m_dl (nI c) Q := by
  intro Q hQ
  subst hk
  simp (decide := true) [wp_M_step, wp_M_step_J1920, wp_M_step_J2220, wp_M_integerDigit, wp_M_integerDigit_J170, wp_M_integerDigit_J320, wp_M_plainAffix, wp_M_special, wp_M_special_J180, wp_M_inNumber, wp_M_power, wp_M_behind, wp_M_inFraction, wp_M_inFraction_J140, wp_M_inFraction_J310, wp_M_inFraction_J790, clb0, clb1, cn1, cn2, cn3, cn4, cn5, cn6, cn7, cn8, inb0, inb1, in1, in2, in3, in4, in5, in6, in7, in8, q35 hc, q37 hc, q39 hc, q43 hc, q44 hc, q45 hc, q46 hc, q48 hc, q59 hc, q69 hc, ql48 hc, ql49 hc, qle57 hc]
  exact s_keep hs hsub (e := 1) (by omega) (by decide) hkk hdl _ hQ
theorem ms_6_k46 (hc : c ≤ 126) (hk : c = 46)  : ∀ Q, Q false (10, m_sub, m_q, m_now, m_first, m_da, m_dl) → wp_M_step 6 m_sub m_q m_now m_first m_da m_dl (nI c) Q := by
  intro Q hQ
  subst hk
  simp (decide := true) [wp_M_step, wp_M_step_J1920, wp_M_step_J2220, wp_M_integerDigit, wp_M_integerDigit_J170, wp_M_integerDigit_J320, wp_M_plainAffix, wp_M_special, wp_M_special_J180, wp_M_inNumber, wp_M_power, wp_M_behind, wp_M_inFraction, wp_M_inFraction_J140, wp_M_inFraction_J310, wp_M_inFraction_J790, clb0, clb1, cn1, cn2, cn3, cn4, cn5, cn6, cn7, cn8, inb0, inb1, in1, in2, in3, in4, in5, in6, in7, in8, q35 hc, q37 hc, q39 hc, q43 hc, q44 hc, q45 hc, q46 hc, q48 hc, q59 hc, q69 hc, ql48 hc, ql49 hc, qle57 hc, hQ]
theorem ms_6_k48 (hc : c ≤ 126) (hk : c = 48)  : ∀ Q, Q false (10, m_sub, m_q, m_now, m_first, m_da, m_dl) → wp_M_step 6 m_sub m_q m_now m_first m_da m_dl (nI c) Q := by
  intro Q hQ
  subst hk
  simp (decide := true) [wp_M_step, wp_M_step_J1920, wp_M_step_J2220, wp_M_integerDigit, wp_M_integerDigit_J170, wp_M_integerDigit_J320, wp_M_plainAffix, wp_M_special, wp_M_special_J180, wp_M_inNumber, wp_M_power, wp_M_behind, wp_M_inFraction, wp_M_inFraction_J140, wp_M_inFraction_J310, wp_M_inFraction_J790, clb0, clb1, cn1, cn2, cn3, cn4, cn5, cn6, cn7, cn8, inb0, inb1, in1, in2, in3, in4, in5, in6, in7, in8, q35 hc, q37 hc, q39 hc, q43 hc, q44 hc, q45 hc, q46 hc, q48 hc, q59 hc, q69 hc, ql48 hc, ql49 hc, qle57 hc, hQ]
theorem ms_6_k59 (hc : c ≤ 126) (hk : c = 59) {r nw dl2 : Nat → Int32} (hcp : ∀ Q, Q r → wp_M_copy m_now m_first Q) (hbg : ∀ Q, Q (0, 1, nw, dl2) → wp_M_begin 6 m_sub m_now m_dl 1 Q) (hsb : m_sub = 0) : ∀ Q, Q true (0, 1, m_q, nw, r, m_da, dl2) → wp_M_step 6 m_sub m_q m_now m_first m_da m_dl (nI c) Q := by
  intro Q hQ
  subst hk
  subst hsb
  simp (decide := true) [wp_M_step, wp_M_step_J1920, wp_M_step_J2220, wp_M_integerDigit, wp_M_integerDigit_J170, wp_M_integerDigit_J320, wp_M_plainAffix, wp_M_special, wp_M_special_J180, wp_M_inNumber, wp_M_power, wp_M_behind, wp_M_inFraction, wp_M_inFraction_J140, wp_M_inFraction_J310, wp_M_inFraction_J790, clb0, clb1, cn1, cn2, cn3, cn4, cn5, cn6, cn7, cn8, inb0, inb1, in1, in2, in3, in4, in5, in6, in7, in8, q35 hc, q37 hc, q39 hc, q43 hc, q44 hc, q45 hc, q46 hc, q48 hc, q59 hc, q69 hc, ql48 hc, ql49 hc, qle57 hc]
  exact hcp _ (hbg _ hQ)
theorem ms_6_k59n (hc : c ≤ 126) (hk : c = 59) {r nw dl2 : Nat → Int32} (hcp : ∀ Q, Q r → wp_M_copy m_now m_first Q) (hbg : ∀ Q, Q (0, 1, nw, dl2) → wp_M_begin 6 m_sub m_now m_dl 1 Q) (hsb : ¬ m_sub = 0) : ∀ Q, Q false (0, 1, m_q, nw, r, m_da, dl2) → wp_M_step 6 m_sub m_q m_now m_first m_da m_dl (nI c) Q := by
  intro Q hQ
  subst hk
  simp (decide := true) [wp_M_step, wp_M_step_J1920, wp_M_step_J2220, wp_M_integerDigit, wp_M_integerDigit_J170, wp_M_integerDigit_J320, wp_M_plainAffix, wp_M_special, wp_M_special_J180, wp_M_inNumber, wp_M_power, wp_M_behind, wp_M_inFraction, wp_M_inFraction_J140, wp_M_inFraction_J310, wp_M_inFraction_J790, clb0, clb1, cn1, cn2, cn3, cn4, cn5, cn6, cn7, cn8, inb0, inb1, in1, in2, in3, in4, in5, in6, in7, in8, q35 hc, q37 hc, q39 hc, q43 hc, q44 hc, q45 hc, q46 hc, q48 hc, q59 hc, q69 hc, ql48 hc, ql49 hc, qle57 hc, hsb]
  exact hcp _ (hbg _ hQ)
theorem ms_6_k69 (hc : c ≤ 126) (hk : c = 69) (hz : ¬ m_now 1 ≤ 0) (hcm : m_now 6 = 0) : ∀ Q, Q true (7, m_sub, m_q, m_now, m_first, m_da, m_dl) → wp_M_step 6 m_sub m_q m_now m_first m_da m_dl (nI c) Q := by
  intro Q hQ
  subst hk
  simp (decide := true) [wp_M_step, wp_M_step_J1920, wp_M_step_J2220, wp_M_integerDigit, wp_M_integerDigit_J170, wp_M_integerDigit_J320, wp_M_plainAffix, wp_M_special, wp_M_special_J180, wp_M_inNumber, wp_M_power, wp_M_behind, wp_M_inFraction, wp_M_inFraction_J140, wp_M_inFraction_J310, wp_M_inFraction_J790, clb0, clb1, cn1, cn2, cn3, cn4, cn5, cn6, cn7, cn8, inb0, inb1, in1, in2, in3, in4, in5, in6, in7, in8, q35 hc, q37 hc, q39 hc, q43 hc, q44 hc, q45 hc, q46 hc, q48 hc, q59 hc, q69 hc, ql48 hc, ql49 hc, qle57 hc, hz, hcm, hQ]
theorem ms_6_k69n (hc : c ≤ 126) (hk : c = 69) (hz : m_now 1 ≤ 0) : ∀ Q, Q false (7, m_sub, m_q, m_now, m_first, m_da, m_dl) → wp_M_step 6 m_sub m_q m_now m_first m_da m_dl (nI c) Q := by
  intro Q hQ
  subst hk
  simp (decide := true) [wp_M_step, wp_M_step_J1920, wp_M_step_J2220, wp_M_integerDigit, wp_M_integerDigit_J170, wp_M_integerDigit_J320, wp_M_plainAffix, wp_M_special, wp_M_special_J180, wp_M_inNumber, wp_M_power, wp_M_behind, wp_M_inFraction, wp_M_inFraction_J140, wp_M_inFraction_J310, wp_M_inFraction_J790, clb0, clb1, cn1, cn2, cn3, cn4, cn5, cn6, cn7, cn8, inb0, inb1, in1, in2, in3, in4, in5, in6, in7, in8, q35 hc, q37 hc, q39 hc, q43 hc, q44 hc, q45 hc, q46 hc, q48 hc, q59 hc, q69 hc, ql48 hc, ql49 hc, qle57 hc, hz, hQ]
theorem ms_6_k69m (hc : c ≤ 126) (hk : c = 69) (hz : ¬ m_now 1 ≤ 0) (hcm : ¬ m_now 6 = 0) : ∀ Q, Q false (7, m_sub, m_q, m_now, m_first, m_da, m_dl) → wp_M_step 6 m_sub m_q m_now m_first m_da m_dl (nI c) Q := by
  intro Q hQ
  subst hk
  simp (decide := true) [wp_M_step, wp_M_step_J1920, wp_M_step_J2220, wp_M_integerDigit, wp_M_integerDigit_J170, wp_M_integerDigit_J320, wp_M_plainAffix, wp_M_special, wp_M_special_J180, wp_M_inNumber, wp_M_power, wp_M_behind, wp_M_inFraction, wp_M_inFraction_J140, wp_M_inFraction_J310, wp_M_inFraction_J790, clb0, clb1, cn1, cn2, cn3, cn4, cn5, cn6, cn7, cn8, inb0, inb1, in1, in2, in3, in4, in5, in6, in7, in8, q35 hc, q37 hc, q39 hc, q43 hc, q44 hc, q45 hc, q46 hc, q48 hc, q59 hc, q69 hc, ql48 hc, ql49 hc, qle57 hc, hz, hcm, hQ]
theorem ms_6_kd (hc : c ≤ 126) (hk : 49 ≤ c ∧ c ≤ 57)  : ∀ Q, Q false (10, m_sub, m_q, m_now, m_first, m_da, m_dl) → wp_M_step 6 m_sub m_q m_now m_first m_da m_dl (nI c) Q := by
  intro Q hQ
  have n35 : ¬ c = 35 := by omega
  have n37 : ¬ c = 37 := by omega
  have n39 : ¬ c = 39 := by omega
  have n43 : ¬ c = 43 := by omega
  have n44 : ¬ c = 44 := by omega
  have n45 : ¬ c = 45 := by omega
  have n46 : ¬ c = 46 := by omega
  have n48 : ¬ c = 48 := by omega
  have n59 : ¬ c = 59 := by omega
  have n69 : ¬ c = 69 := by omega
  have d48 : ¬ c < 48 := by omega
  have d49 : ¬ c < 49 := by omega
  have d57 : c ≤ 57 := hk.2
  simp (decide := true) [wp_M_step, wp_M_step_J1920, wp_M_step_J2220, wp_M_integerDigit, wp_M_integerDigit_J170, wp_M_integerDigit_J320, wp_M_plainAffix, wp_M_special, wp_M_special_J180, wp_M_inNumber, wp_M_power, wp_M_behind, wp_M_inFraction, wp_M_inFraction_J140, wp_M_inFraction_J310, wp_M_inFraction_J790, clb0, clb1, cn1, cn2, cn3, cn4, cn5, cn6, cn7, cn8, inb0, inb1, in1, in2, in3, in4, in5, in6, in7, in8, q35 hc, q37 hc, q39 hc, q43 hc, q44 hc, q45 hc, q46 hc, q48 hc, q59 hc, q69 hc, ql48 hc, ql49 hc, qle57 hc, n35, n37, n39, n43, n44, n45, n46, n48, n59, n69, d48, d49, d57, hQ]
theorem ms_6_ko (hc : c ≤ 126) (hk : ¬ c = 35 ∧ ¬ c = 37 ∧ ¬ c = 39 ∧ ¬ c = 43 ∧ ¬ c = 44 ∧ ¬ c = 45 ∧ ¬ c = 46 ∧ ¬ c = 48 ∧ ¬ c = 59 ∧ ¬ c = 69 ∧ (c < 48 ∨ 57 < c)) {s k : Nat} (hs : s ≤ 1) (hsub : m_sub = nI s) (hkk : k < 40) (hdl : m_dl (2 * s + 1) = nI k) : ∀ Q, Q true (10, m_sub, m_q, m_now, m_first, upd m_da (40 * (2 * s + 1) + k) (nI c), upd m_dl (2 * s + 1) (nI (k + 1))) → wp_M_step 6 m_sub m_q m_now m_first m_da m_dl (nI c) Q := by
  intro Q hQ
  obtain ⟨n35, n37, n39, n43, n44, n45, n46, n48, n59, n69, hd⟩ := hk
  rcases hd with h1 | h1
  · simp (decide := true) [wp_M_step, wp_M_step_J1920, wp_M_step_J2220, wp_M_integerDigit, wp_M_integerDigit_J170, wp_M_integerDigit_J320, wp_M_plainAffix, wp_M_special, wp_M_special_J180, wp_M_inNumber, wp_M_power, wp_M_behind, wp_M_inFraction, wp_M_inFraction_J140, wp_M_inFraction_J310, wp_M_inFraction_J790, clb0, clb1, cn1, cn2, cn3, cn4, cn5, cn6, cn7, cn8, inb0, inb1, in1, in2, in3, in4, in5, in6, in7, in8, q35 hc, q37 hc, q39 hc, q43 hc, q44 hc, q45 hc, q46 hc, q48 hc, q59 hc, q69 hc, ql48 hc, ql49 hc, qle57 hc, n35, n37, n39, n43, n44, n45, n46, n48, n59, n69, h1]
    exact s_keep hs hsub (e := 1) (by omega) (by decide) hkk hdl _ hQ
  · have h2 : ¬ c < 48 := by omega
    have h3 : ¬ c ≤ 57 := by omega
    simp (decide := true) [wp_M_step, wp_M_step_J1920, wp_M_step_J2220, wp_M_integerDigit, wp_M_integerDigit_J170, wp_M_integerDigit_J320, wp_M_plainAffix, wp_M_special, wp_M_special_J180, wp_M_inNumber, wp_M_power, wp_M_behind, wp_M_inFraction, wp_M_inFraction_J140, wp_M_inFraction_J310, wp_M_inFraction_J790, clb0, clb1, cn1, cn2, cn3, cn4, cn5, cn6, cn7, cn8, inb0, inb1, in1, in2, in3, in4, in5, in6, in7, in8, q35 hc, q37 hc, q39 hc, q43 hc, q44 hc, q45 hc, q46 hc, q48 hc, q59 hc, q69 hc, ql48 hc, ql49 hc, qle57 hc, n35, n37, n39, n43, n44, n45, n46, n48, n59, n69, h2, h3]
    exact s_keep hs hsub (e := 1) (by omega) (by decide) hkk hdl _ hQ
theorem ms_7_k35 (hc : c ≤ 126) (hk : c = 35)  : ∀ Q, Q false (9, m_sub, m_q, upd m_now 4 (m_now 4 + 1), m_first, m_da, m_dl) → wp_M_step 7 m_sub m_q m_now m_first m_da m_dl (nI c) Q := by
  intro Q hQ
  subst hk
  simp (decide := true) [wp_M_step, wp_M_step_J1920, wp_M_step_J2220, wp_M_integerDigit, wp_M_integerDigit_J170, wp_M_integerDigit_J320, wp_M_plainAffix, wp_M_special, wp_M_special_J180, wp_M_inNumber, wp_M_power, wp_M_behind, wp_M_inFraction, wp_M_inFraction_J140, wp_M_inFraction_J310, wp_M_inFraction_J790, clb0, clb1, cn1, cn2, cn3, cn4, cn5, cn6, cn7, cn8, inb0, inb1, in1, in2, in3, in4, in5, in6, in7, in8, q35 hc, q37 hc, q39 hc, q43 hc, q44 hc, q45 hc, q46 hc, q48 hc, q59 hc, q69 hc, ql48 hc, ql49 hc, qle57 hc, hQ]
theorem ms_7_k37 (hc : c ≤ 126) (hk : c = 37)  : ∀ Q, Q false (9, m_sub, m_q, upd m_now 4 (m_now 4 + 1), m_first, m_da, m_dl) → wp_M_step 7 m_sub m_q m_now m_first m_da m_dl (nI c) Q := by
  intro Q hQ
  subst hk
  simp (decide := true) [wp_M_step, wp_M_step_J1920, wp_M_step_J2220, wp_M_integerDigit, wp_M_integerDigit_J170, wp_M_integerDigit_J320, wp_M_plainAffix, wp_M_special, wp_M_special_J180, wp_M_inNumber, wp_M_power, wp_M_behind, wp_M_inFraction, wp_M_inFraction_J140, wp_M_inFraction_J310, wp_M_inFraction_J790, clb0, clb1, cn1, cn2, cn3, cn4, cn5, cn6, cn7, cn8, inb0, inb1, in1, in2, in3, in4, in5, in6, in7, in8, q35 hc, q37 hc, q39 hc, q43 hc, q44 hc, q45 hc, q46 hc, q48 hc, q59 hc, q69 hc, ql48 hc, ql49 hc, qle57 hc, hQ]
theorem ms_7_k39 (hc : c ≤ 126) (hk : c = 39)  : ∀ Q, Q false (9, m_sub, m_q, upd m_now 4 (m_now 4 + 1), m_first, m_da, m_dl) → wp_M_step 7 m_sub m_q m_now m_first m_da m_dl (nI c) Q := by
  intro Q hQ
  subst hk
  simp (decide := true) [wp_M_step, wp_M_step_J1920, wp_M_step_J2220, wp_M_integerDigit, wp_M_integerDigit_J170, wp_M_integerDigit_J320, wp_M_plainAffix, wp_M_special, wp_M_special_J180, wp_M_inNumber, wp_M_power, wp_M_behind, wp_M_inFraction, wp_M_inFraction_J140, wp_M_inFraction_J310, wp_M_inFraction_J790, clb0, clb1, cn1, cn2, cn3, cn4, cn5, cn6, cn7, cn8, inb0, inb1, in1, in2, in3, in4, in5, in6, in7, in8, q35 hc, q37 hc, q39 hc, q43 hc, q44 hc, q45 hc, q46 hc, q48 hc, q59 hc, q69 hc, ql48 hc, ql49 hc, qle57 hc, hQ]
theorem ms_7_k43 (hc : c ≤ 126) (hk : c = 43)  : ∀ Q, Q true (8, m_sub, m_q, upd m_now 5 1, m_first, m_da, m_dl) → wp_M_step 7 m_sub m_q m_now m_first m_da m_dl (nI c) Q := by
  intro Q hQ
  subst hk
  simp (decide := true) [wp_M_step, wp_M_step_J1920, wp_M_step_J2220, wp_M_integerDigit, wp_M_integerDigit_J170, wp_M_integerDigit_J320, wp_M_plainAffix, wp_M_special, wp_M_special_J180, wp_M_inNumber, wp_M_power, wp_M_behind, wp_M_inFraction, wp_M_inFraction_J140, wp_M_inFraction_J310, wp_M_inFraction_J790, clb0, clb1, cn1, cn2, cn3, cn4, cn5, cn6, cn7, cn8, inb0, inb1, in1, in2, in3, in4, in5, in6, in7, in8, q35 hc, q37 hc, q39 hc, q43 hc, q44 hc, q45 hc, q46 hc, q48 hc, q59 hc, q69 hc, ql48 hc, ql49 hc, qle57 hc, hQ]
theorem ms_7_k44 (hc : c ≤ 126) (hk : c = 44)  : ∀ Q, Q false (9, m_sub, m_q, upd m_now 4 (m_now 4 + 1), m_first, m_da, m_dl) → wp_M_step 7 m_sub m_q m_now m_first m_da m_dl (nI c) Q := by
  intro Q hQ
  subst hk
  simp (decide := true) [wp_M_step, wp_M_step_J1920, wp_M_step_J2220, wp_M_integerDigit, wp_M_integerDigit_J170, wp_M_integerDigit_J320, wp_M_plainAffix, wp_M_special, wp_M_special_J180, wp_M_inNumber, wp_M_power, wp_M_behind, wp_M_inFraction, wp_M_inFraction_J140, wp_M_inFraction_J310, wp_M_inFraction_J790, clb0, clb1, cn1, cn2, cn3, cn4, cn5, cn6, cn7, cn8, inb0, inb1, in1, in2, in3, in4, in5, in6, in7, in8, q35 hc, q37 hc, q39 hc, q43 hc, q44 hc, q45 hc, q46 hc, q48 hc, q59 hc, q69 hc, ql48 hc, ql49 hc, qle57 hc, hQ]
theorem ms_7_k45 (hc : c ≤ 126) (hk : c = 45)  : ∀ Q, Q false (9, m_sub, m_q, upd m_now 4 (m_now 4 + 1), m_first, m_da, m_dl) → wp_M_step 7 m_sub m_q m_now m_first m_da m_dl (nI c) Q := by
  intro Q hQ
  subst hk
  simp (decide := true) [wp_M_step, wp_M_step_J1920, wp_M_step_J2220, wp_M_integerDigit, wp_M_integerDigit_J170, wp_M_integerDigit_J320, wp_M_plainAffix, wp_M_special, wp_M_special_J180, wp_M_inNumber, wp_M_power, wp_M_behind, wp_M_inFraction, wp_M_inFraction_J140, wp_M_inFraction_J310, wp_M_inFraction_J790, clb0, clb1, cn1, cn2, cn3, cn4, cn5, cn6, cn7, cn8, inb0, inb1, in1, in2, in3, in4, in5, in6, in7, in8, q35 hc, q37 hc, q39 hc, q43 hc, q44 hc, q45 hc, q46 hc, q48 hc, q59 hc, q69 hc, ql48 hc, ql49 hc, qle57 hc, hQ]
theorem ms_7_k46 (hc : c ≤ 126) (hk : c = 46)  : ∀ Q, Q false (9, m_sub, m_q, upd m_now 4 (m_now 4 + 1), m_first, m_da, m_dl) → wp_M_step 7 m_sub m_q m_now m_first m_da m_dl (nI c) Q := by
  intro Q hQ
  subst hk
  simp (decide := true) [wp_M_step, wp_M_step_J1920, wp_M_step_J2220, wp_M_integerDigit, wp_M_integerDigit_J170, wp_M_integerDigit_J320, wp_M_plainAffix, wp_M_special, wp_M_special_J180, wp_M_inNumber, wp_M_power, wp_M_behind, wp_M_inFraction, wp_M_inFraction_J140, wp_M_inFraction_J310, wp_M_inFraction_J790, clb0, clb1, cn1, cn2, cn3, cn4, cn5, cn6, cn7, cn8, inb0, inb1, in1, in2, in3, in4, in5, in6, in7, in8, q35 hc, q37 hc, q39 hc, q43 hc, q44 hc, q45 hc, q46 hc, q48 hc, q59 hc, q69 hc, ql48 hc, ql49 hc, qle57 hc, hQ]
theorem ms_7_k48 (hc : c ≤ 126) (hk : c = 48)  : ∀ Q, Q true (9, m_sub, m_q, upd m_now 4 (m_now 4 + 1), m_first, m_da, m_dl) → wp_M_step 7 m_sub m_q m_now m_first m_da m_dl (nI c) Q := by
  intro Q hQ
  subst hk
  simp (decide := true) [wp_M_step, wp_M_step_J1920, wp_M_step_J2220, wp_M_integerDigit, wp_M_integerDigit_J170, wp_M_integerDigit_J320, wp_M_plainAffix, wp_M_special, wp_M_special_J180, wp_M_inNumber, wp_M_power, wp_M_behind, wp_M_inFraction, wp_M_inFraction_J140, wp_M_inFraction_J310, wp_M_inFraction_J790, clb0, clb1, cn1, cn2, cn3, cn4, cn5, cn6, cn7, cn8, inb0, inb1, in1, in2, in3, in4, in5, in6, in7, in8, q35 hc, q37 hc, q39 hc, q43 hc, q44 hc, q45 hc, q46 hc, q48 hc, q59 hc, q69 hc, ql48 hc, ql49 hc, qle57 hc, hQ]
theorem ms_7_k59 (hc : c ≤ 126) (hk : c = 59)  : ∀ Q, Q false (9, m_sub, m_q, upd m_now 4 (m_now 4 + 1), m_first, m_da, m_dl) → wp_M_step 7 m_sub m_q m_now m_first m_da m_dl (nI c) Q := by
  intro Q hQ
  subst hk
  simp (decide := true) [wp_M_step, wp_M_step_J1920, wp_M_step_J2220, wp_M_integerDigit, wp_M_integerDigit_J170, wp_M_integerDigit_J320, wp_M_plainAffix, wp_M_special, wp_M_special_J180, wp_M_inNumber, wp_M_power, wp_M_behind, wp_M_inFraction, wp_M_inFraction_J140, wp_M_inFraction_J310, wp_M_inFraction_J790, clb0, clb1, cn1, cn2, cn3, cn4, cn5, cn6, cn7, cn8, inb0, inb1, in1, in2, in3, in4, in5, in6, in7, in8, q35 hc, q37 hc, q39 hc, q43 hc, q44 hc, q45 hc, q46 hc, q48 hc, q59 hc, q69 hc, ql48 hc, ql49 hc, qle57 hc, hQ]
theorem ms_7_k69 (hc : c ≤ 126) (hk : c = 69)  : ∀ Q, Q false (9, m_sub, m_q, upd m_now 4 (m_now 4 + 1), m_first, m_da, m_dl) → wp_M_step 7 m_sub m_q m_now m_first m_da m_dl (nI c) Q := by
  intro Q hQ
  subst hk
  simp (decide := true) [wp_M_step, wp_M_step_J1920, wp_M_step_J2220, wp_M_integerDigit, wp_M_integerDigit_J170, wp_M_integerDigit_J320, wp_M_plainAffix, wp_M_special, wp_M_special_J180, wp_M_inNumber, wp_M_power, wp_M_behind, wp_M_inFraction, wp_M_inFraction_J140, wp_M_inFraction_J310, wp_M_inFraction_J790, clb0, clb1, cn1, cn2, cn3, cn4, cn5, cn6, cn7, cn8, inb0, inb1, in1, in2, in3, in4, in5, in6, in7, in8, q35 hc, q37 hc, q39 hc, q43 hc, q44 hc, q45 hc, q46 hc, q48 hc, q59 hc, q69 hc, ql48 hc, ql49 hc, qle57 hc, hQ]
theorem ms_7_kd (hc : c ≤ 126) (hk : 49 ≤ c ∧ c ≤ 57)  : ∀ Q, Q false (9, m_sub, m_q, upd m_now 4 (m_now 4 + 1), m_first, m_da, m_dl) → wp_M_step 7 m_sub m_q m_now m_first m_da m_dl (nI c) Q := by
  intro Q hQ
  have n35 : ¬ c = 35 := by omega
  have n37 : ¬ c = 37 := by omega
  have n39 : ¬ c = 39 := by omega
  have n43 : ¬ c = 43 := by omega
  have n44 : ¬ c = 44 := by omega
  have n45 : ¬ c = 45 := by omega
  have n46 : ¬ c = 46 := by omega
  have n48 : ¬ c = 48 := by omega
  have n59 : ¬ c = 59 := by omega
  have n69 : ¬ c = 69 := by omega
  have d48 : ¬ c < 48 := by omega
  have d49 : ¬ c < 49 := by omega
  have d57 : c ≤ 57 := hk.2
  simp (decide := true) [wp_M_step, wp_M_step_J1920, wp_M_step_J2220, wp_M_integerDigit, wp_M_integerDigit_J170, wp_M_integerDigit_J320, wp_M_plainAffix, wp_M_special, wp_M_special_J180, wp_M_inNumber, wp_M_power, wp_M_behind, wp_M_inFraction, wp_M_inFraction_J140, wp_M_inFraction_J310, wp_M_inFraction_J790, clb0, clb1, cn1, cn2, cn3, cn4, cn5, cn6, cn7, cn8, inb0, inb1, in1, in2, in3, in4, in5, in6, in7, in8, q35 hc, q37 hc, q39 hc, q43 hc, q44 hc, q45 hc, q46 hc, q48 hc, q59 hc, q69 hc, ql48 hc, ql49 hc, qle57 hc, n35, n37, n39, n43, n44, n45, n46, n48, n59, n69, d48, d49, d57, hQ]
theorem ms_7_ko (hc : c ≤ 126) (hk : ¬ c = 35 ∧ ¬ c = 37 ∧ ¬ c = 39 ∧ ¬ c = 43 ∧ ¬ c = 44 ∧ ¬ c = 45 ∧ ¬ c = 46 ∧ ¬ c = 48 ∧ ¬ c = 59 ∧ ¬ c = 69 ∧ (c < 48 ∨ 57 < c))  : ∀ Q, Q false (9, m_sub, m_q, upd m_now 4 (m_now 4 + 1), m_first, m_da, m_dl) → wp_M_step 7 m_sub m_q m_now m_first m_da m_dl (nI c) Q := by
  intro Q hQ
  obtain ⟨n35, n37, n39, n43, n44, n45, n46, n48, n59, n69, hd⟩ := hk
  rcases hd with h1 | h1
  · simp (decide := true) [wp_M_step, wp_M_step_J1920, wp_M_step_J2220, wp_M_integerDigit, wp_M_integerDigit_J170, wp_M_integerDigit_J320, wp_M_plainAffix, wp_M_special, wp_M_special_J180, wp_M_inNumber, wp_M_power, wp_M_behind, wp_M_inFraction, wp_M_inFraction_J140, wp_M_inFraction_J310, wp_M_inFraction_J790, clb0, clb1, cn1, cn2, cn3, cn4, cn5, cn6, cn7, cn8, inb0, inb1, in1, in2, in3, in4, in5, in6, in7, in8, q35 hc, q37 hc, q39 hc, q43 hc, q44 hc, q45 hc, q46 hc, q48 hc, q59 hc, q69 hc, ql48 hc, ql49 hc, qle57 hc, n35, n37, n39, n43, n44, n45, n46, n48, n59, n69, h1, hQ]
  · have h2 : ¬ c < 48 := by omega
    have h3 : ¬ c ≤ 57 := by omega
    simp (decide := true) [wp_M_step, wp_M_step_J1920, wp_M_step_J2220, wp_M_integerDigit, wp_M_integerDigit_J170, wp_M_integerDigit_J320, wp_M_plainAffix, wp_M_special, wp_M_special_J180, wp_M_inNumber, wp_M_power, wp_M_behind, wp_M_inFraction, wp_M_inFraction_J140, wp_M_inFraction_J310, wp_M_inFraction_J790, clb0, clb1, cn1, cn2, cn3, cn4, cn5, cn6, cn7, cn8, inb0, inb1, in1, in2, in3, in4, in5, in6, in7, in8, q35 hc, q37 hc, q39 hc, q43 hc, q44 hc, q45 hc, q46 hc, q48 hc, q59 hc, q69 hc, ql48 hc, ql49 hc, qle57 hc, n35, n37, n39, n43, n44, n45, n46, n48, n59, n69, h2, h3, hQ]
theorem ms_8_k35 (hc : c ≤ 126) (hk : c = 35)  : ∀ Q, Q false (9, m_sub, m_q, upd m_now 4 (m_now 4 + 1), m_first, m_da, m_dl) → wp_M_step 8 m_sub m_q m_now m_first m_da m_dl (nI c) Q := by
  intro Q hQ
  subst hk
  simp (decide := true) [wp_M_step, wp_M_step_J1920, wp_M_step_J2220, wp_M_integerDigit, wp_M_integerDigit_J170, wp_M_integerDigit_J320, wp_M_plainAffix, wp_M_special, wp_M_special_J180, wp_M_inNumber, wp_M_power, wp_M_behind, wp_M_inFraction, wp_M_inFraction_J140, wp_M_inFraction_J310, wp_M_inFraction_J790, clb0, clb1, cn1, cn2, cn3, cn4, cn5, cn6, cn7, cn8, inb0, inb1, in1, in2, in3, in4, in5, in6, in7, in8, q35 hc, q37 hc, q39 hc, q43 hc, q44 hc, q45 hc, q46 hc, q48 hc, q59 hc, q69 hc, ql48 hc, ql49 hc, qle57 hc, hQ]
theorem ms_8_k37 (hc : c ≤ 126) (hk : c = 37)  : ∀ Q, Q false (9, m_sub, m_q, upd m_now 4 (m_now 4 + 1), m_first, m_da, m_dl) → wp_M_step 8 m_sub m_q m_now m_first m_da m_dl (nI c) Q := by
  intro Q hQ
  subst hk
  simp (decide := true) [wp_M_step, wp_M_step_J1920, wp_M_step_J2220, wp_M_integerDigit, wp_M_integerDigit_J170, wp_M_integerDigit_J320, wp_M_plainAffix, wp_M_special, wp_M_special_J180, wp_M_inNumber, wp_M_power, wp_M_behind, wp_M_inFraction, wp_M_inFraction_J140, wp_M_inFraction_J310, wp_M_inFraction_J790, clb0, clb1, cn1, cn2, cn3, cn4, cn5, cn6, cn7, cn8, inb0, inb1, in1, in2, in3, in4, in5, in6, in7, in8, q35 hc, q37 hc, q39 hc, q43 hc, q44 hc, q45 hc, q46 hc, q48 hc, q59 hc, q69 hc, ql48 hc, ql49 hc, qle57 hc, hQ]
theorem ms_8_k39 (hc : c ≤ 126) (hk : c = 39)  : ∀ Q, Q false (9, m_sub, m_q, upd m_now 4 (m_now 4 + 1), m_first, m_da, m_dl) → wp_M_step 8 m_sub m_q m_now m_first m_da m_dl (nI c) Q := by
  intro Q hQ
  subst hk
  simp (decide := true) [wp_M_step, wp_M_step_J1920, wp_M_step_J2220, wp_M_integerDigit, wp_M_integerDigit_J170, wp_M_integerDigit_J320, wp_M_plainAffix, wp_M_special, wp_M_special_J180, wp_M_inNumber, wp_M_power, wp_M_behind, wp_M_inFraction, wp_M_inFraction_J140, wp_M_inFraction_J310, wp_M_inFraction_J790, clb0, clb1, cn1, cn2, cn3, cn4, cn5, cn6, cn7, cn8, inb0, inb1, in1, in2, in3, in4, in5, in6, in7, in8, q35 hc, q37 hc, q39 hc, q43 hc, q44 hc, q45 hc, q46 hc, q48 hc, q59 hc, q69 hc, ql48 hc, ql49 hc, qle57 hc, hQ]
theorem ms_8_k43 (hc : c ≤ 126) (hk : c = 43)  : ∀ Q, Q false (9, m_sub, m_q, upd m_now 4 (m_now 4 + 1), m_first, m_da, m_dl) → wp_M_step 8 m_sub m_q m_now m_first m_da m_dl (nI c) Q := by
  intro Q hQ
  subst hk
  simp (decide := true) [wp_M_step, wp_M_step_J1920, wp_M_step_J2220, wp_M_integerDigit, wp_M_integerDigit_J170, wp_M_integerDigit_J320, wp_M_plainAffix, wp_M_special, wp_M_special_J180, wp_M_inNumber, wp_M_power, wp_M_behind, wp_M_inFraction, wp_M_inFraction_J140, wp_M_inFraction_J310, wp_M_inFraction_J790, clb0, clb1, cn1, cn2, cn3, cn4, cn5, cn6, cn7, cn8, inb0, inb1, in1, in2, in3, in4, in5, in6, in7, in8, q35 hc, q37 hc, q39 hc, q43 hc, q44 hc, q45 hc, q46 hc, q48 hc, q59 hc, q69 hc, ql48 hc, ql49 hc, qle57 hc, hQ]
theorem ms_8_k44 (hc : c ≤ 126) (hk : c = 44)  : ∀ Q, Q false (9, m_sub, m_q, upd m_now 4 (m_now 4 + 1), m_first, m_da, m_dl) → wp_M_step 8 m_sub m_q m_now m_first m_da m_dl (nI c) Q := by
  intro Q hQ
  subst hk
  simp (decide := true) [wp_M_step, wp_M_step_J1920, wp_M_step_J2220, wp_M_integerDigit, wp_M_integerDigit_J170, wp_M_integerDigit_J320, wp_M_plainAffix, wp_M_special, wp_M_special_J180, wp_M_inNumber, wp_M_power, wp_M_behind, wp_M_inFraction, wp_M_inFraction_J140, wp_M_inFraction_J310, wp_M_inFraction_J790, clb0, clb1, cn1, cn2, cn3, cn4, cn5, cn6, cn7, cn8, inb0, inb1, in1, in2, in3, in4, in5, in6, in7, in8, q35 hc, q37 hc, q39 hc, q43 hc, q44 hc, q45 hc, q46 hc, q48 hc, q59 hc, q69 hc, ql48 hc, ql49 hc, qle57 hc, hQ]
theorem ms_8_k45 (hc : c ≤ 126) (hk : c = 45)  : ∀ Q, Q false (9, m_sub, m_q, upd m_now 4 (m_now 4 + 1), m_first, m_da, m_dl) → wp_M_step 8 m_sub m_q m_now m_first m_da m_dl (nI c) Q := by
  intro Q hQ
  subst hk
  simp (decide := true) [wp_M_step, wp_M_step_J1920, wp_M_step_J2220, wp_M_integerDigit, wp_M_integerDigit_J170, wp_M_integerDigit_J320, wp_M_plainAffix, wp_M_special, wp_M_special_J180, wp_M_inNumber, wp_M_power, wp_M_behind, wp_M_inFraction, wp_M_inFraction_J140, wp_M_inFraction_J310, wp_M_inFraction_J790, clb0, clb1, cn1, cn2, cn3, cn4, cn5, cn6, cn7, cn8, inb0, inb1, in1, in2, in3, in4, in5, in6, in7, in8, q35 hc, q37 hc, q39 hc, q43 hc, q44 hc, q45 hc, q46 hc, q48 hc, q59 hc, q69 hc, ql48 hc, ql49 hc, qle57 hc, hQ]
theorem ms_8_k46 (hc : c ≤ 126) (hk : c = 46)  : ∀ Q, Q false (9, m_sub, m_q, upd m_now 4 (m_now 4 + 1), m_first, m_da, m_dl) → wp_M_step 8 m_sub m_q m_now m_first m_da m_dl (nI c) Q := by
  intro Q hQ
  subst hk
  simp (decide := true) [wp_M_step, wp_M_step_J1920, wp_M_step_J2220, wp_M_integerDigit, wp_M_integerDigit_J170, wp_M_integerDigit_J320, wp_M_plainAffix, wp_M_special, wp_M_special_J180, wp_M_inNumber, wp_M_power, wp_M_behind, wp_M_inFraction, wp_M_inFraction_J140, wp_M_inFraction_J310, wp_M_inFraction_J790, clb0, clb1, cn1, cn2, cn3, cn4, cn5, cn6, cn7, cn8, inb0, inb1, in1, in2, in3, in4, in5, in6, in7, in8, q35 hc, q37 hc, q39 hc, q43 hc, q44 hc, q45 hc, q46 hc, q48 hc, q59 hc, q69 hc, ql48 hc, ql49 hc, qle57 hc, hQ]
theorem ms_8_k48 (hc : c ≤ 126) (hk : c = 48)  : ∀ Q, Q true (9, m_sub, m_q, upd m_now 4 (m_now 4 + 1), m_first, m_da, m_dl) → wp_M_step 8 m_sub m_q m_now m_first m_da m_dl (nI c) Q := by
  intro Q hQ
  subst hk
  simp (decide := true) [wp_M_step, wp_M_step_J1920, wp_M_step_J2220, wp_M_integerDigit, wp_M_integerDigit_J170, wp_M_integerDigit_J320, wp_M_plainAffix, wp_M_special, wp_M_special_J180, wp_M_inNumber, wp_M_power, wp_M_behind, wp_M_inFraction, wp_M_inFraction_J140, wp_M_inFraction_J310, wp_M_inFraction_J790, clb0, clb1, cn1, cn2, cn3, cn4, cn5, cn6, cn7, cn8, inb0, inb1, in1, in2, in3, in4, in5, in6, in7, in8, q35 hc, q37 hc, q39 hc, q43 hc, q44 hc, q45 hc, q46 hc, q48 hc, q59 hc, q69 hc, ql48 hc, ql49 hc, qle57 hc, hQ]
theorem ms_8_k59 (hc : c ≤ 126) (hk : c = 59)  : ∀ Q, Q false (9, m_sub, m_q, upd m_now 4 (m_now 4 + 1), m_first, m_da, m_dl) → wp_M_step 8 m_sub m_q m_now m_first m_da m_dl (nI c) Q := by
  intro Q hQ
  subst hk
  simp (decide := true) [wp_M_step, wp_M_step_J1920, wp_M_step_J2220, wp_M_integerDigit, wp_M_integerDigit_J170, wp_M_integerDigit_J320, wp_M_plainAffix, wp_M_special, wp_M_special_J180, wp_M_inNumber, wp_M_power, wp_M_behind, wp_M_inFraction, wp_M_inFraction_J140, wp_M_inFraction_J310, wp_M_inFraction_J790, clb0, clb1, cn1, cn2, cn3, cn4, cn5, cn6, cn7, cn8, inb0, inb1, in1, in2, in3, in4, in5, in6, in7, in8, q35 hc, q37 hc, q39 hc, q43 hc, q44 hc, q45 hc, q46 hc, q48 hc, q59 hc, q69 hc, ql48 hc, ql49 hc, qle57 hc, hQ]
theorem ms_8_k69 (hc : c ≤ 126) (hk : c = 69)  : ∀ Q, Q false (9, m_sub, m_q, upd m_now 4 (m_now 4 + 1), m_first, m_da, m_dl) → wp_M_step 8 m_sub m_q m_now m_first m_da m_dl (nI c) Q := by
  intro Q hQ
  subst hk
  simp (decide := true) [wp_M_step, wp_M_step_J1920, wp_M_step_J2220, wp_M_integerDigit, wp_M_integerDigit_J170, wp_M_integerDigit_J320, wp_M_plainAffix, wp_M_special, wp_M_special_J180, wp_M_inNumber, wp_M_power, wp_M_behind, wp_M_inFraction, wp_M_inFraction_J140, wp_M_inFraction_J310, wp_M_inFraction_J790, clb0, clb1, cn1, cn2, cn3, cn4, cn5, cn6, cn7, cn8, inb0, inb1, in1, in2, in3, in4, in5, in6, in7, in8, q35 hc, q37 hc, q39 hc, q43 hc, q44 hc, q45 hc, q46 hc, q48 hc, q59 hc, q69 hc, ql48 hc, ql49 hc, qle57 hc, hQ]
theorem ms_8_kd (hc : c ≤ 126) (hk : 49 ≤ c ∧ c ≤ 57)  : ∀ Q, Q false (9, m_sub, m_q, upd m_now 4 (m_now 4 + 1), m_first, m_da, m_dl) → wp_M_step 8 m_sub m_q m_now m_first m_da m_dl (nI c) Q := by
  intro Q hQ
  have n35 : ¬ c = 35 := by omega
  have n37 : ¬ c = 37 := by omega
  have n39 : ¬ c = 39 := by omega
  have n43 : ¬ c = 43 := by omega
  have n44 : ¬ c = 44 := by omega
  have n45 : ¬ c = 45 := by omega
  have n46 : ¬ c = 46 := by omega
  have n48 : ¬ c = 48 := by omega
  have n59 : ¬ c = 59 := by omega
  have n69 : ¬ c = 69 := by omega
  have d48 : ¬ c < 48 := by omega
  have d49 : ¬ c < 49 := by omega
  have d57 : c ≤ 57 := hk.2
  simp (decide := true) [wp_M_step, wp_M_step_J1920, wp_M_step_J2220, wp_M_integerDigit, wp_M_integerDigit_J170, wp_M_integerDigit_J320, wp_M_plainAffix, wp_M_special, wp_M_special_J180, wp_M_inNumber, wp_M_power, wp_M_behind, wp_M_inFraction, wp_M_inFraction_J140, wp_M_inFraction_J310, wp_M_inFraction_J790, clb0, clb1, cn1, cn2, cn3, cn4, cn5, cn6, cn7, cn8, inb0, inb1, in1, in2, in3, in4, in5, in6, in7, in8, q35 hc, q37 hc, q39 hc, q43 hc, q44 hc, q45 hc, q46 hc, q48 hc, q59 hc, q69 hc, ql48 hc, ql49 hc, qle57 hc, n35, n37, n39, n43, n44, n45, n46, n48, n59, n69, d48, d49, d57, hQ]
theorem ms_8_ko (hc : c ≤ 126) (hk : ¬ c = 35 ∧ ¬ c = 37 ∧ ¬ c = 39 ∧ ¬ c = 43 ∧ ¬ c = 44 ∧ ¬ c = 45 ∧ ¬ c = 46 ∧ ¬ c = 48 ∧ ¬ c = 59 ∧ ¬ c = 69 ∧ (c < 48 ∨ 57 < c))  : ∀ Q, Q false (9, m_sub, m_q, upd m_now 4 (m_now 4 + 1), m_first, m_da, m_dl) → wp_M_step 8 m_sub m_q m_now m_first m_da m_dl (nI c) Q := by
  intro Q hQ
  obtain ⟨n35, n37, n39, n43, n44, n45, n46, n48, n59, n69, hd⟩ := hk
  rcases hd with h1 | h1
  · simp (decide := true) [wp_M_step, wp_M_step_J1920, wp_M_step_J2220, wp_M_integerDigit, wp_M_integerDigit_J170, wp_M_integerDigit_J320, wp_M_plainAffix, wp_M_special, wp_M_special_J180, wp_M_inNumber, wp_M_power, wp_M_behind, wp_M_inFraction, wp_M_inFraction_J140, wp_M_inFraction_J310, wp_M_inFraction_J790, clb0, clb1, cn1, cn2, cn3, cn4, cn5, cn6, cn7, cn8, inb0, inb1, in1, in2, in3, in4, in5, in6, in7, in8, q35 hc, q37 hc, q39 hc, q43 hc, q44 hc, q45 hc, q46 hc, q48 hc, q59 hc, q69 hc, ql48 hc, ql49 hc, qle57 hc, n35, n37, n39, n43, n44, n45, n46, n48, n59, n69, h1, hQ]
  · have h2 : ¬ c < 48 := by omega
    have h3 : ¬ c ≤ 57 := by omega
    simp (decide := true) [wp_M_step, wp_M_step_J1920, wp_M_step_J2220, wp_M_integerDigit, wp_M_integerDigit_J170, wp_M_integerDigit_J320, wp_M_plainAffix, wp_M_special, wp_M_special_J180, wp_M_inNumber, wp_M_power, wp_M_behind, wp_M_inFraction, wp_M_inFraction_J140, wp_M_inFraction_J310, wp_M_inFraction_J790, clb0, clb1, cn1, cn2, cn3, cn4, cn5, cn6, cn7, cn8, inb0, inb1, in1, in2, in3, in4, in5, in6, in7, in8, q35 hc, q37 hc, q39 hc, q43 hc, q44 hc, q45 hc, q46 hc, q48 hc, q59 hc, q69 hc, ql48 hc, ql49 hc, qle57 hc, n35, n37, n39, n43, n44, n45, n46, n48, n59, n69, h2, h3, hQ]
theorem ms_9_k35 (hc : c ≤ 126) (hk : c = 35)  : ∀ Q, Q false (10, m_sub, m_q, m_now, m_first, m_da, m_dl) → wp_M_step 9 m_sub m_q m_now m_first m_da m_dl (nI c) Q := by
  intro Q hQ
  subst hk
  simp (decide := true) [wp_M_step, wp_M_step_J1920, wp_M_step_J2220, wp_M_integerDigit, wp_M_integerDigit_J170, wp_M_integerDigit_J320, wp_M_plainAffix, wp_M_special, wp_M_special_J180, wp_M_inNumber, wp_M_power, wp_M_behind, wp_M_inFraction, wp_M_inFraction_J140, wp_M_inFraction_J310, wp_M_inFraction_J790, clb0, clb1, cn1, cn2, cn3, cn4, cn5, cn6, cn7, cn8, inb0, inb1, in1, in2, in3, in4, in5, in6, in7, in8, q35 hc, q37 hc, q39 hc, q43 hc, q44 hc, q45 hc, q46 hc, q48 hc, q59 hc, q69 hc, ql48 hc, ql49 hc, qle57 hc, hQ]
theorem ms_9_k37 (hc : c ≤ 126) (hk : c = 37) {s k : Nat} (hs : s ≤ 1) (hsub : m_sub = nI s) (hkk : k < 40) (hdl : m_dl (2 * s + 1) = nI k) : ∀ Q, Q true (10, m_sub, m_q, m_now, m_first, upd m_da (40 * (2 * s + 1) + k) 201, upd m_dl (2 * s + 1) (nI (k + 1))) → wp_M_step 9 m_sub m_q m_now m_first m_da m_dl (nI c) Q := by
  intro Q hQ
  subst hk
  simp (decide := true) [wp_M_step, wp_M_step_J1920, wp_M_step_J2220, wp_M_integerDigit, wp_M_integerDigit_J170, wp_M_integerDigit_J320, wp_M_plainAffix, wp_M_special, wp_M_special_J180, wp_M_inNumber, wp_M_power, wp_M_behind, wp_M_inFraction, wp_M_inFraction_J140, wp_M_inFraction_J310, wp_M_inFraction_J790, clb0, clb1, cn1, cn2, cn3, cn4, cn5, cn6, cn7, cn8, inb0, inb1, in1, in2, in3, in4, in5, in6, in7, in8, q35 hc, q37 hc, q39 hc, q43 hc, q44 hc, q45 hc, q46 hc, q48 hc, q59 hc, q69 hc, ql48 hc, ql49 hc, qle57 hc]
  exact s_keep hs hsub (e := 1) (by omega) (by decide) hkk hdl _ hQ
theorem ms_9_k39 (hc : c ≤ 126) (hk : c = 39)  : ∀ Q, Q true (11, m_sub, 0, m_now, m_first, m_da, m_dl) → wp_M_step 9 m_sub m_q m_now m_first m_da m_dl (nI c) Q := by
  intro Q hQ
  subst hk
  simp (decide := true) [wp_M_step, wp_M_step_J1920, wp_M_step_J2220, wp_M_integerDigit, wp_M_integerDigit_J170, wp_M_integerDigit_J320, wp_M_plainAffix, wp_M_special, wp_M_special_J180, wp_M_inNumber, wp_M_power, wp_M_behind, wp_M_inFraction, wp_M_inFraction_J140, wp_M_inFraction_J310, wp_M_inFraction_J790, clb0, clb1, cn1, cn2, cn3, cn4, cn5, cn6, cn7, cn8, inb0, inb1, in1, in2, in3, in4, in5, in6, in7, in8, q35 hc, q37 hc, q39 hc, q43 hc, q44 hc, q45 hc, q46 hc, q48 hc, q59 hc, q69 hc, ql48 hc, ql49 hc, qle57 hc, hQ]
theorem ms_9_k43 (hc : c ≤ 126) (hk : c = 43) {s k : Nat} (hs : s ≤ 1) (hsub : m_sub = nI s) (hkk : k < 40) (hdl : m_dl (2 * s + 1) = nI k) : ∀ Q, Q true (10, m_sub, m_q, m_now, m_first, upd m_da (40 * (2 * s + 1) + k) 43, upd m_dl (2 * s + 1) (nI (k + 1))) → wp_M_step 9 m_sub m_q m_now m_first m_da m_dl (nI c) Q := by
  intro Q hQ
  subst hk
  simp (decide := true) [wp_M_step, wp_M_step_J1920, wp_M_step_J2220, wp_M_integerDigit, wp_M_integerDigit_J170, wp_M_integerDigit_J320, wp_M_plainAffix, wp_M_special, wp_M_special_J180, wp_M_inNumber, wp_M_power, wp_M_behind, wp_M_inFraction, wp_M_inFraction_J140, wp_M_inFraction_J310, wp_M_inFraction_J790, clb0, clb1, cn1, cn2, cn3, cn4, cn5, cn6, cn7, cn8, inb0, inb1, in1, in2, in3, in4, in5, in6, in7, in8, q35 hc, q37 hc, q39 hc, q43 hc, q44 hc, q45 hc, q46 hc, q48 hc, q59 hc, q69 hc, ql48 hc, ql49 hc, qle57 hc]
  exact s_keep hs hsub (e := 1) (by omega) (by decide) hkk hdl _ hQ
theorem ms_9_k44 (hc : c ≤ 126) (hk : c = 44)  : ∀ Q, Q false (10, m_sub, m_q, m_now, m_first, m_da, m_dl) → wp_M_step 9 m_sub m_q m_now m_first m_da m_dl (nI c) Q := by
  intro Q hQ
  subst hk
  simp (decide := true) [wp_M_step, wp_M_step_J1920, wp_M_step_J2220, wp_M_integerDigit, wp_M_integerDigit_J170, wp_M_integerDigit_J320, wp_M_plainAffix, wp_M_special, wp_M_special_J180, wp_M_inNumber, wp_M_power, wp_M_behind, wp_M_inFraction, wp_M_inFraction_J140, wp_M_inFraction_J310, wp_M_inFraction_J790, clb0, clb1, cn1, cn2, cn3, cn4, cn5, cn6, cn7, cn8, inb0, inb1, in1, in2, in3, in4, in5, in6, in7, in8, q35 hc, q37 hc, q39 hc, q43 hc, q44 hc, q45 hc, q46 hc, q48 hc, q59 hc, q69 hc, ql48 hc, ql49 hc, qle57 hc, hQ]
theorem ms_9_k45 (hc : c ≤ 126) (hk : c = 45) {s k : Nat} (hs : s ≤ 1) (hsub : m_sub = nI s) (hkk : k < 40) (hdl : m_dl (2 * s + 1) = nI k) : ∀ Q, Q true (10, m_sub, m_q, m_now, m_first, upd m_da (40 * (2 * s + 1) + k) 200, upd m_dl (2 * s + 1) (nI (k + 1))) → wp_M_step 9 m_sub m_q m_now m_first m_da m_dl (nI c) Q := by
  intro Q hQ
  subst hk
  simp (decide := true) [wp_M_step, wp_M_step_J1920, wp_M_step_J2220, wp_M_integerDigit, wp_M_integerDigit_J170, wp_M_integerDigit_J320, wp_M_plainAffix, wp_M_special, wp_M_special_J180, wp_M_inNumber, wp_M_power, wp_M_behind, wp_M_inFraction, wp_M_inFraction_J140, wp_M_inFraction_J310, wp_M_inFraction_J790, clb0, clb1, cn1, cn2, cn3, cn4, cn5, cn6, cn7, cn8, inb0, inb1, in1, in2, in3, in4, in5, in6, in7, in8, q35 hc, q37 hc, q39 hc, q43 hc, q44 hc, q45 hc, q46 hc, q48 hc, q59 hc, q69 hc, ql48 hc, ql49 hc, qle57 hc]
  exact s_keep hs hsub (e := 1) (by omega) (by decide) hkk hdl _ hQ
theorem ms_9_k46 (hc : c ≤ 126) (hk : c = 46)  : ∀ Q, Q false (10, m_sub, m_q, m_now, m_first, m_da, m_dl) → wp_M_step 9 m_sub m_q m_now m_first m_da m_dl (nI c) Q := by
  intro Q hQ
  subst hk
  simp (decide := true) [wp_M_step, wp_M_step_J1920, wp_M_step_J2220, wp_M_integerDigit, wp_M_integerDigit_J170, wp_M_integerDigit_J320, wp_M_plainAffix, wp_M_special, wp_M_special_J180, wp_M_inNumber, wp_M_power, wp_M_behind, wp_M_inFraction, wp_M_inFraction_J140, wp_M_inFraction_J310, wp_M_inFraction_J790, clb0, clb1, cn1, cn2, cn3, cn4, cn5, cn6, cn7, cn8, inb0, inb1, in1, in2, in3, in4, in5, in6, in7, in8, q35 hc, q37 hc, q39 hc, q43 hc, q44 hc, q45 hc, q46 hc, q48 hc, q59 hc, q69 hc, ql48 hc, ql49 hc, qle57 hc, hQ]
theorem ms_9_k48 (hc : c ≤ 126) (hk : c = 48)  : ∀ Q, Q true (9, m_sub, m_q, upd m_now 4 (m_now 4 + 1), m_first, m_da, m_dl) → wp_M_step 9 m_sub m_q m_now m_first m_da m_dl (nI c) Q := by
  intro Q hQ
  subst hk
  simp (decide := true) [wp_M_step, wp_M_step_J1920, wp_M_step_J2220, wp_M_integerDigit, wp_M_integerDigit_J170, wp_M_integerDigit_J320, wp_M_plainAffix, wp_M_special, wp_M_special_J180, wp_M_inNumber, wp_M_power, wp_M_behind, wp_M_inFraction, wp_M_inFraction_J140, wp_M_inFraction_J310, wp_M_inFraction_J790, clb0, clb1, cn1, cn2, cn3, cn4, cn5, cn6, cn7, cn8, inb0, inb1, in1, in2, in3, in4, in5, in6, in7, in8, q35 hc, q37 hc, q39 hc, q43 hc, q44 hc, q45 hc, q46 hc, q48 hc, q59 hc, q69 hc, ql48 hc, ql49 hc, qle57 hc, hQ]
theorem ms_9_k59 (hc : c ≤ 126) (hk : c = 59) {r nw dl2 : Nat → Int32} (hcp : ∀ Q, Q r → wp_M_copy m_now m_first Q) (hbg : ∀ Q, Q (0, 1, nw, dl2) → wp_M_begin 9 m_sub m_now m_dl 1 Q) (hsb : m_sub = 0) : ∀ Q, Q true (0, 1, m_q, nw, r, m_da, dl2) → wp_M_step 9 m_sub m_q m_now m_first m_da m_dl (nI c) Q := by
  intro Q hQ
  subst hk
  subst hsb
  simp (decide := true) [wp_M_step, wp_M_step_J1920, wp_M_step_J2220, wp_M_integerDigit, wp_M_integerDigit_J170, wp_M_integerDigit_J320, wp_M_plainAffix, wp_M_special, wp_M_special_J180, wp_M_inNumber, wp_M_power, wp_M_behind, wp_M_inFraction, wp_M_inFraction_J140, wp_M_inFraction_J310, wp_M_inFraction_J790, clb0, clb1, cn1, cn2, cn3, cn4, cn5, cn6, cn7, cn8, inb0, inb1, in1, in2, in3, in4, in5, in6, in7, in8, q35 hc, q37 hc, q39 hc, q43 hc, q44 hc, q45 hc, q46 hc, q48 hc, q59 hc, q69 hc, ql48 hc, ql49 hc, qle57 hc]
  exact hcp _ (hbg _ hQ)
theorem ms_9_k59n (hc : c ≤ 126) (hk : c = 59) {r nw dl2 : Nat → Int32} (hcp : ∀ Q, Q r → wp_M_copy m_now m_first Q) (hbg : ∀ Q, Q (0, 1, nw, dl2) → wp_M_begin 9 m_sub m_now m_dl 1 Q) (hsb : ¬ m_sub = 0) : ∀ Q, Q false (0, 1, m_q, nw, r, m_da, dl2) → wp_M_step 9 m_sub m_q m_now m_first m_da m_dl (nI c) Q := by
  intro Q hQ
  subst hk
  simp (decide := true) [wp_M_step, wp_M_step_J1920, wp_M_step_J2220, wp_M_integerDigit, wp_M_integerDigit_J170, wp_M_integerDigit_J320, wp_M_plainAffix, wp_M_special, wp_M_special_J180, wp_M_inNumber, wp_M_power, wp_M_behind, wp_M_inFraction, wp_M_inFraction_J140, wp_M_inFraction_J310, wp_M_inFraction_J790, clb0, clb1, cn1, cn2, cn3, cn4, cn5, cn6, cn7, cn8, inb0, inb1, in1, in2, in3, in4, in5, in6, in7, in8, q35 hc, q37 hc, q39 hc, q43 hc, q44 hc, q45 hc, q46 hc, q48 hc, q59 hc, q69 hc, ql48 hc, ql49 hc, qle57 hc, hsb]
  exact hcp _ (hbg _ hQ)
theorem ms_9_k69 (hc : c ≤ 126) (hk : c = 69)  : ∀ Q, Q false (10, m_sub, m_q, m_now, m_first, m_da, m_dl) → wp_M_step 9 m_sub m_q m_now m_first m_da m_dl (nI c) Q := by
  intro Q hQ
  subst hk
  simp (decide := true) [wp_M_step, wp_M_step_J1920, wp_M_step_J2220, wp_M_integerDigit, wp_M_integerDigit_J170, wp_M_integerDigit_J320, wp_M_plainAffix, wp_M_special, wp_M_special_J180, wp_M_inNumber, wp_M_power, wp_M_behind, wp_M_inFraction, wp_M_inFraction_J140, wp_M_inFraction_J310, wp_M_inFraction_J790, clb0, clb1, cn1, cn2, cn3, cn4, cn5, cn6, cn7, cn8, inb0, inb1, in1, in2, in3, in4, in5, in6, in7, in8, q35 hc, q37 hc, q39 hc, q43 hc, q44 hc, q45 hc, q46 hc, q48 hc, q59 hc, q69 hc, ql48 hc, ql49 hc, qle57 hc, hQ]
theorem ms_9_kd (hc : c ≤ 126) (hk : 49 ≤ c ∧ c ≤ 57)  : ∀ Q, Q false (10, m_sub, m_q, m_now, m_first, m_da, m_dl) → wp_M_step 9 m_sub m_q m_now m_first m_da m_dl (nI c) Q := by
  intro Q hQ
  have n35 : ¬ c = 35 := by omega
  have n37 : ¬ c = 37 := by omega
  have n39 : ¬ c = 39 := by omega
  have n43 : ¬ c = 43 := by omega
  have n44 : ¬ c = 44 := by omega
  have n45 : ¬ c = 45 := by omega
  have n46 : ¬ c = 46 := by omega
  have n48 : ¬ c = 48 := by omega
  have n59 : ¬ c = 59 := by omega
  have n69 : ¬ c = 69 := by omega
  have d48 : ¬ c < 48 := by omega
  have d49 : ¬ c < 49 := by omega
  have d57 : c ≤ 57 := hk.2
  simp (decide := true) [wp_M_step, wp_M_step_J1920, wp_M_step_J2220, wp_M_integerDigit, wp_M_integerDigit_J170, wp_M_integerDigit_J320, wp_M_plainAffix, wp_M_special, wp_M_special_J180, wp_M_inNumber, wp_M_power, wp_M_behind, wp_M_inFraction, wp_M_inFraction_J140, wp_M_inFraction_J310, wp_M_inFraction_J790, clb0, clb1, cn1, cn2, cn3, cn4, cn5, cn6, cn7, cn8, inb0, inb1, in1, in2, in3, in4, in5, in6, in7, in8, q35 hc, q37 hc, q39 hc, q43 hc, q44 hc, q45 hc, q46 hc, q48 hc, q59 hc, q69 hc, ql48 hc, ql49 hc, qle57 hc, n35, n37, n39, n43, n44, n45, n46, n48, n59, n69, d48, d49, d57, hQ]
theorem ms_9_ko (hc : c ≤ 126) (hk : ¬ c = 35 ∧ ¬ c = 37 ∧ ¬ c = 39 ∧ ¬ c = 43 ∧ ¬ c = 44 ∧ ¬ c = 45 ∧ ¬ c = 46 ∧ ¬ c = 48 ∧ ¬ c = 59 ∧ ¬ c = 69 ∧ (c < 48 ∨ 57 < c)) {s k : Nat} (hs : s ≤ 1) (hsub : m_sub = nI s) (hkk : k < 40) (hdl : m_dl (2 * s + 1) = nI k) : ∀ Q, Q true (10, m_sub, m_q, m_now, m_first, upd m_da (40 * (2 * s + 1) + k) (nI c), upd m_dl (2 * s + 1) (nI (k + 1))) → wp_M_step 9 m_sub m_q m_now m_first m_da m_dl (nI c) Q := by
  intro Q hQ
  obtain ⟨n35, n37, n39, n43, n44, n45, n46, n48, n59, n69, hd⟩ := hk
  rcases hd with h1 | h1
  · simp (decide := true) [wp_M_step, wp_M_step_J1920, wp_M_step_J2220, wp_M_integerDigit, wp_M_integerDigit_J170, wp_M_integerDigit_J320, wp_M_plainAffix, wp_M_special, wp_M_special_J180, wp_M_inNumber, wp_M_power, wp_M_behind, wp_M_inFraction, wp_M_inFraction_J140, wp_M_inFraction_J310, wp_M_inFraction_J790, clb0, clb1, cn1, cn2, cn3, cn4, cn5, cn6, cn7, cn8, inb0, inb1, in1, in2, in3, in4, in5, in6, in7, in8, q35 hc, q37 hc, q39 hc, q43 hc, q44 hc, q45 hc, q46 hc, q48 hc, q59 hc, q69 hc, ql48 hc, ql49 hc, qle57 hc, n35, n37, n39, n43, n44, n45, n46, n48, n59, n69, h1]
    exact s_keep hs hsub (e := 1) (by omega) (by decide) hkk hdl _ hQ
  · have h2 : ¬ c < 48 := by omega
    have h3 : ¬ c ≤ 57 := by omega
    simp (decide := true) [wp_M_step, wp_M_step_J1920, wp_M_step_J2220, wp_M_integerDigit, wp_M_integerDigit_J170, wp_M_integerDigit_J320, wp_M_plainAffix, wp_M_special, wp_M_special_J180, wp_M_inNumber, wp_M_power, wp_M_behind, wp_M_inFraction, wp_M_inFraction_J140, wp_M_inFraction_J310, wp_M_inFraction_J790, clb0, clb1, cn1, cn2, cn3, cn4, cn5, cn6, cn7, cn8, inb0, inb1, in1, in2, in3, in4, in5, in6, in7, in8, q35 hc, q37 hc, q39 hc, q43 hc, q44 hc, q45 hc, q46 hc, q48 hc, q59 hc, q69 hc, ql48 hc, ql49 hc, qle57 hc, n35, n37, n39, n43, n44, n45, n46, n48, n59, n69, h2, h3]
    exact s_keep hs hsub (e := 1) (by omega) (by decide) hkk hdl _ hQ
theorem ms_10_k35 (hc : c ≤ 126) (hk : c = 35)  : ∀ Q, Q false (10, m_sub, m_q, m_now, m_first, m_da, m_dl) → wp_M_step 10 m_sub m_q m_now m_first m_da m_dl (nI c) Q := by
  intro Q hQ
  subst hk
  simp (decide := true) [wp_M_step, wp_M_step_J1920, wp_M_step_J2220, wp_M_integerDigit, wp_M_integerDigit_J170, wp_M_integerDigit_J320, wp_M_plainAffix, wp_M_special, wp_M_special_J180, wp_M_inNumber, wp_M_power, wp_M_behind, wp_M_inFraction, wp_M_inFraction_J140, wp_M_inFraction_J310, wp_M_inFraction_J790, clb0, clb1, cn1, cn2, cn3, cn4, cn5, cn6, cn7, cn8, inb0, inb1, in1, in2, in3, in4, in5, in6, in7, in8, q35 hc, q37 hc, q39 hc, q43 hc, q44 hc, q45 hc, q46 hc, q48 hc, q59 hc, q69 hc, ql48 hc, ql49 hc, qle57 hc, hQ]
theorem ms_10_k37 (hc : c ≤ 126) (hk : c = 37) {s k : Nat} (hs : s ≤ 1) (hsub : m_sub = nI s) (hkk : k < 40) (hdl : m_dl (2 * s + 1) = nI k) : ∀ Q, Q true (10, m_sub, m_q, m_now, m_first, upd m_da (40 * (2 * s + 1) + k) 201, upd m_dl (2 * s + 1) (nI (k + 1))) → wp_M_step 10 m_sub m_q m_now m_first m_da m_dl (nI c) Q := by
  intro Q hQ
  subst hk
  simp (decide := true) [wp_M_step, wp_M_step_J1920, wp_M_step_J2220, wp_M_integerDigit, wp_M_integerDigit_J170, wp_M_integerDigit_J320, wp_M_plainAffix, wp_M_special, wp_M_special_J180, wp_M_inNumber, wp_M_power, wp_M_behind, wp_M_inFraction, wp_M_inFraction_J140, wp_M_inFraction_J310, wp_M_inFraction_J790, clb0, clb1, cn1, cn2, cn3, cn4, cn5, cn6, cn7, cn8, inb0, inb1, in1, in2, in3, in4, in5, in6, in7, in8, q35 hc, q37 hc, q39 hc, q43 hc, q44 hc, q45 hc, q46 hc, q48 hc, q59 hc, q69 hc, ql48 hc, ql49 hc, qle57 hc]
  exact s_keep hs hsub (e := 1) (by omega) (by decide) hkk hdl _ hQ
theorem ms_10_k39 (hc : c ≤ 126) (hk : c = 39)  : ∀ Q, Q true (11, m_sub, 0, m_now, m_first, m_da, m_dl) → wp_M_step 10 m_sub m_q m_now m_first m_da m_dl (nI c) Q := by
  intro Q hQ
  subst hk
  simp (decide := true) [wp_M_step, wp_M_step_J1920, wp_M_step_J2220, wp_M_integerDigit, wp_M_integerDigit_J170, wp_M_integerDigit_J320, wp_M_plainAffix, wp_M_special, wp_M_special_J180, wp_M_inNumber, wp_M_power, wp_M_behind, wp_M_inFraction, wp_M_inFraction_J140, wp_M_inFraction_J310, wp_M_inFraction_J790, clb0, clb1, cn1, cn2, cn3, cn4, cn5, cn6, cn7, cn8, inb0, inb1, in1, in2, in3, in4, in5, in6, in7, in8, q35 hc, q37 hc, q39 hc, q43 hc, q44 hc, q45 hc, q46 hc, q48 hc, q59 hc, q69 hc, ql48 hc, ql49 hc, qle57 hc, hQ]
theorem ms_10_k43 (hc : c ≤ 126) (hk : c = 43) {s k : Nat} (hs : s ≤ 1) (hsub : m_sub = nI s) (hkk : k < 40) (hdl : m_dl (2 * s + 1) = nI k) : ∀ Q, Q true (10, m_sub, m_q, m_now, m_first, upd m_da (40 * (2 * s + 1) + k) 43, upd m_dl (2 * s + 1) (nI (k + 1))) → wp_M_step 10 m_sub m_q m_now m_first m_da m_dl (nI c) Q := by
  intro Q hQ
  subst hk
  simp (decide := true) [wp_M_step, wp_M_step_J1920, wp_M_step_J2220, wp_M_integerDigit, wp_M_integerDigit_J170, wp_M_integerDigit_J320, wp_M_plainAffix, wp_M_special, wp_M_special_J180, wp_M_inNumber, wp_M_power, wp_M_behind, wp_M_inFraction, wp_M_inFraction_J140, wp_M_inFraction_J310, wp_M_inFraction_J790, clb0, clb1, cn1, cn2, cn3, cn4, cn5, cn6, cn7, cn8, inb0, inb1, in1, in2, in3, in4, in5, in6, in7, in8, q35 hc, q37 hc, q39 hc, q43 hc, q44 hc, q45 hc, q46 hc, q48 hc, q59 hc, q69 hc, ql48 hc, ql49 hc, qle57 hc]
  exact s_keep hs hsub (e := 1) (by omega) (by decide) hkk hdl _ hQ
theorem ms_10_k44 (hc : c ≤ 126) (hk : c = 44)  : ∀ Q, Q false (10, m_sub, m_q, m_now, m_first, m_da, m_dl) → wp_M_step 10 m_sub m_q m_now m_first m_da m_dl (nI c) Q := by
  intro Q hQ
  subst hk
  simp (decide := true) [wp_M_step, wp_M_step_J1920, wp_M_step_J2220, wp_M_integerDigit, wp_M_integerDigit_J170, wp_M_integerDigit_J320, wp_M_plainAffix, wp_M_special, wp_M_special_J180, wp_M_inNumber, wp_M_power, wp_M_behind, wp_M_inFraction, wp_M_inFraction_J140, wp_M_inFraction_J310, wp_M_inFraction_J790, clb0, clb1, cn1, cn2, cn3, cn4, cn5, cn6, cn7, cn8, inb0, inb1, in1, in2, in3, in4, in5, in6, in7, in8, q35 hc, q37 hc, q39 hc, q43 hc, q44 hc, q45 hc, q46 hc, q48 hc, q59 hc, q69 hc, ql48 hc, ql49 hc, qle57 hc, hQ]
theorem ms_10_k45 (hc : c ≤ 126) (hk : c = 45) {s k : Nat} (hs : s ≤ 1) (hsub : m_sub = nI s) (hkk : k < 40) (hdl : m_dl (2 * s + 1) = nI k) : ∀ Q, Q true (10, m_sub, m_q, m_now, m_first, upd m_da (40 * (2 * s + 1) + k) 200, upd m_dl (2 * s + 1) (nI (k + 1))) → wp_M_step 10 m_sub m_q m_now m_first m_da m_dl (nI c) Q := by
  intro Q hQ
  subst hk
  simp (decide := true) [wp_M_step, wp_M_step_J1920, wp_M_step_J2220, wp_M_integerDigit, wp_M_integerDigit_J170, wp_M_integerDigit_J320, wp_M_plainAffix, wp_M_special, wp_M_special_J180, wp_M_inNumber, wp_M_power, wp_M_behind, wp_M_inFraction, wp_M_inFraction_J140, wp_M_inFraction_J310, wp_M_inFraction_J790, clb0, clb1, cn1, cn2, cn3, cn4, cn5, cn6, cn7, cn8, inb0, inb1, in1, in2, in3, in4, in5, in6, in7, in8, q35 hc, q37 hc, q39 hc, q43 hc, q44 hc, q45 hc, q46 hc, q48 hc, q59 hc, q69 hc, ql48 hc, ql49 hc, qle57 hc]
  exact s_keep hs hsub (e := 1) (by omega) (by decide) hkk hdl _ hQ
theorem ms_10_k46 (hc : c ≤ 126) (hk : c = 46)  : ∀ Q, Q false (10, m_sub, m_q, m_now, m_first, m_da, m_dl) → wp_M_step 10 m_sub m_q m_now m_first m_da m_dl (nI c) Q := by
  intro Q hQ
  subst hk
  simp (decide := true) [wp_M_step, wp_M_step_J1920, wp_M_step_J2220, wp_M_integerDigit, wp_M_integerDigit_J170, wp_M_integerDigit_J320, wp_M_plainAffix, wp_M_special, wp_M_special_J180, wp_M_inNumber, wp_M_power, wp_M_behind, wp_M_inFraction, wp_M_inFraction_J140, wp_M_inFraction_J310, wp_M_inFraction_J790, clb0, clb1, cn1, cn2, cn3, cn4, cn5, cn6, cn7, cn8, inb0, inb1, in1, in2, in3, in4, in5, in6, in7, in8, q35 hc, q37 hc, q39 hc, q43 hc, q44 hc, q45 hc, q46 hc, q48 hc, q59 hc, q69 hc, ql48 hc, ql49 hc, qle57 hc, hQ]
theorem ms_10_k48 (hc : c ≤ 126) (hk : c = 48)  : ∀ Q, Q false (10, m_sub, m_q, m_now, m_first, m_da, m_dl) → wp_M_step 10 m_sub m_q m_now m_first m_da m_dl (nI c) Q := by
  intro Q hQ
  subst hk
  simp (decide := true) [wp_M_step, wp_M_step_J1920, wp_M_step_J2220, wp_M_integerDigit, wp_M_integerDigit_J170, wp_M_integerDigit_J320, wp_M_plainAffix, wp_M_special, wp_M_special_J180, wp_M_inNumber, wp_M_power, wp_M_behind, wp_M_inFraction, wp_M_inFraction_J140, wp_M_inFraction_J310, wp_M_inFraction_J790, clb0, clb1, cn1, cn2, cn3, cn4, cn5, cn6, cn7, cn8, inb0, inb1, in1, in2, in3, in4, in5, in6, in7, in8, q35 hc, q37 hc, q39 hc, q43 hc, q44 hc, q45 hc, q46 hc, q48 hc, q59 hc, q69 hc, ql48 hc, ql49 hc, qle57 hc, hQ]
theorem ms_10_k59 (hc : c ≤ 126) (hk : c = 59) {r nw dl2 : Nat → Int32} (hcp : ∀ Q, Q r → wp_M_copy m_now m_first Q) (hbg : ∀ Q, Q (0, 1, nw, dl2) → wp_M_begin 10 m_sub m_now m_dl 1 Q) (hsb : m_sub = 0) : ∀ Q, Q true (0, 1, m_q, nw, r, m_da, dl2) → wp_M_step 10 m_sub m_q m_now m_first m_da m_dl (nI c) Q := by
  intro Q hQ
  subst hk
  subst hsb
  simp (decide := true) [wp_M_step, wp_M_step_J1920, wp_M_step_J2220, wp_M_integerDigit, wp_M_integerDigit_J170, wp_M_integerDigit_J320, wp_M_plainAffix, wp_M_special, wp_M_special_J180, wp_M_inNumber, wp_M_power, wp_M_behind, wp_M_inFraction, wp_M_inFraction_J140, wp_M_inFraction_J310, wp_M_inFraction_J790, clb0, clb1, cn1, cn2, cn3, cn4, cn5, cn6, cn7, cn8, inb0, inb1, in1, in2, in3, in4, in5, in6, in7, in8, q35 hc, q37 hc, q39 hc, q43 hc, q44 hc, q45 hc, q46 hc, q48 hc, q59 hc, q69 hc, ql48 hc, ql49 hc, qle57 hc]
  exact hcp _ (hbg _ hQ)
theorem ms_10_k59n (hc : c ≤ 126) (hk : c = 59) {r nw dl2 : Nat → Int32} (hcp : ∀ Q, Q r → wp_M_copy m_now m_first Q) (hbg : ∀ Q, Q (0, 1, nw, dl2) → wp_M_begin 10 m_sub m_now m_dl 1 Q) (hsb : ¬ m_sub = 0) : ∀ Q, Q false (0, 1, m_q, nw, r, m_da, dl2) → wp_M_step 10 m_sub m_q m_now m_first m_da m_dl (nI c) Q := by
  intro Q hQ
  subst hk
  simp (decide := true) [wp_M_step, wp_M_step_J1920, wp_M_step_J2220, wp_M_integerDigit, wp_M_integerDigit_J170, wp_M_integerDigit_J320, wp_M_plainAffix, wp_M_special, wp_M_special_J180, wp_M_inNumber, wp_M_power, wp_M_behind, wp_M_inFraction, wp_M_inFraction_J140, wp_M_inFraction_J310, wp_M_inFraction_J790, clb0, clb1, cn1, cn2, cn3, cn4, cn5, cn6, cn7, cn8, inb0, inb1, in1, in2, in3, in4, in5, in6, in7, in8, q35 hc, q37 hc, q39 hc, q43 hc, q44 hc, q45 hc, q46 hc, q48 hc, q59 hc, q69 hc, ql48 hc, ql49 hc, qle57 hc, hsb]
  exact hcp _ (hbg _ hQ)
theorem ms_10_k69 (hc : c ≤ 126) (hk : c = 69)  : ∀ Q, Q false (10, m_sub, m_q, m_now, m_first, m_da, m_dl) → wp_M_step 10 m_sub m_q m_now m_first m_da m_dl (nI c) Q := by
  intro Q hQ
  subst hk
  simp (decide := true) [wp_M_step, wp_M_step_J1920, wp_M_step_J2220, wp_M_integerDigit, wp_M_integerDigit_J170, wp_M_integerDigit_J320, wp_M_plainAffix, wp_M_special, wp_M_special_J180, wp_M_inNumber, wp_M_power, wp_M_behind, wp_M_inFraction, wp_M_inFraction_J140, wp_M_inFraction_J310, wp_M_inFraction_J790, clb0, clb1, cn1, cn2, cn3, cn4, cn5, cn6, cn7, cn8, inb0, inb1, in1, in2, in3, in4, in5, in6, in7, in8, q35 hc, q37 hc, q39 hc, q43 hc, q44 hc, q45 hc, q46 hc, q48 hc, q59 hc, q69 hc, ql48 hc, ql49 hc, qle57 hc, hQ]
theorem ms_10_kd (hc : c ≤ 126) (hk : 49 ≤ c ∧ c ≤ 57)  : ∀ Q, Q false (10, m_sub, m_q, m_now, m_first, m_da, m_dl) → wp_M_step 10 m_sub m_q m_now m_first m_da m_dl (nI c) Q := by
  intro Q hQ
  have n35 : ¬ c = 35 := by omega
  have n37 : ¬ c = 37 := by omega
  have n39 : ¬ c = 39 := by omega
  have n43 : ¬ c = 43 := by omega
  have n44 : ¬ c = 44 := by omega
  have n45 : ¬ c = 45 := by omega
  have n46 : ¬ c = 46 := by omega
  have n48 : ¬ c = 48 := by omega
  have n59 : ¬ c = 59 := by omega
  have n69 : ¬ c = 69 := by omega
  have d48 : ¬ c < 48 := by omega
  have d49 : ¬ c < 49 := by omega
  have d57 : c ≤ 57 := hk.2
  simp (decide := true) [wp_M_step, wp_M_step_J1920, wp_M_step_J2220, wp_M_integerDigit, wp_M_integerDigit_J170, wp_M_integerDigit_J320, wp_M_plainAffix, wp_M_special, wp_M_special_J180, wp_M_inNumber, wp_M_power, wp_M_behind, wp_M_inFraction, wp_M_inFraction_J140, wp_M_inFraction_J310, wp_M_inFraction_J790, clb0, clb1, cn1, cn2, cn3, cn4, cn5, cn6, cn7, cn8, inb0, inb1, in1, in2, in3, in4, in5, in6, in7, in8, q35 hc, q37 hc, q39 hc, q43 hc, q44 hc, q45 hc, q46 hc, q48 hc, q59 hc, q69 hc, ql48 hc, ql49 hc, qle57 hc, n35, n37, n39, n43, n44, n45, n46, n48, n59, n69, d48, d49, d57, hQ]
theorem ms_10_ko (hc : c ≤ 126) (hk : ¬ c = 35 ∧ ¬ c = 37 ∧ ¬ c = 39 ∧ ¬ c = 43 ∧ ¬ c = 44 ∧ ¬ c = 45 ∧ ¬ c = 46 ∧ ¬ c = 48 ∧ ¬ c = 59 ∧ ¬ c = 69 ∧ (c < 48 ∨ 57 < c)) {s k : Nat} (hs : s ≤ 1) (hsub : m_sub = nI s) (hkk : k < 40) (hdl : m_dl (2 * s + 1) = nI k) : ∀ Q, Q true (10, m_sub, m_q, m_now, m_first, upd m_da (40 * (2 * s + 1) + k) (nI c), upd m_dl (2 * s + 1) (nI (k + 1))) → wp_M_step 10 m_sub m_q m_now m_first m_da m_dl (nI c) Q := by
  intro Q hQ
  obtain ⟨n35, n37, n39, n43, n44, n45, n46, n48, n59, n69, hd⟩ := hk
  rcases hd with h1 | h1
  · simp (decide := true) [wp_M_step, wp_M_step_J1920, wp_M_step_J2220, wp_M_integerDigit, wp_M_integerDigit_J170, wp_M_integerDigit_J320, wp_M_plainAffix, wp_M_special, wp_M_special_J180, wp_M_inNumber, wp_M_power, wp_M_behind, wp_M_inFraction, wp_M_inFraction_J140, wp_M_inFraction_J310, wp_M_inFraction_J790, clb0, clb1, cn1, cn2, cn3, cn4, cn5, cn6, cn7, cn8, inb0, inb1, in1, in2, in3, in4, in5, in6, in7, in8, q35 hc, q37 hc, q39 hc, q43 hc, q44 hc, q45 hc, q46 hc, q48 hc, q59 hc, q69 hc, ql48 hc, ql49 hc, qle57 hc, n35, n37, n39, n43, n44, n45, n46, n48, n59, n69, h1]
    exact s_keep hs hsub (e := 1) (by omega) (by decide) hkk hdl _ hQ
  · have h2 : ¬ c < 48 := by omega
    have h3 : ¬ c ≤ 57 := by omega
    simp (decide := true) [wp_M_step, wp_M_step_J1920, wp_M_step_J2220, wp_M_integerDigit, wp_M_integerDigit_J170, wp_M_integerDigit_J320, wp_M_plainAffix, wp_M_special, wp_M_special_J180, wp_M_inNumber, wp_M_power, wp_M_behind, wp_M_inFraction, wp_M_inFraction_J140, wp_M_inFraction_J310, wp_M_inFraction_J790, clb0, clb1, cn1, cn2, cn3, cn4, cn5, cn6, cn7, cn8, inb0, inb1, in1, in2, in3, in4, in5, in6, in7, in8, q35 hc, q37 hc, q39 hc, q43 hc, q44 hc, q45 hc, q46 hc, q48 hc, q59 hc, q69 hc, ql48 hc, ql49 hc, qle57 hc, n35, n37, n39, n43, n44, n45, n46, n48, n59, n69, h2, h3]
    exact s_keep hs hsub (e := 1) (by omega) (by decide) hkk hdl _ hQ
end MS
