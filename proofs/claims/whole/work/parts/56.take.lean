/-! the class's taker of characters, a row a stage and kind (c: the code) -/
section TK
variable {sb mi : Nat} {qe pt_h pm x : Bool} {h z cm b t f q e pn sn : Int32} {pf sf : Nat → Int32} {c : Nat}
theorem tk_0_k35 (hc : c ≤ 126) (hk : c = 35) (hz : z ≤ 0) : ∀ Q, Q true (sb, 1, false, qe, pt_h, pm, h + 1, z, cm, b + 1, t, f, q, e, x, pn, pf, sn, sf) → wp_Mk_take sb mi 0 false qe pt_h pm h z cm b t f q e x pn pf sn sf (nI c) Q := by
  intro Q hQ
  subst hk
  simp (decide := true) [wp_Mk_take, wp_Mk_takeHash, wp_Mk_takeZero, wp_Mk_takeFractionZero, wp_Mk_takeComma, wp_Mk_takePoint, wp_Mk_takeE, wp_Mk_takeE_J210, wp_Mk_takeE_J160, wp_Mk_takeSemicolon, wp_Mk_numberEnded, wp_Mk_inInteger, wp_Mk_takePlus, wp_Mk_takeAffix, wp_Mk_beginSub, wp_Mk_takeAffix_J120, wp_Mk_enterAffix, wp_Mk_numberEnded, q35 hc, q37 hc, q39 hc, q43 hc, q44 hc, q45 hc, q46 hc, q48 hc, q59 hc, q69 hc, ql48 hc, ql49 hc, qle57 hc, hz, hQ]
theorem tk_0_k35n (hc : c ≤ 126) (hk : c = 35) (hz : ¬ z ≤ 0) : ∀ Q, Q false (sb, 0, false, qe, pt_h, pm, h, z, cm, b, t, f, q, e, x, pn, pf, sn, sf) → wp_Mk_take sb mi 0 false qe pt_h pm h z cm b t f q e x pn pf sn sf (nI c) Q := by
  intro Q hQ
  subst hk
  simp (decide := true) [wp_Mk_take, wp_Mk_takeHash, wp_Mk_takeZero, wp_Mk_takeFractionZero, wp_Mk_takeComma, wp_Mk_takePoint, wp_Mk_takeE, wp_Mk_takeE_J210, wp_Mk_takeE_J160, wp_Mk_takeSemicolon, wp_Mk_numberEnded, wp_Mk_inInteger, wp_Mk_takePlus, wp_Mk_takeAffix, wp_Mk_beginSub, wp_Mk_takeAffix_J120, wp_Mk_enterAffix, wp_Mk_numberEnded, q35 hc, q37 hc, q39 hc, q43 hc, q44 hc, q45 hc, q46 hc, q48 hc, q59 hc, q69 hc, ql48 hc, ql49 hc, qle57 hc, hz, hQ]
theorem tk_0_k37 (hc : c ≤ 126) (hk : c = 37) {k : Nat} (hkk : k < 40) (hpn : pn = nI k) : ∀ Q, Q true (sb, 0, false, qe, pt_h, true, h, z, cm, b, t, f, q, e, x, nI (k + 1), upd pf k 259, sn, sf) → wp_Mk_take sb mi 0 false qe pt_h pm h z cm b t f q e x pn pf sn sf (nI c) Q := by
  intro Q hQ
  subst hk
  simp (decide := true) [wp_Mk_take, wp_Mk_takeHash, wp_Mk_takeZero, wp_Mk_takeFractionZero, wp_Mk_takeComma, wp_Mk_takePoint, wp_Mk_takeE, wp_Mk_takeE_J210, wp_Mk_takeE_J160, wp_Mk_takeSemicolon, wp_Mk_numberEnded, wp_Mk_inInteger, wp_Mk_takePlus, wp_Mk_takeAffix, wp_Mk_beginSub, wp_Mk_takeAffix_J120, wp_Mk_enterAffix, wp_Mk_numberEnded, q35 hc, q37 hc, q39 hc, q43 hc, q44 hc, q45 hc, q46 hc, q48 hc, q59 hc, q69 hc, ql48 hc, ql49 hc, qle57 hc, hpn]
  exact s_add hkk (by omega) _ _ _ hQ
theorem tk_0_k39 (hc : c ≤ 126) (hk : c = 39)  : ∀ Q, Q true (sb, 0, true, true, pt_h, pm, h, z, cm, b, t, f, q, e, x, pn, pf, sn, sf) → wp_Mk_take sb mi 0 false qe pt_h pm h z cm b t f q e x pn pf sn sf (nI c) Q := by
  intro Q hQ
  subst hk
  simp (decide := true) [wp_Mk_take, wp_Mk_takeHash, wp_Mk_takeZero, wp_Mk_takeFractionZero, wp_Mk_takeComma, wp_Mk_takePoint, wp_Mk_takeE, wp_Mk_takeE_J210, wp_Mk_takeE_J160, wp_Mk_takeSemicolon, wp_Mk_numberEnded, wp_Mk_inInteger, wp_Mk_takePlus, wp_Mk_takeAffix, wp_Mk_beginSub, wp_Mk_takeAffix_J120, wp_Mk_enterAffix, wp_Mk_numberEnded, q35 hc, q37 hc, q39 hc, q43 hc, q44 hc, q45 hc, q46 hc, q48 hc, q59 hc, q69 hc, ql48 hc, ql49 hc, qle57 hc, hQ]
theorem tk_0_k43 (hc : c ≤ 126) (hk : c = 43) {k : Nat} (hkk : k < 40) (hpn : pn = nI k) : ∀ Q, Q true (sb, 0, false, qe, pt_h, pm, h, z, cm, b, t, f, q, e, x, nI (k + 1), upd pf k 43, sn, sf) → wp_Mk_take sb mi 0 false qe pt_h pm h z cm b t f q e x pn pf sn sf (nI c) Q := by
  intro Q hQ
  subst hk
  simp (decide := true) [wp_Mk_take, wp_Mk_takeHash, wp_Mk_takeZero, wp_Mk_takeFractionZero, wp_Mk_takeComma, wp_Mk_takePoint, wp_Mk_takeE, wp_Mk_takeE_J210, wp_Mk_takeE_J160, wp_Mk_takeSemicolon, wp_Mk_numberEnded, wp_Mk_inInteger, wp_Mk_takePlus, wp_Mk_takeAffix, wp_Mk_beginSub, wp_Mk_takeAffix_J120, wp_Mk_enterAffix, wp_Mk_numberEnded, q35 hc, q37 hc, q39 hc, q43 hc, q44 hc, q45 hc, q46 hc, q48 hc, q59 hc, q69 hc, ql48 hc, ql49 hc, qle57 hc, hpn]
  exact s_add hkk (by omega) _ _ _ hQ
theorem tk_0_k44 (hc : c ≤ 126) (hk : c = 44)  : ∀ Q, Q false (sb, 0, false, qe, pt_h, pm, h, z, cm, b, t, f, q, e, x, pn, pf, sn, sf) → wp_Mk_take sb mi 0 false qe pt_h pm h z cm b t f q e x pn pf sn sf (nI c) Q := by
  intro Q hQ
  subst hk
  simp (decide := true) [wp_Mk_take, wp_Mk_takeHash, wp_Mk_takeZero, wp_Mk_takeFractionZero, wp_Mk_takeComma, wp_Mk_takePoint, wp_Mk_takeE, wp_Mk_takeE_J210, wp_Mk_takeE_J160, wp_Mk_takeSemicolon, wp_Mk_numberEnded, wp_Mk_inInteger, wp_Mk_takePlus, wp_Mk_takeAffix, wp_Mk_beginSub, wp_Mk_takeAffix_J120, wp_Mk_enterAffix, wp_Mk_numberEnded, q35 hc, q37 hc, q39 hc, q43 hc, q44 hc, q45 hc, q46 hc, q48 hc, q59 hc, q69 hc, ql48 hc, ql49 hc, qle57 hc, hQ]
theorem tk_0_k45 (hc : c ≤ 126) (hk : c = 45) {k : Nat} (hkk : k < 40) (hpn : pn = nI k) : ∀ Q, Q true (sb, 0, false, qe, pt_h, pm, h, z, cm, b, t, f, q, e, x, nI (k + 1), upd pf k 258, sn, sf) → wp_Mk_take sb mi 0 false qe pt_h pm h z cm b t f q e x pn pf sn sf (nI c) Q := by
  intro Q hQ
  subst hk
  simp (decide := true) [wp_Mk_take, wp_Mk_takeHash, wp_Mk_takeZero, wp_Mk_takeFractionZero, wp_Mk_takeComma, wp_Mk_takePoint, wp_Mk_takeE, wp_Mk_takeE_J210, wp_Mk_takeE_J160, wp_Mk_takeSemicolon, wp_Mk_numberEnded, wp_Mk_inInteger, wp_Mk_takePlus, wp_Mk_takeAffix, wp_Mk_beginSub, wp_Mk_takeAffix_J120, wp_Mk_enterAffix, wp_Mk_numberEnded, q35 hc, q37 hc, q39 hc, q43 hc, q44 hc, q45 hc, q46 hc, q48 hc, q59 hc, q69 hc, ql48 hc, ql49 hc, qle57 hc, hpn]
  exact s_add hkk (by omega) _ _ _ hQ
theorem tk_0_k46 (hc : c ≤ 126) (hk : c = 46)  : ∀ Q, Q true (sb, 3, false, qe, pt_h, pm, h, z, cm, b, t, f, q, e, x, pn, pf, sn, sf) → wp_Mk_take sb mi 0 false qe pt_h pm h z cm b t f q e x pn pf sn sf (nI c) Q := by
  intro Q hQ
  subst hk
  simp (decide := true) [wp_Mk_take, wp_Mk_takeHash, wp_Mk_takeZero, wp_Mk_takeFractionZero, wp_Mk_takeComma, wp_Mk_takePoint, wp_Mk_takeE, wp_Mk_takeE_J210, wp_Mk_takeE_J160, wp_Mk_takeSemicolon, wp_Mk_numberEnded, wp_Mk_inInteger, wp_Mk_takePlus, wp_Mk_takeAffix, wp_Mk_beginSub, wp_Mk_takeAffix_J120, wp_Mk_enterAffix, wp_Mk_numberEnded, q35 hc, q37 hc, q39 hc, q43 hc, q44 hc, q45 hc, q46 hc, q48 hc, q59 hc, q69 hc, ql48 hc, ql49 hc, qle57 hc, hQ]
theorem tk_0_k48 (hc : c ≤ 126) (hk : c = 48)  : ∀ Q, Q true (sb, 1, false, qe, pt_h, pm, h, z + 1, cm, b + 1, t, f, q, e, x, pn, pf, sn, sf) → wp_Mk_take sb mi 0 false qe pt_h pm h z cm b t f q e x pn pf sn sf (nI c) Q := by
  intro Q hQ
  subst hk
  simp (decide := true) [wp_Mk_take, wp_Mk_takeHash, wp_Mk_takeZero, wp_Mk_takeFractionZero, wp_Mk_takeComma, wp_Mk_takePoint, wp_Mk_takeE, wp_Mk_takeE_J210, wp_Mk_takeE_J160, wp_Mk_takeSemicolon, wp_Mk_numberEnded, wp_Mk_inInteger, wp_Mk_takePlus, wp_Mk_takeAffix, wp_Mk_beginSub, wp_Mk_takeAffix_J120, wp_Mk_enterAffix, wp_Mk_numberEnded, q35 hc, q37 hc, q39 hc, q43 hc, q44 hc, q45 hc, q46 hc, q48 hc, q59 hc, q69 hc, ql48 hc, ql49 hc, qle57 hc, hQ]
theorem tk_0_k59 (hc : c ≤ 126) (hk : c = 59)  : ∀ Q, Q false (sb, 0, false, qe, pt_h, pm, h, z, cm, b, t, f, q, e, x, pn, pf, sn, sf) → wp_Mk_take sb mi 0 false qe pt_h pm h z cm b t f q e x pn pf sn sf (nI c) Q := by
  intro Q hQ
  subst hk
  simp (decide := true) [wp_Mk_take, wp_Mk_takeHash, wp_Mk_takeZero, wp_Mk_takeFractionZero, wp_Mk_takeComma, wp_Mk_takePoint, wp_Mk_takeE, wp_Mk_takeE_J210, wp_Mk_takeE_J160, wp_Mk_takeSemicolon, wp_Mk_numberEnded, wp_Mk_inInteger, wp_Mk_takePlus, wp_Mk_takeAffix, wp_Mk_beginSub, wp_Mk_takeAffix_J120, wp_Mk_enterAffix, wp_Mk_numberEnded, q35 hc, q37 hc, q39 hc, q43 hc, q44 hc, q45 hc, q46 hc, q48 hc, q59 hc, q69 hc, ql48 hc, ql49 hc, qle57 hc, hQ]
theorem tk_0_k69 (hc : c ≤ 126) (hk : c = 69)  : ∀ Q, Q false (sb, 0, false, qe, pt_h, pm, h, z, cm, b, t, f, q, e, x, pn, pf, sn, sf) → wp_Mk_take sb mi 0 false qe pt_h pm h z cm b t f q e x pn pf sn sf (nI c) Q := by
  intro Q hQ
  subst hk
  simp (decide := true) [wp_Mk_take, wp_Mk_takeHash, wp_Mk_takeZero, wp_Mk_takeFractionZero, wp_Mk_takeComma, wp_Mk_takePoint, wp_Mk_takeE, wp_Mk_takeE_J210, wp_Mk_takeE_J160, wp_Mk_takeSemicolon, wp_Mk_numberEnded, wp_Mk_inInteger, wp_Mk_takePlus, wp_Mk_takeAffix, wp_Mk_beginSub, wp_Mk_takeAffix_J120, wp_Mk_enterAffix, wp_Mk_numberEnded, q35 hc, q37 hc, q39 hc, q43 hc, q44 hc, q45 hc, q46 hc, q48 hc, q59 hc, q69 hc, ql48 hc, ql49 hc, qle57 hc, hQ]
theorem tk_0_kd (hc : c ≤ 126) (hk : 49 ≤ c ∧ c ≤ 57)  : ∀ Q, Q false (sb, 0, false, qe, pt_h, pm, h, z, cm, b, t, f, q, e, x, pn, pf, sn, sf) → wp_Mk_take sb mi 0 false qe pt_h pm h z cm b t f q e x pn pf sn sf (nI c) Q := by
  intro Q hQ
  have n35 : ¬ c = 35 := by omega
  have n37 : ¬ c = 37 := by omega
  have n39 : ¬ c = 39 := by omega
  have n43 : ¬ c = 43 := by omega
  have n44 : ¬ c = 44 := by omega
  have n45 : ¬ c = 45 := by omega
  have n46 : ¬ c = 46 := by omega
  have n48 : ¬ c = 48 := by omega
  have n59 : ¬ c = 59 := by omega
  have n69 : ¬ c = 69 := by omega
  have d48 : ¬ c < 48 := by omega
  have d49 : ¬ c < 49 := by omega
  have d57 : c ≤ 57 := hk.2
  simp (decide := true) [wp_Mk_take, wp_Mk_takeHash, wp_Mk_takeZero, wp_Mk_takeFractionZero, wp_Mk_takeComma, wp_Mk_takePoint, wp_Mk_takeE, wp_Mk_takeE_J210, wp_Mk_takeE_J160, wp_Mk_takeSemicolon, wp_Mk_numberEnded, wp_Mk_inInteger, wp_Mk_takePlus, wp_Mk_takeAffix, wp_Mk_beginSub, wp_Mk_takeAffix_J120, wp_Mk_enterAffix, wp_Mk_numberEnded, q35 hc, q37 hc, q39 hc, q43 hc, q44 hc, q45 hc, q46 hc, q48 hc, q59 hc, q69 hc, ql48 hc, ql49 hc, qle57 hc, n35, n37, n39, n43, n44, n45, n46, n48, n59, n69, d48, d49, d57, hQ]
theorem tk_0_ko (hc : c ≤ 126) (hk : ¬ c = 35 ∧ ¬ c = 37 ∧ ¬ c = 39 ∧ ¬ c = 43 ∧ ¬ c = 44 ∧ ¬ c = 45 ∧ ¬ c = 46 ∧ ¬ c = 48 ∧ ¬ c = 59 ∧ ¬ c = 69 ∧ (c < 48 ∨ 57 < c)) {k : Nat} (hkk : k < 40) (hpn : pn = nI k) : ∀ Q, Q true (sb, 0, false, qe, pt_h, pm, h, z, cm, b, t, f, q, e, x, nI (k + 1), upd pf k (nI c), sn, sf) → wp_Mk_take sb mi 0 false qe pt_h pm h z cm b t f q e x pn pf sn sf (nI c) Q := by
  intro Q hQ
  obtain ⟨n35, n37, n39, n43, n44, n45, n46, n48, n59, n69, hd⟩ := hk
  rcases (show c < 49 ∨ (¬ c < 49 ∧ ¬ c ≤ 57) by omega) with h1 | ⟨h1, h2⟩
  · simp (decide := true) [wp_Mk_take, wp_Mk_takeHash, wp_Mk_takeZero, wp_Mk_takeFractionZero, wp_Mk_takeComma, wp_Mk_takePoint, wp_Mk_takeE, wp_Mk_takeE_J210, wp_Mk_takeE_J160, wp_Mk_takeSemicolon, wp_Mk_numberEnded, wp_Mk_inInteger, wp_Mk_takePlus, wp_Mk_takeAffix, wp_Mk_beginSub, wp_Mk_takeAffix_J120, wp_Mk_enterAffix, wp_Mk_numberEnded, q35 hc, q37 hc, q39 hc, q43 hc, q44 hc, q45 hc, q46 hc, q48 hc, q59 hc, q69 hc, ql48 hc, ql49 hc, qle57 hc, n35, n37, n39, n43, n44, n45, n46, n48, n59, n69, hpn, h1]
    exact s_add hkk (by omega) _ _ _ hQ
  · simp (decide := true) [wp_Mk_take, wp_Mk_takeHash, wp_Mk_takeZero, wp_Mk_takeFractionZero, wp_Mk_takeComma, wp_Mk_takePoint, wp_Mk_takeE, wp_Mk_takeE_J210, wp_Mk_takeE_J160, wp_Mk_takeSemicolon, wp_Mk_numberEnded, wp_Mk_inInteger, wp_Mk_takePlus, wp_Mk_takeAffix, wp_Mk_beginSub, wp_Mk_takeAffix_J120, wp_Mk_enterAffix, wp_Mk_numberEnded, q35 hc, q37 hc, q39 hc, q43 hc, q44 hc, q45 hc, q46 hc, q48 hc, q59 hc, q69 hc, ql48 hc, ql49 hc, qle57 hc, n35, n37, n39, n43, n44, n45, n46, n48, n59, n69, hpn, h1, h2]
    exact s_add hkk (by omega) _ _ _ hQ
theorem tk_1_k35 (hc : c ≤ 126) (hk : c = 35) (hz : z ≤ 0) : ∀ Q, Q true (sb, 1, false, qe, pt_h, pm, h + 1, z, cm, b + 1, t, f, q, e, x, pn, pf, sn, sf) → wp_Mk_take sb mi 1 false qe pt_h pm h z cm b t f q e x pn pf sn sf (nI c) Q := by
  intro Q hQ
  subst hk
  simp (decide := true) [wp_Mk_take, wp_Mk_takeHash, wp_Mk_takeZero, wp_Mk_takeFractionZero, wp_Mk_takeComma, wp_Mk_takePoint, wp_Mk_takeE, wp_Mk_takeE_J210, wp_Mk_takeE_J160, wp_Mk_takeSemicolon, wp_Mk_numberEnded, wp_Mk_inInteger, wp_Mk_takePlus, wp_Mk_takeAffix, wp_Mk_beginSub, wp_Mk_takeAffix_J120, wp_Mk_enterAffix, wp_Mk_numberEnded, q35 hc, q37 hc, q39 hc, q43 hc, q44 hc, q45 hc, q46 hc, q48 hc, q59 hc, q69 hc, ql48 hc, ql49 hc, qle57 hc, hz, hQ]
theorem tk_1_k35n (hc : c ≤ 126) (hk : c = 35) (hz : ¬ z ≤ 0) : ∀ Q, Q false (sb, 1, false, qe, pt_h, pm, h, z, cm, b, t, f, q, e, x, pn, pf, sn, sf) → wp_Mk_take sb mi 1 false qe pt_h pm h z cm b t f q e x pn pf sn sf (nI c) Q := by
  intro Q hQ
  subst hk
  simp (decide := true) [wp_Mk_take, wp_Mk_takeHash, wp_Mk_takeZero, wp_Mk_takeFractionZero, wp_Mk_takeComma, wp_Mk_takePoint, wp_Mk_takeE, wp_Mk_takeE_J210, wp_Mk_takeE_J160, wp_Mk_takeSemicolon, wp_Mk_numberEnded, wp_Mk_inInteger, wp_Mk_takePlus, wp_Mk_takeAffix, wp_Mk_beginSub, wp_Mk_takeAffix_J120, wp_Mk_enterAffix, wp_Mk_numberEnded, q35 hc, q37 hc, q39 hc, q43 hc, q44 hc, q45 hc, q46 hc, q48 hc, q59 hc, q69 hc, ql48 hc, ql49 hc, qle57 hc, hz, hQ]
theorem tk_1_k37 (hc : c ≤ 126) (hk : c = 37) {k : Nat} (hkk : k < 40) (hsn : sn = nI k) : ∀ Q, Q true (sb, 8, false, qe, pt_h, true, h, z, cm, b, t, f, q, e, x, pn, pf, nI (k + 1), upd sf k 259) → wp_Mk_take sb mi 1 false qe pt_h pm h z cm b t f q e x pn pf sn sf (nI c) Q := by
  intro Q hQ
  subst hk
  simp (decide := true) [wp_Mk_take, wp_Mk_takeHash, wp_Mk_takeZero, wp_Mk_takeFractionZero, wp_Mk_takeComma, wp_Mk_takePoint, wp_Mk_takeE, wp_Mk_takeE_J210, wp_Mk_takeE_J160, wp_Mk_takeSemicolon, wp_Mk_numberEnded, wp_Mk_inInteger, wp_Mk_takePlus, wp_Mk_takeAffix, wp_Mk_beginSub, wp_Mk_takeAffix_J120, wp_Mk_enterAffix, wp_Mk_numberEnded, q35 hc, q37 hc, q39 hc, q43 hc, q44 hc, q45 hc, q46 hc, q48 hc, q59 hc, q69 hc, ql48 hc, ql49 hc, qle57 hc, hsn]
  exact s_add hkk (by omega) _ _ _ hQ
theorem tk_1_k39 (hc : c ≤ 126) (hk : c = 39)  : ∀ Q, Q true (sb, 8, true, true, pt_h, pm, h, z, cm, b, t, f, q, e, x, pn, pf, sn, sf) → wp_Mk_take sb mi 1 false qe pt_h pm h z cm b t f q e x pn pf sn sf (nI c) Q := by
  intro Q hQ
  subst hk
  simp (decide := true) [wp_Mk_take, wp_Mk_takeHash, wp_Mk_takeZero, wp_Mk_takeFractionZero, wp_Mk_takeComma, wp_Mk_takePoint, wp_Mk_takeE, wp_Mk_takeE_J210, wp_Mk_takeE_J160, wp_Mk_takeSemicolon, wp_Mk_numberEnded, wp_Mk_inInteger, wp_Mk_takePlus, wp_Mk_takeAffix, wp_Mk_beginSub, wp_Mk_takeAffix_J120, wp_Mk_enterAffix, wp_Mk_numberEnded, q35 hc, q37 hc, q39 hc, q43 hc, q44 hc, q45 hc, q46 hc, q48 hc, q59 hc, q69 hc, ql48 hc, ql49 hc, qle57 hc, hQ]
theorem tk_1_k43 (hc : c ≤ 126) (hk : c = 43) {k : Nat} (hkk : k < 40) (hsn : sn = nI k) : ∀ Q, Q true (sb, 8, false, qe, pt_h, pm, h, z, cm, b, t, f, q, e, x, pn, pf, nI (k + 1), upd sf k 43) → wp_Mk_take sb mi 1 false qe pt_h pm h z cm b t f q e x pn pf sn sf (nI c) Q := by
  intro Q hQ
  subst hk
  simp (decide := true) [wp_Mk_take, wp_Mk_takeHash, wp_Mk_takeZero, wp_Mk_takeFractionZero, wp_Mk_takeComma, wp_Mk_takePoint, wp_Mk_takeE, wp_Mk_takeE_J210, wp_Mk_takeE_J160, wp_Mk_takeSemicolon, wp_Mk_numberEnded, wp_Mk_inInteger, wp_Mk_takePlus, wp_Mk_takeAffix, wp_Mk_beginSub, wp_Mk_takeAffix_J120, wp_Mk_enterAffix, wp_Mk_numberEnded, q35 hc, q37 hc, q39 hc, q43 hc, q44 hc, q45 hc, q46 hc, q48 hc, q59 hc, q69 hc, ql48 hc, ql49 hc, qle57 hc, hsn]
  exact s_add hkk (by omega) _ _ _ hQ
theorem tk_1_k44 (hc : c ≤ 126) (hk : c = 44)  : ∀ Q, Q true (sb, 2, false, qe, pt_h, pm, h, z, cm + 1, 0, b, f, q, e, x, pn, pf, sn, sf) → wp_Mk_take sb mi 1 false qe pt_h pm h z cm b t f q e x pn pf sn sf (nI c) Q := by
  intro Q hQ
  subst hk
  simp (decide := true) [wp_Mk_take, wp_Mk_takeHash, wp_Mk_takeZero, wp_Mk_takeFractionZero, wp_Mk_takeComma, wp_Mk_takePoint, wp_Mk_takeE, wp_Mk_takeE_J210, wp_Mk_takeE_J160, wp_Mk_takeSemicolon, wp_Mk_numberEnded, wp_Mk_inInteger, wp_Mk_takePlus, wp_Mk_takeAffix, wp_Mk_beginSub, wp_Mk_takeAffix_J120, wp_Mk_enterAffix, wp_Mk_numberEnded, q35 hc, q37 hc, q39 hc, q43 hc, q44 hc, q45 hc, q46 hc, q48 hc, q59 hc, q69 hc, ql48 hc, ql49 hc, qle57 hc, hQ]
theorem tk_1_k45 (hc : c ≤ 126) (hk : c = 45) {k : Nat} (hkk : k < 40) (hsn : sn = nI k) : ∀ Q, Q true (sb, 8, false, qe, pt_h, pm, h, z, cm, b, t, f, q, e, x, pn, pf, nI (k + 1), upd sf k 258) → wp_Mk_take sb mi 1 false qe pt_h pm h z cm b t f q e x pn pf sn sf (nI c) Q := by
  intro Q hQ
  subst hk
  simp (decide := true) [wp_Mk_take, wp_Mk_takeHash, wp_Mk_takeZero, wp_Mk_takeFractionZero, wp_Mk_takeComma, wp_Mk_takePoint, wp_Mk_takeE, wp_Mk_takeE_J210, wp_Mk_takeE_J160, wp_Mk_takeSemicolon, wp_Mk_numberEnded, wp_Mk_inInteger, wp_Mk_takePlus, wp_Mk_takeAffix, wp_Mk_beginSub, wp_Mk_takeAffix_J120, wp_Mk_enterAffix, wp_Mk_numberEnded, q35 hc, q37 hc, q39 hc, q43 hc, q44 hc, q45 hc, q46 hc, q48 hc, q59 hc, q69 hc, ql48 hc, ql49 hc, qle57 hc, hsn]
  exact s_add hkk (by omega) _ _ _ hQ
theorem tk_1_k46 (hc : c ≤ 126) (hk : c = 46)  : ∀ Q, Q true (sb, 3, false, qe, pt_h, pm, h, z, cm, b, t, f, q, e, x, pn, pf, sn, sf) → wp_Mk_take sb mi 1 false qe pt_h pm h z cm b t f q e x pn pf sn sf (nI c) Q := by
  intro Q hQ
  subst hk
  simp (decide := true) [wp_Mk_take, wp_Mk_takeHash, wp_Mk_takeZero, wp_Mk_takeFractionZero, wp_Mk_takeComma, wp_Mk_takePoint, wp_Mk_takeE, wp_Mk_takeE_J210, wp_Mk_takeE_J160, wp_Mk_takeSemicolon, wp_Mk_numberEnded, wp_Mk_inInteger, wp_Mk_takePlus, wp_Mk_takeAffix, wp_Mk_beginSub, wp_Mk_takeAffix_J120, wp_Mk_enterAffix, wp_Mk_numberEnded, q35 hc, q37 hc, q39 hc, q43 hc, q44 hc, q45 hc, q46 hc, q48 hc, q59 hc, q69 hc, ql48 hc, ql49 hc, qle57 hc, hQ]
theorem tk_1_k48 (hc : c ≤ 126) (hk : c = 48)  : ∀ Q, Q true (sb, 1, false, qe, pt_h, pm, h, z + 1, cm, b + 1, t, f, q, e, x, pn, pf, sn, sf) → wp_Mk_take sb mi 1 false qe pt_h pm h z cm b t f q e x pn pf sn sf (nI c) Q := by
  intro Q hQ
  subst hk
  simp (decide := true) [wp_Mk_take, wp_Mk_takeHash, wp_Mk_takeZero, wp_Mk_takeFractionZero, wp_Mk_takeComma, wp_Mk_takePoint, wp_Mk_takeE, wp_Mk_takeE_J210, wp_Mk_takeE_J160, wp_Mk_takeSemicolon, wp_Mk_numberEnded, wp_Mk_inInteger, wp_Mk_takePlus, wp_Mk_takeAffix, wp_Mk_beginSub, wp_Mk_takeAffix_J120, wp_Mk_enterAffix, wp_Mk_numberEnded, q35 hc, q37 hc, q39 hc, q43 hc, q44 hc, q45 hc, q46 hc, q48 hc, q59 hc, q69 hc, ql48 hc, ql49 hc, qle57 hc, hQ]
theorem tk_1_k59 (hc : c ≤ 126) (hk : c = 59) (hp : pt_h = false) : ∀ Q, Q true (mi, 0, false, false, true, pm, h, z, cm, b, t, f, q, e, x, pn, pf, sn, sf) → wp_Mk_take sb mi 1 false qe pt_h pm h z cm b t f q e x pn pf sn sf (nI c) Q := by
  intro Q hQ
  subst hk
  subst hp
  simp (decide := true) [wp_Mk_take, wp_Mk_takeHash, wp_Mk_takeZero, wp_Mk_takeFractionZero, wp_Mk_takeComma, wp_Mk_takePoint, wp_Mk_takeE, wp_Mk_takeE_J210, wp_Mk_takeE_J160, wp_Mk_takeSemicolon, wp_Mk_numberEnded, wp_Mk_inInteger, wp_Mk_takePlus, wp_Mk_takeAffix, wp_Mk_beginSub, wp_Mk_takeAffix_J120, wp_Mk_enterAffix, wp_Mk_numberEnded, q35 hc, q37 hc, q39 hc, q43 hc, q44 hc, q45 hc, q46 hc, q48 hc, q59 hc, q69 hc, ql48 hc, ql49 hc, qle57 hc, hQ]
theorem tk_1_k59n (hc : c ≤ 126) (hk : c = 59) (hp : pt_h = true) : ∀ Q, Q false (sb, 1, false, qe, pt_h, pm, h, z, cm, b, t, f, q, e, x, pn, pf, sn, sf) → wp_Mk_take sb mi 1 false qe pt_h pm h z cm b t f q e x pn pf sn sf (nI c) Q := by
  intro Q hQ
  subst hk
  subst hp
  simp (decide := true) [wp_Mk_take, wp_Mk_takeHash, wp_Mk_takeZero, wp_Mk_takeFractionZero, wp_Mk_takeComma, wp_Mk_takePoint, wp_Mk_takeE, wp_Mk_takeE_J210, wp_Mk_takeE_J160, wp_Mk_takeSemicolon, wp_Mk_numberEnded, wp_Mk_inInteger, wp_Mk_takePlus, wp_Mk_takeAffix, wp_Mk_beginSub, wp_Mk_takeAffix_J120, wp_Mk_enterAffix, wp_Mk_numberEnded, q35 hc, q37 hc, q39 hc, q43 hc, q44 hc, q45 hc, q46 hc, q48 hc, q59 hc, q69 hc, ql48 hc, ql49 hc, qle57 hc, hQ]
theorem tk_1_k69 (hc : c ≤ 126) (hk : c = 69) (hz : ¬ z = 0) (hcm : cm ≤ 0) : ∀ Q, Q true (sb, 5, false, qe, pt_h, pm, h, z, cm, b, t, f, q, e, x, pn, pf, sn, sf) → wp_Mk_take sb mi 1 false qe pt_h pm h z cm b t f q e x pn pf sn sf (nI c) Q := by
  intro Q hQ
  subst hk
  simp (decide := true) [wp_Mk_take, wp_Mk_takeHash, wp_Mk_takeZero, wp_Mk_takeFractionZero, wp_Mk_takeComma, wp_Mk_takePoint, wp_Mk_takeE, wp_Mk_takeE_J210, wp_Mk_takeE_J160, wp_Mk_takeSemicolon, wp_Mk_numberEnded, wp_Mk_inInteger, wp_Mk_takePlus, wp_Mk_takeAffix, wp_Mk_beginSub, wp_Mk_takeAffix_J120, wp_Mk_enterAffix, wp_Mk_numberEnded, q35 hc, q37 hc, q39 hc, q43 hc, q44 hc, q45 hc, q46 hc, q48 hc, q59 hc, q69 hc, ql48 hc, ql49 hc, qle57 hc, hz, hcm, hQ]
theorem tk_1_k69n (hc : c ≤ 126) (hk : c = 69) (hz : z = 0) : ∀ Q, Q false (sb, 1, false, qe, pt_h, pm, h, z, cm, b, t, f, q, e, x, pn, pf, sn, sf) → wp_Mk_take sb mi 1 false qe pt_h pm h z cm b t f q e x pn pf sn sf (nI c) Q := by
  intro Q hQ
  subst hk
  subst hz
  simp (decide := true) [wp_Mk_take, wp_Mk_takeHash, wp_Mk_takeZero, wp_Mk_takeFractionZero, wp_Mk_takeComma, wp_Mk_takePoint, wp_Mk_takeE, wp_Mk_takeE_J210, wp_Mk_takeE_J160, wp_Mk_takeSemicolon, wp_Mk_numberEnded, wp_Mk_inInteger, wp_Mk_takePlus, wp_Mk_takeAffix, wp_Mk_beginSub, wp_Mk_takeAffix_J120, wp_Mk_enterAffix, wp_Mk_numberEnded, q35 hc, q37 hc, q39 hc, q43 hc, q44 hc, q45 hc, q46 hc, q48 hc, q59 hc, q69 hc, ql48 hc, ql49 hc, qle57 hc, hQ]
theorem tk_1_k69m (hc : c ≤ 126) (hk : c = 69) (hz : ¬ z = 0) (hcm : ¬ cm ≤ 0) : ∀ Q, Q false (sb, 1, false, qe, pt_h, pm, h, z, cm, b, t, f, q, e, x, pn, pf, sn, sf) → wp_Mk_take sb mi 1 false qe pt_h pm h z cm b t f q e x pn pf sn sf (nI c) Q := by
  intro Q hQ
  subst hk
  simp (decide := true) [wp_Mk_take, wp_Mk_takeHash, wp_Mk_takeZero, wp_Mk_takeFractionZero, wp_Mk_takeComma, wp_Mk_takePoint, wp_Mk_takeE, wp_Mk_takeE_J210, wp_Mk_takeE_J160, wp_Mk_takeSemicolon, wp_Mk_numberEnded, wp_Mk_inInteger, wp_Mk_takePlus, wp_Mk_takeAffix, wp_Mk_beginSub, wp_Mk_takeAffix_J120, wp_Mk_enterAffix, wp_Mk_numberEnded, q35 hc, q37 hc, q39 hc, q43 hc, q44 hc, q45 hc, q46 hc, q48 hc, q59 hc, q69 hc, ql48 hc, ql49 hc, qle57 hc, hz, hcm, hQ]
theorem tk_1_kd (hc : c ≤ 126) (hk : 49 ≤ c ∧ c ≤ 57)  : ∀ Q, Q false (sb, 1, false, qe, pt_h, pm, h, z, cm, b, t, f, q, e, x, pn, pf, sn, sf) → wp_Mk_take sb mi 1 false qe pt_h pm h z cm b t f q e x pn pf sn sf (nI c) Q := by
  intro Q hQ
  have n35 : ¬ c = 35 := by omega
  have n37 : ¬ c = 37 := by omega
  have n39 : ¬ c = 39 := by omega
  have n43 : ¬ c = 43 := by omega
  have n44 : ¬ c = 44 := by omega
  have n45 : ¬ c = 45 := by omega
  have n46 : ¬ c = 46 := by omega
  have n48 : ¬ c = 48 := by omega
  have n59 : ¬ c = 59 := by omega
  have n69 : ¬ c = 69 := by omega
  have d48 : ¬ c < 48 := by omega
  have d49 : ¬ c < 49 := by omega
  have d57 : c ≤ 57 := hk.2
  simp (decide := true) [wp_Mk_take, wp_Mk_takeHash, wp_Mk_takeZero, wp_Mk_takeFractionZero, wp_Mk_takeComma, wp_Mk_takePoint, wp_Mk_takeE, wp_Mk_takeE_J210, wp_Mk_takeE_J160, wp_Mk_takeSemicolon, wp_Mk_numberEnded, wp_Mk_inInteger, wp_Mk_takePlus, wp_Mk_takeAffix, wp_Mk_beginSub, wp_Mk_takeAffix_J120, wp_Mk_enterAffix, wp_Mk_numberEnded, q35 hc, q37 hc, q39 hc, q43 hc, q44 hc, q45 hc, q46 hc, q48 hc, q59 hc, q69 hc, ql48 hc, ql49 hc, qle57 hc, n35, n37, n39, n43, n44, n45, n46, n48, n59, n69, d48, d49, d57, hQ]
theorem tk_1_ko (hc : c ≤ 126) (hk : ¬ c = 35 ∧ ¬ c = 37 ∧ ¬ c = 39 ∧ ¬ c = 43 ∧ ¬ c = 44 ∧ ¬ c = 45 ∧ ¬ c = 46 ∧ ¬ c = 48 ∧ ¬ c = 59 ∧ ¬ c = 69 ∧ (c < 48 ∨ 57 < c)) {k : Nat} (hkk : k < 40) (hsn : sn = nI k) : ∀ Q, Q true (sb, 8, false, qe, pt_h, pm, h, z, cm, b, t, f, q, e, x, pn, pf, nI (k + 1), upd sf k (nI c)) → wp_Mk_take sb mi 1 false qe pt_h pm h z cm b t f q e x pn pf sn sf (nI c) Q := by
  intro Q hQ
  obtain ⟨n35, n37, n39, n43, n44, n45, n46, n48, n59, n69, hd⟩ := hk
  rcases (show c < 49 ∨ (¬ c < 49 ∧ ¬ c ≤ 57) by omega) with h1 | ⟨h1, h2⟩
  · simp (decide := true) [wp_Mk_take, wp_Mk_takeHash, wp_Mk_takeZero, wp_Mk_takeFractionZero, wp_Mk_takeComma, wp_Mk_takePoint, wp_Mk_takeE, wp_Mk_takeE_J210, wp_Mk_takeE_J160, wp_Mk_takeSemicolon, wp_Mk_numberEnded, wp_Mk_inInteger, wp_Mk_takePlus, wp_Mk_takeAffix, wp_Mk_beginSub, wp_Mk_takeAffix_J120, wp_Mk_enterAffix, wp_Mk_numberEnded, q35 hc, q37 hc, q39 hc, q43 hc, q44 hc, q45 hc, q46 hc, q48 hc, q59 hc, q69 hc, ql48 hc, ql49 hc, qle57 hc, n35, n37, n39, n43, n44, n45, n46, n48, n59, n69, hsn, h1]
    exact s_add hkk (by omega) _ _ _ hQ
  · simp (decide := true) [wp_Mk_take, wp_Mk_takeHash, wp_Mk_takeZero, wp_Mk_takeFractionZero, wp_Mk_takeComma, wp_Mk_takePoint, wp_Mk_takeE, wp_Mk_takeE_J210, wp_Mk_takeE_J160, wp_Mk_takeSemicolon, wp_Mk_numberEnded, wp_Mk_inInteger, wp_Mk_takePlus, wp_Mk_takeAffix, wp_Mk_beginSub, wp_Mk_takeAffix_J120, wp_Mk_enterAffix, wp_Mk_numberEnded, q35 hc, q37 hc, q39 hc, q43 hc, q44 hc, q45 hc, q46 hc, q48 hc, q59 hc, q69 hc, ql48 hc, ql49 hc, qle57 hc, n35, n37, n39, n43, n44, n45, n46, n48, n59, n69, hsn, h1, h2]
    exact s_add hkk (by omega) _ _ _ hQ
theorem tk_2_k35 (hc : c ≤ 126) (hk : c = 35) (hz : z ≤ 0) : ∀ Q, Q true (sb, 1, false, qe, pt_h, pm, h + 1, z, cm, b + 1, t, f, q, e, x, pn, pf, sn, sf) → wp_Mk_take sb mi 2 false qe pt_h pm h z cm b t f q e x pn pf sn sf (nI c) Q := by
  intro Q hQ
  subst hk
  simp (decide := true) [wp_Mk_take, wp_Mk_takeHash, wp_Mk_takeZero, wp_Mk_takeFractionZero, wp_Mk_takeComma, wp_Mk_takePoint, wp_Mk_takeE, wp_Mk_takeE_J210, wp_Mk_takeE_J160, wp_Mk_takeSemicolon, wp_Mk_numberEnded, wp_Mk_inInteger, wp_Mk_takePlus, wp_Mk_takeAffix, wp_Mk_beginSub, wp_Mk_takeAffix_J120, wp_Mk_enterAffix, wp_Mk_numberEnded, q35 hc, q37 hc, q39 hc, q43 hc, q44 hc, q45 hc, q46 hc, q48 hc, q59 hc, q69 hc, ql48 hc, ql49 hc, qle57 hc, hz, hQ]
theorem tk_2_k35n (hc : c ≤ 126) (hk : c = 35) (hz : ¬ z ≤ 0) : ∀ Q, Q false (sb, 2, false, qe, pt_h, pm, h, z, cm, b, t, f, q, e, x, pn, pf, sn, sf) → wp_Mk_take sb mi 2 false qe pt_h pm h z cm b t f q e x pn pf sn sf (nI c) Q := by
  intro Q hQ
  subst hk
  simp (decide := true) [wp_Mk_take, wp_Mk_takeHash, wp_Mk_takeZero, wp_Mk_takeFractionZero, wp_Mk_takeComma, wp_Mk_takePoint, wp_Mk_takeE, wp_Mk_takeE_J210, wp_Mk_takeE_J160, wp_Mk_takeSemicolon, wp_Mk_numberEnded, wp_Mk_inInteger, wp_Mk_takePlus, wp_Mk_takeAffix, wp_Mk_beginSub, wp_Mk_takeAffix_J120, wp_Mk_enterAffix, wp_Mk_numberEnded, q35 hc, q37 hc, q39 hc, q43 hc, q44 hc, q45 hc, q46 hc, q48 hc, q59 hc, q69 hc, ql48 hc, ql49 hc, qle57 hc, hz, hQ]
theorem tk_2_k37 (hc : c ≤ 126) (hk : c = 37)  : ∀ Q, Q false (sb, 2, false, qe, pt_h, pm, h, z, cm, b, t, f, q, e, x, pn, pf, sn, sf) → wp_Mk_take sb mi 2 false qe pt_h pm h z cm b t f q e x pn pf sn sf (nI c) Q := by
  intro Q hQ
  subst hk
  simp (decide := true) [wp_Mk_take, wp_Mk_takeHash, wp_Mk_takeZero, wp_Mk_takeFractionZero, wp_Mk_takeComma, wp_Mk_takePoint, wp_Mk_takeE, wp_Mk_takeE_J210, wp_Mk_takeE_J160, wp_Mk_takeSemicolon, wp_Mk_numberEnded, wp_Mk_inInteger, wp_Mk_takePlus, wp_Mk_takeAffix, wp_Mk_beginSub, wp_Mk_takeAffix_J120, wp_Mk_enterAffix, wp_Mk_numberEnded, q35 hc, q37 hc, q39 hc, q43 hc, q44 hc, q45 hc, q46 hc, q48 hc, q59 hc, q69 hc, ql48 hc, ql49 hc, qle57 hc, hQ]
theorem tk_2_k39 (hc : c ≤ 126) (hk : c = 39)  : ∀ Q, Q false (sb, 2, false, qe, pt_h, pm, h, z, cm, b, t, f, q, e, x, pn, pf, sn, sf) → wp_Mk_take sb mi 2 false qe pt_h pm h z cm b t f q e x pn pf sn sf (nI c) Q := by
  intro Q hQ
  subst hk
  simp (decide := true) [wp_Mk_take, wp_Mk_takeHash, wp_Mk_takeZero, wp_Mk_takeFractionZero, wp_Mk_takeComma, wp_Mk_takePoint, wp_Mk_takeE, wp_Mk_takeE_J210, wp_Mk_takeE_J160, wp_Mk_takeSemicolon, wp_Mk_numberEnded, wp_Mk_inInteger, wp_Mk_takePlus, wp_Mk_takeAffix, wp_Mk_beginSub, wp_Mk_takeAffix_J120, wp_Mk_enterAffix, wp_Mk_numberEnded, q35 hc, q37 hc, q39 hc, q43 hc, q44 hc, q45 hc, q46 hc, q48 hc, q59 hc, q69 hc, ql48 hc, ql49 hc, qle57 hc, hQ]
theorem tk_2_k43 (hc : c ≤ 126) (hk : c = 43)  : ∀ Q, Q false (sb, 2, false, qe, pt_h, pm, h, z, cm, b, t, f, q, e, x, pn, pf, sn, sf) → wp_Mk_take sb mi 2 false qe pt_h pm h z cm b t f q e x pn pf sn sf (nI c) Q := by
  intro Q hQ
  subst hk
  simp (decide := true) [wp_Mk_take, wp_Mk_takeHash, wp_Mk_takeZero, wp_Mk_takeFractionZero, wp_Mk_takeComma, wp_Mk_takePoint, wp_Mk_takeE, wp_Mk_takeE_J210, wp_Mk_takeE_J160, wp_Mk_takeSemicolon, wp_Mk_numberEnded, wp_Mk_inInteger, wp_Mk_takePlus, wp_Mk_takeAffix, wp_Mk_beginSub, wp_Mk_takeAffix_J120, wp_Mk_enterAffix, wp_Mk_numberEnded, q35 hc, q37 hc, q39 hc, q43 hc, q44 hc, q45 hc, q46 hc, q48 hc, q59 hc, q69 hc, ql48 hc, ql49 hc, qle57 hc, hQ]
theorem tk_2_k44 (hc : c ≤ 126) (hk : c = 44)  : ∀ Q, Q false (sb, 2, false, qe, pt_h, pm, h, z, cm, b, t, f, q, e, x, pn, pf, sn, sf) → wp_Mk_take sb mi 2 false qe pt_h pm h z cm b t f q e x pn pf sn sf (nI c) Q := by
  intro Q hQ
  subst hk
  simp (decide := true) [wp_Mk_take, wp_Mk_takeHash, wp_Mk_takeZero, wp_Mk_takeFractionZero, wp_Mk_takeComma, wp_Mk_takePoint, wp_Mk_takeE, wp_Mk_takeE_J210, wp_Mk_takeE_J160, wp_Mk_takeSemicolon, wp_Mk_numberEnded, wp_Mk_inInteger, wp_Mk_takePlus, wp_Mk_takeAffix, wp_Mk_beginSub, wp_Mk_takeAffix_J120, wp_Mk_enterAffix, wp_Mk_numberEnded, q35 hc, q37 hc, q39 hc, q43 hc, q44 hc, q45 hc, q46 hc, q48 hc, q59 hc, q69 hc, ql48 hc, ql49 hc, qle57 hc, hQ]
theorem tk_2_k45 (hc : c ≤ 126) (hk : c = 45)  : ∀ Q, Q false (sb, 2, false, qe, pt_h, pm, h, z, cm, b, t, f, q, e, x, pn, pf, sn, sf) → wp_Mk_take sb mi 2 false qe pt_h pm h z cm b t f q e x pn pf sn sf (nI c) Q := by
  intro Q hQ
  subst hk
  simp (decide := true) [wp_Mk_take, wp_Mk_takeHash, wp_Mk_takeZero, wp_Mk_takeFractionZero, wp_Mk_takeComma, wp_Mk_takePoint, wp_Mk_takeE, wp_Mk_takeE_J210, wp_Mk_takeE_J160, wp_Mk_takeSemicolon, wp_Mk_numberEnded, wp_Mk_inInteger, wp_Mk_takePlus, wp_Mk_takeAffix, wp_Mk_beginSub, wp_Mk_takeAffix_J120, wp_Mk_enterAffix, wp_Mk_numberEnded, q35 hc, q37 hc, q39 hc, q43 hc, q44 hc, q45 hc, q46 hc, q48 hc, q59 hc, q69 hc, ql48 hc, ql49 hc, qle57 hc, hQ]
theorem tk_2_k46 (hc : c ≤ 126) (hk : c = 46)  : ∀ Q, Q false (sb, 2, false, qe, pt_h, pm, h, z, cm, b, t, f, q, e, x, pn, pf, sn, sf) → wp_Mk_take sb mi 2 false qe pt_h pm h z cm b t f q e x pn pf sn sf (nI c) Q := by
  intro Q hQ
  subst hk
  simp (decide := true) [wp_Mk_take, wp_Mk_takeHash, wp_Mk_takeZero, wp_Mk_takeFractionZero, wp_Mk_takeComma, wp_Mk_takePoint, wp_Mk_takeE, wp_Mk_takeE_J210, wp_Mk_takeE_J160, wp_Mk_takeSemicolon, wp_Mk_numberEnded, wp_Mk_inInteger, wp_Mk_takePlus, wp_Mk_takeAffix, wp_Mk_beginSub, wp_Mk_takeAffix_J120, wp_Mk_enterAffix, wp_Mk_numberEnded, q35 hc, q37 hc, q39 hc, q43 hc, q44 hc, q45 hc, q46 hc, q48 hc, q59 hc, q69 hc, ql48 hc, ql49 hc, qle57 hc, hQ]
theorem tk_2_k48 (hc : c ≤ 126) (hk : c = 48)  : ∀ Q, Q true (sb, 1, false, qe, pt_h, pm, h, z + 1, cm, b + 1, t, f, q, e, x, pn, pf, sn, sf) → wp_Mk_take sb mi 2 false qe pt_h pm h z cm b t f q e x pn pf sn sf (nI c) Q := by
  intro Q hQ
  subst hk
  simp (decide := true) [wp_Mk_take, wp_Mk_takeHash, wp_Mk_takeZero, wp_Mk_takeFractionZero, wp_Mk_takeComma, wp_Mk_takePoint, wp_Mk_takeE, wp_Mk_takeE_J210, wp_Mk_takeE_J160, wp_Mk_takeSemicolon, wp_Mk_numberEnded, wp_Mk_inInteger, wp_Mk_takePlus, wp_Mk_takeAffix, wp_Mk_beginSub, wp_Mk_takeAffix_J120, wp_Mk_enterAffix, wp_Mk_numberEnded, q35 hc, q37 hc, q39 hc, q43 hc, q44 hc, q45 hc, q46 hc, q48 hc, q59 hc, q69 hc, ql48 hc, ql49 hc, qle57 hc, hQ]
theorem tk_2_k59 (hc : c ≤ 126) (hk : c = 59)  : ∀ Q, Q false (sb, 2, false, qe, pt_h, pm, h, z, cm, b, t, f, q, e, x, pn, pf, sn, sf) → wp_Mk_take sb mi 2 false qe pt_h pm h z cm b t f q e x pn pf sn sf (nI c) Q := by
  intro Q hQ
  subst hk
  simp (decide := true) [wp_Mk_take, wp_Mk_takeHash, wp_Mk_takeZero, wp_Mk_takeFractionZero, wp_Mk_takeComma, wp_Mk_takePoint, wp_Mk_takeE, wp_Mk_takeE_J210, wp_Mk_takeE_J160, wp_Mk_takeSemicolon, wp_Mk_numberEnded, wp_Mk_inInteger, wp_Mk_takePlus, wp_Mk_takeAffix, wp_Mk_beginSub, wp_Mk_takeAffix_J120, wp_Mk_enterAffix, wp_Mk_numberEnded, q35 hc, q37 hc, q39 hc, q43 hc, q44 hc, q45 hc, q46 hc, q48 hc, q59 hc, q69 hc, ql48 hc, ql49 hc, qle57 hc, hQ]
theorem tk_2_k69 (hc : c ≤ 126) (hk : c = 69)  : ∀ Q, Q false (sb, 2, false, qe, pt_h, pm, h, z, cm, b, t, f, q, e, x, pn, pf, sn, sf) → wp_Mk_take sb mi 2 false qe pt_h pm h z cm b t f q e x pn pf sn sf (nI c) Q := by
  intro Q hQ
  subst hk
  simp (decide := true) [wp_Mk_take, wp_Mk_takeHash, wp_Mk_takeZero, wp_Mk_takeFractionZero, wp_Mk_takeComma, wp_Mk_takePoint, wp_Mk_takeE, wp_Mk_takeE_J210, wp_Mk_takeE_J160, wp_Mk_takeSemicolon, wp_Mk_numberEnded, wp_Mk_inInteger, wp_Mk_takePlus, wp_Mk_takeAffix, wp_Mk_beginSub, wp_Mk_takeAffix_J120, wp_Mk_enterAffix, wp_Mk_numberEnded, q35 hc, q37 hc, q39 hc, q43 hc, q44 hc, q45 hc, q46 hc, q48 hc, q59 hc, q69 hc, ql48 hc, ql49 hc, qle57 hc, hQ]
theorem tk_2_kd (hc : c ≤ 126) (hk : 49 ≤ c ∧ c ≤ 57)  : ∀ Q, Q false (sb, 2, false, qe, pt_h, pm, h, z, cm, b, t, f, q, e, x, pn, pf, sn, sf) → wp_Mk_take sb mi 2 false qe pt_h pm h z cm b t f q e x pn pf sn sf (nI c) Q := by
  intro Q hQ
  have n35 : ¬ c = 35 := by omega
  have n37 : ¬ c = 37 := by omega
  have n39 : ¬ c = 39 := by omega
  have n43 : ¬ c = 43 := by omega
  have n44 : ¬ c = 44 := by omega
  have n45 : ¬ c = 45 := by omega
  have n46 : ¬ c = 46 := by omega
  have n48 : ¬ c = 48 := by omega
  have n59 : ¬ c = 59 := by omega
  have n69 : ¬ c = 69 := by omega
  have d48 : ¬ c < 48 := by omega
  have d49 : ¬ c < 49 := by omega
  have d57 : c ≤ 57 := hk.2
  simp (decide := true) [wp_Mk_take, wp_Mk_takeHash, wp_Mk_takeZero, wp_Mk_takeFractionZero, wp_Mk_takeComma, wp_Mk_takePoint, wp_Mk_takeE, wp_Mk_takeE_J210, wp_Mk_takeE_J160, wp_Mk_takeSemicolon, wp_Mk_numberEnded, wp_Mk_inInteger, wp_Mk_takePlus, wp_Mk_takeAffix, wp_Mk_beginSub, wp_Mk_takeAffix_J120, wp_Mk_enterAffix, wp_Mk_numberEnded, q35 hc, q37 hc, q39 hc, q43 hc, q44 hc, q45 hc, q46 hc, q48 hc, q59 hc, q69 hc, ql48 hc, ql49 hc, qle57 hc, n35, n37, n39, n43, n44, n45, n46, n48, n59, n69, d48, d49, d57, hQ]
theorem tk_2_ko (hc : c ≤ 126) (hk : ¬ c = 35 ∧ ¬ c = 37 ∧ ¬ c = 39 ∧ ¬ c = 43 ∧ ¬ c = 44 ∧ ¬ c = 45 ∧ ¬ c = 46 ∧ ¬ c = 48 ∧ ¬ c = 59 ∧ ¬ c = 69 ∧ (c < 48 ∨ 57 < c))  : ∀ Q, Q false (sb, 2, false, qe, pt_h, pm, h, z, cm, b, t, f, q, e, x, pn, pf, sn, sf) → wp_Mk_take sb mi 2 false qe pt_h pm h z cm b t f q e x pn pf sn sf (nI c) Q := by
  intro Q hQ
  obtain ⟨n35, n37, n39, n43, n44, n45, n46, n48, n59, n69, hd⟩ := hk
  rcases (show c < 49 ∨ (¬ c < 49 ∧ ¬ c ≤ 57) by omega) with h1 | ⟨h1, h2⟩
  · simp (decide := true) [wp_Mk_take, wp_Mk_takeHash, wp_Mk_takeZero, wp_Mk_takeFractionZero, wp_Mk_takeComma, wp_Mk_takePoint, wp_Mk_takeE, wp_Mk_takeE_J210, wp_Mk_takeE_J160, wp_Mk_takeSemicolon, wp_Mk_numberEnded, wp_Mk_inInteger, wp_Mk_takePlus, wp_Mk_takeAffix, wp_Mk_beginSub, wp_Mk_takeAffix_J120, wp_Mk_enterAffix, wp_Mk_numberEnded, q35 hc, q37 hc, q39 hc, q43 hc, q44 hc, q45 hc, q46 hc, q48 hc, q59 hc, q69 hc, ql48 hc, ql49 hc, qle57 hc, n35, n37, n39, n43, n44, n45, n46, n48, n59, n69, h1, hQ]
  · simp (decide := true) [wp_Mk_take, wp_Mk_takeHash, wp_Mk_takeZero, wp_Mk_takeFractionZero, wp_Mk_takeComma, wp_Mk_takePoint, wp_Mk_takeE, wp_Mk_takeE_J210, wp_Mk_takeE_J160, wp_Mk_takeSemicolon, wp_Mk_numberEnded, wp_Mk_inInteger, wp_Mk_takePlus, wp_Mk_takeAffix, wp_Mk_beginSub, wp_Mk_takeAffix_J120, wp_Mk_enterAffix, wp_Mk_numberEnded, q35 hc, q37 hc, q39 hc, q43 hc, q44 hc, q45 hc, q46 hc, q48 hc, q59 hc, q69 hc, ql48 hc, ql49 hc, qle57 hc, n35, n37, n39, n43, n44, n45, n46, n48, n59, n69, h1, h2, hQ]
theorem tk_3_k35 (hc : c ≤ 126) (hk : c = 35)  : ∀ Q, Q true (sb, 4, false, qe, pt_h, pm, h, z, cm, b, t, f + 1, q, e, x, pn, pf, sn, sf) → wp_Mk_take sb mi 3 false qe pt_h pm h z cm b t f q e x pn pf sn sf (nI c) Q := by
  intro Q hQ
  subst hk
  simp (decide := true) [wp_Mk_take, wp_Mk_takeHash, wp_Mk_takeZero, wp_Mk_takeFractionZero, wp_Mk_takeComma, wp_Mk_takePoint, wp_Mk_takeE, wp_Mk_takeE_J210, wp_Mk_takeE_J160, wp_Mk_takeSemicolon, wp_Mk_numberEnded, wp_Mk_inInteger, wp_Mk_takePlus, wp_Mk_takeAffix, wp_Mk_beginSub, wp_Mk_takeAffix_J120, wp_Mk_enterAffix, wp_Mk_numberEnded, q35 hc, q37 hc, q39 hc, q43 hc, q44 hc, q45 hc, q46 hc, q48 hc, q59 hc, q69 hc, ql48 hc, ql49 hc, qle57 hc, hQ]
theorem tk_3_k37 (hc : c ≤ 126) (hk : c = 37)  : ∀ Q, Q false (sb, 3, false, qe, pt_h, pm, h, z, cm, b, t, f, q, e, x, pn, pf, sn, sf) → wp_Mk_take sb mi 3 false qe pt_h pm h z cm b t f q e x pn pf sn sf (nI c) Q := by
  intro Q hQ
  subst hk
  simp (decide := true) [wp_Mk_take, wp_Mk_takeHash, wp_Mk_takeZero, wp_Mk_takeFractionZero, wp_Mk_takeComma, wp_Mk_takePoint, wp_Mk_takeE, wp_Mk_takeE_J210, wp_Mk_takeE_J160, wp_Mk_takeSemicolon, wp_Mk_numberEnded, wp_Mk_inInteger, wp_Mk_takePlus, wp_Mk_takeAffix, wp_Mk_beginSub, wp_Mk_takeAffix_J120, wp_Mk_enterAffix, wp_Mk_numberEnded, q35 hc, q37 hc, q39 hc, q43 hc, q44 hc, q45 hc, q46 hc, q48 hc, q59 hc, q69 hc, ql48 hc, ql49 hc, qle57 hc, hQ]
theorem tk_3_k39 (hc : c ≤ 126) (hk : c = 39)  : ∀ Q, Q false (sb, 3, false, qe, pt_h, pm, h, z, cm, b, t, f, q, e, x, pn, pf, sn, sf) → wp_Mk_take sb mi 3 false qe pt_h pm h z cm b t f q e x pn pf sn sf (nI c) Q := by
  intro Q hQ
  subst hk
  simp (decide := true) [wp_Mk_take, wp_Mk_takeHash, wp_Mk_takeZero, wp_Mk_takeFractionZero, wp_Mk_takeComma, wp_Mk_takePoint, wp_Mk_takeE, wp_Mk_takeE_J210, wp_Mk_takeE_J160, wp_Mk_takeSemicolon, wp_Mk_numberEnded, wp_Mk_inInteger, wp_Mk_takePlus, wp_Mk_takeAffix, wp_Mk_beginSub, wp_Mk_takeAffix_J120, wp_Mk_enterAffix, wp_Mk_numberEnded, q35 hc, q37 hc, q39 hc, q43 hc, q44 hc, q45 hc, q46 hc, q48 hc, q59 hc, q69 hc, ql48 hc, ql49 hc, qle57 hc, hQ]
theorem tk_3_k43 (hc : c ≤ 126) (hk : c = 43)  : ∀ Q, Q false (sb, 3, false, qe, pt_h, pm, h, z, cm, b, t, f, q, e, x, pn, pf, sn, sf) → wp_Mk_take sb mi 3 false qe pt_h pm h z cm b t f q e x pn pf sn sf (nI c) Q := by
  intro Q hQ
  subst hk
  simp (decide := true) [wp_Mk_take, wp_Mk_takeHash, wp_Mk_takeZero, wp_Mk_takeFractionZero, wp_Mk_takeComma, wp_Mk_takePoint, wp_Mk_takeE, wp_Mk_takeE_J210, wp_Mk_takeE_J160, wp_Mk_takeSemicolon, wp_Mk_numberEnded, wp_Mk_inInteger, wp_Mk_takePlus, wp_Mk_takeAffix, wp_Mk_beginSub, wp_Mk_takeAffix_J120, wp_Mk_enterAffix, wp_Mk_numberEnded, q35 hc, q37 hc, q39 hc, q43 hc, q44 hc, q45 hc, q46 hc, q48 hc, q59 hc, q69 hc, ql48 hc, ql49 hc, qle57 hc, hQ]
theorem tk_3_k44 (hc : c ≤ 126) (hk : c = 44)  : ∀ Q, Q false (sb, 3, false, qe, pt_h, pm, h, z, cm, b, t, f, q, e, x, pn, pf, sn, sf) → wp_Mk_take sb mi 3 false qe pt_h pm h z cm b t f q e x pn pf sn sf (nI c) Q := by
  intro Q hQ
  subst hk
  simp (decide := true) [wp_Mk_take, wp_Mk_takeHash, wp_Mk_takeZero, wp_Mk_takeFractionZero, wp_Mk_takeComma, wp_Mk_takePoint, wp_Mk_takeE, wp_Mk_takeE_J210, wp_Mk_takeE_J160, wp_Mk_takeSemicolon, wp_Mk_numberEnded, wp_Mk_inInteger, wp_Mk_takePlus, wp_Mk_takeAffix, wp_Mk_beginSub, wp_Mk_takeAffix_J120, wp_Mk_enterAffix, wp_Mk_numberEnded, q35 hc, q37 hc, q39 hc, q43 hc, q44 hc, q45 hc, q46 hc, q48 hc, q59 hc, q69 hc, ql48 hc, ql49 hc, qle57 hc, hQ]
theorem tk_3_k45 (hc : c ≤ 126) (hk : c = 45)  : ∀ Q, Q false (sb, 3, false, qe, pt_h, pm, h, z, cm, b, t, f, q, e, x, pn, pf, sn, sf) → wp_Mk_take sb mi 3 false qe pt_h pm h z cm b t f q e x pn pf sn sf (nI c) Q := by
  intro Q hQ
  subst hk
  simp (decide := true) [wp_Mk_take, wp_Mk_takeHash, wp_Mk_takeZero, wp_Mk_takeFractionZero, wp_Mk_takeComma, wp_Mk_takePoint, wp_Mk_takeE, wp_Mk_takeE_J210, wp_Mk_takeE_J160, wp_Mk_takeSemicolon, wp_Mk_numberEnded, wp_Mk_inInteger, wp_Mk_takePlus, wp_Mk_takeAffix, wp_Mk_beginSub, wp_Mk_takeAffix_J120, wp_Mk_enterAffix, wp_Mk_numberEnded, q35 hc, q37 hc, q39 hc, q43 hc, q44 hc, q45 hc, q46 hc, q48 hc, q59 hc, q69 hc, ql48 hc, ql49 hc, qle57 hc, hQ]
theorem tk_3_k46 (hc : c ≤ 126) (hk : c = 46)  : ∀ Q, Q false (sb, 3, false, qe, pt_h, pm, h, z, cm, b, t, f, q, e, x, pn, pf, sn, sf) → wp_Mk_take sb mi 3 false qe pt_h pm h z cm b t f q e x pn pf sn sf (nI c) Q := by
  intro Q hQ
  subst hk
  simp (decide := true) [wp_Mk_take, wp_Mk_takeHash, wp_Mk_takeZero, wp_Mk_takeFractionZero, wp_Mk_takeComma, wp_Mk_takePoint, wp_Mk_takeE, wp_Mk_takeE_J210, wp_Mk_takeE_J160, wp_Mk_takeSemicolon, wp_Mk_numberEnded, wp_Mk_inInteger, wp_Mk_takePlus, wp_Mk_takeAffix, wp_Mk_beginSub, wp_Mk_takeAffix_J120, wp_Mk_enterAffix, wp_Mk_numberEnded, q35 hc, q37 hc, q39 hc, q43 hc, q44 hc, q45 hc, q46 hc, q48 hc, q59 hc, q69 hc, ql48 hc, ql49 hc, qle57 hc, hQ]
theorem tk_3_k48 (hc : c ≤ 126) (hk : c = 48) (hz : f ≤ q) : ∀ Q, Q true (sb, 4, false, qe, pt_h, pm, h, z, cm, b, t, f + 1, q + 1, e, x, pn, pf, sn, sf) → wp_Mk_take sb mi 3 false qe pt_h pm h z cm b t f q e x pn pf sn sf (nI c) Q := by
  intro Q hQ
  subst hk
  simp (decide := true) [wp_Mk_take, wp_Mk_takeHash, wp_Mk_takeZero, wp_Mk_takeFractionZero, wp_Mk_takeComma, wp_Mk_takePoint, wp_Mk_takeE, wp_Mk_takeE_J210, wp_Mk_takeE_J160, wp_Mk_takeSemicolon, wp_Mk_numberEnded, wp_Mk_inInteger, wp_Mk_takePlus, wp_Mk_takeAffix, wp_Mk_beginSub, wp_Mk_takeAffix_J120, wp_Mk_enterAffix, wp_Mk_numberEnded, q35 hc, q37 hc, q39 hc, q43 hc, q44 hc, q45 hc, q46 hc, q48 hc, q59 hc, q69 hc, ql48 hc, ql49 hc, qle57 hc, hz, hQ]
theorem tk_3_k48n (hc : c ≤ 126) (hk : c = 48) (hz : ¬ f ≤ q) : ∀ Q, Q false (sb, 3, false, qe, pt_h, pm, h, z, cm, b, t, f, q, e, x, pn, pf, sn, sf) → wp_Mk_take sb mi 3 false qe pt_h pm h z cm b t f q e x pn pf sn sf (nI c) Q := by
  intro Q hQ
  subst hk
  simp (decide := true) [wp_Mk_take, wp_Mk_takeHash, wp_Mk_takeZero, wp_Mk_takeFractionZero, wp_Mk_takeComma, wp_Mk_takePoint, wp_Mk_takeE, wp_Mk_takeE_J210, wp_Mk_takeE_J160, wp_Mk_takeSemicolon, wp_Mk_numberEnded, wp_Mk_inInteger, wp_Mk_takePlus, wp_Mk_takeAffix, wp_Mk_beginSub, wp_Mk_takeAffix_J120, wp_Mk_enterAffix, wp_Mk_numberEnded, q35 hc, q37 hc, q39 hc, q43 hc, q44 hc, q45 hc, q46 hc, q48 hc, q59 hc, q69 hc, ql48 hc, ql49 hc, qle57 hc, hz, hQ]
theorem tk_3_k59 (hc : c ≤ 126) (hk : c = 59)  : ∀ Q, Q false (sb, 3, false, qe, pt_h, pm, h, z, cm, b, t, f, q, e, x, pn, pf, sn, sf) → wp_Mk_take sb mi 3 false qe pt_h pm h z cm b t f q e x pn pf sn sf (nI c) Q := by
  intro Q hQ
  subst hk
  simp (decide := true) [wp_Mk_take, wp_Mk_takeHash, wp_Mk_takeZero, wp_Mk_takeFractionZero, wp_Mk_takeComma, wp_Mk_takePoint, wp_Mk_takeE, wp_Mk_takeE_J210, wp_Mk_takeE_J160, wp_Mk_takeSemicolon, wp_Mk_numberEnded, wp_Mk_inInteger, wp_Mk_takePlus, wp_Mk_takeAffix, wp_Mk_beginSub, wp_Mk_takeAffix_J120, wp_Mk_enterAffix, wp_Mk_numberEnded, q35 hc, q37 hc, q39 hc, q43 hc, q44 hc, q45 hc, q46 hc, q48 hc, q59 hc, q69 hc, ql48 hc, ql49 hc, qle57 hc, hQ]
theorem tk_3_k69 (hc : c ≤ 126) (hk : c = 69)  : ∀ Q, Q false (sb, 3, false, qe, pt_h, pm, h, z, cm, b, t, f, q, e, x, pn, pf, sn, sf) → wp_Mk_take sb mi 3 false qe pt_h pm h z cm b t f q e x pn pf sn sf (nI c) Q := by
  intro Q hQ
  subst hk
  simp (decide := true) [wp_Mk_take, wp_Mk_takeHash, wp_Mk_takeZero, wp_Mk_takeFractionZero, wp_Mk_takeComma, wp_Mk_takePoint, wp_Mk_takeE, wp_Mk_takeE_J210, wp_Mk_takeE_J160, wp_Mk_takeSemicolon, wp_Mk_numberEnded, wp_Mk_inInteger, wp_Mk_takePlus, wp_Mk_takeAffix, wp_Mk_beginSub, wp_Mk_takeAffix_J120, wp_Mk_enterAffix, wp_Mk_numberEnded, q35 hc, q37 hc, q39 hc, q43 hc, q44 hc, q45 hc, q46 hc, q48 hc, q59 hc, q69 hc, ql48 hc, ql49 hc, qle57 hc, hQ]
theorem tk_3_kd (hc : c ≤ 126) (hk : 49 ≤ c ∧ c ≤ 57)  : ∀ Q, Q false (sb, 3, false, qe, pt_h, pm, h, z, cm, b, t, f, q, e, x, pn, pf, sn, sf) → wp_Mk_take sb mi 3 false qe pt_h pm h z cm b t f q e x pn pf sn sf (nI c) Q := by
  intro Q hQ
  have n35 : ¬ c = 35 := by omega
  have n37 : ¬ c = 37 := by omega
  have n39 : ¬ c = 39 := by omega
  have n43 : ¬ c = 43 := by omega
  have n44 : ¬ c = 44 := by omega
  have n45 : ¬ c = 45 := by omega
  have n46 : ¬ c = 46 := by omega
  have n48 : ¬ c = 48 := by omega
  have n59 : ¬ c = 59 := by omega
  have n69 : ¬ c = 69 := by omega
  have d48 : ¬ c < 48 := by omega
  have d49 : ¬ c < 49 := by omega
  have d57 : c ≤ 57 := hk.2
  simp (decide := true) [wp_Mk_take, wp_Mk_takeHash, wp_Mk_takeZero, wp_Mk_takeFractionZero, wp_Mk_takeComma, wp_Mk_takePoint, wp_Mk_takeE, wp_Mk_takeE_J210, wp_Mk_takeE_J160, wp_Mk_takeSemicolon, wp_Mk_numberEnded, wp_Mk_inInteger, wp_Mk_takePlus, wp_Mk_takeAffix, wp_Mk_beginSub, wp_Mk_takeAffix_J120, wp_Mk_enterAffix, wp_Mk_numberEnded, q35 hc, q37 hc, q39 hc, q43 hc, q44 hc, q45 hc, q46 hc, q48 hc, q59 hc, q69 hc, ql48 hc, ql49 hc, qle57 hc, n35, n37, n39, n43, n44, n45, n46, n48, n59, n69, d48, d49, d57, hQ]
theorem tk_3_ko (hc : c ≤ 126) (hk : ¬ c = 35 ∧ ¬ c = 37 ∧ ¬ c = 39 ∧ ¬ c = 43 ∧ ¬ c = 44 ∧ ¬ c = 45 ∧ ¬ c = 46 ∧ ¬ c = 48 ∧ ¬ c = 59 ∧ ¬ c = 69 ∧ (c < 48 ∨ 57 < c))  : ∀ Q, Q false (sb, 3, false, qe, pt_h, pm, h, z, cm, b, t, f, q, e, x, pn, pf, sn, sf) → wp_Mk_take sb mi 3 false qe pt_h pm h z cm b t f q e x pn pf sn sf (nI c) Q := by
  intro Q hQ
  obtain ⟨n35, n37, n39, n43, n44, n45, n46, n48, n59, n69, hd⟩ := hk
  rcases (show c < 49 ∨ (¬ c < 49 ∧ ¬ c ≤ 57) by omega) with h1 | ⟨h1, h2⟩
  · simp (decide := true) [wp_Mk_take, wp_Mk_takeHash, wp_Mk_takeZero, wp_Mk_takeFractionZero, wp_Mk_takeComma, wp_Mk_takePoint, wp_Mk_takeE, wp_Mk_takeE_J210, wp_Mk_takeE_J160, wp_Mk_takeSemicolon, wp_Mk_numberEnded, wp_Mk_inInteger, wp_Mk_takePlus, wp_Mk_takeAffix, wp_Mk_beginSub, wp_Mk_takeAffix_J120, wp_Mk_enterAffix, wp_Mk_numberEnded, q35 hc, q37 hc, q39 hc, q43 hc, q44 hc, q45 hc, q46 hc, q48 hc, q59 hc, q69 hc, ql48 hc, ql49 hc, qle57 hc, n35, n37, n39, n43, n44, n45, n46, n48, n59, n69, h1, hQ]
  · simp (decide := true) [wp_Mk_take, wp_Mk_takeHash, wp_Mk_takeZero, wp_Mk_takeFractionZero, wp_Mk_takeComma, wp_Mk_takePoint, wp_Mk_takeE, wp_Mk_takeE_J210, wp_Mk_takeE_J160, wp_Mk_takeSemicolon, wp_Mk_numberEnded, wp_Mk_inInteger, wp_Mk_takePlus, wp_Mk_takeAffix, wp_Mk_beginSub, wp_Mk_takeAffix_J120, wp_Mk_enterAffix, wp_Mk_numberEnded, q35 hc, q37 hc, q39 hc, q43 hc, q44 hc, q45 hc, q46 hc, q48 hc, q59 hc, q69 hc, ql48 hc, ql49 hc, qle57 hc, n35, n37, n39, n43, n44, n45, n46, n48, n59, n69, h1, h2, hQ]
theorem tk_4_k35 (hc : c ≤ 126) (hk : c = 35)  : ∀ Q, Q true (sb, 4, false, qe, pt_h, pm, h, z, cm, b, t, f + 1, q, e, x, pn, pf, sn, sf) → wp_Mk_take sb mi 4 false qe pt_h pm h z cm b t f q e x pn pf sn sf (nI c) Q := by
  intro Q hQ
  subst hk
  simp (decide := true) [wp_Mk_take, wp_Mk_takeHash, wp_Mk_takeZero, wp_Mk_takeFractionZero, wp_Mk_takeComma, wp_Mk_takePoint, wp_Mk_takeE, wp_Mk_takeE_J210, wp_Mk_takeE_J160, wp_Mk_takeSemicolon, wp_Mk_numberEnded, wp_Mk_inInteger, wp_Mk_takePlus, wp_Mk_takeAffix, wp_Mk_beginSub, wp_Mk_takeAffix_J120, wp_Mk_enterAffix, wp_Mk_numberEnded, q35 hc, q37 hc, q39 hc, q43 hc, q44 hc, q45 hc, q46 hc, q48 hc, q59 hc, q69 hc, ql48 hc, ql49 hc, qle57 hc, hQ]
theorem tk_4_k37 (hc : c ≤ 126) (hk : c = 37) {k : Nat} (hkk : k < 40) (hsn : sn = nI k) : ∀ Q, Q true (sb, 8, false, qe, pt_h, true, h, z, cm, b, t, f, q, e, x, pn, pf, nI (k + 1), upd sf k 259) → wp_Mk_take sb mi 4 false qe pt_h pm h z cm b t f q e x pn pf sn sf (nI c) Q := by
  intro Q hQ
  subst hk
  simp (decide := true) [wp_Mk_take, wp_Mk_takeHash, wp_Mk_takeZero, wp_Mk_takeFractionZero, wp_Mk_takeComma, wp_Mk_takePoint, wp_Mk_takeE, wp_Mk_takeE_J210, wp_Mk_takeE_J160, wp_Mk_takeSemicolon, wp_Mk_numberEnded, wp_Mk_inInteger, wp_Mk_takePlus, wp_Mk_takeAffix, wp_Mk_beginSub, wp_Mk_takeAffix_J120, wp_Mk_enterAffix, wp_Mk_numberEnded, q35 hc, q37 hc, q39 hc, q43 hc, q44 hc, q45 hc, q46 hc, q48 hc, q59 hc, q69 hc, ql48 hc, ql49 hc, qle57 hc, hsn]
  exact s_add hkk (by omega) _ _ _ hQ
theorem tk_4_k39 (hc : c ≤ 126) (hk : c = 39)  : ∀ Q, Q true (sb, 8, true, true, pt_h, pm, h, z, cm, b, t, f, q, e, x, pn, pf, sn, sf) → wp_Mk_take sb mi 4 false qe pt_h pm h z cm b t f q e x pn pf sn sf (nI c) Q := by
  intro Q hQ
  subst hk
  simp (decide := true) [wp_Mk_take, wp_Mk_takeHash, wp_Mk_takeZero, wp_Mk_takeFractionZero, wp_Mk_takeComma, wp_Mk_takePoint, wp_Mk_takeE, wp_Mk_takeE_J210, wp_Mk_takeE_J160, wp_Mk_takeSemicolon, wp_Mk_numberEnded, wp_Mk_inInteger, wp_Mk_takePlus, wp_Mk_takeAffix, wp_Mk_beginSub, wp_Mk_takeAffix_J120, wp_Mk_enterAffix, wp_Mk_numberEnded, q35 hc, q37 hc, q39 hc, q43 hc, q44 hc, q45 hc, q46 hc, q48 hc, q59 hc, q69 hc, ql48 hc, ql49 hc, qle57 hc, hQ]
theorem tk_4_k43 (hc : c ≤ 126) (hk : c = 43) {k : Nat} (hkk : k < 40) (hsn : sn = nI k) : ∀ Q, Q true (sb, 8, false, qe, pt_h, pm, h, z, cm, b, t, f, q, e, x, pn, pf, nI (k + 1), upd sf k 43) → wp_Mk_take sb mi 4 false qe pt_h pm h z cm b t f q e x pn pf sn sf (nI c) Q := by
  intro Q hQ
  subst hk
  simp (decide := true) [wp_Mk_take, wp_Mk_takeHash, wp_Mk_takeZero, wp_Mk_takeFractionZero, wp_Mk_takeComma, wp_Mk_takePoint, wp_Mk_takeE, wp_Mk_takeE_J210, wp_Mk_takeE_J160, wp_Mk_takeSemicolon, wp_Mk_numberEnded, wp_Mk_inInteger, wp_Mk_takePlus, wp_Mk_takeAffix, wp_Mk_beginSub, wp_Mk_takeAffix_J120, wp_Mk_enterAffix, wp_Mk_numberEnded, q35 hc, q37 hc, q39 hc, q43 hc, q44 hc, q45 hc, q46 hc, q48 hc, q59 hc, q69 hc, ql48 hc, ql49 hc, qle57 hc, hsn]
  exact s_add hkk (by omega) _ _ _ hQ
theorem tk_4_k44 (hc : c ≤ 126) (hk : c = 44)  : ∀ Q, Q false (sb, 4, false, qe, pt_h, pm, h, z, cm, b, t, f, q, e, x, pn, pf, sn, sf) → wp_Mk_take sb mi 4 false qe pt_h pm h z cm b t f q e x pn pf sn sf (nI c) Q := by
  intro Q hQ
  subst hk
  simp (decide := true) [wp_Mk_take, wp_Mk_takeHash, wp_Mk_takeZero, wp_Mk_takeFractionZero, wp_Mk_takeComma, wp_Mk_takePoint, wp_Mk_takeE, wp_Mk_takeE_J210, wp_Mk_takeE_J160, wp_Mk_takeSemicolon, wp_Mk_numberEnded, wp_Mk_inInteger, wp_Mk_takePlus, wp_Mk_takeAffix, wp_Mk_beginSub, wp_Mk_takeAffix_J120, wp_Mk_enterAffix, wp_Mk_numberEnded, q35 hc, q37 hc, q39 hc, q43 hc, q44 hc, q45 hc, q46 hc, q48 hc, q59 hc, q69 hc, ql48 hc, ql49 hc, qle57 hc, hQ]
theorem tk_4_k45 (hc : c ≤ 126) (hk : c = 45) {k : Nat} (hkk : k < 40) (hsn : sn = nI k) : ∀ Q, Q true (sb, 8, false, qe, pt_h, pm, h, z, cm, b, t, f, q, e, x, pn, pf, nI (k + 1), upd sf k 258) → wp_Mk_take sb mi 4 false qe pt_h pm h z cm b t f q e x pn pf sn sf (nI c) Q := by
  intro Q hQ
  subst hk
  simp (decide := true) [wp_Mk_take, wp_Mk_takeHash, wp_Mk_takeZero, wp_Mk_takeFractionZero, wp_Mk_takeComma, wp_Mk_takePoint, wp_Mk_takeE, wp_Mk_takeE_J210, wp_Mk_takeE_J160, wp_Mk_takeSemicolon, wp_Mk_numberEnded, wp_Mk_inInteger, wp_Mk_takePlus, wp_Mk_takeAffix, wp_Mk_beginSub, wp_Mk_takeAffix_J120, wp_Mk_enterAffix, wp_Mk_numberEnded, q35 hc, q37 hc, q39 hc, q43 hc, q44 hc, q45 hc, q46 hc, q48 hc, q59 hc, q69 hc, ql48 hc, ql49 hc, qle57 hc, hsn]
  exact s_add hkk (by omega) _ _ _ hQ
theorem tk_4_k46 (hc : c ≤ 126) (hk : c = 46)  : ∀ Q, Q false (sb, 4, false, qe, pt_h, pm, h, z, cm, b, t, f, q, e, x, pn, pf, sn, sf) → wp_Mk_take sb mi 4 false qe pt_h pm h z cm b t f q e x pn pf sn sf (nI c) Q := by
  intro Q hQ
  subst hk
  simp (decide := true) [wp_Mk_take, wp_Mk_takeHash, wp_Mk_takeZero, wp_Mk_takeFractionZero, wp_Mk_takeComma, wp_Mk_takePoint, wp_Mk_takeE, wp_Mk_takeE_J210, wp_Mk_takeE_J160, wp_Mk_takeSemicolon, wp_Mk_numberEnded, wp_Mk_inInteger, wp_Mk_takePlus, wp_Mk_takeAffix, wp_Mk_beginSub, wp_Mk_takeAffix_J120, wp_Mk_enterAffix, wp_Mk_numberEnded, q35 hc, q37 hc, q39 hc, q43 hc, q44 hc, q45 hc, q46 hc, q48 hc, q59 hc, q69 hc, ql48 hc, ql49 hc, qle57 hc, hQ]
theorem tk_4_k48 (hc : c ≤ 126) (hk : c = 48) (hz : f ≤ q) : ∀ Q, Q true (sb, 4, false, qe, pt_h, pm, h, z, cm, b, t, f + 1, q + 1, e, x, pn, pf, sn, sf) → wp_Mk_take sb mi 4 false qe pt_h pm h z cm b t f q e x pn pf sn sf (nI c) Q := by
  intro Q hQ
  subst hk
  simp (decide := true) [wp_Mk_take, wp_Mk_takeHash, wp_Mk_takeZero, wp_Mk_takeFractionZero, wp_Mk_takeComma, wp_Mk_takePoint, wp_Mk_takeE, wp_Mk_takeE_J210, wp_Mk_takeE_J160, wp_Mk_takeSemicolon, wp_Mk_numberEnded, wp_Mk_inInteger, wp_Mk_takePlus, wp_Mk_takeAffix, wp_Mk_beginSub, wp_Mk_takeAffix_J120, wp_Mk_enterAffix, wp_Mk_numberEnded, q35 hc, q37 hc, q39 hc, q43 hc, q44 hc, q45 hc, q46 hc, q48 hc, q59 hc, q69 hc, ql48 hc, ql49 hc, qle57 hc, hz, hQ]
theorem tk_4_k48n (hc : c ≤ 126) (hk : c = 48) (hz : ¬ f ≤ q) : ∀ Q, Q false (sb, 4, false, qe, pt_h, pm, h, z, cm, b, t, f, q, e, x, pn, pf, sn, sf) → wp_Mk_take sb mi 4 false qe pt_h pm h z cm b t f q e x pn pf sn sf (nI c) Q := by
  intro Q hQ
  subst hk
  simp (decide := true) [wp_Mk_take, wp_Mk_takeHash, wp_Mk_takeZero, wp_Mk_takeFractionZero, wp_Mk_takeComma, wp_Mk_takePoint, wp_Mk_takeE, wp_Mk_takeE_J210, wp_Mk_takeE_J160, wp_Mk_takeSemicolon, wp_Mk_numberEnded, wp_Mk_inInteger, wp_Mk_takePlus, wp_Mk_takeAffix, wp_Mk_beginSub, wp_Mk_takeAffix_J120, wp_Mk_enterAffix, wp_Mk_numberEnded, q35 hc, q37 hc, q39 hc, q43 hc, q44 hc, q45 hc, q46 hc, q48 hc, q59 hc, q69 hc, ql48 hc, ql49 hc, qle57 hc, hz, hQ]
theorem tk_4_k59 (hc : c ≤ 126) (hk : c = 59) (hp : pt_h = false) : ∀ Q, Q true (mi, 0, false, false, true, pm, h, z, cm, b, t, f, q, e, x, pn, pf, sn, sf) → wp_Mk_take sb mi 4 false qe pt_h pm h z cm b t f q e x pn pf sn sf (nI c) Q := by
  intro Q hQ
  subst hk
  subst hp
  simp (decide := true) [wp_Mk_take, wp_Mk_takeHash, wp_Mk_takeZero, wp_Mk_takeFractionZero, wp_Mk_takeComma, wp_Mk_takePoint, wp_Mk_takeE, wp_Mk_takeE_J210, wp_Mk_takeE_J160, wp_Mk_takeSemicolon, wp_Mk_numberEnded, wp_Mk_inInteger, wp_Mk_takePlus, wp_Mk_takeAffix, wp_Mk_beginSub, wp_Mk_takeAffix_J120, wp_Mk_enterAffix, wp_Mk_numberEnded, q35 hc, q37 hc, q39 hc, q43 hc, q44 hc, q45 hc, q46 hc, q48 hc, q59 hc, q69 hc, ql48 hc, ql49 hc, qle57 hc, hQ]
theorem tk_4_k59n (hc : c ≤ 126) (hk : c = 59) (hp : pt_h = true) : ∀ Q, Q false (sb, 4, false, qe, pt_h, pm, h, z, cm, b, t, f, q, e, x, pn, pf, sn, sf) → wp_Mk_take sb mi 4 false qe pt_h pm h z cm b t f q e x pn pf sn sf (nI c) Q := by
  intro Q hQ
  subst hk
  subst hp
  simp (decide := true) [wp_Mk_take, wp_Mk_takeHash, wp_Mk_takeZero, wp_Mk_takeFractionZero, wp_Mk_takeComma, wp_Mk_takePoint, wp_Mk_takeE, wp_Mk_takeE_J210, wp_Mk_takeE_J160, wp_Mk_takeSemicolon, wp_Mk_numberEnded, wp_Mk_inInteger, wp_Mk_takePlus, wp_Mk_takeAffix, wp_Mk_beginSub, wp_Mk_takeAffix_J120, wp_Mk_enterAffix, wp_Mk_numberEnded, q35 hc, q37 hc, q39 hc, q43 hc, q44 hc, q45 hc, q46 hc, q48 hc, q59 hc, q69 hc, ql48 hc, ql49 hc, qle57 hc, hQ]
theorem tk_4_k69 (hc : c ≤ 126) (hk : c = 69) (hz : ¬ z = 0) (hcm : cm ≤ 0) : ∀ Q, Q true (sb, 5, false, qe, pt_h, pm, h, z, cm, b, t, f, q, e, x, pn, pf, sn, sf) → wp_Mk_take sb mi 4 false qe pt_h pm h z cm b t f q e x pn pf sn sf (nI c) Q := by
  intro Q hQ
  subst hk
  simp (decide := true) [wp_Mk_take, wp_Mk_takeHash, wp_Mk_takeZero, wp_Mk_takeFractionZero, wp_Mk_takeComma, wp_Mk_takePoint, wp_Mk_takeE, wp_Mk_takeE_J210, wp_Mk_takeE_J160, wp_Mk_takeSemicolon, wp_Mk_numberEnded, wp_Mk_inInteger, wp_Mk_takePlus, wp_Mk_takeAffix, wp_Mk_beginSub, wp_Mk_takeAffix_J120, wp_Mk_enterAffix, wp_Mk_numberEnded, q35 hc, q37 hc, q39 hc, q43 hc, q44 hc, q45 hc, q46 hc, q48 hc, q59 hc, q69 hc, ql48 hc, ql49 hc, qle57 hc, hz, hcm, hQ]
theorem tk_4_k69n (hc : c ≤ 126) (hk : c = 69) (hz : z = 0) : ∀ Q, Q false (sb, 4, false, qe, pt_h, pm, h, z, cm, b, t, f, q, e, x, pn, pf, sn, sf) → wp_Mk_take sb mi 4 false qe pt_h pm h z cm b t f q e x pn pf sn sf (nI c) Q := by
  intro Q hQ
  subst hk
  subst hz
  simp (decide := true) [wp_Mk_take, wp_Mk_takeHash, wp_Mk_takeZero, wp_Mk_takeFractionZero, wp_Mk_takeComma, wp_Mk_takePoint, wp_Mk_takeE, wp_Mk_takeE_J210, wp_Mk_takeE_J160, wp_Mk_takeSemicolon, wp_Mk_numberEnded, wp_Mk_inInteger, wp_Mk_takePlus, wp_Mk_takeAffix, wp_Mk_beginSub, wp_Mk_takeAffix_J120, wp_Mk_enterAffix, wp_Mk_numberEnded, q35 hc, q37 hc, q39 hc, q43 hc, q44 hc, q45 hc, q46 hc, q48 hc, q59 hc, q69 hc, ql48 hc, ql49 hc, qle57 hc, hQ]
theorem tk_4_k69m (hc : c ≤ 126) (hk : c = 69) (hz : ¬ z = 0) (hcm : ¬ cm ≤ 0) : ∀ Q, Q false (sb, 4, false, qe, pt_h, pm, h, z, cm, b, t, f, q, e, x, pn, pf, sn, sf) → wp_Mk_take sb mi 4 false qe pt_h pm h z cm b t f q e x pn pf sn sf (nI c) Q := by
  intro Q hQ
  subst hk
  simp (decide := true) [wp_Mk_take, wp_Mk_takeHash, wp_Mk_takeZero, wp_Mk_takeFractionZero, wp_Mk_takeComma, wp_Mk_takePoint, wp_Mk_takeE, wp_Mk_takeE_J210, wp_Mk_takeE_J160, wp_Mk_takeSemicolon, wp_Mk_numberEnded, wp_Mk_inInteger, wp_Mk_takePlus, wp_Mk_takeAffix, wp_Mk_beginSub, wp_Mk_takeAffix_J120, wp_Mk_enterAffix, wp_Mk_numberEnded, q35 hc, q37 hc, q39 hc, q43 hc, q44 hc, q45 hc, q46 hc, q48 hc, q59 hc, q69 hc, ql48 hc, ql49 hc, qle57 hc, hz, hcm, hQ]
theorem tk_4_kd (hc : c ≤ 126) (hk : 49 ≤ c ∧ c ≤ 57)  : ∀ Q, Q false (sb, 4, false, qe, pt_h, pm, h, z, cm, b, t, f, q, e, x, pn, pf, sn, sf) → wp_Mk_take sb mi 4 false qe pt_h pm h z cm b t f q e x pn pf sn sf (nI c) Q := by
  intro Q hQ
  have n35 : ¬ c = 35 := by omega
  have n37 : ¬ c = 37 := by omega
  have n39 : ¬ c = 39 := by omega
  have n43 : ¬ c = 43 := by omega
  have n44 : ¬ c = 44 := by omega
  have n45 : ¬ c = 45 := by omega
  have n46 : ¬ c = 46 := by omega
  have n48 : ¬ c = 48 := by omega
  have n59 : ¬ c = 59 := by omega
  have n69 : ¬ c = 69 := by omega
  have d48 : ¬ c < 48 := by omega
  have d49 : ¬ c < 49 := by omega
  have d57 : c ≤ 57 := hk.2
  simp (decide := true) [wp_Mk_take, wp_Mk_takeHash, wp_Mk_takeZero, wp_Mk_takeFractionZero, wp_Mk_takeComma, wp_Mk_takePoint, wp_Mk_takeE, wp_Mk_takeE_J210, wp_Mk_takeE_J160, wp_Mk_takeSemicolon, wp_Mk_numberEnded, wp_Mk_inInteger, wp_Mk_takePlus, wp_Mk_takeAffix, wp_Mk_beginSub, wp_Mk_takeAffix_J120, wp_Mk_enterAffix, wp_Mk_numberEnded, q35 hc, q37 hc, q39 hc, q43 hc, q44 hc, q45 hc, q46 hc, q48 hc, q59 hc, q69 hc, ql48 hc, ql49 hc, qle57 hc, n35, n37, n39, n43, n44, n45, n46, n48, n59, n69, d48, d49, d57, hQ]
theorem tk_4_ko (hc : c ≤ 126) (hk : ¬ c = 35 ∧ ¬ c = 37 ∧ ¬ c = 39 ∧ ¬ c = 43 ∧ ¬ c = 44 ∧ ¬ c = 45 ∧ ¬ c = 46 ∧ ¬ c = 48 ∧ ¬ c = 59 ∧ ¬ c = 69 ∧ (c < 48 ∨ 57 < c)) {k : Nat} (hkk : k < 40) (hsn : sn = nI k) : ∀ Q, Q true (sb, 8, false, qe, pt_h, pm, h, z, cm, b, t, f, q, e, x, pn, pf, nI (k + 1), upd sf k (nI c)) → wp_Mk_take sb mi 4 false qe pt_h pm h z cm b t f q e x pn pf sn sf (nI c) Q := by
  intro Q hQ
  obtain ⟨n35, n37, n39, n43, n44, n45, n46, n48, n59, n69, hd⟩ := hk
  rcases (show c < 49 ∨ (¬ c < 49 ∧ ¬ c ≤ 57) by omega) with h1 | ⟨h1, h2⟩
  · simp (decide := true) [wp_Mk_take, wp_Mk_takeHash, wp_Mk_takeZero, wp_Mk_takeFractionZero, wp_Mk_takeComma, wp_Mk_takePoint, wp_Mk_takeE, wp_Mk_takeE_J210, wp_Mk_takeE_J160, wp_Mk_takeSemicolon, wp_Mk_numberEnded, wp_Mk_inInteger, wp_Mk_takePlus, wp_Mk_takeAffix, wp_Mk_beginSub, wp_Mk_takeAffix_J120, wp_Mk_enterAffix, wp_Mk_numberEnded, q35 hc, q37 hc, q39 hc, q43 hc, q44 hc, q45 hc, q46 hc, q48 hc, q59 hc, q69 hc, ql48 hc, ql49 hc, qle57 hc, n35, n37, n39, n43, n44, n45, n46, n48, n59, n69, hsn, h1]
    exact s_add hkk (by omega) _ _ _ hQ
  · simp (decide := true) [wp_Mk_take, wp_Mk_takeHash, wp_Mk_takeZero, wp_Mk_takeFractionZero, wp_Mk_takeComma, wp_Mk_takePoint, wp_Mk_takeE, wp_Mk_takeE_J210, wp_Mk_takeE_J160, wp_Mk_takeSemicolon, wp_Mk_numberEnded, wp_Mk_inInteger, wp_Mk_takePlus, wp_Mk_takeAffix, wp_Mk_beginSub, wp_Mk_takeAffix_J120, wp_Mk_enterAffix, wp_Mk_numberEnded, q35 hc, q37 hc, q39 hc, q43 hc, q44 hc, q45 hc, q46 hc, q48 hc, q59 hc, q69 hc, ql48 hc, ql49 hc, qle57 hc, n35, n37, n39, n43, n44, n45, n46, n48, n59, n69, hsn, h1, h2]
    exact s_add hkk (by omega) _ _ _ hQ
theorem tk_5_k35 (hc : c ≤ 126) (hk : c = 35)  : ∀ Q, Q false (sb, 5, false, qe, pt_h, pm, h, z, cm, b, t, f, q, e, x, pn, pf, sn, sf) → wp_Mk_take sb mi 5 false qe pt_h pm h z cm b t f q e x pn pf sn sf (nI c) Q := by
  intro Q hQ
  subst hk
  simp (decide := true) [wp_Mk_take, wp_Mk_takeHash, wp_Mk_takeZero, wp_Mk_takeFractionZero, wp_Mk_takeComma, wp_Mk_takePoint, wp_Mk_takeE, wp_Mk_takeE_J210, wp_Mk_takeE_J160, wp_Mk_takeSemicolon, wp_Mk_numberEnded, wp_Mk_inInteger, wp_Mk_takePlus, wp_Mk_takeAffix, wp_Mk_beginSub, wp_Mk_takeAffix_J120, wp_Mk_enterAffix, wp_Mk_numberEnded, q35 hc, q37 hc, q39 hc, q43 hc, q44 hc, q45 hc, q46 hc, q48 hc, q59 hc, q69 hc, ql48 hc, ql49 hc, qle57 hc, hQ]
theorem tk_5_k37 (hc : c ≤ 126) (hk : c = 37)  : ∀ Q, Q false (sb, 5, false, qe, pt_h, pm, h, z, cm, b, t, f, q, e, x, pn, pf, sn, sf) → wp_Mk_take sb mi 5 false qe pt_h pm h z cm b t f q e x pn pf sn sf (nI c) Q := by
  intro Q hQ
  subst hk
  simp (decide := true) [wp_Mk_take, wp_Mk_takeHash, wp_Mk_takeZero, wp_Mk_takeFractionZero, wp_Mk_takeComma, wp_Mk_takePoint, wp_Mk_takeE, wp_Mk_takeE_J210, wp_Mk_takeE_J160, wp_Mk_takeSemicolon, wp_Mk_numberEnded, wp_Mk_inInteger, wp_Mk_takePlus, wp_Mk_takeAffix, wp_Mk_beginSub, wp_Mk_takeAffix_J120, wp_Mk_enterAffix, wp_Mk_numberEnded, q35 hc, q37 hc, q39 hc, q43 hc, q44 hc, q45 hc, q46 hc, q48 hc, q59 hc, q69 hc, ql48 hc, ql49 hc, qle57 hc, hQ]
theorem tk_5_k39 (hc : c ≤ 126) (hk : c = 39)  : ∀ Q, Q false (sb, 5, false, qe, pt_h, pm, h, z, cm, b, t, f, q, e, x, pn, pf, sn, sf) → wp_Mk_take sb mi 5 false qe pt_h pm h z cm b t f q e x pn pf sn sf (nI c) Q := by
  intro Q hQ
  subst hk
  simp (decide := true) [wp_Mk_take, wp_Mk_takeHash, wp_Mk_takeZero, wp_Mk_takeFractionZero, wp_Mk_takeComma, wp_Mk_takePoint, wp_Mk_takeE, wp_Mk_takeE_J210, wp_Mk_takeE_J160, wp_Mk_takeSemicolon, wp_Mk_numberEnded, wp_Mk_inInteger, wp_Mk_takePlus, wp_Mk_takeAffix, wp_Mk_beginSub, wp_Mk_takeAffix_J120, wp_Mk_enterAffix, wp_Mk_numberEnded, q35 hc, q37 hc, q39 hc, q43 hc, q44 hc, q45 hc, q46 hc, q48 hc, q59 hc, q69 hc, ql48 hc, ql49 hc, qle57 hc, hQ]
theorem tk_5_k43 (hc : c ≤ 126) (hk : c = 43)  : ∀ Q, Q true (sb, 6, false, qe, pt_h, pm, h, z, cm, b, t, f, q, e, true, pn, pf, sn, sf) → wp_Mk_take sb mi 5 false qe pt_h pm h z cm b t f q e x pn pf sn sf (nI c) Q := by
  intro Q hQ
  subst hk
  simp (decide := true) [wp_Mk_take, wp_Mk_takeHash, wp_Mk_takeZero, wp_Mk_takeFractionZero, wp_Mk_takeComma, wp_Mk_takePoint, wp_Mk_takeE, wp_Mk_takeE_J210, wp_Mk_takeE_J160, wp_Mk_takeSemicolon, wp_Mk_numberEnded, wp_Mk_inInteger, wp_Mk_takePlus, wp_Mk_takeAffix, wp_Mk_beginSub, wp_Mk_takeAffix_J120, wp_Mk_enterAffix, wp_Mk_numberEnded, q35 hc, q37 hc, q39 hc, q43 hc, q44 hc, q45 hc, q46 hc, q48 hc, q59 hc, q69 hc, ql48 hc, ql49 hc, qle57 hc, hQ]
theorem tk_5_k44 (hc : c ≤ 126) (hk : c = 44)  : ∀ Q, Q false (sb, 5, false, qe, pt_h, pm, h, z, cm, b, t, f, q, e, x, pn, pf, sn, sf) → wp_Mk_take sb mi 5 false qe pt_h pm h z cm b t f q e x pn pf sn sf (nI c) Q := by
  intro Q hQ
  subst hk
  simp (decide := true) [wp_Mk_take, wp_Mk_takeHash, wp_Mk_takeZero, wp_Mk_takeFractionZero, wp_Mk_takeComma, wp_Mk_takePoint, wp_Mk_takeE, wp_Mk_takeE_J210, wp_Mk_takeE_J160, wp_Mk_takeSemicolon, wp_Mk_numberEnded, wp_Mk_inInteger, wp_Mk_takePlus, wp_Mk_takeAffix, wp_Mk_beginSub, wp_Mk_takeAffix_J120, wp_Mk_enterAffix, wp_Mk_numberEnded, q35 hc, q37 hc, q39 hc, q43 hc, q44 hc, q45 hc, q46 hc, q48 hc, q59 hc, q69 hc, ql48 hc, ql49 hc, qle57 hc, hQ]
theorem tk_5_k45 (hc : c ≤ 126) (hk : c = 45)  : ∀ Q, Q false (sb, 5, false, qe, pt_h, pm, h, z, cm, b, t, f, q, e, x, pn, pf, sn, sf) → wp_Mk_take sb mi 5 false qe pt_h pm h z cm b t f q e x pn pf sn sf (nI c) Q := by
  intro Q hQ
  subst hk
  simp (decide := true) [wp_Mk_take, wp_Mk_takeHash, wp_Mk_takeZero, wp_Mk_takeFractionZero, wp_Mk_takeComma, wp_Mk_takePoint, wp_Mk_takeE, wp_Mk_takeE_J210, wp_Mk_takeE_J160, wp_Mk_takeSemicolon, wp_Mk_numberEnded, wp_Mk_inInteger, wp_Mk_takePlus, wp_Mk_takeAffix, wp_Mk_beginSub, wp_Mk_takeAffix_J120, wp_Mk_enterAffix, wp_Mk_numberEnded, q35 hc, q37 hc, q39 hc, q43 hc, q44 hc, q45 hc, q46 hc, q48 hc, q59 hc, q69 hc, ql48 hc, ql49 hc, qle57 hc, hQ]
theorem tk_5_k46 (hc : c ≤ 126) (hk : c = 46)  : ∀ Q, Q false (sb, 5, false, qe, pt_h, pm, h, z, cm, b, t, f, q, e, x, pn, pf, sn, sf) → wp_Mk_take sb mi 5 false qe pt_h pm h z cm b t f q e x pn pf sn sf (nI c) Q := by
  intro Q hQ
  subst hk
  simp (decide := true) [wp_Mk_take, wp_Mk_takeHash, wp_Mk_takeZero, wp_Mk_takeFractionZero, wp_Mk_takeComma, wp_Mk_takePoint, wp_Mk_takeE, wp_Mk_takeE_J210, wp_Mk_takeE_J160, wp_Mk_takeSemicolon, wp_Mk_numberEnded, wp_Mk_inInteger, wp_Mk_takePlus, wp_Mk_takeAffix, wp_Mk_beginSub, wp_Mk_takeAffix_J120, wp_Mk_enterAffix, wp_Mk_numberEnded, q35 hc, q37 hc, q39 hc, q43 hc, q44 hc, q45 hc, q46 hc, q48 hc, q59 hc, q69 hc, ql48 hc, ql49 hc, qle57 hc, hQ]
theorem tk_5_k48 (hc : c ≤ 126) (hk : c = 48)  : ∀ Q, Q true (sb, 7, false, qe, pt_h, pm, h, z, cm, b, t, f, q, e + 1, x, pn, pf, sn, sf) → wp_Mk_take sb mi 5 false qe pt_h pm h z cm b t f q e x pn pf sn sf (nI c) Q := by
  intro Q hQ
  subst hk
  simp (decide := true) [wp_Mk_take, wp_Mk_takeHash, wp_Mk_takeZero, wp_Mk_takeFractionZero, wp_Mk_takeComma, wp_Mk_takePoint, wp_Mk_takeE, wp_Mk_takeE_J210, wp_Mk_takeE_J160, wp_Mk_takeSemicolon, wp_Mk_numberEnded, wp_Mk_inInteger, wp_Mk_takePlus, wp_Mk_takeAffix, wp_Mk_beginSub, wp_Mk_takeAffix_J120, wp_Mk_enterAffix, wp_Mk_numberEnded, q35 hc, q37 hc, q39 hc, q43 hc, q44 hc, q45 hc, q46 hc, q48 hc, q59 hc, q69 hc, ql48 hc, ql49 hc, qle57 hc, hQ]
theorem tk_5_k59 (hc : c ≤ 126) (hk : c = 59)  : ∀ Q, Q false (sb, 5, false, qe, pt_h, pm, h, z, cm, b, t, f, q, e, x, pn, pf, sn, sf) → wp_Mk_take sb mi 5 false qe pt_h pm h z cm b t f q e x pn pf sn sf (nI c) Q := by
  intro Q hQ
  subst hk
  simp (decide := true) [wp_Mk_take, wp_Mk_takeHash, wp_Mk_takeZero, wp_Mk_takeFractionZero, wp_Mk_takeComma, wp_Mk_takePoint, wp_Mk_takeE, wp_Mk_takeE_J210, wp_Mk_takeE_J160, wp_Mk_takeSemicolon, wp_Mk_numberEnded, wp_Mk_inInteger, wp_Mk_takePlus, wp_Mk_takeAffix, wp_Mk_beginSub, wp_Mk_takeAffix_J120, wp_Mk_enterAffix, wp_Mk_numberEnded, q35 hc, q37 hc, q39 hc, q43 hc, q44 hc, q45 hc, q46 hc, q48 hc, q59 hc, q69 hc, ql48 hc, ql49 hc, qle57 hc, hQ]
theorem tk_5_k69 (hc : c ≤ 126) (hk : c = 69)  : ∀ Q, Q false (sb, 5, false, qe, pt_h, pm, h, z, cm, b, t, f, q, e, x, pn, pf, sn, sf) → wp_Mk_take sb mi 5 false qe pt_h pm h z cm b t f q e x pn pf sn sf (nI c) Q := by
  intro Q hQ
  subst hk
  simp (decide := true) [wp_Mk_take, wp_Mk_takeHash, wp_Mk_takeZero, wp_Mk_takeFractionZero, wp_Mk_takeComma, wp_Mk_takePoint, wp_Mk_takeE, wp_Mk_takeE_J210, wp_Mk_takeE_J160, wp_Mk_takeSemicolon, wp_Mk_numberEnded, wp_Mk_inInteger, wp_Mk_takePlus, wp_Mk_takeAffix, wp_Mk_beginSub, wp_Mk_takeAffix_J120, wp_Mk_enterAffix, wp_Mk_numberEnded, q35 hc, q37 hc, q39 hc, q43 hc, q44 hc, q45 hc, q46 hc, q48 hc, q59 hc, q69 hc, ql48 hc, ql49 hc, qle57 hc, hQ]
theorem tk_5_kd (hc : c ≤ 126) (hk : 49 ≤ c ∧ c ≤ 57)  : ∀ Q, Q false (sb, 5, false, qe, pt_h, pm, h, z, cm, b, t, f, q, e, x, pn, pf, sn, sf) → wp_Mk_take sb mi 5 false qe pt_h pm h z cm b t f q e x pn pf sn sf (nI c) Q := by
  intro Q hQ
  have n35 : ¬ c = 35 := by omega
  have n37 : ¬ c = 37 := by omega
  have n39 : ¬ c = 39 := by omega
  have n43 : ¬ c = 43 := by omega
  have n44 : ¬ c = 44 := by omega
  have n45 : ¬ c = 45 := by omega
  have n46 : ¬ c = 46 := by omega
  have n48 : ¬ c = 48 := by omega
  have n59 : ¬ c = 59 := by omega
  have n69 : ¬ c = 69 := by omega
  have d48 : ¬ c < 48 := by omega
  have d49 : ¬ c < 49 := by omega
  have d57 : c ≤ 57 := hk.2
  simp (decide := true) [wp_Mk_take, wp_Mk_takeHash, wp_Mk_takeZero, wp_Mk_takeFractionZero, wp_Mk_takeComma, wp_Mk_takePoint, wp_Mk_takeE, wp_Mk_takeE_J210, wp_Mk_takeE_J160, wp_Mk_takeSemicolon, wp_Mk_numberEnded, wp_Mk_inInteger, wp_Mk_takePlus, wp_Mk_takeAffix, wp_Mk_beginSub, wp_Mk_takeAffix_J120, wp_Mk_enterAffix, wp_Mk_numberEnded, q35 hc, q37 hc, q39 hc, q43 hc, q44 hc, q45 hc, q46 hc, q48 hc, q59 hc, q69 hc, ql48 hc, ql49 hc, qle57 hc, n35, n37, n39, n43, n44, n45, n46, n48, n59, n69, d48, d49, d57, hQ]
theorem tk_5_ko (hc : c ≤ 126) (hk : ¬ c = 35 ∧ ¬ c = 37 ∧ ¬ c = 39 ∧ ¬ c = 43 ∧ ¬ c = 44 ∧ ¬ c = 45 ∧ ¬ c = 46 ∧ ¬ c = 48 ∧ ¬ c = 59 ∧ ¬ c = 69 ∧ (c < 48 ∨ 57 < c))  : ∀ Q, Q false (sb, 5, false, qe, pt_h, pm, h, z, cm, b, t, f, q, e, x, pn, pf, sn, sf) → wp_Mk_take sb mi 5 false qe pt_h pm h z cm b t f q e x pn pf sn sf (nI c) Q := by
  intro Q hQ
  obtain ⟨n35, n37, n39, n43, n44, n45, n46, n48, n59, n69, hd⟩ := hk
  rcases (show c < 49 ∨ (¬ c < 49 ∧ ¬ c ≤ 57) by omega) with h1 | ⟨h1, h2⟩
  · simp (decide := true) [wp_Mk_take, wp_Mk_takeHash, wp_Mk_takeZero, wp_Mk_takeFractionZero, wp_Mk_takeComma, wp_Mk_takePoint, wp_Mk_takeE, wp_Mk_takeE_J210, wp_Mk_takeE_J160, wp_Mk_takeSemicolon, wp_Mk_numberEnded, wp_Mk_inInteger, wp_Mk_takePlus, wp_Mk_takeAffix, wp_Mk_beginSub, wp_Mk_takeAffix_J120, wp_Mk_enterAffix, wp_Mk_numberEnded, q35 hc, q37 hc, q39 hc, q43 hc, q44 hc, q45 hc, q46 hc, q48 hc, q59 hc, q69 hc, ql48 hc, ql49 hc, qle57 hc, n35, n37, n39, n43, n44, n45, n46, n48, n59, n69, h1, hQ]
  · simp (decide := true) [wp_Mk_take, wp_Mk_takeHash, wp_Mk_takeZero, wp_Mk_takeFractionZero, wp_Mk_takeComma, wp_Mk_takePoint, wp_Mk_takeE, wp_Mk_takeE_J210, wp_Mk_takeE_J160, wp_Mk_takeSemicolon, wp_Mk_numberEnded, wp_Mk_inInteger, wp_Mk_takePlus, wp_Mk_takeAffix, wp_Mk_beginSub, wp_Mk_takeAffix_J120, wp_Mk_enterAffix, wp_Mk_numberEnded, q35 hc, q37 hc, q39 hc, q43 hc, q44 hc, q45 hc, q46 hc, q48 hc, q59 hc, q69 hc, ql48 hc, ql49 hc, qle57 hc, n35, n37, n39, n43, n44, n45, n46, n48, n59, n69, h1, h2, hQ]
theorem tk_6_k35 (hc : c ≤ 126) (hk : c = 35)  : ∀ Q, Q false (sb, 6, false, qe, pt_h, pm, h, z, cm, b, t, f, q, e, x, pn, pf, sn, sf) → wp_Mk_take sb mi 6 false qe pt_h pm h z cm b t f q e x pn pf sn sf (nI c) Q := by
  intro Q hQ
  subst hk
  simp (decide := true) [wp_Mk_take, wp_Mk_takeHash, wp_Mk_takeZero, wp_Mk_takeFractionZero, wp_Mk_takeComma, wp_Mk_takePoint, wp_Mk_takeE, wp_Mk_takeE_J210, wp_Mk_takeE_J160, wp_Mk_takeSemicolon, wp_Mk_numberEnded, wp_Mk_inInteger, wp_Mk_takePlus, wp_Mk_takeAffix, wp_Mk_beginSub, wp_Mk_takeAffix_J120, wp_Mk_enterAffix, wp_Mk_numberEnded, q35 hc, q37 hc, q39 hc, q43 hc, q44 hc, q45 hc, q46 hc, q48 hc, q59 hc, q69 hc, ql48 hc, ql49 hc, qle57 hc, hQ]
theorem tk_6_k37 (hc : c ≤ 126) (hk : c = 37)  : ∀ Q, Q false (sb, 6, false, qe, pt_h, pm, h, z, cm, b, t, f, q, e, x, pn, pf, sn, sf) → wp_Mk_take sb mi 6 false qe pt_h pm h z cm b t f q e x pn pf sn sf (nI c) Q := by
  intro Q hQ
  subst hk
  simp (decide := true) [wp_Mk_take, wp_Mk_takeHash, wp_Mk_takeZero, wp_Mk_takeFractionZero, wp_Mk_takeComma, wp_Mk_takePoint, wp_Mk_takeE, wp_Mk_takeE_J210, wp_Mk_takeE_J160, wp_Mk_takeSemicolon, wp_Mk_numberEnded, wp_Mk_inInteger, wp_Mk_takePlus, wp_Mk_takeAffix, wp_Mk_beginSub, wp_Mk_takeAffix_J120, wp_Mk_enterAffix, wp_Mk_numberEnded, q35 hc, q37 hc, q39 hc, q43 hc, q44 hc, q45 hc, q46 hc, q48 hc, q59 hc, q69 hc, ql48 hc, ql49 hc, qle57 hc, hQ]
theorem tk_6_k39 (hc : c ≤ 126) (hk : c = 39)  : ∀ Q, Q false (sb, 6, false, qe, pt_h, pm, h, z, cm, b, t, f, q, e, x, pn, pf, sn, sf) → wp_Mk_take sb mi 6 false qe pt_h pm h z cm b t f q e x pn pf sn sf (nI c) Q := by
  intro Q hQ
  subst hk
  simp (decide := true) [wp_Mk_take, wp_Mk_takeHash, wp_Mk_takeZero, wp_Mk_takeFractionZero, wp_Mk_takeComma, wp_Mk_takePoint, wp_Mk_takeE, wp_Mk_takeE_J210, wp_Mk_takeE_J160, wp_Mk_takeSemicolon, wp_Mk_numberEnded, wp_Mk_inInteger, wp_Mk_takePlus, wp_Mk_takeAffix, wp_Mk_beginSub, wp_Mk_takeAffix_J120, wp_Mk_enterAffix, wp_Mk_numberEnded, q35 hc, q37 hc, q39 hc, q43 hc, q44 hc, q45 hc, q46 hc, q48 hc, q59 hc, q69 hc, ql48 hc, ql49 hc, qle57 hc, hQ]
theorem tk_6_k43 (hc : c ≤ 126) (hk : c = 43)  : ∀ Q, Q false (sb, 6, false, qe, pt_h, pm, h, z, cm, b, t, f, q, e, x, pn, pf, sn, sf) → wp_Mk_take sb mi 6 false qe pt_h pm h z cm b t f q e x pn pf sn sf (nI c) Q := by
  intro Q hQ
  subst hk
  simp (decide := true) [wp_Mk_take, wp_Mk_takeHash, wp_Mk_takeZero, wp_Mk_takeFractionZero, wp_Mk_takeComma, wp_Mk_takePoint, wp_Mk_takeE, wp_Mk_takeE_J210, wp_Mk_takeE_J160, wp_Mk_takeSemicolon, wp_Mk_numberEnded, wp_Mk_inInteger, wp_Mk_takePlus, wp_Mk_takeAffix, wp_Mk_beginSub, wp_Mk_takeAffix_J120, wp_Mk_enterAffix, wp_Mk_numberEnded, q35 hc, q37 hc, q39 hc, q43 hc, q44 hc, q45 hc, q46 hc, q48 hc, q59 hc, q69 hc, ql48 hc, ql49 hc, qle57 hc, hQ]
theorem tk_6_k44 (hc : c ≤ 126) (hk : c = 44)  : ∀ Q, Q false (sb, 6, false, qe, pt_h, pm, h, z, cm, b, t, f, q, e, x, pn, pf, sn, sf) → wp_Mk_take sb mi 6 false qe pt_h pm h z cm b t f q e x pn pf sn sf (nI c) Q := by
  intro Q hQ
  subst hk
  simp (decide := true) [wp_Mk_take, wp_Mk_takeHash, wp_Mk_takeZero, wp_Mk_takeFractionZero, wp_Mk_takeComma, wp_Mk_takePoint, wp_Mk_takeE, wp_Mk_takeE_J210, wp_Mk_takeE_J160, wp_Mk_takeSemicolon, wp_Mk_numberEnded, wp_Mk_inInteger, wp_Mk_takePlus, wp_Mk_takeAffix, wp_Mk_beginSub, wp_Mk_takeAffix_J120, wp_Mk_enterAffix, wp_Mk_numberEnded, q35 hc, q37 hc, q39 hc, q43 hc, q44 hc, q45 hc, q46 hc, q48 hc, q59 hc, q69 hc, ql48 hc, ql49 hc, qle57 hc, hQ]
theorem tk_6_k45 (hc : c ≤ 126) (hk : c = 45)  : ∀ Q, Q false (sb, 6, false, qe, pt_h, pm, h, z, cm, b, t, f, q, e, x, pn, pf, sn, sf) → wp_Mk_take sb mi 6 false qe pt_h pm h z cm b t f q e x pn pf sn sf (nI c) Q := by
  intro Q hQ
  subst hk
  simp (decide := true) [wp_Mk_take, wp_Mk_takeHash, wp_Mk_takeZero, wp_Mk_takeFractionZero, wp_Mk_takeComma, wp_Mk_takePoint, wp_Mk_takeE, wp_Mk_takeE_J210, wp_Mk_takeE_J160, wp_Mk_takeSemicolon, wp_Mk_numberEnded, wp_Mk_inInteger, wp_Mk_takePlus, wp_Mk_takeAffix, wp_Mk_beginSub, wp_Mk_takeAffix_J120, wp_Mk_enterAffix, wp_Mk_numberEnded, q35 hc, q37 hc, q39 hc, q43 hc, q44 hc, q45 hc, q46 hc, q48 hc, q59 hc, q69 hc, ql48 hc, ql49 hc, qle57 hc, hQ]
theorem tk_6_k46 (hc : c ≤ 126) (hk : c = 46)  : ∀ Q, Q false (sb, 6, false, qe, pt_h, pm, h, z, cm, b, t, f, q, e, x, pn, pf, sn, sf) → wp_Mk_take sb mi 6 false qe pt_h pm h z cm b t f q e x pn pf sn sf (nI c) Q := by
  intro Q hQ
  subst hk
  simp (decide := true) [wp_Mk_take, wp_Mk_takeHash, wp_Mk_takeZero, wp_Mk_takeFractionZero, wp_Mk_takeComma, wp_Mk_takePoint, wp_Mk_takeE, wp_Mk_takeE_J210, wp_Mk_takeE_J160, wp_Mk_takeSemicolon, wp_Mk_numberEnded, wp_Mk_inInteger, wp_Mk_takePlus, wp_Mk_takeAffix, wp_Mk_beginSub, wp_Mk_takeAffix_J120, wp_Mk_enterAffix, wp_Mk_numberEnded, q35 hc, q37 hc, q39 hc, q43 hc, q44 hc, q45 hc, q46 hc, q48 hc, q59 hc, q69 hc, ql48 hc, ql49 hc, qle57 hc, hQ]
theorem tk_6_k48 (hc : c ≤ 126) (hk : c = 48)  : ∀ Q, Q true (sb, 7, false, qe, pt_h, pm, h, z, cm, b, t, f, q, e + 1, x, pn, pf, sn, sf) → wp_Mk_take sb mi 6 false qe pt_h pm h z cm b t f q e x pn pf sn sf (nI c) Q := by
  intro Q hQ
  subst hk
  simp (decide := true) [wp_Mk_take, wp_Mk_takeHash, wp_Mk_takeZero, wp_Mk_takeFractionZero, wp_Mk_takeComma, wp_Mk_takePoint, wp_Mk_takeE, wp_Mk_takeE_J210, wp_Mk_takeE_J160, wp_Mk_takeSemicolon, wp_Mk_numberEnded, wp_Mk_inInteger, wp_Mk_takePlus, wp_Mk_takeAffix, wp_Mk_beginSub, wp_Mk_takeAffix_J120, wp_Mk_enterAffix, wp_Mk_numberEnded, q35 hc, q37 hc, q39 hc, q43 hc, q44 hc, q45 hc, q46 hc, q48 hc, q59 hc, q69 hc, ql48 hc, ql49 hc, qle57 hc, hQ]
theorem tk_6_k59 (hc : c ≤ 126) (hk : c = 59)  : ∀ Q, Q false (sb, 6, false, qe, pt_h, pm, h, z, cm, b, t, f, q, e, x, pn, pf, sn, sf) → wp_Mk_take sb mi 6 false qe pt_h pm h z cm b t f q e x pn pf sn sf (nI c) Q := by
  intro Q hQ
  subst hk
  simp (decide := true) [wp_Mk_take, wp_Mk_takeHash, wp_Mk_takeZero, wp_Mk_takeFractionZero, wp_Mk_takeComma, wp_Mk_takePoint, wp_Mk_takeE, wp_Mk_takeE_J210, wp_Mk_takeE_J160, wp_Mk_takeSemicolon, wp_Mk_numberEnded, wp_Mk_inInteger, wp_Mk_takePlus, wp_Mk_takeAffix, wp_Mk_beginSub, wp_Mk_takeAffix_J120, wp_Mk_enterAffix, wp_Mk_numberEnded, q35 hc, q37 hc, q39 hc, q43 hc, q44 hc, q45 hc, q46 hc, q48 hc, q59 hc, q69 hc, ql48 hc, ql49 hc, qle57 hc, hQ]
theorem tk_6_k69 (hc : c ≤ 126) (hk : c = 69)  : ∀ Q, Q false (sb, 6, false, qe, pt_h, pm, h, z, cm, b, t, f, q, e, x, pn, pf, sn, sf) → wp_Mk_take sb mi 6 false qe pt_h pm h z cm b t f q e x pn pf sn sf (nI c) Q := by
  intro Q hQ
  subst hk
  simp (decide := true) [wp_Mk_take, wp_Mk_takeHash, wp_Mk_takeZero, wp_Mk_takeFractionZero, wp_Mk_takeComma, wp_Mk_takePoint, wp_Mk_takeE, wp_Mk_takeE_J210, wp_Mk_takeE_J160, wp_Mk_takeSemicolon, wp_Mk_numberEnded, wp_Mk_inInteger, wp_Mk_takePlus, wp_Mk_takeAffix, wp_Mk_beginSub, wp_Mk_takeAffix_J120, wp_Mk_enterAffix, wp_Mk_numberEnded, q35 hc, q37 hc, q39 hc, q43 hc, q44 hc, q45 hc, q46 hc, q48 hc, q59 hc, q69 hc, ql48 hc, ql49 hc, qle57 hc, hQ]
theorem tk_6_kd (hc : c ≤ 126) (hk : 49 ≤ c ∧ c ≤ 57)  : ∀ Q, Q false (sb, 6, false, qe, pt_h, pm, h, z, cm, b, t, f, q, e, x, pn, pf, sn, sf) → wp_Mk_take sb mi 6 false qe pt_h pm h z cm b t f q e x pn pf sn sf (nI c) Q := by
  intro Q hQ
  have n35 : ¬ c = 35 := by omega
  have n37 : ¬ c = 37 := by omega
  have n39 : ¬ c = 39 := by omega
  have n43 : ¬ c = 43 := by omega
  have n44 : ¬ c = 44 := by omega
  have n45 : ¬ c = 45 := by omega
  have n46 : ¬ c = 46 := by omega
  have n48 : ¬ c = 48 := by omega
  have n59 : ¬ c = 59 := by omega
  have n69 : ¬ c = 69 := by omega
  have d48 : ¬ c < 48 := by omega
  have d49 : ¬ c < 49 := by omega
  have d57 : c ≤ 57 := hk.2
  simp (decide := true) [wp_Mk_take, wp_Mk_takeHash, wp_Mk_takeZero, wp_Mk_takeFractionZero, wp_Mk_takeComma, wp_Mk_takePoint, wp_Mk_takeE, wp_Mk_takeE_J210, wp_Mk_takeE_J160, wp_Mk_takeSemicolon, wp_Mk_numberEnded, wp_Mk_inInteger, wp_Mk_takePlus, wp_Mk_takeAffix, wp_Mk_beginSub, wp_Mk_takeAffix_J120, wp_Mk_enterAffix, wp_Mk_numberEnded, q35 hc, q37 hc, q39 hc, q43 hc, q44 hc, q45 hc, q46 hc, q48 hc, q59 hc, q69 hc, ql48 hc, ql49 hc, qle57 hc, n35, n37, n39, n43, n44, n45, n46, n48, n59, n69, d48, d49, d57, hQ]
theorem tk_6_ko (hc : c ≤ 126) (hk : ¬ c = 35 ∧ ¬ c = 37 ∧ ¬ c = 39 ∧ ¬ c = 43 ∧ ¬ c = 44 ∧ ¬ c = 45 ∧ ¬ c = 46 ∧ ¬ c = 48 ∧ ¬ c = 59 ∧ ¬ c = 69 ∧ (c < 48 ∨ 57 < c))  : ∀ Q, Q false (sb, 6, false, qe, pt_h, pm, h, z, cm, b, t, f, q, e, x, pn, pf, sn, sf) → wp_Mk_take sb mi 6 false qe pt_h pm h z cm b t f q e x pn pf sn sf (nI c) Q := by
  intro Q hQ
  obtain ⟨n35, n37, n39, n43, n44, n45, n46, n48, n59, n69, hd⟩ := hk
  rcases (show c < 49 ∨ (¬ c < 49 ∧ ¬ c ≤ 57) by omega) with h1 | ⟨h1, h2⟩
  · simp (decide := true) [wp_Mk_take, wp_Mk_takeHash, wp_Mk_takeZero, wp_Mk_takeFractionZero, wp_Mk_takeComma, wp_Mk_takePoint, wp_Mk_takeE, wp_Mk_takeE_J210, wp_Mk_takeE_J160, wp_Mk_takeSemicolon, wp_Mk_numberEnded, wp_Mk_inInteger, wp_Mk_takePlus, wp_Mk_takeAffix, wp_Mk_beginSub, wp_Mk_takeAffix_J120, wp_Mk_enterAffix, wp_Mk_numberEnded, q35 hc, q37 hc, q39 hc, q43 hc, q44 hc, q45 hc, q46 hc, q48 hc, q59 hc, q69 hc, ql48 hc, ql49 hc, qle57 hc, n35, n37, n39, n43, n44, n45, n46, n48, n59, n69, h1, hQ]
  · simp (decide := true) [wp_Mk_take, wp_Mk_takeHash, wp_Mk_takeZero, wp_Mk_takeFractionZero, wp_Mk_takeComma, wp_Mk_takePoint, wp_Mk_takeE, wp_Mk_takeE_J210, wp_Mk_takeE_J160, wp_Mk_takeSemicolon, wp_Mk_numberEnded, wp_Mk_inInteger, wp_Mk_takePlus, wp_Mk_takeAffix, wp_Mk_beginSub, wp_Mk_takeAffix_J120, wp_Mk_enterAffix, wp_Mk_numberEnded, q35 hc, q37 hc, q39 hc, q43 hc, q44 hc, q45 hc, q46 hc, q48 hc, q59 hc, q69 hc, ql48 hc, ql49 hc, qle57 hc, n35, n37, n39, n43, n44, n45, n46, n48, n59, n69, h1, h2, hQ]
theorem tk_7_k35 (hc : c ≤ 126) (hk : c = 35)  : ∀ Q, Q false (sb, 7, false, qe, pt_h, pm, h, z, cm, b, t, f, q, e, x, pn, pf, sn, sf) → wp_Mk_take sb mi 7 false qe pt_h pm h z cm b t f q e x pn pf sn sf (nI c) Q := by
  intro Q hQ
  subst hk
  simp (decide := true) [wp_Mk_take, wp_Mk_takeHash, wp_Mk_takeZero, wp_Mk_takeFractionZero, wp_Mk_takeComma, wp_Mk_takePoint, wp_Mk_takeE, wp_Mk_takeE_J210, wp_Mk_takeE_J160, wp_Mk_takeSemicolon, wp_Mk_numberEnded, wp_Mk_inInteger, wp_Mk_takePlus, wp_Mk_takeAffix, wp_Mk_beginSub, wp_Mk_takeAffix_J120, wp_Mk_enterAffix, wp_Mk_numberEnded, q35 hc, q37 hc, q39 hc, q43 hc, q44 hc, q45 hc, q46 hc, q48 hc, q59 hc, q69 hc, ql48 hc, ql49 hc, qle57 hc, hQ]
theorem tk_7_k37 (hc : c ≤ 126) (hk : c = 37) {k : Nat} (hkk : k < 40) (hsn : sn = nI k) : ∀ Q, Q true (sb, 8, false, qe, pt_h, true, h, z, cm, b, t, f, q, e, x, pn, pf, nI (k + 1), upd sf k 259) → wp_Mk_take sb mi 7 false qe pt_h pm h z cm b t f q e x pn pf sn sf (nI c) Q := by
  intro Q hQ
  subst hk
  simp (decide := true) [wp_Mk_take, wp_Mk_takeHash, wp_Mk_takeZero, wp_Mk_takeFractionZero, wp_Mk_takeComma, wp_Mk_takePoint, wp_Mk_takeE, wp_Mk_takeE_J210, wp_Mk_takeE_J160, wp_Mk_takeSemicolon, wp_Mk_numberEnded, wp_Mk_inInteger, wp_Mk_takePlus, wp_Mk_takeAffix, wp_Mk_beginSub, wp_Mk_takeAffix_J120, wp_Mk_enterAffix, wp_Mk_numberEnded, q35 hc, q37 hc, q39 hc, q43 hc, q44 hc, q45 hc, q46 hc, q48 hc, q59 hc, q69 hc, ql48 hc, ql49 hc, qle57 hc, hsn]
  exact s_add hkk (by omega) _ _ _ hQ
theorem tk_7_k39 (hc : c ≤ 126) (hk : c = 39)  : ∀ Q, Q true (sb, 8, true, true, pt_h, pm, h, z, cm, b, t, f, q, e, x, pn, pf, sn, sf) → wp_Mk_take sb mi 7 false qe pt_h pm h z cm b t f q e x pn pf sn sf (nI c) Q := by
  intro Q hQ
  subst hk
  simp (decide := true) [wp_Mk_take, wp_Mk_takeHash, wp_Mk_takeZero, wp_Mk_takeFractionZero, wp_Mk_takeComma, wp_Mk_takePoint, wp_Mk_takeE, wp_Mk_takeE_J210, wp_Mk_takeE_J160, wp_Mk_takeSemicolon, wp_Mk_numberEnded, wp_Mk_inInteger, wp_Mk_takePlus, wp_Mk_takeAffix, wp_Mk_beginSub, wp_Mk_takeAffix_J120, wp_Mk_enterAffix, wp_Mk_numberEnded, q35 hc, q37 hc, q39 hc, q43 hc, q44 hc, q45 hc, q46 hc, q48 hc, q59 hc, q69 hc, ql48 hc, ql49 hc, qle57 hc, hQ]
theorem tk_7_k43 (hc : c ≤ 126) (hk : c = 43) {k : Nat} (hkk : k < 40) (hsn : sn = nI k) : ∀ Q, Q true (sb, 8, false, qe, pt_h, pm, h, z, cm, b, t, f, q, e, x, pn, pf, nI (k + 1), upd sf k 43) → wp_Mk_take sb mi 7 false qe pt_h pm h z cm b t f q e x pn pf sn sf (nI c) Q := by
  intro Q hQ
  subst hk
  simp (decide := true) [wp_Mk_take, wp_Mk_takeHash, wp_Mk_takeZero, wp_Mk_takeFractionZero, wp_Mk_takeComma, wp_Mk_takePoint, wp_Mk_takeE, wp_Mk_takeE_J210, wp_Mk_takeE_J160, wp_Mk_takeSemicolon, wp_Mk_numberEnded, wp_Mk_inInteger, wp_Mk_takePlus, wp_Mk_takeAffix, wp_Mk_beginSub, wp_Mk_takeAffix_J120, wp_Mk_enterAffix, wp_Mk_numberEnded, q35 hc, q37 hc, q39 hc, q43 hc, q44 hc, q45 hc, q46 hc, q48 hc, q59 hc, q69 hc, ql48 hc, ql49 hc, qle57 hc, hsn]
  exact s_add hkk (by omega) _ _ _ hQ
theorem tk_7_k44 (hc : c ≤ 126) (hk : c = 44)  : ∀ Q, Q false (sb, 7, false, qe, pt_h, pm, h, z, cm, b, t, f, q, e, x, pn, pf, sn, sf) → wp_Mk_take sb mi 7 false qe pt_h pm h z cm b t f q e x pn pf sn sf (nI c) Q := by
  intro Q hQ
  subst hk
  simp (decide := true) [wp_Mk_take, wp_Mk_takeHash, wp_Mk_takeZero, wp_Mk_takeFractionZero, wp_Mk_takeComma, wp_Mk_takePoint, wp_Mk_takeE, wp_Mk_takeE_J210, wp_Mk_takeE_J160, wp_Mk_takeSemicolon, wp_Mk_numberEnded, wp_Mk_inInteger, wp_Mk_takePlus, wp_Mk_takeAffix, wp_Mk_beginSub, wp_Mk_takeAffix_J120, wp_Mk_enterAffix, wp_Mk_numberEnded, q35 hc, q37 hc, q39 hc, q43 hc, q44 hc, q45 hc, q46 hc, q48 hc, q59 hc, q69 hc, ql48 hc, ql49 hc, qle57 hc, hQ]
theorem tk_7_k45 (hc : c ≤ 126) (hk : c = 45) {k : Nat} (hkk : k < 40) (hsn : sn = nI k) : ∀ Q, Q true (sb, 8, false, qe, pt_h, pm, h, z, cm, b, t, f, q, e, x, pn, pf, nI (k + 1), upd sf k 258) → wp_Mk_take sb mi 7 false qe pt_h pm h z cm b t f q e x pn pf sn sf (nI c) Q := by
  intro Q hQ
  subst hk
  simp (decide := true) [wp_Mk_take, wp_Mk_takeHash, wp_Mk_takeZero, wp_Mk_takeFractionZero, wp_Mk_takeComma, wp_Mk_takePoint, wp_Mk_takeE, wp_Mk_takeE_J210, wp_Mk_takeE_J160, wp_Mk_takeSemicolon, wp_Mk_numberEnded, wp_Mk_inInteger, wp_Mk_takePlus, wp_Mk_takeAffix, wp_Mk_beginSub, wp_Mk_takeAffix_J120, wp_Mk_enterAffix, wp_Mk_numberEnded, q35 hc, q37 hc, q39 hc, q43 hc, q44 hc, q45 hc, q46 hc, q48 hc, q59 hc, q69 hc, ql48 hc, ql49 hc, qle57 hc, hsn]
  exact s_add hkk (by omega) _ _ _ hQ
theorem tk_7_k46 (hc : c ≤ 126) (hk : c = 46)  : ∀ Q, Q false (sb, 7, false, qe, pt_h, pm, h, z, cm, b, t, f, q, e, x, pn, pf, sn, sf) → wp_Mk_take sb mi 7 false qe pt_h pm h z cm b t f q e x pn pf sn sf (nI c) Q := by
  intro Q hQ
  subst hk
  simp (decide := true) [wp_Mk_take, wp_Mk_takeHash, wp_Mk_takeZero, wp_Mk_takeFractionZero, wp_Mk_takeComma, wp_Mk_takePoint, wp_Mk_takeE, wp_Mk_takeE_J210, wp_Mk_takeE_J160, wp_Mk_takeSemicolon, wp_Mk_numberEnded, wp_Mk_inInteger, wp_Mk_takePlus, wp_Mk_takeAffix, wp_Mk_beginSub, wp_Mk_takeAffix_J120, wp_Mk_enterAffix, wp_Mk_numberEnded, q35 hc, q37 hc, q39 hc, q43 hc, q44 hc, q45 hc, q46 hc, q48 hc, q59 hc, q69 hc, ql48 hc, ql49 hc, qle57 hc, hQ]
theorem tk_7_k48 (hc : c ≤ 126) (hk : c = 48)  : ∀ Q, Q true (sb, 7, false, qe, pt_h, pm, h, z, cm, b, t, f, q, e + 1, x, pn, pf, sn, sf) → wp_Mk_take sb mi 7 false qe pt_h pm h z cm b t f q e x pn pf sn sf (nI c) Q := by
  intro Q hQ
  subst hk
  simp (decide := true) [wp_Mk_take, wp_Mk_takeHash, wp_Mk_takeZero, wp_Mk_takeFractionZero, wp_Mk_takeComma, wp_Mk_takePoint, wp_Mk_takeE, wp_Mk_takeE_J210, wp_Mk_takeE_J160, wp_Mk_takeSemicolon, wp_Mk_numberEnded, wp_Mk_inInteger, wp_Mk_takePlus, wp_Mk_takeAffix, wp_Mk_beginSub, wp_Mk_takeAffix_J120, wp_Mk_enterAffix, wp_Mk_numberEnded, q35 hc, q37 hc, q39 hc, q43 hc, q44 hc, q45 hc, q46 hc, q48 hc, q59 hc, q69 hc, ql48 hc, ql49 hc, qle57 hc, hQ]
theorem tk_7_k59 (hc : c ≤ 126) (hk : c = 59) (hp : pt_h = false) : ∀ Q, Q true (mi, 0, false, false, true, pm, h, z, cm, b, t, f, q, e, x, pn, pf, sn, sf) → wp_Mk_take sb mi 7 false qe pt_h pm h z cm b t f q e x pn pf sn sf (nI c) Q := by
  intro Q hQ
  subst hk
  subst hp
  simp (decide := true) [wp_Mk_take, wp_Mk_takeHash, wp_Mk_takeZero, wp_Mk_takeFractionZero, wp_Mk_takeComma, wp_Mk_takePoint, wp_Mk_takeE, wp_Mk_takeE_J210, wp_Mk_takeE_J160, wp_Mk_takeSemicolon, wp_Mk_numberEnded, wp_Mk_inInteger, wp_Mk_takePlus, wp_Mk_takeAffix, wp_Mk_beginSub, wp_Mk_takeAffix_J120, wp_Mk_enterAffix, wp_Mk_numberEnded, q35 hc, q37 hc, q39 hc, q43 hc, q44 hc, q45 hc, q46 hc, q48 hc, q59 hc, q69 hc, ql48 hc, ql49 hc, qle57 hc, hQ]
theorem tk_7_k59n (hc : c ≤ 126) (hk : c = 59) (hp : pt_h = true) : ∀ Q, Q false (sb, 7, false, qe, pt_h, pm, h, z, cm, b, t, f, q, e, x, pn, pf, sn, sf) → wp_Mk_take sb mi 7 false qe pt_h pm h z cm b t f q e x pn pf sn sf (nI c) Q := by
  intro Q hQ
  subst hk
  subst hp
  simp (decide := true) [wp_Mk_take, wp_Mk_takeHash, wp_Mk_takeZero, wp_Mk_takeFractionZero, wp_Mk_takeComma, wp_Mk_takePoint, wp_Mk_takeE, wp_Mk_takeE_J210, wp_Mk_takeE_J160, wp_Mk_takeSemicolon, wp_Mk_numberEnded, wp_Mk_inInteger, wp_Mk_takePlus, wp_Mk_takeAffix, wp_Mk_beginSub, wp_Mk_takeAffix_J120, wp_Mk_enterAffix, wp_Mk_numberEnded, q35 hc, q37 hc, q39 hc, q43 hc, q44 hc, q45 hc, q46 hc, q48 hc, q59 hc, q69 hc, ql48 hc, ql49 hc, qle57 hc, hQ]
theorem tk_7_k69 (hc : c ≤ 126) (hk : c = 69)  : ∀ Q, Q false (sb, 7, false, qe, pt_h, pm, h, z, cm, b, t, f, q, e, x, pn, pf, sn, sf) → wp_Mk_take sb mi 7 false qe pt_h pm h z cm b t f q e x pn pf sn sf (nI c) Q := by
  intro Q hQ
  subst hk
  simp (decide := true) [wp_Mk_take, wp_Mk_takeHash, wp_Mk_takeZero, wp_Mk_takeFractionZero, wp_Mk_takeComma, wp_Mk_takePoint, wp_Mk_takeE, wp_Mk_takeE_J210, wp_Mk_takeE_J160, wp_Mk_takeSemicolon, wp_Mk_numberEnded, wp_Mk_inInteger, wp_Mk_takePlus, wp_Mk_takeAffix, wp_Mk_beginSub, wp_Mk_takeAffix_J120, wp_Mk_enterAffix, wp_Mk_numberEnded, q35 hc, q37 hc, q39 hc, q43 hc, q44 hc, q45 hc, q46 hc, q48 hc, q59 hc, q69 hc, ql48 hc, ql49 hc, qle57 hc, hQ]
theorem tk_7_kd (hc : c ≤ 126) (hk : 49 ≤ c ∧ c ≤ 57)  : ∀ Q, Q false (sb, 7, false, qe, pt_h, pm, h, z, cm, b, t, f, q, e, x, pn, pf, sn, sf) → wp_Mk_take sb mi 7 false qe pt_h pm h z cm b t f q e x pn pf sn sf (nI c) Q := by
  intro Q hQ
  have n35 : ¬ c = 35 := by omega
  have n37 : ¬ c = 37 := by omega
  have n39 : ¬ c = 39 := by omega
  have n43 : ¬ c = 43 := by omega
  have n44 : ¬ c = 44 := by omega
  have n45 : ¬ c = 45 := by omega
  have n46 : ¬ c = 46 := by omega
  have n48 : ¬ c = 48 := by omega
  have n59 : ¬ c = 59 := by omega
  have n69 : ¬ c = 69 := by omega
  have d48 : ¬ c < 48 := by omega
  have d49 : ¬ c < 49 := by omega
  have d57 : c ≤ 57 := hk.2
  simp (decide := true) [wp_Mk_take, wp_Mk_takeHash, wp_Mk_takeZero, wp_Mk_takeFractionZero, wp_Mk_takeComma, wp_Mk_takePoint, wp_Mk_takeE, wp_Mk_takeE_J210, wp_Mk_takeE_J160, wp_Mk_takeSemicolon, wp_Mk_numberEnded, wp_Mk_inInteger, wp_Mk_takePlus, wp_Mk_takeAffix, wp_Mk_beginSub, wp_Mk_takeAffix_J120, wp_Mk_enterAffix, wp_Mk_numberEnded, q35 hc, q37 hc, q39 hc, q43 hc, q44 hc, q45 hc, q46 hc, q48 hc, q59 hc, q69 hc, ql48 hc, ql49 hc, qle57 hc, n35, n37, n39, n43, n44, n45, n46, n48, n59, n69, d48, d49, d57, hQ]
theorem tk_7_ko (hc : c ≤ 126) (hk : ¬ c = 35 ∧ ¬ c = 37 ∧ ¬ c = 39 ∧ ¬ c = 43 ∧ ¬ c = 44 ∧ ¬ c = 45 ∧ ¬ c = 46 ∧ ¬ c = 48 ∧ ¬ c = 59 ∧ ¬ c = 69 ∧ (c < 48 ∨ 57 < c)) {k : Nat} (hkk : k < 40) (hsn : sn = nI k) : ∀ Q, Q true (sb, 8, false, qe, pt_h, pm, h, z, cm, b, t, f, q, e, x, pn, pf, nI (k + 1), upd sf k (nI c)) → wp_Mk_take sb mi 7 false qe pt_h pm h z cm b t f q e x pn pf sn sf (nI c) Q := by
  intro Q hQ
  obtain ⟨n35, n37, n39, n43, n44, n45, n46, n48, n59, n69, hd⟩ := hk
  rcases (show c < 49 ∨ (¬ c < 49 ∧ ¬ c ≤ 57) by omega) with h1 | ⟨h1, h2⟩
  · simp (decide := true) [wp_Mk_take, wp_Mk_takeHash, wp_Mk_takeZero, wp_Mk_takeFractionZero, wp_Mk_takeComma, wp_Mk_takePoint, wp_Mk_takeE, wp_Mk_takeE_J210, wp_Mk_takeE_J160, wp_Mk_takeSemicolon, wp_Mk_numberEnded, wp_Mk_inInteger, wp_Mk_takePlus, wp_Mk_takeAffix, wp_Mk_beginSub, wp_Mk_takeAffix_J120, wp_Mk_enterAffix, wp_Mk_numberEnded, q35 hc, q37 hc, q39 hc, q43 hc, q44 hc, q45 hc, q46 hc, q48 hc, q59 hc, q69 hc, ql48 hc, ql49 hc, qle57 hc, n35, n37, n39, n43, n44, n45, n46, n48, n59, n69, hsn, h1]
    exact s_add hkk (by omega) _ _ _ hQ
  · simp (decide := true) [wp_Mk_take, wp_Mk_takeHash, wp_Mk_takeZero, wp_Mk_takeFractionZero, wp_Mk_takeComma, wp_Mk_takePoint, wp_Mk_takeE, wp_Mk_takeE_J210, wp_Mk_takeE_J160, wp_Mk_takeSemicolon, wp_Mk_numberEnded, wp_Mk_inInteger, wp_Mk_takePlus, wp_Mk_takeAffix, wp_Mk_beginSub, wp_Mk_takeAffix_J120, wp_Mk_enterAffix, wp_Mk_numberEnded, q35 hc, q37 hc, q39 hc, q43 hc, q44 hc, q45 hc, q46 hc, q48 hc, q59 hc, q69 hc, ql48 hc, ql49 hc, qle57 hc, n35, n37, n39, n43, n44, n45, n46, n48, n59, n69, hsn, h1, h2]
    exact s_add hkk (by omega) _ _ _ hQ
theorem tk_8_k35 (hc : c ≤ 126) (hk : c = 35)  : ∀ Q, Q false (sb, 8, false, qe, pt_h, pm, h, z, cm, b, t, f, q, e, x, pn, pf, sn, sf) → wp_Mk_take sb mi 8 false qe pt_h pm h z cm b t f q e x pn pf sn sf (nI c) Q := by
  intro Q hQ
  subst hk
  simp (decide := true) [wp_Mk_take, wp_Mk_takeHash, wp_Mk_takeZero, wp_Mk_takeFractionZero, wp_Mk_takeComma, wp_Mk_takePoint, wp_Mk_takeE, wp_Mk_takeE_J210, wp_Mk_takeE_J160, wp_Mk_takeSemicolon, wp_Mk_numberEnded, wp_Mk_inInteger, wp_Mk_takePlus, wp_Mk_takeAffix, wp_Mk_beginSub, wp_Mk_takeAffix_J120, wp_Mk_enterAffix, wp_Mk_numberEnded, q35 hc, q37 hc, q39 hc, q43 hc, q44 hc, q45 hc, q46 hc, q48 hc, q59 hc, q69 hc, ql48 hc, ql49 hc, qle57 hc, hQ]
theorem tk_8_k37 (hc : c ≤ 126) (hk : c = 37) {k : Nat} (hkk : k < 40) (hsn : sn = nI k) : ∀ Q, Q true (sb, 8, false, qe, pt_h, true, h, z, cm, b, t, f, q, e, x, pn, pf, nI (k + 1), upd sf k 259) → wp_Mk_take sb mi 8 false qe pt_h pm h z cm b t f q e x pn pf sn sf (nI c) Q := by
  intro Q hQ
  subst hk
  simp (decide := true) [wp_Mk_take, wp_Mk_takeHash, wp_Mk_takeZero, wp_Mk_takeFractionZero, wp_Mk_takeComma, wp_Mk_takePoint, wp_Mk_takeE, wp_Mk_takeE_J210, wp_Mk_takeE_J160, wp_Mk_takeSemicolon, wp_Mk_numberEnded, wp_Mk_inInteger, wp_Mk_takePlus, wp_Mk_takeAffix, wp_Mk_beginSub, wp_Mk_takeAffix_J120, wp_Mk_enterAffix, wp_Mk_numberEnded, q35 hc, q37 hc, q39 hc, q43 hc, q44 hc, q45 hc, q46 hc, q48 hc, q59 hc, q69 hc, ql48 hc, ql49 hc, qle57 hc, hsn]
  exact s_add hkk (by omega) _ _ _ hQ
theorem tk_8_k39 (hc : c ≤ 126) (hk : c = 39)  : ∀ Q, Q true (sb, 8, true, true, pt_h, pm, h, z, cm, b, t, f, q, e, x, pn, pf, sn, sf) → wp_Mk_take sb mi 8 false qe pt_h pm h z cm b t f q e x pn pf sn sf (nI c) Q := by
  intro Q hQ
  subst hk
  simp (decide := true) [wp_Mk_take, wp_Mk_takeHash, wp_Mk_takeZero, wp_Mk_takeFractionZero, wp_Mk_takeComma, wp_Mk_takePoint, wp_Mk_takeE, wp_Mk_takeE_J210, wp_Mk_takeE_J160, wp_Mk_takeSemicolon, wp_Mk_numberEnded, wp_Mk_inInteger, wp_Mk_takePlus, wp_Mk_takeAffix, wp_Mk_beginSub, wp_Mk_takeAffix_J120, wp_Mk_enterAffix, wp_Mk_numberEnded, q35 hc, q37 hc, q39 hc, q43 hc, q44 hc, q45 hc, q46 hc, q48 hc, q59 hc, q69 hc, ql48 hc, ql49 hc, qle57 hc, hQ]
theorem tk_8_k43 (hc : c ≤ 126) (hk : c = 43) {k : Nat} (hkk : k < 40) (hsn : sn = nI k) : ∀ Q, Q true (sb, 8, false, qe, pt_h, pm, h, z, cm, b, t, f, q, e, x, pn, pf, nI (k + 1), upd sf k 43) → wp_Mk_take sb mi 8 false qe pt_h pm h z cm b t f q e x pn pf sn sf (nI c) Q := by
  intro Q hQ
  subst hk
  simp (decide := true) [wp_Mk_take, wp_Mk_takeHash, wp_Mk_takeZero, wp_Mk_takeFractionZero, wp_Mk_takeComma, wp_Mk_takePoint, wp_Mk_takeE, wp_Mk_takeE_J210, wp_Mk_takeE_J160, wp_Mk_takeSemicolon, wp_Mk_numberEnded, wp_Mk_inInteger, wp_Mk_takePlus, wp_Mk_takeAffix, wp_Mk_beginSub, wp_Mk_takeAffix_J120, wp_Mk_enterAffix, wp_Mk_numberEnded, q35 hc, q37 hc, q39 hc, q43 hc, q44 hc, q45 hc, q46 hc, q48 hc, q59 hc, q69 hc, ql48 hc, ql49 hc, qle57 hc, hsn]
  exact s_add hkk (by omega) _ _ _ hQ
theorem tk_8_k44 (hc : c ≤ 126) (hk : c = 44)  : ∀ Q, Q false (sb, 8, false, qe, pt_h, pm, h, z, cm, b, t, f, q, e, x, pn, pf, sn, sf) → wp_Mk_take sb mi 8 false qe pt_h pm h z cm b t f q e x pn pf sn sf (nI c) Q := by
  intro Q hQ
  subst hk
  simp (decide := true) [wp_Mk_take, wp_Mk_takeHash, wp_Mk_takeZero, wp_Mk_takeFractionZero, wp_Mk_takeComma, wp_Mk_takePoint, wp_Mk_takeE, wp_Mk_takeE_J210, wp_Mk_takeE_J160, wp_Mk_takeSemicolon, wp_Mk_numberEnded, wp_Mk_inInteger, wp_Mk_takePlus, wp_Mk_takeAffix, wp_Mk_beginSub, wp_Mk_takeAffix_J120, wp_Mk_enterAffix, wp_Mk_numberEnded, q35 hc, q37 hc, q39 hc, q43 hc, q44 hc, q45 hc, q46 hc, q48 hc, q59 hc, q69 hc, ql48 hc, ql49 hc, qle57 hc, hQ]
theorem tk_8_k45 (hc : c ≤ 126) (hk : c = 45) {k : Nat} (hkk : k < 40) (hsn : sn = nI k) : ∀ Q, Q true (sb, 8, false, qe, pt_h, pm, h, z, cm, b, t, f, q, e, x, pn, pf, nI (k + 1), upd sf k 258) → wp_Mk_take sb mi 8 false qe pt_h pm h z cm b t f q e x pn pf sn sf (nI c) Q := by
  intro Q hQ
  subst hk
  simp (decide := true) [wp_Mk_take, wp_Mk_takeHash, wp_Mk_takeZero, wp_Mk_takeFractionZero, wp_Mk_takeComma, wp_Mk_takePoint, wp_Mk_takeE, wp_Mk_takeE_J210, wp_Mk_takeE_J160, wp_Mk_takeSemicolon, wp_Mk_numberEnded, wp_Mk_inInteger, wp_Mk_takePlus, wp_Mk_takeAffix, wp_Mk_beginSub, wp_Mk_takeAffix_J120, wp_Mk_enterAffix, wp_Mk_numberEnded, q35 hc, q37 hc, q39 hc, q43 hc, q44 hc, q45 hc, q46 hc, q48 hc, q59 hc, q69 hc, ql48 hc, ql49 hc, qle57 hc, hsn]
  exact s_add hkk (by omega) _ _ _ hQ
theorem tk_8_k46 (hc : c ≤ 126) (hk : c = 46)  : ∀ Q, Q false (sb, 8, false, qe, pt_h, pm, h, z, cm, b, t, f, q, e, x, pn, pf, sn, sf) → wp_Mk_take sb mi 8 false qe pt_h pm h z cm b t f q e x pn pf sn sf (nI c) Q := by
  intro Q hQ
  subst hk
  simp (decide := true) [wp_Mk_take, wp_Mk_takeHash, wp_Mk_takeZero, wp_Mk_takeFractionZero, wp_Mk_takeComma, wp_Mk_takePoint, wp_Mk_takeE, wp_Mk_takeE_J210, wp_Mk_takeE_J160, wp_Mk_takeSemicolon, wp_Mk_numberEnded, wp_Mk_inInteger, wp_Mk_takePlus, wp_Mk_takeAffix, wp_Mk_beginSub, wp_Mk_takeAffix_J120, wp_Mk_enterAffix, wp_Mk_numberEnded, q35 hc, q37 hc, q39 hc, q43 hc, q44 hc, q45 hc, q46 hc, q48 hc, q59 hc, q69 hc, ql48 hc, ql49 hc, qle57 hc, hQ]
theorem tk_8_k48 (hc : c ≤ 126) (hk : c = 48)  : ∀ Q, Q false (sb, 8, false, qe, pt_h, pm, h, z, cm, b, t, f, q, e, x, pn, pf, sn, sf) → wp_Mk_take sb mi 8 false qe pt_h pm h z cm b t f q e x pn pf sn sf (nI c) Q := by
  intro Q hQ
  subst hk
  simp (decide := true) [wp_Mk_take, wp_Mk_takeHash, wp_Mk_takeZero, wp_Mk_takeFractionZero, wp_Mk_takeComma, wp_Mk_takePoint, wp_Mk_takeE, wp_Mk_takeE_J210, wp_Mk_takeE_J160, wp_Mk_takeSemicolon, wp_Mk_numberEnded, wp_Mk_inInteger, wp_Mk_takePlus, wp_Mk_takeAffix, wp_Mk_beginSub, wp_Mk_takeAffix_J120, wp_Mk_enterAffix, wp_Mk_numberEnded, q35 hc, q37 hc, q39 hc, q43 hc, q44 hc, q45 hc, q46 hc, q48 hc, q59 hc, q69 hc, ql48 hc, ql49 hc, qle57 hc, hQ]
theorem tk_8_k59 (hc : c ≤ 126) (hk : c = 59) (hp : pt_h = false) : ∀ Q, Q true (mi, 0, false, false, true, pm, h, z, cm, b, t, f, q, e, x, pn, pf, sn, sf) → wp_Mk_take sb mi 8 false qe pt_h pm h z cm b t f q e x pn pf sn sf (nI c) Q := by
  intro Q hQ
  subst hk
  subst hp
  simp (decide := true) [wp_Mk_take, wp_Mk_takeHash, wp_Mk_takeZero, wp_Mk_takeFractionZero, wp_Mk_takeComma, wp_Mk_takePoint, wp_Mk_takeE, wp_Mk_takeE_J210, wp_Mk_takeE_J160, wp_Mk_takeSemicolon, wp_Mk_numberEnded, wp_Mk_inInteger, wp_Mk_takePlus, wp_Mk_takeAffix, wp_Mk_beginSub, wp_Mk_takeAffix_J120, wp_Mk_enterAffix, wp_Mk_numberEnded, q35 hc, q37 hc, q39 hc, q43 hc, q44 hc, q45 hc, q46 hc, q48 hc, q59 hc, q69 hc, ql48 hc, ql49 hc, qle57 hc, hQ]
theorem tk_8_k59n (hc : c ≤ 126) (hk : c = 59) (hp : pt_h = true) : ∀ Q, Q false (sb, 8, false, qe, pt_h, pm, h, z, cm, b, t, f, q, e, x, pn, pf, sn, sf) → wp_Mk_take sb mi 8 false qe pt_h pm h z cm b t f q e x pn pf sn sf (nI c) Q := by
  intro Q hQ
  subst hk
  subst hp
  simp (decide := true) [wp_Mk_take, wp_Mk_takeHash, wp_Mk_takeZero, wp_Mk_takeFractionZero, wp_Mk_takeComma, wp_Mk_takePoint, wp_Mk_takeE, wp_Mk_takeE_J210, wp_Mk_takeE_J160, wp_Mk_takeSemicolon, wp_Mk_numberEnded, wp_Mk_inInteger, wp_Mk_takePlus, wp_Mk_takeAffix, wp_Mk_beginSub, wp_Mk_takeAffix_J120, wp_Mk_enterAffix, wp_Mk_numberEnded, q35 hc, q37 hc, q39 hc, q43 hc, q44 hc, q45 hc, q46 hc, q48 hc, q59 hc, q69 hc, ql48 hc, ql49 hc, qle57 hc, hQ]
theorem tk_8_k69 (hc : c ≤ 126) (hk : c = 69)  : ∀ Q, Q false (sb, 8, false, qe, pt_h, pm, h, z, cm, b, t, f, q, e, x, pn, pf, sn, sf) → wp_Mk_take sb mi 8 false qe pt_h pm h z cm b t f q e x pn pf sn sf (nI c) Q := by
  intro Q hQ
  subst hk
  simp (decide := true) [wp_Mk_take, wp_Mk_takeHash, wp_Mk_takeZero, wp_Mk_takeFractionZero, wp_Mk_takeComma, wp_Mk_takePoint, wp_Mk_takeE, wp_Mk_takeE_J210, wp_Mk_takeE_J160, wp_Mk_takeSemicolon, wp_Mk_numberEnded, wp_Mk_inInteger, wp_Mk_takePlus, wp_Mk_takeAffix, wp_Mk_beginSub, wp_Mk_takeAffix_J120, wp_Mk_enterAffix, wp_Mk_numberEnded, q35 hc, q37 hc, q39 hc, q43 hc, q44 hc, q45 hc, q46 hc, q48 hc, q59 hc, q69 hc, ql48 hc, ql49 hc, qle57 hc, hQ]
theorem tk_8_kd (hc : c ≤ 126) (hk : 49 ≤ c ∧ c ≤ 57)  : ∀ Q, Q false (sb, 8, false, qe, pt_h, pm, h, z, cm, b, t, f, q, e, x, pn, pf, sn, sf) → wp_Mk_take sb mi 8 false qe pt_h pm h z cm b t f q e x pn pf sn sf (nI c) Q := by
  intro Q hQ
  have n35 : ¬ c = 35 := by omega
  have n37 : ¬ c = 37 := by omega
  have n39 : ¬ c = 39 := by omega
  have n43 : ¬ c = 43 := by omega
  have n44 : ¬ c = 44 := by omega
  have n45 : ¬ c = 45 := by omega
  have n46 : ¬ c = 46 := by omega
  have n48 : ¬ c = 48 := by omega
  have n59 : ¬ c = 59 := by omega
  have n69 : ¬ c = 69 := by omega
  have d48 : ¬ c < 48 := by omega
  have d49 : ¬ c < 49 := by omega
  have d57 : c ≤ 57 := hk.2
  simp (decide := true) [wp_Mk_take, wp_Mk_takeHash, wp_Mk_takeZero, wp_Mk_takeFractionZero, wp_Mk_takeComma, wp_Mk_takePoint, wp_Mk_takeE, wp_Mk_takeE_J210, wp_Mk_takeE_J160, wp_Mk_takeSemicolon, wp_Mk_numberEnded, wp_Mk_inInteger, wp_Mk_takePlus, wp_Mk_takeAffix, wp_Mk_beginSub, wp_Mk_takeAffix_J120, wp_Mk_enterAffix, wp_Mk_numberEnded, q35 hc, q37 hc, q39 hc, q43 hc, q44 hc, q45 hc, q46 hc, q48 hc, q59 hc, q69 hc, ql48 hc, ql49 hc, qle57 hc, n35, n37, n39, n43, n44, n45, n46, n48, n59, n69, d48, d49, d57, hQ]
theorem tk_8_ko (hc : c ≤ 126) (hk : ¬ c = 35 ∧ ¬ c = 37 ∧ ¬ c = 39 ∧ ¬ c = 43 ∧ ¬ c = 44 ∧ ¬ c = 45 ∧ ¬ c = 46 ∧ ¬ c = 48 ∧ ¬ c = 59 ∧ ¬ c = 69 ∧ (c < 48 ∨ 57 < c)) {k : Nat} (hkk : k < 40) (hsn : sn = nI k) : ∀ Q, Q true (sb, 8, false, qe, pt_h, pm, h, z, cm, b, t, f, q, e, x, pn, pf, nI (k + 1), upd sf k (nI c)) → wp_Mk_take sb mi 8 false qe pt_h pm h z cm b t f q e x pn pf sn sf (nI c) Q := by
  intro Q hQ
  obtain ⟨n35, n37, n39, n43, n44, n45, n46, n48, n59, n69, hd⟩ := hk
  rcases (show c < 49 ∨ (¬ c < 49 ∧ ¬ c ≤ 57) by omega) with h1 | ⟨h1, h2⟩
  · simp (decide := true) [wp_Mk_take, wp_Mk_takeHash, wp_Mk_takeZero, wp_Mk_takeFractionZero, wp_Mk_takeComma, wp_Mk_takePoint, wp_Mk_takeE, wp_Mk_takeE_J210, wp_Mk_takeE_J160, wp_Mk_takeSemicolon, wp_Mk_numberEnded, wp_Mk_inInteger, wp_Mk_takePlus, wp_Mk_takeAffix, wp_Mk_beginSub, wp_Mk_takeAffix_J120, wp_Mk_enterAffix, wp_Mk_numberEnded, q35 hc, q37 hc, q39 hc, q43 hc, q44 hc, q45 hc, q46 hc, q48 hc, q59 hc, q69 hc, ql48 hc, ql49 hc, qle57 hc, n35, n37, n39, n43, n44, n45, n46, n48, n59, n69, hsn, h1]
    exact s_add hkk (by omega) _ _ _ hQ
  · simp (decide := true) [wp_Mk_take, wp_Mk_takeHash, wp_Mk_takeZero, wp_Mk_takeFractionZero, wp_Mk_takeComma, wp_Mk_takePoint, wp_Mk_takeE, wp_Mk_takeE_J210, wp_Mk_takeE_J160, wp_Mk_takeSemicolon, wp_Mk_numberEnded, wp_Mk_inInteger, wp_Mk_takePlus, wp_Mk_takeAffix, wp_Mk_beginSub, wp_Mk_takeAffix_J120, wp_Mk_enterAffix, wp_Mk_numberEnded, q35 hc, q37 hc, q39 hc, q43 hc, q44 hc, q45 hc, q46 hc, q48 hc, q59 hc, q69 hc, ql48 hc, ql49 hc, qle57 hc, n35, n37, n39, n43, n44, n45, n46, n48, n59, n69, hsn, h1, h2]
    exact s_add hkk (by omega) _ _ _ hQ
end TK
