/-! copying and beginning in the reference; quoted characters on both sides -/
theorem s_copyL (fa : Nat → Int32) : ∀ (d i : Nat), i + d = 9 → ∀ ta : Nat → Int32, (∀ j, j < i → ta j = fa j) → ∃ (r : Nat → Int32) (n : Nat), (∀ j, j < 9 → r j = fa j) ∧ ∀ Q : (Nat → Int32) → Prop, Q r → wp_M_copy_L20 n fa (nI i) ta Q := by
  intro d
  induction d with
  | zero =>
    intro i hi ta h
    obtain rfl : i = 9 := by omega
    exact ⟨ta, 1, h, fun Q hQ => ⟨fun _ => hQ, fun z => absurd (nI_le (a := 9) (b := 9) (Nat.le_refl _) (by omega)) z⟩⟩
  | succ d ih =>
    intro i hi ta h
    obtain ⟨r, n, hr, hw⟩ := ih (i + 1) (by omega) (upd ta i (fa i)) (fun j hj => by
      by_cases hji : j = i
      · subst hji; rw [upd_same]
      · rw [upd_other _ _ hji]; exact h j (by omega))
    refine ⟨r, n + 1, hr, fun Q hQ => ?_⟩
    unfold wp_M_copy_L20
    rw [nI_clamp (by omega), nI_1]
    have e1 : ¬ (9 : Int32) ≤ nI i := nI_ge (b := 9) (by omega) (by omega)
    exact ⟨fun z => absurd z e1, fun _ => ⟨vp_in_nI (by omega) (by omega), vp_in_nI (by omega) (by omega), hw Q hQ⟩⟩
theorem s_copy (fa ta : Nat → Int32) : ∃ r : Nat → Int32, (∀ j, j < 9 → r j = fa j) ∧ ∀ Q : (Nat → Int32) → Prop, Q r → wp_M_copy fa ta Q := by
  obtain ⟨r, n, hr, hw⟩ := s_copyL fa 9 0 (by omega) ta (fun j h => absurd h (Nat.not_lt_zero j))
  exact ⟨r, hr, fun Q hQ => ⟨n, hw Q hQ⟩⟩
theorem s_beginL (w : Nat) (hw1 : w ≤ 1) (st sub : Int32) (dl : Nat → Int32) : ∀ (d i : Nat), i + d = 9 → ∀ nw : Nat → Int32, (∀ j, j < i → nw j = 0) → ∃ (r : Nat → Int32) (n : Nat), (∀ j, j < 9 → r j = 0) ∧ ∀ Q : (Int32 × Int32 × (Nat → Int32) × (Nat → Int32)) → Prop, Q (st, sub, r, upd (upd dl (2 * w) 0) (2 * w + 1) 0) → wp_M_begin_L120 n (nI w) (nI i) st sub nw dl Q := by
  intro d
  induction d with
  | zero =>
    intro i hi nw h
    obtain rfl : i = 9 := by omega
    refine ⟨nw, 1, h, fun Q hQ => ?_⟩
    unfold wp_M_begin_L120
    have e2 : (2 : Int32) * nI w = nI (2 * w) := pk_mul 2 w
    rw [e2, nI_1, nI_clamp (by omega), nI_clamp (by omega)]
    exact ⟨fun _ => ⟨vp_in_nI (by omega) (by omega), vp_in_nI (by omega) (by omega), hQ⟩, fun z => absurd (nI_le (a := 9) (b := 9) (Nat.le_refl _) (by omega)) z⟩
  | succ d ih =>
    intro i hi nw h
    obtain ⟨r, n, hr, hw⟩ := ih (i + 1) (by omega) (upd nw i 0) (fun j hj => by
      by_cases hji : j = i
      · subst hji; rw [upd_same]
      · rw [upd_other _ _ hji]; exact h j (by omega))
    refine ⟨r, n + 1, hr, fun Q hQ => ?_⟩
    unfold wp_M_begin_L120
    rw [nI_1 i]
    have e1 : ¬ (9 : Int32) ≤ nI i := nI_ge (b := 9) (by omega) (by omega)
    refine ⟨fun z => absurd z e1, fun _ => ⟨vp_in_nI (by omega) (by omega), ?_⟩⟩
    rw [nI_clamp (n := i) (by omega)]
    exact hw Q hQ
theorem s_begin (w : Nat) (hw1 : w ≤ 1) (st sub : Int32) (nw dl : Nat → Int32) : ∃ r : Nat → Int32, (∀ j, j < 9 → r j = 0) ∧ ∀ Q : (Int32 × Int32 × (Nat → Int32) × (Nat → Int32)) → Prop, Q (0, nI w, r, upd (upd dl (2 * w) 0) (2 * w + 1) 0) → wp_M_begin st sub nw dl (nI w) Q := by
  obtain ⟨r, n, hr, hw⟩ := s_beginL w hw1 0 (nI w) dl 9 0 (by omega) nw (fun j h => absurd h (Nat.not_lt_zero j))
  exact ⟨r, hr, fun Q hQ => ⟨n, hw Q hQ⟩⟩
section QU
variable {sb mi : Nat} {qe pt_h pm x : Bool} {h z cm b t f q e pn sn : Int32} {pf sf : Nat → Int32} {c : Nat}
/-- a quoted character that isn't the quote: it goes to the open affix -/
theorem tq_p (hc : c ≤ 126) (h39 : ¬ c = 39) {k : Nat} (hkk : k < 40) (hpn : pn = nI k) : ∀ Q, Q true (sb, 0, true, false, pt_h, pm, h, z, cm, b, t, f, q, e, x, nI (k + 1), upd pf k (nI c), sn, sf) → wp_Mk_take sb mi 0 true qe pt_h pm h z cm b t f q e x pn pf sn sf (nI c) Q := by
  intro Q hQ
  simp (decide := true) [wp_Mk_take, wp_Mk_takeQuoted, q39 hc, h39, hpn]
  exact s_add hkk (by omega) _ _ _ hQ
theorem tq_s (hc : c ≤ 126) (h39 : ¬ c = 39) {k : Nat} (hkk : k < 40) (hsn : sn = nI k) : ∀ Q, Q true (sb, 8, true, false, pt_h, pm, h, z, cm, b, t, f, q, e, x, pn, pf, nI (k + 1), upd sf k (nI c)) → wp_Mk_take sb mi 8 true qe pt_h pm h z cm b t f q e x pn pf sn sf (nI c) Q := by
  intro Q hQ
  simp (decide := true) [wp_Mk_take, wp_Mk_takeQuoted, q39 hc, h39, hsn]
  exact s_add hkk (by omega) _ _ _ hQ
theorem tq_pe (hc : c ≤ 126) (h39 : c = 39) {k : Nat} (hkk : k < 40) (hpn : pn = nI k) : ∀ Q, Q true (sb, 0, false, true, pt_h, pm, h, z, cm, b, t, f, q, e, x, nI (k + 1), upd pf k (nI c), sn, sf) → wp_Mk_take sb mi 0 true true pt_h pm h z cm b t f q e x pn pf sn sf (nI c) Q := by
  intro Q hQ
  simp (decide := true) [wp_Mk_take, wp_Mk_takeQuoted, q39 hc, hpn]
  exact ⟨fun _ => s_add hkk (by omega) _ _ _ hQ, fun z => absurd h39 z⟩
theorem tq_se (hc : c ≤ 126) (h39 : c = 39) {k : Nat} (hkk : k < 40) (hsn : sn = nI k) : ∀ Q, Q true (sb, 8, false, true, pt_h, pm, h, z, cm, b, t, f, q, e, x, pn, pf, nI (k + 1), upd sf k (nI c)) → wp_Mk_take sb mi 8 true true pt_h pm h z cm b t f q e x pn pf sn sf (nI c) Q := by
  intro Q hQ
  simp (decide := true) [wp_Mk_take, wp_Mk_takeQuoted, q39 hc, hsn]
  exact ⟨fun _ => s_add hkk (by omega) _ _ _ hQ, fun z => absurd h39 z⟩
theorem tq_n {st : Int32} (hc : c ≤ 126) (h39 : c = 39) : ∀ Q, Q true (sb, st, false, false, pt_h, pm, h, z, cm, b, t, f, q, e, x, pn, pf, sn, sf) → wp_Mk_take sb mi st true false pt_h pm h z cm b t f q e x pn pf sn sf (nI c) Q := by
  intro Q hQ
  simp (decide := true) [wp_Mk_take, wp_Mk_takeQuoted, q39 hc, h39, hQ]
end QU
section MQU
variable {m_sub m_q : Int32} {m_now m_first m_da m_dl : Nat → Int32} {c : Nat}
theorem mq_o0 (hc : c ≤ 126) (h39 : ¬ c = 39) {s k : Nat} (hs : s ≤ 1) (hsub : m_sub = nI s) (hkk : k < 40) (hdl : m_dl (2 * s + 0) = nI k) : ∀ Q, Q true (1, m_sub, m_q + 1, m_now, m_first, upd m_da (40 * (2 * s + 0) + k) (nI c), upd m_dl (2 * s + 0) (nI (k + 1))) → wp_M_step 1 m_sub m_q m_now m_first m_da m_dl (nI c) Q := by
  intro Q hQ
  simp (decide := true) [wp_M_step, wp_M_inQuote, wp_M_inQuote_J130, wp_M_inQuote_J180, q39 hc, h39]
  exact s_keep hs hsub (e := 0) (by omega) (by decide) hkk hdl _ hQ
theorem mq_o1 (hc : c ≤ 126) (h39 : ¬ c = 39) {s k : Nat} (hs : s ≤ 1) (hsub : m_sub = nI s) (hkk : k < 40) (hdl : m_dl (2 * s + 1) = nI k) : ∀ Q, Q true (11, m_sub, m_q + 1, m_now, m_first, upd m_da (40 * (2 * s + 1) + k) (nI c), upd m_dl (2 * s + 1) (nI (k + 1))) → wp_M_step 11 m_sub m_q m_now m_first m_da m_dl (nI c) Q := by
  intro Q hQ
  simp (decide := true) [wp_M_step, wp_M_inQuote, wp_M_inQuote_J130, wp_M_inQuote_J180, q39 hc, h39]
  exact s_keep hs hsub (e := 1) (by omega) (by decide) hkk hdl _ hQ
theorem mq_e0 (hc : c ≤ 126) (h39 : c = 39) (hq : m_q = 0) {s k : Nat} (hs : s ≤ 1) (hsub : m_sub = nI s) (hkk : k < 40) (hdl : m_dl (2 * s + 0) = nI k) : ∀ Q, Q true (0, m_sub, m_q + 1, m_now, m_first, upd m_da (40 * (2 * s + 0) + k) (nI c), upd m_dl (2 * s + 0) (nI (k + 1))) → wp_M_step 1 m_sub m_q m_now m_first m_da m_dl (nI c) Q := by
  intro Q hQ
  subst hq
  subst h39
  simp (decide := true) [wp_M_step, wp_M_inQuote, wp_M_inQuote_J130, wp_M_inQuote_J180, q39 hc]
  exact s_keep hs hsub (e := 0) (by omega) (by decide) hkk hdl _ hQ
theorem mq_e1 (hc : c ≤ 126) (h39 : c = 39) (hq : m_q = 0) {s k : Nat} (hs : s ≤ 1) (hsub : m_sub = nI s) (hkk : k < 40) (hdl : m_dl (2 * s + 1) = nI k) : ∀ Q, Q true (10, m_sub, m_q + 1, m_now, m_first, upd m_da (40 * (2 * s + 1) + k) (nI c), upd m_dl (2 * s + 1) (nI (k + 1))) → wp_M_step 11 m_sub m_q m_now m_first m_da m_dl (nI c) Q := by
  intro Q hQ
  subst hq
  subst h39
  simp (decide := true) [wp_M_step, wp_M_inQuote, wp_M_inQuote_J130, wp_M_inQuote_J180, q39 hc]
  exact s_keep hs hsub (e := 1) (by omega) (by decide) hkk hdl _ hQ
theorem mq_n0 (hc : c ≤ 126) (h39 : c = 39) (hq : ¬ m_q = 0) : ∀ Q, Q true (0, m_sub, m_q + 1, m_now, m_first, m_da, m_dl) → wp_M_step 1 m_sub m_q m_now m_first m_da m_dl (nI c) Q := by
  intro Q hQ
  simp (decide := true) [wp_M_step, wp_M_inQuote, wp_M_inQuote_J130, wp_M_inQuote_J180, q39 hc, h39, hq, hQ]
theorem mq_n1 (hc : c ≤ 126) (h39 : c = 39) (hq : ¬ m_q = 0) : ∀ Q, Q true (10, m_sub, m_q + 1, m_now, m_first, m_da, m_dl) → wp_M_step 11 m_sub m_q m_now m_first m_da m_dl (nI c) Q := by
  intro Q hQ
  simp (decide := true) [wp_M_step, wp_M_inQuote, wp_M_inQuote_J130, wp_M_inQuote_J180, q39 hc, h39, hq, hQ]
end MQU
