/-! one character in quotes; then any character -/
section SQ
variable {pos s sb mi : Nat} {qe pt_h pm x : Bool} {h z cm b t f q e pn sn mq sub : Int32} {pf sf now first da dl : Nat → Int32} {H Z C B T F G E kp ks c : Nat}
theorem sim_q0 (hb : Bun pos s 0 pm h z cm b t f q e x pn pf sn sf now da dl H Z C B T F G E kp ks) (hq : ∃ j, j ≤ pos ∧ mq = nI j ∧ (qe = true ↔ j = 0)) (hp : pos < 40) (hs : s ≤ 1) (hsub : sub = nI s) (hc32 : 32 ≤ c) (hc : c ≤ 126) : ∃ (bb : Bool) (u : CTy) (v : MTy), (bb = true → Nx pos s sb mi pt_h pm h z cm b t f q e x pn pf sn sf now first da dl False u v) ∧ (∀ Q, Q bb u → wp_Mk_take sb mi 0 true qe pt_h pm h z cm b t f q e x pn pf sn sf (nI c) Q) ∧ (∀ Q, Q bb v → wp_M_step 1 sub mq now first da dl (nI c) Q) := by
  obtain ⟨j, hj, hmq, hqe⟩ := hq
  have hkp := hb.2.2.2.2.2.1
  by_cases hk : c = 39
  · cases hqv : qe with
    | true =>
      have hj0 := hqe.mp hqv
      subst hj0
      exact ⟨true, (sb, 0, false, true, pt_h, pm, h, z, cm, b, t, f, q, e, x, nI (kp + 1), upd pf kp (nI c), sn, sf), (0, sub, mq + 1, now, first, upd da (40 * (2 * s + 0) + kp) (nI c), upd dl (2 * s + 0) (nI (kp + 1))), fun _ => Or.inl ⟨rfl, rfl, hsub, rfl, ⟨0, H, Z, C, B, T, F, G, E, kp + 1, ks, rfl, hb.put_p hp (mc_c hc32 hc) (pm_c hc), Or.inl ⟨rfl, Or.inl ⟨rfl, rfl⟩⟩⟩, Fr.put0 (by omega)⟩, tq_pe hc hk (by omega) hb.2.2.2.1.1, mq_e0 hc hk hmq hs hsub (by omega) hb.2.2.2.1.2.1⟩
    | false =>
      have hj0 : ¬ mq = 0 := by
        rw [hmq]
        refine nI_ne0 ?_ (by omega)
        by_cases h0 : j = 0
        · have := hqe.mpr h0; rw [hqv] at this; cases this
        · omega
      exact ⟨true, (sb, 0, false, false, pt_h, pm, h, z, cm, b, t, f, q, e, x, pn, pf, sn, sf), (0, sub, mq + 1, now, first, da, dl), fun _ => Or.inl ⟨rfl, rfl, hsub, rfl, ⟨0, H, Z, C, B, T, F, G, E, kp, ks, rfl, hb.stay (Or.inl rfl), Or.inl ⟨rfl, Or.inl ⟨rfl, rfl⟩⟩⟩, Fr.rf⟩, tq_n hc hk, mq_n0 hc hk hj0⟩
  · exact ⟨true, (sb, 0, true, false, pt_h, pm, h, z, cm, b, t, f, q, e, x, nI (kp + 1), upd pf kp (nI c), sn, sf), (1, sub, mq + 1, now, first, upd da (40 * (2 * s + 0) + kp) (nI c), upd dl (2 * s + 0) (nI (kp + 1))), fun _ => Or.inl ⟨rfl, rfl, hsub, rfl, ⟨0, H, Z, C, B, T, F, G, E, kp + 1, ks, rfl, hb.put_p hp (mc_c hc32 hc) (pm_c hc), Or.inr ⟨rfl, Or.inl ⟨rfl, rfl⟩, ⟨j + 1, by omega, by rw [hmq, nI_1], by simp⟩⟩⟩, Fr.put0 (by omega)⟩, tq_p hc hk (by omega) hb.2.2.2.1.1, mq_o0 hc hk hs hsub (by omega) hb.2.2.2.1.2.1⟩
theorem sim_q8 (hb : Bun pos s 8 pm h z cm b t f q e x pn pf sn sf now da dl H Z C B T F G E kp ks) (hq : ∃ j, j ≤ pos ∧ mq = nI j ∧ (qe = true ↔ j = 0)) (hp : pos < 40) (hs : s ≤ 1) (hsub : sub = nI s) (hc32 : 32 ≤ c) (hc : c ≤ 126) : ∃ (bb : Bool) (u : CTy) (v : MTy), (bb = true → Nx pos s sb mi pt_h pm h z cm b t f q e x pn pf sn sf now first da dl False u v) ∧ (∀ Q, Q bb u → wp_Mk_take sb mi 8 true qe pt_h pm h z cm b t f q e x pn pf sn sf (nI c) Q) ∧ (∀ Q, Q bb v → wp_M_step 11 sub mq now first da dl (nI c) Q) := by
  obtain ⟨j, hj, hmq, hqe⟩ := hq
  have hks := hb.2.2.2.2.2.2.1
  by_cases hk : c = 39
  · cases hqv : qe with
    | true =>
      have hj0 := hqe.mp hqv
      subst hj0
      exact ⟨true, (sb, 8, false, true, pt_h, pm, h, z, cm, b, t, f, q, e, x, pn, pf, nI (ks + 1), upd sf ks (nI c)), (10, sub, mq + 1, now, first, upd da (40 * (2 * s + 1) + ks) (nI c), upd dl (2 * s + 1) (nI (ks + 1))), fun _ => Or.inl ⟨rfl, rfl, hsub, rfl, ⟨8, H, Z, C, B, T, F, G, E, kp, ks + 1, rfl, hb.put_s hp (Or.inl rfl) (mc_c hc32 hc) (pm_c hc), Or.inl ⟨rfl, Or.inr (Or.inr (Or.inr (Or.inr (Or.inr (Or.inr (Or.inr (Or.inr (Or.inr ⟨rfl, rfl⟩))))))))⟩⟩, Fr.put1 (by omega)⟩, tq_se hc hk (by omega) hb.2.2.2.2.1.1, mq_e1 hc hk hmq hs hsub (by omega) hb.2.2.2.2.1.2.1⟩
    | false =>
      have hj0 : ¬ mq = 0 := by
        rw [hmq]
        refine nI_ne0 ?_ (by omega)
        by_cases h0 : j = 0
        · have := hqe.mpr h0; rw [hqv] at this; cases this
        · omega
      exact ⟨true, (sb, 8, false, false, pt_h, pm, h, z, cm, b, t, f, q, e, x, pn, pf, sn, sf), (10, sub, mq + 1, now, first, da, dl), fun _ => Or.inl ⟨rfl, rfl, hsub, rfl, ⟨8, H, Z, C, B, T, F, G, E, kp, ks, rfl, hb.stay (Or.inl rfl), Or.inl ⟨rfl, Or.inr (Or.inr (Or.inr (Or.inr (Or.inr (Or.inr (Or.inr (Or.inr (Or.inr ⟨rfl, rfl⟩))))))))⟩⟩, Fr.rf⟩, tq_n hc hk, mq_n1 hc hk hj0⟩
  · exact ⟨true, (sb, 8, true, false, pt_h, pm, h, z, cm, b, t, f, q, e, x, pn, pf, nI (ks + 1), upd sf ks (nI c)), (11, sub, mq + 1, now, first, upd da (40 * (2 * s + 1) + ks) (nI c), upd dl (2 * s + 1) (nI (ks + 1))), fun _ => Or.inl ⟨rfl, rfl, hsub, rfl, ⟨8, H, Z, C, B, T, F, G, E, kp, ks + 1, rfl, hb.put_s hp (Or.inl rfl) (mc_c hc32 hc) (pm_c hc), Or.inr ⟨rfl, Or.inr ⟨rfl, rfl⟩, ⟨j + 1, by omega, by rw [hmq, nI_1], by simp⟩⟩⟩, Fr.put1 (by omega)⟩, tq_s hc hk (by omega) hb.2.2.2.2.1.1, mq_o1 hc hk hs hsub (by omega) hb.2.2.2.2.1.2.1⟩
end SQ
/-- a sub that may end here: the number's end (class's stage, not in quotes) -/
def EndS (st0 : Int32) (qd : Bool) : Prop := qd = false ∧ (st0 = 1 ∨ st0 = 4 ∨ st0 = 7 ∨ st0 = 8)
theorem sim {pos s sb mi : Nat} {st0 : Int32} {qd qe pt_h pm x : Bool} {h z cm b t f q e pn sn ms mq sub : Int32} {pf sf now first da dl : Nat → Int32} {c : Nat} (hR : Rst pos s st0 qd qe pm h z cm b t f q e x pn pf sn sf ms mq now da dl) (hp : pos < 40) (hs : s ≤ 1) (hsub : sub = nI s) (hh : pt_h = decide (s = 1)) (hc32 : 32 ≤ c) (hc : c ≤ 126) :
    ∃ (bb : Bool) (u : CTy) (v : MTy), (bb = true → Nx pos s sb mi pt_h pm h z cm b t f q e x pn pf sn sf now first da dl (EndS st0 qd) u v) ∧ (∀ Q, Q bb u → wp_Mk_take sb mi st0 qd qe pt_h pm h z cm b t f q e x pn pf sn sf (nI c) Q) ∧ (∀ Q, Q bb v → wp_M_step ms sub mq now first da dl (nI c) Q) := by
  obtain ⟨st, H, Z, C, B, T, F, G, E, kp, ks, hst, hb, hph⟩ := hR
  have fin : ∀ {k : Nat} {u : CTy} {v : MTy}, (qd = false) → st0 = nI k → Nx pos s sb mi pt_h pm h z cm b t f q e x pn pf sn sf now first da dl (k = 1 ∨ k = 4 ∨ k = 7 ∨ k = 8) u v → Nx pos s sb mi pt_h pm h z cm b t f q e x pn pf sn sf now first da dl (EndS st0 qd) u v := by
    intro k u v h0 h1 hn
    rcases hn with hn | ⟨g1, g2, g3⟩
    · exact Or.inl hn
    · refine Or.inr ⟨g1, ⟨h0, ?_⟩, g3⟩
      rw [h1]
      rcases g2 with rfl | rfl | rfl | rfl
      · exact Or.inl rfl
      · exact Or.inr (Or.inl rfl)
      · exact Or.inr (Or.inr (Or.inl rfl))
      · exact Or.inr (Or.inr (Or.inr rfl))
  rcases hph with ⟨hq, hph⟩ | ⟨hq, hph, hj⟩
  · subst hq
    rcases hph with ⟨rfl, rfl⟩ | ⟨rfl, rfl⟩ | ⟨rfl, rfl⟩ | ⟨rfl, rfl⟩ | ⟨rfl, hFG, rfl⟩ | ⟨rfl, hFG, rfl⟩ | ⟨rfl, rfl⟩ | ⟨rfl, rfl⟩ | ⟨rfl, rfl⟩ | ⟨rfl, rfl⟩
    · obtain ⟨bb, u, v, h1, h2, h3⟩ := sim_0 (sb := sb) (mi := mi) (qe := qe) (mq := mq) (first := first) hb hp hs hsub hh hc32 hc
      exact ⟨bb, u, v, fun h => fin rfl hst (h1 h), by rw [hst]; exact h2, h3⟩
    · obtain ⟨bb, u, v, h1, h2, h3⟩ := sim_1 (sb := sb) (mi := mi) (qe := qe) (mq := mq) (first := first) hb hp hs hsub hh hc32 hc
      exact ⟨bb, u, v, fun h => fin rfl hst (h1 h), by rw [hst]; exact h2, h3⟩
    · obtain ⟨bb, u, v, h1, h2, h3⟩ := sim_2 (sb := sb) (mi := mi) (qe := qe) (mq := mq) (first := first) hb hp hs hsub hh hc32 hc
      exact ⟨bb, u, v, fun h => fin rfl hst (h1 h), by rw [hst]; exact h2, h3⟩
    · obtain ⟨bb, u, v, h1, h2, h3⟩ := sim_3 (sb := sb) (mi := mi) (qe := qe) (mq := mq) (first := first) hb hp hs hsub hh hc32 hc
      exact ⟨bb, u, v, fun h => fin rfl hst (h1 h), by rw [hst]; exact h2, h3⟩
    · obtain ⟨bb, u, v, h1, h2, h3⟩ := sim_4 (sb := sb) (mi := mi) (qe := qe) (mq := mq) (first := first) hb hFG hp hs hsub hh hc32 hc
      exact ⟨bb, u, v, fun h => fin rfl hst (h1 h), by rw [hst]; exact h2, h3⟩
    · obtain ⟨bb, u, v, h1, h2, h3⟩ := sim_5 (sb := sb) (mi := mi) (qe := qe) (mq := mq) (first := first) hb hFG hp hs hsub hh hc32 hc
      exact ⟨bb, u, v, fun h => fin rfl hst (h1 h), by rw [hst]; exact h2, h3⟩
    · obtain ⟨bb, u, v, h1, h2, h3⟩ := sim_6 (sb := sb) (mi := mi) (qe := qe) (mq := mq) (first := first) hb hp hs hsub hh hc32 hc
      exact ⟨bb, u, v, fun h => fin rfl hst (h1 h), by rw [hst]; exact h2, h3⟩
    · obtain ⟨bb, u, v, h1, h2, h3⟩ := sim_7 (sb := sb) (mi := mi) (qe := qe) (mq := mq) (first := first) hb hp hs hsub hh hc32 hc
      exact ⟨bb, u, v, fun h => fin rfl hst (h1 h), by rw [hst]; exact h2, h3⟩
    · obtain ⟨bb, u, v, h1, h2, h3⟩ := sim_8 (sb := sb) (mi := mi) (qe := qe) (mq := mq) (first := first) hb hp hs hsub hh hc32 hc
      exact ⟨bb, u, v, fun h => fin rfl hst (h1 h), by rw [hst]; exact h2, h3⟩
    · obtain ⟨bb, u, v, h1, h2, h3⟩ := sim_9 (sb := sb) (mi := mi) (qe := qe) (mq := mq) (first := first) hb hp hs hsub hh hc32 hc
      exact ⟨bb, u, v, fun h => fin rfl hst (h1 h), by rw [hst]; exact h2, h3⟩
  · subst hq
    rcases hph with ⟨rfl, rfl⟩ | ⟨rfl, rfl⟩
    · obtain ⟨bb, u, v, h1, h2, h3⟩ := sim_q0 (sb := sb) (mi := mi) (pt_h := pt_h) (first := first) hb hj hp hs hsub hc32 hc
      refine ⟨bb, u, v, fun h => ?_, by rw [hst]; exact h2, h3⟩
      rcases h1 h with h4 | ⟨_, g2, _⟩
      · exact Or.inl h4
      · exact g2.elim
    · obtain ⟨bb, u, v, h1, h2, h3⟩ := sim_q8 (sb := sb) (mi := mi) (pt_h := pt_h) (first := first) hb hj hp hs hsub hc32 hc
      refine ⟨bb, u, v, fun h => ?_, by rw [hst]; exact h2, h3⟩
      rcases h1 h with h4 | ⟨_, g2, _⟩
      · exact Or.inl h4
      · exact g2.elim
