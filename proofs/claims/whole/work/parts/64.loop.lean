/-- a sub that has ended: what stays of it when its numbers are copied -/
theorem Bun.pd {pos st : Nat} {pm : Bool} {h z cm b t f q e : Int32} {x : Bool} {pn : Int32} {pf : Nat → Int32} {sn : Int32} {sf now da dl first da' dl' : Nat → Int32} {H Z C B T F G E kp ks : Nat} (hb : Bun pos 0 st pm h z cm b t f q e x pn pf sn sf now da dl H Z C B T F G E kp ks) (hp : pos ≤ 40) (hend : st = 1 ∨ st = 4 ∨ st = 7 ∨ st = 8) (hf : ∀ j, j < 9 → first j = now j) (hda : da' = da) (hdl : dl' = dl ∨ dl' = upd (upd dl 2 0) 3 0) : PD pm h z cm b t f q e x pn pf sn sf first da' dl' := by
  subst hda
  obtain ⟨⟨a, b0, b1, b2, b3, b4, b5, b6, b7, b8⟩, h2, h3, h4, h5, h6, h7, h8⟩ := hb
  have d0 : dl' 0 = dl 0 := by rcases hdl with e | e <;> rw [e] <;> simp [upd]
  have d1 : dl' 1 = dl 1 := by rcases hdl with e | e <;> rw [e] <;> simp [upd]
  refine ⟨H, Z, C, B, T, F, G, E, kp, ks, ⟨a, ?_⟩, ?_, ?_, h3.2.2.2.1, ⟨h4.1, by rw [d0]; exact h4.2.1, h4.2.2⟩, ⟨h5.1, by rw [d1]; exact h5.2.1, h5.2.2⟩, by omega, by omega, h8⟩
  · refine ⟨?_, ?_, ?_, ?_, ?_, ?_, ?_, ?_, ?_⟩ <;> (rw [hf _ (by omega)]; assumption)
  · unfold Bd at h2 ⊢; omega
  · intro hC
    exact ⟨h3.1 hC, h3.2.1 hC (by omega)⟩
/-- the second sub begins -/
theorem rst1 {pos : Nat} {ms mq : Int32} {now da dl dl' pf sf : Nat → Int32} (h0 : ms = 0) (hn : ∀ j, j < 9 → now j = 0) (hdl : dl' = upd (upd dl 2 0) 3 0) : Rst pos 1 0 false false false 0 0 0 0 0 0 0 0 false 0 pf 0 sf ms mq now da dl' := by
  refine ⟨0, 0, 0, 0, 0, 0, 0, 0, 0, 0, 0, rfl, ⟨⟨⟨rfl, rfl, rfl, rfl, rfl, rfl, rfl, rfl⟩, hn 0 (by omega), hn 1 (by omega), hn 2 (by omega), hn 3 (by omega), hn 4 (by omega), hn 5 (by omega), hn 6 (by omega), hn 7 (by omega), hn 8 (by omega)⟩, ?_, ?_, ⟨rfl, ?_, fun i hi => absurd hi (Nat.not_lt_zero i)⟩, ⟨rfl, ?_, fun i hi => absurd hi (Nat.not_lt_zero i)⟩, by omega, by omega, ?_⟩, Or.inl ⟨rfl, Or.inl ⟨rfl, h0⟩⟩⟩
  · unfold Bd; omega
  · unfold Str; omega
  · rw [hdl]; simp [upd]; rfl
  · rw [hdl]; simp [upd]; rfl
  · exact ⟨fun z => (by cases z), fun z => by rcases z with ⟨i, hi, -⟩ | ⟨i, hi, -⟩ <;> exact absurd hi (Nat.not_lt_zero i)⟩
set_option maxHeartbeats 4000000 in
theorem loop1 {pt pl mi len : Nat} (hne : pl ≠ mi) (hlen : len ≤ 40) {dr_f m_dr : Nat → Int32} (hd : ∀ i, i < len → dr_f i = m_dr i ∧ 32 ≤ dr_f i ∧ dr_f i ≤ 126) {two : Bool} {has af al : Nat → Int32} : ∀ (d pos : Nat), pos + d = len → ∀ (st0 : Int32) (qd qe : Bool) (pl_pm : Bool) (pl_h : Int32) (pl_z : Int32) (pl_c : Int32) (pl_b : Int32) (pl_t : Int32) (pl_f : Int32) (pl_q : Int32) (pl_e : Int32) (pl_x : Bool) (pl_p_n : Int32) (pl_p_f : Nat → Int32) (pl_s_n : Int32) (pl_s_f : Nat → Int32) (mi_pm : Bool) (mi_h : Int32) (mi_z : Int32) (mi_c : Int32) (mi_b : Int32) (mi_t : Int32) (mi_f : Int32) (mi_q : Int32) (mi_e : Int32) (mi_x : Bool) (mi_p_n : Int32) (mi_p_f : Nat → Int32) (mi_s_n : Int32) (mi_s_f : Nat → Int32) (ms mq : Int32) (now first da dl : Nat → Int32), Rst pos 1 st0 qd qe mi_pm mi_h mi_z mi_c mi_b mi_t mi_f mi_q mi_e mi_x mi_p_n mi_p_f mi_s_n mi_s_f ms mq now da dl → PD pl_pm pl_h pl_z pl_c pl_b pl_t pl_f pl_q pl_e pl_x pl_p_n pl_p_f pl_s_n pl_s_f first da dl → ∃ (r : Int32) (U : KTy) (V : ATy) (n n2 : Nat), Res (nI len) two has af al r U V ∧ (∀ Q : Int32 → KTy → Prop, Q r U → wp_Mk_make_L190 n pt pl mi (nI len) dr_f (nI pos) mi st0 qd qe true pl_pm pl_h pl_z pl_c pl_b pl_t pl_f pl_q pl_e pl_x pl_p_n pl_p_f pl_s_n pl_s_f mi_pm mi_h mi_z mi_c mi_b mi_t mi_f mi_q mi_e mi_x mi_p_n mi_p_f mi_s_n mi_s_f Q) ∧ (∀ Q : Int32 → ATy → Prop, Q r V → wp_M_apply_L70 n2 m_dr (nI pos) (nI len) ms 1 mq two now first has da dl af al Q) := by
  intro d
  induction d with
  | zero =>
    intro pos hpos st0 qd qe pl_pm pl_h pl_z pl_c pl_b pl_t pl_f pl_q pl_e pl_x pl_p_n pl_p_f pl_s_n pl_s_f mi_pm mi_h mi_z mi_c mi_b mi_t mi_f mi_q mi_e mi_x mi_p_n mi_p_f mi_s_n mi_s_f ms mq now first da dl hR hPD
    obtain rfl : pos = len := by omega
    obtain ⟨st, H, Z, C, B, T, F, G, E, kp, ks, rfl, hb, hph⟩ := hR
    obtain ⟨h8, hend⟩ := ph_end hph
    obtain ⟨bb, hbb, hbw⟩ := s_ended h8
    have hle : nI pos ≤ nI pos := nI_le (Nat.le_refl _) (by omega)
    by_cases he : qd = false ∧ (st = 1 ∨ st = 4 ∨ st = 7 ∨ st = 8)
    · have hm := hend.mp he
      obtain ⟨hs2, r, ra, t1, t2, t3, t4, t5⟩ := s_tail (dr := m_dr) (now := now) (first := first) (has := has) (da := da) (dl := dl) (af := af) (al := al) (ds := nI pos) (st := ms) (sub := 1) (q := mq) (two := two) (s := 1) (by omega) rfl
      refine ⟨0, (pt, mi, nI st, qd, qe, true, pl_pm, pl_h, pl_z, pl_c, pl_b, pl_t, pl_f, pl_q, pl_e, pl_x, pl_p_n, pl_p_f, pl_s_n, pl_s_f, mi_pm, mi_h, mi_z, mi_c, mi_b, mi_t, mi_f, mi_q, mi_e, mi_x, mi_p_n, mi_p_f, mi_s_n, mi_s_f), (0, ms, 1, mq, true, now, first, hs2, da, dl, r, ra), 1, 1, ⟨fun _ => ⟨rfl, rfl, hPD.rel (two := true) t1 t2 t3 t4, fun _ => ⟨kp, ks, hb.2.2.2.1.copy (by have := hb.2.2.2.2.2.1; omega) (by omega) t3 (by show ra 2 = dl 2; rw [t4 2 (by omega)]; simp), hb.2.2.2.2.1.copy (by have := hb.2.2.2.2.2.2.1; omega) (by omega) t3 (by show ra 3 = dl 3; rw [t4 3 (by omega)]; simp), by have := hb.2.2.2.2.2.1; omega, by have := hb.2.2.2.2.2.2.1; omega⟩⟩, fun z => absurd rfl z⟩, fun Q hQ => ?_, fun Q hQ => s_mend hle hm Q ⟨fun _ => ⟨fun _ => t5 Q hQ, fun z => absurd z (by decide)⟩, fun z => (by cases z)⟩⟩
      unfold wp_Mk_make_L190
      exact ⟨fun z => absurd z.symm hne, fun _ => ⟨rfl, fun _ => hbw _ ⟨fun z => absurd (hbb.mpr he.2) (by rw [z]; simp), fun _ => ⟨fun z => absurd (he.1.symm.trans z) (by simp), fun _ => hQ⟩⟩, fun z => absurd hle z⟩⟩
    · refine ⟨nI pos + 1, (pt, mi, nI st, qd, qe, true, pl_pm, pl_h, pl_z, pl_c, pl_b, pl_t, pl_f, pl_q, pl_e, pl_x, pl_p_n, pl_p_f, pl_s_n, pl_s_f, mi_pm, mi_h, mi_z, mi_c, mi_b, mi_t, mi_f, mi_q, mi_e, mi_x, mi_p_n, mi_p_f, mi_s_n, mi_s_f), (nI pos, ms, 1, mq, two, now, first, has, da, dl, af, al), 1, 1, ⟨fun z => absurd z (by rw [nI_1]; exact nz pos (by omega)), fun _ => ⟨rfl, rfl, rfl, rfl, rfl⟩⟩, fun Q hQ => ?_, s_mendN hle (fun z => he (hend.mpr z))⟩
      unfold wp_Mk_make_L190
      exact ⟨fun z => absurd z.symm hne, fun _ => ⟨rfl, fun _ => hbw _ ⟨fun _ => hQ, fun z1 => ⟨fun _ => hQ, fun z2 => absurd ⟨z2, hbb.mp z1⟩ he⟩⟩, fun z => absurd hle z⟩⟩
  | succ d ih =>
    intro pos hpos st0 qd qe pl_pm pl_h pl_z pl_c pl_b pl_t pl_f pl_q pl_e pl_x pl_p_n pl_p_f pl_s_n pl_s_f mi_pm mi_h mi_z mi_c mi_b mi_t mi_f mi_q mi_e mi_x mi_p_n mi_p_f mi_s_n mi_s_f ms mq now first da dl hR hPD
    have hlt : pos < len := by omega
    obtain ⟨e1, e2, e3⟩ := hd pos hlt
    obtain ⟨c, hcd, c1, c2⟩ := code_of e2 e3
    obtain ⟨bb, u, v, hn, hcw, hmw⟩ := sim (sb := mi) (mi := mi) (pt_h := true) (first := first) (sub := 1) hR (by omega) (by omega) rfl rfl c1 c2
    have e4 : ¬ nI len ≤ nI pos := nI_ge hlt (by omega)
    have e5 : vp_in (nI pos) 40 := vp_in_nI (by omega) (by omega)
    have e6 : (nI pos).toNatClampNeg = pos := nI_clamp (by omega)
    rw [← hcd] at hcw
    rw [← hcd, e1] at hmw
    cases hbv : bb with
    | false =>
      refine ⟨nI pos + 1, (pt, u.1, u.2.1, u.2.2.1, u.2.2.2.1, u.2.2.2.2.1, pl_pm, pl_h, pl_z, pl_c, pl_b, pl_t, pl_f, pl_q, pl_e, pl_x, pl_p_n, pl_p_f, pl_s_n, pl_s_f, u.2.2.2.2.2.1, u.2.2.2.2.2.2.1, u.2.2.2.2.2.2.2.1, u.2.2.2.2.2.2.2.2.1, u.2.2.2.2.2.2.2.2.2.1, u.2.2.2.2.2.2.2.2.2.2.1, u.2.2.2.2.2.2.2.2.2.2.2.1, u.2.2.2.2.2.2.2.2.2.2.2.2.1, u.2.2.2.2.2.2.2.2.2.2.2.2.2.1, u.2.2.2.2.2.2.2.2.2.2.2.2.2.2.1, u.2.2.2.2.2.2.2.2.2.2.2.2.2.2.2.1, u.2.2.2.2.2.2.2.2.2.2.2.2.2.2.2.2.1, u.2.2.2.2.2.2.2.2.2.2.2.2.2.2.2.2.2.1, u.2.2.2.2.2.2.2.2.2.2.2.2.2.2.2.2.2.2), (nI len, v.1, v.2.1, v.2.2.1, two, v.2.2.2.1, v.2.2.2.2.1, has, v.2.2.2.2.2.1, v.2.2.2.2.2.2, af, al), 1, 1, ⟨fun z => absurd z (by rw [nI_1]; exact nz pos (by omega)), fun _ => ⟨rfl, rfl, rfl, rfl, rfl⟩⟩, fun Q hQ => ?_, fun Q hQ => ?_⟩
      · unfold wp_Mk_make_L190
        exact ⟨fun z => absurd z.symm hne, fun _ => ⟨rfl, fun z => absurd z e4, fun _ => s_code hlt hlen dr_f _ (hcw _ (by rw [hbv]; exact ⟨fun z => (by cases z), fun _ => hQ⟩))⟩⟩
      · unfold wp_M_apply_L70
        rw [e6]
        exact ⟨fun z => absurd z e4, fun _ => ⟨e5, hmw _ (by rw [hbv]; exact ⟨fun z => (by cases z), fun _ => hQ⟩)⟩⟩
    | true =>
      rcases hn hbv with ⟨g1, g2, g3, g4, g5, g6⟩ | ⟨g1, -⟩
      · obtain ⟨r, U, V, n, n2, hres, hc3, hm3⟩ := ih (pos + 1) (by omega) (u.2.1) (u.2.2.1) (u.2.2.2.1) pl_pm pl_h pl_z pl_c pl_b pl_t pl_f pl_q pl_e pl_x pl_p_n pl_p_f pl_s_n pl_s_f (u.2.2.2.2.2.1) (u.2.2.2.2.2.2.1) (u.2.2.2.2.2.2.2.1) (u.2.2.2.2.2.2.2.2.1) (u.2.2.2.2.2.2.2.2.2.1) (u.2.2.2.2.2.2.2.2.2.2.1) (u.2.2.2.2.2.2.2.2.2.2.2.1) (u.2.2.2.2.2.2.2.2.2.2.2.2.1) (u.2.2.2.2.2.2.2.2.2.2.2.2.2.1) (u.2.2.2.2.2.2.2.2.2.2.2.2.2.2.1) (u.2.2.2.2.2.2.2.2.2.2.2.2.2.2.2.1) (u.2.2.2.2.2.2.2.2.2.2.2.2.2.2.2.2.1) (u.2.2.2.2.2.2.2.2.2.2.2.2.2.2.2.2.2.1) (u.2.2.2.2.2.2.2.2.2.2.2.2.2.2.2.2.2.2) (v.1) (v.2.2.1) (v.2.2.2.1) first (v.2.2.2.2.2.1) (v.2.2.2.2.2.2) g5 (hPD.fr g6)
        refine ⟨r, U, V, n + 1, n2 + 1, hres, fun Q hQ => ?_, fun Q hQ => ?_⟩
        · have hh := hc3 Q hQ
          unfold wp_Mk_make_L190
          exact ⟨fun z => absurd z.symm hne, fun _ => ⟨rfl, fun z => absurd z e4, fun _ => s_code hlt hlen dr_f _ (hcw _ (by rw [hbv, g1, g2, nI_1]; exact ⟨fun _ => hh, fun z => (by cases z)⟩))⟩⟩
        · have hh := hm3 Q hQ
          unfold wp_M_apply_L70
          rw [e6]
          exact ⟨fun z => absurd z e4, fun _ => ⟨e5, hmw _ (by rw [hbv, g3, g4, nI_1]; exact ⟨fun _ => hh, fun z => (by cases z)⟩)⟩⟩
      · omega
set_option maxHeartbeats 4000000 in
theorem loop0 {pt pl mi len : Nat} (hne : pl ≠ mi) (hlen : len ≤ 40) {dr_f m_dr : Nat → Int32} (hd : ∀ i, i < len → dr_f i = m_dr i ∧ 32 ≤ dr_f i ∧ dr_f i ≤ 126) {two : Bool} {has af al : Nat → Int32} : ∀ (d pos : Nat), pos + d = len → ∀ (st0 : Int32) (qd qe : Bool) (pl_pm : Bool) (pl_h : Int32) (pl_z : Int32) (pl_c : Int32) (pl_b : Int32) (pl_t : Int32) (pl_f : Int32) (pl_q : Int32) (pl_e : Int32) (pl_x : Bool) (pl_p_n : Int32) (pl_p_f : Nat → Int32) (pl_s_n : Int32) (pl_s_f : Nat → Int32) (mi_p_f mi_s_f : Nat → Int32) (ms mq : Int32) (now first da dl : Nat → Int32), Rst pos 0 st0 qd qe pl_pm pl_h pl_z pl_c pl_b pl_t pl_f pl_q pl_e pl_x pl_p_n pl_p_f pl_s_n pl_s_f ms mq now da dl → ∃ (r : Int32) (U : KTy) (V : ATy) (n n2 : Nat), Res (nI len) two has af al r U V ∧ (∀ Q : Int32 → KTy → Prop, Q r U → wp_Mk_make_L190 n pt pl mi (nI len) dr_f (nI pos) pl st0 qd qe false pl_pm pl_h pl_z pl_c pl_b pl_t pl_f pl_q pl_e pl_x pl_p_n pl_p_f pl_s_n pl_s_f false 0 0 0 0 0 0 0 0 false 0 mi_p_f 0 mi_s_f Q) ∧ (∀ Q : Int32 → ATy → Prop, Q r V → wp_M_apply_L70 n2 m_dr (nI pos) (nI len) ms 0 mq two now first has da dl af al Q) := by
  intro d
  induction d with
  | zero =>
    intro pos hpos st0 qd qe pl_pm pl_h pl_z pl_c pl_b pl_t pl_f pl_q pl_e pl_x pl_p_n pl_p_f pl_s_n pl_s_f mi_p_f mi_s_f ms mq now first da dl hR
    obtain rfl : pos = len := by omega
    obtain ⟨st, H, Z, C, B, T, F, G, E, kp, ks, rfl, hb, hph⟩ := hR
    obtain ⟨h8, hend⟩ := ph_end hph
    obtain ⟨bb, hbb, hbw⟩ := s_ended h8
    have hle : nI pos ≤ nI pos := nI_le (Nat.le_refl _) (by omega)
    by_cases he : qd = false ∧ (st = 1 ∨ st = 4 ∨ st = 7 ∨ st = 8)
    · have hm := hend.mp he
      obtain ⟨fc, hfc, hfw⟩ := s_copy now first
      obtain ⟨hs2, r, ra, t1, t2, t3, t4, t5⟩ := s_tail (dr := m_dr) (now := now) (first := fc) (has := has) (da := da) (dl := dl) (af := af) (al := al) (ds := nI pos) (st := ms) (sub := 0) (q := mq) (two := two) (s := 0) (by omega) rfl
      have hPD := hb.pd (by omega) he.2 hfc rfl (Or.inl rfl)
      refine ⟨0, (pt, pl, nI st, qd, qe, false, pl_pm, pl_h, pl_z, pl_c, pl_b, pl_t, pl_f, pl_q, pl_e, pl_x, pl_p_n, pl_p_f, pl_s_n, pl_s_f, false, 0, 0, 0, 0, 0, 0, 0, 0, false, 0, mi_p_f, 0, mi_s_f), (0, ms, 0, mq, false, now, fc, hs2, da, dl, r, ra), 1, 1, ⟨fun _ => ⟨rfl, rfl, hPD.rel (two := false) t1 t2 t3 t4, fun z => (by cases z)⟩, fun z => absurd rfl z⟩, fun Q hQ => ?_, fun Q hQ => s_mend hle hm Q ⟨fun _ => ⟨fun z => absurd rfl z, fun _ => hfw _ (t5 Q hQ)⟩, fun z => (by cases z)⟩⟩
      unfold wp_Mk_make_L190
      exact ⟨fun _ => ⟨fun _ => hbw _ ⟨fun z => absurd (hbb.mpr he.2) (by rw [z]; simp), fun _ => ⟨fun z => absurd (he.1.symm.trans z) (by simp), fun _ => hQ⟩⟩, fun z => absurd hle z⟩, fun z => absurd rfl z⟩
    · refine ⟨nI pos + 1, (pt, pl, nI st, qd, qe, false, pl_pm, pl_h, pl_z, pl_c, pl_b, pl_t, pl_f, pl_q, pl_e, pl_x, pl_p_n, pl_p_f, pl_s_n, pl_s_f, false, 0, 0, 0, 0, 0, 0, 0, 0, false, 0, mi_p_f, 0, mi_s_f), (nI pos, ms, 0, mq, two, now, first, has, da, dl, af, al), 1, 1, ⟨fun z => absurd z (by rw [nI_1]; exact nz pos (by omega)), fun _ => ⟨rfl, rfl, rfl, rfl, rfl⟩⟩, fun Q hQ => ?_, s_mendN hle (fun z => he (hend.mpr z))⟩
      unfold wp_Mk_make_L190
      exact ⟨fun _ => ⟨fun _ => hbw _ ⟨fun _ => hQ, fun z1 => ⟨fun _ => hQ, fun z2 => absurd ⟨z2, hbb.mp z1⟩ he⟩⟩, fun z => absurd hle z⟩, fun z => absurd rfl z⟩
  | succ d ih =>
    intro pos hpos st0 qd qe pl_pm pl_h pl_z pl_c pl_b pl_t pl_f pl_q pl_e pl_x pl_p_n pl_p_f pl_s_n pl_s_f mi_p_f mi_s_f ms mq now first da dl hR
    have hlt : pos < len := by omega
    obtain ⟨e1, e2, e3⟩ := hd pos hlt
    obtain ⟨c, hcd, c1, c2⟩ := code_of e2 e3
    obtain ⟨bb, u, v, hn, hcw, hmw⟩ := sim (sb := pl) (mi := mi) (pt_h := false) (first := first) (sub := 0) hR (by omega) (by omega) rfl rfl c1 c2
    have e4 : ¬ nI len ≤ nI pos := nI_ge hlt (by omega)
    have e5 : vp_in (nI pos) 40 := vp_in_nI (by omega) (by omega)
    have e6 : (nI pos).toNatClampNeg = pos := nI_clamp (by omega)
    rw [← hcd] at hcw
    rw [← hcd, e1] at hmw
    cases hbv : bb with
    | false =>
      refine ⟨nI pos + 1, (pt, u.1, u.2.1, u.2.2.1, u.2.2.2.1, u.2.2.2.2.1, u.2.2.2.2.2.1, u.2.2.2.2.2.2.1, u.2.2.2.2.2.2.2.1, u.2.2.2.2.2.2.2.2.1, u.2.2.2.2.2.2.2.2.2.1, u.2.2.2.2.2.2.2.2.2.2.1, u.2.2.2.2.2.2.2.2.2.2.2.1, u.2.2.2.2.2.2.2.2.2.2.2.2.1, u.2.2.2.2.2.2.2.2.2.2.2.2.2.1, u.2.2.2.2.2.2.2.2.2.2.2.2.2.2.1, u.2.2.2.2.2.2.2.2.2.2.2.2.2.2.2.1, u.2.2.2.2.2.2.2.2.2.2.2.2.2.2.2.2.1, u.2.2.2.2.2.2.2.2.2.2.2.2.2.2.2.2.2.1, u.2.2.2.2.2.2.2.2.2.2.2.2.2.2.2.2.2.2, false, 0, 0, 0, 0, 0, 0, 0, 0, false, 0, mi_p_f, 0, mi_s_f), (nI len, v.1, v.2.1, v.2.2.1, two, v.2.2.2.1, v.2.2.2.2.1, has, v.2.2.2.2.2.1, v.2.2.2.2.2.2, af, al), 1, 1, ⟨fun z => absurd z (by rw [nI_1]; exact nz pos (by omega)), fun _ => ⟨rfl, rfl, rfl, rfl, rfl⟩⟩, fun Q hQ => ?_, fun Q hQ => ?_⟩
      · unfold wp_Mk_make_L190
        exact ⟨fun _ => ⟨fun z => absurd z e4, fun _ => s_code hlt hlen dr_f _ (hcw _ (by rw [hbv]; exact ⟨fun z => (by cases z), fun _ => hQ⟩))⟩, fun z => absurd rfl z⟩
      · unfold wp_M_apply_L70
        rw [e6]
        exact ⟨fun z => absurd z e4, fun _ => ⟨e5, hmw _ (by rw [hbv]; exact ⟨fun z => (by cases z), fun _ => hQ⟩)⟩⟩
    | true =>
      rcases hn hbv with ⟨g1, g2, g3, g4, g5, g6⟩ | ⟨-, g2, g3, g4, g5, g6, g7, g8, g9⟩
      · obtain ⟨r, U, V, n, n2, hres, hc3, hm3⟩ := ih (pos + 1) (by omega) (u.2.1) (u.2.2.1) (u.2.2.2.1) (u.2.2.2.2.2.1) (u.2.2.2.2.2.2.1) (u.2.2.2.2.2.2.2.1) (u.2.2.2.2.2.2.2.2.1) (u.2.2.2.2.2.2.2.2.2.1) (u.2.2.2.2.2.2.2.2.2.2.1) (u.2.2.2.2.2.2.2.2.2.2.2.1) (u.2.2.2.2.2.2.2.2.2.2.2.2.1) (u.2.2.2.2.2.2.2.2.2.2.2.2.2.1) (u.2.2.2.2.2.2.2.2.2.2.2.2.2.2.1) (u.2.2.2.2.2.2.2.2.2.2.2.2.2.2.2.1) (u.2.2.2.2.2.2.2.2.2.2.2.2.2.2.2.2.1) (u.2.2.2.2.2.2.2.2.2.2.2.2.2.2.2.2.2.1) (u.2.2.2.2.2.2.2.2.2.2.2.2.2.2.2.2.2.2) mi_p_f mi_s_f (v.1) (v.2.2.1) (v.2.2.2.1) first (v.2.2.2.2.2.1) (v.2.2.2.2.2.2) g5
        refine ⟨r, U, V, n + 1, n2 + 1, hres, fun Q hQ => ?_, fun Q hQ => ?_⟩
        · have hh := hc3 Q hQ
          unfold wp_Mk_make_L190
          exact ⟨fun _ => ⟨fun z => absurd z e4, fun _ => s_code hlt hlen dr_f _ (hcw _ (by rw [hbv, g1, g2, nI_1]; exact ⟨fun _ => hh, fun z => (by cases z)⟩))⟩, fun z => absurd rfl z⟩
        · have hh := hm3 Q hQ
          unfold wp_M_apply_L70
          rw [e6]
          exact ⟨fun z => absurd z e4, fun _ => ⟨e5, hmw _ (by rw [hbv, g3, g4, nI_1]; exact ⟨fun _ => hh, fun z => (by cases z)⟩)⟩⟩
      · obtain ⟨st, H, Z, C, B, T, F, G, E, kp, ks, hst, hb, hph⟩ := hR
        have hst8 : st < 100 := by have := (ph_end hph).1; omega
        have hend : st = 1 ∨ st = 4 ∨ st = 7 ∨ st = 8 := by
          have h8 := hb.2.2.1
          obtain ⟨-, w⟩ := g2
          rw [hst] at w
          have st40 : st < 100 := hst8
          rcases w with w | w | w | w
          · exact Or.inl ((nI_eq (b := 1) (by omega) (by omega)).mp w)
          · exact Or.inr (Or.inl ((nI_eq (b := 4) (by omega) (by omega)).mp w))
          · exact Or.inr (Or.inr (Or.inl ((nI_eq (b := 7) (by omega) (by omega)).mp w)))
          · exact Or.inr (Or.inr (Or.inr ((nI_eq (b := 8) (by omega) (by omega)).mp w)))
        have hPD : PD pl_pm pl_h pl_z pl_c pl_b pl_t pl_f pl_q pl_e pl_x pl_p_n pl_p_f pl_s_n pl_s_f (v.2.2.2.2.1) (v.2.2.2.2.2.1) (v.2.2.2.2.2.2) := hb.pd (by omega) hend g7 g8 (Or.inr g9)
        have hR1 : Rst (pos + 1) 1 0 false false false 0 0 0 0 0 0 0 0 false 0 mi_p_f 0 mi_s_f (v.1) (v.2.2.1) (v.2.2.2.1) (v.2.2.2.2.2.1) (v.2.2.2.2.2.2) := rst1 g4 g6 g9
        obtain ⟨r, U, V, n, n2, hres, hc3, hm3⟩ := loop1 (pt := pt) hne hlen hd d (pos + 1) (by omega) 0 false false pl_pm pl_h pl_z pl_c pl_b pl_t pl_f pl_q pl_e pl_x pl_p_n pl_p_f pl_s_n pl_s_f false 0 0 0 0 0 0 0 0 false 0 mi_p_f 0 mi_s_f (v.1) (v.2.2.1) (v.2.2.2.1) (v.2.2.2.2.1) (v.2.2.2.2.2.1) (v.2.2.2.2.2.2) hR1 hPD
        refine ⟨r, U, V, n + 1, n2 + 1, hres, fun Q hQ => ?_, fun Q hQ => ?_⟩
        · have hh := hc3 Q hQ
          unfold wp_Mk_make_L190
          exact ⟨fun _ => ⟨fun z => absurd z e4, fun _ => s_code hlt hlen dr_f _ (hcw _ (by rw [hbv, g3, nI_1]; exact ⟨fun _ => hh, fun z => (by cases z)⟩))⟩, fun z => absurd rfl z⟩
        · have hh := hm3 Q hQ
          unfold wp_M_apply_L70
          rw [e6]
          exact ⟨fun z => absurd z e4, fun _ => ⟨e5, hmw _ (by rw [hbv, g5, nI_1]; exact ⟨fun _ => hh, fun z => (by cases z)⟩)⟩⟩
