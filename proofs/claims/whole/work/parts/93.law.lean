/-! the law: every step keeps the two alike -/
abbrev RP (ph : Bool) (pm : Bool) (h : Int32) (z : Int32) (c : Int32) (b : Int32) (t : Int32) (f : Int32) (q : Int32) (e : Int32) (x : Bool) (p_n : Int32) (p_f : Nat → Int32) (s_n : Int32) (s_f : Nat → Int32) (mp_n : Int32) (mp_f : Nat → Int32) (ms_n : Int32) (ms_f : Nat → Int32) (two : Bool) (has : Nat → Int32) (af : Nat → Int32) (al : Nat → Int32) : Prop := ph = two ∧ RelSub pm h z c b t f q e x p_n p_f s_n s_f has af al ∧ RelMin two mp_n mp_f ms_n ms_f af al
abbrev RL (ob_p : Nat) (ob_q : Nat) (pa : Nat) (pb : Nat) (ob_fs : Int64) (ob_fc : Int32) (dr_n : Int32) (dr_f : Nat → Int32) (tx_n : Int32) (tx_f : Nat → Int32) (sy_l : Int32) (sy_f : Nat → Int32) (pa_h : Bool) (qa_pm : Bool) (qa_h : Int32) (qa_z : Int32) (qa_c : Int32) (qa_b : Int32) (qa_t : Int32) (qa_f : Int32) (qa_q : Int32) (qa_e : Int32) (qa_x : Bool) (qa_p_n : Int32) (qa_p_f : Nat → Int32) (qa_s_n : Int32) (qa_s_f : Nat → Int32) (na_p_n : Int32) (na_p_f : Nat → Int32) (na_s_n : Int32) (na_s_f : Nat → Int32) (pb_h : Bool) (qb_pm : Bool) (qb_h : Int32) (qb_z : Int32) (qb_c : Int32) (qb_b : Int32) (qb_t : Int32) (qb_f : Int32) (qb_q : Int32) (qb_e : Int32) (qb_x : Bool) (qb_p_n : Int32) (qb_p_f : Nat → Int32) (qb_s_n : Int32) (qb_s_f : Nat → Int32) (nb_p_n : Int32) (nb_p_f : Nat → Int32) (nb_s_n : Int32) (nb_s_f : Nat → Int32) (m_ds : Int32) (m_two : Bool) (m_least : Int32) (m_ts : Int32) (m_fs : Int64) (m_fc : Int32) (m_dr : Nat → Int32) (m_has : Nat → Int32) (m_af : Nat → Int32) (m_al : Nat → Int32) (m_sy : Nat → Int32) (m_tx : Nat → Int32) : Prop := RelDr dr_n dr_f m_ds m_dr ∧ RelTx tx_n tx_f m_ts m_tx ∧ RelSy sy_f m_sy ∧ m_least = sy_l ∧ 1 ≤ sy_l ∧ sy_l ≤ 9 ∧ m_fs = ob_fs ∧ m_fc = ob_fc ∧ ((ob_p = pa ∧ ob_q = pb ∧ RP pa_h qa_pm qa_h qa_z qa_c qa_b qa_t qa_f qa_q qa_e qa_x qa_p_n qa_p_f qa_s_n qa_s_f na_p_n na_p_f na_s_n na_s_f m_two m_has m_af m_al) ∨ (ob_p = pb ∧ ob_q = pa ∧ RP pb_h qb_pm qb_h qb_z qb_c qb_b qb_t qb_f qb_q qb_e qb_x qb_p_n qb_p_f qb_s_n qb_s_f nb_p_n nb_p_f nb_s_n nb_s_f m_two m_has m_af m_al))
theorem c_code (y : Int32) : ∃ c : Nat, c ≤ 65535 ∧ (y.toUInt32 % 65536).toInt32 = nI c := by
  refine ⟨(y.toUInt32 % 65536).toNat, ?_, ?_⟩
  · have : (y.toUInt32 % 65536).toNat = y.toUInt32.toNat % 65536 := UInt32.toNat_mod _ _
    rw [this]; omega
  · show (y.toUInt32 % 65536).toInt32 = Int32.ofNat (y.toUInt32 % 65536).toNat
    generalize y.toUInt32 % 65536 = u
    apply Int32.toBitVec_inj.mp
    simp
set_option maxHeartbeats 4000000 in
set_option maxRecDepth 100000 in
theorem law_half_a {L : Nat} {xs : Nat → Int32} {pa qa na pb qb nb : Nat} (hab : pa ≠ pb) (hqa : qa ≠ na) (hqb : qb ≠ nb) {i : Nat} (hi : i ≤ 5000) (hL : L ≤ 2560) (K : Int32 → Nat → Nat → Int64 → Int32 → Int32 → (Nat → Int32) → Int32 → (Nat → Int32) → Int32 → (Nat → Int32) → Nat → Nat → Int32 → Bool → Bool → Int32 → (Nat → Int32) → (Nat → Int32) → Int64 → Int32 → Int32 → Int32 → Int32 → Bool → Bool → Bool → Int32 → Int32 → Int32 → Int32 → Int32 → Int32 → Int32 → Int32 → Bool → Int32 → (Nat → Int32) → Int32 → (Nat → Int32) → Bool → Int32 → Int32 → Int32 → Int32 → Int32 → Int32 → Int32 → Int32 → Bool → Int32 → (Nat → Int32) → Int32 → (Nat → Int32) → Bool → Bool → Int32 → Int32 → Int32 → Int32 → Int32 → Int32 → Int32 → Int32 → Bool → Int32 → (Nat → Int32) → Int32 → (Nat → Int32) → Bool → Int32 → Int32 → Int32 → Int32 → Int32 → Int32 → Int32 → Int32 → Bool → Int32 → (Nat → Int32) → Int32 → (Nat → Int32) → Int32 → Int32 → Int32 → Int32 → Bool → Int32 → Int32 → Int32 → Int64 → Int32 → Int64 → Int32 → (Nat → Int32) → (Nat → Int32) → (Nat → Int32) → (Nat → Int32) → (Nat → Int32) → (Nat → Int32) → (Nat → Int32) → (Nat → Int32) → (Nat → Int32) → (Nat → Int32) → (Nat → Int32) → (Nat → Int32) → Prop)
    (hK : ∀ {ob_p : Nat} {ob_q : Nat} {ob_fs : Int64} {ob_fc : Int32} {dr_n : Int32} {dr_f : Nat → Int32} {tx_n : Int32} {tx_f : Nat → Int32} {sy_l : Int32} {sy_f : Nat → Int32} {mk_g : Nat} {mk_s : Nat} {mk_st : Int32} {mk_qd : Bool} {mk_qe : Bool} {pg_n : Int32} {pg_f : Nat → Int32} {am_f : Nat → Int32} {fi_w : Int64} {fi_p : Int32} {fi_t : Int32} {fi_z : Int32} {fi_e : Int32} {fi_n : Bool} {pa_h : Bool} {qa_pm : Bool} {qa_h : Int32} {qa_z : Int32} {qa_c : Int32} {qa_b : Int32} {qa_t : Int32} {qa_f : Int32} {qa_q : Int32} {qa_e : Int32} {qa_x : Bool} {qa_p_n : Int32} {qa_p_f : Nat → Int32} {qa_s_n : Int32} {qa_s_f : Nat → Int32} {na_pm : Bool} {na_h : Int32} {na_z : Int32} {na_c : Int32} {na_b : Int32} {na_t : Int32} {na_f : Int32} {na_q : Int32} {na_e : Int32} {na_x : Bool} {na_p_n : Int32} {na_p_f : Nat → Int32} {na_s_n : Int32} {na_s_f : Nat → Int32} {pb_h : Bool} {qb_pm : Bool} {qb_h : Int32} {qb_z : Int32} {qb_c : Int32} {qb_b : Int32} {qb_t : Int32} {qb_f : Int32} {qb_q : Int32} {qb_e : Int32} {qb_x : Bool} {qb_p_n : Int32} {qb_p_f : Nat → Int32} {qb_s_n : Int32} {qb_s_f : Nat → Int32} {nb_pm : Bool} {nb_h : Int32} {nb_z : Int32} {nb_c : Int32} {nb_b : Int32} {nb_t : Int32} {nb_f : Int32} {nb_q : Int32} {nb_e : Int32} {nb_x : Bool} {nb_p_n : Int32} {nb_p_f : Nat → Int32} {nb_s_n : Int32} {nb_s_f : Nat → Int32} {m_ds : Int32} {m_st : Int32} {m_sub : Int32} {m_q : Int32} {m_two : Bool} {m_least : Int32} {m_os : Int32} {m_ts : Int32} {m_fs : Int64} {m_fc : Int32} {m_g : Int64} {m_gs : Int32} {m_dr : Nat → Int32} {m_now : Nat → Int32} {m_first : Nat → Int32} {m_has : Nat → Int32} {m_da : Nat → Int32} {m_dl : Nat → Int32} {m_af : Nat → Int32} {m_al : Nat → Int32} {m_sy : Nat → Int32} {m_dg : Nat → Int32} {m_out : Nat → Int32} {m_tx : Nat → Int32}, i + 5 ≤ L → RL ob_p ob_q pa pb ob_fs ob_fc dr_n dr_f tx_n tx_f sy_l sy_f pa_h qa_pm qa_h qa_z qa_c qa_b qa_t qa_f qa_q qa_e qa_x qa_p_n qa_p_f qa_s_n qa_s_f na_p_n na_p_f na_s_n na_s_f pb_h qb_pm qb_h qb_z qb_c qb_b qb_t qb_f qb_q qb_e qb_x qb_p_n qb_p_f qb_s_n qb_s_f nb_p_n nb_p_f nb_s_n nb_s_f m_ds m_two m_least m_ts m_fs m_fc m_dr m_has m_af m_al m_sy m_tx → K (nI i + 5) ob_p ob_q ob_fs ob_fc dr_n dr_f tx_n tx_f sy_l sy_f mk_g mk_s mk_st mk_qd mk_qe pg_n pg_f am_f fi_w fi_p fi_t fi_z fi_e fi_n pa_h qa_pm qa_h qa_z qa_c qa_b qa_t qa_f qa_q qa_e qa_x qa_p_n qa_p_f qa_s_n qa_s_f na_pm na_h na_z na_c na_b na_t na_f na_q na_e na_x na_p_n na_p_f na_s_n na_s_f pb_h qb_pm qb_h qb_z qb_c qb_b qb_t qb_f qb_q qb_e qb_x qb_p_n qb_p_f qb_s_n qb_s_f nb_pm nb_h nb_z nb_c nb_b nb_t nb_f nb_q nb_e nb_x nb_p_n nb_p_f nb_s_n nb_s_f m_ds m_st m_sub m_q m_two m_least m_os m_ts m_fs m_fc m_g m_gs m_dr m_now m_first m_has m_da m_dl m_af m_al m_sy m_dg m_out m_tx)
    {ob_p : Nat} {ob_q : Nat} {ob_fs : Int64} {ob_fc : Int32} {dr_n : Int32} {dr_f : Nat → Int32} {tx_n : Int32} {tx_f : Nat → Int32} {sy_l : Int32} {sy_f : Nat → Int32} {mk_g : Nat} {mk_s : Nat} {mk_st : Int32} {mk_qd : Bool} {mk_qe : Bool} {pg_n : Int32} {pg_f : Nat → Int32} {am_f : Nat → Int32} {fi_w : Int64} {fi_p : Int32} {fi_t : Int32} {fi_z : Int32} {fi_e : Int32} {fi_n : Bool} {pa_h : Bool} {qa_pm : Bool} {qa_h : Int32} {qa_z : Int32} {qa_c : Int32} {qa_b : Int32} {qa_t : Int32} {qa_f : Int32} {qa_q : Int32} {qa_e : Int32} {qa_x : Bool} {qa_p_n : Int32} {qa_p_f : Nat → Int32} {qa_s_n : Int32} {qa_s_f : Nat → Int32} {na_pm : Bool} {na_h : Int32} {na_z : Int32} {na_c : Int32} {na_b : Int32} {na_t : Int32} {na_f : Int32} {na_q : Int32} {na_e : Int32} {na_x : Bool} {na_p_n : Int32} {na_p_f : Nat → Int32} {na_s_n : Int32} {na_s_f : Nat → Int32} {pb_h : Bool} {qb_pm : Bool} {qb_h : Int32} {qb_z : Int32} {qb_c : Int32} {qb_b : Int32} {qb_t : Int32} {qb_f : Int32} {qb_q : Int32} {qb_e : Int32} {qb_x : Bool} {qb_p_n : Int32} {qb_p_f : Nat → Int32} {qb_s_n : Int32} {qb_s_f : Nat → Int32} {nb_pm : Bool} {nb_h : Int32} {nb_z : Int32} {nb_c : Int32} {nb_b : Int32} {nb_t : Int32} {nb_f : Int32} {nb_q : Int32} {nb_e : Int32} {nb_x : Bool} {nb_p_n : Int32} {nb_p_f : Nat → Int32} {nb_s_n : Int32} {nb_s_f : Nat → Int32} {m_ds : Int32} {m_st : Int32} {m_sub : Int32} {m_q : Int32} {m_two : Bool} {m_least : Int32} {m_os : Int32} {m_ts : Int32} {m_fs : Int64} {m_fc : Int32} {m_g : Int64} {m_gs : Int32} {m_dr : Nat → Int32} {m_now : Nat → Int32} {m_first : Nat → Int32} {m_has : Nat → Int32} {m_da : Nat → Int32} {m_dl : Nat → Int32} {m_af : Nat → Int32} {m_al : Nat → Int32} {m_sy : Nat → Int32} {m_dg : Nat → Int32} {m_out : Nat → Int32} {m_tx : Nat → Int32} (hR : RL ob_p ob_q pa pb ob_fs ob_fc dr_n dr_f tx_n tx_f sy_l sy_f pa_h qa_pm qa_h qa_z qa_c qa_b qa_t qa_f qa_q qa_e qa_x qa_p_n qa_p_f qa_s_n qa_s_f na_p_n na_p_f na_s_n na_s_f pb_h qb_pm qb_h qb_z qb_c qb_b qb_t qb_f qb_q qb_e qb_x qb_p_n qb_p_f qb_s_n qb_s_f nb_p_n nb_p_f nb_s_n nb_s_f m_ds m_two m_least m_ts m_fs m_fc m_dr m_has m_af m_al m_sy m_tx) (hp : ob_p = pa) : wp_law_B L xs pa qa na pb qb nb K (nI i) ob_p ob_q ob_fs ob_fc dr_n dr_f tx_n tx_f sy_l sy_f mk_g mk_s mk_st mk_qd mk_qe pg_n pg_f am_f fi_w fi_p fi_t fi_z fi_e fi_n pa_h qa_pm qa_h qa_z qa_c qa_b qa_t qa_f qa_q qa_e qa_x qa_p_n qa_p_f qa_s_n qa_s_f na_pm na_h na_z na_c na_b na_t na_f na_q na_e na_x na_p_n na_p_f na_s_n na_s_f pb_h qb_pm qb_h qb_z qb_c qb_b qb_t qb_f qb_q qb_e qb_x qb_p_n qb_p_f qb_s_n qb_s_f nb_pm nb_h nb_z nb_c nb_b nb_t nb_f nb_q nb_e nb_x nb_p_n nb_p_f nb_s_n nb_s_f m_ds m_st m_sub m_q m_two m_least m_os m_ts m_fs m_fc m_g m_gs m_dr m_now m_first m_has m_da m_dl m_af m_al m_sy m_dg m_out m_tx := by
  have hR0 := hR
  obtain ⟨hDr, hTx, hSy, hl, hl1, hl9, hfs, hfc, hP⟩ := hR
  obtain ⟨hq, hph, hsub, hmin⟩ : ob_q = pb ∧ RP pa_h qa_pm qa_h qa_z qa_c qa_b qa_t qa_f qa_q qa_e qa_x qa_p_n qa_p_f qa_s_n qa_s_f na_p_n na_p_f na_s_n na_s_f m_two m_has m_af m_al := by
    rcases hP with ⟨-, h1, h2⟩ | ⟨h1, -, -⟩
    · exact ⟨h1, h2⟩
    · exact absurd (hp.symm.trans h1) hab
  clear hP
  subst hl hfs hfc hph
  have hp := hp.symm
  have hq := hq.symm
  subst hp hq
  have e5 : nI L - 5 = iI ((L : Int) - 5) := by
    have : (5 : Int32) = iI 5 := by decide
    rw [this, nI_iI, iI_sub]
  have hlt : (nI L - 5 < nI i) = (L < i + 5) := by
    rw [e5, nI_iI, cLt (by omega) (by omega) (by omega) (by omega)]
    exact propext ⟨fun y => (by omega), fun y => (by omega)⟩
  obtain ⟨a, ha, rfl⟩ : ∃ a : Nat, a ≤ 9 ∧ m_least = nI a := by
    have hneg : ¬ m_least < 0 := fun y => by
      rw [Int32.lt_iff_toInt_lt] at y
      rw [Int32.le_iff_toInt_le] at hl1
      have z0 : (0 : Int32).toInt = 0 := by decide
      have z1 : (1 : Int32).toInt = 1 := by decide
      omega
    exact nI_of2 (M := 9) (n := 9) (by decide) hneg hl9
  unfold wp_law_B
  rw [hlt]
  refine ⟨fun _ => ⟨rfl, fun _ => trivial, fun hx => ?_⟩, fun y => absurd rfl y⟩
  have h5 : i + 5 ≤ L := by omega
  have v0 : vp_in (nI i) L := vp_in_nI (by omega) (by omega)
  have v1 : vp_in (nI i + 1) L := by
    have : (1 : Int32) = nI 1 := rfl
    rw [this, nI_add]; exact vp_in_nI (by omega) (by omega)
  have v2 : vp_in (nI i + 2) L := by
    have : (2 : Int32) = nI 2 := rfl
    rw [this, nI_add]; exact vp_in_nI (by omega) (by omega)
  have v3 : vp_in (nI i + 3) L := by
    have : (3 : Int32) = nI 3 := rfl
    rw [this, nI_add]; exact vp_in_nI (by omega) (by omega)
  have v4 : vp_in (nI i + 4) L := by
    have : (4 : Int32) = nI 4 := rfl
    rw [this, nI_add]; exact vp_in_nI (by omega) (by omega)
  refine ⟨v0, fun _ => ?_, fun _ => ?_, fun _ => ?_, fun _ => ?_, fun _ => ?_, fun _ => ?_, fun _ => ?_, fun _ => ?_, fun _ => ?_, fun _ => ?_, fun _ => ?_, fun _ => ?_, fun _ => ?_, fun _ _ _ _ _ _ _ _ _ _ _ _ _ => hK h5 hR0⟩
  · obtain ⟨b, u, v, hr, hc, hm⟩ := op_draft hDr (cd := ((xs (nI i + 1).toNatClampNeg).toUInt32 % 65536).toInt32)
    exact ⟨v1, hc _ ⟨v1, hm _ ⟨fun _ => hK h5 ⟨hr, hTx, hSy, rfl, hl1, hl9, rfl, rfl, (Or.inl ⟨rfl, rfl, rfl, hsub, hmin⟩)⟩, fun y => absurd rfl y⟩⟩⟩
  · obtain ⟨hr, hc, hm⟩ := op_scrap (dn := dr_n) (md := m_ds) (df := dr_f) (mf := m_dr)
    exact hc _ (hm _ (hK h5 ⟨hr, hTx, hSy, rfl, hl1, hl9, rfl, rfl, (Or.inl ⟨rfl, rfl, rfl, hsub, hmin⟩)⟩))
  · obtain ⟨r, X, V, hc, hm, hres⟩ := op_apply (pt := pb) (pl := qb) (mi := nb) (ob_p := pa) (mk_g := mk_g) (mk_s := mk_s) (mk_st := mk_st) (mk_qd := mk_qd) (mk_qe := mk_qe) (pt_h := pb_h) qb_pm qb_h qb_z qb_c qb_b qb_t qb_f qb_q qb_e qb_x qb_p_n qb_p_f qb_s_n qb_s_f nb_pm nb_h nb_z nb_c nb_b nb_t nb_f nb_q nb_e nb_x nb_p_n nb_p_f nb_s_n nb_s_f (mst := m_st) (msub := m_sub) (mq := m_q) (two := pa_h) (now := m_now) (first := m_first) (has := m_has) (da := m_da) (dl := m_dl) (af := m_af) (al := m_al) hqb hDr
    refine hc _ (hm _ ⟨fun _ => ?_, fun y => absurd rfl y⟩)
    refine hK h5 ?_
    rcases hres with ⟨g1, g2, g3, g4, g5, g6⟩ | ⟨g1, g2, g3, g4, g5, g6, g7⟩
    · exact ⟨g3, hTx, hSy, rfl, hl1, hl9, rfl, rfl, Or.inr ⟨g1, g2, g4, g5, g6⟩⟩
    · refine ⟨g3, hTx, hSy, rfl, hl1, hl9, rfl, rfl, Or.inl ⟨g1, g2, ?_⟩⟩
      show RP _ _ _ _ _ _ _ _ _ _ _ _ _ _ _ _ _ _ _ _ _ _ _
      unfold RP
      rw [g4, g5, g6, g7]
      exact ⟨rfl, hsub, hmin⟩
  · obtain ⟨c, hc9, hcc⟩ := c_code (xs (nI i + 2).toNatClampNeg)
    rw [hcc]
    obtain ⟨b, u, v, hr, hc, hm⟩ := op_symbol hSy (xs (nI i + 1).toNatClampNeg) c hc9
    exact ⟨v1, v2, hc _ ⟨v1, v2, hm _ ⟨fun _ => hK h5 ⟨hDr, hTx, hr, rfl, hl1, hl9, rfl, rfl, (Or.inl ⟨rfl, rfl, rfl, hsub, hmin⟩)⟩, fun y => absurd rfl y⟩⟩⟩
  · obtain ⟨b, u, hr, hc, hm⟩ := op_group (a := nI a) (nn := xs (nI i + 1).toNatClampNeg) ⟨hl1, hl9⟩
    exact ⟨v1, hc _ ⟨v1, hm _ ⟨fun _ => hK h5 ⟨hDr, hTx, hSy, rfl, hr.1, hr.2, rfl, rfl, (Or.inl ⟨rfl, rfl, rfl, hsub, hmin⟩)⟩, fun y => absurd rfl y⟩⟩⟩
  · obtain ⟨r, pg1, pgf1, amf1, tn1, tf1, os1, ts1, dg1, out1, tx1, hr, hc, hm⟩ := op_write hSy ha hsub hmin hTx ((((xs (nI i + 1).toNatClampNeg).toInt64) <<< ((32 : Int32).toInt64 &&& 63)) ||| (((xs (nI i + 2).toNatClampNeg).toInt64) &&& 4294967295)) (xs (nI i + 3).toNatClampNeg) (xs (nI i + 4).toNatClampNeg) pg_n pg_f am_f m_os m_dg m_out
    exact ⟨v1, v2, v3, v4, hc _ ⟨v1, v2, v3, v4, hm _ ⟨fun _ => hK h5 ⟨hDr, hr, hSy, rfl, hl1, hl9, rfl, rfl, (Or.inl ⟨rfl, rfl, rfl, hsub, hmin⟩)⟩, fun y => absurd rfl y⟩⟩⟩
  · obtain ⟨b, u, v, hr, hc, hm⟩ := op_type hTx (cd := ((xs (nI i + 1).toNatClampNeg).toUInt32 % 65536).toInt32)
    exact ⟨v1, hc _ ⟨v1, hm _ ⟨fun _ => hK h5 ⟨hDr, hr, hSy, rfl, hl1, hl9, rfl, rfl, (Or.inl ⟨rfl, rfl, rfl, hsub, hmin⟩)⟩, fun y => absurd rfl y⟩⟩⟩
  · obtain ⟨hr, hc, hm⟩ := op_wipe (tn := tx_n) (mt := m_ts) (tf := tx_f) (mf := m_tx)
    exact hc _ (hm _ (hK h5 ⟨hDr, hr, hSy, rfl, hl1, hl9, rfl, rfl, (Or.inl ⟨rfl, rfl, rfl, hsub, hmin⟩)⟩))
  · obtain ⟨k, hk, rfl, rfl, he⟩ := hTx
    unfold wp_X_length wp_M_length
    exact ⟨fun _ => hK h5 hR0, fun y => absurd rfl y⟩
  · obtain ⟨r, hc, hm⟩ := op_at hTx (ix := xs (nI i + 1).toNatClampNeg)
    exact ⟨v1, hc _ ⟨v1, hm _ ⟨fun _ => hK h5 hR0, fun y => absurd rfl y⟩⟩⟩
  · obtain ⟨r, nfs, nfc, cu, mu, hc, hm⟩ := op_read hSy ha hsub hmin hTx m_fs m_fc fi_w fi_p fi_t fi_z fi_e fi_n pg_n pg_f am_f m_os m_fs m_fc m_g m_gs m_dg m_out
    exact hc _ (hm _ ⟨fun _ => hK h5 ⟨hDr, hTx, hSy, rfl, hl1, hl9, rfl, rfl, (Or.inl ⟨rfl, rfl, rfl, hsub, hmin⟩)⟩, fun y => absurd rfl y⟩)
  · unfold wp_X_size wp_M_size
    exact ⟨fun _ => hK h5 hR0, fun y => absurd rfl y⟩
  · unfold wp_X_scale wp_M_scale
    exact ⟨fun _ => hK h5 hR0, fun y => absurd rfl y⟩
set_option maxHeartbeats 4000000 in
set_option maxRecDepth 100000 in
theorem law_half_b {L : Nat} {xs : Nat → Int32} {pa qa na pb qb nb : Nat} (hab : pa ≠ pb) (hqa : qa ≠ na) (hqb : qb ≠ nb) {i : Nat} (hi : i ≤ 5000) (hL : L ≤ 2560) (K : Int32 → Nat → Nat → Int64 → Int32 → Int32 → (Nat → Int32) → Int32 → (Nat → Int32) → Int32 → (Nat → Int32) → Nat → Nat → Int32 → Bool → Bool → Int32 → (Nat → Int32) → (Nat → Int32) → Int64 → Int32 → Int32 → Int32 → Int32 → Bool → Bool → Bool → Int32 → Int32 → Int32 → Int32 → Int32 → Int32 → Int32 → Int32 → Bool → Int32 → (Nat → Int32) → Int32 → (Nat → Int32) → Bool → Int32 → Int32 → Int32 → Int32 → Int32 → Int32 → Int32 → Int32 → Bool → Int32 → (Nat → Int32) → Int32 → (Nat → Int32) → Bool → Bool → Int32 → Int32 → Int32 → Int32 → Int32 → Int32 → Int32 → Int32 → Bool → Int32 → (Nat → Int32) → Int32 → (Nat → Int32) → Bool → Int32 → Int32 → Int32 → Int32 → Int32 → Int32 → Int32 → Int32 → Bool → Int32 → (Nat → Int32) → Int32 → (Nat → Int32) → Int32 → Int32 → Int32 → Int32 → Bool → Int32 → Int32 → Int32 → Int64 → Int32 → Int64 → Int32 → (Nat → Int32) → (Nat → Int32) → (Nat → Int32) → (Nat → Int32) → (Nat → Int32) → (Nat → Int32) → (Nat → Int32) → (Nat → Int32) → (Nat → Int32) → (Nat → Int32) → (Nat → Int32) → (Nat → Int32) → Prop)
    (hK : ∀ {ob_p : Nat} {ob_q : Nat} {ob_fs : Int64} {ob_fc : Int32} {dr_n : Int32} {dr_f : Nat → Int32} {tx_n : Int32} {tx_f : Nat → Int32} {sy_l : Int32} {sy_f : Nat → Int32} {mk_g : Nat} {mk_s : Nat} {mk_st : Int32} {mk_qd : Bool} {mk_qe : Bool} {pg_n : Int32} {pg_f : Nat → Int32} {am_f : Nat → Int32} {fi_w : Int64} {fi_p : Int32} {fi_t : Int32} {fi_z : Int32} {fi_e : Int32} {fi_n : Bool} {pa_h : Bool} {qa_pm : Bool} {qa_h : Int32} {qa_z : Int32} {qa_c : Int32} {qa_b : Int32} {qa_t : Int32} {qa_f : Int32} {qa_q : Int32} {qa_e : Int32} {qa_x : Bool} {qa_p_n : Int32} {qa_p_f : Nat → Int32} {qa_s_n : Int32} {qa_s_f : Nat → Int32} {na_pm : Bool} {na_h : Int32} {na_z : Int32} {na_c : Int32} {na_b : Int32} {na_t : Int32} {na_f : Int32} {na_q : Int32} {na_e : Int32} {na_x : Bool} {na_p_n : Int32} {na_p_f : Nat → Int32} {na_s_n : Int32} {na_s_f : Nat → Int32} {pb_h : Bool} {qb_pm : Bool} {qb_h : Int32} {qb_z : Int32} {qb_c : Int32} {qb_b : Int32} {qb_t : Int32} {qb_f : Int32} {qb_q : Int32} {qb_e : Int32} {qb_x : Bool} {qb_p_n : Int32} {qb_p_f : Nat → Int32} {qb_s_n : Int32} {qb_s_f : Nat → Int32} {nb_pm : Bool} {nb_h : Int32} {nb_z : Int32} {nb_c : Int32} {nb_b : Int32} {nb_t : Int32} {nb_f : Int32} {nb_q : Int32} {nb_e : Int32} {nb_x : Bool} {nb_p_n : Int32} {nb_p_f : Nat → Int32} {nb_s_n : Int32} {nb_s_f : Nat → Int32} {m_ds : Int32} {m_st : Int32} {m_sub : Int32} {m_q : Int32} {m_two : Bool} {m_least : Int32} {m_os : Int32} {m_ts : Int32} {m_fs : Int64} {m_fc : Int32} {m_g : Int64} {m_gs : Int32} {m_dr : Nat → Int32} {m_now : Nat → Int32} {m_first : Nat → Int32} {m_has : Nat → Int32} {m_da : Nat → Int32} {m_dl : Nat → Int32} {m_af : Nat → Int32} {m_al : Nat → Int32} {m_sy : Nat → Int32} {m_dg : Nat → Int32} {m_out : Nat → Int32} {m_tx : Nat → Int32}, i + 5 ≤ L → RL ob_p ob_q pa pb ob_fs ob_fc dr_n dr_f tx_n tx_f sy_l sy_f pa_h qa_pm qa_h qa_z qa_c qa_b qa_t qa_f qa_q qa_e qa_x qa_p_n qa_p_f qa_s_n qa_s_f na_p_n na_p_f na_s_n na_s_f pb_h qb_pm qb_h qb_z qb_c qb_b qb_t qb_f qb_q qb_e qb_x qb_p_n qb_p_f qb_s_n qb_s_f nb_p_n nb_p_f nb_s_n nb_s_f m_ds m_two m_least m_ts m_fs m_fc m_dr m_has m_af m_al m_sy m_tx → K (nI i + 5) ob_p ob_q ob_fs ob_fc dr_n dr_f tx_n tx_f sy_l sy_f mk_g mk_s mk_st mk_qd mk_qe pg_n pg_f am_f fi_w fi_p fi_t fi_z fi_e fi_n pa_h qa_pm qa_h qa_z qa_c qa_b qa_t qa_f qa_q qa_e qa_x qa_p_n qa_p_f qa_s_n qa_s_f na_pm na_h na_z na_c na_b na_t na_f na_q na_e na_x na_p_n na_p_f na_s_n na_s_f pb_h qb_pm qb_h qb_z qb_c qb_b qb_t qb_f qb_q qb_e qb_x qb_p_n qb_p_f qb_s_n qb_s_f nb_pm nb_h nb_z nb_c nb_b nb_t nb_f nb_q nb_e nb_x nb_p_n nb_p_f nb_s_n nb_s_f m_ds m_st m_sub m_q m_two m_least m_os m_ts m_fs m_fc m_g m_gs m_dr m_now m_first m_has m_da m_dl m_af m_al m_sy m_dg m_out m_tx)
    {ob_p : Nat} {ob_q : Nat} {ob_fs : Int64} {ob_fc : Int32} {dr_n : Int32} {dr_f : Nat → Int32} {tx_n : Int32} {tx_f : Nat → Int32} {sy_l : Int32} {sy_f : Nat → Int32} {mk_g : Nat} {mk_s : Nat} {mk_st : Int32} {mk_qd : Bool} {mk_qe : Bool} {pg_n : Int32} {pg_f : Nat → Int32} {am_f : Nat → Int32} {fi_w : Int64} {fi_p : Int32} {fi_t : Int32} {fi_z : Int32} {fi_e : Int32} {fi_n : Bool} {pa_h : Bool} {qa_pm : Bool} {qa_h : Int32} {qa_z : Int32} {qa_c : Int32} {qa_b : Int32} {qa_t : Int32} {qa_f : Int32} {qa_q : Int32} {qa_e : Int32} {qa_x : Bool} {qa_p_n : Int32} {qa_p_f : Nat → Int32} {qa_s_n : Int32} {qa_s_f : Nat → Int32} {na_pm : Bool} {na_h : Int32} {na_z : Int32} {na_c : Int32} {na_b : Int32} {na_t : Int32} {na_f : Int32} {na_q : Int32} {na_e : Int32} {na_x : Bool} {na_p_n : Int32} {na_p_f : Nat → Int32} {na_s_n : Int32} {na_s_f : Nat → Int32} {pb_h : Bool} {qb_pm : Bool} {qb_h : Int32} {qb_z : Int32} {qb_c : Int32} {qb_b : Int32} {qb_t : Int32} {qb_f : Int32} {qb_q : Int32} {qb_e : Int32} {qb_x : Bool} {qb_p_n : Int32} {qb_p_f : Nat → Int32} {qb_s_n : Int32} {qb_s_f : Nat → Int32} {nb_pm : Bool} {nb_h : Int32} {nb_z : Int32} {nb_c : Int32} {nb_b : Int32} {nb_t : Int32} {nb_f : Int32} {nb_q : Int32} {nb_e : Int32} {nb_x : Bool} {nb_p_n : Int32} {nb_p_f : Nat → Int32} {nb_s_n : Int32} {nb_s_f : Nat → Int32} {m_ds : Int32} {m_st : Int32} {m_sub : Int32} {m_q : Int32} {m_two : Bool} {m_least : Int32} {m_os : Int32} {m_ts : Int32} {m_fs : Int64} {m_fc : Int32} {m_g : Int64} {m_gs : Int32} {m_dr : Nat → Int32} {m_now : Nat → Int32} {m_first : Nat → Int32} {m_has : Nat → Int32} {m_da : Nat → Int32} {m_dl : Nat → Int32} {m_af : Nat → Int32} {m_al : Nat → Int32} {m_sy : Nat → Int32} {m_dg : Nat → Int32} {m_out : Nat → Int32} {m_tx : Nat → Int32} (hR : RL ob_p ob_q pa pb ob_fs ob_fc dr_n dr_f tx_n tx_f sy_l sy_f pa_h qa_pm qa_h qa_z qa_c qa_b qa_t qa_f qa_q qa_e qa_x qa_p_n qa_p_f qa_s_n qa_s_f na_p_n na_p_f na_s_n na_s_f pb_h qb_pm qb_h qb_z qb_c qb_b qb_t qb_f qb_q qb_e qb_x qb_p_n qb_p_f qb_s_n qb_s_f nb_p_n nb_p_f nb_s_n nb_s_f m_ds m_two m_least m_ts m_fs m_fc m_dr m_has m_af m_al m_sy m_tx) (hp : ob_p = pb) : wp_law_B L xs pa qa na pb qb nb K (nI i) ob_p ob_q ob_fs ob_fc dr_n dr_f tx_n tx_f sy_l sy_f mk_g mk_s mk_st mk_qd mk_qe pg_n pg_f am_f fi_w fi_p fi_t fi_z fi_e fi_n pa_h qa_pm qa_h qa_z qa_c qa_b qa_t qa_f qa_q qa_e qa_x qa_p_n qa_p_f qa_s_n qa_s_f na_pm na_h na_z na_c na_b na_t na_f na_q na_e na_x na_p_n na_p_f na_s_n na_s_f pb_h qb_pm qb_h qb_z qb_c qb_b qb_t qb_f qb_q qb_e qb_x qb_p_n qb_p_f qb_s_n qb_s_f nb_pm nb_h nb_z nb_c nb_b nb_t nb_f nb_q nb_e nb_x nb_p_n nb_p_f nb_s_n nb_s_f m_ds m_st m_sub m_q m_two m_least m_os m_ts m_fs m_fc m_g m_gs m_dr m_now m_first m_has m_da m_dl m_af m_al m_sy m_dg m_out m_tx := by
  have hR0 := hR
  obtain ⟨hDr, hTx, hSy, hl, hl1, hl9, hfs, hfc, hP⟩ := hR
  obtain ⟨hq, hph, hsub, hmin⟩ : ob_q = pa ∧ RP pb_h qb_pm qb_h qb_z qb_c qb_b qb_t qb_f qb_q qb_e qb_x qb_p_n qb_p_f qb_s_n qb_s_f nb_p_n nb_p_f nb_s_n nb_s_f m_two m_has m_af m_al := by
    rcases hP with ⟨h1, -, -⟩ | ⟨-, h1, h2⟩
    · exact absurd (h1.symm.trans hp) hab
    · exact ⟨h1, h2⟩
  clear hP
  subst hl hfs hfc hph
  have hp := hp.symm
  have hq := hq.symm
  subst hp hq
  have e5 : nI L - 5 = iI ((L : Int) - 5) := by
    have : (5 : Int32) = iI 5 := by decide
    rw [this, nI_iI, iI_sub]
  have hlt : (nI L - 5 < nI i) = (L < i + 5) := by
    rw [e5, nI_iI, cLt (by omega) (by omega) (by omega) (by omega)]
    exact propext ⟨fun y => (by omega), fun y => (by omega)⟩
  obtain ⟨a, ha, rfl⟩ : ∃ a : Nat, a ≤ 9 ∧ m_least = nI a := by
    have hneg : ¬ m_least < 0 := fun y => by
      rw [Int32.lt_iff_toInt_lt] at y
      rw [Int32.le_iff_toInt_le] at hl1
      have z0 : (0 : Int32).toInt = 0 := by decide
      have z1 : (1 : Int32).toInt = 1 := by decide
      omega
    exact nI_of2 (M := 9) (n := 9) (by decide) hneg hl9
  unfold wp_law_B
  rw [hlt]
  refine ⟨fun y => absurd y.symm hab, fun _ => ⟨rfl, rfl, fun _ => trivial, fun hx => ?_⟩⟩
  have h5 : i + 5 ≤ L := by omega
  have v0 : vp_in (nI i) L := vp_in_nI (by omega) (by omega)
  have v1 : vp_in (nI i + 1) L := by
    have : (1 : Int32) = nI 1 := rfl
    rw [this, nI_add]; exact vp_in_nI (by omega) (by omega)
  have v2 : vp_in (nI i + 2) L := by
    have : (2 : Int32) = nI 2 := rfl
    rw [this, nI_add]; exact vp_in_nI (by omega) (by omega)
  have v3 : vp_in (nI i + 3) L := by
    have : (3 : Int32) = nI 3 := rfl
    rw [this, nI_add]; exact vp_in_nI (by omega) (by omega)
  have v4 : vp_in (nI i + 4) L := by
    have : (4 : Int32) = nI 4 := rfl
    rw [this, nI_add]; exact vp_in_nI (by omega) (by omega)
  refine ⟨v0, fun _ => ?_, fun _ => ?_, fun _ => ?_, fun _ => ?_, fun _ => ?_, fun _ => ?_, fun _ => ?_, fun _ => ?_, fun _ => ?_, fun _ => ?_, fun _ => ?_, fun _ => ?_, fun _ => ?_, fun _ _ _ _ _ _ _ _ _ _ _ _ _ => hK h5 hR0⟩
  · obtain ⟨b, u, v, hr, hc, hm⟩ := op_draft hDr (cd := ((xs (nI i + 1).toNatClampNeg).toUInt32 % 65536).toInt32)
    exact ⟨v1, hc _ ⟨v1, hm _ ⟨fun _ => hK h5 ⟨hr, hTx, hSy, rfl, hl1, hl9, rfl, rfl, (Or.inr ⟨rfl, rfl, rfl, hsub, hmin⟩)⟩, fun y => absurd rfl y⟩⟩⟩
  · obtain ⟨hr, hc, hm⟩ := op_scrap (dn := dr_n) (md := m_ds) (df := dr_f) (mf := m_dr)
    exact hc _ (hm _ (hK h5 ⟨hr, hTx, hSy, rfl, hl1, hl9, rfl, rfl, (Or.inr ⟨rfl, rfl, rfl, hsub, hmin⟩)⟩))
  · obtain ⟨r, X, V, hc, hm, hres⟩ := op_apply (pt := pa) (pl := qa) (mi := na) (ob_p := pb) (mk_g := mk_g) (mk_s := mk_s) (mk_st := mk_st) (mk_qd := mk_qd) (mk_qe := mk_qe) (pt_h := pa_h) qa_pm qa_h qa_z qa_c qa_b qa_t qa_f qa_q qa_e qa_x qa_p_n qa_p_f qa_s_n qa_s_f na_pm na_h na_z na_c na_b na_t na_f na_q na_e na_x na_p_n na_p_f na_s_n na_s_f (mst := m_st) (msub := m_sub) (mq := m_q) (two := pb_h) (now := m_now) (first := m_first) (has := m_has) (da := m_da) (dl := m_dl) (af := m_af) (al := m_al) hqa hDr
    refine hc _ (hm _ ⟨fun _ => ?_, fun y => absurd rfl y⟩)
    refine hK h5 ?_
    rcases hres with ⟨g1, g2, g3, g4, g5, g6⟩ | ⟨g1, g2, g3, g4, g5, g6, g7⟩
    · exact ⟨g3, hTx, hSy, rfl, hl1, hl9, rfl, rfl, Or.inl ⟨g1, g2, g4, g5, g6⟩⟩
    · refine ⟨g3, hTx, hSy, rfl, hl1, hl9, rfl, rfl, Or.inr ⟨g1, g2, ?_⟩⟩
      show RP _ _ _ _ _ _ _ _ _ _ _ _ _ _ _ _ _ _ _ _ _ _ _
      unfold RP
      rw [g4, g5, g6, g7]
      exact ⟨rfl, hsub, hmin⟩
  · obtain ⟨c, hc9, hcc⟩ := c_code (xs (nI i + 2).toNatClampNeg)
    rw [hcc]
    obtain ⟨b, u, v, hr, hc, hm⟩ := op_symbol hSy (xs (nI i + 1).toNatClampNeg) c hc9
    exact ⟨v1, v2, hc _ ⟨v1, v2, hm _ ⟨fun _ => hK h5 ⟨hDr, hTx, hr, rfl, hl1, hl9, rfl, rfl, (Or.inr ⟨rfl, rfl, rfl, hsub, hmin⟩)⟩, fun y => absurd rfl y⟩⟩⟩
  · obtain ⟨b, u, hr, hc, hm⟩ := op_group (a := nI a) (nn := xs (nI i + 1).toNatClampNeg) ⟨hl1, hl9⟩
    exact ⟨v1, hc _ ⟨v1, hm _ ⟨fun _ => hK h5 ⟨hDr, hTx, hSy, rfl, hr.1, hr.2, rfl, rfl, (Or.inr ⟨rfl, rfl, rfl, hsub, hmin⟩)⟩, fun y => absurd rfl y⟩⟩⟩
  · obtain ⟨r, pg1, pgf1, amf1, tn1, tf1, os1, ts1, dg1, out1, tx1, hr, hc, hm⟩ := op_write hSy ha hsub hmin hTx ((((xs (nI i + 1).toNatClampNeg).toInt64) <<< ((32 : Int32).toInt64 &&& 63)) ||| (((xs (nI i + 2).toNatClampNeg).toInt64) &&& 4294967295)) (xs (nI i + 3).toNatClampNeg) (xs (nI i + 4).toNatClampNeg) pg_n pg_f am_f m_os m_dg m_out
    exact ⟨v1, v2, v3, v4, hc _ ⟨v1, v2, v3, v4, hm _ ⟨fun _ => hK h5 ⟨hDr, hr, hSy, rfl, hl1, hl9, rfl, rfl, (Or.inr ⟨rfl, rfl, rfl, hsub, hmin⟩)⟩, fun y => absurd rfl y⟩⟩⟩
  · obtain ⟨b, u, v, hr, hc, hm⟩ := op_type hTx (cd := ((xs (nI i + 1).toNatClampNeg).toUInt32 % 65536).toInt32)
    exact ⟨v1, hc _ ⟨v1, hm _ ⟨fun _ => hK h5 ⟨hDr, hr, hSy, rfl, hl1, hl9, rfl, rfl, (Or.inr ⟨rfl, rfl, rfl, hsub, hmin⟩)⟩, fun y => absurd rfl y⟩⟩⟩
  · obtain ⟨hr, hc, hm⟩ := op_wipe (tn := tx_n) (mt := m_ts) (tf := tx_f) (mf := m_tx)
    exact hc _ (hm _ (hK h5 ⟨hDr, hr, hSy, rfl, hl1, hl9, rfl, rfl, (Or.inr ⟨rfl, rfl, rfl, hsub, hmin⟩)⟩))
  · obtain ⟨k, hk, rfl, rfl, he⟩ := hTx
    unfold wp_X_length wp_M_length
    exact ⟨fun _ => hK h5 hR0, fun y => absurd rfl y⟩
  · obtain ⟨r, hc, hm⟩ := op_at hTx (ix := xs (nI i + 1).toNatClampNeg)
    exact ⟨v1, hc _ ⟨v1, hm _ ⟨fun _ => hK h5 hR0, fun y => absurd rfl y⟩⟩⟩
  · obtain ⟨r, nfs, nfc, cu, mu, hc, hm⟩ := op_read hSy ha hsub hmin hTx m_fs m_fc fi_w fi_p fi_t fi_z fi_e fi_n pg_n pg_f am_f m_os m_fs m_fc m_g m_gs m_dg m_out
    exact hc _ (hm _ ⟨fun _ => hK h5 ⟨hDr, hTx, hSy, rfl, hl1, hl9, rfl, rfl, (Or.inr ⟨rfl, rfl, rfl, hsub, hmin⟩)⟩, fun y => absurd rfl y⟩)
  · unfold wp_X_size wp_M_size
    exact ⟨fun _ => hK h5 hR0, fun y => absurd rfl y⟩
  · unfold wp_X_scale wp_M_scale
    exact ⟨fun _ => hK h5 hR0, fun y => absurd rfl y⟩
set_option maxHeartbeats 4000000 in
set_option maxRecDepth 100000 in
theorem law_ind {L : Nat} {xs : Nat → Int32} {pa qa na pb qb nb : Nat} (hab : pa ≠ pb) (hqa : qa ≠ na) (hqb : qb ≠ nb) (hL : L ≤ 2560) : ∀ (n i : Nat), L < i + 5 + 5 * n → i ≤ 5000 → ∀ {ob_p : Nat} {ob_q : Nat} {ob_fs : Int64} {ob_fc : Int32} {dr_n : Int32} {dr_f : Nat → Int32} {tx_n : Int32} {tx_f : Nat → Int32} {sy_l : Int32} {sy_f : Nat → Int32} {mk_g : Nat} {mk_s : Nat} {mk_st : Int32} {mk_qd : Bool} {mk_qe : Bool} {pg_n : Int32} {pg_f : Nat → Int32} {am_f : Nat → Int32} {fi_w : Int64} {fi_p : Int32} {fi_t : Int32} {fi_z : Int32} {fi_e : Int32} {fi_n : Bool} {pa_h : Bool} {qa_pm : Bool} {qa_h : Int32} {qa_z : Int32} {qa_c : Int32} {qa_b : Int32} {qa_t : Int32} {qa_f : Int32} {qa_q : Int32} {qa_e : Int32} {qa_x : Bool} {qa_p_n : Int32} {qa_p_f : Nat → Int32} {qa_s_n : Int32} {qa_s_f : Nat → Int32} {na_pm : Bool} {na_h : Int32} {na_z : Int32} {na_c : Int32} {na_b : Int32} {na_t : Int32} {na_f : Int32} {na_q : Int32} {na_e : Int32} {na_x : Bool} {na_p_n : Int32} {na_p_f : Nat → Int32} {na_s_n : Int32} {na_s_f : Nat → Int32} {pb_h : Bool} {qb_pm : Bool} {qb_h : Int32} {qb_z : Int32} {qb_c : Int32} {qb_b : Int32} {qb_t : Int32} {qb_f : Int32} {qb_q : Int32} {qb_e : Int32} {qb_x : Bool} {qb_p_n : Int32} {qb_p_f : Nat → Int32} {qb_s_n : Int32} {qb_s_f : Nat → Int32} {nb_pm : Bool} {nb_h : Int32} {nb_z : Int32} {nb_c : Int32} {nb_b : Int32} {nb_t : Int32} {nb_f : Int32} {nb_q : Int32} {nb_e : Int32} {nb_x : Bool} {nb_p_n : Int32} {nb_p_f : Nat → Int32} {nb_s_n : Int32} {nb_s_f : Nat → Int32} {m_ds : Int32} {m_st : Int32} {m_sub : Int32} {m_q : Int32} {m_two : Bool} {m_least : Int32} {m_os : Int32} {m_ts : Int32} {m_fs : Int64} {m_fc : Int32} {m_g : Int64} {m_gs : Int32} {m_dr : Nat → Int32} {m_now : Nat → Int32} {m_first : Nat → Int32} {m_has : Nat → Int32} {m_da : Nat → Int32} {m_dl : Nat → Int32} {m_af : Nat → Int32} {m_al : Nat → Int32} {m_sy : Nat → Int32} {m_dg : Nat → Int32} {m_out : Nat → Int32} {m_tx : Nat → Int32}, RL ob_p ob_q pa pb ob_fs ob_fc dr_n dr_f tx_n tx_f sy_l sy_f pa_h qa_pm qa_h qa_z qa_c qa_b qa_t qa_f qa_q qa_e qa_x qa_p_n qa_p_f qa_s_n qa_s_f na_p_n na_p_f na_s_n na_s_f pb_h qb_pm qb_h qb_z qb_c qb_b qb_t qb_f qb_q qb_e qb_x qb_p_n qb_p_f qb_s_n qb_s_f nb_p_n nb_p_f nb_s_n nb_s_f m_ds m_two m_least m_ts m_fs m_fc m_dr m_has m_af m_al m_sy m_tx → wp_law_L180 L xs pa qa na pb qb nb (n + 1) (nI i) ob_p ob_q ob_fs ob_fc dr_n dr_f tx_n tx_f sy_l sy_f mk_g mk_s mk_st mk_qd mk_qe pg_n pg_f am_f fi_w fi_p fi_t fi_z fi_e fi_n pa_h qa_pm qa_h qa_z qa_c qa_b qa_t qa_f qa_q qa_e qa_x qa_p_n qa_p_f qa_s_n qa_s_f na_pm na_h na_z na_c na_b na_t na_f na_q na_e na_x na_p_n na_p_f na_s_n na_s_f pb_h qb_pm qb_h qb_z qb_c qb_b qb_t qb_f qb_q qb_e qb_x qb_p_n qb_p_f qb_s_n qb_s_f nb_pm nb_h nb_z nb_c nb_b nb_t nb_f nb_q nb_e nb_x nb_p_n nb_p_f nb_s_n nb_s_f m_ds m_st m_sub m_q m_two m_least m_os m_ts m_fs m_fc m_g m_gs m_dr m_now m_first m_has m_da m_dl m_af m_al m_sy m_dg m_out m_tx := by
  intro n
  induction n with
  | zero =>
    intro i hi1 hi2 ob_p ob_q ob_fs ob_fc dr_n dr_f tx_n tx_f sy_l sy_f mk_g mk_s mk_st mk_qd mk_qe pg_n pg_f am_f fi_w fi_p fi_t fi_z fi_e fi_n pa_h qa_pm qa_h qa_z qa_c qa_b qa_t qa_f qa_q qa_e qa_x qa_p_n qa_p_f qa_s_n qa_s_f na_pm na_h na_z na_c na_b na_t na_f na_q na_e na_x na_p_n na_p_f na_s_n na_s_f pb_h qb_pm qb_h qb_z qb_c qb_b qb_t qb_f qb_q qb_e qb_x qb_p_n qb_p_f qb_s_n qb_s_f nb_pm nb_h nb_z nb_c nb_b nb_t nb_f nb_q nb_e nb_x nb_p_n nb_p_f nb_s_n nb_s_f m_ds m_st m_sub m_q m_two m_least m_os m_ts m_fs m_fc m_g m_gs m_dr m_now m_first m_has m_da m_dl m_af m_al m_sy m_dg m_out m_tx hR
    show wp_law_B L xs pa qa na pb qb nb _ (nI i) ob_p ob_q ob_fs ob_fc dr_n dr_f tx_n tx_f sy_l sy_f mk_g mk_s mk_st mk_qd mk_qe pg_n pg_f am_f fi_w fi_p fi_t fi_z fi_e fi_n pa_h qa_pm qa_h qa_z qa_c qa_b qa_t qa_f qa_q qa_e qa_x qa_p_n qa_p_f qa_s_n qa_s_f na_pm na_h na_z na_c na_b na_t na_f na_q na_e na_x na_p_n na_p_f na_s_n na_s_f pb_h qb_pm qb_h qb_z qb_c qb_b qb_t qb_f qb_q qb_e qb_x qb_p_n qb_p_f qb_s_n qb_s_f nb_pm nb_h nb_z nb_c nb_b nb_t nb_f nb_q nb_e nb_x nb_p_n nb_p_f nb_s_n nb_s_f m_ds m_st m_sub m_q m_two m_least m_os m_ts m_fs m_fc m_g m_gs m_dr m_now m_first m_has m_da m_dl m_af m_al m_sy m_dg m_out m_tx
    rcases hR.2.2.2.2.2.2.2.2 with hp | hp
    · exact law_half_a hab hqa hqb hi2 hL _ (fun y _ => (by omega)) hR hp.1
    · exact law_half_b hab hqa hqb hi2 hL _ (fun y _ => (by omega)) hR hp.1
  | succ n ih =>
    intro i hi1 hi2 ob_p ob_q ob_fs ob_fc dr_n dr_f tx_n tx_f sy_l sy_f mk_g mk_s mk_st mk_qd mk_qe pg_n pg_f am_f fi_w fi_p fi_t fi_z fi_e fi_n pa_h qa_pm qa_h qa_z qa_c qa_b qa_t qa_f qa_q qa_e qa_x qa_p_n qa_p_f qa_s_n qa_s_f na_pm na_h na_z na_c na_b na_t na_f na_q na_e na_x na_p_n na_p_f na_s_n na_s_f pb_h qb_pm qb_h qb_z qb_c qb_b qb_t qb_f qb_q qb_e qb_x qb_p_n qb_p_f qb_s_n qb_s_f nb_pm nb_h nb_z nb_c nb_b nb_t nb_f nb_q nb_e nb_x nb_p_n nb_p_f nb_s_n nb_s_f m_ds m_st m_sub m_q m_two m_least m_os m_ts m_fs m_fc m_g m_gs m_dr m_now m_first m_has m_da m_dl m_af m_al m_sy m_dg m_out m_tx hR
    show wp_law_B L xs pa qa na pb qb nb (wp_law_L180 L xs pa qa na pb qb nb (n + 1)) (nI i) ob_p ob_q ob_fs ob_fc dr_n dr_f tx_n tx_f sy_l sy_f mk_g mk_s mk_st mk_qd mk_qe pg_n pg_f am_f fi_w fi_p fi_t fi_z fi_e fi_n pa_h qa_pm qa_h qa_z qa_c qa_b qa_t qa_f qa_q qa_e qa_x qa_p_n qa_p_f qa_s_n qa_s_f na_pm na_h na_z na_c na_b na_t na_f na_q na_e na_x na_p_n na_p_f na_s_n na_s_f pb_h qb_pm qb_h qb_z qb_c qb_b qb_t qb_f qb_q qb_e qb_x qb_p_n qb_p_f qb_s_n qb_s_f nb_pm nb_h nb_z nb_c nb_b nb_t nb_f nb_q nb_e nb_x nb_p_n nb_p_f nb_s_n nb_s_f m_ds m_st m_sub m_q m_two m_least m_os m_ts m_fs m_fc m_g m_gs m_dr m_now m_first m_has m_da m_dl m_af m_al m_sy m_dg m_out m_tx
    have e5 : nI i + 5 = nI (i + 5) := by
      have : (5 : Int32) = nI 5 := rfl
      rw [this, nI_add]
    rcases hR.2.2.2.2.2.2.2.2 with hp | hp
    · refine law_half_a hab hqa hqb hi2 hL _ (fun y hR2 => ?_) hR hp.1
      rw [e5]
      exact ih (i + 5) (by omega) (by omega) hR2
    · refine law_half_b hab hqa hqb hi2 hL _ (fun y hR2 => ?_) hR hp.1
      rw [e5]
      exact ih (i + 5) (by omega) (by omega) hR2
