/-! find and readAs: class and reference -/
theorem s_gather {sf af al : Nat → Int32} {ng two : Bool} {kp ks kA kB nm : Nat} {pn sn mpn msn : Int32} {mpf msf : Nat → Int32} (hpn : pn = nI kp) (hsn : sn = nI ks) (hsel : Sel ng two kp ks mpn mpf msn msf af al kA kB nm) {k : Nat} {tf : Nat → Int32} {fw : Int64} {fp ft fz fe : Int32} {fn : Bool} (m : Nat) (Q : Bool → (Int64 × Int32 × Int32 × Int32 × Int32 × Bool) → Prop) (h : wp_Fi_gather_L540 m sf two pn sn mpn msn (nI k) tf (iI ((k : Int) - kB)) (nI (kA + nm)) 0 0 0 0 0 false Q) : wp_Fi_gather fw fp ft fz fe fn sf two pn sn mpn msn (nI k) tf ng Q := by
  have et : nI k - nI kB = iI ((k : Int) - kB) := by rw [nI_iI, nI_iI, iI_sub]
  have eb0 : ∀ a : Nat, nI a + bI false = nI (a + 0) := by
    intro a
    have : bI false = nI 0 := by decide
    rw [this, nI_add]
  have eb1 : ∀ a : Nat, nI a + bI true = nI (a + 1) := by
    intro a
    have : bI true = nI 1 := by decide
    rw [this, nI_add]
  unfold wp_Fi_gather wp_Fi_begin wp_Pat_needsMinus wp_Fi_gather_J320 wp_Fi_gather_J321
  rcases hsel with ⟨hng, htw, hrA, hrB, -, -, hnm⟩ | ⟨hng, htw, hkA, hkB, hnm⟩ | ⟨hng, hkA, hkB, hnm⟩
  · subst hng htw hnm
    refine ⟨fun _ => ⟨fun y => (by cases y), fun _ => ⟨fun _ => ⟨fun _ => ⟨m, ?_⟩, fun y => (by cases y)⟩, fun y => (by cases y)⟩⟩, fun y => absurd ⟨rfl, rfl⟩ y⟩
    have e1 : nI k - msn = iI ((k : Int) - kB) := by rw [hrB.1, et]
    have e2 : mpn + bI false = nI (kA + 0) := by rw [hrA.1, eb0]
    rw [e1, e2]; exact h
  · subst hng htw hnm hkA hkB
    refine ⟨fun y => absurd y.2 (by decide), fun _ => ⟨fun y => (by cases y), fun _ => ⟨fun y => (by cases y), fun _ => ⟨fun y => (by cases y), fun _ => ⟨m, ?_⟩⟩⟩⟩⟩
    have e1 : nI k - sn = iI ((k : Int) - kB) := by rw [hsn, et]
    have e2 : pn + bI true = nI (kA + 1) := by rw [hpn, eb1]
    rw [e1, e2]; exact h
  · subst hng hnm hkA hkB
    refine ⟨fun y => absurd y.1 (by decide), fun _ => ⟨fun _ => ⟨fun _ => ⟨m, ?_⟩, fun y => (by cases y)⟩, fun y => (by cases y)⟩⟩
    have e1 : nI k - sn = iI ((k : Int) - kB) := by rw [hsn, et]
    have e2 : pn + bI false = nI (kA + 0) := by rw [hpn, eb0]
    rw [e1, e2]; exact h
theorem in04 : vp_in (0 : Int32) 4 := by unfold vp_in; decide
theorem in14 : vp_in (1 : Int32) 4 := by unfold vp_in; decide
theorem in24 : vp_in (2 : Int32) 4 := by unfold vp_in; decide
theorem in34 : vp_in (3 : Int32) 4 := by unfold vp_in; decide
theorem s_readAs {mf has af al tx dg out : Nat → Int32} {ng two : Bool} {kp ks kA kB nm L : Nat} {mpn msn : Int32} {mpf msf : Nat → Int32} (hpn : al 0 = nI kp) (hsn : al 1 = nI ks) (hsel : Sel ng two kp ks mpn mpf msn msf af al kA kB nm) {k : Nat} {os gs : Int32} {g : Int64} (Q : Bool → (Int32 × Int64 × Int32 × (Nat → Int32) × (Nat → Int32)) → Prop)
    (h : (iI ((k : Int) - kB) ≤ nI (kA + nm) → Q false (os, g, gs, dg, out)) ∧ (¬ iI ((k : Int) - kB) ≤ nI (kA + nm) → (wp_M_loose g gs mf tx (nI (kA + nm)) (iI ((k : Int) - kB)) (fun r3 u4 => (r3 = false → (Q false (os, u4.1, u4.2, dg, out))) ∧ (r3 = true → (wp_M_settle u4.1 u4.2 af al (fun r5 u6 => (r5 = false → (Q false (os, u6.1, u6.2, dg, out))) ∧ (r5 = true → (wp_M_isText two (nI L) os (nI k) u6.1 u6.2 has af al mf dg out tx ng (fun r7 u8 => (r7 = false → (Q false (u8.1, u6.1, u6.2, u8.2.1, u8.2.2))) ∧ (r7 = true → (Q true (u8.1, u6.1, u6.2, u8.2.1, u8.2.2))))))))))))) :
    wp_M_readAs two (nI L) os (nI k) g gs has af al mf dg out tx ng Q := by
  have et : nI k - nI kB = iI ((k : Int) - kB) := by rw [nI_iI, nI_iI, iI_sub]
  unfold wp_M_readAs wp_M_beginning wp_M_readAs_J290 wp_M_readAs_J300
  rcases hsel with ⟨hng, htw, hrA, hrB, -, -, hnm⟩ | ⟨hng, htw, hkA, hkB, hnm⟩ | ⟨hng, hkA, hkB, hnm⟩
  · subst hng htw hnm
    refine ⟨fun y => (by cases y), fun _ => ⟨fun y => (by cases y), fun _ => ⟨in24, fun y => (by cases y), fun _ => ⟨fun y => (by cases y), fun _ => ⟨in34, ?_⟩⟩⟩⟩⟩
    rw [cn3, cn2, hrB.2.1, hrA.2.1, et]
    exact h
  · subst hng htw hnm hkA hkB
    refine ⟨fun y => (by cases y), fun _ => ⟨fun _ => ⟨in04, fun y => (by cases y), fun _ => ⟨fun _ => ⟨in14, ?_⟩, fun y => (by cases y)⟩⟩, fun y => (by cases y)⟩⟩
    rw [cn1, cn0, hsn, hpn, et, nI_1]
    exact h
  · subst hng hnm hkA hkB
    refine ⟨fun _ => ⟨in04, fun _ => ⟨in14, ?_⟩, fun y => (by cases y)⟩, fun y => (by cases y)⟩
    rw [cn1, cn0, hsn, hpn, et]
    exact h
theorem op_find {sf mf has af al : Nat → Int32} {L : Nat} {two x pm : Bool} {h z cm b t f q e : Int32} {pn sn mpn msn : Int32} {pf sfx mpf msf : Nat → Int32} (hsy : RelSy sf mf) (hL : L ≤ 9) (hsub : RelSub pm h z cm b t f q e x pn pf sn sfx has af al) (hmin : RelMin two mpn mpf msn msf af al) {tn ts : Int32} {tf tx : Nat → Int32} (htx : RelTx tn tf ts tx) (ng : Bool) (fw : Int64) (fp ft fz fe : Int32) (fn : Bool) (pg : Int32) (pgf amf : Nat → Int32) (os : Int32) (g : Int64) (gs : Int32) (dg out : Nat → Int32) :
    ∃ (r : Bool) (cu : Int64 × Int32 × Int32 × Int32 × Int32 × Bool × Int32 × (Nat → Int32) × (Nat → Int32)) (mu : Int32 × Int64 × Int32 × (Nat → Int32) × (Nat → Int32)), (r = true → cu.1 = mu.2.1 ∧ cu.2.1 = mu.2.2.1) ∧
      (∀ Q : Bool → (Int64 × Int32 × Int32 × Int32 × Int32 × Bool × Int32 × (Nat → Int32) × (Nat → Int32)) → Prop, Q r cu → wp_Fi_find fw fp ft fz fe fn pg pgf amf (nI L) sf two pm h z cm b t f q e x pn pf sn sfx mpn mpf msn msf tn tf ng Q) ∧
      (∀ Q : Bool → (Int32 × Int64 × Int32 × (Nat → Int32) × (Nat → Int32)) → Prop, Q r mu → wp_M_readAs two (nI L) os ts g gs has af al mf dg out tx ng Q) := by
  obtain ⟨s, hs, hm, hS⟩ := hsy
  obtain ⟨H, Z, C, B, T, F, G, E, kp, ks, ⟨rfl, rfl, rfl, rfl, rfl, rfl, rfl, rfl⟩, ⟨h0, h1, h2, h3, h4, h5, h6, h7, h8⟩, hbd, hpos, hEZ, ha0, ha1, hk0, hk1, hpm⟩ := hsub
  obtain ⟨k, hk, rfl, rfl, hft⟩ := htx
  obtain ⟨kA, kB, nm, hsel, hA40, hB40, hnm1⟩ := sel_of hmin hk0 hk1 ng
  have hcmp : ∀ {N sc : Nat}, N ≤ MX → sc ≤ 18 → _ := fun {N sc} hN hsc => op_cmp (L := L) hs hm hS h0 h1 h2 h3 h4 h5 h6 h7 h8 hbd hL hpos hEZ ha0 ha1 hk0 hk1 hpm hsel hk hft (N := N) (sc := sc) hN hsc pg pgf amf os dg out
  have hpc := s_pct ha0 ha1 hk0 hk1 hpm
  have hg := @s_gather sf af al ng two kp ks kA kB nm pn sn mpn msn mpf msf ha0.1 ha1.1 hsel k tf fw fp ft fz fe fn
  have hra := @s_readAs mf has af al tx dg out ng two kp ks kA kB nm L mpn msn mpf msf ha0.2.1 ha1.2.1 hsel k os gs g
  by_cases hem : (k : Int) - kB ≤ ((kA + nm : Nat) : Int)
  · -- no character between the affixes
    have cle : iI ((k : Int) - kB) ≤ nI (kA + nm) := by
      rw [nI_iI (kA + nm), cLe (by omega) (by omega) (by omega) (by omega)]; exact hem
    obtain ⟨b1, v1, hb1, hv1, hw1⟩ := s_setC (w := 0) (p := 0) (z := 0) (e := 0) (by unfold MX; omega) (by omega) (by omega) (by omega) false pm
    have hbt := hb1.mpr (Or.inl rfl)
    have hvt := hv1 hbt
    have ew : setW 0 (pw 0 0 0 false - (if pm = true then 2 else 0)) = 0 := if_pos rfl
    have es : setS 0 (pw 0 0 0 false - (if pm = true then 2 else 0)) = 0 := if_pos rfl
    rw [ew, es] at hvt
    obtain ⟨r, pg', pgf', amf', os', dg', out', hgd, hc, -⟩ := hcmp (N := 0) (sc := 0) (by unfold MX; omega) (by omega)
    have hrf : r = false := by
      cases r with
      | false => rfl
      | true =>
        obtain ⟨mid, -, l1, l2, -⟩ := hgd rfl
        omega
    refine ⟨false, (lN 0, nI 0, 0, 0, 0, false, pg', pgf', amf'), (os, g, gs, dg, out), fun y => (by cases y), fun Q hQ => ?_, fun Q hQ => hra Q ⟨fun _ => hQ, fun y => absurd cle y⟩⟩
    unfold wp_Fi_find
    refine hg 1 _ ?_
    unfold wp_Fi_gather_L540
    refine ⟨fun _ => ⟨fun y => (by cases y), fun _ => hw1 _ ?_⟩, fun y => absurd cle y⟩
    rw [hbt, hvt]
    refine ⟨fun y => (by cases y), fun _ => ?_⟩
    refine hc (fun r u => Q r (lN 0, nI 0, 0, 0, 0, false, u.1, u.2.1, u.2.2)) ?_
    rw [hrf]; exact hQ
  · have cle : ¬ iI ((k : Int) - kB) ≤ nI (kA + nm) := by
      rw [nI_iI (kA + nm), cLe (by omega) (by omega) (by omega) (by omega)]; exact hem
    have eto : iI ((k : Int) - kB) = nI (k - kB) := by rw [nI_iI]; congr 1; omega
    have hR0 : RdR 0 0 0 false false := ⟨by omega, ⟨fun y => (by cases y), fun y => (by omega)⟩, fun _ => ⟨fun y => (by cases y), fun y => (by omega)⟩, Or.inl rfl, by omega, by omega⟩
    have hM0 : 0 ≤ MX := Nat.zero_le _
    have hjl := j_loop (tf := tf) (tx := tx) (gs := gs) hs hm hS (tn := k) (to := k - kB) (by omega) hk hft two pn sn mpn msn (k - kB - (kA + nm)) (kA + nm) (by omega) 0 0 0 0 0 0 false false false hM0 (Nat.zero_le _) (Nat.zero_le _) hR0
    have ip : iI (-((0 : Nat) : Int)) = 0 := by decide
    rw [ip] at hjl
    rcases hjl with ⟨w', p', z', e1', e2', t', n', m1, m2, a1, a2, a3, a4, a5, a6, hc1, hr1⟩ | ⟨⟨v, m1, hv⟩, v2, m2, hv2⟩ | ⟨hng, v, m1, hv⟩
    · have hpb := pw_b (n := n') a2 a3 a6
      obtain ⟨b1, v1, hb1, hv1, hw1⟩ := s_setC a1 a2 a3 a5 n' pm
      obtain ⟨b2, v2, hb2, hv2, hw2⟩ := s_setM (af := af) (al := al) hpc a1 hpb.1 hpb.2
      obtain ⟨hf1, hf2⟩ := set_far (w := w') a2 a3 a4 n' pm
      have hbb : b2 = b1 := by
        have := hb2.trans (hf1.symm.trans hb1.symm)
        cases b1 <;> cases b2 <;> simp_all
      cases hbv : b1 with
      | false =>
        rw [hbv] at hbb
        subst hbv hbb
        refine ⟨false, (v1.1, v1.2, nI t', nI z', nI e1', n', pg, pgf, amf), (os, v2.1, v2.2, dg, out), fun y => (by cases y), fun Q hQ => ?_, fun Q hQ => hra Q ⟨fun y => absurd y cle, fun _ => ?_⟩⟩
        · unfold wp_Fi_find
          refine hg m1 _ ?_
          rw [eto]
          exact hc1 _ ⟨fun y => (by cases y), fun _ => hw1 _ ⟨fun _ => hQ, fun y => (by cases y)⟩⟩
        · rw [eto]
          exact ⟨m2, hr1 _ ⟨fun y => (by cases y), fun _ => hw2 _ ⟨fun _ => hQ, fun y => (by cases y)⟩⟩⟩
      | true =>
        rw [hbv] at hbb
        have hB1 := hb1.mp hbv
        have hve1 := hv1 hbv
        have hve2 := hv2 hbb
        obtain ⟨q1, q2⟩ := hf2 hB1
        rw [← q1, ← q2] at hve2
        obtain ⟨o1, o2⟩ := set_ok a1 hB1
        subst hbv hbb hve1 hve2
        obtain ⟨r, pg', pgf', amf', os', dg', out', hgd, hc, hi⟩ := hcmp o1 o2
        refine ⟨r, (lN (setW w' (pw p' z' e1' n' - (if pm = true then 2 else 0))), nI (setS w' (pw p' z' e1' n' - (if pm = true then 2 else 0))), nI t', nI z', nI e1', n', pg', pgf', amf'), (os', lN (setW w' (pw p' z' e1' n' - (if pm = true then 2 else 0))), nI (setS w' (pw p' z' e1' n' - (if pm = true then 2 else 0))), dg', out'), fun _ => ⟨rfl, rfl⟩, fun Q hQ => ?_, fun Q hQ => hra Q ⟨fun y => absurd y cle, fun _ => ?_⟩⟩
        · unfold wp_Fi_find
          refine hg m1 _ ?_
          rw [eto]
          refine hc1 _ ⟨fun y => (by cases y), fun _ => hw1 _ ⟨fun y => (by cases y), fun _ => ?_⟩⟩
          exact hc (fun r u => Q r (lN (setW w' (pw p' z' e1' n' - (if pm = true then 2 else 0))), nI (setS w' (pw p' z' e1' n' - (if pm = true then 2 else 0))), nI t', nI z', nI e1', n', u.1, u.2.1, u.2.2)) hQ
        · rw [eto]
          refine ⟨m2, hr1 _ ⟨fun y => (by cases y), fun _ => hw2 _ ⟨fun y => (by cases y), fun _ => hi _ ?_⟩⟩⟩
          cases r with
          | true => exact ⟨fun y => (by cases y), fun _ => hQ⟩
          | false => exact ⟨fun _ => hQ, fun y => (by cases y)⟩
    · refine ⟨false, (v.1, v.2.1, v.2.2.1, v.2.2.2.1, v.2.2.2.2.1, v.2.2.2.2.2, pg, pgf, amf), (os, v2.1, v2.2, dg, out), fun y => (by cases y), fun Q hQ => ?_, fun Q hQ => hra Q ⟨fun y => absurd y cle, fun _ => ?_⟩⟩
      · unfold wp_Fi_find
        refine hg m1 _ ?_
        rw [eto]
        exact hv _ ⟨fun _ => hQ, fun y => (by cases y)⟩
      · rw [eto]
        exact ⟨m2, hv2 _ ⟨fun _ => hQ, fun y => (by cases y)⟩⟩
    · -- the class has seen what no written number has
      have hcl : ∀ Q : Bool → (Int64 × Int32 × Int32 × Int32 × Int32 × Bool × Int32 × (Nat → Int32) × (Nat → Int32)) → Prop, Q false (v.1, v.2.1, v.2.2.1, v.2.2.2.1, v.2.2.2.2.1, v.2.2.2.2.2, pg, pgf, amf) → wp_Fi_find fw fp ft fz fe fn pg pgf amf (nI L) sf two pm (nI H) (nI Z) (nI C) (nI B) (nI T) (nI F) (nI G) (nI E) x pn pf sn sfx mpn mpf msn msf (nI k) tf ng Q := by
        intro Q hQ
        unfold wp_Fi_find
        refine hg m1 _ ?_
        rw [eto]
        exact hv _ ⟨fun _ => hQ, fun y => (by cases y)⟩
      obtain ⟨b0, g0, g2, m2, hb0, hw0⟩ := r_total (tx := tx) (gs := gs) hm (to := k - kB) (by omega) (k - kB - (kA + nm)) (kA + nm) (by omega) 0 0 0 0 false false false hM0 (Nat.zero_le _) (Nat.zero_le _) (by omega)
      rw [ip] at hw0
      cases hbv : b0 with
      | false =>
        subst hbv
        refine ⟨false, _, (os, g0, g2, dg, out), fun y => (by cases y), hcl, fun Q hQ => hra Q ⟨fun y => absurd y cle, fun _ => ?_⟩⟩
        rw [eto]
        exact ⟨m2, hw0 _ ⟨fun _ => hQ, fun y => (by cases y)⟩⟩
      | true =>
        obtain ⟨w', kk, c1, c2, c3, rfl, rfl⟩ := hb0 hbv
        subst hbv
        obtain ⟨b2, v2, hb2, hv2, hw2⟩ := s_setM (af := af) (al := al) hpc c1 c2 c3
        cases hbv2 : b2 with
        | false =>
          subst hbv2
          refine ⟨false, _, (os, v2.1, v2.2, dg, out), fun y => (by cases y), hcl, fun Q hQ => hra Q ⟨fun y => absurd y cle, fun _ => ?_⟩⟩
          rw [eto]
          exact ⟨m2, hw0 _ ⟨fun y => (by cases y), fun _ => hw2 _ ⟨fun _ => hQ, fun y => (by cases y)⟩⟩⟩
        | true =>
          have hB := hb2.mp hbv2
          have hve := hv2 hbv2
          obtain ⟨o1, o2⟩ := set_ok c1 hB
          subst hbv2 hve
          obtain ⟨r, pg', pgf', amf', os', dg', out', hgd, -, hi⟩ := hcmp o1 o2
          have hrf : r = false := by
            cases r with
            | false => rfl
            | true =>
              obtain ⟨mid, l0, l1, l2, l3⟩ := hgd rfl
              have ed : k - kB - (kA + nm) = mid.length := by omega
              rw [ed, cod_eq mid (kA + nm) l3] at hng
              exact absurd l0 hng
          subst hrf
          refine ⟨false, _, (os', lN (setW w' (kk - (if pm = true then 2 else 0))), nI (setS w' (kk - (if pm = true then 2 else 0))), dg', out'), fun y => (by cases y), hcl, fun Q hQ => hra Q ⟨fun y => absurd y cle, fun _ => ?_⟩⟩
          rw [eto]
          exact ⟨m2, hw0 _ ⟨fun y => (by cases y), fun _ => hw2 _ ⟨fun y => (by cases y), fun _ => hi _ ⟨fun _ => hQ, fun y => (by cases y)⟩⟩⟩⟩
theorem op_read {sf mf has af al : Nat → Int32} {L : Nat} {two x pm : Bool} {h z cm b t f q e : Int32} {pn sn mpn msn : Int32} {pf sfx mpf msf : Nat → Int32} (hsy : RelSy sf mf) (hL : L ≤ 9) (hsub : RelSub pm h z cm b t f q e x pn pf sn sfx has af al) (hmin : RelMin two mpn mpf msn msf af al) {tn ts : Int32} {tf tx : Nat → Int32} (htx : RelTx tn tf ts tx) (ofs : Int64) (ofc : Int32) (fw : Int64) (fp ft fz fe : Int32) (fn : Bool) (pg : Int32) (pgf amf : Nat → Int32) (os : Int32) (mfs : Int64) (mfc : Int32) (g : Int64) (gs : Int32) (dg out : Nat → Int32) :
    ∃ (r : Int32) (nfs : Int64) (nfc : Int32) (cu : Int64 × Int32 × Int32 × Int32 × Int32 × Bool × Int32 × (Nat → Int32) × (Nat → Int32)) (mu : Int32 × Int64 × Int32 × (Nat → Int32) × (Nat → Int32)),
      (∀ Q : Int32 → (Int64 × Int32 × Int64 × Int32 × Int32 × Int32 × Int32 × Bool × Int32 × (Nat → Int32) × (Nat → Int32)) → Prop, Q r (nfs, nfc, cu) → wp_X_read ofs ofc fw fp ft fz fe fn pg pgf amf (nI L) sf two pm h z cm b t f q e x pn pf sn sfx mpn mpf msn msf tn tf Q) ∧
      (∀ Q : Int32 → (Int32 × Int64 × Int32 × Int64 × Int32 × (Nat → Int32) × (Nat → Int32)) → Prop, Q r (mu.1, nfs, nfc, mu.2) → wp_M_read two (nI L) os ts mfs mfc g gs has af al mf dg out tx Q) := by
  obtain ⟨r1, c1, m1, he1, hc1, hm1⟩ := op_find hsy hL hsub hmin htx false fw fp ft fz fe fn pg pgf amf os g gs dg out
  cases hr1 : r1 with
  | true =>
    subst hr1
    obtain ⟨e1, e2⟩ := he1 rfl
    refine ⟨1, m1.2.1, m1.2.2.1, c1, m1, fun Q hQ => ?_, fun Q hQ => ?_⟩
    · unfold wp_X_read wp_X_keepFound
      rw [← e1, ← e2] at hQ
      exact hc1 _ ⟨fun y => (by cases y), fun _ => hQ⟩
    · unfold wp_M_read wp_M_read_J250
      exact hm1 _ ⟨fun y => (by cases y), fun _ => ⟨fun _ => ⟨fun _ => hQ, fun y => absurd y (by decide)⟩, fun y => absurd y (by decide)⟩⟩
  | false =>
    subst hr1
    obtain ⟨r2, c2, m2, he2, hc2, hm2⟩ := op_find hsy hL hsub hmin htx true c1.1 c1.2.1 c1.2.2.1 c1.2.2.2.1 c1.2.2.2.2.1 c1.2.2.2.2.2.1 c1.2.2.2.2.2.2.1 c1.2.2.2.2.2.2.2.1 c1.2.2.2.2.2.2.2.2 m1.1 m1.2.1 m1.2.2.1 m1.2.2.2.1 m1.2.2.2.2
    cases hr2 : r2 with
    | true =>
      subst hr2
      obtain ⟨e1, e2⟩ := he2 rfl
      refine ⟨-1, m2.2.1, m2.2.2.1, c2, m2, fun Q hQ => ?_, fun Q hQ => ?_⟩
      · unfold wp_X_read wp_X_keepFound
        rw [← e1, ← e2] at hQ
        exact hc1 _ ⟨fun _ => hc2 _ ⟨fun y => (by cases y), fun _ => hQ⟩, fun y => (by cases y)⟩
      · unfold wp_M_read wp_M_read_J250
        exact hm1 _ ⟨fun _ => hm2 _ ⟨fun y => (by cases y), fun _ => ⟨fun _ => ⟨fun _ => hQ, fun y => absurd y (by decide)⟩, fun y => absurd y (by decide)⟩⟩, fun y => (by cases y)⟩
    | false =>
      subst hr2
      refine ⟨0, 0, 0, c2, m2, fun Q hQ => ?_, fun Q hQ => ?_⟩
      · unfold wp_X_read wp_X_keepFound
        exact hc1 _ ⟨fun _ => hc2 _ ⟨fun _ => hQ, fun y => (by cases y)⟩, fun y => (by cases y)⟩
      · unfold wp_M_read wp_M_read_J250
        exact hm1 _ ⟨fun _ => hm2 _ ⟨fun _ => ⟨fun y => absurd rfl y, fun _ => ⟨fun y => absurd rfl y, fun _ => hQ⟩⟩, fun y => (by cases y)⟩, fun y => (by cases y)⟩
