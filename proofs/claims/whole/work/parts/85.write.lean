/-! write: class and reference -/
theorem s_code256 {len pos : Nat} (h : pos < len) (hl : len ≤ 256) (f : Nat → Int32) : ∀ Q : Int32 → Unit → Prop, Q (f pos) () → wp_Row_code 256 (nI len) f (nI pos) Q := by
  intro Q hQ
  unfold wp_Row_code wp_Row_has
  have e0 : ¬ nI pos < 0 := nI_pos (by omega)
  have e1 : ¬ nI len ≤ nI pos := nI_ge h (by omega)
  rw [nI_clamp (by omega)]
  exact ⟨fun z => absurd z e0, fun _ => ⟨fun z => absurd z e1, fun _ => ⟨fun z => (by cases z), fun _ => ⟨vp_in_nI (by omega) (by omega), hQ⟩⟩⟩⟩
theorem s_rowCopyL {w : List Int32} (hl : w.length ≤ 256) {pf : Nat → Int32} (hp : ∀ (i : Nat) (h : i < w.length), pf i = w[i]) : ∀ (d i : Nat), i + d = w.length → ∀ tf : Nat → Int32, (∀ (j : Nat) (h : j < w.length), j < i → tf j = w[j]) → ∃ (tf' : Nat → Int32) (m : Nat), (∀ (j : Nat) (h : j < w.length), tf' j = w[j]) ∧ ∀ Q : (Int32 × (Nat → Int32)) → Prop, Q (nI w.length, tf') → wp_Row_copyFrom_L60 m 256 256 (nI w.length) pf (nI i) (nI i) tf Q := by
  intro d
  induction d with
  | zero =>
    intro i hi tf ht
    obtain rfl : i = w.length := by omega
    refine ⟨tf, 1, fun j h => ht j h h, fun Q hQ => ?_⟩
    unfold wp_Row_copyFrom_L60
    exact ⟨fun _ => hQ, fun z => absurd (nI_le (Nat.le_refl _) (by omega)) z⟩
  | succ d ih =>
    intro i hi tf ht
    have hiw : i < w.length := by omega
    obtain ⟨tf', m, ht', hw⟩ := ih (i + 1) (by omega) (upd tf i (pf i)) (fun j h hj => by
      by_cases hji : j = i
      · subst hji; rw [upd_same]; exact hp j h
      · rw [upd_other _ _ hji]; exact ht j h (by omega))
    refine ⟨tf', m + 1, ht', fun Q hQ => ?_⟩
    have h1 := hw Q hQ
    unfold wp_Row_copyFrom_L60
    rw [nI_1]
    exact ⟨fun z => absurd z (nI_ge hiw (by omega)), fun _ => s_code256 hiw hl pf _ (s_add (by omega) (by omega) tf (pf i) _ h1)⟩
theorem s_copyFrom {w : List Int32} (hl : w.length ≤ 256) {pn tn : Int32} {pf tf : Nat → Int32} (hp : Pg pn pf w) : ∃ (tn' : Int32) (tf' : Nat → Int32), Pg tn' tf' w ∧ ∀ Q : (Int32 × (Nat → Int32)) → Prop, Q (tn', tf') → wp_Row_copyFrom 256 256 tn tf pn pf Q := by
  obtain ⟨tf', m, ht', hw⟩ := s_rowCopyL hl hp.2 w.length 0 (by omega) tf (fun j _ h => absurd h (Nat.not_lt_zero j))
  refine ⟨nI w.length, tf', ⟨rfl, ht'⟩, fun Q hQ => ?_⟩
  rw [hp.1]
  exact ⟨m, hw Q hQ⟩
theorem s_mCopyL {w : List Int32} (hl : w.length ≤ 256) {out : Nat → Int32} (hp : ∀ (i : Nat) (h : i < w.length), out i = w[i]) {two : Bool} {ml ts : Int32} {has af al sy dg : Nat → Int32} : ∀ (d i : Nat), i + d = w.length → ∀ tx : Nat → Int32, (∀ (j : Nat) (h : j < w.length), j < i → tx j = w[j]) → ∃ (tx' : Nat → Int32) (m : Nat), (∀ (j : Nat) (h : j < w.length), tx' j = w[j]) ∧ ∀ Q : Int32 → (Int32 × Int32 × (Nat → Int32) × (Nat → Int32) × (Nat → Int32)) → Prop, Q (nI w.length) (nI w.length, nI w.length, dg, out, tx') → wp_M_write_L520 m two ml has af al sy (nI i) (nI w.length) ts dg out tx Q := by
  intro d
  induction d with
  | zero =>
    intro i hi tx ht
    obtain rfl : i = w.length := by omega
    refine ⟨tx, 1, fun j h => ht j h h, fun Q hQ => ?_⟩
    unfold wp_M_write_L520
    exact ⟨fun _ => hQ, fun z => absurd (nI_le (Nat.le_refl _) (by omega)) z⟩
  | succ d ih =>
    intro i hi tx ht
    have hiw : i < w.length := by omega
    obtain ⟨tx', m, ht', hw⟩ := ih (i + 1) (by omega) (upd tx i (out i)) (fun j h hj => by
      by_cases hji : j = i
      · subst hji; rw [upd_same]; exact hp j h
      · rw [upd_other _ _ hji]; exact ht j h (by omega))
    refine ⟨tx', m + 1, ht', fun Q hQ => ?_⟩
    have h1 := hw Q hQ
    unfold wp_M_write_L520
    rw [nI_1, nI_clamp (by omega)]
    have iv : vp_in (nI i) 400 := vp_in_nI (by omega) (by omega)
    exact ⟨fun z => absurd z (nI_ge hiw (by omega)), fun _ => ⟨iv, iv, h1⟩⟩
theorem sel_of {two : Bool} {mpn msn : Int32} {mpf msf af al : Nat → Int32} (hmin : RelMin two mpn mpf msn msf af al) {kp ks : Nat} (hk0 : kp ≤ 40) (hk1 : ks ≤ 40) (ng : Bool) : ∃ kA kB nm : Nat, Sel ng two kp ks mpn mpf msn msf af al kA kB nm ∧ kA ≤ 40 ∧ kB ≤ 40 ∧ nm ≤ 1 := by
  cases ng with
  | false => exact ⟨kp, ks, 0, Or.inr (Or.inr ⟨rfl, rfl, rfl, rfl⟩), hk0, hk1, by omega⟩
  | true =>
    cases two with
    | false => exact ⟨kp, ks, 1, Or.inr (Or.inl ⟨rfl, rfl, rfl, rfl, rfl⟩), hk0, hk1, by omega⟩
    | true =>
      obtain ⟨kA, kB, h1, h2, h3, h4⟩ := hmin rfl
      exact ⟨kA, kB, 0, Or.inl ⟨rfl, rfl, h1, h2, h3, h4, rfl⟩, h3, h4, by omega⟩
theorem j_le0 {u : Int64} : (u ≤ 0) = (u.toInt ≤ 0) := by
  have e : (0 : Int64).toInt = 0 := by decide
  exact propext (by rw [Int64.le_iff_toInt_le, e])
theorem j_ge0 {u : Int64} : (0 ≤ u) = (0 ≤ u.toInt) := by
  have e : (0 : Int64).toInt = 0 := by decide
  exact propext (by rw [Int64.le_iff_toInt_le, e])
theorem j_abs (u : Int64) : u.toInt.natAbs ≤ 9223372036854775808 ∧ (u.toInt ≤ 0 → u = jI (-(u.toInt.natAbs : Int))) ∧ (0 ≤ u.toInt → -u = jI (-(u.toInt.natAbs : Int))) := by
  have h1 := Int64.le_toInt u
  have h2 := Int64.toInt_lt u
  refine ⟨by omega, fun h => ?_, fun h => ?_⟩
  · have : (-(u.toInt.natAbs : Int)) = u.toInt := by omega
    rw [this]; exact jI_of u
  · have : (-(u.toInt.natAbs : Int)) = -u.toInt := by omega
    rw [this, ← jI_neg, ← jI_of]
theorem op_write {sf mf has af al : Nat → Int32} {L : Nat} {two x pm : Bool} {h z cm b t f q e : Int32} {pn sn mpn msn : Int32} {pf sfx mpf msf : Nat → Int32} (hsy : RelSy sf mf) (hL : L ≤ 9) (hsub : RelSub pm h z cm b t f q e x pn pf sn sfx has af al) (hmin : RelMin two mpn mpf msn msf af al) {tn ts : Int32} {tf tx : Nat → Int32} (htx : RelTx tn tf ts tx) (un : Int64) (sl md : Int32) (pg : Int32) (pgf amf : Nat → Int32) (os : Int32) (dg out : Nat → Int32) :
    ∃ (r pg' : Int32) (pgf' amf' : Nat → Int32) (tn' : Int32) (tf' : Nat → Int32) (os' ts' : Int32) (dg' out' tx' : Nat → Int32), RelTx tn' tf' ts' tx' ∧
      (∀ Q : Int32 → (Int32 × (Nat → Int32) × (Nat → Int32) × Int32 × (Nat → Int32)) → Prop, Q r (pg', pgf', amf', tn', tf') → wp_X_write pg pgf amf (nI L) sf two pm h z cm b t f q e x pn pf sn sfx mpn mpf msn msf tn tf un sl md Q) ∧
      (∀ Q : Int32 → (Int32 × Int32 × (Nat → Int32) × (Nat → Int32) × (Nat → Int32)) → Prop, Q r (os', ts', dg', out', tx') → wp_M_write two (nI L) os ts has af al mf dg out tx un sl md Q) := by
  obtain ⟨s, hs, hm, hS⟩ := hsy
  obtain ⟨H, Z, C, B, T, F, G, E, kp, ks, ⟨rfl, rfl, rfl, rfl, rfl, rfl, rfl, rfl⟩, ⟨h0, h1, h2, h3, h4, h5, h6, h7, h8⟩, hbd, hpos, hEZ, ha0, ha1, hk0, hk1, hpm⟩ := hsub
  by_cases c1 : sl < 0
  · exact ⟨-1, pg, pgf, amf, tn, tf, os, ts, dg, out, tx, htx, fun Q hQ => ⟨fun _ => hQ, fun z => absurd c1 z⟩, fun Q hQ => ⟨fun _ => hQ, fun z => absurd c1 z⟩⟩
  by_cases c2 : 18 < sl
  · exact ⟨-1, pg, pgf, amf, tn, tf, os, ts, dg, out, tx, htx, fun Q hQ => ⟨fun z => absurd z c1, fun _ => ⟨fun _ => hQ, fun z => absurd c2 z⟩⟩, fun Q hQ => ⟨fun z => absurd z c1, fun _ => ⟨fun _ => hQ, fun z => absurd c2 z⟩⟩⟩
  by_cases c3 : md < 0
  · exact ⟨-1, pg, pgf, amf, tn, tf, os, ts, dg, out, tx, htx, fun Q hQ => ⟨fun z => absurd z c1, fun _ => ⟨fun z => absurd z c2, fun _ => ⟨fun _ => hQ, fun z => absurd c3 z⟩⟩⟩, fun Q hQ => ⟨fun z => absurd z c1, fun _ => ⟨fun z => absurd z c2, fun _ => ⟨fun _ => hQ, fun z => absurd c3 z⟩⟩⟩⟩
  by_cases c4 : md ≤ 7
  · obtain ⟨sc, hsc, rfl⟩ := nI_of2 (M := 18) (n := 18) (by decide) c1 (i32_nle c2)
    obtain ⟨m, hm7, rfl⟩ := nI_of2 (M := 7) (n := 7) (by decide) c3 c4
    obtain ⟨hN, hj1, hj2⟩ := j_abs un
    have go : ∀ ng : Bool, (∀ y : Int64, y = jI (-(un.toInt.natAbs : Int)) → ∃ (r pg' : Int32) (pgf' amf' : Nat → Int32) (tn' : Int32) (tf' : Nat → Int32) (os' ts' : Int32) (dg' out' tx' : Nat → Int32), RelTx tn' tf' ts' tx' ∧
      (∀ Q : Int32 → (Int32 × (Nat → Int32) × (Nat → Int32) × Int32 × (Nat → Int32)) → Prop, Q r (pg', pgf', amf', tn', tf') → wp_X_write_J550 (nI L) sf two pm (nI H) (nI Z) (nI C) (nI B) (nI T) (nI F) (nI G) (nI E) x pn pf sn sfx mpn mpf msn msf (nI sc) (nI m) y ng pg pgf amf tn tf Q) ∧
      (∀ Q : Int32 → (Int32 × Int32 × (Nat → Int32) × (Nat → Int32) × (Nat → Int32)) → Prop, Q r (os', ts', dg', out', tx') → wp_M_write_J360 two (nI L) has af al mf un (nI sc) (nI m) ng os ts dg out tx Q)) := by
      intro ng y hy
      subst hy
      obtain ⟨kA, kB, nm, hsel, -, -, -⟩ := sel_of hmin hk0 hk1 ng
      obtain ⟨bb, pg', pgf', amf', os', dg', out', hgood, hwc, hwr⟩ := op_render hs hm hS h0 h1 h2 h3 h4 h5 h6 h7 h8 hbd hL hpos hEZ ha0 ha1 hk0 hk1 hpm hsel hN (u := un) ⟨fun zz => hj1 (by rw [← j_le0]; exact zz), fun zz => hj2 (by rw [j_le0] at zz; omega)⟩ hsc m hm7 pg pgf amf os dg out
      cases hbv : bb with
      | false =>
        subst hbv
        refine ⟨-2, pg', pgf', amf', tn, tf, os', ts, dg', out', tx, htx, fun Q hQ => ?_, fun Q hQ => ?_⟩
        · unfold wp_X_write_J550
          exact hwc _ ⟨fun zz => (by cases zz), fun _ => hQ⟩
        · unfold wp_M_write_J360
          exact hwr _ ⟨fun zz => (by cases zz), fun _ => hQ⟩
      | true =>
        subst hbv
        obtain ⟨pre, mid, suf, l1, l2, l3, l4, lg, hp, hq⟩ := hgood rfl
        obtain ⟨tn', tf', ht', hcw⟩ := s_copyFrom (tn := tn) (tf := tf) l4 hp
        obtain ⟨tx', n520, htx', hmw⟩ := s_mCopyL l4 hq.2 (two := two) (ml := nI L) (ts := ts) (has := has) (af := af) (al := al) (sy := mf) (dg := dg') (pre ++ mid ++ suf).length 0 (by omega) tx (fun j _ hj => absurd hj (Nat.not_lt_zero j))
        refine ⟨nI (pre ++ mid ++ suf).length, pg', pgf', amf', tn', tf', nI (pre ++ mid ++ suf).length, nI (pre ++ mid ++ suf).length, dg', out', tx', ⟨_, l4, ht'.1, rfl, fun i hi => by rw [ht'.2 i hi, htx' i hi]⟩, fun Q hQ => ?_, fun Q hQ => ?_⟩
        · unfold wp_X_write_J550
          rw [← ht'.1] at hQ
          exact hwc _ ⟨fun _ => hcw _ hQ, fun zz => (by cases zz)⟩
        · unfold wp_M_write_J360
          refine hwr _ ⟨fun _ => ⟨n520, ?_⟩, fun zz => (by cases zz)⟩
          have h520 := hmw Q hQ
          rw [← hq.1] at h520
          exact h520
    by_cases c5 : 0 ≤ un
    · obtain ⟨r, pg', pgf', amf', tn', tf', os', ts', dg', out', tx', hr, hwc, hwm⟩ := go false (-un) (hj2 (by rw [← j_ge0]; exact c5))
      refine ⟨r, pg', pgf', amf', tn', tf', os', ts', dg', out', tx', hr, fun Q hQ => ?_, fun Q hQ => ?_⟩
      · exact ⟨fun zz => absurd zz c1, fun _ => ⟨fun zz => absurd zz c2, fun _ => ⟨fun zz => absurd zz c3, fun _ => ⟨fun _ => ⟨fun _ => ⟨fun _ => hwc Q hQ, fun zz => absurd c5 zz⟩, fun zz => absurd c5 zz⟩, fun zz => absurd c4 zz⟩⟩⟩⟩
      · exact ⟨fun zz => absurd zz c1, fun _ => ⟨fun zz => absurd zz c2, fun _ => ⟨fun zz => absurd zz c3, fun _ => ⟨fun _ => ⟨fun _ => hwm Q hQ, fun zz => absurd c5 zz⟩, fun zz => absurd c4 zz⟩⟩⟩⟩
    · obtain ⟨r, pg', pgf', amf', tn', tf', os', ts', dg', out', tx', hr, hwc, hwm⟩ := go true un (hj1 (by rw [j_ge0] at c5; omega))
      refine ⟨r, pg', pgf', amf', tn', tf', os', ts', dg', out', tx', hr, fun Q hQ => ?_, fun Q hQ => ?_⟩
      · exact ⟨fun zz => absurd zz c1, fun _ => ⟨fun zz => absurd zz c2, fun _ => ⟨fun zz => absurd zz c3, fun _ => ⟨fun _ => ⟨fun zz => absurd zz c5, fun _ => ⟨fun zz => absurd zz c5, fun _ => hwc Q hQ⟩⟩, fun zz => absurd c4 zz⟩⟩⟩⟩
      · exact ⟨fun zz => absurd zz c1, fun _ => ⟨fun zz => absurd zz c2, fun _ => ⟨fun zz => absurd zz c3, fun _ => ⟨fun _ => ⟨fun zz => absurd zz c5, fun _ => hwm Q hQ⟩, fun zz => absurd c4 zz⟩⟩⟩⟩
  · exact ⟨-1, pg, pgf, amf, tn, tf, os, ts, dg, out, tx, htx, fun Q hQ => ⟨fun z => absurd z c1, fun _ => ⟨fun z => absurd z c2, fun _ => ⟨fun z => absurd z c3, fun _ => ⟨fun z => absurd z c4, fun _ => hQ⟩⟩⟩⟩, fun Q hQ => ⟨fun z => absurd z c1, fun _ => ⟨fun z => absurd z c2, fun _ => ⟨fun z => absurd z c3, fun _ => ⟨fun z => absurd z c4, fun _ => hQ⟩⟩⟩⟩⟩
