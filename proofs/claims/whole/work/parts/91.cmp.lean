/-! the text that would be written against the text that is there -/
theorem s_sameL {k : Nat} (hk : k ≤ 256) {pf tf : Nat → Int32} : ∀ (d i : Nat), i + d = k → ∃ (r : Bool) (m : Nat), (r = true ↔ ∀ j, i ≤ j → j < k → pf j = tf j) ∧ ∀ Q : Bool → Unit → Prop, Q r () → wp_Row_isSameAs_L150 m 256 256 (nI k) pf (nI k) tf (nI i) Q := by
  intro d
  induction d with
  | zero =>
    intro i hi
    refine ⟨true, 1, ⟨fun _ j h1 h2 => (by omega), fun _ => rfl⟩, fun Q hQ => ?_⟩
    unfold wp_Row_isSameAs_L150
    exact ⟨fun _ => hQ, fun y => absurd (nI_le (by omega) (by omega)) y⟩
  | succ d ih =>
    intro i hi
    have e1 : ¬ nI k ≤ nI i := nI_ge (by omega) (by omega)
    by_cases hv : pf i = tf i
    · obtain ⟨r, m, hr, hw⟩ := ih (i + 1) (by omega)
      refine ⟨r, m + 1, ⟨fun y j h1 h2 => ?_, fun y => hr.mpr fun j h1 h2 => y j (by omega) h2⟩, fun Q hQ => ?_⟩
      · by_cases hj : j = i
        · subst hj; exact hv
        · exact hr.mp y j (by omega) h2
      · have h := hw Q hQ
        unfold wp_Row_isSameAs_L150
        rw [nI_1 i]
        exact ⟨fun y => absurd y e1, fun _ => s_code256 (by omega) hk pf _ (s_code256 (by omega) hk tf _ ⟨fun _ => h, fun y => absurd hv y⟩)⟩
    · refine ⟨false, 1, ⟨fun y => (by cases y), fun y => absurd (y i (Nat.le_refl _) (by omega)) hv⟩, fun Q hQ => ?_⟩
      unfold wp_Row_isSameAs_L150
      exact ⟨fun y => absurd y e1, fun _ => s_code256 (by omega) hk pf _ (s_code256 (by omega) hk tf _ ⟨fun y => absurd y hv, fun _ => hQ⟩)⟩
section TX
variable {two : Bool} {ml : Int32} {g : Int64} {gs : Int32} {has af al sy dg out tx : Nat → Int32} {os : Int32}
theorem s_textF {k : Nat} {x3 : Int32} : ∀ Q : Bool → (Int32 × (Nat → Int32) × (Nat → Int32)) → Prop, Q false (os, dg, out) → wp_M_isText_L370 1 two ml (nI k) g gs has af al sy tx false x3 os dg out Q := by
  intro Q hQ
  unfold wp_M_isText_L370
  exact ⟨fun _ => hQ, fun _ => ⟨fun _ => hQ, fun y => (by cases y)⟩⟩
theorem s_textL {k : Nat} (hk : k ≤ 256) : ∀ (d i : Nat), i + d = k → ∃ (r : Bool) (m : Nat), (r = true ↔ ∀ j, i ≤ j → j < k → out j = tx j) ∧ ∀ Q : Bool → (Int32 × (Nat → Int32) × (Nat → Int32)) → Prop, Q r (os, dg, out) → wp_M_isText_L370 m two ml (nI k) g gs has af al sy tx true (nI i) os dg out Q := by
  intro d
  induction d with
  | zero =>
    intro i hi
    refine ⟨true, 1, ⟨fun _ j h1 h2 => (by omega), fun _ => rfl⟩, fun Q hQ => ?_⟩
    unfold wp_M_isText_L370
    exact ⟨fun _ => hQ, fun y => absurd (nI_le (by omega) (by omega)) y⟩
  | succ d ih =>
    intro i hi
    have e1 : ¬ nI k ≤ nI i := nI_ge (by omega) (by omega)
    have e2 : (nI i).toNatClampNeg = i := nI_clamp (by omega)
    have e3 : vp_in (nI i) 400 := vp_in_nI (by omega) (by omega)
    by_cases hv : out i = tx i
    · obtain ⟨r, m, hr, hw⟩ := ih (i + 1) (by omega)
      refine ⟨r, m + 1, ⟨fun y j h1 h2 => ?_, fun y => hr.mpr fun j h1 h2 => y j (by omega) h2⟩, fun Q hQ => ?_⟩
      · by_cases hj : j = i
        · subst hj; exact hv
        · exact hr.mp y j (by omega) h2
      · have h := hw Q hQ
        unfold wp_M_isText_L370
        rw [nI_1 i, e2]
        exact ⟨fun y => absurd y e1, fun _ => ⟨fun y => (by cases y), fun _ => ⟨e3, e3, fun y => absurd hv y, fun _ => h⟩⟩⟩
    · refine ⟨false, 2, ⟨fun y => (by cases y), fun y => absurd (y i (Nat.le_refl _) (by omega)) hv⟩, fun Q hQ => ?_⟩
      have h := s_textF (two := two) (ml := ml) (g := g) (gs := gs) (has := has) (af := af) (al := al) (sy := sy) (tx := tx) (k := k) (x3 := nI (i + 1)) Q hQ
      unfold wp_M_isText_L370
      rw [nI_1 i, e2]
      exact ⟨fun y => absurd y e1, fun _ => ⟨fun y => (by cases y), fun _ => ⟨e3, e3, fun _ => h, fun y => absurd y hv⟩⟩⟩
end TX
theorem lN_jI (n : Nat) : lN n = jI (n : Int) := by
  show Int64.ofNat n = Int64.ofInt (n : Int)
  rw [Int64.ofInt_eq_ofNat]
theorem lN_u {N : Nat} (hN : N ≤ MX) : (lN N ≤ 0 → lN N = jI (-(N : Int))) ∧ (¬ lN N ≤ 0 → -lN N = jI (-(N : Int))) := by
  refine ⟨fun h => ?_, fun _ => by rw [lN_jI, jI_neg]⟩
  rw [l_0, pk_lLE (by unfold MX at hN; omega) (by omega)] at h
  have : N = 0 := by omega
  subst this
  rfl
theorem op_cmp {sf mf has af al : Nat → Int32} {s : Nat → Nat} {H Z C B T F G E L kp ks : Nat} {x pm : Bool} {pn sn : Int32} {pf sfx : Nat → Int32} (hs : Num6 sf s) (hm : Num6 mf s) (hS : SoundC s)
    (h0 : has 0 = nI H) (h1 : has 1 = nI Z) (h2 : has 2 = nI F) (h3 : has 3 = nI G) (h4 : has 4 = nI E) (h5 : has 5 = bI x) (h6 : has 6 = nI C) (h7 : has 7 = nI B) (h8 : has 8 = nI (if C = 1 then B else T)) (hbd : Bd 40 H Z C B T F G E) (hL : L ≤ 9) (hpos : 0 < C → 1 ≤ T ∧ 1 ≤ B) (hEZ : 0 < E → 1 ≤ Z ∧ C = 0) (ha0 : RelAf pn pf af al 0 kp) (ha1 : RelAf sn sfx af al 1 ks) (hk0 : kp ≤ 40) (hk1 : ks ≤ 40) (hpm : PMx pm pf sfx kp ks)
    {ng two : Bool} {mpn msn : Int32} {mpf msf : Nat → Int32} {kA kB nm : Nat} (hsel : Sel ng two kp ks mpn mpf msn msf af al kA kB nm)
    {k : Nat} (hk : k ≤ 256) {tf tx : Nat → Int32} (hft : ∀ j, j < k → tf j = tx j) {N sc : Nat} (hN : N ≤ MX) (hsc : sc ≤ 18) (pg : Int32) (pgf amf : Nat → Int32) (os : Int32) (dg out : Nat → Int32) :
    ∃ (r : Bool) (pg' : Int32) (pgf' amf' : Nat → Int32) (os' : Int32) (dg' out' : Nat → Int32),
      (r = true → ∃ mid : List Int32, gram s 0 mid ∧ 1 ≤ mid.length ∧ kA + nm + mid.length + kB = k ∧ ∀ (j : Nat) (h : j < mid.length), tx (kA + nm + j) = mid[j]) ∧
      (∀ Q : Bool → (Int32 × (Nat → Int32) × (Nat → Int32)) → Prop, Q r (pg', pgf', amf') → wp_Sc_compose pg pgf amf (nI L) sf two pm (nI H) (nI Z) (nI C) (nI B) (nI T) (nI F) (nI G) (nI E) x pn pf sn sfx mpn mpf msn msf ng (-lN N) (nI sc) 7 (fun r5 u6 => (r5 = false → Q false (u6.1, u6.2.1, u6.2.2)) ∧ (r5 = true → wp_Row_isSameAs 256 256 u6.1 u6.2.1 (nI k) tf (fun r7 u8 => (r7 = false → Q false (u6.1, u6.2.1, u6.2.2)) ∧ (r7 = true → Q true (u6.1, u6.2.1, u6.2.2)))))) ∧
      (∀ Q : Bool → (Int32 × (Nat → Int32) × (Nat → Int32)) → Prop, Q r (os', dg', out') → wp_M_isText two (nI L) os (nI k) (lN N) (nI sc) has af al mf dg out tx ng Q) := by
  obtain ⟨b, pg', pgf', amf', os', dg', out', hgood, hwc, hwr⟩ := op_render (L := L) hs hm hS h0 h1 h2 h3 h4 h5 h6 h7 h8 hbd hL hpos hEZ ha0 ha1 hk0 hk1 hpm hsel (N := N) (by unfold MX at hN; omega) (lN_u hN) hsc 7 (by omega) pg pgf amf os dg out
  have en : -lN N = jI (-(N : Int)) := by rw [lN_jI, jI_neg]
  rw [en]
  cases hbv : b with
  | false =>
    subst hbv
    refine ⟨false, pg', pgf', amf', os', dg', out', fun y => (by cases y), fun Q hQ => hwc _ ⟨fun _ => hQ, fun y => (by cases y)⟩, fun Q hQ => ?_⟩
    unfold wp_M_isText wp_M_isText_J330 wp_M_isText_J340
    exact hwr _ ⟨fun _ => ⟨1, s_textF Q hQ⟩, fun y => (by cases y)⟩
  | true =>
    subst hbv
    obtain ⟨pre, mid, suf, l1, l2, l3, l4, lg, hp, hq⟩ := hgood rfl
    generalize hW : pre ++ mid ++ suf = W at l4 hp hq
    by_cases hlen : W.length = k
    · obtain ⟨r, m1, hr, hw1⟩ := s_sameL hk (pf := pgf') (tf := tf) k 0 (by omega)
      obtain ⟨r2, m2, hr2, hw2⟩ := s_textL (two := two) (ml := nI L) (g := lN N) (gs := nI sc) (has := has) (af := af) (al := al) (sy := mf) (dg := dg') (out := out') (tx := tx) (os := nI k) hk k 0 (by omega)
      have hiff : (∀ j, 0 ≤ j → j < k → pgf' j = tf j) ↔ (∀ j, 0 ≤ j → j < k → out' j = tx j) := by
        constructor
        · intro y j a1 a2
          rw [hq.2 j (by omega), ← hp.2 j (by omega), y j a1 a2, hft j a2]
        · intro y j a1 a2
          rw [hp.2 j (by omega), ← hq.2 j (by omega), y j a1 a2, hft j a2]
      have hrr : r2 = r := by
        have := hr2.trans (hiff.symm.trans hr.symm)
        cases r <;> cases r2 <;> simp_all
      subst hrr
      refine ⟨r2, pg', pgf', amf', nI k, dg', out', fun y => ⟨mid, lg, l3, ?_, fun j hj => ?_⟩, fun Q hQ => hwc _ ⟨fun y => (by cases y), fun _ => ?_⟩, fun Q hQ => ?_⟩
      · rw [← hlen, ← hW]; simp only [List.length_append]; omega
      · have hjk : kA + nm + j < W.length := by rw [← hW]; simp only [List.length_append]; omega
        have := hr2.mp y (kA + nm + j) (Nat.zero_le _) (by omega)
        rw [← this, hq.2 _ hjk]
        subst hW
        rw [List.getElem_append_left (by simp only [List.length_append]; omega), List.getElem_append_right (by omega)]
        congr 1
        omega
      · unfold wp_Row_isSameAs
        have e1 : pg' = nI k := by rw [hp.1, hlen]
        refine ⟨fun _ => ⟨m1, ?_⟩, fun y => absurd e1 y⟩
        show wp_Row_isSameAs_L150 m1 256 256 pg' pgf' (nI k) tf 0 _
        rw [e1]
        refine hw1 _ ?_
        cases r2 with
        | true => exact ⟨fun y => (by cases y), fun _ => by rw [← e1]; exact hQ⟩
        | false => exact ⟨fun _ => by rw [← e1]; exact hQ, fun y => (by cases y)⟩
      · have e1 : os' = nI k := by rw [hq.1, hlen]
        subst e1
        unfold wp_M_isText wp_M_isText_J340
        exact hwr _ ⟨fun y => (by cases y), fun _ => ⟨fun y => absurd rfl y, fun _ => ⟨m2, hw2 Q hQ⟩⟩⟩
    · refine ⟨false, pg', pgf', amf', os', dg', out', fun y => (by cases y), fun Q hQ => hwc _ ⟨fun y => (by cases y), fun _ => ?_⟩, fun Q hQ => ?_⟩
      · have e1 : ¬ pg' = nI k := by rw [hp.1]; intro y; exact hlen ((nI_eq (by omega) (by omega)).mp y)
        unfold wp_Row_isSameAs
        exact ⟨fun y => absurd y e1, fun _ => ⟨fun _ => hQ, fun y => (by cases y)⟩⟩
      · have e1 : ¬ os' = nI k := by rw [hq.1]; intro y; exact hlen ((nI_eq (by omega) (by omega)).mp y)
        unfold wp_M_isText wp_M_isText_J330 wp_M_isText_J340
        exact hwr _ ⟨fun y => (by cases y), fun _ => ⟨fun _ => ⟨1, s_textF Q hQ⟩, fun y => absurd y e1⟩⟩
theorem cod_eq {tx : Nat → Int32} : ∀ (mid : List Int32) (i : Nat), (∀ (j : Nat) (h : j < mid.length), tx (i + j) = mid[j]) → cod tx i mid.length = mid := by
  intro mid
  induction mid with
  | nil => intro i _; rfl
  | cons c l ih =>
    intro i h
    have e0 : tx i = c := by
      have := h 0 (by simp)
      simpa using this
    have e1 := ih (i + 1) (fun j hj => by
      have := h (j + 1) (by simp; omega)
      have ei : i + 1 + j = i + (j + 1) := by omega
      rw [ei, this]
      simp)
    show cod tx i (l.length + 1) = c :: l
    unfold cod
    rw [e0, e1]
