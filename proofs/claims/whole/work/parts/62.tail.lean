/-! the reference's end of apply: what it keeps of the draft; the relation of the two patterns -/
abbrev ATy : Type := Int32 × Int32 × Int32 × Int32 × Bool × (Nat → Int32) × (Nat → Int32) × (Nat → Int32) × (Nat → Int32) × (Nat → Int32) × (Nat → Int32) × (Nat → Int32)
theorem s_apL2 {dr now first has da dl al : Nat → Int32} {ds st sub q : Int32} {two : Bool} : ∀ (d i : Nat), i + d = 160 → ∀ af : Nat → Int32, (∀ j, j < i → af j = da j) → ∃ (r : Nat → Int32) (n : Nat), (∀ j, j < 160 → r j = da j) ∧ ∀ Q : Int32 → ATy → Prop, Q 0 (0, st, sub, q, two, now, first, has, da, dl, r, al) → wp_M_apply_L2220 n dr (nI i) ds st sub q two now first has da dl af al Q := by
  intro d
  induction d with
  | zero =>
    intro i hi af h
    obtain rfl : i = 160 := by omega
    refine ⟨af, 1, h, fun Q hQ => ?_⟩
    unfold wp_M_apply_L2220
    exact ⟨fun _ => hQ, fun z => absurd (nI_le (a := 160) (b := 160) (Nat.le_refl _) (by omega)) z⟩
  | succ d ih =>
    intro i hi af h
    obtain ⟨r, n, hr, hw⟩ := ih (i + 1) (by omega) (upd af i (da i)) (fun j hj => by
      by_cases hji : j = i
      · subst hji; rw [upd_same]
      · rw [upd_other _ _ hji]; exact h j (by omega))
    refine ⟨r, n + 1, hr, fun Q hQ => ?_⟩
    unfold wp_M_apply_L2220
    rw [nI_clamp (by omega), nI_1]
    have e1 : ¬ (160 : Int32) ≤ nI i := nI_ge (b := 160) (by omega) (by omega)
    exact ⟨fun z => absurd z e1, fun _ => ⟨vp_in_nI (by omega) (by omega), vp_in_nI (by omega) (by omega), hw Q hQ⟩⟩
theorem s_apL1 {dr now first has da dl af : Nat → Int32} {ds st sub q : Int32} {two : Bool} : ∀ (d i : Nat), i + d = 4 → ∀ al : Nat → Int32, (∀ j, j < i → al j = if j < 2 ∨ two = true then dl j else 0) → ∃ (r ra : Nat → Int32) (n : Nat), (∀ j, j < 160 → r j = da j) ∧ (∀ j, j < 4 → ra j = if j < 2 ∨ two = true then dl j else 0) ∧ ∀ Q : Int32 → ATy → Prop, Q 0 (0, st, sub, q, two, now, first, has, da, dl, r, ra) → wp_M_apply_L1810 n dr (nI i) ds st sub q two now first has da dl af al Q := by
  intro d
  induction d with
  | zero =>
    intro i hi al h
    obtain rfl : i = 4 := by omega
    obtain ⟨r, n, hr, hw⟩ := s_apL2 (dr := dr) (now := now) (first := first) (has := has) (da := da) (dl := dl) (al := al) (ds := ds) (st := st) (sub := sub) (q := q) (two := two) 160 0 (by omega) af (fun j h => absurd h (Nat.not_lt_zero j))
    refine ⟨r, al, 1, hr, h, fun Q hQ => ?_⟩
    unfold wp_M_apply_L1810
    exact ⟨fun _ => ⟨n, hw Q hQ⟩, fun z => absurd (nI_le (a := 4) (b := 4) (Nat.le_refl _) (by omega)) z⟩
  | succ d ih =>
    intro i hi al h
    obtain ⟨r, ra, n, hr, hra, hw⟩ := ih (i + 1) (by omega) (upd al i (if i < 2 ∨ two = true then dl i else 0)) (fun j hj => by
      by_cases hji : j = i
      · subst hji; rw [upd_same]
      · rw [upd_other _ _ hji]; exact h j (by omega))
    refine ⟨r, ra, n + 1, hr, hra, fun Q hQ => ?_⟩
    have hw' := hw Q hQ
    unfold wp_M_apply_L1810
    rw [nI_clamp (by omega), nI_1]
    have e1 : ¬ (4 : Int32) ≤ nI i := nI_ge (b := 4) (by omega) (by omega)
    have ii : vp_in (nI i) 4 := vp_in_nI (by omega) (by omega)
    refine ⟨fun z => absurd z e1, fun _ => ⟨fun h2 => ?_, fun h2 => ⟨fun ht => ?_, fun ht => ?_⟩⟩⟩
    · have : i < 2 := (nI_ltI (b := 2) (by omega) (by omega)).mp h2
      rw [if_pos (Or.inl this)] at hw'
      exact ⟨ii, ii, hw'⟩
    · have : ¬ i < 2 := fun z => h2 (nI_lt (b := 2) z (by omega))
      rw [if_neg (by rw [ht]; simpa using this)] at hw'
      exact ⟨ii, hw'⟩
    · rw [if_pos (Or.inr ht)] at hw'
      exact ⟨ii, ii, hw'⟩
theorem s_tail {dr now first has da dl af al : Nat → Int32} {ds st sub q : Int32} {two : Bool} {s : Nat} (hs : s ≤ 1) (hsub : sub = nI s) : ∃ (hs2 r ra : Nat → Int32), (∀ j, j < 8 → hs2 j = first j) ∧ (hs2 8 = if first 6 = 1 then first 7 else first 8) ∧ (∀ j, j < 160 → r j = da j) ∧ (∀ j, j < 4 → ra j = if j < 2 ∨ decide (s = 1) = true then dl j else 0) ∧ ∀ Q : Int32 → ATy → Prop, Q 0 (0, st, sub, q, decide (s = 1), now, first, hs2, da, dl, r, ra) → wp_M_apply_J1160 dr ds st sub q two now first has da dl af al Q := by
  obtain ⟨c, hc, hcw⟩ := s_copy first has
  have fin : ∀ y : Int32, ∃ (r ra : Nat → Int32), (∀ j, j < 160 → r j = da j) ∧ (∀ j, j < 4 → ra j = if j < 2 ∨ decide (s = 1) = true then dl j else 0) ∧ ∀ Q : Int32 → ATy → Prop, Q 0 (0, st, sub, q, decide (s = 1), now, first, upd c 8 y, da, dl, r, ra) → wp_M_apply_J1610 dr y 8 ds st sub q two now first c da dl af al Q := by
    intro y
    obtain ⟨r, ra, n, hr, hra, hw⟩ := s_apL1 (dr := dr) (now := now) (first := first) (has := upd c 8 y) (da := da) (dl := dl) (af := af) (ds := ds) (st := st) (sub := sub) (q := q) (two := decide (s = 1)) 4 0 (by omega) al (fun j h => absurd h (Nat.not_lt_zero j))
    refine ⟨r, ra, hr, hra, fun Q hQ => ?_⟩
    have hw' := hw Q hQ
    unfold wp_M_apply_J1610 wp_M_apply_J1760
    rw [cn8]
    refine ⟨in8, fun h1 => ?_, fun h1 => ?_⟩
    · have : ¬ s = 1 := fun z => h1 (by rw [hsub, z]; rfl)
      rw [decide_eq_false this] at hw'
      exact ⟨n, hw'⟩
    · have : s = 1 := by
        rw [hsub] at h1
        exact (nI_eq (b := 1) (by omega) (by omega)).mp h1
      rw [decide_eq_true this] at hw'
      exact ⟨n, hw'⟩
  by_cases h6 : first 6 = 1
  · obtain ⟨r, ra, hr, hra, hw⟩ := fin (c 7)
    refine ⟨upd c 8 (c 7), r, ra, fun j hj => by rw [upd_other _ _ (by omega)]; exact hc j (by omega), by rw [upd_same, if_pos h6, hc 7 (by omega)], hr, hra, fun Q hQ => ?_⟩
    unfold wp_M_apply_J1160
    refine hcw _ ?_
    rw [cn6, cn7, cn8, hc 6 (by omega)]
    exact ⟨in6, fun z => absurd h6 z, fun _ => ⟨in7, hw Q hQ⟩⟩
  · obtain ⟨r, ra, hr, hra, hw⟩ := fin (c 8)
    refine ⟨upd c 8 (c 8), r, ra, fun j hj => by rw [upd_other _ _ (by omega)]; exact hc j (by omega), by rw [upd_same, if_neg h6, hc 8 (by omega)], hr, hra, fun Q hQ => ?_⟩
    unfold wp_M_apply_J1160
    refine hcw _ ?_
    rw [cn6, cn7, cn8, hc 6 (by omega)]
    exact ⟨in6, fun _ => ⟨in8, hw Q hQ⟩, fun z => absurd z h6⟩
/-- a sub that gives the number's form: class and reference -/
def RelSub (pm : Bool) (h z cm b t f q e : Int32) (x : Bool) (pn : Int32) (pf : Nat → Int32) (sn : Int32) (sf has af al : Nat → Int32) : Prop :=
  ∃ H Z C B T F G E kp ks : Nat, (h = nI H ∧ z = nI Z ∧ cm = nI C ∧ b = nI B ∧ t = nI T ∧ f = nI F ∧ q = nI G ∧ e = nI E) ∧ (has 0 = nI H ∧ has 1 = nI Z ∧ has 2 = nI F ∧ has 3 = nI G ∧ has 4 = nI E ∧ has 5 = bI x ∧ has 6 = nI C ∧ has 7 = nI B ∧ has 8 = nI (if C = 1 then B else T)) ∧
    Bd 40 H Z C B T F G E ∧ (0 < C → 1 ≤ T ∧ 1 ≤ B) ∧ (0 < E → 1 ≤ Z ∧ C = 0) ∧ RelAf pn pf af al 0 kp ∧ RelAf sn sf af al 1 ks ∧ kp ≤ 40 ∧ ks ≤ 40 ∧ PMx pm pf sf kp ks
/-- the other sub's affixes -/
def RelMin (two : Bool) (pn : Int32) (pf : Nat → Int32) (sn : Int32) (sf af al : Nat → Int32) : Prop := two = true → ∃ kp ks : Nat, RelAf pn pf af al 2 kp ∧ RelAf sn sf af al 3 ks ∧ kp ≤ 40 ∧ ks ≤ 40
theorem RelAf.copy {pn : Int32} {pf da dl af al : Nat → Int32} {a k : Nat} (h : RelAf pn pf da dl a k) (hk : k ≤ 40) (ha : a < 4) (h1 : ∀ j, j < 160 → af j = da j) (h2 : al a = dl a) : RelAf pn pf af al a k :=
  ⟨h.1, by rw [h2]; exact h.2.1, fun i hi => by rw [h1 _ (by omega)]; exact h.2.2 i hi⟩
