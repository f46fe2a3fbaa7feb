/-! symbol, the reference's side, and the two together -/
theorem s_sign {f : Nat → Int32} {s : Nat → Nat} (hs : Num6 f s) {a : Nat} (ha : a < 16) : ∀ Q : Int32 → Unit → Prop, Q (nI (sg s a)) () → wp_M_sign f (nI a) Q := by
  intro Q hQ
  unfold wp_M_sign
  by_cases h6 : a < 6
  · have e1 : ¬ (6 : Int32) ≤ nI a := nI_ge (b := 6) h6 (by omega)
    rw [nI_clamp (by omega), (hs a h6).1]
    rw [sg_lo h6] at hQ
    exact ⟨fun h => absurd h e1, fun _ => ⟨vp_in_nI h6 (by omega), hQ⟩⟩
  · have e1 : (6 : Int32) ≤ nI a := nI_le (a := 6) (by omega) (by omega)
    by_cases h15 : a < 15
    · have e2 : ¬ (15 : Int32) ≤ nI a := nI_ge (b := 15) h15 (by omega)
      rw [sg_mid (by omega) h15] at hQ
      have e3 : f (5 : Int32).toNatClampNeg + nI a - 5 = nI (s 5 + a - 5) := by
        rw [cl5, (hs 5 (by omega)).1, nI_add]
        exact pk_sub (a := s 5 + a) (b := 5) (by omega)
      exact ⟨fun _ => ⟨fun h => absurd h e2, fun _ => ⟨in56, by rw [e3]; exact hQ⟩⟩, fun h => absurd e1 h⟩
    · have e2 : (15 : Int32) ≤ nI a := nI_le (a := 15) (by omega) (by omega)
      rw [sg_hi (by omega)] at hQ
      exact ⟨fun _ => ⟨fun _ => hQ, fun h => absurd e2 h⟩, fun h => absurd e1 h⟩
theorem sg_le {s : Nat → Nat} (h : ∀ i, i < 6 → s i ≤ 65535) (a : Nat) (ha : a < 16) : sg s a ≤ 70000 := by
  by_cases h6 : a < 6
  · rw [sg_lo h6]; have := h a h6; omega
  · by_cases h15 : a < 15
    · rw [sg_mid (by omega) h15]; have := h 5 (by omega); omega
    · rw [sg_hi (by omega)]; omega
theorem s_symIn {f : Nat → Int32} {s : Nat → Nat} (hs : Num6 f s) (x1 x2 x3 : Int32) {a : Nat} (ha : a < 16) : ∀ (d i : Nat), i + d = a → ∀ g : Bool, ∃ (b : Bool) (n : Nat), (b = true ↔ g = true ∧ ∀ j, i ≤ j → j < a → sg s a ≠ sg s j) ∧ ∀ (K : Int32 → Int32 → Int32 → Bool → Int32 → (Nat → Int32) → Prop) (Q : Bool → (Nat → Int32) → Prop), K x1 x2 x3 b (nI (a + 1)) f → wp_M_symbol_L930 n x1 x2 x3 g (nI a) (nI i) f K Q := by
  intro d
  induction d with
  | zero =>
    intro i hi g
    obtain rfl : i = a := by omega
    refine ⟨g, 1, ⟨fun h => ⟨h, fun j h1 h2 => absurd h2 (by omega)⟩, fun h => h.1⟩, fun K Q hK => ?_⟩
    unfold wp_M_symbol_L930
    rw [nI_1]
    exact ⟨fun _ => hK, fun h => absurd (nI_le (Nat.le_refl _) (by omega)) h⟩
  | succ d ih =>
    intro i hi g
    have e1 : ¬ nI a ≤ nI i := nI_ge (by omega) (by omega)
    cases g with
    | false =>
      obtain ⟨b, n, hb, hw⟩ := ih (i + 1) (by omega) false
      refine ⟨b, n + 1, ⟨fun h => absurd (hb.mp h).1 (by simp), fun h => absurd h.1 (by simp)⟩, fun K Q hK => ?_⟩
      unfold wp_M_symbol_L930
      rw [nI_1 i]
      exact ⟨fun h => absurd h e1, fun _ => ⟨fun _ => hw K Q hK, fun h => by cases h⟩⟩
    | true =>
      by_cases he : sg s a = sg s i
      · obtain ⟨b, n, hb, hw⟩ := ih (i + 1) (by omega) false
        refine ⟨b, n + 1, ⟨fun h => absurd (hb.mp h).1 (by simp), fun h => absurd he (h.2 i (by omega) (by omega))⟩, fun K Q hK => ?_⟩
        unfold wp_M_symbol_L930
        rw [nI_1 i]
        exact ⟨fun h => absurd h e1, fun _ => ⟨fun h => (by cases h), fun _ => s_sign hs ha _ (s_sign hs (by omega) _ ⟨fun _ => hw K Q hK, fun h => absurd (by rw [he]) h⟩)⟩⟩
      · obtain ⟨b, n, hb, hw⟩ := ih (i + 1) (by omega) true
        have ls := fun k hk => (hs k hk).2
        have ne : ¬ nI (sg s a) = nI (sg s i) := fun h => he ((nI_eq (by have := sg_le ls a ha; omega) (by have := sg_le ls i (by omega); omega)).mp h)
        refine ⟨b, n + 1, ⟨fun h => ⟨rfl, fun j j1 j2 => ?_⟩, fun h => hb.mpr ⟨rfl, fun j j1 j2 => h.2 j (by omega) j2⟩⟩, fun K Q hK => ?_⟩
        · by_cases hji : j = i
          · subst hji; exact he
          · exact (hb.mp h).2 j (by omega) j2
        · unfold wp_M_symbol_L930
          rw [nI_1 i]
          exact ⟨fun h => absurd h e1, fun _ => ⟨fun h => (by cases h), fun _ => s_sign hs ha _ (s_sign hs (by omega) _ ⟨fun h => absurd h ne, fun _ => hw K Q hK⟩)⟩⟩
def okA (s : Nat → Nat) (a : Nat) : Prop := 32 ≤ sg s a ∧ sg s a ≤ 126 ∧ ∀ b, b < a → sg s a ≠ sg s b
theorem s_symOut {f : Nat → Int32} {s : Nat → Nat} (hs : Num6 f s) (k : Nat) (hk : k < 6) (x2 x3 : Int32) : ∀ (d a : Nat), a + d = 16 → ∀ g : Bool, ∃ (b : Bool) (n : Nat), (b = true ↔ g = true ∧ ∀ j, a ≤ j → j < 16 → okA s j) ∧ ∀ Q : Bool → (Nat → Int32) → Prop, Q b (upd f k (if b = true then x2 else x3)) → wp_M_symbol_L490 n (nI k) x2 x3 g (nI a) f Q := by
  intro d
  have ek : (nI k).toNatClampNeg = k := nI_clamp (by omega)
  have ik : vp_in (nI k) 6 := vp_in_nI hk (by omega)
  induction d with
  | zero =>
    intro a hi g
    obtain rfl : a = 16 := by omega
    refine ⟨g, 1, ⟨fun h => ⟨h, fun j h1 h2 => absurd h2 (by omega)⟩, fun h => h.1⟩, fun Q hQ => ?_⟩
    unfold wp_M_symbol_L490
    rw [ek]
    exact ⟨fun _ => ⟨fun h => ⟨ik, by rw [h] at hQ ⊢; exact hQ⟩, fun h => ⟨ik, by rw [h] at hQ ⊢; exact hQ⟩⟩, fun h => absurd (nI_le (a := 16) (b := 16) (Nat.le_refl _) (by omega)) h⟩
  | succ d ih =>
    intro a hi g
    have e1 : ¬ (16 : Int32) ≤ nI a := nI_ge (b := 16) (by omega) (by omega)
    have ls := fun k hk => (hs k hk).2
    -- the inner loop and the rest, from either value
    have step : ∀ g2 : Bool, ∃ (b : Bool) (n m : Nat), (b = true ↔ (g2 = true ∧ ∀ j, j < a → sg s a ≠ sg s j) ∧ ∀ j, a + 1 ≤ j → j < 16 → okA s j) ∧ ∀ Q : Bool → (Nat → Int32) → Prop, Q b (upd f k (if b = true then x2 else x3)) → wp_M_symbol_L930 m (nI k) x2 x3 g2 (nI a) (nI 0) f (fun x1 x2 x3 x4 x5 m_sy => wp_M_symbol_L490 n x1 x2 x3 x4 x5 m_sy Q) Q := by
      intro g2
      obtain ⟨b1, m, hb1, hw1⟩ := s_symIn hs (nI k) x2 x3 (a := a) (by omega) a 0 (by omega) g2
      obtain ⟨b, n, hb, hw⟩ := ih (a + 1) (by omega) b1
      refine ⟨b, n, m, ⟨fun h => ⟨⟨(hb1.mp (hb.mp h).1).1, fun j hj => (hb1.mp (hb.mp h).1).2 j (by omega) hj⟩, (hb.mp h).2⟩, fun h => hb.mpr ⟨hb1.mpr ⟨h.1.1, fun j _ hj => h.1.2 j hj⟩, h.2⟩⟩, fun Q hQ => hw1 _ Q (hw Q hQ)⟩
    have no : ∀ n : Nat, ∀ g0 : Bool, (g0 = true → ¬ okA s a) → ∀ b : Bool, (b = true ↔ (false = true ∧ ∀ j, j < a → sg s a ≠ sg s j) ∧ ∀ j, a + 1 ≤ j → j < 16 → okA s j) → (b = true ↔ g0 = true ∧ ∀ j, a ≤ j → j < 16 → okA s j) := fun _ g0 hn b hb => ⟨fun h => absurd (hb.mp h).1.1 (by simp), fun h => absurd (h.2 a (Nat.le_refl _) (by omega)) (hn h.1)⟩
    cases g with
    | false =>
      obtain ⟨b, n, m, hb, hw⟩ := step false
      refine ⟨b, n + 1, no 0 false (fun h => by cases h) b hb, fun Q hQ => ?_⟩
      unfold wp_M_symbol_L490
      exact ⟨fun h => absurd h e1, fun _ => ⟨fun _ => ⟨m, hw Q hQ⟩, fun h => by cases h⟩⟩
    | true =>
      by_cases h32 : sg s a < 32
      · have c1 : nI (sg s a) < (32 : Int32) := nI_lt (b := 32) h32 (by omega)
        obtain ⟨b, n, m, hb, hw⟩ := step false
        refine ⟨b, n + 1, no 0 true (fun _ h => absurd h.1 (by omega)) b hb, fun Q hQ => ?_⟩
        unfold wp_M_symbol_L490
        exact ⟨fun h => absurd h e1, fun _ => ⟨fun h => (by cases h), fun _ => s_sign hs (by omega) _ ⟨fun _ => ⟨m, hw Q hQ⟩, fun h => absurd c1 h⟩⟩⟩
      · have c1 : ¬ nI (sg s a) < (32 : Int32) := nI_nlt (b := 32) (by omega) (by have := sg_le ls a (by omega); omega)
        by_cases h126 : 126 < sg s a
        · have c2 : (126 : Int32) < nI (sg s a) := nI_lt (a := 126) h126 (by have := sg_le ls a (by omega); omega)
          obtain ⟨b, n, m, hb, hw⟩ := step false
          refine ⟨b, n + 1, no 0 true (fun _ h => absurd h.2.1 (by omega)) b hb, fun Q hQ => ?_⟩
          unfold wp_M_symbol_L490
          exact ⟨fun h => absurd h e1, fun _ => ⟨fun h => (by cases h), fun _ => s_sign hs (by omega) _ ⟨fun h => absurd h c1, fun _ => s_sign hs (by omega) _ ⟨fun _ => ⟨m, hw Q hQ⟩, fun h => absurd c2 h⟩⟩⟩⟩
        · have c2 : ¬ (126 : Int32) < nI (sg s a) := nI_nlt (a := 126) (by omega) (by omega)
          obtain ⟨b, n, m, hb, hw⟩ := step true
          refine ⟨b, n + 1, ⟨fun h => ⟨rfl, fun j j1 j2 => ?_⟩, fun h => hb.mpr ⟨⟨rfl, fun j hj => (h.2 a (Nat.le_refl _) (by omega)).2.2 j hj⟩, fun j j1 j2 => h.2 j (by omega) j2⟩⟩, fun Q hQ => ?_⟩
          · by_cases hja : j = a
            · subst hja; exact ⟨by omega, by omega, (hb.mp h).1.2⟩
            · exact (hb.mp h).2 j (by omega) j2
          · unfold wp_M_symbol_L490
            exact ⟨fun h => absurd h e1, fun _ => ⟨fun h => (by cases h), fun _ => s_sign hs (by omega) _ ⟨fun h => absurd h c1, fun _ => s_sign hs (by omega) _ ⟨fun h => absurd h c2, fun _ => ⟨m, hw Q hQ⟩⟩⟩⟩⟩
theorem s_symbol {f : Nat → Int32} {s : Nat → Nat} (hs : Num6 f s) (k : Nat) (hk : k < 6) (x2 x3 : Int32) (g : Bool) (hg : g = true ↔ s 5 + 9 ≤ 126) : ∃ b : Bool, (b = true ↔ SoundM s) ∧ ∀ Q : Bool → (Nat → Int32) → Prop, Q b (upd f k (if b = true then x2 else x3)) → wp_M_symbol_J440 (nI k) x2 x3 g f Q := by
  obtain ⟨b, n, hb, hw⟩ := s_symOut hs k hk x2 x3 16 0 (by omega) g
  exact ⟨b, ⟨fun h => ⟨hg.mp (hb.mp h).1, fun a ha => (hb.mp h).2 a (by omega) ha⟩, fun h => hb.mpr ⟨hg.mpr h.1, fun a _ ha => h.2 a ha⟩⟩, fun Q hQ => ⟨n, hw Q hQ⟩⟩
/-- the symbols of both sides: the same, and a good set -/
def RelSy (f g : Nat → Int32) : Prop := ∃ s : Nat → Nat, Num6 f s ∧ Num6 g s ∧ SoundC s
theorem num6_upd {f : Nat → Int32} {s : Nat → Nat} (hs : Num6 f s) (k c : Nat) (hc : c ≤ 65535) : Num6 (upd f k (nI c)) (fun i => if i = k then c else s i) := fun i hi => by
  by_cases h : i = k
  · subst h; rw [upd_same]; exact ⟨by simp, by simpa using hc⟩
  · rw [upd_other _ _ h]; simpa [h] using hs i hi
theorem op_symbol {f g : Nat → Int32} (h : RelSy f g) (ix : Int32) (c : Nat) (hc : c ≤ 65535) : ∃ (b : Bool) (u v : Nat → Int32), RelSy u v ∧ (∀ Q : Bool → (Nat → Int32) → Prop, Q b u → wp_X_symbol f ix (nI c) Q) ∧ (∀ Q : Bool → (Nat → Int32) → Prop, Q b v → wp_M_symbol g ix (nI c) Q) := by
  have h' := h
  obtain ⟨s, hf, hg, hS⟩ := h
  rcases pk_ix ix (n := 6) (by omega) with h1 | h1 | ⟨k, hk, rfl⟩
  · exact ⟨false, f, g, h', fun Q hQ => ⟨fun _ => hQ, fun h => absurd h1 h⟩, fun Q hQ => ⟨fun _ => hQ, fun h => absurd h1 h⟩⟩
  · have h6 : (6 : Int).toNat = 6 := rfl
    have e0 : ¬ ix < 0 := fun h => by
      rw [Int32.lt_iff_toInt_lt] at h
      rw [Int32.le_iff_toInt_le, nI_toInt (by omega)] at h1
      have : (0 : Int32).toInt = 0 := by decide
      omega
    have e1 : ¬ ix < 6 := fun h => by
      rw [Int32.lt_iff_toInt_lt] at h
      rw [Int32.le_iff_toInt_le, nI_toInt (by omega)] at h1
      have : (6 : Int32).toInt = 6 := by decide
      omega
    have e2 : ¬ ix ≤ 5 := fun h => by
      rw [Int32.le_iff_toInt_le] at h
      rw [Int32.le_iff_toInt_le, nI_toInt (by omega)] at h1
      have : (5 : Int32).toInt = 5 := by decide
      omega
    exact ⟨false, f, g, h', fun Q hQ => ⟨fun h => absurd h e0, fun _ => ⟨fun h => absurd h e1, fun _ => hQ⟩⟩, fun Q hQ => ⟨fun h => absurd h e0, fun _ => ⟨fun h => absurd h e2, fun _ => hQ⟩⟩⟩
  · have e0 : ¬ nI k < 0 := nI_pos (by omega)
    have e1 : nI k < (6 : Int32) := nI_lt (b := 6) hk (by omega)
    have e2 : nI k ≤ (5 : Int32) := nI_le (b := 5) (by omega) (by omega)
    have ek : (nI k).toNatClampNeg = k := nI_clamp (by omega)
    have ik : vp_in (nI k) 6 := vp_in_nI hk (by omega)
    have nf := num6_upd hf k c hc
    have ng := num6_upd hg k c hc
    generalize hs2 : (fun i => if i = k then c else s i) = s2 at nf ng
    obtain ⟨b, hb, hw⟩ := s_sound nf
    have q5 := ng 5 (by omega)
    have e9 : (upd g k (nI c)) (5 : Int32).toNatClampNeg + 9 = nI (s2 5 + 9) := by rw [cl5, q5.1]; exact nI_add (s2 5) 9
    have res : ∀ gd : Bool, (gd = true ↔ s2 5 + 9 ≤ 126) → ∀ Q : Bool → (Nat → Int32) → Prop, Q b (upd (upd g k (nI c)) k (if b = true then nI c else g k)) → wp_M_symbol_J440 (nI k) (nI c) (g k) gd (upd g k (nI c)) Q := by
      intro gd hgd Q hQ
      obtain ⟨b2, hb2, hw2⟩ := s_symbol ng k hk (nI c) (g k) gd hgd
      have : b2 = b := by
        have t : b2 = true ↔ b = true := hb2.trans ((sound_iff s2).symm.trans hb.symm)
        cases b2 <;> cases b <;> simp_all
      subst this
      exact hw2 Q hQ
    have mw : ∀ Q : Bool → (Nat → Int32) → Prop, Q b (upd (upd g k (nI c)) k (if b = true then nI c else g k)) → wp_M_symbol g (nI k) (nI c) Q := by
      intro Q hQ
      unfold wp_M_symbol
      rw [ek, e9]
      refine ⟨fun h => absurd h e0, fun _ => ⟨fun _ => ⟨ik, ik, in56, fun h => ?_, fun h => ?_⟩, fun h => absurd e2 h⟩⟩
      · refine res false ⟨fun z => (by cases z), fun z => ?_⟩ Q hQ
        have := nI_nlt (a := 126) (b := s2 5 + 9) z (by omega)
        exact absurd h this
      · refine res true ⟨fun _ => ?_, fun _ => rfl⟩ Q hQ
        by_cases hz : s2 5 + 9 ≤ 126
        · exact hz
        · exact absurd (nI_lt (a := 126) (b := s2 5 + 9) (by omega) (by omega)) h
    cases hbv : b with
    | true =>
      refine ⟨true, upd f k (nI c), upd (upd g k (nI c)) k (nI c), ⟨s2, nf, ?_, hb.mp hbv⟩, fun Q hQ => ?_, fun Q hQ => mw Q ?_⟩
      · intro i hi
        by_cases hik : i = k
        · subst hik; rw [upd_same]; have := ng i hi; rw [upd_same] at this; exact this
        · rw [upd_other _ _ hik]; exact ng i hi
      · unfold wp_X_symbol wp_Sym_change
        rw [ek]
        exact ⟨fun h => absurd h e0, fun _ => ⟨fun _ => ⟨ik, ik, hw _ (by rw [hbv]; exact ⟨fun h => (by cases h), fun _ => hQ⟩)⟩, fun h => absurd e1 h⟩⟩
      · rw [hbv]; simpa using hQ
    | false =>
      refine ⟨false, upd (upd f k (nI c)) k (f k), upd (upd g k (nI c)) k (g k), ⟨s, ?_, ?_, hS⟩, fun Q hQ => ?_, fun Q hQ => mw Q ?_⟩
      · intro i hi
        by_cases hik : i = k
        · subst hik; rw [upd_same]; exact hf i hi
        · rw [upd_other _ _ hik, upd_other _ _ hik]; exact hf i hi
      · intro i hi
        by_cases hik : i = k
        · subst hik; rw [upd_same]; exact hg i hi
        · rw [upd_other _ _ hik, upd_other _ _ hik]; exact hg i hi
      · unfold wp_X_symbol wp_Sym_change
        rw [ek]
        exact ⟨fun h => absurd h e0, fun _ => ⟨fun _ => ⟨ik, ik, hw _ (by rw [hbv]; exact ⟨fun _ => ⟨ik, hQ⟩, fun h => (by cases h)⟩)⟩, fun h => absurd e1 h⟩⟩
      · rw [hbv]; simpa using hQ
