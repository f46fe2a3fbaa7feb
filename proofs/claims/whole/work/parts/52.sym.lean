/-! symbol: the class's check and the reference's are the same -/
def SoundC (s : Nat → Nat) : Prop := 32 ≤ s 5 ∧ s 5 + 9 ≤ 126 ∧ ¬ (s 5 ≤ 43 ∧ 43 ≤ s 5 + 9) ∧ ∀ k, k < 5 → (32 ≤ s k ∧ s k ≤ 126 ∧ s k ≠ 43 ∧ ¬ (s 5 ≤ s k ∧ s k ≤ s 5 + 9) ∧ ∀ j, j < k → s j ≠ s k)
def sg (s : Nat → Nat) (a : Nat) : Nat := if a < 6 then s a else if a < 15 then s 5 + a - 5 else 43
def SoundM (s : Nat → Nat) : Prop := s 5 + 9 ≤ 126 ∧ ∀ a, a < 16 → (32 ≤ sg s a ∧ sg s a ≤ 126 ∧ ∀ b, b < a → sg s a ≠ sg s b)
def Num6 (f : Nat → Int32) (s : Nat → Nat) : Prop := ∀ i, i < 6 → f i = nI (s i) ∧ s i ≤ 65535
theorem sg_lo {s : Nat → Nat} {a : Nat} (h : a < 6) : sg s a = s a := if_pos h
theorem sg_mid {s : Nat → Nat} {a : Nat} (h1 : 5 ≤ a) (h2 : a < 15) : sg s a = s 5 + a - 5 := by
  unfold sg
  by_cases h : a < 6
  · obtain rfl : a = 5 := by omega
    rw [if_pos h]; omega
  · rw [if_neg h, if_pos h2]
theorem sg_hi {s : Nat → Nat} {a : Nat} (h : 15 ≤ a) : sg s a = 43 := by
  unfold sg
  rw [if_neg (by omega), if_neg (by omega)]
theorem sound_iff (s : Nat → Nat) : SoundC s ↔ SoundM s := by
  constructor
  · rintro ⟨h1, h2, h3, h4⟩
    refine ⟨h2, fun a ha => ?_⟩
    by_cases a1 : a < 5
    · obtain ⟨k1, k2, k3, k4, k5⟩ := h4 a a1
      rw [sg_lo (show a < 6 by omega)]
      refine ⟨k1, k2, fun b hb => ?_⟩
      rw [sg_lo (show b < 6 by omega)]
      exact fun e => k5 b hb e.symm
    · by_cases a2 : a < 15
      · rw [sg_mid (by omega) a2]
        refine ⟨by omega, by omega, fun b hb => ?_⟩
        by_cases b1 : b < 5
        · obtain ⟨k1, k2, k3, k4, k5⟩ := h4 b b1
          rw [sg_lo (show b < 6 by omega)]
          omega
        · rw [sg_mid (by omega) (by omega)]
          omega
      · rw [sg_hi (by omega)]
        refine ⟨by omega, by omega, fun b hb => ?_⟩
        by_cases b1 : b < 5
        · obtain ⟨k1, k2, k3, k4, k5⟩ := h4 b b1
          rw [sg_lo (show b < 6 by omega)]
          omega
        · rw [sg_mid (by omega) (by omega)]
          omega
  · rintro ⟨h2, h⟩
    have g5 := h 5 (by omega)
    rw [sg_mid (by omega) (by omega)] at g5
    have g15 := h 15 (by omega)
    rw [sg_hi (by omega)] at g15
    refine ⟨by omega, h2, fun ⟨e1, e2⟩ => ?_, fun k hk => ?_⟩
    · have := g15.2.2 (43 - s 5 + 5) (by omega)
      rw [sg_mid (by omega) (by omega)] at this
      omega
    · have gk := h k (by omega)
      rw [sg_lo (show k < 6 by omega)] at gk
      refine ⟨gk.1, gk.2.1, ?_, fun ⟨e1, e2⟩ => ?_, fun j hj => ?_⟩
      · have := g15.2.2 k (by omega)
        rw [sg_lo (show k < 6 by omega)] at this
        omega
      · have := (h (s k - s 5 + 5) (by omega)).2.2 k (by omega)
        rw [sg_lo (show k < 6 by omega), sg_mid (by omega) (by omega)] at this
        omega
      · have := gk.2.2 j hj
        rw [sg_lo (show j < 6 by omega)] at this
        exact fun e => this e.symm
theorem s_isPlain (c : Nat) (hc : c ≤ 100000) : ∃ b : Bool, (b = true ↔ 32 ≤ c ∧ c ≤ 126) ∧ ∀ Q : Bool → Unit → Prop, Q b () → wp_isPlain (nI c) Q := by
  by_cases h1 : c < 32
  · have e : nI c < (32 : Int32) := nI_lt (b := 32) h1 (by omega)
    exact ⟨false, ⟨fun h => (by cases h), fun h => absurd h.1 (by omega)⟩, fun Q hQ => ⟨fun _ => hQ, fun h => absurd e h⟩⟩
  · have e : ¬ nI c < (32 : Int32) := nI_nlt (b := 32) (by omega) (by omega)
    by_cases h2 : 126 < c
    · have e2 : (126 : Int32) < nI c := nI_lt (a := 126) h2 (by omega)
      exact ⟨false, ⟨fun h => (by cases h), fun h => absurd h.2 (by omega)⟩, fun Q hQ => ⟨fun h => absurd h e, fun _ => ⟨fun _ => hQ, fun h => absurd e2 h⟩⟩⟩
    · have e2 : ¬ (126 : Int32) < nI c := nI_nlt (a := 126) (by omega) (by omega)
      exact ⟨true, ⟨fun _ => ⟨by omega, by omega⟩, fun _ => rfl⟩, fun Q hQ => ⟨fun h => absurd h e, fun _ => ⟨fun h => absurd h e2, fun _ => hQ⟩⟩⟩
theorem cl5 : (5 : Int32).toNatClampNeg = 5 := by decide
theorem in56 : vp_in (5 : Int32) 6 := by unfold vp_in; decide
theorem s_digitCode {f : Nat → Int32} {s : Nat → Nat} (hs : Num6 f s) (d : Nat) : ∀ Q : Int32 → Unit → Prop, Q (nI (s 5 + d)) () → wp_Sym_digitCode f (nI d) Q := by
  intro Q hQ
  unfold wp_Sym_digitCode
  rw [cl5, (hs 5 (by omega)).1, nI_add]
  exact ⟨in56, hQ⟩
/-- the digit that a code stands for: none outside the ten -/
theorem s_digitOf {f : Nat → Int32} {s : Nat → Nat} (hs : Num6 f s) (c : Nat) (hc : c ≤ 100000) : ∃ r : Int32, (s 5 ≤ c ∧ c ≤ s 5 + 9 → r = nI (c - s 5)) ∧ (¬ (s 5 ≤ c ∧ c ≤ s 5 + 9) → r = -1) ∧ ∀ Q : Int32 → Unit → Prop, Q r () → wp_Sym_digitOf f (nI c) Q := by
  obtain ⟨h5, h5'⟩ := hs 5 (by omega)
  have ed : nI c - f (5 : Int32).toNatClampNeg = iI ((c : Int) - (s 5 : Int)) := by rw [cl5, h5, nI_iI, nI_iI, iI_sub]
  unfold wp_Sym_digitOf
  rw [ed]
  have z0 : (0 : Int32) = iI 0 := by decide
  have z9 : (9 : Int32) = iI 9 := by decide
  by_cases h1 : c < s 5
  · have e : iI ((c : Int) - (s 5 : Int)) < 0 := by rw [z0, iI_lt ⟨by omega, by omega⟩ ⟨by omega, by omega⟩]; omega
    exact ⟨-1, fun h => absurd h.1 (by omega), fun _ => rfl, fun Q hQ => ⟨in56, fun _ => hQ, fun h => absurd e h⟩⟩
  · have e : ¬ iI ((c : Int) - (s 5 : Int)) < 0 := by rw [z0, iI_lt ⟨by omega, by omega⟩ ⟨by omega, by omega⟩]; omega
    by_cases h2 : s 5 + 9 < c
    · have e2 : 9 < iI ((c : Int) - (s 5 : Int)) := by rw [z9, iI_lt ⟨by omega, by omega⟩ ⟨by omega, by omega⟩]; omega
      exact ⟨-1, fun h => absurd h.2 (by omega), fun _ => rfl, fun Q hQ => ⟨in56, fun h => absurd h e, fun _ => ⟨fun _ => hQ, fun h => absurd e2 h⟩⟩⟩
    · have e2 : ¬ 9 < iI ((c : Int) - (s 5 : Int)) := by rw [z9, iI_lt ⟨by omega, by omega⟩ ⟨by omega, by omega⟩]; omega
      have e3 : iI ((c : Int) - (s 5 : Int)) = nI (c - s 5) := by rw [nI_iI]; congr 1; omega
      exact ⟨nI (c - s 5), fun _ => rfl, fun h => absurd ⟨by omega, by omega⟩ h, fun Q hQ => ⟨in56, fun h => absurd h e, fun _ => ⟨fun h => absurd h e2, fun _ => by rw [e3]; exact hQ⟩⟩⟩
theorem s_stands {f : Nat → Int32} {s : Nat → Nat} (hs : Num6 f s) (c k : Nat) (hc : c ≤ 65535) (hk : k ≤ 5) : ∀ (d i : Nat), i + d = k → ∃ (b : Bool) (n : Nat), (b = true ↔ ∃ j, i ≤ j ∧ j < k ∧ s j = c) ∧ ∀ Q : Bool → Unit → Prop, Q b () → wp_Sym_standsBefore_L20 n f (nI k) (nI c) (nI i) Q := by
  intro d
  induction d with
  | zero =>
    intro i hi
    obtain rfl : i = k := by omega
    exact ⟨false, 1, ⟨fun h => (by cases h), fun ⟨j, h1, h2, _⟩ => absurd h2 (by omega)⟩, fun Q hQ => ⟨fun _ => hQ, fun h => absurd (nI_le (Nat.le_refl _) (by omega)) h⟩⟩
  | succ d ih =>
    intro i hi
    obtain ⟨b, n, hb, hw⟩ := ih (i + 1) (by omega)
    have e1 : ¬ nI k ≤ nI i := nI_ge (by omega) (by omega)
    have e2 : ¬ (6 : Int32) ≤ nI i := nI_ge (b := 6) (by omega) (by omega)
    have e3 : vp_in (nI i) 6 := vp_in_nI (by omega) (by omega)
    have e4 : (nI i).toNatClampNeg = i := nI_clamp (by omega)
    have e5 := hs i (by omega)
    by_cases hc2 : s i = c
    · refine ⟨true, 1, ⟨fun _ => ⟨i, by omega, by omega, hc2⟩, fun _ => rfl⟩, fun Q hQ => ?_⟩
      unfold wp_Sym_standsBefore_L20
      rw [e4, e5.1, hc2]
      exact ⟨fun h => absurd h e1, fun _ => ⟨fun h => absurd h e2, fun _ => ⟨e3, fun h => absurd rfl h, fun _ => hQ⟩⟩⟩
    · refine ⟨b, n + 1, ⟨fun h => ?_, fun ⟨j, h1, h2, h3⟩ => hb.mpr ⟨j, ?_, h2, h3⟩⟩, fun Q hQ => ?_⟩
      · obtain ⟨j, h1, h2, h3⟩ := hb.mp h
        exact ⟨j, by omega, h2, h3⟩
      · by_cases hji : j = i
        · subst hji; exact absurd h3 hc2
        · omega
      · unfold wp_Sym_standsBefore_L20
        rw [e4, e5.1, nI_1]
        have e6 : ¬ nI (s i) = nI c := fun h => hc2 ((nI_eq (by omega) (by omega)).mp h)
        exact ⟨fun h => absurd h e1, fun _ => ⟨fun h => absurd h e2, fun _ => ⟨e3, fun _ => hw Q hQ, fun h => absurd h e6⟩⟩⟩
def okK (s : Nat → Nat) (k : Nat) : Prop := 32 ≤ s k ∧ s k ≤ 126 ∧ s k ≠ 43 ∧ ¬ (s 5 ≤ s k ∧ s k ≤ s 5 + 9) ∧ ∀ j, j < k → s j ≠ s k
theorem s_soundL {f : Nat → Int32} {s : Nat → Nat} (hs : Num6 f s) : ∀ (d i : Nat), i + d = 5 → ∃ (b : Bool) (n : Nat), (b = true ↔ ∀ k, i ≤ k → k < 5 → okK s k) ∧ ∀ Q : Bool → Unit → Prop, Q b () → wp_Sym_areSound_L360 n f (nI i) Q := by
  intro d
  induction d with
  | zero =>
    intro i hi
    obtain rfl : i = 5 := by omega
    exact ⟨true, 1, ⟨fun _ k h1 h2 => absurd h2 (by omega), fun _ => rfl⟩, fun Q hQ => ⟨fun _ => hQ, fun h => absurd (nI_le (a := 5) (b := 5) (Nat.le_refl _) (by omega)) h⟩⟩
  | succ d ih =>
    intro i hi
    obtain ⟨b, n, hb, hw⟩ := ih (i + 1) (by omega)
    have e1 : ¬ (5 : Int32) ≤ nI i := nI_ge (b := 5) (by omega) (by omega)
    have e3 : vp_in (nI i) 6 := vp_in_nI (by omega) (by omega)
    have e4 : (nI i).toNatClampNeg = i := nI_clamp (by omega)
    obtain ⟨e5, e5'⟩ := hs i (by omega)
    obtain ⟨p, hp, hpw⟩ := s_isPlain (s i) (by omega)
    have out : ∀ P : Prop, ¬ okK s i → ((false = true) ↔ ∀ k, i ≤ k → k < 5 → okK s k) := fun _ h => ⟨fun z => (by cases z), fun z => absurd (z i (Nat.le_refl _) (by omega)) h⟩
    cases hpb : p with
    | false =>
      have hno : ¬ okK s i := fun h => by have := hp.mpr ⟨h.1, h.2.1⟩; rw [hpb] at this; cases this
      refine ⟨false, 1, out True hno, fun Q hQ => ?_⟩
      unfold wp_Sym_areSound_L360
      rw [e4, e5]
      exact ⟨fun h => absurd h e1, fun _ => ⟨e3, hpw _ (by rw [hpb]; exact ⟨fun _ => hQ, fun h => by cases h⟩)⟩⟩
    | true =>
      have hpl := hp.mp hpb
      by_cases h43 : s i = 43
      · refine ⟨false, 1, out True (fun h => h.2.2.1 h43), fun Q hQ => ?_⟩
        unfold wp_Sym_areSound_L360
        rw [e4, e5]
        exact ⟨fun h => absurd h e1, fun _ => ⟨e3, hpw _ (by rw [hpb]; exact ⟨fun h => (by cases h), fun _ => ⟨fun _ => hQ, fun h => absurd (by rw [h43]; rfl) h⟩⟩)⟩⟩
      · have n43 : ¬ nI (s i) = (43 : Int32) := fun h => h43 ((nI_eq (b := 43) (by omega) (by omega)).mp h)
        obtain ⟨r, r1, r2, hrw⟩ := s_digitOf hs (s i) (by omega)
        by_cases hd : s 5 ≤ s i ∧ s i ≤ s 5 + 9
        · refine ⟨false, 1, out True (fun h => h.2.2.2.1 hd), fun Q hQ => ?_⟩
          have r3 : (0 : Int32) ≤ r := by rw [r1 hd]; exact nI_pos' (by omega)
          unfold wp_Sym_areSound_L360
          rw [e4, e5]
          exact ⟨fun h => absurd h e1, fun _ => ⟨e3, hpw _ (by rw [hpb]; exact ⟨fun h => (by cases h), fun _ => ⟨fun h => absurd h n43, fun _ => hrw _ ⟨fun _ => hQ, fun h => absurd r3 h⟩⟩⟩)⟩⟩
        · have r3 : ¬ (0 : Int32) ≤ r := by rw [r2 hd]; decide
          obtain ⟨t, nt, ht, htw⟩ := s_stands hs (s i) i (by omega) (by omega) i 0 (by omega)
          cases htb : t with
          | true =>
            obtain ⟨j, j1, j2, j3⟩ := ht.mp htb
            refine ⟨false, 1, out True (fun h => h.2.2.2.2 j j2 j3), fun Q hQ => ?_⟩
            unfold wp_Sym_areSound_L360
            rw [e4, e5]
            exact ⟨fun h => absurd h e1, fun _ => ⟨e3, hpw _ (by rw [hpb]; exact ⟨fun h => (by cases h), fun _ => ⟨fun h => absurd h n43, fun _ => hrw _ ⟨fun h => absurd h r3, fun _ => ⟨nt, htw _ (by rw [htb]; exact ⟨fun h => (by cases h), fun _ => hQ⟩)⟩⟩⟩⟩)⟩⟩
          | false =>
            have hok : okK s i := ⟨hpl.1, hpl.2, h43, hd, fun j hj e => by have := ht.mpr ⟨j, by omega, hj, e⟩; rw [htb] at this; cases this⟩
            refine ⟨b, n + 1, ⟨fun h k k1 k2 => ?_, fun h => hb.mpr fun k k1 k2 => h k (by omega) k2⟩, fun Q hQ => ?_⟩
            · by_cases hki : k = i
              · subst hki; exact hok
              · exact hb.mp h k (by omega) k2
            · unfold wp_Sym_areSound_L360
              rw [e4, e5, nI_1]
              exact ⟨fun h => absurd h e1, fun _ => ⟨e3, hpw _ (by rw [hpb]; exact ⟨fun h => (by cases h), fun _ => ⟨fun h => absurd h n43, fun _ => hrw _ ⟨fun h => absurd h r3, fun _ => ⟨nt, htw _ (by rw [htb]; exact ⟨fun _ => hw Q hQ, fun h => (by cases h)⟩)⟩⟩⟩⟩)⟩⟩
theorem s_sound {f : Nat → Int32} {s : Nat → Nat} (hs : Num6 f s) : ∃ b : Bool, (b = true ↔ SoundC s) ∧ ∀ Q : Bool → Unit → Prop, Q b () → wp_Sym_areSound f Q := by
  have h5 := (hs 5 (by omega)).2
  obtain ⟨p, hp, hpw⟩ := s_isPlain (s 5 + 0) (by omega)
  obtain ⟨q, hq, hqw⟩ := s_isPlain (s 5 + 9) (by omega)
  obtain ⟨r, r1, r2, hrw⟩ := s_digitOf hs 43 (by omega)
  obtain ⟨b, n, hb, hw⟩ := s_soundL hs 5 0 (by omega)
  cases hpb : p with
  | false =>
    refine ⟨false, ⟨fun h => (by cases h), fun h => ?_⟩, fun Q hQ => s_digitCode hs 0 _ (hpw _ (by rw [hpb]; exact ⟨fun _ => hQ, fun h => by cases h⟩))⟩
    have := hp.mpr ⟨by have := h.1; omega, by have := h.2.1; omega⟩
    rw [hpb] at this; cases this
  | true =>
    have hp' := hp.mp hpb
    cases hqb : q with
    | false =>
      refine ⟨false, ⟨fun h => (by cases h), fun h => ?_⟩, fun Q hQ => s_digitCode hs 0 _ (hpw _ (by rw [hpb]; exact ⟨fun h => (by cases h), fun _ => s_digitCode hs 9 _ (hqw _ (by rw [hqb]; exact ⟨fun _ => hQ, fun h => by cases h⟩))⟩))⟩
      have := hq.mpr ⟨by have := h.1; omega, h.2.1⟩
      rw [hqb] at this; cases this
    | true =>
      have hq' := hq.mp hqb
      by_cases hd : s 5 ≤ 43 ∧ 43 ≤ s 5 + 9
      · have r3 : ¬ r < 0 := by rw [r1 hd]; exact nI_pos (by omega)
        refine ⟨false, ⟨fun h => (by cases h), fun h => absurd hd h.2.2.1⟩, fun Q hQ => s_digitCode hs 0 _ (hpw _ (by rw [hpb]; exact ⟨fun h => (by cases h), fun _ => s_digitCode hs 9 _ (hqw _ (by rw [hqb]; exact ⟨fun h => (by cases h), fun _ => hrw _ ⟨fun h => absurd h r3, fun _ => hQ⟩⟩))⟩))⟩
      · have r3 : r < 0 := by rw [r2 hd]; decide
        refine ⟨b, ⟨fun h => ⟨by omega, hq'.2, hd, fun k hk => hb.mp h k (by omega) hk⟩, fun h => hb.mpr fun k _ k2 => h.2.2.2 k k2⟩, fun Q hQ => s_digitCode hs 0 _ (hpw _ (by rw [hpb]; exact ⟨fun h => (by cases h), fun _ => s_digitCode hs 9 _ (hqw _ (by rw [hqb]; exact ⟨fun h => (by cases h), fun _ => hrw _ ⟨fun _ => ⟨n, hw Q hQ⟩, fun h => absurd r3 h⟩⟩))⟩))⟩
