/-! digits taken into a number: class (append, takeZerosBehind) and reference (push) -/
abbrev MX : Nat := 9223372036854775807
theorem l_MX : (9223372036854775807 : Int64) = lN MX := rfl
theorem l_10 : (10 : Int64) = lN 10 := rfl
theorem l_D : (922337203685477580 : Int64) = lN 922337203685477580 := rfl
theorem l_0 : (0 : Int64) = lN 0 := rfl
theorem s_append {w d : Nat} (hw : w ≤ MX) (hd : d ≤ 9) : (w * 10 + d ≤ MX → ∀ Q : Bool → Int64 → Prop, Q true (lN (w * 10 + d)) → wp_Fi_append (lN w) (nI d) Q) ∧ (¬ w * 10 + d ≤ MX → ∀ Q : Bool → Int64 → Prop, Q false (lN w) → wp_Fi_append (lN w) (nI d) Q) := by
  have e1 : (nI d).toInt64 = lN d := nI_l (by omega)
  have e2 : (9223372036854775807 - lN d) / 10 = lN ((MX - d) / 10) := by
    rw [l_MX, lN_sub (by unfold MX; omega), l_10, pk_lDiv (by unfold MX; omega) (by omega) (by omega)]
  have e3 : lN w * 10 + lN d = lN (w * 10 + d) := by rw [l_10, lN_mul, lN_add]
  have e4 : (lN w ≤ lN ((MX - d) / 10)) = (w * 10 + d ≤ MX) := propext (by
    rw [pk_lLE (by unfold MX at hw; omega) (by unfold MX; omega)]
    unfold MX
    omega)
  refine ⟨fun h Q hQ => ?_, fun h Q hQ => ?_⟩
  · unfold wp_Fi_append
    rw [e1, e2, e3, e4]
    exact ⟨fun _ => hQ, fun z => absurd h z⟩
  · unfold wp_Fi_append
    rw [e1, e2, e3, e4]
    exact ⟨fun z => absurd z h, fun _ => hQ⟩
theorem pow_mul10 (w i : Nat) : w * 10 ^ i * 10 + 0 = w * 10 ^ (i + 1) := by rw [Nat.pow_succ, ← Nat.mul_assoc, Nat.add_zero]
theorem pow_mono (w : Nat) {i j : Nat} (h : i ≤ j) : w * 10 ^ i ≤ w * 10 ^ j := Nat.mul_le_mul_left w (Nat.pow_le_pow_right (by omega) h)
/-- zeros behind: class -/
theorem s_zerosL {w z : Nat} (hz : z ≤ 400) : ∀ (d i : Nat), i + d = z → w * 10 ^ i ≤ MX → ∃ (b : Bool) (m w' : Nat), (b = true ↔ w * 10 ^ z ≤ MX) ∧ (b = true → w' = w * 10 ^ z) ∧ ∀ Q : Bool → (Int64 × Int32) → Prop, Q b (lN w', 0) → wp_Fi_takeZerosBehind_L250 m (nI z) (nI i) (lN (w * 10 ^ i)) 0 Q := by
  intro d
  induction d with
  | zero =>
    intro i hi hw
    obtain rfl : i = z := by omega
    refine ⟨true, 1, w * 10 ^ i, ⟨fun _ => hw, fun _ => rfl⟩, fun _ => rfl, fun Q hQ => ?_⟩
    unfold wp_Fi_takeZerosBehind_L250
    exact ⟨fun _ => hQ, fun y => absurd (nI_le (Nat.le_refl _) (by omega)) y⟩
  | succ d ih =>
    intro i hi hw
    have e1 : ¬ nI z ≤ nI i := nI_ge (by omega) (by omega)
    have z0 : (0 : Int32) = nI 0 := rfl
    by_cases hn : w * 10 ^ i * 10 + 0 ≤ MX
    · obtain ⟨b, m, w', hb, hw', hwp⟩ := ih (i + 1) (by omega) (by rw [← pow_mul10]; exact hn)
      refine ⟨b, m + 1, w', hb, hw', fun Q hQ => ?_⟩
      have h1 := hwp Q hQ
      rw [← pow_mul10] at h1
      unfold wp_Fi_takeZerosBehind_L250
      rw [nI_1]
      exact ⟨fun y => absurd y e1, fun _ => (s_append hw (d := 0) (by omega)).1 hn _ ⟨fun _ => h1, fun y => (by cases y)⟩⟩
    · refine ⟨false, 1, w * 10 ^ i, ⟨fun y => (by cases y), fun y => ?_⟩, fun y => (by cases y), fun Q hQ => ?_⟩
      · have := pow_mono w (show i + 1 ≤ z by omega)
        rw [pow_mul10] at hn
        omega
      · unfold wp_Fi_takeZerosBehind_L250
        exact ⟨fun y => absurd y e1, fun _ => (s_append hw (d := 0) (by omega)).2 hn _ ⟨fun y => (by cases y), fun _ => hQ⟩⟩
/-- a digit that isn't zero: class -/
theorem s_digC {w z d : Nat} (hw : w ≤ MX) (hz : z ≤ 400) (hd1 : 1 ≤ d) (hd : d ≤ 9) {p e : Int32} {t : Int32} : ∃ (b : Bool) (w' : Nat), (b = true ↔ w * 10 ^ (z + 1) + d ≤ MX) ∧ (b = true → w' = w * 10 ^ (z + 1) + d) ∧ ∀ Q : Bool → (Int64 × Int32 × Int32 × Int32) → Prop, Q b (lN w', p, 0, e) → wp_Fi_takeDigit_J580 t (nI d) (lN w) p (nI z) e Q := by
  have d0 : ¬ nI d = 0 := nI_ne0 (by omega) (by omega)
  have ew : (lN w = 0) = (w = 0) := by
    rw [l_0]; exact propext (pk_lEQ (by unfold MX at hw; omega) (by omega))
  by_cases h0 : w = 0
  · subst h0
    have e1 : 0 * 10 ^ (z + 1) + d = 0 * 10 + d := by omega
    rw [e1]
    have hle : 0 * 10 + d ≤ MX := by unfold MX; omega
    refine ⟨true, 0 * 10 + d, ⟨fun _ => hle, fun _ => rfl⟩, fun _ => rfl, fun Q hQ => ?_⟩
    unfold wp_Fi_takeDigit_J580 wp_Fi_takeZerosBehind wp_Fi_takeZerosBehind_J170
    refine ⟨fun _ => ⟨fun y => absurd l_0 y, fun _ => ⟨1, ?_⟩⟩, fun y => absurd y d0⟩
    unfold wp_Fi_takeZerosBehind_L250
    exact ⟨fun _ => ⟨fun y => (by cases y), fun _ => (s_append hw hd).1 hle _ ⟨fun y => (by cases y), fun _ => hQ⟩⟩, fun y => absurd (by decide) y⟩
  · have e10 : w * 10 ^ 0 = w := by simp
    obtain ⟨b, m, w1, hb, hw1, hwp⟩ := s_zerosL (w := w) hz z 0 (by omega) (by rw [e10]; exact hw)
    rw [e10] at hwp
    have hnw : ¬ lN w = 0 := by rw [ew]; exact h0
    cases hbv : b with
    | false =>
      have hbig : ¬ w * 10 ^ z ≤ MX := fun y => by
        have := hb.mpr y
        rw [hbv] at this; cases this
      refine ⟨false, w1, ⟨fun y => (by cases y), fun y => ?_⟩, fun y => (by cases y), fun Q hQ => ?_⟩
      · have := pow_mono w (show z ≤ z + 1 by omega)
        omega
      · unfold wp_Fi_takeDigit_J580 wp_Fi_takeZerosBehind wp_Fi_takeZerosBehind_J170
        refine ⟨fun _ => ⟨fun _ => ⟨m, hwp _ ?_⟩, fun y => absurd y hnw⟩, fun y => absurd y d0⟩
        rw [hbv]
        exact ⟨fun _ => hQ, fun y => (by cases y)⟩
    | true =>
      have hok := hb.mp hbv
      have e1 := hw1 hbv
      subst e1
      have e2 : w * 10 ^ z * 10 + d = w * 10 ^ (z + 1) + d := by rw [Nat.pow_succ, ← Nat.mul_assoc]
      by_cases hn : w * 10 ^ z * 10 + d ≤ MX
      · refine ⟨true, w * 10 ^ z * 10 + d, ⟨fun _ => by rw [← e2]; exact hn, fun _ => rfl⟩, fun _ => e2, fun Q hQ => ?_⟩
        unfold wp_Fi_takeDigit_J580 wp_Fi_takeZerosBehind wp_Fi_takeZerosBehind_J170
        refine ⟨fun _ => ⟨fun _ => ⟨m, hwp _ ?_⟩, fun y => absurd y hnw⟩, fun y => absurd y d0⟩
        rw [hbv]
        exact ⟨fun y => (by cases y), fun _ => (s_append hok hd).1 hn _ ⟨fun y => (by cases y), fun _ => hQ⟩⟩
      · refine ⟨false, w * 10 ^ z, ⟨fun y => (by cases y), fun y => absurd (by rw [e2]; exact y) hn⟩, fun y => (by cases y), fun Q hQ => ?_⟩
        unfold wp_Fi_takeDigit_J580 wp_Fi_takeZerosBehind wp_Fi_takeZerosBehind_J170
        refine ⟨fun _ => ⟨fun _ => ⟨m, hwp _ ?_⟩, fun y => absurd y hnw⟩, fun y => absurd y d0⟩
        rw [hbv]
        exact ⟨fun y => (by cases y), fun _ => (s_append hok hd).2 hn _ ⟨fun _ => hQ, fun y => (by cases y)⟩⟩
/-- the end of push -/
theorem s_pushE {g d : Nat} (hg : g ≤ MX) (hd1 : 1 ≤ d) (hd : d ≤ 9) : ∃ (b : Bool) (v : Int64), (b = true ↔ g + d ≤ MX) ∧ (b = true → v = lN (g + d)) ∧ ∀ Q : Bool → Int64 → Prop, Q b v → wp_M_push_J470 (nI d) (lN g) Q := by
  have e1 : (nI d).toInt64 = lN d := nI_l (by omega)
  have e2 : lN g + lN d = lN (g + d) := lN_add g d
  by_cases h : g + d ≤ MX
  · refine ⟨true, lN (g + d), ⟨fun _ => h, fun _ => rfl⟩, fun _ => rfl, fun Q hQ => ?_⟩
    unfold wp_M_push_J470
    rw [e1, e2]
    have : ¬ lN (g + d) ≤ 0 := by
      rw [l_0, pk_lLE (by unfold MX at h; omega) (by omega)]; omega
    exact ⟨fun y => absurd y this, fun _ => hQ⟩
  · refine ⟨false, lN (g + d), ⟨fun y => (by cases y), fun y => absurd y h⟩, fun y => (by cases y), fun Q hQ => ?_⟩
    unfold wp_M_push_J470
    rw [e1, e2]
    have : lN (g + d) ≤ 0 := by
      have e0 : (0 : Int64).toInt = 0 := by decide
      rw [Int64.le_iff_toInt_le, e0]
      have e3 : (lN (g + d)).toInt = ((g + d : Nat) : Int).bmod (2 ^ 64) := by
        unfold lN
        exact Int64.toInt_ofNat
      rw [e3, Int.bmod_def]
      unfold MX at h hg
      split <;> omega
    exact ⟨fun _ => hQ, fun y => absurd this y⟩
theorem s_pushL {w z d : Nat} (hw1 : 1 ≤ w) (hz : z ≤ 400) (hd1 : 1 ≤ d) (hd : d ≤ 9) : ∀ (c i : Nat), i + c = z + 1 → w * 10 ^ i ≤ MX → ∃ (b : Bool) (v : Int64) (m : Nat), (b = true ↔ w * 10 ^ (z + 1) + d ≤ MX) ∧ (b = true → v = lN (w * 10 ^ (z + 1) + d)) ∧ ∀ Q : Bool → Int64 → Prop, Q b v → wp_M_push_L20 m (nI z) (nI d) (nI i) (lN (w * 10 ^ i)) Q := by
  intro c
  induction c with
  | zero =>
    intro i hi hw
    obtain rfl : i = z + 1 := by omega
    obtain ⟨b, v, hb, hv, hwp⟩ := s_pushE hw hd1 hd
    refine ⟨b, v, 1, hb, hv, fun Q hQ => ?_⟩
    unfold wp_M_push_L20
    exact ⟨fun _ => hwp Q hQ, fun y => absurd (nI_lt (by omega) (by omega)) y⟩
  | succ c ih =>
    intro i hi hw
    have e1 : ¬ nI z < nI i := nI_nlt (by omega) (by omega)
    have hp1 : 1 ≤ w * 10 ^ i := by
      have := pow_mono w (Nat.zero_le i)
      simp at this; omega
    have e2 : ¬ lN (w * 10 ^ i) ≤ 0 := by
      rw [l_0, pk_lLE (by unfold MX at hw; omega) (by omega)]; omega
    have e3 : (lN (w * 10 ^ i) ≤ 922337203685477580) = (w * 10 ^ i * 10 + 0 ≤ MX) := propext (by
      rw [l_D, pk_lLE (by unfold MX at hw; omega) (by omega)]
      unfold MX; omega)
    have e4 : lN (w * 10 ^ i) * 10 = lN (w * 10 ^ (i + 1)) := by
      rw [l_10, lN_mul, ← pow_mul10, Nat.add_zero]
    by_cases hn : w * 10 ^ i * 10 + 0 ≤ MX
    · obtain ⟨b, v, m, hb, hv, hwp⟩ := ih (i + 1) (by omega) (by rw [← pow_mul10]; exact hn)
      refine ⟨b, v, m + 1, hb, hv, fun Q hQ => ?_⟩
      have h1 := hwp Q hQ
      unfold wp_M_push_L20
      rw [e3, e4, nI_1]
      exact ⟨fun y => absurd y e1, fun _ => ⟨fun y => absurd y e2, fun _ => ⟨fun _ => h1, fun y => absurd hn y⟩⟩⟩
    · refine ⟨false, lN (w * 10 ^ i), 1, ⟨fun y => (by cases y), fun y => ?_⟩, fun y => (by cases y), fun Q hQ => ?_⟩
      · have := pow_mono w (show i + 1 ≤ z + 1 by omega)
        rw [pow_mul10] at hn
        omega
      · unfold wp_M_push_L20
        rw [e3]
        exact ⟨fun y => absurd y e1, fun _ => ⟨fun y => absurd y e2, fun _ => ⟨fun y => absurd y hn, fun _ => hQ⟩⟩⟩
/-- a digit that isn't zero: reference -/
theorem s_push {w z d : Nat} (hw : w ≤ MX) (hz : z ≤ 400) (hd1 : 1 ≤ d) (hd : d ≤ 9) : ∃ (b : Bool) (v : Int64), (b = true ↔ w * 10 ^ (z + 1) + d ≤ MX) ∧ (b = true → v = lN (w * 10 ^ (z + 1) + d)) ∧ ∀ Q : Bool → Int64 → Prop, Q b v → wp_M_push (lN w) (nI z) (nI d) Q := by
  by_cases h0 : w = 0
  · subst h0
    have e1 : 0 * 10 ^ (z + 1) + d = 0 + d := by omega
    rw [e1]
    obtain ⟨b, v, hb, hv, hwp⟩ := s_pushE (g := 0) hw hd1 hd
    refine ⟨b, v, hb, hv, fun Q hQ => ⟨1, ?_⟩⟩
    unfold wp_M_push_L20
    exact ⟨fun _ => hwp Q hQ, fun _ => ⟨fun _ => hwp Q hQ, fun y => absurd (by decide) y⟩⟩
  · have e10 : w * 10 ^ 0 = w := by simp
    obtain ⟨b, v, m, hb, hv, hwp⟩ := s_pushL (w := w) (by omega) hz hd1 hd (z + 1) 0 (by omega) (by rw [e10]; exact hw)
    rw [e10] at hwp
    exact ⟨b, v, hb, hv, fun Q hQ => ⟨m, hwp Q hQ⟩⟩
