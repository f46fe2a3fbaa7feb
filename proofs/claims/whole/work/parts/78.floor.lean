/-! floors, and where GROUP stands -/
theorem iI_div {x : Int} {k : Nat} (h1 : -100000 ≤ x) (h2 : x ≤ 100000) (hk : 1 ≤ k) (hk2 : k ≤ 1000) : iI x / nI k = iI (x.tdiv (k : Int)) := by
  have hb : -100000 ≤ x.tdiv (k : Int) ∧ x.tdiv (k : Int) ≤ 100000 := by
    have h3 : (x.tdiv (k : Int)).natAbs ≤ x.natAbs := by
      rw [Int.natAbs_tdiv]
      exact Nat.div_le_self _ _
    omega
  have e : (iI x / nI k).toInt = x.tdiv (k : Int) := by
    rw [Int32.toInt_div, iI_toInt (by omega) (by omega), nI_toInt (by omega)]
    rw [Int.bmod_def]
    split <;> omega
  rw [iI_of (iI x / nI k), e]
theorem xor_sign {x : Int} {k : Nat} (h1 : -100000 ≤ x) (h2 : x ≤ 100000) (hk2 : k ≤ 1000) : (0 ≤ iI x ^^^ nI k) = (0 ≤ x) := by
  have sg1 : ∀ z : Int32, (0 ≤ z) = (z.toBitVec.msb = false) := fun z => by
    have e0 : (0 : Int32).toInt = 0 := by decide
    rw [Int32.le_iff_toInt_le, e0, BitVec.msb_eq_toInt]
    show (0 ≤ z.toInt) = (decide (z.toInt < 0) = false)
    rw [decide_eq_false_iff_not]
    exact propext ⟨fun h => by omega, fun h => by omega⟩
  rw [sg1, Int32.toBitVec_xor, BitVec.msb_xor]
  have hkm : (nI k).toBitVec.msb = false := by
    have := nI_pos' (n := k) (by omega)
    rw [sg1] at this; exact this
  rw [hkm, Bool.xor_false, ← sg1]
  have z0 : (0 : Int32) = iI 0 := by decide
  rw [z0, cLe (by omega) (by omega) (by omega) (by omega)]
theorem fl_parts (x : Int) {k : Int} (hk : 0 < k) : ∃ t r : Int, t = x.tdiv k ∧ x = k * t + r ∧ (0 ≤ x → 0 ≤ r) ∧ (x < 0 → r ≤ 0) ∧ -k < r ∧ r < k ∧ x / k = (if 0 ≤ r then t else t - 1) := by
  have hb := tmod_bounds (a := x) hk
  have he : x = k * x.tdiv k + x.tmod k := (Int.mul_tdiv_add_tmod x k).symm
  refine ⟨x.tdiv k, x.tmod k, rfl, he, fun h => Int.tmod_nonneg k h, fun h => ?_, hb.1, hb.2, ?_⟩
  · have : 0 ≤ (-x).tmod k := Int.tmod_nonneg k (by omega)
    rw [Int.neg_tmod] at this
    omega
  · by_cases h0 : 0 ≤ x.tmod k
    · rw [if_pos h0]
      exact ((Int.ediv_emod_unique hk).mpr ⟨by omega, h0, hb.2⟩).1
    · rw [if_neg h0]
      refine ((Int.ediv_emod_unique (r := x.tmod k + k) hk).mpr ⟨?_, by omega, by omega⟩).1
      rw [Int.mul_sub, Int.mul_one]
      omega
theorem op_floor {x : Int} {k : Nat} (h1 : -1000 ≤ x) (h2 : x ≤ 1000) (hk : 1 ≤ k) (hk2 : k ≤ 1000) : (∀ Q : Int32 → Unit → Prop, Q (iI (x / (k : Int))) () → wp_floorDiv (iI x) (nI k) Q) ∧ (∀ Q : Int32 → Unit → Prop, Q (iI (x / (k : Int))) () → wp_M_floorOf (iI x) (nI k) Q) := by
  obtain ⟨t, r, ht, hx, hr1, hr2, hr3, hr4, hq⟩ := fl_parts x (k := (k : Int)) (by omega)
  have hb : -1000 ≤ t ∧ t ≤ 1000 := by
    have h3 : (x.tdiv (k : Int)).natAbs ≤ x.natAbs := by
      rw [Int.natAbs_tdiv]
      exact Nat.div_le_self _ _
    omega
  have ek : ¬ nI k = 0 := nI_ne0 (by omega) (by omega)
  have ed : iI x / nI k = iI t := by rw [iI_div (by omega) (by omega) hk hk2, ht]
  have em : iI t * nI k = iI (x - r) := by
    rw [nI_iI, iI_mul]
    congr 1
    rw [Int.mul_comm]; omega
  have e1 : iI t - 1 = iI (t - 1) := by rw [z_1, iI_sub]
  refine ⟨fun Q hQ => ?_, fun Q hQ => ?_⟩
  · unfold wp_floorDiv
    rw [ed, em, e1, xor_sign (by omega) (by omega) hk2, cEq (by omega) (by omega) (by omega) (by omega)]
    refine ⟨ek, fun h => ?_, fun h => ⟨fun h3 => ?_, fun h3 => ?_⟩⟩
    · rw [hq, if_pos (hr1 h)] at hQ; exact hQ
    · rw [hq, if_pos (by omega)] at hQ; exact hQ
    · rw [hq, if_neg (by have := hr2 (by omega); omega)] at hQ; exact hQ
  · unfold wp_M_floorOf
    have es : iI x - iI (x - r) = iI r := by
      rw [iI_sub]
      congr 1
      omega
    rw [ed, em, e1, es, z_0, cLe (by omega) (by omega) (by omega) (by omega)]
    rw [z_0] at ek
    refine ⟨ek, fun h => ⟨ek, ?_⟩, fun h => ⟨ek, ?_⟩⟩
    · rw [hq, if_pos h] at hQ; exact hQ
    · rw [hq, if_neg h] at hQ; exact hQ
/-- GROUP before the last left digits, if there are enough -/
def grp (C B T left : Nat) : Prop := 0 < C ∧ B ≤ left ∧ (left - B) % (if C = 1 then B else T) = 0
theorem s_groups {C B T left : Nat} (hC : C ≤ 40) (hB : B ≤ 40) (hT : T ≤ 40) (hl : left ≤ 100) (hpos : 0 < C → 1 ≤ T ∧ 1 ≤ B) : ∃ b : Bool, (b = true ↔ grp C B T left) ∧ ∀ Q : Bool → Unit → Prop, Q b () → wp_Sub_groupsBefore (nI C) (nI B) (nI T) (nI left) Q := by
  have body : ∀ S : Nat, S ≤ 40 → (0 < C → 1 ≤ S) → (0 < C → S = if C = 1 then B else T) → ∃ b : Bool, (b = true ↔ grp C B T left) ∧ ∀ Q : Bool → Unit → Prop, Q b () → wp_Sub_groupsBefore_J190 (nI C) (nI B) (nI T) (nI left) (nI S) Q := by
    intro S hS hS1 hSe
    by_cases h0 : C = 0
    · refine ⟨false, ⟨fun z => (by cases z), fun z => absurd z.1 (by omega)⟩, fun Q hQ => ?_⟩
      unfold wp_Sub_groupsBefore_J190
      exact ⟨fun _ => hQ, fun z => absurd (by rw [h0]; decide) z⟩
    · have c0 : ¬ nI C ≤ 0 := nI_nle (by omega) (by omega)
      have s0 : ¬ nI S ≤ 0 := nI_nle (hS1 (by omega)) (by omega)
      have sn : ¬ nI S = 0 := nI_ne0 (hS1 (by omega)) (by omega)
      have ed : nI left - nI B = iI ((left : Int) - (B : Int)) := by rw [nI_iI, nI_iI, iI_sub]
      by_cases hlt : left < B
      · have e1 : nI left - nI B < 0 := pk_sneg (by omega) hlt
        refine ⟨false, ⟨fun z => (by cases z), fun z => absurd z.2.1 (by omega)⟩, fun Q hQ => ?_⟩
        unfold wp_Sub_groupsBefore_J190
        exact ⟨fun z => absurd z c0, fun _ => ⟨fun z => absurd z s0, fun _ => ⟨fun _ => hQ, fun z => absurd e1 z⟩⟩⟩
      · have e1 : nI left - nI B = nI (left - B) := pk_sub (by omega)
        have e2 : ¬ nI (left - B) < 0 := nI_pos (by omega)
        have e3 : nI (left - B) - nI (left - B) / nI S * nI S = nI ((left - B) % S) := pk_rem (by omega) (hS1 (by omega)) (by omega)
        have hml : (left - B) % S ≤ 100 := Nat.le_trans (Nat.mod_le _ _) (by omega)
        by_cases hm : (left - B) % S = 0
        · refine ⟨true, ⟨fun _ => ⟨by omega, by omega, by rw [← hSe (by omega)]; exact hm⟩, fun _ => rfl⟩, fun Q hQ => ?_⟩
          unfold wp_Sub_groupsBefore_J190
          rw [e1, e3, hm]
          exact ⟨fun z => absurd z c0, fun _ => ⟨fun z => absurd z s0, fun _ => ⟨fun z => absurd z e2, fun _ => ⟨sn, fun z => absurd rfl z, fun _ => hQ⟩⟩⟩⟩
        · have e4 : ¬ nI ((left - B) % S) = 0 := nI_ne0 (by omega) (by omega)
          refine ⟨false, ⟨fun z => (by cases z), fun z => absurd (by have := z.2.2; rw [← hSe (by omega)] at this; exact this) hm⟩, fun Q hQ => ?_⟩
          unfold wp_Sub_groupsBefore_J190
          rw [e1, e3]
          exact ⟨fun z => absurd z c0, fun _ => ⟨fun z => absurd z s0, fun _ => ⟨fun z => absurd z e2, fun _ => ⟨sn, fun _ => hQ, fun z => absurd z e4⟩⟩⟩⟩
  by_cases h1 : C ≤ 1
  · obtain ⟨b, hb, hw⟩ := body B hB (fun h => (hpos h).2) (fun h => by rw [if_pos (by omega)])
    refine ⟨b, hb, fun Q hQ => ?_⟩
    unfold wp_Sub_groupsBefore
    have : nI C ≤ (1 : Int32) := nI_le (b := 1) h1 (by omega)
    exact ⟨fun _ => hw Q hQ, fun z => absurd this z⟩
  · obtain ⟨b, hb, hw⟩ := body T hT (fun h => (hpos h).1) (fun h => by rw [if_neg (by omega)])
    refine ⟨b, hb, fun Q hQ => ?_⟩
    unfold wp_Sub_groupsBefore
    have : ¬ nI C ≤ (1 : Int32) := nI_ge (a := 1) (by omega) (by omega)
    exact ⟨fun z => absurd z this, fun _ => hw Q hQ⟩
theorem s_border {has : Nat → Int32} {C B T left : Nat} (h7 : has 7 = nI B) (h8 : has 8 = nI (if C = 1 then B else T)) (hC0 : 0 < C) (hC : C ≤ 40) (hB : B ≤ 40) (hT : T ≤ 40) (hl : left ≤ 100) (hpos : 0 < C → 1 ≤ T ∧ 1 ≤ B) : ∃ b : Bool, (b = true ↔ grp C B T left) ∧ ∀ Q : Bool → Unit → Prop, Q b () → wp_M_border has (nI left) Q := by
  obtain ⟨hT1, hB1⟩ := hpos hC0
  generalize hSe : (if C = 1 then B else T) = S at h8
  have hS1 : 1 ≤ S ∧ S ≤ 40 := by rw [← hSe]; split <;> omega
  have eB : (nI left = nI B) = (left = B) := propext (nI_eq (by omega) (by omega))
  have eL : (nI left ≤ nI B) = (left ≤ B) := propext (nI_leI (by omega) (by omega))
  have sn : ¬ nI S = 0 := nI_ne0 (by omega) (by omega)
  by_cases heq : left = B
  · refine ⟨true, ⟨fun _ => ⟨hC0, by omega, by rw [heq, Nat.sub_self]; exact Nat.zero_mod _⟩, fun _ => rfl⟩, fun Q hQ => ?_⟩
    unfold wp_M_border
    rw [cn7, cn8, h7, h8, eB]
    exact ⟨in7, fun _ => hQ, fun z => absurd heq z⟩
  · by_cases hle : left ≤ B
    · refine ⟨false, ⟨fun z => (by cases z), fun z => absurd z.2.1 (by omega)⟩, fun Q hQ => ?_⟩
      unfold wp_M_border
      rw [cn7, cn8, h7, h8, eB, eL]
      exact ⟨in7, fun z => absurd z heq, fun _ => ⟨in7, fun _ => hQ, fun z => absurd hle z⟩⟩
    · have e1 : nI left - nI B = nI (left - B) := pk_sub (by omega)
      have e3 : nI (left - B) - nI (left - B) / nI S * nI S = nI ((left - B) % S) := pk_rem (by omega) (by omega) (by omega)
      have hml : (left - B) % S ≤ 100 := Nat.le_trans (Nat.mod_le _ _) (by omega)
      by_cases hm : (left - B) % S = 0
      · refine ⟨true, ⟨fun _ => ⟨hC0, by omega, by rw [hSe]; exact hm⟩, fun _ => rfl⟩, fun Q hQ => ?_⟩
        unfold wp_M_border
        rw [cn7, cn8, h7, h8, eB, eL, e1, e3, hm]
        exact ⟨in7, fun z => absurd z heq, fun _ => ⟨in7, fun z => absurd z hle, fun _ => ⟨in7, in8, sn, fun z => absurd rfl z, fun _ => hQ⟩⟩⟩
      · have e4 : ¬ nI ((left - B) % S) = 0 := nI_ne0 (by omega) (by omega)
        refine ⟨false, ⟨fun z => (by cases z), fun z => absurd (by have := z.2.2; rw [hSe] at this; exact this) hm⟩, fun Q hQ => ?_⟩
        unfold wp_M_border
        rw [cn7, cn8, h7, h8, eB, eL, e1, e3]
        exact ⟨in7, fun z => absurd z heq, fun _ => ⟨in7, fun z => absurd z hle, fun _ => ⟨in7, in8, sn, fun _ => hQ, fun z => absurd z e4⟩⟩⟩
