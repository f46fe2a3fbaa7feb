/-! rounding, class and reference side by side -/
section RD
variable {D : Int → Nat} {f g : Nat → Int32}
theorem d5 {d : Nat} (h : d ≤ 9) : (nI d = (5 : Int32)) = (d = 5) := propext (nI_eq (b := 5) (by omega) (by omega))
theorem d5l {d : Nat} (h : d ≤ 9) : (nI d < (5 : Int32)) = (d < 5) := propext (nI_ltI (b := 5) (by omega) (by omega))
theorem d5le {d : Nat} (h : d ≤ 9) : ((5 : Int32) ≤ nI d) = (5 ≤ d) := propext (nI_leI (a := 5) (by omega) (by omega))
theorem d9 {d : Nat} (h : d ≤ 9) : (nI d = (9 : Int32)) = (d = 9) := propext (nI_eq (b := 9) (by omega) (by omega))
theorem d9le {d : Nat} (h : d ≤ 9) : ((9 : Int32) ≤ nI d) = (9 ≤ d) := propext (nI_leI (a := 9) (by omega) (by omega))
theorem dodd {d : Nat} (h : d ≤ 9) : nI d - nI d / 2 * 2 = nI (d % 2) := pk_rem (d := 2) (by omega) (by omega) (by omega)
/-- what stands below 10^k against a half of it -/
theorem s_half (hD : DigOk D) (hf : DigC f D) {k : Int} (k1 : -900 ≤ k) (k2 : k ≤ 900) {more : Bool} (hm : more = true ↔ ∃ p, p < k - 1 ∧ D p ≠ 0) : ∃ r : Int32, r = (if D (k - 1) = 5 then (if more = true then 1 else 0) else if 5 ≤ D (k - 1) then 1 else -1) ∧ ∀ Q : Int32 → Unit → Prop, Q r () → wp_Am_againstHalf f (iI k) Q := by
  obtain ⟨b, hb, hw⟩ := s_any hD hf (k := k - 1) (by omega) (by omega)
  have hbm : b = more := by
    have t : b = true ↔ more = true := hb.trans hm.symm
    cases b <;> cases more <;> simp_all
  subst hbm
  refine ⟨_, rfl, fun Q hQ => ?_⟩
  unfold wp_Am_againstHalf
  rw [z_1, iI_sub]
  refine s_digit hD hf (by omega) (by omega) _ ?_
  rw [d5 (hD.1 _), d5le (hD.1 _)]
  refine ⟨fun h => hw _ ⟨fun hb2 => ?_, fun hb2 => ?_⟩, fun h => ⟨fun h2 => ?_, fun h2 => ?_⟩⟩
  · rw [if_pos h, if_neg (by rw [hb2]; simp)] at hQ; exact hQ
  · rw [if_pos h, if_pos hb2] at hQ; exact hQ
  · rw [if_neg h, if_pos h2] at hQ; exact hQ
  · rw [if_neg h, if_neg h2] at hQ; exact hQ
theorem op_up (hD : DigOk D) (hf : DigC f D) (hg : DigM g D) {k : Int} (k1 : -900 ≤ k) (k2 : k ≤ 900) (m : Nat) (hm7 : m ≤ 6) (ng : Bool) : ∃ b : Bool, (∀ Q : Bool → Unit → Prop, Q b () → wp_Am_goesUp f (iI k) (nI m) ng Q) ∧ (∀ Q : Bool → Unit → Prop, Q b () → wp_M_upwards g (nI m) ng (iI k) Q) := by
  obtain ⟨more, hmore, hmw⟩ := s_below hD hg (k := k - 1) (by omega) (by omega)
  obtain ⟨r, hr, hrw⟩ := s_half hD hf k1 k2 hmore
  have h9 := hD.1 (k - 1)
  have h9k := hD.1 k
  have ek : iI k - 1 = iI (k - 1) := by rw [z_1, iI_sub]
  have md : ∀ Q : Bool → Unit → Prop, ((4 ≤ nI m → (¬ D (k - 1) = 5 → (D (k - 1) < 5 → Q false ()) ∧ (¬ D (k - 1) < 5 → Q true ())) ∧ (D (k - 1) = 5 → (more = false → (nI m = 4 → Q true ()) ∧ (¬ nI m = 4 → (¬ nI m = 6 → Q false ()) ∧ (nI m = 6 → wp_M_digitAt g (iI k) (fun r5 _ => (¬ (r5 - r5 / 2 * 2) = 1 → Q false ()) ∧ ((r5 - r5 / 2 * 2) = 1 → Q true ()))))) ∧ (more = true → (D (k - 1) < 5 → Q false ()) ∧ (¬ D (k - 1) < 5 → Q true ())))) ∧
      (¬ 4 ≤ nI m → (nI m = 0 → Q true ()) ∧ (¬ nI m = 0 → (¬ nI m = 2 → (¬ nI m = 3 → Q false ()) ∧ (nI m = 3 → (ng = false → Q false ()) ∧ (ng = true → Q true ()))) ∧ (nI m = 2 → (ng = false → Q true ()) ∧ (ng = true → (¬ nI m = 3 → Q false ()) ∧ (nI m = 3 → (ng = false → Q false ()) ∧ (ng = true → Q true ()))))))) → wp_M_upwards g (nI m) ng (iI k) Q := fun Q hQ => by
    unfold wp_M_upwards
    rw [ek]
    refine s_digitAt hD hg (by omega) (by omega) _ (hmw _ ?_)
    rw [d5 h9, d5l h9]
    exact hQ
  rcases (show m = 0 ∨ m = 1 ∨ m = 2 ∨ m = 3 ∨ m = 4 ∨ m = 5 ∨ m = 6 by omega) with rfl | rfl | rfl | rfl | rfl | rfl | rfl
  · refine ⟨true, fun Q hQ => by simp (decide := true) [wp_Am_goesUp, hQ, nI], fun Q hQ => md Q ?_⟩
    simp (decide := true) [nI, hQ]
  · refine ⟨false, fun Q hQ => by simp (decide := true) [wp_Am_goesUp, hQ, nI], fun Q hQ => md Q ?_⟩
    simp (decide := true) [nI, hQ]
  · refine ⟨!ng, fun Q hQ => by cases ng <;> simp (decide := true) [wp_Am_goesUp, nI] <;> exact hQ, fun Q hQ => md Q ?_⟩
    cases ng <;> simp (decide := true) [nI] <;> exact hQ
  · refine ⟨ng, fun Q hQ => by cases ng <;> simp (decide := true) [wp_Am_goesUp, nI] <;> exact hQ, fun Q hQ => md Q ?_⟩
    cases ng <;> simp (decide := true) [nI] <;> exact hQ
  · -- half up
    by_cases h5 : D (k - 1) = 5
    · refine ⟨true, fun Q hQ => ?_, fun Q hQ => md Q ?_⟩
      · have hr0 : ¬ r < 0 := by rw [hr, if_pos h5]; cases more <;> decide
        have := hrw (fun r1 _ => (r1 < 0 → Q false ()) ∧ (¬ r1 < 0 → Q true ())) ⟨fun z => absurd z hr0, fun _ => hQ⟩
        simp (decide := true) [wp_Am_goesUp, nI]; simpa using this
      · cases more <;> simp (decide := true) [nI, h5, hQ]
    · by_cases hge : 5 ≤ D (k - 1)
      · have hlt : ¬ D (k - 1) < 5 := by omega
        refine ⟨true, fun Q hQ => ?_, fun Q hQ => md Q ?_⟩
        · have hr0 : ¬ r < 0 := by rw [hr, if_neg h5, if_pos hge]; decide
          have := hrw (fun r1 _ => (r1 < 0 → Q false ()) ∧ (¬ r1 < 0 → Q true ())) ⟨fun z => absurd z hr0, fun _ => hQ⟩
          simp (decide := true) [wp_Am_goesUp, nI]; simpa using this
        · simp (decide := true) [nI, h5, hlt, hQ]
      · have hlt : D (k - 1) < 5 := by omega
        refine ⟨false, fun Q hQ => ?_, fun Q hQ => md Q ?_⟩
        · have hr0 : r < 0 := by rw [hr, if_neg h5, if_neg hge]; decide
          have := hrw (fun r1 _ => (r1 < 0 → Q false ()) ∧ (¬ r1 < 0 → Q true ())) ⟨fun _ => hQ, fun z => absurd hr0 z⟩
          simp (decide := true) [wp_Am_goesUp, nI]; simpa using this
        · simp (decide := true) [nI, h5, hlt, hQ]
  · -- half down
    by_cases h5 : D (k - 1) = 5
    · refine ⟨more, fun Q hQ => ?_, fun Q hQ => md Q ?_⟩
      · have := hrw (fun r1 _ => (r1 ≤ 0 → Q false ()) ∧ (¬ r1 ≤ 0 → Q true ())) (by
          rw [hr, if_pos h5]
          cases more
          · exact ⟨fun _ => hQ, fun z => absurd (by decide) z⟩
          · exact ⟨fun z => absurd z (by decide), fun _ => hQ⟩)
        simp (decide := true) [wp_Am_goesUp, nI]; simpa using this
      · cases more <;> simp (decide := true) [nI, h5] <;> exact hQ
    · by_cases hge : 5 ≤ D (k - 1)
      · have hlt : ¬ D (k - 1) < 5 := by omega
        refine ⟨true, fun Q hQ => ?_, fun Q hQ => md Q ?_⟩
        · have hr0 : ¬ r ≤ 0 := by rw [hr, if_neg h5, if_pos hge]; decide
          have := hrw (fun r1 _ => (r1 ≤ 0 → Q false ()) ∧ (¬ r1 ≤ 0 → Q true ())) ⟨fun z => absurd z hr0, fun _ => hQ⟩
          simp (decide := true) [wp_Am_goesUp, nI]; simpa using this
        · simp (decide := true) [nI, h5, hlt, hQ]
      · have hlt : D (k - 1) < 5 := by omega
        refine ⟨false, fun Q hQ => ?_, fun Q hQ => md Q ?_⟩
        · have hr0 : r ≤ 0 := by rw [hr, if_neg h5, if_neg hge]; decide
          have := hrw (fun r1 _ => (r1 ≤ 0 → Q false ()) ∧ (¬ r1 ≤ 0 → Q true ())) ⟨fun _ => hQ, fun z => absurd hr0 z⟩
          simp (decide := true) [wp_Am_goesUp, nI]; simpa using this
        · simp (decide := true) [nI, h5, hlt, hQ]
  · -- half even
    have cls : ∀ (b : Bool) (Q : Bool → Unit → Prop), ((0 < r → Q true ()) ∧ (¬ 0 < r → (¬ r = 0 → Q false ()) ∧ (r = 0 → ((D k % 2 = 0 → Q false ()) ∧ (¬ D k % 2 = 0 → Q true ()))))) → wp_Am_goesUp f (iI k) (nI 6) ng Q := by
      intro b Q hh
      have := hrw (fun r5 _ => (0 < r5 → Q true ()) ∧ (¬ 0 < r5 → wp_Am_againstHalf f (iI k) (fun r7 _ => (¬ r7 = 0 → Q false ()) ∧ (r7 = 0 → wp_Am_digit f (iI k) (fun r9 _ => ((r9 - r9 / 2 * 2) = 0 → Q false ()) ∧ (¬ (r9 - r9 / 2 * 2) = 0 → Q true ())))))) ⟨hh.1, fun z => hrw _ ⟨fun z2 => (hh.2 z).1 z2, fun z2 => s_digit hD hf (by omega) (by omega) _ (by
        rw [dodd h9k, dz (by omega)]
        exact (hh.2 z).2 z2)⟩⟩
      simp (decide := true) [wp_Am_goesUp, nI]; simpa using this
    by_cases h5 : D (k - 1) = 5
    · cases hmv : more with
      | true =>
        have hr1 : 0 < r := by rw [hr, if_pos h5, if_pos hmv]; decide
        refine ⟨true, fun Q hQ => cls true Q ⟨fun _ => hQ, fun z => absurd hr1 z⟩, fun Q hQ => md Q ?_⟩
        simp (decide := true) [nI, h5, hmv, hQ]
      | false =>
        have hr1 : r = 0 := by rw [hr, if_pos h5, if_neg (by rw [hmv]; simp)]
        have hr2 : ¬ 0 < r := by rw [hr1]; decide
        have inner : ∀ Q : Bool → Unit → Prop, ((D k % 2 = 0 → Q false ()) ∧ (¬ D k % 2 = 0 → Q true ())) → wp_M_digitAt g (iI k) (fun r5 _ => (¬ (r5 - r5 / 2 * 2) = 1 → Q false ()) ∧ ((r5 - r5 / 2 * 2) = 1 → Q true ())) := fun Q hh => s_digitAt hD hg (by omega) (by omega) _ (by
          rw [dodd h9k]
          have e : (nI (D k % 2) = (1 : Int32)) = (D k % 2 = 1) := propext (nI_eq (b := 1) (by omega) (by omega))
          rw [e]
          exact ⟨fun z => hh.1 (by omega), fun z => hh.2 (by omega)⟩)
        by_cases ho : D k % 2 = 0
        · refine ⟨false, fun Q hQ => cls true Q ⟨fun z => absurd z hr2, fun _ => ⟨fun z => absurd hr1 z, fun _ => ⟨fun _ => hQ, fun z => absurd ho z⟩⟩⟩, fun Q hQ => md Q ?_⟩
          have := inner Q ⟨fun _ => hQ, fun z => absurd ho z⟩
          simp (decide := true) [nI, h5, hmv]; simpa [nI] using this
        · refine ⟨true, fun Q hQ => cls true Q ⟨fun z => absurd z hr2, fun _ => ⟨fun z => absurd hr1 z, fun _ => ⟨fun z => absurd z ho, fun _ => hQ⟩⟩⟩, fun Q hQ => md Q ?_⟩
          have := inner Q ⟨fun z => absurd z ho, fun _ => hQ⟩
          simp (decide := true) [nI, h5, hmv]; simpa [nI] using this
    · by_cases hge : 5 ≤ D (k - 1)
      · have hlt : ¬ D (k - 1) < 5 := by omega
        have hr1 : 0 < r := by rw [hr, if_neg h5, if_pos hge]; decide
        refine ⟨true, fun Q hQ => cls true Q ⟨fun _ => hQ, fun z => absurd hr1 z⟩, fun Q hQ => md Q ?_⟩
        simp (decide := true) [nI, h5, hlt, hQ]
      · have hlt : D (k - 1) < 5 := by omega
        have hr1 : r = -1 := by rw [hr, if_neg h5, if_neg hge]
        have hr2 : ¬ 0 < r := by rw [hr1]; decide
        have hr3 : ¬ r = 0 := by rw [hr1]; decide
        refine ⟨false, fun Q hQ => cls true Q ⟨fun z => absurd z hr2, fun _ => ⟨fun _ => hQ, fun z => absurd z hr3⟩⟩, fun Q hQ => md Q ?_⟩
        simp (decide := true) [nI, h5, hlt, hQ]
end RD
