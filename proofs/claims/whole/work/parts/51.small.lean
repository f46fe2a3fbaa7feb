/-! the small calls: class and reference side by side. A row says: both have an answer, the same, and the states are again alike -/
def RelDr (dn : Int32) (df : Nat → Int32) (md : Int32) (mf : Nat → Int32) : Prop := ∃ k : Nat, k ≤ 40 ∧ dn = nI k ∧ md = nI k ∧ ∀ i, i < k → df i = mf i ∧ 32 ≤ df i ∧ df i ≤ 126
def RelTx (tn : Int32) (tf : Nat → Int32) (mt : Int32) (mf : Nat → Int32) : Prop := ∃ k : Nat, k ≤ 256 ∧ tn = nI k ∧ mt = nI k ∧ ∀ i, i < k → tf i = mf i
theorem upd_same (f : Nat → Int32) (k : Nat) (x : Int32) : upd f k x k = x := pk_us
theorem upd_other (f : Nat → Int32) {k j : Nat} (x : Int32) (h : j ≠ k) : upd f k x j = f j := pk_un h
theorem i32_nle {a b : Int32} (h : ¬ a < b) : b ≤ a := by
  rw [Int32.lt_iff_toInt_lt] at h
  rw [Int32.le_iff_toInt_le]; omega
theorem i32_nlt {a b : Int32} (h : ¬ a ≤ b) : b < a := by
  rw [Int32.le_iff_toInt_le] at h
  rw [Int32.lt_iff_toInt_lt]; omega
theorem op_draft {dn md cd : Int32} {df mf : Nat → Int32} (h : RelDr dn df md mf) : ∃ (b : Bool) (u v : Int32 × (Nat → Int32)), RelDr u.1 u.2 v.1 v.2 ∧ (∀ Q : Bool → (Int32 × (Nat → Int32)) → Prop, Q b u → wp_X_draft dn df cd Q) ∧ (∀ Q : Bool → (Int32 × (Nat → Int32)) → Prop, Q b v → wp_M_draft md mf cd Q) := by
  obtain ⟨k, hk, rfl, rfl, he⟩ := h
  by_cases h1 : cd < 32
  · refine ⟨false, (nI k, df), (nI k, mf), ⟨k, hk, rfl, rfl, he⟩, fun Q hQ => ?_, fun Q hQ => ?_⟩
    · simp [wp_X_draft, wp_isPlain, h1, hQ]
    · simp [wp_M_draft, h1, hQ]
  by_cases h2 : 126 < cd
  · refine ⟨false, (nI k, df), (nI k, mf), ⟨k, hk, rfl, rfl, he⟩, fun Q hQ => ?_, fun Q hQ => ?_⟩
    · simp only [wp_X_draft, wp_isPlain]; exact ⟨fun h => absurd h h1, fun _ => ⟨fun _ => ⟨fun _ => hQ, fun h => by cases h⟩, fun h => absurd h2 h⟩⟩
    · simp only [wp_M_draft]; exact ⟨fun h => absurd h h1, fun _ => ⟨fun _ => hQ, fun h => absurd h2 h⟩⟩
  by_cases h3 : k < 40
  · have e1 : nI k < nI 40 := nI_lt h3 (by omega)
    have e2 : vp_in (nI k) 40 := vp_in_nI h3 (by omega)
    have e3 : ¬ nI k = (40 : Int32) := fun h => by
      have := (nI_eq (a := k) (b := 40) (by omega) (by omega)).mp h
      omega
    have e4 : (nI k).toNatClampNeg = k := nI_clamp (by omega)
    refine ⟨true, (nI k + 1, upd df k cd), (nI k + 1, upd mf k cd), ⟨k + 1, by omega, nI_1 k, nI_1 k, fun i hi => ?_⟩, fun Q hQ => ?_, fun Q hQ => ?_⟩
    · by_cases hik : i = k
      · subst hik
        show upd df i cd i = upd mf i cd i ∧ 32 ≤ upd df i cd i ∧ upd df i cd i ≤ 126
        rw [upd_same, upd_same]; exact ⟨rfl, i32_nle h1, i32_nle h2⟩
      · show upd df k cd i = upd mf k cd i ∧ 32 ≤ upd df k cd i ∧ upd df k cd i ≤ 126
        rw [upd_other _ _ hik, upd_other _ _ hik]; exact he i (by omega)
    · simp only [wp_X_draft, wp_isPlain, wp_Row_add, e4]
      exact ⟨fun h => absurd h h1, fun _ => ⟨fun h => absurd h h2, fun _ => ⟨fun h => (by cases h), fun _ => ⟨fun _ => ⟨e2, fun h => (by cases h), fun _ => hQ⟩, fun h => absurd e1 h⟩⟩⟩⟩
    · simp only [wp_M_draft, e4]
      exact ⟨fun h => absurd h h1, fun _ => ⟨fun h => absurd h h2, fun _ => ⟨fun _ => ⟨e2, hQ⟩, fun h => absurd h e3⟩⟩⟩
  · obtain rfl : k = 40 := by omega
    have e1 : ¬ nI 40 < nI 40 := nI_nlt (Nat.le_refl _) (by omega)
    refine ⟨false, (nI 40, df), (nI 40, mf), ⟨40, hk, rfl, rfl, he⟩, fun Q hQ => ?_, fun Q hQ => ?_⟩
    · simp only [wp_X_draft, wp_isPlain, wp_Row_add]
      exact ⟨fun h => absurd h h1, fun _ => ⟨fun h => absurd h h2, fun _ => ⟨fun h => (by cases h), fun _ => ⟨fun h => absurd h e1, fun _ => ⟨fun _ => hQ, fun h => (by cases h)⟩⟩⟩⟩⟩
    · simp only [wp_M_draft]
      exact ⟨fun h => absurd h h1, fun _ => ⟨fun h => absurd h h2, fun _ => ⟨fun h => absurd rfl h, fun _ => hQ⟩⟩⟩
theorem op_scrap {dn md : Int32} {df mf : Nat → Int32} : RelDr 0 df 0 mf ∧ (∀ Q : Int32 → Prop, Q 0 → wp_X_scrap dn Q) ∧ (∀ Q : Int32 → Prop, Q 0 → wp_M_scrap md Q) :=
  ⟨⟨0, by omega, rfl, rfl, fun i h => absurd h (Nat.not_lt_zero i)⟩, fun Q hQ => hQ, fun Q hQ => hQ⟩
theorem op_group {a nn : Int32} (h : 1 ≤ a ∧ a ≤ 9) : ∃ (b : Bool) (u : Int32), (1 ≤ u ∧ u ≤ 9) ∧ (∀ Q : Bool → Int32 → Prop, Q b u → wp_X_groupFrom a nn Q) ∧ (∀ Q : Bool → Int32 → Prop, Q b u → wp_M_groupFrom a nn Q) := by
  by_cases h1 : nn < 1
  · exact ⟨false, a, h, fun Q hQ => ⟨fun _ => hQ, fun h => absurd h1 h⟩, fun Q hQ => ⟨fun _ => hQ, fun h => absurd h1 h⟩⟩
  by_cases h2 : nn ≤ 9
  · exact ⟨true, nn, ⟨i32_nle h1, h2⟩, fun Q hQ => ⟨fun h => absurd h h1, fun _ => ⟨fun _ => hQ, fun h => absurd h2 h⟩⟩, fun Q hQ => ⟨fun h => absurd h h1, fun _ => ⟨fun _ => hQ, fun h => absurd h2 h⟩⟩⟩
  · exact ⟨false, a, h, fun Q hQ => ⟨fun h => absurd h h1, fun _ => ⟨fun h => absurd h h2, fun _ => hQ⟩⟩, fun Q hQ => ⟨fun h => absurd h h1, fun _ => ⟨fun h => absurd h h2, fun _ => hQ⟩⟩⟩
theorem op_type {tn mt cd : Int32} {tf mf : Nat → Int32} (h : RelTx tn tf mt mf) : ∃ (b : Bool) (u v : Int32 × (Nat → Int32)), RelTx u.1 u.2 v.1 v.2 ∧ (∀ Q : Bool → (Int32 × (Nat → Int32)) → Prop, Q b u → wp_X_type tn tf cd Q) ∧ (∀ Q : Bool → (Int32 × (Nat → Int32)) → Prop, Q b v → wp_M_type mt mf cd Q) := by
  obtain ⟨k, hk, rfl, rfl, he⟩ := h
  by_cases h1 : cd < 32
  · refine ⟨false, (nI k, tf), (nI k, mf), ⟨k, hk, rfl, rfl, he⟩, fun Q hQ => ?_, fun Q hQ => ?_⟩
    · simp [wp_X_type, wp_isPlain, h1, hQ]
    · simp [wp_M_type, h1, hQ]
  by_cases h2 : 126 < cd
  · refine ⟨false, (nI k, tf), (nI k, mf), ⟨k, hk, rfl, rfl, he⟩, fun Q hQ => ?_, fun Q hQ => ?_⟩
    · simp only [wp_X_type, wp_isPlain]; exact ⟨fun h => absurd h h1, fun _ => ⟨fun _ => ⟨fun _ => hQ, fun h => by cases h⟩, fun h => absurd h2 h⟩⟩
    · simp only [wp_M_type]; exact ⟨fun h => absurd h h1, fun _ => ⟨fun _ => hQ, fun h => absurd h2 h⟩⟩
  by_cases h3 : k < 100
  · have e0 : ¬ (100 : Int32) ≤ nI k := nI_ge (b := 100) h3 (by omega)
    have e9 : nI k < (100 : Int32) := nI_lt (b := 100) h3 (by omega)
    have e1 : nI k < nI 256 := nI_lt (by omega) (by omega)
    have e2 : vp_in (nI k) 256 := vp_in_nI (by omega) (by omega)
    have e3 : vp_in (nI k) 400 := vp_in_nI (by omega) (by omega)
    have e4 : (nI k).toNatClampNeg = k := nI_clamp (by omega)
    refine ⟨true, (nI k + 1, upd tf k cd), (nI k + 1, upd mf k cd), ⟨k + 1, by omega, nI_1 k, nI_1 k, fun i hi => ?_⟩, fun Q hQ => ?_, fun Q hQ => ?_⟩
    · by_cases hik : i = k
      · subst hik
        show upd tf i cd i = upd mf i cd i
        rw [upd_same, upd_same]
      · show upd tf k cd i = upd mf k cd i
        rw [upd_other _ _ hik, upd_other _ _ hik]; exact he i (by omega)
    · simp only [wp_X_type, wp_isPlain, wp_Row_add, e4]
      exact ⟨fun h => absurd h h1, fun _ => ⟨fun h => absurd h h2, fun _ => ⟨fun h => (by cases h), fun _ => ⟨fun h => absurd h e0, fun _ => ⟨fun _ => ⟨e2, fun h => (by cases h), fun _ => hQ⟩, fun h => absurd e1 h⟩⟩⟩⟩⟩
    · simp only [wp_M_type, e4]
      exact ⟨fun h => absurd h h1, fun _ => ⟨fun h => absurd h h2, fun _ => ⟨fun _ => ⟨e3, hQ⟩, fun h => absurd e9 h⟩⟩⟩
  · have e0 : (100 : Int32) ≤ nI k := nI_le (a := 100) (by omega) (by omega)
    have e9 : ¬ nI k < (100 : Int32) := nI_nlt (b := 100) (by omega) (by omega)
    refine ⟨false, (nI k, tf), (nI k, mf), ⟨k, hk, rfl, rfl, he⟩, fun Q hQ => ?_, fun Q hQ => ?_⟩
    · simp only [wp_X_type, wp_isPlain]
      exact ⟨fun h => absurd h h1, fun _ => ⟨fun h => absurd h h2, fun _ => ⟨fun h => (by cases h), fun _ => ⟨fun _ => hQ, fun h => absurd e0 h⟩⟩⟩⟩
    · simp only [wp_M_type]
      exact ⟨fun h => absurd h h1, fun _ => ⟨fun h => absurd h h2, fun _ => ⟨fun h => absurd h e9, fun _ => hQ⟩⟩⟩
theorem op_wipe {tn mt : Int32} {tf mf : Nat → Int32} : RelTx 0 tf 0 mf ∧ (∀ Q : Int32 → Prop, Q 0 → wp_X_wipe tn Q) ∧ (∀ Q : Int32 → Prop, Q 0 → wp_M_wipe mt Q) :=
  ⟨⟨0, by omega, rfl, rfl, fun i h => absurd h (Nat.not_lt_zero i)⟩, fun Q hQ => hQ, fun Q hQ => hQ⟩
theorem op_at {tn mt ix : Int32} {tf mf : Nat → Int32} (h : RelTx tn tf mt mf) : ∃ r : Int32, (∀ Q : Int32 → Unit → Prop, Q r () → wp_X_at tn tf ix Q) ∧ (∀ Q : Int32 → Unit → Prop, Q r () → wp_M_at mt mf ix Q) := by
  obtain ⟨k, hk, rfl, rfl, he⟩ := h
  rcases pk_ix ix (n := k) (by omega) with h1 | h1 | ⟨j, hj, rfl⟩
  · refine ⟨-1, fun Q hQ => ?_, fun Q hQ => ?_⟩
    · simp [wp_X_at, wp_Row_has, h1, hQ]
    · simp [wp_M_at, h1, hQ]
  · have h0 : ¬ ix < 0 := fun h => by
      rw [Int32.lt_iff_toInt_lt] at h
      rw [Int32.le_iff_toInt_le, nI_toInt (by omega)] at h1
      have : (0 : Int32).toInt = 0 := by decide
      omega
    have h2 : ¬ ix < nI k := fun h => by
      rw [Int32.lt_iff_toInt_lt] at h
      rw [Int32.le_iff_toInt_le] at h1
      omega
    refine ⟨-1, fun Q hQ => ?_, fun Q hQ => ?_⟩
    · simp only [wp_X_at, wp_Row_has]
      exact ⟨fun h => absurd h h0, fun _ => ⟨fun _ => ⟨fun _ => hQ, fun h => (by cases h)⟩, fun h => absurd h1 h⟩⟩
    · simp only [wp_M_at]
      exact ⟨fun h => absurd h h0, fun _ => ⟨fun h => absurd h h2, fun _ => hQ⟩⟩
  · have h0 : ¬ nI j < 0 := nI_pos (by omega)
    have h1 : ¬ nI k ≤ nI j := nI_ge hj (by omega)
    have h2 : nI j < nI k := nI_lt hj (by omega)
    have e4 : (nI j).toNatClampNeg = j := nI_clamp (by omega)
    have e2 : vp_in (nI j) 256 := vp_in_nI (by omega) (by omega)
    have e3 : vp_in (nI j) 400 := vp_in_nI (by omega) (by omega)
    refine ⟨tf j, fun Q hQ => ?_, fun Q hQ => ?_⟩
    · simp only [wp_X_at, wp_Row_has, wp_Row_code, e4]
      exact ⟨fun h => absurd h h0, fun _ => ⟨fun h => absurd h h1, fun _ => ⟨fun h => (by cases h), fun _ => ⟨fun h => absurd h h0, fun _ => ⟨fun h => absurd h h1, fun _ => ⟨fun h => (by cases h), fun _ => ⟨e2, hQ⟩⟩⟩⟩⟩⟩⟩
    · simp only [wp_M_at, e4]
      rw [he j hj] at hQ
      exact ⟨fun h => absurd h h0, fun _ => ⟨fun _ => ⟨e3, hQ⟩, fun h => absurd h2 h⟩⟩
