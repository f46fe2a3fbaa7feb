/-! rows of affixes: class (Row.add) and reference (keep) -/
theorem s_add {N k : Nat} (hk : k < N) (hN : N ≤ 1000) (f : Nat → Int32) (cd : Int32) : ∀ Q : Bool → (Int32 × (Nat → Int32)) → Prop, Q true (nI (k + 1), upd f k cd) → wp_Row_add N (nI k) f cd Q := by
  intro Q hQ
  unfold wp_Row_add
  rw [nI_clamp (by omega), nI_1]
  exact ⟨fun _ => ⟨vp_in_nI hk (by omega), hQ⟩, fun h => absurd (nI_lt hk (by omega)) h⟩
/-- a code of an affix as class and reference keep it -/
def mc (x y : Int32) : Prop := (x = 258 ∧ y = 200) ∨ (x = 259 ∧ y = 201) ∨ (x = y ∧ 32 ≤ x ∧ x ≤ 126)
/-- an affix: k codes, at the reference's place a of four -/
def RelAf (pn : Int32) (pf : Nat → Int32) (da dl : Nat → Int32) (a k : Nat) : Prop := pn = nI k ∧ dl a = nI k ∧ ∀ i, i < k → mc (pf i) (da (40 * a + i))
theorem s_keep {st sub cd : Int32} {da dl : Nat → Int32} {s k : Nat} (hs : s ≤ 1) (hsub : sub = nI s) {e : Nat} (he : e ≤ 1) (hst : (st = 10 ∨ st = 11) ↔ e = 1) (hk : k < 40) (hdl : dl (2 * s + e) = nI k) : ∀ Q : ((Nat → Int32) × (Nat → Int32)) → Prop, Q (upd da (40 * (2 * s + e) + k) cd, upd dl (2 * s + e) (nI (k + 1))) → wp_M_keep st sub da dl cd Q := by
  intro Q hQ
  have e2 : (2 : Int32) * sub = nI (2 * s) := by rw [hsub]; exact pk_mul 2 s
  have body : ∀ b : Bool, (b = true ↔ e = 1) → wp_M_keep_J290 st sub cd b (2 * sub) da dl Q := by
    intro b hb
    have eb : bI b = nI e := by
      cases b
      · have : e = 0 := by
          by_cases h : e = 1
          · exact absurd (hb.mpr h) (by simp)
          · omega
        subst this; rfl
      · have : e = 1 := hb.mp rfl
        subst this; rfl
    have ea : (2 : Int32) * sub + bI b = nI (2 * s + e) := by rw [e2, eb, nI_add]
    unfold wp_M_keep_J290
    rw [ea, nI_clamp (by omega), hdl]
    have e3 : (40 : Int32) * nI (2 * s + e) + nI k = nI (40 * (2 * s + e) + k) := by
      have : (40 : Int32) * nI (2 * s + e) = nI (40 * (2 * s + e)) := pk_mul 40 _
      rw [this, nI_add]
    rw [e3, nI_clamp (by omega), nI_1]
    exact ⟨vp_in_nI (by omega) (by omega), vp_in_nI (by omega) (by omega), vp_in_nI (by omega) (by omega), vp_in_nI (by omega) (by omega), hQ⟩
  unfold wp_M_keep wp_M_keep_J240
  refine ⟨fun h => body true ⟨fun _ => hst.mp (Or.inl h), fun _ => rfl⟩, fun h => ⟨fun h2 => body false ⟨fun z => (by cases z), fun z => ?_⟩, fun h2 => body true ⟨fun _ => hst.mp (Or.inr h2), fun _ => rfl⟩⟩⟩
  exact absurd (hst.mpr z) (by rintro (z | z); exact h z; exact h2 z)
theorem RelAf.put {pn x y : Int32} {pf da dl : Nat → Int32} {a k : Nat} (h : RelAf pn pf da dl a k) (hm : mc x y) : RelAf (nI (k + 1)) (upd pf k x) (upd da (40 * a + k) y) (upd dl a (nI (k + 1))) a (k + 1) := by
  refine ⟨rfl, upd_same _ _ _, fun i hi => ?_⟩
  by_cases hik : i = k
  · subst hik; rw [upd_same, upd_same]; exact hm
  · rw [upd_other _ _ hik, upd_other _ _ (by omega)]; exact h.2.2 i (by omega)
theorem RelAf.other {pn : Int32} {pf da dl : Nat → Int32} {a k a' k' : Nat} {y z : Int32} (h : RelAf pn pf da dl a k) (hk : k ≤ 40) (hk' : k' < 40) (ha : a ≠ a') : RelAf pn pf (upd da (40 * a' + k') y) (upd dl a' z) a k := by
  refine ⟨h.1, by rw [upd_other _ _ ha]; exact h.2.1, fun i hi => ?_⟩
  rw [upd_other _ _ (by omega)]; exact h.2.2 i hi
