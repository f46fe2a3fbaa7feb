/-! what holds of the sub that is being read, class and reference: numbers H Z C B T F G E (hashes, zeros, commas, behind, between, fraction places, fraction zeros, exponent zeros) -/
def Cnt (h z cm b t f q e : Int32) (x : Bool) (now : Nat → Int32) (H Z C B T F G E : Nat) : Prop :=
  (h = nI H ∧ z = nI Z ∧ cm = nI C ∧ b = nI B ∧ t = nI T ∧ f = nI F ∧ q = nI G ∧ e = nI E) ∧ now 0 = nI H ∧ now 1 = nI Z ∧ now 2 = nI F ∧ now 3 = nI G ∧ now 4 = nI E ∧ now 5 = bI x ∧ now 6 = nI C ∧ now 7 = nI B ∧ now 8 = nI T
def Bd (pos H Z C B T F G E : Nat) : Prop := H + Z ≤ pos ∧ C ≤ pos ∧ B ≤ pos ∧ T ≤ pos ∧ F ≤ pos ∧ G ≤ F ∧ E ≤ pos
def Str (st Z C B T F G E : Nat) : Prop := (0 < C → 1 ≤ T) ∧ (0 < C → st ≠ 2 → 1 ≤ B) ∧ (5 ≤ st → st ≤ 7 → 1 ≤ Z ∧ C = 0) ∧ (0 < E → 1 ≤ Z ∧ C = 0) ∧ (st ≤ 3 → F = 0 ∧ G = 0) ∧ (st = 1 → 1 ≤ B) ∧ (st ≤ 6 → E = 0)
def PMx (pm : Bool) (pf sf : Nat → Int32) (kp ks : Nat) : Prop := pm = true ↔ (∃ i, i < kp ∧ pf i = 259) ∨ (∃ i, i < ks ∧ sf i = 259)
def Bun (pos s st : Nat) (pm : Bool) (h z cm b t f q e : Int32) (x : Bool) (pn : Int32) (pf : Nat → Int32) (sn : Int32) (sf now da dl : Nat → Int32) (H Z C B T F G E kp ks : Nat) : Prop :=
  Cnt h z cm b t f q e x now H Z C B T F G E ∧ Bd pos H Z C B T F G E ∧ Str st Z C B T F G E ∧ RelAf pn pf da dl (2 * s + 0) kp ∧ RelAf sn sf da dl (2 * s + 1) ks ∧ kp ≤ pos ∧ ks ≤ pos ∧ PMx pm pf sf kp ks
section BU
variable {pos s st : Nat} {pm : Bool} {h z cm b t f q e : Int32} {x : Bool} {pn : Int32} {pf : Nat → Int32} {sn : Int32} {sf now da dl : Nat → Int32} {H Z C B T F G E kp ks : Nat}
theorem Bd.up (hb : Bd pos H Z C B T F G E) : Bd (pos + 1) H Z C B T F G E := by
  unfold Bd at hb ⊢; omega
theorem Bun.hash (hb : Bun pos s st pm h z cm b t f q e x pn pf sn sf now da dl H Z C B T F G E kp ks) (hst : st ≤ 2) : Bun (pos + 1) s 1 pm (h + 1) z cm (b + 1) t f q e x pn pf sn sf (upd (upd now 0 (now 0 + 1)) 7 (upd now 0 (now 0 + 1) 7 + 1)) da dl (H + 1) Z C (B + 1) T F G E kp ks := by
  obtain ⟨⟨⟨a1, a2, a3, a4, a5, a6, a7, a8⟩, b0, b1, b2, b3, b4, b5, b6, b7, b8⟩, h2, h3, h4, h5, h6, h7, h8⟩ := hb
  refine ⟨⟨⟨by rw [a1, nI_1], a2, a3, by rw [a4, nI_1], a5, a6, a7, a8⟩, ?_⟩, ?_, ?_, h4, h5, by omega, by omega, h8⟩
  · simp [upd, b0, b1, b2, b3, b4, b5, b6, b7, b8, nI_1]
  · unfold Bd at h2 ⊢; omega
  · unfold Str at h3 ⊢; omega
theorem Bun.zero (hb : Bun pos s st pm h z cm b t f q e x pn pf sn sf now da dl H Z C B T F G E kp ks) (hst : st ≤ 2) : Bun (pos + 1) s 1 pm h (z + 1) cm (b + 1) t f q e x pn pf sn sf (upd (upd now 1 (now 1 + 1)) 7 (upd now 1 (now 1 + 1) 7 + 1)) da dl H (Z + 1) C (B + 1) T F G E kp ks := by
  obtain ⟨⟨⟨a1, a2, a3, a4, a5, a6, a7, a8⟩, b0, b1, b2, b3, b4, b5, b6, b7, b8⟩, h2, h3, h4, h5, h6, h7, h8⟩ := hb
  refine ⟨⟨⟨a1, by rw [a2, nI_1], a3, by rw [a4, nI_1], a5, a6, a7, a8⟩, ?_⟩, ?_, ?_, h4, h5, by omega, by omega, h8⟩
  · simp [upd, b0, b1, b2, b3, b4, b5, b6, b7, b8, nI_1]
  · unfold Bd at h2 ⊢; omega
  · unfold Str at h3 ⊢; omega
theorem Bun.comma (hb : Bun pos s 1 pm h z cm b t f q e x pn pf sn sf now da dl H Z C B T F G E kp ks) : Bun (pos + 1) s 2 pm h z (cm + 1) 0 b f q e x pn pf sn sf (upd (upd (upd now 8 (now 7)) 7 0) 6 (upd (upd now 8 (now 7)) 7 0 6 + 1)) da dl H Z (C + 1) 0 B F G E kp ks := by
  obtain ⟨⟨⟨a1, a2, a3, a4, a5, a6, a7, a8⟩, b0, b1, b2, b3, b4, b5, b6, b7, b8⟩, h2, h3, h4, h5, h6, h7, h8⟩ := hb
  refine ⟨⟨⟨a1, a2, by rw [a3, nI_1], rfl, a4, a6, a7, a8⟩, ?_⟩, ?_, ?_, h4, h5, by omega, by omega, h8⟩
  · simp [upd, b0, b1, b2, b3, b4, b5, b6, b7, nI_1, nI_0]
  · unfold Bd at h2 ⊢; omega
  · unfold Str at h3 ⊢; omega
theorem Bun.point (hb : Bun pos s st pm h z cm b t f q e x pn pf sn sf now da dl H Z C B T F G E kp ks) (hst : st ≤ 1) : Bun (pos + 1) s 3 pm h z cm b t f q e x pn pf sn sf now da dl H Z C B T F G E kp ks := by
  obtain ⟨h1, h2, h3, h4, h5, h6, h7, h8⟩ := hb
  refine ⟨h1, h2.up, ?_, h4, h5, by omega, by omega, h8⟩
  unfold Str at h3 ⊢; omega
theorem Bun.fhash (hb : Bun pos s st pm h z cm b t f q e x pn pf sn sf now da dl H Z C B T F G E kp ks) (hst : st = 3 ∨ st = 4) : Bun (pos + 1) s 4 pm h z cm b t (f + 1) q e x pn pf sn sf (upd (upd now 2 (now 2 + 1)) 3 (upd now 2 (now 2 + 1) 3)) da dl H Z C B T (F + 1) G E kp ks := by
  obtain ⟨⟨⟨a1, a2, a3, a4, a5, a6, a7, a8⟩, b0, b1, b2, b3, b4, b5, b6, b7, b8⟩, h2, h3, h4, h5, h6, h7, h8⟩ := hb
  refine ⟨⟨⟨a1, a2, a3, a4, a5, by rw [a6, nI_1], a7, a8⟩, ?_⟩, ?_, ?_, h4, h5, by omega, by omega, h8⟩
  · simp [upd, b0, b1, b2, b3, b4, b5, b6, b7, b8, nI_1]
  · unfold Bd at h2 ⊢; omega
  · unfold Str at h3 ⊢; omega
theorem Bun.fzero (hb : Bun pos s st pm h z cm b t f q e x pn pf sn sf now da dl H Z C B T F G E kp ks) (hst : st = 3 ∨ st = 4) (hfg : F = G) : Bun (pos + 1) s 4 pm h z cm b t (f + 1) (q + 1) e x pn pf sn sf (upd (upd now 2 (now 2 + 1)) 3 (upd now 2 (now 2 + 1) 3 + 1)) da dl H Z C B T (F + 1) (G + 1) E kp ks := by
  obtain ⟨⟨⟨a1, a2, a3, a4, a5, a6, a7, a8⟩, b0, b1, b2, b3, b4, b5, b6, b7, b8⟩, h2, h3, h4, h5, h6, h7, h8⟩ := hb
  refine ⟨⟨⟨a1, a2, a3, a4, a5, by rw [a6, nI_1], by rw [a7, nI_1], a8⟩, ?_⟩, ?_, ?_, h4, h5, by omega, by omega, h8⟩
  · simp [upd, b0, b1, b2, b3, b4, b5, b6, b7, b8, nI_1]
  · unfold Bd at h2 ⊢; omega
  · unfold Str at h3 ⊢; omega
theorem Bun.pow (hb : Bun pos s st pm h z cm b t f q e x pn pf sn sf now da dl H Z C B T F G E kp ks) (hst : st = 1 ∨ st = 4) (hz : 1 ≤ Z) (hc : C = 0) : Bun (pos + 1) s 5 pm h z cm b t f q e x pn pf sn sf now da dl H Z C B T F G E kp ks := by
  obtain ⟨h1, h2, h3, h4, h5, h6, h7, h8⟩ := hb
  refine ⟨h1, h2.up, ?_, h4, h5, by omega, by omega, h8⟩
  unfold Str at h3 ⊢; omega
theorem Bun.plus (hb : Bun pos s 5 pm h z cm b t f q e x pn pf sn sf now da dl H Z C B T F G E kp ks) : Bun (pos + 1) s 6 pm h z cm b t f q e true pn pf sn sf (upd now 5 1) da dl H Z C B T F G E kp ks := by
  obtain ⟨⟨a, b0, b1, b2, b3, b4, b5, b6, b7, b8⟩, h2, h3, h4, h5, h6, h7, h8⟩ := hb
  refine ⟨⟨a, ?_⟩, h2.up, ?_, h4, h5, by omega, by omega, h8⟩
  · simp [upd, b0, b1, b2, b3, b4, b6, b7, b8, bI]
  · unfold Str at h3 ⊢; omega
theorem Bun.ez (hb : Bun pos s st pm h z cm b t f q e x pn pf sn sf now da dl H Z C B T F G E kp ks) (hst : 5 ≤ st ∧ st ≤ 7) : Bun (pos + 1) s 7 pm h z cm b t f q (e + 1) x pn pf sn sf (upd now 4 (now 4 + 1)) da dl H Z C B T F G (E + 1) kp ks := by
  obtain ⟨⟨⟨a1, a2, a3, a4, a5, a6, a7, a8⟩, b0, b1, b2, b3, b4, b5, b6, b7, b8⟩, h2, h3, h4, h5, h6, h7, h8⟩ := hb
  refine ⟨⟨⟨a1, a2, a3, a4, a5, a6, a7, by rw [a8, nI_1]⟩, ?_⟩, ?_, ?_, h4, h5, by omega, by omega, h8⟩
  · simp [upd, b0, b1, b2, b3, b4, b5, b6, b7, b8, nI_1]
  · unfold Bd at h2 ⊢; omega
  · unfold Str at h3 ⊢; omega
/-- no code: the stage goes on (the quote opens, or shuts) -/
theorem Bun.stay (hb : Bun pos s st pm h z cm b t f q e x pn pf sn sf now da dl H Z C B T F G E kp ks) {st' : Nat} (hst : st' = st ∨ (st' = 8 ∧ (st = 1 ∨ st = 4 ∨ st = 7 ∨ st = 8))) : Bun (pos + 1) s st' pm h z cm b t f q e x pn pf sn sf now da dl H Z C B T F G E kp ks := by
  obtain ⟨h1, h2, h3, h4, h5, h6, h7, h8⟩ := hb
  refine ⟨h1, h2.up, ?_, h4, h5, by omega, by omega, h8⟩
  unfold Str at h3 ⊢; omega
theorem PMx.put_p {a y : Int32} (hm : PMx pm pf sf kp ks) {pm' : Bool} (hp : pm' = true ↔ pm = true ∨ a = 259) : PMx pm' (upd pf kp a) sf (kp + 1) ks := by
  unfold PMx at hm ⊢
  rw [hp, hm]
  constructor
  · rintro ((⟨i, h1, h2⟩ | h1) | h1)
    · exact Or.inl ⟨i, by omega, by rw [upd_other _ _ (by omega)]; exact h2⟩
    · exact Or.inr h1
    · exact Or.inl ⟨kp, by omega, by rw [upd_same]; exact h1⟩
  · rintro (⟨i, h1, h2⟩ | h1)
    · by_cases hi : i = kp
      · subst hi; rw [upd_same] at h2; exact Or.inr h2
      · rw [upd_other _ _ hi] at h2; exact Or.inl (Or.inl ⟨i, by omega, h2⟩)
    · exact Or.inl (Or.inr h1)
theorem PMx.put_s {a : Int32} (hm : PMx pm pf sf kp ks) {pm' : Bool} (hp : pm' = true ↔ pm = true ∨ a = 259) : PMx pm' pf (upd sf ks a) kp (ks + 1) := by
  unfold PMx at hm ⊢
  rw [hp, hm]
  constructor
  · rintro ((h1 | ⟨i, h1, h2⟩) | h1)
    · exact Or.inl h1
    · exact Or.inr ⟨i, by omega, by rw [upd_other _ _ (by omega)]; exact h2⟩
    · exact Or.inr ⟨ks, by omega, by rw [upd_same]; exact h1⟩
  · rintro (h1 | ⟨i, h1, h2⟩)
    · exact Or.inl (Or.inl h1)
    · by_cases hi : i = ks
      · subst hi; rw [upd_same] at h2; exact Or.inr h2
      · rw [upd_other _ _ hi] at h2; exact Or.inl (Or.inr ⟨i, by omega, h2⟩)
theorem Bun.put_p (hb : Bun pos s st pm h z cm b t f q e x pn pf sn sf now da dl H Z C B T F G E kp ks) (hp40 : pos < 40) {a y : Int32} (hm : mc a y) {pm' : Bool} (hpm : pm' = true ↔ pm = true ∨ a = 259) : Bun (pos + 1) s st pm' h z cm b t f q e x (nI (kp + 1)) (upd pf kp a) sn sf now (upd da (40 * (2 * s + 0) + kp) y) (upd dl (2 * s + 0) (nI (kp + 1))) H Z C B T F G E (kp + 1) ks := by
  obtain ⟨h1, h2, h3, h4, h5, h6, h7, h8⟩ := hb
  exact ⟨h1, h2.up, h3, h4.put hm, h5.other (by omega) (by omega) (by omega), by omega, by omega, h8.put_p (y := y) hpm⟩
theorem Bun.put_s (hb : Bun pos s st pm h z cm b t f q e x pn pf sn sf now da dl H Z C B T F G E kp ks) (hp40 : pos < 40) {st' : Nat} (hst : st' = st ∨ (st' = 8 ∧ (st = 1 ∨ st = 4 ∨ st = 7 ∨ st = 8))) {a y : Int32} (hm : mc a y) {pm' : Bool} (hpm : pm' = true ↔ pm = true ∨ a = 259) : Bun (pos + 1) s st' pm' h z cm b t f q e x pn pf (nI (ks + 1)) (upd sf ks a) now (upd da (40 * (2 * s + 1) + ks) y) (upd dl (2 * s + 1) (nI (ks + 1))) H Z C B T F G E kp (ks + 1) := by
  obtain ⟨h1, h2, h3, h4, h5, h6, h7, h8⟩ := hb
  refine ⟨h1, h2.up, ?_, h4.other (by omega) (by omega) (by omega), h5.put hm, by omega, by omega, h8.put_s hpm⟩
  unfold Str at h3 ⊢; omega
end BU
