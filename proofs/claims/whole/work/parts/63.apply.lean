/-! apply: class and reference side by side -/
abbrev KTy : Type := Nat × Nat × Int32 × Bool × Bool × Bool × Bool × Int32 × Int32 × Int32 × Int32 × Int32 × Int32 × Int32 × Int32 × Bool × Int32 × (Nat → Int32) × Int32 × (Nat → Int32) × Bool × Int32 × Int32 × Int32 × Int32 × Int32 × Int32 × Int32 × Int32 × Bool × Int32 × (Nat → Int32) × Int32 × (Nat → Int32)
def PD (pm : Bool) (h z cm b t f q e : Int32) (x : Bool) (pn : Int32) (pf : Nat → Int32) (sn : Int32) (sf first da dl : Nat → Int32) : Prop :=
  ∃ H Z C B T F G E kp ks : Nat, Cnt h z cm b t f q e x first H Z C B T F G E ∧ Bd 40 H Z C B T F G E ∧ (0 < C → 1 ≤ T ∧ 1 ≤ B) ∧ (0 < E → 1 ≤ Z ∧ C = 0) ∧ RelAf pn pf da dl 0 kp ∧ RelAf sn sf da dl 1 ks ∧ kp ≤ 40 ∧ ks ≤ 40 ∧ PMx pm pf sf kp ks
/-- what apply comes to, on both sides -/
def Res (ds : Int32) (two : Bool) (has af al : Nat → Int32) (r : Int32) (U : KTy) (V : ATy) : Prop :=
  (r = 0 → V.1 = 0 ∧ U.2.2.2.2.2.1 = V.2.2.2.2.1 ∧ RelSub U.2.2.2.2.2.2.1 U.2.2.2.2.2.2.2.1 U.2.2.2.2.2.2.2.2.1 U.2.2.2.2.2.2.2.2.2.1 U.2.2.2.2.2.2.2.2.2.2.1 U.2.2.2.2.2.2.2.2.2.2.2.1 U.2.2.2.2.2.2.2.2.2.2.2.2.1 U.2.2.2.2.2.2.2.2.2.2.2.2.2.1 U.2.2.2.2.2.2.2.2.2.2.2.2.2.2.1 U.2.2.2.2.2.2.2.2.2.2.2.2.2.2.2.1 U.2.2.2.2.2.2.2.2.2.2.2.2.2.2.2.2.1 U.2.2.2.2.2.2.2.2.2.2.2.2.2.2.2.2.2.1 U.2.2.2.2.2.2.2.2.2.2.2.2.2.2.2.2.2.2.1 U.2.2.2.2.2.2.2.2.2.2.2.2.2.2.2.2.2.2.2.1 V.2.2.2.2.2.2.2.1 V.2.2.2.2.2.2.2.2.2.2.1 V.2.2.2.2.2.2.2.2.2.2.2 ∧ RelMin V.2.2.2.2.1 U.2.2.2.2.2.2.2.2.2.2.2.2.2.2.2.2.2.2.2.2.2.2.2.2.2.2.2.2.2.2.1 U.2.2.2.2.2.2.2.2.2.2.2.2.2.2.2.2.2.2.2.2.2.2.2.2.2.2.2.2.2.2.2.1 U.2.2.2.2.2.2.2.2.2.2.2.2.2.2.2.2.2.2.2.2.2.2.2.2.2.2.2.2.2.2.2.2.1 U.2.2.2.2.2.2.2.2.2.2.2.2.2.2.2.2.2.2.2.2.2.2.2.2.2.2.2.2.2.2.2.2.2 V.2.2.2.2.2.2.2.2.2.2.1 V.2.2.2.2.2.2.2.2.2.2.2) ∧
  (¬ r = 0 → V.1 = ds ∧ V.2.2.2.2.1 = two ∧ V.2.2.2.2.2.2.2.1 = has ∧ V.2.2.2.2.2.2.2.2.2.2.1 = af ∧ V.2.2.2.2.2.2.2.2.2.2.2 = al)
theorem s_ended {st : Nat} (h : st ≤ 8) : ∃ b : Bool, (b = true ↔ st = 1 ∨ st = 4 ∨ st = 7 ∨ st = 8) ∧ ∀ Q : Bool → Unit → Prop, Q b () → wp_Mk_numberEnded (nI st) Q := by
  have e : ∀ k : Nat, k ≤ 8 → ((nI st = nI k) = (st = k)) := fun k hk => propext (nI_eq (by omega) (by omega))
  have e1 : (nI st = (1 : Int32)) = (st = 1) := e 1 (by omega)
  have e4 : (nI st = (4 : Int32)) = (st = 4) := e 4 (by omega)
  have e7 : (nI st = (7 : Int32)) = (st = 7) := e 7 (by omega)
  have e8 : (nI st = (8 : Int32)) = (st = 8) := e 8 (by omega)
  by_cases hh : st = 1 ∨ st = 4 ∨ st = 7 ∨ st = 8
  · refine ⟨true, ⟨fun _ => hh, fun _ => rfl⟩, fun Q hQ => ?_⟩
    unfold wp_Mk_numberEnded
    rw [e1, e4, e7, e8]
    refine ⟨fun _ => hQ, fun a1 => ⟨fun _ => hQ, fun a2 => ⟨fun _ => hQ, fun a3 => ⟨fun a4 => ?_, fun _ => hQ⟩⟩⟩⟩
    omega
  · refine ⟨false, ⟨fun z => (by cases z), fun z => absurd z hh⟩, fun Q hQ => ?_⟩
    unfold wp_Mk_numberEnded
    rw [e1, e4, e7, e8]
    refine ⟨fun a => absurd (Or.inl a) hh, fun a1 => ⟨fun a => absurd (Or.inr (Or.inl a)) hh, fun a2 => ⟨fun a => absurd (Or.inr (Or.inr (Or.inl a))) hh, fun a3 => ⟨fun _ => hQ, fun a => absurd (Or.inr (Or.inr (Or.inr a))) hh⟩⟩⟩⟩
theorem ph_end {st : Nat} {qd qe : Bool} {ms mq : Int32} {F G pos : Nat} (h : Ph st qd qe ms mq F G pos) : st ≤ 8 ∧ ((qd = false ∧ (st = 1 ∨ st = 4 ∨ st = 7 ∨ st = 8)) ↔ (ms = 2 ∨ ms = 5 ∨ ms = 6 ∨ ms = 9 ∨ ms = 10)) := by
  rcases h with ⟨rfl, h⟩ | ⟨rfl, h, -⟩
  · rcases h with ⟨rfl, rfl⟩ | ⟨rfl, rfl⟩ | ⟨rfl, rfl⟩ | ⟨rfl, rfl⟩ | ⟨rfl, -, rfl⟩ | ⟨rfl, -, rfl⟩ | ⟨rfl, rfl⟩ | ⟨rfl, rfl⟩ | ⟨rfl, rfl⟩ | ⟨rfl, rfl⟩ <;> simp (decide := true)
  · rcases h with ⟨rfl, rfl⟩ | ⟨rfl, rfl⟩ <;> simp (decide := true)
theorem s_code {len pos : Nat} (h : pos < len) (hl : len ≤ 40) (f : Nat → Int32) : ∀ Q : Int32 → Unit → Prop, Q (f pos) () → wp_Row_code 40 (nI len) f (nI pos) Q := by
  intro Q hQ
  unfold wp_Row_code wp_Row_has
  rw [nI_clamp (by omega)]
  have e0 : ¬ nI pos < 0 := nI_pos (by omega)
  have e1 : ¬ nI len ≤ nI pos := nI_ge h (by omega)
  exact ⟨fun z => absurd z e0, fun _ => ⟨fun z => absurd z e1, fun _ => ⟨fun z => (by cases z), fun _ => ⟨vp_in_nI (by omega) (by omega), hQ⟩⟩⟩⟩
theorem code_of {x : Int32} (h1 : 32 ≤ x) (h2 : x ≤ 126) : ∃ c : Nat, x = nI c ∧ 32 ≤ c ∧ c ≤ 126 := by
  have e1 : (32 : Int32).toInt = 32 := by decide
  have e2 : (126 : Int32).toInt = 126 := by decide
  rw [Int32.le_iff_toInt_le] at h1 h2
  rw [e1] at h1
  rw [e2] at h2
  refine ⟨x.toInt.toNat, ?_, by omega, by omega⟩
  rw [nI_iI]
  have : ((x.toInt.toNat : Nat) : Int) = x.toInt := by omega
  rw [this]
  exact iI_of x
theorem nz (k : Nat) (h : k ≤ 100) : ¬ nI (k + 1) = 0 := nI_ne0 (by omega) (by omega)
theorem PD.fr {pm : Bool} {h z cm b t f q e : Int32} {x : Bool} {pn : Int32} {pf : Nat → Int32} {sn : Int32} {sf first da dl da' dl' : Nat → Int32} (hp : PD pm h z cm b t f q e x pn pf sn sf first da dl) (hf : Fr da dl da' dl' 1) : PD pm h z cm b t f q e x pn pf sn sf first da' dl' := by
  obtain ⟨H, Z, C, B, T, F, G, E, kp, ks, h1, h2, h3, h4, h5, h6, h7, h8, h9⟩ := hp
  obtain ⟨a1, a2⟩ := hf 0 (by omega) (by omega) (by omega)
  obtain ⟨b1, b2⟩ := hf 1 (by omega) (by omega) (by omega)
  exact ⟨H, Z, C, B, T, F, G, E, kp, ks, h1, h2, h3, h4, ⟨h5.1, by rw [a1]; exact h5.2.1, fun i hi => by rw [a2 i (by omega)]; exact h5.2.2 i hi⟩, ⟨h6.1, by rw [b1]; exact h6.2.1, fun i hi => by rw [b2 i (by omega)]; exact h6.2.2 i hi⟩, h7, h8, h9⟩
/-- the reference's end, where the draft is whole -/
theorem s_mend {dr now first has da dl af al : Nat → Int32} {ds st sub q x1 : Int32} {two : Bool} (hds : ds ≤ x1) (he : st = 2 ∨ st = 5 ∨ st = 6 ∨ st = 9 ∨ st = 10) : ∀ Q : Int32 → ATy → Prop, wp_M_apply_J860 dr true ds st sub q two now first has da dl af al Q → wp_M_apply_L70 1 dr x1 ds st sub q two now first has da dl af al Q := by
  intro Q hQ
  unfold wp_M_apply_L70 wp_M_apply_J810
  refine ⟨fun _ => ⟨fun _ => hQ, fun a1 => ⟨fun _ => hQ, fun a2 => ⟨fun _ => hQ, fun a3 => ⟨fun _ => hQ, fun a4 => ⟨fun a5 => ?_, fun _ => hQ⟩⟩⟩⟩⟩, fun z => absurd hds z⟩
  rcases he with h | h | h | h | h
  · exact absurd h a1
  · exact absurd h a2
  · exact absurd h a3
  · exact absurd h a4
  · exact absurd h a5
theorem s_mendN {dr now first has da dl af al : Nat → Int32} {ds st sub q x1 : Int32} {two : Bool} (hds : ds ≤ x1) (he : ¬ (st = 2 ∨ st = 5 ∨ st = 6 ∨ st = 9 ∨ st = 10)) : ∀ Q : Int32 → ATy → Prop, Q (ds + 1) (ds, st, sub, q, two, now, first, has, da, dl, af, al) → wp_M_apply_L70 1 dr x1 ds st sub q two now first has da dl af al Q := by
  intro Q hQ
  unfold wp_M_apply_L70
  refine ⟨fun _ => ⟨fun a => absurd (Or.inl a) he, fun a1 => ⟨fun a => absurd (Or.inr (Or.inl a)) he, fun a2 => ⟨fun a => absurd (Or.inr (Or.inr (Or.inl a))) he, fun a3 => ⟨fun a => absurd (Or.inr (Or.inr (Or.inr (Or.inl a)))) he, fun a4 => ⟨fun _ => ?_, fun a => absurd (Or.inr (Or.inr (Or.inr (Or.inr a)))) he⟩⟩⟩⟩⟩, fun z => absurd hds z⟩
  unfold wp_M_apply_J860
  exact ⟨fun z => (by cases z), fun _ => hQ⟩
theorem PD.rel {pm : Bool} {h z cm b t f q e : Int32} {x : Bool} {pn : Int32} {pf : Nat → Int32} {sn : Int32} {sf first da dl has af al : Nat → Int32} {two : Bool} (hp : PD pm h z cm b t f q e x pn pf sn sf first da dl) (h1 : ∀ j, j < 8 → has j = first j) (h2 : has 8 = if first 6 = 1 then first 7 else first 8) (h3 : ∀ j, j < 160 → af j = da j) (h4 : ∀ j, j < 4 → al j = if j < 2 ∨ two = true then dl j else 0) : RelSub pm h z cm b t f q e x pn pf sn sf has af al := by
  obtain ⟨H, Z, C, B, T, F, G, E, kp, ks, ⟨a, b0, b1, b2, b3, b4, b5, b6, b7, b8⟩, hB, hC, hE, hA0, hA1, hk0, hk1, hpm⟩ := hp
  have hC40 : C ≤ 40 := hB.2.1
  refine ⟨H, Z, C, B, T, F, G, E, kp, ks, a, ⟨?_, ?_, ?_, ?_, ?_, ?_, ?_, ?_, ?_⟩, hB, hC, hE, hA0.copy hk0 (by omega) h3 (by rw [h4 0 (by omega)]; simp), hA1.copy hk1 (by omega) h3 (by rw [h4 1 (by omega)]; simp), hk0, hk1, hpm⟩
  · rw [h1 0 (by omega)]; exact b0
  · rw [h1 1 (by omega)]; exact b1
  · rw [h1 2 (by omega)]; exact b2
  · rw [h1 3 (by omega)]; exact b3
  · rw [h1 4 (by omega)]; exact b4
  · rw [h1 5 (by omega)]; exact b5
  · rw [h1 6 (by omega)]; exact b6
  · rw [h1 7 (by omega)]; exact b7
  · rw [h2, b6, b7, b8]
    by_cases hc : C = 1
    · rw [if_pos (by rw [hc]; rfl), if_pos hc]
    · have hn : ¬ nI C = (1 : Int32) := fun z => hc ((nI_eq (b := 1) (by omega) (by omega)).mp z)
      rw [if_neg hn, if_neg hc]
