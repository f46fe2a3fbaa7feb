/-! one character of a text that is read: reference -/
theorem b_of {b : Bool} {P : Prop} (h : b = true ↔ P) : (P → b = true) ∧ (¬ P → b = false) := by
  refine ⟨h.mpr, fun n => ?_⟩
  cases hv : b
  · rfl
  · exact absurd (h.mp hv) n
theorem bex (P : Prop) : ∃ b : Bool, b = true ↔ P := by
  by_cases h : P
  · exact ⟨true, fun _ => h, fun _ => rfl⟩
  · exact ⟨false, fun z => (by cases z), fun z => absurd z h⟩
section LO
variable {mf tx : Nat → Int32} {s : Nat → Nat} {K : Int32 → Int32 → Int32 → Int32 → Bool → Bool → Bool → Bool → Int32 → Int64 → Int32 → Prop} {Q : Bool → (Int64 × Int32) → Prop} {x2 x3 x4 x5 x10 c gs : Int32} {g : Int64} {pt bh mn gd pt' bh' mn' : Bool}
theorem r_J1780 (hm : Num6 mf s) (h2 : mn' = true ↔ mn = true ∨ c = nI (s 2)) (h : K x2 x3 x4 x5 pt' bh' mn' gd (x10 + 1) g gs) : wp_M_loose_J1780 mf tx x2 x3 x4 x5 pt' mn gd x10 c bh' g gs K Q := by
  unfold wp_M_loose_J1780
  rw [cn2, (hm 2 (by omega)).1]
  refine ⟨fun y => ?_, fun y => ⟨in26, fun y2 => ?_, fun y2 => ?_⟩⟩
  · rw [(b_of h2).1 (Or.inl y)] at h; exact h
  · rw [(b_of h2).2 (by rw [y]; rintro (z | z); cases z; exact y2 z)] at h; exact h
  · rw [(b_of h2).1 (Or.inr y2)] at h; exact h
theorem r_J1550 (hm : Num6 mf s) (h4 : bh' = true ↔ bh = true ∨ c = nI (s 4)) (h2 : mn' = true ↔ mn = true ∨ c = nI (s 2)) (h : K x2 x3 x4 x5 pt' bh' mn' gd (x10 + 1) g gs) : wp_M_loose_J1550 mf tx x2 x3 x4 x5 bh mn gd x10 c pt' g gs K Q := by
  unfold wp_M_loose_J1550 wp_M_loose_J1730
  rw [cn4, (hm 4 (by omega)).1]
  refine ⟨fun y => ?_, fun y => ⟨in46, fun y2 => ?_, fun y2 => ?_⟩⟩
  · rw [(b_of h4).1 (Or.inl y)] at h; exact r_J1780 hm h2 h
  · rw [(b_of h4).2 (by rw [y]; rintro (z | z); cases z; exact y2 z)] at h; exact r_J1780 hm h2 h
  · rw [(b_of h4).1 (Or.inr y2)] at h; exact r_J1780 hm h2 h
theorem r_J1320 (hm : Num6 mf s) (h0 : pt' = true ↔ pt = true ∨ c = nI (s 0)) (h4 : bh' = true ↔ bh = true ∨ c = nI (s 4)) (h2 : mn' = true ↔ mn = true ∨ c = nI (s 2)) (h : K x2 x3 x4 x5 pt' bh' mn' gd (x10 + 1) g gs) : wp_M_loose_J1320 mf tx x2 x3 x4 x5 pt bh mn x10 c gd g gs K Q := by
  unfold wp_M_loose_J1320 wp_M_loose_J1500
  rw [cn0, (hm 0 (by omega)).1]
  refine ⟨fun y => ?_, fun y => ⟨in06, fun y2 => ?_, fun y2 => ?_⟩⟩
  · rw [(b_of h0).1 (Or.inl y)] at h; exact r_J1550 hm h4 h2 h
  · rw [(b_of h0).2 (by rw [y]; rintro (z | z); cases z; exact y2 z)] at h; exact r_J1550 hm h4 h2 h
  · rw [(b_of h0).1 (Or.inr y2)] at h; exact r_J1550 hm h4 h2 h
theorem r_J710 (hm : Num6 mf s) (hg : gd = true ↔ c = nI (s 0) ∨ c = nI (s 1) ∨ c = nI (s 4) ∨ (bh = true ∧ (c = nI (s 2) ∨ c = 43))) (h0 : pt' = true ↔ pt = true ∨ c = nI (s 0)) (h4 : bh' = true ↔ bh = true ∨ c = nI (s 4)) (h2 : mn' = true ↔ mn = true ∨ c = nI (s 2)) (h : K x2 x3 x4 x5 pt' bh' mn' gd (x10 + 1) g gs) : wp_M_loose_J710 mf tx x2 x3 x4 x5 pt bh mn x10 c g gs K Q := by
  unfold wp_M_loose_J710 wp_M_loose_J1270 wp_M_loose_J1310
  rw [cn0, cn1, cn2, cn4, (hm 0 (by omega)).1, (hm 1 (by omega)).1, (hm 2 (by omega)).1, (hm 4 (by omega)).1]
  have T : (c = nI (s 0) ∨ c = nI (s 1) ∨ c = nI (s 4) ∨ (bh = true ∧ (c = nI (s 2) ∨ c = 43))) → wp_M_loose_J1320 mf tx x2 x3 x4 x5 pt bh mn x10 c true g gs K Q := fun y => by
    rw [(b_of hg).1 y] at h; exact r_J1320 hm h0 h4 h2 h
  have Fl : ¬ (c = nI (s 0) ∨ c = nI (s 1) ∨ c = nI (s 4) ∨ (bh = true ∧ (c = nI (s 2) ∨ c = 43))) → wp_M_loose_J1320 mf tx x2 x3 x4 x5 pt bh mn x10 c false g gs K Q := fun y => by
    rw [(b_of hg).2 y] at h; exact r_J1320 hm h0 h4 h2 h
  refine ⟨in06, fun y => T (Or.inl y), fun y0 => ⟨in16, fun y => T (Or.inr (Or.inl y)), fun y1 => ⟨in46, fun y => T (Or.inr (Or.inr (Or.inl y))), fun y4 => ⟨fun yb => Fl ?_, fun yb => ⟨in26, fun y => T (Or.inr (Or.inr (Or.inr ⟨yb, Or.inl y⟩))), fun y2 => ⟨fun y3 => Fl ?_, fun y => T (Or.inr (Or.inr (Or.inr ⟨yb, Or.inr y⟩)))⟩⟩⟩⟩⟩⟩
  · rintro (z | z | z | ⟨z, -⟩)
    · exact y0 z
    · exact y1 z
    · exact y4 z
    · rw [yb] at z; cases z
  · rintro (z | z | z | ⟨-, z | z⟩)
    · exact y0 z
    · exact y1 z
    · exact y4 z
    · exact y2 z
    · exact y3 z
/-- a text that isn't good: the loop ends -/
theorem r_fail : ∃ v : Int64 × Int32, ∀ (Q : Bool → (Int64 × Int32) → Prop), Q false v → wp_M_loose_L280 1 mf tx x2 x3 x4 x5 pt bh mn false x10 g gs Q := by
  cases mn with
  | false =>
    refine ⟨(g, -((x3 + x5) + x4)), fun Q hQ => ?_⟩
    have h : wp_M_loose_J2940 mf tx x3 x4 x5 false false g gs Q := by
      unfold wp_M_loose_J2940
      exact ⟨fun _ => hQ, fun z => (by cases z)⟩
    unfold wp_M_loose_L280
    exact ⟨fun _ => h, fun _ => ⟨fun _ => h, fun z => (by cases z)⟩⟩
  | true =>
    refine ⟨(g, -((x3 + x5) + (-x4))), fun Q hQ => ?_⟩
    have h : wp_M_loose_J2940 mf tx x3 x4 x5 true false g gs Q := by
      unfold wp_M_loose_J2940
      exact ⟨fun z => (by cases z), fun _ => hQ⟩
    unfold wp_M_loose_L280
    exact ⟨fun _ => h, fun _ => ⟨fun _ => h, fun z => (by cases z)⟩⟩
end LO
section LP
variable {mf tx : Nat → Int32} {s : Nat → Nat} {x2 gs : Int32} {w p z e i : Nat} {pt bh mn : Bool}
theorem r_nd (hm : Num6 mf s) (hi : i < 400) (hx : ¬ x2 ≤ nI i) (hnd : ¬ isD s (tx i)) {gd pt' bh' mn' : Bool} (hg : gd = true ↔ tx i = nI (s 0) ∨ tx i = nI (s 1) ∨ tx i = nI (s 4) ∨ (bh = true ∧ (tx i = nI (s 2) ∨ tx i = 43))) (h0 : pt' = true ↔ pt = true ∨ tx i = nI (s 0)) (h4 : bh' = true ↔ bh = true ∨ tx i = nI (s 4)) (h2 : mn' = true ↔ mn = true ∨ tx i = nI (s 2)) (n : Nat) (Q : Bool → (Int64 × Int32) → Prop) (h : wp_M_loose_L280 n mf tx x2 (iI (-(p : Int))) (nI e) (nI z) pt' bh' mn' gd (nI (i + 1)) (lN w) gs Q) : wp_M_loose_L280 (n + 1) mf tx x2 (iI (-(p : Int))) (nI e) (nI z) pt bh mn true (nI i) (lN w) gs Q := by
  unfold wp_M_loose_L280
  rw [nI_clamp (by omega), cn5, (hm 5 (by omega)).1]
  rw [← nI_1] at h
  have hj : wp_M_loose_J710 mf tx x2 (iI (-(p : Int))) (nI e) (nI z) pt bh mn (nI i) (tx i) (lN w) gs (fun x2 x3 x4 x5 x6 x7 x8 x9 x10 m_g m_gs => wp_M_loose_L280 n mf tx x2 x3 x4 x5 x6 x7 x8 x9 x10 m_g m_gs Q) Q := r_J710 hm hg h0 h4 h2 h
  exact ⟨fun y => absurd y hx, fun _ => ⟨fun y => (by cases y), fun _ => ⟨vp_in_nI (by omega) (by omega), in56, fun _ => hj, fun y => ⟨fun y2 => absurd ⟨y, y2⟩ hnd, fun _ => hj⟩⟩⟩⟩
theorem r_exp (hm : Num6 mf s) (hi : i < 400) (hx : ¬ x2 ≤ nI i) {d : Nat} (hd : d ≤ 9) (hc : tx i - nI (s 5) = nI d) (he : e ≤ 20000) (hb : bh = true) (n : Nat) (Q : Bool → (Int64 × Int32) → Prop) (h : wp_M_loose_L280 n mf tx x2 (iI (-(p : Int))) (nI (if e ≤ 1000 then e * 10 + d else e)) (nI z) pt bh mn true (nI (i + 1)) (lN w) gs Q) : wp_M_loose_L280 (n + 1) mf tx x2 (iI (-(p : Int))) (nI e) (nI z) pt bh mn true (nI i) (lN w) gs Q := by
  have e1 : nI e * 10 + nI d = nI (e * 10 + d) := by
    have : nI e * 10 = nI (e * 10) := pk_mul e 10
    rw [this, nI_add]
  have e2 : (nI e ≤ (1000 : Int32)) = (e ≤ 1000) := propext (nI_leI (b := 1000) (by omega) (by omega))
  have e3 : ¬ nI d < 0 := nI_pos (by omega)
  have e4 : nI d ≤ (9 : Int32) := nI_le (b := 9) hd (by omega)
  unfold wp_M_loose_L280
  rw [nI_clamp (by omega), cn5, (hm 5 (by omega)).1, hc, nI_1 i, e1, e2]
  refine ⟨fun y => absurd y hx, fun _ => ⟨fun y => (by cases y), fun _ => ⟨vp_in_nI (by omega) (by omega), in56, fun y => absurd y e3, fun _ => ⟨fun _ => ⟨fun y => (by rw [hb] at y; cases y), fun _ => ⟨fun y => ?_, fun y => ?_⟩⟩, fun y => absurd e4 y⟩⟩⟩⟩
  · rw [if_pos y] at h; exact h
  · rw [if_neg y] at h; exact h
theorem r_pow (p : Nat) (pt : Bool) : iI (-(p : Int)) - bI pt = iI (-((p + (if pt = true then 1 else 0) : Nat) : Int)) := by
  cases pt with
  | false =>
    have : bI false = iI 0 := by decide
    rw [this, iI_sub]; congr 1; simp
  | true =>
    have : bI true = iI 1 := by decide
    rw [this, iI_sub]; congr 1; simp; omega
/-- a digit ahead of the exponent -/
theorem r_dig (hm : Num6 mf s) (hi : i < 400) (hx : ¬ x2 ≤ nI i) {d : Nat} (hd : d ≤ 9) (hc : tx i - nI (s 5) = nI d) (hw : w ≤ MX) (hz : z ≤ 400) (hb : bh = false) :
    (d = 0 → ∀ (n : Nat) (Q : Bool → (Int64 × Int32) → Prop), wp_M_loose_L280 n mf tx x2 (iI (-((p + (if pt = true then 1 else 0) : Nat) : Int))) (nI e) (nI (z + 1)) pt bh mn true (nI (i + 1)) (lN w) gs Q → wp_M_loose_L280 (n + 1) mf tx x2 (iI (-(p : Int))) (nI e) (nI z) pt bh mn true (nI i) (lN w) gs Q) ∧
    (d ≠ 0 → w * 10 ^ (z + 1) + d ≤ MX → ∀ (n : Nat) (Q : Bool → (Int64 × Int32) → Prop), wp_M_loose_L280 n mf tx x2 (iI (-((p + (if pt = true then 1 else 0) : Nat) : Int))) (nI e) (nI 0) pt bh mn true (nI (i + 1)) (lN (w * 10 ^ (z + 1) + d)) gs Q → wp_M_loose_L280 (n + 1) mf tx x2 (iI (-(p : Int))) (nI e) (nI z) pt bh mn true (nI i) (lN w) gs Q) ∧
    (d ≠ 0 → ¬ w * 10 ^ (z + 1) + d ≤ MX → ∃ v : Int64 × Int32, ∀ Q : Bool → (Int64 × Int32) → Prop, Q false v → wp_M_loose_L280 2 mf tx x2 (iI (-(p : Int))) (nI e) (nI z) pt bh mn true (nI i) (lN w) gs Q) := by
  have e3 : ¬ nI d < 0 := nI_pos (by omega)
  have e4 : nI d ≤ (9 : Int32) := nI_le (b := 9) hd (by omega)
  have ed : (nI d = 0) = (d = 0) := dz hd
  -- down to the digit itself
  have go : ∀ (n : Nat) (Q : Bool → (Int64 × Int32) → Prop), wp_M_loose_J2480 mf tx x2 (nI e) (nI z) pt bh mn (nI i) (nI d) pt (iI (-(p : Int))) (lN w) gs (fun x2 x3 x4 x5 x6 x7 x8 x9 x10 m_g m_gs => wp_M_loose_L280 n mf tx x2 x3 x4 x5 x6 x7 x8 x9 x10 m_g m_gs Q) Q → wp_M_loose_L280 (n + 1) mf tx x2 (iI (-(p : Int))) (nI e) (nI z) pt bh mn true (nI i) (lN w) gs Q := by
    intro n Q h
    unfold wp_M_loose_L280
    rw [nI_clamp (by omega), cn5, (hm 5 (by omega)).1, hc]
    refine ⟨fun y => absurd y hx, fun _ => ⟨fun y => (by cases y), fun _ => ⟨vp_in_nI (by omega) (by omega), in56, fun y => absurd y e3, fun _ => ⟨fun _ => ⟨fun _ => ⟨fun y => ?_, fun y => ?_⟩, fun y => (by rw [hb] at y; cases y)⟩, fun y => absurd e4 y⟩⟩⟩⟩
    · subst y; exact h
    · subst y; exact h
  refine ⟨fun h0 n Q h => go n Q ?_, fun h0 hn n Q h => go n Q ?_, fun h0 hn => ?_⟩
  · unfold wp_M_loose_J2480 wp_M_loose_J2660
    rw [r_pow, ed, nI_1 z, nI_1 i]
    exact ⟨fun _ => ⟨fun y => absurd h0 y, fun _ => h⟩, fun y => absurd h0 y⟩
  · obtain ⟨b, v, hbb, hv, hwp⟩ := s_push hw hz (d := d) (by omega) hd
    have hbt := hbb.mpr hn
    have hv' := hv hbt
    unfold wp_M_loose_J2480 wp_M_loose_J2660
    rw [r_pow, ed, nI_1 z, nI_1 i]
    refine ⟨fun y => absurd y h0, fun _ => hwp _ ?_⟩
    rw [hbt, hv']
    exact ⟨fun y => (by cases y), fun _ => ⟨fun _ => h, fun y => absurd y h0⟩⟩
  · obtain ⟨b, v, hbb, hv, hwp⟩ := s_push hw hz (d := d) (by omega) hd
    have hbf := (b_of hbb).2 hn
    obtain ⟨u, hu⟩ := r_fail (mf := mf) (tx := tx) (x2 := x2) (x3 := iI (-((p + (if pt = true then 1 else 0) : Nat) : Int))) (x4 := nI e) (x5 := 0) (x10 := nI (i + 1)) (gs := gs) (g := v) (pt := pt) (bh := bh) (mn := mn)
    refine ⟨u, fun Q hQ => go 1 Q ?_⟩
    unfold wp_M_loose_J2480
    rw [r_pow, ed, nI_1 z, nI_1 i]
    refine ⟨fun y => absurd y h0, fun _ => hwp _ ?_⟩
    rw [hbf]
    exact ⟨fun _ => ⟨fun _ => hu Q hQ, fun y => absurd y h0⟩, fun y => (by cases y)⟩
/-- one character: a state again, or the end -/
theorem r_step (hm : Num6 mf s) (hi : i < 400) (hx : ¬ x2 ≤ nI i) (hw : w ≤ MX) (hz : z ≤ 400) (he : e ≤ 20000) :
    (∃ (w' p' z' e' : Nat) (pt' bh' mn' : Bool), w' ≤ MX ∧ p' ≤ p + 1 ∧ z' ≤ z + 1 ∧ e' ≤ 20000 ∧ ∀ (n : Nat) (Q : Bool → (Int64 × Int32) → Prop), wp_M_loose_L280 n mf tx x2 (iI (-(p' : Int))) (nI e') (nI z') pt' bh' mn' true (nI (i + 1)) (lN w') gs Q → wp_M_loose_L280 (n + 1) mf tx x2 (iI (-(p : Int))) (nI e) (nI z) pt bh mn true (nI i) (lN w) gs Q) ∨
    (∃ v : Int64 × Int32, ∀ Q : Bool → (Int64 × Int32) → Prop, Q false v → wp_M_loose_L280 2 mf tx x2 (iI (-(p : Int))) (nI e) (nI z) pt bh mn true (nI i) (lN w) gs Q) := by
  by_cases hD : isD s (tx i)
  · obtain ⟨d, hd, hc⟩ := nI_of2 (M := 9) (n := 9) (by decide) hD.1 hD.2
    cases hb : bh with
    | true =>
      left
      refine ⟨w, p, z, _, pt, true, mn, hw, by omega, by omega, ?_, r_exp hm hi hx hd hc he rfl⟩
      split <;> omega
    | false =>
      have hr := r_dig (w := w) (p := p) (z := z) (e := e) (gs := gs) (pt := pt) (mn := mn) (bh := false) hm hi hx hd hc hw hz rfl
      by_cases h0 : d = 0
      · left
        refine ⟨w, _, z + 1, e, pt, false, mn, hw, ?_, by omega, he, hr.1 h0⟩
        split <;> omega
      · by_cases hn : w * 10 ^ (z + 1) + d ≤ MX
        · left
          refine ⟨_, _, 0, e, pt, false, mn, hn, ?_, by omega, he, hr.2.1 h0 hn⟩
          split <;> omega
        · right
          exact hr.2.2 h0 hn
  · obtain ⟨gd, hg⟩ := bex (tx i = nI (s 0) ∨ tx i = nI (s 1) ∨ tx i = nI (s 4) ∨ (bh = true ∧ (tx i = nI (s 2) ∨ tx i = 43)))
    obtain ⟨pt', h0⟩ := bex (pt = true ∨ tx i = nI (s 0))
    obtain ⟨bh', h4⟩ := bex (bh = true ∨ tx i = nI (s 4))
    obtain ⟨mn', h2⟩ := bex (mn = true ∨ tx i = nI (s 2))
    have hr := r_nd (w := w) (p := p) (z := z) (e := e) (gs := gs) hm hi hx hD hg h0 h4 h2
    cases gd with
    | true => exact Or.inl ⟨w, p, z, e, pt', bh', mn', hw, by omega, by omega, he, hr⟩
    | false =>
      right
      obtain ⟨u, hu⟩ := r_fail (mf := mf) (tx := tx) (x2 := x2) (x3 := iI (-(p : Int))) (x4 := nI e) (x5 := nI z) (x10 := nI (i + 1)) (gs := gs) (g := lN w) (pt := pt') (bh := bh') (mn := mn')
      exact ⟨u, fun Q hQ => hr 1 Q (hu Q hQ)⟩
end LP
