/-! the characters of a text that is read: gather and loose -/
def cod (tx : Nat → Int32) : Nat → Nat → List Int32
  | _, 0 => []
  | i, d + 1 => tx i :: cod tx (i + 1) d
def pw (p z e : Nat) (n : Bool) : Int := (z : Int) - p + (if n = true then -(e : Int) else e)
section GA
variable {sf mf tx tf : Nat → Int32} {s : Nat → Nat} {gs : Int32}
theorem r_end {w p z e i : Nat} {pt bh n : Bool} : ∀ Q : Bool → (Int64 × Int32) → Prop, Q true (lN w, iI (-(pw p z e n))) → wp_M_loose_L280 1 mf tx (nI i) (iI (-(p : Int))) (nI e) (nI z) pt bh n true (nI i) (lN w) gs Q := by
  intro Q hQ
  have hj : wp_M_loose_J2940 mf tx (iI (-(p : Int))) (nI e) (nI z) n true (lN w) gs Q := by
    unfold wp_M_loose_J2940
    refine ⟨fun y => ?_, fun y => ?_⟩
    · have e1 : -((iI (-(p : Int)) + nI z) + nI e) = iI (-(pw p z e n)) := by
        rw [nI_iI, nI_iI, iI_add, iI_add, iI_neg, y]
        congr 1
        unfold pw
        simp
        omega
      rw [e1]; exact hQ
    · have e1 : -((iI (-(p : Int)) + nI z) + -nI e) = iI (-(pw p z e n)) := by
        rw [nI_iI, nI_iI, iI_neg, iI_add, iI_add, iI_neg, y]
        congr 1
        unfold pw
        simp
        omega
      rw [e1]; exact hQ
  unfold wp_M_loose_L280
  exact ⟨fun _ => hj, fun y => absurd (Int32.le_refl _) y⟩
theorem pw_b {p z e : Nat} {n : Bool} (hp : p ≤ 256) (hz : z ≤ 256) (he : e ≤ 20000) : -30000 ≤ pw p z e n ∧ pw p z e n ≤ 30000 := by
  unfold pw
  split <;> omega
/-- the reference alone comes to an end -/
theorem r_total (hm : Num6 mf s) {to : Nat} (hto : to ≤ 256) : ∀ (d i : Nat), i + d = to → ∀ (w p z e : Nat) (pt bh n : Bool), w ≤ MX → p ≤ i → z ≤ i → e ≤ 20000 → ∃ (b : Bool) (g : Int64) (g2 : Int32) (m : Nat), (b = true → ∃ (w' : Nat) (k : Int), w' ≤ MX ∧ -30000 ≤ k ∧ k ≤ 30000 ∧ g = lN w' ∧ g2 = iI (-k)) ∧ ∀ Q : Bool → (Int64 × Int32) → Prop, Q b (g, g2) → wp_M_loose_L280 m mf tx (nI to) (iI (-(p : Int))) (nI e) (nI z) pt bh n true (nI i) (lN w) gs Q := by
  intro d
  induction d with
  | zero =>
    intro i hi w p z e pt bh n hw hp hz he
    obtain rfl : i = to := by omega
    have hb := pw_b (p := p) (z := z) (e := e) (n := n) (by omega) (by omega) he
    exact ⟨true, lN w, iI (-(pw p z e n)), 1, fun _ => ⟨w, pw p z e n, hw, hb.1, hb.2, rfl, rfl⟩, r_end⟩
  | succ d ih =>
    intro i hi w p z e pt bh n hw hp hz he
    have hx : ¬ nI to ≤ nI i := nI_ge (by omega) (by omega)
    rcases r_step (w := w) (p := p) (z := z) (e := e) (gs := gs) (tx := tx) (pt := pt) (bh := bh) (mn := n) hm (by omega) hx hw (by omega) he with ⟨w', p', z', e', pt', bh', n', a1, a2, a3, a4, hs1⟩ | ⟨v, hv⟩
    · obtain ⟨b, g, g2, m, hg, hwp⟩ := ih (i + 1) (by omega) w' p' z' e' pt' bh' n' a1 (by omega) (by omega) a4
      exact ⟨b, g, g2, m + 1, hg, fun Q hQ => hs1 m Q (hwp Q hQ)⟩
    · exact ⟨false, v.1, v.2, 2, fun y => (by cases y), fun Q hQ => hv Q hQ⟩
theorem j_loop (hs : Num6 sf s) (hm : Num6 mf s) (hS : SoundC s) {tn to : Nat} (hto : to ≤ tn) (htn : tn ≤ 256) (hft : ∀ j, j < tn → tf j = tx j) (ph : Bool) (a b c d0 : Int32) : ∀ (d i : Nat), i + d = to → ∀ (w p z e1 e2 t : Nat) (pt bh n : Bool), w ≤ MX → p ≤ i → z ≤ i → RdR t e1 e2 pt bh →
    (∃ (w' p' z' e1' e2' t' : Nat) (n' : Bool) (m1 m2 : Nat), w' ≤ MX ∧ p' ≤ 256 ∧ z' ≤ 256 ∧ (e1' = e2' ∨ (1000 ≤ e1' ∧ 1000 ≤ e2')) ∧ e1' ≤ 20000 ∧ e2' ≤ 20000 ∧
      (∀ Q : Bool → (Int64 × Int32 × Int32 × Int32 × Int32 × Bool) → Prop, Q true (lN w', nI p', nI t', nI z', nI e1', n') → wp_Fi_gather_L540 m1 sf ph a b c d0 (nI tn) tf (nI to) (nI i) (lN w) (nI p) (nI t) (nI z) (nI e1) n Q) ∧
      (∀ Q : Bool → (Int64 × Int32) → Prop, Q true (lN w', iI (-(pw p' z' e2' n'))) → wp_M_loose_L280 m2 mf tx (nI to) (iI (-(p : Int))) (nI e2) (nI z) pt bh n true (nI i) (lN w) gs Q)) ∨
    ((∃ (v : Int64 × Int32 × Int32 × Int32 × Int32 × Bool) (m1 : Nat), ∀ Q : Bool → (Int64 × Int32 × Int32 × Int32 × Int32 × Bool) → Prop, Q false v → wp_Fi_gather_L540 m1 sf ph a b c d0 (nI tn) tf (nI to) (nI i) (lN w) (nI p) (nI t) (nI z) (nI e1) n Q) ∧
      (∃ (v : Int64 × Int32) (m2 : Nat), ∀ Q : Bool → (Int64 × Int32) → Prop, Q false v → wp_M_loose_L280 m2 mf tx (nI to) (iI (-(p : Int))) (nI e2) (nI z) pt bh n true (nI i) (lN w) gs Q)) ∨
    (¬ gram s t (cod tx i d) ∧ (∃ (v : Int64 × Int32 × Int32 × Int32 × Int32 × Bool) (m1 : Nat), ∀ Q : Bool → (Int64 × Int32 × Int32 × Int32 × Int32 × Bool) → Prop, Q false v → wp_Fi_gather_L540 m1 sf ph a b c d0 (nI tn) tf (nI to) (nI i) (lN w) (nI p) (nI t) (nI z) (nI e1) n Q)) := by
  intro d
  induction d with
  | zero =>
    intro i hi w p z e1 e2 t pt bh n hw hp hz hR
    obtain rfl : i = to := by omega
    left
    refine ⟨w, p, z, e1, e2, t, n, 1, 1, hw, by omega, by omega, hR.2.2.2.1, hR.2.2.2.2.1, hR.2.2.2.2.2, fun Q hQ => ?_, r_end⟩
    unfold wp_Fi_gather_L540
    exact ⟨fun _ => hQ, fun y => absurd (nI_le (Nat.le_refl _) (by omega)) y⟩
  | succ d ih =>
    intro i hi w p z e1 e2 t pt bh n hw hp hz hR
    have hx : ¬ nI to ≤ nI i := nI_ge (by omega) (by omega)
    have hcl : ∀ (m : Nat) (Q : Bool → (Int64 × Int32 × Int32 × Int32 × Int32 × Bool) → Prop), wp_Fi_take (lN w) (nI p) (nI t) (nI z) (nI e1) n sf (tx i) (fun r11 u12 => (r11 = true → (wp_Fi_gather_L540 m sf ph a b c d0 (nI tn) tf (nI to) (nI (i + 1)) u12.1 u12.2.1 u12.2.2.1 u12.2.2.2.1 u12.2.2.2.2.1 u12.2.2.2.2.2 Q)) ∧ (r11 = false → (Q false (u12.1, u12.2.1, u12.2.2.1, u12.2.2.2.1, u12.2.2.2.2.1, u12.2.2.2.2.2)))) → wp_Fi_gather_L540 (m + 1) sf ph a b c d0 (nI tn) tf (nI to) (nI i) (lN w) (nI p) (nI t) (nI z) (nI e1) n Q := by
      intro m Q h
      unfold wp_Fi_gather_L540
      rw [nI_1 i]
      refine ⟨fun y => absurd y hx, fun _ => s_code256 (by omega) (by omega) tf _ ?_⟩
      rw [hft i (by omega)]
      exact h
    rcases j_step (w := w) (p := p) (z := z) (gs := gs) (tx := tx) (n := n) hs hm hS (by omega) hx hw (by omega) hR with ⟨w', p', z', e1', e2', pt', bh', n', hok, hR', a1, a2, a3, hc1, hr1⟩ | ⟨⟨v, hv⟩, v2, hv2⟩ | ⟨hno, v, hv⟩
    · rcases ih (i + 1) (by omega) w' p' z' e1' e2' _ pt' bh' n' a1 (by omega) (by omega) hR' with ⟨w2, p2, z2, e3, e4, t2, n2, m1, m2, b1, b2, b3, b4, b5, b6, hc2, hr2⟩ | ⟨⟨v, m1, hv⟩, v2, m2, hv2⟩ | ⟨hg, v, m1, hv⟩
      · left
        exact ⟨w2, p2, z2, e3, e4, t2, n2, m1 + 1, m2 + 1, b1, b2, b3, b4, b5, b6, fun Q hQ => hcl m1 Q (hc1 _ ⟨fun _ => hc2 Q hQ, fun y => (by cases y)⟩), fun Q hQ => hr1 m2 Q (hr2 Q hQ)⟩
      · right; left
        exact ⟨⟨v, m1 + 1, fun Q hQ => hcl m1 Q (hc1 _ ⟨fun _ => hv Q hQ, fun y => (by cases y)⟩)⟩, v2, m2 + 1, fun Q hQ => hr1 m2 Q (hv2 Q hQ)⟩
      · right; right
        refine ⟨fun g => hg ?_, v, m1 + 1, fun Q hQ => hcl m1 Q (hc1 _ ⟨fun _ => hv Q hQ, fun y => (by cases y)⟩)⟩
        unfold cod gram at g
        exact g.2
    · right; left
      exact ⟨⟨v, 1, fun Q hQ => hcl 0 Q (hv _ ⟨fun y => (by cases y), fun _ => hQ⟩)⟩, v2, 2, hv2⟩
    · right; right
      refine ⟨fun g => hno ?_, v, 1, fun Q hQ => hcl 0 Q (hv _ ⟨fun y => (by cases y), fun _ => hQ⟩)⟩
      unfold cod gram at g
      exact g.1
end GA
