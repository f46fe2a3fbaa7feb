/-! one character of a text that is read: class, then both -/
section TK
variable {sf : Nat → Int32} {s : Nat → Nat}
theorem s_digNo (hs : Num6 sf s) {c : Int32} (h : ¬ isD s c) : ∀ Q : Int32 → Unit → Prop, Q (-1) () → wp_Sym_digitOf sf c Q := by
  intro Q hQ
  unfold wp_Sym_digitOf
  rw [cn5, (hs 5 (by omega)).1]
  exact ⟨in56, fun _ => hQ, fun y => ⟨fun _ => hQ, fun y2 => absurd ⟨y, i32_nle y2⟩ h⟩⟩
theorem s_digYes (hs : Num6 sf s) {c : Int32} {d : Nat} (hd : d ≤ 9) (hc : c - nI (s 5) = nI d) : ∀ Q : Int32 → Unit → Prop, Q (nI d) () → wp_Sym_digitOf sf c Q := by
  intro Q hQ
  have h1 : ¬ nI d < 0 := nI_pos (by omega)
  have h2 : ¬ (9 : Int32) < nI d := nI_nlt (a := 9) (b := d) hd (by omega)
  unfold wp_Sym_digitOf
  rw [cn5, (hs 5 (by omega)).1, hc]
  exact ⟨in56, fun y => absurd y h1, fun _ => ⟨fun y => absurd y h2, fun _ => hQ⟩⟩
theorem bor_of {n n' : Bool} {P : Prop} (h : n' = true ↔ n = true ∨ P) : (¬ P → n' = n) ∧ (P → n' = true) := by
  refine ⟨fun y => ?_, fun y => h.mpr (Or.inr y)⟩
  cases hv : n with
  | true => exact h.mpr (Or.inl hv)
  | false => exact (b_of h).2 (by rw [hv]; rintro (z | z); cases z; exact y z)
theorem nxt_o {c : Int32} (h0 : c ≠ nI (s 0)) (h4 : c ≠ nI (s 4)) (t : Nat) : nxt s t c = t := by
  unfold nxt; rw [if_neg h0, if_neg h4]
theorem t_nd (hs : Num6 sf s) (hS : SoundC s) {c : Int32} (hD : ¬ isD s c) {w : Int64} {p z e : Int32} {n : Bool} {t : Nat} (ht : t ≤ 2) {n' : Bool} (hn : n' = true ↔ n = true ∨ c = nI (s 2)) :
    (okc s t c → ∀ Q : Bool → (Int64 × Int32 × Int32 × Int32 × Int32 × Bool) → Prop, Q true (w, p, nI (nxt s t c), z, e, n') → wp_Fi_take w p (nI t) z e n sf c Q) ∧
    (¬ okc s t c → ∃ v : Int64 × Int32 × Int32 × Int32 × Int32 × Bool, ∀ Q : Bool → (Int64 × Int32 × Int32 × Int32 × Int32 × Bool) → Prop, Q false v → wp_Fi_take w p (nI t) z e n sf c Q) := by
  have go : ∀ Q : Bool → (Int64 × Int32 × Int32 × Int32 × Int32 × Bool) → Prop, ((¬ c = nI (s 1) → ((¬ c = nI (s 0) → ((¬ c = nI (s 4) → ((¬ c = nI (s 2) → ((¬ c = 43 → Q false (w, p, nI t, z, e, n)) ∧ (c = 43 → ((¬ nI t = 2 → Q false (w, p, nI t, z, e, n)) ∧ (nI t = 2 → Q true (w, p, nI t, z, e, n)))))) ∧ (c = nI (s 2) → ((¬ nI t = 2 → Q false (w, p, nI t, z, e, true)) ∧ (nI t = 2 → Q true (w, p, nI t, z, e, true)))))) ∧ (c = nI (s 4) → wp_Fi_enter (nI t) 2 (fun r u => Q r (w, p, u, z, e, n))))) ∧ (c = nI (s 0) → wp_Fi_enter (nI t) 1 (fun r u => Q r (w, p, u, z, e, n))))) ∧ (c = nI (s 1) → ((¬ nI t = 0 → Q false (w, p, nI t, z, e, n)) ∧ (nI t = 0 → Q true (w, p, nI t, z, e, n))))) → wp_Fi_take w p (nI t) z e n sf c Q := by
    intro Q h
    unfold wp_Fi_take
    exact s_digNo hs hD _ ⟨fun _ => s_symCode hs (k := 1) (by omega) _ ⟨fun y1 => s_symCode hs (k := 0) (by omega) _ ⟨fun y0 => s_symCode hs (k := 4) (by omega) _ ⟨fun y4 => s_symCode hs (k := 2) (by omega) _ ((((h.1 y1).1 y0).1 y4)), fun y4 => ((h.1 y1).1 y0).2 y4⟩, fun y0 => (h.1 y1).2 y0⟩, h.2⟩, fun y => absurd (by decide) y⟩
  have e2 : (nI t = 2) = (t = 2) := propext (nI_eq (b := 2) (by omega) (by omega))
  have e0 : (nI t = 0) = (t = 0) := propext (nI_eq (b := 0) (by omega) (by omega))
  rw [e2, e0] at go
  unfold wp_Fi_enter at go
  have l1 : (nI t < (1 : Int32)) = (t < 1) := propext (nI_ltI (b := 1) (by omega) (by omega))
  have l2 : (nI t < (2 : Int32)) = (t < 2) := propext (nI_ltI (b := 2) (by omega) (by omega))
  rw [l1, l2] at go
  refine ⟨fun ho Q hQ => go Q ?_, fun ho => ?_⟩
  · rcases ho with h | ⟨h, ht'⟩ | ⟨h, ht'⟩ | ⟨h, ht'⟩ | ⟨h, ht'⟩ | ⟨h, ht'⟩
    · exact absurd h hD
    · subst h
      rw [nxt_o (sym_ne hS (by omega) (by omega) (by omega)) (sym_ne hS (by omega) (by omega) (by omega)), (bor_of hn).1 (sym_ne hS (by omega) (by omega) (by omega))] at hQ
      exact ⟨fun y => absurd rfl y, fun _ => ⟨fun y => absurd ht' y, fun _ => hQ⟩⟩
    · subst h
      have ex : nxt s t (nI (s 0)) = 1 := by unfold nxt; rw [if_pos rfl]
      rw [ex, (bor_of hn).1 (sym_ne hS (by omega) (by omega) (by omega))] at hQ
      exact ⟨fun _ => ⟨fun y => absurd rfl y, fun _ => ⟨fun _ => hQ, fun y => absurd (by omega) y⟩⟩, fun y => absurd y (sym_ne hS (by omega) (by omega) (by omega))⟩
    · subst h
      have ex : nxt s t (nI (s 4)) = 2 := by unfold nxt; rw [if_neg (sym_ne hS (by omega) (by omega) (by omega)), if_pos rfl]
      rw [ex, (bor_of hn).1 (sym_ne hS (by omega) (by omega) (by omega))] at hQ
      exact ⟨fun _ => ⟨fun _ => ⟨fun y => absurd rfl y, fun _ => ⟨fun _ => hQ, fun y => absurd (by omega) y⟩⟩, fun y => absurd y (sym_ne hS (by omega) (by omega) (by omega))⟩, fun y => absurd y (sym_ne hS (by omega) (by omega) (by omega))⟩
    · subst h
      rw [nxt_o (sym_ne hS (by omega) (by omega) (by omega)) (sym_ne hS (by omega) (by omega) (by omega)), (bor_of hn).2 rfl] at hQ
      exact ⟨fun _ => ⟨fun _ => ⟨fun _ => ⟨fun y => absurd rfl y, fun _ => ⟨fun y => absurd ht' y, fun _ => hQ⟩⟩, fun y => absurd y (sym_ne hS (by omega) (by omega) (by omega))⟩, fun y => absurd y (sym_ne hS (by omega) (by omega) (by omega))⟩, fun y => absurd y (sym_ne hS (by omega) (by omega) (by omega))⟩
    · subst h
      rw [nxt_o (sym_ne43 hS (by omega)) (sym_ne43 hS (by omega)), (bor_of hn).1 (sym_ne43 hS (by omega))] at hQ
      exact ⟨fun _ => ⟨fun _ => ⟨fun _ => ⟨fun _ => ⟨fun y => absurd rfl y, fun _ => ⟨fun y => absurd ht' y, fun _ => hQ⟩⟩, fun y => absurd y (sym_ne43 hS (by omega))⟩, fun y => absurd y (sym_ne43 hS (by omega))⟩, fun y => absurd y (sym_ne43 hS (by omega))⟩, fun y => absurd y (sym_ne43 hS (by omega))⟩
  · unfold okc at ho
    by_cases h2 : c = nI (s 2)
    · refine ⟨(w, p, nI t, z, e, true), fun Q hQ => go Q ?_⟩
      exact ⟨fun _ => ⟨fun _ => ⟨fun _ => ⟨fun y => absurd h2 y, fun _ => ⟨fun _ => hQ, fun y => absurd (Or.inr (Or.inr (Or.inr (Or.inr (Or.inl ⟨h2, y⟩))))) ho⟩⟩, fun y => absurd (h2.symm.trans y) (sym_ne hS (by omega) (by omega) (by omega))⟩, fun y => absurd (h2.symm.trans y) (sym_ne hS (by omega) (by omega) (by omega))⟩, fun y => absurd (h2.symm.trans y) (sym_ne hS (by omega) (by omega) (by omega))⟩
    · refine ⟨(w, p, nI t, z, e, n), fun Q hQ => go Q ?_⟩
      exact ⟨fun _ => ⟨fun _ => ⟨fun _ => ⟨fun _ => ⟨fun _ => hQ, fun y => ⟨fun _ => hQ, fun y2 => absurd (Or.inr (Or.inr (Or.inr (Or.inr (Or.inr ⟨y, y2⟩))))) ho⟩⟩, fun y => absurd y h2⟩, fun y => ⟨fun y2 => absurd (Or.inr (Or.inr (Or.inr (Or.inl ⟨y, by omega⟩)))) ho, fun _ => hQ⟩⟩, fun y => ⟨fun y2 => absurd (Or.inr (Or.inr (Or.inl ⟨y, by omega⟩))) ho, fun _ => hQ⟩⟩, fun y => ⟨fun _ => hQ, fun y2 => absurd (Or.inr (Or.inl ⟨y, y2⟩)) ho⟩⟩
theorem t_dig (hs : Num6 sf s) {c : Int32} {d : Nat} (hd : d ≤ 9) (hc : c - nI (s 5) = nI d) {w p z e t : Nat} {n : Bool} (hw : w ≤ MX) (hz : z ≤ 400) (he : e ≤ 20000) (ht : t ≤ 2) :
    (t = 2 → ∀ Q : Bool → (Int64 × Int32 × Int32 × Int32 × Int32 × Bool) → Prop, Q true (lN w, nI p, nI t, nI z, nI (if 1000 ≤ e then e else e * 10 + d), n) → wp_Fi_take (lN w) (nI p) (nI t) (nI z) (nI e) n sf c Q) ∧
    (t ≠ 2 → d = 0 → ∀ Q : Bool → (Int64 × Int32 × Int32 × Int32 × Int32 × Bool) → Prop, Q true (lN w, nI (p + (if t = 1 then 1 else 0)), nI t, nI (z + 1), nI e, n) → wp_Fi_take (lN w) (nI p) (nI t) (nI z) (nI e) n sf c Q) ∧
    (t ≠ 2 → d ≠ 0 → w * 10 ^ (z + 1) + d ≤ MX → ∀ Q : Bool → (Int64 × Int32 × Int32 × Int32 × Int32 × Bool) → Prop, Q true (lN (w * 10 ^ (z + 1) + d), nI (p + (if t = 1 then 1 else 0)), nI t, nI 0, nI e, n) → wp_Fi_take (lN w) (nI p) (nI t) (nI z) (nI e) n sf c Q) ∧
    (t ≠ 2 → d ≠ 0 → ¬ w * 10 ^ (z + 1) + d ≤ MX → ∃ v : Int64 × Int32 × Int32 × Int32 × Int32 × Bool, ∀ Q : Bool → (Int64 × Int32 × Int32 × Int32 × Int32 × Bool) → Prop, Q false v → wp_Fi_take (lN w) (nI p) (nI t) (nI z) (nI e) n sf c Q) := by
  have d0 : ¬ nI d < 0 := nI_pos (by omega)
  have ed : (nI d = 0) = (d = 0) := dz hd
  have e2 : (nI t = 2) = (t = 2) := propext (nI_eq (b := 2) (by omega) (by omega))
  have e1 : (nI t = 1) = (t = 1) := propext (nI_eq (b := 1) (by omega) (by omega))
  have ep : nI p + 1 = nI (p + 1) := nI_1 p
  -- a digit ahead of the exponent
  have lo : t ≠ 2 → ∀ Q : Bool → (Int64 × Int32 × Int32 × Int32 × Int32 × Bool) → Prop, wp_Fi_takeDigit_J580 (nI t) (nI d) (lN w) (nI (p + (if t = 1 then 1 else 0))) (nI z) (nI e) (fun r u => Q r (u.1, u.2.1, nI t, u.2.2.1, u.2.2.2, n)) → wp_Fi_take (lN w) (nI p) (nI t) (nI z) (nI e) n sf c Q := by
    intro h2 Q h
    unfold wp_Fi_take
    refine s_digYes hs hd hc _ ⟨fun y => absurd y d0, fun _ => ?_⟩
    unfold wp_Fi_takeDigit
    rw [e2, e1, ep]
    refine ⟨fun _ => ⟨fun y => ?_, fun y => ?_⟩, fun y => absurd y h2⟩
    · rw [if_neg y] at h; exact h
    · rw [if_pos y] at h; exact h
  refine ⟨fun h2 Q hQ => ?_, fun h2 h0 Q hQ => lo h2 Q ?_, fun h2 h0 hn Q hQ => lo h2 Q ?_, fun h2 h0 hn => ?_⟩
  · unfold wp_Fi_take
    refine s_digYes hs hd hc _ ⟨fun y => absurd y d0, fun _ => ?_⟩
    have e3 : nI e * 10 + nI d = nI (e * 10 + d) := by
      have : nI e * 10 = nI (e * 10) := pk_mul e 10
      rw [this, nI_add]
    have e4 : ((1000 : Int32) ≤ nI e) = (1000 ≤ e) := propext (nI_leI (a := 1000) (by omega) (by omega))
    unfold wp_Fi_takeDigit
    rw [e2, e3, e4]
    refine ⟨fun y => absurd h2 y, fun _ => ⟨fun y => ?_, fun y => ?_⟩⟩
    · rw [if_pos y] at hQ; exact hQ
    · rw [if_neg y] at hQ; exact hQ
  · unfold wp_Fi_takeDigit_J580
    rw [ed, nI_1 z]
    exact ⟨fun y => absurd h0 y, fun _ => hQ⟩
  · obtain ⟨b, w', hb, hw', hwp⟩ := s_digC (p := nI (p + (if t = 1 then 1 else 0))) (e := nI e) (t := nI t) hw hz (d := d) (by omega) hd
    have hbt := hb.mpr hn
    have hv := hw' hbt
    refine hwp _ ?_
    rw [hbt, hv]
    exact hQ
  · obtain ⟨b, w', hb, hw', hwp⟩ := s_digC (p := nI (p + (if t = 1 then 1 else 0))) (e := nI e) (t := nI t) hw hz (d := d) (by omega) hd
    have hbf := (b_of hb).2 hn
    refine ⟨(lN w', nI (p + (if t = 1 then 1 else 0)), nI t, 0, nI e, n), fun Q hQ => lo h2 Q (hwp _ ?_)⟩
    rw [hbf]
    exact hQ
end TK
/-- the two states of a reading -/
def RdR (t e1 e2 : Nat) (pt bh : Bool) : Prop := t ≤ 2 ∧ (bh = true ↔ t = 2) ∧ (t ≠ 2 → (pt = true ↔ t = 1)) ∧ (e1 = e2 ∨ (1000 ≤ e1 ∧ 1000 ≤ e2)) ∧ e1 ≤ 20000 ∧ e2 ≤ 20000
section JS
variable {sf mf tx : Nat → Int32} {s : Nat → Nat} {x2 gs : Int32} {w p z e1 e2 i t : Nat} {pt bh n : Bool}
/-- one character, both sides -/
theorem j_step (hs : Num6 sf s) (hm : Num6 mf s) (hS : SoundC s) (hi : i < 400) (hx : ¬ x2 ≤ nI i) (hw : w ≤ MX) (hz : z ≤ 400) (hR : RdR t e1 e2 pt bh) :
    (∃ (w' p' z' e1' e2' : Nat) (pt' bh' n' : Bool), okc s t (tx i) ∧ RdR (nxt s t (tx i)) e1' e2' pt' bh' ∧ w' ≤ MX ∧ p' ≤ p + 1 ∧ z' ≤ z + 1 ∧
      (∀ Q : Bool → (Int64 × Int32 × Int32 × Int32 × Int32 × Bool) → Prop, Q true (lN w', nI p', nI (nxt s t (tx i)), nI z', nI e1', n') → wp_Fi_take (lN w) (nI p) (nI t) (nI z) (nI e1) n sf (tx i) Q) ∧
      (∀ (m : Nat) (Q : Bool → (Int64 × Int32) → Prop), wp_M_loose_L280 m mf tx x2 (iI (-(p' : Int))) (nI e2') (nI z') pt' bh' n' true (nI (i + 1)) (lN w') gs Q → wp_M_loose_L280 (m + 1) mf tx x2 (iI (-(p : Int))) (nI e2) (nI z) pt bh n true (nI i) (lN w) gs Q)) ∨
    ((∃ v : Int64 × Int32 × Int32 × Int32 × Int32 × Bool, ∀ Q : Bool → (Int64 × Int32 × Int32 × Int32 × Int32 × Bool) → Prop, Q false v → wp_Fi_take (lN w) (nI p) (nI t) (nI z) (nI e1) n sf (tx i) Q) ∧ (∃ v : Int64 × Int32, ∀ Q : Bool → (Int64 × Int32) → Prop, Q false v → wp_M_loose_L280 2 mf tx x2 (iI (-(p : Int))) (nI e2) (nI z) pt bh n true (nI i) (lN w) gs Q)) ∨
    (¬ okc s t (tx i) ∧ ∃ v : Int64 × Int32 × Int32 × Int32 × Int32 × Bool, ∀ Q : Bool → (Int64 × Int32 × Int32 × Int32 × Int32 × Bool) → Prop, Q false v → wp_Fi_take (lN w) (nI p) (nI t) (nI z) (nI e1) n sf (tx i) Q) := by
  obtain ⟨r1, r2, r3, r4, r5, r6⟩ := hR
  by_cases hD : isD s (tx i)
  · obtain ⟨d, hd, hc⟩ := nI_of2 (M := 9) (n := 9) (by decide) hD.1 hD.2
    have hok : okc s t (tx i) := Or.inl hD
    have hnx : nxt s t (tx i) = t := nxt_dig hS hD t
    have hT := t_dig (p := p) (e := e1) (n := n) hs hd hc hw hz r5 r1
    by_cases h2 : t = 2
    · left
      have hb := r2.mpr h2
      refine ⟨w, p, z, if 1000 ≤ e1 then e1 else e1 * 10 + d, if e2 ≤ 1000 then e2 * 10 + d else e2, pt, bh, n, hok, ?_, hw, by omega, by omega, ?_, r_exp hm hi hx hd hc r6 hb⟩
      · rw [hnx]
        refine ⟨r1, r2, r3, ?_, ?_, ?_⟩
        · split <;> split <;> omega
        · split <;> omega
        · split <;> omega
      · rw [hnx]; exact hT.1 h2
    · have hb : bh = false := (b_of r2).2 h2
      have hp : (if pt = true then 1 else 0 : Nat) = (if t = 1 then 1 else 0 : Nat) := by
        by_cases h1 : t = 1
        · rw [if_pos h1, if_pos ((r3 h2).mpr h1)]
        · rw [if_neg h1, if_neg (fun z => h1 ((r3 h2).mp z))]
      have hr := r_dig (w := w) (p := p) (z := z) (e := e2) (gs := gs) (pt := pt) (mn := n) (bh := bh) hm hi hx hd hc hw hz hb
      rw [hp] at hr
      have hpb : p + (if t = 1 then 1 else 0 : Nat) ≤ p + 1 := by split <;> omega
      by_cases h0 : d = 0
      · left
        refine ⟨w, _, z + 1, e1, e2, pt, bh, n, hok, ?_, hw, hpb, by omega, ?_, hr.1 h0⟩
        · rw [hnx]; exact ⟨r1, r2, r3, r4, r5, r6⟩
        · rw [hnx]; exact hT.2.1 h2 h0
      · by_cases hn : w * 10 ^ (z + 1) + d ≤ MX
        · left
          refine ⟨_, _, 0, e1, e2, pt, bh, n, hok, ?_, hn, hpb, by omega, ?_, hr.2.1 h0 hn⟩
          · rw [hnx]; exact ⟨r1, r2, r3, r4, r5, r6⟩
          · rw [hnx]; exact hT.2.2.1 h2 h0 hn
        · right; left
          exact ⟨hT.2.2.2 h2 h0 hn, hr.2.2 h0 hn⟩
  · obtain ⟨n', hn'⟩ := bex (n = true ∨ tx i = nI (s 2))
    have hT := t_nd (w := lN w) (p := nI p) (z := nI z) (e := nI e1) hs hS hD r1 hn'
    by_cases hok : okc s t (tx i)
    · left
      obtain ⟨pt', h0⟩ := bex (pt = true ∨ tx i = nI (s 0))
      obtain ⟨bh', h4⟩ := bex (bh = true ∨ tx i = nI (s 4))
      have hg : true = true ↔ tx i = nI (s 0) ∨ tx i = nI (s 1) ∨ tx i = nI (s 4) ∨ (bh = true ∧ (tx i = nI (s 2) ∨ tx i = 43)) := by
        refine ⟨fun _ => ?_, fun _ => rfl⟩
        rcases hok with h | ⟨h, -⟩ | ⟨h, -⟩ | ⟨h, -⟩ | ⟨h, h'⟩ | ⟨h, h'⟩
        · exact absurd h hD
        · exact Or.inr (Or.inl h)
        · exact Or.inl h
        · exact Or.inr (Or.inr (Or.inl h))
        · exact Or.inr (Or.inr (Or.inr ⟨r2.mpr h', Or.inl h⟩))
        · exact Or.inr (Or.inr (Or.inr ⟨r2.mpr h', Or.inr h⟩))
      refine ⟨w, p, z, e1, e2, pt', bh', n', hok, ?_, hw, by omega, by omega, hT.1 hok, r_nd hm hi hx hD hg h0 h4 hn'⟩
      by_cases c0 : tx i = nI (s 0)
      · have ex : nxt s t (tx i) = 1 := by unfold nxt; rw [if_pos c0]
        have ht0 : t = 0 := by
          rcases hok with h | ⟨h, -⟩ | ⟨-, h⟩ | ⟨h, -⟩ | ⟨h, -⟩ | ⟨h, -⟩
          · exact absurd h hD
          · exact absurd (h.symm.trans c0) (sym_ne hS (by omega) (by omega) (by omega))
          · exact h
          · exact absurd (h.symm.trans c0) (sym_ne hS (by omega) (by omega) (by omega))
          · exact absurd (h.symm.trans c0) (sym_ne hS (by omega) (by omega) (by omega))
          · exact absurd (h.symm.trans c0) (sym_ne43 hS (by omega))
        rw [ex]
        refine ⟨by omega, ⟨fun y => ?_, fun y => (by omega)⟩, fun _ => ⟨fun _ => rfl, fun _ => h0.mpr (Or.inr c0)⟩, r4, r5, r6⟩
        rcases h4.mp y with y | y
        · have := r2.mp y; omega
        · exact absurd (y.symm.trans c0) (sym_ne hS (by omega) (by omega) (by omega))
      · have hpt : pt' = pt := (bor_of h0).1 c0
        by_cases c4 : tx i = nI (s 4)
        · have ex : nxt s t (tx i) = 2 := by unfold nxt; rw [if_neg c0, if_pos c4]
          rw [ex]
          exact ⟨by omega, ⟨fun _ => rfl, fun _ => h4.mpr (Or.inr c4)⟩, fun y => absurd rfl y, r4, r5, r6⟩
        · have hbh : bh' = bh := (bor_of h4).1 c4
          rw [nxt_o c0 c4, hpt, hbh]
          exact ⟨r1, r2, r3, r4, r5, r6⟩
    · right; right
      exact ⟨hok, hT.2 hok⟩
end JS
