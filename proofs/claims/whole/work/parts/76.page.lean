/-! the page (class) and out (reference) hold the same list of codes -/
def Pg (n : Int32) (f : Nat → Int32) (w : List Int32) : Prop := n = nI w.length ∧ ∀ (i : Nat) (h : i < w.length), f i = w[i]
theorem Pg.nil (f : Nat → Int32) : Pg 0 f [] := ⟨rfl, fun i h => absurd h (Nat.not_lt_zero i)⟩
theorem Pg.snoc {n : Int32} {f : Nat → Int32} {w : List Int32} (h : Pg n f w) (c : Int32) : Pg (nI (w.length + 1)) (upd f w.length c) (w ++ [c]) := by
  refine ⟨by simp, fun i hi => ?_⟩
  by_cases hw : i < w.length
  · rw [upd_other _ _ (by omega), List.getElem_append_left hw]; exact h.2 i hw
  · have e : i = w.length := by simp at hi; omega
    subst e
    rw [upd_same]; simp
/-- one code more, on either side -/
theorem s_row {n : Int32} {f : Nat → Int32} {w : List Int32} (h : Pg n f w) (hl : w.length < 256) (c : Int32) : ∃ (n' : Int32) (f' : Nat → Int32), Pg n' f' (w ++ [c]) ∧ ∀ Q : Bool → (Int32 × (Nat → Int32)) → Prop, Q true (n', f') → wp_Row_add 256 n f c Q :=
  ⟨_, _, h.snoc c, fun Q hQ => by rw [h.1]; exact s_add hl (by omega) f c Q hQ⟩
theorem s_mput {n : Int32} {f : Nat → Int32} {w : List Int32} (h : Pg n f w) (hl : w.length < 256) (c : Int32) : ∃ (n' : Int32) (f' : Nat → Int32), Pg n' f' (w ++ [c]) ∧ ∀ Q : (Int32 × (Nat → Int32)) → Prop, Q (n', f') → wp_M_put n f c Q := by
  refine ⟨_, _, h.snoc c, fun Q hQ => ?_⟩
  unfold wp_M_put
  rw [h.1, nI_clamp (by omega), nI_1]
  exact ⟨vp_in_nI (by omega) (by omega), hQ⟩
theorem s_symCode {f : Nat → Int32} {s : Nat → Nat} (hs : Num6 f s) {k : Nat} (hk : k < 6) : ∀ Q : Int32 → Unit → Prop, Q (nI (s k)) () → wp_Sym_code f (nI k) Q := by
  intro Q hQ
  unfold wp_Sym_code
  have e0 : ¬ nI k < 0 := nI_pos (by omega)
  have e1 : ¬ (6 : Int32) ≤ nI k := nI_ge (b := 6) hk (by omega)
  rw [nI_clamp (by omega), (hs k hk).1]
  exact ⟨fun z => absurd z e0, fun _ => ⟨fun z => absurd z e1, fun _ => ⟨vp_in_nI hk (by omega), hQ⟩⟩⟩
theorem s_putSymbol {sf : Nat → Int32} {s : Nat → Nat} (hs : Num6 sf s) {n : Int32} {f : Nat → Int32} {w : List Int32} (h : Pg n f w) (hl : w.length < 256) {k : Nat} (hk : k < 6) : ∃ (n' : Int32) (f' : Nat → Int32), Pg n' f' (w ++ [nI (s k)]) ∧ ∀ Q : (Int32 × (Nat → Int32)) → Prop, Q (n', f') → wp_Sc_putSymbol n f sf (nI k) Q := by
  obtain ⟨n', f', hp, hw⟩ := s_row h hl (nI (s k))
  exact ⟨n', f', hp, fun Q hQ => s_symCode hs hk _ (hw _ hQ)⟩
theorem s_putDigit {sf : Nat → Int32} {s : Nat → Nat} (hs : Num6 sf s) {n : Int32} {f : Nat → Int32} {w : List Int32} (h : Pg n f w) (hl : w.length < 256) (d : Nat) : ∃ (n' : Int32) (f' : Nat → Int32), Pg n' f' (w ++ [nI (s 5 + d)]) ∧ ∀ Q : (Int32 × (Nat → Int32)) → Prop, Q (n', f') → wp_Sc_putDigit n f sf (nI d) Q := by
  obtain ⟨n', f', hp, hw⟩ := s_row h hl (nI (s 5 + d))
  exact ⟨n', f', hp, fun Q hQ => s_digitCode hs d _ (hw _ hQ)⟩
/-- a code of an affix as it is written -/
def sbc (s : Nat → Nat) (x : Int32) : Int32 := if x = 258 then nI (s 2) else if x = 259 then nI (s 3) else x
def affW (s : Nat → Nat) (pf : Nat → Int32) (k : Nat) : List Int32 := (List.range k).map (fun i => sbc s (pf i))
theorem affW_s (s : Nat → Nat) (pf : Nat → Int32) (k : Nat) : affW s pf (k + 1) = affW s pf k ++ [sbc s (pf k)] := by
  unfold affW
  rw [List.range_succ, List.map_append]; rfl
theorem affW_len (s : Nat → Nat) (pf : Nat → Int32) (k : Nat) : (affW s pf k).length = k := by unfold affW; simp
theorem s_putAffixL {sf : Nat → Int32} {s : Nat → Nat} (hs : Num6 sf s) {pf : Nat → Int32} {k : Nat} (hk : k ≤ 40) (hmc : ∀ i, i < k → ∃ y, mc (pf i) y) {w : List Int32} (hl : w.length + k ≤ 256) : ∀ (d i : Nat), i + d = k → ∀ (n : Int32) (f : Nat → Int32), Pg n f (w ++ affW s pf i) → ∃ (n' : Int32) (f' : Nat → Int32) (m : Nat), Pg n' f' (w ++ affW s pf k) ∧ ∀ Q : (Int32 × (Nat → Int32)) → Prop, Q (n', f') → wp_Sc_putAffix_L20 m sf (nI k) pf (nI i) n f Q := by
  intro d
  induction d with
  | zero =>
    intro i hi n f h
    obtain rfl : i = k := by omega
    refine ⟨n, f, 1, h, fun Q hQ => ?_⟩
    unfold wp_Sc_putAffix_L20
    exact ⟨fun _ => hQ, fun z => absurd (nI_le (Nat.le_refl _) (by omega)) z⟩
  | succ d ih =>
    intro i hi n f h
    have hlen : (w ++ affW s pf i).length < 256 := by rw [List.length_append, affW_len]; omega
    have e4 : ¬ nI k ≤ nI i := nI_ge (by omega) (by omega)
    obtain ⟨y, hy⟩ := hmc i (by omega)
    have z256 : (256 : Int32) = nI 256 := rfl
    have z258 : (258 : Int32) = nI 258 := rfl
    have z259 : (259 : Int32) = nI 259 := rfl
    have go : ∀ (n1 : Int32) (f1 : Nat → Int32), Pg n1 f1 ((w ++ affW s pf i) ++ [sbc s (pf i)]) → ∃ (n' : Int32) (f' : Nat → Int32) (m : Nat), Pg n' f' (w ++ affW s pf k) ∧ ∀ Q : (Int32 × (Nat → Int32)) → Prop, Q (n', f') → wp_Sc_putAffix_L20 m sf (nI k) pf (nI (i + 1)) n1 f1 Q := by
      intro n1 f1 h1
      rw [List.append_assoc, ← affW_s] at h1
      exact ih (i + 1) (by omega) n1 f1 h1
    rcases hy with ⟨hx, -⟩ | ⟨hx, -⟩ | ⟨-, h32, h126⟩
    · have es : sbc s (pf i) = nI (s 2) := by unfold sbc; rw [if_pos hx]
      obtain ⟨n1, f1, hp1, hw1⟩ := s_putSymbol hs h hlen (k := 2) (by omega)
      obtain ⟨n', f', m, hp, hw⟩ := go n1 f1 (by rw [es]; exact hp1)
      refine ⟨n', f', m + 1, hp, fun Q hQ => ?_⟩
      have hw' := hw Q hQ
      unfold wp_Sc_putAffix_L20
      rw [nI_1]
      refine ⟨fun z => absurd z e4, fun _ => s_code (by omega) hk pf _ ?_⟩
      rw [hx]
      exact ⟨fun z => absurd z (by decide), fun _ => hw1 _ hw'⟩
    · have es : sbc s (pf i) = nI (s 3) := by unfold sbc; rw [if_neg (by rw [hx]; decide), if_pos hx]
      obtain ⟨n1, f1, hp1, hw1⟩ := s_putSymbol hs h hlen (k := 3) (by omega)
      obtain ⟨n', f', m, hp, hw⟩ := go n1 f1 (by rw [es]; exact hp1)
      refine ⟨n', f', m + 1, hp, fun Q hQ => ?_⟩
      have hw' := hw Q hQ
      unfold wp_Sc_putAffix_L20
      rw [nI_1]
      refine ⟨fun z => absurd z e4, fun _ => s_code (by omega) hk pf _ ?_⟩
      rw [hx]
      exact ⟨fun z => absurd z (by decide), fun _ => hw1 _ hw'⟩
    · obtain ⟨c, hcx, c1, c2⟩ := code_of h32 h126
      have n258 : ¬ pf i = 258 := by rw [hcx, z258]; exact fun z => absurd ((nI_eq (by omega) (by omega)).mp z) (by omega)
      have n259 : ¬ pf i = 259 := by rw [hcx, z259]; exact fun z => absurd ((nI_eq (by omega) (by omega)).mp z) (by omega)
      have l256 : pf i < 256 := by rw [hcx, z256]; exact nI_lt (by omega) (by omega)
      have es : sbc s (pf i) = pf i := by unfold sbc; rw [if_neg n258, if_neg n259]
      obtain ⟨n1, f1, hp1, hw1⟩ := s_row h hlen (pf i)
      obtain ⟨n', f', m, hp, hw⟩ := go n1 f1 (by rw [es]; exact hp1)
      refine ⟨n', f', m + 1, hp, fun Q hQ => ?_⟩
      have hw' := hw Q hQ
      unfold wp_Sc_putAffix_L20
      rw [nI_1]
      exact ⟨fun z => absurd z e4, fun _ => s_code (by omega) hk pf _ ⟨fun _ => hw1 _ hw', fun z => absurd l256 z⟩⟩
theorem s_putAffix {sf : Nat → Int32} {s : Nat → Nat} (hs : Num6 sf s) {pf : Nat → Int32} {k : Nat} (hk : k ≤ 40) (hmc : ∀ i, i < k → ∃ y, mc (pf i) y) {w : List Int32} (hl : w.length + k ≤ 256) {n : Int32} {f : Nat → Int32} (h : Pg n f w) : ∃ (n' : Int32) (f' : Nat → Int32), Pg n' f' (w ++ affW s pf k) ∧ ∀ Q : (Int32 × (Nat → Int32)) → Prop, Q (n', f') → wp_Sc_putAffix n f sf (nI k) pf Q := by
  obtain ⟨n', f', m, hp, hw⟩ := s_putAffixL hs hk hmc hl k 0 (by omega) n f (by unfold affW; simpa using h)
  exact ⟨n', f', hp, fun Q hQ => ⟨m, hw Q hQ⟩⟩
