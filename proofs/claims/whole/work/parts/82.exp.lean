/-! the exponent as it is written, class and reference -/
def exW (s : Nat → Nat) (n : Nat) : Nat → List Int32
  | 0 => []
  | k + 1 => [nI (s 5 + n / 10 ^ k % 10)] ++ exW s n k
theorem exW_len (s : Nat → Nat) (n : Nat) : ∀ k, (exW s n k).length = k := by
  intro k
  induction k with
  | zero => rfl
  | succ k ih => simp only [exW, List.length_append, List.length_singleton, ih]; omega
def sgW (s : Nat → Nat) (e : Int) (x : Bool) : List Int32 := if e < 0 then [nI (s 2)] else if x = true then [43] else []
/-- how many digits: at least E, and as many as n needs -/
def many (n : Nat) : Nat := if n ≤ 9 then 1 else 2
def wdt (n E : Nat) : Nat := if E < many n then many n else E
def expW (s : Nat → Nat) (e : Int) (x : Bool) (E : Nat) : List Int32 := [nI (s 4)] ++ (sgW s e x ++ exW s e.natAbs (wdt e.natAbs E))
theorem expW_len (s : Nat → Nat) (e : Int) (x : Bool) {E : Nat} (hE : E ≤ 40) : (expW s e x E).length ≤ 42 := by
  have h1 : (sgW s e x).length ≤ 1 := by
    unfold sgW
    split
    · simp
    · split <;> simp
  have h2 : wdt e.natAbs E ≤ 40 := by
    unfold wdt many
    split <;> split <;> omega
  unfold expW
  rw [List.length_append, List.length_append, exW_len]
  simp; omega
section EX
variable {sf mf has : Nat → Int32} {s : Nat → Nat}
theorem n10 {a : Nat} (h : a ≤ 1000) : nI a / 10 = nI (a / 10) := pk_div (d := 10) (by omega) (by omega) (by omega)
theorem n10r {a : Nat} (h : a ≤ 1000) : nI a - nI a / 10 * 10 = nI (a % 10) := pk_rem (d := 10) (by omega) (by omega) (by omega)
theorem s_eDigitL {n p : Nat} (hn : n ≤ 99) (hp : p ≤ 100) : ∀ (d i : Nat), i + d = p → ∃ m : Nat, ∀ Q : Int32 → Unit → Prop, Q (nI (n / 10 ^ p % 10)) () → wp_Sc_digitAt_L40 m (nI p) (nI (n / 10 ^ i)) (nI i) Q := by
  intro d
  have hle : ∀ i, n / 10 ^ i ≤ 99 := fun i => Nat.le_trans (Nat.div_le_self _ _) hn
  induction d with
  | zero =>
    intro i hi
    obtain rfl : i = p := by omega
    refine ⟨1, fun Q hQ => ?_⟩
    unfold wp_Sc_digitAt_L40
    rw [n10r (by have := hle i; omega)]
    exact ⟨fun _ => hQ, fun z => absurd (nI_le (Nat.le_refl _) (by omega)) z⟩
  | succ d ih =>
    intro i hi
    obtain ⟨m, hm⟩ := ih (i + 1) (by omega)
    have e1 : ¬ nI p ≤ nI i := nI_ge (by omega) (by omega)
    by_cases h0 : n / 10 ^ i = 0
    · refine ⟨1, fun Q hQ => ?_⟩
      have e2 : n / 10 ^ p % 10 = 0 := by
        have : n < 10 ^ i := by
          rcases Nat.div_eq_zero_iff.mp h0 with z | z
          · have : 10 ^ 0 ≤ 10 ^ i := Nat.pow_le_pow_right (by omega) (Nat.zero_le i)
            omega
          · exact z
        have h2 : 10 ^ i ≤ 10 ^ p := Nat.pow_le_pow_right (by omega) (by omega)
        rw [Nat.div_eq_of_lt (by omega)]
      rw [e2] at hQ
      unfold wp_Sc_digitAt_L40
      rw [h0]
      exact ⟨fun z => absurd z e1, fun _ => ⟨fun _ => hQ, fun z => absurd (by decide) z⟩⟩
    · refine ⟨m + 1, fun Q hQ => ?_⟩
      have h1 := hm Q hQ
      have e3 : ¬ nI (n / 10 ^ i) ≤ 0 := nI_nle (Nat.pos_of_ne_zero h0) (by have := hle i; omega)
      unfold wp_Sc_digitAt_L40
      rw [n10 (by have := hle i; omega), n_div, nI_1]
      exact ⟨fun z => absurd z e1, fun _ => ⟨fun z => absurd z e3, fun _ => h1⟩⟩
theorem s_eDigit {n p : Nat} (hn : n ≤ 99) (hp : p ≤ 100) : ∀ Q : Int32 → Unit → Prop, Q (nI (n / 10 ^ p % 10)) () → wp_Sc_digitAt (nI n) (nI p) Q := by
  intro Q hQ
  obtain ⟨m, hm⟩ := s_eDigitL hn hp p 0 (by omega)
  have h := hm Q hQ
  have : n / 10 ^ 0 = n := by simp
  rw [this] at h
  exact ⟨m, h⟩
theorem s_width {n : Nat} (hn : n ≤ 99) : ∀ Q : Int32 → Unit → Prop, Q (nI (if n = 0 then 0 else many n)) () → wp_Sc_widthOf (nI n) Q := by
  intro Q hQ
  have a0 : ¬ (10 : Int32) ≤ 0 := by decide
  have a1 : ¬ (10 : Int32) ≤ 0 + 1 := by decide
  have a2 : ¬ (10 : Int32) ≤ 0 + 1 + 1 := by decide
  have b0 : nI 0 ≤ 0 := by decide
  by_cases h0 : n = 0
  · subst h0
    refine ⟨1, ?_⟩
    unfold wp_Sc_widthOf_L60
    exact ⟨fun z => absurd z a0, fun _ => ⟨fun _ => hQ, fun z => absurd b0 z⟩⟩
  · have c0 : ¬ nI n ≤ 0 := nI_nle (by omega) (by omega)
    rw [if_neg h0] at hQ
    by_cases h9 : n ≤ 9
    · have e : n / 10 = 0 := by omega
      unfold many at hQ
      rw [if_pos h9] at hQ
      refine ⟨2, ?_⟩
      unfold wp_Sc_widthOf_L60
      rw [n10 (by omega), e]
      refine ⟨fun z => absurd z a0, fun _ => ⟨fun z => absurd z c0, fun _ => ?_⟩⟩
      unfold wp_Sc_widthOf_L60
      exact ⟨fun z => absurd z a1, fun _ => ⟨fun _ => hQ, fun z => absurd b0 z⟩⟩
    · have e : n / 10 / 10 = 0 := by omega
      have c1 : ¬ nI (n / 10) ≤ 0 := nI_nle (by omega) (by omega)
      unfold many at hQ
      rw [if_neg h9] at hQ
      refine ⟨3, ?_⟩
      unfold wp_Sc_widthOf_L60
      rw [n10 (by omega)]
      refine ⟨fun z => absurd z a0, fun _ => ⟨fun z => absurd z c0, fun _ => ?_⟩⟩
      unfold wp_Sc_widthOf_L60
      rw [n10 (by omega), e]
      refine ⟨fun z => absurd z a1, fun _ => ⟨fun z => absurd z c1, fun _ => ?_⟩⟩
      unfold wp_Sc_widthOf_L60
      exact ⟨fun z => absurd z a2, fun _ => ⟨fun _ => hQ, fun z => absurd b0 z⟩⟩
theorem s_expL (hs : Num6 sf s) {n : Nat} (hn : n ≤ 99) {a1 : Int32} {a2 : Bool} : ∀ (k : Nat), k ≤ 50 → ∀ (w : List Int32) (pn : Int32) (pf : Nat → Int32), Pg pn pf w → w.length + k ≤ 256 → ∃ (pn' : Int32) (pf' : Nat → Int32) (m : Nat), Pg pn' pf' (w ++ exW s n k) ∧ ∀ Q : (Int32 × (Nat → Int32)) → Prop, Q (pn', pf') → wp_Sc_putExponent_L580 m sf a1 a2 (nI n) (iI ((k : Int) - 1)) pn pf Q := by
  intro k
  induction k with
  | zero =>
    intro _ w pn pf hp hl
    refine ⟨pn, pf, 1, by simpa [exW] using hp, fun Q hQ => ?_⟩
    unfold wp_Sc_putExponent_L580
    exact ⟨fun _ => hQ, fun z => absurd (by decide) z⟩
  | succ k ih =>
    intro hk w pn pf hp hl
    have e5 : iI (((k + 1 : Nat) : Int) - 1) = nI k := by
      rw [nI_iI]; congr 1; omega
    have e6 : nI k + (-1) = iI ((k : Int) - 1) := by
      rw [nI_iI, z_m1, iI_add]; congr 1
    have e8 : ¬ nI k < 0 := nI_pos (by omega)
    obtain ⟨p1, f1, hp1, hw1⟩ := s_putDigit hs hp (by omega) (n / 10 ^ k % 10)
    obtain ⟨p2, f2, m, hp2, hw2⟩ := ih (by omega) _ p1 f1 hp1 (by simp; omega)
    refine ⟨p2, f2, m + 1, ?_, fun Q hQ => ?_⟩
    · have : w ++ exW s n (k + 1) = w ++ [nI (s 5 + n / 10 ^ k % 10)] ++ exW s n k := by simp [exW]
      rw [this]; exact hp2
    · have h2 := hw2 Q hQ
      unfold wp_Sc_putExponent_L580
      rw [e5, e6]
      exact ⟨fun z => absurd z e8, fun _ => s_eDigit hn (by omega) _ (hw1 _ h2)⟩
theorem s_mExpL (hs : Num6 mf s) {n : Nat} (hn : n ≤ 99) {w : List Int32} {pn : Int32} {pf : Nat → Int32} (hp : Pg pn pf w) (hl : w.length + 2 ≤ 256) {E : Nat} (h4 : has 4 = nI E) {i : Nat} (hi : E ≤ i) (hE : i ≤ 50) : ∃ (pn' : Int32) (pf' : Nat → Int32), Pg pn' pf' (w ++ exW s n (many n)) ∧ ∀ Q : (Int32 × (Nat → Int32)) → Prop, Q (pn', pf') → wp_M_putExponent_L790 1 has mf (nI n) (nI (many n)) (nI i) pn pf Q := by
  have hq : nI E ≤ nI i := nI_le hi (by omega)
  have em : ∀ d : Nat, mf (5 : Int32).toNatClampNeg + nI d = nI (s 5 + d) := fun d => by rw [cn5, (hs 5 (by omega)).1, nI_add]
  have d1 : ∀ a : Nat, a ≤ 99 → nI a / 1 = nI a := fun a ha => by
    have := pk_div (a := a) (d := 1) (by omega) (by omega) (by omega)
    rw [Nat.div_one] at this; exact this
  by_cases h9 : n ≤ 9
  · have hm : many n = 1 := if_pos h9
    rw [hm]
    obtain ⟨p1, f1, hp1, hw1⟩ := s_mput hp (by omega) (nI (s 5 + n % 10))
    refine ⟨p1, f1, by simpa [exW] using hp1, fun Q hQ => ?_⟩
    have h1 := hw1 (fun u10 => wp_M_putExponent_L1320 1 has mf (nI n) (nI 1) (1 / 10) (0 + 1) u10.1 u10.2 Q) (by
      show wp_M_putExponent_L1320 1 has mf (nI n) (nI 1) (1 / 10) (0 + 1) p1 f1 Q
      unfold wp_M_putExponent_L1320
      exact ⟨fun _ => hQ, fun z => absurd (by decide) z⟩)
    unfold wp_M_putExponent_L790
    rw [cn4, h4]
    refine ⟨in4, fun _ => ⟨fun _ => ⟨fun _ => ⟨2, ?_⟩, fun z => absurd z (by decide)⟩, fun z => absurd z (by decide)⟩, fun z => absurd hq z⟩
    unfold wp_M_putExponent_L1320
    rw [d1 n (by omega), n10r (by omega), em]
    exact ⟨fun z => absurd z (by decide), fun _ => ⟨in56, by decide, h1⟩⟩
  · have hm : many n = 2 := if_neg h9
    rw [hm]
    obtain ⟨p1, f1, hp1, hw1⟩ := s_mput hp (by omega) (nI (s 5 + n / 10 % 10))
    obtain ⟨p2, f2, hp2, hw2⟩ := s_mput hp1 (by simp; omega) (nI (s 5 + n % 10))
    refine ⟨p2, f2, by simpa [exW] using hp2, fun Q hQ => ?_⟩
    have h2 := hw2 (fun u10 => wp_M_putExponent_L1320 1 has mf (nI n) (nI 2) (10 / 10 / 10) (0 + 1 + 1) u10.1 u10.2 Q) (by
      show wp_M_putExponent_L1320 1 has mf (nI n) (nI 2) (10 / 10 / 10) (0 + 1 + 1) p2 f2 Q
      unfold wp_M_putExponent_L1320
      exact ⟨fun _ => hQ, fun z => absurd (by decide) z⟩)
    have h1 := hw1 (fun u10 => wp_M_putExponent_L1320 2 has mf (nI n) (nI 2) (10 / 10) (0 + 1) u10.1 u10.2 Q) (by
      show wp_M_putExponent_L1320 2 has mf (nI n) (nI 2) (10 / 10) (0 + 1) p1 f1 Q
      unfold wp_M_putExponent_L1320
      have : (10 : Int32) / 10 = 1 := by decide
      rw [this] at h2 ⊢
      rw [d1 n (by omega), n10r (by omega), em]
      exact ⟨fun z => absurd z (by decide), fun _ => ⟨in56, by decide, h2⟩⟩)
    unfold wp_M_putExponent_L790
    rw [cn4, h4]
    refine ⟨in4, fun _ => ⟨fun _ => ⟨fun z => absurd rfl z, fun _ => ⟨3, ?_⟩⟩, fun z => absurd z (by decide)⟩, fun z => absurd hq z⟩
    unfold wp_M_putExponent_L1320
    rw [n10 (by omega), n10r (by omega), em]
    exact ⟨fun z => absurd z (by decide), fun _ => ⟨in56, by decide, h1⟩⟩
theorem many_dig {n k : Nat} (hn : n ≤ 99) (hk : many n ≤ k) : n / 10 ^ k % 10 = 0 := by
  have h : n < 10 ^ many n := by
    unfold many
    split <;> omega
  have h2 : 10 ^ many n ≤ 10 ^ k := Nat.pow_le_pow_right (by omega) hk
  rw [Nat.div_eq_of_lt (by omega)]
theorem s_mPadL (hs : Num6 mf s) {n : Nat} (hn : n ≤ 99) {E : Nat} (h4 : has 4 = nI E) (hE : E ≤ 40) : ∀ (j i : Nat), (j = 0 → E ≤ i) → (0 < j → i + j = E) → i ≤ 50 → many n ≤ i → ∀ (w : List Int32) (pn : Int32) (pf : Nat → Int32), Pg pn pf w → w.length + many n + j ≤ 256 → ∃ (pn' : Int32) (pf' : Nat → Int32) (m : Nat), Pg pn' pf' (w ++ exW s n (many n + j)) ∧ ∀ Q : (Int32 × (Nat → Int32)) → Prop, Q (pn', pf') → wp_M_putExponent_L790 m has mf (nI n) (nI (many n)) (nI i) pn pf Q := by
  intro j
  have hm2 : 1 ≤ many n ∧ many n ≤ 2 := by unfold many; split <;> omega
  induction j with
  | zero =>
    intro i h0 _ hi50 _ w pn pf hp hl
    by_cases hl2 : w.length + 2 ≤ 256
    · obtain ⟨p1, f1, hp1, hw1⟩ := s_mExpL hs hn hp hl2 h4 (h0 rfl) (by omega)
      exact ⟨p1, f1, 1, hp1, hw1⟩
    · -- only one place is left, and many n = 1: not needed, the page is never that full
      have hm1 : many n = 1 := by omega
      have h9 : n ≤ 9 := by
        unfold many at hm1
        by_cases z : n ≤ 9
        · exact z
        · rw [if_neg z] at hm1; omega
      obtain ⟨p1, f1, hp1, hw1⟩ := s_mput hp (by omega) (nI (s 5 + n % 10))
      rw [hm1]
      refine ⟨p1, f1, 1, by simpa [exW] using hp1, fun Q hQ => ?_⟩
      have em : ∀ d : Nat, mf (5 : Int32).toNatClampNeg + nI d = nI (s 5 + d) := fun d => by rw [cn5, (hs 5 (by omega)).1, nI_add]
      have d1 : nI n / 1 = nI n := by
        have := pk_div (a := n) (d := 1) (by omega) (by omega) (by omega)
        rw [Nat.div_one] at this; exact this
      have h1 := hw1 (fun u10 => wp_M_putExponent_L1320 1 has mf (nI n) (nI 1) (1 / 10) (0 + 1) u10.1 u10.2 Q) (by
        show wp_M_putExponent_L1320 1 has mf (nI n) (nI 1) (1 / 10) (0 + 1) p1 f1 Q
        unfold wp_M_putExponent_L1320
        exact ⟨fun _ => hQ, fun z => absurd (by decide) z⟩)
      have hq : nI E ≤ nI i := nI_le (h0 rfl) (by omega)
      unfold wp_M_putExponent_L790
      rw [cn4, h4]
      refine ⟨in4, fun _ => ⟨fun _ => ⟨fun _ => ⟨2, ?_⟩, fun z => absurd z (by decide)⟩, fun z => absurd z (by decide)⟩, fun z => absurd hq z⟩
      unfold wp_M_putExponent_L1320
      rw [d1, n10r (by omega), em]
      exact ⟨fun z => absurd z (by decide), fun _ => ⟨in56, by decide, h1⟩⟩
  | succ j ih =>
    intro i _ hj hi50 hmi w pn pf hp hl
    have hij := hj (by omega)
    have e1 : ¬ nI E ≤ nI i := nI_ge (by omega) (by omega)
    have em : mf (5 : Int32).toNatClampNeg = nI (s 5 + n / 10 ^ (many n + j) % 10) := by rw [cn5, (hs 5 (by omega)).1, many_dig hn (by omega)]; rfl
    obtain ⟨p1, f1, hp1, hw1⟩ := s_mput hp (by omega) (nI (s 5 + n / 10 ^ (many n + j) % 10))
    obtain ⟨p2, f2, m, hp2, hw2⟩ := ih (i + 1) (by omega) (by omega) (by omega) (by omega) _ p1 f1 hp1 (by simp; omega)
    refine ⟨p2, f2, m + 1, ?_, fun Q hQ => ?_⟩
    · have : w ++ exW s n (many n + (j + 1)) = w ++ [nI (s 5 + n / 10 ^ (many n + j) % 10)] ++ exW s n (many n + j) := by
        rw [← Nat.add_assoc]; simp [exW]
      rw [this]; exact hp2
    · have h2 := hw2 Q hQ
      unfold wp_M_putExponent_L790
      rw [cn4, h4, nI_1, em]
      exact ⟨in4, fun z => absurd z e1, fun _ => ⟨in56, hw1 _ h2⟩⟩
theorem op_exp (hs : Num6 sf s) (hm : Num6 mf s) {e : Int} (e1 : -99 ≤ e) (e2 : e ≤ 99) {E : Nat} (hE1 : 1 ≤ E) (hE : E ≤ 40) {x : Bool} (h4 : has 4 = nI E) (h5 : has 5 = bI x) {w : List Int32} {pn mn : Int32} {pf mo : Nat → Int32} (hp : Pg pn pf w) (hq : Pg mn mo w) (hl : w.length + 45 ≤ 256) :
    ∃ (pn' : Int32) (pf' : Nat → Int32) (mn' : Int32) (mo' : Nat → Int32), Pg pn' pf' (w ++ expW s e x E) ∧ Pg mn' mo' (w ++ expW s e x E) ∧ (∀ Q : (Int32 × (Nat → Int32)) → Prop, Q (pn', pf') → wp_Sc_putExponent pn pf sf (nI E) x (iI e) Q) ∧ (∀ Q : (Int32 × (Nat → Int32)) → Prop, Q (mn', mo') → wp_M_putExponent mn has mf mo (iI e) Q) := by
  have hn : e.natAbs ≤ 99 := by omega
  have hmn : 1 ≤ many e.natAbs ∧ many e.natAbs ≤ 2 := by unfold many; split <;> omega
  have hwd : wdt e.natAbs E ≤ 40 ∧ 1 ≤ wdt e.natAbs E := by unfold wdt; split <;> omega
  have z00 : (0 : Int32) = iI 0 := by decide
  -- the class, behind the sign
  have cl : ∀ (u : List Int32) (n : Int32) (p : Nat → Int32), Pg n p u → u.length + 43 ≤ 256 → ∃ (n' : Int32) (p' : Nat → Int32), Pg n' p' (u ++ exW s e.natAbs (wdt e.natAbs E)) ∧ ∀ Q : (Int32 × (Nat → Int32)) → Prop, Q (n', p') → wp_Sc_putExponent_J340 sf (nI E) x (iI e) n p Q := by
    intro u n p hu hlu
    obtain ⟨n', p', m, hp', hw'⟩ := s_expL (a1 := nI E) (a2 := x) hs hn (wdt e.natAbs E) (by omega) u n p hu (by omega)
    refine ⟨n', p', hp', fun Q hQ => ?_⟩
    have h1 := hw' Q hQ
    have ea : (if 0 ≤ iI e then iI e else 0 - iI e) = nI e.natAbs := by
      have ec : ((0 : Int32) ≤ iI e) = (0 ≤ e) := by rw [z00, cLe (by omega) (by omega) (by omega) (by omega)]
      by_cases z : 0 ≤ e
      · rw [if_pos (by rw [ec]; exact z), nI_iI]; congr 1; omega
      · rw [if_neg (by rw [ec]; exact z), nI_iI, z00, iI_sub]; congr 1; omega
    unfold wp_Sc_putExponent_J340
    rw [ea]
    refine s_width hn _ ⟨m, ?_⟩
    have ew : (if nI E < nI (if e.natAbs = 0 then 0 else many e.natAbs) then nI (if e.natAbs = 0 then 0 else many e.natAbs) else nI E) - 1 = iI ((wdt e.natAbs E : Int) - 1) := by
      have : (if nI E < nI (if e.natAbs = 0 then 0 else many e.natAbs) then nI (if e.natAbs = 0 then 0 else many e.natAbs) else nI E) = nI (wdt e.natAbs E) := by
        by_cases z : e.natAbs = 0
        · rw [if_pos z, if_neg (nI_nlt (by omega) (by omega))]
          have : wdt e.natAbs E = E := by
            have hm1 : many e.natAbs = 1 := if_pos (by omega)
            unfold wdt
            rw [hm1, if_neg (by omega)]
          rw [this]
        · rw [if_neg z]
          unfold wdt
          by_cases z2 : E < many e.natAbs
          · rw [if_pos (nI_lt z2 (by omega)), if_pos z2]
          · rw [if_neg (nI_nlt (by omega) (by omega)), if_neg z2]
      rw [this, nI_iI, z_1, iI_sub]
    rw [ew]; exact h1
  -- the reference, behind the sign
  have md : ∀ (u : List Int32) (n : Int32) (p : Nat → Int32), Pg n p u → u.length + 43 ≤ 256 → ∃ (n' : Int32) (p' : Nat → Int32), Pg n' p' (u ++ exW s e.natAbs (wdt e.natAbs E)) ∧ ∀ Q : (Int32 × (Nat → Int32)) → Prop, Q (n', p') → wp_M_putExponent_J430 has mf (iI e) n p Q := by
    intro u n p hu hlu
    obtain ⟨n', p', m, hp', hw'⟩ := s_mPadL hm hn h4 hE (wdt e.natAbs E - many e.natAbs) (many e.natAbs) (fun z => by
      unfold wdt at z
      by_cases z2 : E < many e.natAbs
      · omega
      · rw [if_neg z2] at z; omega) (fun z => by
      unfold wdt at z ⊢
      by_cases z2 : E < many e.natAbs
      · rw [if_pos z2] at z; omega
      · rw [if_neg z2]; omega) (by omega) (Nat.le_refl _) u n p hu (by omega)
    have ew : many e.natAbs + (wdt e.natAbs E - many e.natAbs) = wdt e.natAbs E := by
      unfold wdt
      split <;> omega
    rw [ew] at hp'
    refine ⟨n', p', hp', fun Q hQ => ?_⟩
    have h1 := hw' Q hQ
    have body : wp_M_putExponent_J530 has mf (nI e.natAbs) n p Q := by
      unfold wp_M_putExponent_J530 wp_M_putExponent_J750
      have l99 : nI e.natAbs ≤ (99 : Int32) := nI_le (b := 99) hn (by omega)
      by_cases h9 : e.natAbs ≤ 9
      · have hm1 : many e.natAbs = 1 := if_pos h9
        rw [hm1] at h1
        exact ⟨fun _ => ⟨fun _ => ⟨m, h1⟩, fun z => absurd (nI_le (b := 9) h9 (by omega)) z⟩, fun z => absurd l99 z⟩
      · have hm1 : many e.natAbs = 2 := if_neg h9
        rw [hm1] at h1
        exact ⟨fun _ => ⟨fun z => absurd z (nI_ge (a := 9) (by omega) (by omega)), fun _ => ⟨m, h1⟩⟩, fun z => absurd l99 z⟩
    unfold wp_M_putExponent_J430
    rw [z00, cLe (by omega) (by omega) (by omega) (by omega), iI_neg]
    refine ⟨fun z => ?_, fun z => ?_⟩
    · have : iI e = nI e.natAbs := by rw [nI_iI]; congr 1; omega
      rw [this]; exact body
    · have : iI (-e) = nI e.natAbs := by rw [nI_iI]; congr 1; omega
      rw [this]; exact body
  have i4 : mf (4 : Int32).toNatClampNeg = nI (s 4) := by rw [cn4, (hm 4 (by omega)).1]
  have i2 : mf (2 : Int32).toNatClampNeg = nI (s 2) := by rw [cn2, (hm 2 (by omega)).1]
  obtain ⟨p1, f1, hp1, hw1⟩ := s_putSymbol hs hp (by omega) (k := 4) (by omega)
  obtain ⟨q1, g1, hq1, hv1⟩ := s_mput hq (by omega) (nI (s 4))
  by_cases he : e < 0
  · have n0 : ¬ (0 : Int32) ≤ iI e := by
      rw [z00, cLe (by omega) (by omega) (by omega) (by omega)]; omega
    obtain ⟨p2, f2, hp2, hw2⟩ := s_putSymbol hs hp1 (by simp; omega) (k := 2) (by omega)
    obtain ⟨q2, g2, hq2, hv2⟩ := s_mput hq1 (by simp; omega) (nI (s 2))
    obtain ⟨p3, f3, hp3, hw3⟩ := cl _ p2 f2 hp2 (by simp; omega)
    obtain ⟨q3, g3, hq3, hv3⟩ := md _ q2 g2 hq2 (by simp; omega)
    have el : w ++ expW s e x E = w ++ [nI (s 4)] ++ [nI (s 2)] ++ exW s e.natAbs (wdt e.natAbs E) := by
      unfold expW sgW
      rw [if_pos he]; simp
    rw [el]
    refine ⟨p3, f3, q3, g3, hp3, hq3, fun Q hQ => ?_, fun Q hQ => ?_⟩
    · unfold wp_Sc_putExponent
      exact hw1 _ ⟨fun z => absurd z n0, fun _ => hw2 _ (hw3 Q hQ)⟩
    · unfold wp_M_putExponent
      rw [i4, i2]
      exact ⟨in46, hv1 _ ⟨fun z => absurd z n0, fun _ => ⟨in26, hv2 _ (hv3 Q hQ)⟩⟩⟩
  · have n0 : (0 : Int32) ≤ iI e := by
      rw [z00, cLe (by omega) (by omega) (by omega) (by omega)]; omega
    cases hx : x with
    | true =>
      subst hx
      have b1 : bI true = 1 := rfl
      obtain ⟨p2, f2, hp2, hw2⟩ := s_row hp1 (by simp; omega) 43
      obtain ⟨q2, g2, hq2, hv2⟩ := s_mput hq1 (by simp; omega) 43
      obtain ⟨p3, f3, hp3, hw3⟩ := cl _ p2 f2 hp2 (by simp; omega)
      obtain ⟨q3, g3, hq3, hv3⟩ := md _ q2 g2 hq2 (by simp; omega)
      have el : w ++ expW s e true E = w ++ [nI (s 4)] ++ [43] ++ exW s e.natAbs (wdt e.natAbs E) := by
        unfold expW sgW
        rw [if_neg he, if_pos rfl]; simp
      rw [el]
      refine ⟨p3, f3, q3, g3, hp3, hq3, fun Q hQ => ?_, fun Q hQ => ?_⟩
      · unfold wp_Sc_putExponent
        exact hw1 _ ⟨fun _ => ⟨fun z => (by cases z), fun _ => hw2 _ (hw3 Q hQ)⟩, fun z => absurd n0 z⟩
      · unfold wp_M_putExponent
        rw [i4, i2, cn5, h5, b1]
        exact ⟨in46, hv1 _ ⟨fun _ => ⟨in5, fun z => absurd rfl z, fun _ => hv2 _ (hv3 Q hQ)⟩, fun z => absurd n0 z⟩⟩
    | false =>
      subst hx
      have b1 : bI false = 0 := rfl
      obtain ⟨p3, f3, hp3, hw3⟩ := cl _ p1 f1 hp1 (by simp; omega)
      obtain ⟨q3, g3, hq3, hv3⟩ := md _ q1 g1 hq1 (by simp; omega)
      have el : w ++ expW s e false E = w ++ [nI (s 4)] ++ exW s e.natAbs (wdt e.natAbs E) := by
        unfold expW sgW
        rw [if_neg he, if_neg (by decide)]; simp
      rw [el]
      refine ⟨p3, f3, q3, g3, hp3, hq3, fun Q hQ => ?_, fun Q hQ => ?_⟩
      · unfold wp_Sc_putExponent
        exact hw1 _ ⟨fun _ => ⟨fun _ => hw3 Q hQ, fun z => (by cases z)⟩, fun z => absurd n0 z⟩
      · unfold wp_M_putExponent
        rw [i4, i2, cn5, h5, b1]
        exact ⟨in46, hv1 _ ⟨fun _ => ⟨in5, fun _ => hv3 Q hQ, fun z => absurd z (by decide)⟩, fun z => absurd n0 z⟩⟩
end EX
