/-! settle: class and reference -/
def setB (w : Nat) (k : Int) : Prop := w = 0 ∨ (0 ≤ k ∧ w * 10 ^ k.toNat ≤ MX) ∨ (-18 ≤ k ∧ k < 0)
def setW (w : Nat) (k : Int) : Nat := if w = 0 then 0 else w * 10 ^ k.toNat
def setS (w : Nat) (k : Int) : Nat := if w = 0 then 0 else (-k).toNat
theorem set_ok {w : Nat} {k : Int} (hw : w ≤ MX) (h : setB w k) : setW w k ≤ MX ∧ setS w k ≤ 18 := by
  unfold setW setS
  rcases h with h | ⟨h1, h2⟩ | ⟨h1, h2⟩
  · rw [if_pos h, if_pos h]; exact ⟨Nat.zero_le _, by omega⟩
  · split
    · exact ⟨Nat.zero_le _, by omega⟩
    · exact ⟨h2, by omega⟩
  · split
    · exact ⟨Nat.zero_le _, by omega⟩
    · have : k.toNat = 0 := by omega
      rw [this, Nat.pow_zero, Nat.mul_one]
      exact ⟨hw, by omega⟩
theorem set_big {w K : Nat} (h1 : 1 ≤ w) (h2 : 19 ≤ K) : ¬ w * 10 ^ K ≤ MX := by
  have a := pow_mono w h2
  have b : 1 * 10 ^ 19 ≤ w * 10 ^ 19 := Nat.mul_le_mul_right _ h1
  have c : (1 * 10 ^ 19 : Nat) = 10000000000000000000 := by decide
  rw [c] at b
  unfold MX
  omega
theorem l_ne0 {w : Nat} (hw : w ≤ MX) : (lN w = 0) = (w = 0) := by
  rw [l_0]; exact propext (pk_lEQ (by unfold MX at hw; omega) (by omega))
theorem s_setCL {w K : Nat} (hK : K ≤ 40000) (zz ee : Int32) (nn : Bool) : ∀ (d i : Nat), i + d = K → w * 10 ^ i ≤ MX → ∃ (b : Bool) (m w' : Nat), (b = true ↔ w * 10 ^ K ≤ MX) ∧ (b = true → w' = w * 10 ^ K) ∧ ∀ Q : Bool → (Int64 × Int32) → Prop, Q b (lN w', 0) → wp_Fi_settle_L830 m zz ee nn (nI K) (nI i) (lN (w * 10 ^ i)) 0 Q := by
  intro d
  induction d with
  | zero =>
    intro i hi hw
    obtain rfl : i = K := by omega
    refine ⟨true, 1, w * 10 ^ i, ⟨fun _ => hw, fun _ => rfl⟩, fun _ => rfl, fun Q hQ => ?_⟩
    unfold wp_Fi_settle_L830
    exact ⟨fun _ => hQ, fun y => absurd (nI_le (Nat.le_refl _) (by omega)) y⟩
  | succ d ih =>
    intro i hi hw
    have e1 : ¬ nI K ≤ nI i := nI_ge (by omega) (by omega)
    by_cases hn : w * 10 ^ i * 10 + 0 ≤ MX
    · obtain ⟨b, m, w', hb, hw', hwp⟩ := ih (i + 1) (by omega) (by rw [← pow_mul10]; exact hn)
      refine ⟨b, m + 1, w', hb, hw', fun Q hQ => ?_⟩
      have h1 := hwp Q hQ
      rw [← pow_mul10] at h1
      unfold wp_Fi_settle_L830
      rw [nI_1]
      exact ⟨fun y => absurd y e1, fun _ => (s_append hw (d := 0) (by omega)).1 hn _ ⟨fun _ => h1, fun y => (by cases y)⟩⟩
    · refine ⟨false, 1, w * 10 ^ i, ⟨fun y => (by cases y), fun y => ?_⟩, fun y => (by cases y), fun Q hQ => ?_⟩
      · have := pow_mono w (show i + 1 ≤ K by omega)
        rw [pow_mul10] at hn
        omega
      · unfold wp_Fi_settle_L830
        exact ⟨fun y => absurd y e1, fun _ => (s_append hw (d := 0) (by omega)).2 hn _ ⟨fun y => (by cases y), fun _ => hQ⟩⟩
theorem s_J380 {w : Nat} (hw : w ≤ MX) {k : Int} (hk1 : -40000 ≤ k) (hk2 : k ≤ 40000) (zz ee : Int32) (nn : Bool) {y0 y1 : Int32} (hy : y1 - y0 = iI k) (fp : Int32) : ∃ (b : Bool) (v : Int64 × Int32), (b = true ↔ setB w k) ∧ (b = true → v = (lN (setW w k), nI (setS w k))) ∧ ∀ Q : Bool → (Int64 × Int32) → Prop, Q b v → wp_Fi_settle_J380 zz ee nn y0 y1 (lN w) fp Q := by
  have e18 : (18 : Int32) = iI 18 := by decide
  by_cases h0 : w = 0
  · subst h0
    refine ⟨true, (lN 0, 0), ⟨fun _ => Or.inl rfl, fun _ => rfl⟩, fun _ => rfl, fun Q hQ => ?_⟩
    unfold wp_Fi_settle_J380
    exact ⟨fun y => absurd l_0.symm y, fun _ => hQ⟩
  · have hn0 : ¬ lN w = 0 := by rw [l_ne0 hw]; exact h0
    by_cases hk : 0 ≤ k
    · have ek : iI k = nI k.toNat := by rw [nI_iI]; congr 1; omega
      have e10 : w * 10 ^ 0 = w := by simp
      obtain ⟨b, m, w', hb, hw', hwp⟩ := s_setCL (w := w) (K := k.toNat) (by omega) zz ee nn k.toNat 0 (by omega) (by rw [e10]; exact hw)
      rw [e10] at hwp
      refine ⟨b, (lN w', 0), ⟨fun y => Or.inr (Or.inl ⟨hk, hb.mp y⟩), fun y => hb.mpr ?_⟩, fun y => ?_, fun Q hQ => ?_⟩
      · rcases y with y | ⟨-, y⟩ | ⟨-, y⟩
        · exact absurd y h0
        · exact y
        · omega
      · have e1 : setW w k = w * 10 ^ k.toNat := by unfold setW; rw [if_neg h0]
        have e2 : setS w k = 0 := by unfold setS; rw [if_neg h0]; omega
        rw [e1, e2, hw' y]; rfl
      · unfold wp_Fi_settle_J380
        rw [hy]
        refine ⟨fun _ => ⟨fun _ => ⟨m, ?_⟩, fun y => absurd ?_ y⟩, fun y => absurd y hn0⟩
        · rw [ek]; exact hwp Q hQ
        · rw [z_0, cLe (by omega) (by omega) (by omega) (by omega)]; exact hk
    · have c0 : ¬ (0 : Int32) ≤ iI k := by rw [z_0, cLe (by omega) (by omega) (by omega) (by omega)]; exact hk
      have ek : -iI k = nI (-k).toNat := by rw [iI_neg, nI_iI]; congr 1; omega
      have e1 : setW w k = w := by
        unfold setW; rw [if_neg h0]
        have : k.toNat = 0 := by omega
        rw [this]; simp
      have e2 : setS w k = (-k).toNat := by unfold setS; rw [if_neg h0]
      have c18 : ((18 : Int32) < -iI k) = (18 < -k) := by rw [iI_neg, e18, cLt (by omega) (by omega) (by omega) (by omega)]
      by_cases h18 : 18 < -k
      · refine ⟨false, (lN w, -iI k), ⟨fun y => (by cases y), fun y => ?_⟩, fun y => (by cases y), fun Q hQ => ?_⟩
        · rcases y with y | ⟨y, -⟩ | ⟨y, -⟩
          · exact absurd y h0
          · omega
          · omega
        · unfold wp_Fi_settle_J380
          rw [hy, c18]
          exact ⟨fun _ => ⟨fun y => absurd y c0, fun _ => ⟨fun _ => hQ, fun y => absurd h18 y⟩⟩, fun y => absurd y hn0⟩
      · refine ⟨true, (lN w, -iI k), ⟨fun _ => Or.inr (Or.inr ⟨by omega, by omega⟩), fun _ => rfl⟩, fun _ => ?_, fun Q hQ => ?_⟩
        · rw [e1, e2, ek]
        · unfold wp_Fi_settle_J380
          rw [hy, c18]
          exact ⟨fun _ => ⟨fun y => absurd y c0, fun _ => ⟨fun y => absurd y h18, fun _ => hQ⟩⟩, fun y => absurd y hn0⟩
theorem s_setC {w p z e : Nat} (hw : w ≤ MX) (hp : p ≤ 256) (hz : z ≤ 256) (he : e ≤ 20000) (n pm : Bool) : ∃ (b : Bool) (v : Int64 × Int32), (b = true ↔ setB w (pw p z e n - (if pm = true then 2 else 0))) ∧ (b = true → v = (lN (setW w (pw p z e n - (if pm = true then 2 else 0))), nI (setS w (pw p z e n - (if pm = true then 2 else 0))))) ∧ ∀ Q : Bool → (Int64 × Int32) → Prop, Q b v → wp_Fi_settle (lN w) (nI p) (nI z) (nI e) n pm Q := by
  have hb := pw_b (n := n) hp hz he
  have e2 : (2 : Int32) = iI 2 := by decide
  have key : ∀ x : Int32, x = (if n = true then -nI e else nI e) → ((nI z - nI p) + x) = iI (pw p z e n) := by
    intro x hx
    subst hx
    unfold pw
    cases n with
    | true => rw [if_pos rfl, if_pos rfl, nI_iI, nI_iI, nI_iI, iI_neg, iI_sub, iI_add]
    | false => rw [if_neg (by decide), if_neg (by decide), nI_iI, nI_iI, nI_iI, iI_sub, iI_add]
  have fin : ∀ x : Int32, x = (if n = true then -nI e else nI e) → ∃ (b : Bool) (v : Int64 × Int32), (b = true ↔ setB w (pw p z e n - (if pm = true then 2 else 0))) ∧ (b = true → v = (lN (setW w (pw p z e n - (if pm = true then 2 else 0))), nI (setS w (pw p z e n - (if pm = true then 2 else 0))))) ∧ ∀ Q : Bool → (Int64 × Int32) → Prop, Q b v → wp_Fi_settle_J280 (nI z) (nI e) n pm x (nI z - nI p) (lN w) (nI p) Q := by
    intro x hx
    cases pm with
    | false =>
      rw [if_neg (by decide)]
      obtain ⟨b, v, h1, h2, h3⟩ := s_J380 hw (k := pw p z e n - 0) (by omega) (by omega) (nI z) (nI e) n (y0 := 0) (y1 := (nI z - nI p) + x) (by rw [key x hx, z_0, iI_sub]) (nI p)
      refine ⟨b, v, h1, h2, fun Q hQ => ?_⟩
      unfold wp_Fi_settle_J280
      exact ⟨fun _ => h3 Q hQ, fun y => (by cases y)⟩
    | true =>
      rw [if_pos rfl]
      obtain ⟨b, v, h1, h2, h3⟩ := s_J380 hw (k := pw p z e n - 2) (by omega) (by omega) (nI z) (nI e) n (y0 := 2) (y1 := (nI z - nI p) + x) (by rw [key x hx, e2, iI_sub]) (nI p)
      refine ⟨b, v, h1, h2, fun Q hQ => ?_⟩
      unfold wp_Fi_settle_J280
      exact ⟨fun y => (by cases y), fun _ => h3 Q hQ⟩
  obtain ⟨b, v, h1, h2, h3⟩ := fin _ rfl
  refine ⟨b, v, h1, h2, fun Q hQ => ?_⟩
  have h := h3 Q hQ
  unfold wp_Fi_settle
  refine ⟨fun y => ?_, fun y => ?_⟩
  · rw [if_neg (by rw [y]; decide)] at h; exact h
  · rw [if_pos y] at h; exact h
theorem s_setML {af al : Nat → Int32} : ∀ (d w : Nat), d ≤ 40000 → w ≤ MX → 1 ≤ w → ∃ (b : Bool) (v : Int64 × Int32) (m : Nat), (b = true ↔ w * 10 ^ d ≤ MX) ∧ (b = true → v = (lN (w * 10 ^ d), 0)) ∧ ∀ Q : Bool → (Int64 × Int32) → Prop, Q b v → wp_M_settle_L340 m af al (lN w) (iI (-(d : Int))) Q := by
  intro d
  induction d with
  | zero =>
    intro w hd hw h1
    have e10 : w * 10 ^ 0 = w := by simp
    rw [e10]
    refine ⟨true, (lN w, 0), 1, ⟨fun _ => hw, fun _ => rfl⟩, fun _ => rfl, fun Q hQ => ?_⟩
    have e0 : iI (-((0 : Nat) : Int)) = 0 := by decide
    unfold wp_M_settle_L340
    rw [e0]
    exact ⟨fun _ => ⟨fun y => absurd y (by decide), fun _ => hQ⟩, fun y => absurd (by decide) y⟩
  | succ d ih =>
    intro w hd hw h1
    have c0 : ¬ (0 : Int32) ≤ iI (-((d + 1 : Nat) : Int)) := by rw [z_0, cLe (by omega) (by omega) (by omega) (by omega)]; omega
    have e3 : (lN w ≤ 922337203685477580) = (w * 10 ≤ MX) := propext (by
      rw [l_D, pk_lLE (by unfold MX at hw; omega) (by omega)]
      unfold MX; omega)
    have e4 : lN w * 10 = lN (w * 10) := by rw [l_10, lN_mul]
    have e5 : iI (-((d + 1 : Nat) : Int)) + 1 = iI (-(d : Int)) := by
      have : (1 : Int32) = iI 1 := by decide
      rw [this, iI_add]; congr 1; omega
    have e6 : w * 10 * 10 ^ d = w * 10 ^ (d + 1) := by rw [Nat.pow_succ, Nat.mul_assoc, Nat.mul_comm 10]
    by_cases hn : w * 10 ≤ MX
    · obtain ⟨b, v, m, hb, hv, hwp⟩ := ih (w * 10) (by omega) hn (by omega)
      rw [e6] at hb hv
      refine ⟨b, v, m + 1, hb, hv, fun Q hQ => ?_⟩
      have h := hwp Q hQ
      unfold wp_M_settle_L340
      rw [e3, e4, e5]
      exact ⟨fun y => absurd y c0, fun _ => ⟨fun _ => h, fun y => absurd hn y⟩⟩
    · refine ⟨false, (lN w, iI (-((d + 1 : Nat) : Int))), 1, ⟨fun y => (by cases y), fun y => ?_⟩, fun y => (by cases y), fun Q hQ => ?_⟩
      · have := pow_mono w (show 1 ≤ d + 1 by omega)
        rw [Nat.pow_one] at this
        omega
      · unfold wp_M_settle_L340
        rw [e3]
        exact ⟨fun y => absurd y c0, fun _ => ⟨fun y => absurd y hn, fun _ => hQ⟩⟩
theorem s_setM {af al : Nat → Int32} {pm : Bool} (hpc : ∀ Q : Bool → Unit → Prop, Q pm () → wp_M_percent af al Q) {w : Nat} (hw : w ≤ MX) {k : Int} (hk1 : -30000 ≤ k) (hk2 : k ≤ 30000) : ∃ (b : Bool) (v : Int64 × Int32), (b = true ↔ setB w (k - (if pm = true then 2 else 0))) ∧ (b = true → v = (lN (setW w (k - (if pm = true then 2 else 0))), nI (setS w (k - (if pm = true then 2 else 0))))) ∧ ∀ Q : Bool → (Int64 × Int32) → Prop, Q b v → wp_M_settle (lN w) (iI (-k)) af al Q := by
  have e18 : (18 : Int32) = iI 18 := by decide
  have e2 : (2 : Int32) = iI 2 := by decide
  by_cases h0 : w = 0
  · subst h0
    refine ⟨true, (lN 0, 0), ⟨fun _ => Or.inl rfl, fun _ => rfl⟩, fun _ => rfl, fun Q hQ => ?_⟩
    unfold wp_M_settle wp_M_settle_J310
    refine ⟨fun y => absurd l_0.symm y, fun _ => ⟨1, ?_⟩⟩
    unfold wp_M_settle_L340
    exact ⟨fun _ => ⟨fun y => absurd y (by decide), fun _ => hQ⟩, fun y => absurd (by decide) y⟩
  · have hn0 : ¬ lN w = 0 := by rw [l_ne0 hw]; exact h0
    have fin : ∀ j : Int, -40000 ≤ j → j ≤ 40000 → ∃ (b : Bool) (v : Int64 × Int32), (b = true ↔ setB w j) ∧ (b = true → v = (lN (setW w j), nI (setS w j))) ∧ ∀ Q : Bool → (Int64 × Int32) → Prop, Q b v → ∃ m, wp_M_settle_L340 m af al (lN w) (iI (-j)) Q := by
      intro j hj1 hj2
      by_cases hj : 0 ≤ j
      · have ej : -j = -((j.toNat : Nat) : Int) := by omega
        obtain ⟨b, v, m, hb, hv, hwp⟩ := s_setML (af := af) (al := al) j.toNat w (by omega) hw (by omega)
        refine ⟨b, v, ⟨fun y => Or.inr (Or.inl ⟨hj, hb.mp y⟩), fun y => hb.mpr ?_⟩, fun y => ?_, fun Q hQ => ⟨m, ?_⟩⟩
        · rcases y with y | ⟨-, y⟩ | ⟨-, y⟩
          · exact absurd y h0
          · exact y
          · omega
        · have a1 : setW w j = w * 10 ^ j.toNat := by unfold setW; rw [if_neg h0]
          have a2 : setS w j = 0 := by unfold setS; rw [if_neg h0]; omega
          rw [a1, a2, hv y]; rfl
        · rw [ej]; exact hwp Q hQ
      · have c0 : (0 : Int32) ≤ iI (-j) := by rw [z_0, cLe (by omega) (by omega) (by omega) (by omega)]; omega
        have c18 : ((18 : Int32) < iI (-j)) = (18 < -j) := by rw [e18, cLt (by omega) (by omega) (by omega) (by omega)]
        have ek : iI (-j) = nI (-j).toNat := by rw [nI_iI]; congr 1; omega
        have a1 : setW w j = w := by
          unfold setW; rw [if_neg h0]
          have : j.toNat = 0 := by omega
          rw [this]; simp
        have a2 : setS w j = (-j).toNat := by unfold setS; rw [if_neg h0]
        by_cases h18 : 18 < -j
        · refine ⟨false, (lN w, iI (-j)), ⟨fun y => (by cases y), fun y => ?_⟩, fun y => (by cases y), fun Q hQ => ⟨1, ?_⟩⟩
          · rcases y with y | ⟨y, -⟩ | ⟨y, -⟩
            · exact absurd y h0
            · omega
            · omega
          · unfold wp_M_settle_L340
            rw [c18]
            exact ⟨fun _ => ⟨fun _ => hQ, fun y => absurd h18 y⟩, fun y => absurd c0 y⟩
        · refine ⟨true, (lN w, iI (-j)), ⟨fun _ => Or.inr (Or.inr ⟨by omega, by omega⟩), fun _ => rfl⟩, fun _ => ?_, fun Q hQ => ⟨1, ?_⟩⟩
          · rw [a1, a2, ek]
          · unfold wp_M_settle_L340
            rw [c18]
            exact ⟨fun _ => ⟨fun y => absurd y h18, fun _ => hQ⟩, fun y => absurd c0 y⟩
    cases pm with
    | false =>
      rw [if_neg (by decide)]
      obtain ⟨b, v, h1, h2, h3⟩ := fin (k - 0) (by omega) (by omega)
      refine ⟨b, v, h1, h2, fun Q hQ => ?_⟩
      have e5 : iI (-k) + 0 = iI (-(k - 0)) := by rw [z_0, iI_add]; congr 1; omega
      have h := h3 Q hQ
      unfold wp_M_settle wp_M_settle_J300 wp_M_settle_J310
      rw [e5]
      exact ⟨fun _ => hpc _ ⟨fun _ => h, fun y => (by cases y)⟩, fun y => absurd y hn0⟩
    | true =>
      rw [if_pos rfl]
      obtain ⟨b, v, h1, h2, h3⟩ := fin (k - 2) (by omega) (by omega)
      refine ⟨b, v, h1, h2, fun Q hQ => ?_⟩
      have e5 : iI (-k) + 2 = iI (-(k - 2)) := by rw [e2, iI_add]; congr 1; omega
      have h := h3 Q hQ
      unfold wp_M_settle wp_M_settle_J300 wp_M_settle_J310
      rw [e5]
      exact ⟨fun _ => hpc _ ⟨fun y => (by cases y), fun _ => h⟩, fun y => absurd y hn0⟩
/-- exponents that are far: the same outcome -/
theorem set_far {w p z e1 e2 : Nat} (hp : p ≤ 256) (hz : z ≤ 256) (h : e1 = e2 ∨ (1000 ≤ e1 ∧ 1000 ≤ e2)) (n pm : Bool) : (setB w (pw p z e1 n - (if pm = true then 2 else 0)) ↔ setB w (pw p z e2 n - (if pm = true then 2 else 0))) ∧ (setB w (pw p z e1 n - (if pm = true then 2 else 0)) → setW w (pw p z e1 n - (if pm = true then 2 else 0)) = setW w (pw p z e2 n - (if pm = true then 2 else 0)) ∧ setS w (pw p z e1 n - (if pm = true then 2 else 0)) = setS w (pw p z e2 n - (if pm = true then 2 else 0))) := by
  rcases h with h | ⟨h1, h2⟩
  · subst h
    exact ⟨Iff.rfl, fun _ => ⟨rfl, rfl⟩⟩
  · have key : ∀ e : Nat, 1000 ≤ e → (setB w (pw p z e n - (if pm = true then 2 else 0)) ↔ w = 0) := by
      intro e he
      have hh : pw p z e n - (if pm = true then 2 else 0) < -18 ∨ 19 ≤ pw p z e n - (if pm = true then 2 else 0) := by
        unfold pw
        split <;> split <;> omega
      generalize pw p z e n - (if pm = true then 2 else 0) = k at hh
      refine ⟨fun y => ?_, fun y => Or.inl y⟩
      rcases y with y | ⟨y1, y2⟩ | ⟨y1, y2⟩
      · exact y
      · by_cases hw : w = 0
        · exact hw
        · exact absurd y2 (set_big (by omega) (by omega))
      · omega
    refine ⟨(key e1 h1).trans (key e2 h2).symm, fun y => ?_⟩
    have hw := (key e1 h1).mp y
    unfold setW setS
    rw [if_pos hw, if_pos hw, if_pos hw, if_pos hw]
    exact ⟨rfl, rfl⟩
