/-! one character, class and reference side by side -/
abbrev CTy : Type := Nat × Int32 × Bool × Bool × Bool × Bool × Int32 × Int32 × Int32 × Int32 × Int32 × Int32 × Int32 × Int32 × Bool × Int32 × (Nat → Int32) × Int32 × (Nat → Int32)
abbrev MTy : Type := Int32 × Int32 × Int32 × (Nat → Int32) × (Nat → Int32) × (Nat → Int32) × (Nat → Int32)
def Ph (st : Nat) (qd qe : Bool) (ms mq : Int32) (F G pos : Nat) : Prop :=
  (qd = false ∧ ((st = 0 ∧ ms = 0) ∨ (st = 1 ∧ ms = 2) ∨ (st = 2 ∧ ms = 3) ∨ (st = 3 ∧ ms = 4) ∨ (st = 4 ∧ F = G ∧ ms = 5) ∨ (st = 4 ∧ G < F ∧ ms = 6) ∨ (st = 5 ∧ ms = 7) ∨ (st = 6 ∧ ms = 8) ∨ (st = 7 ∧ ms = 9) ∨ (st = 8 ∧ ms = 10))) ∨
  (qd = true ∧ ((st = 0 ∧ ms = 1) ∨ (st = 8 ∧ ms = 11)) ∧ ∃ j, j ≤ pos ∧ mq = nI j ∧ (qe = true ↔ j = 0))
/-- the state behind pos characters, in the sub s -/
def Rst (pos s : Nat) (st0 : Int32) (qd qe pm : Bool) (h z cm b t f q e : Int32) (x : Bool) (pn : Int32) (pf : Nat → Int32) (sn : Int32) (sf : Nat → Int32) (ms mq : Int32) (now da dl : Nat → Int32) : Prop :=
  ∃ st H Z C B T F G E kp ks : Nat, st0 = nI st ∧ Bun pos s st pm h z cm b t f q e x pn pf sn sf now da dl H Z C B T F G E kp ks ∧ Ph st qd qe ms mq F G pos
def Fr (da dl da' dl' : Nat → Int32) (s : Nat) : Prop := ∀ a, a < 4 → a ≠ 2 * s + 0 → a ≠ 2 * s + 1 → dl' a = dl a ∧ ∀ i, i < 40 → da' (40 * a + i) = da (40 * a + i)
theorem Fr.rf {da dl : Nat → Int32} {s : Nat} : Fr da dl da dl s := fun _ _ _ _ => ⟨rfl, fun _ _ => rfl⟩
theorem Fr.put0 {da dl : Nat → Int32} {s k : Nat} {y z : Int32} (hk : k < 40) : Fr da dl (upd da (40 * (2 * s + 0) + k) y) (upd dl (2 * s + 0) z) s := fun a _ h1 h2 => ⟨upd_other _ _ h1, fun i hi => upd_other _ _ (by omega)⟩
theorem Fr.put1 {da dl : Nat → Int32} {s k : Nat} {y z : Int32} (hk : k < 40) : Fr da dl (upd da (40 * (2 * s + 1) + k) y) (upd dl (2 * s + 1) z) s := fun a _ h1 h2 => ⟨upd_other _ _ h2, fun i hi => upd_other _ _ (by omega)⟩
/-- what one character leads to -/
def Nx (pos s sb mi : Nat) (pt_h pm : Bool) (h z cm b t f q e : Int32) (x : Bool) (pn : Int32) (pf : Nat → Int32) (sn : Int32) (sf now first da dl : Nat → Int32) (ended : Prop) (u : CTy) (v : MTy) : Prop :=
  (u.1 = sb ∧ u.2.2.2.2.1 = pt_h ∧ v.2.1 = nI s ∧ v.2.2.2.2.1 = first ∧ Rst (pos + 1) s u.2.1 u.2.2.1 u.2.2.2.1 u.2.2.2.2.2.1 u.2.2.2.2.2.2.1 u.2.2.2.2.2.2.2.1 u.2.2.2.2.2.2.2.2.1 u.2.2.2.2.2.2.2.2.2.1 u.2.2.2.2.2.2.2.2.2.2.1 u.2.2.2.2.2.2.2.2.2.2.2.1 u.2.2.2.2.2.2.2.2.2.2.2.2.1 u.2.2.2.2.2.2.2.2.2.2.2.2.2.1 u.2.2.2.2.2.2.2.2.2.2.2.2.2.2.1 u.2.2.2.2.2.2.2.2.2.2.2.2.2.2.2.1 u.2.2.2.2.2.2.2.2.2.2.2.2.2.2.2.2.1 u.2.2.2.2.2.2.2.2.2.2.2.2.2.2.2.2.2.1 u.2.2.2.2.2.2.2.2.2.2.2.2.2.2.2.2.2.2 v.1 v.2.2.1 v.2.2.2.1 v.2.2.2.2.2.1 v.2.2.2.2.2.2 ∧ Fr da dl v.2.2.2.2.2.1 v.2.2.2.2.2.2 s) ∨
  (s = 0 ∧ ended ∧ u = (mi, 0, false, false, true, pm, h, z, cm, b, t, f, q, e, x, pn, pf, sn, sf) ∧ v.1 = 0 ∧ v.2.1 = 1 ∧ (∀ j, j < 9 → v.2.2.2.1 j = 0) ∧ (∀ j, j < 9 → v.2.2.2.2.1 j = now j) ∧ v.2.2.2.2.2.1 = da ∧ v.2.2.2.2.2.2 = upd (upd dl 2 0) 3 0)
theorem mc_c {c : Nat} (h1 : 32 ≤ c) (h2 : c ≤ 126) : mc (nI c) (nI c) := Or.inr (Or.inr ⟨rfl, nI_le (a := 32) h1 (by omega), nI_le (b := 126) h2 (by omega)⟩)
theorem pm_c {pm : Bool} {c : Nat} (h2 : c ≤ 126) : pm = true ↔ pm = true ∨ nI c = 259 := ⟨Or.inl, fun h => h.elim id fun h => absurd ((nI_eq (b := 259) (by omega) (by omega)).mp h) (by omega)⟩
theorem pm_l {pm : Bool} {a : Int32} (h : ¬ a = 259) : pm = true ↔ pm = true ∨ a = 259 := ⟨Or.inl, fun z => z.elim id fun z => absurd z h⟩
theorem pm_t {pm : Bool} : true = true ↔ pm = true ∨ (259 : Int32) = 259 := ⟨fun _ => Or.inr rfl, fun _ => rfl⟩

theorem sim_0 {pos s sb mi : Nat} {qe pt_h pm x : Bool} {h z cm b t f q e pn sn mq sub : Int32} {pf sf now first da dl : Nat → Int32} {H Z C B T F G E kp ks c : Nat} (hb : Bun pos s 0 pm h z cm b t f q e x pn pf sn sf now da dl H Z C B T F G E kp ks) (hp : pos < 40) (hs : s ≤ 1) (hsub : sub = nI s) (hh : pt_h = decide (s = 1)) (hc32 : 32 ≤ c) (hc : c ≤ 126) : ∃ (bb : Bool) (u : CTy) (v : MTy), (bb = true → Nx pos s sb mi pt_h pm h z cm b t f q e x pn pf sn sf now first da dl (0 = 1 ∨ 0 = 4 ∨ 0 = 7 ∨ 0 = 8) u v) ∧ (∀ Q, Q bb u → wp_Mk_take sb mi 0 false qe pt_h pm h z cm b t f q e x pn pf sn sf (nI c) Q) ∧ (∀ Q, Q bb v → wp_M_step 0 sub mq now first da dl (nI c) Q) := by
  by_cases hk : c = 35
  · by_cases hZ : Z = 0
    · have hz : z ≤ 0 := by rw [hb.1.1.2.1, hZ]; decide
      have hz2 : now 1 ≤ 0 := by rw [hb.1.2.2.1, hZ]; decide
      exact ⟨true, (sb, 1, false, qe, pt_h, pm, h + 1, z, cm, b + 1, t, f, q, e, x, pn, pf, sn, sf), (2, sub, mq, upd (upd now 0 (now 0 + 1)) 7 (upd now 0 (now 0 + 1) 7 + 1), first, da, dl), fun _ => Or.inl ⟨rfl, rfl, hsub, rfl, ⟨1, H + 1, Z, C, B + 1, T, F, G, E, kp, ks, rfl, hb.hash (by omega), Or.inl ⟨rfl, Or.inr (Or.inl ⟨rfl, rfl⟩)⟩⟩, Fr.rf⟩, tk_0_k35 hc hk hz, ms_0_k35 hc hk hz2⟩
    have hZ2 : Z < 40 := by have := hb.2.1.1; omega
    have hz : ¬ z ≤ 0 := by rw [hb.1.1.2.1]; exact nI_nle (by omega) (by omega)
    have hz2 : ¬ now 1 ≤ 0 := by rw [hb.1.2.2.1]; exact nI_nle (by omega) (by omega)
    exact ⟨false, (sb, 0, false, qe, pt_h, pm, h, z, cm, b, t, f, q, e, x, pn, pf, sn, sf), (0, sub, mq, now, first, da, dl), fun z => (by cases z), tk_0_k35n hc hk hz, ms_0_k35n hc hk hz2⟩
  have n35 := hk
  clear hk
  by_cases hk : c = 37
  · exact ⟨true, (sb, 0, false, qe, pt_h, true, h, z, cm, b, t, f, q, e, x, nI (kp + 1), upd pf kp 259, sn, sf), (0, sub, mq, now, first, upd da (40 * (2 * s + 0) + kp) 201, upd dl (2 * s + 0) (nI (kp + 1))), fun _ => Or.inl ⟨rfl, rfl, hsub, rfl, ⟨0, H, Z, C, B, T, F, G, E, kp + 1, ks, rfl, hb.put_p hp (Or.inr (Or.inl ⟨rfl, rfl⟩)) pm_t, Or.inl ⟨rfl, Or.inl ⟨rfl, rfl⟩⟩⟩, Fr.put0 (by have := hb.2.2.2.2.2.1; omega)⟩, tk_0_k37 hc hk (by have := hb.2.2.2.2.2.1; omega) hb.2.2.2.1.1, ms_0_k37 hc hk hs hsub (by have := hb.2.2.2.2.2.1; omega) hb.2.2.2.1.2.1⟩
  have n37 := hk
  clear hk
  by_cases hk : c = 39
  · exact ⟨true, (sb, 0, true, true, pt_h, pm, h, z, cm, b, t, f, q, e, x, pn, pf, sn, sf), (1, sub, 0, now, first, da, dl), fun _ => Or.inl ⟨rfl, rfl, hsub, rfl, ⟨0, H, Z, C, B, T, F, G, E, kp, ks, rfl, hb.stay (by omega), Or.inr ⟨rfl, Or.inl ⟨rfl, rfl⟩, ⟨0, by omega, rfl, by simp⟩⟩⟩, Fr.rf⟩, tk_0_k39 hc hk, ms_0_k39 hc hk⟩
  have n39 := hk
  clear hk
  by_cases hk : c = 43
  · exact ⟨true, (sb, 0, false, qe, pt_h, pm, h, z, cm, b, t, f, q, e, x, nI (kp + 1), upd pf kp 43, sn, sf), (0, sub, mq, now, first, upd da (40 * (2 * s + 0) + kp) 43, upd dl (2 * s + 0) (nI (kp + 1))), fun _ => Or.inl ⟨rfl, rfl, hsub, rfl, ⟨0, H, Z, C, B, T, F, G, E, kp + 1, ks, rfl, hb.put_p hp (Or.inr (Or.inr ⟨rfl, by decide, by decide⟩)) (pm_l (by decide)), Or.inl ⟨rfl, Or.inl ⟨rfl, rfl⟩⟩⟩, Fr.put0 (by have := hb.2.2.2.2.2.1; omega)⟩, tk_0_k43 hc hk (by have := hb.2.2.2.2.2.1; omega) hb.2.2.2.1.1, ms_0_k43 hc hk hs hsub (by have := hb.2.2.2.2.2.1; omega) hb.2.2.2.1.2.1⟩
  have n43 := hk
  clear hk
  by_cases hk : c = 44
  · exact ⟨false, (sb, 0, false, qe, pt_h, pm, h, z, cm, b, t, f, q, e, x, pn, pf, sn, sf), (0, sub, mq, now, first, da, dl), fun z => (by cases z), tk_0_k44 hc hk, ms_0_k44 hc hk⟩
  have n44 := hk
  clear hk
  by_cases hk : c = 45
  · exact ⟨true, (sb, 0, false, qe, pt_h, pm, h, z, cm, b, t, f, q, e, x, nI (kp + 1), upd pf kp 258, sn, sf), (0, sub, mq, now, first, upd da (40 * (2 * s + 0) + kp) 200, upd dl (2 * s + 0) (nI (kp + 1))), fun _ => Or.inl ⟨rfl, rfl, hsub, rfl, ⟨0, H, Z, C, B, T, F, G, E, kp + 1, ks, rfl, hb.put_p hp (Or.inl ⟨rfl, rfl⟩) (pm_l (by decide)), Or.inl ⟨rfl, Or.inl ⟨rfl, rfl⟩⟩⟩, Fr.put0 (by have := hb.2.2.2.2.2.1; omega)⟩, tk_0_k45 hc hk (by have := hb.2.2.2.2.2.1; omega) hb.2.2.2.1.1, ms_0_k45 hc hk hs hsub (by have := hb.2.2.2.2.2.1; omega) hb.2.2.2.1.2.1⟩
  have n45 := hk
  clear hk
  by_cases hk : c = 46
  · exact ⟨true, (sb, 3, false, qe, pt_h, pm, h, z, cm, b, t, f, q, e, x, pn, pf, sn, sf), (4, sub, mq, now, first, da, dl), fun _ => Or.inl ⟨rfl, rfl, hsub, rfl, ⟨3, H, Z, C, B, T, F, G, E, kp, ks, rfl, hb.point (by omega), Or.inl ⟨rfl, Or.inr (Or.inr (Or.inr (Or.inl ⟨rfl, rfl⟩)))⟩⟩, Fr.rf⟩, tk_0_k46 hc hk, ms_0_k46 hc hk⟩
  have n46 := hk
  clear hk
  by_cases hk : c = 48
  · exact ⟨true, (sb, 1, false, qe, pt_h, pm, h, z + 1, cm, b + 1, t, f, q, e, x, pn, pf, sn, sf), (2, sub, mq, upd (upd now 1 (now 1 + 1)) 7 (upd now 1 (now 1 + 1) 7 + 1), first, da, dl), fun _ => Or.inl ⟨rfl, rfl, hsub, rfl, ⟨1, H, Z + 1, C, B + 1, T, F, G, E, kp, ks, rfl, hb.zero (by omega), Or.inl ⟨rfl, Or.inr (Or.inl ⟨rfl, rfl⟩)⟩⟩, Fr.rf⟩, tk_0_k48 hc hk, ms_0_k48 hc hk⟩
  have n48 := hk
  clear hk
  by_cases hk : c = 59
  · exact ⟨false, (sb, 0, false, qe, pt_h, pm, h, z, cm, b, t, f, q, e, x, pn, pf, sn, sf), (0, sub, mq, now, first, da, dl), fun z => (by cases z), tk_0_k59 hc hk, ms_0_k59 hc hk⟩
  have n59 := hk
  clear hk
  by_cases hk : c = 69
  · exact ⟨false, (sb, 0, false, qe, pt_h, pm, h, z, cm, b, t, f, q, e, x, pn, pf, sn, sf), (0, sub, mq, now, first, da, dl), fun z => (by cases z), tk_0_k69 hc hk, ms_0_k69 hc hk⟩
  have n69 := hk
  clear hk
  by_cases hk : 49 ≤ c ∧ c ≤ 57
  · exact ⟨false, (sb, 0, false, qe, pt_h, pm, h, z, cm, b, t, f, q, e, x, pn, pf, sn, sf), (0, sub, mq, now, first, da, dl), fun z => (by cases z), tk_0_kd hc hk, ms_0_kd hc hk⟩
  have hk : ¬ c = 35 ∧ ¬ c = 37 ∧ ¬ c = 39 ∧ ¬ c = 43 ∧ ¬ c = 44 ∧ ¬ c = 45 ∧ ¬ c = 46 ∧ ¬ c = 48 ∧ ¬ c = 59 ∧ ¬ c = 69 ∧ (c < 48 ∨ 57 < c) := ⟨n35, n37, n39, n43, n44, n45, n46, n48, n59, n69, by omega⟩
  exact ⟨true, (sb, 0, false, qe, pt_h, pm, h, z, cm, b, t, f, q, e, x, nI (kp + 1), upd pf kp (nI c), sn, sf), (0, sub, mq, now, first, upd da (40 * (2 * s + 0) + kp) (nI c), upd dl (2 * s + 0) (nI (kp + 1))), fun _ => Or.inl ⟨rfl, rfl, hsub, rfl, ⟨0, H, Z, C, B, T, F, G, E, kp + 1, ks, rfl, hb.put_p hp (mc_c hc32 hc) (pm_c hc), Or.inl ⟨rfl, Or.inl ⟨rfl, rfl⟩⟩⟩, Fr.put0 (by have := hb.2.2.2.2.2.1; omega)⟩, tk_0_ko hc hk (by have := hb.2.2.2.2.2.1; omega) hb.2.2.2.1.1, ms_0_ko hc hk hs hsub (by have := hb.2.2.2.2.2.1; omega) hb.2.2.2.1.2.1⟩
theorem sim_1 {pos s sb mi : Nat} {qe pt_h pm x : Bool} {h z cm b t f q e pn sn mq sub : Int32} {pf sf now first da dl : Nat → Int32} {H Z C B T F G E kp ks c : Nat} (hb : Bun pos s 1 pm h z cm b t f q e x pn pf sn sf now da dl H Z C B T F G E kp ks) (hp : pos < 40) (hs : s ≤ 1) (hsub : sub = nI s) (hh : pt_h = decide (s = 1)) (hc32 : 32 ≤ c) (hc : c ≤ 126) : ∃ (bb : Bool) (u : CTy) (v : MTy), (bb = true → Nx pos s sb mi pt_h pm h z cm b t f q e x pn pf sn sf now first da dl (1 = 1 ∨ 1 = 4 ∨ 1 = 7 ∨ 1 = 8) u v) ∧ (∀ Q, Q bb u → wp_Mk_take sb mi 1 false qe pt_h pm h z cm b t f q e x pn pf sn sf (nI c) Q) ∧ (∀ Q, Q bb v → wp_M_step 2 sub mq now first da dl (nI c) Q) := by
  by_cases hk : c = 35
  · by_cases hZ : Z = 0
    · have hz : z ≤ 0 := by rw [hb.1.1.2.1, hZ]; decide
      have hz2 : now 1 ≤ 0 := by rw [hb.1.2.2.1, hZ]; decide
      exact ⟨true, (sb, 1, false, qe, pt_h, pm, h + 1, z, cm, b + 1, t, f, q, e, x, pn, pf, sn, sf), (2, sub, mq, upd (upd now 0 (now 0 + 1)) 7 (upd now 0 (now 0 + 1) 7 + 1), first, da, dl), fun _ => Or.inl ⟨rfl, rfl, hsub, rfl, ⟨1, H + 1, Z, C, B + 1, T, F, G, E, kp, ks, rfl, hb.hash (by omega), Or.inl ⟨rfl, Or.inr (Or.inl ⟨rfl, rfl⟩)⟩⟩, Fr.rf⟩, tk_1_k35 hc hk hz, ms_2_k35 hc hk hz2⟩
    have hZ2 : Z < 40 := by have := hb.2.1.1; omega
    have hz : ¬ z ≤ 0 := by rw [hb.1.1.2.1]; exact nI_nle (by omega) (by omega)
    have hz2 : ¬ now 1 ≤ 0 := by rw [hb.1.2.2.1]; exact nI_nle (by omega) (by omega)
    exact ⟨false, (sb, 1, false, qe, pt_h, pm, h, z, cm, b, t, f, q, e, x, pn, pf, sn, sf), (2, sub, mq, now, first, da, dl), fun z => (by cases z), tk_1_k35n hc hk hz, ms_2_k35n hc hk hz2⟩
  have n35 := hk
  clear hk
  by_cases hk : c = 37
  · exact ⟨true, (sb, 8, false, qe, pt_h, true, h, z, cm, b, t, f, q, e, x, pn, pf, nI (ks + 1), upd sf ks 259), (10, sub, mq, now, first, upd da (40 * (2 * s + 1) + ks) 201, upd dl (2 * s + 1) (nI (ks + 1))), fun _ => Or.inl ⟨rfl, rfl, hsub, rfl, ⟨8, H, Z, C, B, T, F, G, E, kp, ks + 1, rfl, hb.put_s hp (by omega) (Or.inr (Or.inl ⟨rfl, rfl⟩)) pm_t, Or.inl ⟨rfl, Or.inr (Or.inr (Or.inr (Or.inr (Or.inr (Or.inr (Or.inr (Or.inr (Or.inr (⟨rfl, rfl⟩)))))))))⟩⟩, Fr.put1 (by have := hb.2.2.2.2.2.2.1; omega)⟩, tk_1_k37 hc hk (by have := hb.2.2.2.2.2.2.1; omega) hb.2.2.2.2.1.1, ms_2_k37 hc hk hs hsub (by have := hb.2.2.2.2.2.2.1; omega) hb.2.2.2.2.1.2.1⟩
  have n37 := hk
  clear hk
  by_cases hk : c = 39
  · exact ⟨true, (sb, 8, true, true, pt_h, pm, h, z, cm, b, t, f, q, e, x, pn, pf, sn, sf), (11, sub, 0, now, first, da, dl), fun _ => Or.inl ⟨rfl, rfl, hsub, rfl, ⟨8, H, Z, C, B, T, F, G, E, kp, ks, rfl, hb.stay (by omega), Or.inr ⟨rfl, Or.inr ⟨rfl, rfl⟩, ⟨0, by omega, rfl, by simp⟩⟩⟩, Fr.rf⟩, tk_1_k39 hc hk, ms_2_k39 hc hk⟩
  have n39 := hk
  clear hk
  by_cases hk : c = 43
  · exact ⟨true, (sb, 8, false, qe, pt_h, pm, h, z, cm, b, t, f, q, e, x, pn, pf, nI (ks + 1), upd sf ks 43), (10, sub, mq, now, first, upd da (40 * (2 * s + 1) + ks) 43, upd dl (2 * s + 1) (nI (ks + 1))), fun _ => Or.inl ⟨rfl, rfl, hsub, rfl, ⟨8, H, Z, C, B, T, F, G, E, kp, ks + 1, rfl, hb.put_s hp (by omega) (Or.inr (Or.inr ⟨rfl, by decide, by decide⟩)) (pm_l (by decide)), Or.inl ⟨rfl, Or.inr (Or.inr (Or.inr (Or.inr (Or.inr (Or.inr (Or.inr (Or.inr (Or.inr (⟨rfl, rfl⟩)))))))))⟩⟩, Fr.put1 (by have := hb.2.2.2.2.2.2.1; omega)⟩, tk_1_k43 hc hk (by have := hb.2.2.2.2.2.2.1; omega) hb.2.2.2.2.1.1, ms_2_k43 hc hk hs hsub (by have := hb.2.2.2.2.2.2.1; omega) hb.2.2.2.2.1.2.1⟩
  have n43 := hk
  clear hk
  by_cases hk : c = 44
  · exact ⟨true, (sb, 2, false, qe, pt_h, pm, h, z, cm + 1, 0, b, f, q, e, x, pn, pf, sn, sf), (3, sub, mq, upd (upd (upd now 8 (now 7)) 7 0) 6 (upd (upd now 8 (now 7)) 7 0 6 + 1), first, da, dl), fun _ => Or.inl ⟨rfl, rfl, hsub, rfl, ⟨2, H, Z, C + 1, 0, B, F, G, E, kp, ks, rfl, hb.comma, Or.inl ⟨rfl, Or.inr (Or.inr (Or.inl ⟨rfl, rfl⟩))⟩⟩, Fr.rf⟩, tk_1_k44 hc hk, ms_2_k44 hc hk⟩
  have n44 := hk
  clear hk
  by_cases hk : c = 45
  · exact ⟨true, (sb, 8, false, qe, pt_h, pm, h, z, cm, b, t, f, q, e, x, pn, pf, nI (ks + 1), upd sf ks 258), (10, sub, mq, now, first, upd da (40 * (2 * s + 1) + ks) 200, upd dl (2 * s + 1) (nI (ks + 1))), fun _ => Or.inl ⟨rfl, rfl, hsub, rfl, ⟨8, H, Z, C, B, T, F, G, E, kp, ks + 1, rfl, hb.put_s hp (by omega) (Or.inl ⟨rfl, rfl⟩) (pm_l (by decide)), Or.inl ⟨rfl, Or.inr (Or.inr (Or.inr (Or.inr (Or.inr (Or.inr (Or.inr (Or.inr (Or.inr (⟨rfl, rfl⟩)))))))))⟩⟩, Fr.put1 (by have := hb.2.2.2.2.2.2.1; omega)⟩, tk_1_k45 hc hk (by have := hb.2.2.2.2.2.2.1; omega) hb.2.2.2.2.1.1, ms_2_k45 hc hk hs hsub (by have := hb.2.2.2.2.2.2.1; omega) hb.2.2.2.2.1.2.1⟩
  have n45 := hk
  clear hk
  by_cases hk : c = 46
  · exact ⟨true, (sb, 3, false, qe, pt_h, pm, h, z, cm, b, t, f, q, e, x, pn, pf, sn, sf), (4, sub, mq, now, first, da, dl), fun _ => Or.inl ⟨rfl, rfl, hsub, rfl, ⟨3, H, Z, C, B, T, F, G, E, kp, ks, rfl, hb.point (by omega), Or.inl ⟨rfl, Or.inr (Or.inr (Or.inr (Or.inl ⟨rfl, rfl⟩)))⟩⟩, Fr.rf⟩, tk_1_k46 hc hk, ms_2_k46 hc hk⟩
  have n46 := hk
  clear hk
  by_cases hk : c = 48
  · exact ⟨true, (sb, 1, false, qe, pt_h, pm, h, z + 1, cm, b + 1, t, f, q, e, x, pn, pf, sn, sf), (2, sub, mq, upd (upd now 1 (now 1 + 1)) 7 (upd now 1 (now 1 + 1) 7 + 1), first, da, dl), fun _ => Or.inl ⟨rfl, rfl, hsub, rfl, ⟨1, H, Z + 1, C, B + 1, T, F, G, E, kp, ks, rfl, hb.zero (by omega), Or.inl ⟨rfl, Or.inr (Or.inl ⟨rfl, rfl⟩)⟩⟩, Fr.rf⟩, tk_1_k48 hc hk, ms_2_k48 hc hk⟩
  have n48 := hk
  clear hk
  by_cases hk : c = 59
  · obtain ⟨r, hr, hcp⟩ := s_copy now first
    obtain ⟨nw, hnw, hbg⟩ := s_begin 1 (by omega) 2 sub now dl
    rcases (show s = 0 ∨ s = 1 by omega) with hs0 | hs1
    · have hp : pt_h = false := by rw [hh, hs0]; rfl
      have hsb : sub = 0 := by rw [hsub, hs0]; rfl
      exact ⟨true, (mi, 0, false, false, true, pm, h, z, cm, b, t, f, q, e, x, pn, pf, sn, sf), (0, 1, mq, nw, r, da, upd (upd dl 2 0) 3 0), fun _ => Or.inr ⟨hs0, Or.inl rfl, rfl, rfl, rfl, hnw, hr, rfl, rfl⟩, tk_1_k59 hc hk hp, ms_2_k59 hc hk hcp hbg hsb⟩
    have hp : pt_h = true := by rw [hh, hs1]; rfl
    have hsb : ¬ sub = 0 := by rw [hsub, hs1]; decide
    exact ⟨false, (sb, 1, false, qe, pt_h, pm, h, z, cm, b, t, f, q, e, x, pn, pf, sn, sf), (0, 1, mq, nw, r, da, upd (upd dl 2 0) 3 0), fun z => (by cases z), tk_1_k59n hc hk hp, ms_2_k59n hc hk hcp hbg hsb⟩
  have n59 := hk
  clear hk
  by_cases hk : c = 69
  · have hZ2 : Z < 40 := by have := hb.2.1.1; omega
    have hC2 : C < 40 := by have := hb.2.1.2.1; omega
    by_cases hZ : Z = 0
    · have hz : z = 0 := by rw [hb.1.1.2.1, hZ]; rfl
      have hz2 : now 1 ≤ 0 := by rw [hb.1.2.2.1, hZ]; decide
      exact ⟨false, (sb, 1, false, qe, pt_h, pm, h, z, cm, b, t, f, q, e, x, pn, pf, sn, sf), (7, sub, mq, now, first, da, dl), fun z => (by cases z), tk_1_k69n hc hk hz, ms_2_k69n hc hk hz2⟩
    have hz : ¬ z = 0 := by rw [hb.1.1.2.1]; exact nI_ne0 (by omega) (by omega)
    have hz2 : ¬ now 1 ≤ 0 := by rw [hb.1.2.2.1]; exact nI_nle (by omega) (by omega)
    by_cases hC : C = 0
    · have hcm : cm ≤ 0 := by rw [hb.1.1.2.2.1, hC]; decide
      have hcm2 : now 6 = 0 := by rw [hb.1.2.2.2.2.2.2.2.1, hC]; rfl
      exact ⟨true, (sb, 5, false, qe, pt_h, pm, h, z, cm, b, t, f, q, e, x, pn, pf, sn, sf), (7, sub, mq, now, first, da, dl), fun _ => Or.inl ⟨rfl, rfl, hsub, rfl, ⟨5, H, Z, C, B, T, F, G, E, kp, ks, rfl, hb.pow (by omega) (by omega) hC, Or.inl ⟨rfl, Or.inr (Or.inr (Or.inr (Or.inr (Or.inr (Or.inr (Or.inl ⟨rfl, rfl⟩))))))⟩⟩, Fr.rf⟩, tk_1_k69 hc hk hz hcm, ms_2_k69 hc hk hz2 hcm2⟩
    have hcm : ¬ cm ≤ 0 := by rw [hb.1.1.2.2.1]; exact nI_nle (by omega) (by omega)
    have hcm2 : ¬ now 6 = 0 := by rw [hb.1.2.2.2.2.2.2.2.1]; exact nI_ne0 (by omega) (by omega)
    exact ⟨false, (sb, 1, false, qe, pt_h, pm, h, z, cm, b, t, f, q, e, x, pn, pf, sn, sf), (7, sub, mq, now, first, da, dl), fun z => (by cases z), tk_1_k69m hc hk hz hcm, ms_2_k69m hc hk hz2 hcm2⟩
  have n69 := hk
  clear hk
  by_cases hk : 49 ≤ c ∧ c ≤ 57
  · exact ⟨false, (sb, 1, false, qe, pt_h, pm, h, z, cm, b, t, f, q, e, x, pn, pf, sn, sf), (10, sub, mq, now, first, da, dl), fun z => (by cases z), tk_1_kd hc hk, ms_2_kd hc hk⟩
  have hk : ¬ c = 35 ∧ ¬ c = 37 ∧ ¬ c = 39 ∧ ¬ c = 43 ∧ ¬ c = 44 ∧ ¬ c = 45 ∧ ¬ c = 46 ∧ ¬ c = 48 ∧ ¬ c = 59 ∧ ¬ c = 69 ∧ (c < 48 ∨ 57 < c) := ⟨n35, n37, n39, n43, n44, n45, n46, n48, n59, n69, by omega⟩
  exact ⟨true, (sb, 8, false, qe, pt_h, pm, h, z, cm, b, t, f, q, e, x, pn, pf, nI (ks + 1), upd sf ks (nI c)), (10, sub, mq, now, first, upd da (40 * (2 * s + 1) + ks) (nI c), upd dl (2 * s + 1) (nI (ks + 1))), fun _ => Or.inl ⟨rfl, rfl, hsub, rfl, ⟨8, H, Z, C, B, T, F, G, E, kp, ks + 1, rfl, hb.put_s hp (by omega) (mc_c hc32 hc) (pm_c hc), Or.inl ⟨rfl, Or.inr (Or.inr (Or.inr (Or.inr (Or.inr (Or.inr (Or.inr (Or.inr (Or.inr (⟨rfl, rfl⟩)))))))))⟩⟩, Fr.put1 (by have := hb.2.2.2.2.2.2.1; omega)⟩, tk_1_ko hc hk (by have := hb.2.2.2.2.2.2.1; omega) hb.2.2.2.2.1.1, ms_2_ko hc hk hs hsub (by have := hb.2.2.2.2.2.2.1; omega) hb.2.2.2.2.1.2.1⟩
theorem sim_2 {pos s sb mi : Nat} {qe pt_h pm x : Bool} {h z cm b t f q e pn sn mq sub : Int32} {pf sf now first da dl : Nat → Int32} {H Z C B T F G E kp ks c : Nat} (hb : Bun pos s 2 pm h z cm b t f q e x pn pf sn sf now da dl H Z C B T F G E kp ks) (hp : pos < 40) (hs : s ≤ 1) (hsub : sub = nI s) (hh : pt_h = decide (s = 1)) (hc32 : 32 ≤ c) (hc : c ≤ 126) : ∃ (bb : Bool) (u : CTy) (v : MTy), (bb = true → Nx pos s sb mi pt_h pm h z cm b t f q e x pn pf sn sf now first da dl (2 = 1 ∨ 2 = 4 ∨ 2 = 7 ∨ 2 = 8) u v) ∧ (∀ Q, Q bb u → wp_Mk_take sb mi 2 false qe pt_h pm h z cm b t f q e x pn pf sn sf (nI c) Q) ∧ (∀ Q, Q bb v → wp_M_step 3 sub mq now first da dl (nI c) Q) := by
  by_cases hk : c = 35
  · by_cases hZ : Z = 0
    · have hz : z ≤ 0 := by rw [hb.1.1.2.1, hZ]; decide
      have hz2 : now 1 ≤ 0 := by rw [hb.1.2.2.1, hZ]; decide
      exact ⟨true, (sb, 1, false, qe, pt_h, pm, h + 1, z, cm, b + 1, t, f, q, e, x, pn, pf, sn, sf), (2, sub, mq, upd (upd now 0 (now 0 + 1)) 7 (upd now 0 (now 0 + 1) 7 + 1), first, da, dl), fun _ => Or.inl ⟨rfl, rfl, hsub, rfl, ⟨1, H + 1, Z, C, B + 1, T, F, G, E, kp, ks, rfl, hb.hash (by omega), Or.inl ⟨rfl, Or.inr (Or.inl ⟨rfl, rfl⟩)⟩⟩, Fr.rf⟩, tk_2_k35 hc hk hz, ms_3_k35 hc hk hz2⟩
    have hZ2 : Z < 40 := by have := hb.2.1.1; omega
    have hz : ¬ z ≤ 0 := by rw [hb.1.1.2.1]; exact nI_nle (by omega) (by omega)
    have hz2 : ¬ now 1 ≤ 0 := by rw [hb.1.2.2.1]; exact nI_nle (by omega) (by omega)
    exact ⟨false, (sb, 2, false, qe, pt_h, pm, h, z, cm, b, t, f, q, e, x, pn, pf, sn, sf), (3, sub, mq, now, first, da, dl), fun z => (by cases z), tk_2_k35n hc hk hz, ms_3_k35n hc hk hz2⟩
  have n35 := hk
  clear hk
  by_cases hk : c = 37
  · exact ⟨false, (sb, 2, false, qe, pt_h, pm, h, z, cm, b, t, f, q, e, x, pn, pf, sn, sf), (3, sub, mq, now, first, da, dl), fun z => (by cases z), tk_2_k37 hc hk, ms_3_k37 hc hk⟩
  have n37 := hk
  clear hk
  by_cases hk : c = 39
  · exact ⟨false, (sb, 2, false, qe, pt_h, pm, h, z, cm, b, t, f, q, e, x, pn, pf, sn, sf), (3, sub, mq, now, first, da, dl), fun z => (by cases z), tk_2_k39 hc hk, ms_3_k39 hc hk⟩
  have n39 := hk
  clear hk
  by_cases hk : c = 43
  · exact ⟨false, (sb, 2, false, qe, pt_h, pm, h, z, cm, b, t, f, q, e, x, pn, pf, sn, sf), (3, sub, mq, now, first, da, dl), fun z => (by cases z), tk_2_k43 hc hk, ms_3_k43 hc hk⟩
  have n43 := hk
  clear hk
  by_cases hk : c = 44
  · exact ⟨false, (sb, 2, false, qe, pt_h, pm, h, z, cm, b, t, f, q, e, x, pn, pf, sn, sf), (3, sub, mq, now, first, da, dl), fun z => (by cases z), tk_2_k44 hc hk, ms_3_k44 hc hk⟩
  have n44 := hk
  clear hk
  by_cases hk : c = 45
  · exact ⟨false, (sb, 2, false, qe, pt_h, pm, h, z, cm, b, t, f, q, e, x, pn, pf, sn, sf), (3, sub, mq, now, first, da, dl), fun z => (by cases z), tk_2_k45 hc hk, ms_3_k45 hc hk⟩
  have n45 := hk
  clear hk
  by_cases hk : c = 46
  · exact ⟨false, (sb, 2, false, qe, pt_h, pm, h, z, cm, b, t, f, q, e, x, pn, pf, sn, sf), (3, sub, mq, now, first, da, dl), fun z => (by cases z), tk_2_k46 hc hk, ms_3_k46 hc hk⟩
  have n46 := hk
  clear hk
  by_cases hk : c = 48
  · exact ⟨true, (sb, 1, false, qe, pt_h, pm, h, z + 1, cm, b + 1, t, f, q, e, x, pn, pf, sn, sf), (2, sub, mq, upd (upd now 1 (now 1 + 1)) 7 (upd now 1 (now 1 + 1) 7 + 1), first, da, dl), fun _ => Or.inl ⟨rfl, rfl, hsub, rfl, ⟨1, H, Z + 1, C, B + 1, T, F, G, E, kp, ks, rfl, hb.zero (by omega), Or.inl ⟨rfl, Or.inr (Or.inl ⟨rfl, rfl⟩)⟩⟩, Fr.rf⟩, tk_2_k48 hc hk, ms_3_k48 hc hk⟩
  have n48 := hk
  clear hk
  by_cases hk : c = 59
  · exact ⟨false, (sb, 2, false, qe, pt_h, pm, h, z, cm, b, t, f, q, e, x, pn, pf, sn, sf), (3, sub, mq, now, first, da, dl), fun z => (by cases z), tk_2_k59 hc hk, ms_3_k59 hc hk⟩
  have n59 := hk
  clear hk
  by_cases hk : c = 69
  · exact ⟨false, (sb, 2, false, qe, pt_h, pm, h, z, cm, b, t, f, q, e, x, pn, pf, sn, sf), (3, sub, mq, now, first, da, dl), fun z => (by cases z), tk_2_k69 hc hk, ms_3_k69 hc hk⟩
  have n69 := hk
  clear hk
  by_cases hk : 49 ≤ c ∧ c ≤ 57
  · exact ⟨false, (sb, 2, false, qe, pt_h, pm, h, z, cm, b, t, f, q, e, x, pn, pf, sn, sf), (3, sub, mq, now, first, da, dl), fun z => (by cases z), tk_2_kd hc hk, ms_3_kd hc hk⟩
  have hk : ¬ c = 35 ∧ ¬ c = 37 ∧ ¬ c = 39 ∧ ¬ c = 43 ∧ ¬ c = 44 ∧ ¬ c = 45 ∧ ¬ c = 46 ∧ ¬ c = 48 ∧ ¬ c = 59 ∧ ¬ c = 69 ∧ (c < 48 ∨ 57 < c) := ⟨n35, n37, n39, n43, n44, n45, n46, n48, n59, n69, by omega⟩
  exact ⟨false, (sb, 2, false, qe, pt_h, pm, h, z, cm, b, t, f, q, e, x, pn, pf, sn, sf), (3, sub, mq, now, first, da, dl), fun z => (by cases z), tk_2_ko hc hk, ms_3_ko hc hk⟩
theorem sim_3 {pos s sb mi : Nat} {qe pt_h pm x : Bool} {h z cm b t f q e pn sn mq sub : Int32} {pf sf now first da dl : Nat → Int32} {H Z C B T F G E kp ks c : Nat} (hb : Bun pos s 3 pm h z cm b t f q e x pn pf sn sf now da dl H Z C B T F G E kp ks) (hp : pos < 40) (hs : s ≤ 1) (hsub : sub = nI s) (hh : pt_h = decide (s = 1)) (hc32 : 32 ≤ c) (hc : c ≤ 126) : ∃ (bb : Bool) (u : CTy) (v : MTy), (bb = true → Nx pos s sb mi pt_h pm h z cm b t f q e x pn pf sn sf now first da dl (3 = 1 ∨ 3 = 4 ∨ 3 = 7 ∨ 3 = 8) u v) ∧ (∀ Q, Q bb u → wp_Mk_take sb mi 3 false qe pt_h pm h z cm b t f q e x pn pf sn sf (nI c) Q) ∧ (∀ Q, Q bb v → wp_M_step 4 sub mq now first da dl (nI c) Q) := by
  by_cases hk : c = 35
  · exact ⟨true, (sb, 4, false, qe, pt_h, pm, h, z, cm, b, t, f + 1, q, e, x, pn, pf, sn, sf), (6, sub, mq, upd (upd now 2 (now 2 + 1)) 3 (upd now 2 (now 2 + 1) 3), first, da, dl), fun _ => Or.inl ⟨rfl, rfl, hsub, rfl, ⟨4, H, Z, C, B, T, F + 1, G, E, kp, ks, rfl, hb.fhash (by omega), Or.inl ⟨rfl, Or.inr (Or.inr (Or.inr (Or.inr (Or.inr (Or.inl ⟨rfl, by have := hb.2.1.2.2.2.2.2.1; omega, rfl⟩)))))⟩⟩, Fr.rf⟩, tk_3_k35 hc hk, ms_4_k35 hc hk⟩
  have n35 := hk
  clear hk
  by_cases hk : c = 37
  · exact ⟨false, (sb, 3, false, qe, pt_h, pm, h, z, cm, b, t, f, q, e, x, pn, pf, sn, sf), (4, sub, mq, now, first, da, dl), fun z => (by cases z), tk_3_k37 hc hk, ms_4_k37 hc hk⟩
  have n37 := hk
  clear hk
  by_cases hk : c = 39
  · exact ⟨false, (sb, 3, false, qe, pt_h, pm, h, z, cm, b, t, f, q, e, x, pn, pf, sn, sf), (4, sub, mq, now, first, da, dl), fun z => (by cases z), tk_3_k39 hc hk, ms_4_k39 hc hk⟩
  have n39 := hk
  clear hk
  by_cases hk : c = 43
  · exact ⟨false, (sb, 3, false, qe, pt_h, pm, h, z, cm, b, t, f, q, e, x, pn, pf, sn, sf), (4, sub, mq, now, first, da, dl), fun z => (by cases z), tk_3_k43 hc hk, ms_4_k43 hc hk⟩
  have n43 := hk
  clear hk
  by_cases hk : c = 44
  · exact ⟨false, (sb, 3, false, qe, pt_h, pm, h, z, cm, b, t, f, q, e, x, pn, pf, sn, sf), (4, sub, mq, now, first, da, dl), fun z => (by cases z), tk_3_k44 hc hk, ms_4_k44 hc hk⟩
  have n44 := hk
  clear hk
  by_cases hk : c = 45
  · exact ⟨false, (sb, 3, false, qe, pt_h, pm, h, z, cm, b, t, f, q, e, x, pn, pf, sn, sf), (4, sub, mq, now, first, da, dl), fun z => (by cases z), tk_3_k45 hc hk, ms_4_k45 hc hk⟩
  have n45 := hk
  clear hk
  by_cases hk : c = 46
  · exact ⟨false, (sb, 3, false, qe, pt_h, pm, h, z, cm, b, t, f, q, e, x, pn, pf, sn, sf), (4, sub, mq, now, first, da, dl), fun z => (by cases z), tk_3_k46 hc hk, ms_4_k46 hc hk⟩
  have n46 := hk
  clear hk
  by_cases hk : c = 48
  · have hFG : F = G := by have := hb.2.2.1.2.2.2.2.1 (by omega); omega
    have hz : f ≤ q := by rw [hb.1.1.2.2.2.2.2.1, hb.1.1.2.2.2.2.2.2.1, hFG]; exact nI_le (Nat.le_refl _) (by have := hb.2.1.2.2.2.2.1; have := hb.2.1.2.2.2.2.2.1; omega)
    exact ⟨true, (sb, 4, false, qe, pt_h, pm, h, z, cm, b, t, f + 1, q + 1, e, x, pn, pf, sn, sf), (5, sub, mq, upd (upd now 2 (now 2 + 1)) 3 (upd now 2 (now 2 + 1) 3 + 1), first, da, dl), fun _ => Or.inl ⟨rfl, rfl, hsub, rfl, ⟨4, H, Z, C, B, T, F + 1, G + 1, E, kp, ks, rfl, hb.fzero (by omega) hFG, Or.inl ⟨rfl, Or.inr (Or.inr (Or.inr (Or.inr (Or.inl ⟨rfl, by omega, rfl⟩))))⟩⟩, Fr.rf⟩, tk_3_k48 hc hk hz, ms_4_k48 hc hk⟩
  have n48 := hk
  clear hk
  by_cases hk : c = 59
  · exact ⟨false, (sb, 3, false, qe, pt_h, pm, h, z, cm, b, t, f, q, e, x, pn, pf, sn, sf), (4, sub, mq, now, first, da, dl), fun z => (by cases z), tk_3_k59 hc hk, ms_4_k59 hc hk⟩
  have n59 := hk
  clear hk
  by_cases hk : c = 69
  · exact ⟨false, (sb, 3, false, qe, pt_h, pm, h, z, cm, b, t, f, q, e, x, pn, pf, sn, sf), (4, sub, mq, now, first, da, dl), fun z => (by cases z), tk_3_k69 hc hk, ms_4_k69 hc hk⟩
  have n69 := hk
  clear hk
  by_cases hk : 49 ≤ c ∧ c ≤ 57
  · exact ⟨false, (sb, 3, false, qe, pt_h, pm, h, z, cm, b, t, f, q, e, x, pn, pf, sn, sf), (4, sub, mq, now, first, da, dl), fun z => (by cases z), tk_3_kd hc hk, ms_4_kd hc hk⟩
  have hk : ¬ c = 35 ∧ ¬ c = 37 ∧ ¬ c = 39 ∧ ¬ c = 43 ∧ ¬ c = 44 ∧ ¬ c = 45 ∧ ¬ c = 46 ∧ ¬ c = 48 ∧ ¬ c = 59 ∧ ¬ c = 69 ∧ (c < 48 ∨ 57 < c) := ⟨n35, n37, n39, n43, n44, n45, n46, n48, n59, n69, by omega⟩
  exact ⟨false, (sb, 3, false, qe, pt_h, pm, h, z, cm, b, t, f, q, e, x, pn, pf, sn, sf), (4, sub, mq, now, first, da, dl), fun z => (by cases z), tk_3_ko hc hk, ms_4_ko hc hk⟩
theorem sim_4 {pos s sb mi : Nat} {qe pt_h pm x : Bool} {h z cm b t f q e pn sn mq sub : Int32} {pf sf now first da dl : Nat → Int32} {H Z C B T F G E kp ks c : Nat} (hb : Bun pos s 4 pm h z cm b t f q e x pn pf sn sf now da dl H Z C B T F G E kp ks) (hFG : F = G) (hp : pos < 40) (hs : s ≤ 1) (hsub : sub = nI s) (hh : pt_h = decide (s = 1)) (hc32 : 32 ≤ c) (hc : c ≤ 126) : ∃ (bb : Bool) (u : CTy) (v : MTy), (bb = true → Nx pos s sb mi pt_h pm h z cm b t f q e x pn pf sn sf now first da dl (4 = 1 ∨ 4 = 4 ∨ 4 = 7 ∨ 4 = 8) u v) ∧ (∀ Q, Q bb u → wp_Mk_take sb mi 4 false qe pt_h pm h z cm b t f q e x pn pf sn sf (nI c) Q) ∧ (∀ Q, Q bb v → wp_M_step 5 sub mq now first da dl (nI c) Q) := by
  by_cases hk : c = 35
  · exact ⟨true, (sb, 4, false, qe, pt_h, pm, h, z, cm, b, t, f + 1, q, e, x, pn, pf, sn, sf), (6, sub, mq, upd (upd now 2 (now 2 + 1)) 3 (upd now 2 (now 2 + 1) 3), first, da, dl), fun _ => Or.inl ⟨rfl, rfl, hsub, rfl, ⟨4, H, Z, C, B, T, F + 1, G, E, kp, ks, rfl, hb.fhash (by omega), Or.inl ⟨rfl, Or.inr (Or.inr (Or.inr (Or.inr (Or.inr (Or.inl ⟨rfl, by have := hb.2.1.2.2.2.2.2.1; omega, rfl⟩)))))⟩⟩, Fr.rf⟩, tk_4_k35 hc hk, ms_5_k35 hc hk⟩
  have n35 := hk
  clear hk
  by_cases hk : c = 37
  · exact ⟨true, (sb, 8, false, qe, pt_h, true, h, z, cm, b, t, f, q, e, x, pn, pf, nI (ks + 1), upd sf ks 259), (10, sub, mq, now, first, upd da (40 * (2 * s + 1) + ks) 201, upd dl (2 * s + 1) (nI (ks + 1))), fun _ => Or.inl ⟨rfl, rfl, hsub, rfl, ⟨8, H, Z, C, B, T, F, G, E, kp, ks + 1, rfl, hb.put_s hp (by omega) (Or.inr (Or.inl ⟨rfl, rfl⟩)) pm_t, Or.inl ⟨rfl, Or.inr (Or.inr (Or.inr (Or.inr (Or.inr (Or.inr (Or.inr (Or.inr (Or.inr (⟨rfl, rfl⟩)))))))))⟩⟩, Fr.put1 (by have := hb.2.2.2.2.2.2.1; omega)⟩, tk_4_k37 hc hk (by have := hb.2.2.2.2.2.2.1; omega) hb.2.2.2.2.1.1, ms_5_k37 hc hk hs hsub (by have := hb.2.2.2.2.2.2.1; omega) hb.2.2.2.2.1.2.1⟩
  have n37 := hk
  clear hk
  by_cases hk : c = 39
  · exact ⟨true, (sb, 8, true, true, pt_h, pm, h, z, cm, b, t, f, q, e, x, pn, pf, sn, sf), (11, sub, 0, now, first, da, dl), fun _ => Or.inl ⟨rfl, rfl, hsub, rfl, ⟨8, H, Z, C, B, T, F, G, E, kp, ks, rfl, hb.stay (by omega), Or.inr ⟨rfl, Or.inr ⟨rfl, rfl⟩, ⟨0, by omega, rfl, by simp⟩⟩⟩, Fr.rf⟩, tk_4_k39 hc hk, ms_5_k39 hc hk⟩
  have n39 := hk
  clear hk
  by_cases hk : c = 43
  · exact ⟨true, (sb, 8, false, qe, pt_h, pm, h, z, cm, b, t, f, q, e, x, pn, pf, nI (ks + 1), upd sf ks 43), (10, sub, mq, now, first, upd da (40 * (2 * s + 1) + ks) 43, upd dl (2 * s + 1) (nI (ks + 1))), fun _ => Or.inl ⟨rfl, rfl, hsub, rfl, ⟨8, H, Z, C, B, T, F, G, E, kp, ks + 1, rfl, hb.put_s hp (by omega) (Or.inr (Or.inr ⟨rfl, by decide, by decide⟩)) (pm_l (by decide)), Or.inl ⟨rfl, Or.inr (Or.inr (Or.inr (Or.inr (Or.inr (Or.inr (Or.inr (Or.inr (Or.inr (⟨rfl, rfl⟩)))))))))⟩⟩, Fr.put1 (by have := hb.2.2.2.2.2.2.1; omega)⟩, tk_4_k43 hc hk (by have := hb.2.2.2.2.2.2.1; omega) hb.2.2.2.2.1.1, ms_5_k43 hc hk hs hsub (by have := hb.2.2.2.2.2.2.1; omega) hb.2.2.2.2.1.2.1⟩
  have n43 := hk
  clear hk
  by_cases hk : c = 44
  · exact ⟨false, (sb, 4, false, qe, pt_h, pm, h, z, cm, b, t, f, q, e, x, pn, pf, sn, sf), (10, sub, mq, now, first, da, dl), fun z => (by cases z), tk_4_k44 hc hk, ms_5_k44 hc hk⟩
  have n44 := hk
  clear hk
  by_cases hk : c = 45
  · exact ⟨true, (sb, 8, false, qe, pt_h, pm, h, z, cm, b, t, f, q, e, x, pn, pf, nI (ks + 1), upd sf ks 258), (10, sub, mq, now, first, upd da (40 * (2 * s + 1) + ks) 200, upd dl (2 * s + 1) (nI (ks + 1))), fun _ => Or.inl ⟨rfl, rfl, hsub, rfl, ⟨8, H, Z, C, B, T, F, G, E, kp, ks + 1, rfl, hb.put_s hp (by omega) (Or.inl ⟨rfl, rfl⟩) (pm_l (by decide)), Or.inl ⟨rfl, Or.inr (Or.inr (Or.inr (Or.inr (Or.inr (Or.inr (Or.inr (Or.inr (Or.inr (⟨rfl, rfl⟩)))))))))⟩⟩, Fr.put1 (by have := hb.2.2.2.2.2.2.1; omega)⟩, tk_4_k45 hc hk (by have := hb.2.2.2.2.2.2.1; omega) hb.2.2.2.2.1.1, ms_5_k45 hc hk hs hsub (by have := hb.2.2.2.2.2.2.1; omega) hb.2.2.2.2.1.2.1⟩
  have n45 := hk
  clear hk
  by_cases hk : c = 46
  · exact ⟨false, (sb, 4, false, qe, pt_h, pm, h, z, cm, b, t, f, q, e, x, pn, pf, sn, sf), (10, sub, mq, now, first, da, dl), fun z => (by cases z), tk_4_k46 hc hk, ms_5_k46 hc hk⟩
  have n46 := hk
  clear hk
  by_cases hk : c = 48
  · have hz : f ≤ q := by rw [hb.1.1.2.2.2.2.2.1, hb.1.1.2.2.2.2.2.2.1, hFG]; exact nI_le (Nat.le_refl _) (by have := hb.2.1.2.2.2.2.1; have := hb.2.1.2.2.2.2.2.1; omega)
    exact ⟨true, (sb, 4, false, qe, pt_h, pm, h, z, cm, b, t, f + 1, q + 1, e, x, pn, pf, sn, sf), (5, sub, mq, upd (upd now 2 (now 2 + 1)) 3 (upd now 2 (now 2 + 1) 3 + 1), first, da, dl), fun _ => Or.inl ⟨rfl, rfl, hsub, rfl, ⟨4, H, Z, C, B, T, F + 1, G + 1, E, kp, ks, rfl, hb.fzero (by omega) hFG, Or.inl ⟨rfl, Or.inr (Or.inr (Or.inr (Or.inr (Or.inl ⟨rfl, by omega, rfl⟩))))⟩⟩, Fr.rf⟩, tk_4_k48 hc hk hz, ms_5_k48 hc hk⟩
  have n48 := hk
  clear hk
  by_cases hk : c = 59
  · obtain ⟨r, hr, hcp⟩ := s_copy now first
    obtain ⟨nw, hnw, hbg⟩ := s_begin 1 (by omega) 5 sub now dl
    rcases (show s = 0 ∨ s = 1 by omega) with hs0 | hs1
    · have hp : pt_h = false := by rw [hh, hs0]; rfl
      have hsb : sub = 0 := by rw [hsub, hs0]; rfl
      exact ⟨true, (mi, 0, false, false, true, pm, h, z, cm, b, t, f, q, e, x, pn, pf, sn, sf), (0, 1, mq, nw, r, da, upd (upd dl 2 0) 3 0), fun _ => Or.inr ⟨hs0, Or.inr (Or.inl rfl), rfl, rfl, rfl, hnw, hr, rfl, rfl⟩, tk_4_k59 hc hk hp, ms_5_k59 hc hk hcp hbg hsb⟩
    have hp : pt_h = true := by rw [hh, hs1]; rfl
    have hsb : ¬ sub = 0 := by rw [hsub, hs1]; decide
    exact ⟨false, (sb, 4, false, qe, pt_h, pm, h, z, cm, b, t, f, q, e, x, pn, pf, sn, sf), (0, 1, mq, nw, r, da, upd (upd dl 2 0) 3 0), fun z => (by cases z), tk_4_k59n hc hk hp, ms_5_k59n hc hk hcp hbg hsb⟩
  have n59 := hk
  clear hk
  by_cases hk : c = 69
  · have hZ2 : Z < 40 := by have := hb.2.1.1; omega
    have hC2 : C < 40 := by have := hb.2.1.2.1; omega
    by_cases hZ : Z = 0
    · have hz : z = 0 := by rw [hb.1.1.2.1, hZ]; rfl
      have hz2 : now 1 ≤ 0 := by rw [hb.1.2.2.1, hZ]; decide
      exact ⟨false, (sb, 4, false, qe, pt_h, pm, h, z, cm, b, t, f, q, e, x, pn, pf, sn, sf), (7, sub, mq, now, first, da, dl), fun z => (by cases z), tk_4_k69n hc hk hz, ms_5_k69n hc hk hz2⟩
    have hz : ¬ z = 0 := by rw [hb.1.1.2.1]; exact nI_ne0 (by omega) (by omega)
    have hz2 : ¬ now 1 ≤ 0 := by rw [hb.1.2.2.1]; exact nI_nle (by omega) (by omega)
    by_cases hC : C = 0
    · have hcm : cm ≤ 0 := by rw [hb.1.1.2.2.1, hC]; decide
      have hcm2 : now 6 = 0 := by rw [hb.1.2.2.2.2.2.2.2.1, hC]; rfl
      exact ⟨true, (sb, 5, false, qe, pt_h, pm, h, z, cm, b, t, f, q, e, x, pn, pf, sn, sf), (7, sub, mq, now, first, da, dl), fun _ => Or.inl ⟨rfl, rfl, hsub, rfl, ⟨5, H, Z, C, B, T, F, G, E, kp, ks, rfl, hb.pow (by omega) (by omega) hC, Or.inl ⟨rfl, Or.inr (Or.inr (Or.inr (Or.inr (Or.inr (Or.inr (Or.inl ⟨rfl, rfl⟩))))))⟩⟩, Fr.rf⟩, tk_4_k69 hc hk hz hcm, ms_5_k69 hc hk hz2 hcm2⟩
    have hcm : ¬ cm ≤ 0 := by rw [hb.1.1.2.2.1]; exact nI_nle (by omega) (by omega)
    have hcm2 : ¬ now 6 = 0 := by rw [hb.1.2.2.2.2.2.2.2.1]; exact nI_ne0 (by omega) (by omega)
    exact ⟨false, (sb, 4, false, qe, pt_h, pm, h, z, cm, b, t, f, q, e, x, pn, pf, sn, sf), (7, sub, mq, now, first, da, dl), fun z => (by cases z), tk_4_k69m hc hk hz hcm, ms_5_k69m hc hk hz2 hcm2⟩
  have n69 := hk
  clear hk
  by_cases hk : 49 ≤ c ∧ c ≤ 57
  · exact ⟨false, (sb, 4, false, qe, pt_h, pm, h, z, cm, b, t, f, q, e, x, pn, pf, sn, sf), (10, sub, mq, now, first, da, dl), fun z => (by cases z), tk_4_kd hc hk, ms_5_kd hc hk⟩
  have hk : ¬ c = 35 ∧ ¬ c = 37 ∧ ¬ c = 39 ∧ ¬ c = 43 ∧ ¬ c = 44 ∧ ¬ c = 45 ∧ ¬ c = 46 ∧ ¬ c = 48 ∧ ¬ c = 59 ∧ ¬ c = 69 ∧ (c < 48 ∨ 57 < c) := ⟨n35, n37, n39, n43, n44, n45, n46, n48, n59, n69, by omega⟩
  exact ⟨true, (sb, 8, false, qe, pt_h, pm, h, z, cm, b, t, f, q, e, x, pn, pf, nI (ks + 1), upd sf ks (nI c)), (10, sub, mq, now, first, upd da (40 * (2 * s + 1) + ks) (nI c), upd dl (2 * s + 1) (nI (ks + 1))), fun _ => Or.inl ⟨rfl, rfl, hsub, rfl, ⟨8, H, Z, C, B, T, F, G, E, kp, ks + 1, rfl, hb.put_s hp (by omega) (mc_c hc32 hc) (pm_c hc), Or.inl ⟨rfl, Or.inr (Or.inr (Or.inr (Or.inr (Or.inr (Or.inr (Or.inr (Or.inr (Or.inr (⟨rfl, rfl⟩)))))))))⟩⟩, Fr.put1 (by have := hb.2.2.2.2.2.2.1; omega)⟩, tk_4_ko hc hk (by have := hb.2.2.2.2.2.2.1; omega) hb.2.2.2.2.1.1, ms_5_ko hc hk hs hsub (by have := hb.2.2.2.2.2.2.1; omega) hb.2.2.2.2.1.2.1⟩
theorem sim_5 {pos s sb mi : Nat} {qe pt_h pm x : Bool} {h z cm b t f q e pn sn mq sub : Int32} {pf sf now first da dl : Nat → Int32} {H Z C B T F G E kp ks c : Nat} (hb : Bun pos s 4 pm h z cm b t f q e x pn pf sn sf now da dl H Z C B T F G E kp ks) (hFG : G < F) (hp : pos < 40) (hs : s ≤ 1) (hsub : sub = nI s) (hh : pt_h = decide (s = 1)) (hc32 : 32 ≤ c) (hc : c ≤ 126) : ∃ (bb : Bool) (u : CTy) (v : MTy), (bb = true → Nx pos s sb mi pt_h pm h z cm b t f q e x pn pf sn sf now first da dl (4 = 1 ∨ 4 = 4 ∨ 4 = 7 ∨ 4 = 8) u v) ∧ (∀ Q, Q bb u → wp_Mk_take sb mi 4 false qe pt_h pm h z cm b t f q e x pn pf sn sf (nI c) Q) ∧ (∀ Q, Q bb v → wp_M_step 6 sub mq now first da dl (nI c) Q) := by
  by_cases hk : c = 35
  · exact ⟨true, (sb, 4, false, qe, pt_h, pm, h, z, cm, b, t, f + 1, q, e, x, pn, pf, sn, sf), (6, sub, mq, upd (upd now 2 (now 2 + 1)) 3 (upd now 2 (now 2 + 1) 3), first, da, dl), fun _ => Or.inl ⟨rfl, rfl, hsub, rfl, ⟨4, H, Z, C, B, T, F + 1, G, E, kp, ks, rfl, hb.fhash (by omega), Or.inl ⟨rfl, Or.inr (Or.inr (Or.inr (Or.inr (Or.inr (Or.inl ⟨rfl, by have := hb.2.1.2.2.2.2.2.1; omega, rfl⟩)))))⟩⟩, Fr.rf⟩, tk_4_k35 hc hk, ms_6_k35 hc hk⟩
  have n35 := hk
  clear hk
  by_cases hk : c = 37
  · exact ⟨true, (sb, 8, false, qe, pt_h, true, h, z, cm, b, t, f, q, e, x, pn, pf, nI (ks + 1), upd sf ks 259), (10, sub, mq, now, first, upd da (40 * (2 * s + 1) + ks) 201, upd dl (2 * s + 1) (nI (ks + 1))), fun _ => Or.inl ⟨rfl, rfl, hsub, rfl, ⟨8, H, Z, C, B, T, F, G, E, kp, ks + 1, rfl, hb.put_s hp (by omega) (Or.inr (Or.inl ⟨rfl, rfl⟩)) pm_t, Or.inl ⟨rfl, Or.inr (Or.inr (Or.inr (Or.inr (Or.inr (Or.inr (Or.inr (Or.inr (Or.inr (⟨rfl, rfl⟩)))))))))⟩⟩, Fr.put1 (by have := hb.2.2.2.2.2.2.1; omega)⟩, tk_4_k37 hc hk (by have := hb.2.2.2.2.2.2.1; omega) hb.2.2.2.2.1.1, ms_6_k37 hc hk hs hsub (by have := hb.2.2.2.2.2.2.1; omega) hb.2.2.2.2.1.2.1⟩
  have n37 := hk
  clear hk
  by_cases hk : c = 39
  · exact ⟨true, (sb, 8, true, true, pt_h, pm, h, z, cm, b, t, f, q, e, x, pn, pf, sn, sf), (11, sub, 0, now, first, da, dl), fun _ => Or.inl ⟨rfl, rfl, hsub, rfl, ⟨8, H, Z, C, B, T, F, G, E, kp, ks, rfl, hb.stay (by omega), Or.inr ⟨rfl, Or.inr ⟨rfl, rfl⟩, ⟨0, by omega, rfl, by simp⟩⟩⟩, Fr.rf⟩, tk_4_k39 hc hk, ms_6_k39 hc hk⟩
  have n39 := hk
  clear hk
  by_cases hk : c = 43
  · exact ⟨true, (sb, 8, false, qe, pt_h, pm, h, z, cm, b, t, f, q, e, x, pn, pf, nI (ks + 1), upd sf ks 43), (10, sub, mq, now, first, upd da (40 * (2 * s + 1) + ks) 43, upd dl (2 * s + 1) (nI (ks + 1))), fun _ => Or.inl ⟨rfl, rfl, hsub, rfl, ⟨8, H, Z, C, B, T, F, G, E, kp, ks + 1, rfl, hb.put_s hp (by omega) (Or.inr (Or.inr ⟨rfl, by decide, by decide⟩)) (pm_l (by decide)), Or.inl ⟨rfl, Or.inr (Or.inr (Or.inr (Or.inr (Or.inr (Or.inr (Or.inr (Or.inr (Or.inr (⟨rfl, rfl⟩)))))))))⟩⟩, Fr.put1 (by have := hb.2.2.2.2.2.2.1; omega)⟩, tk_4_k43 hc hk (by have := hb.2.2.2.2.2.2.1; omega) hb.2.2.2.2.1.1, ms_6_k43 hc hk hs hsub (by have := hb.2.2.2.2.2.2.1; omega) hb.2.2.2.2.1.2.1⟩
  have n43 := hk
  clear hk
  by_cases hk : c = 44
  · exact ⟨false, (sb, 4, false, qe, pt_h, pm, h, z, cm, b, t, f, q, e, x, pn, pf, sn, sf), (10, sub, mq, now, first, da, dl), fun z => (by cases z), tk_4_k44 hc hk, ms_6_k44 hc hk⟩
  have n44 := hk
  clear hk
  by_cases hk : c = 45
  · exact ⟨true, (sb, 8, false, qe, pt_h, pm, h, z, cm, b, t, f, q, e, x, pn, pf, nI (ks + 1), upd sf ks 258), (10, sub, mq, now, first, upd da (40 * (2 * s + 1) + ks) 200, upd dl (2 * s + 1) (nI (ks + 1))), fun _ => Or.inl ⟨rfl, rfl, hsub, rfl, ⟨8, H, Z, C, B, T, F, G, E, kp, ks + 1, rfl, hb.put_s hp (by omega) (Or.inl ⟨rfl, rfl⟩) (pm_l (by decide)), Or.inl ⟨rfl, Or.inr (Or.inr (Or.inr (Or.inr (Or.inr (Or.inr (Or.inr (Or.inr (Or.inr (⟨rfl, rfl⟩)))))))))⟩⟩, Fr.put1 (by have := hb.2.2.2.2.2.2.1; omega)⟩, tk_4_k45 hc hk (by have := hb.2.2.2.2.2.2.1; omega) hb.2.2.2.2.1.1, ms_6_k45 hc hk hs hsub (by have := hb.2.2.2.2.2.2.1; omega) hb.2.2.2.2.1.2.1⟩
  have n45 := hk
  clear hk
  by_cases hk : c = 46
  · exact ⟨false, (sb, 4, false, qe, pt_h, pm, h, z, cm, b, t, f, q, e, x, pn, pf, sn, sf), (10, sub, mq, now, first, da, dl), fun z => (by cases z), tk_4_k46 hc hk, ms_6_k46 hc hk⟩
  have n46 := hk
  clear hk
  by_cases hk : c = 48
  · have hz : ¬ f ≤ q := by rw [hb.1.1.2.2.2.2.2.1, hb.1.1.2.2.2.2.2.2.1]; exact nI_ge hFG (by have := hb.2.1.2.2.2.2.1; omega)
    exact ⟨false, (sb, 4, false, qe, pt_h, pm, h, z, cm, b, t, f, q, e, x, pn, pf, sn, sf), (10, sub, mq, now, first, da, dl), fun z => (by cases z), tk_4_k48n hc hk hz, ms_6_k48 hc hk⟩
  have n48 := hk
  clear hk
  by_cases hk : c = 59
  · obtain ⟨r, hr, hcp⟩ := s_copy now first
    obtain ⟨nw, hnw, hbg⟩ := s_begin 1 (by omega) 6 sub now dl
    rcases (show s = 0 ∨ s = 1 by omega) with hs0 | hs1
    · have hp : pt_h = false := by rw [hh, hs0]; rfl
      have hsb : sub = 0 := by rw [hsub, hs0]; rfl
      exact ⟨true, (mi, 0, false, false, true, pm, h, z, cm, b, t, f, q, e, x, pn, pf, sn, sf), (0, 1, mq, nw, r, da, upd (upd dl 2 0) 3 0), fun _ => Or.inr ⟨hs0, Or.inr (Or.inl rfl), rfl, rfl, rfl, hnw, hr, rfl, rfl⟩, tk_4_k59 hc hk hp, ms_6_k59 hc hk hcp hbg hsb⟩
    have hp : pt_h = true := by rw [hh, hs1]; rfl
    have hsb : ¬ sub = 0 := by rw [hsub, hs1]; decide
    exact ⟨false, (sb, 4, false, qe, pt_h, pm, h, z, cm, b, t, f, q, e, x, pn, pf, sn, sf), (0, 1, mq, nw, r, da, upd (upd dl 2 0) 3 0), fun z => (by cases z), tk_4_k59n hc hk hp, ms_6_k59n hc hk hcp hbg hsb⟩
  have n59 := hk
  clear hk
  by_cases hk : c = 69
  · have hZ2 : Z < 40 := by have := hb.2.1.1; omega
    have hC2 : C < 40 := by have := hb.2.1.2.1; omega
    by_cases hZ : Z = 0
    · have hz : z = 0 := by rw [hb.1.1.2.1, hZ]; rfl
      have hz2 : now 1 ≤ 0 := by rw [hb.1.2.2.1, hZ]; decide
      exact ⟨false, (sb, 4, false, qe, pt_h, pm, h, z, cm, b, t, f, q, e, x, pn, pf, sn, sf), (7, sub, mq, now, first, da, dl), fun z => (by cases z), tk_4_k69n hc hk hz, ms_6_k69n hc hk hz2⟩
    have hz : ¬ z = 0 := by rw [hb.1.1.2.1]; exact nI_ne0 (by omega) (by omega)
    have hz2 : ¬ now 1 ≤ 0 := by rw [hb.1.2.2.1]; exact nI_nle (by omega) (by omega)
    by_cases hC : C = 0
    · have hcm : cm ≤ 0 := by rw [hb.1.1.2.2.1, hC]; decide
      have hcm2 : now 6 = 0 := by rw [hb.1.2.2.2.2.2.2.2.1, hC]; rfl
      exact ⟨true, (sb, 5, false, qe, pt_h, pm, h, z, cm, b, t, f, q, e, x, pn, pf, sn, sf), (7, sub, mq, now, first, da, dl), fun _ => Or.inl ⟨rfl, rfl, hsub, rfl, ⟨5, H, Z, C, B, T, F, G, E, kp, ks, rfl, hb.pow (by omega) (by omega) hC, Or.inl ⟨rfl, Or.inr (Or.inr (Or.inr (Or.inr (Or.inr (Or.inr (Or.inl ⟨rfl, rfl⟩))))))⟩⟩, Fr.rf⟩, tk_4_k69 hc hk hz hcm, ms_6_k69 hc hk hz2 hcm2⟩
    have hcm : ¬ cm ≤ 0 := by rw [hb.1.1.2.2.1]; exact nI_nle (by omega) (by omega)
    have hcm2 : ¬ now 6 = 0 := by rw [hb.1.2.2.2.2.2.2.2.1]; exact nI_ne0 (by omega) (by omega)
    exact ⟨false, (sb, 4, false, qe, pt_h, pm, h, z, cm, b, t, f, q, e, x, pn, pf, sn, sf), (7, sub, mq, now, first, da, dl), fun z => (by cases z), tk_4_k69m hc hk hz hcm, ms_6_k69m hc hk hz2 hcm2⟩
  have n69 := hk
  clear hk
  by_cases hk : 49 ≤ c ∧ c ≤ 57
  · exact ⟨false, (sb, 4, false, qe, pt_h, pm, h, z, cm, b, t, f, q, e, x, pn, pf, sn, sf), (10, sub, mq, now, first, da, dl), fun z => (by cases z), tk_4_kd hc hk, ms_6_kd hc hk⟩
  have hk : ¬ c = 35 ∧ ¬ c = 37 ∧ ¬ c = 39 ∧ ¬ c = 43 ∧ ¬ c = 44 ∧ ¬ c = 45 ∧ ¬ c = 46 ∧ ¬ c = 48 ∧ ¬ c = 59 ∧ ¬ c = 69 ∧ (c < 48 ∨ 57 < c) := ⟨n35, n37, n39, n43, n44, n45, n46, n48, n59, n69, by omega⟩
  exact ⟨true, (sb, 8, false, qe, pt_h, pm, h, z, cm, b, t, f, q, e, x, pn, pf, nI (ks + 1), upd sf ks (nI c)), (10, sub, mq, now, first, upd da (40 * (2 * s + 1) + ks) (nI c), upd dl (2 * s + 1) (nI (ks + 1))), fun _ => Or.inl ⟨rfl, rfl, hsub, rfl, ⟨8, H, Z, C, B, T, F, G, E, kp, ks + 1, rfl, hb.put_s hp (by omega) (mc_c hc32 hc) (pm_c hc), Or.inl ⟨rfl, Or.inr (Or.inr (Or.inr (Or.inr (Or.inr (Or.inr (Or.inr (Or.inr (Or.inr (⟨rfl, rfl⟩)))))))))⟩⟩, Fr.put1 (by have := hb.2.2.2.2.2.2.1; omega)⟩, tk_4_ko hc hk (by have := hb.2.2.2.2.2.2.1; omega) hb.2.2.2.2.1.1, ms_6_ko hc hk hs hsub (by have := hb.2.2.2.2.2.2.1; omega) hb.2.2.2.2.1.2.1⟩
theorem sim_6 {pos s sb mi : Nat} {qe pt_h pm x : Bool} {h z cm b t f q e pn sn mq sub : Int32} {pf sf now first da dl : Nat → Int32} {H Z C B T F G E kp ks c : Nat} (hb : Bun pos s 5 pm h z cm b t f q e x pn pf sn sf now da dl H Z C B T F G E kp ks) (hp : pos < 40) (hs : s ≤ 1) (hsub : sub = nI s) (hh : pt_h = decide (s = 1)) (hc32 : 32 ≤ c) (hc : c ≤ 126) : ∃ (bb : Bool) (u : CTy) (v : MTy), (bb = true → Nx pos s sb mi pt_h pm h z cm b t f q e x pn pf sn sf now first da dl (5 = 1 ∨ 5 = 4 ∨ 5 = 7 ∨ 5 = 8) u v) ∧ (∀ Q, Q bb u → wp_Mk_take sb mi 5 false qe pt_h pm h z cm b t f q e x pn pf sn sf (nI c) Q) ∧ (∀ Q, Q bb v → wp_M_step 7 sub mq now first da dl (nI c) Q) := by
  by_cases hk : c = 35
  · exact ⟨false, (sb, 5, false, qe, pt_h, pm, h, z, cm, b, t, f, q, e, x, pn, pf, sn, sf), (9, sub, mq, upd now 4 (now 4 + 1), first, da, dl), fun z => (by cases z), tk_5_k35 hc hk, ms_7_k35 hc hk⟩
  have n35 := hk
  clear hk
  by_cases hk : c = 37
  · exact ⟨false, (sb, 5, false, qe, pt_h, pm, h, z, cm, b, t, f, q, e, x, pn, pf, sn, sf), (9, sub, mq, upd now 4 (now 4 + 1), first, da, dl), fun z => (by cases z), tk_5_k37 hc hk, ms_7_k37 hc hk⟩
  have n37 := hk
  clear hk
  by_cases hk : c = 39
  · exact ⟨false, (sb, 5, false, qe, pt_h, pm, h, z, cm, b, t, f, q, e, x, pn, pf, sn, sf), (9, sub, mq, upd now 4 (now 4 + 1), first, da, dl), fun z => (by cases z), tk_5_k39 hc hk, ms_7_k39 hc hk⟩
  have n39 := hk
  clear hk
  by_cases hk : c = 43
  · exact ⟨true, (sb, 6, false, qe, pt_h, pm, h, z, cm, b, t, f, q, e, true, pn, pf, sn, sf), (8, sub, mq, upd now 5 1, first, da, dl), fun _ => Or.inl ⟨rfl, rfl, hsub, rfl, ⟨6, H, Z, C, B, T, F, G, E, kp, ks, rfl, hb.plus, Or.inl ⟨rfl, Or.inr (Or.inr (Or.inr (Or.inr (Or.inr (Or.inr (Or.inr (Or.inl ⟨rfl, rfl⟩)))))))⟩⟩, Fr.rf⟩, tk_5_k43 hc hk, ms_7_k43 hc hk⟩
  have n43 := hk
  clear hk
  by_cases hk : c = 44
  · exact ⟨false, (sb, 5, false, qe, pt_h, pm, h, z, cm, b, t, f, q, e, x, pn, pf, sn, sf), (9, sub, mq, upd now 4 (now 4 + 1), first, da, dl), fun z => (by cases z), tk_5_k44 hc hk, ms_7_k44 hc hk⟩
  have n44 := hk
  clear hk
  by_cases hk : c = 45
  · exact ⟨false, (sb, 5, false, qe, pt_h, pm, h, z, cm, b, t, f, q, e, x, pn, pf, sn, sf), (9, sub, mq, upd now 4 (now 4 + 1), first, da, dl), fun z => (by cases z), tk_5_k45 hc hk, ms_7_k45 hc hk⟩
  have n45 := hk
  clear hk
  by_cases hk : c = 46
  · exact ⟨false, (sb, 5, false, qe, pt_h, pm, h, z, cm, b, t, f, q, e, x, pn, pf, sn, sf), (9, sub, mq, upd now 4 (now 4 + 1), first, da, dl), fun z => (by cases z), tk_5_k46 hc hk, ms_7_k46 hc hk⟩
  have n46 := hk
  clear hk
  by_cases hk : c = 48
  · exact ⟨true, (sb, 7, false, qe, pt_h, pm, h, z, cm, b, t, f, q, e + 1, x, pn, pf, sn, sf), (9, sub, mq, upd now 4 (now 4 + 1), first, da, dl), fun _ => Or.inl ⟨rfl, rfl, hsub, rfl, ⟨7, H, Z, C, B, T, F, G, E + 1, kp, ks, rfl, hb.ez (by omega), Or.inl ⟨rfl, Or.inr (Or.inr (Or.inr (Or.inr (Or.inr (Or.inr (Or.inr (Or.inr (Or.inl ⟨rfl, rfl⟩))))))))⟩⟩, Fr.rf⟩, tk_5_k48 hc hk, ms_7_k48 hc hk⟩
  have n48 := hk
  clear hk
  by_cases hk : c = 59
  · exact ⟨false, (sb, 5, false, qe, pt_h, pm, h, z, cm, b, t, f, q, e, x, pn, pf, sn, sf), (9, sub, mq, upd now 4 (now 4 + 1), first, da, dl), fun z => (by cases z), tk_5_k59 hc hk, ms_7_k59 hc hk⟩
  have n59 := hk
  clear hk
  by_cases hk : c = 69
  · exact ⟨false, (sb, 5, false, qe, pt_h, pm, h, z, cm, b, t, f, q, e, x, pn, pf, sn, sf), (9, sub, mq, upd now 4 (now 4 + 1), first, da, dl), fun z => (by cases z), tk_5_k69 hc hk, ms_7_k69 hc hk⟩
  have n69 := hk
  clear hk
  by_cases hk : 49 ≤ c ∧ c ≤ 57
  · exact ⟨false, (sb, 5, false, qe, pt_h, pm, h, z, cm, b, t, f, q, e, x, pn, pf, sn, sf), (9, sub, mq, upd now 4 (now 4 + 1), first, da, dl), fun z => (by cases z), tk_5_kd hc hk, ms_7_kd hc hk⟩
  have hk : ¬ c = 35 ∧ ¬ c = 37 ∧ ¬ c = 39 ∧ ¬ c = 43 ∧ ¬ c = 44 ∧ ¬ c = 45 ∧ ¬ c = 46 ∧ ¬ c = 48 ∧ ¬ c = 59 ∧ ¬ c = 69 ∧ (c < 48 ∨ 57 < c) := ⟨n35, n37, n39, n43, n44, n45, n46, n48, n59, n69, by omega⟩
  exact ⟨false, (sb, 5, false, qe, pt_h, pm, h, z, cm, b, t, f, q, e, x, pn, pf, sn, sf), (9, sub, mq, upd now 4 (now 4 + 1), first, da, dl), fun z => (by cases z), tk_5_ko hc hk, ms_7_ko hc hk⟩
theorem sim_7 {pos s sb mi : Nat} {qe pt_h pm x : Bool} {h z cm b t f q e pn sn mq sub : Int32} {pf sf now first da dl : Nat → Int32} {H Z C B T F G E kp ks c : Nat} (hb : Bun pos s 6 pm h z cm b t f q e x pn pf sn sf now da dl H Z C B T F G E kp ks) (hp : pos < 40) (hs : s ≤ 1) (hsub : sub = nI s) (hh : pt_h = decide (s = 1)) (hc32 : 32 ≤ c) (hc : c ≤ 126) : ∃ (bb : Bool) (u : CTy) (v : MTy), (bb = true → Nx pos s sb mi pt_h pm h z cm b t f q e x pn pf sn sf now first da dl (6 = 1 ∨ 6 = 4 ∨ 6 = 7 ∨ 6 = 8) u v) ∧ (∀ Q, Q bb u → wp_Mk_take sb mi 6 false qe pt_h pm h z cm b t f q e x pn pf sn sf (nI c) Q) ∧ (∀ Q, Q bb v → wp_M_step 8 sub mq now first da dl (nI c) Q) := by
  by_cases hk : c = 35
  · exact ⟨false, (sb, 6, false, qe, pt_h, pm, h, z, cm, b, t, f, q, e, x, pn, pf, sn, sf), (9, sub, mq, upd now 4 (now 4 + 1), first, da, dl), fun z => (by cases z), tk_6_k35 hc hk, ms_8_k35 hc hk⟩
  have n35 := hk
  clear hk
  by_cases hk : c = 37
  · exact ⟨false, (sb, 6, false, qe, pt_h, pm, h, z, cm, b, t, f, q, e, x, pn, pf, sn, sf), (9, sub, mq, upd now 4 (now 4 + 1), first, da, dl), fun z => (by cases z), tk_6_k37 hc hk, ms_8_k37 hc hk⟩
  have n37 := hk
  clear hk
  by_cases hk : c = 39
  · exact ⟨false, (sb, 6, false, qe, pt_h, pm, h, z, cm, b, t, f, q, e, x, pn, pf, sn, sf), (9, sub, mq, upd now 4 (now 4 + 1), first, da, dl), fun z => (by cases z), tk_6_k39 hc hk, ms_8_k39 hc hk⟩
  have n39 := hk
  clear hk
  by_cases hk : c = 43
  · exact ⟨false, (sb, 6, false, qe, pt_h, pm, h, z, cm, b, t, f, q, e, x, pn, pf, sn, sf), (9, sub, mq, upd now 4 (now 4 + 1), first, da, dl), fun z => (by cases z), tk_6_k43 hc hk, ms_8_k43 hc hk⟩
  have n43 := hk
  clear hk
  by_cases hk : c = 44
  · exact ⟨false, (sb, 6, false, qe, pt_h, pm, h, z, cm, b, t, f, q, e, x, pn, pf, sn, sf), (9, sub, mq, upd now 4 (now 4 + 1), first, da, dl), fun z => (by cases z), tk_6_k44 hc hk, ms_8_k44 hc hk⟩
  have n44 := hk
  clear hk
  by_cases hk : c = 45
  · exact ⟨false, (sb, 6, false, qe, pt_h, pm, h, z, cm, b, t, f, q, e, x, pn, pf, sn, sf), (9, sub, mq, upd now 4 (now 4 + 1), first, da, dl), fun z => (by cases z), tk_6_k45 hc hk, ms_8_k45 hc hk⟩
  have n45 := hk
  clear hk
  by_cases hk : c = 46
  · exact ⟨false, (sb, 6, false, qe, pt_h, pm, h, z, cm, b, t, f, q, e, x, pn, pf, sn, sf), (9, sub, mq, upd now 4 (now 4 + 1), first, da, dl), fun z => (by cases z), tk_6_k46 hc hk, ms_8_k46 hc hk⟩
  have n46 := hk
  clear hk
  by_cases hk : c = 48
  · exact ⟨true, (sb, 7, false, qe, pt_h, pm, h, z, cm, b, t, f, q, e + 1, x, pn, pf, sn, sf), (9, sub, mq, upd now 4 (now 4 + 1), first, da, dl), fun _ => Or.inl ⟨rfl, rfl, hsub, rfl, ⟨7, H, Z, C, B, T, F, G, E + 1, kp, ks, rfl, hb.ez (by omega), Or.inl ⟨rfl, Or.inr (Or.inr (Or.inr (Or.inr (Or.inr (Or.inr (Or.inr (Or.inr (Or.inl ⟨rfl, rfl⟩))))))))⟩⟩, Fr.rf⟩, tk_6_k48 hc hk, ms_8_k48 hc hk⟩
  have n48 := hk
  clear hk
  by_cases hk : c = 59
  · exact ⟨false, (sb, 6, false, qe, pt_h, pm, h, z, cm, b, t, f, q, e, x, pn, pf, sn, sf), (9, sub, mq, upd now 4 (now 4 + 1), first, da, dl), fun z => (by cases z), tk_6_k59 hc hk, ms_8_k59 hc hk⟩
  have n59 := hk
  clear hk
  by_cases hk : c = 69
  · exact ⟨false, (sb, 6, false, qe, pt_h, pm, h, z, cm, b, t, f, q, e, x, pn, pf, sn, sf), (9, sub, mq, upd now 4 (now 4 + 1), first, da, dl), fun z => (by cases z), tk_6_k69 hc hk, ms_8_k69 hc hk⟩
  have n69 := hk
  clear hk
  by_cases hk : 49 ≤ c ∧ c ≤ 57
  · exact ⟨false, (sb, 6, false, qe, pt_h, pm, h, z, cm, b, t, f, q, e, x, pn, pf, sn, sf), (9, sub, mq, upd now 4 (now 4 + 1), first, da, dl), fun z => (by cases z), tk_6_kd hc hk, ms_8_kd hc hk⟩
  have hk : ¬ c = 35 ∧ ¬ c = 37 ∧ ¬ c = 39 ∧ ¬ c = 43 ∧ ¬ c = 44 ∧ ¬ c = 45 ∧ ¬ c = 46 ∧ ¬ c = 48 ∧ ¬ c = 59 ∧ ¬ c = 69 ∧ (c < 48 ∨ 57 < c) := ⟨n35, n37, n39, n43, n44, n45, n46, n48, n59, n69, by omega⟩
  exact ⟨false, (sb, 6, false, qe, pt_h, pm, h, z, cm, b, t, f, q, e, x, pn, pf, sn, sf), (9, sub, mq, upd now 4 (now 4 + 1), first, da, dl), fun z => (by cases z), tk_6_ko hc hk, ms_8_ko hc hk⟩
theorem sim_8 {pos s sb mi : Nat} {qe pt_h pm x : Bool} {h z cm b t f q e pn sn mq sub : Int32} {pf sf now first da dl : Nat → Int32} {H Z C B T F G E kp ks c : Nat} (hb : Bun pos s 7 pm h z cm b t f q e x pn pf sn sf now da dl H Z C B T F G E kp ks) (hp : pos < 40) (hs : s ≤ 1) (hsub : sub = nI s) (hh : pt_h = decide (s = 1)) (hc32 : 32 ≤ c) (hc : c ≤ 126) : ∃ (bb : Bool) (u : CTy) (v : MTy), (bb = true → Nx pos s sb mi pt_h pm h z cm b t f q e x pn pf sn sf now first da dl (7 = 1 ∨ 7 = 4 ∨ 7 = 7 ∨ 7 = 8) u v) ∧ (∀ Q, Q bb u → wp_Mk_take sb mi 7 false qe pt_h pm h z cm b t f q e x pn pf sn sf (nI c) Q) ∧ (∀ Q, Q bb v → wp_M_step 9 sub mq now first da dl (nI c) Q) := by
  by_cases hk : c = 35
  · exact ⟨false, (sb, 7, false, qe, pt_h, pm, h, z, cm, b, t, f, q, e, x, pn, pf, sn, sf), (10, sub, mq, now, first, da, dl), fun z => (by cases z), tk_7_k35 hc hk, ms_9_k35 hc hk⟩
  have n35 := hk
  clear hk
  by_cases hk : c = 37
  · exact ⟨true, (sb, 8, false, qe, pt_h, true, h, z, cm, b, t, f, q, e, x, pn, pf, nI (ks + 1), upd sf ks 259), (10, sub, mq, now, first, upd da (40 * (2 * s + 1) + ks) 201, upd dl (2 * s + 1) (nI (ks + 1))), fun _ => Or.inl ⟨rfl, rfl, hsub, rfl, ⟨8, H, Z, C, B, T, F, G, E, kp, ks + 1, rfl, hb.put_s hp (by omega) (Or.inr (Or.inl ⟨rfl, rfl⟩)) pm_t, Or.inl ⟨rfl, Or.inr (Or.inr (Or.inr (Or.inr (Or.inr (Or.inr (Or.inr (Or.inr (Or.inr (⟨rfl, rfl⟩)))))))))⟩⟩, Fr.put1 (by have := hb.2.2.2.2.2.2.1; omega)⟩, tk_7_k37 hc hk (by have := hb.2.2.2.2.2.2.1; omega) hb.2.2.2.2.1.1, ms_9_k37 hc hk hs hsub (by have := hb.2.2.2.2.2.2.1; omega) hb.2.2.2.2.1.2.1⟩
  have n37 := hk
  clear hk
  by_cases hk : c = 39
  · exact ⟨true, (sb, 8, true, true, pt_h, pm, h, z, cm, b, t, f, q, e, x, pn, pf, sn, sf), (11, sub, 0, now, first, da, dl), fun _ => Or.inl ⟨rfl, rfl, hsub, rfl, ⟨8, H, Z, C, B, T, F, G, E, kp, ks, rfl, hb.stay (by omega), Or.inr ⟨rfl, Or.inr ⟨rfl, rfl⟩, ⟨0, by omega, rfl, by simp⟩⟩⟩, Fr.rf⟩, tk_7_k39 hc hk, ms_9_k39 hc hk⟩
  have n39 := hk
  clear hk
  by_cases hk : c = 43
  · exact ⟨true, (sb, 8, false, qe, pt_h, pm, h, z, cm, b, t, f, q, e, x, pn, pf, nI (ks + 1), upd sf ks 43), (10, sub, mq, now, first, upd da (40 * (2 * s + 1) + ks) 43, upd dl (2 * s + 1) (nI (ks + 1))), fun _ => Or.inl ⟨rfl, rfl, hsub, rfl, ⟨8, H, Z, C, B, T, F, G, E, kp, ks + 1, rfl, hb.put_s hp (by omega) (Or.inr (Or.inr ⟨rfl, by decide, by decide⟩)) (pm_l (by decide)), Or.inl ⟨rfl, Or.inr (Or.inr (Or.inr (Or.inr (Or.inr (Or.inr (Or.inr (Or.inr (Or.inr (⟨rfl, rfl⟩)))))))))⟩⟩, Fr.put1 (by have := hb.2.2.2.2.2.2.1; omega)⟩, tk_7_k43 hc hk (by have := hb.2.2.2.2.2.2.1; omega) hb.2.2.2.2.1.1, ms_9_k43 hc hk hs hsub (by have := hb.2.2.2.2.2.2.1; omega) hb.2.2.2.2.1.2.1⟩
  have n43 := hk
  clear hk
  by_cases hk : c = 44
  · exact ⟨false, (sb, 7, false, qe, pt_h, pm, h, z, cm, b, t, f, q, e, x, pn, pf, sn, sf), (10, sub, mq, now, first, da, dl), fun z => (by cases z), tk_7_k44 hc hk, ms_9_k44 hc hk⟩
  have n44 := hk
  clear hk
  by_cases hk : c = 45
  · exact ⟨true, (sb, 8, false, qe, pt_h, pm, h, z, cm, b, t, f, q, e, x, pn, pf, nI (ks + 1), upd sf ks 258), (10, sub, mq, now, first, upd da (40 * (2 * s + 1) + ks) 200, upd dl (2 * s + 1) (nI (ks + 1))), fun _ => Or.inl ⟨rfl, rfl, hsub, rfl, ⟨8, H, Z, C, B, T, F, G, E, kp, ks + 1, rfl, hb.put_s hp (by omega) (Or.inl ⟨rfl, rfl⟩) (pm_l (by decide)), Or.inl ⟨rfl, Or.inr (Or.inr (Or.inr (Or.inr (Or.inr (Or.inr (Or.inr (Or.inr (Or.inr (⟨rfl, rfl⟩)))))))))⟩⟩, Fr.put1 (by have := hb.2.2.2.2.2.2.1; omega)⟩, tk_7_k45 hc hk (by have := hb.2.2.2.2.2.2.1; omega) hb.2.2.2.2.1.1, ms_9_k45 hc hk hs hsub (by have := hb.2.2.2.2.2.2.1; omega) hb.2.2.2.2.1.2.1⟩
  have n45 := hk
  clear hk
  by_cases hk : c = 46
  · exact ⟨false, (sb, 7, false, qe, pt_h, pm, h, z, cm, b, t, f, q, e, x, pn, pf, sn, sf), (10, sub, mq, now, first, da, dl), fun z => (by cases z), tk_7_k46 hc hk, ms_9_k46 hc hk⟩
  have n46 := hk
  clear hk
  by_cases hk : c = 48
  · exact ⟨true, (sb, 7, false, qe, pt_h, pm, h, z, cm, b, t, f, q, e + 1, x, pn, pf, sn, sf), (9, sub, mq, upd now 4 (now 4 + 1), first, da, dl), fun _ => Or.inl ⟨rfl, rfl, hsub, rfl, ⟨7, H, Z, C, B, T, F, G, E + 1, kp, ks, rfl, hb.ez (by omega), Or.inl ⟨rfl, Or.inr (Or.inr (Or.inr (Or.inr (Or.inr (Or.inr (Or.inr (Or.inr (Or.inl ⟨rfl, rfl⟩))))))))⟩⟩, Fr.rf⟩, tk_7_k48 hc hk, ms_9_k48 hc hk⟩
  have n48 := hk
  clear hk
  by_cases hk : c = 59
  · obtain ⟨r, hr, hcp⟩ := s_copy now first
    obtain ⟨nw, hnw, hbg⟩ := s_begin 1 (by omega) 9 sub now dl
    rcases (show s = 0 ∨ s = 1 by omega) with hs0 | hs1
    · have hp : pt_h = false := by rw [hh, hs0]; rfl
      have hsb : sub = 0 := by rw [hsub, hs0]; rfl
      exact ⟨true, (mi, 0, false, false, true, pm, h, z, cm, b, t, f, q, e, x, pn, pf, sn, sf), (0, 1, mq, nw, r, da, upd (upd dl 2 0) 3 0), fun _ => Or.inr ⟨hs0, Or.inr (Or.inr (Or.inl rfl)), rfl, rfl, rfl, hnw, hr, rfl, rfl⟩, tk_7_k59 hc hk hp, ms_9_k59 hc hk hcp hbg hsb⟩
    have hp : pt_h = true := by rw [hh, hs1]; rfl
    have hsb : ¬ sub = 0 := by rw [hsub, hs1]; decide
    exact ⟨false, (sb, 7, false, qe, pt_h, pm, h, z, cm, b, t, f, q, e, x, pn, pf, sn, sf), (0, 1, mq, nw, r, da, upd (upd dl 2 0) 3 0), fun z => (by cases z), tk_7_k59n hc hk hp, ms_9_k59n hc hk hcp hbg hsb⟩
  have n59 := hk
  clear hk
  by_cases hk : c = 69
  · exact ⟨false, (sb, 7, false, qe, pt_h, pm, h, z, cm, b, t, f, q, e, x, pn, pf, sn, sf), (10, sub, mq, now, first, da, dl), fun z => (by cases z), tk_7_k69 hc hk, ms_9_k69 hc hk⟩
  have n69 := hk
  clear hk
  by_cases hk : 49 ≤ c ∧ c ≤ 57
  · exact ⟨false, (sb, 7, false, qe, pt_h, pm, h, z, cm, b, t, f, q, e, x, pn, pf, sn, sf), (10, sub, mq, now, first, da, dl), fun z => (by cases z), tk_7_kd hc hk, ms_9_kd hc hk⟩
  have hk : ¬ c = 35 ∧ ¬ c = 37 ∧ ¬ c = 39 ∧ ¬ c = 43 ∧ ¬ c = 44 ∧ ¬ c = 45 ∧ ¬ c = 46 ∧ ¬ c = 48 ∧ ¬ c = 59 ∧ ¬ c = 69 ∧ (c < 48 ∨ 57 < c) := ⟨n35, n37, n39, n43, n44, n45, n46, n48, n59, n69, by omega⟩
  exact ⟨true, (sb, 8, false, qe, pt_h, pm, h, z, cm, b, t, f, q, e, x, pn, pf, nI (ks + 1), upd sf ks (nI c)), (10, sub, mq, now, first, upd da (40 * (2 * s + 1) + ks) (nI c), upd dl (2 * s + 1) (nI (ks + 1))), fun _ => Or.inl ⟨rfl, rfl, hsub, rfl, ⟨8, H, Z, C, B, T, F, G, E, kp, ks + 1, rfl, hb.put_s hp (by omega) (mc_c hc32 hc) (pm_c hc), Or.inl ⟨rfl, Or.inr (Or.inr (Or.inr (Or.inr (Or.inr (Or.inr (Or.inr (Or.inr (Or.inr (⟨rfl, rfl⟩)))))))))⟩⟩, Fr.put1 (by have := hb.2.2.2.2.2.2.1; omega)⟩, tk_7_ko hc hk (by have := hb.2.2.2.2.2.2.1; omega) hb.2.2.2.2.1.1, ms_9_ko hc hk hs hsub (by have := hb.2.2.2.2.2.2.1; omega) hb.2.2.2.2.1.2.1⟩
theorem sim_9 {pos s sb mi : Nat} {qe pt_h pm x : Bool} {h z cm b t f q e pn sn mq sub : Int32} {pf sf now first da dl : Nat → Int32} {H Z C B T F G E kp ks c : Nat} (hb : Bun pos s 8 pm h z cm b t f q e x pn pf sn sf now da dl H Z C B T F G E kp ks) (hp : pos < 40) (hs : s ≤ 1) (hsub : sub = nI s) (hh : pt_h = decide (s = 1)) (hc32 : 32 ≤ c) (hc : c ≤ 126) : ∃ (bb : Bool) (u : CTy) (v : MTy), (bb = true → Nx pos s sb mi pt_h pm h z cm b t f q e x pn pf sn sf now first da dl (8 = 1 ∨ 8 = 4 ∨ 8 = 7 ∨ 8 = 8) u v) ∧ (∀ Q, Q bb u → wp_Mk_take sb mi 8 false qe pt_h pm h z cm b t f q e x pn pf sn sf (nI c) Q) ∧ (∀ Q, Q bb v → wp_M_step 10 sub mq now first da dl (nI c) Q) := by
  by_cases hk : c = 35
  · exact ⟨false, (sb, 8, false, qe, pt_h, pm, h, z, cm, b, t, f, q, e, x, pn, pf, sn, sf), (10, sub, mq, now, first, da, dl), fun z => (by cases z), tk_8_k35 hc hk, ms_10_k35 hc hk⟩
  have n35 := hk
  clear hk
  by_cases hk : c = 37
  · exact ⟨true, (sb, 8, false, qe, pt_h, true, h, z, cm, b, t, f, q, e, x, pn, pf, nI (ks + 1), upd sf ks 259), (10, sub, mq, now, first, upd da (40 * (2 * s + 1) + ks) 201, upd dl (2 * s + 1) (nI (ks + 1))), fun _ => Or.inl ⟨rfl, rfl, hsub, rfl, ⟨8, H, Z, C, B, T, F, G, E, kp, ks + 1, rfl, hb.put_s hp (by omega) (Or.inr (Or.inl ⟨rfl, rfl⟩)) pm_t, Or.inl ⟨rfl, Or.inr (Or.inr (Or.inr (Or.inr (Or.inr (Or.inr (Or.inr (Or.inr (Or.inr (⟨rfl, rfl⟩)))))))))⟩⟩, Fr.put1 (by have := hb.2.2.2.2.2.2.1; omega)⟩, tk_8_k37 hc hk (by have := hb.2.2.2.2.2.2.1; omega) hb.2.2.2.2.1.1, ms_10_k37 hc hk hs hsub (by have := hb.2.2.2.2.2.2.1; omega) hb.2.2.2.2.1.2.1⟩
  have n37 := hk
  clear hk
  by_cases hk : c = 39
  · exact ⟨true, (sb, 8, true, true, pt_h, pm, h, z, cm, b, t, f, q, e, x, pn, pf, sn, sf), (11, sub, 0, now, first, da, dl), fun _ => Or.inl ⟨rfl, rfl, hsub, rfl, ⟨8, H, Z, C, B, T, F, G, E, kp, ks, rfl, hb.stay (by omega), Or.inr ⟨rfl, Or.inr ⟨rfl, rfl⟩, ⟨0, by omega, rfl, by simp⟩⟩⟩, Fr.rf⟩, tk_8_k39 hc hk, ms_10_k39 hc hk⟩
  have n39 := hk
  clear hk
  by_cases hk : c = 43
  · exact ⟨true, (sb, 8, false, qe, pt_h, pm, h, z, cm, b, t, f, q, e, x, pn, pf, nI (ks + 1), upd sf ks 43), (10, sub, mq, now, first, upd da (40 * (2 * s + 1) + ks) 43, upd dl (2 * s + 1) (nI (ks + 1))), fun _ => Or.inl ⟨rfl, rfl, hsub, rfl, ⟨8, H, Z, C, B, T, F, G, E, kp, ks + 1, rfl, hb.put_s hp (by omega) (Or.inr (Or.inr ⟨rfl, by decide, by decide⟩)) (pm_l (by decide)), Or.inl ⟨rfl, Or.inr (Or.inr (Or.inr (Or.inr (Or.inr (Or.inr (Or.inr (Or.inr (Or.inr (⟨rfl, rfl⟩)))))))))⟩⟩, Fr.put1 (by have := hb.2.2.2.2.2.2.1; omega)⟩, tk_8_k43 hc hk (by have := hb.2.2.2.2.2.2.1; omega) hb.2.2.2.2.1.1, ms_10_k43 hc hk hs hsub (by have := hb.2.2.2.2.2.2.1; omega) hb.2.2.2.2.1.2.1⟩
  have n43 := hk
  clear hk
  by_cases hk : c = 44
  · exact ⟨false, (sb, 8, false, qe, pt_h, pm, h, z, cm, b, t, f, q, e, x, pn, pf, sn, sf), (10, sub, mq, now, first, da, dl), fun z => (by cases z), tk_8_k44 hc hk, ms_10_k44 hc hk⟩
  have n44 := hk
  clear hk
  by_cases hk : c = 45
  · exact ⟨true, (sb, 8, false, qe, pt_h, pm, h, z, cm, b, t, f, q, e, x, pn, pf, nI (ks + 1), upd sf ks 258), (10, sub, mq, now, first, upd da (40 * (2 * s + 1) + ks) 200, upd dl (2 * s + 1) (nI (ks + 1))), fun _ => Or.inl ⟨rfl, rfl, hsub, rfl, ⟨8, H, Z, C, B, T, F, G, E, kp, ks + 1, rfl, hb.put_s hp (by omega) (Or.inl ⟨rfl, rfl⟩) (pm_l (by decide)), Or.inl ⟨rfl, Or.inr (Or.inr (Or.inr (Or.inr (Or.inr (Or.inr (Or.inr (Or.inr (Or.inr (⟨rfl, rfl⟩)))))))))⟩⟩, Fr.put1 (by have := hb.2.2.2.2.2.2.1; omega)⟩, tk_8_k45 hc hk (by have := hb.2.2.2.2.2.2.1; omega) hb.2.2.2.2.1.1, ms_10_k45 hc hk hs hsub (by have := hb.2.2.2.2.2.2.1; omega) hb.2.2.2.2.1.2.1⟩
  have n45 := hk
  clear hk
  by_cases hk : c = 46
  · exact ⟨false, (sb, 8, false, qe, pt_h, pm, h, z, cm, b, t, f, q, e, x, pn, pf, sn, sf), (10, sub, mq, now, first, da, dl), fun z => (by cases z), tk_8_k46 hc hk, ms_10_k46 hc hk⟩
  have n46 := hk
  clear hk
  by_cases hk : c = 48
  · exact ⟨false, (sb, 8, false, qe, pt_h, pm, h, z, cm, b, t, f, q, e, x, pn, pf, sn, sf), (10, sub, mq, now, first, da, dl), fun z => (by cases z), tk_8_k48 hc hk, ms_10_k48 hc hk⟩
  have n48 := hk
  clear hk
  by_cases hk : c = 59
  · obtain ⟨r, hr, hcp⟩ := s_copy now first
    obtain ⟨nw, hnw, hbg⟩ := s_begin 1 (by omega) 10 sub now dl
    rcases (show s = 0 ∨ s = 1 by omega) with hs0 | hs1
    · have hp : pt_h = false := by rw [hh, hs0]; rfl
      have hsb : sub = 0 := by rw [hsub, hs0]; rfl
      exact ⟨true, (mi, 0, false, false, true, pm, h, z, cm, b, t, f, q, e, x, pn, pf, sn, sf), (0, 1, mq, nw, r, da, upd (upd dl 2 0) 3 0), fun _ => Or.inr ⟨hs0, Or.inr (Or.inr (Or.inr (rfl))), rfl, rfl, rfl, hnw, hr, rfl, rfl⟩, tk_8_k59 hc hk hp, ms_10_k59 hc hk hcp hbg hsb⟩
    have hp : pt_h = true := by rw [hh, hs1]; rfl
    have hsb : ¬ sub = 0 := by rw [hsub, hs1]; decide
    exact ⟨false, (sb, 8, false, qe, pt_h, pm, h, z, cm, b, t, f, q, e, x, pn, pf, sn, sf), (0, 1, mq, nw, r, da, upd (upd dl 2 0) 3 0), fun z => (by cases z), tk_8_k59n hc hk hp, ms_10_k59n hc hk hcp hbg hsb⟩
  have n59 := hk
  clear hk
  by_cases hk : c = 69
  · exact ⟨false, (sb, 8, false, qe, pt_h, pm, h, z, cm, b, t, f, q, e, x, pn, pf, sn, sf), (10, sub, mq, now, first, da, dl), fun z => (by cases z), tk_8_k69 hc hk, ms_10_k69 hc hk⟩
  have n69 := hk
  clear hk
  by_cases hk : 49 ≤ c ∧ c ≤ 57
  · exact ⟨false, (sb, 8, false, qe, pt_h, pm, h, z, cm, b, t, f, q, e, x, pn, pf, sn, sf), (10, sub, mq, now, first, da, dl), fun z => (by cases z), tk_8_kd hc hk, ms_10_kd hc hk⟩
  have hk : ¬ c = 35 ∧ ¬ c = 37 ∧ ¬ c = 39 ∧ ¬ c = 43 ∧ ¬ c = 44 ∧ ¬ c = 45 ∧ ¬ c = 46 ∧ ¬ c = 48 ∧ ¬ c = 59 ∧ ¬ c = 69 ∧ (c < 48 ∨ 57 < c) := ⟨n35, n37, n39, n43, n44, n45, n46, n48, n59, n69, by omega⟩
  exact ⟨true, (sb, 8, false, qe, pt_h, pm, h, z, cm, b, t, f, q, e, x, pn, pf, nI (ks + 1), upd sf ks (nI c)), (10, sub, mq, now, first, upd da (40 * (2 * s + 1) + ks) (nI c), upd dl (2 * s + 1) (nI (ks + 1))), fun _ => Or.inl ⟨rfl, rfl, hsub, rfl, ⟨8, H, Z, C, B, T, F, G, E, kp, ks + 1, rfl, hb.put_s hp (by omega) (mc_c hc32 hc) (pm_c hc), Or.inl ⟨rfl, Or.inr (Or.inr (Or.inr (Or.inr (Or.inr (Or.inr (Or.inr (Or.inr (Or.inr (⟨rfl, rfl⟩)))))))))⟩⟩, Fr.put1 (by have := hb.2.2.2.2.2.2.1; omega)⟩, tk_8_ko hc hk (by have := hb.2.2.2.2.2.2.1; omega) hb.2.2.2.2.1.1, ms_10_ko hc hk hs hsub (by have := hb.2.2.2.2.2.2.1; omega) hb.2.2.2.2.1.2.1⟩
