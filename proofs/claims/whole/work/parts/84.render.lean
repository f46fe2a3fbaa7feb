/-! what a written number looks like between its affixes -/
def isD (s : Nat → Nat) (c : Int32) : Prop := ¬ c - nI (s 5) < 0 ∧ c - nI (s 5) ≤ 9
def okc (s : Nat → Nat) (t : Nat) (c : Int32) : Prop := isD s c ∨ (c = nI (s 1) ∧ t = 0) ∨ (c = nI (s 0) ∧ t = 0) ∨ (c = nI (s 4) ∧ t ≤ 1) ∨ (c = nI (s 2) ∧ t = 2) ∨ (c = 43 ∧ t = 2)
def nxt (s : Nat → Nat) (t : Nat) (c : Int32) : Nat := if c = nI (s 0) then 1 else if c = nI (s 4) then 2 else t
def gram (s : Nat → Nat) : Nat → List Int32 → Prop
  | _, [] => True
  | t, c :: l => okc s t c ∧ gram s (nxt s t c) l
section GR
variable {s : Nat → Nat}
theorem isD_nI {d : Nat} (hd : d ≤ 9) : isD s (nI (s 5 + d)) := by
  have e : nI (s 5 + d) - nI (s 5) = nI d := by
    rw [nI_iI, nI_iI, iI_sub, nI_iI]; congr 1; omega
  unfold isD
  rw [e]
  exact ⟨nI_pos (by omega), nI_le (b := 9) hd (by omega)⟩
theorem isD_ne (hS : SoundC s) {c : Int32} (h : isD s c) : (∀ k, k < 5 → c ≠ nI (s k)) ∧ c ≠ 43 := by
  obtain ⟨h1, h2, h3, h4⟩ := hS
  have key : ∀ k : Nat, k ≤ 126 → ¬ (s 5 ≤ k ∧ k ≤ s 5 + 9) → c ≠ nI k := fun k hk hn hc => by
    obtain ⟨d1, d2⟩ := h
    have e : c - nI (s 5) = iI ((k : Int) - (s 5 : Int)) := by rw [hc, nI_iI, nI_iI, iI_sub]
    have z9 : (9 : Int32) = iI 9 := by decide
    rw [e, z_0, cLt (by omega) (by omega) (by omega) (by omega)] at d1
    rw [e, z9, cLe (by omega) (by omega) (by omega) (by omega)] at d2
    omega
  refine ⟨fun k hk => key (s k) (h4 k hk).2.1 (h4 k hk).2.2.2.1, ?_⟩
  exact key 43 (by omega) h3
theorem nxt_dig (hS : SoundC s) {c : Int32} (h : isD s c) (t : Nat) : nxt s t c = t := by
  unfold nxt
  rw [if_neg ((isD_ne hS h).1 0 (by omega)), if_neg ((isD_ne hS h).1 4 (by omega))]
theorem gram_dig (hS : SoundC s) {t : Nat} {c : Int32} (h : isD s c) {l : List Int32} (hl : gram s t l) : gram s t (c :: l) := by
  unfold gram
  refine ⟨Or.inl h, ?_⟩
  rw [nxt_dig hS h]; exact hl
theorem gram_digs (hS : SoundC s) {t : Nat} {r : List Int32} (hr : gram s t r) : ∀ l : List Int32, (∀ c, c ∈ l → isD s c) → gram s t (l ++ r) := by
  intro l
  induction l with
  | nil => intro _; exact hr
  | cons c l ih =>
    intro h
    exact gram_dig hS (h c (by simp)) (ih fun c' hc' => h c' (by simp [hc']))
theorem sym_ne (hS : SoundC s) {i j : Nat} (hi : i < 5) (hj : j < 5) (h : i ≠ j) : nI (s i) ≠ nI (s j) := fun z => by
  have b1 := (hS.2.2.2 i hi).2.1
  have b2 := (hS.2.2.2 j hj).2.1
  have e := (nI_eq (by omega) (by omega)).mp z
  by_cases hij : i < j
  · exact (hS.2.2.2 j hj).2.2.2.2 i hij e
  · exact (hS.2.2.2 i hi).2.2.2.2 j (by omega) e.symm
theorem sym_ne43 (hS : SoundC s) {i : Nat} (hi : i < 5) : (43 : Int32) ≠ nI (s i) := fun z => by
  have b1 := (hS.2.2.2 i hi)
  have e := (nI_eq (a := 43) (by omega) (by omega)).mp z
  exact b1.2.2.1 e.symm
theorem gram_wh (hS : SoundC s) {D : Int → Nat} (hD : ∀ p, D p ≤ 9) {e : Int} {gp : Nat → Bool} {r : List Int32} (hr : gram s 0 r) : ∀ n, gram s 0 (whW s D e gp n ++ r) := by
  intro n
  induction n with
  | zero => exact hr
  | succ n ih =>
    unfold whW
    rw [List.append_assoc]
    refine gram_dig hS (isD_nI (hD _)) ?_
    rw [List.append_assoc]
    split
    · show gram s 0 (nI (s 1) :: (whW s D e gp n ++ r))
      unfold gram
      refine ⟨Or.inr (Or.inl ⟨rfl, rfl⟩), ?_⟩
      have : nxt s 0 (nI (s 1)) = 0 := by
        unfold nxt
        rw [if_neg (sym_ne hS (by omega) (by omega) (by omega)), if_neg (sym_ne hS (by omega) (by omega) (by omega))]
      rw [this]; exact ih
    · exact ih
theorem gram_fr (hS : SoundC s) {D : Int → Nat} (hD : ∀ p, D p ≤ 9) {e : Int} {t k : Nat} {r : List Int32} (hr : gram s t r) : gram s t (frW s D e k ++ r) := by
  refine gram_digs hS hr _ fun c hc => ?_
  unfold frW at hc
  obtain ⟨i, -, rfl⟩ := List.mem_map.mp hc
  exact isD_nI (hD _)
theorem gram_ex (hS : SoundC s) {n t : Nat} : ∀ k, gram s t (exW s n k) := by
  intro k
  induction k with
  | zero => trivial
  | succ k ih =>
    unfold exW
    exact gram_dig hS (isD_nI (by omega)) ih
theorem gram_exp (hS : SoundC s) {e : Int} {x : Bool} {E t : Nat} (ht : t ≤ 1) : gram s t (expW s e x E) := by
  unfold expW
  show gram s t (nI (s 4) :: (sgW s e x ++ exW s e.natAbs (wdt e.natAbs E)))
  unfold gram
  refine ⟨Or.inr (Or.inr (Or.inr (Or.inl ⟨rfl, ht⟩))), ?_⟩
  have e2 : nxt s t (nI (s 4)) = 2 := by
    unfold nxt
    rw [if_neg (sym_ne hS (by omega) (by omega) (by omega)), if_pos rfl]
  rw [e2]
  unfold sgW
  split
  · show gram s 2 (nI (s 2) :: exW s e.natAbs (wdt e.natAbs E))
    unfold gram
    exact ⟨Or.inr (Or.inr (Or.inr (Or.inr (Or.inl ⟨rfl, rfl⟩)))), gram_ex hS _⟩
  · split
    · show gram s 2 (43 :: exW s e.natAbs (wdt e.natAbs E))
      unfold gram
      exact ⟨Or.inr (Or.inr (Or.inr (Or.inr (Or.inr ⟨rfl, rfl⟩)))), gram_ex hS _⟩
    · exact gram_ex hS _
theorem gram_num (hS : SoundC s) {D : Int → Nat} (hD : ∀ p, D p ≤ 9) {e : Int} {gp : Nat → Bool} {W K : Nat} {r : List Int32} (h0 : gram s 0 r) (h1 : gram s 1 r) : gram s 0 (numW s D e gp W K ++ r) := by
  unfold numW
  rw [List.append_assoc]
  refine gram_wh hS hD ?_ W
  rw [List.append_assoc]
  split
  · show gram s 0 (nI (s 0) :: (frW s D e K ++ r))
    unfold gram
    refine ⟨Or.inr (Or.inr (Or.inl ⟨rfl, rfl⟩)), ?_⟩
    have : nxt s 0 (nI (s 0)) = 1 := by unfold nxt; rw [if_pos rfl]
    rw [this]
    exact gram_fr hS hD h1
  · exact gram_fr hS hD h0
end GR
section BO
variable {D : Int → Nat} {f g sf mf has af al : Nat → Int32} {s : Nat → Nat} {H Z C B T F G E L : Nat} {x : Bool}
theorem op_body (hs : Num6 sf s) (hm : Num6 mf s) (hS : SoundC s) (hD : DigOk D) (hf : DigC f D) (hg : DigM g D) {e : Int} (e1 : -99 ≤ e) (e2 : e ≤ 99) (h0 : has 0 = nI H) (h1 : has 1 = nI Z) (h3 : has 3 = nI G) (h4 : has 4 = nI E) (h5 : has 5 = bI x) (h6 : has 6 = nI C) (h7 : has 7 = nI B) (h8 : has 8 = nI (if C = 1 then B else T)) (hbd : Bd 40 H Z C B T F G E) (hL : L ≤ 9) (hpos : 0 < C → 1 ≤ T ∧ 1 ≤ B) (hEC : 0 < E → C = 0) (hte : ∀ t, Top D t → t - e + 1 ≤ 40) (hle : ∀ l, Bot D l → e - l ≤ 40) (hex : ∀ Q : Int32 → Unit → Prop, Q (iI e) () → wp_Sc_exponentFor f (nI H) (nI Z) (nI E) Q)
    {a kA kB : Nat} (ha : a ≤ 2) {an bn : Int32} {apf bpf : Nat → Int32} (hra : RelAf an apf af al a kA) (hrb : RelAf bn bpf af al (a + 1) kB) (hkA : kA ≤ 40) (hkB : kB ≤ 40) {w : List Int32} {pn mn : Int32} {pf mo : Nat → Int32} (hp : Pg pn pf w) (hq : Pg mn mo w) (hl : w.length ≤ 1) (pt_h pl_pm : Bool) (pl_f : Int32) (two : Bool) (mi_p_n mi_s_n : Int32) (mi_p_f mi_s_f : Nat → Int32) :
    ∃ (mid : List Int32) (pn' : Int32) (pf' : Nat → Int32) (mn' : Int32) (mo' : Nat → Int32), 1 ≤ mid.length ∧ mid.length ≤ 170 ∧ gram s 0 mid ∧ Pg pn' pf' (w ++ affW s apf kA ++ mid ++ affW s bpf kB) ∧ Pg mn' mo' (w ++ affW s apf kA ++ mid ++ affW s bpf kB) ∧
      (∀ Q : Bool → (Int32 × (Nat → Int32) × (Nat → Int32)) → Prop, Q true (pn', pf', f) → wp_Sc_compose_J691 (nI L) sf pt_h pl_pm (nI H) (nI Z) (nI C) (nI B) (nI T) pl_f (nI G) (nI E) x an apf bn bpf mi_p_n mi_p_f mi_s_n mi_s_f pn pf f Q) ∧
      (∀ Q : Bool → (Int32 × (Nat → Int32) × (Nat → Int32)) → Prop, Q true (mn', g, mo') → wp_M_render_J1870 two (nI L) has af al mf (iI e) (nI a) mn g mo Q) := by
  have hE : E ≤ 40 := hbd.2.2.2.2.2.2
  have ea1 : nI a + 1 = nI (a + 1) := nI_1 a
  obtain ⟨p1, q1, f1, o1, hp1, hq1, hw1, hv1⟩ := op_affix hs hm (by omega) hkA hra (w := w) (by omega) hp hq
  obtain ⟨W, K, p2, f2, q2, o2, hW, hK, hWK, hp2, hq2, hw2, hv2⟩ := op_digits (F := F) hs hm hD hf hg e1 e2 h0 h1 h3 h4 h6 h7 h8 hbd hL hpos hEC hte hle hp1 hq1 (by rw [List.length_append, affW_len]; omega)
  have hnl := numW_len s D e (gpB W L C B T) W K
  by_cases hE0 : E = 0
  · have e0 : nI E ≤ 0 := by rw [hE0]; decide
    obtain ⟨p3, q3, f3, o3, hp3, hq3, hw3, hv3⟩ := op_affix hs hm (by omega) hkB hrb (by rw [List.length_append, List.length_append, affW_len]; omega) hp2 hq2
    refine ⟨numW s D e (gpB W L C B T) W K, p3, f3, q3, o3, by omega, by omega, ?_, hp3, hq3, fun Q hQ => ?_, fun Q hQ => ?_⟩
    · have := gram_num hS hD.1 (e := e) (gp := gpB W L C B T) (W := W) (K := K) (r := []) trivial trivial
      rw [List.append_nil] at this; exact this
    · unfold wp_Sc_compose_J691 wp_Sub_hasExponent
      exact hw1 _ (hex _ (hw2 _ ⟨fun _ => ⟨fun _ => hw3 _ hQ, fun z => (by cases z)⟩, fun z => absurd e0 z⟩))
    · unfold wp_M_render_J1870
      rw [ea1, cn4, h4]
      exact hv1 _ (hv2 _ ⟨in4, fun _ => hv3 _ hQ, fun z => absurd e0 z⟩)
  · have e0 : ¬ nI E ≤ 0 := nI_nle (by omega) (by omega)
    obtain ⟨p4, f4, q4, o4, hp4, hq4, hw4, hv4⟩ := op_exp hs hm e1 e2 (by omega) hE h4 h5 hp2 hq2 (by rw [List.length_append, List.length_append, affW_len]; omega)
    have hxl := expW_len s e x hE
    obtain ⟨p3, q3, f3, o3, hp3, hq3, hw3, hv3⟩ := op_affix hs hm (by omega) hkB hrb (by rw [List.length_append, List.length_append, List.length_append, affW_len]; omega) hp4 hq4
    have el : w ++ affW s apf kA ++ (numW s D e (gpB W L C B T) W K ++ expW s e x E) ++ affW s bpf kB = w ++ affW s apf kA ++ numW s D e (gpB W L C B T) W K ++ expW s e x E ++ affW s bpf kB := by simp only [List.append_assoc]
    refine ⟨numW s D e (gpB W L C B T) W K ++ expW s e x E, p3, f3, q3, o3, by rw [List.length_append]; omega, by rw [List.length_append]; omega, gram_num hS hD.1 (gram_exp hS (by omega)) (gram_exp hS (by omega)), by rw [el]; exact hp3, by rw [el]; exact hq3, fun Q hQ => ?_, fun Q hQ => ?_⟩
    · unfold wp_Sc_compose_J691 wp_Sub_hasExponent
      exact hw1 _ (hex _ (hw2 _ ⟨fun z => absurd z e0, fun _ => ⟨fun z => (by cases z), fun _ => hw4 _ (hw3 _ hQ)⟩⟩))
    · unfold wp_M_render_J1870
      rw [ea1, cn4, h4]
      exact hv1 _ (hv2 _ ⟨in4, fun z => absurd z e0, fun _ => hv4 _ (hv3 _ hQ)⟩)
end BO
/-- the affixes that a number of this sign has, and whether MINUS stands before them -/
def Sel (ng two : Bool) (kp ks : Nat) (mpn : Int32) (mpf : Nat → Int32) (msn : Int32) (msf af al : Nat → Int32) (kA kB nm : Nat) : Prop :=
  (ng = true ∧ two = true ∧ RelAf mpn mpf af al 2 kA ∧ RelAf msn msf af al 3 kB ∧ kA ≤ 40 ∧ kB ≤ 40 ∧ nm = 0) ∨ (ng = true ∧ two = false ∧ kA = kp ∧ kB = ks ∧ nm = 1) ∨ (ng = false ∧ kA = kp ∧ kB = ks ∧ nm = 0)
theorem op_render {sf mf has af al : Nat → Int32} {s : Nat → Nat} {H Z C B T F G E L kp ks : Nat} {x pm : Bool} {pn sn : Int32} {pf sfx : Nat → Int32} (hs : Num6 sf s) (hm : Num6 mf s) (hS : SoundC s)
    (h0 : has 0 = nI H) (h1 : has 1 = nI Z) (h2 : has 2 = nI F) (h3 : has 3 = nI G) (h4 : has 4 = nI E) (h5 : has 5 = bI x) (h6 : has 6 = nI C) (h7 : has 7 = nI B) (h8 : has 8 = nI (if C = 1 then B else T)) (hbd : Bd 40 H Z C B T F G E) (hL : L ≤ 9) (hpos : 0 < C → 1 ≤ T ∧ 1 ≤ B) (hEZ : 0 < E → 1 ≤ Z ∧ C = 0) (ha0 : RelAf pn pf af al 0 kp) (ha1 : RelAf sn sfx af al 1 ks) (hk0 : kp ≤ 40) (hk1 : ks ≤ 40) (hpm : PMx pm pf sfx kp ks)
    {ng two : Bool} {mpn msn : Int32} {mpf msf : Nat → Int32} {kA kB nm : Nat} (hsel : Sel ng two kp ks mpn mpf msn msf af al kA kB nm)
    {u : Int64} {N : Nat} (hN : N ≤ 9223372036854775808) (hu : (u ≤ 0 → u = jI (-(N : Int))) ∧ (¬ u ≤ 0 → -u = jI (-(N : Int)))) {sc : Nat} (hsc : sc ≤ 18) (m : Nat) (hm7 : m ≤ 7) (pg : Int32) (pgf amf : Nat → Int32) (os : Int32) (dg out : Nat → Int32) :
    ∃ (b : Bool) (pg' : Int32) (pgf' amf' : Nat → Int32) (os' : Int32) (dg' out' : Nat → Int32),
      (b = true → ∃ pre mid suf : List Int32, pre.length = kA + nm ∧ suf.length = kB ∧ 1 ≤ mid.length ∧ (pre ++ mid ++ suf).length ≤ 256 ∧ gram s 0 mid ∧ Pg pg' pgf' (pre ++ mid ++ suf) ∧ Pg os' out' (pre ++ mid ++ suf)) ∧
      (∀ Q : Bool → (Int32 × (Nat → Int32) × (Nat → Int32)) → Prop, Q b (pg', pgf', amf') → wp_Sc_compose pg pgf amf (nI L) sf two pm (nI H) (nI Z) (nI C) (nI B) (nI T) (nI F) (nI G) (nI E) x pn pf sn sfx mpn mpf msn msf ng (jI (-(N : Int))) (nI sc) (nI m) Q) ∧
      (∀ Q : Bool → (Int32 × (Nat → Int32) × (Nat → Int32)) → Prop, Q b (os', dg', out') → wp_M_render two (nI L) os has af al mf dg out ng u (nI sc) (nI m) Q) := by
  obtain ⟨b, f', g', D, e, hD, hf, hg, ⟨e1, e2⟩, hte, hle, hex, hc, hr⟩ := op_prep h0 h1 h2 h4 hbd (fun z => (hEZ z).1) ha0 ha1 hk0 hk1 hpm hN hu hsc m hm7 ng amf dg
  have i2 : mf (2 : Int32).toNatClampNeg = nI (s 2) := by rw [cn2, (hm 2 (by omega)).1]
  cases hbv : b with
  | false =>
    subst hbv
    refine ⟨false, pg, pgf, f', os, g', out, fun z => (by cases z), fun Q hQ => ?_, fun Q hQ => hr _ _ _ _ _ Q ?_⟩
    · unfold wp_Sc_compose
      exact hc _ ⟨fun z => (by cases z), fun _ => hQ⟩
    · unfold wp_M_render_J1380
      exact ⟨fun z => (by cases z), fun _ => hQ⟩
  | true =>
    subst hbv
    rcases hsel with ⟨hng, htw, hrA, hrB, hA40, hB40, hnm⟩ | ⟨hng, htw, hkA, hkB, hnm⟩ | ⟨hng, hkA, hkB, hnm⟩
    · subst hng htw
      obtain ⟨mid, p', pf', o', of', hm1, hm2, hgr, hp, hq, hwc, hwr⟩ := op_body (F := F) (L := L) (x := x) hs hm hS hD hf hg e1 e2 h0 h1 h3 h4 h5 h6 h7 h8 hbd hL hpos (fun z => (hEZ z).2) hte hle hex (a := 2) (by omega) hrA hrB hA40 hB40 (w := []) (Pg.nil pgf) (Pg.nil out) (by simp) true pm (nI F) true mpn msn mpf msf
      refine ⟨true, p', pf', f', o', g', of', fun _ => ⟨affW s mpf kA, mid, affW s msf kB, by rw [affW_len]; omega, affW_len _ _ _, hm1, by simp only [List.length_append, affW_len]; omega, hgr, by simpa using hp, by simpa using hq⟩, fun Q hQ => ?_, fun Q hQ => hr _ _ _ _ _ Q ?_⟩
      · have h := hwc Q hQ
        unfold wp_Sc_compose wp_Row_clear wp_Pat_needsMinus
        refine hc _ ⟨fun _ => ⟨fun _ => ⟨fun z => (by cases z), fun _ => ⟨fun _ => ⟨fun _ => ?_, fun z => (by cases z)⟩, fun z => (by cases z)⟩⟩, fun z => absurd ⟨rfl, rfl⟩ z⟩, fun z => (by cases z)⟩
        unfold wp_Sc_compose_J691 at h
        unfold wp_Sc_compose_J690
        exact h
      · have h := hwr Q hQ
        unfold wp_M_render_J1380 wp_M_render_J1710
        exact ⟨fun _ => ⟨fun z => (by cases z), fun _ => ⟨fun _ => ⟨fun z => (by cases z), fun _ => ⟨fun z => (by cases z), fun _ => h⟩⟩, fun z => (by cases z)⟩⟩, fun z => (by cases z)⟩
    · subst hng htw hkA hkB
      obtain ⟨p0, f0, hp0, hw0⟩ := s_putSymbol hs (Pg.nil pgf) (by simp) (k := 2) (by omega)
      obtain ⟨q0, o0, hq0, hv0⟩ := s_mput (Pg.nil out) (by simp) (nI (s 2))
      obtain ⟨mid, p', pf', o', of', hm1, hm2, hgr, hp, hq, hwc, hwr⟩ := op_body (F := F) (L := L) (x := x) hs hm hS hD hf hg e1 e2 h0 h1 h3 h4 h5 h6 h7 h8 hbd hL hpos (fun z => (hEZ z).2) hte hle hex (a := 0) (by omega) ha0 ha1 hk0 hk1 hp0 hq0 (by simp) false pm (nI F) false mpn msn mpf msf
      refine ⟨true, p', pf', f', o', g', of', fun _ => ⟨[nI (s 2)] ++ affW s pf kA, mid, affW s sfx kB, by simp only [List.length_append, affW_len, List.length_singleton]; omega, affW_len _ _ _, hm1, by simp only [List.length_append, affW_len, List.length_singleton]; omega, hgr, hp, hq⟩, fun Q hQ => ?_, fun Q hQ => hr _ _ _ _ _ Q ?_⟩
      · have h := hwc Q hQ
        unfold wp_Sc_compose wp_Row_clear wp_Pat_needsMinus
        exact hc _ ⟨fun _ => ⟨fun z => absurd z.2 (by decide), fun _ => ⟨fun z => (by cases z), fun _ => ⟨fun z => (by cases z), fun _ => ⟨fun z => (by cases z), fun _ => hw0 _ h⟩⟩⟩⟩, fun z => (by cases z)⟩
      · have h := hwr Q hQ
        unfold wp_M_render_J1380 wp_M_render_J1710 wp_M_render_J1860
        rw [i2]
        exact ⟨fun _ => ⟨fun z => (by cases z), fun _ => ⟨fun z => (by cases z), fun _ => ⟨in26, hv0 _ ⟨fun z => (by cases z), fun _ => ⟨fun _ => h, fun z => (by cases z)⟩⟩⟩⟩⟩, fun z => (by cases z)⟩
    · subst hng hkA hkB
      obtain ⟨mid, p', pf', o', of', hm1, hm2, hgr, hp, hq, hwc, hwr⟩ := op_body (F := F) (L := L) (x := x) hs hm hS hD hf hg e1 e2 h0 h1 h3 h4 h5 h6 h7 h8 hbd hL hpos (fun z => (hEZ z).2) hte hle hex (a := 0) (by omega) ha0 ha1 hk0 hk1 (Pg.nil pgf) (Pg.nil out) (by simp) two pm (nI F) two mpn msn mpf msf
      refine ⟨true, p', pf', f', o', g', of', fun _ => ⟨affW s pf kA, mid, affW s sfx kB, by rw [affW_len]; omega, affW_len _ _ _, hm1, by simp only [List.length_append, affW_len]; omega, hgr, by simpa using hp, by simpa using hq⟩, fun Q hQ => ?_, fun Q hQ => hr _ _ _ _ _ Q ?_⟩
      · have h := hwc Q hQ
        unfold wp_Sc_compose wp_Row_clear wp_Pat_needsMinus
        exact hc _ ⟨fun _ => ⟨fun z => absurd z.1 (by decide), fun _ => ⟨fun _ => ⟨fun _ => h, fun z => (by cases z)⟩, fun z => (by cases z)⟩⟩, fun z => (by cases z)⟩
      · have h := hwr Q hQ
        unfold wp_M_render_J1380 wp_M_render_J1710 wp_M_render_J1860
        exact ⟨fun _ => ⟨fun _ => ⟨fun _ => h, fun z => (by cases z)⟩, fun z => (by cases z)⟩, fun z => (by cases z)⟩
