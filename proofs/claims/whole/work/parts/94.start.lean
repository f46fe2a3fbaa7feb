/-! the start of the law: the two are alike -/
theorem sy_start : RelSy (upd (upd (upd (upd (upd (upd (fun _ => 0) (0 : Int32).toNatClampNeg 46) (1 : Int32).toNatClampNeg 44) (2 : Int32).toNatClampNeg 45) (3 : Int32).toNatClampNeg 37) (4 : Int32).toNatClampNeg 69) (5 : Int32).toNatClampNeg 48) (upd (upd (upd (upd (upd (upd (fun _ => 0) (0 : Int32).toNatClampNeg 46) (1 : Int32).toNatClampNeg 44) (2 : Int32).toNatClampNeg 45) (3 : Int32).toNatClampNeg 37) (4 : Int32).toNatClampNeg 69) (5 : Int32).toNatClampNeg 48) := by
  have h : Num6 (upd (upd (upd (upd (upd (upd (fun _ => 0) (0 : Int32).toNatClampNeg 46) (1 : Int32).toNatClampNeg 44) (2 : Int32).toNatClampNeg 45) (3 : Int32).toNatClampNeg 37) (4 : Int32).toNatClampNeg 69) (5 : Int32).toNatClampNeg 48) (fun i => if i = 0 then 46 else if i = 1 then 44 else if i = 2 then 45 else if i = 3 then 37 else if i = 4 then 69 else 48) := by
    intro i hi
    obtain rfl | rfl | rfl | rfl | rfl | rfl : i = 0 ∨ i = 1 ∨ i = 2 ∨ i = 3 ∨ i = 4 ∨ i = 5 := by omega
    all_goals exact ⟨by decide, by decide⟩
  refine ⟨_, h, h, ?_⟩
  unfold SoundC
  decide
theorem sub_start : RelSub false 0 1 0 0 0 0 0 0 false 0 (fun _ => 0) 0 (fun _ => 0) (upd (fun _ => 0) (1 : Int32).toNatClampNeg 1) (fun _ => 0) (fun _ => 0) := by
  refine ⟨0, 1, 0, 0, 0, 0, 0, 0, 0, 0, ⟨rfl, rfl, rfl, rfl, rfl, rfl, rfl, rfl⟩, ⟨by decide, by decide, by decide, by decide, by decide, by decide, by decide, by decide, by decide⟩, ?_, fun z => (by omega), fun z => (by omega), ⟨rfl, rfl, fun i hi => absurd hi (Nat.not_lt_zero i)⟩, ⟨rfl, rfl, fun i hi => absurd hi (Nat.not_lt_zero i)⟩, by omega, by omega, ?_⟩
  · unfold Bd; omega
  · exact ⟨fun z => (by cases z), fun z => by rcases z with ⟨i, hi, -⟩ | ⟨i, hi, -⟩ <;> exact absurd hi (Nat.not_lt_zero i)⟩
set_option maxHeartbeats 4000000 in
set_option maxRecDepth 100000 in
theorem law_pure_all {L : Nat} {xs : Nat → Int32} (hL : L ≤ 2560) : law_pure L xs := by
  intro pa qa na pb qb nb hab hqa hqb
  refine ⟨L / 5 + 1, ?_⟩
  exact law_ind hab hqa hqb hL (L / 5) 0 (by omega) (by omega) ⟨⟨0, by omega, rfl, rfl, fun i hi => absurd hi (Nat.not_lt_zero i)⟩, ⟨0, by omega, rfl, rfl, fun i hi => absurd hi (Nat.not_lt_zero i)⟩, sy_start, rfl, by decide, by decide, rfl, rfl, Or.inl ⟨rfl, rfl, rfl, sub_start, fun z => (by cases z)⟩⟩
