/-- the words of the tables that every call hands on -/
def tbl : List Cond := lw_tbl.filter (fun w => k2_isCode w || goodWord w)
theorem tbl_in {w : Cond} {i : Nat} (h : lw_tbl[i]? = some w) (g : (k2_isCode w || goodWord w) = true) : w ∈ tbl := List.mem_filter.mpr ⟨List.mem_of_getElem? h, g⟩
theorem tbl_good : ∀ w ∈ tbl, (w.onTables && w.keeps) = true ∨ ∃ ty, w = .arrayClass ty := by
  intro w hw
  have h := (List.mem_filter.mp hw).2
  rcases Bool.or_eq_true_iff.mp h with hc | hg
  · cases w <;> first | (simp [k2_isCode] at hc; done) | exact Or.inl rfl
  · exact good_of_word hg
theorem gi {c : Cond} (h : c ∈ tbl) : GoodIn tbl (c :: tbl) := fun w hw => by
  rcases List.mem_cons.mp hw with e | e
  · rw [e]; exact ⟨h, tbl_good _ h⟩
  · exact ⟨e, tbl_good _ e⟩
