/-! DecimalPatterns$Sub.clear()V -/
def wp_Sub_clear (sb_pm : Bool) (sb_h : Int32) (sb_z : Int32) (sb_c : Int32) (sb_b : Int32) (sb_t : Int32) (sb_f : Int32) (sb_q : Int32) (sb_e : Int32) (sb_x : Bool) (sb_p_n : Int32) (sb_s_n : Int32) (Q : (Bool × Int32 × Int32 × Int32 × Int32 × Int32 × Int32 × Int32 × Int32 × Bool × Int32 × Int32) → Prop) : Prop := wp_Row_clear sb_p_n (fun u2 => wp_Row_clear sb_s_n (fun u4 => Q (false, 0, 0, 0, 0, 0, 0, 0, 0, false, u2, u4)))
set_option maxHeartbeats 4000000 in
set_option maxRecDepth 100000 in
theorem c_Sub_clear (l : Launch) (D : va_G) (cA : ClassId) (sb sb_p sb_p_a sb_s sb_s_a : Nat) (sb_pm : Bool) (sb_h : Int32) (sb_z : Int32) (sb_c : Int32) (sb_b : Int32) (sb_t : Int32) (sb_f : Int32) (sb_q : Int32) (sb_e : Int32) (sb_x : Bool) (sb_p_n : Int32) (sb_p_f : Nat → Int32) (sb_s_n : Int32) (sb_s_f : Nat → Int32) (Q : (Bool × Int32 × Int32 × Int32 × Int32 × Int32 × Int32 × Int32 × Int32 × Bool × Int32 × Int32) → Prop) (hw : wp_Sub_clear sb_pm sb_h sb_z sb_c sb_b sb_t sb_f sb_q sb_e sb_x sb_p_n sb_s_n Q) : ct_M vwCl l D [(cA, .int)] y_Sub_clear w_Sub_clear { frames := 1, cells := 0, slots := 0, locals := 20 } [.ref sb] (wd_Sub cA sb sb_p sb_p_a sb_s sb_s_a sb_pm sb_h sb_z sb_c sb_b sb_t sb_f sb_q sb_e sb_x sb_p_n sb_p_f sb_s_n sb_s_f) (ct_qv vwCl D [(cA, .int)] Q (fun u => wd_Sub cA sb sb_p sb_p_a sb_s sb_s_a u.1 u.2.1 u.2.2.1 u.2.2.2.1 u.2.2.2.2.1 u.2.2.2.2.2.1 u.2.2.2.2.2.2.1 u.2.2.2.2.2.2.2.1 u.2.2.2.2.2.2.2.2.1 u.2.2.2.2.2.2.2.2.2.1 u.2.2.2.2.2.2.2.2.2.2.1 sb_p_f u.2.2.2.2.2.2.2.2.2.2.2 sb_s_f)) := by
  refine ct_enter (cc := b_Sub_clear) (maxL := 1) (ret := none) (by decide) rfl (Nat.le_of_ble_eq_true rfl) ?_
  intro p e s m args below meth c A ls hx hb hr hlk hml hts hown hA hS hP hK hN hD hl
  have hl : lv_has ls 1 [(0, .ref sb)] := hl
  have htb : ∀ w ∈ tbl, w.before args s = true := fun w h => hts w (List.mem_cons_of_mem _ h)
  have hown : s.vm.findClass "DecimalPatterns$Sub" = some m.cls := hown
  unfold wp_Sub_clear at hw
  refine lv_aload_n hx hb d_Sub_clear_0 rfl (lv_at hl 0 rfl) ?_
  refine va_get (ci := 6) (C := R_Sb) (T := F_Sb) (N := 12) hx hb htb in_Sb hown hK hP 0 rfl rfl 0 (by decide) (htb _ tw204) (fun _ h9 => h9) rfl d_Sub_clear_1 ?_
  refine ct_callv (wn := fun u2 => wd_Sub cA sb sb_p sb_p_a sb_s sb_s_a sb_pm sb_h sb_z sb_c sb_b sb_t sb_f sb_q sb_e sb_x u2 sb_p_f sb_s_n sb_s_f) (va_runV (As := []) (rest := []) ⟨hx, hb, hml, hown, htb⟩ (c_Row_clear l D cA sb_p sb_p_a 40 sb_p_n sb_p_f _ hw _) (ct_cwV 0 htb tw354 rfl rfl tw73 tw371 tw352 tw353 hd_Row_clear ⟨by decide, by decide⟩) (ct_preV hP hD hK hN [1, 2] rfl (by decide) 1 rfl rfl _) rfl rfl hl.1 rfl (lv_room (Nat.le_of_ble_eq_true rfl)) d_Sub_clear_4 ⟨Nat.zero_le _, Nat.zero_le _⟩) hP hD hS hA [1, 2] [0, 3, 4] [0, 3, 4, 1, 2] rfl rfl (by decide) (by decide) (fun _ => rfl) (by decide) (fun u2 H locs hw hP hD hS => ?_)
  have hP : va_P D vwCl (wd_Sub cA sb sb_p sb_p_a sb_s sb_s_a sb_pm sb_h sb_z sb_c sb_b sb_t sb_f sb_q sb_e sb_x u2 sb_p_f sb_s_n sb_s_f) H := hP
  have hD : va_D A (wd_Sub cA sb sb_p sb_p_a sb_s sb_s_a sb_pm sb_h sb_z sb_c sb_b sb_t sb_f sb_q sb_e sb_x u2 sb_p_f sb_s_n sb_s_f) := hD
  refine lv_aload_n hx hb d_Sub_clear_7 rfl (lv_at hl 0 rfl) ?_
  refine va_get (ci := 6) (C := R_Sb) (T := F_Sb) (N := 12) hx hb htb in_Sb hown hK hP 0 rfl rfl 1 (by decide) (htb _ tw208) (fun _ h9 => h9) rfl d_Sub_clear_8 ?_
  refine ct_callv (wn := fun u4 => wd_Sub cA sb sb_p sb_p_a sb_s sb_s_a sb_pm sb_h sb_z sb_c sb_b sb_t sb_f sb_q sb_e sb_x u2 sb_p_f u4 sb_s_f) (va_runV (As := []) (rest := []) ⟨hx, hb, hml, hown, htb⟩ (c_Row_clear l D cA sb_s sb_s_a 40 sb_s_n sb_s_f _ hw _) (ct_cwV 0 htb tw354 rfl rfl tw73 tw371 tw352 tw353 hd_Row_clear ⟨by decide, by decide⟩) (ct_preV hP hD hK hN [3, 4] rfl (by decide) 3 rfl rfl _) rfl rfl hl.1 rfl (lv_room (Nat.le_of_ble_eq_true rfl)) d_Sub_clear_11 ⟨Nat.zero_le _, Nat.zero_le _⟩) hP hD hS hA [3, 4] [0, 1, 2] [0, 1, 2, 3, 4] rfl rfl (by decide) (by decide) (fun _ => rfl) (by decide) (fun u4 H locs hw hP hD hS => ?_)
  have hP : va_P D vwCl (wd_Sub cA sb sb_p sb_p_a sb_s sb_s_a sb_pm sb_h sb_z sb_c sb_b sb_t sb_f sb_q sb_e sb_x u2 sb_p_f u4 sb_s_f) H := hP
  have hD : va_D A (wd_Sub cA sb sb_p sb_p_a sb_s sb_s_a sb_pm sb_h sb_z sb_c sb_b sb_t sb_f sb_q sb_e sb_x u2 sb_p_f u4 sb_s_f) := hD
  refine lv_aload_n hx hb d_Sub_clear_14 rfl (lv_at hl 0 rfl) ?_
  refine lv_iconst (v := 0) hx hb d_Sub_clear_15 (by decide) ?_
  refine va_put (ci := 6) (v := .int (bI false)) (ty := .boolean) (C := R_Sb) (T := F_Sb) (N := 12) hx hb htb in_Sb t_Sb t_Sb_ok n_Sb hown hK hP hD hS 0 rfl rfl 2 (by decide) (htb _ tw214) (fun _ h9 => h9) rfl (by decide +kernel) (bI_nar false) (bI_fit false) (Nat.le_of_ble_eq_true rfl) d_Sub_clear_16 (fun H locs hP hD hS => ?_)
  have hP : va_P D vwCl (wd_Sub cA sb sb_p sb_p_a sb_s sb_s_a false sb_h sb_z sb_c sb_b sb_t sb_f sb_q sb_e sb_x u2 sb_p_f u4 sb_s_f) H := hP
  have hD : va_D A (wd_Sub cA sb sb_p sb_p_a sb_s sb_s_a false sb_h sb_z sb_c sb_b sb_t sb_f sb_q sb_e sb_x u2 sb_p_f u4 sb_s_f) := hD
  refine lv_aload_n hx hb d_Sub_clear_19 rfl (lv_at hl 0 rfl) ?_
  refine lv_iconst (v := 0) hx hb d_Sub_clear_20 (by decide) ?_
  refine va_put (ci := 6) (v := .int 0) (ty := .int) (C := R_Sb) (T := F_Sb) (N := 12) hx hb htb in_Sb t_Sb t_Sb_ok n_Sb hown hK hP hD hS 0 rfl rfl 3 (by decide) (htb _ tw216) (fun _ h9 => h9) rfl (by decide +kernel) rfl rfl (Nat.le_of_ble_eq_true rfl) d_Sub_clear_21 (fun H locs hP hD hS => ?_)
  have hP : va_P D vwCl (wd_Sub cA sb sb_p sb_p_a sb_s sb_s_a false 0 sb_z sb_c sb_b sb_t sb_f sb_q sb_e sb_x u2 sb_p_f u4 sb_s_f) H := hP
  have hD : va_D A (wd_Sub cA sb sb_p sb_p_a sb_s sb_s_a false 0 sb_z sb_c sb_b sb_t sb_f sb_q sb_e sb_x u2 sb_p_f u4 sb_s_f) := hD
  refine lv_aload_n hx hb d_Sub_clear_24 rfl (lv_at hl 0 rfl) ?_
  refine lv_iconst (v := 0) hx hb d_Sub_clear_25 (by decide) ?_
  refine va_put (ci := 6) (v := .int 0) (ty := .int) (C := R_Sb) (T := F_Sb) (N := 12) hx hb htb in_Sb t_Sb t_Sb_ok n_Sb hown hK hP hD hS 0 rfl rfl 4 (by decide) (htb _ tw220) (fun _ h9 => h9) rfl (by decide +kernel) rfl rfl (Nat.le_of_ble_eq_true rfl) d_Sub_clear_26 (fun H locs hP hD hS => ?_)
  have hP : va_P D vwCl (wd_Sub cA sb sb_p sb_p_a sb_s sb_s_a false 0 0 sb_c sb_b sb_t sb_f sb_q sb_e sb_x u2 sb_p_f u4 sb_s_f) H := hP
  have hD : va_D A (wd_Sub cA sb sb_p sb_p_a sb_s sb_s_a false 0 0 sb_c sb_b sb_t sb_f sb_q sb_e sb_x u2 sb_p_f u4 sb_s_f) := hD
  refine lv_aload_n hx hb d_Sub_clear_29 rfl (lv_at hl 0 rfl) ?_
  refine lv_iconst (v := 0) hx hb d_Sub_clear_30 (by decide) ?_
  refine va_put (ci := 6) (v := .int 0) (ty := .int) (C := R_Sb) (T := F_Sb) (N := 12) hx hb htb in_Sb t_Sb t_Sb_ok n_Sb hown hK hP hD hS 0 rfl rfl 5 (by decide) (htb _ tw223) (fun _ h9 => h9) rfl (by decide +kernel) rfl rfl (Nat.le_of_ble_eq_true rfl) d_Sub_clear_31 (fun H locs hP hD hS => ?_)
  have hP : va_P D vwCl (wd_Sub cA sb sb_p sb_p_a sb_s sb_s_a false 0 0 0 sb_b sb_t sb_f sb_q sb_e sb_x u2 sb_p_f u4 sb_s_f) H := hP
  have hD : va_D A (wd_Sub cA sb sb_p sb_p_a sb_s sb_s_a false 0 0 0 sb_b sb_t sb_f sb_q sb_e sb_x u2 sb_p_f u4 sb_s_f) := hD
  refine lv_aload_n hx hb d_Sub_clear_34 rfl (lv_at hl 0 rfl) ?_
  refine lv_iconst (v := 0) hx hb d_Sub_clear_35 (by decide) ?_
  refine va_put (ci := 6) (v := .int 0) (ty := .int) (C := R_Sb) (T := F_Sb) (N := 12) hx hb htb in_Sb t_Sb t_Sb_ok n_Sb hown hK hP hD hS 0 rfl rfl 6 (by decide) (htb _ tw225) (fun _ h9 => h9) rfl (by decide +kernel) rfl rfl (Nat.le_of_ble_eq_true rfl) d_Sub_clear_36 (fun H locs hP hD hS => ?_)
  have hP : va_P D vwCl (wd_Sub cA sb sb_p sb_p_a sb_s sb_s_a false 0 0 0 0 sb_t sb_f sb_q sb_e sb_x u2 sb_p_f u4 sb_s_f) H := hP
  have hD : va_D A (wd_Sub cA sb sb_p sb_p_a sb_s sb_s_a false 0 0 0 0 sb_t sb_f sb_q sb_e sb_x u2 sb_p_f u4 sb_s_f) := hD
  refine lv_aload_n hx hb d_Sub_clear_39 rfl (lv_at hl 0 rfl) ?_
  refine lv_iconst (v := 0) hx hb d_Sub_clear_40 (by decide) ?_
  refine va_put (ci := 6) (v := .int 0) (ty := .int) (C := R_Sb) (T := F_Sb) (N := 12) hx hb htb in_Sb t_Sb t_Sb_ok n_Sb hown hK hP hD hS 0 rfl rfl 7 (by decide) (htb _ tw228) (fun _ h9 => h9) rfl (by decide +kernel) rfl rfl (Nat.le_of_ble_eq_true rfl) d_Sub_clear_41 (fun H locs hP hD hS => ?_)
  have hP : va_P D vwCl (wd_Sub cA sb sb_p sb_p_a sb_s sb_s_a false 0 0 0 0 0 sb_f sb_q sb_e sb_x u2 sb_p_f u4 sb_s_f) H := hP
  have hD : va_D A (wd_Sub cA sb sb_p sb_p_a sb_s sb_s_a false 0 0 0 0 0 sb_f sb_q sb_e sb_x u2 sb_p_f u4 sb_s_f) := hD
  refine lv_aload_n hx hb d_Sub_clear_44 rfl (lv_at hl 0 rfl) ?_
  refine lv_iconst (v := 0) hx hb d_Sub_clear_45 (by decide) ?_
  refine va_put (ci := 6) (v := .int 0) (ty := .int) (C := R_Sb) (T := F_Sb) (N := 12) hx hb htb in_Sb t_Sb t_Sb_ok n_Sb hown hK hP hD hS 0 rfl rfl 8 (by decide) (htb _ tw230) (fun _ h9 => h9) rfl (by decide +kernel) rfl rfl (Nat.le_of_ble_eq_true rfl) d_Sub_clear_46 (fun H locs hP hD hS => ?_)
  have hP : va_P D vwCl (wd_Sub cA sb sb_p sb_p_a sb_s sb_s_a false 0 0 0 0 0 0 sb_q sb_e sb_x u2 sb_p_f u4 sb_s_f) H := hP
  have hD : va_D A (wd_Sub cA sb sb_p sb_p_a sb_s sb_s_a false 0 0 0 0 0 0 sb_q sb_e sb_x u2 sb_p_f u4 sb_s_f) := hD
  refine lv_aload_n hx hb d_Sub_clear_49 rfl (lv_at hl 0 rfl) ?_
  refine lv_iconst (v := 0) hx hb d_Sub_clear_50 (by decide) ?_
  refine va_put (ci := 6) (v := .int 0) (ty := .int) (C := R_Sb) (T := F_Sb) (N := 12) hx hb htb in_Sb t_Sb t_Sb_ok n_Sb hown hK hP hD hS 0 rfl rfl 9 (by decide) (htb _ tw233) (fun _ h9 => h9) rfl (by decide +kernel) rfl rfl (Nat.le_of_ble_eq_true rfl) d_Sub_clear_51 (fun H locs hP hD hS => ?_)
  have hP : va_P D vwCl (wd_Sub cA sb sb_p sb_p_a sb_s sb_s_a false 0 0 0 0 0 0 0 sb_e sb_x u2 sb_p_f u4 sb_s_f) H := hP
  have hD : va_D A (wd_Sub cA sb sb_p sb_p_a sb_s sb_s_a false 0 0 0 0 0 0 0 sb_e sb_x u2 sb_p_f u4 sb_s_f) := hD
  refine lv_aload_n hx hb d_Sub_clear_54 rfl (lv_at hl 0 rfl) ?_
  refine lv_iconst (v := 0) hx hb d_Sub_clear_55 (by decide) ?_
  refine va_put (ci := 6) (v := .int 0) (ty := .int) (C := R_Sb) (T := F_Sb) (N := 12) hx hb htb in_Sb t_Sb t_Sb_ok n_Sb hown hK hP hD hS 0 rfl rfl 10 (by decide) (htb _ tw236) (fun _ h9 => h9) rfl (by decide +kernel) rfl rfl (Nat.le_of_ble_eq_true rfl) d_Sub_clear_56 (fun H locs hP hD hS => ?_)
  have hP : va_P D vwCl (wd_Sub cA sb sb_p sb_p_a sb_s sb_s_a false 0 0 0 0 0 0 0 0 sb_x u2 sb_p_f u4 sb_s_f) H := hP
  have hD : va_D A (wd_Sub cA sb sb_p sb_p_a sb_s sb_s_a false 0 0 0 0 0 0 0 0 sb_x u2 sb_p_f u4 sb_s_f) := hD
  refine lv_aload_n hx hb d_Sub_clear_59 rfl (lv_at hl 0 rfl) ?_
  refine lv_iconst (v := 0) hx hb d_Sub_clear_60 (by decide) ?_
  refine va_put (ci := 6) (v := .int (bI false)) (ty := .boolean) (C := R_Sb) (T := F_Sb) (N := 12) hx hb htb in_Sb t_Sb t_Sb_ok n_Sb hown hK hP hD hS 0 rfl rfl 11 (by decide) (htb _ tw239) (fun _ h9 => h9) rfl (by decide +kernel) (bI_nar false) (bI_fit false) (Nat.le_of_ble_eq_true rfl) d_Sub_clear_61 (fun H locs hP hD hS => ?_)
  have hP : va_P D vwCl (wd_Sub cA sb sb_p sb_p_a sb_s sb_s_a false 0 0 0 0 0 0 0 0 false u2 sb_p_f u4 sb_s_f) H := hP
  have hD : va_D A (wd_Sub cA sb sb_p sb_p_a sb_s sb_s_a false 0 0 0 0 0 0 0 0 false u2 sb_p_f u4 sb_s_f) := hD
  exact ct_vret hx hb hr hlk hK hS (false, 0, 0, 0, 0, 0, 0, 0, 0, false, u2, u4) hw hP hD d_Sub_clear_64
/-! DecimalPatterns$Sub.hasExponent()Z -/
def wp_Sub_hasExponent (sb_e : Int32) (Q : Bool → Unit → Prop) : Prop := (sb_e ≤ 0 → (Q false ())) ∧ (¬ sb_e ≤ 0 → (Q true ()))
set_option maxHeartbeats 4000000 in
set_option maxRecDepth 100000 in
theorem c_Sub_hasExponent (l : Launch) (D : va_G) (cA : ClassId) (sb sb_p sb_s : Nat) (sb_pm : Bool) (sb_h : Int32) (sb_z : Int32) (sb_c : Int32) (sb_b : Int32) (sb_t : Int32) (sb_f : Int32) (sb_q : Int32) (sb_e : Int32) (sb_x : Bool) (Q : Bool → Unit → Prop) (hw : wp_Sub_hasExponent sb_e Q) : ct_M vwCl l D [(cA, .int)] y_Sub_hasExponent w_Sub_hasExponent { frames := 0, cells := 0, slots := 0, locals := 0 } [.ref sb] (wd_SubO cA sb sb_p sb_s sb_pm sb_h sb_z sb_c sb_b sb_t sb_f sb_q sb_e sb_x) (ct_qz vwCl D [(cA, .int)] Q (fun u => wd_SubO cA sb sb_p sb_s sb_pm sb_h sb_z sb_c sb_b sb_t sb_f sb_q sb_e sb_x)) := by
  refine ct_enter (cc := b_Sub_hasExponent) (maxL := 1) (ret := (some .boolean)) (by decide) rfl (Nat.le_of_ble_eq_true rfl) ?_
  intro p e s m args below meth c A ls hx hb hr hlk hml hts hown hA hS hP hK hN hD hl
  have hl : lv_has ls 1 [(0, .ref sb)] := hl
  have htb : ∀ w ∈ tbl, w.before args s = true := fun w h => hts w (List.mem_cons_of_mem _ h)
  have hown : s.vm.findClass "DecimalPatterns$Sub" = some m.cls := hown
  unfold wp_Sub_hasExponent at hw
  refine lv_aload_n hx hb d_Sub_hasExponent_0 rfl (lv_at hl 0 rfl) ?_
  refine va_get (ci := 6) (C := R_Sb) (T := F_Sb) (N := 12) hx hb htb in_Sb hown hK hP 0 rfl rfl 10 (by decide) (htb _ tw236) (fun _ h9 => h9) rfl d_Sub_hasExponent_1 ?_
  refine lv_if_le (tgt := 11) hx hb d_Sub_hasExponent_4 rfl (fun hc => ?_) (fun hc => ?_)
  · have hw := hw.1 hc
    refine lv_iconst (v := 0) hx hb d_Sub_hasExponent_11 (by decide) ?_
    exact ct_zret false hx hb hr hlk hK hS () hw hP hD d_Sub_hasExponent_12
  · have hw := hw.2 hc
    refine lv_iconst (v := 1) hx hb d_Sub_hasExponent_7 (by decide) ?_
    refine lv_goto (tgt := 12) hx hb d_Sub_hasExponent_8 rfl ?_
    exact ct_zret true hx hb hr hlk hK hS () hw hP hD d_Sub_hasExponent_12
/-! DecimalPatterns$Sub.groupsBefore(I)Z -/
def wp_Sub_groupsBefore_J190 (sb_c : Int32) (sb_b : Int32) (sb_t : Int32) (x1 : Int32) (y0 : Int32) (Q : Bool → Unit → Prop) : Prop := (sb_c ≤ 0 → (Q false ())) ∧ (¬ sb_c ≤ 0 → ((y0 ≤ 0 → (Q false ())) ∧ (¬ y0 ≤ 0 → (((x1 - sb_b) < 0 → (Q false ())) ∧ (¬ (x1 - sb_b) < 0 → (¬ y0 = 0 ∧ ((¬ ((x1 - sb_b) - (x1 - sb_b) / y0 * y0) = 0 → (Q false ())) ∧ (((x1 - sb_b) - (x1 - sb_b) / y0 * y0) = 0 → (Q true ())))))))))
def wp_Sub_groupsBefore (sb_c : Int32) (sb_b : Int32) (sb_t : Int32) (pc_ : Int32) (Q : Bool → Unit → Prop) : Prop := (sb_c ≤ 1 → (wp_Sub_groupsBefore_J190 sb_c sb_b sb_t pc_ sb_b Q)) ∧ (¬ sb_c ≤ 1 → (wp_Sub_groupsBefore_J190 sb_c sb_b sb_t pc_ sb_t Q))
set_option maxHeartbeats 4000000 in
set_option maxRecDepth 100000 in
theorem c_Sub_groupsBefore (l : Launch) (D : va_G) (cA : ClassId) (sb sb_p sb_s : Nat) (sb_pm : Bool) (sb_h : Int32) (sb_z : Int32) (sb_c : Int32) (sb_b : Int32) (sb_t : Int32) (sb_f : Int32) (sb_q : Int32) (sb_e : Int32) (sb_x : Bool) (pc_ : Int32) (Q : Bool → Unit → Prop) (hw : wp_Sub_groupsBefore sb_c sb_b sb_t pc_ Q) : ct_M vwCl l D [(cA, .int)] y_Sub_groupsBefore w_Sub_groupsBefore { frames := 0, cells := 0, slots := 0, locals := 0 } [.ref sb, .int pc_] (wd_SubO cA sb sb_p sb_s sb_pm sb_h sb_z sb_c sb_b sb_t sb_f sb_q sb_e sb_x) (ct_qz vwCl D [(cA, .int)] Q (fun u => wd_SubO cA sb sb_p sb_s sb_pm sb_h sb_z sb_c sb_b sb_t sb_f sb_q sb_e sb_x)) := by
  refine ct_enter (cc := b_Sub_groupsBefore) (maxL := 4) (ret := (some .boolean)) (by decide) rfl (Nat.le_of_ble_eq_true rfl) ?_
  intro p e s m args below meth c A ls hx hb hr hlk hml hts hown hA hS hP hK hN hD hl
  have hl : lv_has ls 4 [(0, .ref sb), (1, .int pc_)] := hl
  have htb : ∀ w ∈ tbl, w.before args s = true := fun w h => hts w (List.mem_cons_of_mem _ h)
  have hown : s.vm.findClass "DecimalPatterns$Sub" = some m.cls := hown
  unfold wp_Sub_groupsBefore at hw
  have hJ190 : ∀ (x1 : Int32) (y0 : Int32) (H : Heap) (locs : List Loc) (ls : Array Slot), lv_has ls 4 [(0, .ref sb), (1, .int x1)] → va_P D vwCl (wd_SubO cA sb sb_p sb_s sb_pm sb_h sb_z sb_c sb_b sb_t sb_f sb_q sb_e sb_x) H → va_D A (wd_SubO cA sb sb_p sb_s sb_pm sb_h sb_z sb_c sb_b sb_t sb_f sb_q sb_e sb_x) → va_S A s.heap H locs → wp_Sub_groupsBefore_J190 sb_c sb_b sb_t x1 y0 Q → W p l e { frames := 0, cells := 0, slots := 0, locals := 0 } s m args below meth c H locs 0 0 (MQ below (ct_qz vwCl D [(cA, .int)] Q (fun u => wd_SubO cA sb sb_p sb_s sb_pm sb_h sb_z sb_c sb_b sb_t sb_f sb_q sb_e sb_x) A) args s 0 0 A) (F0 m 19 ls [.int y0]) := by
    intro x1 y0 H locs ls hl hP hD hS hw
    unfold wp_Sub_groupsBefore_J190 at hw
    refine lv_istore_n (lv' := [(2, .int y0), (0, .ref sb), (1, .int x1)]) hx hb d_Sub_groupsBefore_19 rfl hl (by decide) rfl (fun ls hl => ?_)
    refine lv_iload_n hx hb d_Sub_groupsBefore_20 rfl (lv_at hl 2 rfl) ?_
    refine lv_aload_n hx hb d_Sub_groupsBefore_21 rfl (lv_at hl 1 rfl) ?_
    refine va_get (ci := 6) (C := R_Sb) (T := F_Sb) (N := 12) hx hb htb in_Sb hown hK hP 0 rfl rfl 6 (by decide) (htb _ tw225) (fun _ h9 => h9) rfl d_Sub_groupsBefore_22 ?_
    refine lv_isub hx hb d_Sub_groupsBefore_25 ?_
    refine lv_istore_n (lv' := [(3, .int (x1 - sb_b)), (2, .int y0), (0, .ref sb), (1, .int x1)]) hx hb d_Sub_groupsBefore_26 rfl hl (by decide) rfl (fun ls hl => ?_)
    refine lv_aload_n hx hb d_Sub_groupsBefore_27 rfl (lv_at hl 2 rfl) ?_
    refine va_get (ci := 6) (C := R_Sb) (T := F_Sb) (N := 12) hx hb htb in_Sb hown hK hP 0 rfl rfl 5 (by decide) (htb _ tw223) (fun _ h9 => h9) rfl d_Sub_groupsBefore_28 ?_
    refine lv_if_le (tgt := 52) hx hb d_Sub_groupsBefore_31 rfl (fun hc => ?_) (fun hc => ?_)
    · have hw := hw.1 hc
      refine lv_iconst (v := 0) hx hb d_Sub_groupsBefore_52 (by decide) ?_
      exact ct_zret false hx hb hr hlk hK hS () hw hP hD d_Sub_groupsBefore_53
    · have hw := hw.2 hc
      refine lv_iload_n hx hb d_Sub_groupsBefore_34 rfl (lv_at hl 1 rfl) ?_
      refine lv_if_le (tgt := 52) hx hb d_Sub_groupsBefore_35 rfl (fun hc => ?_) (fun hc => ?_)
      · have hw := hw.1 hc
        refine lv_iconst (v := 0) hx hb d_Sub_groupsBefore_52 (by decide) ?_
        exact ct_zret false hx hb hr hlk hK hS () hw hP hD d_Sub_groupsBefore_53
      · have hw := hw.2 hc
        refine lv_iload_n hx hb d_Sub_groupsBefore_38 rfl (lv_at hl 0 rfl) ?_
        refine lv_if_lt (tgt := 52) hx hb d_Sub_groupsBefore_39 rfl (fun hc => ?_) (fun hc => ?_)
        · have hw := hw.1 hc
          refine lv_iconst (v := 0) hx hb d_Sub_groupsBefore_52 (by decide) ?_
          exact ct_zret false hx hb hr hlk hK hS () hw hP hD d_Sub_groupsBefore_53
        · have hw := hw.2 hc
          refine lv_iload_n hx hb d_Sub_groupsBefore_42 rfl (lv_at hl 0 rfl) ?_
          refine lv_iload_n hx hb d_Sub_groupsBefore_43 rfl (lv_at hl 1 rfl) ?_
          have hi := hw.1
          have hw := hw.2
          refine lv_irem hx hb d_Sub_groupsBefore_44 hi ?_
          refine lv_if_ne (tgt := 52) hx hb d_Sub_groupsBefore_45 rfl (fun hc => ?_) (fun hc => ?_)
          · have hw := hw.1 hc
            refine lv_iconst (v := 0) hx hb d_Sub_groupsBefore_52 (by decide) ?_
            exact ct_zret false hx hb hr hlk hK hS () hw hP hD d_Sub_groupsBefore_53
          · have hw := hw.2 hc
            refine lv_iconst (v := 1) hx hb d_Sub_groupsBefore_48 (by decide) ?_
            refine lv_goto (tgt := 53) hx hb d_Sub_groupsBefore_49 rfl ?_
            exact ct_zret true hx hb hr hlk hK hS () hw hP hD d_Sub_groupsBefore_53
  refine lv_aload_n hx hb d_Sub_groupsBefore_0 rfl (lv_at hl 0 rfl) ?_
  refine va_get (ci := 6) (C := R_Sb) (T := F_Sb) (N := 12) hx hb htb in_Sb hown hK hP 0 rfl rfl 5 (by decide) (htb _ tw223) (fun _ h9 => h9) rfl d_Sub_groupsBefore_1 ?_
  refine lv_iconst (v := 1) hx hb d_Sub_groupsBefore_4 (by decide) ?_
  refine lv_icmp_le (tgt := 15) hx hb d_Sub_groupsBefore_5 rfl (fun hc => ?_) (fun hc => ?_)
  · have hw := hw.1 hc
    refine lv_aload_n hx hb d_Sub_groupsBefore_15 rfl (lv_at hl 0 rfl) ?_
    refine va_get (ci := 6) (C := R_Sb) (T := F_Sb) (N := 12) hx hb htb in_Sb hown hK hP 0 rfl rfl 6 (by decide) (htb _ tw225) (fun _ h9 => h9) rfl d_Sub_groupsBefore_16 ?_
    exact hJ190 pc_ sb_b _ _ _ (lv_sub hl [0, 1] rfl) hP hD hS hw
  · have hw := hw.2 hc
    refine lv_aload_n hx hb d_Sub_groupsBefore_8 rfl (lv_at hl 0 rfl) ?_
    refine va_get (ci := 6) (C := R_Sb) (T := F_Sb) (N := 12) hx hb htb in_Sb hown hK hP 0 rfl rfl 7 (by decide) (htb _ tw228) (fun _ h9 => h9) rfl d_Sub_groupsBefore_9 ?_
    refine lv_goto (tgt := 19) hx hb d_Sub_groupsBefore_12 rfl ?_
    exact hJ190 pc_ sb_t _ _ _ (lv_sub hl [0, 1] rfl) hP hD hS hw
/-! DecimalPatterns$Pattern.clear()V -/
def wp_Pat_clear (pt_h : Bool) (pl_pm : Bool) (pl_h : Int32) (pl_z : Int32) (pl_c : Int32) (pl_b : Int32) (pl_t : Int32) (pl_f : Int32) (pl_q : Int32) (pl_e : Int32) (pl_x : Bool) (pl_p_n : Int32) (pl_s_n : Int32) (mi_pm : Bool) (mi_h : Int32) (mi_z : Int32) (mi_c : Int32) (mi_b : Int32) (mi_t : Int32) (mi_f : Int32) (mi_q : Int32) (mi_e : Int32) (mi_x : Bool) (mi_p_n : Int32) (mi_s_n : Int32) (Q : (Bool × Bool × Int32 × Int32 × Int32 × Int32 × Int32 × Int32 × Int32 × Int32 × Bool × Int32 × Int32 × Bool × Int32 × Int32 × Int32 × Int32 × Int32 × Int32 × Int32 × Int32 × Bool × Int32 × Int32) → Prop) : Prop := wp_Sub_clear pl_pm pl_h pl_z pl_c pl_b pl_t pl_f pl_q pl_e pl_x pl_p_n pl_s_n (fun u2 => wp_Sub_clear mi_pm mi_h mi_z mi_c mi_b mi_t mi_f mi_q mi_e mi_x mi_p_n mi_s_n (fun u4 => Q (false, u2.1, u2.2.1, u2.2.2.1, u2.2.2.2.1, u2.2.2.2.2.1, u2.2.2.2.2.2.1, u2.2.2.2.2.2.2.1, u2.2.2.2.2.2.2.2.1, u2.2.2.2.2.2.2.2.2.1, u2.2.2.2.2.2.2.2.2.2.1, u2.2.2.2.2.2.2.2.2.2.2.1, u2.2.2.2.2.2.2.2.2.2.2.2, u4.1, u4.2.1, u4.2.2.1, u4.2.2.2.1, u4.2.2.2.2.1, u4.2.2.2.2.2.1, u4.2.2.2.2.2.2.1, u4.2.2.2.2.2.2.2.1, u4.2.2.2.2.2.2.2.2.1, u4.2.2.2.2.2.2.2.2.2.1, u4.2.2.2.2.2.2.2.2.2.2.1, u4.2.2.2.2.2.2.2.2.2.2.2)))
set_option maxHeartbeats 4000000 in
set_option maxRecDepth 100000 in
theorem c_Pat_clear (l : Launch) (D : va_G) (cA : ClassId) (pt pl pl_p pl_p_a pl_s pl_s_a mi mi_p mi_p_a mi_s mi_s_a : Nat) (pt_h : Bool) (pl_pm : Bool) (pl_h : Int32) (pl_z : Int32) (pl_c : Int32) (pl_b : Int32) (pl_t : Int32) (pl_f : Int32) (pl_q : Int32) (pl_e : Int32) (pl_x : Bool) (pl_p_n : Int32) (pl_p_f : Nat → Int32) (pl_s_n : Int32) (pl_s_f : Nat → Int32) (mi_pm : Bool) (mi_h : Int32) (mi_z : Int32) (mi_c : Int32) (mi_b : Int32) (mi_t : Int32) (mi_f : Int32) (mi_q : Int32) (mi_e : Int32) (mi_x : Bool) (mi_p_n : Int32) (mi_p_f : Nat → Int32) (mi_s_n : Int32) (mi_s_f : Nat → Int32) (Q : (Bool × Bool × Int32 × Int32 × Int32 × Int32 × Int32 × Int32 × Int32 × Int32 × Bool × Int32 × Int32 × Bool × Int32 × Int32 × Int32 × Int32 × Int32 × Int32 × Int32 × Int32 × Bool × Int32 × Int32) → Prop) (hw : wp_Pat_clear pt_h pl_pm pl_h pl_z pl_c pl_b pl_t pl_f pl_q pl_e pl_x pl_p_n pl_s_n mi_pm mi_h mi_z mi_c mi_b mi_t mi_f mi_q mi_e mi_x mi_p_n mi_s_n Q) : ct_M vwCl l D [(cA, .int)] y_Pat_clear w_Pat_clear { frames := 2, cells := 0, slots := 0, locals := 40 } [.ref pt] (wd_Pat cA pt pl pl_p pl_p_a pl_s pl_s_a mi mi_p mi_p_a mi_s mi_s_a pt_h pl_pm pl_h pl_z pl_c pl_b pl_t pl_f pl_q pl_e pl_x pl_p_n pl_p_f pl_s_n pl_s_f mi_pm mi_h mi_z mi_c mi_b mi_t mi_f mi_q mi_e mi_x mi_p_n mi_p_f mi_s_n mi_s_f) (ct_qv vwCl D [(cA, .int)] Q (fun u => wd_Pat cA pt pl pl_p pl_p_a pl_s pl_s_a mi mi_p mi_p_a mi_s mi_s_a u.1 u.2.1 u.2.2.1 u.2.2.2.1 u.2.2.2.2.1 u.2.2.2.2.2.1 u.2.2.2.2.2.2.1 u.2.2.2.2.2.2.2.1 u.2.2.2.2.2.2.2.2.1 u.2.2.2.2.2.2.2.2.2.1 u.2.2.2.2.2.2.2.2.2.2.1 u.2.2.2.2.2.2.2.2.2.2.2.1 pl_p_f u.2.2.2.2.2.2.2.2.2.2.2.2.1 pl_s_f u.2.2.2.2.2.2.2.2.2.2.2.2.2.1 u.2.2.2.2.2.2.2.2.2.2.2.2.2.2.1 u.2.2.2.2.2.2.2.2.2.2.2.2.2.2.2.1 u.2.2.2.2.2.2.2.2.2.2.2.2.2.2.2.2.1 u.2.2.2.2.2.2.2.2.2.2.2.2.2.2.2.2.2.1 u.2.2.2.2.2.2.2.2.2.2.2.2.2.2.2.2.2.2.1 u.2.2.2.2.2.2.2.2.2.2.2.2.2.2.2.2.2.2.2.1 u.2.2.2.2.2.2.2.2.2.2.2.2.2.2.2.2.2.2.2.2.1 u.2.2.2.2.2.2.2.2.2.2.2.2.2.2.2.2.2.2.2.2.2.1 u.2.2.2.2.2.2.2.2.2.2.2.2.2.2.2.2.2.2.2.2.2.2.1 u.2.2.2.2.2.2.2.2.2.2.2.2.2.2.2.2.2.2.2.2.2.2.2.1 mi_p_f u.2.2.2.2.2.2.2.2.2.2.2.2.2.2.2.2.2.2.2.2.2.2.2.2 mi_s_f)) := by
  refine ct_enter (cc := b_Pat_clear) (maxL := 1) (ret := none) (by decide) rfl (Nat.le_of_ble_eq_true rfl) ?_
  intro p e s m args below meth c A ls hx hb hr hlk hml hts hown hA hS hP hK hN hD hl
  have hl : lv_has ls 1 [(0, .ref pt)] := hl
  have htb : ∀ w ∈ tbl, w.before args s = true := fun w h => hts w (List.mem_cons_of_mem _ h)
  have hown : s.vm.findClass "DecimalPatterns$Pattern" = some m.cls := hown
  unfold wp_Pat_clear at hw
  refine lv_aload_n hx hb d_Pat_clear_0 rfl (lv_at hl 0 rfl) ?_
  refine va_get (ci := 2) (C := R_Pt) (T := F_Pt) (N := 3) hx hb htb in_Pt hown hK hP 0 rfl rfl 0 (by decide) (htb _ tw268) (fun _ h9 => h9) rfl d_Pat_clear_1 ?_
  refine ct_callv (wn := fun u2 => wd_Pat cA pt pl pl_p pl_p_a pl_s pl_s_a mi mi_p mi_p_a mi_s mi_s_a pt_h u2.1 u2.2.1 u2.2.2.1 u2.2.2.2.1 u2.2.2.2.2.1 u2.2.2.2.2.2.1 u2.2.2.2.2.2.2.1 u2.2.2.2.2.2.2.2.1 u2.2.2.2.2.2.2.2.2.1 u2.2.2.2.2.2.2.2.2.2.1 u2.2.2.2.2.2.2.2.2.2.2.1 pl_p_f u2.2.2.2.2.2.2.2.2.2.2.2 pl_s_f mi_pm mi_h mi_z mi_c mi_b mi_t mi_f mi_q mi_e mi_x mi_p_n mi_p_f mi_s_n mi_s_f) (va_runV (As := []) (rest := []) ⟨hx, hb, hml, hown, htb⟩ (c_Sub_clear l D cA pl pl_p pl_p_a pl_s pl_s_a pl_pm pl_h pl_z pl_c pl_b pl_t pl_f pl_q pl_e pl_x pl_p_n pl_p_f pl_s_n pl_s_f _ hw _) (ct_cwV 0 htb tw370 rfl rfl tw80 tw367 tw368 tw369 hd_Sub_clear ⟨by decide, by decide⟩) (ct_preV hP hD hK hN [1, 2, 3, 4, 5] rfl (by decide) 1 rfl rfl _) rfl rfl hl.1 rfl (lv_room (Nat.le_of_ble_eq_true rfl)) d_Pat_clear_4 ⟨Nat.zero_le _, Nat.zero_le _⟩) hP hD hS hA [1, 2, 3, 4, 5] [0, 6, 7, 8, 9, 10] [0, 6, 7, 8, 9, 10, 1, 2, 3, 4, 5] rfl rfl (by decide) (by decide) (fun _ => rfl) (by decide) (fun u2 H locs hw hP hD hS => ?_)
  have hP : va_P D vwCl (wd_Pat cA pt pl pl_p pl_p_a pl_s pl_s_a mi mi_p mi_p_a mi_s mi_s_a pt_h u2.1 u2.2.1 u2.2.2.1 u2.2.2.2.1 u2.2.2.2.2.1 u2.2.2.2.2.2.1 u2.2.2.2.2.2.2.1 u2.2.2.2.2.2.2.2.1 u2.2.2.2.2.2.2.2.2.1 u2.2.2.2.2.2.2.2.2.2.1 u2.2.2.2.2.2.2.2.2.2.2.1 pl_p_f u2.2.2.2.2.2.2.2.2.2.2.2 pl_s_f mi_pm mi_h mi_z mi_c mi_b mi_t mi_f mi_q mi_e mi_x mi_p_n mi_p_f mi_s_n mi_s_f) H := hP
  have hD : va_D A (wd_Pat cA pt pl pl_p pl_p_a pl_s pl_s_a mi mi_p mi_p_a mi_s mi_s_a pt_h u2.1 u2.2.1 u2.2.2.1 u2.2.2.2.1 u2.2.2.2.2.1 u2.2.2.2.2.2.1 u2.2.2.2.2.2.2.1 u2.2.2.2.2.2.2.2.1 u2.2.2.2.2.2.2.2.2.1 u2.2.2.2.2.2.2.2.2.2.1 u2.2.2.2.2.2.2.2.2.2.2.1 pl_p_f u2.2.2.2.2.2.2.2.2.2.2.2 pl_s_f mi_pm mi_h mi_z mi_c mi_b mi_t mi_f mi_q mi_e mi_x mi_p_n mi_p_f mi_s_n mi_s_f) := hD
  refine lv_aload_n hx hb d_Pat_clear_7 rfl (lv_at hl 0 rfl) ?_
  refine va_get (ci := 2) (C := R_Pt) (T := F_Pt) (N := 3) hx hb htb in_Pt hown hK hP 0 rfl rfl 1 (by decide) (htb _ tw272) (fun _ h9 => h9) rfl d_Pat_clear_8 ?_
  refine ct_callv (wn := fun u4 => wd_Pat cA pt pl pl_p pl_p_a pl_s pl_s_a mi mi_p mi_p_a mi_s mi_s_a pt_h u2.1 u2.2.1 u2.2.2.1 u2.2.2.2.1 u2.2.2.2.2.1 u2.2.2.2.2.2.1 u2.2.2.2.2.2.2.1 u2.2.2.2.2.2.2.2.1 u2.2.2.2.2.2.2.2.2.1 u2.2.2.2.2.2.2.2.2.2.1 u2.2.2.2.2.2.2.2.2.2.2.1 pl_p_f u2.2.2.2.2.2.2.2.2.2.2.2 pl_s_f u4.1 u4.2.1 u4.2.2.1 u4.2.2.2.1 u4.2.2.2.2.1 u4.2.2.2.2.2.1 u4.2.2.2.2.2.2.1 u4.2.2.2.2.2.2.2.1 u4.2.2.2.2.2.2.2.2.1 u4.2.2.2.2.2.2.2.2.2.1 u4.2.2.2.2.2.2.2.2.2.2.1 mi_p_f u4.2.2.2.2.2.2.2.2.2.2.2 mi_s_f) (va_runV (As := []) (rest := []) ⟨hx, hb, hml, hown, htb⟩ (c_Sub_clear l D cA mi mi_p mi_p_a mi_s mi_s_a mi_pm mi_h mi_z mi_c mi_b mi_t mi_f mi_q mi_e mi_x mi_p_n mi_p_f mi_s_n mi_s_f _ hw _) (ct_cwV 0 htb tw370 rfl rfl tw80 tw367 tw368 tw369 hd_Sub_clear ⟨by decide, by decide⟩) (ct_preV hP hD hK hN [6, 7, 8, 9, 10] rfl (by decide) 6 rfl rfl _) rfl rfl hl.1 rfl (lv_room (Nat.le_of_ble_eq_true rfl)) d_Pat_clear_11 ⟨Nat.zero_le _, Nat.zero_le _⟩) hP hD hS hA [6, 7, 8, 9, 10] [0, 1, 2, 3, 4, 5] [0, 1, 2, 3, 4, 5, 6, 7, 8, 9, 10] rfl rfl (by decide) (by decide) (fun _ => rfl) (by decide) (fun u4 H locs hw hP hD hS => ?_)
  have hP : va_P D vwCl (wd_Pat cA pt pl pl_p pl_p_a pl_s pl_s_a mi mi_p mi_p_a mi_s mi_s_a pt_h u2.1 u2.2.1 u2.2.2.1 u2.2.2.2.1 u2.2.2.2.2.1 u2.2.2.2.2.2.1 u2.2.2.2.2.2.2.1 u2.2.2.2.2.2.2.2.1 u2.2.2.2.2.2.2.2.2.1 u2.2.2.2.2.2.2.2.2.2.1 u2.2.2.2.2.2.2.2.2.2.2.1 pl_p_f u2.2.2.2.2.2.2.2.2.2.2.2 pl_s_f u4.1 u4.2.1 u4.2.2.1 u4.2.2.2.1 u4.2.2.2.2.1 u4.2.2.2.2.2.1 u4.2.2.2.2.2.2.1 u4.2.2.2.2.2.2.2.1 u4.2.2.2.2.2.2.2.2.1 u4.2.2.2.2.2.2.2.2.2.1 u4.2.2.2.2.2.2.2.2.2.2.1 mi_p_f u4.2.2.2.2.2.2.2.2.2.2.2 mi_s_f) H := hP
  have hD : va_D A (wd_Pat cA pt pl pl_p pl_p_a pl_s pl_s_a mi mi_p mi_p_a mi_s mi_s_a pt_h u2.1 u2.2.1 u2.2.2.1 u2.2.2.2.1 u2.2.2.2.2.1 u2.2.2.2.2.2.1 u2.2.2.2.2.2.2.1 u2.2.2.2.2.2.2.2.1 u2.2.2.2.2.2.2.2.2.1 u2.2.2.2.2.2.2.2.2.2.1 u2.2.2.2.2.2.2.2.2.2.2.1 pl_p_f u2.2.2.2.2.2.2.2.2.2.2.2 pl_s_f u4.1 u4.2.1 u4.2.2.1 u4.2.2.2.1 u4.2.2.2.2.1 u4.2.2.2.2.2.1 u4.2.2.2.2.2.2.1 u4.2.2.2.2.2.2.2.1 u4.2.2.2.2.2.2.2.2.1 u4.2.2.2.2.2.2.2.2.2.1 u4.2.2.2.2.2.2.2.2.2.2.1 mi_p_f u4.2.2.2.2.2.2.2.2.2.2.2 mi_s_f) := hD
  refine lv_aload_n hx hb d_Pat_clear_14 rfl (lv_at hl 0 rfl) ?_
  refine lv_iconst (v := 0) hx hb d_Pat_clear_15 (by decide) ?_
  refine va_put (ci := 2) (v := .int (bI false)) (ty := .boolean) (C := R_Pt) (T := F_Pt) (N := 3) hx hb htb in_Pt t_Pt t_Pt_ok n_Pt hown hK hP hD hS 0 rfl rfl 2 (by decide) (htb _ tw274) (fun _ h9 => h9) rfl (by decide +kernel) (bI_nar false) (bI_fit false) (Nat.le_of_ble_eq_true rfl) d_Pat_clear_16 (fun H locs hP hD hS => ?_)
  have hP : va_P D vwCl (wd_Pat cA pt pl pl_p pl_p_a pl_s pl_s_a mi mi_p mi_p_a mi_s mi_s_a false u2.1 u2.2.1 u2.2.2.1 u2.2.2.2.1 u2.2.2.2.2.1 u2.2.2.2.2.2.1 u2.2.2.2.2.2.2.1 u2.2.2.2.2.2.2.2.1 u2.2.2.2.2.2.2.2.2.1 u2.2.2.2.2.2.2.2.2.2.1 u2.2.2.2.2.2.2.2.2.2.2.1 pl_p_f u2.2.2.2.2.2.2.2.2.2.2.2 pl_s_f u4.1 u4.2.1 u4.2.2.1 u4.2.2.2.1 u4.2.2.2.2.1 u4.2.2.2.2.2.1 u4.2.2.2.2.2.2.1 u4.2.2.2.2.2.2.2.1 u4.2.2.2.2.2.2.2.2.1 u4.2.2.2.2.2.2.2.2.2.1 u4.2.2.2.2.2.2.2.2.2.2.1 mi_p_f u4.2.2.2.2.2.2.2.2.2.2.2 mi_s_f) H := hP
  have hD : va_D A (wd_Pat cA pt pl pl_p pl_p_a pl_s pl_s_a mi mi_p mi_p_a mi_s mi_s_a false u2.1 u2.2.1 u2.2.2.1 u2.2.2.2.1 u2.2.2.2.2.1 u2.2.2.2.2.2.1 u2.2.2.2.2.2.2.1 u2.2.2.2.2.2.2.2.1 u2.2.2.2.2.2.2.2.2.1 u2.2.2.2.2.2.2.2.2.2.1 u2.2.2.2.2.2.2.2.2.2.2.1 pl_p_f u2.2.2.2.2.2.2.2.2.2.2.2 pl_s_f u4.1 u4.2.1 u4.2.2.1 u4.2.2.2.1 u4.2.2.2.2.1 u4.2.2.2.2.2.1 u4.2.2.2.2.2.2.1 u4.2.2.2.2.2.2.2.1 u4.2.2.2.2.2.2.2.2.1 u4.2.2.2.2.2.2.2.2.2.1 u4.2.2.2.2.2.2.2.2.2.2.1 mi_p_f u4.2.2.2.2.2.2.2.2.2.2.2 mi_s_f) := hD
  exact ct_vret hx hb hr hlk hK hS (false, u2.1, u2.2.1, u2.2.2.1, u2.2.2.2.1, u2.2.2.2.2.1, u2.2.2.2.2.2.1, u2.2.2.2.2.2.2.1, u2.2.2.2.2.2.2.2.1, u2.2.2.2.2.2.2.2.2.1, u2.2.2.2.2.2.2.2.2.2.1, u2.2.2.2.2.2.2.2.2.2.2.1, u2.2.2.2.2.2.2.2.2.2.2.2, u4.1, u4.2.1, u4.2.2.1, u4.2.2.2.1, u4.2.2.2.2.1, u4.2.2.2.2.2.1, u4.2.2.2.2.2.2.1, u4.2.2.2.2.2.2.2.1, u4.2.2.2.2.2.2.2.2.1, u4.2.2.2.2.2.2.2.2.2.1, u4.2.2.2.2.2.2.2.2.2.2.1, u4.2.2.2.2.2.2.2.2.2.2.2) hw hP hD d_Pat_clear_19
/-! DecimalPatterns$Pattern.affixesFor(Z)LDecimalPatterns$Sub; -/
def wp_Pat_affixesFor (pl mi : Nat) (pt_h : Bool) (ng : Bool) (Q : Nat → Unit → Prop) : Prop := (ng = false → (Q pl ())) ∧ (ng = true → ((pt_h = false → (Q pl ())) ∧ (pt_h = true → (Q mi ()))))
set_option maxHeartbeats 4000000 in
set_option maxRecDepth 100000 in
theorem c_Pat_affixesFor (l : Launch) (D : va_G) (cA : ClassId) (pt pl mi : Nat) (pt_h : Bool) (ng : Bool) (Q : Nat → Unit → Prop) (hw : wp_Pat_affixesFor pl mi pt_h ng Q) : ct_M vwCl l D [(cA, .int)] y_Pat_affixesFor w_Pat_affixesFor { frames := 0, cells := 0, slots := 0, locals := 0 } [.ref pt, .int (bI ng)] (wd_PatO cA pt pl mi pt_h) (ct_qr vwCl D [(cA, .int)] Q (fun u => wd_PatO cA pt pl mi pt_h)) := by
  refine ct_enter (cc := b_Pat_affixesFor) (maxL := 2) (ret := (some (.object "DecimalPatterns$Sub"))) (by decide) rfl (Nat.le_of_ble_eq_true rfl) ?_
  intro p e s m args below meth c A ls hx hb hr hlk hml hts hown hA hS hP hK hN hD hl
  have hl : lv_has ls 2 [(0, .ref pt), (1, .int (bI ng))] := hl
  have htb : ∀ w ∈ tbl, w.before args s = true := fun w h => hts w (List.mem_cons_of_mem _ h)
  have hown : s.vm.findClass "DecimalPatterns$Pattern" = some m.cls := hown
  unfold wp_Pat_affixesFor at hw
  refine lv_iload_n hx hb d_Pat_affixesFor_0 rfl (lv_at hl 1 rfl) ?_
  refine lv_if_eq (tgt := 18) hx hb d_Pat_affixesFor_1 rfl (fun hc => ?_) (fun hc => ?_)
  · have hw := hw.1 ((bI_0 _).mp hc)
    refine lv_aload_n hx hb d_Pat_affixesFor_18 rfl (lv_at hl 0 rfl) ?_
    refine va_get (ci := 2) (C := R_Pt) (T := F_Pt) (N := 3) hx hb htb in_Pt hown hK hP 0 rfl rfl 0 (by decide) (htb _ tw268) (fun _ h9 => h9) rfl d_Pat_affixesFor_19 ?_
    exact ct_aret hx hb hr (Or.inl ⟨_, rfl⟩) hlk hK hS () hw hP hD d_Pat_affixesFor_22
  · have hw := hw.2 ((bI_n0 _).mp hc)
    refine lv_aload_n hx hb d_Pat_affixesFor_4 rfl (lv_at hl 0 rfl) ?_
    refine va_get (ci := 2) (C := R_Pt) (T := F_Pt) (N := 3) hx hb htb in_Pt hown hK hP 0 rfl rfl 2 (by decide) (htb _ tw274) (fun _ h9 => h9) rfl d_Pat_affixesFor_5 ?_
    refine lv_if_eq (tgt := 18) hx hb d_Pat_affixesFor_8 rfl (fun hc => ?_) (fun hc => ?_)
    · have hw := hw.1 ((bI_0 _).mp hc)
      refine lv_aload_n hx hb d_Pat_affixesFor_18 rfl (lv_at hl 0 rfl) ?_
      refine va_get (ci := 2) (C := R_Pt) (T := F_Pt) (N := 3) hx hb htb in_Pt hown hK hP 0 rfl rfl 0 (by decide) (htb _ tw268) (fun _ h9 => h9) rfl d_Pat_affixesFor_19 ?_
      exact ct_aret hx hb hr (Or.inl ⟨_, rfl⟩) hlk hK hS () hw hP hD d_Pat_affixesFor_22
    · have hw := hw.2 ((bI_n0 _).mp hc)
      refine lv_aload_n hx hb d_Pat_affixesFor_11 rfl (lv_at hl 0 rfl) ?_
      refine va_get (ci := 2) (C := R_Pt) (T := F_Pt) (N := 3) hx hb htb in_Pt hown hK hP 0 rfl rfl 1 (by decide) (htb _ tw272) (fun _ h9 => h9) rfl d_Pat_affixesFor_12 ?_
      refine lv_goto (tgt := 22) hx hb d_Pat_affixesFor_15 rfl ?_
      exact ct_aret hx hb hr (Or.inl ⟨_, rfl⟩) hlk hK hS () hw hP hD d_Pat_affixesFor_22
/-! DecimalPatterns$Pattern.needsMinus(Z)Z -/
def wp_Pat_needsMinus (pt_h : Bool) (ng : Bool) (Q : Bool → Unit → Prop) : Prop := (ng = false → (Q false ())) ∧ (ng = true → ((pt_h = true → (Q false ())) ∧ (pt_h = false → (Q true ()))))
set_option maxHeartbeats 4000000 in
set_option maxRecDepth 100000 in
theorem c_Pat_needsMinus (l : Launch) (D : va_G) (cA : ClassId) (pt pl mi : Nat) (pt_h : Bool) (ng : Bool) (Q : Bool → Unit → Prop) (hw : wp_Pat_needsMinus pt_h ng Q) : ct_M vwCl l D [(cA, .int)] y_Pat_needsMinus w_Pat_needsMinus { frames := 0, cells := 0, slots := 0, locals := 0 } [.ref pt, .int (bI ng)] (wd_PatO cA pt pl mi pt_h) (ct_qz vwCl D [(cA, .int)] Q (fun u => wd_PatO cA pt pl mi pt_h)) := by
  refine ct_enter (cc := b_Pat_needsMinus) (maxL := 2) (ret := (some .boolean)) (by decide) rfl (Nat.le_of_ble_eq_true rfl) ?_
  intro p e s m args below meth c A ls hx hb hr hlk hml hts hown hA hS hP hK hN hD hl
  have hl : lv_has ls 2 [(0, .ref pt), (1, .int (bI ng))] := hl
  have htb : ∀ w ∈ tbl, w.before args s = true := fun w h => hts w (List.mem_cons_of_mem _ h)
  have hown : s.vm.findClass "DecimalPatterns$Pattern" = some m.cls := hown
  unfold wp_Pat_needsMinus at hw
  refine lv_iload_n hx hb d_Pat_needsMinus_0 rfl (lv_at hl 1 rfl) ?_
  refine lv_if_eq (tgt := 15) hx hb d_Pat_needsMinus_1 rfl (fun hc => ?_) (fun hc => ?_)
  · have hw := hw.1 ((bI_0 _).mp hc)
    refine lv_iconst (v := 0) hx hb d_Pat_needsMinus_15 (by decide) ?_
    exact ct_zret false hx hb hr hlk hK hS () hw hP hD d_Pat_needsMinus_16
  · have hw := hw.2 ((bI_n0 _).mp hc)
    refine lv_aload_n hx hb d_Pat_needsMinus_4 rfl (lv_at hl 0 rfl) ?_
    refine va_get (ci := 2) (C := R_Pt) (T := F_Pt) (N := 3) hx hb htb in_Pt hown hK hP 0 rfl rfl 2 (by decide) (htb _ tw274) (fun _ h9 => h9) rfl d_Pat_needsMinus_5 ?_
    refine lv_if_ne (tgt := 15) hx hb d_Pat_needsMinus_8 rfl (fun hc => ?_) (fun hc => ?_)
    · have hw := hw.1 ((bI_n0 _).mp hc)
      refine lv_iconst (v := 0) hx hb d_Pat_needsMinus_15 (by decide) ?_
      exact ct_zret false hx hb hr hlk hK hS () hw hP hD d_Pat_needsMinus_16
    · have hw := hw.2 ((bI_0 _).mp hc)
      refine lv_iconst (v := 1) hx hb d_Pat_needsMinus_11 (by decide) ?_
      refine lv_goto (tgt := 16) hx hb d_Pat_needsMinus_12 rfl ?_
      exact ct_zret true hx hb hr hlk hK hS () hw hP hD d_Pat_needsMinus_16
