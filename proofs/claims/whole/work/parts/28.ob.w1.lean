/-! DecimalPatterns.size()J -/
def wp_X_size (ob_fs : Int64) (Q : Int64 → Unit → Prop) : Prop := Q ob_fs ()
set_option maxHeartbeats 4000000 in
set_option maxRecDepth 100000 in
theorem c_X_size (l : Launch) (D : va_G) (cA : ClassId) (ob dr tx sy mk sc fi pt sp : Nat) (ob_fs : Int64) (ob_fc : Int32) (Q : Int64 → Unit → Prop) (hw : wp_X_size ob_fs Q) : ct_M vwCl l D [(cA, .int)] y_X_size w_X_size { frames := 0, cells := 0, slots := 0, locals := 0 } [.ref ob] (wd_Ob cA ob dr tx sy mk sc fi pt sp ob_fs ob_fc) (ct_ql vwCl D [(cA, .int)] Q (fun u => wd_Ob cA ob dr tx sy mk sc fi pt sp ob_fs ob_fc)) := by
  refine ct_enter (cc := b_X_size) (maxL := 1) (ret := (some .long)) (by decide) rfl (Nat.le_of_ble_eq_true rfl) ?_
  intro p e s m args below meth c A ls hx hb hr hlk hml hts hown hA hS hP hK hN hD hl
  have hl : lv_has ls 1 [(0, .ref ob)] := hl
  have htb : ∀ w ∈ tbl, w.before args s = true := fun w h => hts w (List.mem_cons_of_mem _ h)
  have hown : s.vm.findClass "DecimalPatterns" = some m.cls := hown
  unfold wp_X_size at hw
  refine lv_aload_n hx hb d_X_size_0 rfl (lv_at hl 0 rfl) ?_
  refine va_get (ci := 8) (C := R_Ob) (T := F_Ob) (N := 10) hx hb htb in_Ob hown hK hP 0 rfl rfl 8 (by decide) (htb _ tw313) (fun _ h9 => h9) rfl d_X_size_1 ?_
  exact ct_lret hx hb hr hlk hK hS () hw hP hD d_X_size_4
/-! DecimalPatterns.scale()I -/
def wp_X_scale (ob_fc : Int32) (Q : Int32 → Unit → Prop) : Prop := Q ob_fc ()
set_option maxHeartbeats 4000000 in
set_option maxRecDepth 100000 in
theorem c_X_scale (l : Launch) (D : va_G) (cA : ClassId) (ob dr tx sy mk sc fi pt sp : Nat) (ob_fs : Int64) (ob_fc : Int32) (Q : Int32 → Unit → Prop) (hw : wp_X_scale ob_fc Q) : ct_M vwCl l D [(cA, .int)] y_X_scale w_X_scale { frames := 0, cells := 0, slots := 0, locals := 0 } [.ref ob] (wd_Ob cA ob dr tx sy mk sc fi pt sp ob_fs ob_fc) (ct_qi vwCl D [(cA, .int)] Q (fun u => wd_Ob cA ob dr tx sy mk sc fi pt sp ob_fs ob_fc)) := by
  refine ct_enter (cc := b_X_scale) (maxL := 1) (ret := (some .int)) (by decide) rfl (Nat.le_of_ble_eq_true rfl) ?_
  intro p e s m args below meth c A ls hx hb hr hlk hml hts hown hA hS hP hK hN hD hl
  have hl : lv_has ls 1 [(0, .ref ob)] := hl
  have htb : ∀ w ∈ tbl, w.before args s = true := fun w h => hts w (List.mem_cons_of_mem _ h)
  have hown : s.vm.findClass "DecimalPatterns" = some m.cls := hown
  unfold wp_X_scale at hw
  refine lv_aload_n hx hb d_X_scale_0 rfl (lv_at hl 0 rfl) ?_
  refine va_get (ci := 8) (C := R_Ob) (T := F_Ob) (N := 10) hx hb htb in_Ob hown hK hP 0 rfl rfl 9 (by decide) (htb _ tw314) (fun _ h9 => h9) rfl d_X_scale_1 ?_
  exact ct_iret hx hb hr hlk hK hS () hw hP hD d_X_scale_4
