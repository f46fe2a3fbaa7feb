/-! DecimalPatternsModel.floorOf(II)I -/
def wp_M_floorOf (aa : Int32) (bb : Int32) (Q : Int32 → Unit → Prop) : Prop := ¬ bb = 0 ∧ ((0 ≤ (aa - aa / bb * bb) → (¬ bb = 0 ∧ (Q (aa / bb) ()))) ∧ (¬ 0 ≤ (aa - aa / bb * bb) → (¬ bb = 0 ∧ (Q ((aa / bb) - 1) ()))))
set_option maxHeartbeats 4000000 in
set_option maxRecDepth 100000 in
theorem c_M_floorOf (l : Launch) (D : va_G) (cA : ClassId) (aa : Int32) (bb : Int32) (Q : Int32 → Unit → Prop) (hw : wp_M_floorOf aa bb Q) : ct_M vwCl l D [(cA, .int)] y_M_floorOf w_M_floorOf { frames := 0, cells := 0, slots := 0, locals := 0 } [.int aa, .int bb] (wd_Nil cA) (ct_qi vwCl D [(cA, .int)] Q (fun u => wd_Nil cA)) := by
  refine ct_enter (cc := b_M_floorOf) (maxL := 2) (ret := (some .int)) (by decide) rfl (Nat.le_of_ble_eq_true rfl) ?_
  intro p e s m args below meth c A ls hx hb hr hlk hml hts hown hA hS hP hK hN hD hl
  have hl : lv_has ls 2 [(0, .int aa), (1, .int bb)] := hl
  have htb : ∀ w ∈ tbl, w.before args s = true := fun w h => hts w (List.mem_cons_of_mem _ h)
  have hown : s.vm.findClass "DecimalPatternsModel" = some m.cls := hown
  unfold wp_M_floorOf at hw
  refine lv_iload_n hx hb d_M_floorOf_0 rfl (lv_at hl 0 rfl) ?_
  refine lv_iload_n hx hb d_M_floorOf_1 rfl (lv_at hl 1 rfl) ?_
  have hi := hw.1
  have hw := hw.2
  refine lv_irem hx hb d_M_floorOf_2 hi ?_
  refine lv_if_ge (tgt := 14) hx hb d_M_floorOf_3 rfl (fun hc => ?_) (fun hc => ?_)
  · have hw := hw.1 hc
    refine lv_iload_n hx hb d_M_floorOf_14 rfl (lv_at hl 0 rfl) ?_
    refine lv_iload_n hx hb d_M_floorOf_15 rfl (lv_at hl 1 rfl) ?_
    have hi := hw.1
    have hw := hw.2
    refine lv_idiv hx hb d_M_floorOf_16 hi ?_
    exact ct_iret hx hb hr hlk hK hS () hw hP hD d_M_floorOf_17
  · have hw := hw.2 hc
    refine lv_iload_n hx hb d_M_floorOf_6 rfl (lv_at hl 0 rfl) ?_
    refine lv_iload_n hx hb d_M_floorOf_7 rfl (lv_at hl 1 rfl) ?_
    have hi := hw.1
    have hw := hw.2
    refine lv_idiv hx hb d_M_floorOf_8 hi ?_
    refine lv_iconst (v := 1) hx hb d_M_floorOf_9 (by decide) ?_
    refine lv_isub hx hb d_M_floorOf_10 ?_
    refine lv_goto (tgt := 17) hx hb d_M_floorOf_11 rfl ?_
    exact ct_iret hx hb hr hlk hK hS () hw hP hD d_M_floorOf_17
/-! DecimalPatternsModel.border(I)Z -/
def wp_M_border (m_has : Nat → Int32) (lf : Int32) (Q : Bool → Unit → Prop) : Prop := vp_in (7 : Int32) 9 ∧ ((lf = (m_has (7 : Int32).toNatClampNeg) → (Q true ())) ∧ (¬ lf = (m_has (7 : Int32).toNatClampNeg) → (vp_in (7 : Int32) 9 ∧ ((lf ≤ (m_has (7 : Int32).toNatClampNeg) → (Q false ())) ∧ (¬ lf ≤ (m_has (7 : Int32).toNatClampNeg) → (vp_in (7 : Int32) 9 ∧ (vp_in (8 : Int32) 9 ∧ (¬ m_has (8 : Int32).toNatClampNeg = 0 ∧ ((¬ ((lf - (m_has (7 : Int32).toNatClampNeg)) - (lf - (m_has (7 : Int32).toNatClampNeg)) / (m_has (8 : Int32).toNatClampNeg) * (m_has (8 : Int32).toNatClampNeg)) = 0 → (Q false ())) ∧ (((lf - (m_has (7 : Int32).toNatClampNeg)) - (lf - (m_has (7 : Int32).toNatClampNeg)) / (m_has (8 : Int32).toNatClampNeg) * (m_has (8 : Int32).toNatClampNeg)) = 0 → (Q true ())))))))))))
set_option maxHeartbeats 4000000 in
set_option maxRecDepth 100000 in
theorem c_M_border (l : Launch) (D : va_G) (cA : ClassId) (mo mo_dr mo_now mo_first mo_has mo_da mo_dl mo_af mo_al mo_sy mo_dg mo_out mo_tx : Nat) (m_ds : Int32) (m_st : Int32) (m_sub : Int32) (m_q : Int32) (m_two : Bool) (m_least : Int32) (m_os : Int32) (m_ts : Int32) (m_fs : Int64) (m_fc : Int32) (m_g : Int64) (m_gs : Int32) (m_dr : Nat → Int32) (m_now : Nat → Int32) (m_first : Nat → Int32) (m_has : Nat → Int32) (m_da : Nat → Int32) (m_dl : Nat → Int32) (m_af : Nat → Int32) (m_al : Nat → Int32) (m_sy : Nat → Int32) (m_dg : Nat → Int32) (m_out : Nat → Int32) (m_tx : Nat → Int32) (lf : Int32) (Q : Bool → Unit → Prop) (hw : wp_M_border m_has lf Q) : ct_M vwCl l D [(cA, .int)] y_M_border w_M_border { frames := 0, cells := 0, slots := 0, locals := 0 } [.ref mo, .int lf] (wd_Mo cA mo mo_dr mo_now mo_first mo_has mo_da mo_dl mo_af mo_al mo_sy mo_dg mo_out mo_tx m_ds m_st m_sub m_q m_two m_least m_os m_ts m_fs m_fc m_g m_gs m_dr m_now m_first m_has m_da m_dl m_af m_al m_sy m_dg m_out m_tx) (ct_qz vwCl D [(cA, .int)] Q (fun u => wd_Mo cA mo mo_dr mo_now mo_first mo_has mo_da mo_dl mo_af mo_al mo_sy mo_dg mo_out mo_tx m_ds m_st m_sub m_q m_two m_least m_os m_ts m_fs m_fc m_g m_gs m_dr m_now m_first m_has m_da m_dl m_af m_al m_sy m_dg m_out m_tx)) := by
  refine ct_enter (cc := b_M_border) (maxL := 2) (ret := (some .boolean)) (by decide) rfl (Nat.le_of_ble_eq_true rfl) ?_
  intro p e s m args below meth c A ls hx hb hr hlk hml hts hown hA hS hP hK hN hD hl
  have hl : lv_has ls 2 [(0, .ref mo), (1, .int lf)] := hl
  have htb : ∀ w ∈ tbl, w.before args s = true := fun w h => hts w (List.mem_cons_of_mem _ h)
  have hown : s.vm.findClass "DecimalPatternsModel" = some m.cls := hown
  unfold wp_M_border at hw
  refine lv_iload_n hx hb d_M_border_0 rfl (lv_at hl 1 rfl) ?_
  refine lv_aload_n hx hb d_M_border_1 rfl (lv_at hl 0 rfl) ?_
  refine va_get (ci := 9) (C := R_Mo) (T := F_Mo) (N := 24) hx hb htb in_Mo hown hK hP 0 rfl rfl 7 (by decide) (htb _ tw703) (fun _ h9 => h9) rfl d_M_border_2 ?_
  refine lv_bipush (v := 7) hx hb d_M_border_5 (by decide) ?_
  have hi := hw.1
  have hw := hw.2
  refine va_iald hx hb hK hP 4 0 rfl rfl hi d_M_border_7 ?_
  refine lv_icmp_eq (tgt := 42) hx hb d_M_border_8 rfl (fun hc => ?_) (fun hc => ?_)
  · have hw := hw.1 hc
    refine lv_iconst (v := 1) hx hb d_M_border_42 (by decide) ?_
    refine lv_goto (tgt := 47) hx hb d_M_border_43 rfl ?_
    exact ct_zret true hx hb hr hlk hK hS () hw hP hD d_M_border_47
  · have hw := hw.2 hc
    refine lv_iload_n hx hb d_M_border_11 rfl (lv_at hl 1 rfl) ?_
    refine lv_aload_n hx hb d_M_border_12 rfl (lv_at hl 0 rfl) ?_
    refine va_get (ci := 9) (C := R_Mo) (T := F_Mo) (N := 24) hx hb htb in_Mo hown hK hP 0 rfl rfl 7 (by decide) (htb _ tw703) (fun _ h9 => h9) rfl d_M_border_13 ?_
    refine lv_bipush (v := 7) hx hb d_M_border_16 (by decide) ?_
    have hi := hw.1
    have hw := hw.2
    refine va_iald hx hb hK hP 4 0 rfl rfl hi d_M_border_18 ?_
    refine lv_icmp_le (tgt := 46) hx hb d_M_border_19 rfl (fun hc => ?_) (fun hc => ?_)
    · have hw := hw.1 hc
      refine lv_iconst (v := 0) hx hb d_M_border_46 (by decide) ?_
      exact ct_zret false hx hb hr hlk hK hS () hw hP hD d_M_border_47
    · have hw := hw.2 hc
      refine lv_iload_n hx hb d_M_border_22 rfl (lv_at hl 1 rfl) ?_
      refine lv_aload_n hx hb d_M_border_23 rfl (lv_at hl 0 rfl) ?_
      refine va_get (ci := 9) (C := R_Mo) (T := F_Mo) (N := 24) hx hb htb in_Mo hown hK hP 0 rfl rfl 7 (by decide) (htb _ tw703) (fun _ h9 => h9) rfl d_M_border_24 ?_
      refine lv_bipush (v := 7) hx hb d_M_border_27 (by decide) ?_
      have hi := hw.1
      have hw := hw.2
      refine va_iald hx hb hK hP 4 0 rfl rfl hi d_M_border_29 ?_
      refine lv_isub hx hb d_M_border_30 ?_
      refine lv_aload_n hx hb d_M_border_31 rfl (lv_at hl 0 rfl) ?_
      refine va_get (ci := 9) (C := R_Mo) (T := F_Mo) (N := 24) hx hb htb in_Mo hown hK hP 0 rfl rfl 7 (by decide) (htb _ tw703) (fun _ h9 => h9) rfl d_M_border_32 ?_
      refine lv_bipush (v := 8) hx hb d_M_border_35 (by decide) ?_
      have hi := hw.1
      have hw := hw.2
      refine va_iald hx hb hK hP 4 0 rfl rfl hi d_M_border_37 ?_
      have hi := hw.1
      have hw := hw.2
      refine lv_irem hx hb d_M_border_38 hi ?_
      refine lv_if_ne (tgt := 46) hx hb d_M_border_39 rfl (fun hc => ?_) (fun hc => ?_)
      · have hw := hw.1 hc
        refine lv_iconst (v := 0) hx hb d_M_border_46 (by decide) ?_
        exact ct_zret false hx hb hr hlk hK hS () hw hP hD d_M_border_47
      · have hw := hw.2 hc
        refine lv_iconst (v := 1) hx hb d_M_border_42 (by decide) ?_
        refine lv_goto (tgt := 47) hx hb d_M_border_43 rfl ?_
        exact ct_zret true hx hb hr hlk hK hS () hw hP hD d_M_border_47
/-! DecimalPatternsModel.putDigits(I)V -/
def wp_M_putDigits_L2480 : Nat → Int32 → (Nat → Int32) → (Nat → Int32) → (Nat → Int32) → Int32 → Int32 → Int32 → Int32 → (Nat → Int32) → ((Int32 × (Nat → Int32)) → Prop) → Prop
  | 0, _, _, _, _, _, _, _, _, _, _ => False
  | n2480 + 1, m_least, m_has, m_sy, m_dg, x1, x6, x8, m_os, m_out, Q => (x6 < x8 → (Q (m_os, m_out))) ∧ (¬ x6 < x8 → (vp_in (5 : Int32) 6 ∧ (wp_M_digitAt m_dg (x1 - x8) (fun r15 u16 => wp_M_put m_os m_out ((m_sy (5 : Int32).toNatClampNeg) + r15) (fun u18 => wp_M_putDigits_L2480 n2480 m_least m_has m_sy m_dg x1 x6 (x8 + 1) u18.1 u18.2 Q)))))
def wp_M_putDigits_J2450 (m_least : Int32) (m_has : Nat → Int32) (m_sy : Nat → Int32) (m_dg : Nat → Int32) (x1 : Int32) (x6 : Int32) (m_os : Int32) (m_out : Nat → Int32) (Q : (Int32 × (Nat → Int32)) → Prop) : Prop := ∃ n2480, wp_M_putDigits_L2480 n2480 m_least m_has m_sy m_dg x1 x6 1 m_os m_out Q
def wp_M_putDigits_L1710 : Nat → Int32 → (Nat → Int32) → (Nat → Int32) → (Nat → Int32) → Int32 → Int32 → Bool → Int32 → Int32 → (Nat → Int32) → ((Int32 × (Nat → Int32)) → Prop) → Prop
  | 0, _, _, _, _, _, _, _, _, _, _, _ => False
  | n1710 + 1, m_least, m_has, m_sy, m_dg, x1, x6, x7, x8, m_os, m_out, Q => (x8 < 0 → ((x6 ≤ 0 → (wp_M_putDigits_J2450 m_least m_has m_sy m_dg x1 x6 m_os m_out Q)) ∧ (¬ x6 ≤ 0 → (vp_in (0 : Int32) 6 ∧ (wp_M_put m_os m_out (m_sy (0 : Int32).toNatClampNeg) (fun u6 => wp_M_putDigits_J2450 m_least m_has m_sy m_dg x1 x6 u6.1 u6.2 Q)))))) ∧ (¬ x8 < 0 → (vp_in (5 : Int32) 6 ∧ (wp_M_digitAt m_dg (x1 + x8) (fun r7 u8 => wp_M_put m_os m_out ((m_sy (5 : Int32).toNatClampNeg) + r7) (fun u10 => (x7 = false → (wp_M_putDigits_L1710 n1710 m_least m_has m_sy m_dg x1 x6 x7 (x8 + (-1)) u10.1 u10.2 Q)) ∧ (x7 = true → ((x8 ≤ 0 → (wp_M_putDigits_L1710 n1710 m_least m_has m_sy m_dg x1 x6 x7 (x8 + (-1)) u10.1 u10.2 Q)) ∧ (¬ x8 ≤ 0 → (wp_M_border m_has x8 (fun r11 u12 => (r11 = false → (wp_M_putDigits_L1710 n1710 m_least m_has m_sy m_dg x1 x6 x7 (x8 + (-1)) u10.1 u10.2 Q)) ∧ (r11 = true → (vp_in (1 : Int32) 6 ∧ (wp_M_put u10.1 u10.2 (m_sy (1 : Int32).toNatClampNeg) (fun u14 => wp_M_putDigits_L1710 n1710 m_least m_has m_sy m_dg x1 x6 x7 (x8 + (-1)) u14.1 u14.2 Q))))))))))))))
def wp_M_putDigits_J1640 (m_least : Int32) (m_has : Nat → Int32) (m_sy : Nat → Int32) (m_dg : Nat → Int32) (x1 : Int32) (x3 : Int32) (x6 : Int32) (y0 : Bool) (m_os : Int32) (m_out : Nat → Int32) (Q : (Int32 × (Nat → Int32)) → Prop) : Prop := ∃ n1710, wp_M_putDigits_L1710 n1710 m_least m_has m_sy m_dg x1 x6 y0 (x3 - 1) m_os m_out Q
def wp_M_putDigits_J1630 (m_least : Int32) (m_has : Nat → Int32) (m_sy : Nat → Int32) (m_dg : Nat → Int32) (x1 : Int32) (x3 : Int32) (x6 : Int32) (m_os : Int32) (m_out : Nat → Int32) (Q : (Int32 × (Nat → Int32)) → Prop) : Prop := wp_M_putDigits_J1640 m_least m_has m_sy m_dg x1 x3 x6 false m_os m_out Q
def wp_M_putDigits_J1230 (m_least : Int32) (m_has : Nat → Int32) (m_sy : Nat → Int32) (m_dg : Nat → Int32) (x1 : Int32) (x6 : Int32) (y0 : Int32) (m_os : Int32) (m_out : Nat → Int32) (Q : (Int32 × (Nat → Int32)) → Prop) : Prop := vp_in (4 : Int32) 9 ∧ ((¬ (m_has (4 : Int32).toNatClampNeg) = 0 → (wp_M_putDigits_J1630 m_least m_has m_sy m_dg x1 y0 x6 m_os m_out Q)) ∧ ((m_has (4 : Int32).toNatClampNeg) = 0 → (vp_in (6 : Int32) 9 ∧ (((m_has (6 : Int32).toNatClampNeg) ≤ 0 → (wp_M_putDigits_J1630 m_least m_has m_sy m_dg x1 y0 x6 m_os m_out Q)) ∧ (¬ (m_has (6 : Int32).toNatClampNeg) ≤ 0 → (vp_in (7 : Int32) 9 ∧ ((y0 < ((m_has (7 : Int32).toNatClampNeg) + m_least) → (wp_M_putDigits_J1630 m_least m_has m_sy m_dg x1 y0 x6 m_os m_out Q)) ∧ (¬ y0 < ((m_has (7 : Int32).toNatClampNeg) + m_least) → (wp_M_putDigits_J1640 m_least m_has m_sy m_dg x1 y0 x6 true m_os m_out Q)))))))))
def wp_M_putDigits_J1220 (m_least : Int32) (m_has : Nat → Int32) (m_sy : Nat → Int32) (m_dg : Nat → Int32) (x1 : Int32) (x3 : Int32) (x6 : Int32) (m_os : Int32) (m_out : Nat → Int32) (Q : (Int32 × (Nat → Int32)) → Prop) : Prop := wp_M_putDigits_J1230 m_least m_has m_sy m_dg x1 x6 x3 m_os m_out Q
def wp_M_putDigits_J1070 (m_least : Int32) (m_has : Nat → Int32) (m_sy : Nat → Int32) (m_dg : Nat → Int32) (x1 : Int32) (x3 : Int32) (y0 : Int32) (m_os : Int32) (m_out : Nat → Int32) (Q : (Int32 × (Nat → Int32)) → Prop) : Prop := (¬ x3 = 0 → (wp_M_putDigits_J1220 m_least m_has m_sy m_dg x1 x3 y0 m_os m_out Q)) ∧ (x3 = 0 → ((¬ y0 = 0 → (wp_M_putDigits_J1220 m_least m_has m_sy m_dg x1 x3 y0 m_os m_out Q)) ∧ (y0 = 0 → (wp_M_putDigits_J1230 m_least m_has m_sy m_dg x1 y0 1 m_os m_out Q))))
def wp_M_putDigits_L660 : Nat → Int32 → (Nat → Int32) → (Nat → Int32) → (Nat → Int32) → Int32 → Int32 → Int32 → Int32 → (Nat → Int32) → ((Int32 × (Nat → Int32)) → Prop) → Prop
  | 0, _, _, _, _, _, _, _, _, _, _ => False
  | n660 + 1, m_least, m_has, m_sy, m_dg, x1, x3, x5, m_os, m_out, Q => wp_M_below m_dg x5 (fun r3 u4 => (r3 = false → (vp_in (3 : Int32) 9 ∧ (((m_has (3 : Int32).toNatClampNeg) ≤ (x1 - x5) → (wp_M_putDigits_J1070 m_least m_has m_sy m_dg x1 x3 (x1 - x5) m_os m_out Q)) ∧ (¬ (m_has (3 : Int32).toNatClampNeg) ≤ (x1 - x5) → (vp_in (3 : Int32) 9 ∧ (wp_M_putDigits_J1070 m_least m_has m_sy m_dg x1 x3 (m_has (3 : Int32).toNatClampNeg) m_os m_out Q)))))) ∧ (r3 = true → (wp_M_putDigits_L660 n660 m_least m_has m_sy m_dg x1 x3 (x5 + (-1)) m_os m_out Q)))
def wp_M_putDigits_J620 (m_least : Int32) (m_has : Nat → Int32) (m_sy : Nat → Int32) (m_dg : Nat → Int32) (x1 : Int32) (y0 : Int32) (m_os : Int32) (m_out : Nat → Int32) (Q : (Int32 × (Nat → Int32)) → Prop) : Prop := ∃ n660, wp_M_putDigits_L660 n660 m_least m_has m_sy m_dg x1 y0 x1 m_os m_out Q
def wp_M_putDigits_J480 (m_least : Int32) (m_has : Nat → Int32) (m_sy : Nat → Int32) (m_dg : Nat → Int32) (x1 : Int32) (x3 : Int32) (y0 : Int32) (m_os : Int32) (m_out : Nat → Int32) (Q : (Int32 × (Nat → Int32)) → Prop) : Prop := (y0 ≤ x3 → (wp_M_putDigits_J620 m_least m_has m_sy m_dg x1 x3 m_os m_out Q)) ∧ (¬ y0 ≤ x3 → (wp_M_putDigits_J620 m_least m_has m_sy m_dg x1 y0 m_os m_out Q))
def wp_M_putDigits_J420 (m_least : Int32) (m_has : Nat → Int32) (m_sy : Nat → Int32) (m_dg : Nat → Int32) (x1 : Int32) (x3 : Int32) (m_os : Int32) (m_out : Nat → Int32) (Q : (Int32 × (Nat → Int32)) → Prop) : Prop := vp_in (1 : Int32) 9 ∧ (wp_M_putDigits_J480 m_least m_has m_sy m_dg x1 x3 (m_has (1 : Int32).toNatClampNeg) m_os m_out Q)
def wp_M_putDigits_J190 (m_least : Int32) (m_has : Nat → Int32) (m_sy : Nat → Int32) (m_dg : Nat → Int32) (x1 : Int32) (y0 : Int32) (m_os : Int32) (m_out : Nat → Int32) (Q : (Int32 × (Nat → Int32)) → Prop) : Prop := vp_in (4 : Int32) 9 ∧ (((m_has (4 : Int32).toNatClampNeg) ≤ 0 → (wp_M_putDigits_J420 m_least m_has m_sy m_dg x1 y0 m_os m_out Q)) ∧ (¬ (m_has (4 : Int32).toNatClampNeg) ≤ 0 → (vp_in (0 : Int32) 9 ∧ (((m_has (0 : Int32).toNatClampNeg) ≤ 0 → (wp_M_putDigits_J420 m_least m_has m_sy m_dg x1 y0 m_os m_out Q)) ∧ (¬ (m_has (0 : Int32).toNatClampNeg) ≤ 0 → (wp_M_putDigits_J480 m_least m_has m_sy m_dg x1 y0 1 m_os m_out Q))))))
def wp_M_putDigits (m_least : Int32) (m_os : Int32) (m_has : Nat → Int32) (m_sy : Nat → Int32) (m_dg : Nat → Int32) (m_out : Nat → Int32) (ex : Int32) (Q : (Int32 × (Nat → Int32)) → Prop) : Prop := wp_M_top m_dg (fun r1 u2 => (r1 < ex → (wp_M_putDigits_J190 m_least m_has m_sy m_dg ex 0 m_os m_out Q)) ∧ (¬ r1 < ex → (wp_M_putDigits_J190 m_least m_has m_sy m_dg ex ((r1 - ex) + 1) m_os m_out Q)))
set_option maxHeartbeats 4000000 in
set_option maxRecDepth 100000 in
theorem c_M_putDigits (l : Launch) (D : va_G) (cA : ClassId) (mo mo_dr mo_now mo_first mo_has mo_da mo_dl mo_af mo_al mo_sy mo_dg mo_out mo_tx : Nat) (m_ds : Int32) (m_st : Int32) (m_sub : Int32) (m_q : Int32) (m_two : Bool) (m_least : Int32) (m_os : Int32) (m_ts : Int32) (m_fs : Int64) (m_fc : Int32) (m_g : Int64) (m_gs : Int32) (m_dr : Nat → Int32) (m_now : Nat → Int32) (m_first : Nat → Int32) (m_has : Nat → Int32) (m_da : Nat → Int32) (m_dl : Nat → Int32) (m_af : Nat → Int32) (m_al : Nat → Int32) (m_sy : Nat → Int32) (m_dg : Nat → Int32) (m_out : Nat → Int32) (m_tx : Nat → Int32) (ex : Int32) (Q : (Int32 × (Nat → Int32)) → Prop) (hw : wp_M_putDigits m_least m_os m_has m_sy m_dg m_out ex Q) : ct_M vwCl l D [(cA, .int)] y_M_putDigits w_M_putDigits { frames := 2, cells := 0, slots := 0, locals := 44 } [.ref mo, .int ex] (wd_Mo cA mo mo_dr mo_now mo_first mo_has mo_da mo_dl mo_af mo_al mo_sy mo_dg mo_out mo_tx m_ds m_st m_sub m_q m_two m_least m_os m_ts m_fs m_fc m_g m_gs m_dr m_now m_first m_has m_da m_dl m_af m_al m_sy m_dg m_out m_tx) (ct_qv vwCl D [(cA, .int)] Q (fun u => wd_Mo cA mo mo_dr mo_now mo_first mo_has mo_da mo_dl mo_af mo_al mo_sy mo_dg mo_out mo_tx m_ds m_st m_sub m_q m_two m_least u.1 m_ts m_fs m_fc m_g m_gs m_dr m_now m_first m_has m_da m_dl m_af m_al m_sy m_dg u.2 m_tx)) := by
  refine ct_enter (cc := b_M_putDigits) (maxL := 9) (ret := none) (by decide) rfl (Nat.le_of_ble_eq_true rfl) ?_
  intro p e s m args below meth c A ls hx hb hr hlk hml hts hown hA hS hP hK hN hD hl
  have hl : lv_has ls 9 [(0, .ref mo), (1, .int ex)] := hl
  have htb : ∀ w ∈ tbl, w.before args s = true := fun w h => hts w (List.mem_cons_of_mem _ h)
  have hown : s.vm.findClass "DecimalPatternsModel" = some m.cls := hown
  unfold wp_M_putDigits at hw
  have hL2480 : ∀ (n2480 : Nat) (x1 : Int32) (x6 : Int32) (x8 : Int32) (m_os : Int32) (m_out : Nat → Int32) (H : Heap) (locs : List Loc) (ls : Array Slot), lv_has ls 9 [(0, .ref mo), (1, .int x1), (6, .int x6), (8, .int x8)] → va_P D vwCl (wd_Mo cA mo mo_dr mo_now mo_first mo_has mo_da mo_dl mo_af mo_al mo_sy mo_dg mo_out mo_tx m_ds m_st m_sub m_q m_two m_least m_os m_ts m_fs m_fc m_g m_gs m_dr m_now m_first m_has m_da m_dl m_af m_al m_sy m_dg m_out m_tx) H → va_D A (wd_Mo cA mo mo_dr mo_now mo_first mo_has mo_da mo_dl mo_af mo_al mo_sy mo_dg mo_out mo_tx m_ds m_st m_sub m_q m_two m_least m_os m_ts m_fs m_fc m_g m_gs m_dr m_now m_first m_has m_da m_dl m_af m_al m_sy m_dg m_out m_tx) → va_S A s.heap H locs → wp_M_putDigits_L2480 n2480 m_least m_has m_sy m_dg x1 x6 x8 m_os m_out Q → W p l e { frames := 2, cells := 0, slots := 0, locals := 44 } s m args below meth c H locs 0 0 (MQ below (ct_qv vwCl D [(cA, .int)] Q (fun u => wd_Mo cA mo mo_dr mo_now mo_first mo_has mo_da mo_dl mo_af mo_al mo_sy mo_dg mo_out mo_tx m_ds m_st m_sub m_q m_two m_least u.1 m_ts m_fs m_fc m_g m_gs m_dr m_now m_first m_has m_da m_dl m_af m_al m_sy m_dg u.2 m_tx) A) args s 0 0 A) (F0 m 248 ls []) := by
    intro n2480
    induction n2480 with
    | zero => intro x1 x6 x8 m_os m_out H locs ls hl hP hD hS hw; exact hw.elim
    | succ n2480 ih2480 =>
      intro x1 x6 x8 m_os m_out H locs ls hl hP hD hS hw
      unfold wp_M_putDigits_L2480 at hw
      refine lv_iload hx hb d_M_putDigits_248 (lv_at hl 3 rfl) ?_
      refine lv_iload hx hb d_M_putDigits_250 (lv_at hl 2 rfl) ?_
      refine lv_icmp_gt (tgt := 280) hx hb d_M_putDigits_252 rfl (fun hc => ?_) (fun hc => ?_)
      · have hw := hw.1 hc
        exact ct_vret hx hb hr hlk hK hS (m_os, m_out) hw hP hD d_M_putDigits_280
      · have hw := hw.2 hc
        refine lv_aload_n hx hb d_M_putDigits_255 rfl (lv_at hl 0 rfl) ?_
        refine lv_aload_n hx hb d_M_putDigits_256 rfl (lv_at hl 0 rfl) ?_
        refine va_get (ci := 9) (C := R_Mo) (T := F_Mo) (N := 24) hx hb htb in_Mo hown hK hP 0 rfl rfl 13 (by decide) (htb _ tw709) (fun _ h9 => h9) rfl d_M_putDigits_257 ?_
        refine lv_iconst (v := 5) hx hb d_M_putDigits_260 (by decide) ?_
        have hi := hw.1
        have hw := hw.2
        refine va_iald hx hb hK hP 9 0 rfl rfl hi d_M_putDigits_261 ?_
        refine lv_aload_n hx hb d_M_putDigits_262 rfl (lv_at hl 0 rfl) ?_
        refine lv_iload_n hx hb d_M_putDigits_263 rfl (lv_at hl 1 rfl) ?_
        refine lv_iload hx hb d_M_putDigits_264 (lv_at hl 3 rfl) ?_
        refine lv_isub hx hb d_M_putDigits_266 ?_
        refine ct_calli (wn := fun _ => wd_Mo cA mo mo_dr mo_now mo_first mo_has mo_da mo_dl mo_af mo_al mo_sy mo_dg mo_out mo_tx m_ds m_st m_sub m_q m_two m_least m_os m_ts m_fs m_fc m_g m_gs m_dr m_now m_first m_has m_da m_dl m_af m_al m_sy m_dg m_out m_tx) (va_runV (As := [.int (x1 - x8)]) (rest := [.int (m_sy (5 : Int32).toNatClampNeg), .ref mo]) ⟨hx, hb, hml, hown, htb⟩ (c_M_digitAt l D cA mo mo_dr mo_now mo_first mo_has mo_da mo_dl mo_af mo_al mo_sy mo_dg mo_out mo_tx m_ds m_st m_sub m_q m_two m_least m_os m_ts m_fs m_fc m_g m_gs m_dr m_now m_first m_has m_da m_dl m_af m_al m_sy m_dg m_out m_tx (x1 - x8) _ hw _) (ct_cwV 1 htb tw867 rfl rfl tw82 tw864 tw866 tw57 hd_M_digitAt ⟨by decide, by decide⟩) (ct_preV hP hD hK hN [0, 1, 2, 3, 4, 5, 6, 7, 8, 9, 10, 11, 12] rfl (by decide) 0 rfl rfl _) rfl rfl hl.1 rfl (lv_room (Nat.le_of_ble_eq_true rfl)) d_M_putDigits_267 ⟨Nat.zero_le _, Nat.zero_le _⟩) hP hD hS hA [0, 1, 2, 3, 4, 5, 6, 7, 8, 9, 10, 11, 12] [] [0, 1, 2, 3, 4, 5, 6, 7, 8, 9, 10, 11, 12] rfl rfl (by decide) (by decide) (fun _ => rfl) (by decide) (fun r15 u16 H locs hw hP hD hS => ?_)
        have hP : va_P D vwCl (wd_Mo cA mo mo_dr mo_now mo_first mo_has mo_da mo_dl mo_af mo_al mo_sy mo_dg mo_out mo_tx m_ds m_st m_sub m_q m_two m_least m_os m_ts m_fs m_fc m_g m_gs m_dr m_now m_first m_has m_da m_dl m_af m_al m_sy m_dg m_out m_tx) H := hP
        have hD : va_D A (wd_Mo cA mo mo_dr mo_now mo_first mo_has mo_da mo_dl mo_af mo_al mo_sy mo_dg mo_out mo_tx m_ds m_st m_sub m_q m_two m_least m_os m_ts m_fs m_fc m_g m_gs m_dr m_now m_first m_has m_da m_dl m_af m_al m_sy m_dg m_out m_tx) := hD
        refine lv_iadd hx hb d_M_putDigits_270 ?_
        refine ct_callv (wn := fun u18 => wd_Mo cA mo mo_dr mo_now mo_first mo_has mo_da mo_dl mo_af mo_al mo_sy mo_dg mo_out mo_tx m_ds m_st m_sub m_q m_two m_least u18.1 m_ts m_fs m_fc m_g m_gs m_dr m_now m_first m_has m_da m_dl m_af m_al m_sy m_dg u18.2 m_tx) (va_runV (As := [.int ((m_sy (5 : Int32).toNatClampNeg) + r15)]) (rest := []) ⟨hx, hb, hml, hown, htb⟩ (c_M_put l D cA mo mo_dr mo_now mo_first mo_has mo_da mo_dl mo_af mo_al mo_sy mo_dg mo_out mo_tx m_ds m_st m_sub m_q m_two m_least m_os m_ts m_fs m_fc m_g m_gs m_dr m_now m_first m_has m_da m_dl m_af m_al m_sy m_dg m_out m_tx ((m_sy (5 : Int32).toNatClampNeg) + r15) _ hw _) (ct_cwV 1 htb tw882 rfl rfl tw82 tw879 tw881 tw60 hd_M_put ⟨by decide, by decide⟩) (ct_preV hP hD hK hN [0, 1, 2, 3, 4, 5, 6, 7, 8, 9, 10, 11, 12] rfl (by decide) 0 rfl rfl _) rfl rfl hl.1 rfl (lv_room (Nat.le_of_ble_eq_true rfl)) d_M_putDigits_271 ⟨Nat.zero_le _, Nat.zero_le _⟩) hP hD hS hA [0, 1, 2, 3, 4, 5, 6, 7, 8, 9, 10, 11, 12] [] [0, 1, 2, 3, 4, 5, 6, 7, 8, 9, 10, 11, 12] rfl rfl (by decide) (by decide) (fun _ => rfl) (by decide) (fun u18 H locs hw hP hD hS => ?_)
        have hP : va_P D vwCl (wd_Mo cA mo mo_dr mo_now mo_first mo_has mo_da mo_dl mo_af mo_al mo_sy mo_dg mo_out mo_tx m_ds m_st m_sub m_q m_two m_least u18.1 m_ts m_fs m_fc m_g m_gs m_dr m_now m_first m_has m_da m_dl m_af m_al m_sy m_dg u18.2 m_tx) H := hP
        have hD : va_D A (wd_Mo cA mo mo_dr mo_now mo_first mo_has mo_da mo_dl mo_af mo_al mo_sy mo_dg mo_out mo_tx m_ds m_st m_sub m_q m_two m_least u18.1 m_ts m_fs m_fc m_g m_gs m_dr m_now m_first m_has m_da m_dl m_af m_al m_sy m_dg u18.2 m_tx) := hD
        refine lv_iinc (k := 3) (v := x8 + 1) (lv' := [(8, .int (x8 + 1)), (0, .ref mo), (1, .int x1), (6, .int x6)]) hx hb d_M_putDigits_274 hl rfl (by rfl) (by decide) rfl (fun ls hl => ?_)
        refine lv_goto (tgt := 248) hx hb d_M_putDigits_277 rfl ?_
        exact ih2480 x1 x6 (x8 + 1) u18.1 u18.2 _ _ _ (lv_sub hl [1, 2, 3, 0] rfl) hP hD hS hw
  have hJ2450 : ∀ (x1 : Int32) (x6 : Int32) (m_os : Int32) (m_out : Nat → Int32) (H : Heap) (locs : List Loc) (ls : Array Slot), lv_has ls 9 [(0, .ref mo), (1, .int x1), (6, .int x6)] → va_P D vwCl (wd_Mo cA mo mo_dr mo_now mo_first mo_has mo_da mo_dl mo_af mo_al mo_sy mo_dg mo_out mo_tx m_ds m_st m_sub m_q m_two m_least m_os m_ts m_fs m_fc m_g m_gs m_dr m_now m_first m_has m_da m_dl m_af m_al m_sy m_dg m_out m_tx) H → va_D A (wd_Mo cA mo mo_dr mo_now mo_first mo_has mo_da mo_dl mo_af mo_al mo_sy mo_dg mo_out mo_tx m_ds m_st m_sub m_q m_two m_least m_os m_ts m_fs m_fc m_g m_gs m_dr m_now m_first m_has m_da m_dl m_af m_al m_sy m_dg m_out m_tx) → va_S A s.heap H locs → wp_M_putDigits_J2450 m_least m_has m_sy m_dg x1 x6 m_os m_out Q → W p l e { frames := 2, cells := 0, slots := 0, locals := 44 } s m args below meth c H locs 0 0 (MQ below (ct_qv vwCl D [(cA, .int)] Q (fun u => wd_Mo cA mo mo_dr mo_now mo_first mo_has mo_da mo_dl mo_af mo_al mo_sy mo_dg mo_out mo_tx m_ds m_st m_sub m_q m_two m_least u.1 m_ts m_fs m_fc m_g m_gs m_dr m_now m_first m_has m_da m_dl m_af m_al m_sy m_dg u.2 m_tx) A) args s 0 0 A) (F0 m 245 ls []) := by
    intro x1 x6 m_os m_out H locs ls hl hP hD hS hw
    unfold wp_M_putDigits_J2450 at hw
    refine lv_iconst (v := 1) hx hb d_M_putDigits_245 (by decide) ?_
    refine lv_istore (lv' := [(8, .int 1), (0, .ref mo), (1, .int x1), (6, .int x6)]) hx hb d_M_putDigits_246 hl (by decide) rfl (fun ls hl => ?_)
    obtain ⟨n2480, hw⟩ := hw
    exact hL2480 n2480 x1 x6 1 m_os m_out _ _ _ (lv_sub hl [1, 2, 3, 0] rfl) hP hD hS hw
  have hL1710 : ∀ (n1710 : Nat) (x1 : Int32) (x6 : Int32) (x7 : Bool) (x8 : Int32) (m_os : Int32) (m_out : Nat → Int32) (H : Heap) (locs : List Loc) (ls : Array Slot), lv_has ls 9 [(0, .ref mo), (1, .int x1), (6, .int x6), (7, .int (bI x7)), (8, .int x8)] → va_P D vwCl (wd_Mo cA mo mo_dr mo_now mo_first mo_has mo_da mo_dl mo_af mo_al mo_sy mo_dg mo_out mo_tx m_ds m_st m_sub m_q m_two m_least m_os m_ts m_fs m_fc m_g m_gs m_dr m_now m_first m_has m_da m_dl m_af m_al m_sy m_dg m_out m_tx) H → va_D A (wd_Mo cA mo mo_dr mo_now mo_first mo_has mo_da mo_dl mo_af mo_al mo_sy mo_dg mo_out mo_tx m_ds m_st m_sub m_q m_two m_least m_os m_ts m_fs m_fc m_g m_gs m_dr m_now m_first m_has m_da m_dl m_af m_al m_sy m_dg m_out m_tx) → va_S A s.heap H locs → wp_M_putDigits_L1710 n1710 m_least m_has m_sy m_dg x1 x6 x7 x8 m_os m_out Q → W p l e { frames := 2, cells := 0, slots := 0, locals := 44 } s m args below meth c H locs 0 0 (MQ below (ct_qv vwCl D [(cA, .int)] Q (fun u => wd_Mo cA mo mo_dr mo_now mo_first mo_has mo_da mo_dl mo_af mo_al mo_sy mo_dg mo_out mo_tx m_ds m_st m_sub m_q m_two m_least u.1 m_ts m_fs m_fc m_g m_gs m_dr m_now m_first m_has m_da m_dl m_af m_al m_sy m_dg u.2 m_tx) A) args s 0 0 A) (F0 m 171 ls []) := by
    intro n1710
    induction n1710 with
    | zero => intro x1 x6 x7 x8 m_os m_out H locs ls hl hP hD hS hw; exact hw.elim
    | succ n1710 ih1710 =>
      intro x1 x6 x7 x8 m_os m_out H locs ls hl hP hD hS hw
      unfold wp_M_putDigits_L1710 at hw
      refine lv_iload hx hb d_M_putDigits_171 (lv_at hl 4 rfl) ?_
      refine lv_if_lt (tgt := 230) hx hb d_M_putDigits_173 rfl (fun hc => ?_) (fun hc => ?_)
      · have hw := hw.1 hc
        refine lv_iload hx hb d_M_putDigits_230 (lv_at hl 2 rfl) ?_
        refine lv_if_le (tgt := 245) hx hb d_M_putDigits_232 rfl (fun hc => ?_) (fun hc => ?_)
        · have hw := hw.1 hc
          exact hJ2450 x1 x6 m_os m_out _ _ _ (lv_sub hl [0, 1, 2] rfl) hP hD hS hw
        · have hw := hw.2 hc
          refine lv_aload_n hx hb d_M_putDigits_235 rfl (lv_at hl 0 rfl) ?_
          refine lv_aload_n hx hb d_M_putDigits_236 rfl (lv_at hl 0 rfl) ?_
          refine va_get (ci := 9) (C := R_Mo) (T := F_Mo) (N := 24) hx hb htb in_Mo hown hK hP 0 rfl rfl 13 (by decide) (htb _ tw709) (fun _ h9 => h9) rfl d_M_putDigits_237 ?_
          refine lv_iconst (v := 0) hx hb d_M_putDigits_240 (by decide) ?_
          have hi := hw.1
          have hw := hw.2
          refine va_iald hx hb hK hP 9 0 rfl rfl hi d_M_putDigits_241 ?_
          refine ct_callv (wn := fun u6 => wd_Mo cA mo mo_dr mo_now mo_first mo_has mo_da mo_dl mo_af mo_al mo_sy mo_dg mo_out mo_tx m_ds m_st m_sub m_q m_two m_least u6.1 m_ts m_fs m_fc m_g m_gs m_dr m_now m_first m_has m_da m_dl m_af m_al m_sy m_dg u6.2 m_tx) (va_runV (As := [.int (m_sy (0 : Int32).toNatClampNeg)]) (rest := []) ⟨hx, hb, hml, hown, htb⟩ (c_M_put l D cA mo mo_dr mo_now mo_first mo_has mo_da mo_dl mo_af mo_al mo_sy mo_dg mo_out mo_tx m_ds m_st m_sub m_q m_two m_least m_os m_ts m_fs m_fc m_g m_gs m_dr m_now m_first m_has m_da m_dl m_af m_al m_sy m_dg m_out m_tx (m_sy (0 : Int32).toNatClampNeg) _ hw _) (ct_cwV 1 htb tw882 rfl rfl tw82 tw879 tw881 tw60 hd_M_put ⟨by decide, by decide⟩) (ct_preV hP hD hK hN [0, 1, 2, 3, 4, 5, 6, 7, 8, 9, 10, 11, 12] rfl (by decide) 0 rfl rfl _) rfl rfl hl.1 rfl (lv_room (Nat.le_of_ble_eq_true rfl)) d_M_putDigits_242 ⟨Nat.zero_le _, Nat.zero_le _⟩) hP hD hS hA [0, 1, 2, 3, 4, 5, 6, 7, 8, 9, 10, 11, 12] [] [0, 1, 2, 3, 4, 5, 6, 7, 8, 9, 10, 11, 12] rfl rfl (by decide) (by decide) (fun _ => rfl) (by decide) (fun u6 H locs hw hP hD hS => ?_)
          have hP : va_P D vwCl (wd_Mo cA mo mo_dr mo_now mo_first mo_has mo_da mo_dl mo_af mo_al mo_sy mo_dg mo_out mo_tx m_ds m_st m_sub m_q m_two m_least u6.1 m_ts m_fs m_fc m_g m_gs m_dr m_now m_first m_has m_da m_dl m_af m_al m_sy m_dg u6.2 m_tx) H := hP
          have hD : va_D A (wd_Mo cA mo mo_dr mo_now mo_first mo_has mo_da mo_dl mo_af mo_al mo_sy mo_dg mo_out mo_tx m_ds m_st m_sub m_q m_two m_least u6.1 m_ts m_fs m_fc m_g m_gs m_dr m_now m_first m_has m_da m_dl m_af m_al m_sy m_dg u6.2 m_tx) := hD
          exact hJ2450 x1 x6 u6.1 u6.2 _ _ _ (lv_sub hl [0, 1, 2] rfl) hP hD hS hw
      · have hw := hw.2 hc
        refine lv_aload_n hx hb d_M_putDigits_176 rfl (lv_at hl 0 rfl) ?_
        refine lv_aload_n hx hb d_M_putDigits_177 rfl (lv_at hl 0 rfl) ?_
        refine va_get (ci := 9) (C := R_Mo) (T := F_Mo) (N := 24) hx hb htb in_Mo hown hK hP 0 rfl rfl 13 (by decide) (htb _ tw709) (fun _ h9 => h9) rfl d_M_putDigits_178 ?_
        refine lv_iconst (v := 5) hx hb d_M_putDigits_181 (by decide) ?_
        have hi := hw.1
        have hw := hw.2
        refine va_iald hx hb hK hP 9 0 rfl rfl hi d_M_putDigits_182 ?_
        refine lv_aload_n hx hb d_M_putDigits_183 rfl (lv_at hl 0 rfl) ?_
        refine lv_iload_n hx hb d_M_putDigits_184 rfl (lv_at hl 1 rfl) ?_
        refine lv_iload hx hb d_M_putDigits_185 (lv_at hl 4 rfl) ?_
        refine lv_iadd hx hb d_M_putDigits_187 ?_
        refine ct_calli (wn := fun _ => wd_Mo cA mo mo_dr mo_now mo_first mo_has mo_da mo_dl mo_af mo_al mo_sy mo_dg mo_out mo_tx m_ds m_st m_sub m_q m_two m_least m_os m_ts m_fs m_fc m_g m_gs m_dr m_now m_first m_has m_da m_dl m_af m_al m_sy m_dg m_out m_tx) (va_runV (As := [.int (x1 + x8)]) (rest := [.int (m_sy (5 : Int32).toNatClampNeg), .ref mo]) ⟨hx, hb, hml, hown, htb⟩ (c_M_digitAt l D cA mo mo_dr mo_now mo_first mo_has mo_da mo_dl mo_af mo_al mo_sy mo_dg mo_out mo_tx m_ds m_st m_sub m_q m_two m_least m_os m_ts m_fs m_fc m_g m_gs m_dr m_now m_first m_has m_da m_dl m_af m_al m_sy m_dg m_out m_tx (x1 + x8) _ hw _) (ct_cwV 1 htb tw867 rfl rfl tw82 tw864 tw866 tw57 hd_M_digitAt ⟨by decide, by decide⟩) (ct_preV hP hD hK hN [0, 1, 2, 3, 4, 5, 6, 7, 8, 9, 10, 11, 12] rfl (by decide) 0 rfl rfl _) rfl rfl hl.1 rfl (lv_room (Nat.le_of_ble_eq_true rfl)) d_M_putDigits_188 ⟨Nat.zero_le _, Nat.zero_le _⟩) hP hD hS hA [0, 1, 2, 3, 4, 5, 6, 7, 8, 9, 10, 11, 12] [] [0, 1, 2, 3, 4, 5, 6, 7, 8, 9, 10, 11, 12] rfl rfl (by decide) (by decide) (fun _ => rfl) (by decide) (fun r7 u8 H locs hw hP hD hS => ?_)
        have hP : va_P D vwCl (wd_Mo cA mo mo_dr mo_now mo_first mo_has mo_da mo_dl mo_af mo_al mo_sy mo_dg mo_out mo_tx m_ds m_st m_sub m_q m_two m_least m_os m_ts m_fs m_fc m_g m_gs m_dr m_now m_first m_has m_da m_dl m_af m_al m_sy m_dg m_out m_tx) H := hP
        have hD : va_D A (wd_Mo cA mo mo_dr mo_now mo_first mo_has mo_da mo_dl mo_af mo_al mo_sy mo_dg mo_out mo_tx m_ds m_st m_sub m_q m_two m_least m_os m_ts m_fs m_fc m_g m_gs m_dr m_now m_first m_has m_da m_dl m_af m_al m_sy m_dg m_out m_tx) := hD
        refine lv_iadd hx hb d_M_putDigits_191 ?_
        refine ct_callv (wn := fun u10 => wd_Mo cA mo mo_dr mo_now mo_first mo_has mo_da mo_dl mo_af mo_al mo_sy mo_dg mo_out mo_tx m_ds m_st m_sub m_q m_two m_least u10.1 m_ts m_fs m_fc m_g m_gs m_dr m_now m_first m_has m_da m_dl m_af m_al m_sy m_dg u10.2 m_tx) (va_runV (As := [.int ((m_sy (5 : Int32).toNatClampNeg) + r7)]) (rest := []) ⟨hx, hb, hml, hown, htb⟩ (c_M_put l D cA mo mo_dr mo_now mo_first mo_has mo_da mo_dl mo_af mo_al mo_sy mo_dg mo_out mo_tx m_ds m_st m_sub m_q m_two m_least m_os m_ts m_fs m_fc m_g m_gs m_dr m_now m_first m_has m_da m_dl m_af m_al m_sy m_dg m_out m_tx ((m_sy (5 : Int32).toNatClampNeg) + r7) _ hw _) (ct_cwV 1 htb tw882 rfl rfl tw82 tw879 tw881 tw60 hd_M_put ⟨by decide, by decide⟩) (ct_preV hP hD hK hN [0, 1, 2, 3, 4, 5, 6, 7, 8, 9, 10, 11, 12] rfl (by decide) 0 rfl rfl _) rfl rfl hl.1 rfl (lv_room (Nat.le_of_ble_eq_true rfl)) d_M_putDigits_192 ⟨Nat.zero_le _, Nat.zero_le _⟩) hP hD hS hA [0, 1, 2, 3, 4, 5, 6, 7, 8, 9, 10, 11, 12] [] [0, 1, 2, 3, 4, 5, 6, 7, 8, 9, 10, 11, 12] rfl rfl (by decide) (by decide) (fun _ => rfl) (by decide) (fun u10 H locs hw hP hD hS => ?_)
        have hP : va_P D vwCl (wd_Mo cA mo mo_dr mo_now mo_first mo_has mo_da mo_dl mo_af mo_al mo_sy mo_dg mo_out mo_tx m_ds m_st m_sub m_q m_two m_least u10.1 m_ts m_fs m_fc m_g m_gs m_dr m_now m_first m_has m_da m_dl m_af m_al m_sy m_dg u10.2 m_tx) H := hP
        have hD : va_D A (wd_Mo cA mo mo_dr mo_now mo_first mo_has mo_da mo_dl mo_af mo_al mo_sy mo_dg mo_out mo_tx m_ds m_st m_sub m_q m_two m_least u10.1 m_ts m_fs m_fc m_g m_gs m_dr m_now m_first m_has m_da m_dl m_af m_al m_sy m_dg u10.2 m_tx) := hD
        refine lv_iload hx hb d_M_putDigits_195 (lv_at hl 3 rfl) ?_
        refine lv_if_eq (tgt := 224) hx hb d_M_putDigits_197 rfl (fun hc => ?_) (fun hc => ?_)
        · have hw := hw.1 ((bI_0 _).mp hc)
          refine lv_iinc (k := 4) (v := x8 + (-1)) (lv' := [(8, .int (x8 + (-1))), (0, .ref mo), (1, .int x1), (6, .int x6), (7, .int (bI x7))]) hx hb d_M_putDigits_224 hl rfl (by rfl) (by decide) rfl (fun ls hl => ?_)
          refine lv_goto (tgt := 171) hx hb d_M_putDigits_227 rfl ?_
          exact ih1710 x1 x6 x7 (x8 + (-1)) u10.1 u10.2 _ _ _ (lv_sub hl [1, 2, 3, 4, 0] rfl) hP hD hS hw
        · have hw := hw.2 ((bI_n0 _).mp hc)
          refine lv_iload hx hb d_M_putDigits_200 (lv_at hl 4 rfl) ?_
          refine lv_if_le (tgt := 224) hx hb d_M_putDigits_202 rfl (fun hc => ?_) (fun hc => ?_)
          · have hw := hw.1 hc
            refine lv_iinc (k := 4) (v := x8 + (-1)) (lv' := [(8, .int (x8 + (-1))), (0, .ref mo), (1, .int x1), (6, .int x6), (7, .int (bI x7))]) hx hb d_M_putDigits_224 hl rfl (by rfl) (by decide) rfl (fun ls hl => ?_)
            refine lv_goto (tgt := 171) hx hb d_M_putDigits_227 rfl ?_
            exact ih1710 x1 x6 x7 (x8 + (-1)) u10.1 u10.2 _ _ _ (lv_sub hl [1, 2, 3, 4, 0] rfl) hP hD hS hw
          · have hw := hw.2 hc
            refine lv_aload_n hx hb d_M_putDigits_205 rfl (lv_at hl 0 rfl) ?_
            refine lv_iload hx hb d_M_putDigits_206 (lv_at hl 4 rfl) ?_
            refine ct_callz (wn := fun _ => wd_Mo cA mo mo_dr mo_now mo_first mo_has mo_da mo_dl mo_af mo_al mo_sy mo_dg mo_out mo_tx m_ds m_st m_sub m_q m_two m_least u10.1 m_ts m_fs m_fc m_g m_gs m_dr m_now m_first m_has m_da m_dl m_af m_al m_sy m_dg u10.2 m_tx) (va_runV (As := [.int x8]) (rest := []) ⟨hx, hb, hml, hown, htb⟩ (c_M_border l D cA mo mo_dr mo_now mo_first mo_has mo_da mo_dl mo_af mo_al mo_sy mo_dg mo_out mo_tx m_ds m_st m_sub m_q m_two m_least u10.1 m_ts m_fs m_fc m_g m_gs m_dr m_now m_first m_has m_da m_dl m_af m_al m_sy m_dg u10.2 m_tx x8 _ hw _) (ct_cwV 1 htb tw894 rfl rfl tw82 tw891 tw893 tw63 hd_M_border ⟨by decide, by decide⟩) (ct_preV hP hD hK hN [0, 1, 2, 3, 4, 5, 6, 7, 8, 9, 10, 11, 12] rfl (by decide) 0 rfl rfl _) rfl rfl hl.1 rfl (lv_room (Nat.le_of_ble_eq_true rfl)) d_M_putDigits_208 ⟨Nat.zero_le _, Nat.zero_le _⟩) hP hD hS hA [0, 1, 2, 3, 4, 5, 6, 7, 8, 9, 10, 11, 12] [] [0, 1, 2, 3, 4, 5, 6, 7, 8, 9, 10, 11, 12] rfl rfl (by decide) (by decide) (fun _ => rfl) (by decide) (fun r11 u12 H locs hw hP hD hS => ?_)
            have hP : va_P D vwCl (wd_Mo cA mo mo_dr mo_now mo_first mo_has mo_da mo_dl mo_af mo_al mo_sy mo_dg mo_out mo_tx m_ds m_st m_sub m_q m_two m_least u10.1 m_ts m_fs m_fc m_g m_gs m_dr m_now m_first m_has m_da m_dl m_af m_al m_sy m_dg u10.2 m_tx) H := hP
            have hD : va_D A (wd_Mo cA mo mo_dr mo_now mo_first mo_has mo_da mo_dl mo_af mo_al mo_sy mo_dg mo_out mo_tx m_ds m_st m_sub m_q m_two m_least u10.1 m_ts m_fs m_fc m_g m_gs m_dr m_now m_first m_has m_da m_dl m_af m_al m_sy m_dg u10.2 m_tx) := hD
            refine lv_if_eq (tgt := 224) hx hb d_M_putDigits_211 rfl (fun hc => ?_) (fun hc => ?_)
            · have hw := hw.1 ((bI_0 _).mp hc)
              refine lv_iinc (k := 4) (v := x8 + (-1)) (lv' := [(8, .int (x8 + (-1))), (0, .ref mo), (1, .int x1), (6, .int x6), (7, .int (bI x7))]) hx hb d_M_putDigits_224 hl rfl (by rfl) (by decide) rfl (fun ls hl => ?_)
              refine lv_goto (tgt := 171) hx hb d_M_putDigits_227 rfl ?_
              exact ih1710 x1 x6 x7 (x8 + (-1)) u10.1 u10.2 _ _ _ (lv_sub hl [1, 2, 3, 4, 0] rfl) hP hD hS hw
            · have hw := hw.2 ((bI_n0 _).mp hc)
              refine lv_aload_n hx hb d_M_putDigits_214 rfl (lv_at hl 0 rfl) ?_
              refine lv_aload_n hx hb d_M_putDigits_215 rfl (lv_at hl 0 rfl) ?_
              refine va_get (ci := 9) (C := R_Mo) (T := F_Mo) (N := 24) hx hb htb in_Mo hown hK hP 0 rfl rfl 13 (by decide) (htb _ tw709) (fun _ h9 => h9) rfl d_M_putDigits_216 ?_
              refine lv_iconst (v := 1) hx hb d_M_putDigits_219 (by decide) ?_
              have hi := hw.1
              have hw := hw.2
              refine va_iald hx hb hK hP 9 0 rfl rfl hi d_M_putDigits_220 ?_
              refine ct_callv (wn := fun u14 => wd_Mo cA mo mo_dr mo_now mo_first mo_has mo_da mo_dl mo_af mo_al mo_sy mo_dg mo_out mo_tx m_ds m_st m_sub m_q m_two m_least u14.1 m_ts m_fs m_fc m_g m_gs m_dr m_now m_first m_has m_da m_dl m_af m_al m_sy m_dg u14.2 m_tx) (va_runV (As := [.int (m_sy (1 : Int32).toNatClampNeg)]) (rest := []) ⟨hx, hb, hml, hown, htb⟩ (c_M_put l D cA mo mo_dr mo_now mo_first mo_has mo_da mo_dl mo_af mo_al mo_sy mo_dg mo_out mo_tx m_ds m_st m_sub m_q m_two m_least u10.1 m_ts m_fs m_fc m_g m_gs m_dr m_now m_first m_has m_da m_dl m_af m_al m_sy m_dg u10.2 m_tx (m_sy (1 : Int32).toNatClampNeg) _ hw _) (ct_cwV 1 htb tw882 rfl rfl tw82 tw879 tw881 tw60 hd_M_put ⟨by decide, by decide⟩) (ct_preV hP hD hK hN [0, 1, 2, 3, 4, 5, 6, 7, 8, 9, 10, 11, 12] rfl (by decide) 0 rfl rfl _) rfl rfl hl.1 rfl (lv_room (Nat.le_of_ble_eq_true rfl)) d_M_putDigits_221 ⟨Nat.zero_le _, Nat.zero_le _⟩) hP hD hS hA [0, 1, 2, 3, 4, 5, 6, 7, 8, 9, 10, 11, 12] [] [0, 1, 2, 3, 4, 5, 6, 7, 8, 9, 10, 11, 12] rfl rfl (by decide) (by decide) (fun _ => rfl) (by decide) (fun u14 H locs hw hP hD hS => ?_)
              have hP : va_P D vwCl (wd_Mo cA mo mo_dr mo_now mo_first mo_has mo_da mo_dl mo_af mo_al mo_sy mo_dg mo_out mo_tx m_ds m_st m_sub m_q m_two m_least u14.1 m_ts m_fs m_fc m_g m_gs m_dr m_now m_first m_has m_da m_dl m_af m_al m_sy m_dg u14.2 m_tx) H := hP
              have hD : va_D A (wd_Mo cA mo mo_dr mo_now mo_first mo_has mo_da mo_dl mo_af mo_al mo_sy mo_dg mo_out mo_tx m_ds m_st m_sub m_q m_two m_least u14.1 m_ts m_fs m_fc m_g m_gs m_dr m_now m_first m_has m_da m_dl m_af m_al m_sy m_dg u14.2 m_tx) := hD
              refine lv_iinc (k := 4) (v := x8 + (-1)) (lv' := [(8, .int (x8 + (-1))), (0, .ref mo), (1, .int x1), (6, .int x6), (7, .int (bI x7))]) hx hb d_M_putDigits_224 hl rfl (by rfl) (by decide) rfl (fun ls hl => ?_)
              refine lv_goto (tgt := 171) hx hb d_M_putDigits_227 rfl ?_
              exact ih1710 x1 x6 x7 (x8 + (-1)) u14.1 u14.2 _ _ _ (lv_sub hl [1, 2, 3, 4, 0] rfl) hP hD hS hw
  have hJ1640 : ∀ (x1 : Int32) (x3 : Int32) (x6 : Int32) (y0 : Bool) (m_os : Int32) (m_out : Nat → Int32) (H : Heap) (locs : List Loc) (ls : Array Slot), lv_has ls 9 [(0, .ref mo), (1, .int x1), (3, .int x3), (6, .int x6)] → va_P D vwCl (wd_Mo cA mo mo_dr mo_now mo_first mo_has mo_da mo_dl mo_af mo_al mo_sy mo_dg mo_out mo_tx m_ds m_st m_sub m_q m_two m_least m_os m_ts m_fs m_fc m_g m_gs m_dr m_now m_first m_has m_da m_dl m_af m_al m_sy m_dg m_out m_tx) H → va_D A (wd_Mo cA mo mo_dr mo_now mo_first mo_has mo_da mo_dl mo_af mo_al mo_sy mo_dg mo_out mo_tx m_ds m_st m_sub m_q m_two m_least m_os m_ts m_fs m_fc m_g m_gs m_dr m_now m_first m_has m_da m_dl m_af m_al m_sy m_dg m_out m_tx) → va_S A s.heap H locs → wp_M_putDigits_J1640 m_least m_has m_sy m_dg x1 x3 x6 y0 m_os m_out Q → W p l e { frames := 2, cells := 0, slots := 0, locals := 44 } s m args below meth c H locs 0 0 (MQ below (ct_qv vwCl D [(cA, .int)] Q (fun u => wd_Mo cA mo mo_dr mo_now mo_first mo_has mo_da mo_dl mo_af mo_al mo_sy mo_dg mo_out mo_tx m_ds m_st m_sub m_q m_two m_least u.1 m_ts m_fs m_fc m_g m_gs m_dr m_now m_first m_has m_da m_dl m_af m_al m_sy m_dg u.2 m_tx) A) args s 0 0 A) (F0 m 164 ls [.int (bI y0)]) := by
    intro x1 x3 x6 y0 m_os m_out H locs ls hl hP hD hS hw
    unfold wp_M_putDigits_J1640 at hw
    refine lv_istore (lv' := [(7, .int (bI y0)), (0, .ref mo), (1, .int x1), (3, .int x3), (6, .int x6)]) hx hb d_M_putDigits_164 hl (by decide) rfl (fun ls hl => ?_)
    refine lv_iload_n hx hb d_M_putDigits_166 rfl (lv_at hl 3 rfl) ?_
    refine lv_iconst (v := 1) hx hb d_M_putDigits_167 (by decide) ?_
    refine lv_isub hx hb d_M_putDigits_168 ?_
    refine lv_istore (lv' := [(8, .int (x3 - 1)), (7, .int (bI y0)), (0, .ref mo), (1, .int x1), (3, .int x3), (6, .int x6)]) hx hb d_M_putDigits_169 hl (by decide) rfl (fun ls hl => ?_)
    obtain ⟨n1710, hw⟩ := hw
    exact hL1710 n1710 x1 x6 y0 (x3 - 1) m_os m_out _ _ _ (lv_sub hl [2, 3, 5, 1, 0] rfl) hP hD hS hw
  have hJ1630 : ∀ (x1 : Int32) (x3 : Int32) (x6 : Int32) (m_os : Int32) (m_out : Nat → Int32) (H : Heap) (locs : List Loc) (ls : Array Slot), lv_has ls 9 [(0, .ref mo), (1, .int x1), (3, .int x3), (6, .int x6)] → va_P D vwCl (wd_Mo cA mo mo_dr mo_now mo_first mo_has mo_da mo_dl mo_af mo_al mo_sy mo_dg mo_out mo_tx m_ds m_st m_sub m_q m_two m_least m_os m_ts m_fs m_fc m_g m_gs m_dr m_now m_first m_has m_da m_dl m_af m_al m_sy m_dg m_out m_tx) H → va_D A (wd_Mo cA mo mo_dr mo_now mo_first mo_has mo_da mo_dl mo_af mo_al mo_sy mo_dg mo_out mo_tx m_ds m_st m_sub m_q m_two m_least m_os m_ts m_fs m_fc m_g m_gs m_dr m_now m_first m_has m_da m_dl m_af m_al m_sy m_dg m_out m_tx) → va_S A s.heap H locs → wp_M_putDigits_J1630 m_least m_has m_sy m_dg x1 x3 x6 m_os m_out Q → W p l e { frames := 2, cells := 0, slots := 0, locals := 44 } s m args below meth c H locs 0 0 (MQ below (ct_qv vwCl D [(cA, .int)] Q (fun u => wd_Mo cA mo mo_dr mo_now mo_first mo_has mo_da mo_dl mo_af mo_al mo_sy mo_dg mo_out mo_tx m_ds m_st m_sub m_q m_two m_least u.1 m_ts m_fs m_fc m_g m_gs m_dr m_now m_first m_has m_da m_dl m_af m_al m_sy m_dg u.2 m_tx) A) args s 0 0 A) (F0 m 163 ls []) := by
    intro x1 x3 x6 m_os m_out H locs ls hl hP hD hS hw
    unfold wp_M_putDigits_J1630 at hw
    refine lv_iconst (v := 0) hx hb d_M_putDigits_163 (by decide) ?_
    exact hJ1640 x1 x3 x6 false m_os m_out _ _ _ (lv_sub hl [0, 1, 2, 3] rfl) hP hD hS hw
  have hJ1230 : ∀ (x1 : Int32) (x6 : Int32) (y0 : Int32) (m_os : Int32) (m_out : Nat → Int32) (H : Heap) (locs : List Loc) (ls : Array Slot), lv_has ls 9 [(0, .ref mo), (1, .int x1), (6, .int x6)] → va_P D vwCl (wd_Mo cA mo mo_dr mo_now mo_first mo_has mo_da mo_dl mo_af mo_al mo_sy mo_dg mo_out mo_tx m_ds m_st m_sub m_q m_two m_least m_os m_ts m_fs m_fc m_g m_gs m_dr m_now m_first m_has m_da m_dl m_af m_al m_sy m_dg m_out m_tx) H → va_D A (wd_Mo cA mo mo_dr mo_now mo_first mo_has mo_da mo_dl mo_af mo_al mo_sy mo_dg mo_out mo_tx m_ds m_st m_sub m_q m_two m_least m_os m_ts m_fs m_fc m_g m_gs m_dr m_now m_first m_has m_da m_dl m_af m_al m_sy m_dg m_out m_tx) → va_S A s.heap H locs → wp_M_putDigits_J1230 m_least m_has m_sy m_dg x1 x6 y0 m_os m_out Q → W p l e { frames := 2, cells := 0, slots := 0, locals := 44 } s m args below meth c H locs 0 0 (MQ below (ct_qv vwCl D [(cA, .int)] Q (fun u => wd_Mo cA mo mo_dr mo_now mo_first mo_has mo_da mo_dl mo_af mo_al mo_sy mo_dg mo_out mo_tx m_ds m_st m_sub m_q m_two m_least u.1 m_ts m_fs m_fc m_g m_gs m_dr m_now m_first m_has m_da m_dl m_af m_al m_sy m_dg u.2 m_tx) A) args s 0 0 A) (F0 m 123 ls [.int y0]) := by
    intro x1 x6 y0 m_os m_out H locs ls hl hP hD hS hw
    unfold wp_M_putDigits_J1230 at hw
    refine lv_istore_n (lv' := [(3, .int y0), (0, .ref mo), (1, .int x1), (6, .int x6)]) hx hb d_M_putDigits_123 rfl hl (by decide) rfl (fun ls hl => ?_)
    refine lv_aload_n hx hb d_M_putDigits_124 rfl (lv_at hl 1 rfl) ?_
    refine va_get (ci := 9) (C := R_Mo) (T := F_Mo) (N := 24) hx hb htb in_Mo hown hK hP 0 rfl rfl 7 (by decide) (htb _ tw703) (fun _ h9 => h9) rfl d_M_putDigits_125 ?_
    refine lv_iconst (v := 4) hx hb d_M_putDigits_128 (by decide) ?_
    have hi := hw.1
    have hw := hw.2
    refine va_iald hx hb hK hP 4 0 rfl rfl hi d_M_putDigits_129 ?_
    refine lv_if_ne (tgt := 163) hx hb d_M_putDigits_130 rfl (fun hc => ?_) (fun hc => ?_)
    · have hw := hw.1 hc
      exact hJ1630 x1 y0 x6 m_os m_out _ _ _ (lv_sub hl [1, 2, 0, 3] rfl) hP hD hS hw
    · have hw := hw.2 hc
      refine lv_aload_n hx hb d_M_putDigits_133 rfl (lv_at hl 1 rfl) ?_
      refine va_get (ci := 9) (C := R_Mo) (T := F_Mo) (N := 24) hx hb htb in_Mo hown hK hP 0 rfl rfl 7 (by decide) (htb _ tw703) (fun _ h9 => h9) rfl d_M_putDigits_134 ?_
      refine lv_bipush (v := 6) hx hb d_M_putDigits_137 (by decide) ?_
      have hi := hw.1
      have hw := hw.2
      refine va_iald hx hb hK hP 4 0 rfl rfl hi d_M_putDigits_139 ?_
      refine lv_if_le (tgt := 163) hx hb d_M_putDigits_140 rfl (fun hc => ?_) (fun hc => ?_)
      · have hw := hw.1 hc
        exact hJ1630 x1 y0 x6 m_os m_out _ _ _ (lv_sub hl [1, 2, 0, 3] rfl) hP hD hS hw
      · have hw := hw.2 hc
        refine lv_iload_n hx hb d_M_putDigits_143 rfl (lv_at hl 0 rfl) ?_
        refine lv_aload_n hx hb d_M_putDigits_144 rfl (lv_at hl 1 rfl) ?_
        refine va_get (ci := 9) (C := R_Mo) (T := F_Mo) (N := 24) hx hb htb in_Mo hown hK hP 0 rfl rfl 7 (by decide) (htb _ tw703) (fun _ h9 => h9) rfl d_M_putDigits_145 ?_
        refine lv_bipush (v := 7) hx hb d_M_putDigits_148 (by decide) ?_
        have hi := hw.1
        have hw := hw.2
        refine va_iald hx hb hK hP 4 0 rfl rfl hi d_M_putDigits_150 ?_
        refine lv_aload_n hx hb d_M_putDigits_151 rfl (lv_at hl 1 rfl) ?_
        refine va_get (ci := 9) (C := R_Mo) (T := F_Mo) (N := 24) hx hb htb in_Mo hown hK hP 0 rfl rfl 14 (by decide) (htb _ tw710) (fun _ h9 => h9) rfl d_M_putDigits_152 ?_
        refine lv_iadd hx hb d_M_putDigits_155 ?_
        refine lv_icmp_lt (tgt := 163) hx hb d_M_putDigits_156 rfl (fun hc => ?_) (fun hc => ?_)
        · have hw := hw.1 hc
          exact hJ1630 x1 y0 x6 m_os m_out _ _ _ (lv_sub hl [1, 2, 0, 3] rfl) hP hD hS hw
        · have hw := hw.2 hc
          refine lv_iconst (v := 1) hx hb d_M_putDigits_159 (by decide) ?_
          refine lv_goto (tgt := 164) hx hb d_M_putDigits_160 rfl ?_
          exact hJ1640 x1 y0 x6 true m_os m_out _ _ _ (lv_sub hl [1, 2, 0, 3] rfl) hP hD hS hw
  have hJ1220 : ∀ (x1 : Int32) (x3 : Int32) (x6 : Int32) (m_os : Int32) (m_out : Nat → Int32) (H : Heap) (locs : List Loc) (ls : Array Slot), lv_has ls 9 [(0, .ref mo), (1, .int x1), (3, .int x3), (6, .int x6)] → va_P D vwCl (wd_Mo cA mo mo_dr mo_now mo_first mo_has mo_da mo_dl mo_af mo_al mo_sy mo_dg mo_out mo_tx m_ds m_st m_sub m_q m_two m_least m_os m_ts m_fs m_fc m_g m_gs m_dr m_now m_first m_has m_da m_dl m_af m_al m_sy m_dg m_out m_tx) H → va_D A (wd_Mo cA mo mo_dr mo_now mo_first mo_has mo_da mo_dl mo_af mo_al mo_sy mo_dg mo_out mo_tx m_ds m_st m_sub m_q m_two m_least m_os m_ts m_fs m_fc m_g m_gs m_dr m_now m_first m_has m_da m_dl m_af m_al m_sy m_dg m_out m_tx) → va_S A s.heap H locs → wp_M_putDigits_J1220 m_least m_has m_sy m_dg x1 x3 x6 m_os m_out Q → W p l e { frames := 2, cells := 0, slots := 0, locals := 44 } s m args below meth c H locs 0 0 (MQ below (ct_qv vwCl D [(cA, .int)] Q (fun u => wd_Mo cA mo mo_dr mo_now mo_first mo_has mo_da mo_dl mo_af mo_al mo_sy mo_dg mo_out mo_tx m_ds m_st m_sub m_q m_two m_least u.1 m_ts m_fs m_fc m_g m_gs m_dr m_now m_first m_has m_da m_dl m_af m_al m_sy m_dg u.2 m_tx) A) args s 0 0 A) (F0 m 122 ls []) := by
    intro x1 x3 x6 m_os m_out H locs ls hl hP hD hS hw
    unfold wp_M_putDigits_J1220 at hw
    refine lv_iload_n hx hb d_M_putDigits_122 rfl (lv_at hl 2 rfl) ?_
    exact hJ1230 x1 x6 x3 m_os m_out _ _ _ (lv_sub hl [0, 1, 3] rfl) hP hD hS hw
  have hJ1070 : ∀ (x1 : Int32) (x3 : Int32) (y0 : Int32) (m_os : Int32) (m_out : Nat → Int32) (H : Heap) (locs : List Loc) (ls : Array Slot), lv_has ls 9 [(0, .ref mo), (1, .int x1), (3, .int x3)] → va_P D vwCl (wd_Mo cA mo mo_dr mo_now mo_first mo_has mo_da mo_dl mo_af mo_al mo_sy mo_dg mo_out mo_tx m_ds m_st m_sub m_q m_two m_least m_os m_ts m_fs m_fc m_g m_gs m_dr m_now m_first m_has m_da m_dl m_af m_al m_sy m_dg m_out m_tx) H → va_D A (wd_Mo cA mo mo_dr mo_now mo_first mo_has mo_da mo_dl mo_af mo_al mo_sy mo_dg mo_out mo_tx m_ds m_st m_sub m_q m_two m_least m_os m_ts m_fs m_fc m_g m_gs m_dr m_now m_first m_has m_da m_dl m_af m_al m_sy m_dg m_out m_tx) → va_S A s.heap H locs → wp_M_putDigits_J1070 m_least m_has m_sy m_dg x1 x3 y0 m_os m_out Q → W p l e { frames := 2, cells := 0, slots := 0, locals := 44 } s m args below meth c H locs 0 0 (MQ below (ct_qv vwCl D [(cA, .int)] Q (fun u => wd_Mo cA mo mo_dr mo_now mo_first mo_has mo_da mo_dl mo_af mo_al mo_sy mo_dg mo_out mo_tx m_ds m_st m_sub m_q m_two m_least u.1 m_ts m_fs m_fc m_g m_gs m_dr m_now m_first m_has m_da m_dl m_af m_al m_sy m_dg u.2 m_tx) A) args s 0 0 A) (F0 m 107 ls [.int y0]) := by
    intro x1 x3 y0 m_os m_out H locs ls hl hP hD hS hw
    unfold wp_M_putDigits_J1070 at hw
    refine lv_istore (lv' := [(6, .int y0), (0, .ref mo), (1, .int x1), (3, .int x3)]) hx hb d_M_putDigits_107 hl (by decide) rfl (fun ls hl => ?_)
    refine lv_iload_n hx hb d_M_putDigits_109 rfl (lv_at hl 3 rfl) ?_
    refine lv_if_ne (tgt := 122) hx hb d_M_putDigits_110 rfl (fun hc => ?_) (fun hc => ?_)
    · have hw := hw.1 hc
      exact hJ1220 x1 x3 y0 m_os m_out _ _ _ (lv_sub hl [1, 2, 3, 0] rfl) hP hD hS hw
    · have hw := hw.2 hc
      refine lv_iload hx hb d_M_putDigits_113 (lv_at hl 0 rfl) ?_
      refine lv_if_ne (tgt := 122) hx hb d_M_putDigits_115 rfl (fun hc => ?_) (fun hc => ?_)
      · have hw := hw.1 hc
        exact hJ1220 x1 x3 y0 m_os m_out _ _ _ (lv_sub hl [1, 2, 3, 0] rfl) hP hD hS hw
      · have hw := hw.2 hc
        refine lv_iconst (v := 1) hx hb d_M_putDigits_118 (by decide) ?_
        refine lv_goto (tgt := 123) hx hb d_M_putDigits_119 rfl ?_
        exact hJ1230 x1 y0 1 m_os m_out _ _ _ (lv_sub hl [1, 2, 0] rfl) hP hD hS hw
  have hL660 : ∀ (n660 : Nat) (x1 : Int32) (x3 : Int32) (x5 : Int32) (m_os : Int32) (m_out : Nat → Int32) (H : Heap) (locs : List Loc) (ls : Array Slot), lv_has ls 9 [(0, .ref mo), (1, .int x1), (3, .int x3), (5, .int x5)] → va_P D vwCl (wd_Mo cA mo mo_dr mo_now mo_first mo_has mo_da mo_dl mo_af mo_al mo_sy mo_dg mo_out mo_tx m_ds m_st m_sub m_q m_two m_least m_os m_ts m_fs m_fc m_g m_gs m_dr m_now m_first m_has m_da m_dl m_af m_al m_sy m_dg m_out m_tx) H → va_D A (wd_Mo cA mo mo_dr mo_now mo_first mo_has mo_da mo_dl mo_af mo_al mo_sy mo_dg mo_out mo_tx m_ds m_st m_sub m_q m_two m_least m_os m_ts m_fs m_fc m_g m_gs m_dr m_now m_first m_has m_da m_dl m_af m_al m_sy m_dg m_out m_tx) → va_S A s.heap H locs → wp_M_putDigits_L660 n660 m_least m_has m_sy m_dg x1 x3 x5 m_os m_out Q → W p l e { frames := 2, cells := 0, slots := 0, locals := 44 } s m args below meth c H locs 0 0 (MQ below (ct_qv vwCl D [(cA, .int)] Q (fun u => wd_Mo cA mo mo_dr mo_now mo_first mo_has mo_da mo_dl mo_af mo_al mo_sy mo_dg mo_out mo_tx m_ds m_st m_sub m_q m_two m_least u.1 m_ts m_fs m_fc m_g m_gs m_dr m_now m_first m_has m_da m_dl m_af m_al m_sy m_dg u.2 m_tx) A) args s 0 0 A) (F0 m 66 ls []) := by
    intro n660
    induction n660 with
    | zero => intro x1 x3 x5 m_os m_out H locs ls hl hP hD hS hw; exact hw.elim
    | succ n660 ih660 =>
      intro x1 x3 x5 m_os m_out H locs ls hl hP hD hS hw
      unfold wp_M_putDigits_L660 at hw
      refine lv_aload_n hx hb d_M_putDigits_66 rfl (lv_at hl 0 rfl) ?_
      refine lv_iload hx hb d_M_putDigits_67 (lv_at hl 3 rfl) ?_
      refine ct_callz (wn := fun _ => wd_Mo cA mo mo_dr mo_now mo_first mo_has mo_da mo_dl mo_af mo_al mo_sy mo_dg mo_out mo_tx m_ds m_st m_sub m_q m_two m_least m_os m_ts m_fs m_fc m_g m_gs m_dr m_now m_first m_has m_da m_dl m_af m_al m_sy m_dg m_out m_tx) (va_runV (As := [.int x5]) (rest := []) ⟨hx, hb, hml, hown, htb⟩ (c_M_below l D cA mo mo_dr mo_now mo_first mo_has mo_da mo_dl mo_af mo_al mo_sy mo_dg mo_out mo_tx m_ds m_st m_sub m_q m_two m_least m_os m_ts m_fs m_fc m_g m_gs m_dr m_now m_first m_has m_da m_dl m_af m_al m_sy m_dg m_out m_tx x5 _ hw _) (ct_cwV 1 htb tw863 rfl rfl tw82 tw860 tw862 tw56 hd_M_below ⟨by decide, by decide⟩) (ct_preV hP hD hK hN [0, 1, 2, 3, 4, 5, 6, 7, 8, 9, 10, 11, 12] rfl (by decide) 0 rfl rfl _) rfl rfl hl.1 rfl (lv_room (Nat.le_of_ble_eq_true rfl)) d_M_putDigits_69 ⟨Nat.zero_le _, Nat.zero_le _⟩) hP hD hS hA [0, 1, 2, 3, 4, 5, 6, 7, 8, 9, 10, 11, 12] [] [0, 1, 2, 3, 4, 5, 6, 7, 8, 9, 10, 11, 12] rfl rfl (by decide) (by decide) (fun _ => rfl) (by decide) (fun r3 u4 H locs hw hP hD hS => ?_)
      have hP : va_P D vwCl (wd_Mo cA mo mo_dr mo_now mo_first mo_has mo_da mo_dl mo_af mo_al mo_sy mo_dg mo_out mo_tx m_ds m_st m_sub m_q m_two m_least m_os m_ts m_fs m_fc m_g m_gs m_dr m_now m_first m_has m_da m_dl m_af m_al m_sy m_dg m_out m_tx) H := hP
      have hD : va_D A (wd_Mo cA mo mo_dr mo_now mo_first mo_has mo_da mo_dl mo_af mo_al mo_sy mo_dg mo_out mo_tx m_ds m_st m_sub m_q m_two m_least m_os m_ts m_fs m_fc m_g m_gs m_dr m_now m_first m_has m_da m_dl m_af m_al m_sy m_dg m_out m_tx) := hD
      refine lv_if_eq (tgt := 81) hx hb d_M_putDigits_72 rfl (fun hc => ?_) (fun hc => ?_)
      · have hw := hw.1 ((bI_0 _).mp hc)
        refine lv_iload_n hx hb d_M_putDigits_81 rfl (lv_at hl 1 rfl) ?_
        refine lv_iload hx hb d_M_putDigits_82 (lv_at hl 3 rfl) ?_
        refine lv_isub hx hb d_M_putDigits_84 ?_
        refine lv_aload_n hx hb d_M_putDigits_85 rfl (lv_at hl 0 rfl) ?_
        refine va_get (ci := 9) (C := R_Mo) (T := F_Mo) (N := 24) hx hb htb in_Mo hown hK hP 0 rfl rfl 7 (by decide) (htb _ tw703) (fun _ h9 => h9) rfl d_M_putDigits_86 ?_
        refine lv_iconst (v := 3) hx hb d_M_putDigits_89 (by decide) ?_
        have hi := hw.1
        have hw := hw.2
        refine va_iald hx hb hK hP 4 0 rfl rfl hi d_M_putDigits_90 ?_
        refine lv_icmp_ge (tgt := 103) hx hb d_M_putDigits_91 rfl (fun hc => ?_) (fun hc => ?_)
        · have hw := hw.1 hc
          refine lv_iload_n hx hb d_M_putDigits_103 rfl (lv_at hl 1 rfl) ?_
          refine lv_iload hx hb d_M_putDigits_104 (lv_at hl 3 rfl) ?_
          refine lv_isub hx hb d_M_putDigits_106 ?_
          exact hJ1070 x1 x3 (x1 - x5) m_os m_out _ _ _ (lv_sub hl [0, 1, 2] rfl) hP hD hS hw
        · have hw := hw.2 hc
          refine lv_aload_n hx hb d_M_putDigits_94 rfl (lv_at hl 0 rfl) ?_
          refine va_get (ci := 9) (C := R_Mo) (T := F_Mo) (N := 24) hx hb htb in_Mo hown hK hP 0 rfl rfl 7 (by decide) (htb _ tw703) (fun _ h9 => h9) rfl d_M_putDigits_95 ?_
          refine lv_iconst (v := 3) hx hb d_M_putDigits_98 (by decide) ?_
          have hi := hw.1
          have hw := hw.2
          refine va_iald hx hb hK hP 4 0 rfl rfl hi d_M_putDigits_99 ?_
          refine lv_goto (tgt := 107) hx hb d_M_putDigits_100 rfl ?_
          exact hJ1070 x1 x3 (m_has (3 : Int32).toNatClampNeg) m_os m_out _ _ _ (lv_sub hl [0, 1, 2] rfl) hP hD hS hw
      · have hw := hw.2 ((bI_n0 _).mp hc)
        refine lv_iinc (k := 3) (v := x5 + (-1)) (lv' := [(5, .int (x5 + (-1))), (0, .ref mo), (1, .int x1), (3, .int x3)]) hx hb d_M_putDigits_75 hl rfl (by rfl) (by decide) rfl (fun ls hl => ?_)
        refine lv_goto (tgt := 66) hx hb d_M_putDigits_78 rfl ?_
        exact ih660 x1 x3 (x5 + (-1)) m_os m_out _ _ _ (lv_sub hl [1, 2, 3, 0] rfl) hP hD hS hw
  have hJ620 : ∀ (x1 : Int32) (y0 : Int32) (m_os : Int32) (m_out : Nat → Int32) (H : Heap) (locs : List Loc) (ls : Array Slot), lv_has ls 9 [(0, .ref mo), (1, .int x1)] → va_P D vwCl (wd_Mo cA mo mo_dr mo_now mo_first mo_has mo_da mo_dl mo_af mo_al mo_sy mo_dg mo_out mo_tx m_ds m_st m_sub m_q m_two m_least m_os m_ts m_fs m_fc m_g m_gs m_dr m_now m_first m_has m_da m_dl m_af m_al m_sy m_dg m_out m_tx) H → va_D A (wd_Mo cA mo mo_dr mo_now mo_first mo_has mo_da mo_dl mo_af mo_al mo_sy mo_dg mo_out mo_tx m_ds m_st m_sub m_q m_two m_least m_os m_ts m_fs m_fc m_g m_gs m_dr m_now m_first m_has m_da m_dl m_af m_al m_sy m_dg m_out m_tx) → va_S A s.heap H locs → wp_M_putDigits_J620 m_least m_has m_sy m_dg x1 y0 m_os m_out Q → W p l e { frames := 2, cells := 0, slots := 0, locals := 44 } s m args below meth c H locs 0 0 (MQ below (ct_qv vwCl D [(cA, .int)] Q (fun u => wd_Mo cA mo mo_dr mo_now mo_first mo_has mo_da mo_dl mo_af mo_al mo_sy mo_dg mo_out mo_tx m_ds m_st m_sub m_q m_two m_least u.1 m_ts m_fs m_fc m_g m_gs m_dr m_now m_first m_has m_da m_dl m_af m_al m_sy m_dg u.2 m_tx) A) args s 0 0 A) (F0 m 62 ls [.int y0]) := by
    intro x1 y0 m_os m_out H locs ls hl hP hD hS hw
    unfold wp_M_putDigits_J620 at hw
    refine lv_istore_n (lv' := [(3, .int y0), (0, .ref mo), (1, .int x1)]) hx hb d_M_putDigits_62 rfl hl (by decide) rfl (fun ls hl => ?_)
    refine lv_iload_n hx hb d_M_putDigits_63 rfl (lv_at hl 2 rfl) ?_
    refine lv_istore (lv' := [(5, .int x1), (3, .int y0), (0, .ref mo), (1, .int x1)]) hx hb d_M_putDigits_64 hl (by decide) rfl (fun ls hl => ?_)
    obtain ⟨n660, hw⟩ := hw
    exact hL660 n660 x1 y0 x1 m_os m_out _ _ _ (lv_sub hl [2, 3, 1, 0] rfl) hP hD hS hw
  have hJ480 : ∀ (x1 : Int32) (x3 : Int32) (y0 : Int32) (m_os : Int32) (m_out : Nat → Int32) (H : Heap) (locs : List Loc) (ls : Array Slot), lv_has ls 9 [(0, .ref mo), (1, .int x1), (3, .int x3)] → va_P D vwCl (wd_Mo cA mo mo_dr mo_now mo_first mo_has mo_da mo_dl mo_af mo_al mo_sy mo_dg mo_out mo_tx m_ds m_st m_sub m_q m_two m_least m_os m_ts m_fs m_fc m_g m_gs m_dr m_now m_first m_has m_da m_dl m_af m_al m_sy m_dg m_out m_tx) H → va_D A (wd_Mo cA mo mo_dr mo_now mo_first mo_has mo_da mo_dl mo_af mo_al mo_sy mo_dg mo_out mo_tx m_ds m_st m_sub m_q m_two m_least m_os m_ts m_fs m_fc m_g m_gs m_dr m_now m_first m_has m_da m_dl m_af m_al m_sy m_dg m_out m_tx) → va_S A s.heap H locs → wp_M_putDigits_J480 m_least m_has m_sy m_dg x1 x3 y0 m_os m_out Q → W p l e { frames := 2, cells := 0, slots := 0, locals := 44 } s m args below meth c H locs 0 0 (MQ below (ct_qv vwCl D [(cA, .int)] Q (fun u => wd_Mo cA mo mo_dr mo_now mo_first mo_has mo_da mo_dl mo_af mo_al mo_sy mo_dg mo_out mo_tx m_ds m_st m_sub m_q m_two m_least u.1 m_ts m_fs m_fc m_g m_gs m_dr m_now m_first m_has m_da m_dl m_af m_al m_sy m_dg u.2 m_tx) A) args s 0 0 A) (F0 m 48 ls [.int y0]) := by
    intro x1 x3 y0 m_os m_out H locs ls hl hP hD hS hw
    unfold wp_M_putDigits_J480 at hw
    refine lv_istore (lv' := [(4, .int y0), (0, .ref mo), (1, .int x1), (3, .int x3)]) hx hb d_M_putDigits_48 hl (by decide) rfl (fun ls hl => ?_)
    refine lv_iload_n hx hb d_M_putDigits_50 rfl (lv_at hl 3 rfl) ?_
    refine lv_iload hx hb d_M_putDigits_51 (lv_at hl 0 rfl) ?_
    refine lv_icmp_ge (tgt := 61) hx hb d_M_putDigits_53 rfl (fun hc => ?_) (fun hc => ?_)
    · have hw := hw.1 hc
      refine lv_iload_n hx hb d_M_putDigits_61 rfl (lv_at hl 3 rfl) ?_
      exact hJ620 x1 x3 m_os m_out _ _ _ (lv_sub hl [1, 2] rfl) hP hD hS hw
    · have hw := hw.2 hc
      refine lv_iload hx hb d_M_putDigits_56 (lv_at hl 0 rfl) ?_
      refine lv_goto (tgt := 62) hx hb d_M_putDigits_58 rfl ?_
      exact hJ620 x1 y0 m_os m_out _ _ _ (lv_sub hl [1, 2] rfl) hP hD hS hw
  have hJ420 : ∀ (x1 : Int32) (x3 : Int32) (m_os : Int32) (m_out : Nat → Int32) (H : Heap) (locs : List Loc) (ls : Array Slot), lv_has ls 9 [(0, .ref mo), (1, .int x1), (3, .int x3)] → va_P D vwCl (wd_Mo cA mo mo_dr mo_now mo_first mo_has mo_da mo_dl mo_af mo_al mo_sy mo_dg mo_out mo_tx m_ds m_st m_sub m_q m_two m_least m_os m_ts m_fs m_fc m_g m_gs m_dr m_now m_first m_has m_da m_dl m_af m_al m_sy m_dg m_out m_tx) H → va_D A (wd_Mo cA mo mo_dr mo_now mo_first mo_has mo_da mo_dl mo_af mo_al mo_sy mo_dg mo_out mo_tx m_ds m_st m_sub m_q m_two m_least m_os m_ts m_fs m_fc m_g m_gs m_dr m_now m_first m_has m_da m_dl m_af m_al m_sy m_dg m_out m_tx) → va_S A s.heap H locs → wp_M_putDigits_J420 m_least m_has m_sy m_dg x1 x3 m_os m_out Q → W p l e { frames := 2, cells := 0, slots := 0, locals := 44 } s m args below meth c H locs 0 0 (MQ below (ct_qv vwCl D [(cA, .int)] Q (fun u => wd_Mo cA mo mo_dr mo_now mo_first mo_has mo_da mo_dl mo_af mo_al mo_sy mo_dg mo_out mo_tx m_ds m_st m_sub m_q m_two m_least u.1 m_ts m_fs m_fc m_g m_gs m_dr m_now m_first m_has m_da m_dl m_af m_al m_sy m_dg u.2 m_tx) A) args s 0 0 A) (F0 m 42 ls []) := by
    intro x1 x3 m_os m_out H locs ls hl hP hD hS hw
    unfold wp_M_putDigits_J420 at hw
    refine lv_aload_n hx hb d_M_putDigits_42 rfl (lv_at hl 0 rfl) ?_
    refine va_get (ci := 9) (C := R_Mo) (T := F_Mo) (N := 24) hx hb htb in_Mo hown hK hP 0 rfl rfl 7 (by decide) (htb _ tw703) (fun _ h9 => h9) rfl d_M_putDigits_43 ?_
    refine lv_iconst (v := 1) hx hb d_M_putDigits_46 (by decide) ?_
    have hi := hw.1
    have hw := hw.2
    refine va_iald hx hb hK hP 4 0 rfl rfl hi d_M_putDigits_47 ?_
    exact hJ480 x1 x3 (m_has (1 : Int32).toNatClampNeg) m_os m_out _ _ _ (lv_sub hl [0, 1, 2] rfl) hP hD hS hw
  have hJ190 : ∀ (x1 : Int32) (y0 : Int32) (m_os : Int32) (m_out : Nat → Int32) (H : Heap) (locs : List Loc) (ls : Array Slot), lv_has ls 9 [(0, .ref mo), (1, .int x1)] → va_P D vwCl (wd_Mo cA mo mo_dr mo_now mo_first mo_has mo_da mo_dl mo_af mo_al mo_sy mo_dg mo_out mo_tx m_ds m_st m_sub m_q m_two m_least m_os m_ts m_fs m_fc m_g m_gs m_dr m_now m_first m_has m_da m_dl m_af m_al m_sy m_dg m_out m_tx) H → va_D A (wd_Mo cA mo mo_dr mo_now mo_first mo_has mo_da mo_dl mo_af mo_al mo_sy mo_dg mo_out mo_tx m_ds m_st m_sub m_q m_two m_least m_os m_ts m_fs m_fc m_g m_gs m_dr m_now m_first m_has m_da m_dl m_af m_al m_sy m_dg m_out m_tx) → va_S A s.heap H locs → wp_M_putDigits_J190 m_least m_has m_sy m_dg x1 y0 m_os m_out Q → W p l e { frames := 2, cells := 0, slots := 0, locals := 44 } s m args below meth c H locs 0 0 (MQ below (ct_qv vwCl D [(cA, .int)] Q (fun u => wd_Mo cA mo mo_dr mo_now mo_first mo_has mo_da mo_dl mo_af mo_al mo_sy mo_dg mo_out mo_tx m_ds m_st m_sub m_q m_two m_least u.1 m_ts m_fs m_fc m_g m_gs m_dr m_now m_first m_has m_da m_dl m_af m_al m_sy m_dg u.2 m_tx) A) args s 0 0 A) (F0 m 19 ls [.int y0]) := by
    intro x1 y0 m_os m_out H locs ls hl hP hD hS hw
    unfold wp_M_putDigits_J190 at hw
    refine lv_istore_n (lv' := [(3, .int y0), (0, .ref mo), (1, .int x1)]) hx hb d_M_putDigits_19 rfl hl (by decide) rfl (fun ls hl => ?_)
    refine lv_aload_n hx hb d_M_putDigits_20 rfl (lv_at hl 1 rfl) ?_
    refine va_get (ci := 9) (C := R_Mo) (T := F_Mo) (N := 24) hx hb htb in_Mo hown hK hP 0 rfl rfl 7 (by decide) (htb _ tw703) (fun _ h9 => h9) rfl d_M_putDigits_21 ?_
    refine lv_iconst (v := 4) hx hb d_M_putDigits_24 (by decide) ?_
    have hi := hw.1
    have hw := hw.2
    refine va_iald hx hb hK hP 4 0 rfl rfl hi d_M_putDigits_25 ?_
    refine lv_if_le (tgt := 42) hx hb d_M_putDigits_26 rfl (fun hc => ?_) (fun hc => ?_)
    · have hw := hw.1 hc
      exact hJ420 x1 y0 m_os m_out _ _ _ (lv_sub hl [1, 2, 0] rfl) hP hD hS hw
    · have hw := hw.2 hc
      refine lv_aload_n hx hb d_M_putDigits_29 rfl (lv_at hl 1 rfl) ?_
      refine va_get (ci := 9) (C := R_Mo) (T := F_Mo) (N := 24) hx hb htb in_Mo hown hK hP 0 rfl rfl 7 (by decide) (htb _ tw703) (fun _ h9 => h9) rfl d_M_putDigits_30 ?_
      refine lv_iconst (v := 0) hx hb d_M_putDigits_33 (by decide) ?_
      have hi := hw.1
      have hw := hw.2
      refine va_iald hx hb hK hP 4 0 rfl rfl hi d_M_putDigits_34 ?_
      refine lv_if_le (tgt := 42) hx hb d_M_putDigits_35 rfl (fun hc => ?_) (fun hc => ?_)
      · have hw := hw.1 hc
        exact hJ420 x1 y0 m_os m_out _ _ _ (lv_sub hl [1, 2, 0] rfl) hP hD hS hw
      · have hw := hw.2 hc
        refine lv_iconst (v := 1) hx hb d_M_putDigits_38 (by decide) ?_
        refine lv_goto (tgt := 48) hx hb d_M_putDigits_39 rfl ?_
        exact hJ480 x1 y0 1 m_os m_out _ _ _ (lv_sub hl [1, 2, 0] rfl) hP hD hS hw
  refine lv_aload_n hx hb d_M_putDigits_0 rfl (lv_at hl 0 rfl) ?_
  refine ct_calli (wn := fun _ => wd_Mo cA mo mo_dr mo_now mo_first mo_has mo_da mo_dl mo_af mo_al mo_sy mo_dg mo_out mo_tx m_ds m_st m_sub m_q m_two m_least m_os m_ts m_fs m_fc m_g m_gs m_dr m_now m_first m_has m_da m_dl m_af m_al m_sy m_dg m_out m_tx) (va_runV (As := []) (rest := []) ⟨hx, hb, hml, hown, htb⟩ (c_M_top l D cA mo mo_dr mo_now mo_first mo_has mo_da mo_dl mo_af mo_al mo_sy mo_dg mo_out mo_tx m_ds m_st m_sub m_q m_two m_least m_os m_ts m_fs m_fc m_g m_gs m_dr m_now m_first m_has m_da m_dl m_af m_al m_sy m_dg m_out m_tx _ hw _) (ct_cwV 0 htb tw875 rfl rfl tw82 tw872 tw874 tw59 hd_M_top ⟨by decide, by decide⟩) (ct_preV hP hD hK hN [0, 1, 2, 3, 4, 5, 6, 7, 8, 9, 10, 11, 12] rfl (by decide) 0 rfl rfl _) rfl rfl hl.1 rfl (lv_room (Nat.le_of_ble_eq_true rfl)) d_M_putDigits_1 ⟨Nat.zero_le _, Nat.zero_le _⟩) hP hD hS hA [0, 1, 2, 3, 4, 5, 6, 7, 8, 9, 10, 11, 12] [] [0, 1, 2, 3, 4, 5, 6, 7, 8, 9, 10, 11, 12] rfl rfl (by decide) (by decide) (fun _ => rfl) (by decide) (fun r1 u2 H locs hw hP hD hS => ?_)
  have hP : va_P D vwCl (wd_Mo cA mo mo_dr mo_now mo_first mo_has mo_da mo_dl mo_af mo_al mo_sy mo_dg mo_out mo_tx m_ds m_st m_sub m_q m_two m_least m_os m_ts m_fs m_fc m_g m_gs m_dr m_now m_first m_has m_da m_dl m_af m_al m_sy m_dg m_out m_tx) H := hP
  have hD : va_D A (wd_Mo cA mo mo_dr mo_now mo_first mo_has mo_da mo_dl mo_af mo_al mo_sy mo_dg mo_out mo_tx m_ds m_st m_sub m_q m_two m_least m_os m_ts m_fs m_fc m_g m_gs m_dr m_now m_first m_has m_da m_dl m_af m_al m_sy m_dg m_out m_tx) := hD
  refine lv_istore_n (lv' := [(2, .int r1), (0, .ref mo), (1, .int ex)]) hx hb d_M_putDigits_4 rfl hl (by decide) rfl (fun ls hl => ?_)
  refine lv_iload_n hx hb d_M_putDigits_5 rfl (lv_at hl 0 rfl) ?_
  refine lv_iload_n hx hb d_M_putDigits_6 rfl (lv_at hl 2 rfl) ?_
  refine lv_icmp_lt (tgt := 18) hx hb d_M_putDigits_7 rfl (fun hc => ?_) (fun hc => ?_)
  · have hw := hw.1 hc
    refine lv_iconst (v := 0) hx hb d_M_putDigits_18 (by decide) ?_
    exact hJ190 ex 0 m_os m_out _ _ _ (lv_sub hl [1, 2] rfl) hP hD hS hw
  · have hw := hw.2 hc
    refine lv_iload_n hx hb d_M_putDigits_10 rfl (lv_at hl 0 rfl) ?_
    refine lv_iload_n hx hb d_M_putDigits_11 rfl (lv_at hl 2 rfl) ?_
    refine lv_isub hx hb d_M_putDigits_12 ?_
    refine lv_iconst (v := 1) hx hb d_M_putDigits_13 (by decide) ?_
    refine lv_iadd hx hb d_M_putDigits_14 ?_
    refine lv_goto (tgt := 19) hx hb d_M_putDigits_15 rfl ?_
    exact hJ190 ex ((r1 - ex) + 1) m_os m_out _ _ _ (lv_sub hl [1, 2] rfl) hP hD hS hw
/-! DecimalPatternsModel.putExponent(I)V -/
def wp_M_putExponent_L1320 : Nat → (Nat → Int32) → (Nat → Int32) → Int32 → Int32 → Int32 → Int32 → Int32 → (Nat → Int32) → ((Int32 × (Nat → Int32)) → Prop) → Prop
  | 0, _, _, _, _, _, _, _, _, _ => False
  | n1320 + 1, m_has, m_sy, x2, x3, x4, x5, m_os, m_out, Q => (x3 ≤ x5 → (Q (m_os, m_out))) ∧ (¬ x3 ≤ x5 → (vp_in (5 : Int32) 6 ∧ (¬ x4 = 0 ∧ (wp_M_put m_os m_out ((m_sy (5 : Int32).toNatClampNeg) + ((x2 / x4) - (x2 / x4) / 10 * 10)) (fun u10 => wp_M_putExponent_L1320 n1320 m_has m_sy x2 x3 (x4 / 10) (x5 + 1) u10.1 u10.2 Q)))))
def wp_M_putExponent_J1270 (m_has : Nat → Int32) (m_sy : Nat → Int32) (x2 : Int32) (x3 : Int32) (y0 : Int32) (m_os : Int32) (m_out : Nat → Int32) (Q : (Int32 × (Nat → Int32)) → Prop) : Prop := ∃ n1320, wp_M_putExponent_L1320 n1320 m_has m_sy x2 x3 y0 0 m_os m_out Q
def wp_M_putExponent_L790 : Nat → (Nat → Int32) → (Nat → Int32) → Int32 → Int32 → Int32 → Int32 → (Nat → Int32) → ((Int32 × (Nat → Int32)) → Prop) → Prop
  | 0, _, _, _, _, _, _, _, _ => False
  | n790 + 1, m_has, m_sy, x2, x3, x4, m_os, m_out, Q => vp_in (4 : Int32) 9 ∧ (((m_has (4 : Int32).toNatClampNeg) ≤ x4 → ((¬ x3 = 3 → ((¬ x3 = 2 → (wp_M_putExponent_J1270 m_has m_sy x2 x3 1 m_os m_out Q)) ∧ (x3 = 2 → (wp_M_putExponent_J1270 m_has m_sy x2 x3 10 m_os m_out Q)))) ∧ (x3 = 3 → (wp_M_putExponent_J1270 m_has m_sy x2 x3 100 m_os m_out Q)))) ∧ (¬ (m_has (4 : Int32).toNatClampNeg) ≤ x4 → (vp_in (5 : Int32) 6 ∧ (wp_M_put m_os m_out (m_sy (5 : Int32).toNatClampNeg) (fun u8 => wp_M_putExponent_L790 n790 m_has m_sy x2 x3 (x4 + 1) u8.1 u8.2 Q)))))
def wp_M_putExponent_J750 (m_has : Nat → Int32) (m_sy : Nat → Int32) (x2 : Int32) (y0 : Int32) (m_os : Int32) (m_out : Nat → Int32) (Q : (Int32 × (Nat → Int32)) → Prop) : Prop := ∃ n790, wp_M_putExponent_L790 n790 m_has m_sy x2 y0 y0 m_os m_out Q
def wp_M_putExponent_J530 (m_has : Nat → Int32) (m_sy : Nat → Int32) (y0 : Int32) (m_os : Int32) (m_out : Nat → Int32) (Q : (Int32 × (Nat → Int32)) → Prop) : Prop := (y0 ≤ 99 → ((y0 ≤ 9 → (wp_M_putExponent_J750 m_has m_sy y0 1 m_os m_out Q)) ∧ (¬ y0 ≤ 9 → (wp_M_putExponent_J750 m_has m_sy y0 2 m_os m_out Q)))) ∧ (¬ y0 ≤ 99 → (wp_M_putExponent_J750 m_has m_sy y0 3 m_os m_out Q))
def wp_M_putExponent_J430 (m_has : Nat → Int32) (m_sy : Nat → Int32) (x1 : Int32) (m_os : Int32) (m_out : Nat → Int32) (Q : (Int32 × (Nat → Int32)) → Prop) : Prop := (0 ≤ x1 → (wp_M_putExponent_J530 m_has m_sy x1 m_os m_out Q)) ∧ (¬ 0 ≤ x1 → (wp_M_putExponent_J530 m_has m_sy (-x1) m_os m_out Q))
def wp_M_putExponent (m_os : Int32) (m_has : Nat → Int32) (m_sy : Nat → Int32) (m_out : Nat → Int32) (ex : Int32) (Q : (Int32 × (Nat → Int32)) → Prop) : Prop := vp_in (4 : Int32) 6 ∧ (wp_M_put m_os m_out (m_sy (4 : Int32).toNatClampNeg) (fun u2 => (0 ≤ ex → (vp_in (5 : Int32) 9 ∧ ((¬ (m_has (5 : Int32).toNatClampNeg) = 1 → (wp_M_putExponent_J430 m_has m_sy ex u2.1 u2.2 Q)) ∧ ((m_has (5 : Int32).toNatClampNeg) = 1 → (wp_M_put u2.1 u2.2 43 (fun u4 => wp_M_putExponent_J430 m_has m_sy ex u4.1 u4.2 Q)))))) ∧ (¬ 0 ≤ ex → (vp_in (2 : Int32) 6 ∧ (wp_M_put u2.1 u2.2 (m_sy (2 : Int32).toNatClampNeg) (fun u6 => wp_M_putExponent_J430 m_has m_sy ex u6.1 u6.2 Q))))))
set_option maxHeartbeats 4000000 in
set_option maxRecDepth 100000 in
theorem c_M_putExponent (l : Launch) (D : va_G) (cA : ClassId) (mo mo_dr mo_now mo_first mo_has mo_da mo_dl mo_af mo_al mo_sy mo_dg mo_out mo_tx : Nat) (m_ds : Int32) (m_st : Int32) (m_sub : Int32) (m_q : Int32) (m_two : Bool) (m_least : Int32) (m_os : Int32) (m_ts : Int32) (m_fs : Int64) (m_fc : Int32) (m_g : Int64) (m_gs : Int32) (m_dr : Nat → Int32) (m_now : Nat → Int32) (m_first : Nat → Int32) (m_has : Nat → Int32) (m_da : Nat → Int32) (m_dl : Nat → Int32) (m_af : Nat → Int32) (m_al : Nat → Int32) (m_sy : Nat → Int32) (m_dg : Nat → Int32) (m_out : Nat → Int32) (m_tx : Nat → Int32) (ex : Int32) (Q : (Int32 × (Nat → Int32)) → Prop) (hw : wp_M_putExponent m_os m_has m_sy m_out ex Q) : ct_M vwCl l D [(cA, .int)] y_M_putExponent w_M_putExponent { frames := 1, cells := 0, slots := 0, locals := 21 } [.ref mo, .int ex] (wd_Mo cA mo mo_dr mo_now mo_first mo_has mo_da mo_dl mo_af mo_al mo_sy mo_dg mo_out mo_tx m_ds m_st m_sub m_q m_two m_least m_os m_ts m_fs m_fc m_g m_gs m_dr m_now m_first m_has m_da m_dl m_af m_al m_sy m_dg m_out m_tx) (ct_qv vwCl D [(cA, .int)] Q (fun u => wd_Mo cA mo mo_dr mo_now mo_first mo_has mo_da mo_dl mo_af mo_al mo_sy mo_dg mo_out mo_tx m_ds m_st m_sub m_q m_two m_least u.1 m_ts m_fs m_fc m_g m_gs m_dr m_now m_first m_has m_da m_dl m_af m_al m_sy m_dg u.2 m_tx)) := by
  refine ct_enter (cc := b_M_putExponent) (maxL := 6) (ret := none) (by decide) rfl (Nat.le_of_ble_eq_true rfl) ?_
  intro p e s m args below meth c A ls hx hb hr hlk hml hts hown hA hS hP hK hN hD hl
  have hl : lv_has ls 6 [(0, .ref mo), (1, .int ex)] := hl
  have htb : ∀ w ∈ tbl, w.before args s = true := fun w h => hts w (List.mem_cons_of_mem _ h)
  have hown : s.vm.findClass "DecimalPatternsModel" = some m.cls := hown
  unfold wp_M_putExponent at hw
  have hL1320 : ∀ (n1320 : Nat) (x2 : Int32) (x3 : Int32) (x4 : Int32) (x5 : Int32) (m_os : Int32) (m_out : Nat → Int32) (H : Heap) (locs : List Loc) (ls : Array Slot), lv_has ls 6 [(0, .ref mo), (2, .int x2), (3, .int x3), (4, .int x4), (5, .int x5)] → va_P D vwCl (wd_Mo cA mo mo_dr mo_now mo_first mo_has mo_da mo_dl mo_af mo_al mo_sy mo_dg mo_out mo_tx m_ds m_st m_sub m_q m_two m_least m_os m_ts m_fs m_fc m_g m_gs m_dr m_now m_first m_has m_da m_dl m_af m_al m_sy m_dg m_out m_tx) H → va_D A (wd_Mo cA mo mo_dr mo_now mo_first mo_has mo_da mo_dl mo_af mo_al mo_sy mo_dg mo_out mo_tx m_ds m_st m_sub m_q m_two m_least m_os m_ts m_fs m_fc m_g m_gs m_dr m_now m_first m_has m_da m_dl m_af m_al m_sy m_dg m_out m_tx) → va_S A s.heap H locs → wp_M_putExponent_L1320 n1320 m_has m_sy x2 x3 x4 x5 m_os m_out Q → W p l e { frames := 1, cells := 0, slots := 0, locals := 21 } s m args below meth c H locs 0 0 (MQ below (ct_qv vwCl D [(cA, .int)] Q (fun u => wd_Mo cA mo mo_dr mo_now mo_first mo_has mo_da mo_dl mo_af mo_al mo_sy mo_dg mo_out mo_tx m_ds m_st m_sub m_q m_two m_least u.1 m_ts m_fs m_fc m_g m_gs m_dr m_now m_first m_has m_da m_dl m_af m_al m_sy m_dg u.2 m_tx) A) args s 0 0 A) (F0 m 132 ls []) := by
    intro n1320
    induction n1320 with
    | zero => intro x2 x3 x4 x5 m_os m_out H locs ls hl hP hD hS hw; exact hw.elim
    | succ n1320 ih1320 =>
      intro x2 x3 x4 x5 m_os m_out H locs ls hl hP hD hS hw
      unfold wp_M_putExponent_L1320 at hw
      refine lv_iload hx hb d_M_putExponent_132 (lv_at hl 4 rfl) ?_
      refine lv_iload_n hx hb d_M_putExponent_134 rfl (lv_at hl 2 rfl) ?_
      refine lv_icmp_ge (tgt := 169) hx hb d_M_putExponent_135 rfl (fun hc => ?_) (fun hc => ?_)
      · have hw := hw.1 hc
        exact ct_vret hx hb hr hlk hK hS (m_os, m_out) hw hP hD d_M_putExponent_169
      · have hw := hw.2 hc
        refine lv_aload_n hx hb d_M_putExponent_138 rfl (lv_at hl 0 rfl) ?_
        refine lv_aload_n hx hb d_M_putExponent_139 rfl (lv_at hl 0 rfl) ?_
        refine va_get (ci := 9) (C := R_Mo) (T := F_Mo) (N := 24) hx hb htb in_Mo hown hK hP 0 rfl rfl 13 (by decide) (htb _ tw709) (fun _ h9 => h9) rfl d_M_putExponent_140 ?_
        refine lv_iconst (v := 5) hx hb d_M_putExponent_143 (by decide) ?_
        have hi := hw.1
        have hw := hw.2
        refine va_iald hx hb hK hP 9 0 rfl rfl hi d_M_putExponent_144 ?_
        refine lv_iload_n hx hb d_M_putExponent_145 rfl (lv_at hl 1 rfl) ?_
        refine lv_iload hx hb d_M_putExponent_146 (lv_at hl 3 rfl) ?_
        have hi := hw.1
        have hw := hw.2
        refine lv_idiv hx hb d_M_putExponent_148 hi ?_
        refine lv_bipush (v := 10) hx hb d_M_putExponent_149 (by decide) ?_
        refine lv_irem hx hb d_M_putExponent_151 (by decide) ?_
        refine lv_iadd hx hb d_M_putExponent_152 ?_
        refine ct_callv (wn := fun u10 => wd_Mo cA mo mo_dr mo_now mo_first mo_has mo_da mo_dl mo_af mo_al mo_sy mo_dg mo_out mo_tx m_ds m_st m_sub m_q m_two m_least u10.1 m_ts m_fs m_fc m_g m_gs m_dr m_now m_first m_has m_da m_dl m_af m_al m_sy m_dg u10.2 m_tx) (va_runV (As := [.int ((m_sy (5 : Int32).toNatClampNeg) + ((x2 / x4) - (x2 / x4) / 10 * 10))]) (rest := []) ⟨hx, hb, hml, hown, htb⟩ (c_M_put l D cA mo mo_dr mo_now mo_first mo_has mo_da mo_dl mo_af mo_al mo_sy mo_dg mo_out mo_tx m_ds m_st m_sub m_q m_two m_least m_os m_ts m_fs m_fc m_g m_gs m_dr m_now m_first m_has m_da m_dl m_af m_al m_sy m_dg m_out m_tx ((m_sy (5 : Int32).toNatClampNeg) + ((x2 / x4) - (x2 / x4) / 10 * 10)) _ hw _) (ct_cwV 1 htb tw882 rfl rfl tw82 tw879 tw881 tw60 hd_M_put ⟨by decide, by decide⟩) (ct_preV hP hD hK hN [0, 1, 2, 3, 4, 5, 6, 7, 8, 9, 10, 11, 12] rfl (by decide) 0 rfl rfl _) rfl rfl hl.1 rfl (lv_room (Nat.le_of_ble_eq_true rfl)) d_M_putExponent_153 ⟨Nat.zero_le _, Nat.zero_le _⟩) hP hD hS hA [0, 1, 2, 3, 4, 5, 6, 7, 8, 9, 10, 11, 12] [] [0, 1, 2, 3, 4, 5, 6, 7, 8, 9, 10, 11, 12] rfl rfl (by decide) (by decide) (fun _ => rfl) (by decide) (fun u10 H locs hw hP hD hS => ?_)
        have hP : va_P D vwCl (wd_Mo cA mo mo_dr mo_now mo_first mo_has mo_da mo_dl mo_af mo_al mo_sy mo_dg mo_out mo_tx m_ds m_st m_sub m_q m_two m_least u10.1 m_ts m_fs m_fc m_g m_gs m_dr m_now m_first m_has m_da m_dl m_af m_al m_sy m_dg u10.2 m_tx) H := hP
        have hD : va_D A (wd_Mo cA mo mo_dr mo_now mo_first mo_has mo_da mo_dl mo_af mo_al mo_sy mo_dg mo_out mo_tx m_ds m_st m_sub m_q m_two m_least u10.1 m_ts m_fs m_fc m_g m_gs m_dr m_now m_first m_has m_da m_dl m_af m_al m_sy m_dg u10.2 m_tx) := hD
        refine lv_iload hx hb d_M_putExponent_156 (lv_at hl 3 rfl) ?_
        refine lv_bipush (v := 10) hx hb d_M_putExponent_158 (by decide) ?_
        refine lv_idiv hx hb d_M_putExponent_160 (by decide) ?_
        refine lv_istore (lv' := [(4, .int (x4 / 10)), (0, .ref mo), (2, .int x2), (3, .int x3), (5, .int x5)]) hx hb d_M_putExponent_161 hl (by decide) rfl (fun ls hl => ?_)
        refine lv_iinc (k := 4) (v := x5 + 1) (lv' := [(5, .int (x5 + 1)), (4, .int (x4 / 10)), (0, .ref mo), (2, .int x2), (3, .int x3)]) hx hb d_M_putExponent_163 hl rfl (by rfl) (by decide) rfl (fun ls hl => ?_)
        refine lv_goto (tgt := 132) hx hb d_M_putExponent_166 rfl ?_
        exact ih1320 x2 x3 (x4 / 10) (x5 + 1) u10.1 u10.2 _ _ _ (lv_sub hl [2, 3, 4, 1, 0] rfl) hP hD hS hw
  have hJ1270 : ∀ (x2 : Int32) (x3 : Int32) (y0 : Int32) (m_os : Int32) (m_out : Nat → Int32) (H : Heap) (locs : List Loc) (ls : Array Slot), lv_has ls 6 [(0, .ref mo), (2, .int x2), (3, .int x3)] → va_P D vwCl (wd_Mo cA mo mo_dr mo_now mo_first mo_has mo_da mo_dl mo_af mo_al mo_sy mo_dg mo_out mo_tx m_ds m_st m_sub m_q m_two m_least m_os m_ts m_fs m_fc m_g m_gs m_dr m_now m_first m_has m_da m_dl m_af m_al m_sy m_dg m_out m_tx) H → va_D A (wd_Mo cA mo mo_dr mo_now mo_first mo_has mo_da mo_dl mo_af mo_al mo_sy mo_dg mo_out mo_tx m_ds m_st m_sub m_q m_two m_least m_os m_ts m_fs m_fc m_g m_gs m_dr m_now m_first m_has m_da m_dl m_af m_al m_sy m_dg m_out m_tx) → va_S A s.heap H locs → wp_M_putExponent_J1270 m_has m_sy x2 x3 y0 m_os m_out Q → W p l e { frames := 1, cells := 0, slots := 0, locals := 21 } s m args below meth c H locs 0 0 (MQ below (ct_qv vwCl D [(cA, .int)] Q (fun u => wd_Mo cA mo mo_dr mo_now mo_first mo_has mo_da mo_dl mo_af mo_al mo_sy mo_dg mo_out mo_tx m_ds m_st m_sub m_q m_two m_least u.1 m_ts m_fs m_fc m_g m_gs m_dr m_now m_first m_has m_da m_dl m_af m_al m_sy m_dg u.2 m_tx) A) args s 0 0 A) (F0 m 127 ls [.int y0]) := by
    intro x2 x3 y0 m_os m_out H locs ls hl hP hD hS hw
    unfold wp_M_putExponent_J1270 at hw
    refine lv_istore (lv' := [(4, .int y0), (0, .ref mo), (2, .int x2), (3, .int x3)]) hx hb d_M_putExponent_127 hl (by decide) rfl (fun ls hl => ?_)
    refine lv_iconst (v := 0) hx hb d_M_putExponent_129 (by decide) ?_
    refine lv_istore (lv' := [(5, .int 0), (4, .int y0), (0, .ref mo), (2, .int x2), (3, .int x3)]) hx hb d_M_putExponent_130 hl (by decide) rfl (fun ls hl => ?_)
    obtain ⟨n1320, hw⟩ := hw
    exact hL1320 n1320 x2 x3 y0 0 m_os m_out _ _ _ (lv_sub hl [2, 3, 4, 1, 0] rfl) hP hD hS hw
  have hL790 : ∀ (n790 : Nat) (x2 : Int32) (x3 : Int32) (x4 : Int32) (m_os : Int32) (m_out : Nat → Int32) (H : Heap) (locs : List Loc) (ls : Array Slot), lv_has ls 6 [(0, .ref mo), (2, .int x2), (3, .int x3), (4, .int x4)] → va_P D vwCl (wd_Mo cA mo mo_dr mo_now mo_first mo_has mo_da mo_dl mo_af mo_al mo_sy mo_dg mo_out mo_tx m_ds m_st m_sub m_q m_two m_least m_os m_ts m_fs m_fc m_g m_gs m_dr m_now m_first m_has m_da m_dl m_af m_al m_sy m_dg m_out m_tx) H → va_D A (wd_Mo cA mo mo_dr mo_now mo_first mo_has mo_da mo_dl mo_af mo_al mo_sy mo_dg mo_out mo_tx m_ds m_st m_sub m_q m_two m_least m_os m_ts m_fs m_fc m_g m_gs m_dr m_now m_first m_has m_da m_dl m_af m_al m_sy m_dg m_out m_tx) → va_S A s.heap H locs → wp_M_putExponent_L790 n790 m_has m_sy x2 x3 x4 m_os m_out Q → W p l e { frames := 1, cells := 0, slots := 0, locals := 21 } s m args below meth c H locs 0 0 (MQ below (ct_qv vwCl D [(cA, .int)] Q (fun u => wd_Mo cA mo mo_dr mo_now mo_first mo_has mo_da mo_dl mo_af mo_al mo_sy mo_dg mo_out mo_tx m_ds m_st m_sub m_q m_two m_least u.1 m_ts m_fs m_fc m_g m_gs m_dr m_now m_first m_has m_da m_dl m_af m_al m_sy m_dg u.2 m_tx) A) args s 0 0 A) (F0 m 79 ls []) := by
    intro n790
    induction n790 with
    | zero => intro x2 x3 x4 m_os m_out H locs ls hl hP hD hS hw; exact hw.elim
    | succ n790 ih790 =>
      intro x2 x3 x4 m_os m_out H locs ls hl hP hD hS hw
      unfold wp_M_putExponent_L790 at hw
      refine lv_iload hx hb d_M_putExponent_79 (lv_at hl 3 rfl) ?_
      refine lv_aload_n hx hb d_M_putExponent_81 rfl (lv_at hl 0 rfl) ?_
      refine va_get (ci := 9) (C := R_Mo) (T := F_Mo) (N := 24) hx hb htb in_Mo hown hK hP 0 rfl rfl 7 (by decide) (htb _ tw703) (fun _ h9 => h9) rfl d_M_putExponent_82 ?_
      refine lv_iconst (v := 4) hx hb d_M_putExponent_85 (by decide) ?_
      have hi := hw.1
      have hw := hw.2
      refine va_iald hx hb hK hP 4 0 rfl rfl hi d_M_putExponent_86 ?_
      refine lv_icmp_ge (tgt := 106) hx hb d_M_putExponent_87 rfl (fun hc => ?_) (fun hc => ?_)
      · have hw := hw.1 hc
        refine lv_iload_n hx hb d_M_putExponent_106 rfl (lv_at hl 2 rfl) ?_
        refine lv_iconst (v := 3) hx hb d_M_putExponent_107 (by decide) ?_
        refine lv_icmp_ne (tgt := 116) hx hb d_M_putExponent_108 rfl (fun hc => ?_) (fun hc => ?_)
        · have hw := hw.1 hc
          refine lv_iload_n hx hb d_M_putExponent_116 rfl (lv_at hl 2 rfl) ?_
          refine lv_iconst (v := 2) hx hb d_M_putExponent_117 (by decide) ?_
          refine lv_icmp_ne (tgt := 126) hx hb d_M_putExponent_118 rfl (fun hc => ?_) (fun hc => ?_)
          · have hw := hw.1 hc
            refine lv_iconst (v := 1) hx hb d_M_putExponent_126 (by decide) ?_
            exact hJ1270 x2 x3 1 m_os m_out _ _ _ (lv_sub hl [0, 1, 2] rfl) hP hD hS hw
          · have hw := hw.2 hc
            refine lv_bipush (v := 10) hx hb d_M_putExponent_121 (by decide) ?_
            refine lv_goto (tgt := 127) hx hb d_M_putExponent_123 rfl ?_
            exact hJ1270 x2 x3 10 m_os m_out _ _ _ (lv_sub hl [0, 1, 2] rfl) hP hD hS hw
        · have hw := hw.2 hc
          refine lv_bipush (v := 100) hx hb d_M_putExponent_111 (by decide) ?_
          refine lv_goto (tgt := 127) hx hb d_M_putExponent_113 rfl ?_
          exact hJ1270 x2 x3 100 m_os m_out _ _ _ (lv_sub hl [0, 1, 2] rfl) hP hD hS hw
      · have hw := hw.2 hc
        refine lv_aload_n hx hb d_M_putExponent_90 rfl (lv_at hl 0 rfl) ?_
        refine lv_aload_n hx hb d_M_putExponent_91 rfl (lv_at hl 0 rfl) ?_
        refine va_get (ci := 9) (C := R_Mo) (T := F_Mo) (N := 24) hx hb htb in_Mo hown hK hP 0 rfl rfl 13 (by decide) (htb _ tw709) (fun _ h9 => h9) rfl d_M_putExponent_92 ?_
        refine lv_iconst (v := 5) hx hb d_M_putExponent_95 (by decide) ?_
        have hi := hw.1
        have hw := hw.2
        refine va_iald hx hb hK hP 9 0 rfl rfl hi d_M_putExponent_96 ?_
        refine ct_callv (wn := fun u8 => wd_Mo cA mo mo_dr mo_now mo_first mo_has mo_da mo_dl mo_af mo_al mo_sy mo_dg mo_out mo_tx m_ds m_st m_sub m_q m_two m_least u8.1 m_ts m_fs m_fc m_g m_gs m_dr m_now m_first m_has m_da m_dl m_af m_al m_sy m_dg u8.2 m_tx) (va_runV (As := [.int (m_sy (5 : Int32).toNatClampNeg)]) (rest := []) ⟨hx, hb, hml, hown, htb⟩ (c_M_put l D cA mo mo_dr mo_now mo_first mo_has mo_da mo_dl mo_af mo_al mo_sy mo_dg mo_out mo_tx m_ds m_st m_sub m_q m_two m_least m_os m_ts m_fs m_fc m_g m_gs m_dr m_now m_first m_has m_da m_dl m_af m_al m_sy m_dg m_out m_tx (m_sy (5 : Int32).toNatClampNeg) _ hw _) (ct_cwV 1 htb tw882 rfl rfl tw82 tw879 tw881 tw60 hd_M_put ⟨by decide, by decide⟩) (ct_preV hP hD hK hN [0, 1, 2, 3, 4, 5, 6, 7, 8, 9, 10, 11, 12] rfl (by decide) 0 rfl rfl _) rfl rfl hl.1 rfl (lv_room (Nat.le_of_ble_eq_true rfl)) d_M_putExponent_97 ⟨Nat.zero_le _, Nat.zero_le _⟩) hP hD hS hA [0, 1, 2, 3, 4, 5, 6, 7, 8, 9, 10, 11, 12] [] [0, 1, 2, 3, 4, 5, 6, 7, 8, 9, 10, 11, 12] rfl rfl (by decide) (by decide) (fun _ => rfl) (by decide) (fun u8 H locs hw hP hD hS => ?_)
        have hP : va_P D vwCl (wd_Mo cA mo mo_dr mo_now mo_first mo_has mo_da mo_dl mo_af mo_al mo_sy mo_dg mo_out mo_tx m_ds m_st m_sub m_q m_two m_least u8.1 m_ts m_fs m_fc m_g m_gs m_dr m_now m_first m_has m_da m_dl m_af m_al m_sy m_dg u8.2 m_tx) H := hP
        have hD : va_D A (wd_Mo cA mo mo_dr mo_now mo_first mo_has mo_da mo_dl mo_af mo_al mo_sy mo_dg mo_out mo_tx m_ds m_st m_sub m_q m_two m_least u8.1 m_ts m_fs m_fc m_g m_gs m_dr m_now m_first m_has m_da m_dl m_af m_al m_sy m_dg u8.2 m_tx) := hD
        refine lv_iinc (k := 3) (v := x4 + 1) (lv' := [(4, .int (x4 + 1)), (0, .ref mo), (2, .int x2), (3, .int x3)]) hx hb d_M_putExponent_100 hl rfl (by rfl) (by decide) rfl (fun ls hl => ?_)
        refine lv_goto (tgt := 79) hx hb d_M_putExponent_103 rfl ?_
        exact ih790 x2 x3 (x4 + 1) u8.1 u8.2 _ _ _ (lv_sub hl [1, 2, 3, 0] rfl) hP hD hS hw
  have hJ750 : ∀ (x2 : Int32) (y0 : Int32) (m_os : Int32) (m_out : Nat → Int32) (H : Heap) (locs : List Loc) (ls : Array Slot), lv_has ls 6 [(0, .ref mo), (2, .int x2)] → va_P D vwCl (wd_Mo cA mo mo_dr mo_now mo_first mo_has mo_da mo_dl mo_af mo_al mo_sy mo_dg mo_out mo_tx m_ds m_st m_sub m_q m_two m_least m_os m_ts m_fs m_fc m_g m_gs m_dr m_now m_first m_has m_da m_dl m_af m_al m_sy m_dg m_out m_tx) H → va_D A (wd_Mo cA mo mo_dr mo_now mo_first mo_has mo_da mo_dl mo_af mo_al mo_sy mo_dg mo_out mo_tx m_ds m_st m_sub m_q m_two m_least m_os m_ts m_fs m_fc m_g m_gs m_dr m_now m_first m_has m_da m_dl m_af m_al m_sy m_dg m_out m_tx) → va_S A s.heap H locs → wp_M_putExponent_J750 m_has m_sy x2 y0 m_os m_out Q → W p l e { frames := 1, cells := 0, slots := 0, locals := 21 } s m args below meth c H locs 0 0 (MQ below (ct_qv vwCl D [(cA, .int)] Q (fun u => wd_Mo cA mo mo_dr mo_now mo_first mo_has mo_da mo_dl mo_af mo_al mo_sy mo_dg mo_out mo_tx m_ds m_st m_sub m_q m_two m_least u.1 m_ts m_fs m_fc m_g m_gs m_dr m_now m_first m_has m_da m_dl m_af m_al m_sy m_dg u.2 m_tx) A) args s 0 0 A) (F0 m 75 ls [.int y0]) := by
    intro x2 y0 m_os m_out H locs ls hl hP hD hS hw
    unfold wp_M_putExponent_J750 at hw
    refine lv_istore_n (lv' := [(3, .int y0), (0, .ref mo), (2, .int x2)]) hx hb d_M_putExponent_75 rfl hl (by decide) rfl (fun ls hl => ?_)
    refine lv_iload_n hx hb d_M_putExponent_76 rfl (lv_at hl 0 rfl) ?_
    refine lv_istore (lv' := [(4, .int y0), (3, .int y0), (0, .ref mo), (2, .int x2)]) hx hb d_M_putExponent_77 hl (by decide) rfl (fun ls hl => ?_)
    obtain ⟨n790, hw⟩ := hw
    exact hL790 n790 x2 y0 y0 m_os m_out _ _ _ (lv_sub hl [2, 3, 1, 0] rfl) hP hD hS hw
  have hJ530 : ∀ (y0 : Int32) (m_os : Int32) (m_out : Nat → Int32) (H : Heap) (locs : List Loc) (ls : Array Slot), lv_has ls 6 [(0, .ref mo)] → va_P D vwCl (wd_Mo cA mo mo_dr mo_now mo_first mo_has mo_da mo_dl mo_af mo_al mo_sy mo_dg mo_out mo_tx m_ds m_st m_sub m_q m_two m_least m_os m_ts m_fs m_fc m_g m_gs m_dr m_now m_first m_has m_da m_dl m_af m_al m_sy m_dg m_out m_tx) H → va_D A (wd_Mo cA mo mo_dr mo_now mo_first mo_has mo_da mo_dl mo_af mo_al mo_sy mo_dg mo_out mo_tx m_ds m_st m_sub m_q m_two m_least m_os m_ts m_fs m_fc m_g m_gs m_dr m_now m_first m_has m_da m_dl m_af m_al m_sy m_dg m_out m_tx) → va_S A s.heap H locs → wp_M_putExponent_J530 m_has m_sy y0 m_os m_out Q → W p l e { frames := 1, cells := 0, slots := 0, locals := 21 } s m args below meth c H locs 0 0 (MQ below (ct_qv vwCl D [(cA, .int)] Q (fun u => wd_Mo cA mo mo_dr mo_now mo_first mo_has mo_da mo_dl mo_af mo_al mo_sy mo_dg mo_out mo_tx m_ds m_st m_sub m_q m_two m_least u.1 m_ts m_fs m_fc m_g m_gs m_dr m_now m_first m_has m_da m_dl m_af m_al m_sy m_dg u.2 m_tx) A) args s 0 0 A) (F0 m 53 ls [.int y0]) := by
    intro y0 m_os m_out H locs ls hl hP hD hS hw
    unfold wp_M_putExponent_J530 at hw
    refine lv_istore_n (lv' := [(2, .int y0), (0, .ref mo)]) hx hb d_M_putExponent_53 rfl hl (by decide) rfl (fun ls hl => ?_)
    refine lv_iload_n hx hb d_M_putExponent_54 rfl (lv_at hl 0 rfl) ?_
    refine lv_bipush (v := 99) hx hb d_M_putExponent_55 (by decide) ?_
    refine lv_icmp_le (tgt := 64) hx hb d_M_putExponent_57 rfl (fun hc => ?_) (fun hc => ?_)
    · have hw := hw.1 hc
      refine lv_iload_n hx hb d_M_putExponent_64 rfl (lv_at hl 0 rfl) ?_
      refine lv_bipush (v := 9) hx hb d_M_putExponent_65 (by decide) ?_
      refine lv_icmp_le (tgt := 74) hx hb d_M_putExponent_67 rfl (fun hc => ?_) (fun hc => ?_)
      · have hw := hw.1 hc
        refine lv_iconst (v := 1) hx hb d_M_putExponent_74 (by decide) ?_
        exact hJ750 y0 1 m_os m_out _ _ _ (lv_sub hl [1, 0] rfl) hP hD hS hw
      · have hw := hw.2 hc
        refine lv_iconst (v := 2) hx hb d_M_putExponent_70 (by decide) ?_
        refine lv_goto (tgt := 75) hx hb d_M_putExponent_71 rfl ?_
        exact hJ750 y0 2 m_os m_out _ _ _ (lv_sub hl [1, 0] rfl) hP hD hS hw
    · have hw := hw.2 hc
      refine lv_iconst (v := 3) hx hb d_M_putExponent_60 (by decide) ?_
      refine lv_goto (tgt := 75) hx hb d_M_putExponent_61 rfl ?_
      exact hJ750 y0 3 m_os m_out _ _ _ (lv_sub hl [1, 0] rfl) hP hD hS hw
  have hJ430 : ∀ (x1 : Int32) (m_os : Int32) (m_out : Nat → Int32) (H : Heap) (locs : List Loc) (ls : Array Slot), lv_has ls 6 [(0, .ref mo), (1, .int x1)] → va_P D vwCl (wd_Mo cA mo mo_dr mo_now mo_first mo_has mo_da mo_dl mo_af mo_al mo_sy mo_dg mo_out mo_tx m_ds m_st m_sub m_q m_two m_least m_os m_ts m_fs m_fc m_g m_gs m_dr m_now m_first m_has m_da m_dl m_af m_al m_sy m_dg m_out m_tx) H → va_D A (wd_Mo cA mo mo_dr mo_now mo_first mo_has mo_da mo_dl mo_af mo_al mo_sy mo_dg mo_out mo_tx m_ds m_st m_sub m_q m_two m_least m_os m_ts m_fs m_fc m_g m_gs m_dr m_now m_first m_has m_da m_dl m_af m_al m_sy m_dg m_out m_tx) → va_S A s.heap H locs → wp_M_putExponent_J430 m_has m_sy x1 m_os m_out Q → W p l e { frames := 1, cells := 0, slots := 0, locals := 21 } s m args below meth c H locs 0 0 (MQ below (ct_qv vwCl D [(cA, .int)] Q (fun u => wd_Mo cA mo mo_dr mo_now mo_first mo_has mo_da mo_dl mo_af mo_al mo_sy mo_dg mo_out mo_tx m_ds m_st m_sub m_q m_two m_least u.1 m_ts m_fs m_fc m_g m_gs m_dr m_now m_first m_has m_da m_dl m_af m_al m_sy m_dg u.2 m_tx) A) args s 0 0 A) (F0 m 43 ls []) := by
    intro x1 m_os m_out H locs ls hl hP hD hS hw
    unfold wp_M_putExponent_J430 at hw
    refine lv_iload_n hx hb d_M_putExponent_43 rfl (lv_at hl 1 rfl) ?_
    refine lv_if_ge (tgt := 52) hx hb d_M_putExponent_44 rfl (fun hc => ?_) (fun hc => ?_)
    · have hw := hw.1 hc
      refine lv_iload_n hx hb d_M_putExponent_52 rfl (lv_at hl 1 rfl) ?_
      exact hJ530 x1 m_os m_out _ _ _ (lv_sub hl [0] rfl) hP hD hS hw
    · have hw := hw.2 hc
      refine lv_iload_n hx hb d_M_putExponent_47 rfl (lv_at hl 1 rfl) ?_
      refine lv_ineg hx hb d_M_putExponent_48 ?_
      refine lv_goto (tgt := 53) hx hb d_M_putExponent_49 rfl ?_
      exact hJ530 (-x1) m_os m_out _ _ _ (lv_sub hl [0] rfl) hP hD hS hw
  refine lv_aload_n hx hb d_M_putExponent_0 rfl (lv_at hl 0 rfl) ?_
  refine lv_aload_n hx hb d_M_putExponent_1 rfl (lv_at hl 0 rfl) ?_
  refine va_get (ci := 9) (C := R_Mo) (T := F_Mo) (N := 24) hx hb htb in_Mo hown hK hP 0 rfl rfl 13 (by decide) (htb _ tw709) (fun _ h9 => h9) rfl d_M_putExponent_2 ?_
  refine lv_iconst (v := 4) hx hb d_M_putExponent_5 (by decide) ?_
  have hi := hw.1
  have hw := hw.2
  refine va_iald hx hb hK hP 9 0 rfl rfl hi d_M_putExponent_6 ?_
  refine ct_callv (wn := fun u2 => wd_Mo cA mo mo_dr mo_now mo_first mo_has mo_da mo_dl mo_af mo_al mo_sy mo_dg mo_out mo_tx m_ds m_st m_sub m_q m_two m_least u2.1 m_ts m_fs m_fc m_g m_gs m_dr m_now m_first m_has m_da m_dl m_af m_al m_sy m_dg u2.2 m_tx) (va_runV (As := [.int (m_sy (4 : Int32).toNatClampNeg)]) (rest := []) ⟨hx, hb, hml, hown, htb⟩ (c_M_put l D cA mo mo_dr mo_now mo_first mo_has mo_da mo_dl mo_af mo_al mo_sy mo_dg mo_out mo_tx m_ds m_st m_sub m_q m_two m_least m_os m_ts m_fs m_fc m_g m_gs m_dr m_now m_first m_has m_da m_dl m_af m_al m_sy m_dg m_out m_tx (m_sy (4 : Int32).toNatClampNeg) _ hw _) (ct_cwV 1 htb tw882 rfl rfl tw82 tw879 tw881 tw60 hd_M_put ⟨by decide, by decide⟩) (ct_preV hP hD hK hN [0, 1, 2, 3, 4, 5, 6, 7, 8, 9, 10, 11, 12] rfl (by decide) 0 rfl rfl _) rfl rfl hl.1 rfl (lv_room (Nat.le_of_ble_eq_true rfl)) d_M_putExponent_7 ⟨Nat.zero_le _, Nat.zero_le _⟩) hP hD hS hA [0, 1, 2, 3, 4, 5, 6, 7, 8, 9, 10, 11, 12] [] [0, 1, 2, 3, 4, 5, 6, 7, 8, 9, 10, 11, 12] rfl rfl (by decide) (by decide) (fun _ => rfl) (by decide) (fun u2 H locs hw hP hD hS => ?_)
  have hP : va_P D vwCl (wd_Mo cA mo mo_dr mo_now mo_first mo_has mo_da mo_dl mo_af mo_al mo_sy mo_dg mo_out mo_tx m_ds m_st m_sub m_q m_two m_least u2.1 m_ts m_fs m_fc m_g m_gs m_dr m_now m_first m_has m_da m_dl m_af m_al m_sy m_dg u2.2 m_tx) H := hP
  have hD : va_D A (wd_Mo cA mo mo_dr mo_now mo_first mo_has mo_da mo_dl mo_af mo_al mo_sy mo_dg mo_out mo_tx m_ds m_st m_sub m_q m_two m_least u2.1 m_ts m_fs m_fc m_g m_gs m_dr m_now m_first m_has m_da m_dl m_af m_al m_sy m_dg u2.2 m_tx) := hD
  refine lv_iload_n hx hb d_M_putExponent_10 rfl (lv_at hl 1 rfl) ?_
  refine lv_if_ge (tgt := 27) hx hb d_M_putExponent_11 rfl (fun hc => ?_) (fun hc => ?_)
  · have hw := hw.1 hc
    refine lv_aload_n hx hb d_M_putExponent_27 rfl (lv_at hl 0 rfl) ?_
    refine va_get (ci := 9) (C := R_Mo) (T := F_Mo) (N := 24) hx hb htb in_Mo hown hK hP 0 rfl rfl 7 (by decide) (htb _ tw703) (fun _ h9 => h9) rfl d_M_putExponent_28 ?_
    refine lv_iconst (v := 5) hx hb d_M_putExponent_31 (by decide) ?_
    have hi := hw.1
    have hw := hw.2
    refine va_iald hx hb hK hP 4 0 rfl rfl hi d_M_putExponent_32 ?_
    refine lv_iconst (v := 1) hx hb d_M_putExponent_33 (by decide) ?_
    refine lv_icmp_ne (tgt := 43) hx hb d_M_putExponent_34 rfl (fun hc => ?_) (fun hc => ?_)
    · have hw := hw.1 hc
      exact hJ430 ex u2.1 u2.2 _ _ _ (lv_sub hl [0, 1] rfl) hP hD hS hw
    · have hw := hw.2 hc
      refine lv_aload_n hx hb d_M_putExponent_37 rfl (lv_at hl 0 rfl) ?_
      refine lv_bipush (v := 43) hx hb d_M_putExponent_38 (by decide) ?_
      refine ct_callv (wn := fun u4 => wd_Mo cA mo mo_dr mo_now mo_first mo_has mo_da mo_dl mo_af mo_al mo_sy mo_dg mo_out mo_tx m_ds m_st m_sub m_q m_two m_least u4.1 m_ts m_fs m_fc m_g m_gs m_dr m_now m_first m_has m_da m_dl m_af m_al m_sy m_dg u4.2 m_tx) (va_runV (As := [.int 43]) (rest := []) ⟨hx, hb, hml, hown, htb⟩ (c_M_put l D cA mo mo_dr mo_now mo_first mo_has mo_da mo_dl mo_af mo_al mo_sy mo_dg mo_out mo_tx m_ds m_st m_sub m_q m_two m_least u2.1 m_ts m_fs m_fc m_g m_gs m_dr m_now m_first m_has m_da m_dl m_af m_al m_sy m_dg u2.2 m_tx 43 _ hw _) (ct_cwV 1 htb tw882 rfl rfl tw82 tw879 tw881 tw60 hd_M_put ⟨by decide, by decide⟩) (ct_preV hP hD hK hN [0, 1, 2, 3, 4, 5, 6, 7, 8, 9, 10, 11, 12] rfl (by decide) 0 rfl rfl _) rfl rfl hl.1 rfl (lv_room (Nat.le_of_ble_eq_true rfl)) d_M_putExponent_40 ⟨Nat.zero_le _, Nat.zero_le _⟩) hP hD hS hA [0, 1, 2, 3, 4, 5, 6, 7, 8, 9, 10, 11, 12] [] [0, 1, 2, 3, 4, 5, 6, 7, 8, 9, 10, 11, 12] rfl rfl (by decide) (by decide) (fun _ => rfl) (by decide) (fun u4 H locs hw hP hD hS => ?_)
      have hP : va_P D vwCl (wd_Mo cA mo mo_dr mo_now mo_first mo_has mo_da mo_dl mo_af mo_al mo_sy mo_dg mo_out mo_tx m_ds m_st m_sub m_q m_two m_least u4.1 m_ts m_fs m_fc m_g m_gs m_dr m_now m_first m_has m_da m_dl m_af m_al m_sy m_dg u4.2 m_tx) H := hP
      have hD : va_D A (wd_Mo cA mo mo_dr mo_now mo_first mo_has mo_da mo_dl mo_af mo_al mo_sy mo_dg mo_out mo_tx m_ds m_st m_sub m_q m_two m_least u4.1 m_ts m_fs m_fc m_g m_gs m_dr m_now m_first m_has m_da m_dl m_af m_al m_sy m_dg u4.2 m_tx) := hD
      exact hJ430 ex u4.1 u4.2 _ _ _ (lv_sub hl [0, 1] rfl) hP hD hS hw
  · have hw := hw.2 hc
    refine lv_aload_n hx hb d_M_putExponent_14 rfl (lv_at hl 0 rfl) ?_
    refine lv_aload_n hx hb d_M_putExponent_15 rfl (lv_at hl 0 rfl) ?_
    refine va_get (ci := 9) (C := R_Mo) (T := F_Mo) (N := 24) hx hb htb in_Mo hown hK hP 0 rfl rfl 13 (by decide) (htb _ tw709) (fun _ h9 => h9) rfl d_M_putExponent_16 ?_
    refine lv_iconst (v := 2) hx hb d_M_putExponent_19 (by decide) ?_
    have hi := hw.1
    have hw := hw.2
    refine va_iald hx hb hK hP 9 0 rfl rfl hi d_M_putExponent_20 ?_
    refine ct_callv (wn := fun u6 => wd_Mo cA mo mo_dr mo_now mo_first mo_has mo_da mo_dl mo_af mo_al mo_sy mo_dg mo_out mo_tx m_ds m_st m_sub m_q m_two m_least u6.1 m_ts m_fs m_fc m_g m_gs m_dr m_now m_first m_has m_da m_dl m_af m_al m_sy m_dg u6.2 m_tx) (va_runV (As := [.int (m_sy (2 : Int32).toNatClampNeg)]) (rest := []) ⟨hx, hb, hml, hown, htb⟩ (c_M_put l D cA mo mo_dr mo_now mo_first mo_has mo_da mo_dl mo_af mo_al mo_sy mo_dg mo_out mo_tx m_ds m_st m_sub m_q m_two m_least u2.1 m_ts m_fs m_fc m_g m_gs m_dr m_now m_first m_has m_da m_dl m_af m_al m_sy m_dg u2.2 m_tx (m_sy (2 : Int32).toNatClampNeg) _ hw _) (ct_cwV 1 htb tw882 rfl rfl tw82 tw879 tw881 tw60 hd_M_put ⟨by decide, by decide⟩) (ct_preV hP hD hK hN [0, 1, 2, 3, 4, 5, 6, 7, 8, 9, 10, 11, 12] rfl (by decide) 0 rfl rfl _) rfl rfl hl.1 rfl (lv_room (Nat.le_of_ble_eq_true rfl)) d_M_putExponent_21 ⟨Nat.zero_le _, Nat.zero_le _⟩) hP hD hS hA [0, 1, 2, 3, 4, 5, 6, 7, 8, 9, 10, 11, 12] [] [0, 1, 2, 3, 4, 5, 6, 7, 8, 9, 10, 11, 12] rfl rfl (by decide) (by decide) (fun _ => rfl) (by decide) (fun u6 H locs hw hP hD hS => ?_)
    have hP : va_P D vwCl (wd_Mo cA mo mo_dr mo_now mo_first mo_has mo_da mo_dl mo_af mo_al mo_sy mo_dg mo_out mo_tx m_ds m_st m_sub m_q m_two m_least u6.1 m_ts m_fs m_fc m_g m_gs m_dr m_now m_first m_has m_da m_dl m_af m_al m_sy m_dg u6.2 m_tx) H := hP
    have hD : va_D A (wd_Mo cA mo mo_dr mo_now mo_first mo_has mo_da mo_dl mo_af mo_al mo_sy mo_dg mo_out mo_tx m_ds m_st m_sub m_q m_two m_least u6.1 m_ts m_fs m_fc m_g m_gs m_dr m_now m_first m_has m_da m_dl m_af m_al m_sy m_dg u6.2 m_tx) := hD
    refine lv_goto (tgt := 43) hx hb d_M_putExponent_24 rfl ?_
    exact hJ430 ex u6.1 u6.2 _ _ _ (lv_sub hl [0, 1] rfl) hP hD hS hw
