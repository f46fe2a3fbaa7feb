/-! DecimalPatternsModel.inNumber(I)Z -/
def wp_M_inNumber (m_st : Int32) (m_sub : Int32) (m_q : Int32) (m_now : Nat → Int32) (m_first : Nat → Int32) (m_da : Nat → Int32) (m_dl : Nat → Int32) (cd : Int32) (Q : Bool → (Int32 × Int32 × Int32 × (Nat → Int32) × (Nat → Int32) × (Nat → Int32) × (Nat → Int32)) → Prop) : Prop := (cd = 35 → (wp_M_integerDigit m_st m_now cd (fun r1 u2 => Q r1 (u2.1, m_sub, m_q, u2.2, m_first, m_da, m_dl)))) ∧ (¬ cd = 35 → ((¬ cd = 48 → ((¬ cd = 46 → ((¬ cd = 44 → ((¬ cd = 69 → (wp_M_behind m_st m_sub m_q m_now m_first m_da m_dl cd (fun r3 u4 => Q r3 (u4.1, u4.2.1, u4.2.2.1, u4.2.2.2.1, u4.2.2.2.2.1, u4.2.2.2.2.2.1, u4.2.2.2.2.2.2)))) ∧ (cd = 69 → (wp_M_power m_st m_now (fun r5 u6 => Q r5 (u6, m_sub, m_q, m_now, m_first, m_da, m_dl)))))) ∧ (cd = 44 → (vp_in (7 : Int32) 9 ∧ (vp_in (8 : Int32) 9 ∧ (vp_in (7 : Int32) 9 ∧ (vp_in (6 : Int32) 9 ∧ (vp_in (6 : Int32) 9 ∧ (Q true (3, m_sub, m_q, upd (upd (upd m_now (8 : Int32).toNatClampNeg (m_now (7 : Int32).toNatClampNeg)) (7 : Int32).toNatClampNeg 0) (6 : Int32).toNatClampNeg (((upd (upd m_now (8 : Int32).toNatClampNeg (m_now (7 : Int32).toNatClampNeg)) (7 : Int32).toNatClampNeg 0) (6 : Int32).toNatClampNeg) + 1), m_first, m_da, m_dl)))))))))) ∧ (cd = 46 → (Q true (4, m_sub, m_q, m_now, m_first, m_da, m_dl))))) ∧ (cd = 48 → (wp_M_integerDigit m_st m_now cd (fun r7 u8 => Q r7 (u8.1, m_sub, m_q, u8.2, m_first, m_da, m_dl))))))
set_option maxHeartbeats 4000000 in
set_option maxRecDepth 100000 in
theorem c_M_inNumber (l : Launch) (D : va_G) (cA : ClassId) (mo mo_dr mo_now mo_first mo_has mo_da mo_dl mo_af mo_al mo_sy mo_dg mo_out mo_tx : Nat) (m_ds : Int32) (m_st : Int32) (m_sub : Int32) (m_q : Int32) (m_two : Bool) (m_least : Int32) (m_os : Int32) (m_ts : Int32) (m_fs : Int64) (m_fc : Int32) (m_g : Int64) (m_gs : Int32) (m_dr : Nat → Int32) (m_now : Nat → Int32) (m_first : Nat → Int32) (m_has : Nat → Int32) (m_da : Nat → Int32) (m_dl : Nat → Int32) (m_af : Nat → Int32) (m_al : Nat → Int32) (m_sy : Nat → Int32) (m_dg : Nat → Int32) (m_out : Nat → Int32) (m_tx : Nat → Int32) (cd : Int32) (Q : Bool → (Int32 × Int32 × Int32 × (Nat → Int32) × (Nat → Int32) × (Nat → Int32) × (Nat → Int32)) → Prop) (hw : wp_M_inNumber m_st m_sub m_q m_now m_first m_da m_dl cd Q) : ct_M vwCl l D [(cA, .int)] y_M_inNumber w_M_inNumber { frames := 3, cells := 0, slots := 0, locals := 66 } [.ref mo, .int cd] (wd_Mo cA mo mo_dr mo_now mo_first mo_has mo_da mo_dl mo_af mo_al mo_sy mo_dg mo_out mo_tx m_ds m_st m_sub m_q m_two m_least m_os m_ts m_fs m_fc m_g m_gs m_dr m_now m_first m_has m_da m_dl m_af m_al m_sy m_dg m_out m_tx) (ct_qz vwCl D [(cA, .int)] Q (fun u => wd_Mo cA mo mo_dr mo_now mo_first mo_has mo_da mo_dl mo_af mo_al mo_sy mo_dg mo_out mo_tx m_ds u.1 u.2.1 u.2.2.1 m_two m_least m_os m_ts m_fs m_fc m_g m_gs m_dr u.2.2.2.1 u.2.2.2.2.1 m_has u.2.2.2.2.2.1 u.2.2.2.2.2.2 m_af m_al m_sy m_dg m_out m_tx)) := by
  refine ct_enter (cc := b_M_inNumber) (maxL := 2) (ret := (some .boolean)) (by decide) rfl (Nat.le_of_ble_eq_true rfl) ?_
  intro p e s m args below meth c A ls hx hb hr hlk hml hts hown hA hS hP hK hN hD hl
  have hl : lv_has ls 2 [(0, .ref mo), (1, .int cd)] := hl
  have htb : ∀ w ∈ tbl, w.before args s = true := fun w h => hts w (List.mem_cons_of_mem _ h)
  have hown : s.vm.findClass "DecimalPatternsModel" = some m.cls := hown
  unfold wp_M_inNumber at hw
  refine lv_iload_n hx hb d_M_inNumber_0 rfl (lv_at hl 1 rfl) ?_
  refine lv_bipush (v := 35) hx hb d_M_inNumber_1 (by decide) ?_
  refine lv_icmp_eq (tgt := 12) hx hb d_M_inNumber_3 rfl (fun hc => ?_) (fun hc => ?_)
  · have hw := hw.1 hc
    refine lv_aload_n hx hb d_M_inNumber_12 rfl (lv_at hl 0 rfl) ?_
    refine lv_iload_n hx hb d_M_inNumber_13 rfl (lv_at hl 1 rfl) ?_
    refine ct_callz (wn := fun u2 => wd_Mo cA mo mo_dr mo_now mo_first mo_has mo_da mo_dl mo_af mo_al mo_sy mo_dg mo_out mo_tx m_ds u2.1 m_sub m_q m_two m_least m_os m_ts m_fs m_fc m_g m_gs m_dr u2.2 m_first m_has m_da m_dl m_af m_al m_sy m_dg m_out m_tx) (va_runV (As := [.int cd]) (rest := []) ⟨hx, hb, hml, hown, htb⟩ (c_M_integerDigit l D cA mo mo_dr mo_now mo_first mo_has mo_da mo_dl mo_af mo_al mo_sy mo_dg mo_out mo_tx m_ds m_st m_sub m_q m_two m_least m_os m_ts m_fs m_fc m_g m_gs m_dr m_now m_first m_has m_da m_dl m_af m_al m_sy m_dg m_out m_tx cd _ hw _) (ct_cwV 1 htb tw792 rfl rfl tw82 tw789 tw791 tw43 hd_M_integerDigit ⟨by decide, by decide⟩) (ct_preV hP hD hK hN [0, 1, 2, 3, 4, 5, 6, 7, 8, 9, 10, 11, 12] rfl (by decide) 0 rfl rfl _) rfl rfl hl.1 rfl (lv_room (Nat.le_of_ble_eq_true rfl)) d_M_inNumber_14 ⟨Nat.zero_le _, Nat.zero_le _⟩) hP hD hS hA [0, 1, 2, 3, 4, 5, 6, 7, 8, 9, 10, 11, 12] [] [0, 1, 2, 3, 4, 5, 6, 7, 8, 9, 10, 11, 12] rfl rfl (by decide) (by decide) (fun _ => rfl) (by decide) (fun r1 u2 H locs hw hP hD hS => ?_)
    have hP : va_P D vwCl (wd_Mo cA mo mo_dr mo_now mo_first mo_has mo_da mo_dl mo_af mo_al mo_sy mo_dg mo_out mo_tx m_ds u2.1 m_sub m_q m_two m_least m_os m_ts m_fs m_fc m_g m_gs m_dr u2.2 m_first m_has m_da m_dl m_af m_al m_sy m_dg m_out m_tx) H := hP
    have hD : va_D A (wd_Mo cA mo mo_dr mo_now mo_first mo_has mo_da mo_dl mo_af mo_al mo_sy mo_dg mo_out mo_tx m_ds u2.1 m_sub m_q m_two m_least m_os m_ts m_fs m_fc m_g m_gs m_dr u2.2 m_first m_has m_da m_dl m_af m_al m_sy m_dg m_out m_tx) := hD
    exact ct_zret r1 hx hb hr hlk hK hS (u2.1, m_sub, m_q, u2.2, m_first, m_da, m_dl) hw hP hD d_M_inNumber_17
  · have hw := hw.2 hc
    refine lv_iload_n hx hb d_M_inNumber_6 rfl (lv_at hl 1 rfl) ?_
    refine lv_bipush (v := 48) hx hb d_M_inNumber_7 (by decide) ?_
    refine lv_icmp_ne (tgt := 18) hx hb d_M_inNumber_9 rfl (fun hc => ?_) (fun hc => ?_)
    · have hw := hw.1 hc
      refine lv_iload_n hx hb d_M_inNumber_18 rfl (lv_at hl 1 rfl) ?_
      refine lv_bipush (v := 46) hx hb d_M_inNumber_19 (by decide) ?_
      refine lv_icmp_ne (tgt := 31) hx hb d_M_inNumber_21 rfl (fun hc => ?_) (fun hc => ?_)
      · have hw := hw.1 hc
        refine lv_iload_n hx hb d_M_inNumber_31 rfl (lv_at hl 1 rfl) ?_
        refine lv_bipush (v := 44) hx hb d_M_inNumber_32 (by decide) ?_
        refine lv_icmp_ne (tgt := 77) hx hb d_M_inNumber_34 rfl (fun hc => ?_) (fun hc => ?_)
        · have hw := hw.1 hc
          refine lv_iload_n hx hb d_M_inNumber_77 rfl (lv_at hl 1 rfl) ?_
          refine lv_bipush (v := 69) hx hb d_M_inNumber_78 (by decide) ?_
          refine lv_icmp_ne (tgt := 90) hx hb d_M_inNumber_80 rfl (fun hc => ?_) (fun hc => ?_)
          · have hw := hw.1 hc
            refine lv_aload_n hx hb d_M_inNumber_90 rfl (lv_at hl 0 rfl) ?_
            refine lv_iload_n hx hb d_M_inNumber_91 rfl (lv_at hl 1 rfl) ?_
            refine ct_callz (wn := fun u4 => wd_Mo cA mo mo_dr mo_now mo_first mo_has mo_da mo_dl mo_af mo_al mo_sy mo_dg mo_out mo_tx m_ds u4.1 u4.2.1 u4.2.2.1 m_two m_least m_os m_ts m_fs m_fc m_g m_gs m_dr u4.2.2.2.1 u4.2.2.2.2.1 m_has u4.2.2.2.2.2.1 u4.2.2.2.2.2.2 m_af m_al m_sy m_dg m_out m_tx) (va_runV (As := [.int cd]) (rest := []) ⟨hx, hb, hml, hown, htb⟩ (c_M_behind l D cA mo mo_dr mo_now mo_first mo_has mo_da mo_dl mo_af mo_al mo_sy mo_dg mo_out mo_tx m_ds m_st m_sub m_q m_two m_least m_os m_ts m_fs m_fc m_g m_gs m_dr m_now m_first m_has m_da m_dl m_af m_al m_sy m_dg m_out m_tx cd _ hw _) (ct_cwV 1 htb tw819 rfl rfl tw82 tw816 tw818 tw49 hd_M_behind ⟨by decide, by decide⟩) (ct_preV hP hD hK hN [0, 1, 2, 3, 4, 5, 6, 7, 8, 9, 10, 11, 12] rfl (by decide) 0 rfl rfl _) rfl rfl hl.1 rfl (lv_room (Nat.le_of_ble_eq_true rfl)) d_M_inNumber_92 ⟨Nat.zero_le _, Nat.zero_le _⟩) hP hD hS hA [0, 1, 2, 3, 4, 5, 6, 7, 8, 9, 10, 11, 12] [] [0, 1, 2, 3, 4, 5, 6, 7, 8, 9, 10, 11, 12] rfl rfl (by decide) (by decide) (fun _ => rfl) (by decide) (fun r3 u4 H locs hw hP hD hS => ?_)
            have hP : va_P D vwCl (wd_Mo cA mo mo_dr mo_now mo_first mo_has mo_da mo_dl mo_af mo_al mo_sy mo_dg mo_out mo_tx m_ds u4.1 u4.2.1 u4.2.2.1 m_two m_least m_os m_ts m_fs m_fc m_g m_gs m_dr u4.2.2.2.1 u4.2.2.2.2.1 m_has u4.2.2.2.2.2.1 u4.2.2.2.2.2.2 m_af m_al m_sy m_dg m_out m_tx) H := hP
            have hD : va_D A (wd_Mo cA mo mo_dr mo_now mo_first mo_has mo_da mo_dl mo_af mo_al mo_sy mo_dg mo_out mo_tx m_ds u4.1 u4.2.1 u4.2.2.1 m_two m_least m_os m_ts m_fs m_fc m_g m_gs m_dr u4.2.2.2.1 u4.2.2.2.2.1 m_has u4.2.2.2.2.2.1 u4.2.2.2.2.2.2 m_af m_al m_sy m_dg m_out m_tx) := hD
            exact ct_zret r3 hx hb hr hlk hK hS (u4.1, u4.2.1, u4.2.2.1, u4.2.2.2.1, u4.2.2.2.2.1, u4.2.2.2.2.2.1, u4.2.2.2.2.2.2) hw hP hD d_M_inNumber_95
          · have hw := hw.2 hc
            refine lv_aload_n hx hb d_M_inNumber_83 rfl (lv_at hl 0 rfl) ?_
            refine ct_callz (wn := fun u6 => wd_Mo cA mo mo_dr mo_now mo_first mo_has mo_da mo_dl mo_af mo_al mo_sy mo_dg mo_out mo_tx m_ds u6 m_sub m_q m_two m_least m_os m_ts m_fs m_fc m_g m_gs m_dr m_now m_first m_has m_da m_dl m_af m_al m_sy m_dg m_out m_tx) (va_runV (As := []) (rest := []) ⟨hx, hb, hml, hown, htb⟩ (c_M_power l D cA mo mo_dr mo_now mo_first mo_has mo_da mo_dl mo_af mo_al mo_sy mo_dg mo_out mo_tx m_ds m_st m_sub m_q m_two m_least m_os m_ts m_fs m_fc m_g m_gs m_dr m_now m_first m_has m_da m_dl m_af m_al m_sy m_dg m_out m_tx _ hw _) (ct_cwV 0 htb tw815 rfl rfl tw82 tw812 tw814 tw48 hd_M_power ⟨by decide, by decide⟩) (ct_preV hP hD hK hN [0, 1, 2, 3, 4, 5, 6, 7, 8, 9, 10, 11, 12] rfl (by decide) 0 rfl rfl _) rfl rfl hl.1 rfl (lv_room (Nat.le_of_ble_eq_true rfl)) d_M_inNumber_84 ⟨Nat.zero_le _, Nat.zero_le _⟩) hP hD hS hA [0, 1, 2, 3, 4, 5, 6, 7, 8, 9, 10, 11, 12] [] [0, 1, 2, 3, 4, 5, 6, 7, 8, 9, 10, 11, 12] rfl rfl (by decide) (by decide) (fun _ => rfl) (by decide) (fun r5 u6 H locs hw hP hD hS => ?_)
            have hP : va_P D vwCl (wd_Mo cA mo mo_dr mo_now mo_first mo_has mo_da mo_dl mo_af mo_al mo_sy mo_dg mo_out mo_tx m_ds u6 m_sub m_q m_two m_least m_os m_ts m_fs m_fc m_g m_gs m_dr m_now m_first m_has m_da m_dl m_af m_al m_sy m_dg m_out m_tx) H := hP
            have hD : va_D A (wd_Mo cA mo mo_dr mo_now mo_first mo_has mo_da mo_dl mo_af mo_al mo_sy mo_dg mo_out mo_tx m_ds u6 m_sub m_q m_two m_least m_os m_ts m_fs m_fc m_g m_gs m_dr m_now m_first m_has m_da m_dl m_af m_al m_sy m_dg m_out m_tx) := hD
            refine lv_goto (tgt := 95) hx hb d_M_inNumber_87 rfl ?_
            exact ct_zret r5 hx hb hr hlk hK hS (u6, m_sub, m_q, m_now, m_first, m_da, m_dl) hw hP hD d_M_inNumber_95
        · have hw := hw.2 hc
          refine lv_aload_n hx hb d_M_inNumber_37 rfl (lv_at hl 0 rfl) ?_
          refine va_get (ci := 9) (C := R_Mo) (T := F_Mo) (N := 24) hx hb htb in_Mo hown hK hP 0 rfl rfl 5 (by decide) (htb _ tw701) (fun _ h9 => h9) rfl d_M_inNumber_38 ?_
          refine lv_bipush (v := 8) hx hb d_M_inNumber_41 (by decide) ?_
          refine lv_aload_n hx hb d_M_inNumber_43 rfl (lv_at hl 0 rfl) ?_
          refine va_get (ci := 9) (C := R_Mo) (T := F_Mo) (N := 24) hx hb htb in_Mo hown hK hP 0 rfl rfl 5 (by decide) (htb _ tw701) (fun _ h9 => h9) rfl d_M_inNumber_44 ?_
          refine lv_bipush (v := 7) hx hb d_M_inNumber_47 (by decide) ?_
          have hi := hw.1
          have hw := hw.2
          refine va_iald hx hb hK hP 2 0 rfl rfl hi d_M_inNumber_49 ?_
          have hi := hw.1
          have hw := hw.2
          refine va_iast hx hb hK hP hD hS 2 0 rfl rfl hi d_M_inNumber_50 (fun H locs hP hD hS => ?_)
          have hP : va_P D vwCl (wd_Mo cA mo mo_dr mo_now mo_first mo_has mo_da mo_dl mo_af mo_al mo_sy mo_dg mo_out mo_tx m_ds m_st m_sub m_q m_two m_least m_os m_ts m_fs m_fc m_g m_gs m_dr (upd m_now (8 : Int32).toNatClampNeg (m_now (7 : Int32).toNatClampNeg)) m_first m_has m_da m_dl m_af m_al m_sy m_dg m_out m_tx) H := hP
          have hD : va_D A (wd_Mo cA mo mo_dr mo_now mo_first mo_has mo_da mo_dl mo_af mo_al mo_sy mo_dg mo_out mo_tx m_ds m_st m_sub m_q m_two m_least m_os m_ts m_fs m_fc m_g m_gs m_dr (upd m_now (8 : Int32).toNatClampNeg (m_now (7 : Int32).toNatClampNeg)) m_first m_has m_da m_dl m_af m_al m_sy m_dg m_out m_tx) := hD
          refine lv_aload_n hx hb d_M_inNumber_51 rfl (lv_at hl 0 rfl) ?_
          refine va_get (ci := 9) (C := R_Mo) (T := F_Mo) (N := 24) hx hb htb in_Mo hown hK hP 0 rfl rfl 5 (by decide) (htb _ tw701) (fun _ h9 => h9) rfl d_M_inNumber_52 ?_
          refine lv_bipush (v := 7) hx hb d_M_inNumber_55 (by decide) ?_
          refine lv_iconst (v := 0) hx hb d_M_inNumber_57 (by decide) ?_
          have hi := hw.1
          have hw := hw.2
          refine va_iast hx hb hK hP hD hS 2 0 rfl rfl hi d_M_inNumber_58 (fun H locs hP hD hS => ?_)
          have hP : va_P D vwCl (wd_Mo cA mo mo_dr mo_now mo_first mo_has mo_da mo_dl mo_af mo_al mo_sy mo_dg mo_out mo_tx m_ds m_st m_sub m_q m_two m_least m_os m_ts m_fs m_fc m_g m_gs m_dr (upd (upd m_now (8 : Int32).toNatClampNeg (m_now (7 : Int32).toNatClampNeg)) (7 : Int32).toNatClampNeg 0) m_first m_has m_da m_dl m_af m_al m_sy m_dg m_out m_tx) H := hP
          have hD : va_D A (wd_Mo cA mo mo_dr mo_now mo_first mo_has mo_da mo_dl mo_af mo_al mo_sy mo_dg mo_out mo_tx m_ds m_st m_sub m_q m_two m_least m_os m_ts m_fs m_fc m_g m_gs m_dr (upd (upd m_now (8 : Int32).toNatClampNeg (m_now (7 : Int32).toNatClampNeg)) (7 : Int32).toNatClampNeg 0) m_first m_has m_da m_dl m_af m_al m_sy m_dg m_out m_tx) := hD
          refine lv_aload_n hx hb d_M_inNumber_59 rfl (lv_at hl 0 rfl) ?_
          refine va_get (ci := 9) (C := R_Mo) (T := F_Mo) (N := 24) hx hb htb in_Mo hown hK hP 0 rfl rfl 5 (by decide) (htb _ tw701) (fun _ h9 => h9) rfl d_M_inNumber_60 ?_
          refine lv_bipush (v := 6) hx hb d_M_inNumber_63 (by decide) ?_
          refine lv_dup2_11 hx hb d_M_inNumber_65 rfl rfl ?_
          have hi := hw.1
          have hw := hw.2
          refine va_iald hx hb hK hP 2 0 rfl rfl hi d_M_inNumber_66 ?_
          refine lv_iconst (v := 1) hx hb d_M_inNumber_67 (by decide) ?_
          refine lv_iadd hx hb d_M_inNumber_68 ?_
          have hi := hw.1
          have hw := hw.2
          refine va_iast hx hb hK hP hD hS 2 0 rfl rfl hi d_M_inNumber_69 (fun H locs hP hD hS => ?_)
          have hP : va_P D vwCl (wd_Mo cA mo mo_dr mo_now mo_first mo_has mo_da mo_dl mo_af mo_al mo_sy mo_dg mo_out mo_tx m_ds m_st m_sub m_q m_two m_least m_os m_ts m_fs m_fc m_g m_gs m_dr (upd (upd (upd m_now (8 : Int32).toNatClampNeg (m_now (7 : Int32).toNatClampNeg)) (7 : Int32).toNatClampNeg 0) (6 : Int32).toNatClampNeg (((upd (upd m_now (8 : Int32).toNatClampNeg (m_now (7 : Int32).toNatClampNeg)) (7 : Int32).toNatClampNeg 0) (6 : Int32).toNatClampNeg) + 1)) m_first m_has m_da m_dl m_af m_al m_sy m_dg m_out m_tx) H := hP
          have hD : va_D A (wd_Mo cA mo mo_dr mo_now mo_first mo_has mo_da mo_dl mo_af mo_al mo_sy mo_dg mo_out mo_tx m_ds m_st m_sub m_q m_two m_least m_os m_ts m_fs m_fc m_g m_gs m_dr (upd (upd (upd m_now (8 : Int32).toNatClampNeg (m_now (7 : Int32).toNatClampNeg)) (7 : Int32).toNatClampNeg 0) (6 : Int32).toNatClampNeg (((upd (upd m_now (8 : Int32).toNatClampNeg (m_now (7 : Int32).toNatClampNeg)) (7 : Int32).toNatClampNeg 0) (6 : Int32).toNatClampNeg) + 1)) m_first m_has m_da m_dl m_af m_al m_sy m_dg m_out m_tx) := hD
          refine lv_aload_n hx hb d_M_inNumber_70 rfl (lv_at hl 0 rfl) ?_
          refine lv_iconst (v := 3) hx hb d_M_inNumber_71 (by decide) ?_
          refine va_put (ci := 9) (v := .int 3) (ty := .int) (C := R_Mo) (T := F_Mo) (N := 24) hx hb htb in_Mo t_Mo t_Mo_ok n_Mo hown hK hP hD hS 0 rfl rfl 2 (by decide) (htb _ tw698) (fun _ h9 => h9) rfl (by decide +kernel) rfl rfl (Nat.le_of_ble_eq_true rfl) d_M_inNumber_72 (fun H locs hP hD hS => ?_)
          have hP : va_P D vwCl (wd_Mo cA mo mo_dr mo_now mo_first mo_has mo_da mo_dl mo_af mo_al mo_sy mo_dg mo_out mo_tx m_ds 3 m_sub m_q m_two m_least m_os m_ts m_fs m_fc m_g m_gs m_dr (upd (upd (upd m_now (8 : Int32).toNatClampNeg (m_now (7 : Int32).toNatClampNeg)) (7 : Int32).toNatClampNeg 0) (6 : Int32).toNatClampNeg (((upd (upd m_now (8 : Int32).toNatClampNeg (m_now (7 : Int32).toNatClampNeg)) (7 : Int32).toNatClampNeg 0) (6 : Int32).toNatClampNeg) + 1)) m_first m_has m_da m_dl m_af m_al m_sy m_dg m_out m_tx) H := hP
          have hD : va_D A (wd_Mo cA mo mo_dr mo_now mo_first mo_has mo_da mo_dl mo_af mo_al mo_sy mo_dg mo_out mo_tx m_ds 3 m_sub m_q m_two m_least m_os m_ts m_fs m_fc m_g m_gs m_dr (upd (upd (upd m_now (8 : Int32).toNatClampNeg (m_now (7 : Int32).toNatClampNeg)) (7 : Int32).toNatClampNeg 0) (6 : Int32).toNatClampNeg (((upd (upd m_now (8 : Int32).toNatClampNeg (m_now (7 : Int32).toNatClampNeg)) (7 : Int32).toNatClampNeg 0) (6 : Int32).toNatClampNeg) + 1)) m_first m_has m_da m_dl m_af m_al m_sy m_dg m_out m_tx) := hD
          refine lv_iconst (v := 1) hx hb d_M_inNumber_75 (by decide) ?_
          exact ct_zret true hx hb hr hlk hK hS (3, m_sub, m_q, upd (upd (upd m_now (8 : Int32).toNatClampNeg (m_now (7 : Int32).toNatClampNeg)) (7 : Int32).toNatClampNeg 0) (6 : Int32).toNatClampNeg (((upd (upd m_now (8 : Int32).toNatClampNeg (m_now (7 : Int32).toNatClampNeg)) (7 : Int32).toNatClampNeg 0) (6 : Int32).toNatClampNeg) + 1), m_first, m_da, m_dl) hw hP hD d_M_inNumber_76
      · have hw := hw.2 hc
        refine lv_aload_n hx hb d_M_inNumber_24 rfl (lv_at hl 0 rfl) ?_
        refine lv_iconst (v := 4) hx hb d_M_inNumber_25 (by decide) ?_
        refine va_put (ci := 9) (v := .int 4) (ty := .int) (C := R_Mo) (T := F_Mo) (N := 24) hx hb htb in_Mo t_Mo t_Mo_ok n_Mo hown hK hP hD hS 0 rfl rfl 2 (by decide) (htb _ tw698) (fun _ h9 => h9) rfl (by decide +kernel) rfl rfl (Nat.le_of_ble_eq_true rfl) d_M_inNumber_26 (fun H locs hP hD hS => ?_)
        have hP : va_P D vwCl (wd_Mo cA mo mo_dr mo_now mo_first mo_has mo_da mo_dl mo_af mo_al mo_sy mo_dg mo_out mo_tx m_ds 4 m_sub m_q m_two m_least m_os m_ts m_fs m_fc m_g m_gs m_dr m_now m_first m_has m_da m_dl m_af m_al m_sy m_dg m_out m_tx) H := hP
        have hD : va_D A (wd_Mo cA mo mo_dr mo_now mo_first mo_has mo_da mo_dl mo_af mo_al mo_sy mo_dg mo_out mo_tx m_ds 4 m_sub m_q m_two m_least m_os m_ts m_fs m_fc m_g m_gs m_dr m_now m_first m_has m_da m_dl m_af m_al m_sy m_dg m_out m_tx) := hD
        refine lv_iconst (v := 1) hx hb d_M_inNumber_29 (by decide) ?_
        exact ct_zret true hx hb hr hlk hK hS (4, m_sub, m_q, m_now, m_first, m_da, m_dl) hw hP hD d_M_inNumber_30
    · have hw := hw.2 hc
      refine lv_aload_n hx hb d_M_inNumber_12 rfl (lv_at hl 0 rfl) ?_
      refine lv_iload_n hx hb d_M_inNumber_13 rfl (lv_at hl 1 rfl) ?_
      refine ct_callz (wn := fun u8 => wd_Mo cA mo mo_dr mo_now mo_first mo_has mo_da mo_dl mo_af mo_al mo_sy mo_dg mo_out mo_tx m_ds u8.1 m_sub m_q m_two m_least m_os m_ts m_fs m_fc m_g m_gs m_dr u8.2 m_first m_has m_da m_dl m_af m_al m_sy m_dg m_out m_tx) (va_runV (As := [.int cd]) (rest := []) ⟨hx, hb, hml, hown, htb⟩ (c_M_integerDigit l D cA mo mo_dr mo_now mo_first mo_has mo_da mo_dl mo_af mo_al mo_sy mo_dg mo_out mo_tx m_ds m_st m_sub m_q m_two m_least m_os m_ts m_fs m_fc m_g m_gs m_dr m_now m_first m_has m_da m_dl m_af m_al m_sy m_dg m_out m_tx cd _ hw _) (ct_cwV 1 htb tw792 rfl rfl tw82 tw789 tw791 tw43 hd_M_integerDigit ⟨by decide, by decide⟩) (ct_preV hP hD hK hN [0, 1, 2, 3, 4, 5, 6, 7, 8, 9, 10, 11, 12] rfl (by decide) 0 rfl rfl _) rfl rfl hl.1 rfl (lv_room (Nat.le_of_ble_eq_true rfl)) d_M_inNumber_14 ⟨Nat.zero_le _, Nat.zero_le _⟩) hP hD hS hA [0, 1, 2, 3, 4, 5, 6, 7, 8, 9, 10, 11, 12] [] [0, 1, 2, 3, 4, 5, 6, 7, 8, 9, 10, 11, 12] rfl rfl (by decide) (by decide) (fun _ => rfl) (by decide) (fun r7 u8 H locs hw hP hD hS => ?_)
      have hP : va_P D vwCl (wd_Mo cA mo mo_dr mo_now mo_first mo_has mo_da mo_dl mo_af mo_al mo_sy mo_dg mo_out mo_tx m_ds u8.1 m_sub m_q m_two m_least m_os m_ts m_fs m_fc m_g m_gs m_dr u8.2 m_first m_has m_da m_dl m_af m_al m_sy m_dg m_out m_tx) H := hP
      have hD : va_D A (wd_Mo cA mo mo_dr mo_now mo_first mo_has mo_da mo_dl mo_af mo_al mo_sy mo_dg mo_out mo_tx m_ds u8.1 m_sub m_q m_two m_least m_os m_ts m_fs m_fc m_g m_gs m_dr u8.2 m_first m_has m_da m_dl m_af m_al m_sy m_dg m_out m_tx) := hD
      exact ct_zret r7 hx hb hr hlk hK hS (u8.1, m_sub, m_q, u8.2, m_first, m_da, m_dl) hw hP hD d_M_inNumber_17
/-! DecimalPatternsModel.inFraction(I)Z -/
def wp_M_inFraction_J790 (x1 : Int32) (m_st : Int32) (m_sub : Int32) (m_q : Int32) (m_now : Nat → Int32) (m_first : Nat → Int32) (m_da : Nat → Int32) (m_dl : Nat → Int32) (Q : Bool → (Int32 × Int32 × Int32 × (Nat → Int32) × (Nat → Int32) × (Nat → Int32) × (Nat → Int32)) → Prop) : Prop := (¬ m_st = 4 → ((¬ x1 = 69 → (wp_M_behind m_st m_sub m_q m_now m_first m_da m_dl x1 (fun r1 u2 => Q r1 (u2.1, u2.2.1, u2.2.2.1, u2.2.2.2.1, u2.2.2.2.2.1, u2.2.2.2.2.2.1, u2.2.2.2.2.2.2)))) ∧ (x1 = 69 → (wp_M_power m_st m_now (fun r3 u4 => Q r3 (u4, m_sub, m_q, m_now, m_first, m_da, m_dl)))))) ∧ (m_st = 4 → (Q false (m_st, m_sub, m_q, m_now, m_first, m_da, m_dl)))
def wp_M_inFraction_J310 (x1 : Int32) (m_st : Int32) (m_sub : Int32) (m_q : Int32) (m_now : Nat → Int32) (m_first : Nat → Int32) (m_da : Nat → Int32) (m_dl : Nat → Int32) (Q : Bool → (Int32 × Int32 × Int32 × (Nat → Int32) × (Nat → Int32) × (Nat → Int32) × (Nat → Int32)) → Prop) : Prop := vp_in (2 : Int32) 9 ∧ (vp_in (2 : Int32) 9 ∧ (vp_in (3 : Int32) 9 ∧ ((¬ x1 = 48 → (vp_in (3 : Int32) 9 ∧ ((¬ x1 = 48 → (Q true (6, m_sub, m_q, upd (upd m_now (2 : Int32).toNatClampNeg ((m_now (2 : Int32).toNatClampNeg) + 1)) (3 : Int32).toNatClampNeg (((upd m_now (2 : Int32).toNatClampNeg ((m_now (2 : Int32).toNatClampNeg) + 1)) (3 : Int32).toNatClampNeg) + 0), m_first, m_da, m_dl))) ∧ (x1 = 48 → (Q true (5, m_sub, m_q, upd (upd m_now (2 : Int32).toNatClampNeg ((m_now (2 : Int32).toNatClampNeg) + 1)) (3 : Int32).toNatClampNeg (((upd m_now (2 : Int32).toNatClampNeg ((m_now (2 : Int32).toNatClampNeg) + 1)) (3 : Int32).toNatClampNeg) + 0), m_first, m_da, m_dl)))))) ∧ (x1 = 48 → (vp_in (3 : Int32) 9 ∧ ((¬ x1 = 48 → (Q true (6, m_sub, m_q, upd (upd m_now (2 : Int32).toNatClampNeg ((m_now (2 : Int32).toNatClampNeg) + 1)) (3 : Int32).toNatClampNeg (((upd m_now (2 : Int32).toNatClampNeg ((m_now (2 : Int32).toNatClampNeg) + 1)) (3 : Int32).toNatClampNeg) + 1), m_first, m_da, m_dl))) ∧ (x1 = 48 → (Q true (5, m_sub, m_q, upd (upd m_now (2 : Int32).toNatClampNeg ((m_now (2 : Int32).toNatClampNeg) + 1)) (3 : Int32).toNatClampNeg (((upd m_now (2 : Int32).toNatClampNeg ((m_now (2 : Int32).toNatClampNeg) + 1)) (3 : Int32).toNatClampNeg) + 1), m_first, m_da, m_dl)))))))))
def wp_M_inFraction_J140 (x1 : Int32) (y0 : Bool) (m_st : Int32) (m_sub : Int32) (m_q : Int32) (m_now : Nat → Int32) (m_first : Nat → Int32) (m_da : Nat → Int32) (m_dl : Nat → Int32) (Q : Bool → (Int32 × Int32 × Int32 × (Nat → Int32) × (Nat → Int32) × (Nat → Int32) × (Nat → Int32)) → Prop) : Prop := (x1 = 35 → (wp_M_inFraction_J310 x1 m_st m_sub m_q m_now m_first m_da m_dl Q)) ∧ (¬ x1 = 35 → ((¬ x1 = 48 → (wp_M_inFraction_J790 x1 m_st m_sub m_q m_now m_first m_da m_dl Q)) ∧ (x1 = 48 → ((y0 = false → (wp_M_inFraction_J790 x1 m_st m_sub m_q m_now m_first m_da m_dl Q)) ∧ (y0 = true → (wp_M_inFraction_J310 x1 m_st m_sub m_q m_now m_first m_da m_dl Q))))))
def wp_M_inFraction (m_st : Int32) (m_sub : Int32) (m_q : Int32) (m_now : Nat → Int32) (m_first : Nat → Int32) (m_da : Nat → Int32) (m_dl : Nat → Int32) (cd : Int32) (Q : Bool → (Int32 × Int32 × Int32 × (Nat → Int32) × (Nat → Int32) × (Nat → Int32) × (Nat → Int32)) → Prop) : Prop := (m_st = 6 → (wp_M_inFraction_J140 cd false m_st m_sub m_q m_now m_first m_da m_dl Q)) ∧ (¬ m_st = 6 → (wp_M_inFraction_J140 cd true m_st m_sub m_q m_now m_first m_da m_dl Q))
set_option maxHeartbeats 4000000 in
set_option maxRecDepth 100000 in
theorem c_M_inFraction (l : Launch) (D : va_G) (cA : ClassId) (mo mo_dr mo_now mo_first mo_has mo_da mo_dl mo_af mo_al mo_sy mo_dg mo_out mo_tx : Nat) (m_ds : Int32) (m_st : Int32) (m_sub : Int32) (m_q : Int32) (m_two : Bool) (m_least : Int32) (m_os : Int32) (m_ts : Int32) (m_fs : Int64) (m_fc : Int32) (m_g : Int64) (m_gs : Int32) (m_dr : Nat → Int32) (m_now : Nat → Int32) (m_first : Nat → Int32) (m_has : Nat → Int32) (m_da : Nat → Int32) (m_dl : Nat → Int32) (m_af : Nat → Int32) (m_al : Nat → Int32) (m_sy : Nat → Int32) (m_dg : Nat → Int32) (m_out : Nat → Int32) (m_tx : Nat → Int32) (cd : Int32) (Q : Bool → (Int32 × Int32 × Int32 × (Nat → Int32) × (Nat → Int32) × (Nat → Int32) × (Nat → Int32)) → Prop) (hw : wp_M_inFraction m_st m_sub m_q m_now m_first m_da m_dl cd Q) : ct_M vwCl l D [(cA, .int)] y_M_inFraction w_M_inFraction { frames := 3, cells := 0, slots := 0, locals := 66 } [.ref mo, .int cd] (wd_Mo cA mo mo_dr mo_now mo_first mo_has mo_da mo_dl mo_af mo_al mo_sy mo_dg mo_out mo_tx m_ds m_st m_sub m_q m_two m_least m_os m_ts m_fs m_fc m_g m_gs m_dr m_now m_first m_has m_da m_dl m_af m_al m_sy m_dg m_out m_tx) (ct_qz vwCl D [(cA, .int)] Q (fun u => wd_Mo cA mo mo_dr mo_now mo_first mo_has mo_da mo_dl mo_af mo_al mo_sy mo_dg mo_out mo_tx m_ds u.1 u.2.1 u.2.2.1 m_two m_least m_os m_ts m_fs m_fc m_g m_gs m_dr u.2.2.2.1 u.2.2.2.2.1 m_has u.2.2.2.2.2.1 u.2.2.2.2.2.2 m_af m_al m_sy m_dg m_out m_tx)) := by
  refine ct_enter (cc := b_M_inFraction) (maxL := 3) (ret := (some .boolean)) (by decide) rfl (Nat.le_of_ble_eq_true rfl) ?_
  intro p e s m args below meth c A ls hx hb hr hlk hml hts hown hA hS hP hK hN hD hl
  have hl : lv_has ls 3 [(0, .ref mo), (1, .int cd)] := hl
  have htb : ∀ w ∈ tbl, w.before args s = true := fun w h => hts w (List.mem_cons_of_mem _ h)
  have hown : s.vm.findClass "DecimalPatternsModel" = some m.cls := hown
  unfold wp_M_inFraction at hw
  have hJ790 : ∀ (x1 : Int32) (m_st : Int32) (m_sub : Int32) (m_q : Int32) (m_now : Nat → Int32) (m_first : Nat → Int32) (m_da : Nat → Int32) (m_dl : Nat → Int32) (H : Heap) (locs : List Loc) (ls : Array Slot), lv_has ls 3 [(0, .ref mo), (1, .int x1)] → va_P D vwCl (wd_Mo cA mo mo_dr mo_now mo_first mo_has mo_da mo_dl mo_af mo_al mo_sy mo_dg mo_out mo_tx m_ds m_st m_sub m_q m_two m_least m_os m_ts m_fs m_fc m_g m_gs m_dr m_now m_first m_has m_da m_dl m_af m_al m_sy m_dg m_out m_tx) H → va_D A (wd_Mo cA mo mo_dr mo_now mo_first mo_has mo_da mo_dl mo_af mo_al mo_sy mo_dg mo_out mo_tx m_ds m_st m_sub m_q m_two m_least m_os m_ts m_fs m_fc m_g m_gs m_dr m_now m_first m_has m_da m_dl m_af m_al m_sy m_dg m_out m_tx) → va_S A s.heap H locs → wp_M_inFraction_J790 x1 m_st m_sub m_q m_now m_first m_da m_dl Q → W p l e { frames := 3, cells := 0, slots := 0, locals := 66 } s m args below meth c H locs 0 0 (MQ below (ct_qz vwCl D [(cA, .int)] Q (fun u => wd_Mo cA mo mo_dr mo_now mo_first mo_has mo_da mo_dl mo_af mo_al mo_sy mo_dg mo_out mo_tx m_ds u.1 u.2.1 u.2.2.1 m_two m_least m_os m_ts m_fs m_fc m_g m_gs m_dr u.2.2.2.1 u.2.2.2.2.1 m_has u.2.2.2.2.2.1 u.2.2.2.2.2.2 m_af m_al m_sy m_dg m_out m_tx) A) args s 0 0 A) (F0 m 79 ls []) := by
    intro x1 m_st m_sub m_q m_now m_first m_da m_dl H locs ls hl hP hD hS hw
    unfold wp_M_inFraction_J790 at hw
    refine lv_aload_n hx hb d_M_inFraction_79 rfl (lv_at hl 0 rfl) ?_
    refine va_get (ci := 9) (C := R_Mo) (T := F_Mo) (N := 24) hx hb htb in_Mo hown hK hP 0 rfl rfl 2 (by decide) (htb _ tw698) (fun _ h9 => h9) rfl d_M_inFraction_80 ?_
    refine lv_iconst (v := 4) hx hb d_M_inFraction_83 (by decide) ?_
    refine lv_icmp_ne (tgt := 89) hx hb d_M_inFraction_84 rfl (fun hc => ?_) (fun hc => ?_)
    · have hw := hw.1 hc
      refine lv_iload_n hx hb d_M_inFraction_89 rfl (lv_at hl 1 rfl) ?_
      refine lv_bipush (v := 69) hx hb d_M_inFraction_90 (by decide) ?_
      refine lv_icmp_ne (tgt := 102) hx hb d_M_inFraction_92 rfl (fun hc => ?_) (fun hc => ?_)
      · have hw := hw.1 hc
        refine lv_aload_n hx hb d_M_inFraction_102 rfl (lv_at hl 0 rfl) ?_
        refine lv_iload_n hx hb d_M_inFraction_103 rfl (lv_at hl 1 rfl) ?_
        refine ct_callz (wn := fun u2 => wd_Mo cA mo mo_dr mo_now mo_first mo_has mo_da mo_dl mo_af mo_al mo_sy mo_dg mo_out mo_tx m_ds u2.1 u2.2.1 u2.2.2.1 m_two m_least m_os m_ts m_fs m_fc m_g m_gs m_dr u2.2.2.2.1 u2.2.2.2.2.1 m_has u2.2.2.2.2.2.1 u2.2.2.2.2.2.2 m_af m_al m_sy m_dg m_out m_tx) (va_runV (As := [.int x1]) (rest := []) ⟨hx, hb, hml, hown, htb⟩ (c_M_behind l D cA mo mo_dr mo_now mo_first mo_has mo_da mo_dl mo_af mo_al mo_sy mo_dg mo_out mo_tx m_ds m_st m_sub m_q m_two m_least m_os m_ts m_fs m_fc m_g m_gs m_dr m_now m_first m_has m_da m_dl m_af m_al m_sy m_dg m_out m_tx x1 _ hw _) (ct_cwV 1 htb tw819 rfl rfl tw82 tw816 tw818 tw49 hd_M_behind ⟨by decide, by decide⟩) (ct_preV hP hD hK hN [0, 1, 2, 3, 4, 5, 6, 7, 8, 9, 10, 11, 12] rfl (by decide) 0 rfl rfl _) rfl rfl hl.1 rfl (lv_room (Nat.le_of_ble_eq_true rfl)) d_M_inFraction_104 ⟨Nat.zero_le _, Nat.zero_le _⟩) hP hD hS hA [0, 1, 2, 3, 4, 5, 6, 7, 8, 9, 10, 11, 12] [] [0, 1, 2, 3, 4, 5, 6, 7, 8, 9, 10, 11, 12] rfl rfl (by decide) (by decide) (fun _ => rfl) (by decide) (fun r1 u2 H locs hw hP hD hS => ?_)
        have hP : va_P D vwCl (wd_Mo cA mo mo_dr mo_now mo_first mo_has mo_da mo_dl mo_af mo_al mo_sy mo_dg mo_out mo_tx m_ds u2.1 u2.2.1 u2.2.2.1 m_two m_least m_os m_ts m_fs m_fc m_g m_gs m_dr u2.2.2.2.1 u2.2.2.2.2.1 m_has u2.2.2.2.2.2.1 u2.2.2.2.2.2.2 m_af m_al m_sy m_dg m_out m_tx) H := hP
        have hD : va_D A (wd_Mo cA mo mo_dr mo_now mo_first mo_has mo_da mo_dl mo_af mo_al mo_sy mo_dg mo_out mo_tx m_ds u2.1 u2.2.1 u2.2.2.1 m_two m_least m_os m_ts m_fs m_fc m_g m_gs m_dr u2.2.2.2.1 u2.2.2.2.2.1 m_has u2.2.2.2.2.2.1 u2.2.2.2.2.2.2 m_af m_al m_sy m_dg m_out m_tx) := hD
        exact ct_zret r1 hx hb hr hlk hK hS (u2.1, u2.2.1, u2.2.2.1, u2.2.2.2.1, u2.2.2.2.2.1, u2.2.2.2.2.2.1, u2.2.2.2.2.2.2) hw hP hD d_M_inFraction_107
      · have hw := hw.2 hc
        refine lv_aload_n hx hb d_M_inFraction_95 rfl (lv_at hl 0 rfl) ?_
        refine ct_callz (wn := fun u4 => wd_Mo cA mo mo_dr mo_now mo_first mo_has mo_da mo_dl mo_af mo_al mo_sy mo_dg mo_out mo_tx m_ds u4 m_sub m_q m_two m_least m_os m_ts m_fs m_fc m_g m_gs m_dr m_now m_first m_has m_da m_dl m_af m_al m_sy m_dg m_out m_tx) (va_runV (As := []) (rest := []) ⟨hx, hb, hml, hown, htb⟩ (c_M_power l D cA mo mo_dr mo_now mo_first mo_has mo_da mo_dl mo_af mo_al mo_sy mo_dg mo_out mo_tx m_ds m_st m_sub m_q m_two m_least m_os m_ts m_fs m_fc m_g m_gs m_dr m_now m_first m_has m_da m_dl m_af m_al m_sy m_dg m_out m_tx _ hw _) (ct_cwV 0 htb tw815 rfl rfl tw82 tw812 tw814 tw48 hd_M_power ⟨by decide, by decide⟩) (ct_preV hP hD hK hN [0, 1, 2, 3, 4, 5, 6, 7, 8, 9, 10, 11, 12] rfl (by decide) 0 rfl rfl _) rfl rfl hl.1 rfl (lv_room (Nat.le_of_ble_eq_true rfl)) d_M_inFraction_96 ⟨Nat.zero_le _, Nat.zero_le _⟩) hP hD hS hA [0, 1, 2, 3, 4, 5, 6, 7, 8, 9, 10, 11, 12] [] [0, 1, 2, 3, 4, 5, 6, 7, 8, 9, 10, 11, 12] rfl rfl (by decide) (by decide) (fun _ => rfl) (by decide) (fun r3 u4 H locs hw hP hD hS => ?_)
        have hP : va_P D vwCl (wd_Mo cA mo mo_dr mo_now mo_first mo_has mo_da mo_dl mo_af mo_al mo_sy mo_dg mo_out mo_tx m_ds u4 m_sub m_q m_two m_least m_os m_ts m_fs m_fc m_g m_gs m_dr m_now m_first m_has m_da m_dl m_af m_al m_sy m_dg m_out m_tx) H := hP
        have hD : va_D A (wd_Mo cA mo mo_dr mo_now mo_first mo_has mo_da mo_dl mo_af mo_al mo_sy mo_dg mo_out mo_tx m_ds u4 m_sub m_q m_two m_least m_os m_ts m_fs m_fc m_g m_gs m_dr m_now m_first m_has m_da m_dl m_af m_al m_sy m_dg m_out m_tx) := hD
        refine lv_goto (tgt := 107) hx hb d_M_inFraction_99 rfl ?_
        exact ct_zret r3 hx hb hr hlk hK hS (u4, m_sub, m_q, m_now, m_first, m_da, m_dl) hw hP hD d_M_inFraction_107
    · have hw := hw.2 hc
      refine lv_iconst (v := 0) hx hb d_M_inFraction_87 (by decide) ?_
      exact ct_zret false hx hb hr hlk hK hS (m_st, m_sub, m_q, m_now, m_first, m_da, m_dl) hw hP hD d_M_inFraction_88
  have hJ310 : ∀ (x1 : Int32) (m_st : Int32) (m_sub : Int32) (m_q : Int32) (m_now : Nat → Int32) (m_first : Nat → Int32) (m_da : Nat → Int32) (m_dl : Nat → Int32) (H : Heap) (locs : List Loc) (ls : Array Slot), lv_has ls 3 [(0, .ref mo), (1, .int x1)] → va_P D vwCl (wd_Mo cA mo mo_dr mo_now mo_first mo_has mo_da mo_dl mo_af mo_al mo_sy mo_dg mo_out mo_tx m_ds m_st m_sub m_q m_two m_least m_os m_ts m_fs m_fc m_g m_gs m_dr m_now m_first m_has m_da m_dl m_af m_al m_sy m_dg m_out m_tx) H → va_D A (wd_Mo cA mo mo_dr mo_now mo_first mo_has mo_da mo_dl mo_af mo_al mo_sy mo_dg mo_out mo_tx m_ds m_st m_sub m_q m_two m_least m_os m_ts m_fs m_fc m_g m_gs m_dr m_now m_first m_has m_da m_dl m_af m_al m_sy m_dg m_out m_tx) → va_S A s.heap H locs → wp_M_inFraction_J310 x1 m_st m_sub m_q m_now m_first m_da m_dl Q → W p l e { frames := 3, cells := 0, slots := 0, locals := 66 } s m args below meth c H locs 0 0 (MQ below (ct_qz vwCl D [(cA, .int)] Q (fun u => wd_Mo cA mo mo_dr mo_now mo_first mo_has mo_da mo_dl mo_af mo_al mo_sy mo_dg mo_out mo_tx m_ds u.1 u.2.1 u.2.2.1 m_two m_least m_os m_ts m_fs m_fc m_g m_gs m_dr u.2.2.2.1 u.2.2.2.2.1 m_has u.2.2.2.2.2.1 u.2.2.2.2.2.2 m_af m_al m_sy m_dg m_out m_tx) A) args s 0 0 A) (F0 m 31 ls []) := by
    intro x1 m_st m_sub m_q m_now m_first m_da m_dl H locs ls hl hP hD hS hw
    unfold wp_M_inFraction_J310 at hw
    refine lv_aload_n hx hb d_M_inFraction_31 rfl (lv_at hl 0 rfl) ?_
    refine va_get (ci := 9) (C := R_Mo) (T := F_Mo) (N := 24) hx hb htb in_Mo hown hK hP 0 rfl rfl 5 (by decide) (htb _ tw701) (fun _ h9 => h9) rfl d_M_inFraction_32 ?_
    refine lv_iconst (v := 2) hx hb d_M_inFraction_35 (by decide) ?_
    refine lv_dup2_11 hx hb d_M_inFraction_36 rfl rfl ?_
    have hi := hw.1
    have hw := hw.2
    refine va_iald hx hb hK hP 2 0 rfl rfl hi d_M_inFraction_37 ?_
    refine lv_iconst (v := 1) hx hb d_M_inFraction_38 (by decide) ?_
    refine lv_iadd hx hb d_M_inFraction_39 ?_
    have hi := hw.1
    have hw := hw.2
    refine va_iast hx hb hK hP hD hS 2 0 rfl rfl hi d_M_inFraction_40 (fun H locs hP hD hS => ?_)
    have hP : va_P D vwCl (wd_Mo cA mo mo_dr mo_now mo_first mo_has mo_da mo_dl mo_af mo_al mo_sy mo_dg mo_out mo_tx m_ds m_st m_sub m_q m_two m_least m_os m_ts m_fs m_fc m_g m_gs m_dr (upd m_now (2 : Int32).toNatClampNeg ((m_now (2 : Int32).toNatClampNeg) + 1)) m_first m_has m_da m_dl m_af m_al m_sy m_dg m_out m_tx) H := hP
    have hD : va_D A (wd_Mo cA mo mo_dr mo_now mo_first mo_has mo_da mo_dl mo_af mo_al mo_sy mo_dg mo_out mo_tx m_ds m_st m_sub m_q m_two m_least m_os m_ts m_fs m_fc m_g m_gs m_dr (upd m_now (2 : Int32).toNatClampNeg ((m_now (2 : Int32).toNatClampNeg) + 1)) m_first m_has m_da m_dl m_af m_al m_sy m_dg m_out m_tx) := hD
    refine lv_aload_n hx hb d_M_inFraction_41 rfl (lv_at hl 0 rfl) ?_
    refine va_get (ci := 9) (C := R_Mo) (T := F_Mo) (N := 24) hx hb htb in_Mo hown hK hP 0 rfl rfl 5 (by decide) (htb _ tw701) (fun _ h9 => h9) rfl d_M_inFraction_42 ?_
    refine lv_iconst (v := 3) hx hb d_M_inFraction_45 (by decide) ?_
    refine lv_dup2_11 hx hb d_M_inFraction_46 rfl rfl ?_
    have hi := hw.1
    have hw := hw.2
    refine va_iald hx hb hK hP 2 0 rfl rfl hi d_M_inFraction_47 ?_
    refine lv_iload_n hx hb d_M_inFraction_48 rfl (lv_at hl 1 rfl) ?_
    refine lv_bipush (v := 48) hx hb d_M_inFraction_49 (by decide) ?_
    refine lv_icmp_ne (tgt := 58) hx hb d_M_inFraction_51 rfl (fun hc => ?_) (fun hc => ?_)
    · have hw := hw.1 hc
      refine lv_iconst (v := 0) hx hb d_M_inFraction_58 (by decide) ?_
      refine lv_iadd hx hb d_M_inFraction_59 ?_
      have hi := hw.1
      have hw := hw.2
      refine va_iast hx hb hK hP hD hS 2 0 rfl rfl hi d_M_inFraction_60 (fun H locs hP hD hS => ?_)
      have hP : va_P D vwCl (wd_Mo cA mo mo_dr mo_now mo_first mo_has mo_da mo_dl mo_af mo_al mo_sy mo_dg mo_out mo_tx m_ds m_st m_sub m_q m_two m_least m_os m_ts m_fs m_fc m_g m_gs m_dr (upd (upd m_now (2 : Int32).toNatClampNeg ((m_now (2 : Int32).toNatClampNeg) + 1)) (3 : Int32).toNatClampNeg (((upd m_now (2 : Int32).toNatClampNeg ((m_now (2 : Int32).toNatClampNeg) + 1)) (3 : Int32).toNatClampNeg) + 0)) m_first m_has m_da m_dl m_af m_al m_sy m_dg m_out m_tx) H := hP
      have hD : va_D A (wd_Mo cA mo mo_dr mo_now mo_first mo_has mo_da mo_dl mo_af mo_al mo_sy mo_dg mo_out mo_tx m_ds m_st m_sub m_q m_two m_least m_os m_ts m_fs m_fc m_g m_gs m_dr (upd (upd m_now (2 : Int32).toNatClampNeg ((m_now (2 : Int32).toNatClampNeg) + 1)) (3 : Int32).toNatClampNeg (((upd m_now (2 : Int32).toNatClampNeg ((m_now (2 : Int32).toNatClampNeg) + 1)) (3 : Int32).toNatClampNeg) + 0)) m_first m_has m_da m_dl m_af m_al m_sy m_dg m_out m_tx) := hD
      refine lv_aload_n hx hb d_M_inFraction_61 rfl (lv_at hl 0 rfl) ?_
      refine lv_iload_n hx hb d_M_inFraction_62 rfl (lv_at hl 1 rfl) ?_
      refine lv_bipush (v := 48) hx hb d_M_inFraction_63 (by decide) ?_
      refine lv_icmp_ne (tgt := 72) hx hb d_M_inFraction_65 rfl (fun hc => ?_) (fun hc => ?_)
      · have hw := hw.1 hc
        refine lv_bipush (v := 6) hx hb d_M_inFraction_72 (by decide) ?_
        refine va_put (ci := 9) (v := .int 6) (ty := .int) (C := R_Mo) (T := F_Mo) (N := 24) hx hb htb in_Mo t_Mo t_Mo_ok n_Mo hown hK hP hD hS 0 rfl rfl 2 (by decide) (htb _ tw698) (fun _ h9 => h9) rfl (by decide +kernel) rfl rfl (Nat.le_of_ble_eq_true rfl) d_M_inFraction_74 (fun H locs hP hD hS => ?_)
        have hP : va_P D vwCl (wd_Mo cA mo mo_dr mo_now mo_first mo_has mo_da mo_dl mo_af mo_al mo_sy mo_dg mo_out mo_tx m_ds 6 m_sub m_q m_two m_least m_os m_ts m_fs m_fc m_g m_gs m_dr (upd (upd m_now (2 : Int32).toNatClampNeg ((m_now (2 : Int32).toNatClampNeg) + 1)) (3 : Int32).toNatClampNeg (((upd m_now (2 : Int32).toNatClampNeg ((m_now (2 : Int32).toNatClampNeg) + 1)) (3 : Int32).toNatClampNeg) + 0)) m_first m_has m_da m_dl m_af m_al m_sy m_dg m_out m_tx) H := hP
        have hD : va_D A (wd_Mo cA mo mo_dr mo_now mo_first mo_has mo_da mo_dl mo_af mo_al mo_sy mo_dg mo_out mo_tx m_ds 6 m_sub m_q m_two m_least m_os m_ts m_fs m_fc m_g m_gs m_dr (upd (upd m_now (2 : Int32).toNatClampNeg ((m_now (2 : Int32).toNatClampNeg) + 1)) (3 : Int32).toNatClampNeg (((upd m_now (2 : Int32).toNatClampNeg ((m_now (2 : Int32).toNatClampNeg) + 1)) (3 : Int32).toNatClampNeg) + 0)) m_first m_has m_da m_dl m_af m_al m_sy m_dg m_out m_tx) := hD
        refine lv_iconst (v := 1) hx hb d_M_inFraction_77 (by decide) ?_
        exact ct_zret true hx hb hr hlk hK hS (6, m_sub, m_q, upd (upd m_now (2 : Int32).toNatClampNeg ((m_now (2 : Int32).toNatClampNeg) + 1)) (3 : Int32).toNatClampNeg (((upd m_now (2 : Int32).toNatClampNeg ((m_now (2 : Int32).toNatClampNeg) + 1)) (3 : Int32).toNatClampNeg) + 0), m_first, m_da, m_dl) hw hP hD d_M_inFraction_78
      · have hw := hw.2 hc
        refine lv_iconst (v := 5) hx hb d_M_inFraction_68 (by decide) ?_
        refine lv_goto (tgt := 74) hx hb d_M_inFraction_69 rfl ?_
        refine va_put (ci := 9) (v := .int 5) (ty := .int) (C := R_Mo) (T := F_Mo) (N := 24) hx hb htb in_Mo t_Mo t_Mo_ok n_Mo hown hK hP hD hS 0 rfl rfl 2 (by decide) (htb _ tw698) (fun _ h9 => h9) rfl (by decide +kernel) rfl rfl (Nat.le_of_ble_eq_true rfl) d_M_inFraction_74 (fun H locs hP hD hS => ?_)
        have hP : va_P D vwCl (wd_Mo cA mo mo_dr mo_now mo_first mo_has mo_da mo_dl mo_af mo_al mo_sy mo_dg mo_out mo_tx m_ds 5 m_sub m_q m_two m_least m_os m_ts m_fs m_fc m_g m_gs m_dr (upd (upd m_now (2 : Int32).toNatClampNeg ((m_now (2 : Int32).toNatClampNeg) + 1)) (3 : Int32).toNatClampNeg (((upd m_now (2 : Int32).toNatClampNeg ((m_now (2 : Int32).toNatClampNeg) + 1)) (3 : Int32).toNatClampNeg) + 0)) m_first m_has m_da m_dl m_af m_al m_sy m_dg m_out m_tx) H := hP
        have hD : va_D A (wd_Mo cA mo mo_dr mo_now mo_first mo_has mo_da mo_dl mo_af mo_al mo_sy mo_dg mo_out mo_tx m_ds 5 m_sub m_q m_two m_least m_os m_ts m_fs m_fc m_g m_gs m_dr (upd (upd m_now (2 : Int32).toNatClampNeg ((m_now (2 : Int32).toNatClampNeg) + 1)) (3 : Int32).toNatClampNeg (((upd m_now (2 : Int32).toNatClampNeg ((m_now (2 : Int32).toNatClampNeg) + 1)) (3 : Int32).toNatClampNeg) + 0)) m_first m_has m_da m_dl m_af m_al m_sy m_dg m_out m_tx) := hD
        refine lv_iconst (v := 1) hx hb d_M_inFraction_77 (by decide) ?_
        exact ct_zret true hx hb hr hlk hK hS (5, m_sub, m_q, upd (upd m_now (2 : Int32).toNatClampNeg ((m_now (2 : Int32).toNatClampNeg) + 1)) (3 : Int32).toNatClampNeg (((upd m_now (2 : Int32).toNatClampNeg ((m_now (2 : Int32).toNatClampNeg) + 1)) (3 : Int32).toNatClampNeg) + 0), m_first, m_da, m_dl) hw hP hD d_M_inFraction_78
    · have hw := hw.2 hc
      refine lv_iconst (v := 1) hx hb d_M_inFraction_54 (by decide) ?_
      refine lv_goto (tgt := 59) hx hb d_M_inFraction_55 rfl ?_
      refine lv_iadd hx hb d_M_inFraction_59 ?_
      have hi := hw.1
      have hw := hw.2
      refine va_iast hx hb hK hP hD hS 2 0 rfl rfl hi d_M_inFraction_60 (fun H locs hP hD hS => ?_)
      have hP : va_P D vwCl (wd_Mo cA mo mo_dr mo_now mo_first mo_has mo_da mo_dl mo_af mo_al mo_sy mo_dg mo_out mo_tx m_ds m_st m_sub m_q m_two m_least m_os m_ts m_fs m_fc m_g m_gs m_dr (upd (upd m_now (2 : Int32).toNatClampNeg ((m_now (2 : Int32).toNatClampNeg) + 1)) (3 : Int32).toNatClampNeg (((upd m_now (2 : Int32).toNatClampNeg ((m_now (2 : Int32).toNatClampNeg) + 1)) (3 : Int32).toNatClampNeg) + 1)) m_first m_has m_da m_dl m_af m_al m_sy m_dg m_out m_tx) H := hP
      have hD : va_D A (wd_Mo cA mo mo_dr mo_now mo_first mo_has mo_da mo_dl mo_af mo_al mo_sy mo_dg mo_out mo_tx m_ds m_st m_sub m_q m_two m_least m_os m_ts m_fs m_fc m_g m_gs m_dr (upd (upd m_now (2 : Int32).toNatClampNeg ((m_now (2 : Int32).toNatClampNeg) + 1)) (3 : Int32).toNatClampNeg (((upd m_now (2 : Int32).toNatClampNeg ((m_now (2 : Int32).toNatClampNeg) + 1)) (3 : Int32).toNatClampNeg) + 1)) m_first m_has m_da m_dl m_af m_al m_sy m_dg m_out m_tx) := hD
      refine lv_aload_n hx hb d_M_inFraction_61 rfl (lv_at hl 0 rfl) ?_
      refine lv_iload_n hx hb d_M_inFraction_62 rfl (lv_at hl 1 rfl) ?_
      refine lv_bipush (v := 48) hx hb d_M_inFraction_63 (by decide) ?_
      refine lv_icmp_ne (tgt := 72) hx hb d_M_inFraction_65 rfl (fun hc => ?_) (fun hc => ?_)
      · have hw := hw.1 hc
        refine lv_bipush (v := 6) hx hb d_M_inFraction_72 (by decide) ?_
        refine va_put (ci := 9) (v := .int 6) (ty := .int) (C := R_Mo) (T := F_Mo) (N := 24) hx hb htb in_Mo t_Mo t_Mo_ok n_Mo hown hK hP hD hS 0 rfl rfl 2 (by decide) (htb _ tw698) (fun _ h9 => h9) rfl (by decide +kernel) rfl rfl (Nat.le_of_ble_eq_true rfl) d_M_inFraction_74 (fun H locs hP hD hS => ?_)
        have hP : va_P D vwCl (wd_Mo cA mo mo_dr mo_now mo_first mo_has mo_da mo_dl mo_af mo_al mo_sy mo_dg mo_out mo_tx m_ds 6 m_sub m_q m_two m_least m_os m_ts m_fs m_fc m_g m_gs m_dr (upd (upd m_now (2 : Int32).toNatClampNeg ((m_now (2 : Int32).toNatClampNeg) + 1)) (3 : Int32).toNatClampNeg (((upd m_now (2 : Int32).toNatClampNeg ((m_now (2 : Int32).toNatClampNeg) + 1)) (3 : Int32).toNatClampNeg) + 1)) m_first m_has m_da m_dl m_af m_al m_sy m_dg m_out m_tx) H := hP
        have hD : va_D A (wd_Mo cA mo mo_dr mo_now mo_first mo_has mo_da mo_dl mo_af mo_al mo_sy mo_dg mo_out mo_tx m_ds 6 m_sub m_q m_two m_least m_os m_ts m_fs m_fc m_g m_gs m_dr (upd (upd m_now (2 : Int32).toNatClampNeg ((m_now (2 : Int32).toNatClampNeg) + 1)) (3 : Int32).toNatClampNeg (((upd m_now (2 : Int32).toNatClampNeg ((m_now (2 : Int32).toNatClampNeg) + 1)) (3 : Int32).toNatClampNeg) + 1)) m_first m_has m_da m_dl m_af m_al m_sy m_dg m_out m_tx) := hD
        refine lv_iconst (v := 1) hx hb d_M_inFraction_77 (by decide) ?_
        exact ct_zret true hx hb hr hlk hK hS (6, m_sub, m_q, upd (upd m_now (2 : Int32).toNatClampNeg ((m_now (2 : Int32).toNatClampNeg) + 1)) (3 : Int32).toNatClampNeg (((upd m_now (2 : Int32).toNatClampNeg ((m_now (2 : Int32).toNatClampNeg) + 1)) (3 : Int32).toNatClampNeg) + 1), m_first, m_da, m_dl) hw hP hD d_M_inFraction_78
      · have hw := hw.2 hc
        refine lv_iconst (v := 5) hx hb d_M_inFraction_68 (by decide) ?_
        refine lv_goto (tgt := 74) hx hb d_M_inFraction_69 rfl ?_
        refine va_put (ci := 9) (v := .int 5) (ty := .int) (C := R_Mo) (T := F_Mo) (N := 24) hx hb htb in_Mo t_Mo t_Mo_ok n_Mo hown hK hP hD hS 0 rfl rfl 2 (by decide) (htb _ tw698) (fun _ h9 => h9) rfl (by decide +kernel) rfl rfl (Nat.le_of_ble_eq_true rfl) d_M_inFraction_74 (fun H locs hP hD hS => ?_)
        have hP : va_P D vwCl (wd_Mo cA mo mo_dr mo_now mo_first mo_has mo_da mo_dl mo_af mo_al mo_sy mo_dg mo_out mo_tx m_ds 5 m_sub m_q m_two m_least m_os m_ts m_fs m_fc m_g m_gs m_dr (upd (upd m_now (2 : Int32).toNatClampNeg ((m_now (2 : Int32).toNatClampNeg) + 1)) (3 : Int32).toNatClampNeg (((upd m_now (2 : Int32).toNatClampNeg ((m_now (2 : Int32).toNatClampNeg) + 1)) (3 : Int32).toNatClampNeg) + 1)) m_first m_has m_da m_dl m_af m_al m_sy m_dg m_out m_tx) H := hP
        have hD : va_D A (wd_Mo cA mo mo_dr mo_now mo_first mo_has mo_da mo_dl mo_af mo_al mo_sy mo_dg mo_out mo_tx m_ds 5 m_sub m_q m_two m_least m_os m_ts m_fs m_fc m_g m_gs m_dr (upd (upd m_now (2 : Int32).toNatClampNeg ((m_now (2 : Int32).toNatClampNeg) + 1)) (3 : Int32).toNatClampNeg (((upd m_now (2 : Int32).toNatClampNeg ((m_now (2 : Int32).toNatClampNeg) + 1)) (3 : Int32).toNatClampNeg) + 1)) m_first m_has m_da m_dl m_af m_al m_sy m_dg m_out m_tx) := hD
        refine lv_iconst (v := 1) hx hb d_M_inFraction_77 (by decide) ?_
        exact ct_zret true hx hb hr hlk hK hS (5, m_sub, m_q, upd (upd m_now (2 : Int32).toNatClampNeg ((m_now (2 : Int32).toNatClampNeg) + 1)) (3 : Int32).toNatClampNeg (((upd m_now (2 : Int32).toNatClampNeg ((m_now (2 : Int32).toNatClampNeg) + 1)) (3 : Int32).toNatClampNeg) + 1), m_first, m_da, m_dl) hw hP hD d_M_inFraction_78
  have hJ140 : ∀ (x1 : Int32) (y0 : Bool) (m_st : Int32) (m_sub : Int32) (m_q : Int32) (m_now : Nat → Int32) (m_first : Nat → Int32) (m_da : Nat → Int32) (m_dl : Nat → Int32) (H : Heap) (locs : List Loc) (ls : Array Slot), lv_has ls 3 [(0, .ref mo), (1, .int x1)] → va_P D vwCl (wd_Mo cA mo mo_dr mo_now mo_first mo_has mo_da mo_dl mo_af mo_al mo_sy mo_dg mo_out mo_tx m_ds m_st m_sub m_q m_two m_least m_os m_ts m_fs m_fc m_g m_gs m_dr m_now m_first m_has m_da m_dl m_af m_al m_sy m_dg m_out m_tx) H → va_D A (wd_Mo cA mo mo_dr mo_now mo_first mo_has mo_da mo_dl mo_af mo_al mo_sy mo_dg mo_out mo_tx m_ds m_st m_sub m_q m_two m_least m_os m_ts m_fs m_fc m_g m_gs m_dr m_now m_first m_has m_da m_dl m_af m_al m_sy m_dg m_out m_tx) → va_S A s.heap H locs → wp_M_inFraction_J140 x1 y0 m_st m_sub m_q m_now m_first m_da m_dl Q → W p l e { frames := 3, cells := 0, slots := 0, locals := 66 } s m args below meth c H locs 0 0 (MQ below (ct_qz vwCl D [(cA, .int)] Q (fun u => wd_Mo cA mo mo_dr mo_now mo_first mo_has mo_da mo_dl mo_af mo_al mo_sy mo_dg mo_out mo_tx m_ds u.1 u.2.1 u.2.2.1 m_two m_least m_os m_ts m_fs m_fc m_g m_gs m_dr u.2.2.2.1 u.2.2.2.2.1 m_has u.2.2.2.2.2.1 u.2.2.2.2.2.2 m_af m_al m_sy m_dg m_out m_tx) A) args s 0 0 A) (F0 m 14 ls [.int (bI y0)]) := by
    intro x1 y0 m_st m_sub m_q m_now m_first m_da m_dl H locs ls hl hP hD hS hw
    unfold wp_M_inFraction_J140 at hw
    refine lv_istore_n (lv' := [(2, .int (bI y0)), (0, .ref mo), (1, .int x1)]) hx hb d_M_inFraction_14 rfl hl (by decide) rfl (fun ls hl => ?_)
    refine lv_iload_n hx hb d_M_inFraction_15 rfl (lv_at hl 2 rfl) ?_
    refine lv_bipush (v := 35) hx hb d_M_inFraction_16 (by decide) ?_
    refine lv_icmp_eq (tgt := 31) hx hb d_M_inFraction_18 rfl (fun hc => ?_) (fun hc => ?_)
    · have hw := hw.1 hc
      exact hJ310 x1 m_st m_sub m_q m_now m_first m_da m_dl _ _ _ (lv_sub hl [1, 2] rfl) hP hD hS hw
    · have hw := hw.2 hc
      refine lv_iload_n hx hb d_M_inFraction_21 rfl (lv_at hl 2 rfl) ?_
      refine lv_bipush (v := 48) hx hb d_M_inFraction_22 (by decide) ?_
      refine lv_icmp_ne (tgt := 79) hx hb d_M_inFraction_24 rfl (fun hc => ?_) (fun hc => ?_)
      · have hw := hw.1 hc
        exact hJ790 x1 m_st m_sub m_q m_now m_first m_da m_dl _ _ _ (lv_sub hl [1, 2] rfl) hP hD hS hw
      · have hw := hw.2 hc
        refine lv_iload_n hx hb d_M_inFraction_27 rfl (lv_at hl 0 rfl) ?_
        refine lv_if_eq (tgt := 79) hx hb d_M_inFraction_28 rfl (fun hc => ?_) (fun hc => ?_)
        · have hw := hw.1 ((bI_0 _).mp hc)
          exact hJ790 x1 m_st m_sub m_q m_now m_first m_da m_dl _ _ _ (lv_sub hl [1, 2] rfl) hP hD hS hw
        · have hw := hw.2 ((bI_n0 _).mp hc)
          exact hJ310 x1 m_st m_sub m_q m_now m_first m_da m_dl _ _ _ (lv_sub hl [1, 2] rfl) hP hD hS hw
  refine lv_aload_n hx hb d_M_inFraction_0 rfl (lv_at hl 0 rfl) ?_
  refine va_get (ci := 9) (C := R_Mo) (T := F_Mo) (N := 24) hx hb htb in_Mo hown hK hP 0 rfl rfl 2 (by decide) (htb _ tw698) (fun _ h9 => h9) rfl d_M_inFraction_1 ?_
  refine lv_bipush (v := 6) hx hb d_M_inFraction_4 (by decide) ?_
  refine lv_icmp_eq (tgt := 13) hx hb d_M_inFraction_6 rfl (fun hc => ?_) (fun hc => ?_)
  · have hw := hw.1 hc
    refine lv_iconst (v := 0) hx hb d_M_inFraction_13 (by decide) ?_
    exact hJ140 cd false m_st m_sub m_q m_now m_first m_da m_dl _ _ _ (lv_sub hl [0, 1] rfl) hP hD hS hw
  · have hw := hw.2 hc
    refine lv_iconst (v := 1) hx hb d_M_inFraction_9 (by decide) ?_
    refine lv_goto (tgt := 14) hx hb d_M_inFraction_10 rfl ?_
    exact hJ140 cd true m_st m_sub m_q m_now m_first m_da m_dl _ _ _ (lv_sub hl [0, 1] rfl) hP hD hS hw
/-! DecimalPatternsModel.step(I)Z -/
def wp_M_step_J2220 (x1 : Int32) (m_st : Int32) (m_sub : Int32) (m_q : Int32) (m_now : Nat → Int32) (m_first : Nat → Int32) (m_da : Nat → Int32) (m_dl : Nat → Int32) (Q : Bool → (Int32 × Int32 × Int32 × (Nat → Int32) × (Nat → Int32) × (Nat → Int32) × (Nat → Int32)) → Prop) : Prop := vp_in (4 : Int32) 9 ∧ (vp_in (4 : Int32) 9 ∧ ((¬ x1 = 48 → (Q false (9, m_sub, m_q, upd m_now (4 : Int32).toNatClampNeg ((m_now (4 : Int32).toNatClampNeg) + 1), m_first, m_da, m_dl))) ∧ (x1 = 48 → (Q true (9, m_sub, m_q, upd m_now (4 : Int32).toNatClampNeg ((m_now (4 : Int32).toNatClampNeg) + 1), m_first, m_da, m_dl)))))
def wp_M_step_J1920 (x1 : Int32) (m_st : Int32) (m_sub : Int32) (m_q : Int32) (m_now : Nat → Int32) (m_first : Nat → Int32) (m_da : Nat → Int32) (m_dl : Nat → Int32) (Q : Bool → (Int32 × Int32 × Int32 × (Nat → Int32) × (Nat → Int32) × (Nat → Int32) × (Nat → Int32)) → Prop) : Prop := (m_st = 10 → (wp_M_behind m_st m_sub m_q m_now m_first m_da m_dl x1 (fun r27 u28 => Q r27 (u28.1, u28.2.1, u28.2.2.1, u28.2.2.2.1, u28.2.2.2.2.1, u28.2.2.2.2.2.1, u28.2.2.2.2.2.2)))) ∧ (¬ m_st = 10 → ((¬ m_st = 9 → (wp_M_step_J2220 x1 m_st m_sub m_q m_now m_first m_da m_dl Q)) ∧ (m_st = 9 → ((x1 = 48 → (wp_M_step_J2220 x1 m_st m_sub m_q m_now m_first m_da m_dl Q)) ∧ (¬ x1 = 48 → (wp_M_behind m_st m_sub m_q m_now m_first m_da m_dl x1 (fun r29 u30 => Q r29 (u30.1, u30.2.1, u30.2.2.1, u30.2.2.2.1, u30.2.2.2.2.1, u30.2.2.2.2.2.1, u30.2.2.2.2.2.2))))))))
def wp_M_step (m_st : Int32) (m_sub : Int32) (m_q : Int32) (m_now : Nat → Int32) (m_first : Nat → Int32) (m_da : Nat → Int32) (m_dl : Nat → Int32) (cd : Int32) (Q : Bool → (Int32 × Int32 × Int32 × (Nat → Int32) × (Nat → Int32) × (Nat → Int32) × (Nat → Int32)) → Prop) : Prop := (¬ m_st = 0 → ((m_st = 1 → ((¬ m_st = 1 → (wp_M_inQuote m_st m_sub m_q m_da m_dl cd 10 (fun u2 => Q true (u2.1, m_sub, u2.2.1, m_now, m_first, u2.2.2.1, u2.2.2.2)))) ∧ (m_st = 1 → (wp_M_inQuote m_st m_sub m_q m_da m_dl cd 0 (fun u4 => Q true (u4.1, m_sub, u4.2.1, m_now, m_first, u4.2.2.1, u4.2.2.2)))))) ∧ (¬ m_st = 1 → ((¬ m_st = 11 → ((¬ m_st = 2 → ((¬ m_st = 3 → ((m_st = 4 → (wp_M_inFraction m_st m_sub m_q m_now m_first m_da m_dl cd (fun r5 u6 => Q r5 (u6.1, u6.2.1, u6.2.2.1, u6.2.2.2.1, u6.2.2.2.2.1, u6.2.2.2.2.2.1, u6.2.2.2.2.2.2)))) ∧ (¬ m_st = 4 → ((m_st = 5 → (wp_M_inFraction m_st m_sub m_q m_now m_first m_da m_dl cd (fun r7 u8 => Q r7 (u8.1, u8.2.1, u8.2.2.1, u8.2.2.2.1, u8.2.2.2.2.1, u8.2.2.2.2.2.1, u8.2.2.2.2.2.2)))) ∧ (¬ m_st = 5 → ((¬ m_st = 6 → ((¬ m_st = 7 → (wp_M_step_J1920 cd m_st m_sub m_q m_now m_first m_da m_dl Q)) ∧ (m_st = 7 → ((¬ cd = 43 → (wp_M_step_J1920 cd m_st m_sub m_q m_now m_first m_da m_dl Q)) ∧ (cd = 43 → (vp_in (5 : Int32) 9 ∧ (Q true (8, m_sub, m_q, upd m_now (5 : Int32).toNatClampNeg 1, m_first, m_da, m_dl)))))))) ∧ (m_st = 6 → (wp_M_inFraction m_st m_sub m_q m_now m_first m_da m_dl cd (fun r9 u10 => Q r9 (u10.1, u10.2.1, u10.2.2.1, u10.2.2.2.1, u10.2.2.2.2.1, u10.2.2.2.2.2.1, u10.2.2.2.2.2.2)))))))))) ∧ (m_st = 3 → ((cd = 35 → (wp_M_integerDigit m_st m_now cd (fun r11 u12 => (r11 = false → (Q false (u12.1, m_sub, m_q, u12.2, m_first, m_da, m_dl))) ∧ (r11 = true → (Q true (u12.1, m_sub, m_q, u12.2, m_first, m_da, m_dl)))))) ∧ (¬ cd = 35 → ((¬ cd = 48 → (Q false (m_st, m_sub, m_q, m_now, m_first, m_da, m_dl))) ∧ (cd = 48 → (wp_M_integerDigit m_st m_now cd (fun r13 u14 => (r13 = false → (Q false (u14.1, m_sub, m_q, u14.2, m_first, m_da, m_dl))) ∧ (r13 = true → (Q true (u14.1, m_sub, m_q, u14.2, m_first, m_da, m_dl)))))))))))) ∧ (m_st = 2 → (wp_M_inNumber m_st m_sub m_q m_now m_first m_da m_dl cd (fun r15 u16 => Q r15 (u16.1, u16.2.1, u16.2.2.1, u16.2.2.2.1, u16.2.2.2.2.1, u16.2.2.2.2.2.1, u16.2.2.2.2.2.2)))))) ∧ (m_st = 11 → ((¬ m_st = 1 → (wp_M_inQuote m_st m_sub m_q m_da m_dl cd 10 (fun u18 => Q true (u18.1, m_sub, u18.2.1, m_now, m_first, u18.2.2.1, u18.2.2.2)))) ∧ (m_st = 1 → (wp_M_inQuote m_st m_sub m_q m_da m_dl cd 0 (fun u20 => Q true (u20.1, m_sub, u20.2.1, m_now, m_first, u20.2.2.1, u20.2.2.2)))))))))) ∧ (m_st = 0 → ((cd = 35 → (wp_M_integerDigit m_st m_now cd (fun r21 u22 => Q r21 (u22.1, m_sub, m_q, u22.2, m_first, m_da, m_dl)))) ∧ (¬ cd = 35 → ((¬ cd = 48 → ((¬ cd = 46 → (wp_M_plainAffix m_st m_sub m_q m_da m_dl cd 1 (fun r23 u24 => Q r23 (u24.1, m_sub, u24.2.1, m_now, m_first, u24.2.2.1, u24.2.2.2)))) ∧ (cd = 46 → (Q true (4, m_sub, m_q, m_now, m_first, m_da, m_dl))))) ∧ (cd = 48 → (wp_M_integerDigit m_st m_now cd (fun r25 u26 => Q r25 (u26.1, m_sub, m_q, u26.2, m_first, m_da, m_dl))))))))
set_option maxHeartbeats 4000000 in
set_option maxRecDepth 100000 in
theorem c_M_step (l : Launch) (D : va_G) (cA : ClassId) (mo mo_dr mo_now mo_first mo_has mo_da mo_dl mo_af mo_al mo_sy mo_dg mo_out mo_tx : Nat) (m_ds : Int32) (m_st : Int32) (m_sub : Int32) (m_q : Int32) (m_two : Bool) (m_least : Int32) (m_os : Int32) (m_ts : Int32) (m_fs : Int64) (m_fc : Int32) (m_g : Int64) (m_gs : Int32) (m_dr : Nat → Int32) (m_now : Nat → Int32) (m_first : Nat → Int32) (m_has : Nat → Int32) (m_da : Nat → Int32) (m_dl : Nat → Int32) (m_af : Nat → Int32) (m_al : Nat → Int32) (m_sy : Nat → Int32) (m_dg : Nat → Int32) (m_out : Nat → Int32) (m_tx : Nat → Int32) (cd : Int32) (Q : Bool → (Int32 × Int32 × Int32 × (Nat → Int32) × (Nat → Int32) × (Nat → Int32) × (Nat → Int32)) → Prop) (hw : wp_M_step m_st m_sub m_q m_now m_first m_da m_dl cd Q) : ct_M vwCl l D [(cA, .int)] y_M_step w_M_step { frames := 4, cells := 0, slots := 0, locals := 88 } [.ref mo, .int cd] (wd_Mo cA mo mo_dr mo_now mo_first mo_has mo_da mo_dl mo_af mo_al mo_sy mo_dg mo_out mo_tx m_ds m_st m_sub m_q m_two m_least m_os m_ts m_fs m_fc m_g m_gs m_dr m_now m_first m_has m_da m_dl m_af m_al m_sy m_dg m_out m_tx) (ct_qz vwCl D [(cA, .int)] Q (fun u => wd_Mo cA mo mo_dr mo_now mo_first mo_has mo_da mo_dl mo_af mo_al mo_sy mo_dg mo_out mo_tx m_ds u.1 u.2.1 u.2.2.1 m_two m_least m_os m_ts m_fs m_fc m_g m_gs m_dr u.2.2.2.1 u.2.2.2.2.1 m_has u.2.2.2.2.2.1 u.2.2.2.2.2.2 m_af m_al m_sy m_dg m_out m_tx)) := by
  refine ct_enter (cc := b_M_step) (maxL := 2) (ret := (some .boolean)) (by decide) rfl (Nat.le_of_ble_eq_true rfl) ?_
  intro p e s m args below meth c A ls hx hb hr hlk hml hts hown hA hS hP hK hN hD hl
  have hl : lv_has ls 2 [(0, .ref mo), (1, .int cd)] := hl
  have htb : ∀ w ∈ tbl, w.before args s = true := fun w h => hts w (List.mem_cons_of_mem _ h)
  have hown : s.vm.findClass "DecimalPatternsModel" = some m.cls := hown
  unfold wp_M_step at hw
  have hJ2220 : ∀ (x1 : Int32) (m_st : Int32) (m_sub : Int32) (m_q : Int32) (m_now : Nat → Int32) (m_first : Nat → Int32) (m_da : Nat → Int32) (m_dl : Nat → Int32) (H : Heap) (locs : List Loc) (ls : Array Slot), lv_has ls 2 [(0, .ref mo), (1, .int x1)] → va_P D vwCl (wd_Mo cA mo mo_dr mo_now mo_first mo_has mo_da mo_dl mo_af mo_al mo_sy mo_dg mo_out mo_tx m_ds m_st m_sub m_q m_two m_least m_os m_ts m_fs m_fc m_g m_gs m_dr m_now m_first m_has m_da m_dl m_af m_al m_sy m_dg m_out m_tx) H → va_D A (wd_Mo cA mo mo_dr mo_now mo_first mo_has mo_da mo_dl mo_af mo_al mo_sy mo_dg mo_out mo_tx m_ds m_st m_sub m_q m_two m_least m_os m_ts m_fs m_fc m_g m_gs m_dr m_now m_first m_has m_da m_dl m_af m_al m_sy m_dg m_out m_tx) → va_S A s.heap H locs → wp_M_step_J2220 x1 m_st m_sub m_q m_now m_first m_da m_dl Q → W p l e { frames := 4, cells := 0, slots := 0, locals := 88 } s m args below meth c H locs 0 0 (MQ below (ct_qz vwCl D [(cA, .int)] Q (fun u => wd_Mo cA mo mo_dr mo_now mo_first mo_has mo_da mo_dl mo_af mo_al mo_sy mo_dg mo_out mo_tx m_ds u.1 u.2.1 u.2.2.1 m_two m_least m_os m_ts m_fs m_fc m_g m_gs m_dr u.2.2.2.1 u.2.2.2.2.1 m_has u.2.2.2.2.2.1 u.2.2.2.2.2.2 m_af m_al m_sy m_dg m_out m_tx) A) args s 0 0 A) (F0 m 222 ls []) := by
    intro x1 m_st m_sub m_q m_now m_first m_da m_dl H locs ls hl hP hD hS hw
    unfold wp_M_step_J2220 at hw
    refine lv_aload_n hx hb d_M_step_222 rfl (lv_at hl 0 rfl) ?_
    refine va_get (ci := 9) (C := R_Mo) (T := F_Mo) (N := 24) hx hb htb in_Mo hown hK hP 0 rfl rfl 5 (by decide) (htb _ tw701) (fun _ h9 => h9) rfl d_M_step_223 ?_
    refine lv_iconst (v := 4) hx hb d_M_step_226 (by decide) ?_
    refine lv_dup2_11 hx hb d_M_step_227 rfl rfl ?_
    have hi := hw.1
    have hw := hw.2
    refine va_iald hx hb hK hP 2 0 rfl rfl hi d_M_step_228 ?_
    refine lv_iconst (v := 1) hx hb d_M_step_229 (by decide) ?_
    refine lv_iadd hx hb d_M_step_230 ?_
    have hi := hw.1
    have hw := hw.2
    refine va_iast hx hb hK hP hD hS 2 0 rfl rfl hi d_M_step_231 (fun H locs hP hD hS => ?_)
    have hP : va_P D vwCl (wd_Mo cA mo mo_dr mo_now mo_first mo_has mo_da mo_dl mo_af mo_al mo_sy mo_dg mo_out mo_tx m_ds m_st m_sub m_q m_two m_least m_os m_ts m_fs m_fc m_g m_gs m_dr (upd m_now (4 : Int32).toNatClampNeg ((m_now (4 : Int32).toNatClampNeg) + 1)) m_first m_has m_da m_dl m_af m_al m_sy m_dg m_out m_tx) H := hP
    have hD : va_D A (wd_Mo cA mo mo_dr mo_now mo_first mo_has mo_da mo_dl mo_af mo_al mo_sy mo_dg mo_out mo_tx m_ds m_st m_sub m_q m_two m_least m_os m_ts m_fs m_fc m_g m_gs m_dr (upd m_now (4 : Int32).toNatClampNeg ((m_now (4 : Int32).toNatClampNeg) + 1)) m_first m_has m_da m_dl m_af m_al m_sy m_dg m_out m_tx) := hD
    refine lv_aload_n hx hb d_M_step_232 rfl (lv_at hl 0 rfl) ?_
    refine lv_bipush (v := 9) hx hb d_M_step_233 (by decide) ?_
    refine va_put (ci := 9) (v := .int 9) (ty := .int) (C := R_Mo) (T := F_Mo) (N := 24) hx hb htb in_Mo t_Mo t_Mo_ok n_Mo hown hK hP hD hS 0 rfl rfl 2 (by decide) (htb _ tw698) (fun _ h9 => h9) rfl (by decide +kernel) rfl rfl (Nat.le_of_ble_eq_true rfl) d_M_step_235 (fun H locs hP hD hS => ?_)
    have hP : va_P D vwCl (wd_Mo cA mo mo_dr mo_now mo_first mo_has mo_da mo_dl mo_af mo_al mo_sy mo_dg mo_out mo_tx m_ds 9 m_sub m_q m_two m_least m_os m_ts m_fs m_fc m_g m_gs m_dr (upd m_now (4 : Int32).toNatClampNeg ((m_now (4 : Int32).toNatClampNeg) + 1)) m_first m_has m_da m_dl m_af m_al m_sy m_dg m_out m_tx) H := hP
    have hD : va_D A (wd_Mo cA mo mo_dr mo_now mo_first mo_has mo_da mo_dl mo_af mo_al mo_sy mo_dg mo_out mo_tx m_ds 9 m_sub m_q m_two m_least m_os m_ts m_fs m_fc m_g m_gs m_dr (upd m_now (4 : Int32).toNatClampNeg ((m_now (4 : Int32).toNatClampNeg) + 1)) m_first m_has m_da m_dl m_af m_al m_sy m_dg m_out m_tx) := hD
    refine lv_iload_n hx hb d_M_step_238 rfl (lv_at hl 1 rfl) ?_
    refine lv_bipush (v := 48) hx hb d_M_step_239 (by decide) ?_
    refine lv_icmp_ne (tgt := 248) hx hb d_M_step_241 rfl (fun hc => ?_) (fun hc => ?_)
    · have hw := hw.1 hc
      refine lv_iconst (v := 0) hx hb d_M_step_248 (by decide) ?_
      exact ct_zret false hx hb hr hlk hK hS (9, m_sub, m_q, upd m_now (4 : Int32).toNatClampNeg ((m_now (4 : Int32).toNatClampNeg) + 1), m_first, m_da, m_dl) hw hP hD d_M_step_249
    · have hw := hw.2 hc
      refine lv_iconst (v := 1) hx hb d_M_step_244 (by decide) ?_
      refine lv_goto (tgt := 249) hx hb d_M_step_245 rfl ?_
      exact ct_zret true hx hb hr hlk hK hS (9, m_sub, m_q, upd m_now (4 : Int32).toNatClampNeg ((m_now (4 : Int32).toNatClampNeg) + 1), m_first, m_da, m_dl) hw hP hD d_M_step_249
  have hJ1920 : ∀ (x1 : Int32) (m_st : Int32) (m_sub : Int32) (m_q : Int32) (m_now : Nat → Int32) (m_first : Nat → Int32) (m_da : Nat → Int32) (m_dl : Nat → Int32) (H : Heap) (locs : List Loc) (ls : Array Slot), lv_has ls 2 [(0, .ref mo), (1, .int x1)] → va_P D vwCl (wd_Mo cA mo mo_dr mo_now mo_first mo_has mo_da mo_dl mo_af mo_al mo_sy mo_dg mo_out mo_tx m_ds m_st m_sub m_q m_two m_least m_os m_ts m_fs m_fc m_g m_gs m_dr m_now m_first m_has m_da m_dl m_af m_al m_sy m_dg m_out m_tx) H → va_D A (wd_Mo cA mo mo_dr mo_now mo_first mo_has mo_da mo_dl mo_af mo_al mo_sy mo_dg mo_out mo_tx m_ds m_st m_sub m_q m_two m_least m_os m_ts m_fs m_fc m_g m_gs m_dr m_now m_first m_has m_da m_dl m_af m_al m_sy m_dg m_out m_tx) → va_S A s.heap H locs → wp_M_step_J1920 x1 m_st m_sub m_q m_now m_first m_da m_dl Q → W p l e { frames := 4, cells := 0, slots := 0, locals := 88 } s m args below meth c H locs 0 0 (MQ below (ct_qz vwCl D [(cA, .int)] Q (fun u => wd_Mo cA mo mo_dr mo_now mo_first mo_has mo_da mo_dl mo_af mo_al mo_sy mo_dg mo_out mo_tx m_ds u.1 u.2.1 u.2.2.1 m_two m_least m_os m_ts m_fs m_fc m_g m_gs m_dr u.2.2.2.1 u.2.2.2.2.1 m_has u.2.2.2.2.2.1 u.2.2.2.2.2.2 m_af m_al m_sy m_dg m_out m_tx) A) args s 0 0 A) (F0 m 192 ls []) := by
    intro x1 m_st m_sub m_q m_now m_first m_da m_dl H locs ls hl hP hD hS hw
    unfold wp_M_step_J1920 at hw
    refine lv_aload_n hx hb d_M_step_192 rfl (lv_at hl 0 rfl) ?_
    refine va_get (ci := 9) (C := R_Mo) (T := F_Mo) (N := 24) hx hb htb in_Mo hown hK hP 0 rfl rfl 2 (by decide) (htb _ tw698) (fun _ h9 => h9) rfl d_M_step_193 ?_
    refine lv_bipush (v := 10) hx hb d_M_step_196 (by decide) ?_
    refine lv_icmp_eq (tgt := 216) hx hb d_M_step_198 rfl (fun hc => ?_) (fun hc => ?_)
    · have hw := hw.1 hc
      refine lv_aload_n hx hb d_M_step_216 rfl (lv_at hl 0 rfl) ?_
      refine lv_iload_n hx hb d_M_step_217 rfl (lv_at hl 1 rfl) ?_
      refine ct_callz (wn := fun u28 => wd_Mo cA mo mo_dr mo_now mo_first mo_has mo_da mo_dl mo_af mo_al mo_sy mo_dg mo_out mo_tx m_ds u28.1 u28.2.1 u28.2.2.1 m_two m_least m_os m_ts m_fs m_fc m_g m_gs m_dr u28.2.2.2.1 u28.2.2.2.2.1 m_has u28.2.2.2.2.2.1 u28.2.2.2.2.2.2 m_af m_al m_sy m_dg m_out m_tx) (va_runV (As := [.int x1]) (rest := []) ⟨hx, hb, hml, hown, htb⟩ (c_M_behind l D cA mo mo_dr mo_now mo_first mo_has mo_da mo_dl mo_af mo_al mo_sy mo_dg mo_out mo_tx m_ds m_st m_sub m_q m_two m_least m_os m_ts m_fs m_fc m_g m_gs m_dr m_now m_first m_has m_da m_dl m_af m_al m_sy m_dg m_out m_tx x1 _ hw _) (ct_cwV 1 htb tw819 rfl rfl tw82 tw816 tw818 tw49 hd_M_behind ⟨by decide, by decide⟩) (ct_preV hP hD hK hN [0, 1, 2, 3, 4, 5, 6, 7, 8, 9, 10, 11, 12] rfl (by decide) 0 rfl rfl _) rfl rfl hl.1 rfl (lv_room (Nat.le_of_ble_eq_true rfl)) d_M_step_218 ⟨Nat.zero_le _, Nat.zero_le _⟩) hP hD hS hA [0, 1, 2, 3, 4, 5, 6, 7, 8, 9, 10, 11, 12] [] [0, 1, 2, 3, 4, 5, 6, 7, 8, 9, 10, 11, 12] rfl rfl (by decide) (by decide) (fun _ => rfl) (by decide) (fun r27 u28 H locs hw hP hD hS => ?_)
      have hP : va_P D vwCl (wd_Mo cA mo mo_dr mo_now mo_first mo_has mo_da mo_dl mo_af mo_al mo_sy mo_dg mo_out mo_tx m_ds u28.1 u28.2.1 u28.2.2.1 m_two m_least m_os m_ts m_fs m_fc m_g m_gs m_dr u28.2.2.2.1 u28.2.2.2.2.1 m_has u28.2.2.2.2.2.1 u28.2.2.2.2.2.2 m_af m_al m_sy m_dg m_out m_tx) H := hP
      have hD : va_D A (wd_Mo cA mo mo_dr mo_now mo_first mo_has mo_da mo_dl mo_af mo_al mo_sy mo_dg mo_out mo_tx m_ds u28.1 u28.2.1 u28.2.2.1 m_two m_least m_os m_ts m_fs m_fc m_g m_gs m_dr u28.2.2.2.1 u28.2.2.2.2.1 m_has u28.2.2.2.2.2.1 u28.2.2.2.2.2.2 m_af m_al m_sy m_dg m_out m_tx) := hD
      exact ct_zret r27 hx hb hr hlk hK hS (u28.1, u28.2.1, u28.2.2.1, u28.2.2.2.1, u28.2.2.2.2.1, u28.2.2.2.2.2.1, u28.2.2.2.2.2.2) hw hP hD d_M_step_221
    · have hw := hw.2 hc
      refine lv_aload_n hx hb d_M_step_201 rfl (lv_at hl 0 rfl) ?_
      refine va_get (ci := 9) (C := R_Mo) (T := F_Mo) (N := 24) hx hb htb in_Mo hown hK hP 0 rfl rfl 2 (by decide) (htb _ tw698) (fun _ h9 => h9) rfl d_M_step_202 ?_
      refine lv_bipush (v := 9) hx hb d_M_step_205 (by decide) ?_
      refine lv_icmp_ne (tgt := 222) hx hb d_M_step_207 rfl (fun hc => ?_) (fun hc => ?_)
      · have hw := hw.1 hc
        exact hJ2220 x1 m_st m_sub m_q m_now m_first m_da m_dl _ _ _ (lv_sub hl [0, 1] rfl) hP hD hS hw
      · have hw := hw.2 hc
        refine lv_iload_n hx hb d_M_step_210 rfl (lv_at hl 1 rfl) ?_
        refine lv_bipush (v := 48) hx hb d_M_step_211 (by decide) ?_
        refine lv_icmp_eq (tgt := 222) hx hb d_M_step_213 rfl (fun hc => ?_) (fun hc => ?_)
        · have hw := hw.1 hc
          exact hJ2220 x1 m_st m_sub m_q m_now m_first m_da m_dl _ _ _ (lv_sub hl [0, 1] rfl) hP hD hS hw
        · have hw := hw.2 hc
          refine lv_aload_n hx hb d_M_step_216 rfl (lv_at hl 0 rfl) ?_
          refine lv_iload_n hx hb d_M_step_217 rfl (lv_at hl 1 rfl) ?_
          refine ct_callz (wn := fun u30 => wd_Mo cA mo mo_dr mo_now mo_first mo_has mo_da mo_dl mo_af mo_al mo_sy mo_dg mo_out mo_tx m_ds u30.1 u30.2.1 u30.2.2.1 m_two m_least m_os m_ts m_fs m_fc m_g m_gs m_dr u30.2.2.2.1 u30.2.2.2.2.1 m_has u30.2.2.2.2.2.1 u30.2.2.2.2.2.2 m_af m_al m_sy m_dg m_out m_tx) (va_runV (As := [.int x1]) (rest := []) ⟨hx, hb, hml, hown, htb⟩ (c_M_behind l D cA mo mo_dr mo_now mo_first mo_has mo_da mo_dl mo_af mo_al mo_sy mo_dg mo_out mo_tx m_ds m_st m_sub m_q m_two m_least m_os m_ts m_fs m_fc m_g m_gs m_dr m_now m_first m_has m_da m_dl m_af m_al m_sy m_dg m_out m_tx x1 _ hw _) (ct_cwV 1 htb tw819 rfl rfl tw82 tw816 tw818 tw49 hd_M_behind ⟨by decide, by decide⟩) (ct_preV hP hD hK hN [0, 1, 2, 3, 4, 5, 6, 7, 8, 9, 10, 11, 12] rfl (by decide) 0 rfl rfl _) rfl rfl hl.1 rfl (lv_room (Nat.le_of_ble_eq_true rfl)) d_M_step_218 ⟨Nat.zero_le _, Nat.zero_le _⟩) hP hD hS hA [0, 1, 2, 3, 4, 5, 6, 7, 8, 9, 10, 11, 12] [] [0, 1, 2, 3, 4, 5, 6, 7, 8, 9, 10, 11, 12] rfl rfl (by decide) (by decide) (fun _ => rfl) (by decide) (fun r29 u30 H locs hw hP hD hS => ?_)
          have hP : va_P D vwCl (wd_Mo cA mo mo_dr mo_now mo_first mo_has mo_da mo_dl mo_af mo_al mo_sy mo_dg mo_out mo_tx m_ds u30.1 u30.2.1 u30.2.2.1 m_two m_least m_os m_ts m_fs m_fc m_g m_gs m_dr u30.2.2.2.1 u30.2.2.2.2.1 m_has u30.2.2.2.2.2.1 u30.2.2.2.2.2.2 m_af m_al m_sy m_dg m_out m_tx) H := hP
          have hD : va_D A (wd_Mo cA mo mo_dr mo_now mo_first mo_has mo_da mo_dl mo_af mo_al mo_sy mo_dg mo_out mo_tx m_ds u30.1 u30.2.1 u30.2.2.1 m_two m_least m_os m_ts m_fs m_fc m_g m_gs m_dr u30.2.2.2.1 u30.2.2.2.2.1 m_has u30.2.2.2.2.2.1 u30.2.2.2.2.2.2 m_af m_al m_sy m_dg m_out m_tx) := hD
          exact ct_zret r29 hx hb hr hlk hK hS (u30.1, u30.2.1, u30.2.2.1, u30.2.2.2.1, u30.2.2.2.2.1, u30.2.2.2.2.2.1, u30.2.2.2.2.2.2) hw hP hD d_M_step_221
  refine lv_aload_n hx hb d_M_step_0 rfl (lv_at hl 0 rfl) ?_
  refine va_get (ci := 9) (C := R_Mo) (T := F_Mo) (N := 24) hx hb htb in_Mo hown hK hP 0 rfl rfl 2 (by decide) (htb _ tw698) (fun _ h9 => h9) rfl d_M_step_1 ?_
  refine lv_if_ne (tgt := 45) hx hb d_M_step_4 rfl (fun hc => ?_) (fun hc => ?_)
  · have hw := hw.1 hc
    refine lv_aload_n hx hb d_M_step_45 rfl (lv_at hl 0 rfl) ?_
    refine va_get (ci := 9) (C := R_Mo) (T := F_Mo) (N := 24) hx hb htb in_Mo hown hK hP 0 rfl rfl 2 (by decide) (htb _ tw698) (fun _ h9 => h9) rfl d_M_step_46 ?_
    refine lv_iconst (v := 1) hx hb d_M_step_49 (by decide) ?_
    refine lv_icmp_eq (tgt := 62) hx hb d_M_step_50 rfl (fun hc => ?_) (fun hc => ?_)
    · have hw := hw.1 hc
      refine lv_aload_n hx hb d_M_step_62 rfl (lv_at hl 0 rfl) ?_
      refine lv_iload_n hx hb d_M_step_63 rfl (lv_at hl 1 rfl) ?_
      refine lv_aload_n hx hb d_M_step_64 rfl (lv_at hl 0 rfl) ?_
      refine va_get (ci := 9) (C := R_Mo) (T := F_Mo) (N := 24) hx hb htb in_Mo hown hK hP 0 rfl rfl 2 (by decide) (htb _ tw698) (fun _ h9 => h9) rfl d_M_step_65 ?_
      refine lv_iconst (v := 1) hx hb d_M_step_68 (by decide) ?_
      refine lv_icmp_ne (tgt := 76) hx hb d_M_step_69 rfl (fun hc => ?_) (fun hc => ?_)
      · have hw := hw.1 hc
        refine lv_bipush (v := 10) hx hb d_M_step_76 (by decide) ?_
        refine ct_callv (wn := fun u2 => wd_Mo cA mo mo_dr mo_now mo_first mo_has mo_da mo_dl mo_af mo_al mo_sy mo_dg mo_out mo_tx m_ds u2.1 m_sub u2.2.1 m_two m_least m_os m_ts m_fs m_fc m_g m_gs m_dr m_now m_first m_has u2.2.2.1 u2.2.2.2 m_af m_al m_sy m_dg m_out m_tx) (va_runV (As := [.int cd, .int 10]) (rest := []) ⟨hx, hb, hml, hown, htb⟩ (c_M_inQuote l D cA mo mo_dr mo_now mo_first mo_has mo_da mo_dl mo_af mo_al mo_sy mo_dg mo_out mo_tx m_ds m_st m_sub m_q m_two m_least m_os m_ts m_fs m_fc m_g m_gs m_dr m_now m_first m_has m_da m_dl m_af m_al m_sy m_dg m_out m_tx cd 10 _ hw _) (ct_cwV 2 htb tw807 rfl rfl tw82 tw804 tw806 tw46 hd_M_inQuote ⟨by decide, by decide⟩) (ct_preV hP hD hK hN [0, 1, 2, 3, 4, 5, 6, 7, 8, 9, 10, 11, 12] rfl (by decide) 0 rfl rfl _) rfl rfl hl.1 rfl (lv_room (Nat.le_of_ble_eq_true rfl)) d_M_step_78 ⟨Nat.zero_le _, Nat.zero_le _⟩) hP hD hS hA [0, 1, 2, 3, 4, 5, 6, 7, 8, 9, 10, 11, 12] [] [0, 1, 2, 3, 4, 5, 6, 7, 8, 9, 10, 11, 12] rfl rfl (by decide) (by decide) (fun _ => rfl) (by decide) (fun u2 H locs hw hP hD hS => ?_)
        have hP : va_P D vwCl (wd_Mo cA mo mo_dr mo_now mo_first mo_has mo_da mo_dl mo_af mo_al mo_sy mo_dg mo_out mo_tx m_ds u2.1 m_sub u2.2.1 m_two m_least m_os m_ts m_fs m_fc m_g m_gs m_dr m_now m_first m_has u2.2.2.1 u2.2.2.2 m_af m_al m_sy m_dg m_out m_tx) H := hP
        have hD : va_D A (wd_Mo cA mo mo_dr mo_now mo_first mo_has mo_da mo_dl mo_af mo_al mo_sy mo_dg mo_out mo_tx m_ds u2.1 m_sub u2.2.1 m_two m_least m_os m_ts m_fs m_fc m_g m_gs m_dr m_now m_first m_has u2.2.2.1 u2.2.2.2 m_af m_al m_sy m_dg m_out m_tx) := hD
        refine lv_iconst (v := 1) hx hb d_M_step_81 (by decide) ?_
        exact ct_zret true hx hb hr hlk hK hS (u2.1, m_sub, u2.2.1, m_now, m_first, u2.2.2.1, u2.2.2.2) hw hP hD d_M_step_82
      · have hw := hw.2 hc
        refine lv_iconst (v := 0) hx hb d_M_step_72 (by decide) ?_
        refine lv_goto (tgt := 78) hx hb d_M_step_73 rfl ?_
        refine ct_callv (wn := fun u4 => wd_Mo cA mo mo_dr mo_now mo_first mo_has mo_da mo_dl mo_af mo_al mo_sy mo_dg mo_out mo_tx m_ds u4.1 m_sub u4.2.1 m_two m_least m_os m_ts m_fs m_fc m_g m_gs m_dr m_now m_first m_has u4.2.2.1 u4.2.2.2 m_af m_al m_sy m_dg m_out m_tx) (va_runV (As := [.int cd, .int 0]) (rest := []) ⟨hx, hb, hml, hown, htb⟩ (c_M_inQuote l D cA mo mo_dr mo_now mo_first mo_has mo_da mo_dl mo_af mo_al mo_sy mo_dg mo_out mo_tx m_ds m_st m_sub m_q m_two m_least m_os m_ts m_fs m_fc m_g m_gs m_dr m_now m_first m_has m_da m_dl m_af m_al m_sy m_dg m_out m_tx cd 0 _ hw _) (ct_cwV 2 htb tw807 rfl rfl tw82 tw804 tw806 tw46 hd_M_inQuote ⟨by decide, by decide⟩) (ct_preV hP hD hK hN [0, 1, 2, 3, 4, 5, 6, 7, 8, 9, 10, 11, 12] rfl (by decide) 0 rfl rfl _) rfl rfl hl.1 rfl (lv_room (Nat.le_of_ble_eq_true rfl)) d_M_step_78 ⟨Nat.zero_le _, Nat.zero_le _⟩) hP hD hS hA [0, 1, 2, 3, 4, 5, 6, 7, 8, 9, 10, 11, 12] [] [0, 1, 2, 3, 4, 5, 6, 7, 8, 9, 10, 11, 12] rfl rfl (by decide) (by decide) (fun _ => rfl) (by decide) (fun u4 H locs hw hP hD hS => ?_)
        have hP : va_P D vwCl (wd_Mo cA mo mo_dr mo_now mo_first mo_has mo_da mo_dl mo_af mo_al mo_sy mo_dg mo_out mo_tx m_ds u4.1 m_sub u4.2.1 m_two m_least m_os m_ts m_fs m_fc m_g m_gs m_dr m_now m_first m_has u4.2.2.1 u4.2.2.2 m_af m_al m_sy m_dg m_out m_tx) H := hP
        have hD : va_D A (wd_Mo cA mo mo_dr mo_now mo_first mo_has mo_da mo_dl mo_af mo_al mo_sy mo_dg mo_out mo_tx m_ds u4.1 m_sub u4.2.1 m_two m_least m_os m_ts m_fs m_fc m_g m_gs m_dr m_now m_first m_has u4.2.2.1 u4.2.2.2 m_af m_al m_sy m_dg m_out m_tx) := hD
        refine lv_iconst (v := 1) hx hb d_M_step_81 (by decide) ?_
        exact ct_zret true hx hb hr hlk hK hS (u4.1, m_sub, u4.2.1, m_now, m_first, u4.2.2.1, u4.2.2.2) hw hP hD d_M_step_82
    · have hw := hw.2 hc
      refine lv_aload_n hx hb d_M_step_53 rfl (lv_at hl 0 rfl) ?_
      refine va_get (ci := 9) (C := R_Mo) (T := F_Mo) (N := 24) hx hb htb in_Mo hown hK hP 0 rfl rfl 2 (by decide) (htb _ tw698) (fun _ h9 => h9) rfl d_M_step_54 ?_
      refine lv_bipush (v := 11) hx hb d_M_step_57 (by decide) ?_
      refine lv_icmp_ne (tgt := 83) hx hb d_M_step_59 rfl (fun hc => ?_) (fun hc => ?_)
      · have hw := hw.1 hc
        refine lv_aload_n hx hb d_M_step_83 rfl (lv_at hl 0 rfl) ?_
        refine va_get (ci := 9) (C := R_Mo) (T := F_Mo) (N := 24) hx hb htb in_Mo hown hK hP 0 rfl rfl 2 (by decide) (htb _ tw698) (fun _ h9 => h9) rfl d_M_step_84 ?_
        refine lv_iconst (v := 2) hx hb d_M_step_87 (by decide) ?_
        refine lv_icmp_ne (tgt := 97) hx hb d_M_step_88 rfl (fun hc => ?_) (fun hc => ?_)
        · have hw := hw.1 hc
          refine lv_aload_n hx hb d_M_step_97 rfl (lv_at hl 0 rfl) ?_
          refine va_get (ci := 9) (C := R_Mo) (T := F_Mo) (N := 24) hx hb htb in_Mo hown hK hP 0 rfl rfl 2 (by decide) (htb _ tw698) (fun _ h9 => h9) rfl d_M_step_98 ?_
          refine lv_iconst (v := 3) hx hb d_M_step_101 (by decide) ?_
          refine lv_icmp_ne (tgt := 131) hx hb d_M_step_102 rfl (fun hc => ?_) (fun hc => ?_)
          · have hw := hw.1 hc
            refine lv_aload_n hx hb d_M_step_131 rfl (lv_at hl 0 rfl) ?_
            refine va_get (ci := 9) (C := R_Mo) (T := F_Mo) (N := 24) hx hb htb in_Mo hown hK hP 0 rfl rfl 2 (by decide) (htb _ tw698) (fun _ h9 => h9) rfl d_M_step_132 ?_
            refine lv_iconst (v := 4) hx hb d_M_step_135 (by decide) ?_
            refine lv_icmp_eq (tgt := 156) hx hb d_M_step_136 rfl (fun hc => ?_) (fun hc => ?_)
            · have hw := hw.1 hc
              refine lv_aload_n hx hb d_M_step_156 rfl (lv_at hl 0 rfl) ?_
              refine lv_iload_n hx hb d_M_step_157 rfl (lv_at hl 1 rfl) ?_
              refine ct_callz (wn := fun u6 => wd_Mo cA mo mo_dr mo_now mo_first mo_has mo_da mo_dl mo_af mo_al mo_sy mo_dg mo_out mo_tx m_ds u6.1 u6.2.1 u6.2.2.1 m_two m_least m_os m_ts m_fs m_fc m_g m_gs m_dr u6.2.2.2.1 u6.2.2.2.2.1 m_has u6.2.2.2.2.2.1 u6.2.2.2.2.2.2 m_af m_al m_sy m_dg m_out m_tx) (va_runV (As := [.int cd]) (rest := []) ⟨hx, hb, hml, hown, htb⟩ (c_M_inFraction l D cA mo mo_dr mo_now mo_first mo_has mo_da mo_dl mo_af mo_al mo_sy mo_dg mo_out mo_tx m_ds m_st m_sub m_q m_two m_least m_os m_ts m_fs m_fc m_g m_gs m_dr m_now m_first m_has m_da m_dl m_af m_al m_sy m_dg m_out m_tx cd _ hw _) (ct_cwV 1 htb tw826 rfl rfl tw82 tw823 tw825 tw50 hd_M_inFraction ⟨by decide, by decide⟩) (ct_preV hP hD hK hN [0, 1, 2, 3, 4, 5, 6, 7, 8, 9, 10, 11, 12] rfl (by decide) 0 rfl rfl _) rfl rfl hl.1 rfl (lv_room (Nat.le_of_ble_eq_true rfl)) d_M_step_158 ⟨Nat.zero_le _, Nat.zero_le _⟩) hP hD hS hA [0, 1, 2, 3, 4, 5, 6, 7, 8, 9, 10, 11, 12] [] [0, 1, 2, 3, 4, 5, 6, 7, 8, 9, 10, 11, 12] rfl rfl (by decide) (by decide) (fun _ => rfl) (by decide) (fun r5 u6 H locs hw hP hD hS => ?_)
              have hP : va_P D vwCl (wd_Mo cA mo mo_dr mo_now mo_first mo_has mo_da mo_dl mo_af mo_al mo_sy mo_dg mo_out mo_tx m_ds u6.1 u6.2.1 u6.2.2.1 m_two m_least m_os m_ts m_fs m_fc m_g m_gs m_dr u6.2.2.2.1 u6.2.2.2.2.1 m_has u6.2.2.2.2.2.1 u6.2.2.2.2.2.2 m_af m_al m_sy m_dg m_out m_tx) H := hP
              have hD : va_D A (wd_Mo cA mo mo_dr mo_now mo_first mo_has mo_da mo_dl mo_af mo_al mo_sy mo_dg mo_out mo_tx m_ds u6.1 u6.2.1 u6.2.2.1 m_two m_least m_os m_ts m_fs m_fc m_g m_gs m_dr u6.2.2.2.1 u6.2.2.2.2.1 m_has u6.2.2.2.2.2.1 u6.2.2.2.2.2.2 m_af m_al m_sy m_dg m_out m_tx) := hD
              exact ct_zret r5 hx hb hr hlk hK hS (u6.1, u6.2.1, u6.2.2.1, u6.2.2.2.1, u6.2.2.2.2.1, u6.2.2.2.2.2.1, u6.2.2.2.2.2.2) hw hP hD d_M_step_161
            · have hw := hw.2 hc
              refine lv_aload_n hx hb d_M_step_139 rfl (lv_at hl 0 rfl) ?_
              refine va_get (ci := 9) (C := R_Mo) (T := F_Mo) (N := 24) hx hb htb in_Mo hown hK hP 0 rfl rfl 2 (by decide) (htb _ tw698) (fun _ h9 => h9) rfl d_M_step_140 ?_
              refine lv_iconst (v := 5) hx hb d_M_step_143 (by decide) ?_
              refine lv_icmp_eq (tgt := 156) hx hb d_M_step_144 rfl (fun hc => ?_) (fun hc => ?_)
              · have hw := hw.1 hc
                refine lv_aload_n hx hb d_M_step_156 rfl (lv_at hl 0 rfl) ?_
                refine lv_iload_n hx hb d_M_step_157 rfl (lv_at hl 1 rfl) ?_
                refine ct_callz (wn := fun u8 => wd_Mo cA mo mo_dr mo_now mo_first mo_has mo_da mo_dl mo_af mo_al mo_sy mo_dg mo_out mo_tx m_ds u8.1 u8.2.1 u8.2.2.1 m_two m_least m_os m_ts m_fs m_fc m_g m_gs m_dr u8.2.2.2.1 u8.2.2.2.2.1 m_has u8.2.2.2.2.2.1 u8.2.2.2.2.2.2 m_af m_al m_sy m_dg m_out m_tx) (va_runV (As := [.int cd]) (rest := []) ⟨hx, hb, hml, hown, htb⟩ (c_M_inFraction l D cA mo mo_dr mo_now mo_first mo_has mo_da mo_dl mo_af mo_al mo_sy mo_dg mo_out mo_tx m_ds m_st m_sub m_q m_two m_least m_os m_ts m_fs m_fc m_g m_gs m_dr m_now m_first m_has m_da m_dl m_af m_al m_sy m_dg m_out m_tx cd _ hw _) (ct_cwV 1 htb tw826 rfl rfl tw82 tw823 tw825 tw50 hd_M_inFraction ⟨by decide, by decide⟩) (ct_preV hP hD hK hN [0, 1, 2, 3, 4, 5, 6, 7, 8, 9, 10, 11, 12] rfl (by decide) 0 rfl rfl _) rfl rfl hl.1 rfl (lv_room (Nat.le_of_ble_eq_true rfl)) d_M_step_158 ⟨Nat.zero_le _, Nat.zero_le _⟩) hP hD hS hA [0, 1, 2, 3, 4, 5, 6, 7, 8, 9, 10, 11, 12] [] [0, 1, 2, 3, 4, 5, 6, 7, 8, 9, 10, 11, 12] rfl rfl (by decide) (by decide) (fun _ => rfl) (by decide) (fun r7 u8 H locs hw hP hD hS => ?_)
                have hP : va_P D vwCl (wd_Mo cA mo mo_dr mo_now mo_first mo_has mo_da mo_dl mo_af mo_al mo_sy mo_dg mo_out mo_tx m_ds u8.1 u8.2.1 u8.2.2.1 m_two m_least m_os m_ts m_fs m_fc m_g m_gs m_dr u8.2.2.2.1 u8.2.2.2.2.1 m_has u8.2.2.2.2.2.1 u8.2.2.2.2.2.2 m_af m_al m_sy m_dg m_out m_tx) H := hP
                have hD : va_D A (wd_Mo cA mo mo_dr mo_now mo_first mo_has mo_da mo_dl mo_af mo_al mo_sy mo_dg mo_out mo_tx m_ds u8.1 u8.2.1 u8.2.2.1 m_two m_least m_os m_ts m_fs m_fc m_g m_gs m_dr u8.2.2.2.1 u8.2.2.2.2.1 m_has u8.2.2.2.2.2.1 u8.2.2.2.2.2.2 m_af m_al m_sy m_dg m_out m_tx) := hD
                exact ct_zret r7 hx hb hr hlk hK hS (u8.1, u8.2.1, u8.2.2.1, u8.2.2.2.1, u8.2.2.2.2.1, u8.2.2.2.2.2.1, u8.2.2.2.2.2.2) hw hP hD d_M_step_161
              · have hw := hw.2 hc
                refine lv_aload_n hx hb d_M_step_147 rfl (lv_at hl 0 rfl) ?_
                refine va_get (ci := 9) (C := R_Mo) (T := F_Mo) (N := 24) hx hb htb in_Mo hown hK hP 0 rfl rfl 2 (by decide) (htb _ tw698) (fun _ h9 => h9) rfl d_M_step_148 ?_
                refine lv_bipush (v := 6) hx hb d_M_step_151 (by decide) ?_
                refine lv_icmp_ne (tgt := 162) hx hb d_M_step_153 rfl (fun hc => ?_) (fun hc => ?_)
                · have hw := hw.1 hc
                  refine lv_aload_n hx hb d_M_step_162 rfl (lv_at hl 0 rfl) ?_
                  refine va_get (ci := 9) (C := R_Mo) (T := F_Mo) (N := 24) hx hb htb in_Mo hown hK hP 0 rfl rfl 2 (by decide) (htb _ tw698) (fun _ h9 => h9) rfl d_M_step_163 ?_
                  refine lv_bipush (v := 7) hx hb d_M_step_166 (by decide) ?_
                  refine lv_icmp_ne (tgt := 192) hx hb d_M_step_168 rfl (fun hc => ?_) (fun hc => ?_)
                  · have hw := hw.1 hc
                    exact hJ1920 cd m_st m_sub m_q m_now m_first m_da m_dl _ _ _ (lv_sub hl [0, 1] rfl) hP hD hS hw
                  · have hw := hw.2 hc
                    refine lv_iload_n hx hb d_M_step_171 rfl (lv_at hl 1 rfl) ?_
                    refine lv_bipush (v := 43) hx hb d_M_step_172 (by decide) ?_
                    refine lv_icmp_ne (tgt := 192) hx hb d_M_step_174 rfl (fun hc => ?_) (fun hc => ?_)
                    · have hw := hw.1 hc
                      exact hJ1920 cd m_st m_sub m_q m_now m_first m_da m_dl _ _ _ (lv_sub hl [0, 1] rfl) hP hD hS hw
                    · have hw := hw.2 hc
                      refine lv_aload_n hx hb d_M_step_177 rfl (lv_at hl 0 rfl) ?_
                      refine va_get (ci := 9) (C := R_Mo) (T := F_Mo) (N := 24) hx hb htb in_Mo hown hK hP 0 rfl rfl 5 (by decide) (htb _ tw701) (fun _ h9 => h9) rfl d_M_step_178 ?_
                      refine lv_iconst (v := 5) hx hb d_M_step_181 (by decide) ?_
                      refine lv_iconst (v := 1) hx hb d_M_step_182 (by decide) ?_
                      have hi := hw.1
                      have hw := hw.2
                      refine va_iast hx hb hK hP hD hS 2 0 rfl rfl hi d_M_step_183 (fun H locs hP hD hS => ?_)
                      have hP : va_P D vwCl (wd_Mo cA mo mo_dr mo_now mo_first mo_has mo_da mo_dl mo_af mo_al mo_sy mo_dg mo_out mo_tx m_ds m_st m_sub m_q m_two m_least m_os m_ts m_fs m_fc m_g m_gs m_dr (upd m_now (5 : Int32).toNatClampNeg 1) m_first m_has m_da m_dl m_af m_al m_sy m_dg m_out m_tx) H := hP
                      have hD : va_D A (wd_Mo cA mo mo_dr mo_now mo_first mo_has mo_da mo_dl mo_af mo_al mo_sy mo_dg mo_out mo_tx m_ds m_st m_sub m_q m_two m_least m_os m_ts m_fs m_fc m_g m_gs m_dr (upd m_now (5 : Int32).toNatClampNeg 1) m_first m_has m_da m_dl m_af m_al m_sy m_dg m_out m_tx) := hD
                      refine lv_aload_n hx hb d_M_step_184 rfl (lv_at hl 0 rfl) ?_
                      refine lv_bipush (v := 8) hx hb d_M_step_185 (by decide) ?_
                      refine va_put (ci := 9) (v := .int 8) (ty := .int) (C := R_Mo) (T := F_Mo) (N := 24) hx hb htb in_Mo t_Mo t_Mo_ok n_Mo hown hK hP hD hS 0 rfl rfl 2 (by decide) (htb _ tw698) (fun _ h9 => h9) rfl (by decide +kernel) rfl rfl (Nat.le_of_ble_eq_true rfl) d_M_step_187 (fun H locs hP hD hS => ?_)
                      have hP : va_P D vwCl (wd_Mo cA mo mo_dr mo_now mo_first mo_has mo_da mo_dl mo_af mo_al mo_sy mo_dg mo_out mo_tx m_ds 8 m_sub m_q m_two m_least m_os m_ts m_fs m_fc m_g m_gs m_dr (upd m_now (5 : Int32).toNatClampNeg 1) m_first m_has m_da m_dl m_af m_al m_sy m_dg m_out m_tx) H := hP
                      have hD : va_D A (wd_Mo cA mo mo_dr mo_now mo_first mo_has mo_da mo_dl mo_af mo_al mo_sy mo_dg mo_out mo_tx m_ds 8 m_sub m_q m_two m_least m_os m_ts m_fs m_fc m_g m_gs m_dr (upd m_now (5 : Int32).toNatClampNeg 1) m_first m_has m_da m_dl m_af m_al m_sy m_dg m_out m_tx) := hD
                      refine lv_iconst (v := 1) hx hb d_M_step_190 (by decide) ?_
                      exact ct_zret true hx hb hr hlk hK hS (8, m_sub, m_q, upd m_now (5 : Int32).toNatClampNeg 1, m_first, m_da, m_dl) hw hP hD d_M_step_191
                · have hw := hw.2 hc
                  refine lv_aload_n hx hb d_M_step_156 rfl (lv_at hl 0 rfl) ?_
                  refine lv_iload_n hx hb d_M_step_157 rfl (lv_at hl 1 rfl) ?_
                  refine ct_callz (wn := fun u10 => wd_Mo cA mo mo_dr mo_now mo_first mo_has mo_da mo_dl mo_af mo_al mo_sy mo_dg mo_out mo_tx m_ds u10.1 u10.2.1 u10.2.2.1 m_two m_least m_os m_ts m_fs m_fc m_g m_gs m_dr u10.2.2.2.1 u10.2.2.2.2.1 m_has u10.2.2.2.2.2.1 u10.2.2.2.2.2.2 m_af m_al m_sy m_dg m_out m_tx) (va_runV (As := [.int cd]) (rest := []) ⟨hx, hb, hml, hown, htb⟩ (c_M_inFraction l D cA mo mo_dr mo_now mo_first mo_has mo_da mo_dl mo_af mo_al mo_sy mo_dg mo_out mo_tx m_ds m_st m_sub m_q m_two m_least m_os m_ts m_fs m_fc m_g m_gs m_dr m_now m_first m_has m_da m_dl m_af m_al m_sy m_dg m_out m_tx cd _ hw _) (ct_cwV 1 htb tw826 rfl rfl tw82 tw823 tw825 tw50 hd_M_inFraction ⟨by decide, by decide⟩) (ct_preV hP hD hK hN [0, 1, 2, 3, 4, 5, 6, 7, 8, 9, 10, 11, 12] rfl (by decide) 0 rfl rfl _) rfl rfl hl.1 rfl (lv_room (Nat.le_of_ble_eq_true rfl)) d_M_step_158 ⟨Nat.zero_le _, Nat.zero_le _⟩) hP hD hS hA [0, 1, 2, 3, 4, 5, 6, 7, 8, 9, 10, 11, 12] [] [0, 1, 2, 3, 4, 5, 6, 7, 8, 9, 10, 11, 12] rfl rfl (by decide) (by decide) (fun _ => rfl) (by decide) (fun r9 u10 H locs hw hP hD hS => ?_)
                  have hP : va_P D vwCl (wd_Mo cA mo mo_dr mo_now mo_first mo_has mo_da mo_dl mo_af mo_al mo_sy mo_dg mo_out mo_tx m_ds u10.1 u10.2.1 u10.2.2.1 m_two m_least m_os m_ts m_fs m_fc m_g m_gs m_dr u10.2.2.2.1 u10.2.2.2.2.1 m_has u10.2.2.2.2.2.1 u10.2.2.2.2.2.2 m_af m_al m_sy m_dg m_out m_tx) H := hP
                  have hD : va_D A (wd_Mo cA mo mo_dr mo_now mo_first mo_has mo_da mo_dl mo_af mo_al mo_sy mo_dg mo_out mo_tx m_ds u10.1 u10.2.1 u10.2.2.1 m_two m_least m_os m_ts m_fs m_fc m_g m_gs m_dr u10.2.2.2.1 u10.2.2.2.2.1 m_has u10.2.2.2.2.2.1 u10.2.2.2.2.2.2 m_af m_al m_sy m_dg m_out m_tx) := hD
                  exact ct_zret r9 hx hb hr hlk hK hS (u10.1, u10.2.1, u10.2.2.1, u10.2.2.2.1, u10.2.2.2.2.1, u10.2.2.2.2.2.1, u10.2.2.2.2.2.2) hw hP hD d_M_step_161
          · have hw := hw.2 hc
            refine lv_iload_n hx hb d_M_step_105 rfl (lv_at hl 1 rfl) ?_
            refine lv_bipush (v := 35) hx hb d_M_step_106 (by decide) ?_
            refine lv_icmp_eq (tgt := 117) hx hb d_M_step_108 rfl (fun hc => ?_) (fun hc => ?_)
            · have hw := hw.1 hc
              refine lv_aload_n hx hb d_M_step_117 rfl (lv_at hl 0 rfl) ?_
              refine lv_iload_n hx hb d_M_step_118 rfl (lv_at hl 1 rfl) ?_
              refine ct_callz (wn := fun u12 => wd_Mo cA mo mo_dr mo_now mo_first mo_has mo_da mo_dl mo_af mo_al mo_sy mo_dg mo_out mo_tx m_ds u12.1 m_sub m_q m_two m_least m_os m_ts m_fs m_fc m_g m_gs m_dr u12.2 m_first m_has m_da m_dl m_af m_al m_sy m_dg m_out m_tx) (va_runV (As := [.int cd]) (rest := []) ⟨hx, hb, hml, hown, htb⟩ (c_M_integerDigit l D cA mo mo_dr mo_now mo_first mo_has mo_da mo_dl mo_af mo_al mo_sy mo_dg mo_out mo_tx m_ds m_st m_sub m_q m_two m_least m_os m_ts m_fs m_fc m_g m_gs m_dr m_now m_first m_has m_da m_dl m_af m_al m_sy m_dg m_out m_tx cd _ hw _) (ct_cwV 1 htb tw792 rfl rfl tw82 tw789 tw791 tw43 hd_M_integerDigit ⟨by decide, by decide⟩) (ct_preV hP hD hK hN [0, 1, 2, 3, 4, 5, 6, 7, 8, 9, 10, 11, 12] rfl (by decide) 0 rfl rfl _) rfl rfl hl.1 rfl (lv_room (Nat.le_of_ble_eq_true rfl)) d_M_step_119 ⟨Nat.zero_le _, Nat.zero_le _⟩) hP hD hS hA [0, 1, 2, 3, 4, 5, 6, 7, 8, 9, 10, 11, 12] [] [0, 1, 2, 3, 4, 5, 6, 7, 8, 9, 10, 11, 12] rfl rfl (by decide) (by decide) (fun _ => rfl) (by decide) (fun r11 u12 H locs hw hP hD hS => ?_)
              have hP : va_P D vwCl (wd_Mo cA mo mo_dr mo_now mo_first mo_has mo_da mo_dl mo_af mo_al mo_sy mo_dg mo_out mo_tx m_ds u12.1 m_sub m_q m_two m_least m_os m_ts m_fs m_fc m_g m_gs m_dr u12.2 m_first m_has m_da m_dl m_af m_al m_sy m_dg m_out m_tx) H := hP
              have hD : va_D A (wd_Mo cA mo mo_dr mo_now mo_first mo_has mo_da mo_dl mo_af mo_al mo_sy mo_dg mo_out mo_tx m_ds u12.1 m_sub m_q m_two m_least m_os m_ts m_fs m_fc m_g m_gs m_dr u12.2 m_first m_has m_da m_dl m_af m_al m_sy m_dg m_out m_tx) := hD
              refine lv_if_eq (tgt := 129) hx hb d_M_step_122 rfl (fun hc => ?_) (fun hc => ?_)
              · have hw := hw.1 ((bI_0 _).mp hc)
                refine lv_iconst (v := 0) hx hb d_M_step_129 (by decide) ?_
                exact ct_zret false hx hb hr hlk hK hS (u12.1, m_sub, m_q, u12.2, m_first, m_da, m_dl) hw hP hD d_M_step_130
              · have hw := hw.2 ((bI_n0 _).mp hc)
                refine lv_iconst (v := 1) hx hb d_M_step_125 (by decide) ?_
                refine lv_goto (tgt := 130) hx hb d_M_step_126 rfl ?_
                exact ct_zret true hx hb hr hlk hK hS (u12.1, m_sub, m_q, u12.2, m_first, m_da, m_dl) hw hP hD d_M_step_130
            · have hw := hw.2 hc
              refine lv_iload_n hx hb d_M_step_111 rfl (lv_at hl 1 rfl) ?_
              refine lv_bipush (v := 48) hx hb d_M_step_112 (by decide) ?_
              refine lv_icmp_ne (tgt := 129) hx hb d_M_step_114 rfl (fun hc => ?_) (fun hc => ?_)
              · have hw := hw.1 hc
                refine lv_iconst (v := 0) hx hb d_M_step_129 (by decide) ?_
                exact ct_zret false hx hb hr hlk hK hS (m_st, m_sub, m_q, m_now, m_first, m_da, m_dl) hw hP hD d_M_step_130
              · have hw := hw.2 hc
                refine lv_aload_n hx hb d_M_step_117 rfl (lv_at hl 0 rfl) ?_
                refine lv_iload_n hx hb d_M_step_118 rfl (lv_at hl 1 rfl) ?_
                refine ct_callz (wn := fun u14 => wd_Mo cA mo mo_dr mo_now mo_first mo_has mo_da mo_dl mo_af mo_al mo_sy mo_dg mo_out mo_tx m_ds u14.1 m_sub m_q m_two m_least m_os m_ts m_fs m_fc m_g m_gs m_dr u14.2 m_first m_has m_da m_dl m_af m_al m_sy m_dg m_out m_tx) (va_runV (As := [.int cd]) (rest := []) ⟨hx, hb, hml, hown, htb⟩ (c_M_integerDigit l D cA mo mo_dr mo_now mo_first mo_has mo_da mo_dl mo_af mo_al mo_sy mo_dg mo_out mo_tx m_ds m_st m_sub m_q m_two m_least m_os m_ts m_fs m_fc m_g m_gs m_dr m_now m_first m_has m_da m_dl m_af m_al m_sy m_dg m_out m_tx cd _ hw _) (ct_cwV 1 htb tw792 rfl rfl tw82 tw789 tw791 tw43 hd_M_integerDigit ⟨by decide, by decide⟩) (ct_preV hP hD hK hN [0, 1, 2, 3, 4, 5, 6, 7, 8, 9, 10, 11, 12] rfl (by decide) 0 rfl rfl _) rfl rfl hl.1 rfl (lv_room (Nat.le_of_ble_eq_true rfl)) d_M_step_119 ⟨Nat.zero_le _, Nat.zero_le _⟩) hP hD hS hA [0, 1, 2, 3, 4, 5, 6, 7, 8, 9, 10, 11, 12] [] [0, 1, 2, 3, 4, 5, 6, 7, 8, 9, 10, 11, 12] rfl rfl (by decide) (by decide) (fun _ => rfl) (by decide) (fun r13 u14 H locs hw hP hD hS => ?_)
                have hP : va_P D vwCl (wd_Mo cA mo mo_dr mo_now mo_first mo_has mo_da mo_dl mo_af mo_al mo_sy mo_dg mo_out mo_tx m_ds u14.1 m_sub m_q m_two m_least m_os m_ts m_fs m_fc m_g m_gs m_dr u14.2 m_first m_has m_da m_dl m_af m_al m_sy m_dg m_out m_tx) H := hP
                have hD : va_D A (wd_Mo cA mo mo_dr mo_now mo_first mo_has mo_da mo_dl mo_af mo_al mo_sy mo_dg mo_out mo_tx m_ds u14.1 m_sub m_q m_two m_least m_os m_ts m_fs m_fc m_g m_gs m_dr u14.2 m_first m_has m_da m_dl m_af m_al m_sy m_dg m_out m_tx) := hD
                refine lv_if_eq (tgt := 129) hx hb d_M_step_122 rfl (fun hc => ?_) (fun hc => ?_)
                · have hw := hw.1 ((bI_0 _).mp hc)
                  refine lv_iconst (v := 0) hx hb d_M_step_129 (by decide) ?_
                  exact ct_zret false hx hb hr hlk hK hS (u14.1, m_sub, m_q, u14.2, m_first, m_da, m_dl) hw hP hD d_M_step_130
                · have hw := hw.2 ((bI_n0 _).mp hc)
                  refine lv_iconst (v := 1) hx hb d_M_step_125 (by decide) ?_
                  refine lv_goto (tgt := 130) hx hb d_M_step_126 rfl ?_
                  exact ct_zret true hx hb hr hlk hK hS (u14.1, m_sub, m_q, u14.2, m_first, m_da, m_dl) hw hP hD d_M_step_130
        · have hw := hw.2 hc
          refine lv_aload_n hx hb d_M_step_91 rfl (lv_at hl 0 rfl) ?_
          refine lv_iload_n hx hb d_M_step_92 rfl (lv_at hl 1 rfl) ?_
          refine ct_callz (wn := fun u16 => wd_Mo cA mo mo_dr mo_now mo_first mo_has mo_da mo_dl mo_af mo_al mo_sy mo_dg mo_out mo_tx m_ds u16.1 u16.2.1 u16.2.2.1 m_two m_least m_os m_ts m_fs m_fc m_g m_gs m_dr u16.2.2.2.1 u16.2.2.2.2.1 m_has u16.2.2.2.2.2.1 u16.2.2.2.2.2.2 m_af m_al m_sy m_dg m_out m_tx) (va_runV (As := [.int cd]) (rest := []) ⟨hx, hb, hml, hown, htb⟩ (c_M_inNumber l D cA mo mo_dr mo_now mo_first mo_has mo_da mo_dl mo_af mo_al mo_sy mo_dg mo_out mo_tx m_ds m_st m_sub m_q m_two m_least m_os m_ts m_fs m_fc m_g m_gs m_dr m_now m_first m_has m_da m_dl m_af m_al m_sy m_dg m_out m_tx cd _ hw _) (ct_cwV 1 htb tw811 rfl rfl tw82 tw808 tw810 tw47 hd_M_inNumber ⟨by decide, by decide⟩) (ct_preV hP hD hK hN [0, 1, 2, 3, 4, 5, 6, 7, 8, 9, 10, 11, 12] rfl (by decide) 0 rfl rfl _) rfl rfl hl.1 rfl (lv_room (Nat.le_of_ble_eq_true rfl)) d_M_step_93 ⟨Nat.zero_le _, Nat.zero_le _⟩) hP hD hS hA [0, 1, 2, 3, 4, 5, 6, 7, 8, 9, 10, 11, 12] [] [0, 1, 2, 3, 4, 5, 6, 7, 8, 9, 10, 11, 12] rfl rfl (by decide) (by decide) (fun _ => rfl) (by decide) (fun r15 u16 H locs hw hP hD hS => ?_)
          have hP : va_P D vwCl (wd_Mo cA mo mo_dr mo_now mo_first mo_has mo_da mo_dl mo_af mo_al mo_sy mo_dg mo_out mo_tx m_ds u16.1 u16.2.1 u16.2.2.1 m_two m_least m_os m_ts m_fs m_fc m_g m_gs m_dr u16.2.2.2.1 u16.2.2.2.2.1 m_has u16.2.2.2.2.2.1 u16.2.2.2.2.2.2 m_af m_al m_sy m_dg m_out m_tx) H := hP
          have hD : va_D A (wd_Mo cA mo mo_dr mo_now mo_first mo_has mo_da mo_dl mo_af mo_al mo_sy mo_dg mo_out mo_tx m_ds u16.1 u16.2.1 u16.2.2.1 m_two m_least m_os m_ts m_fs m_fc m_g m_gs m_dr u16.2.2.2.1 u16.2.2.2.2.1 m_has u16.2.2.2.2.2.1 u16.2.2.2.2.2.2 m_af m_al m_sy m_dg m_out m_tx) := hD
          exact ct_zret r15 hx hb hr hlk hK hS (u16.1, u16.2.1, u16.2.2.1, u16.2.2.2.1, u16.2.2.2.2.1, u16.2.2.2.2.2.1, u16.2.2.2.2.2.2) hw hP hD d_M_step_96
      · have hw := hw.2 hc
        refine lv_aload_n hx hb d_M_step_62 rfl (lv_at hl 0 rfl) ?_
        refine lv_iload_n hx hb d_M_step_63 rfl (lv_at hl 1 rfl) ?_
        refine lv_aload_n hx hb d_M_step_64 rfl (lv_at hl 0 rfl) ?_
        refine va_get (ci := 9) (C := R_Mo) (T := F_Mo) (N := 24) hx hb htb in_Mo hown hK hP 0 rfl rfl 2 (by decide) (htb _ tw698) (fun _ h9 => h9) rfl d_M_step_65 ?_
        refine lv_iconst (v := 1) hx hb d_M_step_68 (by decide) ?_
        refine lv_icmp_ne (tgt := 76) hx hb d_M_step_69 rfl (fun hc => ?_) (fun hc => ?_)
        · have hw := hw.1 hc
          refine lv_bipush (v := 10) hx hb d_M_step_76 (by decide) ?_
          refine ct_callv (wn := fun u18 => wd_Mo cA mo mo_dr mo_now mo_first mo_has mo_da mo_dl mo_af mo_al mo_sy mo_dg mo_out mo_tx m_ds u18.1 m_sub u18.2.1 m_two m_least m_os m_ts m_fs m_fc m_g m_gs m_dr m_now m_first m_has u18.2.2.1 u18.2.2.2 m_af m_al m_sy m_dg m_out m_tx) (va_runV (As := [.int cd, .int 10]) (rest := []) ⟨hx, hb, hml, hown, htb⟩ (c_M_inQuote l D cA mo mo_dr mo_now mo_first mo_has mo_da mo_dl mo_af mo_al mo_sy mo_dg mo_out mo_tx m_ds m_st m_sub m_q m_two m_least m_os m_ts m_fs m_fc m_g m_gs m_dr m_now m_first m_has m_da m_dl m_af m_al m_sy m_dg m_out m_tx cd 10 _ hw _) (ct_cwV 2 htb tw807 rfl rfl tw82 tw804 tw806 tw46 hd_M_inQuote ⟨by decide, by decide⟩) (ct_preV hP hD hK hN [0, 1, 2, 3, 4, 5, 6, 7, 8, 9, 10, 11, 12] rfl (by decide) 0 rfl rfl _) rfl rfl hl.1 rfl (lv_room (Nat.le_of_ble_eq_true rfl)) d_M_step_78 ⟨Nat.zero_le _, Nat.zero_le _⟩) hP hD hS hA [0, 1, 2, 3, 4, 5, 6, 7, 8, 9, 10, 11, 12] [] [0, 1, 2, 3, 4, 5, 6, 7, 8, 9, 10, 11, 12] rfl rfl (by decide) (by decide) (fun _ => rfl) (by decide) (fun u18 H locs hw hP hD hS => ?_)
          have hP : va_P D vwCl (wd_Mo cA mo mo_dr mo_now mo_first mo_has mo_da mo_dl mo_af mo_al mo_sy mo_dg mo_out mo_tx m_ds u18.1 m_sub u18.2.1 m_two m_least m_os m_ts m_fs m_fc m_g m_gs m_dr m_now m_first m_has u18.2.2.1 u18.2.2.2 m_af m_al m_sy m_dg m_out m_tx) H := hP
          have hD : va_D A (wd_Mo cA mo mo_dr mo_now mo_first mo_has mo_da mo_dl mo_af mo_al mo_sy mo_dg mo_out mo_tx m_ds u18.1 m_sub u18.2.1 m_two m_least m_os m_ts m_fs m_fc m_g m_gs m_dr m_now m_first m_has u18.2.2.1 u18.2.2.2 m_af m_al m_sy m_dg m_out m_tx) := hD
          refine lv_iconst (v := 1) hx hb d_M_step_81 (by decide) ?_
          exact ct_zret true hx hb hr hlk hK hS (u18.1, m_sub, u18.2.1, m_now, m_first, u18.2.2.1, u18.2.2.2) hw hP hD d_M_step_82
        · have hw := hw.2 hc
          refine lv_iconst (v := 0) hx hb d_M_step_72 (by decide) ?_
          refine lv_goto (tgt := 78) hx hb d_M_step_73 rfl ?_
          refine ct_callv (wn := fun u20 => wd_Mo cA mo mo_dr mo_now mo_first mo_has mo_da mo_dl mo_af mo_al mo_sy mo_dg mo_out mo_tx m_ds u20.1 m_sub u20.2.1 m_two m_least m_os m_ts m_fs m_fc m_g m_gs m_dr m_now m_first m_has u20.2.2.1 u20.2.2.2 m_af m_al m_sy m_dg m_out m_tx) (va_runV (As := [.int cd, .int 0]) (rest := []) ⟨hx, hb, hml, hown, htb⟩ (c_M_inQuote l D cA mo mo_dr mo_now mo_first mo_has mo_da mo_dl mo_af mo_al mo_sy mo_dg mo_out mo_tx m_ds m_st m_sub m_q m_two m_least m_os m_ts m_fs m_fc m_g m_gs m_dr m_now m_first m_has m_da m_dl m_af m_al m_sy m_dg m_out m_tx cd 0 _ hw _) (ct_cwV 2 htb tw807 rfl rfl tw82 tw804 tw806 tw46 hd_M_inQuote ⟨by decide, by decide⟩) (ct_preV hP hD hK hN [0, 1, 2, 3, 4, 5, 6, 7, 8, 9, 10, 11, 12] rfl (by decide) 0 rfl rfl _) rfl rfl hl.1 rfl (lv_room (Nat.le_of_ble_eq_true rfl)) d_M_step_78 ⟨Nat.zero_le _, Nat.zero_le _⟩) hP hD hS hA [0, 1, 2, 3, 4, 5, 6, 7, 8, 9, 10, 11, 12] [] [0, 1, 2, 3, 4, 5, 6, 7, 8, 9, 10, 11, 12] rfl rfl (by decide) (by decide) (fun _ => rfl) (by decide) (fun u20 H locs hw hP hD hS => ?_)
          have hP : va_P D vwCl (wd_Mo cA mo mo_dr mo_now mo_first mo_has mo_da mo_dl mo_af mo_al mo_sy mo_dg mo_out mo_tx m_ds u20.1 m_sub u20.2.1 m_two m_least m_os m_ts m_fs m_fc m_g m_gs m_dr m_now m_first m_has u20.2.2.1 u20.2.2.2 m_af m_al m_sy m_dg m_out m_tx) H := hP
          have hD : va_D A (wd_Mo cA mo mo_dr mo_now mo_first mo_has mo_da mo_dl mo_af mo_al mo_sy mo_dg mo_out mo_tx m_ds u20.1 m_sub u20.2.1 m_two m_least m_os m_ts m_fs m_fc m_g m_gs m_dr m_now m_first m_has u20.2.2.1 u20.2.2.2 m_af m_al m_sy m_dg m_out m_tx) := hD
          refine lv_iconst (v := 1) hx hb d_M_step_81 (by decide) ?_
          exact ct_zret true hx hb hr hlk hK hS (u20.1, m_sub, u20.2.1, m_now, m_first, u20.2.2.1, u20.2.2.2) hw hP hD d_M_step_82
  · have hw := hw.2 hc
    refine lv_iload_n hx hb d_M_step_7 rfl (lv_at hl 1 rfl) ?_
    refine lv_bipush (v := 35) hx hb d_M_step_8 (by decide) ?_
    refine lv_icmp_eq (tgt := 19) hx hb d_M_step_10 rfl (fun hc => ?_) (fun hc => ?_)
    · have hw := hw.1 hc
      refine lv_aload_n hx hb d_M_step_19 rfl (lv_at hl 0 rfl) ?_
      refine lv_iload_n hx hb d_M_step_20 rfl (lv_at hl 1 rfl) ?_
      refine ct_callz (wn := fun u22 => wd_Mo cA mo mo_dr mo_now mo_first mo_has mo_da mo_dl mo_af mo_al mo_sy mo_dg mo_out mo_tx m_ds u22.1 m_sub m_q m_two m_least m_os m_ts m_fs m_fc m_g m_gs m_dr u22.2 m_first m_has m_da m_dl m_af m_al m_sy m_dg m_out m_tx) (va_runV (As := [.int cd]) (rest := []) ⟨hx, hb, hml, hown, htb⟩ (c_M_integerDigit l D cA mo mo_dr mo_now mo_first mo_has mo_da mo_dl mo_af mo_al mo_sy mo_dg mo_out mo_tx m_ds m_st m_sub m_q m_two m_least m_os m_ts m_fs m_fc m_g m_gs m_dr m_now m_first m_has m_da m_dl m_af m_al m_sy m_dg m_out m_tx cd _ hw _) (ct_cwV 1 htb tw792 rfl rfl tw82 tw789 tw791 tw43 hd_M_integerDigit ⟨by decide, by decide⟩) (ct_preV hP hD hK hN [0, 1, 2, 3, 4, 5, 6, 7, 8, 9, 10, 11, 12] rfl (by decide) 0 rfl rfl _) rfl rfl hl.1 rfl (lv_room (Nat.le_of_ble_eq_true rfl)) d_M_step_21 ⟨Nat.zero_le _, Nat.zero_le _⟩) hP hD hS hA [0, 1, 2, 3, 4, 5, 6, 7, 8, 9, 10, 11, 12] [] [0, 1, 2, 3, 4, 5, 6, 7, 8, 9, 10, 11, 12] rfl rfl (by decide) (by decide) (fun _ => rfl) (by decide) (fun r21 u22 H locs hw hP hD hS => ?_)
      have hP : va_P D vwCl (wd_Mo cA mo mo_dr mo_now mo_first mo_has mo_da mo_dl mo_af mo_al mo_sy mo_dg mo_out mo_tx m_ds u22.1 m_sub m_q m_two m_least m_os m_ts m_fs m_fc m_g m_gs m_dr u22.2 m_first m_has m_da m_dl m_af m_al m_sy m_dg m_out m_tx) H := hP
      have hD : va_D A (wd_Mo cA mo mo_dr mo_now mo_first mo_has mo_da mo_dl mo_af mo_al mo_sy mo_dg mo_out mo_tx m_ds u22.1 m_sub m_q m_two m_least m_os m_ts m_fs m_fc m_g m_gs m_dr u22.2 m_first m_has m_da m_dl m_af m_al m_sy m_dg m_out m_tx) := hD
      exact ct_zret r21 hx hb hr hlk hK hS (u22.1, m_sub, m_q, u22.2, m_first, m_da, m_dl) hw hP hD d_M_step_24
    · have hw := hw.2 hc
      refine lv_iload_n hx hb d_M_step_13 rfl (lv_at hl 1 rfl) ?_
      refine lv_bipush (v := 48) hx hb d_M_step_14 (by decide) ?_
      refine lv_icmp_ne (tgt := 25) hx hb d_M_step_16 rfl (fun hc => ?_) (fun hc => ?_)
      · have hw := hw.1 hc
        refine lv_iload_n hx hb d_M_step_25 rfl (lv_at hl 1 rfl) ?_
        refine lv_bipush (v := 46) hx hb d_M_step_26 (by decide) ?_
        refine lv_icmp_ne (tgt := 38) hx hb d_M_step_28 rfl (fun hc => ?_) (fun hc => ?_)
        · have hw := hw.1 hc
          refine lv_aload_n hx hb d_M_step_38 rfl (lv_at hl 0 rfl) ?_
          refine lv_iload_n hx hb d_M_step_39 rfl (lv_at hl 1 rfl) ?_
          refine lv_iconst (v := 1) hx hb d_M_step_40 (by decide) ?_
          refine ct_callz (wn := fun u24 => wd_Mo cA mo mo_dr mo_now mo_first mo_has mo_da mo_dl mo_af mo_al mo_sy mo_dg mo_out mo_tx m_ds u24.1 m_sub u24.2.1 m_two m_least m_os m_ts m_fs m_fc m_g m_gs m_dr m_now m_first m_has u24.2.2.1 u24.2.2.2 m_af m_al m_sy m_dg m_out m_tx) (va_runV (As := [.int cd, .int 1]) (rest := []) ⟨hx, hb, hml, hown, htb⟩ (c_M_plainAffix l D cA mo mo_dr mo_now mo_first mo_has mo_da mo_dl mo_af mo_al mo_sy mo_dg mo_out mo_tx m_ds m_st m_sub m_q m_two m_least m_os m_ts m_fs m_fc m_g m_gs m_dr m_now m_first m_has m_da m_dl m_af m_al m_sy m_dg m_out m_tx cd 1 _ hw _) (ct_cwV 2 htb tw796 rfl rfl tw82 tw793 tw795 tw44 hd_M_plainAffix ⟨by decide, by decide⟩) (ct_preV hP hD hK hN [0, 1, 2, 3, 4, 5, 6, 7, 8, 9, 10, 11, 12] rfl (by decide) 0 rfl rfl _) rfl rfl hl.1 rfl (lv_room (Nat.le_of_ble_eq_true rfl)) d_M_step_41 ⟨Nat.zero_le _, Nat.zero_le _⟩) hP hD hS hA [0, 1, 2, 3, 4, 5, 6, 7, 8, 9, 10, 11, 12] [] [0, 1, 2, 3, 4, 5, 6, 7, 8, 9, 10, 11, 12] rfl rfl (by decide) (by decide) (fun _ => rfl) (by decide) (fun r23 u24 H locs hw hP hD hS => ?_)
          have hP : va_P D vwCl (wd_Mo cA mo mo_dr mo_now mo_first mo_has mo_da mo_dl mo_af mo_al mo_sy mo_dg mo_out mo_tx m_ds u24.1 m_sub u24.2.1 m_two m_least m_os m_ts m_fs m_fc m_g m_gs m_dr m_now m_first m_has u24.2.2.1 u24.2.2.2 m_af m_al m_sy m_dg m_out m_tx) H := hP
          have hD : va_D A (wd_Mo cA mo mo_dr mo_now mo_first mo_has mo_da mo_dl mo_af mo_al mo_sy mo_dg mo_out mo_tx m_ds u24.1 m_sub u24.2.1 m_two m_least m_os m_ts m_fs m_fc m_g m_gs m_dr m_now m_first m_has u24.2.2.1 u24.2.2.2 m_af m_al m_sy m_dg m_out m_tx) := hD
          exact ct_zret r23 hx hb hr hlk hK hS (u24.1, m_sub, u24.2.1, m_now, m_first, u24.2.2.1, u24.2.2.2) hw hP hD d_M_step_44
        · have hw := hw.2 hc
          refine lv_aload_n hx hb d_M_step_31 rfl (lv_at hl 0 rfl) ?_
          refine lv_iconst (v := 4) hx hb d_M_step_32 (by decide) ?_
          refine va_put (ci := 9) (v := .int 4) (ty := .int) (C := R_Mo) (T := F_Mo) (N := 24) hx hb htb in_Mo t_Mo t_Mo_ok n_Mo hown hK hP hD hS 0 rfl rfl 2 (by decide) (htb _ tw698) (fun _ h9 => h9) rfl (by decide +kernel) rfl rfl (Nat.le_of_ble_eq_true rfl) d_M_step_33 (fun H locs hP hD hS => ?_)
          have hP : va_P D vwCl (wd_Mo cA mo mo_dr mo_now mo_first mo_has mo_da mo_dl mo_af mo_al mo_sy mo_dg mo_out mo_tx m_ds 4 m_sub m_q m_two m_least m_os m_ts m_fs m_fc m_g m_gs m_dr m_now m_first m_has m_da m_dl m_af m_al m_sy m_dg m_out m_tx) H := hP
          have hD : va_D A (wd_Mo cA mo mo_dr mo_now mo_first mo_has mo_da mo_dl mo_af mo_al mo_sy mo_dg mo_out mo_tx m_ds 4 m_sub m_q m_two m_least m_os m_ts m_fs m_fc m_g m_gs m_dr m_now m_first m_has m_da m_dl m_af m_al m_sy m_dg m_out m_tx) := hD
          refine lv_iconst (v := 1) hx hb d_M_step_36 (by decide) ?_
          exact ct_zret true hx hb hr hlk hK hS (4, m_sub, m_q, m_now, m_first, m_da, m_dl) hw hP hD d_M_step_37
      · have hw := hw.2 hc
        refine lv_aload_n hx hb d_M_step_19 rfl (lv_at hl 0 rfl) ?_
        refine lv_iload_n hx hb d_M_step_20 rfl (lv_at hl 1 rfl) ?_
        refine ct_callz (wn := fun u26 => wd_Mo cA mo mo_dr mo_now mo_first mo_has mo_da mo_dl mo_af mo_al mo_sy mo_dg mo_out mo_tx m_ds u26.1 m_sub m_q m_two m_least m_os m_ts m_fs m_fc m_g m_gs m_dr u26.2 m_first m_has m_da m_dl m_af m_al m_sy m_dg m_out m_tx) (va_runV (As := [.int cd]) (rest := []) ⟨hx, hb, hml, hown, htb⟩ (c_M_integerDigit l D cA mo mo_dr mo_now mo_first mo_has mo_da mo_dl mo_af mo_al mo_sy mo_dg mo_out mo_tx m_ds m_st m_sub m_q m_two m_least m_os m_ts m_fs m_fc m_g m_gs m_dr m_now m_first m_has m_da m_dl m_af m_al m_sy m_dg m_out m_tx cd _ hw _) (ct_cwV 1 htb tw792 rfl rfl tw82 tw789 tw791 tw43 hd_M_integerDigit ⟨by decide, by decide⟩) (ct_preV hP hD hK hN [0, 1, 2, 3, 4, 5, 6, 7, 8, 9, 10, 11, 12] rfl (by decide) 0 rfl rfl _) rfl rfl hl.1 rfl (lv_room (Nat.le_of_ble_eq_true rfl)) d_M_step_21 ⟨Nat.zero_le _, Nat.zero_le _⟩) hP hD hS hA [0, 1, 2, 3, 4, 5, 6, 7, 8, 9, 10, 11, 12] [] [0, 1, 2, 3, 4, 5, 6, 7, 8, 9, 10, 11, 12] rfl rfl (by decide) (by decide) (fun _ => rfl) (by decide) (fun r25 u26 H locs hw hP hD hS => ?_)
        have hP : va_P D vwCl (wd_Mo cA mo mo_dr mo_now mo_first mo_has mo_da mo_dl mo_af mo_al mo_sy mo_dg mo_out mo_tx m_ds u26.1 m_sub m_q m_two m_least m_os m_ts m_fs m_fc m_g m_gs m_dr u26.2 m_first m_has m_da m_dl m_af m_al m_sy m_dg m_out m_tx) H := hP
        have hD : va_D A (wd_Mo cA mo mo_dr mo_now mo_first mo_has mo_da mo_dl mo_af mo_al mo_sy mo_dg mo_out mo_tx m_ds u26.1 m_sub m_q m_two m_least m_os m_ts m_fs m_fc m_g m_gs m_dr u26.2 m_first m_has m_da m_dl m_af m_al m_sy m_dg m_out m_tx) := hD
        exact ct_zret r25 hx hb hr hlk hK hS (u26.1, m_sub, m_q, u26.2, m_first, m_da, m_dl) hw hP hD d_M_step_24
