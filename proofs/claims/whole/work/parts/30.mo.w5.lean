/-! DecimalPatternsModel.render(ZJII)Z -/
def wp_M_render_J1870 (m_two : Bool) (m_least : Int32) (m_has : Nat → Int32) (m_af : Nat → Int32) (m_al : Nat → Int32) (m_sy : Nat → Int32) (x6 : Int32) (y0 : Int32) (m_os : Int32) (m_dg : Nat → Int32) (m_out : Nat → Int32) (Q : Bool → (Int32 × (Nat → Int32) × (Nat → Int32)) → Prop) : Prop := wp_M_putAffix m_os m_af m_al m_sy m_out y0 (fun u18 => wp_M_putDigits m_least u18.1 m_has m_sy m_dg u18.2 x6 (fun u20 => vp_in (4 : Int32) 9 ∧ (((m_has (4 : Int32).toNatClampNeg) ≤ 0 → (wp_M_putAffix u20.1 m_af m_al m_sy u20.2 (y0 + 1) (fun u22 => Q true (u22.1, m_dg, u22.2)))) ∧ (¬ (m_has (4 : Int32).toNatClampNeg) ≤ 0 → (wp_M_putExponent u20.1 m_has m_sy u20.2 x6 (fun u24 => wp_M_putAffix u24.1 m_af m_al m_sy u24.2 (y0 + 1) (fun u26 => Q true (u26.1, m_dg, u26.2))))))))
def wp_M_render_J1860 (m_two : Bool) (m_least : Int32) (m_has : Nat → Int32) (m_af : Nat → Int32) (m_al : Nat → Int32) (m_sy : Nat → Int32) (x6 : Int32) (m_os : Int32) (m_dg : Nat → Int32) (m_out : Nat → Int32) (Q : Bool → (Int32 × (Nat → Int32) × (Nat → Int32)) → Prop) : Prop := wp_M_render_J1870 m_two m_least m_has m_af m_al m_sy x6 0 m_os m_dg m_out Q
def wp_M_render_J1710 (m_two : Bool) (m_least : Int32) (m_has : Nat → Int32) (m_af : Nat → Int32) (m_al : Nat → Int32) (m_sy : Nat → Int32) (x1 : Bool) (x6 : Int32) (m_os : Int32) (m_dg : Nat → Int32) (m_out : Nat → Int32) (Q : Bool → (Int32 × (Nat → Int32) × (Nat → Int32)) → Prop) : Prop := (x1 = false → (wp_M_render_J1860 m_two m_least m_has m_af m_al m_sy x6 m_os m_dg m_out Q)) ∧ (x1 = true → ((m_two = false → (wp_M_render_J1860 m_two m_least m_has m_af m_al m_sy x6 m_os m_dg m_out Q)) ∧ (m_two = true → (wp_M_render_J1870 m_two m_least m_has m_af m_al m_sy x6 2 m_os m_dg m_out Q))))
def wp_M_render_J1380 (m_two : Bool) (m_least : Int32) (m_has : Nat → Int32) (m_af : Nat → Int32) (m_al : Nat → Int32) (m_sy : Nat → Int32) (x1 : Bool) (x6 : Int32) (x7 : Bool) (m_os : Int32) (m_dg : Nat → Int32) (m_out : Nat → Int32) (Q : Bool → (Int32 × (Nat → Int32) × (Nat → Int32)) → Prop) : Prop := (x7 = true → ((x1 = false → (wp_M_render_J1710 m_two m_least m_has m_af m_al m_sy x1 x6 0 m_dg m_out Q)) ∧ (x1 = true → ((m_two = true → (wp_M_render_J1710 m_two m_least m_has m_af m_al m_sy x1 x6 0 m_dg m_out Q)) ∧ (m_two = false → (vp_in (2 : Int32) 6 ∧ (wp_M_put 0 m_out (m_sy (2 : Int32).toNatClampNeg) (fun u16 => wp_M_render_J1710 m_two m_least m_has m_af m_al m_sy x1 x6 u16.1 m_dg u16.2 Q)))))))) ∧ (x7 = false → (Q false (m_os, m_dg, m_out)))
def wp_M_render_J1360 (m_two : Bool) (m_least : Int32) (m_has : Nat → Int32) (m_af : Nat → Int32) (m_al : Nat → Int32) (m_sy : Nat → Int32) (x1 : Bool) (x7 : Bool) (y0 : Int32) (m_os : Int32) (m_dg : Nat → Int32) (m_out : Nat → Int32) (Q : Bool → (Int32 × (Nat → Int32) × (Nat → Int32)) → Prop) : Prop := wp_M_render_J1380 m_two m_least m_has m_af m_al m_sy x1 y0 x7 m_os m_dg m_out Q
def wp_M_render (m_two : Bool) (m_least : Int32) (m_os : Int32) (m_has : Nat → Int32) (m_af : Nat → Int32) (m_al : Nat → Int32) (m_sy : Nat → Int32) (m_dg : Nat → Int32) (m_out : Nat → Int32) (ng : Bool) (un : Int64) (sl : Int32) (md : Int32) (Q : Bool → (Int32 × (Nat → Int32) × (Nat → Int32)) → Prop) : Prop := wp_M_load m_af m_al m_dg un sl (fun u2 => vp_in (4 : Int32) 9 ∧ ((¬ (m_has (4 : Int32).toNatClampNeg) = 0 → (wp_M_top u2 (fun r3 u4 => (¬ r3 = (-100) → (wp_M_top u2 (fun r5 u6 => vp_in (1 : Int32) 9 ∧ (vp_in (2 : Int32) 9 ∧ (wp_M_round u2 md ng (((r5 - (m_has (1 : Int32).toNatClampNeg)) - (m_has (2 : Int32).toNatClampNeg)) + 1) (fun r7 u8 => wp_M_top u8 (fun r9 u10 => vp_in (0 : Int32) 9 ∧ (vp_in (1 : Int32) 9 ∧ (vp_in (0 : Int32) 9 ∧ ((¬ (m_has (0 : Int32).toNatClampNeg) = 0 → (wp_M_floorOf r9 ((m_has (0 : Int32).toNatClampNeg) + (m_has (1 : Int32).toNatClampNeg)) (fun r11 u12 => wp_M_render_J1360 m_two m_least m_has m_af m_al m_sy ng r7 (r11 * ((m_has (0 : Int32).toNatClampNeg) + (m_has (1 : Int32).toNatClampNeg))) m_os u8 m_out Q))) ∧ ((m_has (0 : Int32).toNatClampNeg) = 0 → (vp_in (1 : Int32) 9 ∧ (wp_M_render_J1360 m_two m_least m_has m_af m_al m_sy ng r7 ((r9 - (m_has (1 : Int32).toNatClampNeg)) + 1) m_os u8 m_out Q))))))))))))) ∧ (r3 = (-100) → (wp_M_render_J1380 m_two m_least m_has m_af m_al m_sy ng 0 true m_os u2 m_out Q))))) ∧ ((m_has (4 : Int32).toNatClampNeg) = 0 → (vp_in (2 : Int32) 9 ∧ (wp_M_round u2 md ng (-(m_has (2 : Int32).toNatClampNeg)) (fun r13 u14 => wp_M_render_J1380 m_two m_least m_has m_af m_al m_sy ng 0 r13 m_os u14 m_out Q))))))
set_option maxHeartbeats 4000000 in
set_option maxRecDepth 100000 in
theorem c_M_render (l : Launch) (D : va_G) (cA : ClassId) (mo mo_dr mo_now mo_first mo_has mo_da mo_dl mo_af mo_al mo_sy mo_dg mo_out mo_tx : Nat) (m_ds : Int32) (m_st : Int32) (m_sub : Int32) (m_q : Int32) (m_two : Bool) (m_least : Int32) (m_os : Int32) (m_ts : Int32) (m_fs : Int64) (m_fc : Int32) (m_g : Int64) (m_gs : Int32) (m_dr : Nat → Int32) (m_now : Nat → Int32) (m_first : Nat → Int32) (m_has : Nat → Int32) (m_da : Nat → Int32) (m_dl : Nat → Int32) (m_af : Nat → Int32) (m_al : Nat → Int32) (m_sy : Nat → Int32) (m_dg : Nat → Int32) (m_out : Nat → Int32) (m_tx : Nat → Int32) (ng : Bool) (un : Int64) (sl : Int32) (md : Int32) (Q : Bool → (Int32 × (Nat → Int32) × (Nat → Int32)) → Prop) (hw : wp_M_render m_two m_least m_os m_has m_af m_al m_sy m_dg m_out ng un sl md Q) : ct_M vwCl l D [(cA, .int)] y_M_render w_M_render { frames := 4, cells := 0, slots := 0, locals := 94 } [.ref mo, .int (bI ng), .long un, .int sl, .int md] (wd_Mo cA mo mo_dr mo_now mo_first mo_has mo_da mo_dl mo_af mo_al mo_sy mo_dg mo_out mo_tx m_ds m_st m_sub m_q m_two m_least m_os m_ts m_fs m_fc m_g m_gs m_dr m_now m_first m_has m_da m_dl m_af m_al m_sy m_dg m_out m_tx) (ct_qz vwCl D [(cA, .int)] Q (fun u => wd_Mo cA mo mo_dr mo_now mo_first mo_has mo_da mo_dl mo_af mo_al mo_sy mo_dg mo_out mo_tx m_ds m_st m_sub m_q m_two m_least u.1 m_ts m_fs m_fc m_g m_gs m_dr m_now m_first m_has m_da m_dl m_af m_al m_sy u.2.1 u.2.2 m_tx)) := by
  refine ct_enter (cc := b_M_render) (maxL := 10) (ret := (some .boolean)) (by decide) rfl (Nat.le_of_ble_eq_true rfl) ?_
  intro p e s m args below meth c A ls hx hb hr hlk hml hts hown hA hS hP hK hN hD hl
  have hl : lv_has ls 10 [(0, .ref mo), (1, .int (bI ng)), (2, .long un), (4, .int sl), (5, .int md)] := hl
  have htb : ∀ w ∈ tbl, w.before args s = true := fun w h => hts w (List.mem_cons_of_mem _ h)
  have hown : s.vm.findClass "DecimalPatternsModel" = some m.cls := hown
  unfold wp_M_render at hw
  have hJ1870 : ∀ (x6 : Int32) (y0 : Int32) (m_os : Int32) (m_dg : Nat → Int32) (m_out : Nat → Int32) (H : Heap) (locs : List Loc) (ls : Array Slot), lv_has ls 10 [(0, .ref mo), (6, .int x6)] → va_P D vwCl (wd_Mo cA mo mo_dr mo_now mo_first mo_has mo_da mo_dl mo_af mo_al mo_sy mo_dg mo_out mo_tx m_ds m_st m_sub m_q m_two m_least m_os m_ts m_fs m_fc m_g m_gs m_dr m_now m_first m_has m_da m_dl m_af m_al m_sy m_dg m_out m_tx) H → va_D A (wd_Mo cA mo mo_dr mo_now mo_first mo_has mo_da mo_dl mo_af mo_al mo_sy mo_dg mo_out mo_tx m_ds m_st m_sub m_q m_two m_least m_os m_ts m_fs m_fc m_g m_gs m_dr m_now m_first m_has m_da m_dl m_af m_al m_sy m_dg m_out m_tx) → va_S A s.heap H locs → wp_M_render_J1870 m_two m_least m_has m_af m_al m_sy x6 y0 m_os m_dg m_out Q → W p l e { frames := 4, cells := 0, slots := 0, locals := 94 } s m args below meth c H locs 0 0 (MQ below (ct_qz vwCl D [(cA, .int)] Q (fun u => wd_Mo cA mo mo_dr mo_now mo_first mo_has mo_da mo_dl mo_af mo_al mo_sy mo_dg mo_out mo_tx m_ds m_st m_sub m_q m_two m_least u.1 m_ts m_fs m_fc m_g m_gs m_dr m_now m_first m_has m_da m_dl m_af m_al m_sy u.2.1 u.2.2 m_tx) A) args s 0 0 A) (F0 m 187 ls [.int y0]) := by
    intro x6 y0 m_os m_dg m_out H locs ls hl hP hD hS hw
    unfold wp_M_render_J1870 at hw
    refine lv_istore (lv' := [(8, .int y0), (0, .ref mo), (6, .int x6)]) hx hb d_M_render_187 hl (by decide) rfl (fun ls hl => ?_)
    refine lv_aload_n hx hb d_M_render_189 rfl (lv_at hl 1 rfl) ?_
    refine lv_iload hx hb d_M_render_190 (lv_at hl 0 rfl) ?_
    refine ct_callv (wn := fun u18 => wd_Mo cA mo mo_dr mo_now mo_first mo_has mo_da mo_dl mo_af mo_al mo_sy mo_dg mo_out mo_tx m_ds m_st m_sub m_q m_two m_least u18.1 m_ts m_fs m_fc m_g m_gs m_dr m_now m_first m_has m_da m_dl m_af m_al m_sy m_dg u18.2 m_tx) (va_runV (As := [.int y0]) (rest := []) ⟨hx, hb, hml, hown, htb⟩ (c_M_putAffix l D cA mo mo_dr mo_now mo_first mo_has mo_da mo_dl mo_af mo_al mo_sy mo_dg mo_out mo_tx m_ds m_st m_sub m_q m_two m_least m_os m_ts m_fs m_fc m_g m_gs m_dr m_now m_first m_has m_da m_dl m_af m_al m_sy m_dg m_out m_tx y0 _ hw _) (ct_cwV 1 htb tw886 rfl rfl tw82 tw883 tw885 tw61 hd_M_putAffix ⟨by decide, by decide⟩) (ct_preV hP hD hK hN [0, 1, 2, 3, 4, 5, 6, 7, 8, 9, 10, 11, 12] rfl (by decide) 0 rfl rfl _) rfl rfl hl.1 rfl (lv_room (Nat.le_of_ble_eq_true rfl)) d_M_render_192 ⟨Nat.zero_le _, Nat.zero_le _⟩) hP hD hS hA [0, 1, 2, 3, 4, 5, 6, 7, 8, 9, 10, 11, 12] [] [0, 1, 2, 3, 4, 5, 6, 7, 8, 9, 10, 11, 12] rfl rfl (by decide) (by decide) (fun _ => rfl) (by decide) (fun u18 H locs hw hP hD hS => ?_)
    have hP : va_P D vwCl (wd_Mo cA mo mo_dr mo_now mo_first mo_has mo_da mo_dl mo_af mo_al mo_sy mo_dg mo_out mo_tx m_ds m_st m_sub m_q m_two m_least u18.1 m_ts m_fs m_fc m_g m_gs m_dr m_now m_first m_has m_da m_dl m_af m_al m_sy m_dg u18.2 m_tx) H := hP
    have hD : va_D A (wd_Mo cA mo mo_dr mo_now mo_first mo_has mo_da mo_dl mo_af mo_al mo_sy mo_dg mo_out mo_tx m_ds m_st m_sub m_q m_two m_least u18.1 m_ts m_fs m_fc m_g m_gs m_dr m_now m_first m_has m_da m_dl m_af m_al m_sy m_dg u18.2 m_tx) := hD
    refine lv_aload_n hx hb d_M_render_195 rfl (lv_at hl 1 rfl) ?_
    refine lv_iload hx hb d_M_render_196 (lv_at hl 2 rfl) ?_
    refine ct_callv (wn := fun u20 => wd_Mo cA mo mo_dr mo_now mo_first mo_has mo_da mo_dl mo_af mo_al mo_sy mo_dg mo_out mo_tx m_ds m_st m_sub m_q m_two m_least u20.1 m_ts m_fs m_fc m_g m_gs m_dr m_now m_first m_has m_da m_dl m_af m_al m_sy m_dg u20.2 m_tx) (va_runV (As := [.int x6]) (rest := []) ⟨hx, hb, hml, hown, htb⟩ (c_M_putDigits l D cA mo mo_dr mo_now mo_first mo_has mo_da mo_dl mo_af mo_al mo_sy mo_dg mo_out mo_tx m_ds m_st m_sub m_q m_two m_least u18.1 m_ts m_fs m_fc m_g m_gs m_dr m_now m_first m_has m_da m_dl m_af m_al m_sy m_dg u18.2 m_tx x6 _ hw _) (ct_cwV 1 htb tw890 rfl rfl tw82 tw887 tw889 tw62 hd_M_putDigits ⟨by decide, by decide⟩) (ct_preV hP hD hK hN [0, 1, 2, 3, 4, 5, 6, 7, 8, 9, 10, 11, 12] rfl (by decide) 0 rfl rfl _) rfl rfl hl.1 rfl (lv_room (Nat.le_of_ble_eq_true rfl)) d_M_render_198 ⟨Nat.zero_le _, Nat.zero_le _⟩) hP hD hS hA [0, 1, 2, 3, 4, 5, 6, 7, 8, 9, 10, 11, 12] [] [0, 1, 2, 3, 4, 5, 6, 7, 8, 9, 10, 11, 12] rfl rfl (by decide) (by decide) (fun _ => rfl) (by decide) (fun u20 H locs hw hP hD hS => ?_)
    have hP : va_P D vwCl (wd_Mo cA mo mo_dr mo_now mo_first mo_has mo_da mo_dl mo_af mo_al mo_sy mo_dg mo_out mo_tx m_ds m_st m_sub m_q m_two m_least u20.1 m_ts m_fs m_fc m_g m_gs m_dr m_now m_first m_has m_da m_dl m_af m_al m_sy m_dg u20.2 m_tx) H := hP
    have hD : va_D A (wd_Mo cA mo mo_dr mo_now mo_first mo_has mo_da mo_dl mo_af mo_al mo_sy mo_dg mo_out mo_tx m_ds m_st m_sub m_q m_two m_least u20.1 m_ts m_fs m_fc m_g m_gs m_dr m_now m_first m_has m_da m_dl m_af m_al m_sy m_dg u20.2 m_tx) := hD
    refine lv_aload_n hx hb d_M_render_201 rfl (lv_at hl 1 rfl) ?_
    refine va_get (ci := 9) (C := R_Mo) (T := F_Mo) (N := 24) hx hb htb in_Mo hown hK hP 0 rfl rfl 7 (by decide) (htb _ tw703) (fun _ h9 => h9) rfl d_M_render_202 ?_
    refine lv_iconst (v := 4) hx hb d_M_render_205 (by decide) ?_
    have hi := hw.1
    have hw := hw.2
    refine va_iald hx hb hK hP 4 0 rfl rfl hi d_M_render_206 ?_
    refine lv_if_le (tgt := 216) hx hb d_M_render_207 rfl (fun hc => ?_) (fun hc => ?_)
    · have hw := hw.1 hc
      refine lv_aload_n hx hb d_M_render_216 rfl (lv_at hl 1 rfl) ?_
      refine lv_iload hx hb d_M_render_217 (lv_at hl 0 rfl) ?_
      refine lv_iconst (v := 1) hx hb d_M_render_219 (by decide) ?_
      refine lv_iadd hx hb d_M_render_220 ?_
      refine ct_callv (wn := fun u22 => wd_Mo cA mo mo_dr mo_now mo_first mo_has mo_da mo_dl mo_af mo_al mo_sy mo_dg mo_out mo_tx m_ds m_st m_sub m_q m_two m_least u22.1 m_ts m_fs m_fc m_g m_gs m_dr m_now m_first m_has m_da m_dl m_af m_al m_sy m_dg u22.2 m_tx) (va_runV (As := [.int (y0 + 1)]) (rest := []) ⟨hx, hb, hml, hown, htb⟩ (c_M_putAffix l D cA mo mo_dr mo_now mo_first mo_has mo_da mo_dl mo_af mo_al mo_sy mo_dg mo_out mo_tx m_ds m_st m_sub m_q m_two m_least u20.1 m_ts m_fs m_fc m_g m_gs m_dr m_now m_first m_has m_da m_dl m_af m_al m_sy m_dg u20.2 m_tx (y0 + 1) _ hw _) (ct_cwV 1 htb tw886 rfl rfl tw82 tw883 tw885 tw61 hd_M_putAffix ⟨by decide, by decide⟩) (ct_preV hP hD hK hN [0, 1, 2, 3, 4, 5, 6, 7, 8, 9, 10, 11, 12] rfl (by decide) 0 rfl rfl _) rfl rfl hl.1 rfl (lv_room (Nat.le_of_ble_eq_true rfl)) d_M_render_221 ⟨Nat.zero_le _, Nat.zero_le _⟩) hP hD hS hA [0, 1, 2, 3, 4, 5, 6, 7, 8, 9, 10, 11, 12] [] [0, 1, 2, 3, 4, 5, 6, 7, 8, 9, 10, 11, 12] rfl rfl (by decide) (by decide) (fun _ => rfl) (by decide) (fun u22 H locs hw hP hD hS => ?_)
      have hP : va_P D vwCl (wd_Mo cA mo mo_dr mo_now mo_first mo_has mo_da mo_dl mo_af mo_al mo_sy mo_dg mo_out mo_tx m_ds m_st m_sub m_q m_two m_least u22.1 m_ts m_fs m_fc m_g m_gs m_dr m_now m_first m_has m_da m_dl m_af m_al m_sy m_dg u22.2 m_tx) H := hP
      have hD : va_D A (wd_Mo cA mo mo_dr mo_now mo_first mo_has mo_da mo_dl mo_af mo_al mo_sy mo_dg mo_out mo_tx m_ds m_st m_sub m_q m_two m_least u22.1 m_ts m_fs m_fc m_g m_gs m_dr m_now m_first m_has m_da m_dl m_af m_al m_sy m_dg u22.2 m_tx) := hD
      refine lv_iconst (v := 1) hx hb d_M_render_224 (by decide) ?_
      exact ct_zret true hx hb hr hlk hK hS (u22.1, m_dg, u22.2) hw hP hD d_M_render_225
    · have hw := hw.2 hc
      refine lv_aload_n hx hb d_M_render_210 rfl (lv_at hl 1 rfl) ?_
      refine lv_iload hx hb d_M_render_211 (lv_at hl 2 rfl) ?_
      refine ct_callv (wn := fun u24 => wd_Mo cA mo mo_dr mo_now mo_first mo_has mo_da mo_dl mo_af mo_al mo_sy mo_dg mo_out mo_tx m_ds m_st m_sub m_q m_two m_least u24.1 m_ts m_fs m_fc m_g m_gs m_dr m_now m_first m_has m_da m_dl m_af m_al m_sy m_dg u24.2 m_tx) (va_runV (As := [.int x6]) (rest := []) ⟨hx, hb, hml, hown, htb⟩ (c_M_putExponent l D cA mo mo_dr mo_now mo_first mo_has mo_da mo_dl mo_af mo_al mo_sy mo_dg mo_out mo_tx m_ds m_st m_sub m_q m_two m_least u20.1 m_ts m_fs m_fc m_g m_gs m_dr m_now m_first m_has m_da m_dl m_af m_al m_sy m_dg u20.2 m_tx x6 _ hw _) (ct_cwV 1 htb tw898 rfl rfl tw82 tw895 tw897 tw64 hd_M_putExponent ⟨by decide, by decide⟩) (ct_preV hP hD hK hN [0, 1, 2, 3, 4, 5, 6, 7, 8, 9, 10, 11, 12] rfl (by decide) 0 rfl rfl _) rfl rfl hl.1 rfl (lv_room (Nat.le_of_ble_eq_true rfl)) d_M_render_213 ⟨Nat.zero_le _, Nat.zero_le _⟩) hP hD hS hA [0, 1, 2, 3, 4, 5, 6, 7, 8, 9, 10, 11, 12] [] [0, 1, 2, 3, 4, 5, 6, 7, 8, 9, 10, 11, 12] rfl rfl (by decide) (by decide) (fun _ => rfl) (by decide) (fun u24 H locs hw hP hD hS => ?_)
      have hP : va_P D vwCl (wd_Mo cA mo mo_dr mo_now mo_first mo_has mo_da mo_dl mo_af mo_al mo_sy mo_dg mo_out mo_tx m_ds m_st m_sub m_q m_two m_least u24.1 m_ts m_fs m_fc m_g m_gs m_dr m_now m_first m_has m_da m_dl m_af m_al m_sy m_dg u24.2 m_tx) H := hP
      have hD : va_D A (wd_Mo cA mo mo_dr mo_now mo_first mo_has mo_da mo_dl mo_af mo_al mo_sy mo_dg mo_out mo_tx m_ds m_st m_sub m_q m_two m_least u24.1 m_ts m_fs m_fc m_g m_gs m_dr m_now m_first m_has m_da m_dl m_af m_al m_sy m_dg u24.2 m_tx) := hD
      refine lv_aload_n hx hb d_M_render_216 rfl (lv_at hl 1 rfl) ?_
      refine lv_iload hx hb d_M_render_217 (lv_at hl 0 rfl) ?_
      refine lv_iconst (v := 1) hx hb d_M_render_219 (by decide) ?_
      refine lv_iadd hx hb d_M_render_220 ?_
      refine ct_callv (wn := fun u26 => wd_Mo cA mo mo_dr mo_now mo_first mo_has mo_da mo_dl mo_af mo_al mo_sy mo_dg mo_out mo_tx m_ds m_st m_sub m_q m_two m_least u26.1 m_ts m_fs m_fc m_g m_gs m_dr m_now m_first m_has m_da m_dl m_af m_al m_sy m_dg u26.2 m_tx) (va_runV (As := [.int (y0 + 1)]) (rest := []) ⟨hx, hb, hml, hown, htb⟩ (c_M_putAffix l D cA mo mo_dr mo_now mo_first mo_has mo_da mo_dl mo_af mo_al mo_sy mo_dg mo_out mo_tx m_ds m_st m_sub m_q m_two m_least u24.1 m_ts m_fs m_fc m_g m_gs m_dr m_now m_first m_has m_da m_dl m_af m_al m_sy m_dg u24.2 m_tx (y0 + 1) _ hw _) (ct_cwV 1 htb tw886 rfl rfl tw82 tw883 tw885 tw61 hd_M_putAffix ⟨by decide, by decide⟩) (ct_preV hP hD hK hN [0, 1, 2, 3, 4, 5, 6, 7, 8, 9, 10, 11, 12] rfl (by decide) 0 rfl rfl _) rfl rfl hl.1 rfl (lv_room (Nat.le_of_ble_eq_true rfl)) d_M_render_221 ⟨Nat.zero_le _, Nat.zero_le _⟩) hP hD hS hA [0, 1, 2, 3, 4, 5, 6, 7, 8, 9, 10, 11, 12] [] [0, 1, 2, 3, 4, 5, 6, 7, 8, 9, 10, 11, 12] rfl rfl (by decide) (by decide) (fun _ => rfl) (by decide) (fun u26 H locs hw hP hD hS => ?_)
      have hP : va_P D vwCl (wd_Mo cA mo mo_dr mo_now mo_first mo_has mo_da mo_dl mo_af mo_al mo_sy mo_dg mo_out mo_tx m_ds m_st m_sub m_q m_two m_least u26.1 m_ts m_fs m_fc m_g m_gs m_dr m_now m_first m_has m_da m_dl m_af m_al m_sy m_dg u26.2 m_tx) H := hP
      have hD : va_D A (wd_Mo cA mo mo_dr mo_now mo_first mo_has mo_da mo_dl mo_af mo_al mo_sy mo_dg mo_out mo_tx m_ds m_st m_sub m_q m_two m_least u26.1 m_ts m_fs m_fc m_g m_gs m_dr m_now m_first m_has m_da m_dl m_af m_al m_sy m_dg u26.2 m_tx) := hD
      refine lv_iconst (v := 1) hx hb d_M_render_224 (by decide) ?_
      exact ct_zret true hx hb hr hlk hK hS (u26.1, m_dg, u26.2) hw hP hD d_M_render_225
  have hJ1860 : ∀ (x6 : Int32) (m_os : Int32) (m_dg : Nat → Int32) (m_out : Nat → Int32) (H : Heap) (locs : List Loc) (ls : Array Slot), lv_has ls 10 [(0, .ref mo), (6, .int x6)] → va_P D vwCl (wd_Mo cA mo mo_dr mo_now mo_first mo_has mo_da mo_dl mo_af mo_al mo_sy mo_dg mo_out mo_tx m_ds m_st m_sub m_q m_two m_least m_os m_ts m_fs m_fc m_g m_gs m_dr m_now m_first m_has m_da m_dl m_af m_al m_sy m_dg m_out m_tx) H → va_D A (wd_Mo cA mo mo_dr mo_now mo_first mo_has mo_da mo_dl mo_af mo_al mo_sy mo_dg mo_out mo_tx m_ds m_st m_sub m_q m_two m_least m_os m_ts m_fs m_fc m_g m_gs m_dr m_now m_first m_has m_da m_dl m_af m_al m_sy m_dg m_out m_tx) → va_S A s.heap H locs → wp_M_render_J1860 m_two m_least m_has m_af m_al m_sy x6 m_os m_dg m_out Q → W p l e { frames := 4, cells := 0, slots := 0, locals := 94 } s m args below meth c H locs 0 0 (MQ below (ct_qz vwCl D [(cA, .int)] Q (fun u => wd_Mo cA mo mo_dr mo_now mo_first mo_has mo_da mo_dl mo_af mo_al mo_sy mo_dg mo_out mo_tx m_ds m_st m_sub m_q m_two m_least u.1 m_ts m_fs m_fc m_g m_gs m_dr m_now m_first m_has m_da m_dl m_af m_al m_sy u.2.1 u.2.2 m_tx) A) args s 0 0 A) (F0 m 186 ls []) := by
    intro x6 m_os m_dg m_out H locs ls hl hP hD hS hw
    unfold wp_M_render_J1860 at hw
    refine lv_iconst (v := 0) hx hb d_M_render_186 (by decide) ?_
    exact hJ1870 x6 0 m_os m_dg m_out _ _ _ (lv_sub hl [0, 1] rfl) hP hD hS hw
  have hJ1710 : ∀ (x1 : Bool) (x6 : Int32) (m_os : Int32) (m_dg : Nat → Int32) (m_out : Nat → Int32) (H : Heap) (locs : List Loc) (ls : Array Slot), lv_has ls 10 [(0, .ref mo), (1, .int (bI x1)), (6, .int x6)] → va_P D vwCl (wd_Mo cA mo mo_dr mo_now mo_first mo_has mo_da mo_dl mo_af mo_al mo_sy mo_dg mo_out mo_tx m_ds m_st m_sub m_q m_two m_least m_os m_ts m_fs m_fc m_g m_gs m_dr m_now m_first m_has m_da m_dl m_af m_al m_sy m_dg m_out m_tx) H → va_D A (wd_Mo cA mo mo_dr mo_now mo_first mo_has mo_da mo_dl mo_af mo_al mo_sy mo_dg mo_out mo_tx m_ds m_st m_sub m_q m_two m_least m_os m_ts m_fs m_fc m_g m_gs m_dr m_now m_first m_has m_da m_dl m_af m_al m_sy m_dg m_out m_tx) → va_S A s.heap H locs → wp_M_render_J1710 m_two m_least m_has m_af m_al m_sy x1 x6 m_os m_dg m_out Q → W p l e { frames := 4, cells := 0, slots := 0, locals := 94 } s m args below meth c H locs 0 0 (MQ below (ct_qz vwCl D [(cA, .int)] Q (fun u => wd_Mo cA mo mo_dr mo_now mo_first mo_has mo_da mo_dl mo_af mo_al mo_sy mo_dg mo_out mo_tx m_ds m_st m_sub m_q m_two m_least u.1 m_ts m_fs m_fc m_g m_gs m_dr m_now m_first m_has m_da m_dl m_af m_al m_sy u.2.1 u.2.2 m_tx) A) args s 0 0 A) (F0 m 171 ls []) := by
    intro x1 x6 m_os m_dg m_out H locs ls hl hP hD hS hw
    unfold wp_M_render_J1710 at hw
    refine lv_iload_n hx hb d_M_render_171 rfl (lv_at hl 1 rfl) ?_
    refine lv_if_eq (tgt := 186) hx hb d_M_render_172 rfl (fun hc => ?_) (fun hc => ?_)
    · have hw := hw.1 ((bI_0 _).mp hc)
      exact hJ1860 x6 m_os m_dg m_out _ _ _ (lv_sub hl [0, 2] rfl) hP hD hS hw
    · have hw := hw.2 ((bI_n0 _).mp hc)
      refine lv_aload_n hx hb d_M_render_175 rfl (lv_at hl 0 rfl) ?_
      refine va_get (ci := 9) (C := R_Mo) (T := F_Mo) (N := 24) hx hb htb in_Mo hown hK hP 0 rfl rfl 12 (by decide) (htb _ tw708) (fun _ h9 => h9) rfl d_M_render_176 ?_
      refine lv_if_eq (tgt := 186) hx hb d_M_render_179 rfl (fun hc => ?_) (fun hc => ?_)
      · have hw := hw.1 ((bI_0 _).mp hc)
        exact hJ1860 x6 m_os m_dg m_out _ _ _ (lv_sub hl [0, 2] rfl) hP hD hS hw
      · have hw := hw.2 ((bI_n0 _).mp hc)
        refine lv_iconst (v := 2) hx hb d_M_render_182 (by decide) ?_
        refine lv_goto (tgt := 187) hx hb d_M_render_183 rfl ?_
        exact hJ1870 x6 2 m_os m_dg m_out _ _ _ (lv_sub hl [0, 2] rfl) hP hD hS hw
  have hJ1380 : ∀ (x1 : Bool) (x6 : Int32) (x7 : Bool) (m_os : Int32) (m_dg : Nat → Int32) (m_out : Nat → Int32) (H : Heap) (locs : List Loc) (ls : Array Slot), lv_has ls 10 [(0, .ref mo), (1, .int (bI x1)), (6, .int x6), (7, .int (bI x7))] → va_P D vwCl (wd_Mo cA mo mo_dr mo_now mo_first mo_has mo_da mo_dl mo_af mo_al mo_sy mo_dg mo_out mo_tx m_ds m_st m_sub m_q m_two m_least m_os m_ts m_fs m_fc m_g m_gs m_dr m_now m_first m_has m_da m_dl m_af m_al m_sy m_dg m_out m_tx) H → va_D A (wd_Mo cA mo mo_dr mo_now mo_first mo_has mo_da mo_dl mo_af mo_al mo_sy mo_dg mo_out mo_tx m_ds m_st m_sub m_q m_two m_least m_os m_ts m_fs m_fc m_g m_gs m_dr m_now m_first m_has m_da m_dl m_af m_al m_sy m_dg m_out m_tx) → va_S A s.heap H locs → wp_M_render_J1380 m_two m_least m_has m_af m_al m_sy x1 x6 x7 m_os m_dg m_out Q → W p l e { frames := 4, cells := 0, slots := 0, locals := 94 } s m args below meth c H locs 0 0 (MQ below (ct_qz vwCl D [(cA, .int)] Q (fun u => wd_Mo cA mo mo_dr mo_now mo_first mo_has mo_da mo_dl mo_af mo_al mo_sy mo_dg mo_out mo_tx m_ds m_st m_sub m_q m_two m_least u.1 m_ts m_fs m_fc m_g m_gs m_dr m_now m_first m_has m_da m_dl m_af m_al m_sy u.2.1 u.2.2 m_tx) A) args s 0 0 A) (F0 m 138 ls []) := by
    intro x1 x6 x7 m_os m_dg m_out H locs ls hl hP hD hS hw
    unfold wp_M_render_J1380 at hw
    refine lv_iload hx hb d_M_render_138 (lv_at hl 3 rfl) ?_
    refine lv_if_ne (tgt := 145) hx hb d_M_render_140 rfl (fun hc => ?_) (fun hc => ?_)
    · have hw := hw.1 ((bI_n0 _).mp hc)
      refine lv_aload_n hx hb d_M_render_145 rfl (lv_at hl 0 rfl) ?_
      refine lv_iconst (v := 0) hx hb d_M_render_146 (by decide) ?_
      refine va_put (ci := 9) (v := .int 0) (ty := .int) (C := R_Mo) (T := F_Mo) (N := 24) hx hb htb in_Mo t_Mo t_Mo_ok n_Mo hown hK hP hD hS 0 rfl rfl 17 (by decide) (htb _ tw713) (fun _ h9 => h9) rfl (by decide +kernel) rfl rfl (Nat.le_of_ble_eq_true rfl) d_M_render_147 (fun H locs hP hD hS => ?_)
      have hP : va_P D vwCl (wd_Mo cA mo mo_dr mo_now mo_first mo_has mo_da mo_dl mo_af mo_al mo_sy mo_dg mo_out mo_tx m_ds m_st m_sub m_q m_two m_least 0 m_ts m_fs m_fc m_g m_gs m_dr m_now m_first m_has m_da m_dl m_af m_al m_sy m_dg m_out m_tx) H := hP
      have hD : va_D A (wd_Mo cA mo mo_dr mo_now mo_first mo_has mo_da mo_dl mo_af mo_al mo_sy mo_dg mo_out mo_tx m_ds m_st m_sub m_q m_two m_least 0 m_ts m_fs m_fc m_g m_gs m_dr m_now m_first m_has m_da m_dl m_af m_al m_sy m_dg m_out m_tx) := hD
      refine lv_iload_n hx hb d_M_render_150 rfl (lv_at hl 1 rfl) ?_
      refine lv_if_eq (tgt := 171) hx hb d_M_render_151 rfl (fun hc => ?_) (fun hc => ?_)
      · have hw := hw.1 ((bI_0 _).mp hc)
        exact hJ1710 x1 x6 0 m_dg m_out _ _ _ (lv_sub hl [0, 1, 2] rfl) hP hD hS hw
      · have hw := hw.2 ((bI_n0 _).mp hc)
        refine lv_aload_n hx hb d_M_render_154 rfl (lv_at hl 0 rfl) ?_
        refine va_get (ci := 9) (C := R_Mo) (T := F_Mo) (N := 24) hx hb htb in_Mo hown hK hP 0 rfl rfl 12 (by decide) (htb _ tw708) (fun _ h9 => h9) rfl d_M_render_155 ?_
        refine lv_if_ne (tgt := 171) hx hb d_M_render_158 rfl (fun hc => ?_) (fun hc => ?_)
        · have hw := hw.1 ((bI_n0 _).mp hc)
          exact hJ1710 x1 x6 0 m_dg m_out _ _ _ (lv_sub hl [0, 1, 2] rfl) hP hD hS hw
        · have hw := hw.2 ((bI_0 _).mp hc)
          refine lv_aload_n hx hb d_M_render_161 rfl (lv_at hl 0 rfl) ?_
          refine lv_aload_n hx hb d_M_render_162 rfl (lv_at hl 0 rfl) ?_
          refine va_get (ci := 9) (C := R_Mo) (T := F_Mo) (N := 24) hx hb htb in_Mo hown hK hP 0 rfl rfl 13 (by decide) (htb _ tw709) (fun _ h9 => h9) rfl d_M_render_163 ?_
          refine lv_iconst (v := 2) hx hb d_M_render_166 (by decide) ?_
          have hi := hw.1
          have hw := hw.2
          refine va_iald hx hb hK hP 9 0 rfl rfl hi d_M_render_167 ?_
          refine ct_callv (wn := fun u16 => wd_Mo cA mo mo_dr mo_now mo_first mo_has mo_da mo_dl mo_af mo_al mo_sy mo_dg mo_out mo_tx m_ds m_st m_sub m_q m_two m_least u16.1 m_ts m_fs m_fc m_g m_gs m_dr m_now m_first m_has m_da m_dl m_af m_al m_sy m_dg u16.2 m_tx) (va_runV (As := [.int (m_sy (2 : Int32).toNatClampNeg)]) (rest := []) ⟨hx, hb, hml, hown, htb⟩ (c_M_put l D cA mo mo_dr mo_now mo_first mo_has mo_da mo_dl mo_af mo_al mo_sy mo_dg mo_out mo_tx m_ds m_st m_sub m_q m_two m_least 0 m_ts m_fs m_fc m_g m_gs m_dr m_now m_first m_has m_da m_dl m_af m_al m_sy m_dg m_out m_tx (m_sy (2 : Int32).toNatClampNeg) _ hw _) (ct_cwV 1 htb tw882 rfl rfl tw82 tw879 tw881 tw60 hd_M_put ⟨by decide, by decide⟩) (ct_preV hP hD hK hN [0, 1, 2, 3, 4, 5, 6, 7, 8, 9, 10, 11, 12] rfl (by decide) 0 rfl rfl _) rfl rfl hl.1 rfl (lv_room (Nat.le_of_ble_eq_true rfl)) d_M_render_168 ⟨Nat.zero_le _, Nat.zero_le _⟩) hP hD hS hA [0, 1, 2, 3, 4, 5, 6, 7, 8, 9, 10, 11, 12] [] [0, 1, 2, 3, 4, 5, 6, 7, 8, 9, 10, 11, 12] rfl rfl (by decide) (by decide) (fun _ => rfl) (by decide) (fun u16 H locs hw hP hD hS => ?_)
          have hP : va_P D vwCl (wd_Mo cA mo mo_dr mo_now mo_first mo_has mo_da mo_dl mo_af mo_al mo_sy mo_dg mo_out mo_tx m_ds m_st m_sub m_q m_two m_least u16.1 m_ts m_fs m_fc m_g m_gs m_dr m_now m_first m_has m_da m_dl m_af m_al m_sy m_dg u16.2 m_tx) H := hP
          have hD : va_D A (wd_Mo cA mo mo_dr mo_now mo_first mo_has mo_da mo_dl mo_af mo_al mo_sy mo_dg mo_out mo_tx m_ds m_st m_sub m_q m_two m_least u16.1 m_ts m_fs m_fc m_g m_gs m_dr m_now m_first m_has m_da m_dl m_af m_al m_sy m_dg u16.2 m_tx) := hD
          exact hJ1710 x1 x6 u16.1 m_dg u16.2 _ _ _ (lv_sub hl [0, 1, 2] rfl) hP hD hS hw
    · have hw := hw.2 ((bI_0 _).mp hc)
      refine lv_iconst (v := 0) hx hb d_M_render_143 (by decide) ?_
      exact ct_zret false hx hb hr hlk hK hS (m_os, m_dg, m_out) hw hP hD d_M_render_144
  have hJ1360 : ∀ (x1 : Bool) (x7 : Bool) (y0 : Int32) (m_os : Int32) (m_dg : Nat → Int32) (m_out : Nat → Int32) (H : Heap) (locs : List Loc) (ls : Array Slot), lv_has ls 10 [(0, .ref mo), (1, .int (bI x1)), (7, .int (bI x7))] → va_P D vwCl (wd_Mo cA mo mo_dr mo_now mo_first mo_has mo_da mo_dl mo_af mo_al mo_sy mo_dg mo_out mo_tx m_ds m_st m_sub m_q m_two m_least m_os m_ts m_fs m_fc m_g m_gs m_dr m_now m_first m_has m_da m_dl m_af m_al m_sy m_dg m_out m_tx) H → va_D A (wd_Mo cA mo mo_dr mo_now mo_first mo_has mo_da mo_dl mo_af mo_al mo_sy mo_dg mo_out mo_tx m_ds m_st m_sub m_q m_two m_least m_os m_ts m_fs m_fc m_g m_gs m_dr m_now m_first m_has m_da m_dl m_af m_al m_sy m_dg m_out m_tx) → va_S A s.heap H locs → wp_M_render_J1360 m_two m_least m_has m_af m_al m_sy x1 x7 y0 m_os m_dg m_out Q → W p l e { frames := 4, cells := 0, slots := 0, locals := 94 } s m args below meth c H locs 0 0 (MQ below (ct_qz vwCl D [(cA, .int)] Q (fun u => wd_Mo cA mo mo_dr mo_now mo_first mo_has mo_da mo_dl mo_af mo_al mo_sy mo_dg mo_out mo_tx m_ds m_st m_sub m_q m_two m_least u.1 m_ts m_fs m_fc m_g m_gs m_dr m_now m_first m_has m_da m_dl m_af m_al m_sy u.2.1 u.2.2 m_tx) A) args s 0 0 A) (F0 m 136 ls [.int y0]) := by
    intro x1 x7 y0 m_os m_dg m_out H locs ls hl hP hD hS hw
    unfold wp_M_render_J1360 at hw
    refine lv_istore (lv' := [(6, .int y0), (0, .ref mo), (1, .int (bI x1)), (7, .int (bI x7))]) hx hb d_M_render_136 hl (by decide) rfl (fun ls hl => ?_)
    exact hJ1380 x1 y0 x7 m_os m_dg m_out _ _ _ (lv_sub hl [1, 2, 0, 3] rfl) hP hD hS hw
  refine lv_aload_n hx hb d_M_render_0 rfl (lv_at hl 0 rfl) ?_
  refine lv_lload_n hx hb d_M_render_1 rfl (lv_at hl 2 rfl) ?_
  refine lv_iload hx hb d_M_render_2 (lv_at hl 3 rfl) ?_
  refine ct_callv (wn := fun u2 => wd_Mo cA mo mo_dr mo_now mo_first mo_has mo_da mo_dl mo_af mo_al mo_sy mo_dg mo_out mo_tx m_ds m_st m_sub m_q m_two m_least m_os m_ts m_fs m_fc m_g m_gs m_dr m_now m_first m_has m_da m_dl m_af m_al m_sy u2 m_out m_tx) (va_runV (As := [.long un, .int sl]) (rest := []) ⟨hx, hb, hml, hown, htb⟩ (c_M_load l D cA mo mo_dr mo_now mo_first mo_has mo_da mo_dl mo_af mo_al mo_sy mo_dg mo_out mo_tx m_ds m_st m_sub m_q m_two m_least m_os m_ts m_fs m_fc m_g m_gs m_dr m_now m_first m_has m_da m_dl m_af m_al m_sy m_dg m_out m_tx un sl _ hw _) (ct_cwV 2 htb tw850 rfl rfl tw82 tw847 tw849 tw53 hd_M_load ⟨by decide, by decide⟩) (ct_preV hP hD hK hN [0, 1, 2, 3, 4, 5, 6, 7, 8, 9, 10, 11, 12] rfl (by decide) 0 rfl rfl _) rfl rfl hl.1 rfl (lv_room (Nat.le_of_ble_eq_true rfl)) d_M_render_4 ⟨Nat.zero_le _, Nat.zero_le _⟩) hP hD hS hA [0, 1, 2, 3, 4, 5, 6, 7, 8, 9, 10, 11, 12] [] [0, 1, 2, 3, 4, 5, 6, 7, 8, 9, 10, 11, 12] rfl rfl (by decide) (by decide) (fun _ => rfl) (by decide) (fun u2 H locs hw hP hD hS => ?_)
  have hP : va_P D vwCl (wd_Mo cA mo mo_dr mo_now mo_first mo_has mo_da mo_dl mo_af mo_al mo_sy mo_dg mo_out mo_tx m_ds m_st m_sub m_q m_two m_least m_os m_ts m_fs m_fc m_g m_gs m_dr m_now m_first m_has m_da m_dl m_af m_al m_sy u2 m_out m_tx) H := hP
  have hD : va_D A (wd_Mo cA mo mo_dr mo_now mo_first mo_has mo_da mo_dl mo_af mo_al mo_sy mo_dg mo_out mo_tx m_ds m_st m_sub m_q m_two m_least m_os m_ts m_fs m_fc m_g m_gs m_dr m_now m_first m_has m_da m_dl m_af m_al m_sy u2 m_out m_tx) := hD
  refine lv_iconst (v := 0) hx hb d_M_render_7 (by decide) ?_
  refine lv_istore (lv' := [(6, .int 0), (0, .ref mo), (1, .int (bI ng)), (2, .long un), (4, .int sl), (5, .int md)]) hx hb d_M_render_8 hl (by decide) rfl (fun ls hl => ?_)
  refine lv_aload_n hx hb d_M_render_10 rfl (lv_at hl 1 rfl) ?_
  refine va_get (ci := 9) (C := R_Mo) (T := F_Mo) (N := 24) hx hb htb in_Mo hown hK hP 0 rfl rfl 7 (by decide) (htb _ tw703) (fun _ h9 => h9) rfl d_M_render_11 ?_
  refine lv_iconst (v := 4) hx hb d_M_render_14 (by decide) ?_
  have hi := hw.1
  have hw := hw.2
  refine va_iald hx hb hK hP 4 0 rfl rfl hi d_M_render_15 ?_
  refine lv_if_ne (tgt := 38) hx hb d_M_render_16 rfl (fun hc => ?_) (fun hc => ?_)
  · have hw := hw.1 hc
    refine lv_aload_n hx hb d_M_render_38 rfl (lv_at hl 1 rfl) ?_
    refine ct_calli (wn := fun _ => wd_Mo cA mo mo_dr mo_now mo_first mo_has mo_da mo_dl mo_af mo_al mo_sy mo_dg mo_out mo_tx m_ds m_st m_sub m_q m_two m_least m_os m_ts m_fs m_fc m_g m_gs m_dr m_now m_first m_has m_da m_dl m_af m_al m_sy u2 m_out m_tx) (va_runV (As := []) (rest := []) ⟨hx, hb, hml, hown, htb⟩ (c_M_top l D cA mo mo_dr mo_now mo_first mo_has mo_da mo_dl mo_af mo_al mo_sy mo_dg mo_out mo_tx m_ds m_st m_sub m_q m_two m_least m_os m_ts m_fs m_fc m_g m_gs m_dr m_now m_first m_has m_da m_dl m_af m_al m_sy u2 m_out m_tx _ hw _) (ct_cwV 0 htb tw875 rfl rfl tw82 tw872 tw874 tw59 hd_M_top ⟨by decide, by decide⟩) (ct_preV hP hD hK hN [0, 1, 2, 3, 4, 5, 6, 7, 8, 9, 10, 11, 12] rfl (by decide) 0 rfl rfl _) rfl rfl hl.1 rfl (lv_room (Nat.le_of_ble_eq_true rfl)) d_M_render_39 ⟨Nat.zero_le _, Nat.zero_le _⟩) hP hD hS hA [0, 1, 2, 3, 4, 5, 6, 7, 8, 9, 10, 11, 12] [] [0, 1, 2, 3, 4, 5, 6, 7, 8, 9, 10, 11, 12] rfl rfl (by decide) (by decide) (fun _ => rfl) (by decide) (fun r3 u4 H locs hw hP hD hS => ?_)
    have hP : va_P D vwCl (wd_Mo cA mo mo_dr mo_now mo_first mo_has mo_da mo_dl mo_af mo_al mo_sy mo_dg mo_out mo_tx m_ds m_st m_sub m_q m_two m_least m_os m_ts m_fs m_fc m_g m_gs m_dr m_now m_first m_has m_da m_dl m_af m_al m_sy u2 m_out m_tx) H := hP
    have hD : va_D A (wd_Mo cA mo mo_dr mo_now mo_first mo_has mo_da mo_dl mo_af mo_al mo_sy mo_dg mo_out mo_tx m_ds m_st m_sub m_q m_two m_least m_os m_ts m_fs m_fc m_g m_gs m_dr m_now m_first m_has m_da m_dl m_af m_al m_sy u2 m_out m_tx) := hD
    refine lv_bipush (v := (-100)) hx hb d_M_render_42 (by decide) ?_
    refine lv_icmp_ne (tgt := 53) hx hb d_M_render_44 rfl (fun hc => ?_) (fun hc => ?_)
    · have hw := hw.1 hc
      refine lv_aload_n hx hb d_M_render_53 rfl (lv_at hl 1 rfl) ?_
      refine lv_iload hx hb d_M_render_54 (lv_at hl 5 rfl) ?_
      refine lv_iload_n hx hb d_M_render_56 rfl (lv_at hl 2 rfl) ?_
      refine lv_aload_n hx hb d_M_render_57 rfl (lv_at hl 1 rfl) ?_
      refine ct_calli (wn := fun _ => wd_Mo cA mo mo_dr mo_now mo_first mo_has mo_da mo_dl mo_af mo_al mo_sy mo_dg mo_out mo_tx m_ds m_st m_sub m_q m_two m_least m_os m_ts m_fs m_fc m_g m_gs m_dr m_now m_first m_has m_da m_dl m_af m_al m_sy u2 m_out m_tx) (va_runV (As := []) (rest := [.int (bI ng), .int md, .ref mo]) ⟨hx, hb, hml, hown, htb⟩ (c_M_top l D cA mo mo_dr mo_now mo_first mo_has mo_da mo_dl mo_af mo_al mo_sy mo_dg mo_out mo_tx m_ds m_st m_sub m_q m_two m_least m_os m_ts m_fs m_fc m_g m_gs m_dr m_now m_first m_has m_da m_dl m_af m_al m_sy u2 m_out m_tx _ hw _) (ct_cwV 0 htb tw875 rfl rfl tw82 tw872 tw874 tw59 hd_M_top ⟨by decide, by decide⟩) (ct_preV hP hD hK hN [0, 1, 2, 3, 4, 5, 6, 7, 8, 9, 10, 11, 12] rfl (by decide) 0 rfl rfl _) rfl rfl hl.1 rfl (lv_room (Nat.le_of_ble_eq_true rfl)) d_M_render_58 ⟨Nat.zero_le _, Nat.zero_le _⟩) hP hD hS hA [0, 1, 2, 3, 4, 5, 6, 7, 8, 9, 10, 11, 12] [] [0, 1, 2, 3, 4, 5, 6, 7, 8, 9, 10, 11, 12] rfl rfl (by decide) (by decide) (fun _ => rfl) (by decide) (fun r5 u6 H locs hw hP hD hS => ?_)
      have hP : va_P D vwCl (wd_Mo cA mo mo_dr mo_now mo_first mo_has mo_da mo_dl mo_af mo_al mo_sy mo_dg mo_out mo_tx m_ds m_st m_sub m_q m_two m_least m_os m_ts m_fs m_fc m_g m_gs m_dr m_now m_first m_has m_da m_dl m_af m_al m_sy u2 m_out m_tx) H := hP
      have hD : va_D A (wd_Mo cA mo mo_dr mo_now mo_first mo_has mo_da mo_dl mo_af mo_al mo_sy mo_dg mo_out mo_tx m_ds m_st m_sub m_q m_two m_least m_os m_ts m_fs m_fc m_g m_gs m_dr m_now m_first m_has m_da m_dl m_af m_al m_sy u2 m_out m_tx) := hD
      refine lv_aload_n hx hb d_M_render_61 rfl (lv_at hl 1 rfl) ?_
      refine va_get (ci := 9) (C := R_Mo) (T := F_Mo) (N := 24) hx hb htb in_Mo hown hK hP 0 rfl rfl 7 (by decide) (htb _ tw703) (fun _ h9 => h9) rfl d_M_render_62 ?_
      refine lv_iconst (v := 1) hx hb d_M_render_65 (by decide) ?_
      have hi := hw.1
      have hw := hw.2
      refine va_iald hx hb hK hP 4 0 rfl rfl hi d_M_render_66 ?_
      refine lv_isub hx hb d_M_render_67 ?_
      refine lv_aload_n hx hb d_M_render_68 rfl (lv_at hl 1 rfl) ?_
      refine va_get (ci := 9) (C := R_Mo) (T := F_Mo) (N := 24) hx hb htb in_Mo hown hK hP 0 rfl rfl 7 (by decide) (htb _ tw703) (fun _ h9 => h9) rfl d_M_render_69 ?_
      refine lv_iconst (v := 2) hx hb d_M_render_72 (by decide) ?_
      have hi := hw.1
      have hw := hw.2
      refine va_iald hx hb hK hP 4 0 rfl rfl hi d_M_render_73 ?_
      refine lv_isub hx hb d_M_render_74 ?_
      refine lv_iconst (v := 1) hx hb d_M_render_75 (by decide) ?_
      refine lv_iadd hx hb d_M_render_76 ?_
      refine ct_callz (wn := fun u8 => wd_Mo cA mo mo_dr mo_now mo_first mo_has mo_da mo_dl mo_af mo_al mo_sy mo_dg mo_out mo_tx m_ds m_st m_sub m_q m_two m_least m_os m_ts m_fs m_fc m_g m_gs m_dr m_now m_first m_has m_da m_dl m_af m_al m_sy u8 m_out m_tx) (va_runV (As := [.int md, .int (bI ng), .int (((r5 - (m_has (1 : Int32).toNatClampNeg)) - (m_has (2 : Int32).toNatClampNeg)) + 1)]) (rest := []) ⟨hx, hb, hml, hown, htb⟩ (c_M_round l D cA mo mo_dr mo_now mo_first mo_has mo_da mo_dl mo_af mo_al mo_sy mo_dg mo_out mo_tx m_ds m_st m_sub m_q m_two m_least m_os m_ts m_fs m_fc m_g m_gs m_dr m_now m_first m_has m_da m_dl m_af m_al m_sy u2 m_out m_tx md ng (((r5 - (m_has (1 : Int32).toNatClampNeg)) - (m_has (2 : Int32).toNatClampNeg)) + 1) _ hw _) (ct_cwV 3 htb tw859 rfl rfl tw82 tw856 tw858 tw55 hd_M_round ⟨by decide, by decide⟩) (ct_preV hP hD hK hN [0, 1, 2, 3, 4, 5, 6, 7, 8, 9, 10, 11, 12] rfl (by decide) 0 rfl rfl _) rfl rfl hl.1 rfl (lv_room (Nat.le_of_ble_eq_true rfl)) d_M_render_77 ⟨Nat.zero_le _, Nat.zero_le _⟩) hP hD hS hA [0, 1, 2, 3, 4, 5, 6, 7, 8, 9, 10, 11, 12] [] [0, 1, 2, 3, 4, 5, 6, 7, 8, 9, 10, 11, 12] rfl rfl (by decide) (by decide) (fun _ => rfl) (by decide) (fun r7 u8 H locs hw hP hD hS => ?_)
      have hP : va_P D vwCl (wd_Mo cA mo mo_dr mo_now mo_first mo_has mo_da mo_dl mo_af mo_al mo_sy mo_dg mo_out mo_tx m_ds m_st m_sub m_q m_two m_least m_os m_ts m_fs m_fc m_g m_gs m_dr m_now m_first m_has m_da m_dl m_af m_al m_sy u8 m_out m_tx) H := hP
      have hD : va_D A (wd_Mo cA mo mo_dr mo_now mo_first mo_has mo_da mo_dl mo_af mo_al mo_sy mo_dg mo_out mo_tx m_ds m_st m_sub m_q m_two m_least m_os m_ts m_fs m_fc m_g m_gs m_dr m_now m_first m_has m_da m_dl m_af m_al m_sy u8 m_out m_tx) := hD
      refine lv_istore (lv' := [(7, .int (bI r7)), (6, .int 0), (0, .ref mo), (1, .int (bI ng)), (2, .long un), (4, .int sl), (5, .int md)]) hx hb d_M_render_80 hl (by decide) rfl (fun ls hl => ?_)
      refine lv_aload_n hx hb d_M_render_82 rfl (lv_at hl 2 rfl) ?_
      refine ct_calli (wn := fun _ => wd_Mo cA mo mo_dr mo_now mo_first mo_has mo_da mo_dl mo_af mo_al mo_sy mo_dg mo_out mo_tx m_ds m_st m_sub m_q m_two m_least m_os m_ts m_fs m_fc m_g m_gs m_dr m_now m_first m_has m_da m_dl m_af m_al m_sy u8 m_out m_tx) (va_runV (As := []) (rest := []) ⟨hx, hb, hml, hown, htb⟩ (c_M_top l D cA mo mo_dr mo_now mo_first mo_has mo_da mo_dl mo_af mo_al mo_sy mo_dg mo_out mo_tx m_ds m_st m_sub m_q m_two m_least m_os m_ts m_fs m_fc m_g m_gs m_dr m_now m_first m_has m_da m_dl m_af m_al m_sy u8 m_out m_tx _ hw _) (ct_cwV 0 htb tw875 rfl rfl tw82 tw872 tw874 tw59 hd_M_top ⟨by decide, by decide⟩) (ct_preV hP hD hK hN [0, 1, 2, 3, 4, 5, 6, 7, 8, 9, 10, 11, 12] rfl (by decide) 0 rfl rfl _) rfl rfl hl.1 rfl (lv_room (Nat.le_of_ble_eq_true rfl)) d_M_render_83 ⟨Nat.zero_le _, Nat.zero_le _⟩) hP hD hS hA [0, 1, 2, 3, 4, 5, 6, 7, 8, 9, 10, 11, 12] [] [0, 1, 2, 3, 4, 5, 6, 7, 8, 9, 10, 11, 12] rfl rfl (by decide) (by decide) (fun _ => rfl) (by decide) (fun r9 u10 H locs hw hP hD hS => ?_)
      have hP : va_P D vwCl (wd_Mo cA mo mo_dr mo_now mo_first mo_has mo_da mo_dl mo_af mo_al mo_sy mo_dg mo_out mo_tx m_ds m_st m_sub m_q m_two m_least m_os m_ts m_fs m_fc m_g m_gs m_dr m_now m_first m_has m_da m_dl m_af m_al m_sy u8 m_out m_tx) H := hP
      have hD : va_D A (wd_Mo cA mo mo_dr mo_now mo_first mo_has mo_da mo_dl mo_af mo_al mo_sy mo_dg mo_out mo_tx m_ds m_st m_sub m_q m_two m_least m_os m_ts m_fs m_fc m_g m_gs m_dr m_now m_first m_has m_da m_dl m_af m_al m_sy u8 m_out m_tx) := hD
      refine lv_istore (lv' := [(8, .int r9), (7, .int (bI r7)), (6, .int 0), (0, .ref mo), (1, .int (bI ng)), (2, .long un), (4, .int sl), (5, .int md)]) hx hb d_M_render_86 hl (by decide) rfl (fun ls hl => ?_)
      refine lv_aload_n hx hb d_M_render_88 rfl (lv_at hl 3 rfl) ?_
      refine va_get (ci := 9) (C := R_Mo) (T := F_Mo) (N := 24) hx hb htb in_Mo hown hK hP 0 rfl rfl 7 (by decide) (htb _ tw703) (fun _ h9 => h9) rfl d_M_render_89 ?_
      refine lv_iconst (v := 0) hx hb d_M_render_92 (by decide) ?_
      have hi := hw.1
      have hw := hw.2
      refine va_iald hx hb hK hP 4 0 rfl rfl hi d_M_render_93 ?_
      refine lv_aload_n hx hb d_M_render_94 rfl (lv_at hl 3 rfl) ?_
      refine va_get (ci := 9) (C := R_Mo) (T := F_Mo) (N := 24) hx hb htb in_Mo hown hK hP 0 rfl rfl 7 (by decide) (htb _ tw703) (fun _ h9 => h9) rfl d_M_render_95 ?_
      refine lv_iconst (v := 1) hx hb d_M_render_98 (by decide) ?_
      have hi := hw.1
      have hw := hw.2
      refine va_iald hx hb hK hP 4 0 rfl rfl hi d_M_render_99 ?_
      refine lv_iadd hx hb d_M_render_100 ?_
      refine lv_istore (lv' := [(9, .int ((m_has (0 : Int32).toNatClampNeg) + (m_has (1 : Int32).toNatClampNeg))), (8, .int r9), (7, .int (bI r7)), (6, .int 0), (0, .ref mo), (1, .int (bI ng)), (2, .long un), (4, .int sl), (5, .int md)]) hx hb d_M_render_101 hl (by decide) rfl (fun ls hl => ?_)
      refine lv_aload_n hx hb d_M_render_103 rfl (lv_at hl 4 rfl) ?_
      refine va_get (ci := 9) (C := R_Mo) (T := F_Mo) (N := 24) hx hb htb in_Mo hown hK hP 0 rfl rfl 7 (by decide) (htb _ tw703) (fun _ h9 => h9) rfl d_M_render_104 ?_
      refine lv_iconst (v := 0) hx hb d_M_render_107 (by decide) ?_
      have hi := hw.1
      have hw := hw.2
      refine va_iald hx hb hK hP 4 0 rfl rfl hi d_M_render_108 ?_
      refine lv_if_ne (tgt := 126) hx hb d_M_render_109 rfl (fun hc => ?_) (fun hc => ?_)
      · have hw := hw.1 hc
        refine lv_iload hx hb d_M_render_126 (lv_at hl 1 rfl) ?_
        refine lv_iload hx hb d_M_render_128 (lv_at hl 0 rfl) ?_
        refine ct_calli (wn := fun _ => wd_Mo cA mo mo_dr mo_now mo_first mo_has mo_da mo_dl mo_af mo_al mo_sy mo_dg mo_out mo_tx m_ds m_st m_sub m_q m_two m_least m_os m_ts m_fs m_fc m_g m_gs m_dr m_now m_first m_has m_da m_dl m_af m_al m_sy u8 m_out m_tx) (va_runS (As := [.int r9, .int ((m_has (0 : Int32).toNatClampNeg) + (m_has (1 : Int32).toNatClampNeg))]) (rest := []) ⟨hx, hb, hml, hown, htb⟩ (c_M_floorOf l D cA r9 ((m_has (0 : Int32).toNatClampNeg) + (m_has (1 : Int32).toNatClampNeg)) _ hw _) (ct_cwS 2 htb tw878 rfl rfl tw82 tw876 tw877 hd_M_floorOf ⟨by decide, by decide⟩) (ct_preS hP hD hK hN [] rfl (by decide) _) rfl rfl hl.1 rfl (lv_room (Nat.le_of_ble_eq_true rfl)) d_M_render_130 ⟨Nat.zero_le _, Nat.zero_le _⟩) hP hD hS hA [] [0, 1, 2, 3, 4, 5, 6, 7, 8, 9, 10, 11, 12] [0, 1, 2, 3, 4, 5, 6, 7, 8, 9, 10, 11, 12] rfl rfl (by decide) (by decide) (fun _ => rfl) (by decide) (fun r11 u12 H locs hw hP hD hS => ?_)
        have hP : va_P D vwCl (wd_Mo cA mo mo_dr mo_now mo_first mo_has mo_da mo_dl mo_af mo_al mo_sy mo_dg mo_out mo_tx m_ds m_st m_sub m_q m_two m_least m_os m_ts m_fs m_fc m_g m_gs m_dr m_now m_first m_has m_da m_dl m_af m_al m_sy u8 m_out m_tx) H := hP
        have hD : va_D A (wd_Mo cA mo mo_dr mo_now mo_first mo_has mo_da mo_dl mo_af mo_al mo_sy mo_dg mo_out mo_tx m_ds m_st m_sub m_q m_two m_least m_os m_ts m_fs m_fc m_g m_gs m_dr m_now m_first m_has m_da m_dl m_af m_al m_sy u8 m_out m_tx) := hD
        refine lv_iload hx hb d_M_render_133 (lv_at hl 0 rfl) ?_
        refine lv_imul hx hb d_M_render_135 ?_
        exact hJ1360 ng r7 (r11 * ((m_has (0 : Int32).toNatClampNeg) + (m_has (1 : Int32).toNatClampNeg))) m_os u8 m_out _ _ _ (lv_sub hl [4, 5, 2] rfl) hP hD hS hw
      · have hw := hw.2 hc
        refine lv_iload hx hb d_M_render_112 (lv_at hl 1 rfl) ?_
        refine lv_aload_n hx hb d_M_render_114 rfl (lv_at hl 4 rfl) ?_
        refine va_get (ci := 9) (C := R_Mo) (T := F_Mo) (N := 24) hx hb htb in_Mo hown hK hP 0 rfl rfl 7 (by decide) (htb _ tw703) (fun _ h9 => h9) rfl d_M_render_115 ?_
        refine lv_iconst (v := 1) hx hb d_M_render_118 (by decide) ?_
        have hi := hw.1
        have hw := hw.2
        refine va_iald hx hb hK hP 4 0 rfl rfl hi d_M_render_119 ?_
        refine lv_isub hx hb d_M_render_120 ?_
        refine lv_iconst (v := 1) hx hb d_M_render_121 (by decide) ?_
        refine lv_iadd hx hb d_M_render_122 ?_
        refine lv_goto (tgt := 136) hx hb d_M_render_123 rfl ?_
        exact hJ1360 ng r7 ((r9 - (m_has (1 : Int32).toNatClampNeg)) + 1) m_os u8 m_out _ _ _ (lv_sub hl [4, 5, 2] rfl) hP hD hS hw
    · have hw := hw.2 hc
      refine lv_iconst (v := 1) hx hb d_M_render_47 (by decide) ?_
      refine lv_istore (lv' := [(7, .int 1), (6, .int 0), (0, .ref mo), (1, .int (bI ng)), (2, .long un), (4, .int sl), (5, .int md)]) hx hb d_M_render_48 hl (by decide) rfl (fun ls hl => ?_)
      refine lv_goto (tgt := 138) hx hb d_M_render_50 rfl ?_
      exact hJ1380 ng 0 true m_os u2 m_out _ _ _ (lv_sub hl [2, 3, 1, 0] rfl) hP hD hS hw
  · have hw := hw.2 hc
    refine lv_aload_n hx hb d_M_render_19 rfl (lv_at hl 1 rfl) ?_
    refine lv_iload hx hb d_M_render_20 (lv_at hl 5 rfl) ?_
    refine lv_iload_n hx hb d_M_render_22 rfl (lv_at hl 2 rfl) ?_
    refine lv_aload_n hx hb d_M_render_23 rfl (lv_at hl 1 rfl) ?_
    refine va_get (ci := 9) (C := R_Mo) (T := F_Mo) (N := 24) hx hb htb in_Mo hown hK hP 0 rfl rfl 7 (by decide) (htb _ tw703) (fun _ h9 => h9) rfl d_M_render_24 ?_
    refine lv_iconst (v := 2) hx hb d_M_render_27 (by decide) ?_
    have hi := hw.1
    have hw := hw.2
    refine va_iald hx hb hK hP 4 0 rfl rfl hi d_M_render_28 ?_
    refine lv_ineg hx hb d_M_render_29 ?_
    refine ct_callz (wn := fun u14 => wd_Mo cA mo mo_dr mo_now mo_first mo_has mo_da mo_dl mo_af mo_al mo_sy mo_dg mo_out mo_tx m_ds m_st m_sub m_q m_two m_least m_os m_ts m_fs m_fc m_g m_gs m_dr m_now m_first m_has m_da m_dl m_af m_al m_sy u14 m_out m_tx) (va_runV (As := [.int md, .int (bI ng), .int (-(m_has (2 : Int32).toNatClampNeg))]) (rest := []) ⟨hx, hb, hml, hown, htb⟩ (c_M_round l D cA mo mo_dr mo_now mo_first mo_has mo_da mo_dl mo_af mo_al mo_sy mo_dg mo_out mo_tx m_ds m_st m_sub m_q m_two m_least m_os m_ts m_fs m_fc m_g m_gs m_dr m_now m_first m_has m_da m_dl m_af m_al m_sy u2 m_out m_tx md ng (-(m_has (2 : Int32).toNatClampNeg)) _ hw _) (ct_cwV 3 htb tw859 rfl rfl tw82 tw856 tw858 tw55 hd_M_round ⟨by decide, by decide⟩) (ct_preV hP hD hK hN [0, 1, 2, 3, 4, 5, 6, 7, 8, 9, 10, 11, 12] rfl (by decide) 0 rfl rfl _) rfl rfl hl.1 rfl (lv_room (Nat.le_of_ble_eq_true rfl)) d_M_render_30 ⟨Nat.zero_le _, Nat.zero_le _⟩) hP hD hS hA [0, 1, 2, 3, 4, 5, 6, 7, 8, 9, 10, 11, 12] [] [0, 1, 2, 3, 4, 5, 6, 7, 8, 9, 10, 11, 12] rfl rfl (by decide) (by decide) (fun _ => rfl) (by decide) (fun r13 u14 H locs hw hP hD hS => ?_)
    have hP : va_P D vwCl (wd_Mo cA mo mo_dr mo_now mo_first mo_has mo_da mo_dl mo_af mo_al mo_sy mo_dg mo_out mo_tx m_ds m_st m_sub m_q m_two m_least m_os m_ts m_fs m_fc m_g m_gs m_dr m_now m_first m_has m_da m_dl m_af m_al m_sy u14 m_out m_tx) H := hP
    have hD : va_D A (wd_Mo cA mo mo_dr mo_now mo_first mo_has mo_da mo_dl mo_af mo_al mo_sy mo_dg mo_out mo_tx m_ds m_st m_sub m_q m_two m_least m_os m_ts m_fs m_fc m_g m_gs m_dr m_now m_first m_has m_da m_dl m_af m_al m_sy u14 m_out m_tx) := hD
    refine lv_istore (lv' := [(7, .int (bI r13)), (6, .int 0), (0, .ref mo), (1, .int (bI ng)), (2, .long un), (4, .int sl), (5, .int md)]) hx hb d_M_render_33 hl (by decide) rfl (fun ls hl => ?_)
    refine lv_goto (tgt := 138) hx hb d_M_render_35 rfl ?_
    exact hJ1380 ng 0 r13 m_os u14 m_out _ _ _ (lv_sub hl [2, 3, 1, 0] rfl) hP hD hS hw
/-! DecimalPatternsModel.write(JII)I -/
def wp_M_write_L520 : Nat → Bool → Int32 → (Nat → Int32) → (Nat → Int32) → (Nat → Int32) → (Nat → Int32) → Int32 → Int32 → Int32 → (Nat → Int32) → (Nat → Int32) → (Nat → Int32) → (Int32 → (Int32 × Int32 × (Nat → Int32) × (Nat → Int32) × (Nat → Int32)) → Prop) → Prop
  | 0, _, _, _, _, _, _, _, _, _, _, _, _, _ => False
  | n520 + 1, m_two, m_least, m_has, m_af, m_al, m_sy, x5, m_os, m_ts, m_dg, m_out, m_tx, Q => (m_os ≤ x5 → (Q m_os (m_os, m_os, m_dg, m_out, m_tx))) ∧ (¬ m_os ≤ x5 → (vp_in x5 400 ∧ (vp_in x5 400 ∧ (wp_M_write_L520 n520 m_two m_least m_has m_af m_al m_sy (x5 + 1) m_os m_ts m_dg m_out (upd m_tx x5.toNatClampNeg (m_out x5.toNatClampNeg)) Q))))
def wp_M_write_J360 (m_two : Bool) (m_least : Int32) (m_has : Nat → Int32) (m_af : Nat → Int32) (m_al : Nat → Int32) (m_sy : Nat → Int32) (x1 : Int64) (x3 : Int32) (x4 : Int32) (y0 : Bool) (m_os : Int32) (m_ts : Int32) (m_dg : Nat → Int32) (m_out : Nat → Int32) (m_tx : Nat → Int32) (Q : Int32 → (Int32 × Int32 × (Nat → Int32) × (Nat → Int32) × (Nat → Int32)) → Prop) : Prop := wp_M_render m_two m_least m_os m_has m_af m_al m_sy m_dg m_out y0 x1 x3 x4 (fun r1 u2 => (r1 = true → (∃ n520, wp_M_write_L520 n520 m_two m_least m_has m_af m_al m_sy 0 u2.1 m_ts u2.2.1 u2.2.2 m_tx Q)) ∧ (r1 = false → (Q (-2) (u2.1, m_ts, u2.2.1, u2.2.2, m_tx))))
def wp_M_write (m_two : Bool) (m_least : Int32) (m_os : Int32) (m_ts : Int32) (m_has : Nat → Int32) (m_af : Nat → Int32) (m_al : Nat → Int32) (m_sy : Nat → Int32) (m_dg : Nat → Int32) (m_out : Nat → Int32) (m_tx : Nat → Int32) (un : Int64) (sl : Int32) (md : Int32) (Q : Int32 → (Int32 × Int32 × (Nat → Int32) × (Nat → Int32) × (Nat → Int32)) → Prop) : Prop := (sl < 0 → (Q (-1) (m_os, m_ts, m_dg, m_out, m_tx))) ∧ (¬ sl < 0 → ((18 < sl → (Q (-1) (m_os, m_ts, m_dg, m_out, m_tx))) ∧ (¬ 18 < sl → ((md < 0 → (Q (-1) (m_os, m_ts, m_dg, m_out, m_tx))) ∧ (¬ md < 0 → ((md ≤ 7 → ((0 ≤ un → (wp_M_write_J360 m_two m_least m_has m_af m_al m_sy un sl md false m_os m_ts m_dg m_out m_tx Q)) ∧ (¬ 0 ≤ un → (wp_M_write_J360 m_two m_least m_has m_af m_al m_sy un sl md true m_os m_ts m_dg m_out m_tx Q)))) ∧ (¬ md ≤ 7 → (Q (-1) (m_os, m_ts, m_dg, m_out, m_tx)))))))))
set_option maxHeartbeats 4000000 in
set_option maxRecDepth 100000 in
theorem c_M_write (l : Launch) (D : va_G) (cA : ClassId) (mo mo_dr mo_now mo_first mo_has mo_da mo_dl mo_af mo_al mo_sy mo_dg mo_out mo_tx : Nat) (m_ds : Int32) (m_st : Int32) (m_sub : Int32) (m_q : Int32) (m_two : Bool) (m_least : Int32) (m_os : Int32) (m_ts : Int32) (m_fs : Int64) (m_fc : Int32) (m_g : Int64) (m_gs : Int32) (m_dr : Nat → Int32) (m_now : Nat → Int32) (m_first : Nat → Int32) (m_has : Nat → Int32) (m_da : Nat → Int32) (m_dl : Nat → Int32) (m_af : Nat → Int32) (m_al : Nat → Int32) (m_sy : Nat → Int32) (m_dg : Nat → Int32) (m_out : Nat → Int32) (m_tx : Nat → Int32) (un : Int64) (sl : Int32) (md : Int32) (Q : Int32 → (Int32 × Int32 × (Nat → Int32) × (Nat → Int32) × (Nat → Int32)) → Prop) (hw : wp_M_write m_two m_least m_os m_ts m_has m_af m_al m_sy m_dg m_out m_tx un sl md Q) : ct_M vwCl l D [(cA, .int)] y_M_write w_M_write { frames := 5, cells := 0, slots := 0, locals := 123 } [.ref mo, .long un, .int sl, .int md] (wd_Mo cA mo mo_dr mo_now mo_first mo_has mo_da mo_dl mo_af mo_al mo_sy mo_dg mo_out mo_tx m_ds m_st m_sub m_q m_two m_least m_os m_ts m_fs m_fc m_g m_gs m_dr m_now m_first m_has m_da m_dl m_af m_al m_sy m_dg m_out m_tx) (ct_qi vwCl D [(cA, .int)] Q (fun u => wd_Mo cA mo mo_dr mo_now mo_first mo_has mo_da mo_dl mo_af mo_al mo_sy mo_dg mo_out mo_tx m_ds m_st m_sub m_q m_two m_least u.1 u.2.1 m_fs m_fc m_g m_gs m_dr m_now m_first m_has m_da m_dl m_af m_al m_sy u.2.2.1 u.2.2.2.1 u.2.2.2.2)) := by
  refine ct_enter (cc := b_M_write) (maxL := 6) (ret := (some .int)) (by decide) rfl (Nat.le_of_ble_eq_true rfl) ?_
  intro p e s m args below meth c A ls hx hb hr hlk hml hts hown hA hS hP hK hN hD hl
  have hl : lv_has ls 6 [(0, .ref mo), (1, .long un), (3, .int sl), (4, .int md)] := hl
  have htb : ∀ w ∈ tbl, w.before args s = true := fun w h => hts w (List.mem_cons_of_mem _ h)
  have hown : s.vm.findClass "DecimalPatternsModel" = some m.cls := hown
  unfold wp_M_write at hw
  have hL520 : ∀ (n520 : Nat) (x5 : Int32) (m_os : Int32) (m_ts : Int32) (m_dg : Nat → Int32) (m_out : Nat → Int32) (m_tx : Nat → Int32) (H : Heap) (locs : List Loc) (ls : Array Slot), lv_has ls 6 [(0, .ref mo), (5, .int x5)] → va_P D vwCl (wd_Mo cA mo mo_dr mo_now mo_first mo_has mo_da mo_dl mo_af mo_al mo_sy mo_dg mo_out mo_tx m_ds m_st m_sub m_q m_two m_least m_os m_ts m_fs m_fc m_g m_gs m_dr m_now m_first m_has m_da m_dl m_af m_al m_sy m_dg m_out m_tx) H → va_D A (wd_Mo cA mo mo_dr mo_now mo_first mo_has mo_da mo_dl mo_af mo_al mo_sy mo_dg mo_out mo_tx m_ds m_st m_sub m_q m_two m_least m_os m_ts m_fs m_fc m_g m_gs m_dr m_now m_first m_has m_da m_dl m_af m_al m_sy m_dg m_out m_tx) → va_S A s.heap H locs → wp_M_write_L520 n520 m_two m_least m_has m_af m_al m_sy x5 m_os m_ts m_dg m_out m_tx Q → W p l e { frames := 5, cells := 0, slots := 0, locals := 123 } s m args below meth c H locs 0 0 (MQ below (ct_qi vwCl D [(cA, .int)] Q (fun u => wd_Mo cA mo mo_dr mo_now mo_first mo_has mo_da mo_dl mo_af mo_al mo_sy mo_dg mo_out mo_tx m_ds m_st m_sub m_q m_two m_least u.1 u.2.1 m_fs m_fc m_g m_gs m_dr m_now m_first m_has m_da m_dl m_af m_al m_sy u.2.2.1 u.2.2.2.1 u.2.2.2.2) A) args s 0 0 A) (F0 m 52 ls []) := by
    intro n520
    induction n520 with
    | zero => intro x5 m_os m_ts m_dg m_out m_tx H locs ls hl hP hD hS hw; exact hw.elim
    | succ n520 ih520 =>
      intro x5 m_os m_ts m_dg m_out m_tx H locs ls hl hP hD hS hw
      unfold wp_M_write_L520 at hw
      refine lv_iload hx hb d_M_write_52 (lv_at hl 1 rfl) ?_
      refine lv_aload_n hx hb d_M_write_54 rfl (lv_at hl 0 rfl) ?_
      refine va_get (ci := 9) (C := R_Mo) (T := F_Mo) (N := 24) hx hb htb in_Mo hown hK hP 0 rfl rfl 17 (by decide) (htb _ tw713) (fun _ h9 => h9) rfl d_M_write_55 ?_
      refine lv_icmp_ge (tgt := 81) hx hb d_M_write_58 rfl (fun hc => ?_) (fun hc => ?_)
      · have hw := hw.1 hc
        refine lv_aload_n hx hb d_M_write_81 rfl (lv_at hl 0 rfl) ?_
        refine lv_aload_n hx hb d_M_write_82 rfl (lv_at hl 0 rfl) ?_
        refine va_get (ci := 9) (C := R_Mo) (T := F_Mo) (N := 24) hx hb htb in_Mo hown hK hP 0 rfl rfl 17 (by decide) (htb _ tw713) (fun _ h9 => h9) rfl d_M_write_83 ?_
        refine va_put (ci := 9) (v := .int m_os) (ty := .int) (C := R_Mo) (T := F_Mo) (N := 24) hx hb htb in_Mo t_Mo t_Mo_ok n_Mo hown hK hP hD hS 0 rfl rfl 19 (by decide) (htb _ tw715) (fun _ h9 => h9) rfl (by decide +kernel) rfl rfl (Nat.le_of_ble_eq_true rfl) d_M_write_86 (fun H locs hP hD hS => ?_)
        have hP : va_P D vwCl (wd_Mo cA mo mo_dr mo_now mo_first mo_has mo_da mo_dl mo_af mo_al mo_sy mo_dg mo_out mo_tx m_ds m_st m_sub m_q m_two m_least m_os m_os m_fs m_fc m_g m_gs m_dr m_now m_first m_has m_da m_dl m_af m_al m_sy m_dg m_out m_tx) H := hP
        have hD : va_D A (wd_Mo cA mo mo_dr mo_now mo_first mo_has mo_da mo_dl mo_af mo_al mo_sy mo_dg mo_out mo_tx m_ds m_st m_sub m_q m_two m_least m_os m_os m_fs m_fc m_g m_gs m_dr m_now m_first m_has m_da m_dl m_af m_al m_sy m_dg m_out m_tx) := hD
        refine lv_aload_n hx hb d_M_write_89 rfl (lv_at hl 0 rfl) ?_
        refine va_get (ci := 9) (C := R_Mo) (T := F_Mo) (N := 24) hx hb htb in_Mo hown hK hP 0 rfl rfl 19 (by decide) (htb _ tw715) (fun _ h9 => h9) rfl d_M_write_90 ?_
        exact ct_iret hx hb hr hlk hK hS (m_os, m_os, m_dg, m_out, m_tx) hw hP hD d_M_write_93
      · have hw := hw.2 hc
        refine lv_aload_n hx hb d_M_write_61 rfl (lv_at hl 0 rfl) ?_
        refine va_get (ci := 9) (C := R_Mo) (T := F_Mo) (N := 24) hx hb htb in_Mo hown hK hP 0 rfl rfl 18 (by decide) (htb _ tw714) (fun _ h9 => h9) rfl d_M_write_62 ?_
        refine lv_iload hx hb d_M_write_65 (lv_at hl 1 rfl) ?_
        refine lv_aload_n hx hb d_M_write_67 rfl (lv_at hl 0 rfl) ?_
        refine va_get (ci := 9) (C := R_Mo) (T := F_Mo) (N := 24) hx hb htb in_Mo hown hK hP 0 rfl rfl 16 (by decide) (htb _ tw712) (fun _ h9 => h9) rfl d_M_write_68 ?_
        refine lv_iload hx hb d_M_write_71 (lv_at hl 1 rfl) ?_
        have hi := hw.1
        have hw := hw.2
        refine va_iald hx hb hK hP 11 0 rfl rfl hi d_M_write_73 ?_
        have hi := hw.1
        have hw := hw.2
        refine va_iast hx hb hK hP hD hS 12 0 rfl rfl hi d_M_write_74 (fun H locs hP hD hS => ?_)
        have hP : va_P D vwCl (wd_Mo cA mo mo_dr mo_now mo_first mo_has mo_da mo_dl mo_af mo_al mo_sy mo_dg mo_out mo_tx m_ds m_st m_sub m_q m_two m_least m_os m_ts m_fs m_fc m_g m_gs m_dr m_now m_first m_has m_da m_dl m_af m_al m_sy m_dg m_out (upd m_tx x5.toNatClampNeg (m_out x5.toNatClampNeg))) H := hP
        have hD : va_D A (wd_Mo cA mo mo_dr mo_now mo_first mo_has mo_da mo_dl mo_af mo_al mo_sy mo_dg mo_out mo_tx m_ds m_st m_sub m_q m_two m_least m_os m_ts m_fs m_fc m_g m_gs m_dr m_now m_first m_has m_da m_dl m_af m_al m_sy m_dg m_out (upd m_tx x5.toNatClampNeg (m_out x5.toNatClampNeg))) := hD
        refine lv_iinc (k := 1) (v := x5 + 1) (lv' := [(5, .int (x5 + 1)), (0, .ref mo)]) hx hb d_M_write_75 hl rfl (by rfl) (by decide) rfl (fun ls hl => ?_)
        refine lv_goto (tgt := 52) hx hb d_M_write_78 rfl ?_
        exact ih520 (x5 + 1) m_os m_ts m_dg m_out (upd m_tx x5.toNatClampNeg (m_out x5.toNatClampNeg)) _ _ _ (lv_sub hl [1, 0] rfl) hP hD hS hw
  have hJ360 : ∀ (x1 : Int64) (x3 : Int32) (x4 : Int32) (y0 : Bool) (m_os : Int32) (m_ts : Int32) (m_dg : Nat → Int32) (m_out : Nat → Int32) (m_tx : Nat → Int32) (H : Heap) (locs : List Loc) (ls : Array Slot), lv_has ls 6 [(0, .ref mo), (1, .long x1), (3, .int x3), (4, .int x4)] → va_P D vwCl (wd_Mo cA mo mo_dr mo_now mo_first mo_has mo_da mo_dl mo_af mo_al mo_sy mo_dg mo_out mo_tx m_ds m_st m_sub m_q m_two m_least m_os m_ts m_fs m_fc m_g m_gs m_dr m_now m_first m_has m_da m_dl m_af m_al m_sy m_dg m_out m_tx) H → va_D A (wd_Mo cA mo mo_dr mo_now mo_first mo_has mo_da mo_dl mo_af mo_al mo_sy mo_dg mo_out mo_tx m_ds m_st m_sub m_q m_two m_least m_os m_ts m_fs m_fc m_g m_gs m_dr m_now m_first m_has m_da m_dl m_af m_al m_sy m_dg m_out m_tx) → va_S A s.heap H locs → wp_M_write_J360 m_two m_least m_has m_af m_al m_sy x1 x3 x4 y0 m_os m_ts m_dg m_out m_tx Q → W p l e { frames := 5, cells := 0, slots := 0, locals := 123 } s m args below meth c H locs 0 0 (MQ below (ct_qi vwCl D [(cA, .int)] Q (fun u => wd_Mo cA mo mo_dr mo_now mo_first mo_has mo_da mo_dl mo_af mo_al mo_sy mo_dg mo_out mo_tx m_ds m_st m_sub m_q m_two m_least u.1 u.2.1 m_fs m_fc m_g m_gs m_dr m_now m_first m_has m_da m_dl m_af m_al m_sy u.2.2.1 u.2.2.2.1 u.2.2.2.2) A) args s 0 0 A) (F0 m 36 ls [.int (bI y0), .ref mo]) := by
    intro x1 x3 x4 y0 m_os m_ts m_dg m_out m_tx H locs ls hl hP hD hS hw
    unfold wp_M_write_J360 at hw
    refine lv_lload_n hx hb d_M_write_36 rfl (lv_at hl 1 rfl) ?_
    refine lv_iload_n hx hb d_M_write_37 rfl (lv_at hl 2 rfl) ?_
    refine lv_iload hx hb d_M_write_38 (lv_at hl 3 rfl) ?_
    refine ct_callz (wn := fun u2 => wd_Mo cA mo mo_dr mo_now mo_first mo_has mo_da mo_dl mo_af mo_al mo_sy mo_dg mo_out mo_tx m_ds m_st m_sub m_q m_two m_least u2.1 m_ts m_fs m_fc m_g m_gs m_dr m_now m_first m_has m_da m_dl m_af m_al m_sy u2.2.1 u2.2.2 m_tx) (va_runV (As := [.int (bI y0), .long x1, .int x3, .int x4]) (rest := []) ⟨hx, hb, hml, hown, htb⟩ (c_M_render l D cA mo mo_dr mo_now mo_first mo_has mo_da mo_dl mo_af mo_al mo_sy mo_dg mo_out mo_tx m_ds m_st m_sub m_q m_two m_least m_os m_ts m_fs m_fc m_g m_gs m_dr m_now m_first m_has m_da m_dl m_af m_al m_sy m_dg m_out m_tx y0 x1 x3 x4 _ hw _) (ct_cwV 4 htb tw846 rfl rfl tw82 tw843 tw845 tw52 hd_M_render ⟨by decide, by decide⟩) (ct_preV hP hD hK hN [0, 1, 2, 3, 4, 5, 6, 7, 8, 9, 10, 11, 12] rfl (by decide) 0 rfl rfl _) rfl rfl hl.1 rfl (lv_room (Nat.le_of_ble_eq_true rfl)) d_M_write_40 ⟨Nat.zero_le _, Nat.zero_le _⟩) hP hD hS hA [0, 1, 2, 3, 4, 5, 6, 7, 8, 9, 10, 11, 12] [] [0, 1, 2, 3, 4, 5, 6, 7, 8, 9, 10, 11, 12] rfl rfl (by decide) (by decide) (fun _ => rfl) (by decide) (fun r1 u2 H locs hw hP hD hS => ?_)
    have hP : va_P D vwCl (wd_Mo cA mo mo_dr mo_now mo_first mo_has mo_da mo_dl mo_af mo_al mo_sy mo_dg mo_out mo_tx m_ds m_st m_sub m_q m_two m_least u2.1 m_ts m_fs m_fc m_g m_gs m_dr m_now m_first m_has m_da m_dl m_af m_al m_sy u2.2.1 u2.2.2 m_tx) H := hP
    have hD : va_D A (wd_Mo cA mo mo_dr mo_now mo_first mo_has mo_da mo_dl mo_af mo_al mo_sy mo_dg mo_out mo_tx m_ds m_st m_sub m_q m_two m_least u2.1 m_ts m_fs m_fc m_g m_gs m_dr m_now m_first m_has m_da m_dl m_af m_al m_sy u2.2.1 u2.2.2 m_tx) := hD
    refine lv_if_ne (tgt := 49) hx hb d_M_write_43 rfl (fun hc => ?_) (fun hc => ?_)
    · have hw := hw.1 ((bI_n0 _).mp hc)
      refine lv_iconst (v := 0) hx hb d_M_write_49 (by decide) ?_
      refine lv_istore (lv' := [(5, .int 0), (0, .ref mo), (1, .long x1), (3, .int x3), (4, .int x4)]) hx hb d_M_write_50 hl (by decide) rfl (fun ls hl => ?_)
      obtain ⟨n520, hw⟩ := hw
      exact hL520 n520 0 u2.1 m_ts u2.2.1 u2.2.2 m_tx _ _ _ (lv_sub hl [1, 0] rfl) hP hD hS hw
    · have hw := hw.2 ((bI_0 _).mp hc)
      refine lv_bipush (v := (-2)) hx hb d_M_write_46 (by decide) ?_
      exact ct_iret hx hb hr hlk hK hS (u2.1, m_ts, u2.2.1, u2.2.2, m_tx) hw hP hD d_M_write_48
  refine lv_iload_n hx hb d_M_write_0 rfl (lv_at hl 2 rfl) ?_
  refine lv_if_lt (tgt := 22) hx hb d_M_write_1 rfl (fun hc => ?_) (fun hc => ?_)
  · have hw := hw.1 hc
    refine lv_iconst (v := (-1)) hx hb d_M_write_22 (by decide) ?_
    exact ct_iret hx hb hr hlk hK hS (m_os, m_ts, m_dg, m_out, m_tx) hw hP hD d_M_write_23
  · have hw := hw.2 hc
    refine lv_iload_n hx hb d_M_write_4 rfl (lv_at hl 2 rfl) ?_
    refine lv_bipush (v := 18) hx hb d_M_write_5 (by decide) ?_
    refine lv_icmp_gt (tgt := 22) hx hb d_M_write_7 rfl (fun hc => ?_) (fun hc => ?_)
    · have hw := hw.1 hc
      refine lv_iconst (v := (-1)) hx hb d_M_write_22 (by decide) ?_
      exact ct_iret hx hb hr hlk hK hS (m_os, m_ts, m_dg, m_out, m_tx) hw hP hD d_M_write_23
    · have hw := hw.2 hc
      refine lv_iload hx hb d_M_write_10 (lv_at hl 3 rfl) ?_
      refine lv_if_lt (tgt := 22) hx hb d_M_write_12 rfl (fun hc => ?_) (fun hc => ?_)
      · have hw := hw.1 hc
        refine lv_iconst (v := (-1)) hx hb d_M_write_22 (by decide) ?_
        exact ct_iret hx hb hr hlk hK hS (m_os, m_ts, m_dg, m_out, m_tx) hw hP hD d_M_write_23
      · have hw := hw.2 hc
        refine lv_iload hx hb d_M_write_15 (lv_at hl 3 rfl) ?_
        refine lv_bipush (v := 7) hx hb d_M_write_17 (by decide) ?_
        refine lv_icmp_le (tgt := 24) hx hb d_M_write_19 rfl (fun hc => ?_) (fun hc => ?_)
        · have hw := hw.1 hc
          refine lv_aload_n hx hb d_M_write_24 rfl (lv_at hl 0 rfl) ?_
          refine lv_lload_n hx hb d_M_write_25 rfl (lv_at hl 1 rfl) ?_
          refine lv_lconst (v := 0) hx hb d_M_write_26 (by decide) ?_
          refine W.lcmp hx hb d_M_write_27 ?_
          refine lv_if_ge (tgt := 35) hx hb d_M_write_28 rfl (fun hc => ?_) (fun hc => ?_)
          · have hw := hw.1 ((lg_cmp_ge _ _).mp hc)
            refine lv_iconst (v := 0) hx hb d_M_write_35 (by decide) ?_
            exact hJ360 un sl md false m_os m_ts m_dg m_out m_tx _ _ _ (lv_sub hl [0, 1, 2, 3] rfl) hP hD hS hw
          · have hw := hw.2 (fun h => hc ((lg_cmp_ge _ _).mpr h))
            refine lv_iconst (v := 1) hx hb d_M_write_31 (by decide) ?_
            refine lv_goto (tgt := 36) hx hb d_M_write_32 rfl ?_
            exact hJ360 un sl md true m_os m_ts m_dg m_out m_tx _ _ _ (lv_sub hl [0, 1, 2, 3] rfl) hP hD hS hw
        · have hw := hw.2 hc
          refine lv_iconst (v := (-1)) hx hb d_M_write_22 (by decide) ?_
          exact ct_iret hx hb hr hlk hK hS (m_os, m_ts, m_dg, m_out, m_tx) hw hP hD d_M_write_23
/-! DecimalPatternsModel.type(C)Z -/
def wp_M_type (m_ts : Int32) (m_tx : Nat → Int32) (cd : Int32) (Q : Bool → (Int32 × (Nat → Int32)) → Prop) : Prop := (cd < 32 → (Q false (m_ts, m_tx))) ∧ (¬ cd < 32 → ((126 < cd → (Q false (m_ts, m_tx))) ∧ (¬ 126 < cd → ((m_ts < 100 → (vp_in m_ts 400 ∧ (Q true (m_ts + 1, upd m_tx m_ts.toNatClampNeg cd)))) ∧ (¬ m_ts < 100 → (Q false (m_ts, m_tx)))))))
set_option maxHeartbeats 4000000 in
set_option maxRecDepth 100000 in
theorem c_M_type (l : Launch) (D : va_G) (cA : ClassId) (mo mo_dr mo_now mo_first mo_has mo_da mo_dl mo_af mo_al mo_sy mo_dg mo_out mo_tx : Nat) (m_ds : Int32) (m_st : Int32) (m_sub : Int32) (m_q : Int32) (m_two : Bool) (m_least : Int32) (m_os : Int32) (m_ts : Int32) (m_fs : Int64) (m_fc : Int32) (m_g : Int64) (m_gs : Int32) (m_dr : Nat → Int32) (m_now : Nat → Int32) (m_first : Nat → Int32) (m_has : Nat → Int32) (m_da : Nat → Int32) (m_dl : Nat → Int32) (m_af : Nat → Int32) (m_al : Nat → Int32) (m_sy : Nat → Int32) (m_dg : Nat → Int32) (m_out : Nat → Int32) (m_tx : Nat → Int32) (cd : Int32) (Q : Bool → (Int32 × (Nat → Int32)) → Prop) (hw : wp_M_type m_ts m_tx cd Q) : ct_M vwCl l D [(cA, .int)] y_M_type w_M_type { frames := 0, cells := 0, slots := 0, locals := 0 } [.ref mo, .int cd] (wd_Mo cA mo mo_dr mo_now mo_first mo_has mo_da mo_dl mo_af mo_al mo_sy mo_dg mo_out mo_tx m_ds m_st m_sub m_q m_two m_least m_os m_ts m_fs m_fc m_g m_gs m_dr m_now m_first m_has m_da m_dl m_af m_al m_sy m_dg m_out m_tx) (ct_qz vwCl D [(cA, .int)] Q (fun u => wd_Mo cA mo mo_dr mo_now mo_first mo_has mo_da mo_dl mo_af mo_al mo_sy mo_dg mo_out mo_tx m_ds m_st m_sub m_q m_two m_least m_os u.1 m_fs m_fc m_g m_gs m_dr m_now m_first m_has m_da m_dl m_af m_al m_sy m_dg m_out u.2)) := by
  refine ct_enter (cc := b_M_type) (maxL := 2) (ret := (some .boolean)) (by decide) rfl (Nat.le_of_ble_eq_true rfl) ?_
  intro p e s m args below meth c A ls hx hb hr hlk hml hts hown hA hS hP hK hN hD hl
  have hl : lv_has ls 2 [(0, .ref mo), (1, .int cd)] := hl
  have htb : ∀ w ∈ tbl, w.before args s = true := fun w h => hts w (List.mem_cons_of_mem _ h)
  have hown : s.vm.findClass "DecimalPatternsModel" = some m.cls := hown
  unfold wp_M_type at hw
  refine lv_iload_n hx hb d_M_type_0 rfl (lv_at hl 1 rfl) ?_
  refine lv_bipush (v := 32) hx hb d_M_type_1 (by decide) ?_
  refine lv_icmp_lt (tgt := 21) hx hb d_M_type_3 rfl (fun hc => ?_) (fun hc => ?_)
  · have hw := hw.1 hc
    refine lv_iconst (v := 0) hx hb d_M_type_21 (by decide) ?_
    exact ct_zret false hx hb hr hlk hK hS (m_ts, m_tx) hw hP hD d_M_type_22
  · have hw := hw.2 hc
    refine lv_iload_n hx hb d_M_type_6 rfl (lv_at hl 1 rfl) ?_
    refine lv_bipush (v := 126) hx hb d_M_type_7 (by decide) ?_
    refine lv_icmp_gt (tgt := 21) hx hb d_M_type_9 rfl (fun hc => ?_) (fun hc => ?_)
    · have hw := hw.1 hc
      refine lv_iconst (v := 0) hx hb d_M_type_21 (by decide) ?_
      exact ct_zret false hx hb hr hlk hK hS (m_ts, m_tx) hw hP hD d_M_type_22
    · have hw := hw.2 hc
      refine lv_aload_n hx hb d_M_type_12 rfl (lv_at hl 0 rfl) ?_
      refine va_get (ci := 9) (C := R_Mo) (T := F_Mo) (N := 24) hx hb htb in_Mo hown hK hP 0 rfl rfl 19 (by decide) (htb _ tw715) (fun _ h9 => h9) rfl d_M_type_13 ?_
      refine lv_bipush (v := 100) hx hb d_M_type_16 (by decide) ?_
      refine lv_icmp_lt (tgt := 23) hx hb d_M_type_18 rfl (fun hc => ?_) (fun hc => ?_)
      · have hw := hw.1 hc
        refine lv_aload_n hx hb d_M_type_23 rfl (lv_at hl 0 rfl) ?_
        refine va_get (ci := 9) (C := R_Mo) (T := F_Mo) (N := 24) hx hb htb in_Mo hown hK hP 0 rfl rfl 18 (by decide) (htb _ tw714) (fun _ h9 => h9) rfl d_M_type_24 ?_
        refine lv_aload_n hx hb d_M_type_27 rfl (lv_at hl 0 rfl) ?_
        refine va_get (ci := 9) (C := R_Mo) (T := F_Mo) (N := 24) hx hb htb in_Mo hown hK hP 0 rfl rfl 19 (by decide) (htb _ tw715) (fun _ h9 => h9) rfl d_M_type_28 ?_
        refine lv_iload_n hx hb d_M_type_31 rfl (lv_at hl 1 rfl) ?_
        have hi := hw.1
        have hw := hw.2
        refine va_iast hx hb hK hP hD hS 12 0 rfl rfl hi d_M_type_32 (fun H locs hP hD hS => ?_)
        have hP : va_P D vwCl (wd_Mo cA mo mo_dr mo_now mo_first mo_has mo_da mo_dl mo_af mo_al mo_sy mo_dg mo_out mo_tx m_ds m_st m_sub m_q m_two m_least m_os m_ts m_fs m_fc m_g m_gs m_dr m_now m_first m_has m_da m_dl m_af m_al m_sy m_dg m_out (upd m_tx m_ts.toNatClampNeg cd)) H := hP
        have hD : va_D A (wd_Mo cA mo mo_dr mo_now mo_first mo_has mo_da mo_dl mo_af mo_al mo_sy mo_dg mo_out mo_tx m_ds m_st m_sub m_q m_two m_least m_os m_ts m_fs m_fc m_g m_gs m_dr m_now m_first m_has m_da m_dl m_af m_al m_sy m_dg m_out (upd m_tx m_ts.toNatClampNeg cd)) := hD
        refine lv_aload_n hx hb d_M_type_33 rfl (lv_at hl 0 rfl) ?_
        refine lv_dup hx hb d_M_type_34 rfl ?_
        refine va_get (ci := 9) (C := R_Mo) (T := F_Mo) (N := 24) hx hb htb in_Mo hown hK hP 0 rfl rfl 19 (by decide) (htb _ tw715) (fun _ h9 => h9) rfl d_M_type_35 ?_
        refine lv_iconst (v := 1) hx hb d_M_type_38 (by decide) ?_
        refine lv_iadd hx hb d_M_type_39 ?_
        refine va_put (ci := 9) (v := .int (m_ts + 1)) (ty := .int) (C := R_Mo) (T := F_Mo) (N := 24) hx hb htb in_Mo t_Mo t_Mo_ok n_Mo hown hK hP hD hS 0 rfl rfl 19 (by decide) (htb _ tw715) (fun _ h9 => h9) rfl (by decide +kernel) rfl rfl (Nat.le_of_ble_eq_true rfl) d_M_type_40 (fun H locs hP hD hS => ?_)
        have hP : va_P D vwCl (wd_Mo cA mo mo_dr mo_now mo_first mo_has mo_da mo_dl mo_af mo_al mo_sy mo_dg mo_out mo_tx m_ds m_st m_sub m_q m_two m_least m_os (m_ts + 1) m_fs m_fc m_g m_gs m_dr m_now m_first m_has m_da m_dl m_af m_al m_sy m_dg m_out (upd m_tx m_ts.toNatClampNeg cd)) H := hP
        have hD : va_D A (wd_Mo cA mo mo_dr mo_now mo_first mo_has mo_da mo_dl mo_af mo_al mo_sy mo_dg mo_out mo_tx m_ds m_st m_sub m_q m_two m_least m_os (m_ts + 1) m_fs m_fc m_g m_gs m_dr m_now m_first m_has m_da m_dl m_af m_al m_sy m_dg m_out (upd m_tx m_ts.toNatClampNeg cd)) := hD
        refine lv_iconst (v := 1) hx hb d_M_type_43 (by decide) ?_
        exact ct_zret true hx hb hr hlk hK hS (m_ts + 1, upd m_tx m_ts.toNatClampNeg cd) hw hP hD d_M_type_44
      · have hw := hw.2 hc
        refine lv_iconst (v := 0) hx hb d_M_type_21 (by decide) ?_
        exact ct_zret false hx hb hr hlk hK hS (m_ts, m_tx) hw hP hD d_M_type_22
/-! DecimalPatternsModel.wipe()V -/
def wp_M_wipe (m_ts : Int32) (Q : Int32 → Prop) : Prop := Q 0
set_option maxHeartbeats 4000000 in
set_option maxRecDepth 100000 in
theorem c_M_wipe (l : Launch) (D : va_G) (cA : ClassId) (mo mo_dr mo_now mo_first mo_has mo_da mo_dl mo_af mo_al mo_sy mo_dg mo_out mo_tx : Nat) (m_ds : Int32) (m_st : Int32) (m_sub : Int32) (m_q : Int32) (m_two : Bool) (m_least : Int32) (m_os : Int32) (m_ts : Int32) (m_fs : Int64) (m_fc : Int32) (m_g : Int64) (m_gs : Int32) (m_dr : Nat → Int32) (m_now : Nat → Int32) (m_first : Nat → Int32) (m_has : Nat → Int32) (m_da : Nat → Int32) (m_dl : Nat → Int32) (m_af : Nat → Int32) (m_al : Nat → Int32) (m_sy : Nat → Int32) (m_dg : Nat → Int32) (m_out : Nat → Int32) (m_tx : Nat → Int32) (Q : Int32 → Prop) (hw : wp_M_wipe m_ts Q) : ct_M vwCl l D [(cA, .int)] y_M_wipe w_M_wipe { frames := 0, cells := 0, slots := 0, locals := 0 } [.ref mo] (wd_Mo cA mo mo_dr mo_now mo_first mo_has mo_da mo_dl mo_af mo_al mo_sy mo_dg mo_out mo_tx m_ds m_st m_sub m_q m_two m_least m_os m_ts m_fs m_fc m_g m_gs m_dr m_now m_first m_has m_da m_dl m_af m_al m_sy m_dg m_out m_tx) (ct_qv vwCl D [(cA, .int)] Q (fun u => wd_Mo cA mo mo_dr mo_now mo_first mo_has mo_da mo_dl mo_af mo_al mo_sy mo_dg mo_out mo_tx m_ds m_st m_sub m_q m_two m_least m_os u m_fs m_fc m_g m_gs m_dr m_now m_first m_has m_da m_dl m_af m_al m_sy m_dg m_out m_tx)) := by
  refine ct_enter (cc := b_M_wipe) (maxL := 1) (ret := none) (by decide) rfl (Nat.le_of_ble_eq_true rfl) ?_
  intro p e s m args below meth c A ls hx hb hr hlk hml hts hown hA hS hP hK hN hD hl
  have hl : lv_has ls 1 [(0, .ref mo)] := hl
  have htb : ∀ w ∈ tbl, w.before args s = true := fun w h => hts w (List.mem_cons_of_mem _ h)
  have hown : s.vm.findClass "DecimalPatternsModel" = some m.cls := hown
  unfold wp_M_wipe at hw
  refine lv_aload_n hx hb d_M_wipe_0 rfl (lv_at hl 0 rfl) ?_
  refine lv_iconst (v := 0) hx hb d_M_wipe_1 (by decide) ?_
  refine va_put (ci := 9) (v := .int 0) (ty := .int) (C := R_Mo) (T := F_Mo) (N := 24) hx hb htb in_Mo t_Mo t_Mo_ok n_Mo hown hK hP hD hS 0 rfl rfl 19 (by decide) (htb _ tw715) (fun _ h9 => h9) rfl (by decide +kernel) rfl rfl (Nat.le_of_ble_eq_true rfl) d_M_wipe_2 (fun H locs hP hD hS => ?_)
  have hP : va_P D vwCl (wd_Mo cA mo mo_dr mo_now mo_first mo_has mo_da mo_dl mo_af mo_al mo_sy mo_dg mo_out mo_tx m_ds m_st m_sub m_q m_two m_least m_os 0 m_fs m_fc m_g m_gs m_dr m_now m_first m_has m_da m_dl m_af m_al m_sy m_dg m_out m_tx) H := hP
  have hD : va_D A (wd_Mo cA mo mo_dr mo_now mo_first mo_has mo_da mo_dl mo_af mo_al mo_sy mo_dg mo_out mo_tx m_ds m_st m_sub m_q m_two m_least m_os 0 m_fs m_fc m_g m_gs m_dr m_now m_first m_has m_da m_dl m_af m_al m_sy m_dg m_out m_tx) := hD
  exact ct_vret hx hb hr hlk hK hS 0 hw hP hD d_M_wipe_5
/-! DecimalPatternsModel.length()I -/
def wp_M_length (m_ts : Int32) (Q : Int32 → Unit → Prop) : Prop := Q m_ts ()
set_option maxHeartbeats 4000000 in
set_option maxRecDepth 100000 in
theorem c_M_length (l : Launch) (D : va_G) (cA : ClassId) (mo mo_dr mo_now mo_first mo_has mo_da mo_dl mo_af mo_al mo_sy mo_dg mo_out mo_tx : Nat) (m_ds : Int32) (m_st : Int32) (m_sub : Int32) (m_q : Int32) (m_two : Bool) (m_least : Int32) (m_os : Int32) (m_ts : Int32) (m_fs : Int64) (m_fc : Int32) (m_g : Int64) (m_gs : Int32) (m_dr : Nat → Int32) (m_now : Nat → Int32) (m_first : Nat → Int32) (m_has : Nat → Int32) (m_da : Nat → Int32) (m_dl : Nat → Int32) (m_af : Nat → Int32) (m_al : Nat → Int32) (m_sy : Nat → Int32) (m_dg : Nat → Int32) (m_out : Nat → Int32) (m_tx : Nat → Int32) (Q : Int32 → Unit → Prop) (hw : wp_M_length m_ts Q) : ct_M vwCl l D [(cA, .int)] y_M_length w_M_length { frames := 0, cells := 0, slots := 0, locals := 0 } [.ref mo] (wd_Mo cA mo mo_dr mo_now mo_first mo_has mo_da mo_dl mo_af mo_al mo_sy mo_dg mo_out mo_tx m_ds m_st m_sub m_q m_two m_least m_os m_ts m_fs m_fc m_g m_gs m_dr m_now m_first m_has m_da m_dl m_af m_al m_sy m_dg m_out m_tx) (ct_qi vwCl D [(cA, .int)] Q (fun u => wd_Mo cA mo mo_dr mo_now mo_first mo_has mo_da mo_dl mo_af mo_al mo_sy mo_dg mo_out mo_tx m_ds m_st m_sub m_q m_two m_least m_os m_ts m_fs m_fc m_g m_gs m_dr m_now m_first m_has m_da m_dl m_af m_al m_sy m_dg m_out m_tx)) := by
  refine ct_enter (cc := b_M_length) (maxL := 1) (ret := (some .int)) (by decide) rfl (Nat.le_of_ble_eq_true rfl) ?_
  intro p e s m args below meth c A ls hx hb hr hlk hml hts hown hA hS hP hK hN hD hl
  have hl : lv_has ls 1 [(0, .ref mo)] := hl
  have htb : ∀ w ∈ tbl, w.before args s = true := fun w h => hts w (List.mem_cons_of_mem _ h)
  have hown : s.vm.findClass "DecimalPatternsModel" = some m.cls := hown
  unfold wp_M_length at hw
  refine lv_aload_n hx hb d_M_length_0 rfl (lv_at hl 0 rfl) ?_
  refine va_get (ci := 9) (C := R_Mo) (T := F_Mo) (N := 24) hx hb htb in_Mo hown hK hP 0 rfl rfl 19 (by decide) (htb _ tw715) (fun _ h9 => h9) rfl d_M_length_1 ?_
  exact ct_iret hx hb hr hlk hK hS () hw hP hD d_M_length_4
/-! DecimalPatternsModel.at(I)I -/
def wp_M_at (m_ts : Int32) (m_tx : Nat → Int32) (ix : Int32) (Q : Int32 → Unit → Prop) : Prop := (ix < 0 → (Q (-1) ())) ∧ (¬ ix < 0 → ((ix < m_ts → (vp_in ix 400 ∧ (Q (m_tx ix.toNatClampNeg) ()))) ∧ (¬ ix < m_ts → (Q (-1) ()))))
set_option maxHeartbeats 4000000 in
set_option maxRecDepth 100000 in
theorem c_M_at (l : Launch) (D : va_G) (cA : ClassId) (mo mo_dr mo_now mo_first mo_has mo_da mo_dl mo_af mo_al mo_sy mo_dg mo_out mo_tx : Nat) (m_ds : Int32) (m_st : Int32) (m_sub : Int32) (m_q : Int32) (m_two : Bool) (m_least : Int32) (m_os : Int32) (m_ts : Int32) (m_fs : Int64) (m_fc : Int32) (m_g : Int64) (m_gs : Int32) (m_dr : Nat → Int32) (m_now : Nat → Int32) (m_first : Nat → Int32) (m_has : Nat → Int32) (m_da : Nat → Int32) (m_dl : Nat → Int32) (m_af : Nat → Int32) (m_al : Nat → Int32) (m_sy : Nat → Int32) (m_dg : Nat → Int32) (m_out : Nat → Int32) (m_tx : Nat → Int32) (ix : Int32) (Q : Int32 → Unit → Prop) (hw : wp_M_at m_ts m_tx ix Q) : ct_M vwCl l D [(cA, .int)] y_M_at w_M_at { frames := 0, cells := 0, slots := 0, locals := 0 } [.ref mo, .int ix] (wd_Mo cA mo mo_dr mo_now mo_first mo_has mo_da mo_dl mo_af mo_al mo_sy mo_dg mo_out mo_tx m_ds m_st m_sub m_q m_two m_least m_os m_ts m_fs m_fc m_g m_gs m_dr m_now m_first m_has m_da m_dl m_af m_al m_sy m_dg m_out m_tx) (ct_qi vwCl D [(cA, .int)] Q (fun u => wd_Mo cA mo mo_dr mo_now mo_first mo_has mo_da mo_dl mo_af mo_al mo_sy mo_dg mo_out mo_tx m_ds m_st m_sub m_q m_two m_least m_os m_ts m_fs m_fc m_g m_gs m_dr m_now m_first m_has m_da m_dl m_af m_al m_sy m_dg m_out m_tx)) := by
  refine ct_enter (cc := b_M_at) (maxL := 2) (ret := (some .int)) (by decide) rfl (Nat.le_of_ble_eq_true rfl) ?_
  intro p e s m args below meth c A ls hx hb hr hlk hml hts hown hA hS hP hK hN hD hl
  have hl : lv_has ls 2 [(0, .ref mo), (1, .int ix)] := hl
  have htb : ∀ w ∈ tbl, w.before args s = true := fun w h => hts w (List.mem_cons_of_mem _ h)
  have hown : s.vm.findClass "DecimalPatternsModel" = some m.cls := hown
  unfold wp_M_at at hw
  refine lv_iload_n hx hb d_M_at_0 rfl (lv_at hl 1 rfl) ?_
  refine lv_if_lt (tgt := 12) hx hb d_M_at_1 rfl (fun hc => ?_) (fun hc => ?_)
  · have hw := hw.1 hc
    refine lv_iconst (v := (-1)) hx hb d_M_at_12 (by decide) ?_
    refine lv_goto (tgt := 22) hx hb d_M_at_13 rfl ?_
    exact ct_iret hx hb hr hlk hK hS () hw hP hD d_M_at_22
  · have hw := hw.2 hc
    refine lv_iload_n hx hb d_M_at_4 rfl (lv_at hl 1 rfl) ?_
    refine lv_aload_n hx hb d_M_at_5 rfl (lv_at hl 0 rfl) ?_
    refine va_get (ci := 9) (C := R_Mo) (T := F_Mo) (N := 24) hx hb htb in_Mo hown hK hP 0 rfl rfl 19 (by decide) (htb _ tw715) (fun _ h9 => h9) rfl d_M_at_6 ?_
    refine lv_icmp_lt (tgt := 16) hx hb d_M_at_9 rfl (fun hc => ?_) (fun hc => ?_)
    · have hw := hw.1 hc
      refine lv_aload_n hx hb d_M_at_16 rfl (lv_at hl 0 rfl) ?_
      refine va_get (ci := 9) (C := R_Mo) (T := F_Mo) (N := 24) hx hb htb in_Mo hown hK hP 0 rfl rfl 18 (by decide) (htb _ tw714) (fun _ h9 => h9) rfl d_M_at_17 ?_
      refine lv_iload_n hx hb d_M_at_20 rfl (lv_at hl 1 rfl) ?_
      have hi := hw.1
      have hw := hw.2
      refine va_iald hx hb hK hP 12 0 rfl rfl hi d_M_at_21 ?_
      exact ct_iret hx hb hr hlk hK hS () hw hP hD d_M_at_22
    · have hw := hw.2 hc
      refine lv_iconst (v := (-1)) hx hb d_M_at_12 (by decide) ?_
      refine lv_goto (tgt := 22) hx hb d_M_at_13 rfl ?_
      exact ct_iret hx hb hr hlk hK hS () hw hP hD d_M_at_22
/-! DecimalPatternsModel.beginning(Z)I -/
def wp_M_beginning (m_two : Bool) (m_al : Nat → Int32) (ng : Bool) (Q : Int32 → Unit → Prop) : Prop := (ng = false → (vp_in (0 : Int32) 4 ∧ (Q (m_al (0 : Int32).toNatClampNeg) ()))) ∧ (ng = true → ((m_two = false → (vp_in (0 : Int32) 4 ∧ (Q ((m_al (0 : Int32).toNatClampNeg) + 1) ()))) ∧ (m_two = true → (vp_in (2 : Int32) 4 ∧ (Q (m_al (2 : Int32).toNatClampNeg) ())))))
set_option maxHeartbeats 4000000 in
set_option maxRecDepth 100000 in
theorem c_M_beginning (l : Launch) (D : va_G) (cA : ClassId) (mo mo_dr mo_now mo_first mo_has mo_da mo_dl mo_af mo_al mo_sy mo_dg mo_out mo_tx : Nat) (m_ds : Int32) (m_st : Int32) (m_sub : Int32) (m_q : Int32) (m_two : Bool) (m_least : Int32) (m_os : Int32) (m_ts : Int32) (m_fs : Int64) (m_fc : Int32) (m_g : Int64) (m_gs : Int32) (m_dr : Nat → Int32) (m_now : Nat → Int32) (m_first : Nat → Int32) (m_has : Nat → Int32) (m_da : Nat → Int32) (m_dl : Nat → Int32) (m_af : Nat → Int32) (m_al : Nat → Int32) (m_sy : Nat → Int32) (m_dg : Nat → Int32) (m_out : Nat → Int32) (m_tx : Nat → Int32) (ng : Bool) (Q : Int32 → Unit → Prop) (hw : wp_M_beginning m_two m_al ng Q) : ct_M vwCl l D [(cA, .int)] y_M_beginning w_M_beginning { frames := 0, cells := 0, slots := 0, locals := 0 } [.ref mo, .int (bI ng)] (wd_Mo cA mo mo_dr mo_now mo_first mo_has mo_da mo_dl mo_af mo_al mo_sy mo_dg mo_out mo_tx m_ds m_st m_sub m_q m_two m_least m_os m_ts m_fs m_fc m_g m_gs m_dr m_now m_first m_has m_da m_dl m_af m_al m_sy m_dg m_out m_tx) (ct_qi vwCl D [(cA, .int)] Q (fun u => wd_Mo cA mo mo_dr mo_now mo_first mo_has mo_da mo_dl mo_af mo_al mo_sy mo_dg mo_out mo_tx m_ds m_st m_sub m_q m_two m_least m_os m_ts m_fs m_fc m_g m_gs m_dr m_now m_first m_has m_da m_dl m_af m_al m_sy m_dg m_out m_tx)) := by
  refine ct_enter (cc := b_M_beginning) (maxL := 2) (ret := (some .int)) (by decide) rfl (Nat.le_of_ble_eq_true rfl) ?_
  intro p e s m args below meth c A ls hx hb hr hlk hml hts hown hA hS hP hK hN hD hl
  have hl : lv_has ls 2 [(0, .ref mo), (1, .int (bI ng))] := hl
  have htb : ∀ w ∈ tbl, w.before args s = true := fun w h => hts w (List.mem_cons_of_mem _ h)
  have hown : s.vm.findClass "DecimalPatternsModel" = some m.cls := hown
  unfold wp_M_beginning at hw
  refine lv_iload_n hx hb d_M_beginning_0 rfl (lv_at hl 1 rfl) ?_
  refine lv_if_eq (tgt := 31) hx hb d_M_beginning_1 rfl (fun hc => ?_) (fun hc => ?_)
  · have hw := hw.1 ((bI_0 _).mp hc)
    refine lv_aload_n hx hb d_M_beginning_31 rfl (lv_at hl 0 rfl) ?_
    refine va_get (ci := 9) (C := R_Mo) (T := F_Mo) (N := 24) hx hb htb in_Mo hown hK hP 0 rfl rfl 11 (by decide) (htb _ tw707) (fun _ h9 => h9) rfl d_M_beginning_32 ?_
    refine lv_iconst (v := 0) hx hb d_M_beginning_35 (by decide) ?_
    have hi := hw.1
    have hw := hw.2
    refine va_iald hx hb hK hP 8 0 rfl rfl hi d_M_beginning_36 ?_
    exact ct_iret hx hb hr hlk hK hS () hw hP hD d_M_beginning_37
  · have hw := hw.2 ((bI_n0 _).mp hc)
    refine lv_aload_n hx hb d_M_beginning_4 rfl (lv_at hl 0 rfl) ?_
    refine va_get (ci := 9) (C := R_Mo) (T := F_Mo) (N := 24) hx hb htb in_Mo hown hK hP 0 rfl rfl 12 (by decide) (htb _ tw708) (fun _ h9 => h9) rfl d_M_beginning_5 ?_
    refine lv_if_eq (tgt := 20) hx hb d_M_beginning_8 rfl (fun hc => ?_) (fun hc => ?_)
    · have hw := hw.1 ((bI_0 _).mp hc)
      refine lv_aload_n hx hb d_M_beginning_20 rfl (lv_at hl 0 rfl) ?_
      refine va_get (ci := 9) (C := R_Mo) (T := F_Mo) (N := 24) hx hb htb in_Mo hown hK hP 0 rfl rfl 11 (by decide) (htb _ tw707) (fun _ h9 => h9) rfl d_M_beginning_21 ?_
      refine lv_iconst (v := 0) hx hb d_M_beginning_24 (by decide) ?_
      have hi := hw.1
      have hw := hw.2
      refine va_iald hx hb hK hP 8 0 rfl rfl hi d_M_beginning_25 ?_
      refine lv_iconst (v := 1) hx hb d_M_beginning_26 (by decide) ?_
      refine lv_iadd hx hb d_M_beginning_27 ?_
      refine lv_goto (tgt := 37) hx hb d_M_beginning_28 rfl ?_
      exact ct_iret hx hb hr hlk hK hS () hw hP hD d_M_beginning_37
    · have hw := hw.2 ((bI_n0 _).mp hc)
      refine lv_aload_n hx hb d_M_beginning_11 rfl (lv_at hl 0 rfl) ?_
      refine va_get (ci := 9) (C := R_Mo) (T := F_Mo) (N := 24) hx hb htb in_Mo hown hK hP 0 rfl rfl 11 (by decide) (htb _ tw707) (fun _ h9 => h9) rfl d_M_beginning_12 ?_
      refine lv_iconst (v := 2) hx hb d_M_beginning_15 (by decide) ?_
      have hi := hw.1
      have hw := hw.2
      refine va_iald hx hb hK hP 8 0 rfl rfl hi d_M_beginning_16 ?_
      refine lv_goto (tgt := 37) hx hb d_M_beginning_17 rfl ?_
      exact ct_iret hx hb hr hlk hK hS () hw hP hD d_M_beginning_37
/-! DecimalPatternsModel.push(II)Z -/
def wp_M_push_J470 (x2 : Int32) (m_g : Int64) (Q : Bool → Int64 → Prop) : Prop := ((m_g + x2.toInt64) ≤ 0 → (Q false (m_g + x2.toInt64))) ∧ (¬ (m_g + x2.toInt64) ≤ 0 → (Q true (m_g + x2.toInt64)))
def wp_M_push_L20 : Nat → Int32 → Int32 → Int32 → Int64 → (Bool → Int64 → Prop) → Prop
  | 0, _, _, _, _, _ => False
  | n20 + 1, x1, x2, x3, m_g, Q => (x1 < x3 → (wp_M_push_J470 x2 m_g Q)) ∧ (¬ x1 < x3 → ((m_g ≤ 0 → (wp_M_push_J470 x2 m_g Q)) ∧ (¬ m_g ≤ 0 → ((m_g ≤ 922337203685477580 → (wp_M_push_L20 n20 x1 x2 (x3 + 1) (m_g * 10) Q)) ∧ (¬ m_g ≤ 922337203685477580 → (Q false m_g))))))
def wp_M_push (m_g : Int64) (zs : Int32) (dg : Int32) (Q : Bool → Int64 → Prop) : Prop := ∃ n20, wp_M_push_L20 n20 zs dg 0 m_g Q
set_option maxHeartbeats 4000000 in
set_option maxRecDepth 100000 in
theorem c_M_push (l : Launch) (D : va_G) (cA : ClassId) (mo mo_dr mo_now mo_first mo_has mo_da mo_dl mo_af mo_al mo_sy mo_dg mo_out mo_tx : Nat) (m_ds : Int32) (m_st : Int32) (m_sub : Int32) (m_q : Int32) (m_two : Bool) (m_least : Int32) (m_os : Int32) (m_ts : Int32) (m_fs : Int64) (m_fc : Int32) (m_g : Int64) (m_gs : Int32) (m_dr : Nat → Int32) (m_now : Nat → Int32) (m_first : Nat → Int32) (m_has : Nat → Int32) (m_da : Nat → Int32) (m_dl : Nat → Int32) (m_af : Nat → Int32) (m_al : Nat → Int32) (m_sy : Nat → Int32) (m_dg : Nat → Int32) (m_out : Nat → Int32) (m_tx : Nat → Int32) (zs : Int32) (dg : Int32) (Q : Bool → Int64 → Prop) (hw : wp_M_push m_g zs dg Q) : ct_M vwCl l D [(cA, .int)] y_M_push w_M_push { frames := 0, cells := 0, slots := 0, locals := 0 } [.ref mo, .int zs, .int dg] (wd_Mo cA mo mo_dr mo_now mo_first mo_has mo_da mo_dl mo_af mo_al mo_sy mo_dg mo_out mo_tx m_ds m_st m_sub m_q m_two m_least m_os m_ts m_fs m_fc m_g m_gs m_dr m_now m_first m_has m_da m_dl m_af m_al m_sy m_dg m_out m_tx) (ct_qz vwCl D [(cA, .int)] Q (fun u => wd_Mo cA mo mo_dr mo_now mo_first mo_has mo_da mo_dl mo_af mo_al mo_sy mo_dg mo_out mo_tx m_ds m_st m_sub m_q m_two m_least m_os m_ts m_fs m_fc u m_gs m_dr m_now m_first m_has m_da m_dl m_af m_al m_sy m_dg m_out m_tx)) := by
  refine ct_enter (cc := b_M_push) (maxL := 4) (ret := (some .boolean)) (by decide) rfl (Nat.le_of_ble_eq_true rfl) ?_
  intro p e s m args below meth c A ls hx hb hr hlk hml hts hown hA hS hP hK hN hD hl
  have hl : lv_has ls 4 [(0, .ref mo), (1, .int zs), (2, .int dg)] := hl
  have htb : ∀ w ∈ tbl, w.before args s = true := fun w h => hts w (List.mem_cons_of_mem _ h)
  have hown : s.vm.findClass "DecimalPatternsModel" = some m.cls := hown
  unfold wp_M_push at hw
  have hJ470 : ∀ (x2 : Int32) (m_g : Int64) (H : Heap) (locs : List Loc) (ls : Array Slot), lv_has ls 4 [(0, .ref mo), (2, .int x2)] → va_P D vwCl (wd_Mo cA mo mo_dr mo_now mo_first mo_has mo_da mo_dl mo_af mo_al mo_sy mo_dg mo_out mo_tx m_ds m_st m_sub m_q m_two m_least m_os m_ts m_fs m_fc m_g m_gs m_dr m_now m_first m_has m_da m_dl m_af m_al m_sy m_dg m_out m_tx) H → va_D A (wd_Mo cA mo mo_dr mo_now mo_first mo_has mo_da mo_dl mo_af mo_al mo_sy mo_dg mo_out mo_tx m_ds m_st m_sub m_q m_two m_least m_os m_ts m_fs m_fc m_g m_gs m_dr m_now m_first m_has m_da m_dl m_af m_al m_sy m_dg m_out m_tx) → va_S A s.heap H locs → wp_M_push_J470 x2 m_g Q → W p l e { frames := 0, cells := 0, slots := 0, locals := 0 } s m args below meth c H locs 0 0 (MQ below (ct_qz vwCl D [(cA, .int)] Q (fun u => wd_Mo cA mo mo_dr mo_now mo_first mo_has mo_da mo_dl mo_af mo_al mo_sy mo_dg mo_out mo_tx m_ds m_st m_sub m_q m_two m_least m_os m_ts m_fs m_fc u m_gs m_dr m_now m_first m_has m_da m_dl m_af m_al m_sy m_dg m_out m_tx) A) args s 0 0 A) (F0 m 47 ls []) := by
    intro x2 m_g H locs ls hl hP hD hS hw
    unfold wp_M_push_J470 at hw
    refine lv_aload_n hx hb d_M_push_47 rfl (lv_at hl 0 rfl) ?_
    refine lv_dup hx hb d_M_push_48 rfl ?_
    refine va_get (ci := 9) (C := R_Mo) (T := F_Mo) (N := 24) hx hb htb in_Mo hown hK hP 0 rfl rfl 22 (by decide) (htb _ tw718) (fun _ h9 => h9) rfl d_M_push_49 ?_
    refine lv_iload_n hx hb d_M_push_52 rfl (lv_at hl 1 rfl) ?_
    refine lv_i2l (v := x2.toInt64) hx hb d_M_push_53 rfl ?_
    refine lv_ladd hx hb d_M_push_54 ?_
    refine va_put (ci := 9) (v := .long (m_g + x2.toInt64)) (ty := .long) (C := R_Mo) (T := F_Mo) (N := 24) hx hb htb in_Mo t_Mo t_Mo_ok n_Mo hown hK hP hD hS 0 rfl rfl 22 (by decide) (htb _ tw718) (fun _ h9 => h9) rfl (by decide +kernel) rfl rfl (Nat.le_of_ble_eq_true rfl) d_M_push_55 (fun H locs hP hD hS => ?_)
    have hP : va_P D vwCl (wd_Mo cA mo mo_dr mo_now mo_first mo_has mo_da mo_dl mo_af mo_al mo_sy mo_dg mo_out mo_tx m_ds m_st m_sub m_q m_two m_least m_os m_ts m_fs m_fc (m_g + x2.toInt64) m_gs m_dr m_now m_first m_has m_da m_dl m_af m_al m_sy m_dg m_out m_tx) H := hP
    have hD : va_D A (wd_Mo cA mo mo_dr mo_now mo_first mo_has mo_da mo_dl mo_af mo_al mo_sy mo_dg mo_out mo_tx m_ds m_st m_sub m_q m_two m_least m_os m_ts m_fs m_fc (m_g + x2.toInt64) m_gs m_dr m_now m_first m_has m_da m_dl m_af m_al m_sy m_dg m_out m_tx) := hD
    refine lv_aload_n hx hb d_M_push_58 rfl (lv_at hl 0 rfl) ?_
    refine va_get (ci := 9) (C := R_Mo) (T := F_Mo) (N := 24) hx hb htb in_Mo hown hK hP 0 rfl rfl 22 (by decide) (htb _ tw718) (fun _ h9 => h9) rfl d_M_push_59 ?_
    refine lv_lconst (v := 0) hx hb d_M_push_62 (by decide) ?_
    refine W.lcmp hx hb d_M_push_63 ?_
    refine lv_if_le (tgt := 71) hx hb d_M_push_64 rfl (fun hc => ?_) (fun hc => ?_)
    · have hw := hw.1 ((lg_cmp_le _ _).mp hc)
      refine lv_iconst (v := 0) hx hb d_M_push_71 (by decide) ?_
      exact ct_zret false hx hb hr hlk hK hS (m_g + x2.toInt64) hw hP hD d_M_push_72
    · have hw := hw.2 (fun h => hc ((lg_cmp_le _ _).mpr h))
      refine lv_iconst (v := 1) hx hb d_M_push_67 (by decide) ?_
      refine lv_goto (tgt := 72) hx hb d_M_push_68 rfl ?_
      exact ct_zret true hx hb hr hlk hK hS (m_g + x2.toInt64) hw hP hD d_M_push_72
  have hL20 : ∀ (n20 : Nat) (x1 : Int32) (x2 : Int32) (x3 : Int32) (m_g : Int64) (H : Heap) (locs : List Loc) (ls : Array Slot), lv_has ls 4 [(0, .ref mo), (1, .int x1), (2, .int x2), (3, .int x3)] → va_P D vwCl (wd_Mo cA mo mo_dr mo_now mo_first mo_has mo_da mo_dl mo_af mo_al mo_sy mo_dg mo_out mo_tx m_ds m_st m_sub m_q m_two m_least m_os m_ts m_fs m_fc m_g m_gs m_dr m_now m_first m_has m_da m_dl m_af m_al m_sy m_dg m_out m_tx) H → va_D A (wd_Mo cA mo mo_dr mo_now mo_first mo_has mo_da mo_dl mo_af mo_al mo_sy mo_dg mo_out mo_tx m_ds m_st m_sub m_q m_two m_least m_os m_ts m_fs m_fc m_g m_gs m_dr m_now m_first m_has m_da m_dl m_af m_al m_sy m_dg m_out m_tx) → va_S A s.heap H locs → wp_M_push_L20 n20 x1 x2 x3 m_g Q → W p l e { frames := 0, cells := 0, slots := 0, locals := 0 } s m args below meth c H locs 0 0 (MQ below (ct_qz vwCl D [(cA, .int)] Q (fun u => wd_Mo cA mo mo_dr mo_now mo_first mo_has mo_da mo_dl mo_af mo_al mo_sy mo_dg mo_out mo_tx m_ds m_st m_sub m_q m_two m_least m_os m_ts m_fs m_fc u m_gs m_dr m_now m_first m_has m_da m_dl m_af m_al m_sy m_dg m_out m_tx) A) args s 0 0 A) (F0 m 2 ls []) := by
    intro n20
    induction n20 with
    | zero => intro x1 x2 x3 m_g H locs ls hl hP hD hS hw; exact hw.elim
    | succ n20 ih20 =>
      intro x1 x2 x3 m_g H locs ls hl hP hD hS hw
      unfold wp_M_push_L20 at hw
      refine lv_iload_n hx hb d_M_push_2 rfl (lv_at hl 3 rfl) ?_
      refine lv_iload_n hx hb d_M_push_3 rfl (lv_at hl 1 rfl) ?_
      refine lv_icmp_gt (tgt := 47) hx hb d_M_push_4 rfl (fun hc => ?_) (fun hc => ?_)
      · have hw := hw.1 hc
        exact hJ470 x2 m_g _ _ _ (lv_sub hl [0, 2] rfl) hP hD hS hw
      · have hw := hw.2 hc
        refine lv_aload_n hx hb d_M_push_7 rfl (lv_at hl 0 rfl) ?_
        refine va_get (ci := 9) (C := R_Mo) (T := F_Mo) (N := 24) hx hb htb in_Mo hown hK hP 0 rfl rfl 22 (by decide) (htb _ tw718) (fun _ h9 => h9) rfl d_M_push_8 ?_
        refine lv_lconst (v := 0) hx hb d_M_push_11 (by decide) ?_
        refine W.lcmp hx hb d_M_push_12 ?_
        refine lv_if_le (tgt := 47) hx hb d_M_push_13 rfl (fun hc => ?_) (fun hc => ?_)
        · have hw := hw.1 ((lg_cmp_le _ _).mp hc)
          exact hJ470 x2 m_g _ _ _ (lv_sub hl [0, 2] rfl) hP hD hS hw
        · have hw := hw.2 (fun h => hc ((lg_cmp_le _ _).mpr h))
          refine lv_aload_n hx hb d_M_push_16 rfl (lv_at hl 0 rfl) ?_
          refine va_get (ci := 9) (C := R_Mo) (T := F_Mo) (N := 24) hx hb htb in_Mo hown hK hP 0 rfl rfl 22 (by decide) (htb _ tw718) (fun _ h9 => h9) rfl d_M_push_17 ?_
          refine lv_ldc2 (v := 922337203685477580) hx hb hown (htb _ tw935) d_M_push_20 ?_
          refine W.lcmp hx hb d_M_push_23 ?_
          refine lv_if_le (tgt := 29) hx hb d_M_push_24 rfl (fun hc => ?_) (fun hc => ?_)
          · have hw := hw.1 ((lg_cmp_le _ _).mp hc)
            refine lv_aload_n hx hb d_M_push_29 rfl (lv_at hl 0 rfl) ?_
            refine lv_aload_n hx hb d_M_push_30 rfl (lv_at hl 0 rfl) ?_
            refine va_get (ci := 9) (C := R_Mo) (T := F_Mo) (N := 24) hx hb htb in_Mo hown hK hP 0 rfl rfl 22 (by decide) (htb _ tw718) (fun _ h9 => h9) rfl d_M_push_31 ?_
            refine lv_ldc2 (v := 10) hx hb hown (htb _ tw855) d_M_push_34 ?_
            refine lv_lmul hx hb d_M_push_37 ?_
            refine va_put (ci := 9) (v := .long (m_g * 10)) (ty := .long) (C := R_Mo) (T := F_Mo) (N := 24) hx hb htb in_Mo t_Mo t_Mo_ok n_Mo hown hK hP hD hS 0 rfl rfl 22 (by decide) (htb _ tw718) (fun _ h9 => h9) rfl (by decide +kernel) rfl rfl (Nat.le_of_ble_eq_true rfl) d_M_push_38 (fun H locs hP hD hS => ?_)
            have hP : va_P D vwCl (wd_Mo cA mo mo_dr mo_now mo_first mo_has mo_da mo_dl mo_af mo_al mo_sy mo_dg mo_out mo_tx m_ds m_st m_sub m_q m_two m_least m_os m_ts m_fs m_fc (m_g * 10) m_gs m_dr m_now m_first m_has m_da m_dl m_af m_al m_sy m_dg m_out m_tx) H := hP
            have hD : va_D A (wd_Mo cA mo mo_dr mo_now mo_first mo_has mo_da mo_dl mo_af mo_al mo_sy mo_dg mo_out mo_tx m_ds m_st m_sub m_q m_two m_least m_os m_ts m_fs m_fc (m_g * 10) m_gs m_dr m_now m_first m_has m_da m_dl m_af m_al m_sy m_dg m_out m_tx) := hD
            refine lv_iinc (k := 3) (v := x3 + 1) (lv' := [(3, .int (x3 + 1)), (0, .ref mo), (1, .int x1), (2, .int x2)]) hx hb d_M_push_41 hl rfl (by rfl) (by decide) rfl (fun ls hl => ?_)
            refine lv_goto (tgt := 2) hx hb d_M_push_44 rfl ?_
            exact ih20 x1 x2 (x3 + 1) (m_g * 10) _ _ _ (lv_sub hl [1, 2, 3, 0] rfl) hP hD hS hw
          · have hw := hw.2 (fun h => hc ((lg_cmp_le _ _).mpr h))
            refine lv_iconst (v := 0) hx hb d_M_push_27 (by decide) ?_
            exact ct_zret false hx hb hr hlk hK hS m_g hw hP hD d_M_push_28
  refine lv_iconst (v := 0) hx hb d_M_push_0 (by decide) ?_
  refine lv_istore_n (lv' := [(3, .int 0), (0, .ref mo), (1, .int zs), (2, .int dg)]) hx hb d_M_push_1 rfl hl (by decide) rfl (fun ls hl => ?_)
  obtain ⟨n20, hw⟩ := hw
  exact hL20 n20 zs dg 0 m_g _ _ _ (lv_sub hl [1, 2, 3, 0] rfl) hP hD hS hw
