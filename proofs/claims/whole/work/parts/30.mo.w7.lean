/-! DecimalPatternsModel.readAs(Z)Z -/
def wp_M_readAs_J300 (m_two : Bool) (m_least : Int32) (m_ts : Int32) (m_has : Nat → Int32) (m_af : Nat → Int32) (m_al : Nat → Int32) (m_sy : Nat → Int32) (m_tx : Nat → Int32) (x1 : Bool) (x2 : Int32) (y0 : Int32) (y2 : Int32) (m_os : Int32) (m_g : Int64) (m_gs : Int32) (m_dg : Nat → Int32) (m_out : Nat → Int32) (Q : Bool → (Int32 × Int64 × Int32 × (Nat → Int32) × (Nat → Int32)) → Prop) : Prop := vp_in y0 4 ∧ (((y2 - (m_al y0.toNatClampNeg)) ≤ x2 → (Q false (m_os, m_g, m_gs, m_dg, m_out))) ∧ (¬ (y2 - (m_al y0.toNatClampNeg)) ≤ x2 → (wp_M_loose m_g m_gs m_sy m_tx x2 (y2 - (m_al y0.toNatClampNeg)) (fun r3 u4 => (r3 = false → (Q false (m_os, u4.1, u4.2, m_dg, m_out))) ∧ (r3 = true → (wp_M_settle u4.1 u4.2 m_af m_al (fun r5 u6 => (r5 = false → (Q false (m_os, u6.1, u6.2, m_dg, m_out))) ∧ (r5 = true → (wp_M_isText m_two m_least m_os m_ts u6.1 u6.2 m_has m_af m_al m_sy m_dg m_out m_tx x1 (fun r7 u8 => (r7 = false → (Q false (u8.1, u6.1, u6.2, u8.2.1, u8.2.2))) ∧ (r7 = true → (Q true (u8.1, u6.1, u6.2, u8.2.1, u8.2.2)))))))))))))
def wp_M_readAs_J290 (m_two : Bool) (m_least : Int32) (m_ts : Int32) (m_has : Nat → Int32) (m_af : Nat → Int32) (m_al : Nat → Int32) (m_sy : Nat → Int32) (m_tx : Nat → Int32) (x1 : Bool) (x2 : Int32) (y1 : Int32) (m_os : Int32) (m_g : Int64) (m_gs : Int32) (m_dg : Nat → Int32) (m_out : Nat → Int32) (Q : Bool → (Int32 × Int64 × Int32 × (Nat → Int32) × (Nat → Int32)) → Prop) : Prop := wp_M_readAs_J300 m_two m_least m_ts m_has m_af m_al m_sy m_tx x1 x2 1 y1 m_os m_g m_gs m_dg m_out Q
def wp_M_readAs (m_two : Bool) (m_least : Int32) (m_os : Int32) (m_ts : Int32) (m_g : Int64) (m_gs : Int32) (m_has : Nat → Int32) (m_af : Nat → Int32) (m_al : Nat → Int32) (m_sy : Nat → Int32) (m_dg : Nat → Int32) (m_out : Nat → Int32) (m_tx : Nat → Int32) (ng : Bool) (Q : Bool → (Int32 × Int64 × Int32 × (Nat → Int32) × (Nat → Int32)) → Prop) : Prop := wp_M_beginning m_two m_al ng (fun r1 u2 => (ng = false → (wp_M_readAs_J290 m_two m_least m_ts m_has m_af m_al m_sy m_tx ng r1 m_ts m_os m_g m_gs m_dg m_out Q)) ∧ (ng = true → ((m_two = false → (wp_M_readAs_J290 m_two m_least m_ts m_has m_af m_al m_sy m_tx ng r1 m_ts m_os m_g m_gs m_dg m_out Q)) ∧ (m_two = true → (wp_M_readAs_J300 m_two m_least m_ts m_has m_af m_al m_sy m_tx ng r1 3 m_ts m_os m_g m_gs m_dg m_out Q)))))
set_option maxHeartbeats 4000000 in
set_option maxRecDepth 100000 in
theorem c_M_readAs (l : Launch) (D : va_G) (cA : ClassId) (mo mo_dr mo_now mo_first mo_has mo_da mo_dl mo_af mo_al mo_sy mo_dg mo_out mo_tx : Nat) (m_ds : Int32) (m_st : Int32) (m_sub : Int32) (m_q : Int32) (m_two : Bool) (m_least : Int32) (m_os : Int32) (m_ts : Int32) (m_fs : Int64) (m_fc : Int32) (m_g : Int64) (m_gs : Int32) (m_dr : Nat → Int32) (m_now : Nat → Int32) (m_first : Nat → Int32) (m_has : Nat → Int32) (m_da : Nat → Int32) (m_dl : Nat → Int32) (m_af : Nat → Int32) (m_al : Nat → Int32) (m_sy : Nat → Int32) (m_dg : Nat → Int32) (m_out : Nat → Int32) (m_tx : Nat → Int32) (ng : Bool) (Q : Bool → (Int32 × Int64 × Int32 × (Nat → Int32) × (Nat → Int32)) → Prop) (hw : wp_M_readAs m_two m_least m_os m_ts m_g m_gs m_has m_af m_al m_sy m_dg m_out m_tx ng Q) : ct_M vwCl l D [(cA, .int)] y_M_readAs w_M_readAs { frames := 6, cells := 0, slots := 0, locals := 146 } [.ref mo, .int (bI ng)] (wd_Mo cA mo mo_dr mo_now mo_first mo_has mo_da mo_dl mo_af mo_al mo_sy mo_dg mo_out mo_tx m_ds m_st m_sub m_q m_two m_least m_os m_ts m_fs m_fc m_g m_gs m_dr m_now m_first m_has m_da m_dl m_af m_al m_sy m_dg m_out m_tx) (ct_qz vwCl D [(cA, .int)] Q (fun u => wd_Mo cA mo mo_dr mo_now mo_first mo_has mo_da mo_dl mo_af mo_al mo_sy mo_dg mo_out mo_tx m_ds m_st m_sub m_q m_two m_least u.1 m_ts m_fs m_fc u.2.1 u.2.2.1 m_dr m_now m_first m_has m_da m_dl m_af m_al m_sy u.2.2.2.1 u.2.2.2.2 m_tx)) := by
  refine ct_enter (cc := b_M_readAs) (maxL := 4) (ret := (some .boolean)) (by decide) rfl (Nat.le_of_ble_eq_true rfl) ?_
  intro p e s m args below meth c A ls hx hb hr hlk hml hts hown hA hS hP hK hN hD hl
  have hl : lv_has ls 4 [(0, .ref mo), (1, .int (bI ng))] := hl
  have htb : ∀ w ∈ tbl, w.before args s = true := fun w h => hts w (List.mem_cons_of_mem _ h)
  have hown : s.vm.findClass "DecimalPatternsModel" = some m.cls := hown
  unfold wp_M_readAs at hw
  have hJ300 : ∀ (x1 : Bool) (x2 : Int32) (y0 : Int32) (y2 : Int32) (m_os : Int32) (m_g : Int64) (m_gs : Int32) (m_dg : Nat → Int32) (m_out : Nat → Int32) (H : Heap) (locs : List Loc) (ls : Array Slot), lv_has ls 4 [(0, .ref mo), (1, .int (bI x1)), (2, .int x2)] → va_P D vwCl (wd_Mo cA mo mo_dr mo_now mo_first mo_has mo_da mo_dl mo_af mo_al mo_sy mo_dg mo_out mo_tx m_ds m_st m_sub m_q m_two m_least m_os m_ts m_fs m_fc m_g m_gs m_dr m_now m_first m_has m_da m_dl m_af m_al m_sy m_dg m_out m_tx) H → va_D A (wd_Mo cA mo mo_dr mo_now mo_first mo_has mo_da mo_dl mo_af mo_al mo_sy mo_dg mo_out mo_tx m_ds m_st m_sub m_q m_two m_least m_os m_ts m_fs m_fc m_g m_gs m_dr m_now m_first m_has m_da m_dl m_af m_al m_sy m_dg m_out m_tx) → va_S A s.heap H locs → wp_M_readAs_J300 m_two m_least m_ts m_has m_af m_al m_sy m_tx x1 x2 y0 y2 m_os m_g m_gs m_dg m_out Q → W p l e { frames := 6, cells := 0, slots := 0, locals := 146 } s m args below meth c H locs 0 0 (MQ below (ct_qz vwCl D [(cA, .int)] Q (fun u => wd_Mo cA mo mo_dr mo_now mo_first mo_has mo_da mo_dl mo_af mo_al mo_sy mo_dg mo_out mo_tx m_ds m_st m_sub m_q m_two m_least u.1 m_ts m_fs m_fc u.2.1 u.2.2.1 m_dr m_now m_first m_has m_da m_dl m_af m_al m_sy u.2.2.2.1 u.2.2.2.2 m_tx) A) args s 0 0 A) (F0 m 30 ls [.int y0, .ref mo_al, .int y2]) := by
    intro x1 x2 y0 y2 m_os m_g m_gs m_dg m_out H locs ls hl hP hD hS hw
    unfold wp_M_readAs_J300 at hw
    have hi := hw.1
    have hw := hw.2
    refine va_iald hx hb hK hP 8 0 rfl rfl hi d_M_readAs_30 ?_
    refine lv_isub hx hb d_M_readAs_31 ?_
    refine lv_istore_n (lv' := [(3, .int (y2 - (m_al y0.toNatClampNeg))), (0, .ref mo), (1, .int (bI x1)), (2, .int x2)]) hx hb d_M_readAs_32 rfl hl (by decide) rfl (fun ls hl => ?_)
    refine lv_iload_n hx hb d_M_readAs_33 rfl (lv_at hl 3 rfl) ?_
    refine lv_iload_n hx hb d_M_readAs_34 rfl (lv_at hl 0 rfl) ?_
    refine lv_icmp_ge (tgt := 66) hx hb d_M_readAs_35 rfl (fun hc => ?_) (fun hc => ?_)
    · have hw := hw.1 hc
      refine lv_iconst (v := 0) hx hb d_M_readAs_66 (by decide) ?_
      exact ct_zret false hx hb hr hlk hK hS (m_os, m_g, m_gs, m_dg, m_out) hw hP hD d_M_readAs_67
    · have hw := hw.2 hc
      refine lv_aload_n hx hb d_M_readAs_38 rfl (lv_at hl 1 rfl) ?_
      refine lv_iload_n hx hb d_M_readAs_39 rfl (lv_at hl 3 rfl) ?_
      refine lv_iload_n hx hb d_M_readAs_40 rfl (lv_at hl 0 rfl) ?_
      refine ct_callz (wn := fun u4 => wd_Mo cA mo mo_dr mo_now mo_first mo_has mo_da mo_dl mo_af mo_al mo_sy mo_dg mo_out mo_tx m_ds m_st m_sub m_q m_two m_least m_os m_ts m_fs m_fc u4.1 u4.2 m_dr m_now m_first m_has m_da m_dl m_af m_al m_sy m_dg m_out m_tx) (va_runV (As := [.int x2, .int (y2 - (m_al y0.toNatClampNeg))]) (rest := []) ⟨hx, hb, hml, hown, htb⟩ (c_M_loose l D cA mo mo_dr mo_now mo_first mo_has mo_da mo_dl mo_af mo_al mo_sy mo_dg mo_out mo_tx m_ds m_st m_sub m_q m_two m_least m_os m_ts m_fs m_fc m_g m_gs m_dr m_now m_first m_has m_da m_dl m_af m_al m_sy m_dg m_out m_tx x2 (y2 - (m_al y0.toNatClampNeg)) _ hw _) (ct_cwV 2 htb tw930 rfl rfl tw82 tw927 tw929 tw67 hd_M_loose ⟨by decide, by decide⟩) (ct_preV hP hD hK hN [0, 1, 2, 3, 4, 5, 6, 7, 8, 9, 10, 11, 12] rfl (by decide) 0 rfl rfl _) rfl rfl hl.1 rfl (lv_room (Nat.le_of_ble_eq_true rfl)) d_M_readAs_41 ⟨Nat.zero_le _, Nat.zero_le _⟩) hP hD hS hA [0, 1, 2, 3, 4, 5, 6, 7, 8, 9, 10, 11, 12] [] [0, 1, 2, 3, 4, 5, 6, 7, 8, 9, 10, 11, 12] rfl rfl (by decide) (by decide) (fun _ => rfl) (by decide) (fun r3 u4 H locs hw hP hD hS => ?_)
      have hP : va_P D vwCl (wd_Mo cA mo mo_dr mo_now mo_first mo_has mo_da mo_dl mo_af mo_al mo_sy mo_dg mo_out mo_tx m_ds m_st m_sub m_q m_two m_least m_os m_ts m_fs m_fc u4.1 u4.2 m_dr m_now m_first m_has m_da m_dl m_af m_al m_sy m_dg m_out m_tx) H := hP
      have hD : va_D A (wd_Mo cA mo mo_dr mo_now mo_first mo_has mo_da mo_dl mo_af mo_al mo_sy mo_dg mo_out mo_tx m_ds m_st m_sub m_q m_two m_least m_os m_ts m_fs m_fc u4.1 u4.2 m_dr m_now m_first m_has m_da m_dl m_af m_al m_sy m_dg m_out m_tx) := hD
      refine lv_if_eq (tgt := 66) hx hb d_M_readAs_44 rfl (fun hc => ?_) (fun hc => ?_)
      · have hw := hw.1 ((bI_0 _).mp hc)
        refine lv_iconst (v := 0) hx hb d_M_readAs_66 (by decide) ?_
        exact ct_zret false hx hb hr hlk hK hS (m_os, u4.1, u4.2, m_dg, m_out) hw hP hD d_M_readAs_67
      · have hw := hw.2 ((bI_n0 _).mp hc)
        refine lv_aload_n hx hb d_M_readAs_47 rfl (lv_at hl 1 rfl) ?_
        refine ct_callz (wn := fun u6 => wd_Mo cA mo mo_dr mo_now mo_first mo_has mo_da mo_dl mo_af mo_al mo_sy mo_dg mo_out mo_tx m_ds m_st m_sub m_q m_two m_least m_os m_ts m_fs m_fc u6.1 u6.2 m_dr m_now m_first m_has m_da m_dl m_af m_al m_sy m_dg m_out m_tx) (va_runV (As := []) (rest := []) ⟨hx, hb, hml, hown, htb⟩ (c_M_settle l D cA mo mo_dr mo_now mo_first mo_has mo_da mo_dl mo_af mo_al mo_sy mo_dg mo_out mo_tx m_ds m_st m_sub m_q m_two m_least m_os m_ts m_fs m_fc u4.1 u4.2 m_dr m_now m_first m_has m_da m_dl m_af m_al m_sy m_dg m_out m_tx _ hw _) (ct_cwV 0 htb tw939 rfl rfl tw82 tw936 tw938 tw69 hd_M_settle ⟨by decide, by decide⟩) (ct_preV hP hD hK hN [0, 1, 2, 3, 4, 5, 6, 7, 8, 9, 10, 11, 12] rfl (by decide) 0 rfl rfl _) rfl rfl hl.1 rfl (lv_room (Nat.le_of_ble_eq_true rfl)) d_M_readAs_48 ⟨Nat.zero_le _, Nat.zero_le _⟩) hP hD hS hA [0, 1, 2, 3, 4, 5, 6, 7, 8, 9, 10, 11, 12] [] [0, 1, 2, 3, 4, 5, 6, 7, 8, 9, 10, 11, 12] rfl rfl (by decide) (by decide) (fun _ => rfl) (by decide) (fun r5 u6 H locs hw hP hD hS => ?_)
        have hP : va_P D vwCl (wd_Mo cA mo mo_dr mo_now mo_first mo_has mo_da mo_dl mo_af mo_al mo_sy mo_dg mo_out mo_tx m_ds m_st m_sub m_q m_two m_least m_os m_ts m_fs m_fc u6.1 u6.2 m_dr m_now m_first m_has m_da m_dl m_af m_al m_sy m_dg m_out m_tx) H := hP
        have hD : va_D A (wd_Mo cA mo mo_dr mo_now mo_first mo_has mo_da mo_dl mo_af mo_al mo_sy mo_dg mo_out mo_tx m_ds m_st m_sub m_q m_two m_least m_os m_ts m_fs m_fc u6.1 u6.2 m_dr m_now m_first m_has m_da m_dl m_af m_al m_sy m_dg m_out m_tx) := hD
        refine lv_if_eq (tgt := 66) hx hb d_M_readAs_51 rfl (fun hc => ?_) (fun hc => ?_)
        · have hw := hw.1 ((bI_0 _).mp hc)
          refine lv_iconst (v := 0) hx hb d_M_readAs_66 (by decide) ?_
          exact ct_zret false hx hb hr hlk hK hS (m_os, u6.1, u6.2, m_dg, m_out) hw hP hD d_M_readAs_67
        · have hw := hw.2 ((bI_n0 _).mp hc)
          refine lv_aload_n hx hb d_M_readAs_54 rfl (lv_at hl 1 rfl) ?_
          refine lv_iload_n hx hb d_M_readAs_55 rfl (lv_at hl 2 rfl) ?_
          refine ct_callz (wn := fun u8 => wd_Mo cA mo mo_dr mo_now mo_first mo_has mo_da mo_dl mo_af mo_al mo_sy mo_dg mo_out mo_tx m_ds m_st m_sub m_q m_two m_least u8.1 m_ts m_fs m_fc u6.1 u6.2 m_dr m_now m_first m_has m_da m_dl m_af m_al m_sy u8.2.1 u8.2.2 m_tx) (va_runV (As := [.int (bI x1)]) (rest := []) ⟨hx, hb, hml, hown, htb⟩ (c_M_isText l D cA mo mo_dr mo_now mo_first mo_has mo_da mo_dl mo_af mo_al mo_sy mo_dg mo_out mo_tx m_ds m_st m_sub m_q m_two m_least m_os m_ts m_fs m_fc u6.1 u6.2 m_dr m_now m_first m_has m_da m_dl m_af m_al m_sy m_dg m_out m_tx x1 _ hw _) (ct_cwV 1 htb tw943 rfl rfl tw82 tw940 tw942 tw70 hd_M_isText ⟨by decide, by decide⟩) (ct_preV hP hD hK hN [0, 1, 2, 3, 4, 5, 6, 7, 8, 9, 10, 11, 12] rfl (by decide) 0 rfl rfl _) rfl rfl hl.1 rfl (lv_room (Nat.le_of_ble_eq_true rfl)) d_M_readAs_56 ⟨Nat.zero_le _, Nat.zero_le _⟩) hP hD hS hA [0, 1, 2, 3, 4, 5, 6, 7, 8, 9, 10, 11, 12] [] [0, 1, 2, 3, 4, 5, 6, 7, 8, 9, 10, 11, 12] rfl rfl (by decide) (by decide) (fun _ => rfl) (by decide) (fun r7 u8 H locs hw hP hD hS => ?_)
          have hP : va_P D vwCl (wd_Mo cA mo mo_dr mo_now mo_first mo_has mo_da mo_dl mo_af mo_al mo_sy mo_dg mo_out mo_tx m_ds m_st m_sub m_q m_two m_least u8.1 m_ts m_fs m_fc u6.1 u6.2 m_dr m_now m_first m_has m_da m_dl m_af m_al m_sy u8.2.1 u8.2.2 m_tx) H := hP
          have hD : va_D A (wd_Mo cA mo mo_dr mo_now mo_first mo_has mo_da mo_dl mo_af mo_al mo_sy mo_dg mo_out mo_tx m_ds m_st m_sub m_q m_two m_least u8.1 m_ts m_fs m_fc u6.1 u6.2 m_dr m_now m_first m_has m_da m_dl m_af m_al m_sy u8.2.1 u8.2.2 m_tx) := hD
          refine lv_if_eq (tgt := 66) hx hb d_M_readAs_59 rfl (fun hc => ?_) (fun hc => ?_)
          · have hw := hw.1 ((bI_0 _).mp hc)
            refine lv_iconst (v := 0) hx hb d_M_readAs_66 (by decide) ?_
            exact ct_zret false hx hb hr hlk hK hS (u8.1, u6.1, u6.2, u8.2.1, u8.2.2) hw hP hD d_M_readAs_67
          · have hw := hw.2 ((bI_n0 _).mp hc)
            refine lv_iconst (v := 1) hx hb d_M_readAs_62 (by decide) ?_
            refine lv_goto (tgt := 67) hx hb d_M_readAs_63 rfl ?_
            exact ct_zret true hx hb hr hlk hK hS (u8.1, u6.1, u6.2, u8.2.1, u8.2.2) hw hP hD d_M_readAs_67
  have hJ290 : ∀ (x1 : Bool) (x2 : Int32) (y1 : Int32) (m_os : Int32) (m_g : Int64) (m_gs : Int32) (m_dg : Nat → Int32) (m_out : Nat → Int32) (H : Heap) (locs : List Loc) (ls : Array Slot), lv_has ls 4 [(0, .ref mo), (1, .int (bI x1)), (2, .int x2)] → va_P D vwCl (wd_Mo cA mo mo_dr mo_now mo_first mo_has mo_da mo_dl mo_af mo_al mo_sy mo_dg mo_out mo_tx m_ds m_st m_sub m_q m_two m_least m_os m_ts m_fs m_fc m_g m_gs m_dr m_now m_first m_has m_da m_dl m_af m_al m_sy m_dg m_out m_tx) H → va_D A (wd_Mo cA mo mo_dr mo_now mo_first mo_has mo_da mo_dl mo_af mo_al mo_sy mo_dg mo_out mo_tx m_ds m_st m_sub m_q m_two m_least m_os m_ts m_fs m_fc m_g m_gs m_dr m_now m_first m_has m_da m_dl m_af m_al m_sy m_dg m_out m_tx) → va_S A s.heap H locs → wp_M_readAs_J290 m_two m_least m_ts m_has m_af m_al m_sy m_tx x1 x2 y1 m_os m_g m_gs m_dg m_out Q → W p l e { frames := 6, cells := 0, slots := 0, locals := 146 } s m args below meth c H locs 0 0 (MQ below (ct_qz vwCl D [(cA, .int)] Q (fun u => wd_Mo cA mo mo_dr mo_now mo_first mo_has mo_da mo_dl mo_af mo_al mo_sy mo_dg mo_out mo_tx m_ds m_st m_sub m_q m_two m_least u.1 m_ts m_fs m_fc u.2.1 u.2.2.1 m_dr m_now m_first m_has m_da m_dl m_af m_al m_sy u.2.2.2.1 u.2.2.2.2 m_tx) A) args s 0 0 A) (F0 m 29 ls [.ref mo_al, .int y1]) := by
    intro x1 x2 y1 m_os m_g m_gs m_dg m_out H locs ls hl hP hD hS hw
    unfold wp_M_readAs_J290 at hw
    refine lv_iconst (v := 1) hx hb d_M_readAs_29 (by decide) ?_
    exact hJ300 x1 x2 1 y1 m_os m_g m_gs m_dg m_out _ _ _ (lv_sub hl [0, 1, 2] rfl) hP hD hS hw
  refine lv_aload_n hx hb d_M_readAs_0 rfl (lv_at hl 0 rfl) ?_
  refine lv_iload_n hx hb d_M_readAs_1 rfl (lv_at hl 1 rfl) ?_
  refine ct_calli (wn := fun _ => wd_Mo cA mo mo_dr mo_now mo_first mo_has mo_da mo_dl mo_af mo_al mo_sy mo_dg mo_out mo_tx m_ds m_st m_sub m_q m_two m_least m_os m_ts m_fs m_fc m_g m_gs m_dr m_now m_first m_has m_da m_dl m_af m_al m_sy m_dg m_out m_tx) (va_runV (As := [.int (bI ng)]) (rest := []) ⟨hx, hb, hml, hown, htb⟩ (c_M_beginning l D cA mo mo_dr mo_now mo_first mo_has mo_da mo_dl mo_af mo_al mo_sy mo_dg mo_out mo_tx m_ds m_st m_sub m_q m_two m_least m_os m_ts m_fs m_fc m_g m_gs m_dr m_now m_first m_has m_da m_dl m_af m_al m_sy m_dg m_out m_tx ng _ hw _) (ct_cwV 1 htb tw926 rfl rfl tw82 tw923 tw925 tw66 hd_M_beginning ⟨by decide, by decide⟩) (ct_preV hP hD hK hN [0, 1, 2, 3, 4, 5, 6, 7, 8, 9, 10, 11, 12] rfl (by decide) 0 rfl rfl _) rfl rfl hl.1 rfl (lv_room (Nat.le_of_ble_eq_true rfl)) d_M_readAs_2 ⟨Nat.zero_le _, Nat.zero_le _⟩) hP hD hS hA [0, 1, 2, 3, 4, 5, 6, 7, 8, 9, 10, 11, 12] [] [0, 1, 2, 3, 4, 5, 6, 7, 8, 9, 10, 11, 12] rfl rfl (by decide) (by decide) (fun _ => rfl) (by decide) (fun r1 u2 H locs hw hP hD hS => ?_)
  have hP : va_P D vwCl (wd_Mo cA mo mo_dr mo_now mo_first mo_has mo_da mo_dl mo_af mo_al mo_sy mo_dg mo_out mo_tx m_ds m_st m_sub m_q m_two m_least m_os m_ts m_fs m_fc m_g m_gs m_dr m_now m_first m_has m_da m_dl m_af m_al m_sy m_dg m_out m_tx) H := hP
  have hD : va_D A (wd_Mo cA mo mo_dr mo_now mo_first mo_has mo_da mo_dl mo_af mo_al mo_sy mo_dg mo_out mo_tx m_ds m_st m_sub m_q m_two m_least m_os m_ts m_fs m_fc m_g m_gs m_dr m_now m_first m_has m_da m_dl m_af m_al m_sy m_dg m_out m_tx) := hD
  refine lv_istore_n (lv' := [(2, .int r1), (0, .ref mo), (1, .int (bI ng))]) hx hb d_M_readAs_5 rfl hl (by decide) rfl (fun ls hl => ?_)
  refine lv_aload_n hx hb d_M_readAs_6 rfl (lv_at hl 1 rfl) ?_
  refine va_get (ci := 9) (C := R_Mo) (T := F_Mo) (N := 24) hx hb htb in_Mo hown hK hP 0 rfl rfl 19 (by decide) (htb _ tw715) (fun _ h9 => h9) rfl d_M_readAs_7 ?_
  refine lv_aload_n hx hb d_M_readAs_10 rfl (lv_at hl 1 rfl) ?_
  refine va_get (ci := 9) (C := R_Mo) (T := F_Mo) (N := 24) hx hb htb in_Mo hown hK hP 0 rfl rfl 11 (by decide) (htb _ tw707) (fun _ h9 => h9) rfl d_M_readAs_11 ?_
  refine lv_iload_n hx hb d_M_readAs_14 rfl (lv_at hl 2 rfl) ?_
  refine lv_if_eq (tgt := 29) hx hb d_M_readAs_15 rfl (fun hc => ?_) (fun hc => ?_)
  · have hw := hw.1 ((bI_0 _).mp hc)
    exact hJ290 ng r1 m_ts m_os m_g m_gs m_dg m_out _ _ _ (lv_sub hl [1, 2, 0] rfl) hP hD hS hw
  · have hw := hw.2 ((bI_n0 _).mp hc)
    refine lv_aload_n hx hb d_M_readAs_18 rfl (lv_at hl 1 rfl) ?_
    refine va_get (ci := 9) (C := R_Mo) (T := F_Mo) (N := 24) hx hb htb in_Mo hown hK hP 0 rfl rfl 12 (by decide) (htb _ tw708) (fun _ h9 => h9) rfl d_M_readAs_19 ?_
    refine lv_if_eq (tgt := 29) hx hb d_M_readAs_22 rfl (fun hc => ?_) (fun hc => ?_)
    · have hw := hw.1 ((bI_0 _).mp hc)
      exact hJ290 ng r1 m_ts m_os m_g m_gs m_dg m_out _ _ _ (lv_sub hl [1, 2, 0] rfl) hP hD hS hw
    · have hw := hw.2 ((bI_n0 _).mp hc)
      refine lv_iconst (v := 3) hx hb d_M_readAs_25 (by decide) ?_
      refine lv_goto (tgt := 30) hx hb d_M_readAs_26 rfl ?_
      exact hJ300 ng r1 3 m_ts m_os m_g m_gs m_dg m_out _ _ _ (lv_sub hl [1, 2, 0] rfl) hP hD hS hw
/-! DecimalPatternsModel.read()I -/
def wp_M_read_J250 (m_two : Bool) (m_least : Int32) (m_ts : Int32) (m_has : Nat → Int32) (m_af : Nat → Int32) (m_al : Nat → Int32) (m_sy : Nat → Int32) (m_tx : Nat → Int32) (y0 : Int32) (m_os : Int32) (m_fs : Int64) (m_fc : Int32) (m_g : Int64) (m_gs : Int32) (m_dg : Nat → Int32) (m_out : Nat → Int32) (Q : Int32 → (Int32 × Int64 × Int32 × Int64 × Int32 × (Nat → Int32) × (Nat → Int32)) → Prop) : Prop := (¬ y0 = 0 → ((¬ y0 = 0 → (Q y0 (m_os, m_g, m_gs, m_g, m_gs, m_dg, m_out))) ∧ (y0 = 0 → (Q y0 (m_os, m_g, 0, m_g, m_gs, m_dg, m_out))))) ∧ (y0 = 0 → ((¬ y0 = 0 → (Q y0 (m_os, 0, m_gs, m_g, m_gs, m_dg, m_out))) ∧ (y0 = 0 → (Q y0 (m_os, 0, 0, m_g, m_gs, m_dg, m_out)))))
def wp_M_read (m_two : Bool) (m_least : Int32) (m_os : Int32) (m_ts : Int32) (m_fs : Int64) (m_fc : Int32) (m_g : Int64) (m_gs : Int32) (m_has : Nat → Int32) (m_af : Nat → Int32) (m_al : Nat → Int32) (m_sy : Nat → Int32) (m_dg : Nat → Int32) (m_out : Nat → Int32) (m_tx : Nat → Int32) (Q : Int32 → (Int32 × Int64 × Int32 × Int64 × Int32 × (Nat → Int32) × (Nat → Int32)) → Prop) : Prop := wp_M_readAs m_two m_least m_os m_ts m_g m_gs m_has m_af m_al m_sy m_dg m_out m_tx false (fun r1 u2 => (r1 = false → (wp_M_readAs m_two m_least u2.1 m_ts u2.2.1 u2.2.2.1 m_has m_af m_al m_sy u2.2.2.2.1 u2.2.2.2.2 m_tx true (fun r3 u4 => (r3 = false → (wp_M_read_J250 m_two m_least m_ts m_has m_af m_al m_sy m_tx 0 u4.1 m_fs m_fc u4.2.1 u4.2.2.1 u4.2.2.2.1 u4.2.2.2.2 Q)) ∧ (r3 = true → (wp_M_read_J250 m_two m_least m_ts m_has m_af m_al m_sy m_tx (-1) u4.1 m_fs m_fc u4.2.1 u4.2.2.1 u4.2.2.2.1 u4.2.2.2.2 Q))))) ∧ (r1 = true → (wp_M_read_J250 m_two m_least m_ts m_has m_af m_al m_sy m_tx 1 u2.1 m_fs m_fc u2.2.1 u2.2.2.1 u2.2.2.2.1 u2.2.2.2.2 Q)))
set_option maxHeartbeats 4000000 in
set_option maxRecDepth 100000 in
theorem c_M_read (l : Launch) (D : va_G) (cA : ClassId) (mo mo_dr mo_now mo_first mo_has mo_da mo_dl mo_af mo_al mo_sy mo_dg mo_out mo_tx : Nat) (m_ds : Int32) (m_st : Int32) (m_sub : Int32) (m_q : Int32) (m_two : Bool) (m_least : Int32) (m_os : Int32) (m_ts : Int32) (m_fs : Int64) (m_fc : Int32) (m_g : Int64) (m_gs : Int32) (m_dr : Nat → Int32) (m_now : Nat → Int32) (m_first : Nat → Int32) (m_has : Nat → Int32) (m_da : Nat → Int32) (m_dl : Nat → Int32) (m_af : Nat → Int32) (m_al : Nat → Int32) (m_sy : Nat → Int32) (m_dg : Nat → Int32) (m_out : Nat → Int32) (m_tx : Nat → Int32) (Q : Int32 → (Int32 × Int64 × Int32 × Int64 × Int32 × (Nat → Int32) × (Nat → Int32)) → Prop) (hw : wp_M_read m_two m_least m_os m_ts m_fs m_fc m_g m_gs m_has m_af m_al m_sy m_dg m_out m_tx Q) : ct_M vwCl l D [(cA, .int)] y_M_read w_M_read { frames := 7, cells := 0, slots := 0, locals := 169 } [.ref mo] (wd_Mo cA mo mo_dr mo_now mo_first mo_has mo_da mo_dl mo_af mo_al mo_sy mo_dg mo_out mo_tx m_ds m_st m_sub m_q m_two m_least m_os m_ts m_fs m_fc m_g m_gs m_dr m_now m_first m_has m_da m_dl m_af m_al m_sy m_dg m_out m_tx) (ct_qi vwCl D [(cA, .int)] Q (fun u => wd_Mo cA mo mo_dr mo_now mo_first mo_has mo_da mo_dl mo_af mo_al mo_sy mo_dg mo_out mo_tx m_ds m_st m_sub m_q m_two m_least u.1 m_ts u.2.1 u.2.2.1 u.2.2.2.1 u.2.2.2.2.1 m_dr m_now m_first m_has m_da m_dl m_af m_al m_sy u.2.2.2.2.2.1 u.2.2.2.2.2.2 m_tx)) := by
  refine ct_enter (cc := b_M_read) (maxL := 2) (ret := (some .int)) (by decide) rfl (Nat.le_of_ble_eq_true rfl) ?_
  intro p e s m args below meth c A ls hx hb hr hlk hml hts hown hA hS hP hK hN hD hl
  have hl : lv_has ls 2 [(0, .ref mo)] := hl
  have htb : ∀ w ∈ tbl, w.before args s = true := fun w h => hts w (List.mem_cons_of_mem _ h)
  have hown : s.vm.findClass "DecimalPatternsModel" = some m.cls := hown
  unfold wp_M_read at hw
  have hJ250 : ∀ (y0 : Int32) (m_os : Int32) (m_fs : Int64) (m_fc : Int32) (m_g : Int64) (m_gs : Int32) (m_dg : Nat → Int32) (m_out : Nat → Int32) (H : Heap) (locs : List Loc) (ls : Array Slot), lv_has ls 2 [(0, .ref mo)] → va_P D vwCl (wd_Mo cA mo mo_dr mo_now mo_first mo_has mo_da mo_dl mo_af mo_al mo_sy mo_dg mo_out mo_tx m_ds m_st m_sub m_q m_two m_least m_os m_ts m_fs m_fc m_g m_gs m_dr m_now m_first m_has m_da m_dl m_af m_al m_sy m_dg m_out m_tx) H → va_D A (wd_Mo cA mo mo_dr mo_now mo_first mo_has mo_da mo_dl mo_af mo_al mo_sy mo_dg mo_out mo_tx m_ds m_st m_sub m_q m_two m_least m_os m_ts m_fs m_fc m_g m_gs m_dr m_now m_first m_has m_da m_dl m_af m_al m_sy m_dg m_out m_tx) → va_S A s.heap H locs → wp_M_read_J250 m_two m_least m_ts m_has m_af m_al m_sy m_tx y0 m_os m_fs m_fc m_g m_gs m_dg m_out Q → W p l e { frames := 7, cells := 0, slots := 0, locals := 169 } s m args below meth c H locs 0 0 (MQ below (ct_qi vwCl D [(cA, .int)] Q (fun u => wd_Mo cA mo mo_dr mo_now mo_first mo_has mo_da mo_dl mo_af mo_al mo_sy mo_dg mo_out mo_tx m_ds m_st m_sub m_q m_two m_least u.1 m_ts u.2.1 u.2.2.1 u.2.2.2.1 u.2.2.2.2.1 m_dr m_now m_first m_has m_da m_dl m_af m_al m_sy u.2.2.2.2.2.1 u.2.2.2.2.2.2 m_tx) A) args s 0 0 A) (F0 m 25 ls [.int y0]) := by
    intro y0 m_os m_fs m_fc m_g m_gs m_dg m_out H locs ls hl hP hD hS hw
    unfold wp_M_read_J250 at hw
    refine lv_istore_n (lv' := [(1, .int y0), (0, .ref mo)]) hx hb d_M_read_25 rfl hl (by decide) rfl (fun ls hl => ?_)
    refine lv_aload_n hx hb d_M_read_26 rfl (lv_at hl 1 rfl) ?_
    refine lv_iload_n hx hb d_M_read_27 rfl (lv_at hl 0 rfl) ?_
    refine lv_if_ne (tgt := 35) hx hb d_M_read_28 rfl (fun hc => ?_) (fun hc => ?_)
    · have hw := hw.1 hc
      refine lv_aload_n hx hb d_M_read_35 rfl (lv_at hl 1 rfl) ?_
      refine va_get (ci := 9) (C := R_Mo) (T := F_Mo) (N := 24) hx hb htb in_Mo hown hK hP 0 rfl rfl 22 (by decide) (htb _ tw718) (fun _ h9 => h9) rfl d_M_read_36 ?_
      refine va_put (ci := 9) (v := .long m_g) (ty := .long) (C := R_Mo) (T := F_Mo) (N := 24) hx hb htb in_Mo t_Mo t_Mo_ok n_Mo hown hK hP hD hS 0 rfl rfl 20 (by decide) (htb _ tw716) (fun _ h9 => h9) rfl (by decide +kernel) rfl rfl (Nat.le_of_ble_eq_true rfl) d_M_read_39 (fun H locs hP hD hS => ?_)
      have hP : va_P D vwCl (wd_Mo cA mo mo_dr mo_now mo_first mo_has mo_da mo_dl mo_af mo_al mo_sy mo_dg mo_out mo_tx m_ds m_st m_sub m_q m_two m_least m_os m_ts m_g m_fc m_g m_gs m_dr m_now m_first m_has m_da m_dl m_af m_al m_sy m_dg m_out m_tx) H := hP
      have hD : va_D A (wd_Mo cA mo mo_dr mo_now mo_first mo_has mo_da mo_dl mo_af mo_al mo_sy mo_dg mo_out mo_tx m_ds m_st m_sub m_q m_two m_least m_os m_ts m_g m_fc m_g m_gs m_dr m_now m_first m_has m_da m_dl m_af m_al m_sy m_dg m_out m_tx) := hD
      refine lv_aload_n hx hb d_M_read_42 rfl (lv_at hl 1 rfl) ?_
      refine lv_iload_n hx hb d_M_read_43 rfl (lv_at hl 0 rfl) ?_
      refine lv_if_ne (tgt := 51) hx hb d_M_read_44 rfl (fun hc => ?_) (fun hc => ?_)
      · have hw := hw.1 hc
        refine lv_aload_n hx hb d_M_read_51 rfl (lv_at hl 1 rfl) ?_
        refine va_get (ci := 9) (C := R_Mo) (T := F_Mo) (N := 24) hx hb htb in_Mo hown hK hP 0 rfl rfl 23 (by decide) (htb _ tw719) (fun _ h9 => h9) rfl d_M_read_52 ?_
        refine va_put (ci := 9) (v := .int m_gs) (ty := .int) (C := R_Mo) (T := F_Mo) (N := 24) hx hb htb in_Mo t_Mo t_Mo_ok n_Mo hown hK hP hD hS 0 rfl rfl 21 (by decide) (htb _ tw717) (fun _ h9 => h9) rfl (by decide +kernel) rfl rfl (Nat.le_of_ble_eq_true rfl) d_M_read_55 (fun H locs hP hD hS => ?_)
        have hP : va_P D vwCl (wd_Mo cA mo mo_dr mo_now mo_first mo_has mo_da mo_dl mo_af mo_al mo_sy mo_dg mo_out mo_tx m_ds m_st m_sub m_q m_two m_least m_os m_ts m_g m_gs m_g m_gs m_dr m_now m_first m_has m_da m_dl m_af m_al m_sy m_dg m_out m_tx) H := hP
        have hD : va_D A (wd_Mo cA mo mo_dr mo_now mo_first mo_has mo_da mo_dl mo_af mo_al mo_sy mo_dg mo_out mo_tx m_ds m_st m_sub m_q m_two m_least m_os m_ts m_g m_gs m_g m_gs m_dr m_now m_first m_has m_da m_dl m_af m_al m_sy m_dg m_out m_tx) := hD
        refine lv_iload_n hx hb d_M_read_58 rfl (lv_at hl 0 rfl) ?_
        exact ct_iret hx hb hr hlk hK hS (m_os, m_g, m_gs, m_g, m_gs, m_dg, m_out) hw hP hD d_M_read_59
      · have hw := hw.2 hc
        refine lv_iconst (v := 0) hx hb d_M_read_47 (by decide) ?_
        refine lv_goto (tgt := 55) hx hb d_M_read_48 rfl ?_
        refine va_put (ci := 9) (v := .int 0) (ty := .int) (C := R_Mo) (T := F_Mo) (N := 24) hx hb htb in_Mo t_Mo t_Mo_ok n_Mo hown hK hP hD hS 0 rfl rfl 21 (by decide) (htb _ tw717) (fun _ h9 => h9) rfl (by decide +kernel) rfl rfl (Nat.le_of_ble_eq_true rfl) d_M_read_55 (fun H locs hP hD hS => ?_)
        have hP : va_P D vwCl (wd_Mo cA mo mo_dr mo_now mo_first mo_has mo_da mo_dl mo_af mo_al mo_sy mo_dg mo_out mo_tx m_ds m_st m_sub m_q m_two m_least m_os m_ts m_g 0 m_g m_gs m_dr m_now m_first m_has m_da m_dl m_af m_al m_sy m_dg m_out m_tx) H := hP
        have hD : va_D A (wd_Mo cA mo mo_dr mo_now mo_first mo_has mo_da mo_dl mo_af mo_al mo_sy mo_dg mo_out mo_tx m_ds m_st m_sub m_q m_two m_least m_os m_ts m_g 0 m_g m_gs m_dr m_now m_first m_has m_da m_dl m_af m_al m_sy m_dg m_out m_tx) := hD
        refine lv_iload_n hx hb d_M_read_58 rfl (lv_at hl 0 rfl) ?_
        exact ct_iret hx hb hr hlk hK hS (m_os, m_g, 0, m_g, m_gs, m_dg, m_out) hw hP hD d_M_read_59
    · have hw := hw.2 hc
      refine lv_lconst (v := 0) hx hb d_M_read_31 (by decide) ?_
      refine lv_goto (tgt := 39) hx hb d_M_read_32 rfl ?_
      refine va_put (ci := 9) (v := .long 0) (ty := .long) (C := R_Mo) (T := F_Mo) (N := 24) hx hb htb in_Mo t_Mo t_Mo_ok n_Mo hown hK hP hD hS 0 rfl rfl 20 (by decide) (htb _ tw716) (fun _ h9 => h9) rfl (by decide +kernel) rfl rfl (Nat.le_of_ble_eq_true rfl) d_M_read_39 (fun H locs hP hD hS => ?_)
      have hP : va_P D vwCl (wd_Mo cA mo mo_dr mo_now mo_first mo_has mo_da mo_dl mo_af mo_al mo_sy mo_dg mo_out mo_tx m_ds m_st m_sub m_q m_two m_least m_os m_ts 0 m_fc m_g m_gs m_dr m_now m_first m_has m_da m_dl m_af m_al m_sy m_dg m_out m_tx) H := hP
      have hD : va_D A (wd_Mo cA mo mo_dr mo_now mo_first mo_has mo_da mo_dl mo_af mo_al mo_sy mo_dg mo_out mo_tx m_ds m_st m_sub m_q m_two m_least m_os m_ts 0 m_fc m_g m_gs m_dr m_now m_first m_has m_da m_dl m_af m_al m_sy m_dg m_out m_tx) := hD
      refine lv_aload_n hx hb d_M_read_42 rfl (lv_at hl 1 rfl) ?_
      refine lv_iload_n hx hb d_M_read_43 rfl (lv_at hl 0 rfl) ?_
      refine lv_if_ne (tgt := 51) hx hb d_M_read_44 rfl (fun hc => ?_) (fun hc => ?_)
      · have hw := hw.1 hc
        refine lv_aload_n hx hb d_M_read_51 rfl (lv_at hl 1 rfl) ?_
        refine va_get (ci := 9) (C := R_Mo) (T := F_Mo) (N := 24) hx hb htb in_Mo hown hK hP 0 rfl rfl 23 (by decide) (htb _ tw719) (fun _ h9 => h9) rfl d_M_read_52 ?_
        refine va_put (ci := 9) (v := .int m_gs) (ty := .int) (C := R_Mo) (T := F_Mo) (N := 24) hx hb htb in_Mo t_Mo t_Mo_ok n_Mo hown hK hP hD hS 0 rfl rfl 21 (by decide) (htb _ tw717) (fun _ h9 => h9) rfl (by decide +kernel) rfl rfl (Nat.le_of_ble_eq_true rfl) d_M_read_55 (fun H locs hP hD hS => ?_)
        have hP : va_P D vwCl (wd_Mo cA mo mo_dr mo_now mo_first mo_has mo_da mo_dl mo_af mo_al mo_sy mo_dg mo_out mo_tx m_ds m_st m_sub m_q m_two m_least m_os m_ts 0 m_gs m_g m_gs m_dr m_now m_first m_has m_da m_dl m_af m_al m_sy m_dg m_out m_tx) H := hP
        have hD : va_D A (wd_Mo cA mo mo_dr mo_now mo_first mo_has mo_da mo_dl mo_af mo_al mo_sy mo_dg mo_out mo_tx m_ds m_st m_sub m_q m_two m_least m_os m_ts 0 m_gs m_g m_gs m_dr m_now m_first m_has m_da m_dl m_af m_al m_sy m_dg m_out m_tx) := hD
        refine lv_iload_n hx hb d_M_read_58 rfl (lv_at hl 0 rfl) ?_
        exact ct_iret hx hb hr hlk hK hS (m_os, 0, m_gs, m_g, m_gs, m_dg, m_out) hw hP hD d_M_read_59
      · have hw := hw.2 hc
        refine lv_iconst (v := 0) hx hb d_M_read_47 (by decide) ?_
        refine lv_goto (tgt := 55) hx hb d_M_read_48 rfl ?_
        refine va_put (ci := 9) (v := .int 0) (ty := .int) (C := R_Mo) (T := F_Mo) (N := 24) hx hb htb in_Mo t_Mo t_Mo_ok n_Mo hown hK hP hD hS 0 rfl rfl 21 (by decide) (htb _ tw717) (fun _ h9 => h9) rfl (by decide +kernel) rfl rfl (Nat.le_of_ble_eq_true rfl) d_M_read_55 (fun H locs hP hD hS => ?_)
        have hP : va_P D vwCl (wd_Mo cA mo mo_dr mo_now mo_first mo_has mo_da mo_dl mo_af mo_al mo_sy mo_dg mo_out mo_tx m_ds m_st m_sub m_q m_two m_least m_os m_ts 0 0 m_g m_gs m_dr m_now m_first m_has m_da m_dl m_af m_al m_sy m_dg m_out m_tx) H := hP
        have hD : va_D A (wd_Mo cA mo mo_dr mo_now mo_first mo_has mo_da mo_dl mo_af mo_al mo_sy mo_dg mo_out mo_tx m_ds m_st m_sub m_q m_two m_least m_os m_ts 0 0 m_g m_gs m_dr m_now m_first m_has m_da m_dl m_af m_al m_sy m_dg m_out m_tx) := hD
        refine lv_iload_n hx hb d_M_read_58 rfl (lv_at hl 0 rfl) ?_
        exact ct_iret hx hb hr hlk hK hS (m_os, 0, 0, m_g, m_gs, m_dg, m_out) hw hP hD d_M_read_59
  refine lv_aload_n hx hb d_M_read_0 rfl (lv_at hl 0 rfl) ?_
  refine lv_iconst (v := 0) hx hb d_M_read_1 (by decide) ?_
  refine ct_callz (wn := fun u2 => wd_Mo cA mo mo_dr mo_now mo_first mo_has mo_da mo_dl mo_af mo_al mo_sy mo_dg mo_out mo_tx m_ds m_st m_sub m_q m_two m_least u2.1 m_ts m_fs m_fc u2.2.1 u2.2.2.1 m_dr m_now m_first m_has m_da m_dl m_af m_al m_sy u2.2.2.2.1 u2.2.2.2.2 m_tx) (va_runV (As := [.int 0]) (rest := []) ⟨hx, hb, hml, hown, htb⟩ (c_M_readAs l D cA mo mo_dr mo_now mo_first mo_has mo_da mo_dl mo_af mo_al mo_sy mo_dg mo_out mo_tx m_ds m_st m_sub m_q m_two m_least m_os m_ts m_fs m_fc m_g m_gs m_dr m_now m_first m_has m_da m_dl m_af m_al m_sy m_dg m_out m_tx false _ hw _) (ct_cwV 1 htb tw922 rfl rfl tw82 tw919 tw921 tw65 hd_M_readAs ⟨by decide, by decide⟩) (ct_preV hP hD hK hN [0, 1, 2, 3, 4, 5, 6, 7, 8, 9, 10, 11, 12] rfl (by decide) 0 rfl rfl _) rfl rfl hl.1 rfl (lv_room (Nat.le_of_ble_eq_true rfl)) d_M_read_2 ⟨Nat.zero_le _, Nat.zero_le _⟩) hP hD hS hA [0, 1, 2, 3, 4, 5, 6, 7, 8, 9, 10, 11, 12] [] [0, 1, 2, 3, 4, 5, 6, 7, 8, 9, 10, 11, 12] rfl rfl (by decide) (by decide) (fun _ => rfl) (by decide) (fun r1 u2 H locs hw hP hD hS => ?_)
  have hP : va_P D vwCl (wd_Mo cA mo mo_dr mo_now mo_first mo_has mo_da mo_dl mo_af mo_al mo_sy mo_dg mo_out mo_tx m_ds m_st m_sub m_q m_two m_least u2.1 m_ts m_fs m_fc u2.2.1 u2.2.2.1 m_dr m_now m_first m_has m_da m_dl m_af m_al m_sy u2.2.2.2.1 u2.2.2.2.2 m_tx) H := hP
  have hD : va_D A (wd_Mo cA mo mo_dr mo_now mo_first mo_has mo_da mo_dl mo_af mo_al mo_sy mo_dg mo_out mo_tx m_ds m_st m_sub m_q m_two m_least u2.1 m_ts m_fs m_fc u2.2.1 u2.2.2.1 m_dr m_now m_first m_has m_da m_dl m_af m_al m_sy u2.2.2.2.1 u2.2.2.2.2 m_tx) := hD
  refine lv_if_eq (tgt := 12) hx hb d_M_read_5 rfl (fun hc => ?_) (fun hc => ?_)
  · have hw := hw.1 ((bI_0 _).mp hc)
    refine lv_aload_n hx hb d_M_read_12 rfl (lv_at hl 0 rfl) ?_
    refine lv_iconst (v := 1) hx hb d_M_read_13 (by decide) ?_
    refine ct_callz (wn := fun u4 => wd_Mo cA mo mo_dr mo_now mo_first mo_has mo_da mo_dl mo_af mo_al mo_sy mo_dg mo_out mo_tx m_ds m_st m_sub m_q m_two m_least u4.1 m_ts m_fs m_fc u4.2.1 u4.2.2.1 m_dr m_now m_first m_has m_da m_dl m_af m_al m_sy u4.2.2.2.1 u4.2.2.2.2 m_tx) (va_runV (As := [.int 1]) (rest := []) ⟨hx, hb, hml, hown, htb⟩ (c_M_readAs l D cA mo mo_dr mo_now mo_first mo_has mo_da mo_dl mo_af mo_al mo_sy mo_dg mo_out mo_tx m_ds m_st m_sub m_q m_two m_least u2.1 m_ts m_fs m_fc u2.2.1 u2.2.2.1 m_dr m_now m_first m_has m_da m_dl m_af m_al m_sy u2.2.2.2.1 u2.2.2.2.2 m_tx true _ hw _) (ct_cwV 1 htb tw922 rfl rfl tw82 tw919 tw921 tw65 hd_M_readAs ⟨by decide, by decide⟩) (ct_preV hP hD hK hN [0, 1, 2, 3, 4, 5, 6, 7, 8, 9, 10, 11, 12] rfl (by decide) 0 rfl rfl _) rfl rfl hl.1 rfl (lv_room (Nat.le_of_ble_eq_true rfl)) d_M_read_14 ⟨Nat.zero_le _, Nat.zero_le _⟩) hP hD hS hA [0, 1, 2, 3, 4, 5, 6, 7, 8, 9, 10, 11, 12] [] [0, 1, 2, 3, 4, 5, 6, 7, 8, 9, 10, 11, 12] rfl rfl (by decide) (by decide) (fun _ => rfl) (by decide) (fun r3 u4 H locs hw hP hD hS => ?_)
    have hP : va_P D vwCl (wd_Mo cA mo mo_dr mo_now mo_first mo_has mo_da mo_dl mo_af mo_al mo_sy mo_dg mo_out mo_tx m_ds m_st m_sub m_q m_two m_least u4.1 m_ts m_fs m_fc u4.2.1 u4.2.2.1 m_dr m_now m_first m_has m_da m_dl m_af m_al m_sy u4.2.2.2.1 u4.2.2.2.2 m_tx) H := hP
    have hD : va_D A (wd_Mo cA mo mo_dr mo_now mo_first mo_has mo_da mo_dl mo_af mo_al mo_sy mo_dg mo_out mo_tx m_ds m_st m_sub m_q m_two m_least u4.1 m_ts m_fs m_fc u4.2.1 u4.2.2.1 m_dr m_now m_first m_has m_da m_dl m_af m_al m_sy u4.2.2.2.1 u4.2.2.2.2 m_tx) := hD
    refine lv_if_eq (tgt := 24) hx hb d_M_read_17 rfl (fun hc => ?_) (fun hc => ?_)
    · have hw := hw.1 ((bI_0 _).mp hc)
      refine lv_iconst (v := 0) hx hb d_M_read_24 (by decide) ?_
      exact hJ250 0 u4.1 m_fs m_fc u4.2.1 u4.2.2.1 u4.2.2.2.1 u4.2.2.2.2 _ _ _ (lv_sub hl [0] rfl) hP hD hS hw
    · have hw := hw.2 ((bI_n0 _).mp hc)
      refine lv_iconst (v := (-1)) hx hb d_M_read_20 (by decide) ?_
      refine lv_goto (tgt := 25) hx hb d_M_read_21 rfl ?_
      exact hJ250 (-1) u4.1 m_fs m_fc u4.2.1 u4.2.2.1 u4.2.2.2.1 u4.2.2.2.2 _ _ _ (lv_sub hl [0] rfl) hP hD hS hw
  · have hw := hw.2 ((bI_n0 _).mp hc)
    refine lv_iconst (v := 1) hx hb d_M_read_8 (by decide) ?_
    refine lv_goto (tgt := 25) hx hb d_M_read_9 rfl ?_
    exact hJ250 1 u2.1 m_fs m_fc u2.2.1 u2.2.2.1 u2.2.2.2.1 u2.2.2.2.2 _ _ _ (lv_sub hl [0] rfl) hP hD hS hw
/-! DecimalPatternsModel.size()J -/
def wp_M_size (m_fs : Int64) (Q : Int64 → Unit → Prop) : Prop := Q m_fs ()
set_option maxHeartbeats 4000000 in
set_option maxRecDepth 100000 in
theorem c_M_size (l : Launch) (D : va_G) (cA : ClassId) (mo mo_dr mo_now mo_first mo_has mo_da mo_dl mo_af mo_al mo_sy mo_dg mo_out mo_tx : Nat) (m_ds : Int32) (m_st : Int32) (m_sub : Int32) (m_q : Int32) (m_two : Bool) (m_least : Int32) (m_os : Int32) (m_ts : Int32) (m_fs : Int64) (m_fc : Int32) (m_g : Int64) (m_gs : Int32) (m_dr : Nat → Int32) (m_now : Nat → Int32) (m_first : Nat → Int32) (m_has : Nat → Int32) (m_da : Nat → Int32) (m_dl : Nat → Int32) (m_af : Nat → Int32) (m_al : Nat → Int32) (m_sy : Nat → Int32) (m_dg : Nat → Int32) (m_out : Nat → Int32) (m_tx : Nat → Int32) (Q : Int64 → Unit → Prop) (hw : wp_M_size m_fs Q) : ct_M vwCl l D [(cA, .int)] y_M_size w_M_size { frames := 0, cells := 0, slots := 0, locals := 0 } [.ref mo] (wd_Mo cA mo mo_dr mo_now mo_first mo_has mo_da mo_dl mo_af mo_al mo_sy mo_dg mo_out mo_tx m_ds m_st m_sub m_q m_two m_least m_os m_ts m_fs m_fc m_g m_gs m_dr m_now m_first m_has m_da m_dl m_af m_al m_sy m_dg m_out m_tx) (ct_ql vwCl D [(cA, .int)] Q (fun u => wd_Mo cA mo mo_dr mo_now mo_first mo_has mo_da mo_dl mo_af mo_al mo_sy mo_dg mo_out mo_tx m_ds m_st m_sub m_q m_two m_least m_os m_ts m_fs m_fc m_g m_gs m_dr m_now m_first m_has m_da m_dl m_af m_al m_sy m_dg m_out m_tx)) := by
  refine ct_enter (cc := b_M_size) (maxL := 1) (ret := (some .long)) (by decide) rfl (Nat.le_of_ble_eq_true rfl) ?_
  intro p e s m args below meth c A ls hx hb hr hlk hml hts hown hA hS hP hK hN hD hl
  have hl : lv_has ls 1 [(0, .ref mo)] := hl
  have htb : ∀ w ∈ tbl, w.before args s = true := fun w h => hts w (List.mem_cons_of_mem _ h)
  have hown : s.vm.findClass "DecimalPatternsModel" = some m.cls := hown
  unfold wp_M_size at hw
  refine lv_aload_n hx hb d_M_size_0 rfl (lv_at hl 0 rfl) ?_
  refine va_get (ci := 9) (C := R_Mo) (T := F_Mo) (N := 24) hx hb htb in_Mo hown hK hP 0 rfl rfl 20 (by decide) (htb _ tw716) (fun _ h9 => h9) rfl d_M_size_1 ?_
  exact ct_lret hx hb hr hlk hK hS () hw hP hD d_M_size_4
/-! DecimalPatternsModel.scale()I -/
def wp_M_scale (m_fc : Int32) (Q : Int32 → Unit → Prop) : Prop := Q m_fc ()
set_option maxHeartbeats 4000000 in
set_option maxRecDepth 100000 in
theorem c_M_scale (l : Launch) (D : va_G) (cA : ClassId) (mo mo_dr mo_now mo_first mo_has mo_da mo_dl mo_af mo_al mo_sy mo_dg mo_out mo_tx : Nat) (m_ds : Int32) (m_st : Int32) (m_sub : Int32) (m_q : Int32) (m_two : Bool) (m_least : Int32) (m_os : Int32) (m_ts : Int32) (m_fs : Int64) (m_fc : Int32) (m_g : Int64) (m_gs : Int32) (m_dr : Nat → Int32) (m_now : Nat → Int32) (m_first : Nat → Int32) (m_has : Nat → Int32) (m_da : Nat → Int32) (m_dl : Nat → Int32) (m_af : Nat → Int32) (m_al : Nat → Int32) (m_sy : Nat → Int32) (m_dg : Nat → Int32) (m_out : Nat → Int32) (m_tx : Nat → Int32) (Q : Int32 → Unit → Prop) (hw : wp_M_scale m_fc Q) : ct_M vwCl l D [(cA, .int)] y_M_scale w_M_scale { frames := 0, cells := 0, slots := 0, locals := 0 } [.ref mo] (wd_Mo cA mo mo_dr mo_now mo_first mo_has mo_da mo_dl mo_af mo_al mo_sy mo_dg mo_out mo_tx m_ds m_st m_sub m_q m_two m_least m_os m_ts m_fs m_fc m_g m_gs m_dr m_now m_first m_has m_da m_dl m_af m_al m_sy m_dg m_out m_tx) (ct_qi vwCl D [(cA, .int)] Q (fun u => wd_Mo cA mo mo_dr mo_now mo_first mo_has mo_da mo_dl mo_af mo_al mo_sy mo_dg mo_out mo_tx m_ds m_st m_sub m_q m_two m_least m_os m_ts m_fs m_fc m_g m_gs m_dr m_now m_first m_has m_da m_dl m_af m_al m_sy m_dg m_out m_tx)) := by
  refine ct_enter (cc := b_M_scale) (maxL := 1) (ret := (some .int)) (by decide) rfl (Nat.le_of_ble_eq_true rfl) ?_
  intro p e s m args below meth c A ls hx hb hr hlk hml hts hown hA hS hP hK hN hD hl
  have hl : lv_has ls 1 [(0, .ref mo)] := hl
  have htb : ∀ w ∈ tbl, w.before args s = true := fun w h => hts w (List.mem_cons_of_mem _ h)
  have hown : s.vm.findClass "DecimalPatternsModel" = some m.cls := hown
  unfold wp_M_scale at hw
  refine lv_aload_n hx hb d_M_scale_0 rfl (lv_at hl 0 rfl) ?_
  refine va_get (ci := 9) (C := R_Mo) (T := F_Mo) (N := 24) hx hb htb in_Mo hown hK hP 0 rfl rfl 21 (by decide) (htb _ tw717) (fun _ h9 => h9) rfl d_M_scale_1 ?_
  exact ct_iret hx hb hr hlk hK hS () hw hP hD d_M_scale_4
