/-! DecimalPatternsModel.percent()Z -/
def wp_M_percent_L110 : Nat → (Nat → Int32) → (Nat → Int32) → Bool → Int32 → Int32 → (Bool → Int32 → Prop) → (Bool → Unit → Prop) → Prop
  | 0, _, _, _, _, _, _, _ => False
  | n110 + 1, m_af, m_al, x1, x2, x3, K40, Q => vp_in x2 4 ∧ (((m_al x2.toNatClampNeg) ≤ x3 → (K40 x1 (x2 + 1))) ∧ (¬ (m_al x2.toNatClampNeg) ≤ x3 → ((x1 = true → (wp_M_percent_L110 n110 m_af m_al true x2 (x3 + 1) K40 Q)) ∧ (x1 = false → (vp_in ((40 * x2) + x3) 160 ∧ ((¬ (m_af ((40 * x2) + x3).toNatClampNeg) = 201 → (wp_M_percent_L110 n110 m_af m_al false x2 (x3 + 1) K40 Q)) ∧ ((m_af ((40 * x2) + x3).toNatClampNeg) = 201 → (wp_M_percent_L110 n110 m_af m_al true x2 (x3 + 1) K40 Q))))))))
def wp_M_percent_L40 : Nat → (Nat → Int32) → (Nat → Int32) → Bool → Int32 → (Bool → Unit → Prop) → Prop
  | 0, _, _, _, _, _ => False
  | n40 + 1, m_af, m_al, x1, x2, Q => (2 ≤ x2 → (Q x1 ())) ∧ (¬ 2 ≤ x2 → (∃ n110, wp_M_percent_L110 n110 m_af m_al x1 x2 0 (fun x1 x2 => wp_M_percent_L40 n40 m_af m_al x1 x2 Q) Q))
def wp_M_percent (m_af : Nat → Int32) (m_al : Nat → Int32) (Q : Bool → Unit → Prop) : Prop := ∃ n40, wp_M_percent_L40 n40 m_af m_al false 0 Q
set_option maxHeartbeats 4000000 in
set_option maxRecDepth 100000 in
theorem c_M_percent (l : Launch) (D : va_G) (cA : ClassId) (mo mo_dr mo_now mo_first mo_has mo_da mo_dl mo_af mo_al mo_sy mo_dg mo_out mo_tx : Nat) (m_ds : Int32) (m_st : Int32) (m_sub : Int32) (m_q : Int32) (m_two : Bool) (m_least : Int32) (m_os : Int32) (m_ts : Int32) (m_fs : Int64) (m_fc : Int32) (m_g : Int64) (m_gs : Int32) (m_dr : Nat → Int32) (m_now : Nat → Int32) (m_first : Nat → Int32) (m_has : Nat → Int32) (m_da : Nat → Int32) (m_dl : Nat → Int32) (m_af : Nat → Int32) (m_al : Nat → Int32) (m_sy : Nat → Int32) (m_dg : Nat → Int32) (m_out : Nat → Int32) (m_tx : Nat → Int32) (Q : Bool → Unit → Prop) (hw : wp_M_percent m_af m_al Q) : ct_M vwCl l D [(cA, .int)] y_M_percent w_M_percent { frames := 0, cells := 0, slots := 0, locals := 0 } [.ref mo] (wd_Mo cA mo mo_dr mo_now mo_first mo_has mo_da mo_dl mo_af mo_al mo_sy mo_dg mo_out mo_tx m_ds m_st m_sub m_q m_two m_least m_os m_ts m_fs m_fc m_g m_gs m_dr m_now m_first m_has m_da m_dl m_af m_al m_sy m_dg m_out m_tx) (ct_qz vwCl D [(cA, .int)] Q (fun u => wd_Mo cA mo mo_dr mo_now mo_first mo_has mo_da mo_dl mo_af mo_al mo_sy mo_dg mo_out mo_tx m_ds m_st m_sub m_q m_two m_least m_os m_ts m_fs m_fc m_g m_gs m_dr m_now m_first m_has m_da m_dl m_af m_al m_sy m_dg m_out m_tx)) := by
  refine ct_enter (cc := b_M_percent) (maxL := 4) (ret := (some .boolean)) (by decide) rfl (Nat.le_of_ble_eq_true rfl) ?_
  intro p e s m args below meth c A ls hx hb hr hlk hml hts hown hA hS hP hK hN hD hl
  have hl : lv_has ls 4 [(0, .ref mo)] := hl
  have htb : ∀ w ∈ tbl, w.before args s = true := fun w h => hts w (List.mem_cons_of_mem _ h)
  have hown : s.vm.findClass "DecimalPatternsModel" = some m.cls := hown
  unfold wp_M_percent at hw
  have hL40 : ∀ (n40 : Nat) (x1 : Bool) (x2 : Int32) (H : Heap) (locs : List Loc) (ls : Array Slot), lv_has ls 4 [(0, .ref mo), (1, .int (bI x1)), (2, .int x2)] → va_P D vwCl (wd_Mo cA mo mo_dr mo_now mo_first mo_has mo_da mo_dl mo_af mo_al mo_sy mo_dg mo_out mo_tx m_ds m_st m_sub m_q m_two m_least m_os m_ts m_fs m_fc m_g m_gs m_dr m_now m_first m_has m_da m_dl m_af m_al m_sy m_dg m_out m_tx) H → va_D A (wd_Mo cA mo mo_dr mo_now mo_first mo_has mo_da mo_dl mo_af mo_al mo_sy mo_dg mo_out mo_tx m_ds m_st m_sub m_q m_two m_least m_os m_ts m_fs m_fc m_g m_gs m_dr m_now m_first m_has m_da m_dl m_af m_al m_sy m_dg m_out m_tx) → va_S A s.heap H locs → wp_M_percent_L40 n40 m_af m_al x1 x2 Q → W p l e { frames := 0, cells := 0, slots := 0, locals := 0 } s m args below meth c H locs 0 0 (MQ below (ct_qz vwCl D [(cA, .int)] Q (fun u => wd_Mo cA mo mo_dr mo_now mo_first mo_has mo_da mo_dl mo_af mo_al mo_sy mo_dg mo_out mo_tx m_ds m_st m_sub m_q m_two m_least m_os m_ts m_fs m_fc m_g m_gs m_dr m_now m_first m_has m_da m_dl m_af m_al m_sy m_dg m_out m_tx) A) args s 0 0 A) (F0 m 4 ls []) := by
    intro n40
    induction n40 with
    | zero => intro x1 x2 H locs ls hl hP hD hS hw; exact hw.elim
    | succ n40 ih40 =>
      have hL110 : ∀ (n110 : Nat) (x1 : Bool) (x2 : Int32) (x3 : Int32) (H : Heap) (locs : List Loc) (ls : Array Slot), lv_has ls 4 [(0, .ref mo), (1, .int (bI x1)), (2, .int x2), (3, .int x3)] → va_P D vwCl (wd_Mo cA mo mo_dr mo_now mo_first mo_has mo_da mo_dl mo_af mo_al mo_sy mo_dg mo_out mo_tx m_ds m_st m_sub m_q m_two m_least m_os m_ts m_fs m_fc m_g m_gs m_dr m_now m_first m_has m_da m_dl m_af m_al m_sy m_dg m_out m_tx) H → va_D A (wd_Mo cA mo mo_dr mo_now mo_first mo_has mo_da mo_dl mo_af mo_al mo_sy mo_dg mo_out mo_tx m_ds m_st m_sub m_q m_two m_least m_os m_ts m_fs m_fc m_g m_gs m_dr m_now m_first m_has m_da m_dl m_af m_al m_sy m_dg m_out m_tx) → va_S A s.heap H locs → wp_M_percent_L110 n110 m_af m_al x1 x2 x3 (fun x1 x2 => wp_M_percent_L40 n40 m_af m_al x1 x2 Q) Q → W p l e { frames := 0, cells := 0, slots := 0, locals := 0 } s m args below meth c H locs 0 0 (MQ below (ct_qz vwCl D [(cA, .int)] Q (fun u => wd_Mo cA mo mo_dr mo_now mo_first mo_has mo_da mo_dl mo_af mo_al mo_sy mo_dg mo_out mo_tx m_ds m_st m_sub m_q m_two m_least m_os m_ts m_fs m_fc m_g m_gs m_dr m_now m_first m_has m_da m_dl m_af m_al m_sy m_dg m_out m_tx) A) args s 0 0 A) (F0 m 11 ls []) := by
        intro n110
        induction n110 with
        | zero => intro x1 x2 x3 H locs ls hl hP hD hS hw; exact hw.elim
        | succ n110 ih110 =>
          intro x1 x2 x3 H locs ls hl hP hD hS hw
          unfold wp_M_percent_L110 at hw
          refine lv_iload_n hx hb d_M_percent_11 rfl (lv_at hl 3 rfl) ?_
          refine lv_aload_n hx hb d_M_percent_12 rfl (lv_at hl 0 rfl) ?_
          refine va_get (ci := 9) (C := R_Mo) (T := F_Mo) (N := 24) hx hb htb in_Mo hown hK hP 0 rfl rfl 11 (by decide) (htb _ tw707) (fun _ h9 => h9) rfl d_M_percent_13 ?_
          refine lv_iload_n hx hb d_M_percent_16 rfl (lv_at hl 2 rfl) ?_
          have hi := hw.1
          have hw := hw.2
          refine va_iald hx hb hK hP 8 0 rfl rfl hi d_M_percent_17 ?_
          refine lv_icmp_ge (tgt := 54) hx hb d_M_percent_18 rfl (fun hc => ?_) (fun hc => ?_)
          · have hw := hw.1 hc
            refine lv_iinc (k := 2) (v := x2 + 1) (lv' := [(2, .int (x2 + 1)), (0, .ref mo), (1, .int (bI x1)), (3, .int x3)]) hx hb d_M_percent_54 hl rfl (by rfl) (by decide) rfl (fun ls hl => ?_)
            refine lv_goto (tgt := 4) hx hb d_M_percent_57 rfl ?_
            exact ih40 x1 (x2 + 1) _ _ _ (lv_sub hl [1, 2, 0] rfl) hP hD hS hw
          · have hw := hw.2 hc
            refine lv_iload_n hx hb d_M_percent_21 rfl (lv_at hl 1 rfl) ?_
            refine lv_if_ne (tgt := 42) hx hb d_M_percent_22 rfl (fun hc => ?_) (fun hc => ?_)
            · have hw := hw.1 ((bI_n0 _).mp hc)
              refine lv_iconst (v := 1) hx hb d_M_percent_42 (by decide) ?_
              refine lv_goto (tgt := 47) hx hb d_M_percent_43 rfl ?_
              refine lv_istore_n (lv' := [(1, .int 1), (0, .ref mo), (2, .int x2), (3, .int x3)]) hx hb d_M_percent_47 rfl hl (by decide) rfl (fun ls hl => ?_)
              refine lv_iinc (k := 3) (v := x3 + 1) (lv' := [(3, .int (x3 + 1)), (1, .int 1), (0, .ref mo), (2, .int x2)]) hx hb d_M_percent_48 hl rfl (by rfl) (by decide) rfl (fun ls hl => ?_)
              refine lv_goto (tgt := 11) hx hb d_M_percent_51 rfl ?_
              exact ih110 true x2 (x3 + 1) _ _ _ (lv_sub hl [2, 1, 3, 0] rfl) hP hD hS hw
            · have hw := hw.2 ((bI_0 _).mp hc)
              refine lv_aload_n hx hb d_M_percent_25 rfl (lv_at hl 0 rfl) ?_
              refine va_get (ci := 9) (C := R_Mo) (T := F_Mo) (N := 24) hx hb htb in_Mo hown hK hP 0 rfl rfl 10 (by decide) (htb _ tw706) (fun _ h9 => h9) rfl d_M_percent_26 ?_
              refine lv_bipush (v := 40) hx hb d_M_percent_29 (by decide) ?_
              refine lv_iload_n hx hb d_M_percent_31 rfl (lv_at hl 2 rfl) ?_
              refine lv_imul hx hb d_M_percent_32 ?_
              refine lv_iload_n hx hb d_M_percent_33 rfl (lv_at hl 3 rfl) ?_
              refine lv_iadd hx hb d_M_percent_34 ?_
              have hi := hw.1
              have hw := hw.2
              refine va_iald hx hb hK hP 7 0 rfl rfl hi d_M_percent_35 ?_
              refine lv_sipush (v := 201) hx hb d_M_percent_36 (by decide) ?_
              refine lv_icmp_ne (tgt := 46) hx hb d_M_percent_39 rfl (fun hc => ?_) (fun hc => ?_)
              · have hw := hw.1 hc
                refine lv_iconst (v := 0) hx hb d_M_percent_46 (by decide) ?_
                refine lv_istore_n (lv' := [(1, .int 0), (0, .ref mo), (2, .int x2), (3, .int x3)]) hx hb d_M_percent_47 rfl hl (by decide) rfl (fun ls hl => ?_)
                refine lv_iinc (k := 3) (v := x3 + 1) (lv' := [(3, .int (x3 + 1)), (1, .int 0), (0, .ref mo), (2, .int x2)]) hx hb d_M_percent_48 hl rfl (by rfl) (by decide) rfl (fun ls hl => ?_)
                refine lv_goto (tgt := 11) hx hb d_M_percent_51 rfl ?_
                exact ih110 false x2 (x3 + 1) _ _ _ (lv_sub hl [2, 1, 3, 0] rfl) hP hD hS hw
              · have hw := hw.2 hc
                refine lv_iconst (v := 1) hx hb d_M_percent_42 (by decide) ?_
                refine lv_goto (tgt := 47) hx hb d_M_percent_43 rfl ?_
                refine lv_istore_n (lv' := [(1, .int 1), (0, .ref mo), (2, .int x2), (3, .int x3)]) hx hb d_M_percent_47 rfl hl (by decide) rfl (fun ls hl => ?_)
                refine lv_iinc (k := 3) (v := x3 + 1) (lv' := [(3, .int (x3 + 1)), (1, .int 1), (0, .ref mo), (2, .int x2)]) hx hb d_M_percent_48 hl rfl (by rfl) (by decide) rfl (fun ls hl => ?_)
                refine lv_goto (tgt := 11) hx hb d_M_percent_51 rfl ?_
                exact ih110 true x2 (x3 + 1) _ _ _ (lv_sub hl [2, 1, 3, 0] rfl) hP hD hS hw
      intro x1 x2 H locs ls hl hP hD hS hw
      unfold wp_M_percent_L40 at hw
      refine lv_iload_n hx hb d_M_percent_4 rfl (lv_at hl 2 rfl) ?_
      refine lv_iconst (v := 2) hx hb d_M_percent_5 (by decide) ?_
      refine lv_icmp_ge (tgt := 60) hx hb d_M_percent_6 rfl (fun hc => ?_) (fun hc => ?_)
      · have hw := hw.1 hc
        refine lv_iload_n hx hb d_M_percent_60 rfl (lv_at hl 1 rfl) ?_
        exact ct_zret x1 hx hb hr hlk hK hS () hw hP hD d_M_percent_61
      · have hw := hw.2 hc
        refine lv_iconst (v := 0) hx hb d_M_percent_9 (by decide) ?_
        refine lv_istore_n (lv' := [(3, .int 0), (0, .ref mo), (1, .int (bI x1)), (2, .int x2)]) hx hb d_M_percent_10 rfl hl (by decide) rfl (fun ls hl => ?_)
        obtain ⟨n110, hw⟩ := hw
        exact hL110 n110 x1 x2 0 _ _ _ (lv_sub hl [1, 2, 3, 0] rfl) hP hD hS hw
  refine lv_iconst (v := 0) hx hb d_M_percent_0 (by decide) ?_
  refine lv_istore_n (lv' := [(1, .int 0), (0, .ref mo)]) hx hb d_M_percent_1 rfl hl (by decide) rfl (fun ls hl => ?_)
  refine lv_iconst (v := 0) hx hb d_M_percent_2 (by decide) ?_
  refine lv_istore_n (lv' := [(2, .int 0), (1, .int 0), (0, .ref mo)]) hx hb d_M_percent_3 rfl hl (by decide) rfl (fun ls hl => ?_)
  obtain ⟨n40, hw⟩ := hw
  exact hL40 n40 false 0 _ _ _ (lv_sub hl [2, 1, 0] rfl) hP hD hS hw
/-! DecimalPatternsModel.load(JI)V -/
def wp_M_load_L590 : Nat → (Nat → Int32) → (Nat → Int32) → Int64 → Int32 → Int32 → (Nat → Int32) → ((Nat → Int32) → Prop) → Prop
  | 0, _, _, _, _, _, _, _ => False
  | n590 + 1, m_af, m_al, x4, x6, x7, m_dg, Q => (20 ≤ x7 → (Q m_dg)) ∧ (¬ 20 ≤ x7 → (vp_in ((64 + x6) + x7) 128 ∧ (wp_M_load_L590 n590 m_af m_al (x4 / 10) x6 (x7 + 1) (upd m_dg ((64 + x6) + x7).toNatClampNeg ((-(x4 - x4 / 10 * 10)).toInt32)) Q)))
def wp_M_load_J540 (m_af : Nat → Int32) (m_al : Nat → Int32) (x4 : Int64) (y0 : Int32) (m_dg : Nat → Int32) (Q : (Nat → Int32) → Prop) : Prop := ∃ n590, wp_M_load_L590 n590 m_af m_al x4 y0 0 m_dg Q
def wp_M_load_J370 (m_af : Nat → Int32) (m_al : Nat → Int32) (x3 : Int32) (y0 : Int64) (m_dg : Nat → Int32) (Q : (Nat → Int32) → Prop) : Prop := wp_M_percent m_af m_al (fun r1 u2 => (r1 = false → (wp_M_load_J540 m_af m_al y0 (-x3) m_dg Q)) ∧ (r1 = true → (wp_M_load_J540 m_af m_al y0 (2 - x3) m_dg Q)))
def wp_M_load_L30 : Nat → (Nat → Int32) → (Nat → Int32) → Int64 → Int32 → Int32 → (Nat → Int32) → ((Nat → Int32) → Prop) → Prop
  | 0, _, _, _, _, _, _, _ => False
  | n30 + 1, m_af, m_al, x1, x3, x4, m_dg, Q => (128 ≤ x4 → ((x1 ≤ 0 → (wp_M_load_J370 m_af m_al x3 x1 m_dg Q)) ∧ (¬ x1 ≤ 0 → (wp_M_load_J370 m_af m_al x3 (-x1) m_dg Q)))) ∧ (¬ 128 ≤ x4 → (vp_in x4 128 ∧ (wp_M_load_L30 n30 m_af m_al x1 x3 (x4 + 1) (upd m_dg x4.toNatClampNeg 0) Q)))
def wp_M_load (m_af : Nat → Int32) (m_al : Nat → Int32) (m_dg : Nat → Int32) (un : Int64) (sl : Int32) (Q : (Nat → Int32) → Prop) : Prop := ∃ n30, wp_M_load_L30 n30 m_af m_al un sl 0 m_dg Q
set_option maxHeartbeats 4000000 in
set_option maxRecDepth 100000 in
theorem c_M_load (l : Launch) (D : va_G) (cA : ClassId) (mo mo_dr mo_now mo_first mo_has mo_da mo_dl mo_af mo_al mo_sy mo_dg mo_out mo_tx : Nat) (m_ds : Int32) (m_st : Int32) (m_sub : Int32) (m_q : Int32) (m_two : Bool) (m_least : Int32) (m_os : Int32) (m_ts : Int32) (m_fs : Int64) (m_fc : Int32) (m_g : Int64) (m_gs : Int32) (m_dr : Nat → Int32) (m_now : Nat → Int32) (m_first : Nat → Int32) (m_has : Nat → Int32) (m_da : Nat → Int32) (m_dl : Nat → Int32) (m_af : Nat → Int32) (m_al : Nat → Int32) (m_sy : Nat → Int32) (m_dg : Nat → Int32) (m_out : Nat → Int32) (m_tx : Nat → Int32) (un : Int64) (sl : Int32) (Q : (Nat → Int32) → Prop) (hw : wp_M_load m_af m_al m_dg un sl Q) : ct_M vwCl l D [(cA, .int)] y_M_load w_M_load { frames := 1, cells := 0, slots := 0, locals := 23 } [.ref mo, .long un, .int sl] (wd_Mo cA mo mo_dr mo_now mo_first mo_has mo_da mo_dl mo_af mo_al mo_sy mo_dg mo_out mo_tx m_ds m_st m_sub m_q m_two m_least m_os m_ts m_fs m_fc m_g m_gs m_dr m_now m_first m_has m_da m_dl m_af m_al m_sy m_dg m_out m_tx) (ct_qv vwCl D [(cA, .int)] Q (fun u => wd_Mo cA mo mo_dr mo_now mo_first mo_has mo_da mo_dl mo_af mo_al mo_sy mo_dg mo_out mo_tx m_ds m_st m_sub m_q m_two m_least m_os m_ts m_fs m_fc m_g m_gs m_dr m_now m_first m_has m_da m_dl m_af m_al m_sy u m_out m_tx)) := by
  refine ct_enter (cc := b_M_load) (maxL := 8) (ret := none) (by decide) rfl (Nat.le_of_ble_eq_true rfl) ?_
  intro p e s m args below meth c A ls hx hb hr hlk hml hts hown hA hS hP hK hN hD hl
  have hl : lv_has ls 8 [(0, .ref mo), (1, .long un), (3, .int sl)] := hl
  have htb : ∀ w ∈ tbl, w.before args s = true := fun w h => hts w (List.mem_cons_of_mem _ h)
  have hown : s.vm.findClass "DecimalPatternsModel" = some m.cls := hown
  unfold wp_M_load at hw
  have hL590 : ∀ (n590 : Nat) (x4 : Int64) (x6 : Int32) (x7 : Int32) (m_dg : Nat → Int32) (H : Heap) (locs : List Loc) (ls : Array Slot), lv_has ls 8 [(0, .ref mo), (4, .long x4), (6, .int x6), (7, .int x7)] → va_P D vwCl (wd_Mo cA mo mo_dr mo_now mo_first mo_has mo_da mo_dl mo_af mo_al mo_sy mo_dg mo_out mo_tx m_ds m_st m_sub m_q m_two m_least m_os m_ts m_fs m_fc m_g m_gs m_dr m_now m_first m_has m_da m_dl m_af m_al m_sy m_dg m_out m_tx) H → va_D A (wd_Mo cA mo mo_dr mo_now mo_first mo_has mo_da mo_dl mo_af mo_al mo_sy mo_dg mo_out mo_tx m_ds m_st m_sub m_q m_two m_least m_os m_ts m_fs m_fc m_g m_gs m_dr m_now m_first m_has m_da m_dl m_af m_al m_sy m_dg m_out m_tx) → va_S A s.heap H locs → wp_M_load_L590 n590 m_af m_al x4 x6 x7 m_dg Q → W p l e { frames := 1, cells := 0, slots := 0, locals := 23 } s m args below meth c H locs 0 0 (MQ below (ct_qv vwCl D [(cA, .int)] Q (fun u => wd_Mo cA mo mo_dr mo_now mo_first mo_has mo_da mo_dl mo_af mo_al mo_sy mo_dg mo_out mo_tx m_ds m_st m_sub m_q m_two m_least m_os m_ts m_fs m_fc m_g m_gs m_dr m_now m_first m_has m_da m_dl m_af m_al m_sy u m_out m_tx) A) args s 0 0 A) (F0 m 59 ls []) := by
    intro n590
    induction n590 with
    | zero => intro x4 x6 x7 m_dg H locs ls hl hP hD hS hw; exact hw.elim
    | succ n590 ih590 =>
      intro x4 x6 x7 m_dg H locs ls hl hP hD hS hw
      unfold wp_M_load_L590 at hw
      refine lv_iload hx hb d_M_load_59 (lv_at hl 3 rfl) ?_
      refine lv_bipush (v := 20) hx hb d_M_load_61 (by decide) ?_
      refine lv_icmp_ge (tgt := 101) hx hb d_M_load_63 rfl (fun hc => ?_) (fun hc => ?_)
      · have hw := hw.1 hc
        exact ct_vret hx hb hr hlk hK hS m_dg hw hP hD d_M_load_101
      · have hw := hw.2 hc
        refine lv_aload_n hx hb d_M_load_66 rfl (lv_at hl 0 rfl) ?_
        refine va_get (ci := 9) (C := R_Mo) (T := F_Mo) (N := 24) hx hb htb in_Mo hown hK hP 0 rfl rfl 15 (by decide) (htb _ tw711) (fun _ h9 => h9) rfl d_M_load_67 ?_
        refine lv_bipush (v := 64) hx hb d_M_load_70 (by decide) ?_
        refine lv_iload hx hb d_M_load_72 (lv_at hl 2 rfl) ?_
        refine lv_iadd hx hb d_M_load_74 ?_
        refine lv_iload hx hb d_M_load_75 (lv_at hl 3 rfl) ?_
        refine lv_iadd hx hb d_M_load_77 ?_
        refine lv_lload hx hb d_M_load_78 (lv_at hl 1 rfl) ?_
        refine lv_ldc2 (v := 10) hx hb hown (htb _ tw855) d_M_load_80 ?_
        refine lv_lrem hx hb d_M_load_83 (by decide) ?_
        refine lv_lneg hx hb d_M_load_84 ?_
        refine lv_l2i (v := (-(x4 - x4 / 10 * 10)).toInt32) hx hb d_M_load_85 rfl ?_
        have hi := hw.1
        have hw := hw.2
        refine va_iast hx hb hK hP hD hS 10 0 rfl rfl hi d_M_load_86 (fun H locs hP hD hS => ?_)
        have hP : va_P D vwCl (wd_Mo cA mo mo_dr mo_now mo_first mo_has mo_da mo_dl mo_af mo_al mo_sy mo_dg mo_out mo_tx m_ds m_st m_sub m_q m_two m_least m_os m_ts m_fs m_fc m_g m_gs m_dr m_now m_first m_has m_da m_dl m_af m_al m_sy (upd m_dg ((64 + x6) + x7).toNatClampNeg ((-(x4 - x4 / 10 * 10)).toInt32)) m_out m_tx) H := hP
        have hD : va_D A (wd_Mo cA mo mo_dr mo_now mo_first mo_has mo_da mo_dl mo_af mo_al mo_sy mo_dg mo_out mo_tx m_ds m_st m_sub m_q m_two m_least m_os m_ts m_fs m_fc m_g m_gs m_dr m_now m_first m_has m_da m_dl m_af m_al m_sy (upd m_dg ((64 + x6) + x7).toNatClampNeg ((-(x4 - x4 / 10 * 10)).toInt32)) m_out m_tx) := hD
        refine lv_lload hx hb d_M_load_87 (lv_at hl 1 rfl) ?_
        refine lv_ldc2 (v := 10) hx hb hown (htb _ tw855) d_M_load_89 ?_
        refine lv_ldiv hx hb d_M_load_92 (by decide) ?_
        refine lv_lstore (lv' := [(4, .long (x4 / 10)), (0, .ref mo), (6, .int x6), (7, .int x7)]) hx hb d_M_load_93 hl (by decide) rfl (fun ls hl => ?_)
        refine lv_iinc (k := 3) (v := x7 + 1) (lv' := [(7, .int (x7 + 1)), (4, .long (x4 / 10)), (0, .ref mo), (6, .int x6)]) hx hb d_M_load_95 hl rfl (by rfl) (by decide) rfl (fun ls hl => ?_)
        refine lv_goto (tgt := 59) hx hb d_M_load_98 rfl ?_
        exact ih590 (x4 / 10) x6 (x7 + 1) (upd m_dg ((64 + x6) + x7).toNatClampNeg ((-(x4 - x4 / 10 * 10)).toInt32)) _ _ _ (lv_sub hl [2, 1, 3, 0] rfl) hP hD hS hw
  have hJ540 : ∀ (x4 : Int64) (y0 : Int32) (m_dg : Nat → Int32) (H : Heap) (locs : List Loc) (ls : Array Slot), lv_has ls 8 [(0, .ref mo), (4, .long x4)] → va_P D vwCl (wd_Mo cA mo mo_dr mo_now mo_first mo_has mo_da mo_dl mo_af mo_al mo_sy mo_dg mo_out mo_tx m_ds m_st m_sub m_q m_two m_least m_os m_ts m_fs m_fc m_g m_gs m_dr m_now m_first m_has m_da m_dl m_af m_al m_sy m_dg m_out m_tx) H → va_D A (wd_Mo cA mo mo_dr mo_now mo_first mo_has mo_da mo_dl mo_af mo_al mo_sy mo_dg mo_out mo_tx m_ds m_st m_sub m_q m_two m_least m_os m_ts m_fs m_fc m_g m_gs m_dr m_now m_first m_has m_da m_dl m_af m_al m_sy m_dg m_out m_tx) → va_S A s.heap H locs → wp_M_load_J540 m_af m_al x4 y0 m_dg Q → W p l e { frames := 1, cells := 0, slots := 0, locals := 23 } s m args below meth c H locs 0 0 (MQ below (ct_qv vwCl D [(cA, .int)] Q (fun u => wd_Mo cA mo mo_dr mo_now mo_first mo_has mo_da mo_dl mo_af mo_al mo_sy mo_dg mo_out mo_tx m_ds m_st m_sub m_q m_two m_least m_os m_ts m_fs m_fc m_g m_gs m_dr m_now m_first m_has m_da m_dl m_af m_al m_sy u m_out m_tx) A) args s 0 0 A) (F0 m 54 ls [.int y0]) := by
    intro x4 y0 m_dg H locs ls hl hP hD hS hw
    unfold wp_M_load_J540 at hw
    refine lv_istore (lv' := [(6, .int y0), (0, .ref mo), (4, .long x4)]) hx hb d_M_load_54 hl (by decide) rfl (fun ls hl => ?_)
    refine lv_iconst (v := 0) hx hb d_M_load_56 (by decide) ?_
    refine lv_istore (lv' := [(7, .int 0), (6, .int y0), (0, .ref mo), (4, .long x4)]) hx hb d_M_load_57 hl (by decide) rfl (fun ls hl => ?_)
    obtain ⟨n590, hw⟩ := hw
    exact hL590 n590 x4 y0 0 m_dg _ _ _ (lv_sub hl [2, 3, 1, 0] rfl) hP hD hS hw
  have hJ370 : ∀ (x3 : Int32) (y0 : Int64) (m_dg : Nat → Int32) (H : Heap) (locs : List Loc) (ls : Array Slot), lv_has ls 8 [(0, .ref mo), (3, .int x3)] → va_P D vwCl (wd_Mo cA mo mo_dr mo_now mo_first mo_has mo_da mo_dl mo_af mo_al mo_sy mo_dg mo_out mo_tx m_ds m_st m_sub m_q m_two m_least m_os m_ts m_fs m_fc m_g m_gs m_dr m_now m_first m_has m_da m_dl m_af m_al m_sy m_dg m_out m_tx) H → va_D A (wd_Mo cA mo mo_dr mo_now mo_first mo_has mo_da mo_dl mo_af mo_al mo_sy mo_dg mo_out mo_tx m_ds m_st m_sub m_q m_two m_least m_os m_ts m_fs m_fc m_g m_gs m_dr m_now m_first m_has m_da m_dl m_af m_al m_sy m_dg m_out m_tx) → va_S A s.heap H locs → wp_M_load_J370 m_af m_al x3 y0 m_dg Q → W p l e { frames := 1, cells := 0, slots := 0, locals := 23 } s m args below meth c H locs 0 0 (MQ below (ct_qv vwCl D [(cA, .int)] Q (fun u => wd_Mo cA mo mo_dr mo_now mo_first mo_has mo_da mo_dl mo_af mo_al mo_sy mo_dg mo_out mo_tx m_ds m_st m_sub m_q m_two m_least m_os m_ts m_fs m_fc m_g m_gs m_dr m_now m_first m_has m_da m_dl m_af m_al m_sy u m_out m_tx) A) args s 0 0 A) (F0 m 37 ls [.long y0]) := by
    intro x3 y0 m_dg H locs ls hl hP hD hS hw
    unfold wp_M_load_J370 at hw
    refine lv_lstore (lv' := [(4, .long y0), (0, .ref mo), (3, .int x3)]) hx hb d_M_load_37 hl (by decide) rfl (fun ls hl => ?_)
    refine lv_aload_n hx hb d_M_load_39 rfl (lv_at hl 1 rfl) ?_
    refine ct_callz (wn := fun _ => wd_Mo cA mo mo_dr mo_now mo_first mo_has mo_da mo_dl mo_af mo_al mo_sy mo_dg mo_out mo_tx m_ds m_st m_sub m_q m_two m_least m_os m_ts m_fs m_fc m_g m_gs m_dr m_now m_first m_has m_da m_dl m_af m_al m_sy m_dg m_out m_tx) (va_runV (As := []) (rest := []) ⟨hx, hb, hml, hown, htb⟩ (c_M_percent l D cA mo mo_dr mo_now mo_first mo_has mo_da mo_dl mo_af mo_al mo_sy mo_dg mo_out mo_tx m_ds m_st m_sub m_q m_two m_least m_os m_ts m_fs m_fc m_g m_gs m_dr m_now m_first m_has m_da m_dl m_af m_al m_sy m_dg m_out m_tx _ hw _) (ct_cwV 0 htb tw854 rfl rfl tw82 tw851 tw853 tw54 hd_M_percent ⟨by decide, by decide⟩) (ct_preV hP hD hK hN [0, 1, 2, 3, 4, 5, 6, 7, 8, 9, 10, 11, 12] rfl (by decide) 0 rfl rfl _) rfl rfl hl.1 rfl (lv_room (Nat.le_of_ble_eq_true rfl)) d_M_load_40 ⟨Nat.zero_le _, Nat.zero_le _⟩) hP hD hS hA [0, 1, 2, 3, 4, 5, 6, 7, 8, 9, 10, 11, 12] [] [0, 1, 2, 3, 4, 5, 6, 7, 8, 9, 10, 11, 12] rfl rfl (by decide) (by decide) (fun _ => rfl) (by decide) (fun r1 u2 H locs hw hP hD hS => ?_)
    have hP : va_P D vwCl (wd_Mo cA mo mo_dr mo_now mo_first mo_has mo_da mo_dl mo_af mo_al mo_sy mo_dg mo_out mo_tx m_ds m_st m_sub m_q m_two m_least m_os m_ts m_fs m_fc m_g m_gs m_dr m_now m_first m_has m_da m_dl m_af m_al m_sy m_dg m_out m_tx) H := hP
    have hD : va_D A (wd_Mo cA mo mo_dr mo_now mo_first mo_has mo_da mo_dl mo_af mo_al mo_sy mo_dg mo_out mo_tx m_ds m_st m_sub m_q m_two m_least m_os m_ts m_fs m_fc m_g m_gs m_dr m_now m_first m_has m_da m_dl m_af m_al m_sy m_dg m_out m_tx) := hD
    refine lv_if_eq (tgt := 52) hx hb d_M_load_43 rfl (fun hc => ?_) (fun hc => ?_)
    · have hw := hw.1 ((bI_0 _).mp hc)
      refine lv_iload_n hx hb d_M_load_52 rfl (lv_at hl 2 rfl) ?_
      refine lv_ineg hx hb d_M_load_53 ?_
      exact hJ540 y0 (-x3) m_dg _ _ _ (lv_sub hl [1, 0] rfl) hP hD hS hw
    · have hw := hw.2 ((bI_n0 _).mp hc)
      refine lv_iconst (v := 2) hx hb d_M_load_46 (by decide) ?_
      refine lv_iload_n hx hb d_M_load_47 rfl (lv_at hl 2 rfl) ?_
      refine lv_isub hx hb d_M_load_48 ?_
      refine lv_goto (tgt := 54) hx hb d_M_load_49 rfl ?_
      exact hJ540 y0 (2 - x3) m_dg _ _ _ (lv_sub hl [1, 0] rfl) hP hD hS hw
  have hL30 : ∀ (n30 : Nat) (x1 : Int64) (x3 : Int32) (x4 : Int32) (m_dg : Nat → Int32) (H : Heap) (locs : List Loc) (ls : Array Slot), lv_has ls 8 [(0, .ref mo), (1, .long x1), (3, .int x3), (4, .int x4)] → va_P D vwCl (wd_Mo cA mo mo_dr mo_now mo_first mo_has mo_da mo_dl mo_af mo_al mo_sy mo_dg mo_out mo_tx m_ds m_st m_sub m_q m_two m_least m_os m_ts m_fs m_fc m_g m_gs m_dr m_now m_first m_has m_da m_dl m_af m_al m_sy m_dg m_out m_tx) H → va_D A (wd_Mo cA mo mo_dr mo_now mo_first mo_has mo_da mo_dl mo_af mo_al mo_sy mo_dg mo_out mo_tx m_ds m_st m_sub m_q m_two m_least m_os m_ts m_fs m_fc m_g m_gs m_dr m_now m_first m_has m_da m_dl m_af m_al m_sy m_dg m_out m_tx) → va_S A s.heap H locs → wp_M_load_L30 n30 m_af m_al x1 x3 x4 m_dg Q → W p l e { frames := 1, cells := 0, slots := 0, locals := 23 } s m args below meth c H locs 0 0 (MQ below (ct_qv vwCl D [(cA, .int)] Q (fun u => wd_Mo cA mo mo_dr mo_now mo_first mo_has mo_da mo_dl mo_af mo_al mo_sy mo_dg mo_out mo_tx m_ds m_st m_sub m_q m_two m_least m_os m_ts m_fs m_fc m_g m_gs m_dr m_now m_first m_has m_da m_dl m_af m_al m_sy u m_out m_tx) A) args s 0 0 A) (F0 m 3 ls []) := by
    intro n30
    induction n30 with
    | zero => intro x1 x3 x4 m_dg H locs ls hl hP hD hS hw; exact hw.elim
    | succ n30 ih30 =>
      intro x1 x3 x4 m_dg H locs ls hl hP hD hS hw
      unfold wp_M_load_L30 at hw
      refine lv_iload hx hb d_M_load_3 (lv_at hl 3 rfl) ?_
      refine lv_sipush (v := 128) hx hb d_M_load_5 (by decide) ?_
      refine lv_icmp_ge (tgt := 25) hx hb d_M_load_8 rfl (fun hc => ?_) (fun hc => ?_)
      · have hw := hw.1 hc
        refine lv_lload_n hx hb d_M_load_25 rfl (lv_at hl 1 rfl) ?_
        refine lv_lconst (v := 0) hx hb d_M_load_26 (by decide) ?_
        refine W.lcmp hx hb d_M_load_27 ?_
        refine lv_if_le (tgt := 36) hx hb d_M_load_28 rfl (fun hc => ?_) (fun hc => ?_)
        · have hw := hw.1 ((lg_cmp_le _ _).mp hc)
          refine lv_lload_n hx hb d_M_load_36 rfl (lv_at hl 1 rfl) ?_
          exact hJ370 x3 x1 m_dg _ _ _ (lv_sub hl [0, 2] rfl) hP hD hS hw
        · have hw := hw.2 (fun h => hc ((lg_cmp_le _ _).mpr h))
          refine lv_lload_n hx hb d_M_load_31 rfl (lv_at hl 1 rfl) ?_
          refine lv_lneg hx hb d_M_load_32 ?_
          refine lv_goto (tgt := 37) hx hb d_M_load_33 rfl ?_
          exact hJ370 x3 (-x1) m_dg _ _ _ (lv_sub hl [0, 2] rfl) hP hD hS hw
      · have hw := hw.2 hc
        refine lv_aload_n hx hb d_M_load_11 rfl (lv_at hl 0 rfl) ?_
        refine va_get (ci := 9) (C := R_Mo) (T := F_Mo) (N := 24) hx hb htb in_Mo hown hK hP 0 rfl rfl 15 (by decide) (htb _ tw711) (fun _ h9 => h9) rfl d_M_load_12 ?_
        refine lv_iload hx hb d_M_load_15 (lv_at hl 3 rfl) ?_
        refine lv_iconst (v := 0) hx hb d_M_load_17 (by decide) ?_
        have hi := hw.1
        have hw := hw.2
        refine va_iast hx hb hK hP hD hS 10 0 rfl rfl hi d_M_load_18 (fun H locs hP hD hS => ?_)
        have hP : va_P D vwCl (wd_Mo cA mo mo_dr mo_now mo_first mo_has mo_da mo_dl mo_af mo_al mo_sy mo_dg mo_out mo_tx m_ds m_st m_sub m_q m_two m_least m_os m_ts m_fs m_fc m_g m_gs m_dr m_now m_first m_has m_da m_dl m_af m_al m_sy (upd m_dg x4.toNatClampNeg 0) m_out m_tx) H := hP
        have hD : va_D A (wd_Mo cA mo mo_dr mo_now mo_first mo_has mo_da mo_dl mo_af mo_al mo_sy mo_dg mo_out mo_tx m_ds m_st m_sub m_q m_two m_least m_os m_ts m_fs m_fc m_g m_gs m_dr m_now m_first m_has m_da m_dl m_af m_al m_sy (upd m_dg x4.toNatClampNeg 0) m_out m_tx) := hD
        refine lv_iinc (k := 3) (v := x4 + 1) (lv' := [(4, .int (x4 + 1)), (0, .ref mo), (1, .long x1), (3, .int x3)]) hx hb d_M_load_19 hl rfl (by rfl) (by decide) rfl (fun ls hl => ?_)
        refine lv_goto (tgt := 3) hx hb d_M_load_22 rfl ?_
        exact ih30 x1 x3 (x4 + 1) (upd m_dg x4.toNatClampNeg 0) _ _ _ (lv_sub hl [1, 2, 3, 0] rfl) hP hD hS hw
  refine lv_iconst (v := 0) hx hb d_M_load_0 (by decide) ?_
  refine lv_istore (lv' := [(4, .int 0), (0, .ref mo), (1, .long un), (3, .int sl)]) hx hb d_M_load_1 hl (by decide) rfl (fun ls hl => ?_)
  obtain ⟨n30, hw⟩ := hw
  exact hL30 n30 un sl 0 m_dg _ _ _ (lv_sub hl [1, 2, 3, 0] rfl) hP hD hS hw
/-! DecimalPatternsModel.digitAt(I)I -/
def wp_M_digitAt (m_dg : Nat → Int32) (xx : Int32) (Q : Int32 → Unit → Prop) : Prop := (xx < (-64) → (Q 0 ())) ∧ (¬ xx < (-64) → ((xx ≤ 63 → (vp_in (64 + xx) 128 ∧ (Q (m_dg (64 + xx).toNatClampNeg) ()))) ∧ (¬ xx ≤ 63 → (Q 0 ()))))
set_option maxHeartbeats 4000000 in
set_option maxRecDepth 100000 in
theorem c_M_digitAt (l : Launch) (D : va_G) (cA : ClassId) (mo mo_dr mo_now mo_first mo_has mo_da mo_dl mo_af mo_al mo_sy mo_dg mo_out mo_tx : Nat) (m_ds : Int32) (m_st : Int32) (m_sub : Int32) (m_q : Int32) (m_two : Bool) (m_least : Int32) (m_os : Int32) (m_ts : Int32) (m_fs : Int64) (m_fc : Int32) (m_g : Int64) (m_gs : Int32) (m_dr : Nat → Int32) (m_now : Nat → Int32) (m_first : Nat → Int32) (m_has : Nat → Int32) (m_da : Nat → Int32) (m_dl : Nat → Int32) (m_af : Nat → Int32) (m_al : Nat → Int32) (m_sy : Nat → Int32) (m_dg : Nat → Int32) (m_out : Nat → Int32) (m_tx : Nat → Int32) (xx : Int32) (Q : Int32 → Unit → Prop) (hw : wp_M_digitAt m_dg xx Q) : ct_M vwCl l D [(cA, .int)] y_M_digitAt w_M_digitAt { frames := 0, cells := 0, slots := 0, locals := 0 } [.ref mo, .int xx] (wd_Mo cA mo mo_dr mo_now mo_first mo_has mo_da mo_dl mo_af mo_al mo_sy mo_dg mo_out mo_tx m_ds m_st m_sub m_q m_two m_least m_os m_ts m_fs m_fc m_g m_gs m_dr m_now m_first m_has m_da m_dl m_af m_al m_sy m_dg m_out m_tx) (ct_qi vwCl D [(cA, .int)] Q (fun u => wd_Mo cA mo mo_dr mo_now mo_first mo_has mo_da mo_dl mo_af mo_al mo_sy mo_dg mo_out mo_tx m_ds m_st m_sub m_q m_two m_least m_os m_ts m_fs m_fc m_g m_gs m_dr m_now m_first m_has m_da m_dl m_af m_al m_sy m_dg m_out m_tx)) := by
  refine ct_enter (cc := b_M_digitAt) (maxL := 2) (ret := (some .int)) (by decide) rfl (Nat.le_of_ble_eq_true rfl) ?_
  intro p e s m args below meth c A ls hx hb hr hlk hml hts hown hA hS hP hK hN hD hl
  have hl : lv_has ls 2 [(0, .ref mo), (1, .int xx)] := hl
  have htb : ∀ w ∈ tbl, w.before args s = true := fun w h => hts w (List.mem_cons_of_mem _ h)
  have hown : s.vm.findClass "DecimalPatternsModel" = some m.cls := hown
  unfold wp_M_digitAt at hw
  refine lv_iload_n hx hb d_M_digitAt_0 rfl (lv_at hl 1 rfl) ?_
  refine lv_bipush (v := (-64)) hx hb d_M_digitAt_1 (by decide) ?_
  refine lv_icmp_lt (tgt := 12) hx hb d_M_digitAt_3 rfl (fun hc => ?_) (fun hc => ?_)
  · have hw := hw.1 hc
    refine lv_iconst (v := 0) hx hb d_M_digitAt_12 (by decide) ?_
    refine lv_goto (tgt := 25) hx hb d_M_digitAt_13 rfl ?_
    exact ct_iret hx hb hr hlk hK hS () hw hP hD d_M_digitAt_25
  · have hw := hw.2 hc
    refine lv_iload_n hx hb d_M_digitAt_6 rfl (lv_at hl 1 rfl) ?_
    refine lv_bipush (v := 63) hx hb d_M_digitAt_7 (by decide) ?_
    refine lv_icmp_le (tgt := 16) hx hb d_M_digitAt_9 rfl (fun hc => ?_) (fun hc => ?_)
    · have hw := hw.1 hc
      refine lv_aload_n hx hb d_M_digitAt_16 rfl (lv_at hl 0 rfl) ?_
      refine va_get (ci := 9) (C := R_Mo) (T := F_Mo) (N := 24) hx hb htb in_Mo hown hK hP 0 rfl rfl 15 (by decide) (htb _ tw711) (fun _ h9 => h9) rfl d_M_digitAt_17 ?_
      refine lv_bipush (v := 64) hx hb d_M_digitAt_20 (by decide) ?_
      refine lv_iload_n hx hb d_M_digitAt_22 rfl (lv_at hl 1 rfl) ?_
      refine lv_iadd hx hb d_M_digitAt_23 ?_
      have hi := hw.1
      have hw := hw.2
      refine va_iald hx hb hK hP 10 0 rfl rfl hi d_M_digitAt_24 ?_
      exact ct_iret hx hb hr hlk hK hS () hw hP hD d_M_digitAt_25
    · have hw := hw.2 hc
      refine lv_iconst (v := 0) hx hb d_M_digitAt_12 (by decide) ?_
      refine lv_goto (tgt := 25) hx hb d_M_digitAt_13 rfl ?_
      exact ct_iret hx hb hr hlk hK hS () hw hP hD d_M_digitAt_25
/-! DecimalPatternsModel.top()I -/
def wp_M_top_L60 : Nat → (Nat → Int32) → Int32 → Int32 → (Int32 → Unit → Prop) → Prop
  | 0, _, _, _, _ => False
  | n60 + 1, m_dg, x1, x2, Q => (64 ≤ x2 → (Q x1 ())) ∧ (¬ 64 ≤ x2 → (wp_M_digitAt m_dg x2 (fun r1 u2 => (r1 = 0 → (wp_M_top_L60 n60 m_dg x1 (x2 + 1) Q)) ∧ (¬ r1 = 0 → (wp_M_top_L60 n60 m_dg x2 (x2 + 1) Q)))))
def wp_M_top (m_dg : Nat → Int32) (Q : Int32 → Unit → Prop) : Prop := ∃ n60, wp_M_top_L60 n60 m_dg (-100) (-64) Q
set_option maxHeartbeats 4000000 in
set_option maxRecDepth 100000 in
theorem c_M_top (l : Launch) (D : va_G) (cA : ClassId) (mo mo_dr mo_now mo_first mo_has mo_da mo_dl mo_af mo_al mo_sy mo_dg mo_out mo_tx : Nat) (m_ds : Int32) (m_st : Int32) (m_sub : Int32) (m_q : Int32) (m_two : Bool) (m_least : Int32) (m_os : Int32) (m_ts : Int32) (m_fs : Int64) (m_fc : Int32) (m_g : Int64) (m_gs : Int32) (m_dr : Nat → Int32) (m_now : Nat → Int32) (m_first : Nat → Int32) (m_has : Nat → Int32) (m_da : Nat → Int32) (m_dl : Nat → Int32) (m_af : Nat → Int32) (m_al : Nat → Int32) (m_sy : Nat → Int32) (m_dg : Nat → Int32) (m_out : Nat → Int32) (m_tx : Nat → Int32) (Q : Int32 → Unit → Prop) (hw : wp_M_top m_dg Q) : ct_M vwCl l D [(cA, .int)] y_M_top w_M_top { frames := 1, cells := 0, slots := 0, locals := 21 } [.ref mo] (wd_Mo cA mo mo_dr mo_now mo_first mo_has mo_da mo_dl mo_af mo_al mo_sy mo_dg mo_out mo_tx m_ds m_st m_sub m_q m_two m_least m_os m_ts m_fs m_fc m_g m_gs m_dr m_now m_first m_has m_da m_dl m_af m_al m_sy m_dg m_out m_tx) (ct_qi vwCl D [(cA, .int)] Q (fun u => wd_Mo cA mo mo_dr mo_now mo_first mo_has mo_da mo_dl mo_af mo_al mo_sy mo_dg mo_out mo_tx m_ds m_st m_sub m_q m_two m_least m_os m_ts m_fs m_fc m_g m_gs m_dr m_now m_first m_has m_da m_dl m_af m_al m_sy m_dg m_out m_tx)) := by
  refine ct_enter (cc := b_M_top) (maxL := 3) (ret := (some .int)) (by decide) rfl (Nat.le_of_ble_eq_true rfl) ?_
  intro p e s m args below meth c A ls hx hb hr hlk hml hts hown hA hS hP hK hN hD hl
  have hl : lv_has ls 3 [(0, .ref mo)] := hl
  have htb : ∀ w ∈ tbl, w.before args s = true := fun w h => hts w (List.mem_cons_of_mem _ h)
  have hown : s.vm.findClass "DecimalPatternsModel" = some m.cls := hown
  unfold wp_M_top at hw
  have hL60 : ∀ (n60 : Nat) (x1 : Int32) (x2 : Int32) (H : Heap) (locs : List Loc) (ls : Array Slot), lv_has ls 3 [(0, .ref mo), (1, .int x1), (2, .int x2)] → va_P D vwCl (wd_Mo cA mo mo_dr mo_now mo_first mo_has mo_da mo_dl mo_af mo_al mo_sy mo_dg mo_out mo_tx m_ds m_st m_sub m_q m_two m_least m_os m_ts m_fs m_fc m_g m_gs m_dr m_now m_first m_has m_da m_dl m_af m_al m_sy m_dg m_out m_tx) H → va_D A (wd_Mo cA mo mo_dr mo_now mo_first mo_has mo_da mo_dl mo_af mo_al mo_sy mo_dg mo_out mo_tx m_ds m_st m_sub m_q m_two m_least m_os m_ts m_fs m_fc m_g m_gs m_dr m_now m_first m_has m_da m_dl m_af m_al m_sy m_dg m_out m_tx) → va_S A s.heap H locs → wp_M_top_L60 n60 m_dg x1 x2 Q → W p l e { frames := 1, cells := 0, slots := 0, locals := 21 } s m args below meth c H locs 0 0 (MQ below (ct_qi vwCl D [(cA, .int)] Q (fun u => wd_Mo cA mo mo_dr mo_now mo_first mo_has mo_da mo_dl mo_af mo_al mo_sy mo_dg mo_out mo_tx m_ds m_st m_sub m_q m_two m_least m_os m_ts m_fs m_fc m_g m_gs m_dr m_now m_first m_has m_da m_dl m_af m_al m_sy m_dg m_out m_tx) A) args s 0 0 A) (F0 m 6 ls []) := by
    intro n60
    induction n60 with
    | zero => intro x1 x2 H locs ls hl hP hD hS hw; exact hw.elim
    | succ n60 ih60 =>
      intro x1 x2 H locs ls hl hP hD hS hw
      unfold wp_M_top_L60 at hw
      refine lv_iload_n hx hb d_M_top_6 rfl (lv_at hl 2 rfl) ?_
      refine lv_bipush (v := 64) hx hb d_M_top_7 (by decide) ?_
      refine lv_icmp_ge (tgt := 32) hx hb d_M_top_9 rfl (fun hc => ?_) (fun hc => ?_)
      · have hw := hw.1 hc
        refine lv_iload_n hx hb d_M_top_32 rfl (lv_at hl 1 rfl) ?_
        exact ct_iret hx hb hr hlk hK hS () hw hP hD d_M_top_33
      · have hw := hw.2 hc
        refine lv_aload_n hx hb d_M_top_12 rfl (lv_at hl 0 rfl) ?_
        refine lv_iload_n hx hb d_M_top_13 rfl (lv_at hl 2 rfl) ?_
        refine ct_calli (wn := fun _ => wd_Mo cA mo mo_dr mo_now mo_first mo_has mo_da mo_dl mo_af mo_al mo_sy mo_dg mo_out mo_tx m_ds m_st m_sub m_q m_two m_least m_os m_ts m_fs m_fc m_g m_gs m_dr m_now m_first m_has m_da m_dl m_af m_al m_sy m_dg m_out m_tx) (va_runV (As := [.int x2]) (rest := []) ⟨hx, hb, hml, hown, htb⟩ (c_M_digitAt l D cA mo mo_dr mo_now mo_first mo_has mo_da mo_dl mo_af mo_al mo_sy mo_dg mo_out mo_tx m_ds m_st m_sub m_q m_two m_least m_os m_ts m_fs m_fc m_g m_gs m_dr m_now m_first m_has m_da m_dl m_af m_al m_sy m_dg m_out m_tx x2 _ hw _) (ct_cwV 1 htb tw867 rfl rfl tw82 tw864 tw866 tw57 hd_M_digitAt ⟨by decide, by decide⟩) (ct_preV hP hD hK hN [0, 1, 2, 3, 4, 5, 6, 7, 8, 9, 10, 11, 12] rfl (by decide) 0 rfl rfl _) rfl rfl hl.1 rfl (lv_room (Nat.le_of_ble_eq_true rfl)) d_M_top_14 ⟨Nat.zero_le _, Nat.zero_le _⟩) hP hD hS hA [0, 1, 2, 3, 4, 5, 6, 7, 8, 9, 10, 11, 12] [] [0, 1, 2, 3, 4, 5, 6, 7, 8, 9, 10, 11, 12] rfl rfl (by decide) (by decide) (fun _ => rfl) (by decide) (fun r1 u2 H locs hw hP hD hS => ?_)
        have hP : va_P D vwCl (wd_Mo cA mo mo_dr mo_now mo_first mo_has mo_da mo_dl mo_af mo_al mo_sy mo_dg mo_out mo_tx m_ds m_st m_sub m_q m_two m_least m_os m_ts m_fs m_fc m_g m_gs m_dr m_now m_first m_has m_da m_dl m_af m_al m_sy m_dg m_out m_tx) H := hP
        have hD : va_D A (wd_Mo cA mo mo_dr mo_now mo_first mo_has mo_da mo_dl mo_af mo_al mo_sy mo_dg mo_out mo_tx m_ds m_st m_sub m_q m_two m_least m_os m_ts m_fs m_fc m_g m_gs m_dr m_now m_first m_has m_da m_dl m_af m_al m_sy m_dg m_out m_tx) := hD
        refine lv_if_eq (tgt := 24) hx hb d_M_top_17 rfl (fun hc => ?_) (fun hc => ?_)
        · have hw := hw.1 hc
          refine lv_iload_n hx hb d_M_top_24 rfl (lv_at hl 1 rfl) ?_
          refine lv_istore_n (lv' := [(1, .int x1), (0, .ref mo), (2, .int x2)]) hx hb d_M_top_25 rfl hl (by decide) rfl (fun ls hl => ?_)
          refine lv_iinc (k := 2) (v := x2 + 1) (lv' := [(2, .int (x2 + 1)), (1, .int x1), (0, .ref mo)]) hx hb d_M_top_26 hl rfl (by rfl) (by decide) rfl (fun ls hl => ?_)
          refine lv_goto (tgt := 6) hx hb d_M_top_29 rfl ?_
          exact ih60 x1 (x2 + 1) _ _ _ (lv_sub hl [2, 1, 0] rfl) hP hD hS hw
        · have hw := hw.2 hc
          refine lv_iload_n hx hb d_M_top_20 rfl (lv_at hl 2 rfl) ?_
          refine lv_goto (tgt := 25) hx hb d_M_top_21 rfl ?_
          refine lv_istore_n (lv' := [(1, .int x2), (0, .ref mo), (2, .int x2)]) hx hb d_M_top_25 rfl hl (by decide) rfl (fun ls hl => ?_)
          refine lv_iinc (k := 2) (v := x2 + 1) (lv' := [(2, .int (x2 + 1)), (1, .int x2), (0, .ref mo)]) hx hb d_M_top_26 hl rfl (by rfl) (by decide) rfl (fun ls hl => ?_)
          refine lv_goto (tgt := 6) hx hb d_M_top_29 rfl ?_
          exact ih60 x2 (x2 + 1) _ _ _ (lv_sub hl [2, 1, 0] rfl) hP hD hS hw
  refine lv_bipush (v := (-100)) hx hb d_M_top_0 (by decide) ?_
  refine lv_istore_n (lv' := [(1, .int (-100)), (0, .ref mo)]) hx hb d_M_top_2 rfl hl (by decide) rfl (fun ls hl => ?_)
  refine lv_bipush (v := (-64)) hx hb d_M_top_3 (by decide) ?_
  refine lv_istore_n (lv' := [(2, .int (-64)), (1, .int (-100)), (0, .ref mo)]) hx hb d_M_top_5 rfl hl (by decide) rfl (fun ls hl => ?_)
  obtain ⟨n60, hw⟩ := hw
  exact hL60 n60 (-100) (-64) _ _ _ (lv_sub hl [2, 1, 0] rfl) hP hD hS hw
/-! DecimalPatternsModel.below(I)Z -/
def wp_M_below_L50 : Nat → (Nat → Int32) → Int32 → Bool → Int32 → (Bool → Unit → Prop) → Prop
  | 0, _, _, _, _, _ => False
  | n50 + 1, m_dg, x1, x2, x3, Q => (x1 ≤ x3 → (Q x2 ())) ∧ (¬ x1 ≤ x3 → ((x2 = true → (wp_M_below_L50 n50 m_dg x1 true (x3 + 1) Q)) ∧ (x2 = false → (wp_M_digitAt m_dg x3 (fun r1 u2 => (r1 = 0 → (wp_M_below_L50 n50 m_dg x1 false (x3 + 1) Q)) ∧ (¬ r1 = 0 → (wp_M_below_L50 n50 m_dg x1 true (x3 + 1) Q)))))))
def wp_M_below (m_dg : Nat → Int32) (xx : Int32) (Q : Bool → Unit → Prop) : Prop := ∃ n50, wp_M_below_L50 n50 m_dg xx false (-64) Q
set_option maxHeartbeats 4000000 in
set_option maxRecDepth 100000 in
theorem c_M_below (l : Launch) (D : va_G) (cA : ClassId) (mo mo_dr mo_now mo_first mo_has mo_da mo_dl mo_af mo_al mo_sy mo_dg mo_out mo_tx : Nat) (m_ds : Int32) (m_st : Int32) (m_sub : Int32) (m_q : Int32) (m_two : Bool) (m_least : Int32) (m_os : Int32) (m_ts : Int32) (m_fs : Int64) (m_fc : Int32) (m_g : Int64) (m_gs : Int32) (m_dr : Nat → Int32) (m_now : Nat → Int32) (m_first : Nat → Int32) (m_has : Nat → Int32) (m_da : Nat → Int32) (m_dl : Nat → Int32) (m_af : Nat → Int32) (m_al : Nat → Int32) (m_sy : Nat → Int32) (m_dg : Nat → Int32) (m_out : Nat → Int32) (m_tx : Nat → Int32) (xx : Int32) (Q : Bool → Unit → Prop) (hw : wp_M_below m_dg xx Q) : ct_M vwCl l D [(cA, .int)] y_M_below w_M_below { frames := 1, cells := 0, slots := 0, locals := 21 } [.ref mo, .int xx] (wd_Mo cA mo mo_dr mo_now mo_first mo_has mo_da mo_dl mo_af mo_al mo_sy mo_dg mo_out mo_tx m_ds m_st m_sub m_q m_two m_least m_os m_ts m_fs m_fc m_g m_gs m_dr m_now m_first m_has m_da m_dl m_af m_al m_sy m_dg m_out m_tx) (ct_qz vwCl D [(cA, .int)] Q (fun u => wd_Mo cA mo mo_dr mo_now mo_first mo_has mo_da mo_dl mo_af mo_al mo_sy mo_dg mo_out mo_tx m_ds m_st m_sub m_q m_two m_least m_os m_ts m_fs m_fc m_g m_gs m_dr m_now m_first m_has m_da m_dl m_af m_al m_sy m_dg m_out m_tx)) := by
  refine ct_enter (cc := b_M_below) (maxL := 4) (ret := (some .boolean)) (by decide) rfl (Nat.le_of_ble_eq_true rfl) ?_
  intro p e s m args below meth c A ls hx hb hr hlk hml hts hown hA hS hP hK hN hD hl
  have hl : lv_has ls 4 [(0, .ref mo), (1, .int xx)] := hl
  have htb : ∀ w ∈ tbl, w.before args s = true := fun w h => hts w (List.mem_cons_of_mem _ h)
  have hown : s.vm.findClass "DecimalPatternsModel" = some m.cls := hown
  unfold wp_M_below at hw
  have hL50 : ∀ (n50 : Nat) (x1 : Int32) (x2 : Bool) (x3 : Int32) (H : Heap) (locs : List Loc) (ls : Array Slot), lv_has ls 4 [(0, .ref mo), (1, .int x1), (2, .int (bI x2)), (3, .int x3)] → va_P D vwCl (wd_Mo cA mo mo_dr mo_now mo_first mo_has mo_da mo_dl mo_af mo_al mo_sy mo_dg mo_out mo_tx m_ds m_st m_sub m_q m_two m_least m_os m_ts m_fs m_fc m_g m_gs m_dr m_now m_first m_has m_da m_dl m_af m_al m_sy m_dg m_out m_tx) H → va_D A (wd_Mo cA mo mo_dr mo_now mo_first mo_has mo_da mo_dl mo_af mo_al mo_sy mo_dg mo_out mo_tx m_ds m_st m_sub m_q m_two m_least m_os m_ts m_fs m_fc m_g m_gs m_dr m_now m_first m_has m_da m_dl m_af m_al m_sy m_dg m_out m_tx) → va_S A s.heap H locs → wp_M_below_L50 n50 m_dg x1 x2 x3 Q → W p l e { frames := 1, cells := 0, slots := 0, locals := 21 } s m args below meth c H locs 0 0 (MQ below (ct_qz vwCl D [(cA, .int)] Q (fun u => wd_Mo cA mo mo_dr mo_now mo_first mo_has mo_da mo_dl mo_af mo_al mo_sy mo_dg mo_out mo_tx m_ds m_st m_sub m_q m_two m_least m_os m_ts m_fs m_fc m_g m_gs m_dr m_now m_first m_has m_da m_dl m_af m_al m_sy m_dg m_out m_tx) A) args s 0 0 A) (F0 m 5 ls []) := by
    intro n50
    induction n50 with
    | zero => intro x1 x2 x3 H locs ls hl hP hD hS hw; exact hw.elim
    | succ n50 ih50 =>
      intro x1 x2 x3 H locs ls hl hP hD hS hw
      unfold wp_M_below_L50 at hw
      refine lv_iload_n hx hb d_M_below_5 rfl (lv_at hl 3 rfl) ?_
      refine lv_iload_n hx hb d_M_below_6 rfl (lv_at hl 1 rfl) ?_
      refine lv_icmp_ge (tgt := 34) hx hb d_M_below_7 rfl (fun hc => ?_) (fun hc => ?_)
      · have hw := hw.1 hc
        refine lv_iload_n hx hb d_M_below_34 rfl (lv_at hl 2 rfl) ?_
        exact ct_zret x2 hx hb hr hlk hK hS () hw hP hD d_M_below_35
      · have hw := hw.2 hc
        refine lv_iload_n hx hb d_M_below_10 rfl (lv_at hl 2 rfl) ?_
        refine lv_if_ne (tgt := 22) hx hb d_M_below_11 rfl (fun hc => ?_) (fun hc => ?_)
        · have hw := hw.1 ((bI_n0 _).mp hc)
          refine lv_iconst (v := 1) hx hb d_M_below_22 (by decide) ?_
          refine lv_goto (tgt := 27) hx hb d_M_below_23 rfl ?_
          refine lv_istore_n (lv' := [(2, .int 1), (0, .ref mo), (1, .int x1), (3, .int x3)]) hx hb d_M_below_27 rfl hl (by decide) rfl (fun ls hl => ?_)
          refine lv_iinc (k := 3) (v := x3 + 1) (lv' := [(3, .int (x3 + 1)), (2, .int 1), (0, .ref mo), (1, .int x1)]) hx hb d_M_below_28 hl rfl (by rfl) (by decide) rfl (fun ls hl => ?_)
          refine lv_goto (tgt := 5) hx hb d_M_below_31 rfl ?_
          exact ih50 x1 true (x3 + 1) _ _ _ (lv_sub hl [2, 3, 1, 0] rfl) hP hD hS hw
        · have hw := hw.2 ((bI_0 _).mp hc)
          refine lv_aload_n hx hb d_M_below_14 rfl (lv_at hl 0 rfl) ?_
          refine lv_iload_n hx hb d_M_below_15 rfl (lv_at hl 3 rfl) ?_
          refine ct_calli (wn := fun _ => wd_Mo cA mo mo_dr mo_now mo_first mo_has mo_da mo_dl mo_af mo_al mo_sy mo_dg mo_out mo_tx m_ds m_st m_sub m_q m_two m_least m_os m_ts m_fs m_fc m_g m_gs m_dr m_now m_first m_has m_da m_dl m_af m_al m_sy m_dg m_out m_tx) (va_runV (As := [.int x3]) (rest := []) ⟨hx, hb, hml, hown, htb⟩ (c_M_digitAt l D cA mo mo_dr mo_now mo_first mo_has mo_da mo_dl mo_af mo_al mo_sy mo_dg mo_out mo_tx m_ds m_st m_sub m_q m_two m_least m_os m_ts m_fs m_fc m_g m_gs m_dr m_now m_first m_has m_da m_dl m_af m_al m_sy m_dg m_out m_tx x3 _ hw _) (ct_cwV 1 htb tw867 rfl rfl tw82 tw864 tw866 tw57 hd_M_digitAt ⟨by decide, by decide⟩) (ct_preV hP hD hK hN [0, 1, 2, 3, 4, 5, 6, 7, 8, 9, 10, 11, 12] rfl (by decide) 0 rfl rfl _) rfl rfl hl.1 rfl (lv_room (Nat.le_of_ble_eq_true rfl)) d_M_below_16 ⟨Nat.zero_le _, Nat.zero_le _⟩) hP hD hS hA [0, 1, 2, 3, 4, 5, 6, 7, 8, 9, 10, 11, 12] [] [0, 1, 2, 3, 4, 5, 6, 7, 8, 9, 10, 11, 12] rfl rfl (by decide) (by decide) (fun _ => rfl) (by decide) (fun r1 u2 H locs hw hP hD hS => ?_)
          have hP : va_P D vwCl (wd_Mo cA mo mo_dr mo_now mo_first mo_has mo_da mo_dl mo_af mo_al mo_sy mo_dg mo_out mo_tx m_ds m_st m_sub m_q m_two m_least m_os m_ts m_fs m_fc m_g m_gs m_dr m_now m_first m_has m_da m_dl m_af m_al m_sy m_dg m_out m_tx) H := hP
          have hD : va_D A (wd_Mo cA mo mo_dr mo_now mo_first mo_has mo_da mo_dl mo_af mo_al mo_sy mo_dg mo_out mo_tx m_ds m_st m_sub m_q m_two m_least m_os m_ts m_fs m_fc m_g m_gs m_dr m_now m_first m_has m_da m_dl m_af m_al m_sy m_dg m_out m_tx) := hD
          refine lv_if_eq (tgt := 26) hx hb d_M_below_19 rfl (fun hc => ?_) (fun hc => ?_)
          · have hw := hw.1 hc
            refine lv_iconst (v := 0) hx hb d_M_below_26 (by decide) ?_
            refine lv_istore_n (lv' := [(2, .int 0), (0, .ref mo), (1, .int x1), (3, .int x3)]) hx hb d_M_below_27 rfl hl (by decide) rfl (fun ls hl => ?_)
            refine lv_iinc (k := 3) (v := x3 + 1) (lv' := [(3, .int (x3 + 1)), (2, .int 0), (0, .ref mo), (1, .int x1)]) hx hb d_M_below_28 hl rfl (by rfl) (by decide) rfl (fun ls hl => ?_)
            refine lv_goto (tgt := 5) hx hb d_M_below_31 rfl ?_
            exact ih50 x1 false (x3 + 1) _ _ _ (lv_sub hl [2, 3, 1, 0] rfl) hP hD hS hw
          · have hw := hw.2 hc
            refine lv_iconst (v := 1) hx hb d_M_below_22 (by decide) ?_
            refine lv_goto (tgt := 27) hx hb d_M_below_23 rfl ?_
            refine lv_istore_n (lv' := [(2, .int 1), (0, .ref mo), (1, .int x1), (3, .int x3)]) hx hb d_M_below_27 rfl hl (by decide) rfl (fun ls hl => ?_)
            refine lv_iinc (k := 3) (v := x3 + 1) (lv' := [(3, .int (x3 + 1)), (2, .int 1), (0, .ref mo), (1, .int x1)]) hx hb d_M_below_28 hl rfl (by rfl) (by decide) rfl (fun ls hl => ?_)
            refine lv_goto (tgt := 5) hx hb d_M_below_31 rfl ?_
            exact ih50 x1 true (x3 + 1) _ _ _ (lv_sub hl [2, 3, 1, 0] rfl) hP hD hS hw
  refine lv_iconst (v := 0) hx hb d_M_below_0 (by decide) ?_
  refine lv_istore_n (lv' := [(2, .int 0), (0, .ref mo), (1, .int xx)]) hx hb d_M_below_1 rfl hl (by decide) rfl (fun ls hl => ?_)
  refine lv_bipush (v := (-64)) hx hb d_M_below_2 (by decide) ?_
  refine lv_istore_n (lv' := [(3, .int (-64)), (2, .int 0), (0, .ref mo), (1, .int xx)]) hx hb d_M_below_4 rfl hl (by decide) rfl (fun ls hl => ?_)
  obtain ⟨n50, hw⟩ := hw
  exact hL50 n50 xx false (-64) _ _ _ (lv_sub hl [2, 3, 1, 0] rfl) hP hD hS hw
/-! DecimalPatternsModel.upwards(IZI)Z -/
def wp_M_upwards (m_dg : Nat → Int32) (md : Int32) (ng : Bool) (kk : Int32) (Q : Bool → Unit → Prop) : Prop := wp_M_digitAt m_dg (kk - 1) (fun r1 u2 => wp_M_below m_dg (kk - 1) (fun r3 u4 => (4 ≤ md → ((¬ r1 = 5 → ((r1 < 5 → (Q false ())) ∧ (¬ r1 < 5 → (Q true ())))) ∧ (r1 = 5 → ((r3 = false → ((md = 4 → (Q true ())) ∧ (¬ md = 4 → ((¬ md = 6 → (Q false ())) ∧ (md = 6 → (wp_M_digitAt m_dg kk (fun r5 u6 => (¬ (r5 - r5 / 2 * 2) = 1 → (Q false ())) ∧ ((r5 - r5 / 2 * 2) = 1 → (Q true ()))))))))) ∧ (r3 = true → ((r1 < 5 → (Q false ())) ∧ (¬ r1 < 5 → (Q true ())))))))) ∧ (¬ 4 ≤ md → ((md = 0 → (Q true ())) ∧ (¬ md = 0 → ((¬ md = 2 → ((¬ md = 3 → (Q false ())) ∧ (md = 3 → ((ng = false → (Q false ())) ∧ (ng = true → (Q true ())))))) ∧ (md = 2 → ((ng = false → (Q true ())) ∧ (ng = true → ((¬ md = 3 → (Q false ())) ∧ (md = 3 → ((ng = false → (Q false ())) ∧ (ng = true → (Q true ()))))))))))))))
set_option maxHeartbeats 4000000 in
set_option maxRecDepth 100000 in
theorem c_M_upwards (l : Launch) (D : va_G) (cA : ClassId) (mo mo_dr mo_now mo_first mo_has mo_da mo_dl mo_af mo_al mo_sy mo_dg mo_out mo_tx : Nat) (m_ds : Int32) (m_st : Int32) (m_sub : Int32) (m_q : Int32) (m_two : Bool) (m_least : Int32) (m_os : Int32) (m_ts : Int32) (m_fs : Int64) (m_fc : Int32) (m_g : Int64) (m_gs : Int32) (m_dr : Nat → Int32) (m_now : Nat → Int32) (m_first : Nat → Int32) (m_has : Nat → Int32) (m_da : Nat → Int32) (m_dl : Nat → Int32) (m_af : Nat → Int32) (m_al : Nat → Int32) (m_sy : Nat → Int32) (m_dg : Nat → Int32) (m_out : Nat → Int32) (m_tx : Nat → Int32) (md : Int32) (ng : Bool) (kk : Int32) (Q : Bool → Unit → Prop) (hw : wp_M_upwards m_dg md ng kk Q) : ct_M vwCl l D [(cA, .int)] y_M_upwards w_M_upwards { frames := 2, cells := 0, slots := 0, locals := 44 } [.ref mo, .int md, .int (bI ng), .int kk] (wd_Mo cA mo mo_dr mo_now mo_first mo_has mo_da mo_dl mo_af mo_al mo_sy mo_dg mo_out mo_tx m_ds m_st m_sub m_q m_two m_least m_os m_ts m_fs m_fc m_g m_gs m_dr m_now m_first m_has m_da m_dl m_af m_al m_sy m_dg m_out m_tx) (ct_qz vwCl D [(cA, .int)] Q (fun u => wd_Mo cA mo mo_dr mo_now mo_first mo_has mo_da mo_dl mo_af mo_al mo_sy mo_dg mo_out mo_tx m_ds m_st m_sub m_q m_two m_least m_os m_ts m_fs m_fc m_g m_gs m_dr m_now m_first m_has m_da m_dl m_af m_al m_sy m_dg m_out m_tx)) := by
  refine ct_enter (cc := b_M_upwards) (maxL := 6) (ret := (some .boolean)) (by decide) rfl (Nat.le_of_ble_eq_true rfl) ?_
  intro p e s m args below meth c A ls hx hb hr hlk hml hts hown hA hS hP hK hN hD hl
  have hl : lv_has ls 6 [(0, .ref mo), (1, .int md), (2, .int (bI ng)), (3, .int kk)] := hl
  have htb : ∀ w ∈ tbl, w.before args s = true := fun w h => hts w (List.mem_cons_of_mem _ h)
  have hown : s.vm.findClass "DecimalPatternsModel" = some m.cls := hown
  unfold wp_M_upwards at hw
  refine lv_aload_n hx hb d_M_upwards_0 rfl (lv_at hl 0 rfl) ?_
  refine lv_iload_n hx hb d_M_upwards_1 rfl (lv_at hl 3 rfl) ?_
  refine lv_iconst (v := 1) hx hb d_M_upwards_2 (by decide) ?_
  refine lv_isub hx hb d_M_upwards_3 ?_
  refine ct_calli (wn := fun _ => wd_Mo cA mo mo_dr mo_now mo_first mo_has mo_da mo_dl mo_af mo_al mo_sy mo_dg mo_out mo_tx m_ds m_st m_sub m_q m_two m_least m_os m_ts m_fs m_fc m_g m_gs m_dr m_now m_first m_has m_da m_dl m_af m_al m_sy m_dg m_out m_tx) (va_runV (As := [.int (kk - 1)]) (rest := []) ⟨hx, hb, hml, hown, htb⟩ (c_M_digitAt l D cA mo mo_dr mo_now mo_first mo_has mo_da mo_dl mo_af mo_al mo_sy mo_dg mo_out mo_tx m_ds m_st m_sub m_q m_two m_least m_os m_ts m_fs m_fc m_g m_gs m_dr m_now m_first m_has m_da m_dl m_af m_al m_sy m_dg m_out m_tx (kk - 1) _ hw _) (ct_cwV 1 htb tw867 rfl rfl tw82 tw864 tw866 tw57 hd_M_digitAt ⟨by decide, by decide⟩) (ct_preV hP hD hK hN [0, 1, 2, 3, 4, 5, 6, 7, 8, 9, 10, 11, 12] rfl (by decide) 0 rfl rfl _) rfl rfl hl.1 rfl (lv_room (Nat.le_of_ble_eq_true rfl)) d_M_upwards_4 ⟨Nat.zero_le _, Nat.zero_le _⟩) hP hD hS hA [0, 1, 2, 3, 4, 5, 6, 7, 8, 9, 10, 11, 12] [] [0, 1, 2, 3, 4, 5, 6, 7, 8, 9, 10, 11, 12] rfl rfl (by decide) (by decide) (fun _ => rfl) (by decide) (fun r1 u2 H locs hw hP hD hS => ?_)
  have hP : va_P D vwCl (wd_Mo cA mo mo_dr mo_now mo_first mo_has mo_da mo_dl mo_af mo_al mo_sy mo_dg mo_out mo_tx m_ds m_st m_sub m_q m_two m_least m_os m_ts m_fs m_fc m_g m_gs m_dr m_now m_first m_has m_da m_dl m_af m_al m_sy m_dg m_out m_tx) H := hP
  have hD : va_D A (wd_Mo cA mo mo_dr mo_now mo_first mo_has mo_da mo_dl mo_af mo_al mo_sy mo_dg mo_out mo_tx m_ds m_st m_sub m_q m_two m_least m_os m_ts m_fs m_fc m_g m_gs m_dr m_now m_first m_has m_da m_dl m_af m_al m_sy m_dg m_out m_tx) := hD
  refine lv_istore (lv' := [(4, .int r1), (0, .ref mo), (1, .int md), (2, .int (bI ng)), (3, .int kk)]) hx hb d_M_upwards_7 hl (by decide) rfl (fun ls hl => ?_)
  refine lv_aload_n hx hb d_M_upwards_9 rfl (lv_at hl 1 rfl) ?_
  refine lv_iload_n hx hb d_M_upwards_10 rfl (lv_at hl 4 rfl) ?_
  refine lv_iconst (v := 1) hx hb d_M_upwards_11 (by decide) ?_
  refine lv_isub hx hb d_M_upwards_12 ?_
  refine ct_callz (wn := fun _ => wd_Mo cA mo mo_dr mo_now mo_first mo_has mo_da mo_dl mo_af mo_al mo_sy mo_dg mo_out mo_tx m_ds m_st m_sub m_q m_two m_least m_os m_ts m_fs m_fc m_g m_gs m_dr m_now m_first m_has m_da m_dl m_af m_al m_sy m_dg m_out m_tx) (va_runV (As := [.int (kk - 1)]) (rest := []) ⟨hx, hb, hml, hown, htb⟩ (c_M_below l D cA mo mo_dr mo_now mo_first mo_has mo_da mo_dl mo_af mo_al mo_sy mo_dg mo_out mo_tx m_ds m_st m_sub m_q m_two m_least m_os m_ts m_fs m_fc m_g m_gs m_dr m_now m_first m_has m_da m_dl m_af m_al m_sy m_dg m_out m_tx (kk - 1) _ hw _) (ct_cwV 1 htb tw863 rfl rfl tw82 tw860 tw862 tw56 hd_M_below ⟨by decide, by decide⟩) (ct_preV hP hD hK hN [0, 1, 2, 3, 4, 5, 6, 7, 8, 9, 10, 11, 12] rfl (by decide) 0 rfl rfl _) rfl rfl hl.1 rfl (lv_room (Nat.le_of_ble_eq_true rfl)) d_M_upwards_13 ⟨Nat.zero_le _, Nat.zero_le _⟩) hP hD hS hA [0, 1, 2, 3, 4, 5, 6, 7, 8, 9, 10, 11, 12] [] [0, 1, 2, 3, 4, 5, 6, 7, 8, 9, 10, 11, 12] rfl rfl (by decide) (by decide) (fun _ => rfl) (by decide) (fun r3 u4 H locs hw hP hD hS => ?_)
  have hP : va_P D vwCl (wd_Mo cA mo mo_dr mo_now mo_first mo_has mo_da mo_dl mo_af mo_al mo_sy mo_dg mo_out mo_tx m_ds m_st m_sub m_q m_two m_least m_os m_ts m_fs m_fc m_g m_gs m_dr m_now m_first m_has m_da m_dl m_af m_al m_sy m_dg m_out m_tx) H := hP
  have hD : va_D A (wd_Mo cA mo mo_dr mo_now mo_first mo_has mo_da mo_dl mo_af mo_al mo_sy mo_dg mo_out mo_tx m_ds m_st m_sub m_q m_two m_least m_os m_ts m_fs m_fc m_g m_gs m_dr m_now m_first m_has m_da m_dl m_af m_al m_sy m_dg m_out m_tx) := hD
  refine lv_istore (lv' := [(5, .int (bI r3)), (4, .int r1), (0, .ref mo), (1, .int md), (2, .int (bI ng)), (3, .int kk)]) hx hb d_M_upwards_16 hl (by decide) rfl (fun ls hl => ?_)
  refine lv_iload_n hx hb d_M_upwards_18 rfl (lv_at hl 3 rfl) ?_
  refine lv_iconst (v := 4) hx hb d_M_upwards_19 (by decide) ?_
  refine lv_icmp_ge (tgt := 51) hx hb d_M_upwards_20 rfl (fun hc => ?_) (fun hc => ?_)
  · have hw := hw.1 hc
    refine lv_iload hx hb d_M_upwards_51 (lv_at hl 1 rfl) ?_
    refine lv_iconst (v := 5) hx hb d_M_upwards_53 (by decide) ?_
    refine lv_icmp_ne (tgt := 62) hx hb d_M_upwards_54 rfl (fun hc => ?_) (fun hc => ?_)
    · have hw := hw.1 hc
      refine lv_iload hx hb d_M_upwards_62 (lv_at hl 1 rfl) ?_
      refine lv_iconst (v := 5) hx hb d_M_upwards_64 (by decide) ?_
      refine lv_icmp_lt (tgt := 72) hx hb d_M_upwards_65 rfl (fun hc => ?_) (fun hc => ?_)
      · have hw := hw.1 hc
        refine lv_iconst (v := 0) hx hb d_M_upwards_72 (by decide) ?_
        exact ct_zret false hx hb hr hlk hK hS () hw hP hD d_M_upwards_73
      · have hw := hw.2 hc
        refine lv_iconst (v := 1) hx hb d_M_upwards_68 (by decide) ?_
        refine lv_goto (tgt := 73) hx hb d_M_upwards_69 rfl ?_
        exact ct_zret true hx hb hr hlk hK hS () hw hP hD d_M_upwards_73
    · have hw := hw.2 hc
      refine lv_iload hx hb d_M_upwards_57 (lv_at hl 0 rfl) ?_
      refine lv_if_eq (tgt := 74) hx hb d_M_upwards_59 rfl (fun hc => ?_) (fun hc => ?_)
      · have hw := hw.1 ((bI_0 _).mp hc)
        refine lv_iload_n hx hb d_M_upwards_74 rfl (lv_at hl 3 rfl) ?_
        refine lv_iconst (v := 4) hx hb d_M_upwards_75 (by decide) ?_
        refine lv_icmp_eq (tgt := 96) hx hb d_M_upwards_76 rfl (fun hc => ?_) (fun hc => ?_)
        · have hw := hw.1 hc
          refine lv_iconst (v := 1) hx hb d_M_upwards_96 (by decide) ?_
          refine lv_goto (tgt := 101) hx hb d_M_upwards_97 rfl ?_
          exact ct_zret true hx hb hr hlk hK hS () hw hP hD d_M_upwards_101
        · have hw := hw.2 hc
          refine lv_iload_n hx hb d_M_upwards_79 rfl (lv_at hl 3 rfl) ?_
          refine lv_bipush (v := 6) hx hb d_M_upwards_80 (by decide) ?_
          refine lv_icmp_ne (tgt := 100) hx hb d_M_upwards_82 rfl (fun hc => ?_) (fun hc => ?_)
          · have hw := hw.1 hc
            refine lv_iconst (v := 0) hx hb d_M_upwards_100 (by decide) ?_
            exact ct_zret false hx hb hr hlk hK hS () hw hP hD d_M_upwards_101
          · have hw := hw.2 hc
            refine lv_aload_n hx hb d_M_upwards_85 rfl (lv_at hl 2 rfl) ?_
            refine lv_iload_n hx hb d_M_upwards_86 rfl (lv_at hl 5 rfl) ?_
            refine ct_calli (wn := fun _ => wd_Mo cA mo mo_dr mo_now mo_first mo_has mo_da mo_dl mo_af mo_al mo_sy mo_dg mo_out mo_tx m_ds m_st m_sub m_q m_two m_least m_os m_ts m_fs m_fc m_g m_gs m_dr m_now m_first m_has m_da m_dl m_af m_al m_sy m_dg m_out m_tx) (va_runV (As := [.int kk]) (rest := []) ⟨hx, hb, hml, hown, htb⟩ (c_M_digitAt l D cA mo mo_dr mo_now mo_first mo_has mo_da mo_dl mo_af mo_al mo_sy mo_dg mo_out mo_tx m_ds m_st m_sub m_q m_two m_least m_os m_ts m_fs m_fc m_g m_gs m_dr m_now m_first m_has m_da m_dl m_af m_al m_sy m_dg m_out m_tx kk _ hw _) (ct_cwV 1 htb tw867 rfl rfl tw82 tw864 tw866 tw57 hd_M_digitAt ⟨by decide, by decide⟩) (ct_preV hP hD hK hN [0, 1, 2, 3, 4, 5, 6, 7, 8, 9, 10, 11, 12] rfl (by decide) 0 rfl rfl _) rfl rfl hl.1 rfl (lv_room (Nat.le_of_ble_eq_true rfl)) d_M_upwards_87 ⟨Nat.zero_le _, Nat.zero_le _⟩) hP hD hS hA [0, 1, 2, 3, 4, 5, 6, 7, 8, 9, 10, 11, 12] [] [0, 1, 2, 3, 4, 5, 6, 7, 8, 9, 10, 11, 12] rfl rfl (by decide) (by decide) (fun _ => rfl) (by decide) (fun r5 u6 H locs hw hP hD hS => ?_)
            have hP : va_P D vwCl (wd_Mo cA mo mo_dr mo_now mo_first mo_has mo_da mo_dl mo_af mo_al mo_sy mo_dg mo_out mo_tx m_ds m_st m_sub m_q m_two m_least m_os m_ts m_fs m_fc m_g m_gs m_dr m_now m_first m_has m_da m_dl m_af m_al m_sy m_dg m_out m_tx) H := hP
            have hD : va_D A (wd_Mo cA mo mo_dr mo_now mo_first mo_has mo_da mo_dl mo_af mo_al mo_sy mo_dg mo_out mo_tx m_ds m_st m_sub m_q m_two m_least m_os m_ts m_fs m_fc m_g m_gs m_dr m_now m_first m_has m_da m_dl m_af m_al m_sy m_dg m_out m_tx) := hD
            refine lv_iconst (v := 2) hx hb d_M_upwards_90 (by decide) ?_
            refine lv_irem hx hb d_M_upwards_91 (by decide) ?_
            refine lv_iconst (v := 1) hx hb d_M_upwards_92 (by decide) ?_
            refine lv_icmp_ne (tgt := 100) hx hb d_M_upwards_93 rfl (fun hc => ?_) (fun hc => ?_)
            · have hw := hw.1 hc
              refine lv_iconst (v := 0) hx hb d_M_upwards_100 (by decide) ?_
              exact ct_zret false hx hb hr hlk hK hS () hw hP hD d_M_upwards_101
            · have hw := hw.2 hc
              refine lv_iconst (v := 1) hx hb d_M_upwards_96 (by decide) ?_
              refine lv_goto (tgt := 101) hx hb d_M_upwards_97 rfl ?_
              exact ct_zret true hx hb hr hlk hK hS () hw hP hD d_M_upwards_101
      · have hw := hw.2 ((bI_n0 _).mp hc)
        refine lv_iload hx hb d_M_upwards_62 (lv_at hl 1 rfl) ?_
        refine lv_iconst (v := 5) hx hb d_M_upwards_64 (by decide) ?_
        refine lv_icmp_lt (tgt := 72) hx hb d_M_upwards_65 rfl (fun hc => ?_) (fun hc => ?_)
        · have hw := hw.1 hc
          refine lv_iconst (v := 0) hx hb d_M_upwards_72 (by decide) ?_
          exact ct_zret false hx hb hr hlk hK hS () hw hP hD d_M_upwards_73
        · have hw := hw.2 hc
          refine lv_iconst (v := 1) hx hb d_M_upwards_68 (by decide) ?_
          refine lv_goto (tgt := 73) hx hb d_M_upwards_69 rfl ?_
          exact ct_zret true hx hb hr hlk hK hS () hw hP hD d_M_upwards_73
  · have hw := hw.2 hc
    refine lv_iload_n hx hb d_M_upwards_23 rfl (lv_at hl 3 rfl) ?_
    refine lv_if_eq (tgt := 45) hx hb d_M_upwards_24 rfl (fun hc => ?_) (fun hc => ?_)
    · have hw := hw.1 hc
      refine lv_iconst (v := 1) hx hb d_M_upwards_45 (by decide) ?_
      refine lv_goto (tgt := 50) hx hb d_M_upwards_46 rfl ?_
      exact ct_zret true hx hb hr hlk hK hS () hw hP hD d_M_upwards_50
    · have hw := hw.2 hc
      refine lv_iload_n hx hb d_M_upwards_27 rfl (lv_at hl 3 rfl) ?_
      refine lv_iconst (v := 2) hx hb d_M_upwards_28 (by decide) ?_
      refine lv_icmp_ne (tgt := 36) hx hb d_M_upwards_29 rfl (fun hc => ?_) (fun hc => ?_)
      · have hw := hw.1 hc
        refine lv_iload_n hx hb d_M_upwards_36 rfl (lv_at hl 3 rfl) ?_
        refine lv_iconst (v := 3) hx hb d_M_upwards_37 (by decide) ?_
        refine lv_icmp_ne (tgt := 49) hx hb d_M_upwards_38 rfl (fun hc => ?_) (fun hc => ?_)
        · have hw := hw.1 hc
          refine lv_iconst (v := 0) hx hb d_M_upwards_49 (by decide) ?_
          exact ct_zret false hx hb hr hlk hK hS () hw hP hD d_M_upwards_50
        · have hw := hw.2 hc
          refine lv_iload_n hx hb d_M_upwards_41 rfl (lv_at hl 4 rfl) ?_
          refine lv_if_eq (tgt := 49) hx hb d_M_upwards_42 rfl (fun hc => ?_) (fun hc => ?_)
          · have hw := hw.1 ((bI_0 _).mp hc)
            refine lv_iconst (v := 0) hx hb d_M_upwards_49 (by decide) ?_
            exact ct_zret false hx hb hr hlk hK hS () hw hP hD d_M_upwards_50
          · have hw := hw.2 ((bI_n0 _).mp hc)
            refine lv_iconst (v := 1) hx hb d_M_upwards_45 (by decide) ?_
            refine lv_goto (tgt := 50) hx hb d_M_upwards_46 rfl ?_
            exact ct_zret true hx hb hr hlk hK hS () hw hP hD d_M_upwards_50
      · have hw := hw.2 hc
        refine lv_iload_n hx hb d_M_upwards_32 rfl (lv_at hl 4 rfl) ?_
        refine lv_if_eq (tgt := 45) hx hb d_M_upwards_33 rfl (fun hc => ?_) (fun hc => ?_)
        · have hw := hw.1 ((bI_0 _).mp hc)
          refine lv_iconst (v := 1) hx hb d_M_upwards_45 (by decide) ?_
          refine lv_goto (tgt := 50) hx hb d_M_upwards_46 rfl ?_
          exact ct_zret true hx hb hr hlk hK hS () hw hP hD d_M_upwards_50
        · have hw := hw.2 ((bI_n0 _).mp hc)
          refine lv_iload_n hx hb d_M_upwards_36 rfl (lv_at hl 3 rfl) ?_
          refine lv_iconst (v := 3) hx hb d_M_upwards_37 (by decide) ?_
          refine lv_icmp_ne (tgt := 49) hx hb d_M_upwards_38 rfl (fun hc => ?_) (fun hc => ?_)
          · have hw := hw.1 hc
            refine lv_iconst (v := 0) hx hb d_M_upwards_49 (by decide) ?_
            exact ct_zret false hx hb hr hlk hK hS () hw hP hD d_M_upwards_50
          · have hw := hw.2 hc
            refine lv_iload_n hx hb d_M_upwards_41 rfl (lv_at hl 4 rfl) ?_
            refine lv_if_eq (tgt := 49) hx hb d_M_upwards_42 rfl (fun hc => ?_) (fun hc => ?_)
            · have hw := hw.1 ((bI_0 _).mp hc)
              refine lv_iconst (v := 0) hx hb d_M_upwards_49 (by decide) ?_
              exact ct_zret false hx hb hr hlk hK hS () hw hP hD d_M_upwards_50
            · have hw := hw.2 ((bI_n0 _).mp hc)
              refine lv_iconst (v := 1) hx hb d_M_upwards_45 (by decide) ?_
              refine lv_goto (tgt := 50) hx hb d_M_upwards_46 rfl ?_
              exact ct_zret true hx hb hr hlk hK hS () hw hP hD d_M_upwards_50
/-! DecimalPatternsModel.round(IZI)Z -/
def wp_M_round_J890 (x5 : Int32) (y0 : Bool) (m_dg : Nat → Int32) (K570 : Bool → Int32 → (Nat → Int32) → Prop) (Q : Bool → (Nat → Int32) → Prop) : Prop := (y0 = false → (vp_in (64 + x5) 128 ∧ (vp_in (64 + x5) 128 ∧ (K570 y0 (x5 + 1) (upd m_dg (64 + x5).toNatClampNeg ((m_dg (64 + x5).toNatClampNeg) + 1)))))) ∧ (y0 = true → (vp_in (64 + x5) 128 ∧ (K570 y0 (x5 + 1) (upd m_dg (64 + x5).toNatClampNeg 0))))
def wp_M_round_L570 : Nat → Bool → Int32 → (Nat → Int32) → (Bool → (Nat → Int32) → Prop) → Prop
  | 0, _, _, _, _ => False
  | n570 + 1, x4, x5, m_dg, Q => (x4 = false → (Q true m_dg)) ∧ (x4 = true → ((60 ≤ x5 → (Q true m_dg)) ∧ (¬ 60 ≤ x5 → (vp_in (64 + x5) 128 ∧ ((¬ (m_dg (64 + x5).toNatClampNeg) = 9 → (wp_M_round_J890 x5 false m_dg (fun x4 x5 m_dg => wp_M_round_L570 n570 x4 x5 m_dg Q) Q)) ∧ ((m_dg (64 + x5).toNatClampNeg) = 9 → (wp_M_round_J890 x5 true m_dg (fun x4 x5 m_dg => wp_M_round_L570 n570 x4 x5 m_dg Q) Q)))))))
def wp_M_round_L310 : Nat → Int32 → Bool → Int32 → (Nat → Int32) → (Bool → (Nat → Int32) → Prop) → Prop
  | 0, _, _, _, _, _ => False
  | n310 + 1, x3, x4, x5, m_dg, Q => (x3 ≤ x5 → (∃ n570, wp_M_round_L570 n570 x4 x3 m_dg Q)) ∧ (¬ x3 ≤ x5 → (vp_in (64 + x5) 128 ∧ (wp_M_round_L310 n310 x3 x4 (x5 + 1) (upd m_dg (64 + x5).toNatClampNeg 0) Q)))
def wp_M_round (m_dg : Nat → Int32) (md : Int32) (ng : Bool) (kk : Int32) (Q : Bool → (Nat → Int32) → Prop) : Prop := wp_M_below m_dg kk (fun r1 u2 => (r1 = true → ((¬ md = 7 → (wp_M_upwards m_dg md ng kk (fun r3 u4 => ∃ n310, wp_M_round_L310 n310 kk r3 (-64) m_dg Q))) ∧ (md = 7 → (Q false m_dg)))) ∧ (r1 = false → (Q true m_dg)))
set_option maxHeartbeats 4000000 in
set_option maxRecDepth 100000 in
theorem c_M_round (l : Launch) (D : va_G) (cA : ClassId) (mo mo_dr mo_now mo_first mo_has mo_da mo_dl mo_af mo_al mo_sy mo_dg mo_out mo_tx : Nat) (m_ds : Int32) (m_st : Int32) (m_sub : Int32) (m_q : Int32) (m_two : Bool) (m_least : Int32) (m_os : Int32) (m_ts : Int32) (m_fs : Int64) (m_fc : Int32) (m_g : Int64) (m_gs : Int32) (m_dr : Nat → Int32) (m_now : Nat → Int32) (m_first : Nat → Int32) (m_has : Nat → Int32) (m_da : Nat → Int32) (m_dl : Nat → Int32) (m_af : Nat → Int32) (m_al : Nat → Int32) (m_sy : Nat → Int32) (m_dg : Nat → Int32) (m_out : Nat → Int32) (m_tx : Nat → Int32) (md : Int32) (ng : Bool) (kk : Int32) (Q : Bool → (Nat → Int32) → Prop) (hw : wp_M_round m_dg md ng kk Q) : ct_M vwCl l D [(cA, .int)] y_M_round w_M_round { frames := 3, cells := 0, slots := 0, locals := 69 } [.ref mo, .int md, .int (bI ng), .int kk] (wd_Mo cA mo mo_dr mo_now mo_first mo_has mo_da mo_dl mo_af mo_al mo_sy mo_dg mo_out mo_tx m_ds m_st m_sub m_q m_two m_least m_os m_ts m_fs m_fc m_g m_gs m_dr m_now m_first m_has m_da m_dl m_af m_al m_sy m_dg m_out m_tx) (ct_qz vwCl D [(cA, .int)] Q (fun u => wd_Mo cA mo mo_dr mo_now mo_first mo_has mo_da mo_dl mo_af mo_al mo_sy mo_dg mo_out mo_tx m_ds m_st m_sub m_q m_two m_least m_os m_ts m_fs m_fc m_g m_gs m_dr m_now m_first m_has m_da m_dl m_af m_al m_sy u m_out m_tx)) := by
  refine ct_enter (cc := b_M_round) (maxL := 6) (ret := (some .boolean)) (by decide) rfl (Nat.le_of_ble_eq_true rfl) ?_
  intro p e s m args below meth c A ls hx hb hr hlk hml hts hown hA hS hP hK hN hD hl
  have hl : lv_has ls 6 [(0, .ref mo), (1, .int md), (2, .int (bI ng)), (3, .int kk)] := hl
  have htb : ∀ w ∈ tbl, w.before args s = true := fun w h => hts w (List.mem_cons_of_mem _ h)
  have hown : s.vm.findClass "DecimalPatternsModel" = some m.cls := hown
  unfold wp_M_round at hw
  have hL570 : ∀ (n570 : Nat) (x4 : Bool) (x5 : Int32) (m_dg : Nat → Int32) (H : Heap) (locs : List Loc) (ls : Array Slot), lv_has ls 6 [(0, .ref mo), (4, .int (bI x4)), (5, .int x5)] → va_P D vwCl (wd_Mo cA mo mo_dr mo_now mo_first mo_has mo_da mo_dl mo_af mo_al mo_sy mo_dg mo_out mo_tx m_ds m_st m_sub m_q m_two m_least m_os m_ts m_fs m_fc m_g m_gs m_dr m_now m_first m_has m_da m_dl m_af m_al m_sy m_dg m_out m_tx) H → va_D A (wd_Mo cA mo mo_dr mo_now mo_first mo_has mo_da mo_dl mo_af mo_al mo_sy mo_dg mo_out mo_tx m_ds m_st m_sub m_q m_two m_least m_os m_ts m_fs m_fc m_g m_gs m_dr m_now m_first m_has m_da m_dl m_af m_al m_sy m_dg m_out m_tx) → va_S A s.heap H locs → wp_M_round_L570 n570 x4 x5 m_dg Q → W p l e { frames := 3, cells := 0, slots := 0, locals := 69 } s m args below meth c H locs 0 0 (MQ below (ct_qz vwCl D [(cA, .int)] Q (fun u => wd_Mo cA mo mo_dr mo_now mo_first mo_has mo_da mo_dl mo_af mo_al mo_sy mo_dg mo_out mo_tx m_ds m_st m_sub m_q m_two m_least m_os m_ts m_fs m_fc m_g m_gs m_dr m_now m_first m_has m_da m_dl m_af m_al m_sy u m_out m_tx) A) args s 0 0 A) (F0 m 57 ls []) := by
    intro n570
    induction n570 with
    | zero => intro x4 x5 m_dg H locs ls hl hP hD hS hw; exact hw.elim
    | succ n570 ih570 =>
      have hJ890 : ∀ (x5 : Int32) (y0 : Bool) (m_dg : Nat → Int32) (H : Heap) (locs : List Loc) (ls : Array Slot), lv_has ls 6 [(0, .ref mo), (5, .int x5)] → va_P D vwCl (wd_Mo cA mo mo_dr mo_now mo_first mo_has mo_da mo_dl mo_af mo_al mo_sy mo_dg mo_out mo_tx m_ds m_st m_sub m_q m_two m_least m_os m_ts m_fs m_fc m_g m_gs m_dr m_now m_first m_has m_da m_dl m_af m_al m_sy m_dg m_out m_tx) H → va_D A (wd_Mo cA mo mo_dr mo_now mo_first mo_has mo_da mo_dl mo_af mo_al mo_sy mo_dg mo_out mo_tx m_ds m_st m_sub m_q m_two m_least m_os m_ts m_fs m_fc m_g m_gs m_dr m_now m_first m_has m_da m_dl m_af m_al m_sy m_dg m_out m_tx) → va_S A s.heap H locs → wp_M_round_J890 x5 y0 m_dg (fun x4 x5 m_dg => wp_M_round_L570 n570 x4 x5 m_dg Q) Q → W p l e { frames := 3, cells := 0, slots := 0, locals := 69 } s m args below meth c H locs 0 0 (MQ below (ct_qz vwCl D [(cA, .int)] Q (fun u => wd_Mo cA mo mo_dr mo_now mo_first mo_has mo_da mo_dl mo_af mo_al mo_sy mo_dg mo_out mo_tx m_ds m_st m_sub m_q m_two m_least m_os m_ts m_fs m_fc m_g m_gs m_dr m_now m_first m_has m_da m_dl m_af m_al m_sy u m_out m_tx) A) args s 0 0 A) (F0 m 89 ls [.int (bI y0)]) := by
        intro x5 y0 m_dg H locs ls hl hP hD hS hw
        unfold wp_M_round_J890 at hw
        refine lv_istore (lv' := [(4, .int (bI y0)), (0, .ref mo), (5, .int x5)]) hx hb d_M_round_89 hl (by decide) rfl (fun ls hl => ?_)
        refine lv_aload_n hx hb d_M_round_91 rfl (lv_at hl 1 rfl) ?_
        refine va_get (ci := 9) (C := R_Mo) (T := F_Mo) (N := 24) hx hb htb in_Mo hown hK hP 0 rfl rfl 15 (by decide) (htb _ tw711) (fun _ h9 => h9) rfl d_M_round_92 ?_
        refine lv_bipush (v := 64) hx hb d_M_round_95 (by decide) ?_
        refine lv_iload hx hb d_M_round_97 (lv_at hl 2 rfl) ?_
        refine lv_iadd hx hb d_M_round_99 ?_
        refine lv_iload hx hb d_M_round_100 (lv_at hl 0 rfl) ?_
        refine lv_if_eq (tgt := 109) hx hb d_M_round_102 rfl (fun hc => ?_) (fun hc => ?_)
        · have hw := hw.1 ((bI_0 _).mp hc)
          refine lv_aload_n hx hb d_M_round_109 rfl (lv_at hl 1 rfl) ?_
          refine va_get (ci := 9) (C := R_Mo) (T := F_Mo) (N := 24) hx hb htb in_Mo hown hK hP 0 rfl rfl 15 (by decide) (htb _ tw711) (fun _ h9 => h9) rfl d_M_round_110 ?_
          refine lv_bipush (v := 64) hx hb d_M_round_113 (by decide) ?_
          refine lv_iload hx hb d_M_round_115 (lv_at hl 2 rfl) ?_
          refine lv_iadd hx hb d_M_round_117 ?_
          have hi := hw.1
          have hw := hw.2
          refine va_iald hx hb hK hP 10 0 rfl rfl hi d_M_round_118 ?_
          refine lv_iconst (v := 1) hx hb d_M_round_119 (by decide) ?_
          refine lv_iadd hx hb d_M_round_120 ?_
          have hi := hw.1
          have hw := hw.2
          refine va_iast hx hb hK hP hD hS 10 0 rfl rfl hi d_M_round_121 (fun H locs hP hD hS => ?_)
          have hP : va_P D vwCl (wd_Mo cA mo mo_dr mo_now mo_first mo_has mo_da mo_dl mo_af mo_al mo_sy mo_dg mo_out mo_tx m_ds m_st m_sub m_q m_two m_least m_os m_ts m_fs m_fc m_g m_gs m_dr m_now m_first m_has m_da m_dl m_af m_al m_sy (upd m_dg (64 + x5).toNatClampNeg ((m_dg (64 + x5).toNatClampNeg) + 1)) m_out m_tx) H := hP
          have hD : va_D A (wd_Mo cA mo mo_dr mo_now mo_first mo_has mo_da mo_dl mo_af mo_al mo_sy mo_dg mo_out mo_tx m_ds m_st m_sub m_q m_two m_least m_os m_ts m_fs m_fc m_g m_gs m_dr m_now m_first m_has m_da m_dl m_af m_al m_sy (upd m_dg (64 + x5).toNatClampNeg ((m_dg (64 + x5).toNatClampNeg) + 1)) m_out m_tx) := hD
          refine lv_iinc (k := 2) (v := x5 + 1) (lv' := [(5, .int (x5 + 1)), (4, .int (bI y0)), (0, .ref mo)]) hx hb d_M_round_122 hl rfl (by rfl) (by decide) rfl (fun ls hl => ?_)
          refine lv_goto (tgt := 57) hx hb d_M_round_125 rfl ?_
          exact ih570 y0 (x5 + 1) (upd m_dg (64 + x5).toNatClampNeg ((m_dg (64 + x5).toNatClampNeg) + 1)) _ _ _ (lv_sub hl [2, 1, 0] rfl) hP hD hS hw
        · have hw := hw.2 ((bI_n0 _).mp hc)
          refine lv_iconst (v := 0) hx hb d_M_round_105 (by decide) ?_
          refine lv_goto (tgt := 121) hx hb d_M_round_106 rfl ?_
          have hi := hw.1
          have hw := hw.2
          refine va_iast hx hb hK hP hD hS 10 0 rfl rfl hi d_M_round_121 (fun H locs hP hD hS => ?_)
          have hP : va_P D vwCl (wd_Mo cA mo mo_dr mo_now mo_first mo_has mo_da mo_dl mo_af mo_al mo_sy mo_dg mo_out mo_tx m_ds m_st m_sub m_q m_two m_least m_os m_ts m_fs m_fc m_g m_gs m_dr m_now m_first m_has m_da m_dl m_af m_al m_sy (upd m_dg (64 + x5).toNatClampNeg 0) m_out m_tx) H := hP
          have hD : va_D A (wd_Mo cA mo mo_dr mo_now mo_first mo_has mo_da mo_dl mo_af mo_al mo_sy mo_dg mo_out mo_tx m_ds m_st m_sub m_q m_two m_least m_os m_ts m_fs m_fc m_g m_gs m_dr m_now m_first m_has m_da m_dl m_af m_al m_sy (upd m_dg (64 + x5).toNatClampNeg 0) m_out m_tx) := hD
          refine lv_iinc (k := 2) (v := x5 + 1) (lv' := [(5, .int (x5 + 1)), (4, .int (bI y0)), (0, .ref mo)]) hx hb d_M_round_122 hl rfl (by rfl) (by decide) rfl (fun ls hl => ?_)
          refine lv_goto (tgt := 57) hx hb d_M_round_125 rfl ?_
          exact ih570 y0 (x5 + 1) (upd m_dg (64 + x5).toNatClampNeg 0) _ _ _ (lv_sub hl [2, 1, 0] rfl) hP hD hS hw
      intro x4 x5 m_dg H locs ls hl hP hD hS hw
      unfold wp_M_round_L570 at hw
      refine lv_iload hx hb d_M_round_57 (lv_at hl 1 rfl) ?_
      refine lv_if_eq (tgt := 128) hx hb d_M_round_59 rfl (fun hc => ?_) (fun hc => ?_)
      · have hw := hw.1 ((bI_0 _).mp hc)
        refine lv_iconst (v := 1) hx hb d_M_round_128 (by decide) ?_
        exact ct_zret true hx hb hr hlk hK hS m_dg hw hP hD d_M_round_129
      · have hw := hw.2 ((bI_n0 _).mp hc)
        refine lv_iload hx hb d_M_round_62 (lv_at hl 2 rfl) ?_
        refine lv_bipush (v := 60) hx hb d_M_round_64 (by decide) ?_
        refine lv_icmp_ge (tgt := 128) hx hb d_M_round_66 rfl (fun hc => ?_) (fun hc => ?_)
        · have hw := hw.1 hc
          refine lv_iconst (v := 1) hx hb d_M_round_128 (by decide) ?_
          exact ct_zret true hx hb hr hlk hK hS m_dg hw hP hD d_M_round_129
        · have hw := hw.2 hc
          refine lv_aload_n hx hb d_M_round_69 rfl (lv_at hl 0 rfl) ?_
          refine va_get (ci := 9) (C := R_Mo) (T := F_Mo) (N := 24) hx hb htb in_Mo hown hK hP 0 rfl rfl 15 (by decide) (htb _ tw711) (fun _ h9 => h9) rfl d_M_round_70 ?_
          refine lv_bipush (v := 64) hx hb d_M_round_73 (by decide) ?_
          refine lv_iload hx hb d_M_round_75 (lv_at hl 2 rfl) ?_
          refine lv_iadd hx hb d_M_round_77 ?_
          have hi := hw.1
          have hw := hw.2
          refine va_iald hx hb hK hP 10 0 rfl rfl hi d_M_round_78 ?_
          refine lv_bipush (v := 9) hx hb d_M_round_79 (by decide) ?_
          refine lv_icmp_ne (tgt := 88) hx hb d_M_round_81 rfl (fun hc => ?_) (fun hc => ?_)
          · have hw := hw.1 hc
            refine lv_iconst (v := 0) hx hb d_M_round_88 (by decide) ?_
            exact hJ890 x5 false m_dg _ _ _ (lv_sub hl [0, 2] rfl) hP hD hS hw
          · have hw := hw.2 hc
            refine lv_iconst (v := 1) hx hb d_M_round_84 (by decide) ?_
            refine lv_goto (tgt := 89) hx hb d_M_round_85 rfl ?_
            exact hJ890 x5 true m_dg _ _ _ (lv_sub hl [0, 2] rfl) hP hD hS hw
  have hL310 : ∀ (n310 : Nat) (x3 : Int32) (x4 : Bool) (x5 : Int32) (m_dg : Nat → Int32) (H : Heap) (locs : List Loc) (ls : Array Slot), lv_has ls 6 [(0, .ref mo), (3, .int x3), (4, .int (bI x4)), (5, .int x5)] → va_P D vwCl (wd_Mo cA mo mo_dr mo_now mo_first mo_has mo_da mo_dl mo_af mo_al mo_sy mo_dg mo_out mo_tx m_ds m_st m_sub m_q m_two m_least m_os m_ts m_fs m_fc m_g m_gs m_dr m_now m_first m_has m_da m_dl m_af m_al m_sy m_dg m_out m_tx) H → va_D A (wd_Mo cA mo mo_dr mo_now mo_first mo_has mo_da mo_dl mo_af mo_al mo_sy mo_dg mo_out mo_tx m_ds m_st m_sub m_q m_two m_least m_os m_ts m_fs m_fc m_g m_gs m_dr m_now m_first m_has m_da m_dl m_af m_al m_sy m_dg m_out m_tx) → va_S A s.heap H locs → wp_M_round_L310 n310 x3 x4 x5 m_dg Q → W p l e { frames := 3, cells := 0, slots := 0, locals := 69 } s m args below meth c H locs 0 0 (MQ below (ct_qz vwCl D [(cA, .int)] Q (fun u => wd_Mo cA mo mo_dr mo_now mo_first mo_has mo_da mo_dl mo_af mo_al mo_sy mo_dg mo_out mo_tx m_ds m_st m_sub m_q m_two m_least m_os m_ts m_fs m_fc m_g m_gs m_dr m_now m_first m_has m_da m_dl m_af m_al m_sy u m_out m_tx) A) args s 0 0 A) (F0 m 31 ls []) := by
    intro n310
    induction n310 with
    | zero => intro x3 x4 x5 m_dg H locs ls hl hP hD hS hw; exact hw.elim
    | succ n310 ih310 =>
      intro x3 x4 x5 m_dg H locs ls hl hP hD hS hw
      unfold wp_M_round_L310 at hw
      refine lv_iload hx hb d_M_round_31 (lv_at hl 3 rfl) ?_
      refine lv_iload_n hx hb d_M_round_33 rfl (lv_at hl 1 rfl) ?_
      refine lv_icmp_ge (tgt := 54) hx hb d_M_round_34 rfl (fun hc => ?_) (fun hc => ?_)
      · have hw := hw.1 hc
        refine lv_iload_n hx hb d_M_round_54 rfl (lv_at hl 1 rfl) ?_
        refine lv_istore (lv' := [(5, .int x3), (0, .ref mo), (3, .int x3), (4, .int (bI x4))]) hx hb d_M_round_55 hl (by decide) rfl (fun ls hl => ?_)
        obtain ⟨n570, hw⟩ := hw
        exact hL570 n570 x4 x3 m_dg _ _ _ (lv_sub hl [1, 3, 0] rfl) hP hD hS hw
      · have hw := hw.2 hc
        refine lv_aload_n hx hb d_M_round_37 rfl (lv_at hl 0 rfl) ?_
        refine va_get (ci := 9) (C := R_Mo) (T := F_Mo) (N := 24) hx hb htb in_Mo hown hK hP 0 rfl rfl 15 (by decide) (htb _ tw711) (fun _ h9 => h9) rfl d_M_round_38 ?_
        refine lv_bipush (v := 64) hx hb d_M_round_41 (by decide) ?_
        refine lv_iload hx hb d_M_round_43 (lv_at hl 3 rfl) ?_
        refine lv_iadd hx hb d_M_round_45 ?_
        refine lv_iconst (v := 0) hx hb d_M_round_46 (by decide) ?_
        have hi := hw.1
        have hw := hw.2
        refine va_iast hx hb hK hP hD hS 10 0 rfl rfl hi d_M_round_47 (fun H locs hP hD hS => ?_)
        have hP : va_P D vwCl (wd_Mo cA mo mo_dr mo_now mo_first mo_has mo_da mo_dl mo_af mo_al mo_sy mo_dg mo_out mo_tx m_ds m_st m_sub m_q m_two m_least m_os m_ts m_fs m_fc m_g m_gs m_dr m_now m_first m_has m_da m_dl m_af m_al m_sy (upd m_dg (64 + x5).toNatClampNeg 0) m_out m_tx) H := hP
        have hD : va_D A (wd_Mo cA mo mo_dr mo_now mo_first mo_has mo_da mo_dl mo_af mo_al mo_sy mo_dg mo_out mo_tx m_ds m_st m_sub m_q m_two m_least m_os m_ts m_fs m_fc m_g m_gs m_dr m_now m_first m_has m_da m_dl m_af m_al m_sy (upd m_dg (64 + x5).toNatClampNeg 0) m_out m_tx) := hD
        refine lv_iinc (k := 3) (v := x5 + 1) (lv' := [(5, .int (x5 + 1)), (0, .ref mo), (3, .int x3), (4, .int (bI x4))]) hx hb d_M_round_48 hl rfl (by rfl) (by decide) rfl (fun ls hl => ?_)
        refine lv_goto (tgt := 31) hx hb d_M_round_51 rfl ?_
        exact ih310 x3 x4 (x5 + 1) (upd m_dg (64 + x5).toNatClampNeg 0) _ _ _ (lv_sub hl [1, 2, 3, 0] rfl) hP hD hS hw
  refine lv_aload_n hx hb d_M_round_0 rfl (lv_at hl 0 rfl) ?_
  refine lv_iload_n hx hb d_M_round_1 rfl (lv_at hl 3 rfl) ?_
  refine ct_callz (wn := fun _ => wd_Mo cA mo mo_dr mo_now mo_first mo_has mo_da mo_dl mo_af mo_al mo_sy mo_dg mo_out mo_tx m_ds m_st m_sub m_q m_two m_least m_os m_ts m_fs m_fc m_g m_gs m_dr m_now m_first m_has m_da m_dl m_af m_al m_sy m_dg m_out m_tx) (va_runV (As := [.int kk]) (rest := []) ⟨hx, hb, hml, hown, htb⟩ (c_M_below l D cA mo mo_dr mo_now mo_first mo_has mo_da mo_dl mo_af mo_al mo_sy mo_dg mo_out mo_tx m_ds m_st m_sub m_q m_two m_least m_os m_ts m_fs m_fc m_g m_gs m_dr m_now m_first m_has m_da m_dl m_af m_al m_sy m_dg m_out m_tx kk _ hw _) (ct_cwV 1 htb tw863 rfl rfl tw82 tw860 tw862 tw56 hd_M_below ⟨by decide, by decide⟩) (ct_preV hP hD hK hN [0, 1, 2, 3, 4, 5, 6, 7, 8, 9, 10, 11, 12] rfl (by decide) 0 rfl rfl _) rfl rfl hl.1 rfl (lv_room (Nat.le_of_ble_eq_true rfl)) d_M_round_2 ⟨Nat.zero_le _, Nat.zero_le _⟩) hP hD hS hA [0, 1, 2, 3, 4, 5, 6, 7, 8, 9, 10, 11, 12] [] [0, 1, 2, 3, 4, 5, 6, 7, 8, 9, 10, 11, 12] rfl rfl (by decide) (by decide) (fun _ => rfl) (by decide) (fun r1 u2 H locs hw hP hD hS => ?_)
  have hP : va_P D vwCl (wd_Mo cA mo mo_dr mo_now mo_first mo_has mo_da mo_dl mo_af mo_al mo_sy mo_dg mo_out mo_tx m_ds m_st m_sub m_q m_two m_least m_os m_ts m_fs m_fc m_g m_gs m_dr m_now m_first m_has m_da m_dl m_af m_al m_sy m_dg m_out m_tx) H := hP
  have hD : va_D A (wd_Mo cA mo mo_dr mo_now mo_first mo_has mo_da mo_dl mo_af mo_al mo_sy mo_dg mo_out mo_tx m_ds m_st m_sub m_q m_two m_least m_os m_ts m_fs m_fc m_g m_gs m_dr m_now m_first m_has m_da m_dl m_af m_al m_sy m_dg m_out m_tx) := hD
  refine lv_if_ne (tgt := 10) hx hb d_M_round_5 rfl (fun hc => ?_) (fun hc => ?_)
  · have hw := hw.1 ((bI_n0 _).mp hc)
    refine lv_iload_n hx hb d_M_round_10 rfl (lv_at hl 1 rfl) ?_
    refine lv_bipush (v := 7) hx hb d_M_round_11 (by decide) ?_
    refine lv_icmp_ne (tgt := 18) hx hb d_M_round_13 rfl (fun hc => ?_) (fun hc => ?_)
    · have hw := hw.1 hc
      refine lv_aload_n hx hb d_M_round_18 rfl (lv_at hl 0 rfl) ?_
      refine lv_iload_n hx hb d_M_round_19 rfl (lv_at hl 1 rfl) ?_
      refine lv_iload_n hx hb d_M_round_20 rfl (lv_at hl 2 rfl) ?_
      refine lv_iload_n hx hb d_M_round_21 rfl (lv_at hl 3 rfl) ?_
      refine ct_callz (wn := fun _ => wd_Mo cA mo mo_dr mo_now mo_first mo_has mo_da mo_dl mo_af mo_al mo_sy mo_dg mo_out mo_tx m_ds m_st m_sub m_q m_two m_least m_os m_ts m_fs m_fc m_g m_gs m_dr m_now m_first m_has m_da m_dl m_af m_al m_sy m_dg m_out m_tx) (va_runV (As := [.int md, .int (bI ng), .int kk]) (rest := []) ⟨hx, hb, hml, hown, htb⟩ (c_M_upwards l D cA mo mo_dr mo_now mo_first mo_has mo_da mo_dl mo_af mo_al mo_sy mo_dg mo_out mo_tx m_ds m_st m_sub m_q m_two m_least m_os m_ts m_fs m_fc m_g m_gs m_dr m_now m_first m_has m_da m_dl m_af m_al m_sy m_dg m_out m_tx md ng kk _ hw _) (ct_cwV 3 htb tw871 rfl rfl tw82 tw868 tw870 tw58 hd_M_upwards ⟨by decide, by decide⟩) (ct_preV hP hD hK hN [0, 1, 2, 3, 4, 5, 6, 7, 8, 9, 10, 11, 12] rfl (by decide) 0 rfl rfl _) rfl rfl hl.1 rfl (lv_room (Nat.le_of_ble_eq_true rfl)) d_M_round_22 ⟨Nat.zero_le _, Nat.zero_le _⟩) hP hD hS hA [0, 1, 2, 3, 4, 5, 6, 7, 8, 9, 10, 11, 12] [] [0, 1, 2, 3, 4, 5, 6, 7, 8, 9, 10, 11, 12] rfl rfl (by decide) (by decide) (fun _ => rfl) (by decide) (fun r3 u4 H locs hw hP hD hS => ?_)
      have hP : va_P D vwCl (wd_Mo cA mo mo_dr mo_now mo_first mo_has mo_da mo_dl mo_af mo_al mo_sy mo_dg mo_out mo_tx m_ds m_st m_sub m_q m_two m_least m_os m_ts m_fs m_fc m_g m_gs m_dr m_now m_first m_has m_da m_dl m_af m_al m_sy m_dg m_out m_tx) H := hP
      have hD : va_D A (wd_Mo cA mo mo_dr mo_now mo_first mo_has mo_da mo_dl mo_af mo_al mo_sy mo_dg mo_out mo_tx m_ds m_st m_sub m_q m_two m_least m_os m_ts m_fs m_fc m_g m_gs m_dr m_now m_first m_has m_da m_dl m_af m_al m_sy m_dg m_out m_tx) := hD
      refine lv_istore (lv' := [(4, .int (bI r3)), (0, .ref mo), (1, .int md), (2, .int (bI ng)), (3, .int kk)]) hx hb d_M_round_25 hl (by decide) rfl (fun ls hl => ?_)
      refine lv_bipush (v := (-64)) hx hb d_M_round_27 (by decide) ?_
      refine lv_istore (lv' := [(5, .int (-64)), (4, .int (bI r3)), (0, .ref mo), (1, .int md), (2, .int (bI ng)), (3, .int kk)]) hx hb d_M_round_29 hl (by decide) rfl (fun ls hl => ?_)
      obtain ⟨n310, hw⟩ := hw
      exact hL310 n310 kk r3 (-64) m_dg _ _ _ (lv_sub hl [2, 5, 1, 0] rfl) hP hD hS hw
    · have hw := hw.2 hc
      refine lv_iconst (v := 0) hx hb d_M_round_16 (by decide) ?_
      exact ct_zret false hx hb hr hlk hK hS m_dg hw hP hD d_M_round_17
  · have hw := hw.2 ((bI_0 _).mp hc)
    refine lv_iconst (v := 1) hx hb d_M_round_8 (by decide) ?_
    exact ct_zret true hx hb hr hlk hK hS m_dg hw hP hD d_M_round_9
/-! DecimalPatternsModel.put(I)V -/
def wp_M_put (m_os : Int32) (m_out : Nat → Int32) (cd : Int32) (Q : (Int32 × (Nat → Int32)) → Prop) : Prop := vp_in m_os 400 ∧ (Q (m_os + 1, upd m_out m_os.toNatClampNeg cd))
set_option maxHeartbeats 4000000 in
set_option maxRecDepth 100000 in
theorem c_M_put (l : Launch) (D : va_G) (cA : ClassId) (mo mo_dr mo_now mo_first mo_has mo_da mo_dl mo_af mo_al mo_sy mo_dg mo_out mo_tx : Nat) (m_ds : Int32) (m_st : Int32) (m_sub : Int32) (m_q : Int32) (m_two : Bool) (m_least : Int32) (m_os : Int32) (m_ts : Int32) (m_fs : Int64) (m_fc : Int32) (m_g : Int64) (m_gs : Int32) (m_dr : Nat → Int32) (m_now : Nat → Int32) (m_first : Nat → Int32) (m_has : Nat → Int32) (m_da : Nat → Int32) (m_dl : Nat → Int32) (m_af : Nat → Int32) (m_al : Nat → Int32) (m_sy : Nat → Int32) (m_dg : Nat → Int32) (m_out : Nat → Int32) (m_tx : Nat → Int32) (cd : Int32) (Q : (Int32 × (Nat → Int32)) → Prop) (hw : wp_M_put m_os m_out cd Q) : ct_M vwCl l D [(cA, .int)] y_M_put w_M_put { frames := 0, cells := 0, slots := 0, locals := 0 } [.ref mo, .int cd] (wd_Mo cA mo mo_dr mo_now mo_first mo_has mo_da mo_dl mo_af mo_al mo_sy mo_dg mo_out mo_tx m_ds m_st m_sub m_q m_two m_least m_os m_ts m_fs m_fc m_g m_gs m_dr m_now m_first m_has m_da m_dl m_af m_al m_sy m_dg m_out m_tx) (ct_qv vwCl D [(cA, .int)] Q (fun u => wd_Mo cA mo mo_dr mo_now mo_first mo_has mo_da mo_dl mo_af mo_al mo_sy mo_dg mo_out mo_tx m_ds m_st m_sub m_q m_two m_least u.1 m_ts m_fs m_fc m_g m_gs m_dr m_now m_first m_has m_da m_dl m_af m_al m_sy m_dg u.2 m_tx)) := by
  refine ct_enter (cc := b_M_put) (maxL := 2) (ret := none) (by decide) rfl (Nat.le_of_ble_eq_true rfl) ?_
  intro p e s m args below meth c A ls hx hb hr hlk hml hts hown hA hS hP hK hN hD hl
  have hl : lv_has ls 2 [(0, .ref mo), (1, .int cd)] := hl
  have htb : ∀ w ∈ tbl, w.before args s = true := fun w h => hts w (List.mem_cons_of_mem _ h)
  have hown : s.vm.findClass "DecimalPatternsModel" = some m.cls := hown
  unfold wp_M_put at hw
  refine lv_aload_n hx hb d_M_put_0 rfl (lv_at hl 0 rfl) ?_
  refine va_get (ci := 9) (C := R_Mo) (T := F_Mo) (N := 24) hx hb htb in_Mo hown hK hP 0 rfl rfl 16 (by decide) (htb _ tw712) (fun _ h9 => h9) rfl d_M_put_1 ?_
  refine lv_aload_n hx hb d_M_put_4 rfl (lv_at hl 0 rfl) ?_
  refine va_get (ci := 9) (C := R_Mo) (T := F_Mo) (N := 24) hx hb htb in_Mo hown hK hP 0 rfl rfl 17 (by decide) (htb _ tw713) (fun _ h9 => h9) rfl d_M_put_5 ?_
  refine lv_iload_n hx hb d_M_put_8 rfl (lv_at hl 1 rfl) ?_
  have hi := hw.1
  have hw := hw.2
  refine va_iast hx hb hK hP hD hS 11 0 rfl rfl hi d_M_put_9 (fun H locs hP hD hS => ?_)
  have hP : va_P D vwCl (wd_Mo cA mo mo_dr mo_now mo_first mo_has mo_da mo_dl mo_af mo_al mo_sy mo_dg mo_out mo_tx m_ds m_st m_sub m_q m_two m_least m_os m_ts m_fs m_fc m_g m_gs m_dr m_now m_first m_has m_da m_dl m_af m_al m_sy m_dg (upd m_out m_os.toNatClampNeg cd) m_tx) H := hP
  have hD : va_D A (wd_Mo cA mo mo_dr mo_now mo_first mo_has mo_da mo_dl mo_af mo_al mo_sy mo_dg mo_out mo_tx m_ds m_st m_sub m_q m_two m_least m_os m_ts m_fs m_fc m_g m_gs m_dr m_now m_first m_has m_da m_dl m_af m_al m_sy m_dg (upd m_out m_os.toNatClampNeg cd) m_tx) := hD
  refine lv_aload_n hx hb d_M_put_10 rfl (lv_at hl 0 rfl) ?_
  refine lv_dup hx hb d_M_put_11 rfl ?_
  refine va_get (ci := 9) (C := R_Mo) (T := F_Mo) (N := 24) hx hb htb in_Mo hown hK hP 0 rfl rfl 17 (by decide) (htb _ tw713) (fun _ h9 => h9) rfl d_M_put_12 ?_
  refine lv_iconst (v := 1) hx hb d_M_put_15 (by decide) ?_
  refine lv_iadd hx hb d_M_put_16 ?_
  refine va_put (ci := 9) (v := .int (m_os + 1)) (ty := .int) (C := R_Mo) (T := F_Mo) (N := 24) hx hb htb in_Mo t_Mo t_Mo_ok n_Mo hown hK hP hD hS 0 rfl rfl 17 (by decide) (htb _ tw713) (fun _ h9 => h9) rfl (by decide +kernel) rfl rfl (Nat.le_of_ble_eq_true rfl) d_M_put_17 (fun H locs hP hD hS => ?_)
  have hP : va_P D vwCl (wd_Mo cA mo mo_dr mo_now mo_first mo_has mo_da mo_dl mo_af mo_al mo_sy mo_dg mo_out mo_tx m_ds m_st m_sub m_q m_two m_least (m_os + 1) m_ts m_fs m_fc m_g m_gs m_dr m_now m_first m_has m_da m_dl m_af m_al m_sy m_dg (upd m_out m_os.toNatClampNeg cd) m_tx) H := hP
  have hD : va_D A (wd_Mo cA mo mo_dr mo_now mo_first mo_has mo_da mo_dl mo_af mo_al mo_sy mo_dg mo_out mo_tx m_ds m_st m_sub m_q m_two m_least (m_os + 1) m_ts m_fs m_fc m_g m_gs m_dr m_now m_first m_has m_da m_dl m_af m_al m_sy m_dg (upd m_out m_os.toNatClampNeg cd) m_tx) := hD
  exact ct_vret hx hb hr hlk hK hS (m_os + 1, upd m_out m_os.toNatClampNeg cd) hw hP hD d_M_put_20
/-! DecimalPatternsModel.putAffix(I)V -/
def wp_M_putAffix_L20 : Nat → (Nat → Int32) → (Nat → Int32) → (Nat → Int32) → Int32 → Int32 → Int32 → (Nat → Int32) → ((Int32 × (Nat → Int32)) → Prop) → Prop
  | 0, _, _, _, _, _, _, _, _ => False
  | n20 + 1, m_af, m_al, m_sy, x1, x2, m_os, m_out, Q => vp_in x1 4 ∧ (((m_al x1.toNatClampNeg) ≤ x2 → (Q (m_os, m_out))) ∧ (¬ (m_al x1.toNatClampNeg) ≤ x2 → (vp_in ((40 * x1) + x2) 160 ∧ ((¬ (m_af ((40 * x1) + x2).toNatClampNeg) = 200 → ((¬ (m_af ((40 * x1) + x2).toNatClampNeg) = 201 → (wp_M_put m_os m_out (m_af ((40 * x1) + x2).toNatClampNeg) (fun u2 => wp_M_putAffix_L20 n20 m_af m_al m_sy x1 (x2 + 1) u2.1 u2.2 Q))) ∧ ((m_af ((40 * x1) + x2).toNatClampNeg) = 201 → (vp_in (3 : Int32) 6 ∧ (wp_M_put m_os m_out (m_sy (3 : Int32).toNatClampNeg) (fun u4 => wp_M_putAffix_L20 n20 m_af m_al m_sy x1 (x2 + 1) u4.1 u4.2 Q)))))) ∧ ((m_af ((40 * x1) + x2).toNatClampNeg) = 200 → (vp_in (2 : Int32) 6 ∧ (wp_M_put m_os m_out (m_sy (2 : Int32).toNatClampNeg) (fun u6 => wp_M_putAffix_L20 n20 m_af m_al m_sy x1 (x2 + 1) u6.1 u6.2 Q))))))))
def wp_M_putAffix (m_os : Int32) (m_af : Nat → Int32) (m_al : Nat → Int32) (m_sy : Nat → Int32) (m_out : Nat → Int32) (aa : Int32) (Q : (Int32 × (Nat → Int32)) → Prop) : Prop := ∃ n20, wp_M_putAffix_L20 n20 m_af m_al m_sy aa 0 m_os m_out Q
set_option maxHeartbeats 4000000 in
set_option maxRecDepth 100000 in
theorem c_M_putAffix (l : Launch) (D : va_G) (cA : ClassId) (mo mo_dr mo_now mo_first mo_has mo_da mo_dl mo_af mo_al mo_sy mo_dg mo_out mo_tx : Nat) (m_ds : Int32) (m_st : Int32) (m_sub : Int32) (m_q : Int32) (m_two : Bool) (m_least : Int32) (m_os : Int32) (m_ts : Int32) (m_fs : Int64) (m_fc : Int32) (m_g : Int64) (m_gs : Int32) (m_dr : Nat → Int32) (m_now : Nat → Int32) (m_first : Nat → Int32) (m_has : Nat → Int32) (m_da : Nat → Int32) (m_dl : Nat → Int32) (m_af : Nat → Int32) (m_al : Nat → Int32) (m_sy : Nat → Int32) (m_dg : Nat → Int32) (m_out : Nat → Int32) (m_tx : Nat → Int32) (aa : Int32) (Q : (Int32 × (Nat → Int32)) → Prop) (hw : wp_M_putAffix m_os m_af m_al m_sy m_out aa Q) : ct_M vwCl l D [(cA, .int)] y_M_putAffix w_M_putAffix { frames := 1, cells := 0, slots := 0, locals := 21 } [.ref mo, .int aa] (wd_Mo cA mo mo_dr mo_now mo_first mo_has mo_da mo_dl mo_af mo_al mo_sy mo_dg mo_out mo_tx m_ds m_st m_sub m_q m_two m_least m_os m_ts m_fs m_fc m_g m_gs m_dr m_now m_first m_has m_da m_dl m_af m_al m_sy m_dg m_out m_tx) (ct_qv vwCl D [(cA, .int)] Q (fun u => wd_Mo cA mo mo_dr mo_now mo_first mo_has mo_da mo_dl mo_af mo_al mo_sy mo_dg mo_out mo_tx m_ds m_st m_sub m_q m_two m_least u.1 m_ts m_fs m_fc m_g m_gs m_dr m_now m_first m_has m_da m_dl m_af m_al m_sy m_dg u.2 m_tx)) := by
  refine ct_enter (cc := b_M_putAffix) (maxL := 4) (ret := none) (by decide) rfl (Nat.le_of_ble_eq_true rfl) ?_
  intro p e s m args below meth c A ls hx hb hr hlk hml hts hown hA hS hP hK hN hD hl
  have hl : lv_has ls 4 [(0, .ref mo), (1, .int aa)] := hl
  have htb : ∀ w ∈ tbl, w.before args s = true := fun w h => hts w (List.mem_cons_of_mem _ h)
  have hown : s.vm.findClass "DecimalPatternsModel" = some m.cls := hown
  unfold wp_M_putAffix at hw
  have hL20 : ∀ (n20 : Nat) (x1 : Int32) (x2 : Int32) (m_os : Int32) (m_out : Nat → Int32) (H : Heap) (locs : List Loc) (ls : Array Slot), lv_has ls 4 [(0, .ref mo), (1, .int x1), (2, .int x2)] → va_P D vwCl (wd_Mo cA mo mo_dr mo_now mo_first mo_has mo_da mo_dl mo_af mo_al mo_sy mo_dg mo_out mo_tx m_ds m_st m_sub m_q m_two m_least m_os m_ts m_fs m_fc m_g m_gs m_dr m_now m_first m_has m_da m_dl m_af m_al m_sy m_dg m_out m_tx) H → va_D A (wd_Mo cA mo mo_dr mo_now mo_first mo_has mo_da mo_dl mo_af mo_al mo_sy mo_dg mo_out mo_tx m_ds m_st m_sub m_q m_two m_least m_os m_ts m_fs m_fc m_g m_gs m_dr m_now m_first m_has m_da m_dl m_af m_al m_sy m_dg m_out m_tx) → va_S A s.heap H locs → wp_M_putAffix_L20 n20 m_af m_al m_sy x1 x2 m_os m_out Q → W p l e { frames := 1, cells := 0, slots := 0, locals := 21 } s m args below meth c H locs 0 0 (MQ below (ct_qv vwCl D [(cA, .int)] Q (fun u => wd_Mo cA mo mo_dr mo_now mo_first mo_has mo_da mo_dl mo_af mo_al mo_sy mo_dg mo_out mo_tx m_ds m_st m_sub m_q m_two m_least u.1 m_ts m_fs m_fc m_g m_gs m_dr m_now m_first m_has m_da m_dl m_af m_al m_sy m_dg u.2 m_tx) A) args s 0 0 A) (F0 m 2 ls []) := by
    intro n20
    induction n20 with
    | zero => intro x1 x2 m_os m_out H locs ls hl hP hD hS hw; exact hw.elim
    | succ n20 ih20 =>
      intro x1 x2 m_os m_out H locs ls hl hP hD hS hw
      unfold wp_M_putAffix_L20 at hw
      refine lv_iload_n hx hb d_M_putAffix_2 rfl (lv_at hl 2 rfl) ?_
      refine lv_aload_n hx hb d_M_putAffix_3 rfl (lv_at hl 0 rfl) ?_
      refine va_get (ci := 9) (C := R_Mo) (T := F_Mo) (N := 24) hx hb htb in_Mo hown hK hP 0 rfl rfl 11 (by decide) (htb _ tw707) (fun _ h9 => h9) rfl d_M_putAffix_4 ?_
      refine lv_iload_n hx hb d_M_putAffix_7 rfl (lv_at hl 1 rfl) ?_
      have hi := hw.1
      have hw := hw.2
      refine va_iald hx hb hK hP 8 0 rfl rfl hi d_M_putAffix_8 ?_
      refine lv_icmp_ge (tgt := 67) hx hb d_M_putAffix_9 rfl (fun hc => ?_) (fun hc => ?_)
      · have hw := hw.1 hc
        exact ct_vret hx hb hr hlk hK hS (m_os, m_out) hw hP hD d_M_putAffix_67
      · have hw := hw.2 hc
        refine lv_aload_n hx hb d_M_putAffix_12 rfl (lv_at hl 0 rfl) ?_
        refine va_get (ci := 9) (C := R_Mo) (T := F_Mo) (N := 24) hx hb htb in_Mo hown hK hP 0 rfl rfl 10 (by decide) (htb _ tw706) (fun _ h9 => h9) rfl d_M_putAffix_13 ?_
        refine lv_bipush (v := 40) hx hb d_M_putAffix_16 (by decide) ?_
        refine lv_iload_n hx hb d_M_putAffix_18 rfl (lv_at hl 1 rfl) ?_
        refine lv_imul hx hb d_M_putAffix_19 ?_
        refine lv_iload_n hx hb d_M_putAffix_20 rfl (lv_at hl 2 rfl) ?_
        refine lv_iadd hx hb d_M_putAffix_21 ?_
        have hi := hw.1
        have hw := hw.2
        refine va_iald hx hb hK hP 7 0 rfl rfl hi d_M_putAffix_22 ?_
        refine lv_istore_n (lv' := [(3, .int (m_af ((40 * x1) + x2).toNatClampNeg)), (0, .ref mo), (1, .int x1), (2, .int x2)]) hx hb d_M_putAffix_23 rfl hl (by decide) rfl (fun ls hl => ?_)
        refine lv_aload_n hx hb d_M_putAffix_24 rfl (lv_at hl 1 rfl) ?_
        refine lv_iload_n hx hb d_M_putAffix_25 rfl (lv_at hl 0 rfl) ?_
        refine lv_sipush (v := 200) hx hb d_M_putAffix_26 (by decide) ?_
        refine lv_icmp_ne (tgt := 41) hx hb d_M_putAffix_29 rfl (fun hc => ?_) (fun hc => ?_)
        · have hw := hw.1 hc
          refine lv_iload_n hx hb d_M_putAffix_41 rfl (lv_at hl 0 rfl) ?_
          refine lv_sipush (v := 201) hx hb d_M_putAffix_42 (by decide) ?_
          refine lv_icmp_ne (tgt := 57) hx hb d_M_putAffix_45 rfl (fun hc => ?_) (fun hc => ?_)
          · have hw := hw.1 hc
            refine lv_iload_n hx hb d_M_putAffix_57 rfl (lv_at hl 0 rfl) ?_
            refine ct_callv (wn := fun u2 => wd_Mo cA mo mo_dr mo_now mo_first mo_has mo_da mo_dl mo_af mo_al mo_sy mo_dg mo_out mo_tx m_ds m_st m_sub m_q m_two m_least u2.1 m_ts m_fs m_fc m_g m_gs m_dr m_now m_first m_has m_da m_dl m_af m_al m_sy m_dg u2.2 m_tx) (va_runV (As := [.int (m_af ((40 * x1) + x2).toNatClampNeg)]) (rest := []) ⟨hx, hb, hml, hown, htb⟩ (c_M_put l D cA mo mo_dr mo_now mo_first mo_has mo_da mo_dl mo_af mo_al mo_sy mo_dg mo_out mo_tx m_ds m_st m_sub m_q m_two m_least m_os m_ts m_fs m_fc m_g m_gs m_dr m_now m_first m_has m_da m_dl m_af m_al m_sy m_dg m_out m_tx (m_af ((40 * x1) + x2).toNatClampNeg) _ hw _) (ct_cwV 1 htb tw882 rfl rfl tw82 tw879 tw881 tw60 hd_M_put ⟨by decide, by decide⟩) (ct_preV hP hD hK hN [0, 1, 2, 3, 4, 5, 6, 7, 8, 9, 10, 11, 12] rfl (by decide) 0 rfl rfl _) rfl rfl hl.1 rfl (lv_room (Nat.le_of_ble_eq_true rfl)) d_M_putAffix_58 ⟨Nat.zero_le _, Nat.zero_le _⟩) hP hD hS hA [0, 1, 2, 3, 4, 5, 6, 7, 8, 9, 10, 11, 12] [] [0, 1, 2, 3, 4, 5, 6, 7, 8, 9, 10, 11, 12] rfl rfl (by decide) (by decide) (fun _ => rfl) (by decide) (fun u2 H locs hw hP hD hS => ?_)
            have hP : va_P D vwCl (wd_Mo cA mo mo_dr mo_now mo_first mo_has mo_da mo_dl mo_af mo_al mo_sy mo_dg mo_out mo_tx m_ds m_st m_sub m_q m_two m_least u2.1 m_ts m_fs m_fc m_g m_gs m_dr m_now m_first m_has m_da m_dl m_af m_al m_sy m_dg u2.2 m_tx) H := hP
            have hD : va_D A (wd_Mo cA mo mo_dr mo_now mo_first mo_has mo_da mo_dl mo_af mo_al mo_sy mo_dg mo_out mo_tx m_ds m_st m_sub m_q m_two m_least u2.1 m_ts m_fs m_fc m_g m_gs m_dr m_now m_first m_has m_da m_dl m_af m_al m_sy m_dg u2.2 m_tx) := hD
            refine lv_iinc (k := 3) (v := x2 + 1) (lv' := [(2, .int (x2 + 1)), (3, .int (m_af ((40 * x1) + x2).toNatClampNeg)), (0, .ref mo), (1, .int x1)]) hx hb d_M_putAffix_61 hl rfl (by rfl) (by decide) rfl (fun ls hl => ?_)
            refine lv_goto (tgt := 2) hx hb d_M_putAffix_64 rfl ?_
            exact ih20 x1 (x2 + 1) u2.1 u2.2 _ _ _ (lv_sub hl [2, 3, 0] rfl) hP hD hS hw
          · have hw := hw.2 hc
            refine lv_aload_n hx hb d_M_putAffix_48 rfl (lv_at hl 1 rfl) ?_
            refine va_get (ci := 9) (C := R_Mo) (T := F_Mo) (N := 24) hx hb htb in_Mo hown hK hP 0 rfl rfl 13 (by decide) (htb _ tw709) (fun _ h9 => h9) rfl d_M_putAffix_49 ?_
            refine lv_iconst (v := 3) hx hb d_M_putAffix_52 (by decide) ?_
            have hi := hw.1
            have hw := hw.2
            refine va_iald hx hb hK hP 9 0 rfl rfl hi d_M_putAffix_53 ?_
            refine lv_goto (tgt := 58) hx hb d_M_putAffix_54 rfl ?_
            refine ct_callv (wn := fun u4 => wd_Mo cA mo mo_dr mo_now mo_first mo_has mo_da mo_dl mo_af mo_al mo_sy mo_dg mo_out mo_tx m_ds m_st m_sub m_q m_two m_least u4.1 m_ts m_fs m_fc m_g m_gs m_dr m_now m_first m_has m_da m_dl m_af m_al m_sy m_dg u4.2 m_tx) (va_runV (As := [.int (m_sy (3 : Int32).toNatClampNeg)]) (rest := []) ⟨hx, hb, hml, hown, htb⟩ (c_M_put l D cA mo mo_dr mo_now mo_first mo_has mo_da mo_dl mo_af mo_al mo_sy mo_dg mo_out mo_tx m_ds m_st m_sub m_q m_two m_least m_os m_ts m_fs m_fc m_g m_gs m_dr m_now m_first m_has m_da m_dl m_af m_al m_sy m_dg m_out m_tx (m_sy (3 : Int32).toNatClampNeg) _ hw _) (ct_cwV 1 htb tw882 rfl rfl tw82 tw879 tw881 tw60 hd_M_put ⟨by decide, by decide⟩) (ct_preV hP hD hK hN [0, 1, 2, 3, 4, 5, 6, 7, 8, 9, 10, 11, 12] rfl (by decide) 0 rfl rfl _) rfl rfl hl.1 rfl (lv_room (Nat.le_of_ble_eq_true rfl)) d_M_putAffix_58 ⟨Nat.zero_le _, Nat.zero_le _⟩) hP hD hS hA [0, 1, 2, 3, 4, 5, 6, 7, 8, 9, 10, 11, 12] [] [0, 1, 2, 3, 4, 5, 6, 7, 8, 9, 10, 11, 12] rfl rfl (by decide) (by decide) (fun _ => rfl) (by decide) (fun u4 H locs hw hP hD hS => ?_)
            have hP : va_P D vwCl (wd_Mo cA mo mo_dr mo_now mo_first mo_has mo_da mo_dl mo_af mo_al mo_sy mo_dg mo_out mo_tx m_ds m_st m_sub m_q m_two m_least u4.1 m_ts m_fs m_fc m_g m_gs m_dr m_now m_first m_has m_da m_dl m_af m_al m_sy m_dg u4.2 m_tx) H := hP
            have hD : va_D A (wd_Mo cA mo mo_dr mo_now mo_first mo_has mo_da mo_dl mo_af mo_al mo_sy mo_dg mo_out mo_tx m_ds m_st m_sub m_q m_two m_least u4.1 m_ts m_fs m_fc m_g m_gs m_dr m_now m_first m_has m_da m_dl m_af m_al m_sy m_dg u4.2 m_tx) := hD
            refine lv_iinc (k := 3) (v := x2 + 1) (lv' := [(2, .int (x2 + 1)), (3, .int (m_af ((40 * x1) + x2).toNatClampNeg)), (0, .ref mo), (1, .int x1)]) hx hb d_M_putAffix_61 hl rfl (by rfl) (by decide) rfl (fun ls hl => ?_)
            refine lv_goto (tgt := 2) hx hb d_M_putAffix_64 rfl ?_
            exact ih20 x1 (x2 + 1) u4.1 u4.2 _ _ _ (lv_sub hl [2, 3, 0] rfl) hP hD hS hw
        · have hw := hw.2 hc
          refine lv_aload_n hx hb d_M_putAffix_32 rfl (lv_at hl 1 rfl) ?_
          refine va_get (ci := 9) (C := R_Mo) (T := F_Mo) (N := 24) hx hb htb in_Mo hown hK hP 0 rfl rfl 13 (by decide) (htb _ tw709) (fun _ h9 => h9) rfl d_M_putAffix_33 ?_
          refine lv_iconst (v := 2) hx hb d_M_putAffix_36 (by decide) ?_
          have hi := hw.1
          have hw := hw.2
          refine va_iald hx hb hK hP 9 0 rfl rfl hi d_M_putAffix_37 ?_
          refine lv_goto (tgt := 58) hx hb d_M_putAffix_38 rfl ?_
          refine ct_callv (wn := fun u6 => wd_Mo cA mo mo_dr mo_now mo_first mo_has mo_da mo_dl mo_af mo_al mo_sy mo_dg mo_out mo_tx m_ds m_st m_sub m_q m_two m_least u6.1 m_ts m_fs m_fc m_g m_gs m_dr m_now m_first m_has m_da m_dl m_af m_al m_sy m_dg u6.2 m_tx) (va_runV (As := [.int (m_sy (2 : Int32).toNatClampNeg)]) (rest := []) ⟨hx, hb, hml, hown, htb⟩ (c_M_put l D cA mo mo_dr mo_now mo_first mo_has mo_da mo_dl mo_af mo_al mo_sy mo_dg mo_out mo_tx m_ds m_st m_sub m_q m_two m_least m_os m_ts m_fs m_fc m_g m_gs m_dr m_now m_first m_has m_da m_dl m_af m_al m_sy m_dg m_out m_tx (m_sy (2 : Int32).toNatClampNeg) _ hw _) (ct_cwV 1 htb tw882 rfl rfl tw82 tw879 tw881 tw60 hd_M_put ⟨by decide, by decide⟩) (ct_preV hP hD hK hN [0, 1, 2, 3, 4, 5, 6, 7, 8, 9, 10, 11, 12] rfl (by decide) 0 rfl rfl _) rfl rfl hl.1 rfl (lv_room (Nat.le_of_ble_eq_true rfl)) d_M_putAffix_58 ⟨Nat.zero_le _, Nat.zero_le _⟩) hP hD hS hA [0, 1, 2, 3, 4, 5, 6, 7, 8, 9, 10, 11, 12] [] [0, 1, 2, 3, 4, 5, 6, 7, 8, 9, 10, 11, 12] rfl rfl (by decide) (by decide) (fun _ => rfl) (by decide) (fun u6 H locs hw hP hD hS => ?_)
          have hP : va_P D vwCl (wd_Mo cA mo mo_dr mo_now mo_first mo_has mo_da mo_dl mo_af mo_al mo_sy mo_dg mo_out mo_tx m_ds m_st m_sub m_q m_two m_least u6.1 m_ts m_fs m_fc m_g m_gs m_dr m_now m_first m_has m_da m_dl m_af m_al m_sy m_dg u6.2 m_tx) H := hP
          have hD : va_D A (wd_Mo cA mo mo_dr mo_now mo_first mo_has mo_da mo_dl mo_af mo_al mo_sy mo_dg mo_out mo_tx m_ds m_st m_sub m_q m_two m_least u6.1 m_ts m_fs m_fc m_g m_gs m_dr m_now m_first m_has m_da m_dl m_af m_al m_sy m_dg u6.2 m_tx) := hD
          refine lv_iinc (k := 3) (v := x2 + 1) (lv' := [(2, .int (x2 + 1)), (3, .int (m_af ((40 * x1) + x2).toNatClampNeg)), (0, .ref mo), (1, .int x1)]) hx hb d_M_putAffix_61 hl rfl (by rfl) (by decide) rfl (fun ls hl => ?_)
          refine lv_goto (tgt := 2) hx hb d_M_putAffix_64 rfl ?_
          exact ih20 x1 (x2 + 1) u6.1 u6.2 _ _ _ (lv_sub hl [2, 3, 0] rfl) hP hD hS hw
  refine lv_iconst (v := 0) hx hb d_M_putAffix_0 (by decide) ?_
  refine lv_istore_n (lv' := [(2, .int 0), (0, .ref mo), (1, .int aa)]) hx hb d_M_putAffix_1 rfl hl (by decide) rfl (fun ls hl => ?_)
  obtain ⟨n20, hw⟩ := hw
  exact hL20 n20 aa 0 m_os m_out _ _ _ (lv_sub hl [1, 2, 0] rfl) hP hD hS hw
