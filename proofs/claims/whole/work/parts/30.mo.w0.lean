/-! DecimalPatternsModel.draft(C)Z -/
def wp_M_draft (m_ds : Int32) (m_dr : Nat → Int32) (cd : Int32) (Q : Bool → (Int32 × (Nat → Int32)) → Prop) : Prop := (cd < 32 → (Q false (m_ds, m_dr))) ∧ (¬ cd < 32 → ((126 < cd → (Q false (m_ds, m_dr))) ∧ (¬ 126 < cd → ((¬ m_ds = 40 → (vp_in m_ds 40 ∧ (Q true (m_ds + 1, upd m_dr m_ds.toNatClampNeg cd)))) ∧ (m_ds = 40 → (Q false (m_ds, m_dr)))))))
set_option maxHeartbeats 4000000 in
set_option maxRecDepth 100000 in
theorem c_M_draft (l : Launch) (D : va_G) (cA : ClassId) (mo mo_dr mo_now mo_first mo_has mo_da mo_dl mo_af mo_al mo_sy mo_dg mo_out mo_tx : Nat) (m_ds : Int32) (m_st : Int32) (m_sub : Int32) (m_q : Int32) (m_two : Bool) (m_least : Int32) (m_os : Int32) (m_ts : Int32) (m_fs : Int64) (m_fc : Int32) (m_g : Int64) (m_gs : Int32) (m_dr : Nat → Int32) (m_now : Nat → Int32) (m_first : Nat → Int32) (m_has : Nat → Int32) (m_da : Nat → Int32) (m_dl : Nat → Int32) (m_af : Nat → Int32) (m_al : Nat → Int32) (m_sy : Nat → Int32) (m_dg : Nat → Int32) (m_out : Nat → Int32) (m_tx : Nat → Int32) (cd : Int32) (Q : Bool → (Int32 × (Nat → Int32)) → Prop) (hw : wp_M_draft m_ds m_dr cd Q) : ct_M vwCl l D [(cA, .int)] y_M_draft w_M_draft { frames := 0, cells := 0, slots := 0, locals := 0 } [.ref mo, .int cd] (wd_Mo cA mo mo_dr mo_now mo_first mo_has mo_da mo_dl mo_af mo_al mo_sy mo_dg mo_out mo_tx m_ds m_st m_sub m_q m_two m_least m_os m_ts m_fs m_fc m_g m_gs m_dr m_now m_first m_has m_da m_dl m_af m_al m_sy m_dg m_out m_tx) (ct_qz vwCl D [(cA, .int)] Q (fun u => wd_Mo cA mo mo_dr mo_now mo_first mo_has mo_da mo_dl mo_af mo_al mo_sy mo_dg mo_out mo_tx u.1 m_st m_sub m_q m_two m_least m_os m_ts m_fs m_fc m_g m_gs u.2 m_now m_first m_has m_da m_dl m_af m_al m_sy m_dg m_out m_tx)) := by
  refine ct_enter (cc := b_M_draft) (maxL := 2) (ret := (some .boolean)) (by decide) rfl (Nat.le_of_ble_eq_true rfl) ?_
  intro p e s m args below meth c A ls hx hb hr hlk hml hts hown hA hS hP hK hN hD hl
  have hl : lv_has ls 2 [(0, .ref mo), (1, .int cd)] := hl
  have htb : ∀ w ∈ tbl, w.before args s = true := fun w h => hts w (List.mem_cons_of_mem _ h)
  have hown : s.vm.findClass "DecimalPatternsModel" = some m.cls := hown
  unfold wp_M_draft at hw
  refine lv_iload_n hx hb d_M_draft_0 rfl (lv_at hl 1 rfl) ?_
  refine lv_bipush (v := 32) hx hb d_M_draft_1 (by decide) ?_
  refine lv_icmp_lt (tgt := 21) hx hb d_M_draft_3 rfl (fun hc => ?_) (fun hc => ?_)
  · have hw := hw.1 hc
    refine lv_iconst (v := 0) hx hb d_M_draft_21 (by decide) ?_
    exact ct_zret false hx hb hr hlk hK hS (m_ds, m_dr) hw hP hD d_M_draft_22
  · have hw := hw.2 hc
    refine lv_iload_n hx hb d_M_draft_6 rfl (lv_at hl 1 rfl) ?_
    refine lv_bipush (v := 126) hx hb d_M_draft_7 (by decide) ?_
    refine lv_icmp_gt (tgt := 21) hx hb d_M_draft_9 rfl (fun hc => ?_) (fun hc => ?_)
    · have hw := hw.1 hc
      refine lv_iconst (v := 0) hx hb d_M_draft_21 (by decide) ?_
      exact ct_zret false hx hb hr hlk hK hS (m_ds, m_dr) hw hP hD d_M_draft_22
    · have hw := hw.2 hc
      refine lv_aload_n hx hb d_M_draft_12 rfl (lv_at hl 0 rfl) ?_
      refine va_get (ci := 9) (C := R_Mo) (T := F_Mo) (N := 24) hx hb htb in_Mo hown hK hP 0 rfl rfl 1 (by decide) (htb _ tw697) (fun _ h9 => h9) rfl d_M_draft_13 ?_
      refine lv_bipush (v := 40) hx hb d_M_draft_16 (by decide) ?_
      refine lv_icmp_ne (tgt := 23) hx hb d_M_draft_18 rfl (fun hc => ?_) (fun hc => ?_)
      · have hw := hw.1 hc
        refine lv_aload_n hx hb d_M_draft_23 rfl (lv_at hl 0 rfl) ?_
        refine va_get (ci := 9) (C := R_Mo) (T := F_Mo) (N := 24) hx hb htb in_Mo hown hK hP 0 rfl rfl 0 (by decide) (htb _ tw696) (fun _ h9 => h9) rfl d_M_draft_24 ?_
        refine lv_aload_n hx hb d_M_draft_27 rfl (lv_at hl 0 rfl) ?_
        refine va_get (ci := 9) (C := R_Mo) (T := F_Mo) (N := 24) hx hb htb in_Mo hown hK hP 0 rfl rfl 1 (by decide) (htb _ tw697) (fun _ h9 => h9) rfl d_M_draft_28 ?_
        refine lv_iload_n hx hb d_M_draft_31 rfl (lv_at hl 1 rfl) ?_
        have hi := hw.1
        have hw := hw.2
        refine va_iast hx hb hK hP hD hS 1 0 rfl rfl hi d_M_draft_32 (fun H locs hP hD hS => ?_)
        have hP : va_P D vwCl (wd_Mo cA mo mo_dr mo_now mo_first mo_has mo_da mo_dl mo_af mo_al mo_sy mo_dg mo_out mo_tx m_ds m_st m_sub m_q m_two m_least m_os m_ts m_fs m_fc m_g m_gs (upd m_dr m_ds.toNatClampNeg cd) m_now m_first m_has m_da m_dl m_af m_al m_sy m_dg m_out m_tx) H := hP
        have hD : va_D A (wd_Mo cA mo mo_dr mo_now mo_first mo_has mo_da mo_dl mo_af mo_al mo_sy mo_dg mo_out mo_tx m_ds m_st m_sub m_q m_two m_least m_os m_ts m_fs m_fc m_g m_gs (upd m_dr m_ds.toNatClampNeg cd) m_now m_first m_has m_da m_dl m_af m_al m_sy m_dg m_out m_tx) := hD
        refine lv_aload_n hx hb d_M_draft_33 rfl (lv_at hl 0 rfl) ?_
        refine lv_dup hx hb d_M_draft_34 rfl ?_
        refine va_get (ci := 9) (C := R_Mo) (T := F_Mo) (N := 24) hx hb htb in_Mo hown hK hP 0 rfl rfl 1 (by decide) (htb _ tw697) (fun _ h9 => h9) rfl d_M_draft_35 ?_
        refine lv_iconst (v := 1) hx hb d_M_draft_38 (by decide) ?_
        refine lv_iadd hx hb d_M_draft_39 ?_
        refine va_put (ci := 9) (v := .int (m_ds + 1)) (ty := .int) (C := R_Mo) (T := F_Mo) (N := 24) hx hb htb in_Mo t_Mo t_Mo_ok n_Mo hown hK hP hD hS 0 rfl rfl 1 (by decide) (htb _ tw697) (fun _ h9 => h9) rfl (by decide +kernel) rfl rfl (Nat.le_of_ble_eq_true rfl) d_M_draft_40 (fun H locs hP hD hS => ?_)
        have hP : va_P D vwCl (wd_Mo cA mo mo_dr mo_now mo_first mo_has mo_da mo_dl mo_af mo_al mo_sy mo_dg mo_out mo_tx (m_ds + 1) m_st m_sub m_q m_two m_least m_os m_ts m_fs m_fc m_g m_gs (upd m_dr m_ds.toNatClampNeg cd) m_now m_first m_has m_da m_dl m_af m_al m_sy m_dg m_out m_tx) H := hP
        have hD : va_D A (wd_Mo cA mo mo_dr mo_now mo_first mo_has mo_da mo_dl mo_af mo_al mo_sy mo_dg mo_out mo_tx (m_ds + 1) m_st m_sub m_q m_two m_least m_os m_ts m_fs m_fc m_g m_gs (upd m_dr m_ds.toNatClampNeg cd) m_now m_first m_has m_da m_dl m_af m_al m_sy m_dg m_out m_tx) := hD
        refine lv_iconst (v := 1) hx hb d_M_draft_43 (by decide) ?_
        exact ct_zret true hx hb hr hlk hK hS (m_ds + 1, upd m_dr m_ds.toNatClampNeg cd) hw hP hD d_M_draft_44
      · have hw := hw.2 hc
        refine lv_iconst (v := 0) hx hb d_M_draft_21 (by decide) ?_
        exact ct_zret false hx hb hr hlk hK hS (m_ds, m_dr) hw hP hD d_M_draft_22
/-! DecimalPatternsModel.scrap()V -/
def wp_M_scrap (m_ds : Int32) (Q : Int32 → Prop) : Prop := Q 0
set_option maxHeartbeats 4000000 in
set_option maxRecDepth 100000 in
theorem c_M_scrap (l : Launch) (D : va_G) (cA : ClassId) (mo mo_dr mo_now mo_first mo_has mo_da mo_dl mo_af mo_al mo_sy mo_dg mo_out mo_tx : Nat) (m_ds : Int32) (m_st : Int32) (m_sub : Int32) (m_q : Int32) (m_two : Bool) (m_least : Int32) (m_os : Int32) (m_ts : Int32) (m_fs : Int64) (m_fc : Int32) (m_g : Int64) (m_gs : Int32) (m_dr : Nat → Int32) (m_now : Nat → Int32) (m_first : Nat → Int32) (m_has : Nat → Int32) (m_da : Nat → Int32) (m_dl : Nat → Int32) (m_af : Nat → Int32) (m_al : Nat → Int32) (m_sy : Nat → Int32) (m_dg : Nat → Int32) (m_out : Nat → Int32) (m_tx : Nat → Int32) (Q : Int32 → Prop) (hw : wp_M_scrap m_ds Q) : ct_M vwCl l D [(cA, .int)] y_M_scrap w_M_scrap { frames := 0, cells := 0, slots := 0, locals := 0 } [.ref mo] (wd_Mo cA mo mo_dr mo_now mo_first mo_has mo_da mo_dl mo_af mo_al mo_sy mo_dg mo_out mo_tx m_ds m_st m_sub m_q m_two m_least m_os m_ts m_fs m_fc m_g m_gs m_dr m_now m_first m_has m_da m_dl m_af m_al m_sy m_dg m_out m_tx) (ct_qv vwCl D [(cA, .int)] Q (fun u => wd_Mo cA mo mo_dr mo_now mo_first mo_has mo_da mo_dl mo_af mo_al mo_sy mo_dg mo_out mo_tx u m_st m_sub m_q m_two m_least m_os m_ts m_fs m_fc m_g m_gs m_dr m_now m_first m_has m_da m_dl m_af m_al m_sy m_dg m_out m_tx)) := by
  refine ct_enter (cc := b_M_scrap) (maxL := 1) (ret := none) (by decide) rfl (Nat.le_of_ble_eq_true rfl) ?_
  intro p e s m args below meth c A ls hx hb hr hlk hml hts hown hA hS hP hK hN hD hl
  have hl : lv_has ls 1 [(0, .ref mo)] := hl
  have htb : ∀ w ∈ tbl, w.before args s = true := fun w h => hts w (List.mem_cons_of_mem _ h)
  have hown : s.vm.findClass "DecimalPatternsModel" = some m.cls := hown
  unfold wp_M_scrap at hw
  refine lv_aload_n hx hb d_M_scrap_0 rfl (lv_at hl 0 rfl) ?_
  refine lv_iconst (v := 0) hx hb d_M_scrap_1 (by decide) ?_
  refine va_put (ci := 9) (v := .int 0) (ty := .int) (C := R_Mo) (T := F_Mo) (N := 24) hx hb htb in_Mo t_Mo t_Mo_ok n_Mo hown hK hP hD hS 0 rfl rfl 1 (by decide) (htb _ tw697) (fun _ h9 => h9) rfl (by decide +kernel) rfl rfl (Nat.le_of_ble_eq_true rfl) d_M_scrap_2 (fun H locs hP hD hS => ?_)
  have hP : va_P D vwCl (wd_Mo cA mo mo_dr mo_now mo_first mo_has mo_da mo_dl mo_af mo_al mo_sy mo_dg mo_out mo_tx 0 m_st m_sub m_q m_two m_least m_os m_ts m_fs m_fc m_g m_gs m_dr m_now m_first m_has m_da m_dl m_af m_al m_sy m_dg m_out m_tx) H := hP
  have hD : va_D A (wd_Mo cA mo mo_dr mo_now mo_first mo_has mo_da mo_dl mo_af mo_al mo_sy mo_dg mo_out mo_tx 0 m_st m_sub m_q m_two m_least m_os m_ts m_fs m_fc m_g m_gs m_dr m_now m_first m_has m_da m_dl m_af m_al m_sy m_dg m_out m_tx) := hD
  exact ct_vret hx hb hr hlk hK hS 0 hw hP hD d_M_scrap_5
/-! DecimalPatternsModel.begin(I)V -/
def wp_M_begin_L120 : Nat → Int32 → Int32 → Int32 → Int32 → (Nat → Int32) → (Nat → Int32) → ((Int32 × Int32 × (Nat → Int32) × (Nat → Int32)) → Prop) → Prop
  | 0, _, _, _, _, _, _, _ => False
  | n120 + 1, x1, x2, m_st, m_sub, m_now, m_dl, Q => (9 ≤ x2 → (vp_in (2 * x1) 4 ∧ (vp_in ((2 * x1) + 1) 4 ∧ (Q (m_st, m_sub, m_now, upd (upd m_dl (2 * x1).toNatClampNeg 0) ((2 * x1) + 1).toNatClampNeg 0))))) ∧ (¬ 9 ≤ x2 → (vp_in x2 9 ∧ (wp_M_begin_L120 n120 x1 (x2 + 1) m_st m_sub (upd m_now x2.toNatClampNeg 0) m_dl Q)))
def wp_M_begin (m_st : Int32) (m_sub : Int32) (m_now : Nat → Int32) (m_dl : Nat → Int32) (wh : Int32) (Q : (Int32 × Int32 × (Nat → Int32) × (Nat → Int32)) → Prop) : Prop := ∃ n120, wp_M_begin_L120 n120 wh 0 0 wh m_now m_dl Q
set_option maxHeartbeats 4000000 in
set_option maxRecDepth 100000 in
theorem c_M_begin (l : Launch) (D : va_G) (cA : ClassId) (mo mo_dr mo_now mo_first mo_has mo_da mo_dl mo_af mo_al mo_sy mo_dg mo_out mo_tx : Nat) (m_ds : Int32) (m_st : Int32) (m_sub : Int32) (m_q : Int32) (m_two : Bool) (m_least : Int32) (m_os : Int32) (m_ts : Int32) (m_fs : Int64) (m_fc : Int32) (m_g : Int64) (m_gs : Int32) (m_dr : Nat → Int32) (m_now : Nat → Int32) (m_first : Nat → Int32) (m_has : Nat → Int32) (m_da : Nat → Int32) (m_dl : Nat → Int32) (m_af : Nat → Int32) (m_al : Nat → Int32) (m_sy : Nat → Int32) (m_dg : Nat → Int32) (m_out : Nat → Int32) (m_tx : Nat → Int32) (wh : Int32) (Q : (Int32 × Int32 × (Nat → Int32) × (Nat → Int32)) → Prop) (hw : wp_M_begin m_st m_sub m_now m_dl wh Q) : ct_M vwCl l D [(cA, .int)] y_M_begin w_M_begin { frames := 0, cells := 0, slots := 0, locals := 0 } [.ref mo, .int wh] (wd_Mo cA mo mo_dr mo_now mo_first mo_has mo_da mo_dl mo_af mo_al mo_sy mo_dg mo_out mo_tx m_ds m_st m_sub m_q m_two m_least m_os m_ts m_fs m_fc m_g m_gs m_dr m_now m_first m_has m_da m_dl m_af m_al m_sy m_dg m_out m_tx) (ct_qv vwCl D [(cA, .int)] Q (fun u => wd_Mo cA mo mo_dr mo_now mo_first mo_has mo_da mo_dl mo_af mo_al mo_sy mo_dg mo_out mo_tx m_ds u.1 u.2.1 m_q m_two m_least m_os m_ts m_fs m_fc m_g m_gs m_dr u.2.2.1 m_first m_has m_da u.2.2.2 m_af m_al m_sy m_dg m_out m_tx)) := by
  refine ct_enter (cc := b_M_begin) (maxL := 3) (ret := none) (by decide) rfl (Nat.le_of_ble_eq_true rfl) ?_
  intro p e s m args below meth c A ls hx hb hr hlk hml hts hown hA hS hP hK hN hD hl
  have hl : lv_has ls 3 [(0, .ref mo), (1, .int wh)] := hl
  have htb : ∀ w ∈ tbl, w.before args s = true := fun w h => hts w (List.mem_cons_of_mem _ h)
  have hown : s.vm.findClass "DecimalPatternsModel" = some m.cls := hown
  unfold wp_M_begin at hw
  have hL120 : ∀ (n120 : Nat) (x1 : Int32) (x2 : Int32) (m_st : Int32) (m_sub : Int32) (m_now : Nat → Int32) (m_dl : Nat → Int32) (H : Heap) (locs : List Loc) (ls : Array Slot), lv_has ls 3 [(0, .ref mo), (1, .int x1), (2, .int x2)] → va_P D vwCl (wd_Mo cA mo mo_dr mo_now mo_first mo_has mo_da mo_dl mo_af mo_al mo_sy mo_dg mo_out mo_tx m_ds m_st m_sub m_q m_two m_least m_os m_ts m_fs m_fc m_g m_gs m_dr m_now m_first m_has m_da m_dl m_af m_al m_sy m_dg m_out m_tx) H → va_D A (wd_Mo cA mo mo_dr mo_now mo_first mo_has mo_da mo_dl mo_af mo_al mo_sy mo_dg mo_out mo_tx m_ds m_st m_sub m_q m_two m_least m_os m_ts m_fs m_fc m_g m_gs m_dr m_now m_first m_has m_da m_dl m_af m_al m_sy m_dg m_out m_tx) → va_S A s.heap H locs → wp_M_begin_L120 n120 x1 x2 m_st m_sub m_now m_dl Q → W p l e { frames := 0, cells := 0, slots := 0, locals := 0 } s m args below meth c H locs 0 0 (MQ below (ct_qv vwCl D [(cA, .int)] Q (fun u => wd_Mo cA mo mo_dr mo_now mo_first mo_has mo_da mo_dl mo_af mo_al mo_sy mo_dg mo_out mo_tx m_ds u.1 u.2.1 m_q m_two m_least m_os m_ts m_fs m_fc m_g m_gs m_dr u.2.2.1 m_first m_has m_da u.2.2.2 m_af m_al m_sy m_dg m_out m_tx) A) args s 0 0 A) (F0 m 12 ls []) := by
    intro n120
    induction n120 with
    | zero => intro x1 x2 m_st m_sub m_now m_dl H locs ls hl hP hD hS hw; exact hw.elim
    | succ n120 ih120 =>
      intro x1 x2 m_st m_sub m_now m_dl H locs ls hl hP hD hS hw
      unfold wp_M_begin_L120 at hw
      refine lv_iload_n hx hb d_M_begin_12 rfl (lv_at hl 2 rfl) ?_
      refine lv_bipush (v := 9) hx hb d_M_begin_13 (by decide) ?_
      refine lv_icmp_ge (tgt := 31) hx hb d_M_begin_15 rfl (fun hc => ?_) (fun hc => ?_)
      · have hw := hw.1 hc
        refine lv_aload_n hx hb d_M_begin_31 rfl (lv_at hl 0 rfl) ?_
        refine va_get (ci := 9) (C := R_Mo) (T := F_Mo) (N := 24) hx hb htb in_Mo hown hK hP 0 rfl rfl 9 (by decide) (htb _ tw705) (fun _ h9 => h9) rfl d_M_begin_32 ?_
        refine lv_iconst (v := 2) hx hb d_M_begin_35 (by decide) ?_
        refine lv_iload_n hx hb d_M_begin_36 rfl (lv_at hl 1 rfl) ?_
        refine lv_imul hx hb d_M_begin_37 ?_
        refine lv_iconst (v := 0) hx hb d_M_begin_38 (by decide) ?_
        have hi := hw.1
        have hw := hw.2
        refine va_iast hx hb hK hP hD hS 6 0 rfl rfl hi d_M_begin_39 (fun H locs hP hD hS => ?_)
        have hP : va_P D vwCl (wd_Mo cA mo mo_dr mo_now mo_first mo_has mo_da mo_dl mo_af mo_al mo_sy mo_dg mo_out mo_tx m_ds m_st m_sub m_q m_two m_least m_os m_ts m_fs m_fc m_g m_gs m_dr m_now m_first m_has m_da (upd m_dl (2 * x1).toNatClampNeg 0) m_af m_al m_sy m_dg m_out m_tx) H := hP
        have hD : va_D A (wd_Mo cA mo mo_dr mo_now mo_first mo_has mo_da mo_dl mo_af mo_al mo_sy mo_dg mo_out mo_tx m_ds m_st m_sub m_q m_two m_least m_os m_ts m_fs m_fc m_g m_gs m_dr m_now m_first m_has m_da (upd m_dl (2 * x1).toNatClampNeg 0) m_af m_al m_sy m_dg m_out m_tx) := hD
        refine lv_aload_n hx hb d_M_begin_40 rfl (lv_at hl 0 rfl) ?_
        refine va_get (ci := 9) (C := R_Mo) (T := F_Mo) (N := 24) hx hb htb in_Mo hown hK hP 0 rfl rfl 9 (by decide) (htb _ tw705) (fun _ h9 => h9) rfl d_M_begin_41 ?_
        refine lv_iconst (v := 2) hx hb d_M_begin_44 (by decide) ?_
        refine lv_iload_n hx hb d_M_begin_45 rfl (lv_at hl 1 rfl) ?_
        refine lv_imul hx hb d_M_begin_46 ?_
        refine lv_iconst (v := 1) hx hb d_M_begin_47 (by decide) ?_
        refine lv_iadd hx hb d_M_begin_48 ?_
        refine lv_iconst (v := 0) hx hb d_M_begin_49 (by decide) ?_
        have hi := hw.1
        have hw := hw.2
        refine va_iast hx hb hK hP hD hS 6 0 rfl rfl hi d_M_begin_50 (fun H locs hP hD hS => ?_)
        have hP : va_P D vwCl (wd_Mo cA mo mo_dr mo_now mo_first mo_has mo_da mo_dl mo_af mo_al mo_sy mo_dg mo_out mo_tx m_ds m_st m_sub m_q m_two m_least m_os m_ts m_fs m_fc m_g m_gs m_dr m_now m_first m_has m_da (upd (upd m_dl (2 * x1).toNatClampNeg 0) ((2 * x1) + 1).toNatClampNeg 0) m_af m_al m_sy m_dg m_out m_tx) H := hP
        have hD : va_D A (wd_Mo cA mo mo_dr mo_now mo_first mo_has mo_da mo_dl mo_af mo_al mo_sy mo_dg mo_out mo_tx m_ds m_st m_sub m_q m_two m_least m_os m_ts m_fs m_fc m_g m_gs m_dr m_now m_first m_has m_da (upd (upd m_dl (2 * x1).toNatClampNeg 0) ((2 * x1) + 1).toNatClampNeg 0) m_af m_al m_sy m_dg m_out m_tx) := hD
        exact ct_vret hx hb hr hlk hK hS (m_st, m_sub, m_now, upd (upd m_dl (2 * x1).toNatClampNeg 0) ((2 * x1) + 1).toNatClampNeg 0) hw hP hD d_M_begin_51
      · have hw := hw.2 hc
        refine lv_aload_n hx hb d_M_begin_18 rfl (lv_at hl 0 rfl) ?_
        refine va_get (ci := 9) (C := R_Mo) (T := F_Mo) (N := 24) hx hb htb in_Mo hown hK hP 0 rfl rfl 5 (by decide) (htb _ tw701) (fun _ h9 => h9) rfl d_M_begin_19 ?_
        refine lv_iload_n hx hb d_M_begin_22 rfl (lv_at hl 2 rfl) ?_
        refine lv_iconst (v := 0) hx hb d_M_begin_23 (by decide) ?_
        have hi := hw.1
        have hw := hw.2
        refine va_iast hx hb hK hP hD hS 2 0 rfl rfl hi d_M_begin_24 (fun H locs hP hD hS => ?_)
        have hP : va_P D vwCl (wd_Mo cA mo mo_dr mo_now mo_first mo_has mo_da mo_dl mo_af mo_al mo_sy mo_dg mo_out mo_tx m_ds m_st m_sub m_q m_two m_least m_os m_ts m_fs m_fc m_g m_gs m_dr (upd m_now x2.toNatClampNeg 0) m_first m_has m_da m_dl m_af m_al m_sy m_dg m_out m_tx) H := hP
        have hD : va_D A (wd_Mo cA mo mo_dr mo_now mo_first mo_has mo_da mo_dl mo_af mo_al mo_sy mo_dg mo_out mo_tx m_ds m_st m_sub m_q m_two m_least m_os m_ts m_fs m_fc m_g m_gs m_dr (upd m_now x2.toNatClampNeg 0) m_first m_has m_da m_dl m_af m_al m_sy m_dg m_out m_tx) := hD
        refine lv_iinc (k := 2) (v := x2 + 1) (lv' := [(2, .int (x2 + 1)), (0, .ref mo), (1, .int x1)]) hx hb d_M_begin_25 hl rfl (by rfl) (by decide) rfl (fun ls hl => ?_)
        refine lv_goto (tgt := 12) hx hb d_M_begin_28 rfl ?_
        exact ih120 x1 (x2 + 1) m_st m_sub (upd m_now x2.toNatClampNeg 0) m_dl _ _ _ (lv_sub hl [1, 2, 0] rfl) hP hD hS hw
  refine lv_aload_n hx hb d_M_begin_0 rfl (lv_at hl 0 rfl) ?_
  refine lv_iload_n hx hb d_M_begin_1 rfl (lv_at hl 1 rfl) ?_
  refine va_put (ci := 9) (v := .int wh) (ty := .int) (C := R_Mo) (T := F_Mo) (N := 24) hx hb htb in_Mo t_Mo t_Mo_ok n_Mo hown hK hP hD hS 0 rfl rfl 3 (by decide) (htb _ tw699) (fun _ h9 => h9) rfl (by decide +kernel) rfl rfl (Nat.le_of_ble_eq_true rfl) d_M_begin_2 (fun H locs hP hD hS => ?_)
  have hP : va_P D vwCl (wd_Mo cA mo mo_dr mo_now mo_first mo_has mo_da mo_dl mo_af mo_al mo_sy mo_dg mo_out mo_tx m_ds m_st wh m_q m_two m_least m_os m_ts m_fs m_fc m_g m_gs m_dr m_now m_first m_has m_da m_dl m_af m_al m_sy m_dg m_out m_tx) H := hP
  have hD : va_D A (wd_Mo cA mo mo_dr mo_now mo_first mo_has mo_da mo_dl mo_af mo_al mo_sy mo_dg mo_out mo_tx m_ds m_st wh m_q m_two m_least m_os m_ts m_fs m_fc m_g m_gs m_dr m_now m_first m_has m_da m_dl m_af m_al m_sy m_dg m_out m_tx) := hD
  refine lv_aload_n hx hb d_M_begin_5 rfl (lv_at hl 0 rfl) ?_
  refine lv_iconst (v := 0) hx hb d_M_begin_6 (by decide) ?_
  refine va_put (ci := 9) (v := .int 0) (ty := .int) (C := R_Mo) (T := F_Mo) (N := 24) hx hb htb in_Mo t_Mo t_Mo_ok n_Mo hown hK hP hD hS 0 rfl rfl 2 (by decide) (htb _ tw698) (fun _ h9 => h9) rfl (by decide +kernel) rfl rfl (Nat.le_of_ble_eq_true rfl) d_M_begin_7 (fun H locs hP hD hS => ?_)
  have hP : va_P D vwCl (wd_Mo cA mo mo_dr mo_now mo_first mo_has mo_da mo_dl mo_af mo_al mo_sy mo_dg mo_out mo_tx m_ds 0 wh m_q m_two m_least m_os m_ts m_fs m_fc m_g m_gs m_dr m_now m_first m_has m_da m_dl m_af m_al m_sy m_dg m_out m_tx) H := hP
  have hD : va_D A (wd_Mo cA mo mo_dr mo_now mo_first mo_has mo_da mo_dl mo_af mo_al mo_sy mo_dg mo_out mo_tx m_ds 0 wh m_q m_two m_least m_os m_ts m_fs m_fc m_g m_gs m_dr m_now m_first m_has m_da m_dl m_af m_al m_sy m_dg m_out m_tx) := hD
  refine lv_iconst (v := 0) hx hb d_M_begin_10 (by decide) ?_
  refine lv_istore_n (lv' := [(2, .int 0), (0, .ref mo), (1, .int wh)]) hx hb d_M_begin_11 rfl hl (by decide) rfl (fun ls hl => ?_)
  obtain ⟨n120, hw⟩ := hw
  exact hL120 n120 wh 0 0 wh m_now m_dl _ _ _ (lv_sub hl [1, 2, 0] rfl) hP hD hS hw
/-! DecimalPatternsModel.keep(I)V -/
def wp_M_keep_J290 (m_st : Int32) (m_sub : Int32) (x1 : Int32) (y0 : Bool) (y1 : Int32) (m_da : Nat → Int32) (m_dl : Nat → Int32) (Q : ((Nat → Int32) × (Nat → Int32)) → Prop) : Prop := vp_in (y1 + (bI y0)) 4 ∧ (vp_in ((40 * (y1 + (bI y0))) + (m_dl (y1 + (bI y0)).toNatClampNeg)) 160 ∧ (vp_in (y1 + (bI y0)) 4 ∧ (vp_in (y1 + (bI y0)) 4 ∧ (Q (upd m_da ((40 * (y1 + (bI y0))) + (m_dl (y1 + (bI y0)).toNatClampNeg)).toNatClampNeg x1, upd m_dl (y1 + (bI y0)).toNatClampNeg ((m_dl (y1 + (bI y0)).toNatClampNeg) + 1))))))
def wp_M_keep_J240 (m_st : Int32) (m_sub : Int32) (x1 : Int32) (y0 : Int32) (m_da : Nat → Int32) (m_dl : Nat → Int32) (Q : ((Nat → Int32) × (Nat → Int32)) → Prop) : Prop := wp_M_keep_J290 m_st m_sub x1 true y0 m_da m_dl Q
def wp_M_keep (m_st : Int32) (m_sub : Int32) (m_da : Nat → Int32) (m_dl : Nat → Int32) (cd : Int32) (Q : ((Nat → Int32) × (Nat → Int32)) → Prop) : Prop := (m_st = 10 → (wp_M_keep_J240 m_st m_sub cd (2 * m_sub) m_da m_dl Q)) ∧ (¬ m_st = 10 → ((¬ m_st = 11 → (wp_M_keep_J290 m_st m_sub cd false (2 * m_sub) m_da m_dl Q)) ∧ (m_st = 11 → (wp_M_keep_J240 m_st m_sub cd (2 * m_sub) m_da m_dl Q))))
set_option maxHeartbeats 4000000 in
set_option maxRecDepth 100000 in
theorem c_M_keep (l : Launch) (D : va_G) (cA : ClassId) (mo mo_dr mo_now mo_first mo_has mo_da mo_dl mo_af mo_al mo_sy mo_dg mo_out mo_tx : Nat) (m_ds : Int32) (m_st : Int32) (m_sub : Int32) (m_q : Int32) (m_two : Bool) (m_least : Int32) (m_os : Int32) (m_ts : Int32) (m_fs : Int64) (m_fc : Int32) (m_g : Int64) (m_gs : Int32) (m_dr : Nat → Int32) (m_now : Nat → Int32) (m_first : Nat → Int32) (m_has : Nat → Int32) (m_da : Nat → Int32) (m_dl : Nat → Int32) (m_af : Nat → Int32) (m_al : Nat → Int32) (m_sy : Nat → Int32) (m_dg : Nat → Int32) (m_out : Nat → Int32) (m_tx : Nat → Int32) (cd : Int32) (Q : ((Nat → Int32) × (Nat → Int32)) → Prop) (hw : wp_M_keep m_st m_sub m_da m_dl cd Q) : ct_M vwCl l D [(cA, .int)] y_M_keep w_M_keep { frames := 0, cells := 0, slots := 0, locals := 0 } [.ref mo, .int cd] (wd_Mo cA mo mo_dr mo_now mo_first mo_has mo_da mo_dl mo_af mo_al mo_sy mo_dg mo_out mo_tx m_ds m_st m_sub m_q m_two m_least m_os m_ts m_fs m_fc m_g m_gs m_dr m_now m_first m_has m_da m_dl m_af m_al m_sy m_dg m_out m_tx) (ct_qv vwCl D [(cA, .int)] Q (fun u => wd_Mo cA mo mo_dr mo_now mo_first mo_has mo_da mo_dl mo_af mo_al mo_sy mo_dg mo_out mo_tx m_ds m_st m_sub m_q m_two m_least m_os m_ts m_fs m_fc m_g m_gs m_dr m_now m_first m_has u.1 u.2 m_af m_al m_sy m_dg m_out m_tx)) := by
  refine ct_enter (cc := b_M_keep) (maxL := 3) (ret := none) (by decide) rfl (Nat.le_of_ble_eq_true rfl) ?_
  intro p e s m args below meth c A ls hx hb hr hlk hml hts hown hA hS hP hK hN hD hl
  have hl : lv_has ls 3 [(0, .ref mo), (1, .int cd)] := hl
  have htb : ∀ w ∈ tbl, w.before args s = true := fun w h => hts w (List.mem_cons_of_mem _ h)
  have hown : s.vm.findClass "DecimalPatternsModel" = some m.cls := hown
  unfold wp_M_keep at hw
  have hJ290 : ∀ (x1 : Int32) (y0 : Bool) (y1 : Int32) (m_da : Nat → Int32) (m_dl : Nat → Int32) (H : Heap) (locs : List Loc) (ls : Array Slot), lv_has ls 3 [(0, .ref mo), (1, .int x1)] → va_P D vwCl (wd_Mo cA mo mo_dr mo_now mo_first mo_has mo_da mo_dl mo_af mo_al mo_sy mo_dg mo_out mo_tx m_ds m_st m_sub m_q m_two m_least m_os m_ts m_fs m_fc m_g m_gs m_dr m_now m_first m_has m_da m_dl m_af m_al m_sy m_dg m_out m_tx) H → va_D A (wd_Mo cA mo mo_dr mo_now mo_first mo_has mo_da mo_dl mo_af mo_al mo_sy mo_dg mo_out mo_tx m_ds m_st m_sub m_q m_two m_least m_os m_ts m_fs m_fc m_g m_gs m_dr m_now m_first m_has m_da m_dl m_af m_al m_sy m_dg m_out m_tx) → va_S A s.heap H locs → wp_M_keep_J290 m_st m_sub x1 y0 y1 m_da m_dl Q → W p l e { frames := 0, cells := 0, slots := 0, locals := 0 } s m args below meth c H locs 0 0 (MQ below (ct_qv vwCl D [(cA, .int)] Q (fun u => wd_Mo cA mo mo_dr mo_now mo_first mo_has mo_da mo_dl mo_af mo_al mo_sy mo_dg mo_out mo_tx m_ds m_st m_sub m_q m_two m_least m_os m_ts m_fs m_fc m_g m_gs m_dr m_now m_first m_has u.1 u.2 m_af m_al m_sy m_dg m_out m_tx) A) args s 0 0 A) (F0 m 29 ls [.int (bI y0), .int y1]) := by
    intro x1 y0 y1 m_da m_dl H locs ls hl hP hD hS hw
    unfold wp_M_keep_J290 at hw
    refine lv_iadd hx hb d_M_keep_29 ?_
    refine lv_istore_n (lv' := [(2, .int (y1 + (bI y0))), (0, .ref mo), (1, .int x1)]) hx hb d_M_keep_30 rfl hl (by decide) rfl (fun ls hl => ?_)
    refine lv_aload_n hx hb d_M_keep_31 rfl (lv_at hl 1 rfl) ?_
    refine va_get (ci := 9) (C := R_Mo) (T := F_Mo) (N := 24) hx hb htb in_Mo hown hK hP 0 rfl rfl 8 (by decide) (htb _ tw704) (fun _ h9 => h9) rfl d_M_keep_32 ?_
    refine lv_bipush (v := 40) hx hb d_M_keep_35 (by decide) ?_
    refine lv_iload_n hx hb d_M_keep_37 rfl (lv_at hl 0 rfl) ?_
    refine lv_imul hx hb d_M_keep_38 ?_
    refine lv_aload_n hx hb d_M_keep_39 rfl (lv_at hl 1 rfl) ?_
    refine va_get (ci := 9) (C := R_Mo) (T := F_Mo) (N := 24) hx hb htb in_Mo hown hK hP 0 rfl rfl 9 (by decide) (htb _ tw705) (fun _ h9 => h9) rfl d_M_keep_40 ?_
    refine lv_iload_n hx hb d_M_keep_43 rfl (lv_at hl 0 rfl) ?_
    have hi := hw.1
    have hw := hw.2
    refine va_iald hx hb hK hP 6 0 rfl rfl hi d_M_keep_44 ?_
    refine lv_iadd hx hb d_M_keep_45 ?_
    refine lv_iload_n hx hb d_M_keep_46 rfl (lv_at hl 2 rfl) ?_
    have hi := hw.1
    have hw := hw.2
    refine va_iast hx hb hK hP hD hS 5 0 rfl rfl hi d_M_keep_47 (fun H locs hP hD hS => ?_)
    have hP : va_P D vwCl (wd_Mo cA mo mo_dr mo_now mo_first mo_has mo_da mo_dl mo_af mo_al mo_sy mo_dg mo_out mo_tx m_ds m_st m_sub m_q m_two m_least m_os m_ts m_fs m_fc m_g m_gs m_dr m_now m_first m_has (upd m_da ((40 * (y1 + (bI y0))) + (m_dl (y1 + (bI y0)).toNatClampNeg)).toNatClampNeg x1) m_dl m_af m_al m_sy m_dg m_out m_tx) H := hP
    have hD : va_D A (wd_Mo cA mo mo_dr mo_now mo_first mo_has mo_da mo_dl mo_af mo_al mo_sy mo_dg mo_out mo_tx m_ds m_st m_sub m_q m_two m_least m_os m_ts m_fs m_fc m_g m_gs m_dr m_now m_first m_has (upd m_da ((40 * (y1 + (bI y0))) + (m_dl (y1 + (bI y0)).toNatClampNeg)).toNatClampNeg x1) m_dl m_af m_al m_sy m_dg m_out m_tx) := hD
    refine lv_aload_n hx hb d_M_keep_48 rfl (lv_at hl 1 rfl) ?_
    refine va_get (ci := 9) (C := R_Mo) (T := F_Mo) (N := 24) hx hb htb in_Mo hown hK hP 0 rfl rfl 9 (by decide) (htb _ tw705) (fun _ h9 => h9) rfl d_M_keep_49 ?_
    refine lv_iload_n hx hb d_M_keep_52 rfl (lv_at hl 0 rfl) ?_
    refine lv_dup2_11 hx hb d_M_keep_53 rfl rfl ?_
    have hi := hw.1
    have hw := hw.2
    refine va_iald hx hb hK hP 6 0 rfl rfl hi d_M_keep_54 ?_
    refine lv_iconst (v := 1) hx hb d_M_keep_55 (by decide) ?_
    refine lv_iadd hx hb d_M_keep_56 ?_
    have hi := hw.1
    have hw := hw.2
    refine va_iast hx hb hK hP hD hS 6 0 rfl rfl hi d_M_keep_57 (fun H locs hP hD hS => ?_)
    have hP : va_P D vwCl (wd_Mo cA mo mo_dr mo_now mo_first mo_has mo_da mo_dl mo_af mo_al mo_sy mo_dg mo_out mo_tx m_ds m_st m_sub m_q m_two m_least m_os m_ts m_fs m_fc m_g m_gs m_dr m_now m_first m_has (upd m_da ((40 * (y1 + (bI y0))) + (m_dl (y1 + (bI y0)).toNatClampNeg)).toNatClampNeg x1) (upd m_dl (y1 + (bI y0)).toNatClampNeg ((m_dl (y1 + (bI y0)).toNatClampNeg) + 1)) m_af m_al m_sy m_dg m_out m_tx) H := hP
    have hD : va_D A (wd_Mo cA mo mo_dr mo_now mo_first mo_has mo_da mo_dl mo_af mo_al mo_sy mo_dg mo_out mo_tx m_ds m_st m_sub m_q m_two m_least m_os m_ts m_fs m_fc m_g m_gs m_dr m_now m_first m_has (upd m_da ((40 * (y1 + (bI y0))) + (m_dl (y1 + (bI y0)).toNatClampNeg)).toNatClampNeg x1) (upd m_dl (y1 + (bI y0)).toNatClampNeg ((m_dl (y1 + (bI y0)).toNatClampNeg) + 1)) m_af m_al m_sy m_dg m_out m_tx) := hD
    exact ct_vret hx hb hr hlk hK hS (upd m_da ((40 * (y1 + (bI y0))) + (m_dl (y1 + (bI y0)).toNatClampNeg)).toNatClampNeg x1, upd m_dl (y1 + (bI y0)).toNatClampNeg ((m_dl (y1 + (bI y0)).toNatClampNeg) + 1)) hw hP hD d_M_keep_58
  have hJ240 : ∀ (x1 : Int32) (y0 : Int32) (m_da : Nat → Int32) (m_dl : Nat → Int32) (H : Heap) (locs : List Loc) (ls : Array Slot), lv_has ls 3 [(0, .ref mo), (1, .int x1)] → va_P D vwCl (wd_Mo cA mo mo_dr mo_now mo_first mo_has mo_da mo_dl mo_af mo_al mo_sy mo_dg mo_out mo_tx m_ds m_st m_sub m_q m_two m_least m_os m_ts m_fs m_fc m_g m_gs m_dr m_now m_first m_has m_da m_dl m_af m_al m_sy m_dg m_out m_tx) H → va_D A (wd_Mo cA mo mo_dr mo_now mo_first mo_has mo_da mo_dl mo_af mo_al mo_sy mo_dg mo_out mo_tx m_ds m_st m_sub m_q m_two m_least m_os m_ts m_fs m_fc m_g m_gs m_dr m_now m_first m_has m_da m_dl m_af m_al m_sy m_dg m_out m_tx) → va_S A s.heap H locs → wp_M_keep_J240 m_st m_sub x1 y0 m_da m_dl Q → W p l e { frames := 0, cells := 0, slots := 0, locals := 0 } s m args below meth c H locs 0 0 (MQ below (ct_qv vwCl D [(cA, .int)] Q (fun u => wd_Mo cA mo mo_dr mo_now mo_first mo_has mo_da mo_dl mo_af mo_al mo_sy mo_dg mo_out mo_tx m_ds m_st m_sub m_q m_two m_least m_os m_ts m_fs m_fc m_g m_gs m_dr m_now m_first m_has u.1 u.2 m_af m_al m_sy m_dg m_out m_tx) A) args s 0 0 A) (F0 m 24 ls [.int y0]) := by
    intro x1 y0 m_da m_dl H locs ls hl hP hD hS hw
    unfold wp_M_keep_J240 at hw
    refine lv_iconst (v := 1) hx hb d_M_keep_24 (by decide) ?_
    refine lv_goto (tgt := 29) hx hb d_M_keep_25 rfl ?_
    exact hJ290 x1 true y0 m_da m_dl _ _ _ (lv_sub hl [0, 1] rfl) hP hD hS hw
  refine lv_iconst (v := 2) hx hb d_M_keep_0 (by decide) ?_
  refine lv_aload_n hx hb d_M_keep_1 rfl (lv_at hl 0 rfl) ?_
  refine va_get (ci := 9) (C := R_Mo) (T := F_Mo) (N := 24) hx hb htb in_Mo hown hK hP 0 rfl rfl 3 (by decide) (htb _ tw699) (fun _ h9 => h9) rfl d_M_keep_2 ?_
  refine lv_imul hx hb d_M_keep_5 ?_
  refine lv_aload_n hx hb d_M_keep_6 rfl (lv_at hl 0 rfl) ?_
  refine va_get (ci := 9) (C := R_Mo) (T := F_Mo) (N := 24) hx hb htb in_Mo hown hK hP 0 rfl rfl 2 (by decide) (htb _ tw698) (fun _ h9 => h9) rfl d_M_keep_7 ?_
  refine lv_bipush (v := 10) hx hb d_M_keep_10 (by decide) ?_
  refine lv_icmp_eq (tgt := 24) hx hb d_M_keep_12 rfl (fun hc => ?_) (fun hc => ?_)
  · have hw := hw.1 hc
    exact hJ240 cd (2 * m_sub) m_da m_dl _ _ _ (lv_sub hl [0, 1] rfl) hP hD hS hw
  · have hw := hw.2 hc
    refine lv_aload_n hx hb d_M_keep_15 rfl (lv_at hl 0 rfl) ?_
    refine va_get (ci := 9) (C := R_Mo) (T := F_Mo) (N := 24) hx hb htb in_Mo hown hK hP 0 rfl rfl 2 (by decide) (htb _ tw698) (fun _ h9 => h9) rfl d_M_keep_16 ?_
    refine lv_bipush (v := 11) hx hb d_M_keep_19 (by decide) ?_
    refine lv_icmp_ne (tgt := 28) hx hb d_M_keep_21 rfl (fun hc => ?_) (fun hc => ?_)
    · have hw := hw.1 hc
      refine lv_iconst (v := 0) hx hb d_M_keep_28 (by decide) ?_
      exact hJ290 cd false (2 * m_sub) m_da m_dl _ _ _ (lv_sub hl [0, 1] rfl) hP hD hS hw
    · have hw := hw.2 hc
      exact hJ240 cd (2 * m_sub) m_da m_dl _ _ _ (lv_sub hl [0, 1] rfl) hP hD hS hw
/-! DecimalPatternsModel.special(I)Z -/
def wp_M_special_J180 (x0 : Int32) (Q : Bool → Unit → Prop) : Prop := (x0 = 44 → (Q true ())) ∧ (¬ x0 = 44 → ((x0 = 46 → (Q true ())) ∧ (¬ x0 = 46 → ((x0 = 69 → (Q true ())) ∧ (¬ x0 = 69 → ((¬ x0 = 59 → (Q false ())) ∧ (x0 = 59 → (Q true ()))))))))
def wp_M_special (cd : Int32) (Q : Bool → Unit → Prop) : Prop := (cd = 35 → (Q true ())) ∧ (¬ cd = 35 → ((cd < 48 → (wp_M_special_J180 cd Q)) ∧ (¬ cd < 48 → ((cd ≤ 57 → (Q true ())) ∧ (¬ cd ≤ 57 → (wp_M_special_J180 cd Q))))))
set_option maxHeartbeats 4000000 in
set_option maxRecDepth 100000 in
theorem c_M_special (l : Launch) (D : va_G) (cA : ClassId) (cd : Int32) (Q : Bool → Unit → Prop) (hw : wp_M_special cd Q) : ct_M vwCl l D [(cA, .int)] y_M_special w_M_special { frames := 0, cells := 0, slots := 0, locals := 0 } [.int cd] (wd_Nil cA) (ct_qz vwCl D [(cA, .int)] Q (fun u => wd_Nil cA)) := by
  refine ct_enter (cc := b_M_special) (maxL := 1) (ret := (some .boolean)) (by decide) rfl (Nat.le_of_ble_eq_true rfl) ?_
  intro p e s m args below meth c A ls hx hb hr hlk hml hts hown hA hS hP hK hN hD hl
  have hl : lv_has ls 1 [(0, .int cd)] := hl
  have htb : ∀ w ∈ tbl, w.before args s = true := fun w h => hts w (List.mem_cons_of_mem _ h)
  have hown : s.vm.findClass "DecimalPatternsModel" = some m.cls := hown
  unfold wp_M_special at hw
  have hJ180 : ∀ (x0 : Int32) (H : Heap) (locs : List Loc) (ls : Array Slot), lv_has ls 1 [(0, .int x0)] → va_P D vwCl (wd_Nil cA) H → va_D A (wd_Nil cA) → va_S A s.heap H locs → wp_M_special_J180 x0 Q → W p l e { frames := 0, cells := 0, slots := 0, locals := 0 } s m args below meth c H locs 0 0 (MQ below (ct_qz vwCl D [(cA, .int)] Q (fun u => wd_Nil cA) A) args s 0 0 A) (F0 m 18 ls []) := by
    intro x0 H locs ls hl hP hD hS hw
    unfold wp_M_special_J180 at hw
    refine lv_iload_n hx hb d_M_special_18 rfl (lv_at hl 0 rfl) ?_
    refine lv_bipush (v := 44) hx hb d_M_special_19 (by decide) ?_
    refine lv_icmp_eq (tgt := 42) hx hb d_M_special_21 rfl (fun hc => ?_) (fun hc => ?_)
    · have hw := hw.1 hc
      refine lv_iconst (v := 1) hx hb d_M_special_42 (by decide) ?_
      refine lv_goto (tgt := 47) hx hb d_M_special_43 rfl ?_
      exact ct_zret true hx hb hr hlk hK hS () hw hP hD d_M_special_47
    · have hw := hw.2 hc
      refine lv_iload_n hx hb d_M_special_24 rfl (lv_at hl 0 rfl) ?_
      refine lv_bipush (v := 46) hx hb d_M_special_25 (by decide) ?_
      refine lv_icmp_eq (tgt := 42) hx hb d_M_special_27 rfl (fun hc => ?_) (fun hc => ?_)
      · have hw := hw.1 hc
        refine lv_iconst (v := 1) hx hb d_M_special_42 (by decide) ?_
        refine lv_goto (tgt := 47) hx hb d_M_special_43 rfl ?_
        exact ct_zret true hx hb hr hlk hK hS () hw hP hD d_M_special_47
      · have hw := hw.2 hc
        refine lv_iload_n hx hb d_M_special_30 rfl (lv_at hl 0 rfl) ?_
        refine lv_bipush (v := 69) hx hb d_M_special_31 (by decide) ?_
        refine lv_icmp_eq (tgt := 42) hx hb d_M_special_33 rfl (fun hc => ?_) (fun hc => ?_)
        · have hw := hw.1 hc
          refine lv_iconst (v := 1) hx hb d_M_special_42 (by decide) ?_
          refine lv_goto (tgt := 47) hx hb d_M_special_43 rfl ?_
          exact ct_zret true hx hb hr hlk hK hS () hw hP hD d_M_special_47
        · have hw := hw.2 hc
          refine lv_iload_n hx hb d_M_special_36 rfl (lv_at hl 0 rfl) ?_
          refine lv_bipush (v := 59) hx hb d_M_special_37 (by decide) ?_
          refine lv_icmp_ne (tgt := 46) hx hb d_M_special_39 rfl (fun hc => ?_) (fun hc => ?_)
          · have hw := hw.1 hc
            refine lv_iconst (v := 0) hx hb d_M_special_46 (by decide) ?_
            exact ct_zret false hx hb hr hlk hK hS () hw hP hD d_M_special_47
          · have hw := hw.2 hc
            refine lv_iconst (v := 1) hx hb d_M_special_42 (by decide) ?_
            refine lv_goto (tgt := 47) hx hb d_M_special_43 rfl ?_
            exact ct_zret true hx hb hr hlk hK hS () hw hP hD d_M_special_47
  refine lv_iload_n hx hb d_M_special_0 rfl (lv_at hl 0 rfl) ?_
  refine lv_bipush (v := 35) hx hb d_M_special_1 (by decide) ?_
  refine lv_icmp_eq (tgt := 42) hx hb d_M_special_3 rfl (fun hc => ?_) (fun hc => ?_)
  · have hw := hw.1 hc
    refine lv_iconst (v := 1) hx hb d_M_special_42 (by decide) ?_
    refine lv_goto (tgt := 47) hx hb d_M_special_43 rfl ?_
    exact ct_zret true hx hb hr hlk hK hS () hw hP hD d_M_special_47
  · have hw := hw.2 hc
    refine lv_iload_n hx hb d_M_special_6 rfl (lv_at hl 0 rfl) ?_
    refine lv_bipush (v := 48) hx hb d_M_special_7 (by decide) ?_
    refine lv_icmp_lt (tgt := 18) hx hb d_M_special_9 rfl (fun hc => ?_) (fun hc => ?_)
    · have hw := hw.1 hc
      exact hJ180 cd _ _ _ (lv_sub hl [0] rfl) hP hD hS hw
    · have hw := hw.2 hc
      refine lv_iload_n hx hb d_M_special_12 rfl (lv_at hl 0 rfl) ?_
      refine lv_bipush (v := 57) hx hb d_M_special_13 (by decide) ?_
      refine lv_icmp_le (tgt := 42) hx hb d_M_special_15 rfl (fun hc => ?_) (fun hc => ?_)
      · have hw := hw.1 hc
        refine lv_iconst (v := 1) hx hb d_M_special_42 (by decide) ?_
        refine lv_goto (tgt := 47) hx hb d_M_special_43 rfl ?_
        exact ct_zret true hx hb hr hlk hK hS () hw hP hD d_M_special_47
      · have hw := hw.2 hc
        exact hJ180 cd _ _ _ (lv_sub hl [0] rfl) hP hD hS hw
/-! DecimalPatternsModel.plainAffix(II)Z -/
def wp_M_plainAffix (m_st : Int32) (m_sub : Int32) (m_q : Int32) (m_da : Nat → Int32) (m_dl : Nat → Int32) (cd : Int32) (qt : Int32) (Q : Bool → (Int32 × Int32 × (Nat → Int32) × (Nat → Int32)) → Prop) : Prop := wp_M_special cd (fun r1 u2 => (r1 = false → ((¬ cd = 39 → ((¬ cd = 45 → ((¬ cd = 37 → (wp_M_keep m_st m_sub m_da m_dl cd (fun u4 => Q true (m_st, m_q, u4.1, u4.2)))) ∧ (cd = 37 → (wp_M_keep m_st m_sub m_da m_dl 201 (fun u6 => Q true (m_st, m_q, u6.1, u6.2)))))) ∧ (cd = 45 → (wp_M_keep m_st m_sub m_da m_dl 200 (fun u8 => Q true (m_st, m_q, u8.1, u8.2)))))) ∧ (cd = 39 → (Q true (qt, 0, m_da, m_dl))))) ∧ (r1 = true → (Q false (m_st, m_q, m_da, m_dl))))
set_option maxHeartbeats 4000000 in
set_option maxRecDepth 100000 in
theorem c_M_plainAffix (l : Launch) (D : va_G) (cA : ClassId) (mo mo_dr mo_now mo_first mo_has mo_da mo_dl mo_af mo_al mo_sy mo_dg mo_out mo_tx : Nat) (m_ds : Int32) (m_st : Int32) (m_sub : Int32) (m_q : Int32) (m_two : Bool) (m_least : Int32) (m_os : Int32) (m_ts : Int32) (m_fs : Int64) (m_fc : Int32) (m_g : Int64) (m_gs : Int32) (m_dr : Nat → Int32) (m_now : Nat → Int32) (m_first : Nat → Int32) (m_has : Nat → Int32) (m_da : Nat → Int32) (m_dl : Nat → Int32) (m_af : Nat → Int32) (m_al : Nat → Int32) (m_sy : Nat → Int32) (m_dg : Nat → Int32) (m_out : Nat → Int32) (m_tx : Nat → Int32) (cd : Int32) (qt : Int32) (Q : Bool → (Int32 × Int32 × (Nat → Int32) × (Nat → Int32)) → Prop) (hw : wp_M_plainAffix m_st m_sub m_q m_da m_dl cd qt Q) : ct_M vwCl l D [(cA, .int)] y_M_plainAffix w_M_plainAffix { frames := 1, cells := 0, slots := 0, locals := 22 } [.ref mo, .int cd, .int qt] (wd_Mo cA mo mo_dr mo_now mo_first mo_has mo_da mo_dl mo_af mo_al mo_sy mo_dg mo_out mo_tx m_ds m_st m_sub m_q m_two m_least m_os m_ts m_fs m_fc m_g m_gs m_dr m_now m_first m_has m_da m_dl m_af m_al m_sy m_dg m_out m_tx) (ct_qz vwCl D [(cA, .int)] Q (fun u => wd_Mo cA mo mo_dr mo_now mo_first mo_has mo_da mo_dl mo_af mo_al mo_sy mo_dg mo_out mo_tx m_ds u.1 m_sub u.2.1 m_two m_least m_os m_ts m_fs m_fc m_g m_gs m_dr m_now m_first m_has u.2.2.1 u.2.2.2 m_af m_al m_sy m_dg m_out m_tx)) := by
  refine ct_enter (cc := b_M_plainAffix) (maxL := 3) (ret := (some .boolean)) (by decide) rfl (Nat.le_of_ble_eq_true rfl) ?_
  intro p e s m args below meth c A ls hx hb hr hlk hml hts hown hA hS hP hK hN hD hl
  have hl : lv_has ls 3 [(0, .ref mo), (1, .int cd), (2, .int qt)] := hl
  have htb : ∀ w ∈ tbl, w.before args s = true := fun w h => hts w (List.mem_cons_of_mem _ h)
  have hown : s.vm.findClass "DecimalPatternsModel" = some m.cls := hown
  unfold wp_M_plainAffix at hw
  refine lv_iload_n hx hb d_M_plainAffix_0 rfl (lv_at hl 1 rfl) ?_
  refine ct_callz (wn := fun _ => wd_Mo cA mo mo_dr mo_now mo_first mo_has mo_da mo_dl mo_af mo_al mo_sy mo_dg mo_out mo_tx m_ds m_st m_sub m_q m_two m_least m_os m_ts m_fs m_fc m_g m_gs m_dr m_now m_first m_has m_da m_dl m_af m_al m_sy m_dg m_out m_tx) (va_runS (As := [.int cd]) (rest := []) ⟨hx, hb, hml, hown, htb⟩ (c_M_special l D cA cd _ hw _) (ct_cwS 1 htb tw799 rfl rfl tw82 tw797 tw798 hd_M_special ⟨by decide, by decide⟩) (ct_preS hP hD hK hN [] rfl (by decide) _) rfl rfl hl.1 rfl (lv_room (Nat.le_of_ble_eq_true rfl)) d_M_plainAffix_1 ⟨Nat.zero_le _, Nat.zero_le _⟩) hP hD hS hA [] [0, 1, 2, 3, 4, 5, 6, 7, 8, 9, 10, 11, 12] [0, 1, 2, 3, 4, 5, 6, 7, 8, 9, 10, 11, 12] rfl rfl (by decide) (by decide) (fun _ => rfl) (by decide) (fun r1 u2 H locs hw hP hD hS => ?_)
  have hP : va_P D vwCl (wd_Mo cA mo mo_dr mo_now mo_first mo_has mo_da mo_dl mo_af mo_al mo_sy mo_dg mo_out mo_tx m_ds m_st m_sub m_q m_two m_least m_os m_ts m_fs m_fc m_g m_gs m_dr m_now m_first m_has m_da m_dl m_af m_al m_sy m_dg m_out m_tx) H := hP
  have hD : va_D A (wd_Mo cA mo mo_dr mo_now mo_first mo_has mo_da mo_dl mo_af mo_al mo_sy mo_dg mo_out mo_tx m_ds m_st m_sub m_q m_two m_least m_os m_ts m_fs m_fc m_g m_gs m_dr m_now m_first m_has m_da m_dl m_af m_al m_sy m_dg m_out m_tx) := hD
  refine lv_if_eq (tgt := 9) hx hb d_M_plainAffix_4 rfl (fun hc => ?_) (fun hc => ?_)
  · have hw := hw.1 ((bI_0 _).mp hc)
    refine lv_iload_n hx hb d_M_plainAffix_9 rfl (lv_at hl 1 rfl) ?_
    refine lv_bipush (v := 39) hx hb d_M_plainAffix_10 (by decide) ?_
    refine lv_icmp_ne (tgt := 27) hx hb d_M_plainAffix_12 rfl (fun hc => ?_) (fun hc => ?_)
    · have hw := hw.1 hc
      refine lv_aload_n hx hb d_M_plainAffix_27 rfl (lv_at hl 0 rfl) ?_
      refine lv_iload_n hx hb d_M_plainAffix_28 rfl (lv_at hl 1 rfl) ?_
      refine lv_bipush (v := 45) hx hb d_M_plainAffix_29 (by decide) ?_
      refine lv_icmp_ne (tgt := 40) hx hb d_M_plainAffix_31 rfl (fun hc => ?_) (fun hc => ?_)
      · have hw := hw.1 hc
        refine lv_iload_n hx hb d_M_plainAffix_40 rfl (lv_at hl 1 rfl) ?_
        refine lv_bipush (v := 37) hx hb d_M_plainAffix_41 (by decide) ?_
        refine lv_icmp_ne (tgt := 52) hx hb d_M_plainAffix_43 rfl (fun hc => ?_) (fun hc => ?_)
        · have hw := hw.1 hc
          refine lv_iload_n hx hb d_M_plainAffix_52 rfl (lv_at hl 1 rfl) ?_
          refine ct_callv (wn := fun u4 => wd_Mo cA mo mo_dr mo_now mo_first mo_has mo_da mo_dl mo_af mo_al mo_sy mo_dg mo_out mo_tx m_ds m_st m_sub m_q m_two m_least m_os m_ts m_fs m_fc m_g m_gs m_dr m_now m_first m_has u4.1 u4.2 m_af m_al m_sy m_dg m_out m_tx) (va_runV (As := [.int cd]) (rest := []) ⟨hx, hb, hml, hown, htb⟩ (c_M_keep l D cA mo mo_dr mo_now mo_first mo_has mo_da mo_dl mo_af mo_al mo_sy mo_dg mo_out mo_tx m_ds m_st m_sub m_q m_two m_least m_os m_ts m_fs m_fc m_g m_gs m_dr m_now m_first m_has m_da m_dl m_af m_al m_sy m_dg m_out m_tx cd _ hw _) (ct_cwV 1 htb tw803 rfl rfl tw82 tw800 tw802 tw45 hd_M_keep ⟨by decide, by decide⟩) (ct_preV hP hD hK hN [0, 1, 2, 3, 4, 5, 6, 7, 8, 9, 10, 11, 12] rfl (by decide) 0 rfl rfl _) rfl rfl hl.1 rfl (lv_room (Nat.le_of_ble_eq_true rfl)) d_M_plainAffix_53 ⟨Nat.zero_le _, Nat.zero_le _⟩) hP hD hS hA [0, 1, 2, 3, 4, 5, 6, 7, 8, 9, 10, 11, 12] [] [0, 1, 2, 3, 4, 5, 6, 7, 8, 9, 10, 11, 12] rfl rfl (by decide) (by decide) (fun _ => rfl) (by decide) (fun u4 H locs hw hP hD hS => ?_)
          have hP : va_P D vwCl (wd_Mo cA mo mo_dr mo_now mo_first mo_has mo_da mo_dl mo_af mo_al mo_sy mo_dg mo_out mo_tx m_ds m_st m_sub m_q m_two m_least m_os m_ts m_fs m_fc m_g m_gs m_dr m_now m_first m_has u4.1 u4.2 m_af m_al m_sy m_dg m_out m_tx) H := hP
          have hD : va_D A (wd_Mo cA mo mo_dr mo_now mo_first mo_has mo_da mo_dl mo_af mo_al mo_sy mo_dg mo_out mo_tx m_ds m_st m_sub m_q m_two m_least m_os m_ts m_fs m_fc m_g m_gs m_dr m_now m_first m_has u4.1 u4.2 m_af m_al m_sy m_dg m_out m_tx) := hD
          refine lv_iconst (v := 1) hx hb d_M_plainAffix_56 (by decide) ?_
          exact ct_zret true hx hb hr hlk hK hS (m_st, m_q, u4.1, u4.2) hw hP hD d_M_plainAffix_57
        · have hw := hw.2 hc
          refine lv_sipush (v := 201) hx hb d_M_plainAffix_46 (by decide) ?_
          refine lv_goto (tgt := 53) hx hb d_M_plainAffix_49 rfl ?_
          refine ct_callv (wn := fun u6 => wd_Mo cA mo mo_dr mo_now mo_first mo_has mo_da mo_dl mo_af mo_al mo_sy mo_dg mo_out mo_tx m_ds m_st m_sub m_q m_two m_least m_os m_ts m_fs m_fc m_g m_gs m_dr m_now m_first m_has u6.1 u6.2 m_af m_al m_sy m_dg m_out m_tx) (va_runV (As := [.int 201]) (rest := []) ⟨hx, hb, hml, hown, htb⟩ (c_M_keep l D cA mo mo_dr mo_now mo_first mo_has mo_da mo_dl mo_af mo_al mo_sy mo_dg mo_out mo_tx m_ds m_st m_sub m_q m_two m_least m_os m_ts m_fs m_fc m_g m_gs m_dr m_now m_first m_has m_da m_dl m_af m_al m_sy m_dg m_out m_tx 201 _ hw _) (ct_cwV 1 htb tw803 rfl rfl tw82 tw800 tw802 tw45 hd_M_keep ⟨by decide, by decide⟩) (ct_preV hP hD hK hN [0, 1, 2, 3, 4, 5, 6, 7, 8, 9, 10, 11, 12] rfl (by decide) 0 rfl rfl _) rfl rfl hl.1 rfl (lv_room (Nat.le_of_ble_eq_true rfl)) d_M_plainAffix_53 ⟨Nat.zero_le _, Nat.zero_le _⟩) hP hD hS hA [0, 1, 2, 3, 4, 5, 6, 7, 8, 9, 10, 11, 12] [] [0, 1, 2, 3, 4, 5, 6, 7, 8, 9, 10, 11, 12] rfl rfl (by decide) (by decide) (fun _ => rfl) (by decide) (fun u6 H locs hw hP hD hS => ?_)
          have hP : va_P D vwCl (wd_Mo cA mo mo_dr mo_now mo_first mo_has mo_da mo_dl mo_af mo_al mo_sy mo_dg mo_out mo_tx m_ds m_st m_sub m_q m_two m_least m_os m_ts m_fs m_fc m_g m_gs m_dr m_now m_first m_has u6.1 u6.2 m_af m_al m_sy m_dg m_out m_tx) H := hP
          have hD : va_D A (wd_Mo cA mo mo_dr mo_now mo_first mo_has mo_da mo_dl mo_af mo_al mo_sy mo_dg mo_out mo_tx m_ds m_st m_sub m_q m_two m_least m_os m_ts m_fs m_fc m_g m_gs m_dr m_now m_first m_has u6.1 u6.2 m_af m_al m_sy m_dg m_out m_tx) := hD
          refine lv_iconst (v := 1) hx hb d_M_plainAffix_56 (by decide) ?_
          exact ct_zret true hx hb hr hlk hK hS (m_st, m_q, u6.1, u6.2) hw hP hD d_M_plainAffix_57
      · have hw := hw.2 hc
        refine lv_sipush (v := 200) hx hb d_M_plainAffix_34 (by decide) ?_
        refine lv_goto (tgt := 53) hx hb d_M_plainAffix_37 rfl ?_
        refine ct_callv (wn := fun u8 => wd_Mo cA mo mo_dr mo_now mo_first mo_has mo_da mo_dl mo_af mo_al mo_sy mo_dg mo_out mo_tx m_ds m_st m_sub m_q m_two m_least m_os m_ts m_fs m_fc m_g m_gs m_dr m_now m_first m_has u8.1 u8.2 m_af m_al m_sy m_dg m_out m_tx) (va_runV (As := [.int 200]) (rest := []) ⟨hx, hb, hml, hown, htb⟩ (c_M_keep l D cA mo mo_dr mo_now mo_first mo_has mo_da mo_dl mo_af mo_al mo_sy mo_dg mo_out mo_tx m_ds m_st m_sub m_q m_two m_least m_os m_ts m_fs m_fc m_g m_gs m_dr m_now m_first m_has m_da m_dl m_af m_al m_sy m_dg m_out m_tx 200 _ hw _) (ct_cwV 1 htb tw803 rfl rfl tw82 tw800 tw802 tw45 hd_M_keep ⟨by decide, by decide⟩) (ct_preV hP hD hK hN [0, 1, 2, 3, 4, 5, 6, 7, 8, 9, 10, 11, 12] rfl (by decide) 0 rfl rfl _) rfl rfl hl.1 rfl (lv_room (Nat.le_of_ble_eq_true rfl)) d_M_plainAffix_53 ⟨Nat.zero_le _, Nat.zero_le _⟩) hP hD hS hA [0, 1, 2, 3, 4, 5, 6, 7, 8, 9, 10, 11, 12] [] [0, 1, 2, 3, 4, 5, 6, 7, 8, 9, 10, 11, 12] rfl rfl (by decide) (by decide) (fun _ => rfl) (by decide) (fun u8 H locs hw hP hD hS => ?_)
        have hP : va_P D vwCl (wd_Mo cA mo mo_dr mo_now mo_first mo_has mo_da mo_dl mo_af mo_al mo_sy mo_dg mo_out mo_tx m_ds m_st m_sub m_q m_two m_least m_os m_ts m_fs m_fc m_g m_gs m_dr m_now m_first m_has u8.1 u8.2 m_af m_al m_sy m_dg m_out m_tx) H := hP
        have hD : va_D A (wd_Mo cA mo mo_dr mo_now mo_first mo_has mo_da mo_dl mo_af mo_al mo_sy mo_dg mo_out mo_tx m_ds m_st m_sub m_q m_two m_least m_os m_ts m_fs m_fc m_g m_gs m_dr m_now m_first m_has u8.1 u8.2 m_af m_al m_sy m_dg m_out m_tx) := hD
        refine lv_iconst (v := 1) hx hb d_M_plainAffix_56 (by decide) ?_
        exact ct_zret true hx hb hr hlk hK hS (m_st, m_q, u8.1, u8.2) hw hP hD d_M_plainAffix_57
    · have hw := hw.2 hc
      refine lv_aload_n hx hb d_M_plainAffix_15 rfl (lv_at hl 0 rfl) ?_
      refine lv_iload_n hx hb d_M_plainAffix_16 rfl (lv_at hl 2 rfl) ?_
      refine va_put (ci := 9) (v := .int qt) (ty := .int) (C := R_Mo) (T := F_Mo) (N := 24) hx hb htb in_Mo t_Mo t_Mo_ok n_Mo hown hK hP hD hS 0 rfl rfl 2 (by decide) (htb _ tw698) (fun _ h9 => h9) rfl (by decide +kernel) rfl rfl (Nat.le_of_ble_eq_true rfl) d_M_plainAffix_17 (fun H locs hP hD hS => ?_)
      have hP : va_P D vwCl (wd_Mo cA mo mo_dr mo_now mo_first mo_has mo_da mo_dl mo_af mo_al mo_sy mo_dg mo_out mo_tx m_ds qt m_sub m_q m_two m_least m_os m_ts m_fs m_fc m_g m_gs m_dr m_now m_first m_has m_da m_dl m_af m_al m_sy m_dg m_out m_tx) H := hP
      have hD : va_D A (wd_Mo cA mo mo_dr mo_now mo_first mo_has mo_da mo_dl mo_af mo_al mo_sy mo_dg mo_out mo_tx m_ds qt m_sub m_q m_two m_least m_os m_ts m_fs m_fc m_g m_gs m_dr m_now m_first m_has m_da m_dl m_af m_al m_sy m_dg m_out m_tx) := hD
      refine lv_aload_n hx hb d_M_plainAffix_20 rfl (lv_at hl 0 rfl) ?_
      refine lv_iconst (v := 0) hx hb d_M_plainAffix_21 (by decide) ?_
      refine va_put (ci := 9) (v := .int 0) (ty := .int) (C := R_Mo) (T := F_Mo) (N := 24) hx hb htb in_Mo t_Mo t_Mo_ok n_Mo hown hK hP hD hS 0 rfl rfl 4 (by decide) (htb _ tw700) (fun _ h9 => h9) rfl (by decide +kernel) rfl rfl (Nat.le_of_ble_eq_true rfl) d_M_plainAffix_22 (fun H locs hP hD hS => ?_)
      have hP : va_P D vwCl (wd_Mo cA mo mo_dr mo_now mo_first mo_has mo_da mo_dl mo_af mo_al mo_sy mo_dg mo_out mo_tx m_ds qt m_sub 0 m_two m_least m_os m_ts m_fs m_fc m_g m_gs m_dr m_now m_first m_has m_da m_dl m_af m_al m_sy m_dg m_out m_tx) H := hP
      have hD : va_D A (wd_Mo cA mo mo_dr mo_now mo_first mo_has mo_da mo_dl mo_af mo_al mo_sy mo_dg mo_out mo_tx m_ds qt m_sub 0 m_two m_least m_os m_ts m_fs m_fc m_g m_gs m_dr m_now m_first m_has m_da m_dl m_af m_al m_sy m_dg m_out m_tx) := hD
      refine lv_iconst (v := 1) hx hb d_M_plainAffix_25 (by decide) ?_
      exact ct_zret true hx hb hr hlk hK hS (qt, 0, m_da, m_dl) hw hP hD d_M_plainAffix_26
  · have hw := hw.2 ((bI_n0 _).mp hc)
    refine lv_iconst (v := 0) hx hb d_M_plainAffix_7 (by decide) ?_
    exact ct_zret false hx hb hr hlk hK hS (m_st, m_q, m_da, m_dl) hw hP hD d_M_plainAffix_8
/-! DecimalPatternsModel.inQuote(II)V -/
def wp_M_inQuote_J180 (m_sub : Int32) (x1 : Int32) (x2 : Int32) (m_st : Int32) (m_q : Int32) (m_da : Nat → Int32) (m_dl : Nat → Int32) (Q : (Int32 × Int32 × (Nat → Int32) × (Nat → Int32)) → Prop) : Prop := (¬ x1 = 39 → (Q (m_st, m_q + 1, m_da, m_dl))) ∧ (x1 = 39 → (Q (x2, m_q + 1, m_da, m_dl)))
def wp_M_inQuote_J130 (m_sub : Int32) (x1 : Int32) (x2 : Int32) (m_st : Int32) (m_q : Int32) (m_da : Nat → Int32) (m_dl : Nat → Int32) (Q : (Int32 × Int32 × (Nat → Int32) × (Nat → Int32)) → Prop) : Prop := wp_M_keep m_st m_sub m_da m_dl x1 (fun u2 => wp_M_inQuote_J180 m_sub x1 x2 m_st m_q u2.1 u2.2 Q)
def wp_M_inQuote (m_st : Int32) (m_sub : Int32) (m_q : Int32) (m_da : Nat → Int32) (m_dl : Nat → Int32) (cd : Int32) (bh : Int32) (Q : (Int32 × Int32 × (Nat → Int32) × (Nat → Int32)) → Prop) : Prop := (¬ cd = 39 → (wp_M_inQuote_J130 m_sub cd bh m_st m_q m_da m_dl Q)) ∧ (cd = 39 → ((¬ m_q = 0 → (wp_M_inQuote_J180 m_sub cd bh m_st m_q m_da m_dl Q)) ∧ (m_q = 0 → (wp_M_inQuote_J130 m_sub cd bh m_st m_q m_da m_dl Q))))
set_option maxHeartbeats 4000000 in
set_option maxRecDepth 100000 in
theorem c_M_inQuote (l : Launch) (D : va_G) (cA : ClassId) (mo mo_dr mo_now mo_first mo_has mo_da mo_dl mo_af mo_al mo_sy mo_dg mo_out mo_tx : Nat) (m_ds : Int32) (m_st : Int32) (m_sub : Int32) (m_q : Int32) (m_two : Bool) (m_least : Int32) (m_os : Int32) (m_ts : Int32) (m_fs : Int64) (m_fc : Int32) (m_g : Int64) (m_gs : Int32) (m_dr : Nat → Int32) (m_now : Nat → Int32) (m_first : Nat → Int32) (m_has : Nat → Int32) (m_da : Nat → Int32) (m_dl : Nat → Int32) (m_af : Nat → Int32) (m_al : Nat → Int32) (m_sy : Nat → Int32) (m_dg : Nat → Int32) (m_out : Nat → Int32) (m_tx : Nat → Int32) (cd : Int32) (bh : Int32) (Q : (Int32 × Int32 × (Nat → Int32) × (Nat → Int32)) → Prop) (hw : wp_M_inQuote m_st m_sub m_q m_da m_dl cd bh Q) : ct_M vwCl l D [(cA, .int)] y_M_inQuote w_M_inQuote { frames := 1, cells := 0, slots := 0, locals := 22 } [.ref mo, .int cd, .int bh] (wd_Mo cA mo mo_dr mo_now mo_first mo_has mo_da mo_dl mo_af mo_al mo_sy mo_dg mo_out mo_tx m_ds m_st m_sub m_q m_two m_least m_os m_ts m_fs m_fc m_g m_gs m_dr m_now m_first m_has m_da m_dl m_af m_al m_sy m_dg m_out m_tx) (ct_qv vwCl D [(cA, .int)] Q (fun u => wd_Mo cA mo mo_dr mo_now mo_first mo_has mo_da mo_dl mo_af mo_al mo_sy mo_dg mo_out mo_tx m_ds u.1 m_sub u.2.1 m_two m_least m_os m_ts m_fs m_fc m_g m_gs m_dr m_now m_first m_has u.2.2.1 u.2.2.2 m_af m_al m_sy m_dg m_out m_tx)) := by
  refine ct_enter (cc := b_M_inQuote) (maxL := 3) (ret := none) (by decide) rfl (Nat.le_of_ble_eq_true rfl) ?_
  intro p e s m args below meth c A ls hx hb hr hlk hml hts hown hA hS hP hK hN hD hl
  have hl : lv_has ls 3 [(0, .ref mo), (1, .int cd), (2, .int bh)] := hl
  have htb : ∀ w ∈ tbl, w.before args s = true := fun w h => hts w (List.mem_cons_of_mem _ h)
  have hown : s.vm.findClass "DecimalPatternsModel" = some m.cls := hown
  unfold wp_M_inQuote at hw
  have hJ180 : ∀ (x1 : Int32) (x2 : Int32) (m_st : Int32) (m_q : Int32) (m_da : Nat → Int32) (m_dl : Nat → Int32) (H : Heap) (locs : List Loc) (ls : Array Slot), lv_has ls 3 [(0, .ref mo), (1, .int x1), (2, .int x2)] → va_P D vwCl (wd_Mo cA mo mo_dr mo_now mo_first mo_has mo_da mo_dl mo_af mo_al mo_sy mo_dg mo_out mo_tx m_ds m_st m_sub m_q m_two m_least m_os m_ts m_fs m_fc m_g m_gs m_dr m_now m_first m_has m_da m_dl m_af m_al m_sy m_dg m_out m_tx) H → va_D A (wd_Mo cA mo mo_dr mo_now mo_first mo_has mo_da mo_dl mo_af mo_al mo_sy mo_dg mo_out mo_tx m_ds m_st m_sub m_q m_two m_least m_os m_ts m_fs m_fc m_g m_gs m_dr m_now m_first m_has m_da m_dl m_af m_al m_sy m_dg m_out m_tx) → va_S A s.heap H locs → wp_M_inQuote_J180 m_sub x1 x2 m_st m_q m_da m_dl Q → W p l e { frames := 1, cells := 0, slots := 0, locals := 22 } s m args below meth c H locs 0 0 (MQ below (ct_qv vwCl D [(cA, .int)] Q (fun u => wd_Mo cA mo mo_dr mo_now mo_first mo_has mo_da mo_dl mo_af mo_al mo_sy mo_dg mo_out mo_tx m_ds u.1 m_sub u.2.1 m_two m_least m_os m_ts m_fs m_fc m_g m_gs m_dr m_now m_first m_has u.2.2.1 u.2.2.2 m_af m_al m_sy m_dg m_out m_tx) A) args s 0 0 A) (F0 m 18 ls []) := by
    intro x1 x2 m_st m_q m_da m_dl H locs ls hl hP hD hS hw
    unfold wp_M_inQuote_J180 at hw
    refine lv_aload_n hx hb d_M_inQuote_18 rfl (lv_at hl 0 rfl) ?_
    refine lv_dup hx hb d_M_inQuote_19 rfl ?_
    refine va_get (ci := 9) (C := R_Mo) (T := F_Mo) (N := 24) hx hb htb in_Mo hown hK hP 0 rfl rfl 4 (by decide) (htb _ tw700) (fun _ h9 => h9) rfl d_M_inQuote_20 ?_
    refine lv_iconst (v := 1) hx hb d_M_inQuote_23 (by decide) ?_
    refine lv_iadd hx hb d_M_inQuote_24 ?_
    refine va_put (ci := 9) (v := .int (m_q + 1)) (ty := .int) (C := R_Mo) (T := F_Mo) (N := 24) hx hb htb in_Mo t_Mo t_Mo_ok n_Mo hown hK hP hD hS 0 rfl rfl 4 (by decide) (htb _ tw700) (fun _ h9 => h9) rfl (by decide +kernel) rfl rfl (Nat.le_of_ble_eq_true rfl) d_M_inQuote_25 (fun H locs hP hD hS => ?_)
    have hP : va_P D vwCl (wd_Mo cA mo mo_dr mo_now mo_first mo_has mo_da mo_dl mo_af mo_al mo_sy mo_dg mo_out mo_tx m_ds m_st m_sub (m_q + 1) m_two m_least m_os m_ts m_fs m_fc m_g m_gs m_dr m_now m_first m_has m_da m_dl m_af m_al m_sy m_dg m_out m_tx) H := hP
    have hD : va_D A (wd_Mo cA mo mo_dr mo_now mo_first mo_has mo_da mo_dl mo_af mo_al mo_sy mo_dg mo_out mo_tx m_ds m_st m_sub (m_q + 1) m_two m_least m_os m_ts m_fs m_fc m_g m_gs m_dr m_now m_first m_has m_da m_dl m_af m_al m_sy m_dg m_out m_tx) := hD
    refine lv_aload_n hx hb d_M_inQuote_28 rfl (lv_at hl 0 rfl) ?_
    refine lv_iload_n hx hb d_M_inQuote_29 rfl (lv_at hl 1 rfl) ?_
    refine lv_bipush (v := 39) hx hb d_M_inQuote_30 (by decide) ?_
    refine lv_icmp_ne (tgt := 39) hx hb d_M_inQuote_32 rfl (fun hc => ?_) (fun hc => ?_)
    · have hw := hw.1 hc
      refine lv_aload_n hx hb d_M_inQuote_39 rfl (lv_at hl 0 rfl) ?_
      refine va_get (ci := 9) (C := R_Mo) (T := F_Mo) (N := 24) hx hb htb in_Mo hown hK hP 0 rfl rfl 2 (by decide) (htb _ tw698) (fun _ h9 => h9) rfl d_M_inQuote_40 ?_
      refine va_put (ci := 9) (v := .int m_st) (ty := .int) (C := R_Mo) (T := F_Mo) (N := 24) hx hb htb in_Mo t_Mo t_Mo_ok n_Mo hown hK hP hD hS 0 rfl rfl 2 (by decide) (htb _ tw698) (fun _ h9 => h9) rfl (by decide +kernel) rfl rfl (Nat.le_of_ble_eq_true rfl) d_M_inQuote_43 (fun H locs hP hD hS => ?_)
      have hP : va_P D vwCl (wd_Mo cA mo mo_dr mo_now mo_first mo_has mo_da mo_dl mo_af mo_al mo_sy mo_dg mo_out mo_tx m_ds m_st m_sub (m_q + 1) m_two m_least m_os m_ts m_fs m_fc m_g m_gs m_dr m_now m_first m_has m_da m_dl m_af m_al m_sy m_dg m_out m_tx) H := hP
      have hD : va_D A (wd_Mo cA mo mo_dr mo_now mo_first mo_has mo_da mo_dl mo_af mo_al mo_sy mo_dg mo_out mo_tx m_ds m_st m_sub (m_q + 1) m_two m_least m_os m_ts m_fs m_fc m_g m_gs m_dr m_now m_first m_has m_da m_dl m_af m_al m_sy m_dg m_out m_tx) := hD
      exact ct_vret hx hb hr hlk hK hS (m_st, m_q + 1, m_da, m_dl) hw hP hD d_M_inQuote_46
    · have hw := hw.2 hc
      refine lv_iload_n hx hb d_M_inQuote_35 rfl (lv_at hl 2 rfl) ?_
      refine lv_goto (tgt := 43) hx hb d_M_inQuote_36 rfl ?_
      refine va_put (ci := 9) (v := .int x2) (ty := .int) (C := R_Mo) (T := F_Mo) (N := 24) hx hb htb in_Mo t_Mo t_Mo_ok n_Mo hown hK hP hD hS 0 rfl rfl 2 (by decide) (htb _ tw698) (fun _ h9 => h9) rfl (by decide +kernel) rfl rfl (Nat.le_of_ble_eq_true rfl) d_M_inQuote_43 (fun H locs hP hD hS => ?_)
      have hP : va_P D vwCl (wd_Mo cA mo mo_dr mo_now mo_first mo_has mo_da mo_dl mo_af mo_al mo_sy mo_dg mo_out mo_tx m_ds x2 m_sub (m_q + 1) m_two m_least m_os m_ts m_fs m_fc m_g m_gs m_dr m_now m_first m_has m_da m_dl m_af m_al m_sy m_dg m_out m_tx) H := hP
      have hD : va_D A (wd_Mo cA mo mo_dr mo_now mo_first mo_has mo_da mo_dl mo_af mo_al mo_sy mo_dg mo_out mo_tx m_ds x2 m_sub (m_q + 1) m_two m_least m_os m_ts m_fs m_fc m_g m_gs m_dr m_now m_first m_has m_da m_dl m_af m_al m_sy m_dg m_out m_tx) := hD
      exact ct_vret hx hb hr hlk hK hS (x2, m_q + 1, m_da, m_dl) hw hP hD d_M_inQuote_46
  have hJ130 : ∀ (x1 : Int32) (x2 : Int32) (m_st : Int32) (m_q : Int32) (m_da : Nat → Int32) (m_dl : Nat → Int32) (H : Heap) (locs : List Loc) (ls : Array Slot), lv_has ls 3 [(0, .ref mo), (1, .int x1), (2, .int x2)] → va_P D vwCl (wd_Mo cA mo mo_dr mo_now mo_first mo_has mo_da mo_dl mo_af mo_al mo_sy mo_dg mo_out mo_tx m_ds m_st m_sub m_q m_two m_least m_os m_ts m_fs m_fc m_g m_gs m_dr m_now m_first m_has m_da m_dl m_af m_al m_sy m_dg m_out m_tx) H → va_D A (wd_Mo cA mo mo_dr mo_now mo_first mo_has mo_da mo_dl mo_af mo_al mo_sy mo_dg mo_out mo_tx m_ds m_st m_sub m_q m_two m_least m_os m_ts m_fs m_fc m_g m_gs m_dr m_now m_first m_has m_da m_dl m_af m_al m_sy m_dg m_out m_tx) → va_S A s.heap H locs → wp_M_inQuote_J130 m_sub x1 x2 m_st m_q m_da m_dl Q → W p l e { frames := 1, cells := 0, slots := 0, locals := 22 } s m args below meth c H locs 0 0 (MQ below (ct_qv vwCl D [(cA, .int)] Q (fun u => wd_Mo cA mo mo_dr mo_now mo_first mo_has mo_da mo_dl mo_af mo_al mo_sy mo_dg mo_out mo_tx m_ds u.1 m_sub u.2.1 m_two m_least m_os m_ts m_fs m_fc m_g m_gs m_dr m_now m_first m_has u.2.2.1 u.2.2.2 m_af m_al m_sy m_dg m_out m_tx) A) args s 0 0 A) (F0 m 13 ls []) := by
    intro x1 x2 m_st m_q m_da m_dl H locs ls hl hP hD hS hw
    unfold wp_M_inQuote_J130 at hw
    refine lv_aload_n hx hb d_M_inQuote_13 rfl (lv_at hl 0 rfl) ?_
    refine lv_iload_n hx hb d_M_inQuote_14 rfl (lv_at hl 1 rfl) ?_
    refine ct_callv (wn := fun u2 => wd_Mo cA mo mo_dr mo_now mo_first mo_has mo_da mo_dl mo_af mo_al mo_sy mo_dg mo_out mo_tx m_ds m_st m_sub m_q m_two m_least m_os m_ts m_fs m_fc m_g m_gs m_dr m_now m_first m_has u2.1 u2.2 m_af m_al m_sy m_dg m_out m_tx) (va_runV (As := [.int x1]) (rest := []) ⟨hx, hb, hml, hown, htb⟩ (c_M_keep l D cA mo mo_dr mo_now mo_first mo_has mo_da mo_dl mo_af mo_al mo_sy mo_dg mo_out mo_tx m_ds m_st m_sub m_q m_two m_least m_os m_ts m_fs m_fc m_g m_gs m_dr m_now m_first m_has m_da m_dl m_af m_al m_sy m_dg m_out m_tx x1 _ hw _) (ct_cwV 1 htb tw803 rfl rfl tw82 tw800 tw802 tw45 hd_M_keep ⟨by decide, by decide⟩) (ct_preV hP hD hK hN [0, 1, 2, 3, 4, 5, 6, 7, 8, 9, 10, 11, 12] rfl (by decide) 0 rfl rfl _) rfl rfl hl.1 rfl (lv_room (Nat.le_of_ble_eq_true rfl)) d_M_inQuote_15 ⟨Nat.zero_le _, Nat.zero_le _⟩) hP hD hS hA [0, 1, 2, 3, 4, 5, 6, 7, 8, 9, 10, 11, 12] [] [0, 1, 2, 3, 4, 5, 6, 7, 8, 9, 10, 11, 12] rfl rfl (by decide) (by decide) (fun _ => rfl) (by decide) (fun u2 H locs hw hP hD hS => ?_)
    have hP : va_P D vwCl (wd_Mo cA mo mo_dr mo_now mo_first mo_has mo_da mo_dl mo_af mo_al mo_sy mo_dg mo_out mo_tx m_ds m_st m_sub m_q m_two m_least m_os m_ts m_fs m_fc m_g m_gs m_dr m_now m_first m_has u2.1 u2.2 m_af m_al m_sy m_dg m_out m_tx) H := hP
    have hD : va_D A (wd_Mo cA mo mo_dr mo_now mo_first mo_has mo_da mo_dl mo_af mo_al mo_sy mo_dg mo_out mo_tx m_ds m_st m_sub m_q m_two m_least m_os m_ts m_fs m_fc m_g m_gs m_dr m_now m_first m_has u2.1 u2.2 m_af m_al m_sy m_dg m_out m_tx) := hD
    exact hJ180 x1 x2 m_st m_q u2.1 u2.2 _ _ _ (lv_sub hl [0, 1, 2] rfl) hP hD hS hw
  refine lv_iload_n hx hb d_M_inQuote_0 rfl (lv_at hl 1 rfl) ?_
  refine lv_bipush (v := 39) hx hb d_M_inQuote_1 (by decide) ?_
  refine lv_icmp_ne (tgt := 13) hx hb d_M_inQuote_3 rfl (fun hc => ?_) (fun hc => ?_)
  · have hw := hw.1 hc
    exact hJ130 cd bh m_st m_q m_da m_dl _ _ _ (lv_sub hl [0, 1, 2] rfl) hP hD hS hw
  · have hw := hw.2 hc
    refine lv_aload_n hx hb d_M_inQuote_6 rfl (lv_at hl 0 rfl) ?_
    refine va_get (ci := 9) (C := R_Mo) (T := F_Mo) (N := 24) hx hb htb in_Mo hown hK hP 0 rfl rfl 4 (by decide) (htb _ tw700) (fun _ h9 => h9) rfl d_M_inQuote_7 ?_
    refine lv_if_ne (tgt := 18) hx hb d_M_inQuote_10 rfl (fun hc => ?_) (fun hc => ?_)
    · have hw := hw.1 hc
      exact hJ180 cd bh m_st m_q m_da m_dl _ _ _ (lv_sub hl [0, 1, 2] rfl) hP hD hS hw
    · have hw := hw.2 hc
      exact hJ130 cd bh m_st m_q m_da m_dl _ _ _ (lv_sub hl [0, 1, 2] rfl) hP hD hS hw
/-! DecimalPatternsModel.integerDigit(I)Z -/
def wp_M_integerDigit_J320 (y0 : Bool) (m_st : Int32) (m_now : Nat → Int32) (Q : Bool → (Int32 × (Nat → Int32)) → Prop) : Prop := vp_in (bI y0) 9 ∧ (vp_in (bI y0) 9 ∧ (vp_in (7 : Int32) 9 ∧ (vp_in (7 : Int32) 9 ∧ (Q true (2, upd (upd m_now (bI y0).toNatClampNeg ((m_now (bI y0).toNatClampNeg) + 1)) (7 : Int32).toNatClampNeg (((upd m_now (bI y0).toNatClampNeg ((m_now (bI y0).toNatClampNeg) + 1)) (7 : Int32).toNatClampNeg) + 1))))))
def wp_M_integerDigit_J170 (x1 : Int32) (m_st : Int32) (m_now : Nat → Int32) (Q : Bool → (Int32 × (Nat → Int32)) → Prop) : Prop := (¬ x1 = 35 → (wp_M_integerDigit_J320 true m_st m_now Q)) ∧ (x1 = 35 → (wp_M_integerDigit_J320 false m_st m_now Q))
def wp_M_integerDigit (m_st : Int32) (m_now : Nat → Int32) (cd : Int32) (Q : Bool → (Int32 × (Nat → Int32)) → Prop) : Prop := (¬ cd = 35 → (wp_M_integerDigit_J170 cd m_st m_now Q)) ∧ (cd = 35 → (vp_in (1 : Int32) 9 ∧ (((m_now (1 : Int32).toNatClampNeg) ≤ 0 → (wp_M_integerDigit_J170 cd m_st m_now Q)) ∧ (¬ (m_now (1 : Int32).toNatClampNeg) ≤ 0 → (Q false (m_st, m_now))))))
set_option maxHeartbeats 4000000 in
set_option maxRecDepth 100000 in
theorem c_M_integerDigit (l : Launch) (D : va_G) (cA : ClassId) (mo mo_dr mo_now mo_first mo_has mo_da mo_dl mo_af mo_al mo_sy mo_dg mo_out mo_tx : Nat) (m_ds : Int32) (m_st : Int32) (m_sub : Int32) (m_q : Int32) (m_two : Bool) (m_least : Int32) (m_os : Int32) (m_ts : Int32) (m_fs : Int64) (m_fc : Int32) (m_g : Int64) (m_gs : Int32) (m_dr : Nat → Int32) (m_now : Nat → Int32) (m_first : Nat → Int32) (m_has : Nat → Int32) (m_da : Nat → Int32) (m_dl : Nat → Int32) (m_af : Nat → Int32) (m_al : Nat → Int32) (m_sy : Nat → Int32) (m_dg : Nat → Int32) (m_out : Nat → Int32) (m_tx : Nat → Int32) (cd : Int32) (Q : Bool → (Int32 × (Nat → Int32)) → Prop) (hw : wp_M_integerDigit m_st m_now cd Q) : ct_M vwCl l D [(cA, .int)] y_M_integerDigit w_M_integerDigit { frames := 0, cells := 0, slots := 0, locals := 0 } [.ref mo, .int cd] (wd_Mo cA mo mo_dr mo_now mo_first mo_has mo_da mo_dl mo_af mo_al mo_sy mo_dg mo_out mo_tx m_ds m_st m_sub m_q m_two m_least m_os m_ts m_fs m_fc m_g m_gs m_dr m_now m_first m_has m_da m_dl m_af m_al m_sy m_dg m_out m_tx) (ct_qz vwCl D [(cA, .int)] Q (fun u => wd_Mo cA mo mo_dr mo_now mo_first mo_has mo_da mo_dl mo_af mo_al mo_sy mo_dg mo_out mo_tx m_ds u.1 m_sub m_q m_two m_least m_os m_ts m_fs m_fc m_g m_gs m_dr u.2 m_first m_has m_da m_dl m_af m_al m_sy m_dg m_out m_tx)) := by
  refine ct_enter (cc := b_M_integerDigit) (maxL := 2) (ret := (some .boolean)) (by decide) rfl (Nat.le_of_ble_eq_true rfl) ?_
  intro p e s m args below meth c A ls hx hb hr hlk hml hts hown hA hS hP hK hN hD hl
  have hl : lv_has ls 2 [(0, .ref mo), (1, .int cd)] := hl
  have htb : ∀ w ∈ tbl, w.before args s = true := fun w h => hts w (List.mem_cons_of_mem _ h)
  have hown : s.vm.findClass "DecimalPatternsModel" = some m.cls := hown
  unfold wp_M_integerDigit at hw
  have hJ320 : ∀ (y0 : Bool) (m_st : Int32) (m_now : Nat → Int32) (H : Heap) (locs : List Loc) (ls : Array Slot), lv_has ls 2 [(0, .ref mo)] → va_P D vwCl (wd_Mo cA mo mo_dr mo_now mo_first mo_has mo_da mo_dl mo_af mo_al mo_sy mo_dg mo_out mo_tx m_ds m_st m_sub m_q m_two m_least m_os m_ts m_fs m_fc m_g m_gs m_dr m_now m_first m_has m_da m_dl m_af m_al m_sy m_dg m_out m_tx) H → va_D A (wd_Mo cA mo mo_dr mo_now mo_first mo_has mo_da mo_dl mo_af mo_al mo_sy mo_dg mo_out mo_tx m_ds m_st m_sub m_q m_two m_least m_os m_ts m_fs m_fc m_g m_gs m_dr m_now m_first m_has m_da m_dl m_af m_al m_sy m_dg m_out m_tx) → va_S A s.heap H locs → wp_M_integerDigit_J320 y0 m_st m_now Q → W p l e { frames := 0, cells := 0, slots := 0, locals := 0 } s m args below meth c H locs 0 0 (MQ below (ct_qz vwCl D [(cA, .int)] Q (fun u => wd_Mo cA mo mo_dr mo_now mo_first mo_has mo_da mo_dl mo_af mo_al mo_sy mo_dg mo_out mo_tx m_ds u.1 m_sub m_q m_two m_least m_os m_ts m_fs m_fc m_g m_gs m_dr u.2 m_first m_has m_da m_dl m_af m_al m_sy m_dg m_out m_tx) A) args s 0 0 A) (F0 m 32 ls [.int (bI y0), .ref mo_now]) := by
    intro y0 m_st m_now H locs ls hl hP hD hS hw
    unfold wp_M_integerDigit_J320 at hw
    refine lv_dup2_11 hx hb d_M_integerDigit_32 rfl rfl ?_
    have hi := hw.1
    have hw := hw.2
    refine va_iald hx hb hK hP 2 0 rfl rfl hi d_M_integerDigit_33 ?_
    refine lv_iconst (v := 1) hx hb d_M_integerDigit_34 (by decide) ?_
    refine lv_iadd hx hb d_M_integerDigit_35 ?_
    have hi := hw.1
    have hw := hw.2
    refine va_iast hx hb hK hP hD hS 2 0 rfl rfl hi d_M_integerDigit_36 (fun H locs hP hD hS => ?_)
    have hP : va_P D vwCl (wd_Mo cA mo mo_dr mo_now mo_first mo_has mo_da mo_dl mo_af mo_al mo_sy mo_dg mo_out mo_tx m_ds m_st m_sub m_q m_two m_least m_os m_ts m_fs m_fc m_g m_gs m_dr (upd m_now (bI y0).toNatClampNeg ((m_now (bI y0).toNatClampNeg) + 1)) m_first m_has m_da m_dl m_af m_al m_sy m_dg m_out m_tx) H := hP
    have hD : va_D A (wd_Mo cA mo mo_dr mo_now mo_first mo_has mo_da mo_dl mo_af mo_al mo_sy mo_dg mo_out mo_tx m_ds m_st m_sub m_q m_two m_least m_os m_ts m_fs m_fc m_g m_gs m_dr (upd m_now (bI y0).toNatClampNeg ((m_now (bI y0).toNatClampNeg) + 1)) m_first m_has m_da m_dl m_af m_al m_sy m_dg m_out m_tx) := hD
    refine lv_aload_n hx hb d_M_integerDigit_37 rfl (lv_at hl 0 rfl) ?_
    refine va_get (ci := 9) (C := R_Mo) (T := F_Mo) (N := 24) hx hb htb in_Mo hown hK hP 0 rfl rfl 5 (by decide) (htb _ tw701) (fun _ h9 => h9) rfl d_M_integerDigit_38 ?_
    refine lv_bipush (v := 7) hx hb d_M_integerDigit_41 (by decide) ?_
    refine lv_dup2_11 hx hb d_M_integerDigit_43 rfl rfl ?_
    have hi := hw.1
    have hw := hw.2
    refine va_iald hx hb hK hP 2 0 rfl rfl hi d_M_integerDigit_44 ?_
    refine lv_iconst (v := 1) hx hb d_M_integerDigit_45 (by decide) ?_
    refine lv_iadd hx hb d_M_integerDigit_46 ?_
    have hi := hw.1
    have hw := hw.2
    refine va_iast hx hb hK hP hD hS 2 0 rfl rfl hi d_M_integerDigit_47 (fun H locs hP hD hS => ?_)
    have hP : va_P D vwCl (wd_Mo cA mo mo_dr mo_now mo_first mo_has mo_da mo_dl mo_af mo_al mo_sy mo_dg mo_out mo_tx m_ds m_st m_sub m_q m_two m_least m_os m_ts m_fs m_fc m_g m_gs m_dr (upd (upd m_now (bI y0).toNatClampNeg ((m_now (bI y0).toNatClampNeg) + 1)) (7 : Int32).toNatClampNeg (((upd m_now (bI y0).toNatClampNeg ((m_now (bI y0).toNatClampNeg) + 1)) (7 : Int32).toNatClampNeg) + 1)) m_first m_has m_da m_dl m_af m_al m_sy m_dg m_out m_tx) H := hP
    have hD : va_D A (wd_Mo cA mo mo_dr mo_now mo_first mo_has mo_da mo_dl mo_af mo_al mo_sy mo_dg mo_out mo_tx m_ds m_st m_sub m_q m_two m_least m_os m_ts m_fs m_fc m_g m_gs m_dr (upd (upd m_now (bI y0).toNatClampNeg ((m_now (bI y0).toNatClampNeg) + 1)) (7 : Int32).toNatClampNeg (((upd m_now (bI y0).toNatClampNeg ((m_now (bI y0).toNatClampNeg) + 1)) (7 : Int32).toNatClampNeg) + 1)) m_first m_has m_da m_dl m_af m_al m_sy m_dg m_out m_tx) := hD
    refine lv_aload_n hx hb d_M_integerDigit_48 rfl (lv_at hl 0 rfl) ?_
    refine lv_iconst (v := 2) hx hb d_M_integerDigit_49 (by decide) ?_
    refine va_put (ci := 9) (v := .int 2) (ty := .int) (C := R_Mo) (T := F_Mo) (N := 24) hx hb htb in_Mo t_Mo t_Mo_ok n_Mo hown hK hP hD hS 0 rfl rfl 2 (by decide) (htb _ tw698) (fun _ h9 => h9) rfl (by decide +kernel) rfl rfl (Nat.le_of_ble_eq_true rfl) d_M_integerDigit_50 (fun H locs hP hD hS => ?_)
    have hP : va_P D vwCl (wd_Mo cA mo mo_dr mo_now mo_first mo_has mo_da mo_dl mo_af mo_al mo_sy mo_dg mo_out mo_tx m_ds 2 m_sub m_q m_two m_least m_os m_ts m_fs m_fc m_g m_gs m_dr (upd (upd m_now (bI y0).toNatClampNeg ((m_now (bI y0).toNatClampNeg) + 1)) (7 : Int32).toNatClampNeg (((upd m_now (bI y0).toNatClampNeg ((m_now (bI y0).toNatClampNeg) + 1)) (7 : Int32).toNatClampNeg) + 1)) m_first m_has m_da m_dl m_af m_al m_sy m_dg m_out m_tx) H := hP
    have hD : va_D A (wd_Mo cA mo mo_dr mo_now mo_first mo_has mo_da mo_dl mo_af mo_al mo_sy mo_dg mo_out mo_tx m_ds 2 m_sub m_q m_two m_least m_os m_ts m_fs m_fc m_g m_gs m_dr (upd (upd m_now (bI y0).toNatClampNeg ((m_now (bI y0).toNatClampNeg) + 1)) (7 : Int32).toNatClampNeg (((upd m_now (bI y0).toNatClampNeg ((m_now (bI y0).toNatClampNeg) + 1)) (7 : Int32).toNatClampNeg) + 1)) m_first m_has m_da m_dl m_af m_al m_sy m_dg m_out m_tx) := hD
    refine lv_iconst (v := 1) hx hb d_M_integerDigit_53 (by decide) ?_
    exact ct_zret true hx hb hr hlk hK hS (2, upd (upd m_now (bI y0).toNatClampNeg ((m_now (bI y0).toNatClampNeg) + 1)) (7 : Int32).toNatClampNeg (((upd m_now (bI y0).toNatClampNeg ((m_now (bI y0).toNatClampNeg) + 1)) (7 : Int32).toNatClampNeg) + 1)) hw hP hD d_M_integerDigit_54
  have hJ170 : ∀ (x1 : Int32) (m_st : Int32) (m_now : Nat → Int32) (H : Heap) (locs : List Loc) (ls : Array Slot), lv_has ls 2 [(0, .ref mo), (1, .int x1)] → va_P D vwCl (wd_Mo cA mo mo_dr mo_now mo_first mo_has mo_da mo_dl mo_af mo_al mo_sy mo_dg mo_out mo_tx m_ds m_st m_sub m_q m_two m_least m_os m_ts m_fs m_fc m_g m_gs m_dr m_now m_first m_has m_da m_dl m_af m_al m_sy m_dg m_out m_tx) H → va_D A (wd_Mo cA mo mo_dr mo_now mo_first mo_has mo_da mo_dl mo_af mo_al mo_sy mo_dg mo_out mo_tx m_ds m_st m_sub m_q m_two m_least m_os m_ts m_fs m_fc m_g m_gs m_dr m_now m_first m_has m_da m_dl m_af m_al m_sy m_dg m_out m_tx) → va_S A s.heap H locs → wp_M_integerDigit_J170 x1 m_st m_now Q → W p l e { frames := 0, cells := 0, slots := 0, locals := 0 } s m args below meth c H locs 0 0 (MQ below (ct_qz vwCl D [(cA, .int)] Q (fun u => wd_Mo cA mo mo_dr mo_now mo_first mo_has mo_da mo_dl mo_af mo_al mo_sy mo_dg mo_out mo_tx m_ds u.1 m_sub m_q m_two m_least m_os m_ts m_fs m_fc m_g m_gs m_dr u.2 m_first m_has m_da m_dl m_af m_al m_sy m_dg m_out m_tx) A) args s 0 0 A) (F0 m 17 ls []) := by
    intro x1 m_st m_now H locs ls hl hP hD hS hw
    unfold wp_M_integerDigit_J170 at hw
    refine lv_aload_n hx hb d_M_integerDigit_17 rfl (lv_at hl 0 rfl) ?_
    refine va_get (ci := 9) (C := R_Mo) (T := F_Mo) (N := 24) hx hb htb in_Mo hown hK hP 0 rfl rfl 5 (by decide) (htb _ tw701) (fun _ h9 => h9) rfl d_M_integerDigit_18 ?_
    refine lv_iload_n hx hb d_M_integerDigit_21 rfl (lv_at hl 1 rfl) ?_
    refine lv_bipush (v := 35) hx hb d_M_integerDigit_22 (by decide) ?_
    refine lv_icmp_ne (tgt := 31) hx hb d_M_integerDigit_24 rfl (fun hc => ?_) (fun hc => ?_)
    · have hw := hw.1 hc
      refine lv_iconst (v := 1) hx hb d_M_integerDigit_31 (by decide) ?_
      exact hJ320 true m_st m_now _ _ _ (lv_sub hl [0] rfl) hP hD hS hw
    · have hw := hw.2 hc
      refine lv_iconst (v := 0) hx hb d_M_integerDigit_27 (by decide) ?_
      refine lv_goto (tgt := 32) hx hb d_M_integerDigit_28 rfl ?_
      exact hJ320 false m_st m_now _ _ _ (lv_sub hl [0] rfl) hP hD hS hw
  refine lv_iload_n hx hb d_M_integerDigit_0 rfl (lv_at hl 1 rfl) ?_
  refine lv_bipush (v := 35) hx hb d_M_integerDigit_1 (by decide) ?_
  refine lv_icmp_ne (tgt := 17) hx hb d_M_integerDigit_3 rfl (fun hc => ?_) (fun hc => ?_)
  · have hw := hw.1 hc
    exact hJ170 cd m_st m_now _ _ _ (lv_sub hl [0, 1] rfl) hP hD hS hw
  · have hw := hw.2 hc
    refine lv_aload_n hx hb d_M_integerDigit_6 rfl (lv_at hl 0 rfl) ?_
    refine va_get (ci := 9) (C := R_Mo) (T := F_Mo) (N := 24) hx hb htb in_Mo hown hK hP 0 rfl rfl 5 (by decide) (htb _ tw701) (fun _ h9 => h9) rfl d_M_integerDigit_7 ?_
    refine lv_iconst (v := 1) hx hb d_M_integerDigit_10 (by decide) ?_
    have hi := hw.1
    have hw := hw.2
    refine va_iald hx hb hK hP 2 0 rfl rfl hi d_M_integerDigit_11 ?_
    refine lv_if_le (tgt := 17) hx hb d_M_integerDigit_12 rfl (fun hc => ?_) (fun hc => ?_)
    · have hw := hw.1 hc
      exact hJ170 cd m_st m_now _ _ _ (lv_sub hl [0, 1] rfl) hP hD hS hw
    · have hw := hw.2 hc
      refine lv_iconst (v := 0) hx hb d_M_integerDigit_15 (by decide) ?_
      exact ct_zret false hx hb hr hlk hK hS (m_st, m_now) hw hP hD d_M_integerDigit_16
/-! DecimalPatternsModel.power()Z -/
def wp_M_power (m_st : Int32) (m_now : Nat → Int32) (Q : Bool → Int32 → Prop) : Prop := vp_in (1 : Int32) 9 ∧ (((m_now (1 : Int32).toNatClampNeg) ≤ 0 → (Q false 7)) ∧ (¬ (m_now (1 : Int32).toNatClampNeg) ≤ 0 → (vp_in (6 : Int32) 9 ∧ ((¬ (m_now (6 : Int32).toNatClampNeg) = 0 → (Q false 7)) ∧ ((m_now (6 : Int32).toNatClampNeg) = 0 → (Q true 7))))))
set_option maxHeartbeats 4000000 in
set_option maxRecDepth 100000 in
theorem c_M_power (l : Launch) (D : va_G) (cA : ClassId) (mo mo_dr mo_now mo_first mo_has mo_da mo_dl mo_af mo_al mo_sy mo_dg mo_out mo_tx : Nat) (m_ds : Int32) (m_st : Int32) (m_sub : Int32) (m_q : Int32) (m_two : Bool) (m_least : Int32) (m_os : Int32) (m_ts : Int32) (m_fs : Int64) (m_fc : Int32) (m_g : Int64) (m_gs : Int32) (m_dr : Nat → Int32) (m_now : Nat → Int32) (m_first : Nat → Int32) (m_has : Nat → Int32) (m_da : Nat → Int32) (m_dl : Nat → Int32) (m_af : Nat → Int32) (m_al : Nat → Int32) (m_sy : Nat → Int32) (m_dg : Nat → Int32) (m_out : Nat → Int32) (m_tx : Nat → Int32) (Q : Bool → Int32 → Prop) (hw : wp_M_power m_st m_now Q) : ct_M vwCl l D [(cA, .int)] y_M_power w_M_power { frames := 0, cells := 0, slots := 0, locals := 0 } [.ref mo] (wd_Mo cA mo mo_dr mo_now mo_first mo_has mo_da mo_dl mo_af mo_al mo_sy mo_dg mo_out mo_tx m_ds m_st m_sub m_q m_two m_least m_os m_ts m_fs m_fc m_g m_gs m_dr m_now m_first m_has m_da m_dl m_af m_al m_sy m_dg m_out m_tx) (ct_qz vwCl D [(cA, .int)] Q (fun u => wd_Mo cA mo mo_dr mo_now mo_first mo_has mo_da mo_dl mo_af mo_al mo_sy mo_dg mo_out mo_tx m_ds u m_sub m_q m_two m_least m_os m_ts m_fs m_fc m_g m_gs m_dr m_now m_first m_has m_da m_dl m_af m_al m_sy m_dg m_out m_tx)) := by
  refine ct_enter (cc := b_M_power) (maxL := 1) (ret := (some .boolean)) (by decide) rfl (Nat.le_of_ble_eq_true rfl) ?_
  intro p e s m args below meth c A ls hx hb hr hlk hml hts hown hA hS hP hK hN hD hl
  have hl : lv_has ls 1 [(0, .ref mo)] := hl
  have htb : ∀ w ∈ tbl, w.before args s = true := fun w h => hts w (List.mem_cons_of_mem _ h)
  have hown : s.vm.findClass "DecimalPatternsModel" = some m.cls := hown
  unfold wp_M_power at hw
  refine lv_aload_n hx hb d_M_power_0 rfl (lv_at hl 0 rfl) ?_
  refine lv_bipush (v := 7) hx hb d_M_power_1 (by decide) ?_
  refine va_put (ci := 9) (v := .int 7) (ty := .int) (C := R_Mo) (T := F_Mo) (N := 24) hx hb htb in_Mo t_Mo t_Mo_ok n_Mo hown hK hP hD hS 0 rfl rfl 2 (by decide) (htb _ tw698) (fun _ h9 => h9) rfl (by decide +kernel) rfl rfl (Nat.le_of_ble_eq_true rfl) d_M_power_3 (fun H locs hP hD hS => ?_)
  have hP : va_P D vwCl (wd_Mo cA mo mo_dr mo_now mo_first mo_has mo_da mo_dl mo_af mo_al mo_sy mo_dg mo_out mo_tx m_ds 7 m_sub m_q m_two m_least m_os m_ts m_fs m_fc m_g m_gs m_dr m_now m_first m_has m_da m_dl m_af m_al m_sy m_dg m_out m_tx) H := hP
  have hD : va_D A (wd_Mo cA mo mo_dr mo_now mo_first mo_has mo_da mo_dl mo_af mo_al mo_sy mo_dg mo_out mo_tx m_ds 7 m_sub m_q m_two m_least m_os m_ts m_fs m_fc m_g m_gs m_dr m_now m_first m_has m_da m_dl m_af m_al m_sy m_dg m_out m_tx) := hD
  refine lv_aload_n hx hb d_M_power_6 rfl (lv_at hl 0 rfl) ?_
  refine va_get (ci := 9) (C := R_Mo) (T := F_Mo) (N := 24) hx hb htb in_Mo hown hK hP 0 rfl rfl 5 (by decide) (htb _ tw701) (fun _ h9 => h9) rfl d_M_power_7 ?_
  refine lv_iconst (v := 1) hx hb d_M_power_10 (by decide) ?_
  have hi := hw.1
  have hw := hw.2
  refine va_iald hx hb hK hP 2 0 rfl rfl hi d_M_power_11 ?_
  refine lv_if_le (tgt := 29) hx hb d_M_power_12 rfl (fun hc => ?_) (fun hc => ?_)
  · have hw := hw.1 hc
    refine lv_iconst (v := 0) hx hb d_M_power_29 (by decide) ?_
    exact ct_zret false hx hb hr hlk hK hS 7 hw hP hD d_M_power_30
  · have hw := hw.2 hc
    refine lv_aload_n hx hb d_M_power_15 rfl (lv_at hl 0 rfl) ?_
    refine va_get (ci := 9) (C := R_Mo) (T := F_Mo) (N := 24) hx hb htb in_Mo hown hK hP 0 rfl rfl 5 (by decide) (htb _ tw701) (fun _ h9 => h9) rfl d_M_power_16 ?_
    refine lv_bipush (v := 6) hx hb d_M_power_19 (by decide) ?_
    have hi := hw.1
    have hw := hw.2
    refine va_iald hx hb hK hP 2 0 rfl rfl hi d_M_power_21 ?_
    refine lv_if_ne (tgt := 29) hx hb d_M_power_22 rfl (fun hc => ?_) (fun hc => ?_)
    · have hw := hw.1 hc
      refine lv_iconst (v := 0) hx hb d_M_power_29 (by decide) ?_
      exact ct_zret false hx hb hr hlk hK hS 7 hw hP hD d_M_power_30
    · have hw := hw.2 hc
      refine lv_iconst (v := 1) hx hb d_M_power_25 (by decide) ?_
      refine lv_goto (tgt := 30) hx hb d_M_power_26 rfl ?_
      exact ct_zret true hx hb hr hlk hK hS 7 hw hP hD d_M_power_30
/-! DecimalPatternsModel.copy([I[I)V -/
def wp_M_copy_L20 : Nat → (Nat → Int32) → Int32 → (Nat → Int32) → ((Nat → Int32) → Prop) → Prop
  | 0, _, _, _, _ => False
  | n20 + 1, fa_f, x2, ta_f, Q => (9 ≤ x2 → (Q ta_f)) ∧ (¬ 9 ≤ x2 → (vp_in x2 9 ∧ (vp_in x2 9 ∧ (wp_M_copy_L20 n20 fa_f (x2 + 1) (upd ta_f x2.toNatClampNeg (fa_f x2.toNatClampNeg)) Q))))
def wp_M_copy (fa_f : Nat → Int32) (ta_f : Nat → Int32) (Q : (Nat → Int32) → Prop) : Prop := ∃ n20, wp_M_copy_L20 n20 fa_f 0 ta_f Q
set_option maxHeartbeats 4000000 in
set_option maxRecDepth 100000 in
theorem c_M_copy (l : Launch) (D : va_G) (cA : ClassId) (fa ta : Nat) (fa_f : Nat → Int32) (ta_f : Nat → Int32) (Q : (Nat → Int32) → Prop) (hw : wp_M_copy fa_f ta_f Q) : ct_M vwCl l D [(cA, .int)] y_M_copy w_M_copy { frames := 0, cells := 0, slots := 0, locals := 0 } [.ref fa, .ref ta] (wd_Cp cA fa ta fa_f ta_f) (ct_qv vwCl D [(cA, .int)] Q (fun u => wd_Cp cA fa ta fa_f u)) := by
  refine ct_enter (cc := b_M_copy) (maxL := 3) (ret := none) (by decide) rfl (Nat.le_of_ble_eq_true rfl) ?_
  intro p e s m args below meth c A ls hx hb hr hlk hml hts hown hA hS hP hK hN hD hl
  have hl : lv_has ls 3 [(0, .ref fa), (1, .ref ta)] := hl
  have htb : ∀ w ∈ tbl, w.before args s = true := fun w h => hts w (List.mem_cons_of_mem _ h)
  have hown : s.vm.findClass "DecimalPatternsModel" = some m.cls := hown
  unfold wp_M_copy at hw
  have hL20 : ∀ (n20 : Nat) (x2 : Int32) (ta_f : Nat → Int32) (H : Heap) (locs : List Loc) (ls : Array Slot), lv_has ls 3 [(0, .ref fa), (1, .ref ta), (2, .int x2)] → va_P D vwCl (wd_Cp cA fa ta fa_f ta_f) H → va_D A (wd_Cp cA fa ta fa_f ta_f) → va_S A s.heap H locs → wp_M_copy_L20 n20 fa_f x2 ta_f Q → W p l e { frames := 0, cells := 0, slots := 0, locals := 0 } s m args below meth c H locs 0 0 (MQ below (ct_qv vwCl D [(cA, .int)] Q (fun u => wd_Cp cA fa ta fa_f u) A) args s 0 0 A) (F0 m 2 ls []) := by
    intro n20
    induction n20 with
    | zero => intro x2 ta_f H locs ls hl hP hD hS hw; exact hw.elim
    | succ n20 ih20 =>
      intro x2 ta_f H locs ls hl hP hD hS hw
      unfold wp_M_copy_L20 at hw
      refine lv_iload_n hx hb d_M_copy_2 rfl (lv_at hl 2 rfl) ?_
      refine lv_bipush (v := 9) hx hb d_M_copy_3 (by decide) ?_
      refine lv_icmp_ge (tgt := 20) hx hb d_M_copy_5 rfl (fun hc => ?_) (fun hc => ?_)
      · have hw := hw.1 hc
        exact ct_vret hx hb hr hlk hK hS ta_f hw hP hD d_M_copy_20
      · have hw := hw.2 hc
        refine lv_aload_n hx hb d_M_copy_8 rfl (lv_at hl 1 rfl) ?_
        refine lv_iload_n hx hb d_M_copy_9 rfl (lv_at hl 2 rfl) ?_
        refine lv_aload_n hx hb d_M_copy_10 rfl (lv_at hl 0 rfl) ?_
        refine lv_iload_n hx hb d_M_copy_11 rfl (lv_at hl 2 rfl) ?_
        have hi := hw.1
        have hw := hw.2
        refine va_iald hx hb hK hP 0 0 rfl rfl hi d_M_copy_12 ?_
        have hi := hw.1
        have hw := hw.2
        refine va_iast hx hb hK hP hD hS 1 0 rfl rfl hi d_M_copy_13 (fun H locs hP hD hS => ?_)
        have hP : va_P D vwCl (wd_Cp cA fa ta fa_f (upd ta_f x2.toNatClampNeg (fa_f x2.toNatClampNeg))) H := hP
        have hD : va_D A (wd_Cp cA fa ta fa_f (upd ta_f x2.toNatClampNeg (fa_f x2.toNatClampNeg))) := hD
        refine lv_iinc (k := 2) (v := x2 + 1) (lv' := [(2, .int (x2 + 1)), (0, .ref fa), (1, .ref ta)]) hx hb d_M_copy_14 hl rfl (by rfl) (by decide) rfl (fun ls hl => ?_)
        refine lv_goto (tgt := 2) hx hb d_M_copy_17 rfl ?_
        exact ih20 (x2 + 1) (upd ta_f x2.toNatClampNeg (fa_f x2.toNatClampNeg)) _ _ _ (lv_sub hl [1, 2, 0] rfl) hP hD hS hw
  refine lv_iconst (v := 0) hx hb d_M_copy_0 (by decide) ?_
  refine lv_istore_n (lv' := [(2, .int 0), (0, .ref fa), (1, .ref ta)]) hx hb d_M_copy_1 rfl hl (by decide) rfl (fun ls hl => ?_)
  obtain ⟨n20, hw⟩ := hw
  exact hL20 n20 0 ta_f _ _ _ (lv_sub hl [1, 2, 0] rfl) hP hD hS hw
/-! DecimalPatternsModel.behind(I)Z -/
def wp_M_behind (m_st : Int32) (m_sub : Int32) (m_q : Int32) (m_now : Nat → Int32) (m_first : Nat → Int32) (m_da : Nat → Int32) (m_dl : Nat → Int32) (cd : Int32) (Q : Bool → (Int32 × Int32 × Int32 × (Nat → Int32) × (Nat → Int32) × (Nat → Int32) × (Nat → Int32)) → Prop) : Prop := (¬ cd = 59 → (wp_M_plainAffix 10 m_sub m_q m_da m_dl cd 11 (fun r1 u2 => Q r1 (u2.1, m_sub, u2.2.1, m_now, m_first, u2.2.2.1, u2.2.2.2)))) ∧ (cd = 59 → ((¬ m_sub = 0 → (wp_M_copy m_now m_first (fun u4 => wp_M_begin m_st m_sub m_now m_dl 1 (fun u6 => Q false (u6.1, u6.2.1, m_q, u6.2.2.1, u4, m_da, u6.2.2.2))))) ∧ (m_sub = 0 → (wp_M_copy m_now m_first (fun u8 => wp_M_begin m_st m_sub m_now m_dl 1 (fun u10 => Q true (u10.1, u10.2.1, m_q, u10.2.2.1, u8, m_da, u10.2.2.2)))))))
set_option maxHeartbeats 4000000 in
set_option maxRecDepth 100000 in
theorem c_M_behind (l : Launch) (D : va_G) (cA : ClassId) (mo mo_dr mo_now mo_first mo_has mo_da mo_dl mo_af mo_al mo_sy mo_dg mo_out mo_tx : Nat) (m_ds : Int32) (m_st : Int32) (m_sub : Int32) (m_q : Int32) (m_two : Bool) (m_least : Int32) (m_os : Int32) (m_ts : Int32) (m_fs : Int64) (m_fc : Int32) (m_g : Int64) (m_gs : Int32) (m_dr : Nat → Int32) (m_now : Nat → Int32) (m_first : Nat → Int32) (m_has : Nat → Int32) (m_da : Nat → Int32) (m_dl : Nat → Int32) (m_af : Nat → Int32) (m_al : Nat → Int32) (m_sy : Nat → Int32) (m_dg : Nat → Int32) (m_out : Nat → Int32) (m_tx : Nat → Int32) (cd : Int32) (Q : Bool → (Int32 × Int32 × Int32 × (Nat → Int32) × (Nat → Int32) × (Nat → Int32) × (Nat → Int32)) → Prop) (hw : wp_M_behind m_st m_sub m_q m_now m_first m_da m_dl cd Q) : ct_M vwCl l D [(cA, .int)] y_M_behind w_M_behind { frames := 2, cells := 0, slots := 0, locals := 44 } [.ref mo, .int cd] (wd_Mo cA mo mo_dr mo_now mo_first mo_has mo_da mo_dl mo_af mo_al mo_sy mo_dg mo_out mo_tx m_ds m_st m_sub m_q m_two m_least m_os m_ts m_fs m_fc m_g m_gs m_dr m_now m_first m_has m_da m_dl m_af m_al m_sy m_dg m_out m_tx) (ct_qz vwCl D [(cA, .int)] Q (fun u => wd_Mo cA mo mo_dr mo_now mo_first mo_has mo_da mo_dl mo_af mo_al mo_sy mo_dg mo_out mo_tx m_ds u.1 u.2.1 u.2.2.1 m_two m_least m_os m_ts m_fs m_fc m_g m_gs m_dr u.2.2.2.1 u.2.2.2.2.1 m_has u.2.2.2.2.2.1 u.2.2.2.2.2.2 m_af m_al m_sy m_dg m_out m_tx)) := by
  refine ct_enter (cc := b_M_behind) (maxL := 3) (ret := (some .boolean)) (by decide) rfl (Nat.le_of_ble_eq_true rfl) ?_
  intro p e s m args below meth c A ls hx hb hr hlk hml hts hown hA hS hP hK hN hD hl
  have hl : lv_has ls 3 [(0, .ref mo), (1, .int cd)] := hl
  have htb : ∀ w ∈ tbl, w.before args s = true := fun w h => hts w (List.mem_cons_of_mem _ h)
  have hown : s.vm.findClass "DecimalPatternsModel" = some m.cls := hown
  unfold wp_M_behind at hw
  refine lv_iload_n hx hb d_M_behind_0 rfl (lv_at hl 1 rfl) ?_
  refine lv_bipush (v := 59) hx hb d_M_behind_1 (by decide) ?_
  refine lv_icmp_ne (tgt := 37) hx hb d_M_behind_3 rfl (fun hc => ?_) (fun hc => ?_)
  · have hw := hw.1 hc
    refine lv_aload_n hx hb d_M_behind_37 rfl (lv_at hl 0 rfl) ?_
    refine lv_bipush (v := 10) hx hb d_M_behind_38 (by decide) ?_
    refine va_put (ci := 9) (v := .int 10) (ty := .int) (C := R_Mo) (T := F_Mo) (N := 24) hx hb htb in_Mo t_Mo t_Mo_ok n_Mo hown hK hP hD hS 0 rfl rfl 2 (by decide) (htb _ tw698) (fun _ h9 => h9) rfl (by decide +kernel) rfl rfl (Nat.le_of_ble_eq_true rfl) d_M_behind_40 (fun H locs hP hD hS => ?_)
    have hP : va_P D vwCl (wd_Mo cA mo mo_dr mo_now mo_first mo_has mo_da mo_dl mo_af mo_al mo_sy mo_dg mo_out mo_tx m_ds 10 m_sub m_q m_two m_least m_os m_ts m_fs m_fc m_g m_gs m_dr m_now m_first m_has m_da m_dl m_af m_al m_sy m_dg m_out m_tx) H := hP
    have hD : va_D A (wd_Mo cA mo mo_dr mo_now mo_first mo_has mo_da mo_dl mo_af mo_al mo_sy mo_dg mo_out mo_tx m_ds 10 m_sub m_q m_two m_least m_os m_ts m_fs m_fc m_g m_gs m_dr m_now m_first m_has m_da m_dl m_af m_al m_sy m_dg m_out m_tx) := hD
    refine lv_aload_n hx hb d_M_behind_43 rfl (lv_at hl 0 rfl) ?_
    refine lv_iload_n hx hb d_M_behind_44 rfl (lv_at hl 1 rfl) ?_
    refine lv_bipush (v := 11) hx hb d_M_behind_45 (by decide) ?_
    refine ct_callz (wn := fun u2 => wd_Mo cA mo mo_dr mo_now mo_first mo_has mo_da mo_dl mo_af mo_al mo_sy mo_dg mo_out mo_tx m_ds u2.1 m_sub u2.2.1 m_two m_least m_os m_ts m_fs m_fc m_g m_gs m_dr m_now m_first m_has u2.2.2.1 u2.2.2.2 m_af m_al m_sy m_dg m_out m_tx) (va_runV (As := [.int cd, .int 11]) (rest := []) ⟨hx, hb, hml, hown, htb⟩ (c_M_plainAffix l D cA mo mo_dr mo_now mo_first mo_has mo_da mo_dl mo_af mo_al mo_sy mo_dg mo_out mo_tx m_ds 10 m_sub m_q m_two m_least m_os m_ts m_fs m_fc m_g m_gs m_dr m_now m_first m_has m_da m_dl m_af m_al m_sy m_dg m_out m_tx cd 11 _ hw _) (ct_cwV 2 htb tw796 rfl rfl tw82 tw793 tw795 tw44 hd_M_plainAffix ⟨by decide, by decide⟩) (ct_preV hP hD hK hN [0, 1, 2, 3, 4, 5, 6, 7, 8, 9, 10, 11, 12] rfl (by decide) 0 rfl rfl _) rfl rfl hl.1 rfl (lv_room (Nat.le_of_ble_eq_true rfl)) d_M_behind_47 ⟨Nat.zero_le _, Nat.zero_le _⟩) hP hD hS hA [0, 1, 2, 3, 4, 5, 6, 7, 8, 9, 10, 11, 12] [] [0, 1, 2, 3, 4, 5, 6, 7, 8, 9, 10, 11, 12] rfl rfl (by decide) (by decide) (fun _ => rfl) (by decide) (fun r1 u2 H locs hw hP hD hS => ?_)
    have hP : va_P D vwCl (wd_Mo cA mo mo_dr mo_now mo_first mo_has mo_da mo_dl mo_af mo_al mo_sy mo_dg mo_out mo_tx m_ds u2.1 m_sub u2.2.1 m_two m_least m_os m_ts m_fs m_fc m_g m_gs m_dr m_now m_first m_has u2.2.2.1 u2.2.2.2 m_af m_al m_sy m_dg m_out m_tx) H := hP
    have hD : va_D A (wd_Mo cA mo mo_dr mo_now mo_first mo_has mo_da mo_dl mo_af mo_al mo_sy mo_dg mo_out mo_tx m_ds u2.1 m_sub u2.2.1 m_two m_least m_os m_ts m_fs m_fc m_g m_gs m_dr m_now m_first m_has u2.2.2.1 u2.2.2.2 m_af m_al m_sy m_dg m_out m_tx) := hD
    exact ct_zret r1 hx hb hr hlk hK hS (u2.1, m_sub, u2.2.1, m_now, m_first, u2.2.2.1, u2.2.2.2) hw hP hD d_M_behind_50
  · have hw := hw.2 hc
    refine lv_aload_n hx hb d_M_behind_6 rfl (lv_at hl 0 rfl) ?_
    refine va_get (ci := 9) (C := R_Mo) (T := F_Mo) (N := 24) hx hb htb in_Mo hown hK hP 0 rfl rfl 3 (by decide) (htb _ tw699) (fun _ h9 => h9) rfl d_M_behind_7 ?_
    refine lv_if_ne (tgt := 17) hx hb d_M_behind_10 rfl (fun hc => ?_) (fun hc => ?_)
    · have hw := hw.1 hc
      refine lv_iconst (v := 0) hx hb d_M_behind_17 (by decide) ?_
      refine lv_istore_n (lv' := [(2, .int 0), (0, .ref mo), (1, .int cd)]) hx hb d_M_behind_18 rfl hl (by decide) rfl (fun ls hl => ?_)
      refine lv_aload_n hx hb d_M_behind_19 rfl (lv_at hl 1 rfl) ?_
      refine va_get (ci := 9) (C := R_Mo) (T := F_Mo) (N := 24) hx hb htb in_Mo hown hK hP 0 rfl rfl 5 (by decide) (htb _ tw701) (fun _ h9 => h9) rfl d_M_behind_20 ?_
      refine lv_aload_n hx hb d_M_behind_23 rfl (lv_at hl 1 rfl) ?_
      refine va_get (ci := 9) (C := R_Mo) (T := F_Mo) (N := 24) hx hb htb in_Mo hown hK hP 0 rfl rfl 6 (by decide) (htb _ tw702) (fun _ h9 => h9) rfl d_M_behind_24 ?_
      refine ct_callv (wn := fun u4 => wd_Mo cA mo mo_dr mo_now mo_first mo_has mo_da mo_dl mo_af mo_al mo_sy mo_dg mo_out mo_tx m_ds m_st m_sub m_q m_two m_least m_os m_ts m_fs m_fc m_g m_gs m_dr m_now u4 m_has m_da m_dl m_af m_al m_sy m_dg m_out m_tx) (va_runS (As := [.ref mo_now, .ref mo_first]) (rest := []) ⟨hx, hb, hml, hown, htb⟩ (c_M_copy l D cA mo_now mo_first m_now m_first _ hw _) (ct_cwS 2 htb tw822 rfl rfl tw82 tw820 tw821 hd_M_copy ⟨by decide, by decide⟩) (ct_preS hP hD hK hN [2, 3] rfl (by decide) _) rfl rfl hl.1 rfl (lv_room (Nat.le_of_ble_eq_true rfl)) d_M_behind_27 ⟨Nat.zero_le _, Nat.zero_le _⟩) hP hD hS hA [2, 3] [0, 1, 4, 5, 6, 7, 8, 9, 10, 11, 12] [0, 1, 11, 12, 2, 3, 4, 5, 6, 7, 8, 9, 10] rfl rfl (by decide) (by decide) (fun _ => rfl) (by decide) (fun u4 H locs hw hP hD hS => ?_)
      have hP : va_P D vwCl (wd_Mo cA mo mo_dr mo_now mo_first mo_has mo_da mo_dl mo_af mo_al mo_sy mo_dg mo_out mo_tx m_ds m_st m_sub m_q m_two m_least m_os m_ts m_fs m_fc m_g m_gs m_dr m_now u4 m_has m_da m_dl m_af m_al m_sy m_dg m_out m_tx) H := hP
      have hD : va_D A (wd_Mo cA mo mo_dr mo_now mo_first mo_has mo_da mo_dl mo_af mo_al mo_sy mo_dg mo_out mo_tx m_ds m_st m_sub m_q m_two m_least m_os m_ts m_fs m_fc m_g m_gs m_dr m_now u4 m_has m_da m_dl m_af m_al m_sy m_dg m_out m_tx) := hD
      refine lv_aload_n hx hb d_M_behind_30 rfl (lv_at hl 1 rfl) ?_
      refine lv_iconst (v := 1) hx hb d_M_behind_31 (by decide) ?_
      refine ct_callv (wn := fun u6 => wd_Mo cA mo mo_dr mo_now mo_first mo_has mo_da mo_dl mo_af mo_al mo_sy mo_dg mo_out mo_tx m_ds u6.1 u6.2.1 m_q m_two m_least m_os m_ts m_fs m_fc m_g m_gs m_dr u6.2.2.1 u4 m_has m_da u6.2.2.2 m_af m_al m_sy m_dg m_out m_tx) (va_runV (As := [.int 1]) (rest := []) ⟨hx, hb, hml, hown, htb⟩ (c_M_begin l D cA mo mo_dr mo_now mo_first mo_has mo_da mo_dl mo_af mo_al mo_sy mo_dg mo_out mo_tx m_ds m_st m_sub m_q m_two m_least m_os m_ts m_fs m_fc m_g m_gs m_dr m_now u4 m_has m_da m_dl m_af m_al m_sy m_dg m_out m_tx 1 _ hw _) (ct_cwV 1 htb tw784 rfl rfl tw82 tw781 tw783 tw41 hd_M_begin ⟨by decide, by decide⟩) (ct_preV hP hD hK hN [0, 1, 2, 3, 4, 5, 6, 7, 8, 9, 10, 11, 12] rfl (by decide) 0 rfl rfl _) rfl rfl hl.1 rfl (lv_room (Nat.le_of_ble_eq_true rfl)) d_M_behind_32 ⟨Nat.zero_le _, Nat.zero_le _⟩) hP hD hS hA [0, 1, 2, 3, 4, 5, 6, 7, 8, 9, 10, 11, 12] [] [0, 1, 2, 3, 4, 5, 6, 7, 8, 9, 10, 11, 12] rfl rfl (by decide) (by decide) (fun _ => rfl) (by decide) (fun u6 H locs hw hP hD hS => ?_)
      have hP : va_P D vwCl (wd_Mo cA mo mo_dr mo_now mo_first mo_has mo_da mo_dl mo_af mo_al mo_sy mo_dg mo_out mo_tx m_ds u6.1 u6.2.1 m_q m_two m_least m_os m_ts m_fs m_fc m_g m_gs m_dr u6.2.2.1 u4 m_has m_da u6.2.2.2 m_af m_al m_sy m_dg m_out m_tx) H := hP
      have hD : va_D A (wd_Mo cA mo mo_dr mo_now mo_first mo_has mo_da mo_dl mo_af mo_al mo_sy mo_dg mo_out mo_tx m_ds u6.1 u6.2.1 m_q m_two m_least m_os m_ts m_fs m_fc m_g m_gs m_dr u6.2.2.1 u4 m_has m_da u6.2.2.2 m_af m_al m_sy m_dg m_out m_tx) := hD
      refine lv_iload_n hx hb d_M_behind_35 rfl (lv_at hl 0 rfl) ?_
      exact ct_zret false hx hb hr hlk hK hS (u6.1, u6.2.1, m_q, u6.2.2.1, u4, m_da, u6.2.2.2) hw hP hD d_M_behind_36
    · have hw := hw.2 hc
      refine lv_iconst (v := 1) hx hb d_M_behind_13 (by decide) ?_
      refine lv_goto (tgt := 18) hx hb d_M_behind_14 rfl ?_
      refine lv_istore_n (lv' := [(2, .int 1), (0, .ref mo), (1, .int cd)]) hx hb d_M_behind_18 rfl hl (by decide) rfl (fun ls hl => ?_)
      refine lv_aload_n hx hb d_M_behind_19 rfl (lv_at hl 1 rfl) ?_
      refine va_get (ci := 9) (C := R_Mo) (T := F_Mo) (N := 24) hx hb htb in_Mo hown hK hP 0 rfl rfl 5 (by decide) (htb _ tw701) (fun _ h9 => h9) rfl d_M_behind_20 ?_
      refine lv_aload_n hx hb d_M_behind_23 rfl (lv_at hl 1 rfl) ?_
      refine va_get (ci := 9) (C := R_Mo) (T := F_Mo) (N := 24) hx hb htb in_Mo hown hK hP 0 rfl rfl 6 (by decide) (htb _ tw702) (fun _ h9 => h9) rfl d_M_behind_24 ?_
      refine ct_callv (wn := fun u8 => wd_Mo cA mo mo_dr mo_now mo_first mo_has mo_da mo_dl mo_af mo_al mo_sy mo_dg mo_out mo_tx m_ds m_st m_sub m_q m_two m_least m_os m_ts m_fs m_fc m_g m_gs m_dr m_now u8 m_has m_da m_dl m_af m_al m_sy m_dg m_out m_tx) (va_runS (As := [.ref mo_now, .ref mo_first]) (rest := []) ⟨hx, hb, hml, hown, htb⟩ (c_M_copy l D cA mo_now mo_first m_now m_first _ hw _) (ct_cwS 2 htb tw822 rfl rfl tw82 tw820 tw821 hd_M_copy ⟨by decide, by decide⟩) (ct_preS hP hD hK hN [2, 3] rfl (by decide) _) rfl rfl hl.1 rfl (lv_room (Nat.le_of_ble_eq_true rfl)) d_M_behind_27 ⟨Nat.zero_le _, Nat.zero_le _⟩) hP hD hS hA [2, 3] [0, 1, 4, 5, 6, 7, 8, 9, 10, 11, 12] [0, 1, 11, 12, 2, 3, 4, 5, 6, 7, 8, 9, 10] rfl rfl (by decide) (by decide) (fun _ => rfl) (by decide) (fun u8 H locs hw hP hD hS => ?_)
      have hP : va_P D vwCl (wd_Mo cA mo mo_dr mo_now mo_first mo_has mo_da mo_dl mo_af mo_al mo_sy mo_dg mo_out mo_tx m_ds m_st m_sub m_q m_two m_least m_os m_ts m_fs m_fc m_g m_gs m_dr m_now u8 m_has m_da m_dl m_af m_al m_sy m_dg m_out m_tx) H := hP
      have hD : va_D A (wd_Mo cA mo mo_dr mo_now mo_first mo_has mo_da mo_dl mo_af mo_al mo_sy mo_dg mo_out mo_tx m_ds m_st m_sub m_q m_two m_least m_os m_ts m_fs m_fc m_g m_gs m_dr m_now u8 m_has m_da m_dl m_af m_al m_sy m_dg m_out m_tx) := hD
      refine lv_aload_n hx hb d_M_behind_30 rfl (lv_at hl 1 rfl) ?_
      refine lv_iconst (v := 1) hx hb d_M_behind_31 (by decide) ?_
      refine ct_callv (wn := fun u10 => wd_Mo cA mo mo_dr mo_now mo_first mo_has mo_da mo_dl mo_af mo_al mo_sy mo_dg mo_out mo_tx m_ds u10.1 u10.2.1 m_q m_two m_least m_os m_ts m_fs m_fc m_g m_gs m_dr u10.2.2.1 u8 m_has m_da u10.2.2.2 m_af m_al m_sy m_dg m_out m_tx) (va_runV (As := [.int 1]) (rest := []) ⟨hx, hb, hml, hown, htb⟩ (c_M_begin l D cA mo mo_dr mo_now mo_first mo_has mo_da mo_dl mo_af mo_al mo_sy mo_dg mo_out mo_tx m_ds m_st m_sub m_q m_two m_least m_os m_ts m_fs m_fc m_g m_gs m_dr m_now u8 m_has m_da m_dl m_af m_al m_sy m_dg m_out m_tx 1 _ hw _) (ct_cwV 1 htb tw784 rfl rfl tw82 tw781 tw783 tw41 hd_M_begin ⟨by decide, by decide⟩) (ct_preV hP hD hK hN [0, 1, 2, 3, 4, 5, 6, 7, 8, 9, 10, 11, 12] rfl (by decide) 0 rfl rfl _) rfl rfl hl.1 rfl (lv_room (Nat.le_of_ble_eq_true rfl)) d_M_behind_32 ⟨Nat.zero_le _, Nat.zero_le _⟩) hP hD hS hA [0, 1, 2, 3, 4, 5, 6, 7, 8, 9, 10, 11, 12] [] [0, 1, 2, 3, 4, 5, 6, 7, 8, 9, 10, 11, 12] rfl rfl (by decide) (by decide) (fun _ => rfl) (by decide) (fun u10 H locs hw hP hD hS => ?_)
      have hP : va_P D vwCl (wd_Mo cA mo mo_dr mo_now mo_first mo_has mo_da mo_dl mo_af mo_al mo_sy mo_dg mo_out mo_tx m_ds u10.1 u10.2.1 m_q m_two m_least m_os m_ts m_fs m_fc m_g m_gs m_dr u10.2.2.1 u8 m_has m_da u10.2.2.2 m_af m_al m_sy m_dg m_out m_tx) H := hP
      have hD : va_D A (wd_Mo cA mo mo_dr mo_now mo_first mo_has mo_da mo_dl mo_af mo_al mo_sy mo_dg mo_out mo_tx m_ds u10.1 u10.2.1 m_q m_two m_least m_os m_ts m_fs m_fc m_g m_gs m_dr u10.2.2.1 u8 m_has m_da u10.2.2.2 m_af m_al m_sy m_dg m_out m_tx) := hD
      refine lv_iload_n hx hb d_M_behind_35 rfl (lv_at hl 0 rfl) ?_
      exact ct_zret true hx hb hr hlk hK hS (u10.1, u10.2.1, m_q, u10.2.2.1, u8, m_da, u10.2.2.2) hw hP hD d_M_behind_36
