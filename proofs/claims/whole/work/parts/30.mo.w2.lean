/-! DecimalPatternsModel.apply()I -/
def wp_M_apply_L2220 : Nat → (Nat → Int32) → Int32 → Int32 → Int32 → Int32 → Int32 → Bool → (Nat → Int32) → (Nat → Int32) → (Nat → Int32) → (Nat → Int32) → (Nat → Int32) → (Nat → Int32) → (Nat → Int32) → (Int32 → (Int32 × Int32 × Int32 × Int32 × Bool × (Nat → Int32) × (Nat → Int32) × (Nat → Int32) × (Nat → Int32) × (Nat → Int32) × (Nat → Int32) × (Nat → Int32)) → Prop) → Prop
  | 0, _, _, _, _, _, _, _, _, _, _, _, _, _, _, _ => False
  | n2220 + 1, m_dr, x2, m_ds, m_st, m_sub, m_q, m_two, m_now, m_first, m_has, m_da, m_dl, m_af, m_al, Q => (160 ≤ x2 → (Q 0 (0, m_st, m_sub, m_q, m_two, m_now, m_first, m_has, m_da, m_dl, m_af, m_al))) ∧ (¬ 160 ≤ x2 → (vp_in x2 160 ∧ (vp_in x2 160 ∧ (wp_M_apply_L2220 n2220 m_dr (x2 + 1) m_ds m_st m_sub m_q m_two m_now m_first m_has m_da m_dl (upd m_af x2.toNatClampNeg (m_da x2.toNatClampNeg)) m_al Q))))
def wp_M_apply_L1810 : Nat → (Nat → Int32) → Int32 → Int32 → Int32 → Int32 → Int32 → Bool → (Nat → Int32) → (Nat → Int32) → (Nat → Int32) → (Nat → Int32) → (Nat → Int32) → (Nat → Int32) → (Nat → Int32) → (Int32 → (Int32 × Int32 × Int32 × Int32 × Bool × (Nat → Int32) × (Nat → Int32) × (Nat → Int32) × (Nat → Int32) × (Nat → Int32) × (Nat → Int32) × (Nat → Int32)) → Prop) → Prop
  | 0, _, _, _, _, _, _, _, _, _, _, _, _, _, _, _ => False
  | n1810 + 1, m_dr, x2, m_ds, m_st, m_sub, m_q, m_two, m_now, m_first, m_has, m_da, m_dl, m_af, m_al, Q => (4 ≤ x2 → (∃ n2220, wp_M_apply_L2220 n2220 m_dr 0 m_ds m_st m_sub m_q m_two m_now m_first m_has m_da m_dl m_af m_al Q)) ∧ (¬ 4 ≤ x2 → ((x2 < 2 → (vp_in x2 4 ∧ (vp_in x2 4 ∧ (wp_M_apply_L1810 n1810 m_dr (x2 + 1) m_ds m_st m_sub m_q m_two m_now m_first m_has m_da m_dl m_af (upd m_al x2.toNatClampNeg (m_dl x2.toNatClampNeg)) Q)))) ∧ (¬ x2 < 2 → ((m_two = false → (vp_in x2 4 ∧ (wp_M_apply_L1810 n1810 m_dr (x2 + 1) m_ds m_st m_sub m_q m_two m_now m_first m_has m_da m_dl m_af (upd m_al x2.toNatClampNeg 0) Q))) ∧ (m_two = true → (vp_in x2 4 ∧ (vp_in x2 4 ∧ (wp_M_apply_L1810 n1810 m_dr (x2 + 1) m_ds m_st m_sub m_q m_two m_now m_first m_has m_da m_dl m_af (upd m_al x2.toNatClampNeg (m_dl x2.toNatClampNeg)) Q))))))))
def wp_M_apply_J1760 (m_dr : Nat → Int32) (y0 : Bool) (m_ds : Int32) (m_st : Int32) (m_sub : Int32) (m_q : Int32) (m_two : Bool) (m_now : Nat → Int32) (m_first : Nat → Int32) (m_has : Nat → Int32) (m_da : Nat → Int32) (m_dl : Nat → Int32) (m_af : Nat → Int32) (m_al : Nat → Int32) (Q : Int32 → (Int32 × Int32 × Int32 × Int32 × Bool × (Nat → Int32) × (Nat → Int32) × (Nat → Int32) × (Nat → Int32) × (Nat → Int32) × (Nat → Int32) × (Nat → Int32)) → Prop) : Prop := ∃ n1810, wp_M_apply_L1810 n1810 m_dr 0 m_ds m_st m_sub m_q y0 m_now m_first m_has m_da m_dl m_af m_al Q
def wp_M_apply_J1610 (m_dr : Nat → Int32) (y0 : Int32) (y1 : Int32) (m_ds : Int32) (m_st : Int32) (m_sub : Int32) (m_q : Int32) (m_two : Bool) (m_now : Nat → Int32) (m_first : Nat → Int32) (m_has : Nat → Int32) (m_da : Nat → Int32) (m_dl : Nat → Int32) (m_af : Nat → Int32) (m_al : Nat → Int32) (Q : Int32 → (Int32 × Int32 × Int32 × Int32 × Bool × (Nat → Int32) × (Nat → Int32) × (Nat → Int32) × (Nat → Int32) × (Nat → Int32) × (Nat → Int32) × (Nat → Int32)) → Prop) : Prop := vp_in y1 9 ∧ ((¬ m_sub = 1 → (wp_M_apply_J1760 m_dr false m_ds m_st m_sub m_q m_two m_now m_first (upd m_has y1.toNatClampNeg y0) m_da m_dl m_af m_al Q)) ∧ (m_sub = 1 → (wp_M_apply_J1760 m_dr true m_ds m_st m_sub m_q m_two m_now m_first (upd m_has y1.toNatClampNeg y0) m_da m_dl m_af m_al Q)))
def wp_M_apply_J1160 (m_dr : Nat → Int32) (m_ds : Int32) (m_st : Int32) (m_sub : Int32) (m_q : Int32) (m_two : Bool) (m_now : Nat → Int32) (m_first : Nat → Int32) (m_has : Nat → Int32) (m_da : Nat → Int32) (m_dl : Nat → Int32) (m_af : Nat → Int32) (m_al : Nat → Int32) (Q : Int32 → (Int32 × Int32 × Int32 × Int32 × Bool × (Nat → Int32) × (Nat → Int32) × (Nat → Int32) × (Nat → Int32) × (Nat → Int32) × (Nat → Int32) × (Nat → Int32)) → Prop) : Prop := wp_M_copy m_first m_has (fun u8 => vp_in (6 : Int32) 9 ∧ ((¬ (u8 (6 : Int32).toNatClampNeg) = 1 → (vp_in (8 : Int32) 9 ∧ (wp_M_apply_J1610 m_dr (u8 (8 : Int32).toNatClampNeg) 8 m_ds m_st m_sub m_q m_two m_now m_first u8 m_da m_dl m_af m_al Q))) ∧ ((u8 (6 : Int32).toNatClampNeg) = 1 → (vp_in (7 : Int32) 9 ∧ (wp_M_apply_J1610 m_dr (u8 (7 : Int32).toNatClampNeg) 8 m_ds m_st m_sub m_q m_two m_now m_first u8 m_da m_dl m_af m_al Q)))))
def wp_M_apply_J860 (m_dr : Nat → Int32) (y0 : Bool) (m_ds : Int32) (m_st : Int32) (m_sub : Int32) (m_q : Int32) (m_two : Bool) (m_now : Nat → Int32) (m_first : Nat → Int32) (m_has : Nat → Int32) (m_da : Nat → Int32) (m_dl : Nat → Int32) (m_af : Nat → Int32) (m_al : Nat → Int32) (Q : Int32 → (Int32 × Int32 × Int32 × Int32 × Bool × (Nat → Int32) × (Nat → Int32) × (Nat → Int32) × (Nat → Int32) × (Nat → Int32) × (Nat → Int32) × (Nat → Int32)) → Prop) : Prop := (y0 = true → ((¬ m_sub = 0 → (wp_M_apply_J1160 m_dr m_ds m_st m_sub m_q m_two m_now m_first m_has m_da m_dl m_af m_al Q)) ∧ (m_sub = 0 → (wp_M_copy m_now m_first (fun u6 => wp_M_apply_J1160 m_dr m_ds m_st m_sub m_q m_two m_now u6 m_has m_da m_dl m_af m_al Q))))) ∧ (y0 = false → (Q (m_ds + 1) (m_ds, m_st, m_sub, m_q, m_two, m_now, m_first, m_has, m_da, m_dl, m_af, m_al)))
def wp_M_apply_J810 (m_dr : Nat → Int32) (m_ds : Int32) (m_st : Int32) (m_sub : Int32) (m_q : Int32) (m_two : Bool) (m_now : Nat → Int32) (m_first : Nat → Int32) (m_has : Nat → Int32) (m_da : Nat → Int32) (m_dl : Nat → Int32) (m_af : Nat → Int32) (m_al : Nat → Int32) (Q : Int32 → (Int32 × Int32 × Int32 × Int32 × Bool × (Nat → Int32) × (Nat → Int32) × (Nat → Int32) × (Nat → Int32) × (Nat → Int32) × (Nat → Int32) × (Nat → Int32)) → Prop) : Prop := wp_M_apply_J860 m_dr true m_ds m_st m_sub m_q m_two m_now m_first m_has m_da m_dl m_af m_al Q
def wp_M_apply_L70 : Nat → (Nat → Int32) → Int32 → Int32 → Int32 → Int32 → Int32 → Bool → (Nat → Int32) → (Nat → Int32) → (Nat → Int32) → (Nat → Int32) → (Nat → Int32) → (Nat → Int32) → (Nat → Int32) → (Int32 → (Int32 × Int32 × Int32 × Int32 × Bool × (Nat → Int32) × (Nat → Int32) × (Nat → Int32) × (Nat → Int32) × (Nat → Int32) × (Nat → Int32) × (Nat → Int32)) → Prop) → Prop
  | 0, _, _, _, _, _, _, _, _, _, _, _, _, _, _, _ => False
  | n70 + 1, m_dr, x1, m_ds, m_st, m_sub, m_q, m_two, m_now, m_first, m_has, m_da, m_dl, m_af, m_al, Q => (m_ds ≤ x1 → ((m_st = 2 → (wp_M_apply_J810 m_dr m_ds m_st m_sub m_q m_two m_now m_first m_has m_da m_dl m_af m_al Q)) ∧ (¬ m_st = 2 → ((m_st = 5 → (wp_M_apply_J810 m_dr m_ds m_st m_sub m_q m_two m_now m_first m_has m_da m_dl m_af m_al Q)) ∧ (¬ m_st = 5 → ((m_st = 6 → (wp_M_apply_J810 m_dr m_ds m_st m_sub m_q m_two m_now m_first m_has m_da m_dl m_af m_al Q)) ∧ (¬ m_st = 6 → ((m_st = 9 → (wp_M_apply_J810 m_dr m_ds m_st m_sub m_q m_two m_now m_first m_has m_da m_dl m_af m_al Q)) ∧ (¬ m_st = 9 → ((¬ m_st = 10 → (wp_M_apply_J860 m_dr false m_ds m_st m_sub m_q m_two m_now m_first m_has m_da m_dl m_af m_al Q)) ∧ (m_st = 10 → (wp_M_apply_J810 m_dr m_ds m_st m_sub m_q m_two m_now m_first m_has m_da m_dl m_af m_al Q)))))))))))) ∧ (¬ m_ds ≤ x1 → (vp_in x1 40 ∧ (wp_M_step m_st m_sub m_q m_now m_first m_da m_dl (m_dr x1.toNatClampNeg) (fun r3 u4 => (r3 = true → (wp_M_apply_L70 n70 m_dr (x1 + 1) m_ds u4.1 u4.2.1 u4.2.2.1 m_two u4.2.2.2.1 u4.2.2.2.2.1 m_has u4.2.2.2.2.2.1 u4.2.2.2.2.2.2 m_af m_al Q)) ∧ (r3 = false → (Q (x1 + 1) (m_ds, u4.1, u4.2.1, u4.2.2.1, m_two, u4.2.2.2.1, u4.2.2.2.2.1, m_has, u4.2.2.2.2.2.1, u4.2.2.2.2.2.2, m_af, m_al)))))))
def wp_M_apply (m_ds : Int32) (m_st : Int32) (m_sub : Int32) (m_q : Int32) (m_two : Bool) (m_dr : Nat → Int32) (m_now : Nat → Int32) (m_first : Nat → Int32) (m_has : Nat → Int32) (m_da : Nat → Int32) (m_dl : Nat → Int32) (m_af : Nat → Int32) (m_al : Nat → Int32) (Q : Int32 → (Int32 × Int32 × Int32 × Int32 × Bool × (Nat → Int32) × (Nat → Int32) × (Nat → Int32) × (Nat → Int32) × (Nat → Int32) × (Nat → Int32) × (Nat → Int32)) → Prop) : Prop := wp_M_begin m_st m_sub m_now m_dl 0 (fun u2 => ∃ n70, wp_M_apply_L70 n70 m_dr 0 m_ds u2.1 u2.2.1 m_q m_two u2.2.2.1 m_first m_has m_da u2.2.2.2 m_af m_al Q)
set_option maxHeartbeats 4000000 in
set_option maxRecDepth 100000 in
theorem c_M_apply (l : Launch) (D : va_G) (cA : ClassId) (mo mo_dr mo_now mo_first mo_has mo_da mo_dl mo_af mo_al mo_sy mo_dg mo_out mo_tx : Nat) (m_ds : Int32) (m_st : Int32) (m_sub : Int32) (m_q : Int32) (m_two : Bool) (m_least : Int32) (m_os : Int32) (m_ts : Int32) (m_fs : Int64) (m_fc : Int32) (m_g : Int64) (m_gs : Int32) (m_dr : Nat → Int32) (m_now : Nat → Int32) (m_first : Nat → Int32) (m_has : Nat → Int32) (m_da : Nat → Int32) (m_dl : Nat → Int32) (m_af : Nat → Int32) (m_al : Nat → Int32) (m_sy : Nat → Int32) (m_dg : Nat → Int32) (m_out : Nat → Int32) (m_tx : Nat → Int32) (Q : Int32 → (Int32 × Int32 × Int32 × Int32 × Bool × (Nat → Int32) × (Nat → Int32) × (Nat → Int32) × (Nat → Int32) × (Nat → Int32) × (Nat → Int32) × (Nat → Int32)) → Prop) (hw : wp_M_apply m_ds m_st m_sub m_q m_two m_dr m_now m_first m_has m_da m_dl m_af m_al Q) : ct_M vwCl l D [(cA, .int)] y_M_apply w_M_apply { frames := 5, cells := 0, slots := 0, locals := 109 } [.ref mo] (wd_Mo cA mo mo_dr mo_now mo_first mo_has mo_da mo_dl mo_af mo_al mo_sy mo_dg mo_out mo_tx m_ds m_st m_sub m_q m_two m_least m_os m_ts m_fs m_fc m_g m_gs m_dr m_now m_first m_has m_da m_dl m_af m_al m_sy m_dg m_out m_tx) (ct_qi vwCl D [(cA, .int)] Q (fun u => wd_Mo cA mo mo_dr mo_now mo_first mo_has mo_da mo_dl mo_af mo_al mo_sy mo_dg mo_out mo_tx u.1 u.2.1 u.2.2.1 u.2.2.2.1 u.2.2.2.2.1 m_least m_os m_ts m_fs m_fc m_g m_gs m_dr u.2.2.2.2.2.1 u.2.2.2.2.2.2.1 u.2.2.2.2.2.2.2.1 u.2.2.2.2.2.2.2.2.1 u.2.2.2.2.2.2.2.2.2.1 u.2.2.2.2.2.2.2.2.2.2.1 u.2.2.2.2.2.2.2.2.2.2.2 m_sy m_dg m_out m_tx)) := by
  refine ct_enter (cc := b_M_apply) (maxL := 3) (ret := (some .int)) (by decide) rfl (Nat.le_of_ble_eq_true rfl) ?_
  intro p e s m args below meth c A ls hx hb hr hlk hml hts hown hA hS hP hK hN hD hl
  have hl : lv_has ls 3 [(0, .ref mo)] := hl
  have htb : ∀ w ∈ tbl, w.before args s = true := fun w h => hts w (List.mem_cons_of_mem _ h)
  have hown : s.vm.findClass "DecimalPatternsModel" = some m.cls := hown
  unfold wp_M_apply at hw
  have hL2220 : ∀ (n2220 : Nat) (x2 : Int32) (m_ds : Int32) (m_st : Int32) (m_sub : Int32) (m_q : Int32) (m_two : Bool) (m_now : Nat → Int32) (m_first : Nat → Int32) (m_has : Nat → Int32) (m_da : Nat → Int32) (m_dl : Nat → Int32) (m_af : Nat → Int32) (m_al : Nat → Int32) (H : Heap) (locs : List Loc) (ls : Array Slot), lv_has ls 3 [(0, .ref mo), (2, .int x2)] → va_P D vwCl (wd_Mo cA mo mo_dr mo_now mo_first mo_has mo_da mo_dl mo_af mo_al mo_sy mo_dg mo_out mo_tx m_ds m_st m_sub m_q m_two m_least m_os m_ts m_fs m_fc m_g m_gs m_dr m_now m_first m_has m_da m_dl m_af m_al m_sy m_dg m_out m_tx) H → va_D A (wd_Mo cA mo mo_dr mo_now mo_first mo_has mo_da mo_dl mo_af mo_al mo_sy mo_dg mo_out mo_tx m_ds m_st m_sub m_q m_two m_least m_os m_ts m_fs m_fc m_g m_gs m_dr m_now m_first m_has m_da m_dl m_af m_al m_sy m_dg m_out m_tx) → va_S A s.heap H locs → wp_M_apply_L2220 n2220 m_dr x2 m_ds m_st m_sub m_q m_two m_now m_first m_has m_da m_dl m_af m_al Q → W p l e { frames := 5, cells := 0, slots := 0, locals := 109 } s m args below meth c H locs 0 0 (MQ below (ct_qi vwCl D [(cA, .int)] Q (fun u => wd_Mo cA mo mo_dr mo_now mo_first mo_has mo_da mo_dl mo_af mo_al mo_sy mo_dg mo_out mo_tx u.1 u.2.1 u.2.2.1 u.2.2.2.1 u.2.2.2.2.1 m_least m_os m_ts m_fs m_fc m_g m_gs m_dr u.2.2.2.2.2.1 u.2.2.2.2.2.2.1 u.2.2.2.2.2.2.2.1 u.2.2.2.2.2.2.2.2.1 u.2.2.2.2.2.2.2.2.2.1 u.2.2.2.2.2.2.2.2.2.2.1 u.2.2.2.2.2.2.2.2.2.2.2 m_sy m_dg m_out m_tx) A) args s 0 0 A) (F0 m 222 ls []) := by
    intro n2220
    induction n2220 with
    | zero => intro x2 m_ds m_st m_sub m_q m_two m_now m_first m_has m_da m_dl m_af m_al H locs ls hl hP hD hS hw; exact hw.elim
    | succ n2220 ih2220 =>
      intro x2 m_ds m_st m_sub m_q m_two m_now m_first m_has m_da m_dl m_af m_al H locs ls hl hP hD hS hw
      unfold wp_M_apply_L2220 at hw
      refine lv_iload_n hx hb d_M_apply_222 rfl (lv_at hl 1 rfl) ?_
      refine lv_sipush (v := 160) hx hb d_M_apply_223 (by decide) ?_
      refine lv_icmp_ge (tgt := 247) hx hb d_M_apply_226 rfl (fun hc => ?_) (fun hc => ?_)
      · have hw := hw.1 hc
        refine lv_aload_n hx hb d_M_apply_247 rfl (lv_at hl 0 rfl) ?_
        refine lv_iconst (v := 0) hx hb d_M_apply_248 (by decide) ?_
        refine va_put (ci := 9) (v := .int 0) (ty := .int) (C := R_Mo) (T := F_Mo) (N := 24) hx hb htb in_Mo t_Mo t_Mo_ok n_Mo hown hK hP hD hS 0 rfl rfl 1 (by decide) (htb _ tw697) (fun _ h9 => h9) rfl (by decide +kernel) rfl rfl (Nat.le_of_ble_eq_true rfl) d_M_apply_249 (fun H locs hP hD hS => ?_)
        have hP : va_P D vwCl (wd_Mo cA mo mo_dr mo_now mo_first mo_has mo_da mo_dl mo_af mo_al mo_sy mo_dg mo_out mo_tx 0 m_st m_sub m_q m_two m_least m_os m_ts m_fs m_fc m_g m_gs m_dr m_now m_first m_has m_da m_dl m_af m_al m_sy m_dg m_out m_tx) H := hP
        have hD : va_D A (wd_Mo cA mo mo_dr mo_now mo_first mo_has mo_da mo_dl mo_af mo_al mo_sy mo_dg mo_out mo_tx 0 m_st m_sub m_q m_two m_least m_os m_ts m_fs m_fc m_g m_gs m_dr m_now m_first m_has m_da m_dl m_af m_al m_sy m_dg m_out m_tx) := hD
        refine lv_iconst (v := 0) hx hb d_M_apply_252 (by decide) ?_
        exact ct_iret hx hb hr hlk hK hS (0, m_st, m_sub, m_q, m_two, m_now, m_first, m_has, m_da, m_dl, m_af, m_al) hw hP hD d_M_apply_253
      · have hw := hw.2 hc
        refine lv_aload_n hx hb d_M_apply_229 rfl (lv_at hl 0 rfl) ?_
        refine va_get (ci := 9) (C := R_Mo) (T := F_Mo) (N := 24) hx hb htb in_Mo hown hK hP 0 rfl rfl 10 (by decide) (htb _ tw706) (fun _ h9 => h9) rfl d_M_apply_230 ?_
        refine lv_iload_n hx hb d_M_apply_233 rfl (lv_at hl 1 rfl) ?_
        refine lv_aload_n hx hb d_M_apply_234 rfl (lv_at hl 0 rfl) ?_
        refine va_get (ci := 9) (C := R_Mo) (T := F_Mo) (N := 24) hx hb htb in_Mo hown hK hP 0 rfl rfl 8 (by decide) (htb _ tw704) (fun _ h9 => h9) rfl d_M_apply_235 ?_
        refine lv_iload_n hx hb d_M_apply_238 rfl (lv_at hl 1 rfl) ?_
        have hi := hw.1
        have hw := hw.2
        refine va_iald hx hb hK hP 5 0 rfl rfl hi d_M_apply_239 ?_
        have hi := hw.1
        have hw := hw.2
        refine va_iast hx hb hK hP hD hS 7 0 rfl rfl hi d_M_apply_240 (fun H locs hP hD hS => ?_)
        have hP : va_P D vwCl (wd_Mo cA mo mo_dr mo_now mo_first mo_has mo_da mo_dl mo_af mo_al mo_sy mo_dg mo_out mo_tx m_ds m_st m_sub m_q m_two m_least m_os m_ts m_fs m_fc m_g m_gs m_dr m_now m_first m_has m_da m_dl (upd m_af x2.toNatClampNeg (m_da x2.toNatClampNeg)) m_al m_sy m_dg m_out m_tx) H := hP
        have hD : va_D A (wd_Mo cA mo mo_dr mo_now mo_first mo_has mo_da mo_dl mo_af mo_al mo_sy mo_dg mo_out mo_tx m_ds m_st m_sub m_q m_two m_least m_os m_ts m_fs m_fc m_g m_gs m_dr m_now m_first m_has m_da m_dl (upd m_af x2.toNatClampNeg (m_da x2.toNatClampNeg)) m_al m_sy m_dg m_out m_tx) := hD
        refine lv_iinc (k := 1) (v := x2 + 1) (lv' := [(2, .int (x2 + 1)), (0, .ref mo)]) hx hb d_M_apply_241 hl rfl (by rfl) (by decide) rfl (fun ls hl => ?_)
        refine lv_goto (tgt := 222) hx hb d_M_apply_244 rfl ?_
        exact ih2220 (x2 + 1) m_ds m_st m_sub m_q m_two m_now m_first m_has m_da m_dl (upd m_af x2.toNatClampNeg (m_da x2.toNatClampNeg)) m_al _ _ _ (lv_sub hl [1, 0] rfl) hP hD hS hw
  have hL1810 : ∀ (n1810 : Nat) (x2 : Int32) (m_ds : Int32) (m_st : Int32) (m_sub : Int32) (m_q : Int32) (m_two : Bool) (m_now : Nat → Int32) (m_first : Nat → Int32) (m_has : Nat → Int32) (m_da : Nat → Int32) (m_dl : Nat → Int32) (m_af : Nat → Int32) (m_al : Nat → Int32) (H : Heap) (locs : List Loc) (ls : Array Slot), lv_has ls 3 [(0, .ref mo), (2, .int x2)] → va_P D vwCl (wd_Mo cA mo mo_dr mo_now mo_first mo_has mo_da mo_dl mo_af mo_al mo_sy mo_dg mo_out mo_tx m_ds m_st m_sub m_q m_two m_least m_os m_ts m_fs m_fc m_g m_gs m_dr m_now m_first m_has m_da m_dl m_af m_al m_sy m_dg m_out m_tx) H → va_D A (wd_Mo cA mo mo_dr mo_now mo_first mo_has mo_da mo_dl mo_af mo_al mo_sy mo_dg mo_out mo_tx m_ds m_st m_sub m_q m_two m_least m_os m_ts m_fs m_fc m_g m_gs m_dr m_now m_first m_has m_da m_dl m_af m_al m_sy m_dg m_out m_tx) → va_S A s.heap H locs → wp_M_apply_L1810 n1810 m_dr x2 m_ds m_st m_sub m_q m_two m_now m_first m_has m_da m_dl m_af m_al Q → W p l e { frames := 5, cells := 0, slots := 0, locals := 109 } s m args below meth c H locs 0 0 (MQ below (ct_qi vwCl D [(cA, .int)] Q (fun u => wd_Mo cA mo mo_dr mo_now mo_first mo_has mo_da mo_dl mo_af mo_al mo_sy mo_dg mo_out mo_tx u.1 u.2.1 u.2.2.1 u.2.2.2.1 u.2.2.2.2.1 m_least m_os m_ts m_fs m_fc m_g m_gs m_dr u.2.2.2.2.2.1 u.2.2.2.2.2.2.1 u.2.2.2.2.2.2.2.1 u.2.2.2.2.2.2.2.2.1 u.2.2.2.2.2.2.2.2.2.1 u.2.2.2.2.2.2.2.2.2.2.1 u.2.2.2.2.2.2.2.2.2.2.2 m_sy m_dg m_out m_tx) A) args s 0 0 A) (F0 m 181 ls []) := by
    intro n1810
    induction n1810 with
    | zero => intro x2 m_ds m_st m_sub m_q m_two m_now m_first m_has m_da m_dl m_af m_al H locs ls hl hP hD hS hw; exact hw.elim
    | succ n1810 ih1810 =>
      intro x2 m_ds m_st m_sub m_q m_two m_now m_first m_has m_da m_dl m_af m_al H locs ls hl hP hD hS hw
      unfold wp_M_apply_L1810 at hw
      refine lv_iload_n hx hb d_M_apply_181 rfl (lv_at hl 1 rfl) ?_
      refine lv_iconst (v := 4) hx hb d_M_apply_182 (by decide) ?_
      refine lv_icmp_ge (tgt := 220) hx hb d_M_apply_183 rfl (fun hc => ?_) (fun hc => ?_)
      · have hw := hw.1 hc
        refine lv_iconst (v := 0) hx hb d_M_apply_220 (by decide) ?_
        refine lv_istore_n (lv' := [(2, .int 0), (0, .ref mo)]) hx hb d_M_apply_221 rfl hl (by decide) rfl (fun ls hl => ?_)
        obtain ⟨n2220, hw⟩ := hw
        exact hL2220 n2220 0 m_ds m_st m_sub m_q m_two m_now m_first m_has m_da m_dl m_af m_al _ _ _ (lv_sub hl [1, 0] rfl) hP hD hS hw
      · have hw := hw.2 hc
        refine lv_aload_n hx hb d_M_apply_186 rfl (lv_at hl 0 rfl) ?_
        refine va_get (ci := 9) (C := R_Mo) (T := F_Mo) (N := 24) hx hb htb in_Mo hown hK hP 0 rfl rfl 11 (by decide) (htb _ tw707) (fun _ h9 => h9) rfl d_M_apply_187 ?_
        refine lv_iload_n hx hb d_M_apply_190 rfl (lv_at hl 1 rfl) ?_
        refine lv_iload_n hx hb d_M_apply_191 rfl (lv_at hl 1 rfl) ?_
        refine lv_iconst (v := 2) hx hb d_M_apply_192 (by decide) ?_
        refine lv_icmp_lt (tgt := 203) hx hb d_M_apply_193 rfl (fun hc => ?_) (fun hc => ?_)
        · have hw := hw.1 hc
          refine lv_aload_n hx hb d_M_apply_203 rfl (lv_at hl 0 rfl) ?_
          refine va_get (ci := 9) (C := R_Mo) (T := F_Mo) (N := 24) hx hb htb in_Mo hown hK hP 0 rfl rfl 9 (by decide) (htb _ tw705) (fun _ h9 => h9) rfl d_M_apply_204 ?_
          refine lv_iload_n hx hb d_M_apply_207 rfl (lv_at hl 1 rfl) ?_
          have hi := hw.1
          have hw := hw.2
          refine va_iald hx hb hK hP 6 0 rfl rfl hi d_M_apply_208 ?_
          refine lv_goto (tgt := 213) hx hb d_M_apply_209 rfl ?_
          have hi := hw.1
          have hw := hw.2
          refine va_iast hx hb hK hP hD hS 8 0 rfl rfl hi d_M_apply_213 (fun H locs hP hD hS => ?_)
          have hP : va_P D vwCl (wd_Mo cA mo mo_dr mo_now mo_first mo_has mo_da mo_dl mo_af mo_al mo_sy mo_dg mo_out mo_tx m_ds m_st m_sub m_q m_two m_least m_os m_ts m_fs m_fc m_g m_gs m_dr m_now m_first m_has m_da m_dl m_af (upd m_al x2.toNatClampNeg (m_dl x2.toNatClampNeg)) m_sy m_dg m_out m_tx) H := hP
          have hD : va_D A (wd_Mo cA mo mo_dr mo_now mo_first mo_has mo_da mo_dl mo_af mo_al mo_sy mo_dg mo_out mo_tx m_ds m_st m_sub m_q m_two m_least m_os m_ts m_fs m_fc m_g m_gs m_dr m_now m_first m_has m_da m_dl m_af (upd m_al x2.toNatClampNeg (m_dl x2.toNatClampNeg)) m_sy m_dg m_out m_tx) := hD
          refine lv_iinc (k := 1) (v := x2 + 1) (lv' := [(2, .int (x2 + 1)), (0, .ref mo)]) hx hb d_M_apply_214 hl rfl (by rfl) (by decide) rfl (fun ls hl => ?_)
          refine lv_goto (tgt := 181) hx hb d_M_apply_217 rfl ?_
          exact ih1810 (x2 + 1) m_ds m_st m_sub m_q m_two m_now m_first m_has m_da m_dl m_af (upd m_al x2.toNatClampNeg (m_dl x2.toNatClampNeg)) _ _ _ (lv_sub hl [1, 0] rfl) hP hD hS hw
        · have hw := hw.2 hc
          refine lv_aload_n hx hb d_M_apply_196 rfl (lv_at hl 0 rfl) ?_
          refine va_get (ci := 9) (C := R_Mo) (T := F_Mo) (N := 24) hx hb htb in_Mo hown hK hP 0 rfl rfl 12 (by decide) (htb _ tw708) (fun _ h9 => h9) rfl d_M_apply_197 ?_
          refine lv_if_eq (tgt := 212) hx hb d_M_apply_200 rfl (fun hc => ?_) (fun hc => ?_)
          · have hw := hw.1 ((bI_0 _).mp hc)
            refine lv_iconst (v := 0) hx hb d_M_apply_212 (by decide) ?_
            have hi := hw.1
            have hw := hw.2
            refine va_iast hx hb hK hP hD hS 8 0 rfl rfl hi d_M_apply_213 (fun H locs hP hD hS => ?_)
            have hP : va_P D vwCl (wd_Mo cA mo mo_dr mo_now mo_first mo_has mo_da mo_dl mo_af mo_al mo_sy mo_dg mo_out mo_tx m_ds m_st m_sub m_q m_two m_least m_os m_ts m_fs m_fc m_g m_gs m_dr m_now m_first m_has m_da m_dl m_af (upd m_al x2.toNatClampNeg 0) m_sy m_dg m_out m_tx) H := hP
            have hD : va_D A (wd_Mo cA mo mo_dr mo_now mo_first mo_has mo_da mo_dl mo_af mo_al mo_sy mo_dg mo_out mo_tx m_ds m_st m_sub m_q m_two m_least m_os m_ts m_fs m_fc m_g m_gs m_dr m_now m_first m_has m_da m_dl m_af (upd m_al x2.toNatClampNeg 0) m_sy m_dg m_out m_tx) := hD
            refine lv_iinc (k := 1) (v := x2 + 1) (lv' := [(2, .int (x2 + 1)), (0, .ref mo)]) hx hb d_M_apply_214 hl rfl (by rfl) (by decide) rfl (fun ls hl => ?_)
            refine lv_goto (tgt := 181) hx hb d_M_apply_217 rfl ?_
            exact ih1810 (x2 + 1) m_ds m_st m_sub m_q m_two m_now m_first m_has m_da m_dl m_af (upd m_al x2.toNatClampNeg 0) _ _ _ (lv_sub hl [1, 0] rfl) hP hD hS hw
          · have hw := hw.2 ((bI_n0 _).mp hc)
            refine lv_aload_n hx hb d_M_apply_203 rfl (lv_at hl 0 rfl) ?_
            refine va_get (ci := 9) (C := R_Mo) (T := F_Mo) (N := 24) hx hb htb in_Mo hown hK hP 0 rfl rfl 9 (by decide) (htb _ tw705) (fun _ h9 => h9) rfl d_M_apply_204 ?_
            refine lv_iload_n hx hb d_M_apply_207 rfl (lv_at hl 1 rfl) ?_
            have hi := hw.1
            have hw := hw.2
            refine va_iald hx hb hK hP 6 0 rfl rfl hi d_M_apply_208 ?_
            refine lv_goto (tgt := 213) hx hb d_M_apply_209 rfl ?_
            have hi := hw.1
            have hw := hw.2
            refine va_iast hx hb hK hP hD hS 8 0 rfl rfl hi d_M_apply_213 (fun H locs hP hD hS => ?_)
            have hP : va_P D vwCl (wd_Mo cA mo mo_dr mo_now mo_first mo_has mo_da mo_dl mo_af mo_al mo_sy mo_dg mo_out mo_tx m_ds m_st m_sub m_q m_two m_least m_os m_ts m_fs m_fc m_g m_gs m_dr m_now m_first m_has m_da m_dl m_af (upd m_al x2.toNatClampNeg (m_dl x2.toNatClampNeg)) m_sy m_dg m_out m_tx) H := hP
            have hD : va_D A (wd_Mo cA mo mo_dr mo_now mo_first mo_has mo_da mo_dl mo_af mo_al mo_sy mo_dg mo_out mo_tx m_ds m_st m_sub m_q m_two m_least m_os m_ts m_fs m_fc m_g m_gs m_dr m_now m_first m_has m_da m_dl m_af (upd m_al x2.toNatClampNeg (m_dl x2.toNatClampNeg)) m_sy m_dg m_out m_tx) := hD
            refine lv_iinc (k := 1) (v := x2 + 1) (lv' := [(2, .int (x2 + 1)), (0, .ref mo)]) hx hb d_M_apply_214 hl rfl (by rfl) (by decide) rfl (fun ls hl => ?_)
            refine lv_goto (tgt := 181) hx hb d_M_apply_217 rfl ?_
            exact ih1810 (x2 + 1) m_ds m_st m_sub m_q m_two m_now m_first m_has m_da m_dl m_af (upd m_al x2.toNatClampNeg (m_dl x2.toNatClampNeg)) _ _ _ (lv_sub hl [1, 0] rfl) hP hD hS hw
  have hJ1760 : ∀ (y0 : Bool) (m_ds : Int32) (m_st : Int32) (m_sub : Int32) (m_q : Int32) (m_two : Bool) (m_now : Nat → Int32) (m_first : Nat → Int32) (m_has : Nat → Int32) (m_da : Nat → Int32) (m_dl : Nat → Int32) (m_af : Nat → Int32) (m_al : Nat → Int32) (H : Heap) (locs : List Loc) (ls : Array Slot), lv_has ls 3 [(0, .ref mo)] → va_P D vwCl (wd_Mo cA mo mo_dr mo_now mo_first mo_has mo_da mo_dl mo_af mo_al mo_sy mo_dg mo_out mo_tx m_ds m_st m_sub m_q m_two m_least m_os m_ts m_fs m_fc m_g m_gs m_dr m_now m_first m_has m_da m_dl m_af m_al m_sy m_dg m_out m_tx) H → va_D A (wd_Mo cA mo mo_dr mo_now mo_first mo_has mo_da mo_dl mo_af mo_al mo_sy mo_dg mo_out mo_tx m_ds m_st m_sub m_q m_two m_least m_os m_ts m_fs m_fc m_g m_gs m_dr m_now m_first m_has m_da m_dl m_af m_al m_sy m_dg m_out m_tx) → va_S A s.heap H locs → wp_M_apply_J1760 m_dr y0 m_ds m_st m_sub m_q m_two m_now m_first m_has m_da m_dl m_af m_al Q → W p l e { frames := 5, cells := 0, slots := 0, locals := 109 } s m args below meth c H locs 0 0 (MQ below (ct_qi vwCl D [(cA, .int)] Q (fun u => wd_Mo cA mo mo_dr mo_now mo_first mo_has mo_da mo_dl mo_af mo_al mo_sy mo_dg mo_out mo_tx u.1 u.2.1 u.2.2.1 u.2.2.2.1 u.2.2.2.2.1 m_least m_os m_ts m_fs m_fc m_g m_gs m_dr u.2.2.2.2.2.1 u.2.2.2.2.2.2.1 u.2.2.2.2.2.2.2.1 u.2.2.2.2.2.2.2.2.1 u.2.2.2.2.2.2.2.2.2.1 u.2.2.2.2.2.2.2.2.2.2.1 u.2.2.2.2.2.2.2.2.2.2.2 m_sy m_dg m_out m_tx) A) args s 0 0 A) (F0 m 176 ls [.int (bI y0), .ref mo]) := by
    intro y0 m_ds m_st m_sub m_q m_two m_now m_first m_has m_da m_dl m_af m_al H locs ls hl hP hD hS hw
    unfold wp_M_apply_J1760 at hw
    refine va_put (ci := 9) (v := .int (bI y0)) (ty := .boolean) (C := R_Mo) (T := F_Mo) (N := 24) hx hb htb in_Mo t_Mo t_Mo_ok n_Mo hown hK hP hD hS 0 rfl rfl 12 (by decide) (htb _ tw708) (fun _ h9 => h9) rfl (by decide +kernel) (bI_nar y0) (bI_fit y0) (Nat.le_of_ble_eq_true rfl) d_M_apply_176 (fun H locs hP hD hS => ?_)
    have hP : va_P D vwCl (wd_Mo cA mo mo_dr mo_now mo_first mo_has mo_da mo_dl mo_af mo_al mo_sy mo_dg mo_out mo_tx m_ds m_st m_sub m_q y0 m_least m_os m_ts m_fs m_fc m_g m_gs m_dr m_now m_first m_has m_da m_dl m_af m_al m_sy m_dg m_out m_tx) H := hP
    have hD : va_D A (wd_Mo cA mo mo_dr mo_now mo_first mo_has mo_da mo_dl mo_af mo_al mo_sy mo_dg mo_out mo_tx m_ds m_st m_sub m_q y0 m_least m_os m_ts m_fs m_fc m_g m_gs m_dr m_now m_first m_has m_da m_dl m_af m_al m_sy m_dg m_out m_tx) := hD
    refine lv_iconst (v := 0) hx hb d_M_apply_179 (by decide) ?_
    refine lv_istore_n (lv' := [(2, .int 0), (0, .ref mo)]) hx hb d_M_apply_180 rfl hl (by decide) rfl (fun ls hl => ?_)
    obtain ⟨n1810, hw⟩ := hw
    exact hL1810 n1810 0 m_ds m_st m_sub m_q y0 m_now m_first m_has m_da m_dl m_af m_al _ _ _ (lv_sub hl [1, 0] rfl) hP hD hS hw
  have hJ1610 : ∀ (y0 : Int32) (y1 : Int32) (m_ds : Int32) (m_st : Int32) (m_sub : Int32) (m_q : Int32) (m_two : Bool) (m_now : Nat → Int32) (m_first : Nat → Int32) (m_has : Nat → Int32) (m_da : Nat → Int32) (m_dl : Nat → Int32) (m_af : Nat → Int32) (m_al : Nat → Int32) (H : Heap) (locs : List Loc) (ls : Array Slot), lv_has ls 3 [(0, .ref mo)] → va_P D vwCl (wd_Mo cA mo mo_dr mo_now mo_first mo_has mo_da mo_dl mo_af mo_al mo_sy mo_dg mo_out mo_tx m_ds m_st m_sub m_q m_two m_least m_os m_ts m_fs m_fc m_g m_gs m_dr m_now m_first m_has m_da m_dl m_af m_al m_sy m_dg m_out m_tx) H → va_D A (wd_Mo cA mo mo_dr mo_now mo_first mo_has mo_da mo_dl mo_af mo_al mo_sy mo_dg mo_out mo_tx m_ds m_st m_sub m_q m_two m_least m_os m_ts m_fs m_fc m_g m_gs m_dr m_now m_first m_has m_da m_dl m_af m_al m_sy m_dg m_out m_tx) → va_S A s.heap H locs → wp_M_apply_J1610 m_dr y0 y1 m_ds m_st m_sub m_q m_two m_now m_first m_has m_da m_dl m_af m_al Q → W p l e { frames := 5, cells := 0, slots := 0, locals := 109 } s m args below meth c H locs 0 0 (MQ below (ct_qi vwCl D [(cA, .int)] Q (fun u => wd_Mo cA mo mo_dr mo_now mo_first mo_has mo_da mo_dl mo_af mo_al mo_sy mo_dg mo_out mo_tx u.1 u.2.1 u.2.2.1 u.2.2.2.1 u.2.2.2.2.1 m_least m_os m_ts m_fs m_fc m_g m_gs m_dr u.2.2.2.2.2.1 u.2.2.2.2.2.2.1 u.2.2.2.2.2.2.2.1 u.2.2.2.2.2.2.2.2.1 u.2.2.2.2.2.2.2.2.2.1 u.2.2.2.2.2.2.2.2.2.2.1 u.2.2.2.2.2.2.2.2.2.2.2 m_sy m_dg m_out m_tx) A) args s 0 0 A) (F0 m 161 ls [.int y0, .int y1, .ref mo_has]) := by
    intro y0 y1 m_ds m_st m_sub m_q m_two m_now m_first m_has m_da m_dl m_af m_al H locs ls hl hP hD hS hw
    unfold wp_M_apply_J1610 at hw
    have hi := hw.1
    have hw := hw.2
    refine va_iast hx hb hK hP hD hS 4 0 rfl rfl hi d_M_apply_161 (fun H locs hP hD hS => ?_)
    have hP : va_P D vwCl (wd_Mo cA mo mo_dr mo_now mo_first mo_has mo_da mo_dl mo_af mo_al mo_sy mo_dg mo_out mo_tx m_ds m_st m_sub m_q m_two m_least m_os m_ts m_fs m_fc m_g m_gs m_dr m_now m_first (upd m_has y1.toNatClampNeg y0) m_da m_dl m_af m_al m_sy m_dg m_out m_tx) H := hP
    have hD : va_D A (wd_Mo cA mo mo_dr mo_now mo_first mo_has mo_da mo_dl mo_af mo_al mo_sy mo_dg mo_out mo_tx m_ds m_st m_sub m_q m_two m_least m_os m_ts m_fs m_fc m_g m_gs m_dr m_now m_first (upd m_has y1.toNatClampNeg y0) m_da m_dl m_af m_al m_sy m_dg m_out m_tx) := hD
    refine lv_aload_n hx hb d_M_apply_162 rfl (lv_at hl 0 rfl) ?_
    refine lv_aload_n hx hb d_M_apply_163 rfl (lv_at hl 0 rfl) ?_
    refine va_get (ci := 9) (C := R_Mo) (T := F_Mo) (N := 24) hx hb htb in_Mo hown hK hP 0 rfl rfl 3 (by decide) (htb _ tw699) (fun _ h9 => h9) rfl d_M_apply_164 ?_
    refine lv_iconst (v := 1) hx hb d_M_apply_167 (by decide) ?_
    refine lv_icmp_ne (tgt := 175) hx hb d_M_apply_168 rfl (fun hc => ?_) (fun hc => ?_)
    · have hw := hw.1 hc
      refine lv_iconst (v := 0) hx hb d_M_apply_175 (by decide) ?_
      exact hJ1760 false m_ds m_st m_sub m_q m_two m_now m_first (upd m_has y1.toNatClampNeg y0) m_da m_dl m_af m_al _ _ _ (lv_sub hl [0] rfl) hP hD hS hw
    · have hw := hw.2 hc
      refine lv_iconst (v := 1) hx hb d_M_apply_171 (by decide) ?_
      refine lv_goto (tgt := 176) hx hb d_M_apply_172 rfl ?_
      exact hJ1760 true m_ds m_st m_sub m_q m_two m_now m_first (upd m_has y1.toNatClampNeg y0) m_da m_dl m_af m_al _ _ _ (lv_sub hl [0] rfl) hP hD hS hw
  have hJ1160 : ∀ (m_ds : Int32) (m_st : Int32) (m_sub : Int32) (m_q : Int32) (m_two : Bool) (m_now : Nat → Int32) (m_first : Nat → Int32) (m_has : Nat → Int32) (m_da : Nat → Int32) (m_dl : Nat → Int32) (m_af : Nat → Int32) (m_al : Nat → Int32) (H : Heap) (locs : List Loc) (ls : Array Slot), lv_has ls 3 [(0, .ref mo)] → va_P D vwCl (wd_Mo cA mo mo_dr mo_now mo_first mo_has mo_da mo_dl mo_af mo_al mo_sy mo_dg mo_out mo_tx m_ds m_st m_sub m_q m_two m_least m_os m_ts m_fs m_fc m_g m_gs m_dr m_now m_first m_has m_da m_dl m_af m_al m_sy m_dg m_out m_tx) H → va_D A (wd_Mo cA mo mo_dr mo_now mo_first mo_has mo_da mo_dl mo_af mo_al mo_sy mo_dg mo_out mo_tx m_ds m_st m_sub m_q m_two m_least m_os m_ts m_fs m_fc m_g m_gs m_dr m_now m_first m_has m_da m_dl m_af m_al m_sy m_dg m_out m_tx) → va_S A s.heap H locs → wp_M_apply_J1160 m_dr m_ds m_st m_sub m_q m_two m_now m_first m_has m_da m_dl m_af m_al Q → W p l e { frames := 5, cells := 0, slots := 0, locals := 109 } s m args below meth c H locs 0 0 (MQ below (ct_qi vwCl D [(cA, .int)] Q (fun u => wd_Mo cA mo mo_dr mo_now mo_first mo_has mo_da mo_dl mo_af mo_al mo_sy mo_dg mo_out mo_tx u.1 u.2.1 u.2.2.1 u.2.2.2.1 u.2.2.2.2.1 m_least m_os m_ts m_fs m_fc m_g m_gs m_dr u.2.2.2.2.2.1 u.2.2.2.2.2.2.1 u.2.2.2.2.2.2.2.1 u.2.2.2.2.2.2.2.2.1 u.2.2.2.2.2.2.2.2.2.1 u.2.2.2.2.2.2.2.2.2.2.1 u.2.2.2.2.2.2.2.2.2.2.2 m_sy m_dg m_out m_tx) A) args s 0 0 A) (F0 m 116 ls []) := by
    intro m_ds m_st m_sub m_q m_two m_now m_first m_has m_da m_dl m_af m_al H locs ls hl hP hD hS hw
    unfold wp_M_apply_J1160 at hw
    refine lv_aload_n hx hb d_M_apply_116 rfl (lv_at hl 0 rfl) ?_
    refine va_get (ci := 9) (C := R_Mo) (T := F_Mo) (N := 24) hx hb htb in_Mo hown hK hP 0 rfl rfl 6 (by decide) (htb _ tw702) (fun _ h9 => h9) rfl d_M_apply_117 ?_
    refine lv_aload_n hx hb d_M_apply_120 rfl (lv_at hl 0 rfl) ?_
    refine va_get (ci := 9) (C := R_Mo) (T := F_Mo) (N := 24) hx hb htb in_Mo hown hK hP 0 rfl rfl 7 (by decide) (htb _ tw703) (fun _ h9 => h9) rfl d_M_apply_121 ?_
    refine ct_callv (wn := fun u8 => wd_Mo cA mo mo_dr mo_now mo_first mo_has mo_da mo_dl mo_af mo_al mo_sy mo_dg mo_out mo_tx m_ds m_st m_sub m_q m_two m_least m_os m_ts m_fs m_fc m_g m_gs m_dr m_now m_first u8 m_da m_dl m_af m_al m_sy m_dg m_out m_tx) (va_runS (As := [.ref mo_first, .ref mo_has]) (rest := []) ⟨hx, hb, hml, hown, htb⟩ (c_M_copy l D cA mo_first mo_has m_first m_has _ hw _) (ct_cwS 2 htb tw822 rfl rfl tw82 tw820 tw821 hd_M_copy ⟨by decide, by decide⟩) (ct_preS hP hD hK hN [3, 4] rfl (by decide) _) rfl rfl hl.1 rfl (lv_room (Nat.le_of_ble_eq_true rfl)) d_M_apply_124 ⟨Nat.zero_le _, Nat.zero_le _⟩) hP hD hS hA [3, 4] [0, 1, 2, 5, 6, 7, 8, 9, 10, 11, 12] [0, 1, 2, 11, 12, 3, 4, 5, 6, 7, 8, 9, 10] rfl rfl (by decide) (by decide) (fun _ => rfl) (by decide) (fun u8 H locs hw hP hD hS => ?_)
    have hP : va_P D vwCl (wd_Mo cA mo mo_dr mo_now mo_first mo_has mo_da mo_dl mo_af mo_al mo_sy mo_dg mo_out mo_tx m_ds m_st m_sub m_q m_two m_least m_os m_ts m_fs m_fc m_g m_gs m_dr m_now m_first u8 m_da m_dl m_af m_al m_sy m_dg m_out m_tx) H := hP
    have hD : va_D A (wd_Mo cA mo mo_dr mo_now mo_first mo_has mo_da mo_dl mo_af mo_al mo_sy mo_dg mo_out mo_tx m_ds m_st m_sub m_q m_two m_least m_os m_ts m_fs m_fc m_g m_gs m_dr m_now m_first u8 m_da m_dl m_af m_al m_sy m_dg m_out m_tx) := hD
    refine lv_aload_n hx hb d_M_apply_127 rfl (lv_at hl 0 rfl) ?_
    refine va_get (ci := 9) (C := R_Mo) (T := F_Mo) (N := 24) hx hb htb in_Mo hown hK hP 0 rfl rfl 7 (by decide) (htb _ tw703) (fun _ h9 => h9) rfl d_M_apply_128 ?_
    refine lv_bipush (v := 8) hx hb d_M_apply_131 (by decide) ?_
    refine lv_aload_n hx hb d_M_apply_133 rfl (lv_at hl 0 rfl) ?_
    refine va_get (ci := 9) (C := R_Mo) (T := F_Mo) (N := 24) hx hb htb in_Mo hown hK hP 0 rfl rfl 7 (by decide) (htb _ tw703) (fun _ h9 => h9) rfl d_M_apply_134 ?_
    refine lv_bipush (v := 6) hx hb d_M_apply_137 (by decide) ?_
    have hi := hw.1
    have hw := hw.2
    refine va_iald hx hb hK hP 4 0 rfl rfl hi d_M_apply_139 ?_
    refine lv_iconst (v := 1) hx hb d_M_apply_140 (by decide) ?_
    refine lv_icmp_ne (tgt := 154) hx hb d_M_apply_141 rfl (fun hc => ?_) (fun hc => ?_)
    · have hw := hw.1 hc
      refine lv_aload_n hx hb d_M_apply_154 rfl (lv_at hl 0 rfl) ?_
      refine va_get (ci := 9) (C := R_Mo) (T := F_Mo) (N := 24) hx hb htb in_Mo hown hK hP 0 rfl rfl 7 (by decide) (htb _ tw703) (fun _ h9 => h9) rfl d_M_apply_155 ?_
      refine lv_bipush (v := 8) hx hb d_M_apply_158 (by decide) ?_
      have hi := hw.1
      have hw := hw.2
      refine va_iald hx hb hK hP 4 0 rfl rfl hi d_M_apply_160 ?_
      exact hJ1610 (u8 (8 : Int32).toNatClampNeg) 8 m_ds m_st m_sub m_q m_two m_now m_first u8 m_da m_dl m_af m_al _ _ _ (lv_sub hl [0] rfl) hP hD hS hw
    · have hw := hw.2 hc
      refine lv_aload_n hx hb d_M_apply_144 rfl (lv_at hl 0 rfl) ?_
      refine va_get (ci := 9) (C := R_Mo) (T := F_Mo) (N := 24) hx hb htb in_Mo hown hK hP 0 rfl rfl 7 (by decide) (htb _ tw703) (fun _ h9 => h9) rfl d_M_apply_145 ?_
      refine lv_bipush (v := 7) hx hb d_M_apply_148 (by decide) ?_
      have hi := hw.1
      have hw := hw.2
      refine va_iald hx hb hK hP 4 0 rfl rfl hi d_M_apply_150 ?_
      refine lv_goto (tgt := 161) hx hb d_M_apply_151 rfl ?_
      exact hJ1610 (u8 (7 : Int32).toNatClampNeg) 8 m_ds m_st m_sub m_q m_two m_now m_first u8 m_da m_dl m_af m_al _ _ _ (lv_sub hl [0] rfl) hP hD hS hw
  have hJ860 : ∀ (y0 : Bool) (m_ds : Int32) (m_st : Int32) (m_sub : Int32) (m_q : Int32) (m_two : Bool) (m_now : Nat → Int32) (m_first : Nat → Int32) (m_has : Nat → Int32) (m_da : Nat → Int32) (m_dl : Nat → Int32) (m_af : Nat → Int32) (m_al : Nat → Int32) (H : Heap) (locs : List Loc) (ls : Array Slot), lv_has ls 3 [(0, .ref mo)] → va_P D vwCl (wd_Mo cA mo mo_dr mo_now mo_first mo_has mo_da mo_dl mo_af mo_al mo_sy mo_dg mo_out mo_tx m_ds m_st m_sub m_q m_two m_least m_os m_ts m_fs m_fc m_g m_gs m_dr m_now m_first m_has m_da m_dl m_af m_al m_sy m_dg m_out m_tx) H → va_D A (wd_Mo cA mo mo_dr mo_now mo_first mo_has mo_da mo_dl mo_af mo_al mo_sy mo_dg mo_out mo_tx m_ds m_st m_sub m_q m_two m_least m_os m_ts m_fs m_fc m_g m_gs m_dr m_now m_first m_has m_da m_dl m_af m_al m_sy m_dg m_out m_tx) → va_S A s.heap H locs → wp_M_apply_J860 m_dr y0 m_ds m_st m_sub m_q m_two m_now m_first m_has m_da m_dl m_af m_al Q → W p l e { frames := 5, cells := 0, slots := 0, locals := 109 } s m args below meth c H locs 0 0 (MQ below (ct_qi vwCl D [(cA, .int)] Q (fun u => wd_Mo cA mo mo_dr mo_now mo_first mo_has mo_da mo_dl mo_af mo_al mo_sy mo_dg mo_out mo_tx u.1 u.2.1 u.2.2.1 u.2.2.2.1 u.2.2.2.2.1 m_least m_os m_ts m_fs m_fc m_g m_gs m_dr u.2.2.2.2.2.1 u.2.2.2.2.2.2.1 u.2.2.2.2.2.2.2.1 u.2.2.2.2.2.2.2.2.1 u.2.2.2.2.2.2.2.2.2.1 u.2.2.2.2.2.2.2.2.2.2.1 u.2.2.2.2.2.2.2.2.2.2.2 m_sy m_dg m_out m_tx) A) args s 0 0 A) (F0 m 86 ls [.int (bI y0)]) := by
    intro y0 m_ds m_st m_sub m_q m_two m_now m_first m_has m_da m_dl m_af m_al H locs ls hl hP hD hS hw
    unfold wp_M_apply_J860 at hw
    refine lv_istore_n (lv' := [(1, .int (bI y0)), (0, .ref mo)]) hx hb d_M_apply_86 rfl hl (by decide) rfl (fun ls hl => ?_)
    refine lv_iload_n hx hb d_M_apply_87 rfl (lv_at hl 0 rfl) ?_
    refine lv_if_ne (tgt := 98) hx hb d_M_apply_88 rfl (fun hc => ?_) (fun hc => ?_)
    · have hw := hw.1 ((bI_n0 _).mp hc)
      refine lv_aload_n hx hb d_M_apply_98 rfl (lv_at hl 1 rfl) ?_
      refine va_get (ci := 9) (C := R_Mo) (T := F_Mo) (N := 24) hx hb htb in_Mo hown hK hP 0 rfl rfl 3 (by decide) (htb _ tw699) (fun _ h9 => h9) rfl d_M_apply_99 ?_
      refine lv_if_ne (tgt := 116) hx hb d_M_apply_102 rfl (fun hc => ?_) (fun hc => ?_)
      · have hw := hw.1 hc
        exact hJ1160 m_ds m_st m_sub m_q m_two m_now m_first m_has m_da m_dl m_af m_al _ _ _ (lv_sub hl [1] rfl) hP hD hS hw
      · have hw := hw.2 hc
        refine lv_aload_n hx hb d_M_apply_105 rfl (lv_at hl 1 rfl) ?_
        refine va_get (ci := 9) (C := R_Mo) (T := F_Mo) (N := 24) hx hb htb in_Mo hown hK hP 0 rfl rfl 5 (by decide) (htb _ tw701) (fun _ h9 => h9) rfl d_M_apply_106 ?_
        refine lv_aload_n hx hb d_M_apply_109 rfl (lv_at hl 1 rfl) ?_
        refine va_get (ci := 9) (C := R_Mo) (T := F_Mo) (N := 24) hx hb htb in_Mo hown hK hP 0 rfl rfl 6 (by decide) (htb _ tw702) (fun _ h9 => h9) rfl d_M_apply_110 ?_
        refine ct_callv (wn := fun u6 => wd_Mo cA mo mo_dr mo_now mo_first mo_has mo_da mo_dl mo_af mo_al mo_sy mo_dg mo_out mo_tx m_ds m_st m_sub m_q m_two m_least m_os m_ts m_fs m_fc m_g m_gs m_dr m_now u6 m_has m_da m_dl m_af m_al m_sy m_dg m_out m_tx) (va_runS (As := [.ref mo_now, .ref mo_first]) (rest := []) ⟨hx, hb, hml, hown, htb⟩ (c_M_copy l D cA mo_now mo_first m_now m_first _ hw _) (ct_cwS 2 htb tw822 rfl rfl tw82 tw820 tw821 hd_M_copy ⟨by decide, by decide⟩) (ct_preS hP hD hK hN [2, 3] rfl (by decide) _) rfl rfl hl.1 rfl (lv_room (Nat.le_of_ble_eq_true rfl)) d_M_apply_113 ⟨Nat.zero_le _, Nat.zero_le _⟩) hP hD hS hA [2, 3] [0, 1, 4, 5, 6, 7, 8, 9, 10, 11, 12] [0, 1, 11, 12, 2, 3, 4, 5, 6, 7, 8, 9, 10] rfl rfl (by decide) (by decide) (fun _ => rfl) (by decide) (fun u6 H locs hw hP hD hS => ?_)
        have hP : va_P D vwCl (wd_Mo cA mo mo_dr mo_now mo_first mo_has mo_da mo_dl mo_af mo_al mo_sy mo_dg mo_out mo_tx m_ds m_st m_sub m_q m_two m_least m_os m_ts m_fs m_fc m_g m_gs m_dr m_now u6 m_has m_da m_dl m_af m_al m_sy m_dg m_out m_tx) H := hP
        have hD : va_D A (wd_Mo cA mo mo_dr mo_now mo_first mo_has mo_da mo_dl mo_af mo_al mo_sy mo_dg mo_out mo_tx m_ds m_st m_sub m_q m_two m_least m_os m_ts m_fs m_fc m_g m_gs m_dr m_now u6 m_has m_da m_dl m_af m_al m_sy m_dg m_out m_tx) := hD
        exact hJ1160 m_ds m_st m_sub m_q m_two m_now u6 m_has m_da m_dl m_af m_al _ _ _ (lv_sub hl [1] rfl) hP hD hS hw
    · have hw := hw.2 ((bI_0 _).mp hc)
      refine lv_aload_n hx hb d_M_apply_91 rfl (lv_at hl 1 rfl) ?_
      refine va_get (ci := 9) (C := R_Mo) (T := F_Mo) (N := 24) hx hb htb in_Mo hown hK hP 0 rfl rfl 1 (by decide) (htb _ tw697) (fun _ h9 => h9) rfl d_M_apply_92 ?_
      refine lv_iconst (v := 1) hx hb d_M_apply_95 (by decide) ?_
      refine lv_iadd hx hb d_M_apply_96 ?_
      exact ct_iret hx hb hr hlk hK hS (m_ds, m_st, m_sub, m_q, m_two, m_now, m_first, m_has, m_da, m_dl, m_af, m_al) hw hP hD d_M_apply_97
  have hJ810 : ∀ (m_ds : Int32) (m_st : Int32) (m_sub : Int32) (m_q : Int32) (m_two : Bool) (m_now : Nat → Int32) (m_first : Nat → Int32) (m_has : Nat → Int32) (m_da : Nat → Int32) (m_dl : Nat → Int32) (m_af : Nat → Int32) (m_al : Nat → Int32) (H : Heap) (locs : List Loc) (ls : Array Slot), lv_has ls 3 [(0, .ref mo)] → va_P D vwCl (wd_Mo cA mo mo_dr mo_now mo_first mo_has mo_da mo_dl mo_af mo_al mo_sy mo_dg mo_out mo_tx m_ds m_st m_sub m_q m_two m_least m_os m_ts m_fs m_fc m_g m_gs m_dr m_now m_first m_has m_da m_dl m_af m_al m_sy m_dg m_out m_tx) H → va_D A (wd_Mo cA mo mo_dr mo_now mo_first mo_has mo_da mo_dl mo_af mo_al mo_sy mo_dg mo_out mo_tx m_ds m_st m_sub m_q m_two m_least m_os m_ts m_fs m_fc m_g m_gs m_dr m_now m_first m_has m_da m_dl m_af m_al m_sy m_dg m_out m_tx) → va_S A s.heap H locs → wp_M_apply_J810 m_dr m_ds m_st m_sub m_q m_two m_now m_first m_has m_da m_dl m_af m_al Q → W p l e { frames := 5, cells := 0, slots := 0, locals := 109 } s m args below meth c H locs 0 0 (MQ below (ct_qi vwCl D [(cA, .int)] Q (fun u => wd_Mo cA mo mo_dr mo_now mo_first mo_has mo_da mo_dl mo_af mo_al mo_sy mo_dg mo_out mo_tx u.1 u.2.1 u.2.2.1 u.2.2.2.1 u.2.2.2.2.1 m_least m_os m_ts m_fs m_fc m_g m_gs m_dr u.2.2.2.2.2.1 u.2.2.2.2.2.2.1 u.2.2.2.2.2.2.2.1 u.2.2.2.2.2.2.2.2.1 u.2.2.2.2.2.2.2.2.2.1 u.2.2.2.2.2.2.2.2.2.2.1 u.2.2.2.2.2.2.2.2.2.2.2 m_sy m_dg m_out m_tx) A) args s 0 0 A) (F0 m 81 ls []) := by
    intro m_ds m_st m_sub m_q m_two m_now m_first m_has m_da m_dl m_af m_al H locs ls hl hP hD hS hw
    unfold wp_M_apply_J810 at hw
    refine lv_iconst (v := 1) hx hb d_M_apply_81 (by decide) ?_
    refine lv_goto (tgt := 86) hx hb d_M_apply_82 rfl ?_
    exact hJ860 true m_ds m_st m_sub m_q m_two m_now m_first m_has m_da m_dl m_af m_al _ _ _ (lv_sub hl [0] rfl) hP hD hS hw
  have hL70 : ∀ (n70 : Nat) (x1 : Int32) (m_ds : Int32) (m_st : Int32) (m_sub : Int32) (m_q : Int32) (m_two : Bool) (m_now : Nat → Int32) (m_first : Nat → Int32) (m_has : Nat → Int32) (m_da : Nat → Int32) (m_dl : Nat → Int32) (m_af : Nat → Int32) (m_al : Nat → Int32) (H : Heap) (locs : List Loc) (ls : Array Slot), lv_has ls 3 [(0, .ref mo), (1, .int x1)] → va_P D vwCl (wd_Mo cA mo mo_dr mo_now mo_first mo_has mo_da mo_dl mo_af mo_al mo_sy mo_dg mo_out mo_tx m_ds m_st m_sub m_q m_two m_least m_os m_ts m_fs m_fc m_g m_gs m_dr m_now m_first m_has m_da m_dl m_af m_al m_sy m_dg m_out m_tx) H → va_D A (wd_Mo cA mo mo_dr mo_now mo_first mo_has mo_da mo_dl mo_af mo_al mo_sy mo_dg mo_out mo_tx m_ds m_st m_sub m_q m_two m_least m_os m_ts m_fs m_fc m_g m_gs m_dr m_now m_first m_has m_da m_dl m_af m_al m_sy m_dg m_out m_tx) → va_S A s.heap H locs → wp_M_apply_L70 n70 m_dr x1 m_ds m_st m_sub m_q m_two m_now m_first m_has m_da m_dl m_af m_al Q → W p l e { frames := 5, cells := 0, slots := 0, locals := 109 } s m args below meth c H locs 0 0 (MQ below (ct_qi vwCl D [(cA, .int)] Q (fun u => wd_Mo cA mo mo_dr mo_now mo_first mo_has mo_da mo_dl mo_af mo_al mo_sy mo_dg mo_out mo_tx u.1 u.2.1 u.2.2.1 u.2.2.2.1 u.2.2.2.2.1 m_least m_os m_ts m_fs m_fc m_g m_gs m_dr u.2.2.2.2.2.1 u.2.2.2.2.2.2.1 u.2.2.2.2.2.2.2.1 u.2.2.2.2.2.2.2.2.1 u.2.2.2.2.2.2.2.2.2.1 u.2.2.2.2.2.2.2.2.2.2.1 u.2.2.2.2.2.2.2.2.2.2.2 m_sy m_dg m_out m_tx) A) args s 0 0 A) (F0 m 7 ls []) := by
    intro n70
    induction n70 with
    | zero => intro x1 m_ds m_st m_sub m_q m_two m_now m_first m_has m_da m_dl m_af m_al H locs ls hl hP hD hS hw; exact hw.elim
    | succ n70 ih70 =>
      intro x1 m_ds m_st m_sub m_q m_two m_now m_first m_has m_da m_dl m_af m_al H locs ls hl hP hD hS hw
      unfold wp_M_apply_L70 at hw
      refine lv_iload_n hx hb d_M_apply_7 rfl (lv_at hl 1 rfl) ?_
      refine lv_aload_n hx hb d_M_apply_8 rfl (lv_at hl 0 rfl) ?_
      refine va_get (ci := 9) (C := R_Mo) (T := F_Mo) (N := 24) hx hb htb in_Mo hown hK hP 0 rfl rfl 1 (by decide) (htb _ tw697) (fun _ h9 => h9) rfl d_M_apply_9 ?_
      refine lv_icmp_ge (tgt := 38) hx hb d_M_apply_12 rfl (fun hc => ?_) (fun hc => ?_)
      · have hw := hw.1 hc
        refine lv_aload_n hx hb d_M_apply_38 rfl (lv_at hl 0 rfl) ?_
        refine va_get (ci := 9) (C := R_Mo) (T := F_Mo) (N := 24) hx hb htb in_Mo hown hK hP 0 rfl rfl 2 (by decide) (htb _ tw698) (fun _ h9 => h9) rfl d_M_apply_39 ?_
        refine lv_iconst (v := 2) hx hb d_M_apply_42 (by decide) ?_
        refine lv_icmp_eq (tgt := 81) hx hb d_M_apply_43 rfl (fun hc => ?_) (fun hc => ?_)
        · have hw := hw.1 hc
          exact hJ810 m_ds m_st m_sub m_q m_two m_now m_first m_has m_da m_dl m_af m_al _ _ _ (lv_sub hl [0] rfl) hP hD hS hw
        · have hw := hw.2 hc
          refine lv_aload_n hx hb d_M_apply_46 rfl (lv_at hl 0 rfl) ?_
          refine va_get (ci := 9) (C := R_Mo) (T := F_Mo) (N := 24) hx hb htb in_Mo hown hK hP 0 rfl rfl 2 (by decide) (htb _ tw698) (fun _ h9 => h9) rfl d_M_apply_47 ?_
          refine lv_iconst (v := 5) hx hb d_M_apply_50 (by decide) ?_
          refine lv_icmp_eq (tgt := 81) hx hb d_M_apply_51 rfl (fun hc => ?_) (fun hc => ?_)
          · have hw := hw.1 hc
            exact hJ810 m_ds m_st m_sub m_q m_two m_now m_first m_has m_da m_dl m_af m_al _ _ _ (lv_sub hl [0] rfl) hP hD hS hw
          · have hw := hw.2 hc
            refine lv_aload_n hx hb d_M_apply_54 rfl (lv_at hl 0 rfl) ?_
            refine va_get (ci := 9) (C := R_Mo) (T := F_Mo) (N := 24) hx hb htb in_Mo hown hK hP 0 rfl rfl 2 (by decide) (htb _ tw698) (fun _ h9 => h9) rfl d_M_apply_55 ?_
            refine lv_bipush (v := 6) hx hb d_M_apply_58 (by decide) ?_
            refine lv_icmp_eq (tgt := 81) hx hb d_M_apply_60 rfl (fun hc => ?_) (fun hc => ?_)
            · have hw := hw.1 hc
              exact hJ810 m_ds m_st m_sub m_q m_two m_now m_first m_has m_da m_dl m_af m_al _ _ _ (lv_sub hl [0] rfl) hP hD hS hw
            · have hw := hw.2 hc
              refine lv_aload_n hx hb d_M_apply_63 rfl (lv_at hl 0 rfl) ?_
              refine va_get (ci := 9) (C := R_Mo) (T := F_Mo) (N := 24) hx hb htb in_Mo hown hK hP 0 rfl rfl 2 (by decide) (htb _ tw698) (fun _ h9 => h9) rfl d_M_apply_64 ?_
              refine lv_bipush (v := 9) hx hb d_M_apply_67 (by decide) ?_
              refine lv_icmp_eq (tgt := 81) hx hb d_M_apply_69 rfl (fun hc => ?_) (fun hc => ?_)
              · have hw := hw.1 hc
                exact hJ810 m_ds m_st m_sub m_q m_two m_now m_first m_has m_da m_dl m_af m_al _ _ _ (lv_sub hl [0] rfl) hP hD hS hw
              · have hw := hw.2 hc
                refine lv_aload_n hx hb d_M_apply_72 rfl (lv_at hl 0 rfl) ?_
                refine va_get (ci := 9) (C := R_Mo) (T := F_Mo) (N := 24) hx hb htb in_Mo hown hK hP 0 rfl rfl 2 (by decide) (htb _ tw698) (fun _ h9 => h9) rfl d_M_apply_73 ?_
                refine lv_bipush (v := 10) hx hb d_M_apply_76 (by decide) ?_
                refine lv_icmp_ne (tgt := 85) hx hb d_M_apply_78 rfl (fun hc => ?_) (fun hc => ?_)
                · have hw := hw.1 hc
                  refine lv_iconst (v := 0) hx hb d_M_apply_85 (by decide) ?_
                  exact hJ860 false m_ds m_st m_sub m_q m_two m_now m_first m_has m_da m_dl m_af m_al _ _ _ (lv_sub hl [0] rfl) hP hD hS hw
                · have hw := hw.2 hc
                  exact hJ810 m_ds m_st m_sub m_q m_two m_now m_first m_has m_da m_dl m_af m_al _ _ _ (lv_sub hl [0] rfl) hP hD hS hw
      · have hw := hw.2 hc
        refine lv_aload_n hx hb d_M_apply_15 rfl (lv_at hl 0 rfl) ?_
        refine lv_aload_n hx hb d_M_apply_16 rfl (lv_at hl 0 rfl) ?_
        refine va_get (ci := 9) (C := R_Mo) (T := F_Mo) (N := 24) hx hb htb in_Mo hown hK hP 0 rfl rfl 0 (by decide) (htb _ tw696) (fun _ h9 => h9) rfl d_M_apply_17 ?_
        refine lv_iload_n hx hb d_M_apply_20 rfl (lv_at hl 1 rfl) ?_
        have hi := hw.1
        have hw := hw.2
        refine va_iald hx hb hK hP 1 0 rfl rfl hi d_M_apply_21 ?_
        refine ct_callz (wn := fun u4 => wd_Mo cA mo mo_dr mo_now mo_first mo_has mo_da mo_dl mo_af mo_al mo_sy mo_dg mo_out mo_tx m_ds u4.1 u4.2.1 u4.2.2.1 m_two m_least m_os m_ts m_fs m_fc m_g m_gs m_dr u4.2.2.2.1 u4.2.2.2.2.1 m_has u4.2.2.2.2.2.1 u4.2.2.2.2.2.2 m_af m_al m_sy m_dg m_out m_tx) (va_runV (As := [.int (m_dr x1.toNatClampNeg)]) (rest := []) ⟨hx, hb, hml, hown, htb⟩ (c_M_step l D cA mo mo_dr mo_now mo_first mo_has mo_da mo_dl mo_af mo_al mo_sy mo_dg mo_out mo_tx m_ds m_st m_sub m_q m_two m_least m_os m_ts m_fs m_fc m_g m_gs m_dr m_now m_first m_has m_da m_dl m_af m_al m_sy m_dg m_out m_tx (m_dr x1.toNatClampNeg) _ hw _) (ct_cwV 1 htb tw788 rfl rfl tw82 tw785 tw787 tw42 hd_M_step ⟨by decide, by decide⟩) (ct_preV hP hD hK hN [0, 1, 2, 3, 4, 5, 6, 7, 8, 9, 10, 11, 12] rfl (by decide) 0 rfl rfl _) rfl rfl hl.1 rfl (lv_room (Nat.le_of_ble_eq_true rfl)) d_M_apply_22 ⟨Nat.zero_le _, Nat.zero_le _⟩) hP hD hS hA [0, 1, 2, 3, 4, 5, 6, 7, 8, 9, 10, 11, 12] [] [0, 1, 2, 3, 4, 5, 6, 7, 8, 9, 10, 11, 12] rfl rfl (by decide) (by decide) (fun _ => rfl) (by decide) (fun r3 u4 H locs hw hP hD hS => ?_)
        have hP : va_P D vwCl (wd_Mo cA mo mo_dr mo_now mo_first mo_has mo_da mo_dl mo_af mo_al mo_sy mo_dg mo_out mo_tx m_ds u4.1 u4.2.1 u4.2.2.1 m_two m_least m_os m_ts m_fs m_fc m_g m_gs m_dr u4.2.2.2.1 u4.2.2.2.2.1 m_has u4.2.2.2.2.2.1 u4.2.2.2.2.2.2 m_af m_al m_sy m_dg m_out m_tx) H := hP
        have hD : va_D A (wd_Mo cA mo mo_dr mo_now mo_first mo_has mo_da mo_dl mo_af mo_al mo_sy mo_dg mo_out mo_tx m_ds u4.1 u4.2.1 u4.2.2.1 m_two m_least m_os m_ts m_fs m_fc m_g m_gs m_dr u4.2.2.2.1 u4.2.2.2.2.1 m_has u4.2.2.2.2.2.1 u4.2.2.2.2.2.2 m_af m_al m_sy m_dg m_out m_tx) := hD
        refine lv_if_ne (tgt := 32) hx hb d_M_apply_25 rfl (fun hc => ?_) (fun hc => ?_)
        · have hw := hw.1 ((bI_n0 _).mp hc)
          refine lv_iinc (k := 1) (v := x1 + 1) (lv' := [(1, .int (x1 + 1)), (0, .ref mo)]) hx hb d_M_apply_32 hl rfl (by rfl) (by decide) rfl (fun ls hl => ?_)
          refine lv_goto (tgt := 7) hx hb d_M_apply_35 rfl ?_
          exact ih70 (x1 + 1) m_ds u4.1 u4.2.1 u4.2.2.1 m_two u4.2.2.2.1 u4.2.2.2.2.1 m_has u4.2.2.2.2.2.1 u4.2.2.2.2.2.2 m_af m_al _ _ _ (lv_sub hl [1, 0] rfl) hP hD hS hw
        · have hw := hw.2 ((bI_0 _).mp hc)
          refine lv_iload_n hx hb d_M_apply_28 rfl (lv_at hl 1 rfl) ?_
          refine lv_iconst (v := 1) hx hb d_M_apply_29 (by decide) ?_
          refine lv_iadd hx hb d_M_apply_30 ?_
          exact ct_iret hx hb hr hlk hK hS (m_ds, u4.1, u4.2.1, u4.2.2.1, m_two, u4.2.2.2.1, u4.2.2.2.2.1, m_has, u4.2.2.2.2.2.1, u4.2.2.2.2.2.2, m_af, m_al) hw hP hD d_M_apply_31
  refine lv_aload_n hx hb d_M_apply_0 rfl (lv_at hl 0 rfl) ?_
  refine lv_iconst (v := 0) hx hb d_M_apply_1 (by decide) ?_
  refine ct_callv (wn := fun u2 => wd_Mo cA mo mo_dr mo_now mo_first mo_has mo_da mo_dl mo_af mo_al mo_sy mo_dg mo_out mo_tx m_ds u2.1 u2.2.1 m_q m_two m_least m_os m_ts m_fs m_fc m_g m_gs m_dr u2.2.2.1 m_first m_has m_da u2.2.2.2 m_af m_al m_sy m_dg m_out m_tx) (va_runV (As := [.int 0]) (rest := []) ⟨hx, hb, hml, hown, htb⟩ (c_M_begin l D cA mo mo_dr mo_now mo_first mo_has mo_da mo_dl mo_af mo_al mo_sy mo_dg mo_out mo_tx m_ds m_st m_sub m_q m_two m_least m_os m_ts m_fs m_fc m_g m_gs m_dr m_now m_first m_has m_da m_dl m_af m_al m_sy m_dg m_out m_tx 0 _ hw _) (ct_cwV 1 htb tw784 rfl rfl tw82 tw781 tw783 tw41 hd_M_begin ⟨by decide, by decide⟩) (ct_preV hP hD hK hN [0, 1, 2, 3, 4, 5, 6, 7, 8, 9, 10, 11, 12] rfl (by decide) 0 rfl rfl _) rfl rfl hl.1 rfl (lv_room (Nat.le_of_ble_eq_true rfl)) d_M_apply_2 ⟨Nat.zero_le _, Nat.zero_le _⟩) hP hD hS hA [0, 1, 2, 3, 4, 5, 6, 7, 8, 9, 10, 11, 12] [] [0, 1, 2, 3, 4, 5, 6, 7, 8, 9, 10, 11, 12] rfl rfl (by decide) (by decide) (fun _ => rfl) (by decide) (fun u2 H locs hw hP hD hS => ?_)
  have hP : va_P D vwCl (wd_Mo cA mo mo_dr mo_now mo_first mo_has mo_da mo_dl mo_af mo_al mo_sy mo_dg mo_out mo_tx m_ds u2.1 u2.2.1 m_q m_two m_least m_os m_ts m_fs m_fc m_g m_gs m_dr u2.2.2.1 m_first m_has m_da u2.2.2.2 m_af m_al m_sy m_dg m_out m_tx) H := hP
  have hD : va_D A (wd_Mo cA mo mo_dr mo_now mo_first mo_has mo_da mo_dl mo_af mo_al mo_sy mo_dg mo_out mo_tx m_ds u2.1 u2.2.1 m_q m_two m_least m_os m_ts m_fs m_fc m_g m_gs m_dr u2.2.2.1 m_first m_has m_da u2.2.2.2 m_af m_al m_sy m_dg m_out m_tx) := hD
  refine lv_iconst (v := 0) hx hb d_M_apply_5 (by decide) ?_
  refine lv_istore_n (lv' := [(1, .int 0), (0, .ref mo)]) hx hb d_M_apply_6 rfl hl (by decide) rfl (fun ls hl => ?_)
  obtain ⟨n70, hw⟩ := hw
  exact hL70 n70 0 m_ds u2.1 u2.2.1 m_q m_two u2.2.2.1 m_first m_has m_da u2.2.2.2 m_af m_al _ _ _ (lv_sub hl [1, 0] rfl) hP hD hS hw
/-! DecimalPatternsModel.sign(I)I -/
def wp_M_sign (m_sy : Nat → Int32) (aa : Int32) (Q : Int32 → Unit → Prop) : Prop := (6 ≤ aa → ((15 ≤ aa → (Q 43 ())) ∧ (¬ 15 ≤ aa → (vp_in (5 : Int32) 6 ∧ (Q (((m_sy (5 : Int32).toNatClampNeg) + aa) - 5) ()))))) ∧ (¬ 6 ≤ aa → (vp_in aa 6 ∧ (Q (m_sy aa.toNatClampNeg) ())))
set_option maxHeartbeats 4000000 in
set_option maxRecDepth 100000 in
theorem c_M_sign (l : Launch) (D : va_G) (cA : ClassId) (mo mo_dr mo_now mo_first mo_has mo_da mo_dl mo_af mo_al mo_sy mo_dg mo_out mo_tx : Nat) (m_ds : Int32) (m_st : Int32) (m_sub : Int32) (m_q : Int32) (m_two : Bool) (m_least : Int32) (m_os : Int32) (m_ts : Int32) (m_fs : Int64) (m_fc : Int32) (m_g : Int64) (m_gs : Int32) (m_dr : Nat → Int32) (m_now : Nat → Int32) (m_first : Nat → Int32) (m_has : Nat → Int32) (m_da : Nat → Int32) (m_dl : Nat → Int32) (m_af : Nat → Int32) (m_al : Nat → Int32) (m_sy : Nat → Int32) (m_dg : Nat → Int32) (m_out : Nat → Int32) (m_tx : Nat → Int32) (aa : Int32) (Q : Int32 → Unit → Prop) (hw : wp_M_sign m_sy aa Q) : ct_M vwCl l D [(cA, .int)] y_M_sign w_M_sign { frames := 0, cells := 0, slots := 0, locals := 0 } [.ref mo, .int aa] (wd_Mo cA mo mo_dr mo_now mo_first mo_has mo_da mo_dl mo_af mo_al mo_sy mo_dg mo_out mo_tx m_ds m_st m_sub m_q m_two m_least m_os m_ts m_fs m_fc m_g m_gs m_dr m_now m_first m_has m_da m_dl m_af m_al m_sy m_dg m_out m_tx) (ct_qi vwCl D [(cA, .int)] Q (fun u => wd_Mo cA mo mo_dr mo_now mo_first mo_has mo_da mo_dl mo_af mo_al mo_sy mo_dg mo_out mo_tx m_ds m_st m_sub m_q m_two m_least m_os m_ts m_fs m_fc m_g m_gs m_dr m_now m_first m_has m_da m_dl m_af m_al m_sy m_dg m_out m_tx)) := by
  refine ct_enter (cc := b_M_sign) (maxL := 2) (ret := (some .int)) (by decide) rfl (Nat.le_of_ble_eq_true rfl) ?_
  intro p e s m args below meth c A ls hx hb hr hlk hml hts hown hA hS hP hK hN hD hl
  have hl : lv_has ls 2 [(0, .ref mo), (1, .int aa)] := hl
  have htb : ∀ w ∈ tbl, w.before args s = true := fun w h => hts w (List.mem_cons_of_mem _ h)
  have hown : s.vm.findClass "DecimalPatternsModel" = some m.cls := hown
  unfold wp_M_sign at hw
  refine lv_iload_n hx hb d_M_sign_0 rfl (lv_at hl 1 rfl) ?_
  refine lv_bipush (v := 6) hx hb d_M_sign_1 (by decide) ?_
  refine lv_icmp_ge (tgt := 15) hx hb d_M_sign_3 rfl (fun hc => ?_) (fun hc => ?_)
  · have hw := hw.1 hc
    refine lv_iload_n hx hb d_M_sign_15 rfl (lv_at hl 1 rfl) ?_
    refine lv_bipush (v := 15) hx hb d_M_sign_16 (by decide) ?_
    refine lv_icmp_ge (tgt := 34) hx hb d_M_sign_18 rfl (fun hc => ?_) (fun hc => ?_)
    · have hw := hw.1 hc
      refine lv_bipush (v := 43) hx hb d_M_sign_34 (by decide) ?_
      exact ct_iret hx hb hr hlk hK hS () hw hP hD d_M_sign_36
    · have hw := hw.2 hc
      refine lv_aload_n hx hb d_M_sign_21 rfl (lv_at hl 0 rfl) ?_
      refine va_get (ci := 9) (C := R_Mo) (T := F_Mo) (N := 24) hx hb htb in_Mo hown hK hP 0 rfl rfl 13 (by decide) (htb _ tw709) (fun _ h9 => h9) rfl d_M_sign_22 ?_
      refine lv_iconst (v := 5) hx hb d_M_sign_25 (by decide) ?_
      have hi := hw.1
      have hw := hw.2
      refine va_iald hx hb hK hP 9 0 rfl rfl hi d_M_sign_26 ?_
      refine lv_iload_n hx hb d_M_sign_27 rfl (lv_at hl 1 rfl) ?_
      refine lv_iadd hx hb d_M_sign_28 ?_
      refine lv_iconst (v := 5) hx hb d_M_sign_29 (by decide) ?_
      refine lv_isub hx hb d_M_sign_30 ?_
      refine lv_goto (tgt := 36) hx hb d_M_sign_31 rfl ?_
      exact ct_iret hx hb hr hlk hK hS () hw hP hD d_M_sign_36
  · have hw := hw.2 hc
    refine lv_aload_n hx hb d_M_sign_6 rfl (lv_at hl 0 rfl) ?_
    refine va_get (ci := 9) (C := R_Mo) (T := F_Mo) (N := 24) hx hb htb in_Mo hown hK hP 0 rfl rfl 13 (by decide) (htb _ tw709) (fun _ h9 => h9) rfl d_M_sign_7 ?_
    refine lv_iload_n hx hb d_M_sign_10 rfl (lv_at hl 1 rfl) ?_
    have hi := hw.1
    have hw := hw.2
    refine va_iald hx hb hK hP 9 0 rfl rfl hi d_M_sign_11 ?_
    refine lv_goto (tgt := 36) hx hb d_M_sign_12 rfl ?_
    exact ct_iret hx hb hr hlk hK hS () hw hP hD d_M_sign_36
/-! DecimalPatternsModel.symbol(IC)Z -/
def wp_M_symbol_L930 : Nat → Int32 → Int32 → Int32 → Bool → Int32 → Int32 → (Nat → Int32) → (Int32 → Int32 → Int32 → Bool → Int32 → (Nat → Int32) → Prop) → (Bool → (Nat → Int32) → Prop) → Prop
  | 0, _, _, _, _, _, _, _, _, _ => False
  | n930 + 1, x1, x2, x3, x4, x5, x6, m_sy, K490, Q => (x5 ≤ x6 → (K490 x1 x2 x3 x4 (x5 + 1) m_sy)) ∧ (¬ x5 ≤ x6 → ((x4 = false → (wp_M_symbol_L930 n930 x1 x2 x3 false x5 (x6 + 1) m_sy K490 Q)) ∧ (x4 = true → (wp_M_sign m_sy x5 (fun r5 u6 => wp_M_sign m_sy x6 (fun r7 u8 => (r5 = r7 → (wp_M_symbol_L930 n930 x1 x2 x3 false x5 (x6 + 1) m_sy K490 Q)) ∧ (¬ r5 = r7 → (wp_M_symbol_L930 n930 x1 x2 x3 true x5 (x6 + 1) m_sy K490 Q))))))))
def wp_M_symbol_J880 (x1 : Int32) (x2 : Int32) (x3 : Int32) (x5 : Int32) (y0 : Bool) (m_sy : Nat → Int32) (K490 : Int32 → Int32 → Int32 → Bool → Int32 → (Nat → Int32) → Prop) (Q : Bool → (Nat → Int32) → Prop) : Prop := ∃ n930, wp_M_symbol_L930 n930 x1 x2 x3 y0 x5 0 m_sy K490 Q
def wp_M_symbol_J870 (x1 : Int32) (x2 : Int32) (x3 : Int32) (x5 : Int32) (m_sy : Nat → Int32) (K490 : Int32 → Int32 → Int32 → Bool → Int32 → (Nat → Int32) → Prop) (Q : Bool → (Nat → Int32) → Prop) : Prop := wp_M_symbol_J880 x1 x2 x3 x5 false m_sy K490 Q
def wp_M_symbol_L490 : Nat → Int32 → Int32 → Int32 → Bool → Int32 → (Nat → Int32) → (Bool → (Nat → Int32) → Prop) → Prop
  | 0, _, _, _, _, _, _, _ => False
  | n490 + 1, x1, x2, x3, x4, x5, m_sy, Q => (16 ≤ x5 → ((x4 = false → (vp_in x1 6 ∧ (Q x4 (upd m_sy x1.toNatClampNeg x3)))) ∧ (x4 = true → (vp_in x1 6 ∧ (Q x4 (upd m_sy x1.toNatClampNeg x2)))))) ∧ (¬ 16 ≤ x5 → ((x4 = false → (wp_M_symbol_J870 x1 x2 x3 x5 m_sy (fun x1 x2 x3 x4 x5 m_sy => wp_M_symbol_L490 n490 x1 x2 x3 x4 x5 m_sy Q) Q)) ∧ (x4 = true → (wp_M_sign m_sy x5 (fun r1 u2 => (r1 < 32 → (wp_M_symbol_J870 x1 x2 x3 x5 m_sy (fun x1 x2 x3 x4 x5 m_sy => wp_M_symbol_L490 n490 x1 x2 x3 x4 x5 m_sy Q) Q)) ∧ (¬ r1 < 32 → (wp_M_sign m_sy x5 (fun r3 u4 => (126 < r3 → (wp_M_symbol_J870 x1 x2 x3 x5 m_sy (fun x1 x2 x3 x4 x5 m_sy => wp_M_symbol_L490 n490 x1 x2 x3 x4 x5 m_sy Q) Q)) ∧ (¬ 126 < r3 → (wp_M_symbol_J880 x1 x2 x3 x5 true m_sy (fun x1 x2 x3 x4 x5 m_sy => wp_M_symbol_L490 n490 x1 x2 x3 x4 x5 m_sy Q) Q))))))))))
def wp_M_symbol_J440 (x1 : Int32) (x2 : Int32) (x3 : Int32) (y0 : Bool) (m_sy : Nat → Int32) (Q : Bool → (Nat → Int32) → Prop) : Prop := ∃ n490, wp_M_symbol_L490 n490 x1 x2 x3 y0 0 m_sy Q
def wp_M_symbol (m_sy : Nat → Int32) (ix : Int32) (cd : Int32) (Q : Bool → (Nat → Int32) → Prop) : Prop := (ix < 0 → (Q false m_sy)) ∧ (¬ ix < 0 → ((ix ≤ 5 → (vp_in ix 6 ∧ (vp_in ix 6 ∧ (vp_in (5 : Int32) 6 ∧ ((126 < (((upd m_sy ix.toNatClampNeg cd) (5 : Int32).toNatClampNeg) + 9) → (wp_M_symbol_J440 ix cd (m_sy ix.toNatClampNeg) false (upd m_sy ix.toNatClampNeg cd) Q)) ∧ (¬ 126 < (((upd m_sy ix.toNatClampNeg cd) (5 : Int32).toNatClampNeg) + 9) → (wp_M_symbol_J440 ix cd (m_sy ix.toNatClampNeg) true (upd m_sy ix.toNatClampNeg cd) Q))))))) ∧ (¬ ix ≤ 5 → (Q false m_sy))))
set_option maxHeartbeats 4000000 in
set_option maxRecDepth 100000 in
theorem c_M_symbol (l : Launch) (D : va_G) (cA : ClassId) (mo mo_dr mo_now mo_first mo_has mo_da mo_dl mo_af mo_al mo_sy mo_dg mo_out mo_tx : Nat) (m_ds : Int32) (m_st : Int32) (m_sub : Int32) (m_q : Int32) (m_two : Bool) (m_least : Int32) (m_os : Int32) (m_ts : Int32) (m_fs : Int64) (m_fc : Int32) (m_g : Int64) (m_gs : Int32) (m_dr : Nat → Int32) (m_now : Nat → Int32) (m_first : Nat → Int32) (m_has : Nat → Int32) (m_da : Nat → Int32) (m_dl : Nat → Int32) (m_af : Nat → Int32) (m_al : Nat → Int32) (m_sy : Nat → Int32) (m_dg : Nat → Int32) (m_out : Nat → Int32) (m_tx : Nat → Int32) (ix : Int32) (cd : Int32) (Q : Bool → (Nat → Int32) → Prop) (hw : wp_M_symbol m_sy ix cd Q) : ct_M vwCl l D [(cA, .int)] y_M_symbol w_M_symbol { frames := 1, cells := 0, slots := 0, locals := 21 } [.ref mo, .int ix, .int cd] (wd_Mo cA mo mo_dr mo_now mo_first mo_has mo_da mo_dl mo_af mo_al mo_sy mo_dg mo_out mo_tx m_ds m_st m_sub m_q m_two m_least m_os m_ts m_fs m_fc m_g m_gs m_dr m_now m_first m_has m_da m_dl m_af m_al m_sy m_dg m_out m_tx) (ct_qz vwCl D [(cA, .int)] Q (fun u => wd_Mo cA mo mo_dr mo_now mo_first mo_has mo_da mo_dl mo_af mo_al mo_sy mo_dg mo_out mo_tx m_ds m_st m_sub m_q m_two m_least m_os m_ts m_fs m_fc m_g m_gs m_dr m_now m_first m_has m_da m_dl m_af m_al u m_dg m_out m_tx)) := by
  refine ct_enter (cc := b_M_symbol) (maxL := 7) (ret := (some .boolean)) (by decide) rfl (Nat.le_of_ble_eq_true rfl) ?_
  intro p e s m args below meth c A ls hx hb hr hlk hml hts hown hA hS hP hK hN hD hl
  have hl : lv_has ls 7 [(0, .ref mo), (1, .int ix), (2, .int cd)] := hl
  have htb : ∀ w ∈ tbl, w.before args s = true := fun w h => hts w (List.mem_cons_of_mem _ h)
  have hown : s.vm.findClass "DecimalPatternsModel" = some m.cls := hown
  unfold wp_M_symbol at hw
  have hL490 : ∀ (n490 : Nat) (x1 : Int32) (x2 : Int32) (x3 : Int32) (x4 : Bool) (x5 : Int32) (m_sy : Nat → Int32) (H : Heap) (locs : List Loc) (ls : Array Slot), lv_has ls 7 [(0, .ref mo), (1, .int x1), (2, .int x2), (3, .int x3), (4, .int (bI x4)), (5, .int x5)] → va_P D vwCl (wd_Mo cA mo mo_dr mo_now mo_first mo_has mo_da mo_dl mo_af mo_al mo_sy mo_dg mo_out mo_tx m_ds m_st m_sub m_q m_two m_least m_os m_ts m_fs m_fc m_g m_gs m_dr m_now m_first m_has m_da m_dl m_af m_al m_sy m_dg m_out m_tx) H → va_D A (wd_Mo cA mo mo_dr mo_now mo_first mo_has mo_da mo_dl mo_af mo_al mo_sy mo_dg mo_out mo_tx m_ds m_st m_sub m_q m_two m_least m_os m_ts m_fs m_fc m_g m_gs m_dr m_now m_first m_has m_da m_dl m_af m_al m_sy m_dg m_out m_tx) → va_S A s.heap H locs → wp_M_symbol_L490 n490 x1 x2 x3 x4 x5 m_sy Q → W p l e { frames := 1, cells := 0, slots := 0, locals := 21 } s m args below meth c H locs 0 0 (MQ below (ct_qz vwCl D [(cA, .int)] Q (fun u => wd_Mo cA mo mo_dr mo_now mo_first mo_has mo_da mo_dl mo_af mo_al mo_sy mo_dg mo_out mo_tx m_ds m_st m_sub m_q m_two m_least m_os m_ts m_fs m_fc m_g m_gs m_dr m_now m_first m_has m_da m_dl m_af m_al u m_dg m_out m_tx) A) args s 0 0 A) (F0 m 49 ls []) := by
    intro n490
    induction n490 with
    | zero => intro x1 x2 x3 x4 x5 m_sy H locs ls hl hP hD hS hw; exact hw.elim
    | succ n490 ih490 =>
      have hL930 : ∀ (n930 : Nat) (x1 : Int32) (x2 : Int32) (x3 : Int32) (x4 : Bool) (x5 : Int32) (x6 : Int32) (m_sy : Nat → Int32) (H : Heap) (locs : List Loc) (ls : Array Slot), lv_has ls 7 [(0, .ref mo), (1, .int x1), (2, .int x2), (3, .int x3), (4, .int (bI x4)), (5, .int x5), (6, .int x6)] → va_P D vwCl (wd_Mo cA mo mo_dr mo_now mo_first mo_has mo_da mo_dl mo_af mo_al mo_sy mo_dg mo_out mo_tx m_ds m_st m_sub m_q m_two m_least m_os m_ts m_fs m_fc m_g m_gs m_dr m_now m_first m_has m_da m_dl m_af m_al m_sy m_dg m_out m_tx) H → va_D A (wd_Mo cA mo mo_dr mo_now mo_first mo_has mo_da mo_dl mo_af mo_al mo_sy mo_dg mo_out mo_tx m_ds m_st m_sub m_q m_two m_least m_os m_ts m_fs m_fc m_g m_gs m_dr m_now m_first m_has m_da m_dl m_af m_al m_sy m_dg m_out m_tx) → va_S A s.heap H locs → wp_M_symbol_L930 n930 x1 x2 x3 x4 x5 x6 m_sy (fun x1 x2 x3 x4 x5 m_sy => wp_M_symbol_L490 n490 x1 x2 x3 x4 x5 m_sy Q) Q → W p l e { frames := 1, cells := 0, slots := 0, locals := 21 } s m args below meth c H locs 0 0 (MQ below (ct_qz vwCl D [(cA, .int)] Q (fun u => wd_Mo cA mo mo_dr mo_now mo_first mo_has mo_da mo_dl mo_af mo_al mo_sy mo_dg mo_out mo_tx m_ds m_st m_sub m_q m_two m_least m_os m_ts m_fs m_fc m_g m_gs m_dr m_now m_first m_has m_da m_dl m_af m_al u m_dg m_out m_tx) A) args s 0 0 A) (F0 m 93 ls []) := by
        intro n930
        induction n930 with
        | zero => intro x1 x2 x3 x4 x5 x6 m_sy H locs ls hl hP hD hS hw; exact hw.elim
        | succ n930 ih930 =>
          intro x1 x2 x3 x4 x5 x6 m_sy H locs ls hl hP hD hS hw
          unfold wp_M_symbol_L930 at hw
          refine lv_iload hx hb d_M_symbol_93 (lv_at hl 6 rfl) ?_
          refine lv_iload hx hb d_M_symbol_95 (lv_at hl 5 rfl) ?_
          refine lv_icmp_ge (tgt := 133) hx hb d_M_symbol_97 rfl (fun hc => ?_) (fun hc => ?_)
          · have hw := hw.1 hc
            refine lv_iinc (k := 5) (v := x5 + 1) (lv' := [(5, .int (x5 + 1)), (0, .ref mo), (1, .int x1), (2, .int x2), (3, .int x3), (4, .int (bI x4)), (6, .int x6)]) hx hb d_M_symbol_133 hl rfl (by rfl) (by decide) rfl (fun ls hl => ?_)
            refine lv_goto (tgt := 49) hx hb d_M_symbol_136 rfl ?_
            exact ih490 x1 x2 x3 x4 (x5 + 1) m_sy _ _ _ (lv_sub hl [1, 2, 3, 4, 5, 0] rfl) hP hD hS hw
          · have hw := hw.2 hc
            refine lv_iload hx hb d_M_symbol_100 (lv_at hl 4 rfl) ?_
            refine lv_if_eq (tgt := 124) hx hb d_M_symbol_102 rfl (fun hc => ?_) (fun hc => ?_)
            · have hw := hw.1 ((bI_0 _).mp hc)
              refine lv_iconst (v := 0) hx hb d_M_symbol_124 (by decide) ?_
              refine lv_istore (lv' := [(4, .int 0), (0, .ref mo), (1, .int x1), (2, .int x2), (3, .int x3), (5, .int x5), (6, .int x6)]) hx hb d_M_symbol_125 hl (by decide) rfl (fun ls hl => ?_)
              refine lv_iinc (k := 6) (v := x6 + 1) (lv' := [(6, .int (x6 + 1)), (4, .int 0), (0, .ref mo), (1, .int x1), (2, .int x2), (3, .int x3), (5, .int x5)]) hx hb d_M_symbol_127 hl rfl (by rfl) (by decide) rfl (fun ls hl => ?_)
              refine lv_goto (tgt := 93) hx hb d_M_symbol_130 rfl ?_
              exact ih930 x1 x2 x3 false x5 (x6 + 1) m_sy _ _ _ (lv_sub hl [2, 3, 4, 5, 1, 6, 0] rfl) hP hD hS hw
            · have hw := hw.2 ((bI_n0 _).mp hc)
              refine lv_aload_n hx hb d_M_symbol_105 rfl (lv_at hl 0 rfl) ?_
              refine lv_iload hx hb d_M_symbol_106 (lv_at hl 5 rfl) ?_
              refine ct_calli (wn := fun _ => wd_Mo cA mo mo_dr mo_now mo_first mo_has mo_da mo_dl mo_af mo_al mo_sy mo_dg mo_out mo_tx m_ds m_st m_sub m_q m_two m_least m_os m_ts m_fs m_fc m_g m_gs m_dr m_now m_first m_has m_da m_dl m_af m_al m_sy m_dg m_out m_tx) (va_runV (As := [.int x5]) (rest := []) ⟨hx, hb, hml, hown, htb⟩ (c_M_sign l D cA mo mo_dr mo_now mo_first mo_has mo_da mo_dl mo_af mo_al mo_sy mo_dg mo_out mo_tx m_ds m_st m_sub m_q m_two m_least m_os m_ts m_fs m_fc m_g m_gs m_dr m_now m_first m_has m_da m_dl m_af m_al m_sy m_dg m_out m_tx x5 _ hw _) (ct_cwV 1 htb tw834 rfl rfl tw82 tw831 tw833 tw51 hd_M_sign ⟨by decide, by decide⟩) (ct_preV hP hD hK hN [0, 1, 2, 3, 4, 5, 6, 7, 8, 9, 10, 11, 12] rfl (by decide) 0 rfl rfl _) rfl rfl hl.1 rfl (lv_room (Nat.le_of_ble_eq_true rfl)) d_M_symbol_108 ⟨Nat.zero_le _, Nat.zero_le _⟩) hP hD hS hA [0, 1, 2, 3, 4, 5, 6, 7, 8, 9, 10, 11, 12] [] [0, 1, 2, 3, 4, 5, 6, 7, 8, 9, 10, 11, 12] rfl rfl (by decide) (by decide) (fun _ => rfl) (by decide) (fun r5 u6 H locs hw hP hD hS => ?_)
              have hP : va_P D vwCl (wd_Mo cA mo mo_dr mo_now mo_first mo_has mo_da mo_dl mo_af mo_al mo_sy mo_dg mo_out mo_tx m_ds m_st m_sub m_q m_two m_least m_os m_ts m_fs m_fc m_g m_gs m_dr m_now m_first m_has m_da m_dl m_af m_al m_sy m_dg m_out m_tx) H := hP
              have hD : va_D A (wd_Mo cA mo mo_dr mo_now mo_first mo_has mo_da mo_dl mo_af mo_al mo_sy mo_dg mo_out mo_tx m_ds m_st m_sub m_q m_two m_least m_os m_ts m_fs m_fc m_g m_gs m_dr m_now m_first m_has m_da m_dl m_af m_al m_sy m_dg m_out m_tx) := hD
              refine lv_aload_n hx hb d_M_symbol_111 rfl (lv_at hl 0 rfl) ?_
              refine lv_iload hx hb d_M_symbol_112 (lv_at hl 6 rfl) ?_
              refine ct_calli (wn := fun _ => wd_Mo cA mo mo_dr mo_now mo_first mo_has mo_da mo_dl mo_af mo_al mo_sy mo_dg mo_out mo_tx m_ds m_st m_sub m_q m_two m_least m_os m_ts m_fs m_fc m_g m_gs m_dr m_now m_first m_has m_da m_dl m_af m_al m_sy m_dg m_out m_tx) (va_runV (As := [.int x6]) (rest := [.int r5]) ⟨hx, hb, hml, hown, htb⟩ (c_M_sign l D cA mo mo_dr mo_now mo_first mo_has mo_da mo_dl mo_af mo_al mo_sy mo_dg mo_out mo_tx m_ds m_st m_sub m_q m_two m_least m_os m_ts m_fs m_fc m_g m_gs m_dr m_now m_first m_has m_da m_dl m_af m_al m_sy m_dg m_out m_tx x6 _ hw _) (ct_cwV 1 htb tw834 rfl rfl tw82 tw831 tw833 tw51 hd_M_sign ⟨by decide, by decide⟩) (ct_preV hP hD hK hN [0, 1, 2, 3, 4, 5, 6, 7, 8, 9, 10, 11, 12] rfl (by decide) 0 rfl rfl _) rfl rfl hl.1 rfl (lv_room (Nat.le_of_ble_eq_true rfl)) d_M_symbol_114 ⟨Nat.zero_le _, Nat.zero_le _⟩) hP hD hS hA [0, 1, 2, 3, 4, 5, 6, 7, 8, 9, 10, 11, 12] [] [0, 1, 2, 3, 4, 5, 6, 7, 8, 9, 10, 11, 12] rfl rfl (by decide) (by decide) (fun _ => rfl) (by decide) (fun r7 u8 H locs hw hP hD hS => ?_)
              have hP : va_P D vwCl (wd_Mo cA mo mo_dr mo_now mo_first mo_has mo_da mo_dl mo_af mo_al mo_sy mo_dg mo_out mo_tx m_ds m_st m_sub m_q m_two m_least m_os m_ts m_fs m_fc m_g m_gs m_dr m_now m_first m_has m_da m_dl m_af m_al m_sy m_dg m_out m_tx) H := hP
              have hD : va_D A (wd_Mo cA mo mo_dr mo_now mo_first mo_has mo_da mo_dl mo_af mo_al mo_sy mo_dg mo_out mo_tx m_ds m_st m_sub m_q m_two m_least m_os m_ts m_fs m_fc m_g m_gs m_dr m_now m_first m_has m_da m_dl m_af m_al m_sy m_dg m_out m_tx) := hD
              refine lv_icmp_eq (tgt := 124) hx hb d_M_symbol_117 rfl (fun hc => ?_) (fun hc => ?_)
              · have hw := hw.1 hc
                refine lv_iconst (v := 0) hx hb d_M_symbol_124 (by decide) ?_
                refine lv_istore (lv' := [(4, .int 0), (0, .ref mo), (1, .int x1), (2, .int x2), (3, .int x3), (5, .int x5), (6, .int x6)]) hx hb d_M_symbol_125 hl (by decide) rfl (fun ls hl => ?_)
                refine lv_iinc (k := 6) (v := x6 + 1) (lv' := [(6, .int (x6 + 1)), (4, .int 0), (0, .ref mo), (1, .int x1), (2, .int x2), (3, .int x3), (5, .int x5)]) hx hb d_M_symbol_127 hl rfl (by rfl) (by decide) rfl (fun ls hl => ?_)
                refine lv_goto (tgt := 93) hx hb d_M_symbol_130 rfl ?_
                exact ih930 x1 x2 x3 false x5 (x6 + 1) m_sy _ _ _ (lv_sub hl [2, 3, 4, 5, 1, 6, 0] rfl) hP hD hS hw
              · have hw := hw.2 hc
                refine lv_iconst (v := 1) hx hb d_M_symbol_120 (by decide) ?_
                refine lv_goto (tgt := 125) hx hb d_M_symbol_121 rfl ?_
                refine lv_istore (lv' := [(4, .int 1), (0, .ref mo), (1, .int x1), (2, .int x2), (3, .int x3), (5, .int x5), (6, .int x6)]) hx hb d_M_symbol_125 hl (by decide) rfl (fun ls hl => ?_)
                refine lv_iinc (k := 6) (v := x6 + 1) (lv' := [(6, .int (x6 + 1)), (4, .int 1), (0, .ref mo), (1, .int x1), (2, .int x2), (3, .int x3), (5, .int x5)]) hx hb d_M_symbol_127 hl rfl (by rfl) (by decide) rfl (fun ls hl => ?_)
                refine lv_goto (tgt := 93) hx hb d_M_symbol_130 rfl ?_
                exact ih930 x1 x2 x3 true x5 (x6 + 1) m_sy _ _ _ (lv_sub hl [2, 3, 4, 5, 1, 6, 0] rfl) hP hD hS hw
      have hJ880 : ∀ (x1 : Int32) (x2 : Int32) (x3 : Int32) (x5 : Int32) (y0 : Bool) (m_sy : Nat → Int32) (H : Heap) (locs : List Loc) (ls : Array Slot), lv_has ls 7 [(0, .ref mo), (1, .int x1), (2, .int x2), (3, .int x3), (5, .int x5)] → va_P D vwCl (wd_Mo cA mo mo_dr mo_now mo_first mo_has mo_da mo_dl mo_af mo_al mo_sy mo_dg mo_out mo_tx m_ds m_st m_sub m_q m_two m_least m_os m_ts m_fs m_fc m_g m_gs m_dr m_now m_first m_has m_da m_dl m_af m_al m_sy m_dg m_out m_tx) H → va_D A (wd_Mo cA mo mo_dr mo_now mo_first mo_has mo_da mo_dl mo_af mo_al mo_sy mo_dg mo_out mo_tx m_ds m_st m_sub m_q m_two m_least m_os m_ts m_fs m_fc m_g m_gs m_dr m_now m_first m_has m_da m_dl m_af m_al m_sy m_dg m_out m_tx) → va_S A s.heap H locs → wp_M_symbol_J880 x1 x2 x3 x5 y0 m_sy (fun x1 x2 x3 x4 x5 m_sy => wp_M_symbol_L490 n490 x1 x2 x3 x4 x5 m_sy Q) Q → W p l e { frames := 1, cells := 0, slots := 0, locals := 21 } s m args below meth c H locs 0 0 (MQ below (ct_qz vwCl D [(cA, .int)] Q (fun u => wd_Mo cA mo mo_dr mo_now mo_first mo_has mo_da mo_dl mo_af mo_al mo_sy mo_dg mo_out mo_tx m_ds m_st m_sub m_q m_two m_least m_os m_ts m_fs m_fc m_g m_gs m_dr m_now m_first m_has m_da m_dl m_af m_al u m_dg m_out m_tx) A) args s 0 0 A) (F0 m 88 ls [.int (bI y0)]) := by
        intro x1 x2 x3 x5 y0 m_sy H locs ls hl hP hD hS hw
        unfold wp_M_symbol_J880 at hw
        refine lv_istore (lv' := [(4, .int (bI y0)), (0, .ref mo), (1, .int x1), (2, .int x2), (3, .int x3), (5, .int x5)]) hx hb d_M_symbol_88 hl (by decide) rfl (fun ls hl => ?_)
        refine lv_iconst (v := 0) hx hb d_M_symbol_90 (by decide) ?_
        refine lv_istore (lv' := [(6, .int 0), (4, .int (bI y0)), (0, .ref mo), (1, .int x1), (2, .int x2), (3, .int x3), (5, .int x5)]) hx hb d_M_symbol_91 hl (by decide) rfl (fun ls hl => ?_)
        obtain ⟨n930, hw⟩ := hw
        exact hL930 n930 x1 x2 x3 y0 x5 0 m_sy _ _ _ (lv_sub hl [2, 3, 4, 5, 1, 6, 0] rfl) hP hD hS hw
      have hJ870 : ∀ (x1 : Int32) (x2 : Int32) (x3 : Int32) (x5 : Int32) (m_sy : Nat → Int32) (H : Heap) (locs : List Loc) (ls : Array Slot), lv_has ls 7 [(0, .ref mo), (1, .int x1), (2, .int x2), (3, .int x3), (5, .int x5)] → va_P D vwCl (wd_Mo cA mo mo_dr mo_now mo_first mo_has mo_da mo_dl mo_af mo_al mo_sy mo_dg mo_out mo_tx m_ds m_st m_sub m_q m_two m_least m_os m_ts m_fs m_fc m_g m_gs m_dr m_now m_first m_has m_da m_dl m_af m_al m_sy m_dg m_out m_tx) H → va_D A (wd_Mo cA mo mo_dr mo_now mo_first mo_has mo_da mo_dl mo_af mo_al mo_sy mo_dg mo_out mo_tx m_ds m_st m_sub m_q m_two m_least m_os m_ts m_fs m_fc m_g m_gs m_dr m_now m_first m_has m_da m_dl m_af m_al m_sy m_dg m_out m_tx) → va_S A s.heap H locs → wp_M_symbol_J870 x1 x2 x3 x5 m_sy (fun x1 x2 x3 x4 x5 m_sy => wp_M_symbol_L490 n490 x1 x2 x3 x4 x5 m_sy Q) Q → W p l e { frames := 1, cells := 0, slots := 0, locals := 21 } s m args below meth c H locs 0 0 (MQ below (ct_qz vwCl D [(cA, .int)] Q (fun u => wd_Mo cA mo mo_dr mo_now mo_first mo_has mo_da mo_dl mo_af mo_al mo_sy mo_dg mo_out mo_tx m_ds m_st m_sub m_q m_two m_least m_os m_ts m_fs m_fc m_g m_gs m_dr m_now m_first m_has m_da m_dl m_af m_al u m_dg m_out m_tx) A) args s 0 0 A) (F0 m 87 ls []) := by
        intro x1 x2 x3 x5 m_sy H locs ls hl hP hD hS hw
        unfold wp_M_symbol_J870 at hw
        refine lv_iconst (v := 0) hx hb d_M_symbol_87 (by decide) ?_
        exact hJ880 x1 x2 x3 x5 false m_sy _ _ _ (lv_sub hl [0, 1, 2, 3, 4] rfl) hP hD hS hw
      intro x1 x2 x3 x4 x5 m_sy H locs ls hl hP hD hS hw
      unfold wp_M_symbol_L490 at hw
      refine lv_iload hx hb d_M_symbol_49 (lv_at hl 5 rfl) ?_
      refine lv_bipush (v := 16) hx hb d_M_symbol_51 (by decide) ?_
      refine lv_icmp_ge (tgt := 139) hx hb d_M_symbol_53 rfl (fun hc => ?_) (fun hc => ?_)
      · have hw := hw.1 hc
        refine lv_aload_n hx hb d_M_symbol_139 rfl (lv_at hl 0 rfl) ?_
        refine va_get (ci := 9) (C := R_Mo) (T := F_Mo) (N := 24) hx hb htb in_Mo hown hK hP 0 rfl rfl 13 (by decide) (htb _ tw709) (fun _ h9 => h9) rfl d_M_symbol_140 ?_
        refine lv_iload_n hx hb d_M_symbol_143 rfl (lv_at hl 1 rfl) ?_
        refine lv_iload hx hb d_M_symbol_144 (lv_at hl 4 rfl) ?_
        refine lv_if_eq (tgt := 153) hx hb d_M_symbol_146 rfl (fun hc => ?_) (fun hc => ?_)
        · have hw := hw.1 ((bI_0 _).mp hc)
          refine lv_iload_n hx hb d_M_symbol_153 rfl (lv_at hl 3 rfl) ?_
          have hi := hw.1
          have hw := hw.2
          refine va_iast hx hb hK hP hD hS 9 0 rfl rfl hi d_M_symbol_154 (fun H locs hP hD hS => ?_)
          have hP : va_P D vwCl (wd_Mo cA mo mo_dr mo_now mo_first mo_has mo_da mo_dl mo_af mo_al mo_sy mo_dg mo_out mo_tx m_ds m_st m_sub m_q m_two m_least m_os m_ts m_fs m_fc m_g m_gs m_dr m_now m_first m_has m_da m_dl m_af m_al (upd m_sy x1.toNatClampNeg x3) m_dg m_out m_tx) H := hP
          have hD : va_D A (wd_Mo cA mo mo_dr mo_now mo_first mo_has mo_da mo_dl mo_af mo_al mo_sy mo_dg mo_out mo_tx m_ds m_st m_sub m_q m_two m_least m_os m_ts m_fs m_fc m_g m_gs m_dr m_now m_first m_has m_da m_dl m_af m_al (upd m_sy x1.toNatClampNeg x3) m_dg m_out m_tx) := hD
          refine lv_iload hx hb d_M_symbol_155 (lv_at hl 4 rfl) ?_
          exact ct_zret x4 hx hb hr hlk hK hS (upd m_sy x1.toNatClampNeg x3) hw hP hD d_M_symbol_157
        · have hw := hw.2 ((bI_n0 _).mp hc)
          refine lv_iload_n hx hb d_M_symbol_149 rfl (lv_at hl 2 rfl) ?_
          refine lv_goto (tgt := 154) hx hb d_M_symbol_150 rfl ?_
          have hi := hw.1
          have hw := hw.2
          refine va_iast hx hb hK hP hD hS 9 0 rfl rfl hi d_M_symbol_154 (fun H locs hP hD hS => ?_)
          have hP : va_P D vwCl (wd_Mo cA mo mo_dr mo_now mo_first mo_has mo_da mo_dl mo_af mo_al mo_sy mo_dg mo_out mo_tx m_ds m_st m_sub m_q m_two m_least m_os m_ts m_fs m_fc m_g m_gs m_dr m_now m_first m_has m_da m_dl m_af m_al (upd m_sy x1.toNatClampNeg x2) m_dg m_out m_tx) H := hP
          have hD : va_D A (wd_Mo cA mo mo_dr mo_now mo_first mo_has mo_da mo_dl mo_af mo_al mo_sy mo_dg mo_out mo_tx m_ds m_st m_sub m_q m_two m_least m_os m_ts m_fs m_fc m_g m_gs m_dr m_now m_first m_has m_da m_dl m_af m_al (upd m_sy x1.toNatClampNeg x2) m_dg m_out m_tx) := hD
          refine lv_iload hx hb d_M_symbol_155 (lv_at hl 4 rfl) ?_
          exact ct_zret x4 hx hb hr hlk hK hS (upd m_sy x1.toNatClampNeg x2) hw hP hD d_M_symbol_157
      · have hw := hw.2 hc
        refine lv_iload hx hb d_M_symbol_56 (lv_at hl 4 rfl) ?_
        refine lv_if_eq (tgt := 87) hx hb d_M_symbol_58 rfl (fun hc => ?_) (fun hc => ?_)
        · have hw := hw.1 ((bI_0 _).mp hc)
          exact hJ870 x1 x2 x3 x5 m_sy _ _ _ (lv_sub hl [0, 1, 2, 3, 5] rfl) hP hD hS hw
        · have hw := hw.2 ((bI_n0 _).mp hc)
          refine lv_aload_n hx hb d_M_symbol_61 rfl (lv_at hl 0 rfl) ?_
          refine lv_iload hx hb d_M_symbol_62 (lv_at hl 5 rfl) ?_
          refine ct_calli (wn := fun _ => wd_Mo cA mo mo_dr mo_now mo_first mo_has mo_da mo_dl mo_af mo_al mo_sy mo_dg mo_out mo_tx m_ds m_st m_sub m_q m_two m_least m_os m_ts m_fs m_fc m_g m_gs m_dr m_now m_first m_has m_da m_dl m_af m_al m_sy m_dg m_out m_tx) (va_runV (As := [.int x5]) (rest := []) ⟨hx, hb, hml, hown, htb⟩ (c_M_sign l D cA mo mo_dr mo_now mo_first mo_has mo_da mo_dl mo_af mo_al mo_sy mo_dg mo_out mo_tx m_ds m_st m_sub m_q m_two m_least m_os m_ts m_fs m_fc m_g m_gs m_dr m_now m_first m_has m_da m_dl m_af m_al m_sy m_dg m_out m_tx x5 _ hw _) (ct_cwV 1 htb tw834 rfl rfl tw82 tw831 tw833 tw51 hd_M_sign ⟨by decide, by decide⟩) (ct_preV hP hD hK hN [0, 1, 2, 3, 4, 5, 6, 7, 8, 9, 10, 11, 12] rfl (by decide) 0 rfl rfl _) rfl rfl hl.1 rfl (lv_room (Nat.le_of_ble_eq_true rfl)) d_M_symbol_64 ⟨Nat.zero_le _, Nat.zero_le _⟩) hP hD hS hA [0, 1, 2, 3, 4, 5, 6, 7, 8, 9, 10, 11, 12] [] [0, 1, 2, 3, 4, 5, 6, 7, 8, 9, 10, 11, 12] rfl rfl (by decide) (by decide) (fun _ => rfl) (by decide) (fun r1 u2 H locs hw hP hD hS => ?_)
          have hP : va_P D vwCl (wd_Mo cA mo mo_dr mo_now mo_first mo_has mo_da mo_dl mo_af mo_al mo_sy mo_dg mo_out mo_tx m_ds m_st m_sub m_q m_two m_least m_os m_ts m_fs m_fc m_g m_gs m_dr m_now m_first m_has m_da m_dl m_af m_al m_sy m_dg m_out m_tx) H := hP
          have hD : va_D A (wd_Mo cA mo mo_dr mo_now mo_first mo_has mo_da mo_dl mo_af mo_al mo_sy mo_dg mo_out mo_tx m_ds m_st m_sub m_q m_two m_least m_os m_ts m_fs m_fc m_g m_gs m_dr m_now m_first m_has m_da m_dl m_af m_al m_sy m_dg m_out m_tx) := hD
          refine lv_bipush (v := 32) hx hb d_M_symbol_67 (by decide) ?_
          refine lv_icmp_lt (tgt := 87) hx hb d_M_symbol_69 rfl (fun hc => ?_) (fun hc => ?_)
          · have hw := hw.1 hc
            exact hJ870 x1 x2 x3 x5 m_sy _ _ _ (lv_sub hl [0, 1, 2, 3, 5] rfl) hP hD hS hw
          · have hw := hw.2 hc
            refine lv_aload_n hx hb d_M_symbol_72 rfl (lv_at hl 0 rfl) ?_
            refine lv_iload hx hb d_M_symbol_73 (lv_at hl 5 rfl) ?_
            refine ct_calli (wn := fun _ => wd_Mo cA mo mo_dr mo_now mo_first mo_has mo_da mo_dl mo_af mo_al mo_sy mo_dg mo_out mo_tx m_ds m_st m_sub m_q m_two m_least m_os m_ts m_fs m_fc m_g m_gs m_dr m_now m_first m_has m_da m_dl m_af m_al m_sy m_dg m_out m_tx) (va_runV (As := [.int x5]) (rest := []) ⟨hx, hb, hml, hown, htb⟩ (c_M_sign l D cA mo mo_dr mo_now mo_first mo_has mo_da mo_dl mo_af mo_al mo_sy mo_dg mo_out mo_tx m_ds m_st m_sub m_q m_two m_least m_os m_ts m_fs m_fc m_g m_gs m_dr m_now m_first m_has m_da m_dl m_af m_al m_sy m_dg m_out m_tx x5 _ hw _) (ct_cwV 1 htb tw834 rfl rfl tw82 tw831 tw833 tw51 hd_M_sign ⟨by decide, by decide⟩) (ct_preV hP hD hK hN [0, 1, 2, 3, 4, 5, 6, 7, 8, 9, 10, 11, 12] rfl (by decide) 0 rfl rfl _) rfl rfl hl.1 rfl (lv_room (Nat.le_of_ble_eq_true rfl)) d_M_symbol_75 ⟨Nat.zero_le _, Nat.zero_le _⟩) hP hD hS hA [0, 1, 2, 3, 4, 5, 6, 7, 8, 9, 10, 11, 12] [] [0, 1, 2, 3, 4, 5, 6, 7, 8, 9, 10, 11, 12] rfl rfl (by decide) (by decide) (fun _ => rfl) (by decide) (fun r3 u4 H locs hw hP hD hS => ?_)
            have hP : va_P D vwCl (wd_Mo cA mo mo_dr mo_now mo_first mo_has mo_da mo_dl mo_af mo_al mo_sy mo_dg mo_out mo_tx m_ds m_st m_sub m_q m_two m_least m_os m_ts m_fs m_fc m_g m_gs m_dr m_now m_first m_has m_da m_dl m_af m_al m_sy m_dg m_out m_tx) H := hP
            have hD : va_D A (wd_Mo cA mo mo_dr mo_now mo_first mo_has mo_da mo_dl mo_af mo_al mo_sy mo_dg mo_out mo_tx m_ds m_st m_sub m_q m_two m_least m_os m_ts m_fs m_fc m_g m_gs m_dr m_now m_first m_has m_da m_dl m_af m_al m_sy m_dg m_out m_tx) := hD
            refine lv_bipush (v := 126) hx hb d_M_symbol_78 (by decide) ?_
            refine lv_icmp_gt (tgt := 87) hx hb d_M_symbol_80 rfl (fun hc => ?_) (fun hc => ?_)
            · have hw := hw.1 hc
              exact hJ870 x1 x2 x3 x5 m_sy _ _ _ (lv_sub hl [0, 1, 2, 3, 5] rfl) hP hD hS hw
            · have hw := hw.2 hc
              refine lv_iconst (v := 1) hx hb d_M_symbol_83 (by decide) ?_
              refine lv_goto (tgt := 88) hx hb d_M_symbol_84 rfl ?_
              exact hJ880 x1 x2 x3 x5 true m_sy _ _ _ (lv_sub hl [0, 1, 2, 3, 5] rfl) hP hD hS hw
  have hJ440 : ∀ (x1 : Int32) (x2 : Int32) (x3 : Int32) (y0 : Bool) (m_sy : Nat → Int32) (H : Heap) (locs : List Loc) (ls : Array Slot), lv_has ls 7 [(0, .ref mo), (1, .int x1), (2, .int x2), (3, .int x3)] → va_P D vwCl (wd_Mo cA mo mo_dr mo_now mo_first mo_has mo_da mo_dl mo_af mo_al mo_sy mo_dg mo_out mo_tx m_ds m_st m_sub m_q m_two m_least m_os m_ts m_fs m_fc m_g m_gs m_dr m_now m_first m_has m_da m_dl m_af m_al m_sy m_dg m_out m_tx) H → va_D A (wd_Mo cA mo mo_dr mo_now mo_first mo_has mo_da mo_dl mo_af mo_al mo_sy mo_dg mo_out mo_tx m_ds m_st m_sub m_q m_two m_least m_os m_ts m_fs m_fc m_g m_gs m_dr m_now m_first m_has m_da m_dl m_af m_al m_sy m_dg m_out m_tx) → va_S A s.heap H locs → wp_M_symbol_J440 x1 x2 x3 y0 m_sy Q → W p l e { frames := 1, cells := 0, slots := 0, locals := 21 } s m args below meth c H locs 0 0 (MQ below (ct_qz vwCl D [(cA, .int)] Q (fun u => wd_Mo cA mo mo_dr mo_now mo_first mo_has mo_da mo_dl mo_af mo_al mo_sy mo_dg mo_out mo_tx m_ds m_st m_sub m_q m_two m_least m_os m_ts m_fs m_fc m_g m_gs m_dr m_now m_first m_has m_da m_dl m_af m_al u m_dg m_out m_tx) A) args s 0 0 A) (F0 m 44 ls [.int (bI y0)]) := by
    intro x1 x2 x3 y0 m_sy H locs ls hl hP hD hS hw
    unfold wp_M_symbol_J440 at hw
    refine lv_istore (lv' := [(4, .int (bI y0)), (0, .ref mo), (1, .int x1), (2, .int x2), (3, .int x3)]) hx hb d_M_symbol_44 hl (by decide) rfl (fun ls hl => ?_)
    refine lv_iconst (v := 0) hx hb d_M_symbol_46 (by decide) ?_
    refine lv_istore (lv' := [(5, .int 0), (4, .int (bI y0)), (0, .ref mo), (1, .int x1), (2, .int x2), (3, .int x3)]) hx hb d_M_symbol_47 hl (by decide) rfl (fun ls hl => ?_)
    obtain ⟨n490, hw⟩ := hw
    exact hL490 n490 x1 x2 x3 y0 0 m_sy _ _ _ (lv_sub hl [2, 3, 4, 5, 1, 0] rfl) hP hD hS hw
  refine lv_iload_n hx hb d_M_symbol_0 rfl (lv_at hl 1 rfl) ?_
  refine lv_if_lt (tgt := 9) hx hb d_M_symbol_1 rfl (fun hc => ?_) (fun hc => ?_)
  · have hw := hw.1 hc
    refine lv_iconst (v := 0) hx hb d_M_symbol_9 (by decide) ?_
    exact ct_zret false hx hb hr hlk hK hS m_sy hw hP hD d_M_symbol_10
  · have hw := hw.2 hc
    refine lv_iload_n hx hb d_M_symbol_4 rfl (lv_at hl 1 rfl) ?_
    refine lv_iconst (v := 5) hx hb d_M_symbol_5 (by decide) ?_
    refine lv_icmp_le (tgt := 11) hx hb d_M_symbol_6 rfl (fun hc => ?_) (fun hc => ?_)
    · have hw := hw.1 hc
      refine lv_aload_n hx hb d_M_symbol_11 rfl (lv_at hl 0 rfl) ?_
      refine va_get (ci := 9) (C := R_Mo) (T := F_Mo) (N := 24) hx hb htb in_Mo hown hK hP 0 rfl rfl 13 (by decide) (htb _ tw709) (fun _ h9 => h9) rfl d_M_symbol_12 ?_
      refine lv_iload_n hx hb d_M_symbol_15 rfl (lv_at hl 1 rfl) ?_
      have hi := hw.1
      have hw := hw.2
      refine va_iald hx hb hK hP 9 0 rfl rfl hi d_M_symbol_16 ?_
      refine lv_istore_n (lv' := [(3, .int (m_sy ix.toNatClampNeg)), (0, .ref mo), (1, .int ix), (2, .int cd)]) hx hb d_M_symbol_17 rfl hl (by decide) rfl (fun ls hl => ?_)
      refine lv_aload_n hx hb d_M_symbol_18 rfl (lv_at hl 1 rfl) ?_
      refine va_get (ci := 9) (C := R_Mo) (T := F_Mo) (N := 24) hx hb htb in_Mo hown hK hP 0 rfl rfl 13 (by decide) (htb _ tw709) (fun _ h9 => h9) rfl d_M_symbol_19 ?_
      refine lv_iload_n hx hb d_M_symbol_22 rfl (lv_at hl 2 rfl) ?_
      refine lv_iload_n hx hb d_M_symbol_23 rfl (lv_at hl 3 rfl) ?_
      have hi := hw.1
      have hw := hw.2
      refine va_iast hx hb hK hP hD hS 9 0 rfl rfl hi d_M_symbol_24 (fun H locs hP hD hS => ?_)
      have hP : va_P D vwCl (wd_Mo cA mo mo_dr mo_now mo_first mo_has mo_da mo_dl mo_af mo_al mo_sy mo_dg mo_out mo_tx m_ds m_st m_sub m_q m_two m_least m_os m_ts m_fs m_fc m_g m_gs m_dr m_now m_first m_has m_da m_dl m_af m_al (upd m_sy ix.toNatClampNeg cd) m_dg m_out m_tx) H := hP
      have hD : va_D A (wd_Mo cA mo mo_dr mo_now mo_first mo_has mo_da mo_dl mo_af mo_al mo_sy mo_dg mo_out mo_tx m_ds m_st m_sub m_q m_two m_least m_os m_ts m_fs m_fc m_g m_gs m_dr m_now m_first m_has m_da m_dl m_af m_al (upd m_sy ix.toNatClampNeg cd) m_dg m_out m_tx) := hD
      refine lv_aload_n hx hb d_M_symbol_25 rfl (lv_at hl 1 rfl) ?_
      refine va_get (ci := 9) (C := R_Mo) (T := F_Mo) (N := 24) hx hb htb in_Mo hown hK hP 0 rfl rfl 13 (by decide) (htb _ tw709) (fun _ h9 => h9) rfl d_M_symbol_26 ?_
      refine lv_iconst (v := 5) hx hb d_M_symbol_29 (by decide) ?_
      have hi := hw.1
      have hw := hw.2
      refine va_iald hx hb hK hP 9 0 rfl rfl hi d_M_symbol_30 ?_
      refine lv_bipush (v := 9) hx hb d_M_symbol_31 (by decide) ?_
      refine lv_iadd hx hb d_M_symbol_33 ?_
      refine lv_bipush (v := 126) hx hb d_M_symbol_34 (by decide) ?_
      refine lv_icmp_gt (tgt := 43) hx hb d_M_symbol_36 rfl (fun hc => ?_) (fun hc => ?_)
      · have hw := hw.1 hc
        refine lv_iconst (v := 0) hx hb d_M_symbol_43 (by decide) ?_
        exact hJ440 ix cd (m_sy ix.toNatClampNeg) false (upd m_sy ix.toNatClampNeg cd) _ _ _ (lv_sub hl [1, 2, 3, 0] rfl) hP hD hS hw
      · have hw := hw.2 hc
        refine lv_iconst (v := 1) hx hb d_M_symbol_39 (by decide) ?_
        refine lv_goto (tgt := 44) hx hb d_M_symbol_40 rfl ?_
        exact hJ440 ix cd (m_sy ix.toNatClampNeg) true (upd m_sy ix.toNatClampNeg cd) _ _ _ (lv_sub hl [1, 2, 3, 0] rfl) hP hD hS hw
    · have hw := hw.2 hc
      refine lv_iconst (v := 0) hx hb d_M_symbol_9 (by decide) ?_
      exact ct_zret false hx hb hr hlk hK hS m_sy hw hP hD d_M_symbol_10
/-! DecimalPatternsModel.groupFrom(I)Z -/
def wp_M_groupFrom (m_least : Int32) (nn : Int32) (Q : Bool → Int32 → Prop) : Prop := (nn < 1 → (Q false m_least)) ∧ (¬ nn < 1 → ((nn ≤ 9 → (Q true nn)) ∧ (¬ nn ≤ 9 → (Q false m_least))))
set_option maxHeartbeats 4000000 in
set_option maxRecDepth 100000 in
theorem c_M_groupFrom (l : Launch) (D : va_G) (cA : ClassId) (mo mo_dr mo_now mo_first mo_has mo_da mo_dl mo_af mo_al mo_sy mo_dg mo_out mo_tx : Nat) (m_ds : Int32) (m_st : Int32) (m_sub : Int32) (m_q : Int32) (m_two : Bool) (m_least : Int32) (m_os : Int32) (m_ts : Int32) (m_fs : Int64) (m_fc : Int32) (m_g : Int64) (m_gs : Int32) (m_dr : Nat → Int32) (m_now : Nat → Int32) (m_first : Nat → Int32) (m_has : Nat → Int32) (m_da : Nat → Int32) (m_dl : Nat → Int32) (m_af : Nat → Int32) (m_al : Nat → Int32) (m_sy : Nat → Int32) (m_dg : Nat → Int32) (m_out : Nat → Int32) (m_tx : Nat → Int32) (nn : Int32) (Q : Bool → Int32 → Prop) (hw : wp_M_groupFrom m_least nn Q) : ct_M vwCl l D [(cA, .int)] y_M_groupFrom w_M_groupFrom { frames := 0, cells := 0, slots := 0, locals := 0 } [.ref mo, .int nn] (wd_Mo cA mo mo_dr mo_now mo_first mo_has mo_da mo_dl mo_af mo_al mo_sy mo_dg mo_out mo_tx m_ds m_st m_sub m_q m_two m_least m_os m_ts m_fs m_fc m_g m_gs m_dr m_now m_first m_has m_da m_dl m_af m_al m_sy m_dg m_out m_tx) (ct_qz vwCl D [(cA, .int)] Q (fun u => wd_Mo cA mo mo_dr mo_now mo_first mo_has mo_da mo_dl mo_af mo_al mo_sy mo_dg mo_out mo_tx m_ds m_st m_sub m_q m_two u m_os m_ts m_fs m_fc m_g m_gs m_dr m_now m_first m_has m_da m_dl m_af m_al m_sy m_dg m_out m_tx)) := by
  refine ct_enter (cc := b_M_groupFrom) (maxL := 2) (ret := (some .boolean)) (by decide) rfl (Nat.le_of_ble_eq_true rfl) ?_
  intro p e s m args below meth c A ls hx hb hr hlk hml hts hown hA hS hP hK hN hD hl
  have hl : lv_has ls 2 [(0, .ref mo), (1, .int nn)] := hl
  have htb : ∀ w ∈ tbl, w.before args s = true := fun w h => hts w (List.mem_cons_of_mem _ h)
  have hown : s.vm.findClass "DecimalPatternsModel" = some m.cls := hown
  unfold wp_M_groupFrom at hw
  refine lv_iload_n hx hb d_M_groupFrom_0 rfl (lv_at hl 1 rfl) ?_
  refine lv_iconst (v := 1) hx hb d_M_groupFrom_1 (by decide) ?_
  refine lv_icmp_lt (tgt := 11) hx hb d_M_groupFrom_2 rfl (fun hc => ?_) (fun hc => ?_)
  · have hw := hw.1 hc
    refine lv_iconst (v := 0) hx hb d_M_groupFrom_11 (by decide) ?_
    exact ct_zret false hx hb hr hlk hK hS m_least hw hP hD d_M_groupFrom_12
  · have hw := hw.2 hc
    refine lv_iload_n hx hb d_M_groupFrom_5 rfl (lv_at hl 1 rfl) ?_
    refine lv_bipush (v := 9) hx hb d_M_groupFrom_6 (by decide) ?_
    refine lv_icmp_le (tgt := 13) hx hb d_M_groupFrom_8 rfl (fun hc => ?_) (fun hc => ?_)
    · have hw := hw.1 hc
      refine lv_aload_n hx hb d_M_groupFrom_13 rfl (lv_at hl 0 rfl) ?_
      refine lv_iload_n hx hb d_M_groupFrom_14 rfl (lv_at hl 1 rfl) ?_
      refine va_put (ci := 9) (v := .int nn) (ty := .int) (C := R_Mo) (T := F_Mo) (N := 24) hx hb htb in_Mo t_Mo t_Mo_ok n_Mo hown hK hP hD hS 0 rfl rfl 14 (by decide) (htb _ tw710) (fun _ h9 => h9) rfl (by decide +kernel) rfl rfl (Nat.le_of_ble_eq_true rfl) d_M_groupFrom_15 (fun H locs hP hD hS => ?_)
      have hP : va_P D vwCl (wd_Mo cA mo mo_dr mo_now mo_first mo_has mo_da mo_dl mo_af mo_al mo_sy mo_dg mo_out mo_tx m_ds m_st m_sub m_q m_two nn m_os m_ts m_fs m_fc m_g m_gs m_dr m_now m_first m_has m_da m_dl m_af m_al m_sy m_dg m_out m_tx) H := hP
      have hD : va_D A (wd_Mo cA mo mo_dr mo_now mo_first mo_has mo_da mo_dl mo_af mo_al mo_sy mo_dg mo_out mo_tx m_ds m_st m_sub m_q m_two nn m_os m_ts m_fs m_fc m_g m_gs m_dr m_now m_first m_has m_da m_dl m_af m_al m_sy m_dg m_out m_tx) := hD
      refine lv_iconst (v := 1) hx hb d_M_groupFrom_18 (by decide) ?_
      exact ct_zret true hx hb hr hlk hK hS nn hw hP hD d_M_groupFrom_19
    · have hw := hw.2 hc
      refine lv_iconst (v := 0) hx hb d_M_groupFrom_11 (by decide) ?_
      exact ct_zret false hx hb hr hlk hK hS m_least hw hP hD d_M_groupFrom_12
