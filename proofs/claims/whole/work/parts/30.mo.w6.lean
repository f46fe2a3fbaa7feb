/-! DecimalPatternsModel.loose(II)Z -/
def wp_M_loose_J2940 (m_sy : Nat → Int32) (m_tx : Nat → Int32) (x3 : Int32) (x4 : Int32) (x5 : Int32) (x8 : Bool) (x9 : Bool) (m_g : Int64) (m_gs : Int32) (Q : Bool → (Int64 × Int32) → Prop) : Prop := (x8 = false → (Q x9 (m_g, -((x3 + x5) + x4)))) ∧ (x8 = true → (Q x9 (m_g, -((x3 + x5) + (-x4)))))
def wp_M_loose_J2660 (m_sy : Nat → Int32) (m_tx : Nat → Int32) (x2 : Int32) (x3 : Int32) (x4 : Int32) (x5 : Int32) (x6 : Bool) (x7 : Bool) (x8 : Bool) (x10 : Int32) (x12 : Int32) (m_g : Int64) (m_gs : Int32) (K280 : Int32 → Int32 → Int32 → Int32 → Bool → Bool → Bool → Bool → Int32 → Int64 → Int32 → Prop) (Q : Bool → (Int64 × Int32) → Prop) : Prop := (¬ x12 = 0 → (K280 x2 x3 x4 0 x6 x7 x8 true (x10 + 1) m_g m_gs)) ∧ (x12 = 0 → (K280 x2 x3 x4 (x5 + 1) x6 x7 x8 true (x10 + 1) m_g m_gs))
def wp_M_loose_J2480 (m_sy : Nat → Int32) (m_tx : Nat → Int32) (x2 : Int32) (x4 : Int32) (x5 : Int32) (x6 : Bool) (x7 : Bool) (x8 : Bool) (x10 : Int32) (x12 : Int32) (y0 : Bool) (y1 : Int32) (m_g : Int64) (m_gs : Int32) (K280 : Int32 → Int32 → Int32 → Int32 → Bool → Bool → Bool → Bool → Int32 → Int64 → Int32 → Prop) (Q : Bool → (Int64 × Int32) → Prop) : Prop := (x12 = 0 → (wp_M_loose_J2660 m_sy m_tx x2 (y1 - (bI y0)) x4 x5 x6 x7 x8 x10 x12 m_g m_gs K280 Q)) ∧ (¬ x12 = 0 → (wp_M_push m_g x5 x12 (fun r1 u2 => (r1 = false → ((¬ x12 = 0 → (K280 x2 (y1 - (bI y0)) x4 0 x6 x7 x8 false (x10 + 1) u2 m_gs)) ∧ (x12 = 0 → (K280 x2 (y1 - (bI y0)) x4 (x5 + 1) x6 x7 x8 false (x10 + 1) u2 m_gs)))) ∧ (r1 = true → (wp_M_loose_J2660 m_sy m_tx x2 (y1 - (bI y0)) x4 x5 x6 x7 x8 x10 x12 u2 m_gs K280 Q)))))
def wp_M_loose_J1780 (m_sy : Nat → Int32) (m_tx : Nat → Int32) (x2 : Int32) (x3 : Int32) (x4 : Int32) (x5 : Int32) (x6 : Bool) (x8 : Bool) (x9 : Bool) (x10 : Int32) (x11 : Int32) (y0 : Bool) (m_g : Int64) (m_gs : Int32) (K280 : Int32 → Int32 → Int32 → Int32 → Bool → Bool → Bool → Bool → Int32 → Int64 → Int32 → Prop) (Q : Bool → (Int64 × Int32) → Prop) : Prop := (x8 = true → (K280 x2 x3 x4 x5 x6 y0 true x9 (x10 + 1) m_g m_gs)) ∧ (x8 = false → (vp_in (2 : Int32) 6 ∧ ((¬ x11 = (m_sy (2 : Int32).toNatClampNeg) → (K280 x2 x3 x4 x5 x6 y0 false x9 (x10 + 1) m_g m_gs)) ∧ (x11 = (m_sy (2 : Int32).toNatClampNeg) → (K280 x2 x3 x4 x5 x6 y0 true x9 (x10 + 1) m_g m_gs)))))
def wp_M_loose_J1730 (m_sy : Nat → Int32) (m_tx : Nat → Int32) (x2 : Int32) (x3 : Int32) (x4 : Int32) (x5 : Int32) (x6 : Bool) (x8 : Bool) (x9 : Bool) (x10 : Int32) (x11 : Int32) (m_g : Int64) (m_gs : Int32) (K280 : Int32 → Int32 → Int32 → Int32 → Bool → Bool → Bool → Bool → Int32 → Int64 → Int32 → Prop) (Q : Bool → (Int64 × Int32) → Prop) : Prop := wp_M_loose_J1780 m_sy m_tx x2 x3 x4 x5 x6 x8 x9 x10 x11 true m_g m_gs K280 Q
def wp_M_loose_J1550 (m_sy : Nat → Int32) (m_tx : Nat → Int32) (x2 : Int32) (x3 : Int32) (x4 : Int32) (x5 : Int32) (x7 : Bool) (x8 : Bool) (x9 : Bool) (x10 : Int32) (x11 : Int32) (y0 : Bool) (m_g : Int64) (m_gs : Int32) (K280 : Int32 → Int32 → Int32 → Int32 → Bool → Bool → Bool → Bool → Int32 → Int64 → Int32 → Prop) (Q : Bool → (Int64 × Int32) → Prop) : Prop := (x7 = true → (wp_M_loose_J1730 m_sy m_tx x2 x3 x4 x5 y0 x8 x9 x10 x11 m_g m_gs K280 Q)) ∧ (x7 = false → (vp_in (4 : Int32) 6 ∧ ((¬ x11 = (m_sy (4 : Int32).toNatClampNeg) → (wp_M_loose_J1780 m_sy m_tx x2 x3 x4 x5 y0 x8 x9 x10 x11 false m_g m_gs K280 Q)) ∧ (x11 = (m_sy (4 : Int32).toNatClampNeg) → (wp_M_loose_J1730 m_sy m_tx x2 x3 x4 x5 y0 x8 x9 x10 x11 m_g m_gs K280 Q)))))
def wp_M_loose_J1500 (m_sy : Nat → Int32) (m_tx : Nat → Int32) (x2 : Int32) (x3 : Int32) (x4 : Int32) (x5 : Int32) (x7 : Bool) (x8 : Bool) (x9 : Bool) (x10 : Int32) (x11 : Int32) (m_g : Int64) (m_gs : Int32) (K280 : Int32 → Int32 → Int32 → Int32 → Bool → Bool → Bool → Bool → Int32 → Int64 → Int32 → Prop) (Q : Bool → (Int64 × Int32) → Prop) : Prop := wp_M_loose_J1550 m_sy m_tx x2 x3 x4 x5 x7 x8 x9 x10 x11 true m_g m_gs K280 Q
def wp_M_loose_J1320 (m_sy : Nat → Int32) (m_tx : Nat → Int32) (x2 : Int32) (x3 : Int32) (x4 : Int32) (x5 : Int32) (x6 : Bool) (x7 : Bool) (x8 : Bool) (x10 : Int32) (x11 : Int32) (y0 : Bool) (m_g : Int64) (m_gs : Int32) (K280 : Int32 → Int32 → Int32 → Int32 → Bool → Bool → Bool → Bool → Int32 → Int64 → Int32 → Prop) (Q : Bool → (Int64 × Int32) → Prop) : Prop := (x6 = true → (wp_M_loose_J1500 m_sy m_tx x2 x3 x4 x5 x7 x8 y0 x10 x11 m_g m_gs K280 Q)) ∧ (x6 = false → (vp_in (0 : Int32) 6 ∧ ((¬ x11 = (m_sy (0 : Int32).toNatClampNeg) → (wp_M_loose_J1550 m_sy m_tx x2 x3 x4 x5 x7 x8 y0 x10 x11 false m_g m_gs K280 Q)) ∧ (x11 = (m_sy (0 : Int32).toNatClampNeg) → (wp_M_loose_J1500 m_sy m_tx x2 x3 x4 x5 x7 x8 y0 x10 x11 m_g m_gs K280 Q)))))
def wp_M_loose_J1310 (m_sy : Nat → Int32) (m_tx : Nat → Int32) (x2 : Int32) (x3 : Int32) (x4 : Int32) (x5 : Int32) (x6 : Bool) (x7 : Bool) (x8 : Bool) (x10 : Int32) (x11 : Int32) (m_g : Int64) (m_gs : Int32) (K280 : Int32 → Int32 → Int32 → Int32 → Bool → Bool → Bool → Bool → Int32 → Int64 → Int32 → Prop) (Q : Bool → (Int64 × Int32) → Prop) : Prop := wp_M_loose_J1320 m_sy m_tx x2 x3 x4 x5 x6 x7 x8 x10 x11 false m_g m_gs K280 Q
def wp_M_loose_J1270 (m_sy : Nat → Int32) (m_tx : Nat → Int32) (x2 : Int32) (x3 : Int32) (x4 : Int32) (x5 : Int32) (x6 : Bool) (x7 : Bool) (x8 : Bool) (x10 : Int32) (x11 : Int32) (m_g : Int64) (m_gs : Int32) (K280 : Int32 → Int32 → Int32 → Int32 → Bool → Bool → Bool → Bool → Int32 → Int64 → Int32 → Prop) (Q : Bool → (Int64 × Int32) → Prop) : Prop := wp_M_loose_J1320 m_sy m_tx x2 x3 x4 x5 x6 x7 x8 x10 x11 true m_g m_gs K280 Q
def wp_M_loose_J710 (m_sy : Nat → Int32) (m_tx : Nat → Int32) (x2 : Int32) (x3 : Int32) (x4 : Int32) (x5 : Int32) (x6 : Bool) (x7 : Bool) (x8 : Bool) (x10 : Int32) (x11 : Int32) (m_g : Int64) (m_gs : Int32) (K280 : Int32 → Int32 → Int32 → Int32 → Bool → Bool → Bool → Bool → Int32 → Int64 → Int32 → Prop) (Q : Bool → (Int64 × Int32) → Prop) : Prop := vp_in (0 : Int32) 6 ∧ ((x11 = (m_sy (0 : Int32).toNatClampNeg) → (wp_M_loose_J1270 m_sy m_tx x2 x3 x4 x5 x6 x7 x8 x10 x11 m_g m_gs K280 Q)) ∧ (¬ x11 = (m_sy (0 : Int32).toNatClampNeg) → (vp_in (1 : Int32) 6 ∧ ((x11 = (m_sy (1 : Int32).toNatClampNeg) → (wp_M_loose_J1270 m_sy m_tx x2 x3 x4 x5 x6 x7 x8 x10 x11 m_g m_gs K280 Q)) ∧ (¬ x11 = (m_sy (1 : Int32).toNatClampNeg) → (vp_in (4 : Int32) 6 ∧ ((x11 = (m_sy (4 : Int32).toNatClampNeg) → (wp_M_loose_J1270 m_sy m_tx x2 x3 x4 x5 x6 x7 x8 x10 x11 m_g m_gs K280 Q)) ∧ (¬ x11 = (m_sy (4 : Int32).toNatClampNeg) → ((x7 = false → (wp_M_loose_J1310 m_sy m_tx x2 x3 x4 x5 x6 x7 x8 x10 x11 m_g m_gs K280 Q)) ∧ (x7 = true → (vp_in (2 : Int32) 6 ∧ ((x11 = (m_sy (2 : Int32).toNatClampNeg) → (wp_M_loose_J1270 m_sy m_tx x2 x3 x4 x5 x6 x7 x8 x10 x11 m_g m_gs K280 Q)) ∧ (¬ x11 = (m_sy (2 : Int32).toNatClampNeg) → ((¬ x11 = 43 → (wp_M_loose_J1310 m_sy m_tx x2 x3 x4 x5 x6 x7 x8 x10 x11 m_g m_gs K280 Q)) ∧ (x11 = 43 → (wp_M_loose_J1270 m_sy m_tx x2 x3 x4 x5 x6 x7 x8 x10 x11 m_g m_gs K280 Q))))))))))))))))
def wp_M_loose_L280 : Nat → (Nat → Int32) → (Nat → Int32) → Int32 → Int32 → Int32 → Int32 → Bool → Bool → Bool → Bool → Int32 → Int64 → Int32 → (Bool → (Int64 × Int32) → Prop) → Prop
  | 0, _, _, _, _, _, _, _, _, _, _, _, _, _, _ => False
  | n280 + 1, m_sy, m_tx, x2, x3, x4, x5, x6, x7, x8, x9, x10, m_g, m_gs, Q => (x2 ≤ x10 → (wp_M_loose_J2940 m_sy m_tx x3 x4 x5 x8 x9 m_g m_gs Q)) ∧ (¬ x2 ≤ x10 → ((x9 = false → (wp_M_loose_J2940 m_sy m_tx x3 x4 x5 x8 x9 m_g m_gs Q)) ∧ (x9 = true → (vp_in x10 400 ∧ (vp_in (5 : Int32) 6 ∧ ((((m_tx x10.toNatClampNeg) - (m_sy (5 : Int32).toNatClampNeg)) < 0 → (wp_M_loose_J710 m_sy m_tx x2 x3 x4 x5 x6 x7 x8 x10 (m_tx x10.toNatClampNeg) m_g m_gs (fun x2 x3 x4 x5 x6 x7 x8 x9 x10 m_g m_gs => wp_M_loose_L280 n280 m_sy m_tx x2 x3 x4 x5 x6 x7 x8 x9 x10 m_g m_gs Q) Q)) ∧ (¬ ((m_tx x10.toNatClampNeg) - (m_sy (5 : Int32).toNatClampNeg)) < 0 → ((((m_tx x10.toNatClampNeg) - (m_sy (5 : Int32).toNatClampNeg)) ≤ 9 → ((x7 = false → ((x6 = false → (wp_M_loose_J2480 m_sy m_tx x2 x4 x5 x6 x7 x8 x10 ((m_tx x10.toNatClampNeg) - (m_sy (5 : Int32).toNatClampNeg)) false x3 m_g m_gs (fun x2 x3 x4 x5 x6 x7 x8 x9 x10 m_g m_gs => wp_M_loose_L280 n280 m_sy m_tx x2 x3 x4 x5 x6 x7 x8 x9 x10 m_g m_gs Q) Q)) ∧ (x6 = true → (wp_M_loose_J2480 m_sy m_tx x2 x4 x5 x6 x7 x8 x10 ((m_tx x10.toNatClampNeg) - (m_sy (5 : Int32).toNatClampNeg)) true x3 m_g m_gs (fun x2 x3 x4 x5 x6 x7 x8 x9 x10 m_g m_gs => wp_M_loose_L280 n280 m_sy m_tx x2 x3 x4 x5 x6 x7 x8 x9 x10 m_g m_gs Q) Q)))) ∧ (x7 = true → ((x4 ≤ 1000 → (wp_M_loose_L280 n280 m_sy m_tx x2 x3 ((x4 * 10) + ((m_tx x10.toNatClampNeg) - (m_sy (5 : Int32).toNatClampNeg))) x5 x6 x7 x8 x9 (x10 + 1) m_g m_gs Q)) ∧ (¬ x4 ≤ 1000 → (wp_M_loose_L280 n280 m_sy m_tx x2 x3 x4 x5 x6 x7 x8 x9 (x10 + 1) m_g m_gs Q)))))) ∧ (¬ ((m_tx x10.toNatClampNeg) - (m_sy (5 : Int32).toNatClampNeg)) ≤ 9 → (wp_M_loose_J710 m_sy m_tx x2 x3 x4 x5 x6 x7 x8 x10 (m_tx x10.toNatClampNeg) m_g m_gs (fun x2 x3 x4 x5 x6 x7 x8 x9 x10 m_g m_gs => wp_M_loose_L280 n280 m_sy m_tx x2 x3 x4 x5 x6 x7 x8 x9 x10 m_g m_gs Q) Q))))))))))
def wp_M_loose (m_g : Int64) (m_gs : Int32) (m_sy : Nat → Int32) (m_tx : Nat → Int32) (fr : Int32) (to_ : Int32) (Q : Bool → (Int64 × Int32) → Prop) : Prop := ∃ n280, wp_M_loose_L280 n280 m_sy m_tx to_ 0 0 0 false false false true fr 0 m_gs Q
set_option maxHeartbeats 4000000 in
set_option maxRecDepth 100000 in
theorem c_M_loose (l : Launch) (D : va_G) (cA : ClassId) (mo mo_dr mo_now mo_first mo_has mo_da mo_dl mo_af mo_al mo_sy mo_dg mo_out mo_tx : Nat) (m_ds : Int32) (m_st : Int32) (m_sub : Int32) (m_q : Int32) (m_two : Bool) (m_least : Int32) (m_os : Int32) (m_ts : Int32) (m_fs : Int64) (m_fc : Int32) (m_g : Int64) (m_gs : Int32) (m_dr : Nat → Int32) (m_now : Nat → Int32) (m_first : Nat → Int32) (m_has : Nat → Int32) (m_da : Nat → Int32) (m_dl : Nat → Int32) (m_af : Nat → Int32) (m_al : Nat → Int32) (m_sy : Nat → Int32) (m_dg : Nat → Int32) (m_out : Nat → Int32) (m_tx : Nat → Int32) (fr : Int32) (to_ : Int32) (Q : Bool → (Int64 × Int32) → Prop) (hw : wp_M_loose m_g m_gs m_sy m_tx fr to_ Q) : ct_M vwCl l D [(cA, .int)] y_M_loose w_M_loose { frames := 1, cells := 0, slots := 0, locals := 23 } [.ref mo, .int fr, .int to_] (wd_Mo cA mo mo_dr mo_now mo_first mo_has mo_da mo_dl mo_af mo_al mo_sy mo_dg mo_out mo_tx m_ds m_st m_sub m_q m_two m_least m_os m_ts m_fs m_fc m_g m_gs m_dr m_now m_first m_has m_da m_dl m_af m_al m_sy m_dg m_out m_tx) (ct_qz vwCl D [(cA, .int)] Q (fun u => wd_Mo cA mo mo_dr mo_now mo_first mo_has mo_da mo_dl mo_af mo_al mo_sy mo_dg mo_out mo_tx m_ds m_st m_sub m_q m_two m_least m_os m_ts m_fs m_fc u.1 u.2 m_dr m_now m_first m_has m_da m_dl m_af m_al m_sy m_dg m_out m_tx)) := by
  refine ct_enter (cc := b_M_loose) (maxL := 13) (ret := (some .boolean)) (by decide) rfl (Nat.le_of_ble_eq_true rfl) ?_
  intro p e s m args below meth c A ls hx hb hr hlk hml hts hown hA hS hP hK hN hD hl
  have hl : lv_has ls 13 [(0, .ref mo), (1, .int fr), (2, .int to_)] := hl
  have htb : ∀ w ∈ tbl, w.before args s = true := fun w h => hts w (List.mem_cons_of_mem _ h)
  have hown : s.vm.findClass "DecimalPatternsModel" = some m.cls := hown
  unfold wp_M_loose at hw
  have hJ2940 : ∀ (x3 : Int32) (x4 : Int32) (x5 : Int32) (x8 : Bool) (x9 : Bool) (m_g : Int64) (m_gs : Int32) (H : Heap) (locs : List Loc) (ls : Array Slot), lv_has ls 13 [(0, .ref mo), (3, .int x3), (4, .int x4), (5, .int x5), (8, .int (bI x8)), (9, .int (bI x9))] → va_P D vwCl (wd_Mo cA mo mo_dr mo_now mo_first mo_has mo_da mo_dl mo_af mo_al mo_sy mo_dg mo_out mo_tx m_ds m_st m_sub m_q m_two m_least m_os m_ts m_fs m_fc m_g m_gs m_dr m_now m_first m_has m_da m_dl m_af m_al m_sy m_dg m_out m_tx) H → va_D A (wd_Mo cA mo mo_dr mo_now mo_first mo_has mo_da mo_dl mo_af mo_al mo_sy mo_dg mo_out mo_tx m_ds m_st m_sub m_q m_two m_least m_os m_ts m_fs m_fc m_g m_gs m_dr m_now m_first m_has m_da m_dl m_af m_al m_sy m_dg m_out m_tx) → va_S A s.heap H locs → wp_M_loose_J2940 m_sy m_tx x3 x4 x5 x8 x9 m_g m_gs Q → W p l e { frames := 1, cells := 0, slots := 0, locals := 23 } s m args below meth c H locs 0 0 (MQ below (ct_qz vwCl D [(cA, .int)] Q (fun u => wd_Mo cA mo mo_dr mo_now mo_first mo_has mo_da mo_dl mo_af mo_al mo_sy mo_dg mo_out mo_tx m_ds m_st m_sub m_q m_two m_least m_os m_ts m_fs m_fc u.1 u.2 m_dr m_now m_first m_has m_da m_dl m_af m_al m_sy m_dg m_out m_tx) A) args s 0 0 A) (F0 m 294 ls []) := by
    intro x3 x4 x5 x8 x9 m_g m_gs H locs ls hl hP hD hS hw
    unfold wp_M_loose_J2940 at hw
    refine lv_aload_n hx hb d_M_loose_294 rfl (lv_at hl 0 rfl) ?_
    refine lv_iload_n hx hb d_M_loose_295 rfl (lv_at hl 1 rfl) ?_
    refine lv_iload hx hb d_M_loose_296 (lv_at hl 3 rfl) ?_
    refine lv_iadd hx hb d_M_loose_298 ?_
    refine lv_iload hx hb d_M_loose_299 (lv_at hl 4 rfl) ?_
    refine lv_if_eq (tgt := 310) hx hb d_M_loose_301 rfl (fun hc => ?_) (fun hc => ?_)
    · have hw := hw.1 ((bI_0 _).mp hc)
      refine lv_iload hx hb d_M_loose_310 (lv_at hl 2 rfl) ?_
      refine lv_iadd hx hb d_M_loose_312 ?_
      refine lv_ineg hx hb d_M_loose_313 ?_
      refine va_put (ci := 9) (v := .int (-((x3 + x5) + x4))) (ty := .int) (C := R_Mo) (T := F_Mo) (N := 24) hx hb htb in_Mo t_Mo t_Mo_ok n_Mo hown hK hP hD hS 0 rfl rfl 23 (by decide) (htb _ tw719) (fun _ h9 => h9) rfl (by decide +kernel) rfl rfl (Nat.le_of_ble_eq_true rfl) d_M_loose_314 (fun H locs hP hD hS => ?_)
      have hP : va_P D vwCl (wd_Mo cA mo mo_dr mo_now mo_first mo_has mo_da mo_dl mo_af mo_al mo_sy mo_dg mo_out mo_tx m_ds m_st m_sub m_q m_two m_least m_os m_ts m_fs m_fc m_g (-((x3 + x5) + x4)) m_dr m_now m_first m_has m_da m_dl m_af m_al m_sy m_dg m_out m_tx) H := hP
      have hD : va_D A (wd_Mo cA mo mo_dr mo_now mo_first mo_has mo_da mo_dl mo_af mo_al mo_sy mo_dg mo_out mo_tx m_ds m_st m_sub m_q m_two m_least m_os m_ts m_fs m_fc m_g (-((x3 + x5) + x4)) m_dr m_now m_first m_has m_da m_dl m_af m_al m_sy m_dg m_out m_tx) := hD
      refine lv_iload hx hb d_M_loose_317 (lv_at hl 5 rfl) ?_
      exact ct_zret x9 hx hb hr hlk hK hS (m_g, -((x3 + x5) + x4)) hw hP hD d_M_loose_319
    · have hw := hw.2 ((bI_n0 _).mp hc)
      refine lv_iload hx hb d_M_loose_304 (lv_at hl 2 rfl) ?_
      refine lv_ineg hx hb d_M_loose_306 ?_
      refine lv_goto (tgt := 312) hx hb d_M_loose_307 rfl ?_
      refine lv_iadd hx hb d_M_loose_312 ?_
      refine lv_ineg hx hb d_M_loose_313 ?_
      refine va_put (ci := 9) (v := .int (-((x3 + x5) + (-x4)))) (ty := .int) (C := R_Mo) (T := F_Mo) (N := 24) hx hb htb in_Mo t_Mo t_Mo_ok n_Mo hown hK hP hD hS 0 rfl rfl 23 (by decide) (htb _ tw719) (fun _ h9 => h9) rfl (by decide +kernel) rfl rfl (Nat.le_of_ble_eq_true rfl) d_M_loose_314 (fun H locs hP hD hS => ?_)
      have hP : va_P D vwCl (wd_Mo cA mo mo_dr mo_now mo_first mo_has mo_da mo_dl mo_af mo_al mo_sy mo_dg mo_out mo_tx m_ds m_st m_sub m_q m_two m_least m_os m_ts m_fs m_fc m_g (-((x3 + x5) + (-x4))) m_dr m_now m_first m_has m_da m_dl m_af m_al m_sy m_dg m_out m_tx) H := hP
      have hD : va_D A (wd_Mo cA mo mo_dr mo_now mo_first mo_has mo_da mo_dl mo_af mo_al mo_sy mo_dg mo_out mo_tx m_ds m_st m_sub m_q m_two m_least m_os m_ts m_fs m_fc m_g (-((x3 + x5) + (-x4))) m_dr m_now m_first m_has m_da m_dl m_af m_al m_sy m_dg m_out m_tx) := hD
      refine lv_iload hx hb d_M_loose_317 (lv_at hl 5 rfl) ?_
      exact ct_zret x9 hx hb hr hlk hK hS (m_g, -((x3 + x5) + (-x4))) hw hP hD d_M_loose_319
  have hL280 : ∀ (n280 : Nat) (x2 : Int32) (x3 : Int32) (x4 : Int32) (x5 : Int32) (x6 : Bool) (x7 : Bool) (x8 : Bool) (x9 : Bool) (x10 : Int32) (m_g : Int64) (m_gs : Int32) (H : Heap) (locs : List Loc) (ls : Array Slot), lv_has ls 13 [(0, .ref mo), (2, .int x2), (3, .int x3), (4, .int x4), (5, .int x5), (6, .int (bI x6)), (7, .int (bI x7)), (8, .int (bI x8)), (9, .int (bI x9)), (10, .int x10)] → va_P D vwCl (wd_Mo cA mo mo_dr mo_now mo_first mo_has mo_da mo_dl mo_af mo_al mo_sy mo_dg mo_out mo_tx m_ds m_st m_sub m_q m_two m_least m_os m_ts m_fs m_fc m_g m_gs m_dr m_now m_first m_has m_da m_dl m_af m_al m_sy m_dg m_out m_tx) H → va_D A (wd_Mo cA mo mo_dr mo_now mo_first mo_has mo_da mo_dl mo_af mo_al mo_sy mo_dg mo_out mo_tx m_ds m_st m_sub m_q m_two m_least m_os m_ts m_fs m_fc m_g m_gs m_dr m_now m_first m_has m_da m_dl m_af m_al m_sy m_dg m_out m_tx) → va_S A s.heap H locs → wp_M_loose_L280 n280 m_sy m_tx x2 x3 x4 x5 x6 x7 x8 x9 x10 m_g m_gs Q → W p l e { frames := 1, cells := 0, slots := 0, locals := 23 } s m args below meth c H locs 0 0 (MQ below (ct_qz vwCl D [(cA, .int)] Q (fun u => wd_Mo cA mo mo_dr mo_now mo_first mo_has mo_da mo_dl mo_af mo_al mo_sy mo_dg mo_out mo_tx m_ds m_st m_sub m_q m_two m_least m_os m_ts m_fs m_fc u.1 u.2 m_dr m_now m_first m_has m_da m_dl m_af m_al m_sy m_dg m_out m_tx) A) args s 0 0 A) (F0 m 28 ls []) := by
    intro n280
    induction n280 with
    | zero => intro x2 x3 x4 x5 x6 x7 x8 x9 x10 m_g m_gs H locs ls hl hP hD hS hw; exact hw.elim
    | succ n280 ih280 =>
      have hJ2660 : ∀ (x2 : Int32) (x3 : Int32) (x4 : Int32) (x5 : Int32) (x6 : Bool) (x7 : Bool) (x8 : Bool) (x10 : Int32) (x12 : Int32) (m_g : Int64) (m_gs : Int32) (H : Heap) (locs : List Loc) (ls : Array Slot), lv_has ls 13 [(0, .ref mo), (2, .int x2), (3, .int x3), (4, .int x4), (5, .int x5), (6, .int (bI x6)), (7, .int (bI x7)), (8, .int (bI x8)), (10, .int x10), (12, .int x12)] → va_P D vwCl (wd_Mo cA mo mo_dr mo_now mo_first mo_has mo_da mo_dl mo_af mo_al mo_sy mo_dg mo_out mo_tx m_ds m_st m_sub m_q m_two m_least m_os m_ts m_fs m_fc m_g m_gs m_dr m_now m_first m_has m_da m_dl m_af m_al m_sy m_dg m_out m_tx) H → va_D A (wd_Mo cA mo mo_dr mo_now mo_first mo_has mo_da mo_dl mo_af mo_al mo_sy mo_dg mo_out mo_tx m_ds m_st m_sub m_q m_two m_least m_os m_ts m_fs m_fc m_g m_gs m_dr m_now m_first m_has m_da m_dl m_af m_al m_sy m_dg m_out m_tx) → va_S A s.heap H locs → wp_M_loose_J2660 m_sy m_tx x2 x3 x4 x5 x6 x7 x8 x10 x12 m_g m_gs (fun x2 x3 x4 x5 x6 x7 x8 x9 x10 m_g m_gs => wp_M_loose_L280 n280 m_sy m_tx x2 x3 x4 x5 x6 x7 x8 x9 x10 m_g m_gs Q) Q → W p l e { frames := 1, cells := 0, slots := 0, locals := 23 } s m args below meth c H locs 0 0 (MQ below (ct_qz vwCl D [(cA, .int)] Q (fun u => wd_Mo cA mo mo_dr mo_now mo_first mo_has mo_da mo_dl mo_af mo_al mo_sy mo_dg mo_out mo_tx m_ds m_st m_sub m_q m_two m_least m_os m_ts m_fs m_fc u.1 u.2 m_dr m_now m_first m_has m_da m_dl m_af m_al m_sy m_dg m_out m_tx) A) args s 0 0 A) (F0 m 266 ls []) := by
        intro x2 x3 x4 x5 x6 x7 x8 x10 x12 m_g m_gs H locs ls hl hP hD hS hw
        unfold wp_M_loose_J2660 at hw
        refine lv_iconst (v := 1) hx hb d_M_loose_266 (by decide) ?_
        refine lv_goto (tgt := 271) hx hb d_M_loose_267 rfl ?_
        refine lv_istore (lv' := [(9, .int 1), (0, .ref mo), (2, .int x2), (3, .int x3), (4, .int x4), (5, .int x5), (6, .int (bI x6)), (7, .int (bI x7)), (8, .int (bI x8)), (10, .int x10), (12, .int x12)]) hx hb d_M_loose_271 hl (by decide) rfl (fun ls hl => ?_)
        refine lv_iload hx hb d_M_loose_273 (lv_at hl 10 rfl) ?_
        refine lv_if_ne (tgt := 285) hx hb d_M_loose_275 rfl (fun hc => ?_) (fun hc => ?_)
        · have hw := hw.1 hc
          refine lv_iconst (v := 0) hx hb d_M_loose_285 (by decide) ?_
          refine lv_istore (lv' := [(5, .int 0), (9, .int 1), (0, .ref mo), (2, .int x2), (3, .int x3), (4, .int x4), (6, .int (bI x6)), (7, .int (bI x7)), (8, .int (bI x8)), (10, .int x10), (12, .int x12)]) hx hb d_M_loose_286 hl (by decide) rfl (fun ls hl => ?_)
          refine lv_iinc (k := 9) (v := x10 + 1) (lv' := [(10, .int (x10 + 1)), (5, .int 0), (9, .int 1), (0, .ref mo), (2, .int x2), (3, .int x3), (4, .int x4), (6, .int (bI x6)), (7, .int (bI x7)), (8, .int (bI x8)), (12, .int x12)]) hx hb d_M_loose_288 hl rfl (by rfl) (by decide) rfl (fun ls hl => ?_)
          refine lv_goto (tgt := 28) hx hb d_M_loose_291 rfl ?_
          exact ih280 x2 x3 x4 0 x6 x7 x8 true (x10 + 1) m_g m_gs _ _ _ (lv_sub hl [3, 4, 5, 6, 1, 7, 8, 9, 2, 0] rfl) hP hD hS hw
        · have hw := hw.2 hc
          refine lv_iload hx hb d_M_loose_278 (lv_at hl 5 rfl) ?_
          refine lv_iconst (v := 1) hx hb d_M_loose_280 (by decide) ?_
          refine lv_iadd hx hb d_M_loose_281 ?_
          refine lv_goto (tgt := 286) hx hb d_M_loose_282 rfl ?_
          refine lv_istore (lv' := [(5, .int (x5 + 1)), (9, .int 1), (0, .ref mo), (2, .int x2), (3, .int x3), (4, .int x4), (6, .int (bI x6)), (7, .int (bI x7)), (8, .int (bI x8)), (10, .int x10), (12, .int x12)]) hx hb d_M_loose_286 hl (by decide) rfl (fun ls hl => ?_)
          refine lv_iinc (k := 9) (v := x10 + 1) (lv' := [(10, .int (x10 + 1)), (5, .int (x5 + 1)), (9, .int 1), (0, .ref mo), (2, .int x2), (3, .int x3), (4, .int x4), (6, .int (bI x6)), (7, .int (bI x7)), (8, .int (bI x8)), (12, .int x12)]) hx hb d_M_loose_288 hl rfl (by rfl) (by decide) rfl (fun ls hl => ?_)
          refine lv_goto (tgt := 28) hx hb d_M_loose_291 rfl ?_
          exact ih280 x2 x3 x4 (x5 + 1) x6 x7 x8 true (x10 + 1) m_g m_gs _ _ _ (lv_sub hl [3, 4, 5, 6, 1, 7, 8, 9, 2, 0] rfl) hP hD hS hw
      have hJ2480 : ∀ (x2 : Int32) (x4 : Int32) (x5 : Int32) (x6 : Bool) (x7 : Bool) (x8 : Bool) (x10 : Int32) (x12 : Int32) (y0 : Bool) (y1 : Int32) (m_g : Int64) (m_gs : Int32) (H : Heap) (locs : List Loc) (ls : Array Slot), lv_has ls 13 [(0, .ref mo), (2, .int x2), (4, .int x4), (5, .int x5), (6, .int (bI x6)), (7, .int (bI x7)), (8, .int (bI x8)), (10, .int x10), (12, .int x12)] → va_P D vwCl (wd_Mo cA mo mo_dr mo_now mo_first mo_has mo_da mo_dl mo_af mo_al mo_sy mo_dg mo_out mo_tx m_ds m_st m_sub m_q m_two m_least m_os m_ts m_fs m_fc m_g m_gs m_dr m_now m_first m_has m_da m_dl m_af m_al m_sy m_dg m_out m_tx) H → va_D A (wd_Mo cA mo mo_dr mo_now mo_first mo_has mo_da mo_dl mo_af mo_al mo_sy mo_dg mo_out mo_tx m_ds m_st m_sub m_q m_two m_least m_os m_ts m_fs m_fc m_g m_gs m_dr m_now m_first m_has m_da m_dl m_af m_al m_sy m_dg m_out m_tx) → va_S A s.heap H locs → wp_M_loose_J2480 m_sy m_tx x2 x4 x5 x6 x7 x8 x10 x12 y0 y1 m_g m_gs (fun x2 x3 x4 x5 x6 x7 x8 x9 x10 m_g m_gs => wp_M_loose_L280 n280 m_sy m_tx x2 x3 x4 x5 x6 x7 x8 x9 x10 m_g m_gs Q) Q → W p l e { frames := 1, cells := 0, slots := 0, locals := 23 } s m args below meth c H locs 0 0 (MQ below (ct_qz vwCl D [(cA, .int)] Q (fun u => wd_Mo cA mo mo_dr mo_now mo_first mo_has mo_da mo_dl mo_af mo_al mo_sy mo_dg mo_out mo_tx m_ds m_st m_sub m_q m_two m_least m_os m_ts m_fs m_fc u.1 u.2 m_dr m_now m_first m_has m_da m_dl m_af m_al m_sy m_dg m_out m_tx) A) args s 0 0 A) (F0 m 248 ls [.int (bI y0), .int y1]) := by
        intro x2 x4 x5 x6 x7 x8 x10 x12 y0 y1 m_g m_gs H locs ls hl hP hD hS hw
        unfold wp_M_loose_J2480 at hw
        refine lv_isub hx hb d_M_loose_248 ?_
        refine lv_istore_n (lv' := [(3, .int (y1 - (bI y0))), (0, .ref mo), (2, .int x2), (4, .int x4), (5, .int x5), (6, .int (bI x6)), (7, .int (bI x7)), (8, .int (bI x8)), (10, .int x10), (12, .int x12)]) hx hb d_M_loose_249 rfl hl (by decide) rfl (fun ls hl => ?_)
        refine lv_iload hx hb d_M_loose_250 (lv_at hl 9 rfl) ?_
        refine lv_if_eq (tgt := 266) hx hb d_M_loose_252 rfl (fun hc => ?_) (fun hc => ?_)
        · have hw := hw.1 hc
          exact hJ2660 x2 (y1 - (bI y0)) x4 x5 x6 x7 x8 x10 x12 m_g m_gs _ _ _ (lv_sub hl [1, 2, 0, 3, 4, 5, 6, 7, 8, 9] rfl) hP hD hS hw
        · have hw := hw.2 hc
          refine lv_aload_n hx hb d_M_loose_255 rfl (lv_at hl 1 rfl) ?_
          refine lv_iload hx hb d_M_loose_256 (lv_at hl 4 rfl) ?_
          refine lv_iload hx hb d_M_loose_258 (lv_at hl 9 rfl) ?_
          refine ct_callz (wn := fun u2 => wd_Mo cA mo mo_dr mo_now mo_first mo_has mo_da mo_dl mo_af mo_al mo_sy mo_dg mo_out mo_tx m_ds m_st m_sub m_q m_two m_least m_os m_ts m_fs m_fc u2 m_gs m_dr m_now m_first m_has m_da m_dl m_af m_al m_sy m_dg m_out m_tx) (va_runV (As := [.int x5, .int x12]) (rest := []) ⟨hx, hb, hml, hown, htb⟩ (c_M_push l D cA mo mo_dr mo_now mo_first mo_has mo_da mo_dl mo_af mo_al mo_sy mo_dg mo_out mo_tx m_ds m_st m_sub m_q m_two m_least m_os m_ts m_fs m_fc m_g m_gs m_dr m_now m_first m_has m_da m_dl m_af m_al m_sy m_dg m_out m_tx x5 x12 _ hw _) (ct_cwV 2 htb tw934 rfl rfl tw82 tw931 tw933 tw68 hd_M_push ⟨by decide, by decide⟩) (ct_preV hP hD hK hN [0, 1, 2, 3, 4, 5, 6, 7, 8, 9, 10, 11, 12] rfl (by decide) 0 rfl rfl _) rfl rfl hl.1 rfl (lv_room (Nat.le_of_ble_eq_true rfl)) d_M_loose_260 ⟨Nat.zero_le _, Nat.zero_le _⟩) hP hD hS hA [0, 1, 2, 3, 4, 5, 6, 7, 8, 9, 10, 11, 12] [] [0, 1, 2, 3, 4, 5, 6, 7, 8, 9, 10, 11, 12] rfl rfl (by decide) (by decide) (fun _ => rfl) (by decide) (fun r1 u2 H locs hw hP hD hS => ?_)
          have hP : va_P D vwCl (wd_Mo cA mo mo_dr mo_now mo_first mo_has mo_da mo_dl mo_af mo_al mo_sy mo_dg mo_out mo_tx m_ds m_st m_sub m_q m_two m_least m_os m_ts m_fs m_fc u2 m_gs m_dr m_now m_first m_has m_da m_dl m_af m_al m_sy m_dg m_out m_tx) H := hP
          have hD : va_D A (wd_Mo cA mo mo_dr mo_now mo_first mo_has mo_da mo_dl mo_af mo_al mo_sy mo_dg mo_out mo_tx m_ds m_st m_sub m_q m_two m_least m_os m_ts m_fs m_fc u2 m_gs m_dr m_now m_first m_has m_da m_dl m_af m_al m_sy m_dg m_out m_tx) := hD
          refine lv_if_eq (tgt := 270) hx hb d_M_loose_263 rfl (fun hc => ?_) (fun hc => ?_)
          · have hw := hw.1 ((bI_0 _).mp hc)
            refine lv_iconst (v := 0) hx hb d_M_loose_270 (by decide) ?_
            refine lv_istore (lv' := [(9, .int 0), (3, .int (y1 - (bI y0))), (0, .ref mo), (2, .int x2), (4, .int x4), (5, .int x5), (6, .int (bI x6)), (7, .int (bI x7)), (8, .int (bI x8)), (10, .int x10), (12, .int x12)]) hx hb d_M_loose_271 hl (by decide) rfl (fun ls hl => ?_)
            refine lv_iload hx hb d_M_loose_273 (lv_at hl 10 rfl) ?_
            refine lv_if_ne (tgt := 285) hx hb d_M_loose_275 rfl (fun hc => ?_) (fun hc => ?_)
            · have hw := hw.1 hc
              refine lv_iconst (v := 0) hx hb d_M_loose_285 (by decide) ?_
              refine lv_istore (lv' := [(5, .int 0), (9, .int 0), (3, .int (y1 - (bI y0))), (0, .ref mo), (2, .int x2), (4, .int x4), (6, .int (bI x6)), (7, .int (bI x7)), (8, .int (bI x8)), (10, .int x10), (12, .int x12)]) hx hb d_M_loose_286 hl (by decide) rfl (fun ls hl => ?_)
              refine lv_iinc (k := 9) (v := x10 + 1) (lv' := [(10, .int (x10 + 1)), (5, .int 0), (9, .int 0), (3, .int (y1 - (bI y0))), (0, .ref mo), (2, .int x2), (4, .int x4), (6, .int (bI x6)), (7, .int (bI x7)), (8, .int (bI x8)), (12, .int x12)]) hx hb d_M_loose_288 hl rfl (by rfl) (by decide) rfl (fun ls hl => ?_)
              refine lv_goto (tgt := 28) hx hb d_M_loose_291 rfl ?_
              exact ih280 x2 (y1 - (bI y0)) x4 0 x6 x7 x8 false (x10 + 1) u2 m_gs _ _ _ (lv_sub hl [4, 5, 3, 6, 1, 7, 8, 9, 2, 0] rfl) hP hD hS hw
            · have hw := hw.2 hc
              refine lv_iload hx hb d_M_loose_278 (lv_at hl 5 rfl) ?_
              refine lv_iconst (v := 1) hx hb d_M_loose_280 (by decide) ?_
              refine lv_iadd hx hb d_M_loose_281 ?_
              refine lv_goto (tgt := 286) hx hb d_M_loose_282 rfl ?_
              refine lv_istore (lv' := [(5, .int (x5 + 1)), (9, .int 0), (3, .int (y1 - (bI y0))), (0, .ref mo), (2, .int x2), (4, .int x4), (6, .int (bI x6)), (7, .int (bI x7)), (8, .int (bI x8)), (10, .int x10), (12, .int x12)]) hx hb d_M_loose_286 hl (by decide) rfl (fun ls hl => ?_)
              refine lv_iinc (k := 9) (v := x10 + 1) (lv' := [(10, .int (x10 + 1)), (5, .int (x5 + 1)), (9, .int 0), (3, .int (y1 - (bI y0))), (0, .ref mo), (2, .int x2), (4, .int x4), (6, .int (bI x6)), (7, .int (bI x7)), (8, .int (bI x8)), (12, .int x12)]) hx hb d_M_loose_288 hl rfl (by rfl) (by decide) rfl (fun ls hl => ?_)
              refine lv_goto (tgt := 28) hx hb d_M_loose_291 rfl ?_
              exact ih280 x2 (y1 - (bI y0)) x4 (x5 + 1) x6 x7 x8 false (x10 + 1) u2 m_gs _ _ _ (lv_sub hl [4, 5, 3, 6, 1, 7, 8, 9, 2, 0] rfl) hP hD hS hw
          · have hw := hw.2 ((bI_n0 _).mp hc)
            exact hJ2660 x2 (y1 - (bI y0)) x4 x5 x6 x7 x8 x10 x12 u2 m_gs _ _ _ (lv_sub hl [1, 2, 0, 3, 4, 5, 6, 7, 8, 9] rfl) hP hD hS hw
      have hJ1780 : ∀ (x2 : Int32) (x3 : Int32) (x4 : Int32) (x5 : Int32) (x6 : Bool) (x8 : Bool) (x9 : Bool) (x10 : Int32) (x11 : Int32) (y0 : Bool) (m_g : Int64) (m_gs : Int32) (H : Heap) (locs : List Loc) (ls : Array Slot), lv_has ls 13 [(0, .ref mo), (2, .int x2), (3, .int x3), (4, .int x4), (5, .int x5), (6, .int (bI x6)), (8, .int (bI x8)), (9, .int (bI x9)), (10, .int x10), (11, .int x11)] → va_P D vwCl (wd_Mo cA mo mo_dr mo_now mo_first mo_has mo_da mo_dl mo_af mo_al mo_sy mo_dg mo_out mo_tx m_ds m_st m_sub m_q m_two m_least m_os m_ts m_fs m_fc m_g m_gs m_dr m_now m_first m_has m_da m_dl m_af m_al m_sy m_dg m_out m_tx) H → va_D A (wd_Mo cA mo mo_dr mo_now mo_first mo_has mo_da mo_dl mo_af mo_al mo_sy mo_dg mo_out mo_tx m_ds m_st m_sub m_q m_two m_least m_os m_ts m_fs m_fc m_g m_gs m_dr m_now m_first m_has m_da m_dl m_af m_al m_sy m_dg m_out m_tx) → va_S A s.heap H locs → wp_M_loose_J1780 m_sy m_tx x2 x3 x4 x5 x6 x8 x9 x10 x11 y0 m_g m_gs (fun x2 x3 x4 x5 x6 x7 x8 x9 x10 m_g m_gs => wp_M_loose_L280 n280 m_sy m_tx x2 x3 x4 x5 x6 x7 x8 x9 x10 m_g m_gs Q) Q → W p l e { frames := 1, cells := 0, slots := 0, locals := 23 } s m args below meth c H locs 0 0 (MQ below (ct_qz vwCl D [(cA, .int)] Q (fun u => wd_Mo cA mo mo_dr mo_now mo_first mo_has mo_da mo_dl mo_af mo_al mo_sy mo_dg mo_out mo_tx m_ds m_st m_sub m_q m_two m_least m_os m_ts m_fs m_fc u.1 u.2 m_dr m_now m_first m_has m_da m_dl m_af m_al m_sy m_dg m_out m_tx) A) args s 0 0 A) (F0 m 178 ls [.int (bI y0)]) := by
        intro x2 x3 x4 x5 x6 x8 x9 x10 x11 y0 m_g m_gs H locs ls hl hP hD hS hw
        unfold wp_M_loose_J1780 at hw
        refine lv_istore (lv' := [(7, .int (bI y0)), (0, .ref mo), (2, .int x2), (3, .int x3), (4, .int x4), (5, .int x5), (6, .int (bI x6)), (8, .int (bI x8)), (9, .int (bI x9)), (10, .int x10), (11, .int x11)]) hx hb d_M_loose_178 hl (by decide) rfl (fun ls hl => ?_)
        refine lv_iload hx hb d_M_loose_180 (lv_at hl 7 rfl) ?_
        refine lv_if_ne (tgt := 196) hx hb d_M_loose_182 rfl (fun hc => ?_) (fun hc => ?_)
        · have hw := hw.1 ((bI_n0 _).mp hc)
          refine lv_iconst (v := 1) hx hb d_M_loose_196 (by decide) ?_
          refine lv_goto (tgt := 201) hx hb d_M_loose_197 rfl ?_
          refine lv_istore (lv' := [(8, .int 1), (7, .int (bI y0)), (0, .ref mo), (2, .int x2), (3, .int x3), (4, .int x4), (5, .int x5), (6, .int (bI x6)), (9, .int (bI x9)), (10, .int x10), (11, .int x11)]) hx hb d_M_loose_201 hl (by decide) rfl (fun ls hl => ?_)
          refine lv_goto (tgt := 288) hx hb d_M_loose_203 rfl ?_
          refine lv_iinc (k := 9) (v := x10 + 1) (lv' := [(10, .int (x10 + 1)), (8, .int 1), (7, .int (bI y0)), (0, .ref mo), (2, .int x2), (3, .int x3), (4, .int x4), (5, .int x5), (6, .int (bI x6)), (9, .int (bI x9)), (11, .int x11)]) hx hb d_M_loose_288 hl rfl (by rfl) (by decide) rfl (fun ls hl => ?_)
          refine lv_goto (tgt := 28) hx hb d_M_loose_291 rfl ?_
          exact ih280 x2 x3 x4 x5 x6 y0 true x9 (x10 + 1) m_g m_gs _ _ _ (lv_sub hl [3, 4, 5, 6, 7, 8, 2, 1, 9, 0] rfl) hP hD hS hw
        · have hw := hw.2 ((bI_0 _).mp hc)
          refine lv_iload hx hb d_M_loose_185 (lv_at hl 10 rfl) ?_
          refine lv_aload_n hx hb d_M_loose_187 rfl (lv_at hl 1 rfl) ?_
          refine va_get (ci := 9) (C := R_Mo) (T := F_Mo) (N := 24) hx hb htb in_Mo hown hK hP 0 rfl rfl 13 (by decide) (htb _ tw709) (fun _ h9 => h9) rfl d_M_loose_188 ?_
          refine lv_iconst (v := 2) hx hb d_M_loose_191 (by decide) ?_
          have hi := hw.1
          have hw := hw.2
          refine va_iald hx hb hK hP 9 0 rfl rfl hi d_M_loose_192 ?_
          refine lv_icmp_ne (tgt := 200) hx hb d_M_loose_193 rfl (fun hc => ?_) (fun hc => ?_)
          · have hw := hw.1 hc
            refine lv_iconst (v := 0) hx hb d_M_loose_200 (by decide) ?_
            refine lv_istore (lv' := [(8, .int 0), (7, .int (bI y0)), (0, .ref mo), (2, .int x2), (3, .int x3), (4, .int x4), (5, .int x5), (6, .int (bI x6)), (9, .int (bI x9)), (10, .int x10), (11, .int x11)]) hx hb d_M_loose_201 hl (by decide) rfl (fun ls hl => ?_)
            refine lv_goto (tgt := 288) hx hb d_M_loose_203 rfl ?_
            refine lv_iinc (k := 9) (v := x10 + 1) (lv' := [(10, .int (x10 + 1)), (8, .int 0), (7, .int (bI y0)), (0, .ref mo), (2, .int x2), (3, .int x3), (4, .int x4), (5, .int x5), (6, .int (bI x6)), (9, .int (bI x9)), (11, .int x11)]) hx hb d_M_loose_288 hl rfl (by rfl) (by decide) rfl (fun ls hl => ?_)
            refine lv_goto (tgt := 28) hx hb d_M_loose_291 rfl ?_
            exact ih280 x2 x3 x4 x5 x6 y0 false x9 (x10 + 1) m_g m_gs _ _ _ (lv_sub hl [3, 4, 5, 6, 7, 8, 2, 1, 9, 0] rfl) hP hD hS hw
          · have hw := hw.2 hc
            refine lv_iconst (v := 1) hx hb d_M_loose_196 (by decide) ?_
            refine lv_goto (tgt := 201) hx hb d_M_loose_197 rfl ?_
            refine lv_istore (lv' := [(8, .int 1), (7, .int (bI y0)), (0, .ref mo), (2, .int x2), (3, .int x3), (4, .int x4), (5, .int x5), (6, .int (bI x6)), (9, .int (bI x9)), (10, .int x10), (11, .int x11)]) hx hb d_M_loose_201 hl (by decide) rfl (fun ls hl => ?_)
            refine lv_goto (tgt := 288) hx hb d_M_loose_203 rfl ?_
            refine lv_iinc (k := 9) (v := x10 + 1) (lv' := [(10, .int (x10 + 1)), (8, .int 1), (7, .int (bI y0)), (0, .ref mo), (2, .int x2), (3, .int x3), (4, .int x4), (5, .int x5), (6, .int (bI x6)), (9, .int (bI x9)), (11, .int x11)]) hx hb d_M_loose_288 hl rfl (by rfl) (by decide) rfl (fun ls hl => ?_)
            refine lv_goto (tgt := 28) hx hb d_M_loose_291 rfl ?_
            exact ih280 x2 x3 x4 x5 x6 y0 true x9 (x10 + 1) m_g m_gs _ _ _ (lv_sub hl [3, 4, 5, 6, 7, 8, 2, 1, 9, 0] rfl) hP hD hS hw
      have hJ1730 : ∀ (x2 : Int32) (x3 : Int32) (x4 : Int32) (x5 : Int32) (x6 : Bool) (x8 : Bool) (x9 : Bool) (x10 : Int32) (x11 : Int32) (m_g : Int64) (m_gs : Int32) (H : Heap) (locs : List Loc) (ls : Array Slot), lv_has ls 13 [(0, .ref mo), (2, .int x2), (3, .int x3), (4, .int x4), (5, .int x5), (6, .int (bI x6)), (8, .int (bI x8)), (9, .int (bI x9)), (10, .int x10), (11, .int x11)] → va_P D vwCl (wd_Mo cA mo mo_dr mo_now mo_first mo_has mo_da mo_dl mo_af mo_al mo_sy mo_dg mo_out mo_tx m_ds m_st m_sub m_q m_two m_least m_os m_ts m_fs m_fc m_g m_gs m_dr m_now m_first m_has m_da m_dl m_af m_al m_sy m_dg m_out m_tx) H → va_D A (wd_Mo cA mo mo_dr mo_now mo_first mo_has mo_da mo_dl mo_af mo_al mo_sy mo_dg mo_out mo_tx m_ds m_st m_sub m_q m_two m_least m_os m_ts m_fs m_fc m_g m_gs m_dr m_now m_first m_has m_da m_dl m_af m_al m_sy m_dg m_out m_tx) → va_S A s.heap H locs → wp_M_loose_J1730 m_sy m_tx x2 x3 x4 x5 x6 x8 x9 x10 x11 m_g m_gs (fun x2 x3 x4 x5 x6 x7 x8 x9 x10 m_g m_gs => wp_M_loose_L280 n280 m_sy m_tx x2 x3 x4 x5 x6 x7 x8 x9 x10 m_g m_gs Q) Q → W p l e { frames := 1, cells := 0, slots := 0, locals := 23 } s m args below meth c H locs 0 0 (MQ below (ct_qz vwCl D [(cA, .int)] Q (fun u => wd_Mo cA mo mo_dr mo_now mo_first mo_has mo_da mo_dl mo_af mo_al mo_sy mo_dg mo_out mo_tx m_ds m_st m_sub m_q m_two m_least m_os m_ts m_fs m_fc u.1 u.2 m_dr m_now m_first m_has m_da m_dl m_af m_al m_sy m_dg m_out m_tx) A) args s 0 0 A) (F0 m 173 ls []) := by
        intro x2 x3 x4 x5 x6 x8 x9 x10 x11 m_g m_gs H locs ls hl hP hD hS hw
        unfold wp_M_loose_J1730 at hw
        refine lv_iconst (v := 1) hx hb d_M_loose_173 (by decide) ?_
        refine lv_goto (tgt := 178) hx hb d_M_loose_174 rfl ?_
        exact hJ1780 x2 x3 x4 x5 x6 x8 x9 x10 x11 true m_g m_gs _ _ _ (lv_sub hl [0, 1, 2, 3, 4, 5, 6, 7, 8, 9] rfl) hP hD hS hw
      have hJ1550 : ∀ (x2 : Int32) (x3 : Int32) (x4 : Int32) (x5 : Int32) (x7 : Bool) (x8 : Bool) (x9 : Bool) (x10 : Int32) (x11 : Int32) (y0 : Bool) (m_g : Int64) (m_gs : Int32) (H : Heap) (locs : List Loc) (ls : Array Slot), lv_has ls 13 [(0, .ref mo), (2, .int x2), (3, .int x3), (4, .int x4), (5, .int x5), (7, .int (bI x7)), (8, .int (bI x8)), (9, .int (bI x9)), (10, .int x10), (11, .int x11)] → va_P D vwCl (wd_Mo cA mo mo_dr mo_now mo_first mo_has mo_da mo_dl mo_af mo_al mo_sy mo_dg mo_out mo_tx m_ds m_st m_sub m_q m_two m_least m_os m_ts m_fs m_fc m_g m_gs m_dr m_now m_first m_has m_da m_dl m_af m_al m_sy m_dg m_out m_tx) H → va_D A (wd_Mo cA mo mo_dr mo_now mo_first mo_has mo_da mo_dl mo_af mo_al mo_sy mo_dg mo_out mo_tx m_ds m_st m_sub m_q m_two m_least m_os m_ts m_fs m_fc m_g m_gs m_dr m_now m_first m_has m_da m_dl m_af m_al m_sy m_dg m_out m_tx) → va_S A s.heap H locs → wp_M_loose_J1550 m_sy m_tx x2 x3 x4 x5 x7 x8 x9 x10 x11 y0 m_g m_gs (fun x2 x3 x4 x5 x6 x7 x8 x9 x10 m_g m_gs => wp_M_loose_L280 n280 m_sy m_tx x2 x3 x4 x5 x6 x7 x8 x9 x10 m_g m_gs Q) Q → W p l e { frames := 1, cells := 0, slots := 0, locals := 23 } s m args below meth c H locs 0 0 (MQ below (ct_qz vwCl D [(cA, .int)] Q (fun u => wd_Mo cA mo mo_dr mo_now mo_first mo_has mo_da mo_dl mo_af mo_al mo_sy mo_dg mo_out mo_tx m_ds m_st m_sub m_q m_two m_least m_os m_ts m_fs m_fc u.1 u.2 m_dr m_now m_first m_has m_da m_dl m_af m_al m_sy m_dg m_out m_tx) A) args s 0 0 A) (F0 m 155 ls [.int (bI y0)]) := by
        intro x2 x3 x4 x5 x7 x8 x9 x10 x11 y0 m_g m_gs H locs ls hl hP hD hS hw
        unfold wp_M_loose_J1550 at hw
        refine lv_istore (lv' := [(6, .int (bI y0)), (0, .ref mo), (2, .int x2), (3, .int x3), (4, .int x4), (5, .int x5), (7, .int (bI x7)), (8, .int (bI x8)), (9, .int (bI x9)), (10, .int x10), (11, .int x11)]) hx hb d_M_loose_155 hl (by decide) rfl (fun ls hl => ?_)
        refine lv_iload hx hb d_M_loose_157 (lv_at hl 6 rfl) ?_
        refine lv_if_ne (tgt := 173) hx hb d_M_loose_159 rfl (fun hc => ?_) (fun hc => ?_)
        · have hw := hw.1 ((bI_n0 _).mp hc)
          exact hJ1730 x2 x3 x4 x5 y0 x8 x9 x10 x11 m_g m_gs _ _ _ (lv_sub hl [1, 2, 3, 4, 5, 0, 7, 8, 9, 10] rfl) hP hD hS hw
        · have hw := hw.2 ((bI_0 _).mp hc)
          refine lv_iload hx hb d_M_loose_162 (lv_at hl 10 rfl) ?_
          refine lv_aload_n hx hb d_M_loose_164 rfl (lv_at hl 1 rfl) ?_
          refine va_get (ci := 9) (C := R_Mo) (T := F_Mo) (N := 24) hx hb htb in_Mo hown hK hP 0 rfl rfl 13 (by decide) (htb _ tw709) (fun _ h9 => h9) rfl d_M_loose_165 ?_
          refine lv_iconst (v := 4) hx hb d_M_loose_168 (by decide) ?_
          have hi := hw.1
          have hw := hw.2
          refine va_iald hx hb hK hP 9 0 rfl rfl hi d_M_loose_169 ?_
          refine lv_icmp_ne (tgt := 177) hx hb d_M_loose_170 rfl (fun hc => ?_) (fun hc => ?_)
          · have hw := hw.1 hc
            refine lv_iconst (v := 0) hx hb d_M_loose_177 (by decide) ?_
            exact hJ1780 x2 x3 x4 x5 y0 x8 x9 x10 x11 false m_g m_gs _ _ _ (lv_sub hl [1, 2, 3, 4, 5, 0, 7, 8, 9, 10] rfl) hP hD hS hw
          · have hw := hw.2 hc
            exact hJ1730 x2 x3 x4 x5 y0 x8 x9 x10 x11 m_g m_gs _ _ _ (lv_sub hl [1, 2, 3, 4, 5, 0, 7, 8, 9, 10] rfl) hP hD hS hw
      have hJ1500 : ∀ (x2 : Int32) (x3 : Int32) (x4 : Int32) (x5 : Int32) (x7 : Bool) (x8 : Bool) (x9 : Bool) (x10 : Int32) (x11 : Int32) (m_g : Int64) (m_gs : Int32) (H : Heap) (locs : List Loc) (ls : Array Slot), lv_has ls 13 [(0, .ref mo), (2, .int x2), (3, .int x3), (4, .int x4), (5, .int x5), (7, .int (bI x7)), (8, .int (bI x8)), (9, .int (bI x9)), (10, .int x10), (11, .int x11)] → va_P D vwCl (wd_Mo cA mo mo_dr mo_now mo_first mo_has mo_da mo_dl mo_af mo_al mo_sy mo_dg mo_out mo_tx m_ds m_st m_sub m_q m_two m_least m_os m_ts m_fs m_fc m_g m_gs m_dr m_now m_first m_has m_da m_dl m_af m_al m_sy m_dg m_out m_tx) H → va_D A (wd_Mo cA mo mo_dr mo_now mo_first mo_has mo_da mo_dl mo_af mo_al mo_sy mo_dg mo_out mo_tx m_ds m_st m_sub m_q m_two m_least m_os m_ts m_fs m_fc m_g m_gs m_dr m_now m_first m_has m_da m_dl m_af m_al m_sy m_dg m_out m_tx) → va_S A s.heap H locs → wp_M_loose_J1500 m_sy m_tx x2 x3 x4 x5 x7 x8 x9 x10 x11 m_g m_gs (fun x2 x3 x4 x5 x6 x7 x8 x9 x10 m_g m_gs => wp_M_loose_L280 n280 m_sy m_tx x2 x3 x4 x5 x6 x7 x8 x9 x10 m_g m_gs Q) Q → W p l e { frames := 1, cells := 0, slots := 0, locals := 23 } s m args below meth c H locs 0 0 (MQ below (ct_qz vwCl D [(cA, .int)] Q (fun u => wd_Mo cA mo mo_dr mo_now mo_first mo_has mo_da mo_dl mo_af mo_al mo_sy mo_dg mo_out mo_tx m_ds m_st m_sub m_q m_two m_least m_os m_ts m_fs m_fc u.1 u.2 m_dr m_now m_first m_has m_da m_dl m_af m_al m_sy m_dg m_out m_tx) A) args s 0 0 A) (F0 m 150 ls []) := by
        intro x2 x3 x4 x5 x7 x8 x9 x10 x11 m_g m_gs H locs ls hl hP hD hS hw
        unfold wp_M_loose_J1500 at hw
        refine lv_iconst (v := 1) hx hb d_M_loose_150 (by decide) ?_
        refine lv_goto (tgt := 155) hx hb d_M_loose_151 rfl ?_
        exact hJ1550 x2 x3 x4 x5 x7 x8 x9 x10 x11 true m_g m_gs _ _ _ (lv_sub hl [0, 1, 2, 3, 4, 5, 6, 7, 8, 9] rfl) hP hD hS hw
      have hJ1320 : ∀ (x2 : Int32) (x3 : Int32) (x4 : Int32) (x5 : Int32) (x6 : Bool) (x7 : Bool) (x8 : Bool) (x10 : Int32) (x11 : Int32) (y0 : Bool) (m_g : Int64) (m_gs : Int32) (H : Heap) (locs : List Loc) (ls : Array Slot), lv_has ls 13 [(0, .ref mo), (2, .int x2), (3, .int x3), (4, .int x4), (5, .int x5), (6, .int (bI x6)), (7, .int (bI x7)), (8, .int (bI x8)), (10, .int x10), (11, .int x11)] → va_P D vwCl (wd_Mo cA mo mo_dr mo_now mo_first mo_has mo_da mo_dl mo_af mo_al mo_sy mo_dg mo_out mo_tx m_ds m_st m_sub m_q m_two m_least m_os m_ts m_fs m_fc m_g m_gs m_dr m_now m_first m_has m_da m_dl m_af m_al m_sy m_dg m_out m_tx) H → va_D A (wd_Mo cA mo mo_dr mo_now mo_first mo_has mo_da mo_dl mo_af mo_al mo_sy mo_dg mo_out mo_tx m_ds m_st m_sub m_q m_two m_least m_os m_ts m_fs m_fc m_g m_gs m_dr m_now m_first m_has m_da m_dl m_af m_al m_sy m_dg m_out m_tx) → va_S A s.heap H locs → wp_M_loose_J1320 m_sy m_tx x2 x3 x4 x5 x6 x7 x8 x10 x11 y0 m_g m_gs (fun x2 x3 x4 x5 x6 x7 x8 x9 x10 m_g m_gs => wp_M_loose_L280 n280 m_sy m_tx x2 x3 x4 x5 x6 x7 x8 x9 x10 m_g m_gs Q) Q → W p l e { frames := 1, cells := 0, slots := 0, locals := 23 } s m args below meth c H locs 0 0 (MQ below (ct_qz vwCl D [(cA, .int)] Q (fun u => wd_Mo cA mo mo_dr mo_now mo_first mo_has mo_da mo_dl mo_af mo_al mo_sy mo_dg mo_out mo_tx m_ds m_st m_sub m_q m_two m_least m_os m_ts m_fs m_fc u.1 u.2 m_dr m_now m_first m_has m_da m_dl m_af m_al m_sy m_dg m_out m_tx) A) args s 0 0 A) (F0 m 132 ls [.int (bI y0)]) := by
        intro x2 x3 x4 x5 x6 x7 x8 x10 x11 y0 m_g m_gs H locs ls hl hP hD hS hw
        unfold wp_M_loose_J1320 at hw
        refine lv_istore (lv' := [(9, .int (bI y0)), (0, .ref mo), (2, .int x2), (3, .int x3), (4, .int x4), (5, .int x5), (6, .int (bI x6)), (7, .int (bI x7)), (8, .int (bI x8)), (10, .int x10), (11, .int x11)]) hx hb d_M_loose_132 hl (by decide) rfl (fun ls hl => ?_)
        refine lv_iload hx hb d_M_loose_134 (lv_at hl 6 rfl) ?_
        refine lv_if_ne (tgt := 150) hx hb d_M_loose_136 rfl (fun hc => ?_) (fun hc => ?_)
        · have hw := hw.1 ((bI_n0 _).mp hc)
          exact hJ1500 x2 x3 x4 x5 x7 x8 y0 x10 x11 m_g m_gs _ _ _ (lv_sub hl [1, 2, 3, 4, 5, 7, 8, 0, 9, 10] rfl) hP hD hS hw
        · have hw := hw.2 ((bI_0 _).mp hc)
          refine lv_iload hx hb d_M_loose_139 (lv_at hl 10 rfl) ?_
          refine lv_aload_n hx hb d_M_loose_141 rfl (lv_at hl 1 rfl) ?_
          refine va_get (ci := 9) (C := R_Mo) (T := F_Mo) (N := 24) hx hb htb in_Mo hown hK hP 0 rfl rfl 13 (by decide) (htb _ tw709) (fun _ h9 => h9) rfl d_M_loose_142 ?_
          refine lv_iconst (v := 0) hx hb d_M_loose_145 (by decide) ?_
          have hi := hw.1
          have hw := hw.2
          refine va_iald hx hb hK hP 9 0 rfl rfl hi d_M_loose_146 ?_
          refine lv_icmp_ne (tgt := 154) hx hb d_M_loose_147 rfl (fun hc => ?_) (fun hc => ?_)
          · have hw := hw.1 hc
            refine lv_iconst (v := 0) hx hb d_M_loose_154 (by decide) ?_
            exact hJ1550 x2 x3 x4 x5 x7 x8 y0 x10 x11 false m_g m_gs _ _ _ (lv_sub hl [1, 2, 3, 4, 5, 7, 8, 0, 9, 10] rfl) hP hD hS hw
          · have hw := hw.2 hc
            exact hJ1500 x2 x3 x4 x5 x7 x8 y0 x10 x11 m_g m_gs _ _ _ (lv_sub hl [1, 2, 3, 4, 5, 7, 8, 0, 9, 10] rfl) hP hD hS hw
      have hJ1310 : ∀ (x2 : Int32) (x3 : Int32) (x4 : Int32) (x5 : Int32) (x6 : Bool) (x7 : Bool) (x8 : Bool) (x10 : Int32) (x11 : Int32) (m_g : Int64) (m_gs : Int32) (H : Heap) (locs : List Loc) (ls : Array Slot), lv_has ls 13 [(0, .ref mo), (2, .int x2), (3, .int x3), (4, .int x4), (5, .int x5), (6, .int (bI x6)), (7, .int (bI x7)), (8, .int (bI x8)), (10, .int x10), (11, .int x11)] → va_P D vwCl (wd_Mo cA mo mo_dr mo_now mo_first mo_has mo_da mo_dl mo_af mo_al mo_sy mo_dg mo_out mo_tx m_ds m_st m_sub m_q m_two m_least m_os m_ts m_fs m_fc m_g m_gs m_dr m_now m_first m_has m_da m_dl m_af m_al m_sy m_dg m_out m_tx) H → va_D A (wd_Mo cA mo mo_dr mo_now mo_first mo_has mo_da mo_dl mo_af mo_al mo_sy mo_dg mo_out mo_tx m_ds m_st m_sub m_q m_two m_least m_os m_ts m_fs m_fc m_g m_gs m_dr m_now m_first m_has m_da m_dl m_af m_al m_sy m_dg m_out m_tx) → va_S A s.heap H locs → wp_M_loose_J1310 m_sy m_tx x2 x3 x4 x5 x6 x7 x8 x10 x11 m_g m_gs (fun x2 x3 x4 x5 x6 x7 x8 x9 x10 m_g m_gs => wp_M_loose_L280 n280 m_sy m_tx x2 x3 x4 x5 x6 x7 x8 x9 x10 m_g m_gs Q) Q → W p l e { frames := 1, cells := 0, slots := 0, locals := 23 } s m args below meth c H locs 0 0 (MQ below (ct_qz vwCl D [(cA, .int)] Q (fun u => wd_Mo cA mo mo_dr mo_now mo_first mo_has mo_da mo_dl mo_af mo_al mo_sy mo_dg mo_out mo_tx m_ds m_st m_sub m_q m_two m_least m_os m_ts m_fs m_fc u.1 u.2 m_dr m_now m_first m_has m_da m_dl m_af m_al m_sy m_dg m_out m_tx) A) args s 0 0 A) (F0 m 131 ls []) := by
        intro x2 x3 x4 x5 x6 x7 x8 x10 x11 m_g m_gs H locs ls hl hP hD hS hw
        unfold wp_M_loose_J1310 at hw
        refine lv_iconst (v := 0) hx hb d_M_loose_131 (by decide) ?_
        exact hJ1320 x2 x3 x4 x5 x6 x7 x8 x10 x11 false m_g m_gs _ _ _ (lv_sub hl [0, 1, 2, 3, 4, 5, 6, 7, 8, 9] rfl) hP hD hS hw
      have hJ1270 : ∀ (x2 : Int32) (x3 : Int32) (x4 : Int32) (x5 : Int32) (x6 : Bool) (x7 : Bool) (x8 : Bool) (x10 : Int32) (x11 : Int32) (m_g : Int64) (m_gs : Int32) (H : Heap) (locs : List Loc) (ls : Array Slot), lv_has ls 13 [(0, .ref mo), (2, .int x2), (3, .int x3), (4, .int x4), (5, .int x5), (6, .int (bI x6)), (7, .int (bI x7)), (8, .int (bI x8)), (10, .int x10), (11, .int x11)] → va_P D vwCl (wd_Mo cA mo mo_dr mo_now mo_first mo_has mo_da mo_dl mo_af mo_al mo_sy mo_dg mo_out mo_tx m_ds m_st m_sub m_q m_two m_least m_os m_ts m_fs m_fc m_g m_gs m_dr m_now m_first m_has m_da m_dl m_af m_al m_sy m_dg m_out m_tx) H → va_D A (wd_Mo cA mo mo_dr mo_now mo_first mo_has mo_da mo_dl mo_af mo_al mo_sy mo_dg mo_out mo_tx m_ds m_st m_sub m_q m_two m_least m_os m_ts m_fs m_fc m_g m_gs m_dr m_now m_first m_has m_da m_dl m_af m_al m_sy m_dg m_out m_tx) → va_S A s.heap H locs → wp_M_loose_J1270 m_sy m_tx x2 x3 x4 x5 x6 x7 x8 x10 x11 m_g m_gs (fun x2 x3 x4 x5 x6 x7 x8 x9 x10 m_g m_gs => wp_M_loose_L280 n280 m_sy m_tx x2 x3 x4 x5 x6 x7 x8 x9 x10 m_g m_gs Q) Q → W p l e { frames := 1, cells := 0, slots := 0, locals := 23 } s m args below meth c H locs 0 0 (MQ below (ct_qz vwCl D [(cA, .int)] Q (fun u => wd_Mo cA mo mo_dr mo_now mo_first mo_has mo_da mo_dl mo_af mo_al mo_sy mo_dg mo_out mo_tx m_ds m_st m_sub m_q m_two m_least m_os m_ts m_fs m_fc u.1 u.2 m_dr m_now m_first m_has m_da m_dl m_af m_al m_sy m_dg m_out m_tx) A) args s 0 0 A) (F0 m 127 ls []) := by
        intro x2 x3 x4 x5 x6 x7 x8 x10 x11 m_g m_gs H locs ls hl hP hD hS hw
        unfold wp_M_loose_J1270 at hw
        refine lv_iconst (v := 1) hx hb d_M_loose_127 (by decide) ?_
        refine lv_goto (tgt := 132) hx hb d_M_loose_128 rfl ?_
        exact hJ1320 x2 x3 x4 x5 x6 x7 x8 x10 x11 true m_g m_gs _ _ _ (lv_sub hl [0, 1, 2, 3, 4, 5, 6, 7, 8, 9] rfl) hP hD hS hw
      have hJ710 : ∀ (x2 : Int32) (x3 : Int32) (x4 : Int32) (x5 : Int32) (x6 : Bool) (x7 : Bool) (x8 : Bool) (x10 : Int32) (x11 : Int32) (m_g : Int64) (m_gs : Int32) (H : Heap) (locs : List Loc) (ls : Array Slot), lv_has ls 13 [(0, .ref mo), (2, .int x2), (3, .int x3), (4, .int x4), (5, .int x5), (6, .int (bI x6)), (7, .int (bI x7)), (8, .int (bI x8)), (10, .int x10), (11, .int x11)] → va_P D vwCl (wd_Mo cA mo mo_dr mo_now mo_first mo_has mo_da mo_dl mo_af mo_al mo_sy mo_dg mo_out mo_tx m_ds m_st m_sub m_q m_two m_least m_os m_ts m_fs m_fc m_g m_gs m_dr m_now m_first m_has m_da m_dl m_af m_al m_sy m_dg m_out m_tx) H → va_D A (wd_Mo cA mo mo_dr mo_now mo_first mo_has mo_da mo_dl mo_af mo_al mo_sy mo_dg mo_out mo_tx m_ds m_st m_sub m_q m_two m_least m_os m_ts m_fs m_fc m_g m_gs m_dr m_now m_first m_has m_da m_dl m_af m_al m_sy m_dg m_out m_tx) → va_S A s.heap H locs → wp_M_loose_J710 m_sy m_tx x2 x3 x4 x5 x6 x7 x8 x10 x11 m_g m_gs (fun x2 x3 x4 x5 x6 x7 x8 x9 x10 m_g m_gs => wp_M_loose_L280 n280 m_sy m_tx x2 x3 x4 x5 x6 x7 x8 x9 x10 m_g m_gs Q) Q → W p l e { frames := 1, cells := 0, slots := 0, locals := 23 } s m args below meth c H locs 0 0 (MQ below (ct_qz vwCl D [(cA, .int)] Q (fun u => wd_Mo cA mo mo_dr mo_now mo_first mo_has mo_da mo_dl mo_af mo_al mo_sy mo_dg mo_out mo_tx m_ds m_st m_sub m_q m_two m_least m_os m_ts m_fs m_fc u.1 u.2 m_dr m_now m_first m_has m_da m_dl m_af m_al m_sy m_dg m_out m_tx) A) args s 0 0 A) (F0 m 71 ls []) := by
        intro x2 x3 x4 x5 x6 x7 x8 x10 x11 m_g m_gs H locs ls hl hP hD hS hw
        unfold wp_M_loose_J710 at hw
        refine lv_iload hx hb d_M_loose_71 (lv_at hl 9 rfl) ?_
        refine lv_aload_n hx hb d_M_loose_73 rfl (lv_at hl 0 rfl) ?_
        refine va_get (ci := 9) (C := R_Mo) (T := F_Mo) (N := 24) hx hb htb in_Mo hown hK hP 0 rfl rfl 13 (by decide) (htb _ tw709) (fun _ h9 => h9) rfl d_M_loose_74 ?_
        refine lv_iconst (v := 0) hx hb d_M_loose_77 (by decide) ?_
        have hi := hw.1
        have hw := hw.2
        refine va_iald hx hb hK hP 9 0 rfl rfl hi d_M_loose_78 ?_
        refine lv_icmp_eq (tgt := 127) hx hb d_M_loose_79 rfl (fun hc => ?_) (fun hc => ?_)
        · have hw := hw.1 hc
          exact hJ1270 x2 x3 x4 x5 x6 x7 x8 x10 x11 m_g m_gs _ _ _ (lv_sub hl [0, 1, 2, 3, 4, 5, 6, 7, 8, 9] rfl) hP hD hS hw
        · have hw := hw.2 hc
          refine lv_iload hx hb d_M_loose_82 (lv_at hl 9 rfl) ?_
          refine lv_aload_n hx hb d_M_loose_84 rfl (lv_at hl 0 rfl) ?_
          refine va_get (ci := 9) (C := R_Mo) (T := F_Mo) (N := 24) hx hb htb in_Mo hown hK hP 0 rfl rfl 13 (by decide) (htb _ tw709) (fun _ h9 => h9) rfl d_M_loose_85 ?_
          refine lv_iconst (v := 1) hx hb d_M_loose_88 (by decide) ?_
          have hi := hw.1
          have hw := hw.2
          refine va_iald hx hb hK hP 9 0 rfl rfl hi d_M_loose_89 ?_
          refine lv_icmp_eq (tgt := 127) hx hb d_M_loose_90 rfl (fun hc => ?_) (fun hc => ?_)
          · have hw := hw.1 hc
            exact hJ1270 x2 x3 x4 x5 x6 x7 x8 x10 x11 m_g m_gs _ _ _ (lv_sub hl [0, 1, 2, 3, 4, 5, 6, 7, 8, 9] rfl) hP hD hS hw
          · have hw := hw.2 hc
            refine lv_iload hx hb d_M_loose_93 (lv_at hl 9 rfl) ?_
            refine lv_aload_n hx hb d_M_loose_95 rfl (lv_at hl 0 rfl) ?_
            refine va_get (ci := 9) (C := R_Mo) (T := F_Mo) (N := 24) hx hb htb in_Mo hown hK hP 0 rfl rfl 13 (by decide) (htb _ tw709) (fun _ h9 => h9) rfl d_M_loose_96 ?_
            refine lv_iconst (v := 4) hx hb d_M_loose_99 (by decide) ?_
            have hi := hw.1
            have hw := hw.2
            refine va_iald hx hb hK hP 9 0 rfl rfl hi d_M_loose_100 ?_
            refine lv_icmp_eq (tgt := 127) hx hb d_M_loose_101 rfl (fun hc => ?_) (fun hc => ?_)
            · have hw := hw.1 hc
              exact hJ1270 x2 x3 x4 x5 x6 x7 x8 x10 x11 m_g m_gs _ _ _ (lv_sub hl [0, 1, 2, 3, 4, 5, 6, 7, 8, 9] rfl) hP hD hS hw
            · have hw := hw.2 hc
              refine lv_iload hx hb d_M_loose_104 (lv_at hl 6 rfl) ?_
              refine lv_if_eq (tgt := 131) hx hb d_M_loose_106 rfl (fun hc => ?_) (fun hc => ?_)
              · have hw := hw.1 ((bI_0 _).mp hc)
                exact hJ1310 x2 x3 x4 x5 x6 x7 x8 x10 x11 m_g m_gs _ _ _ (lv_sub hl [0, 1, 2, 3, 4, 5, 6, 7, 8, 9] rfl) hP hD hS hw
              · have hw := hw.2 ((bI_n0 _).mp hc)
                refine lv_iload hx hb d_M_loose_109 (lv_at hl 9 rfl) ?_
                refine lv_aload_n hx hb d_M_loose_111 rfl (lv_at hl 0 rfl) ?_
                refine va_get (ci := 9) (C := R_Mo) (T := F_Mo) (N := 24) hx hb htb in_Mo hown hK hP 0 rfl rfl 13 (by decide) (htb _ tw709) (fun _ h9 => h9) rfl d_M_loose_112 ?_
                refine lv_iconst (v := 2) hx hb d_M_loose_115 (by decide) ?_
                have hi := hw.1
                have hw := hw.2
                refine va_iald hx hb hK hP 9 0 rfl rfl hi d_M_loose_116 ?_
                refine lv_icmp_eq (tgt := 127) hx hb d_M_loose_117 rfl (fun hc => ?_) (fun hc => ?_)
                · have hw := hw.1 hc
                  exact hJ1270 x2 x3 x4 x5 x6 x7 x8 x10 x11 m_g m_gs _ _ _ (lv_sub hl [0, 1, 2, 3, 4, 5, 6, 7, 8, 9] rfl) hP hD hS hw
                · have hw := hw.2 hc
                  refine lv_iload hx hb d_M_loose_120 (lv_at hl 9 rfl) ?_
                  refine lv_bipush (v := 43) hx hb d_M_loose_122 (by decide) ?_
                  refine lv_icmp_ne (tgt := 131) hx hb d_M_loose_124 rfl (fun hc => ?_) (fun hc => ?_)
                  · have hw := hw.1 hc
                    exact hJ1310 x2 x3 x4 x5 x6 x7 x8 x10 x11 m_g m_gs _ _ _ (lv_sub hl [0, 1, 2, 3, 4, 5, 6, 7, 8, 9] rfl) hP hD hS hw
                  · have hw := hw.2 hc
                    exact hJ1270 x2 x3 x4 x5 x6 x7 x8 x10 x11 m_g m_gs _ _ _ (lv_sub hl [0, 1, 2, 3, 4, 5, 6, 7, 8, 9] rfl) hP hD hS hw
      intro x2 x3 x4 x5 x6 x7 x8 x9 x10 m_g m_gs H locs ls hl hP hD hS hw
      unfold wp_M_loose_L280 at hw
      refine lv_iload hx hb d_M_loose_28 (lv_at hl 9 rfl) ?_
      refine lv_iload_n hx hb d_M_loose_30 rfl (lv_at hl 1 rfl) ?_
      refine lv_icmp_ge (tgt := 294) hx hb d_M_loose_31 rfl (fun hc => ?_) (fun hc => ?_)
      · have hw := hw.1 hc
        exact hJ2940 x3 x4 x5 x8 x9 m_g m_gs _ _ _ (lv_sub hl [0, 2, 3, 4, 7, 8] rfl) hP hD hS hw
      · have hw := hw.2 hc
        refine lv_iload hx hb d_M_loose_34 (lv_at hl 8 rfl) ?_
        refine lv_if_eq (tgt := 294) hx hb d_M_loose_36 rfl (fun hc => ?_) (fun hc => ?_)
        · have hw := hw.1 ((bI_0 _).mp hc)
          exact hJ2940 x3 x4 x5 x8 x9 m_g m_gs _ _ _ (lv_sub hl [0, 2, 3, 4, 7, 8] rfl) hP hD hS hw
        · have hw := hw.2 ((bI_n0 _).mp hc)
          refine lv_aload_n hx hb d_M_loose_39 rfl (lv_at hl 0 rfl) ?_
          refine va_get (ci := 9) (C := R_Mo) (T := F_Mo) (N := 24) hx hb htb in_Mo hown hK hP 0 rfl rfl 18 (by decide) (htb _ tw714) (fun _ h9 => h9) rfl d_M_loose_40 ?_
          refine lv_iload hx hb d_M_loose_43 (lv_at hl 9 rfl) ?_
          have hi := hw.1
          have hw := hw.2
          refine va_iald hx hb hK hP 12 0 rfl rfl hi d_M_loose_45 ?_
          refine lv_istore (lv' := [(11, .int (m_tx x10.toNatClampNeg)), (0, .ref mo), (2, .int x2), (3, .int x3), (4, .int x4), (5, .int x5), (6, .int (bI x6)), (7, .int (bI x7)), (8, .int (bI x8)), (9, .int (bI x9)), (10, .int x10)]) hx hb d_M_loose_46 hl (by decide) rfl (fun ls hl => ?_)
          refine lv_iload hx hb d_M_loose_48 (lv_at hl 0 rfl) ?_
          refine lv_aload_n hx hb d_M_loose_50 rfl (lv_at hl 1 rfl) ?_
          refine va_get (ci := 9) (C := R_Mo) (T := F_Mo) (N := 24) hx hb htb in_Mo hown hK hP 0 rfl rfl 13 (by decide) (htb _ tw709) (fun _ h9 => h9) rfl d_M_loose_51 ?_
          refine lv_iconst (v := 5) hx hb d_M_loose_54 (by decide) ?_
          have hi := hw.1
          have hw := hw.2
          refine va_iald hx hb hK hP 9 0 rfl rfl hi d_M_loose_55 ?_
          refine lv_isub hx hb d_M_loose_56 ?_
          refine lv_istore (lv' := [(12, .int ((m_tx x10.toNatClampNeg) - (m_sy (5 : Int32).toNatClampNeg))), (11, .int (m_tx x10.toNatClampNeg)), (0, .ref mo), (2, .int x2), (3, .int x3), (4, .int x4), (5, .int x5), (6, .int (bI x6)), (7, .int (bI x7)), (8, .int (bI x8)), (9, .int (bI x9)), (10, .int x10)]) hx hb d_M_loose_57 hl (by decide) rfl (fun ls hl => ?_)
          refine lv_iload hx hb d_M_loose_59 (lv_at hl 0 rfl) ?_
          refine lv_if_lt (tgt := 71) hx hb d_M_loose_61 rfl (fun hc => ?_) (fun hc => ?_)
          · have hw := hw.1 hc
            exact hJ710 x2 x3 x4 x5 x6 x7 x8 x10 (m_tx x10.toNatClampNeg) m_g m_gs _ _ _ (lv_sub hl [2, 3, 4, 5, 6, 7, 8, 9, 11, 1] rfl) hP hD hS hw
          · have hw := hw.2 hc
            refine lv_iload hx hb d_M_loose_64 (lv_at hl 0 rfl) ?_
            refine lv_bipush (v := 9) hx hb d_M_loose_66 (by decide) ?_
            refine lv_icmp_le (tgt := 206) hx hb d_M_loose_68 rfl (fun hc => ?_) (fun hc => ?_)
            · have hw := hw.1 hc
              refine lv_iload hx hb d_M_loose_206 (lv_at hl 8 rfl) ?_
              refine lv_if_eq (tgt := 237) hx hb d_M_loose_208 rfl (fun hc => ?_) (fun hc => ?_)
              · have hw := hw.1 ((bI_0 _).mp hc)
                refine lv_iload_n hx hb d_M_loose_237 rfl (lv_at hl 4 rfl) ?_
                refine lv_iload hx hb d_M_loose_238 (lv_at hl 7 rfl) ?_
                refine lv_if_eq (tgt := 247) hx hb d_M_loose_240 rfl (fun hc => ?_) (fun hc => ?_)
                · have hw := hw.1 ((bI_0 _).mp hc)
                  refine lv_iconst (v := 0) hx hb d_M_loose_247 (by decide) ?_
                  exact hJ2480 x2 x4 x5 x6 x7 x8 x10 ((m_tx x10.toNatClampNeg) - (m_sy (5 : Int32).toNatClampNeg)) false x3 m_g m_gs _ _ _ (lv_sub hl [2, 3, 5, 6, 7, 8, 9, 11, 0] rfl) hP hD hS hw
                · have hw := hw.2 ((bI_n0 _).mp hc)
                  refine lv_iconst (v := 1) hx hb d_M_loose_243 (by decide) ?_
                  refine lv_goto (tgt := 248) hx hb d_M_loose_244 rfl ?_
                  exact hJ2480 x2 x4 x5 x6 x7 x8 x10 ((m_tx x10.toNatClampNeg) - (m_sy (5 : Int32).toNatClampNeg)) true x3 m_g m_gs _ _ _ (lv_sub hl [2, 3, 5, 6, 7, 8, 9, 11, 0] rfl) hP hD hS hw
              · have hw := hw.2 ((bI_n0 _).mp hc)
                refine lv_iload hx hb d_M_loose_211 (lv_at hl 5 rfl) ?_
                refine lv_sipush (v := 1000) hx hb d_M_loose_213 (by decide) ?_
                refine lv_icmp_le (tgt := 224) hx hb d_M_loose_216 rfl (fun hc => ?_) (fun hc => ?_)
                · have hw := hw.1 hc
                  refine lv_iload hx hb d_M_loose_224 (lv_at hl 5 rfl) ?_
                  refine lv_bipush (v := 10) hx hb d_M_loose_226 (by decide) ?_
                  refine lv_imul hx hb d_M_loose_228 ?_
                  refine lv_iload hx hb d_M_loose_229 (lv_at hl 0 rfl) ?_
                  refine lv_iadd hx hb d_M_loose_231 ?_
                  refine lv_istore (lv' := [(4, .int ((x4 * 10) + ((m_tx x10.toNatClampNeg) - (m_sy (5 : Int32).toNatClampNeg)))), (12, .int ((m_tx x10.toNatClampNeg) - (m_sy (5 : Int32).toNatClampNeg))), (11, .int (m_tx x10.toNatClampNeg)), (0, .ref mo), (2, .int x2), (3, .int x3), (5, .int x5), (6, .int (bI x6)), (7, .int (bI x7)), (8, .int (bI x8)), (9, .int (bI x9)), (10, .int x10)]) hx hb d_M_loose_232 hl (by decide) rfl (fun ls hl => ?_)
                  refine lv_goto (tgt := 288) hx hb d_M_loose_234 rfl ?_
                  refine lv_iinc (k := 11) (v := x10 + 1) (lv' := [(10, .int (x10 + 1)), (4, .int ((x4 * 10) + ((m_tx x10.toNatClampNeg) - (m_sy (5 : Int32).toNatClampNeg)))), (12, .int ((m_tx x10.toNatClampNeg) - (m_sy (5 : Int32).toNatClampNeg))), (11, .int (m_tx x10.toNatClampNeg)), (0, .ref mo), (2, .int x2), (3, .int x3), (5, .int x5), (6, .int (bI x6)), (7, .int (bI x7)), (8, .int (bI x8)), (9, .int (bI x9))]) hx hb d_M_loose_288 hl rfl (by rfl) (by decide) rfl (fun ls hl => ?_)
                  refine lv_goto (tgt := 28) hx hb d_M_loose_291 rfl ?_
                  exact ih280 x2 x3 ((x4 * 10) + ((m_tx x10.toNatClampNeg) - (m_sy (5 : Int32).toNatClampNeg))) x5 x6 x7 x8 x9 (x10 + 1) m_g m_gs _ _ _ (lv_sub hl [4, 5, 6, 1, 7, 8, 9, 10, 11, 0] rfl) hP hD hS hw
                · have hw := hw.2 hc
                  refine lv_iload hx hb d_M_loose_219 (lv_at hl 5 rfl) ?_
                  refine lv_goto (tgt := 232) hx hb d_M_loose_221 rfl ?_
                  refine lv_istore (lv' := [(4, .int x4), (12, .int ((m_tx x10.toNatClampNeg) - (m_sy (5 : Int32).toNatClampNeg))), (11, .int (m_tx x10.toNatClampNeg)), (0, .ref mo), (2, .int x2), (3, .int x3), (5, .int x5), (6, .int (bI x6)), (7, .int (bI x7)), (8, .int (bI x8)), (9, .int (bI x9)), (10, .int x10)]) hx hb d_M_loose_232 hl (by decide) rfl (fun ls hl => ?_)
                  refine lv_goto (tgt := 288) hx hb d_M_loose_234 rfl ?_
                  refine lv_iinc (k := 11) (v := x10 + 1) (lv' := [(10, .int (x10 + 1)), (4, .int x4), (12, .int ((m_tx x10.toNatClampNeg) - (m_sy (5 : Int32).toNatClampNeg))), (11, .int (m_tx x10.toNatClampNeg)), (0, .ref mo), (2, .int x2), (3, .int x3), (5, .int x5), (6, .int (bI x6)), (7, .int (bI x7)), (8, .int (bI x8)), (9, .int (bI x9))]) hx hb d_M_loose_288 hl rfl (by rfl) (by decide) rfl (fun ls hl => ?_)
                  refine lv_goto (tgt := 28) hx hb d_M_loose_291 rfl ?_
                  exact ih280 x2 x3 x4 x5 x6 x7 x8 x9 (x10 + 1) m_g m_gs _ _ _ (lv_sub hl [4, 5, 6, 1, 7, 8, 9, 10, 11, 0] rfl) hP hD hS hw
            · have hw := hw.2 hc
              exact hJ710 x2 x3 x4 x5 x6 x7 x8 x10 (m_tx x10.toNatClampNeg) m_g m_gs _ _ _ (lv_sub hl [2, 3, 4, 5, 6, 7, 8, 9, 11, 1] rfl) hP hD hS hw
  refine lv_aload_n hx hb d_M_loose_0 rfl (lv_at hl 0 rfl) ?_
  refine lv_lconst (v := 0) hx hb d_M_loose_1 (by decide) ?_
  refine va_put (ci := 9) (v := .long 0) (ty := .long) (C := R_Mo) (T := F_Mo) (N := 24) hx hb htb in_Mo t_Mo t_Mo_ok n_Mo hown hK hP hD hS 0 rfl rfl 22 (by decide) (htb _ tw718) (fun _ h9 => h9) rfl (by decide +kernel) rfl rfl (Nat.le_of_ble_eq_true rfl) d_M_loose_2 (fun H locs hP hD hS => ?_)
  have hP : va_P D vwCl (wd_Mo cA mo mo_dr mo_now mo_first mo_has mo_da mo_dl mo_af mo_al mo_sy mo_dg mo_out mo_tx m_ds m_st m_sub m_q m_two m_least m_os m_ts m_fs m_fc 0 m_gs m_dr m_now m_first m_has m_da m_dl m_af m_al m_sy m_dg m_out m_tx) H := hP
  have hD : va_D A (wd_Mo cA mo mo_dr mo_now mo_first mo_has mo_da mo_dl mo_af mo_al mo_sy mo_dg mo_out mo_tx m_ds m_st m_sub m_q m_two m_least m_os m_ts m_fs m_fc 0 m_gs m_dr m_now m_first m_has m_da m_dl m_af m_al m_sy m_dg m_out m_tx) := hD
  refine lv_iconst (v := 0) hx hb d_M_loose_5 (by decide) ?_
  refine lv_istore_n (lv' := [(3, .int 0), (0, .ref mo), (1, .int fr), (2, .int to_)]) hx hb d_M_loose_6 rfl hl (by decide) rfl (fun ls hl => ?_)
  refine lv_iconst (v := 0) hx hb d_M_loose_7 (by decide) ?_
  refine lv_istore (lv' := [(4, .int 0), (3, .int 0), (0, .ref mo), (1, .int fr), (2, .int to_)]) hx hb d_M_loose_8 hl (by decide) rfl (fun ls hl => ?_)
  refine lv_iconst (v := 0) hx hb d_M_loose_10 (by decide) ?_
  refine lv_istore (lv' := [(5, .int 0), (4, .int 0), (3, .int 0), (0, .ref mo), (1, .int fr), (2, .int to_)]) hx hb d_M_loose_11 hl (by decide) rfl (fun ls hl => ?_)
  refine lv_iconst (v := 0) hx hb d_M_loose_13 (by decide) ?_
  refine lv_istore (lv' := [(6, .int 0), (5, .int 0), (4, .int 0), (3, .int 0), (0, .ref mo), (1, .int fr), (2, .int to_)]) hx hb d_M_loose_14 hl (by decide) rfl (fun ls hl => ?_)
  refine lv_iconst (v := 0) hx hb d_M_loose_16 (by decide) ?_
  refine lv_istore (lv' := [(7, .int 0), (6, .int 0), (5, .int 0), (4, .int 0), (3, .int 0), (0, .ref mo), (1, .int fr), (2, .int to_)]) hx hb d_M_loose_17 hl (by decide) rfl (fun ls hl => ?_)
  refine lv_iconst (v := 0) hx hb d_M_loose_19 (by decide) ?_
  refine lv_istore (lv' := [(8, .int 0), (7, .int 0), (6, .int 0), (5, .int 0), (4, .int 0), (3, .int 0), (0, .ref mo), (1, .int fr), (2, .int to_)]) hx hb d_M_loose_20 hl (by decide) rfl (fun ls hl => ?_)
  refine lv_iconst (v := 1) hx hb d_M_loose_22 (by decide) ?_
  refine lv_istore (lv' := [(9, .int 1), (8, .int 0), (7, .int 0), (6, .int 0), (5, .int 0), (4, .int 0), (3, .int 0), (0, .ref mo), (1, .int fr), (2, .int to_)]) hx hb d_M_loose_23 hl (by decide) rfl (fun ls hl => ?_)
  refine lv_iload_n hx hb d_M_loose_25 rfl (lv_at hl 8 rfl) ?_
  refine lv_istore (lv' := [(10, .int fr), (9, .int 1), (8, .int 0), (7, .int 0), (6, .int 0), (5, .int 0), (4, .int 0), (3, .int 0), (0, .ref mo), (1, .int fr), (2, .int to_)]) hx hb d_M_loose_26 hl (by decide) rfl (fun ls hl => ?_)
  obtain ⟨n280, hw⟩ := hw
  exact hL280 n280 to_ 0 0 0 false false false true fr 0 m_gs _ _ _ (lv_sub hl [8, 10, 7, 6, 5, 4, 3, 2, 1, 0] rfl) hP hD hS hw
/-! DecimalPatternsModel.settle()Z -/
def wp_M_settle_L340 : Nat → (Nat → Int32) → (Nat → Int32) → Int64 → Int32 → (Bool → (Int64 × Int32) → Prop) → Prop
  | 0, _, _, _, _, _ => False
  | n340 + 1, m_af, m_al, m_g, m_gs, Q => (0 ≤ m_gs → ((18 < m_gs → (Q false (m_g, m_gs))) ∧ (¬ 18 < m_gs → (Q true (m_g, m_gs))))) ∧ (¬ 0 ≤ m_gs → ((m_g ≤ 922337203685477580 → (wp_M_settle_L340 n340 m_af m_al (m_g * 10) (m_gs + 1) Q)) ∧ (¬ m_g ≤ 922337203685477580 → (Q false (m_g, m_gs)))))
def wp_M_settle_J310 (m_af : Nat → Int32) (m_al : Nat → Int32) (y0 : Int32) (m_g : Int64) (m_gs : Int32) (Q : Bool → (Int64 × Int32) → Prop) : Prop := ∃ n340, wp_M_settle_L340 n340 m_af m_al m_g y0 Q
def wp_M_settle_J300 (m_af : Nat → Int32) (m_al : Nat → Int32) (y0 : Int32) (y1 : Int32) (m_g : Int64) (m_gs : Int32) (Q : Bool → (Int64 × Int32) → Prop) : Prop := wp_M_settle_J310 m_af m_al (y1 + y0) m_g m_gs Q
def wp_M_settle (m_g : Int64) (m_gs : Int32) (m_af : Nat → Int32) (m_al : Nat → Int32) (Q : Bool → (Int64 × Int32) → Prop) : Prop := (¬ m_g = 0 → (wp_M_percent m_af m_al (fun r1 u2 => (r1 = false → (wp_M_settle_J300 m_af m_al 0 m_gs m_g m_gs Q)) ∧ (r1 = true → (wp_M_settle_J300 m_af m_al 2 m_gs m_g m_gs Q))))) ∧ (m_g = 0 → (wp_M_settle_J310 m_af m_al 0 m_g m_gs Q))
set_option maxHeartbeats 4000000 in
set_option maxRecDepth 100000 in
theorem c_M_settle (l : Launch) (D : va_G) (cA : ClassId) (mo mo_dr mo_now mo_first mo_has mo_da mo_dl mo_af mo_al mo_sy mo_dg mo_out mo_tx : Nat) (m_ds : Int32) (m_st : Int32) (m_sub : Int32) (m_q : Int32) (m_two : Bool) (m_least : Int32) (m_os : Int32) (m_ts : Int32) (m_fs : Int64) (m_fc : Int32) (m_g : Int64) (m_gs : Int32) (m_dr : Nat → Int32) (m_now : Nat → Int32) (m_first : Nat → Int32) (m_has : Nat → Int32) (m_da : Nat → Int32) (m_dl : Nat → Int32) (m_af : Nat → Int32) (m_al : Nat → Int32) (m_sy : Nat → Int32) (m_dg : Nat → Int32) (m_out : Nat → Int32) (m_tx : Nat → Int32) (Q : Bool → (Int64 × Int32) → Prop) (hw : wp_M_settle m_g m_gs m_af m_al Q) : ct_M vwCl l D [(cA, .int)] y_M_settle w_M_settle { frames := 1, cells := 0, slots := 0, locals := 23 } [.ref mo] (wd_Mo cA mo mo_dr mo_now mo_first mo_has mo_da mo_dl mo_af mo_al mo_sy mo_dg mo_out mo_tx m_ds m_st m_sub m_q m_two m_least m_os m_ts m_fs m_fc m_g m_gs m_dr m_now m_first m_has m_da m_dl m_af m_al m_sy m_dg m_out m_tx) (ct_qz vwCl D [(cA, .int)] Q (fun u => wd_Mo cA mo mo_dr mo_now mo_first mo_has mo_da mo_dl mo_af mo_al mo_sy mo_dg mo_out mo_tx m_ds m_st m_sub m_q m_two m_least m_os m_ts m_fs m_fc u.1 u.2 m_dr m_now m_first m_has m_da m_dl m_af m_al m_sy m_dg m_out m_tx)) := by
  refine ct_enter (cc := b_M_settle) (maxL := 1) (ret := (some .boolean)) (by decide) rfl (Nat.le_of_ble_eq_true rfl) ?_
  intro p e s m args below meth c A ls hx hb hr hlk hml hts hown hA hS hP hK hN hD hl
  have hl : lv_has ls 1 [(0, .ref mo)] := hl
  have htb : ∀ w ∈ tbl, w.before args s = true := fun w h => hts w (List.mem_cons_of_mem _ h)
  have hown : s.vm.findClass "DecimalPatternsModel" = some m.cls := hown
  unfold wp_M_settle at hw
  have hL340 : ∀ (n340 : Nat) (m_g : Int64) (m_gs : Int32) (H : Heap) (locs : List Loc) (ls : Array Slot), lv_has ls 1 [(0, .ref mo)] → va_P D vwCl (wd_Mo cA mo mo_dr mo_now mo_first mo_has mo_da mo_dl mo_af mo_al mo_sy mo_dg mo_out mo_tx m_ds m_st m_sub m_q m_two m_least m_os m_ts m_fs m_fc m_g m_gs m_dr m_now m_first m_has m_da m_dl m_af m_al m_sy m_dg m_out m_tx) H → va_D A (wd_Mo cA mo mo_dr mo_now mo_first mo_has mo_da mo_dl mo_af mo_al mo_sy mo_dg mo_out mo_tx m_ds m_st m_sub m_q m_two m_least m_os m_ts m_fs m_fc m_g m_gs m_dr m_now m_first m_has m_da m_dl m_af m_al m_sy m_dg m_out m_tx) → va_S A s.heap H locs → wp_M_settle_L340 n340 m_af m_al m_g m_gs Q → W p l e { frames := 1, cells := 0, slots := 0, locals := 23 } s m args below meth c H locs 0 0 (MQ below (ct_qz vwCl D [(cA, .int)] Q (fun u => wd_Mo cA mo mo_dr mo_now mo_first mo_has mo_da mo_dl mo_af mo_al mo_sy mo_dg mo_out mo_tx m_ds m_st m_sub m_q m_two m_least m_os m_ts m_fs m_fc u.1 u.2 m_dr m_now m_first m_has m_da m_dl m_af m_al m_sy m_dg m_out m_tx) A) args s 0 0 A) (F0 m 34 ls []) := by
    intro n340
    induction n340 with
    | zero => intro m_g m_gs H locs ls hl hP hD hS hw; exact hw.elim
    | succ n340 ih340 =>
      intro m_g m_gs H locs ls hl hP hD hS hw
      unfold wp_M_settle_L340 at hw
      refine lv_aload_n hx hb d_M_settle_34 rfl (lv_at hl 0 rfl) ?_
      refine va_get (ci := 9) (C := R_Mo) (T := F_Mo) (N := 24) hx hb htb in_Mo hown hK hP 0 rfl rfl 23 (by decide) (htb _ tw719) (fun _ h9 => h9) rfl d_M_settle_35 ?_
      refine lv_if_ge (tgt := 79) hx hb d_M_settle_38 rfl (fun hc => ?_) (fun hc => ?_)
      · have hw := hw.1 hc
        refine lv_aload_n hx hb d_M_settle_79 rfl (lv_at hl 0 rfl) ?_
        refine va_get (ci := 9) (C := R_Mo) (T := F_Mo) (N := 24) hx hb htb in_Mo hown hK hP 0 rfl rfl 23 (by decide) (htb _ tw719) (fun _ h9 => h9) rfl d_M_settle_80 ?_
        refine lv_bipush (v := 18) hx hb d_M_settle_83 (by decide) ?_
        refine lv_icmp_gt (tgt := 92) hx hb d_M_settle_85 rfl (fun hc => ?_) (fun hc => ?_)
        · have hw := hw.1 hc
          refine lv_iconst (v := 0) hx hb d_M_settle_92 (by decide) ?_
          exact ct_zret false hx hb hr hlk hK hS (m_g, m_gs) hw hP hD d_M_settle_93
        · have hw := hw.2 hc
          refine lv_iconst (v := 1) hx hb d_M_settle_88 (by decide) ?_
          refine lv_goto (tgt := 93) hx hb d_M_settle_89 rfl ?_
          exact ct_zret true hx hb hr hlk hK hS (m_g, m_gs) hw hP hD d_M_settle_93
      · have hw := hw.2 hc
        refine lv_aload_n hx hb d_M_settle_41 rfl (lv_at hl 0 rfl) ?_
        refine va_get (ci := 9) (C := R_Mo) (T := F_Mo) (N := 24) hx hb htb in_Mo hown hK hP 0 rfl rfl 22 (by decide) (htb _ tw718) (fun _ h9 => h9) rfl d_M_settle_42 ?_
        refine lv_ldc2 (v := 922337203685477580) hx hb hown (htb _ tw935) d_M_settle_45 ?_
        refine W.lcmp hx hb d_M_settle_48 ?_
        refine lv_if_le (tgt := 54) hx hb d_M_settle_49 rfl (fun hc => ?_) (fun hc => ?_)
        · have hw := hw.1 ((lg_cmp_le _ _).mp hc)
          refine lv_aload_n hx hb d_M_settle_54 rfl (lv_at hl 0 rfl) ?_
          refine lv_aload_n hx hb d_M_settle_55 rfl (lv_at hl 0 rfl) ?_
          refine va_get (ci := 9) (C := R_Mo) (T := F_Mo) (N := 24) hx hb htb in_Mo hown hK hP 0 rfl rfl 22 (by decide) (htb _ tw718) (fun _ h9 => h9) rfl d_M_settle_56 ?_
          refine lv_ldc2 (v := 10) hx hb hown (htb _ tw855) d_M_settle_59 ?_
          refine lv_lmul hx hb d_M_settle_62 ?_
          refine va_put (ci := 9) (v := .long (m_g * 10)) (ty := .long) (C := R_Mo) (T := F_Mo) (N := 24) hx hb htb in_Mo t_Mo t_Mo_ok n_Mo hown hK hP hD hS 0 rfl rfl 22 (by decide) (htb _ tw718) (fun _ h9 => h9) rfl (by decide +kernel) rfl rfl (Nat.le_of_ble_eq_true rfl) d_M_settle_63 (fun H locs hP hD hS => ?_)
          have hP : va_P D vwCl (wd_Mo cA mo mo_dr mo_now mo_first mo_has mo_da mo_dl mo_af mo_al mo_sy mo_dg mo_out mo_tx m_ds m_st m_sub m_q m_two m_least m_os m_ts m_fs m_fc (m_g * 10) m_gs m_dr m_now m_first m_has m_da m_dl m_af m_al m_sy m_dg m_out m_tx) H := hP
          have hD : va_D A (wd_Mo cA mo mo_dr mo_now mo_first mo_has mo_da mo_dl mo_af mo_al mo_sy mo_dg mo_out mo_tx m_ds m_st m_sub m_q m_two m_least m_os m_ts m_fs m_fc (m_g * 10) m_gs m_dr m_now m_first m_has m_da m_dl m_af m_al m_sy m_dg m_out m_tx) := hD
          refine lv_aload_n hx hb d_M_settle_66 rfl (lv_at hl 0 rfl) ?_
          refine lv_dup hx hb d_M_settle_67 rfl ?_
          refine va_get (ci := 9) (C := R_Mo) (T := F_Mo) (N := 24) hx hb htb in_Mo hown hK hP 0 rfl rfl 23 (by decide) (htb _ tw719) (fun _ h9 => h9) rfl d_M_settle_68 ?_
          refine lv_iconst (v := 1) hx hb d_M_settle_71 (by decide) ?_
          refine lv_iadd hx hb d_M_settle_72 ?_
          refine va_put (ci := 9) (v := .int (m_gs + 1)) (ty := .int) (C := R_Mo) (T := F_Mo) (N := 24) hx hb htb in_Mo t_Mo t_Mo_ok n_Mo hown hK hP hD hS 0 rfl rfl 23 (by decide) (htb _ tw719) (fun _ h9 => h9) rfl (by decide +kernel) rfl rfl (Nat.le_of_ble_eq_true rfl) d_M_settle_73 (fun H locs hP hD hS => ?_)
          have hP : va_P D vwCl (wd_Mo cA mo mo_dr mo_now mo_first mo_has mo_da mo_dl mo_af mo_al mo_sy mo_dg mo_out mo_tx m_ds m_st m_sub m_q m_two m_least m_os m_ts m_fs m_fc (m_g * 10) (m_gs + 1) m_dr m_now m_first m_has m_da m_dl m_af m_al m_sy m_dg m_out m_tx) H := hP
          have hD : va_D A (wd_Mo cA mo mo_dr mo_now mo_first mo_has mo_da mo_dl mo_af mo_al mo_sy mo_dg mo_out mo_tx m_ds m_st m_sub m_q m_two m_least m_os m_ts m_fs m_fc (m_g * 10) (m_gs + 1) m_dr m_now m_first m_has m_da m_dl m_af m_al m_sy m_dg m_out m_tx) := hD
          refine lv_goto (tgt := 34) hx hb d_M_settle_76 rfl ?_
          exact ih340 (m_g * 10) (m_gs + 1) _ _ _ (lv_sub hl [0] rfl) hP hD hS hw
        · have hw := hw.2 (fun h => hc ((lg_cmp_le _ _).mpr h))
          refine lv_iconst (v := 0) hx hb d_M_settle_52 (by decide) ?_
          exact ct_zret false hx hb hr hlk hK hS (m_g, m_gs) hw hP hD d_M_settle_53
  have hJ310 : ∀ (y0 : Int32) (m_g : Int64) (m_gs : Int32) (H : Heap) (locs : List Loc) (ls : Array Slot), lv_has ls 1 [(0, .ref mo)] → va_P D vwCl (wd_Mo cA mo mo_dr mo_now mo_first mo_has mo_da mo_dl mo_af mo_al mo_sy mo_dg mo_out mo_tx m_ds m_st m_sub m_q m_two m_least m_os m_ts m_fs m_fc m_g m_gs m_dr m_now m_first m_has m_da m_dl m_af m_al m_sy m_dg m_out m_tx) H → va_D A (wd_Mo cA mo mo_dr mo_now mo_first mo_has mo_da mo_dl mo_af mo_al mo_sy mo_dg mo_out mo_tx m_ds m_st m_sub m_q m_two m_least m_os m_ts m_fs m_fc m_g m_gs m_dr m_now m_first m_has m_da m_dl m_af m_al m_sy m_dg m_out m_tx) → va_S A s.heap H locs → wp_M_settle_J310 m_af m_al y0 m_g m_gs Q → W p l e { frames := 1, cells := 0, slots := 0, locals := 23 } s m args below meth c H locs 0 0 (MQ below (ct_qz vwCl D [(cA, .int)] Q (fun u => wd_Mo cA mo mo_dr mo_now mo_first mo_has mo_da mo_dl mo_af mo_al mo_sy mo_dg mo_out mo_tx m_ds m_st m_sub m_q m_two m_least m_os m_ts m_fs m_fc u.1 u.2 m_dr m_now m_first m_has m_da m_dl m_af m_al m_sy m_dg m_out m_tx) A) args s 0 0 A) (F0 m 31 ls [.int y0, .ref mo]) := by
    intro y0 m_g m_gs H locs ls hl hP hD hS hw
    unfold wp_M_settle_J310 at hw
    refine va_put (ci := 9) (v := .int y0) (ty := .int) (C := R_Mo) (T := F_Mo) (N := 24) hx hb htb in_Mo t_Mo t_Mo_ok n_Mo hown hK hP hD hS 0 rfl rfl 23 (by decide) (htb _ tw719) (fun _ h9 => h9) rfl (by decide +kernel) rfl rfl (Nat.le_of_ble_eq_true rfl) d_M_settle_31 (fun H locs hP hD hS => ?_)
    have hP : va_P D vwCl (wd_Mo cA mo mo_dr mo_now mo_first mo_has mo_da mo_dl mo_af mo_al mo_sy mo_dg mo_out mo_tx m_ds m_st m_sub m_q m_two m_least m_os m_ts m_fs m_fc m_g y0 m_dr m_now m_first m_has m_da m_dl m_af m_al m_sy m_dg m_out m_tx) H := hP
    have hD : va_D A (wd_Mo cA mo mo_dr mo_now mo_first mo_has mo_da mo_dl mo_af mo_al mo_sy mo_dg mo_out mo_tx m_ds m_st m_sub m_q m_two m_least m_os m_ts m_fs m_fc m_g y0 m_dr m_now m_first m_has m_da m_dl m_af m_al m_sy m_dg m_out m_tx) := hD
    obtain ⟨n340, hw⟩ := hw
    exact hL340 n340 m_g y0 _ _ _ (lv_sub hl [0] rfl) hP hD hS hw
  have hJ300 : ∀ (y0 : Int32) (y1 : Int32) (m_g : Int64) (m_gs : Int32) (H : Heap) (locs : List Loc) (ls : Array Slot), lv_has ls 1 [(0, .ref mo)] → va_P D vwCl (wd_Mo cA mo mo_dr mo_now mo_first mo_has mo_da mo_dl mo_af mo_al mo_sy mo_dg mo_out mo_tx m_ds m_st m_sub m_q m_two m_least m_os m_ts m_fs m_fc m_g m_gs m_dr m_now m_first m_has m_da m_dl m_af m_al m_sy m_dg m_out m_tx) H → va_D A (wd_Mo cA mo mo_dr mo_now mo_first mo_has mo_da mo_dl mo_af mo_al mo_sy mo_dg mo_out mo_tx m_ds m_st m_sub m_q m_two m_least m_os m_ts m_fs m_fc m_g m_gs m_dr m_now m_first m_has m_da m_dl m_af m_al m_sy m_dg m_out m_tx) → va_S A s.heap H locs → wp_M_settle_J300 m_af m_al y0 y1 m_g m_gs Q → W p l e { frames := 1, cells := 0, slots := 0, locals := 23 } s m args below meth c H locs 0 0 (MQ below (ct_qz vwCl D [(cA, .int)] Q (fun u => wd_Mo cA mo mo_dr mo_now mo_first mo_has mo_da mo_dl mo_af mo_al mo_sy mo_dg mo_out mo_tx m_ds m_st m_sub m_q m_two m_least m_os m_ts m_fs m_fc u.1 u.2 m_dr m_now m_first m_has m_da m_dl m_af m_al m_sy m_dg m_out m_tx) A) args s 0 0 A) (F0 m 30 ls [.int y0, .int y1, .ref mo]) := by
    intro y0 y1 m_g m_gs H locs ls hl hP hD hS hw
    unfold wp_M_settle_J300 at hw
    refine lv_iadd hx hb d_M_settle_30 ?_
    exact hJ310 (y1 + y0) m_g m_gs _ _ _ (lv_sub hl [0] rfl) hP hD hS hw
  refine lv_aload_n hx hb d_M_settle_0 rfl (lv_at hl 0 rfl) ?_
  refine lv_aload_n hx hb d_M_settle_1 rfl (lv_at hl 0 rfl) ?_
  refine va_get (ci := 9) (C := R_Mo) (T := F_Mo) (N := 24) hx hb htb in_Mo hown hK hP 0 rfl rfl 22 (by decide) (htb _ tw718) (fun _ h9 => h9) rfl d_M_settle_2 ?_
  refine lv_lconst (v := 0) hx hb d_M_settle_5 (by decide) ?_
  refine W.lcmp hx hb d_M_settle_6 ?_
  refine lv_if_ne (tgt := 14) hx hb d_M_settle_7 rfl (fun hc => ?_) (fun hc => ?_)
  · have hw := hw.1 (fun h => hc ((lg_cmp_eq _ _).mpr h))
    refine lv_aload_n hx hb d_M_settle_14 rfl (lv_at hl 0 rfl) ?_
    refine va_get (ci := 9) (C := R_Mo) (T := F_Mo) (N := 24) hx hb htb in_Mo hown hK hP 0 rfl rfl 23 (by decide) (htb _ tw719) (fun _ h9 => h9) rfl d_M_settle_15 ?_
    refine lv_aload_n hx hb d_M_settle_18 rfl (lv_at hl 0 rfl) ?_
    refine ct_callz (wn := fun _ => wd_Mo cA mo mo_dr mo_now mo_first mo_has mo_da mo_dl mo_af mo_al mo_sy mo_dg mo_out mo_tx m_ds m_st m_sub m_q m_two m_least m_os m_ts m_fs m_fc m_g m_gs m_dr m_now m_first m_has m_da m_dl m_af m_al m_sy m_dg m_out m_tx) (va_runV (As := []) (rest := [.int m_gs, .ref mo]) ⟨hx, hb, hml, hown, htb⟩ (c_M_percent l D cA mo mo_dr mo_now mo_first mo_has mo_da mo_dl mo_af mo_al mo_sy mo_dg mo_out mo_tx m_ds m_st m_sub m_q m_two m_least m_os m_ts m_fs m_fc m_g m_gs m_dr m_now m_first m_has m_da m_dl m_af m_al m_sy m_dg m_out m_tx _ hw _) (ct_cwV 0 htb tw854 rfl rfl tw82 tw851 tw853 tw54 hd_M_percent ⟨by decide, by decide⟩) (ct_preV hP hD hK hN [0, 1, 2, 3, 4, 5, 6, 7, 8, 9, 10, 11, 12] rfl (by decide) 0 rfl rfl _) rfl rfl hl.1 rfl (lv_room (Nat.le_of_ble_eq_true rfl)) d_M_settle_19 ⟨Nat.zero_le _, Nat.zero_le _⟩) hP hD hS hA [0, 1, 2, 3, 4, 5, 6, 7, 8, 9, 10, 11, 12] [] [0, 1, 2, 3, 4, 5, 6, 7, 8, 9, 10, 11, 12] rfl rfl (by decide) (by decide) (fun _ => rfl) (by decide) (fun r1 u2 H locs hw hP hD hS => ?_)
    have hP : va_P D vwCl (wd_Mo cA mo mo_dr mo_now mo_first mo_has mo_da mo_dl mo_af mo_al mo_sy mo_dg mo_out mo_tx m_ds m_st m_sub m_q m_two m_least m_os m_ts m_fs m_fc m_g m_gs m_dr m_now m_first m_has m_da m_dl m_af m_al m_sy m_dg m_out m_tx) H := hP
    have hD : va_D A (wd_Mo cA mo mo_dr mo_now mo_first mo_has mo_da mo_dl mo_af mo_al mo_sy mo_dg mo_out mo_tx m_ds m_st m_sub m_q m_two m_least m_os m_ts m_fs m_fc m_g m_gs m_dr m_now m_first m_has m_da m_dl m_af m_al m_sy m_dg m_out m_tx) := hD
    refine lv_if_eq (tgt := 29) hx hb d_M_settle_22 rfl (fun hc => ?_) (fun hc => ?_)
    · have hw := hw.1 ((bI_0 _).mp hc)
      refine lv_iconst (v := 0) hx hb d_M_settle_29 (by decide) ?_
      exact hJ300 0 m_gs m_g m_gs _ _ _ (lv_sub hl [0] rfl) hP hD hS hw
    · have hw := hw.2 ((bI_n0 _).mp hc)
      refine lv_iconst (v := 2) hx hb d_M_settle_25 (by decide) ?_
      refine lv_goto (tgt := 30) hx hb d_M_settle_26 rfl ?_
      exact hJ300 2 m_gs m_g m_gs _ _ _ (lv_sub hl [0] rfl) hP hD hS hw
  · have hw := hw.2 ((lg_cmp_eq _ _).mp hc)
    refine lv_iconst (v := 0) hx hb d_M_settle_10 (by decide) ?_
    refine lv_goto (tgt := 31) hx hb d_M_settle_11 rfl ?_
    exact hJ310 0 m_g m_gs _ _ _ (lv_sub hl [0] rfl) hP hD hS hw
/-! DecimalPatternsModel.isText(Z)Z -/
def wp_M_isText_L370 : Nat → Bool → Int32 → Int32 → Int64 → Int32 → (Nat → Int32) → (Nat → Int32) → (Nat → Int32) → (Nat → Int32) → (Nat → Int32) → Bool → Int32 → Int32 → (Nat → Int32) → (Nat → Int32) → (Bool → (Int32 × (Nat → Int32) × (Nat → Int32)) → Prop) → Prop
  | 0, _, _, _, _, _, _, _, _, _, _, _, _, _, _, _, _ => False
  | n370 + 1, m_two, m_least, m_ts, m_g, m_gs, m_has, m_af, m_al, m_sy, m_tx, x2, x3, m_os, m_dg, m_out, Q => (m_ts ≤ x3 → (Q x2 (m_os, m_dg, m_out))) ∧ (¬ m_ts ≤ x3 → ((x2 = false → (Q x2 (m_os, m_dg, m_out))) ∧ (x2 = true → (vp_in x3 400 ∧ (vp_in x3 400 ∧ ((¬ (m_out x3.toNatClampNeg) = (m_tx x3.toNatClampNeg) → (wp_M_isText_L370 n370 m_two m_least m_ts m_g m_gs m_has m_af m_al m_sy m_tx false (x3 + 1) m_os m_dg m_out Q)) ∧ ((m_out x3.toNatClampNeg) = (m_tx x3.toNatClampNeg) → (wp_M_isText_L370 n370 m_two m_least m_ts m_g m_gs m_has m_af m_al m_sy m_tx true (x3 + 1) m_os m_dg m_out Q))))))))
def wp_M_isText_J340 (m_two : Bool) (m_least : Int32) (m_ts : Int32) (m_g : Int64) (m_gs : Int32) (m_has : Nat → Int32) (m_af : Nat → Int32) (m_al : Nat → Int32) (m_sy : Nat → Int32) (m_tx : Nat → Int32) (y0 : Bool) (m_os : Int32) (m_dg : Nat → Int32) (m_out : Nat → Int32) (Q : Bool → (Int32 × (Nat → Int32) × (Nat → Int32)) → Prop) : Prop := ∃ n370, wp_M_isText_L370 n370 m_two m_least m_ts m_g m_gs m_has m_af m_al m_sy m_tx y0 0 m_os m_dg m_out Q
def wp_M_isText_J330 (m_two : Bool) (m_least : Int32) (m_ts : Int32) (m_g : Int64) (m_gs : Int32) (m_has : Nat → Int32) (m_af : Nat → Int32) (m_al : Nat → Int32) (m_sy : Nat → Int32) (m_tx : Nat → Int32) (m_os : Int32) (m_dg : Nat → Int32) (m_out : Nat → Int32) (Q : Bool → (Int32 × (Nat → Int32) × (Nat → Int32)) → Prop) : Prop := wp_M_isText_J340 m_two m_least m_ts m_g m_gs m_has m_af m_al m_sy m_tx false m_os m_dg m_out Q
def wp_M_isText (m_two : Bool) (m_least : Int32) (m_os : Int32) (m_ts : Int32) (m_g : Int64) (m_gs : Int32) (m_has : Nat → Int32) (m_af : Nat → Int32) (m_al : Nat → Int32) (m_sy : Nat → Int32) (m_dg : Nat → Int32) (m_out : Nat → Int32) (m_tx : Nat → Int32) (ng : Bool) (Q : Bool → (Int32 × (Nat → Int32) × (Nat → Int32)) → Prop) : Prop := wp_M_render m_two m_least m_os m_has m_af m_al m_sy m_dg m_out ng m_g m_gs 7 (fun r1 u2 => (r1 = false → (wp_M_isText_J330 m_two m_least m_ts m_g m_gs m_has m_af m_al m_sy m_tx u2.1 u2.2.1 u2.2.2 Q)) ∧ (r1 = true → ((¬ u2.1 = m_ts → (wp_M_isText_J330 m_two m_least m_ts m_g m_gs m_has m_af m_al m_sy m_tx u2.1 u2.2.1 u2.2.2 Q)) ∧ (u2.1 = m_ts → (wp_M_isText_J340 m_two m_least m_ts m_g m_gs m_has m_af m_al m_sy m_tx true u2.1 u2.2.1 u2.2.2 Q)))))
set_option maxHeartbeats 4000000 in
set_option maxRecDepth 100000 in
theorem c_M_isText (l : Launch) (D : va_G) (cA : ClassId) (mo mo_dr mo_now mo_first mo_has mo_da mo_dl mo_af mo_al mo_sy mo_dg mo_out mo_tx : Nat) (m_ds : Int32) (m_st : Int32) (m_sub : Int32) (m_q : Int32) (m_two : Bool) (m_least : Int32) (m_os : Int32) (m_ts : Int32) (m_fs : Int64) (m_fc : Int32) (m_g : Int64) (m_gs : Int32) (m_dr : Nat → Int32) (m_now : Nat → Int32) (m_first : Nat → Int32) (m_has : Nat → Int32) (m_da : Nat → Int32) (m_dl : Nat → Int32) (m_af : Nat → Int32) (m_al : Nat → Int32) (m_sy : Nat → Int32) (m_dg : Nat → Int32) (m_out : Nat → Int32) (m_tx : Nat → Int32) (ng : Bool) (Q : Bool → (Int32 × (Nat → Int32) × (Nat → Int32)) → Prop) (hw : wp_M_isText m_two m_least m_os m_ts m_g m_gs m_has m_af m_al m_sy m_dg m_out m_tx ng Q) : ct_M vwCl l D [(cA, .int)] y_M_isText w_M_isText { frames := 5, cells := 0, slots := 0, locals := 123 } [.ref mo, .int (bI ng)] (wd_Mo cA mo mo_dr mo_now mo_first mo_has mo_da mo_dl mo_af mo_al mo_sy mo_dg mo_out mo_tx m_ds m_st m_sub m_q m_two m_least m_os m_ts m_fs m_fc m_g m_gs m_dr m_now m_first m_has m_da m_dl m_af m_al m_sy m_dg m_out m_tx) (ct_qz vwCl D [(cA, .int)] Q (fun u => wd_Mo cA mo mo_dr mo_now mo_first mo_has mo_da mo_dl mo_af mo_al mo_sy mo_dg mo_out mo_tx m_ds m_st m_sub m_q m_two m_least u.1 m_ts m_fs m_fc m_g m_gs m_dr m_now m_first m_has m_da m_dl m_af m_al m_sy u.2.1 u.2.2 m_tx)) := by
  refine ct_enter (cc := b_M_isText) (maxL := 4) (ret := (some .boolean)) (by decide) rfl (Nat.le_of_ble_eq_true rfl) ?_
  intro p e s m args below meth c A ls hx hb hr hlk hml hts hown hA hS hP hK hN hD hl
  have hl : lv_has ls 4 [(0, .ref mo), (1, .int (bI ng))] := hl
  have htb : ∀ w ∈ tbl, w.before args s = true := fun w h => hts w (List.mem_cons_of_mem _ h)
  have hown : s.vm.findClass "DecimalPatternsModel" = some m.cls := hown
  unfold wp_M_isText at hw
  have hL370 : ∀ (n370 : Nat) (x2 : Bool) (x3 : Int32) (m_os : Int32) (m_dg : Nat → Int32) (m_out : Nat → Int32) (H : Heap) (locs : List Loc) (ls : Array Slot), lv_has ls 4 [(0, .ref mo), (2, .int (bI x2)), (3, .int x3)] → va_P D vwCl (wd_Mo cA mo mo_dr mo_now mo_first mo_has mo_da mo_dl mo_af mo_al mo_sy mo_dg mo_out mo_tx m_ds m_st m_sub m_q m_two m_least m_os m_ts m_fs m_fc m_g m_gs m_dr m_now m_first m_has m_da m_dl m_af m_al m_sy m_dg m_out m_tx) H → va_D A (wd_Mo cA mo mo_dr mo_now mo_first mo_has mo_da mo_dl mo_af mo_al mo_sy mo_dg mo_out mo_tx m_ds m_st m_sub m_q m_two m_least m_os m_ts m_fs m_fc m_g m_gs m_dr m_now m_first m_has m_da m_dl m_af m_al m_sy m_dg m_out m_tx) → va_S A s.heap H locs → wp_M_isText_L370 n370 m_two m_least m_ts m_g m_gs m_has m_af m_al m_sy m_tx x2 x3 m_os m_dg m_out Q → W p l e { frames := 5, cells := 0, slots := 0, locals := 123 } s m args below meth c H locs 0 0 (MQ below (ct_qz vwCl D [(cA, .int)] Q (fun u => wd_Mo cA mo mo_dr mo_now mo_first mo_has mo_da mo_dl mo_af mo_al mo_sy mo_dg mo_out mo_tx m_ds m_st m_sub m_q m_two m_least u.1 m_ts m_fs m_fc m_g m_gs m_dr m_now m_first m_has m_da m_dl m_af m_al m_sy u.2.1 u.2.2 m_tx) A) args s 0 0 A) (F0 m 37 ls []) := by
    intro n370
    induction n370 with
    | zero => intro x2 x3 m_os m_dg m_out H locs ls hl hP hD hS hw; exact hw.elim
    | succ n370 ih370 =>
      intro x2 x3 m_os m_dg m_out H locs ls hl hP hD hS hw
      unfold wp_M_isText_L370 at hw
      refine lv_iload_n hx hb d_M_isText_37 rfl (lv_at hl 2 rfl) ?_
      refine lv_aload_n hx hb d_M_isText_38 rfl (lv_at hl 0 rfl) ?_
      refine va_get (ci := 9) (C := R_Mo) (T := F_Mo) (N := 24) hx hb htb in_Mo hown hK hP 0 rfl rfl 19 (by decide) (htb _ tw715) (fun _ h9 => h9) rfl d_M_isText_39 ?_
      refine lv_icmp_ge (tgt := 76) hx hb d_M_isText_42 rfl (fun hc => ?_) (fun hc => ?_)
      · have hw := hw.1 hc
        refine lv_iload_n hx hb d_M_isText_76 rfl (lv_at hl 1 rfl) ?_
        exact ct_zret x2 hx hb hr hlk hK hS (m_os, m_dg, m_out) hw hP hD d_M_isText_77
      · have hw := hw.2 hc
        refine lv_iload_n hx hb d_M_isText_45 rfl (lv_at hl 1 rfl) ?_
        refine lv_if_eq (tgt := 76) hx hb d_M_isText_46 rfl (fun hc => ?_) (fun hc => ?_)
        · have hw := hw.1 ((bI_0 _).mp hc)
          refine lv_iload_n hx hb d_M_isText_76 rfl (lv_at hl 1 rfl) ?_
          exact ct_zret x2 hx hb hr hlk hK hS (m_os, m_dg, m_out) hw hP hD d_M_isText_77
        · have hw := hw.2 ((bI_n0 _).mp hc)
          refine lv_aload_n hx hb d_M_isText_49 rfl (lv_at hl 0 rfl) ?_
          refine va_get (ci := 9) (C := R_Mo) (T := F_Mo) (N := 24) hx hb htb in_Mo hown hK hP 0 rfl rfl 16 (by decide) (htb _ tw712) (fun _ h9 => h9) rfl d_M_isText_50 ?_
          refine lv_iload_n hx hb d_M_isText_53 rfl (lv_at hl 2 rfl) ?_
          have hi := hw.1
          have hw := hw.2
          refine va_iald hx hb hK hP 11 0 rfl rfl hi d_M_isText_54 ?_
          refine lv_aload_n hx hb d_M_isText_55 rfl (lv_at hl 0 rfl) ?_
          refine va_get (ci := 9) (C := R_Mo) (T := F_Mo) (N := 24) hx hb htb in_Mo hown hK hP 0 rfl rfl 18 (by decide) (htb _ tw714) (fun _ h9 => h9) rfl d_M_isText_56 ?_
          refine lv_iload_n hx hb d_M_isText_59 rfl (lv_at hl 2 rfl) ?_
          have hi := hw.1
          have hw := hw.2
          refine va_iald hx hb hK hP 12 0 rfl rfl hi d_M_isText_60 ?_
          refine lv_icmp_ne (tgt := 68) hx hb d_M_isText_61 rfl (fun hc => ?_) (fun hc => ?_)
          · have hw := hw.1 hc
            refine lv_iconst (v := 0) hx hb d_M_isText_68 (by decide) ?_
            refine lv_istore_n (lv' := [(2, .int 0), (0, .ref mo), (3, .int x3)]) hx hb d_M_isText_69 rfl hl (by decide) rfl (fun ls hl => ?_)
            refine lv_iinc (k := 2) (v := x3 + 1) (lv' := [(3, .int (x3 + 1)), (2, .int 0), (0, .ref mo)]) hx hb d_M_isText_70 hl rfl (by rfl) (by decide) rfl (fun ls hl => ?_)
            refine lv_goto (tgt := 37) hx hb d_M_isText_73 rfl ?_
            exact ih370 false (x3 + 1) m_os m_dg m_out _ _ _ (lv_sub hl [2, 1, 0] rfl) hP hD hS hw
          · have hw := hw.2 hc
            refine lv_iconst (v := 1) hx hb d_M_isText_64 (by decide) ?_
            refine lv_goto (tgt := 69) hx hb d_M_isText_65 rfl ?_
            refine lv_istore_n (lv' := [(2, .int 1), (0, .ref mo), (3, .int x3)]) hx hb d_M_isText_69 rfl hl (by decide) rfl (fun ls hl => ?_)
            refine lv_iinc (k := 2) (v := x3 + 1) (lv' := [(3, .int (x3 + 1)), (2, .int 1), (0, .ref mo)]) hx hb d_M_isText_70 hl rfl (by rfl) (by decide) rfl (fun ls hl => ?_)
            refine lv_goto (tgt := 37) hx hb d_M_isText_73 rfl ?_
            exact ih370 true (x3 + 1) m_os m_dg m_out _ _ _ (lv_sub hl [2, 1, 0] rfl) hP hD hS hw
  have hJ340 : ∀ (y0 : Bool) (m_os : Int32) (m_dg : Nat → Int32) (m_out : Nat → Int32) (H : Heap) (locs : List Loc) (ls : Array Slot), lv_has ls 4 [(0, .ref mo)] → va_P D vwCl (wd_Mo cA mo mo_dr mo_now mo_first mo_has mo_da mo_dl mo_af mo_al mo_sy mo_dg mo_out mo_tx m_ds m_st m_sub m_q m_two m_least m_os m_ts m_fs m_fc m_g m_gs m_dr m_now m_first m_has m_da m_dl m_af m_al m_sy m_dg m_out m_tx) H → va_D A (wd_Mo cA mo mo_dr mo_now mo_first mo_has mo_da mo_dl mo_af mo_al mo_sy mo_dg mo_out mo_tx m_ds m_st m_sub m_q m_two m_least m_os m_ts m_fs m_fc m_g m_gs m_dr m_now m_first m_has m_da m_dl m_af m_al m_sy m_dg m_out m_tx) → va_S A s.heap H locs → wp_M_isText_J340 m_two m_least m_ts m_g m_gs m_has m_af m_al m_sy m_tx y0 m_os m_dg m_out Q → W p l e { frames := 5, cells := 0, slots := 0, locals := 123 } s m args below meth c H locs 0 0 (MQ below (ct_qz vwCl D [(cA, .int)] Q (fun u => wd_Mo cA mo mo_dr mo_now mo_first mo_has mo_da mo_dl mo_af mo_al mo_sy mo_dg mo_out mo_tx m_ds m_st m_sub m_q m_two m_least u.1 m_ts m_fs m_fc m_g m_gs m_dr m_now m_first m_has m_da m_dl m_af m_al m_sy u.2.1 u.2.2 m_tx) A) args s 0 0 A) (F0 m 34 ls [.int (bI y0)]) := by
    intro y0 m_os m_dg m_out H locs ls hl hP hD hS hw
    unfold wp_M_isText_J340 at hw
    refine lv_istore_n (lv' := [(2, .int (bI y0)), (0, .ref mo)]) hx hb d_M_isText_34 rfl hl (by decide) rfl (fun ls hl => ?_)
    refine lv_iconst (v := 0) hx hb d_M_isText_35 (by decide) ?_
    refine lv_istore_n (lv' := [(3, .int 0), (2, .int (bI y0)), (0, .ref mo)]) hx hb d_M_isText_36 rfl hl (by decide) rfl (fun ls hl => ?_)
    obtain ⟨n370, hw⟩ := hw
    exact hL370 n370 y0 0 m_os m_dg m_out _ _ _ (lv_sub hl [2, 1, 0] rfl) hP hD hS hw
  have hJ330 : ∀ (m_os : Int32) (m_dg : Nat → Int32) (m_out : Nat → Int32) (H : Heap) (locs : List Loc) (ls : Array Slot), lv_has ls 4 [(0, .ref mo)] → va_P D vwCl (wd_Mo cA mo mo_dr mo_now mo_first mo_has mo_da mo_dl mo_af mo_al mo_sy mo_dg mo_out mo_tx m_ds m_st m_sub m_q m_two m_least m_os m_ts m_fs m_fc m_g m_gs m_dr m_now m_first m_has m_da m_dl m_af m_al m_sy m_dg m_out m_tx) H → va_D A (wd_Mo cA mo mo_dr mo_now mo_first mo_has mo_da mo_dl mo_af mo_al mo_sy mo_dg mo_out mo_tx m_ds m_st m_sub m_q m_two m_least m_os m_ts m_fs m_fc m_g m_gs m_dr m_now m_first m_has m_da m_dl m_af m_al m_sy m_dg m_out m_tx) → va_S A s.heap H locs → wp_M_isText_J330 m_two m_least m_ts m_g m_gs m_has m_af m_al m_sy m_tx m_os m_dg m_out Q → W p l e { frames := 5, cells := 0, slots := 0, locals := 123 } s m args below meth c H locs 0 0 (MQ below (ct_qz vwCl D [(cA, .int)] Q (fun u => wd_Mo cA mo mo_dr mo_now mo_first mo_has mo_da mo_dl mo_af mo_al mo_sy mo_dg mo_out mo_tx m_ds m_st m_sub m_q m_two m_least u.1 m_ts m_fs m_fc m_g m_gs m_dr m_now m_first m_has m_da m_dl m_af m_al m_sy u.2.1 u.2.2 m_tx) A) args s 0 0 A) (F0 m 33 ls []) := by
    intro m_os m_dg m_out H locs ls hl hP hD hS hw
    unfold wp_M_isText_J330 at hw
    refine lv_iconst (v := 0) hx hb d_M_isText_33 (by decide) ?_
    exact hJ340 false m_os m_dg m_out _ _ _ (lv_sub hl [0] rfl) hP hD hS hw
  refine lv_aload_n hx hb d_M_isText_0 rfl (lv_at hl 0 rfl) ?_
  refine lv_iload_n hx hb d_M_isText_1 rfl (lv_at hl 1 rfl) ?_
  refine lv_aload_n hx hb d_M_isText_2 rfl (lv_at hl 0 rfl) ?_
  refine va_get (ci := 9) (C := R_Mo) (T := F_Mo) (N := 24) hx hb htb in_Mo hown hK hP 0 rfl rfl 22 (by decide) (htb _ tw718) (fun _ h9 => h9) rfl d_M_isText_3 ?_
  refine lv_aload_n hx hb d_M_isText_6 rfl (lv_at hl 0 rfl) ?_
  refine va_get (ci := 9) (C := R_Mo) (T := F_Mo) (N := 24) hx hb htb in_Mo hown hK hP 0 rfl rfl 23 (by decide) (htb _ tw719) (fun _ h9 => h9) rfl d_M_isText_7 ?_
  refine lv_bipush (v := 7) hx hb d_M_isText_10 (by decide) ?_
  refine ct_callz (wn := fun u2 => wd_Mo cA mo mo_dr mo_now mo_first mo_has mo_da mo_dl mo_af mo_al mo_sy mo_dg mo_out mo_tx m_ds m_st m_sub m_q m_two m_least u2.1 m_ts m_fs m_fc m_g m_gs m_dr m_now m_first m_has m_da m_dl m_af m_al m_sy u2.2.1 u2.2.2 m_tx) (va_runV (As := [.int (bI ng), .long m_g, .int m_gs, .int 7]) (rest := []) ⟨hx, hb, hml, hown, htb⟩ (c_M_render l D cA mo mo_dr mo_now mo_first mo_has mo_da mo_dl mo_af mo_al mo_sy mo_dg mo_out mo_tx m_ds m_st m_sub m_q m_two m_least m_os m_ts m_fs m_fc m_g m_gs m_dr m_now m_first m_has m_da m_dl m_af m_al m_sy m_dg m_out m_tx ng m_g m_gs 7 _ hw _) (ct_cwV 4 htb tw846 rfl rfl tw82 tw843 tw845 tw52 hd_M_render ⟨by decide, by decide⟩) (ct_preV hP hD hK hN [0, 1, 2, 3, 4, 5, 6, 7, 8, 9, 10, 11, 12] rfl (by decide) 0 rfl rfl _) rfl rfl hl.1 rfl (lv_room (Nat.le_of_ble_eq_true rfl)) d_M_isText_12 ⟨Nat.zero_le _, Nat.zero_le _⟩) hP hD hS hA [0, 1, 2, 3, 4, 5, 6, 7, 8, 9, 10, 11, 12] [] [0, 1, 2, 3, 4, 5, 6, 7, 8, 9, 10, 11, 12] rfl rfl (by decide) (by decide) (fun _ => rfl) (by decide) (fun r1 u2 H locs hw hP hD hS => ?_)
  have hP : va_P D vwCl (wd_Mo cA mo mo_dr mo_now mo_first mo_has mo_da mo_dl mo_af mo_al mo_sy mo_dg mo_out mo_tx m_ds m_st m_sub m_q m_two m_least u2.1 m_ts m_fs m_fc m_g m_gs m_dr m_now m_first m_has m_da m_dl m_af m_al m_sy u2.2.1 u2.2.2 m_tx) H := hP
  have hD : va_D A (wd_Mo cA mo mo_dr mo_now mo_first mo_has mo_da mo_dl mo_af mo_al mo_sy mo_dg mo_out mo_tx m_ds m_st m_sub m_q m_two m_least u2.1 m_ts m_fs m_fc m_g m_gs m_dr m_now m_first m_has m_da m_dl m_af m_al m_sy u2.2.1 u2.2.2 m_tx) := hD
  refine lv_if_eq (tgt := 33) hx hb d_M_isText_15 rfl (fun hc => ?_) (fun hc => ?_)
  · have hw := hw.1 ((bI_0 _).mp hc)
    exact hJ330 u2.1 u2.2.1 u2.2.2 _ _ _ (lv_sub hl [0] rfl) hP hD hS hw
  · have hw := hw.2 ((bI_n0 _).mp hc)
    refine lv_aload_n hx hb d_M_isText_18 rfl (lv_at hl 0 rfl) ?_
    refine va_get (ci := 9) (C := R_Mo) (T := F_Mo) (N := 24) hx hb htb in_Mo hown hK hP 0 rfl rfl 17 (by decide) (htb _ tw713) (fun _ h9 => h9) rfl d_M_isText_19 ?_
    refine lv_aload_n hx hb d_M_isText_22 rfl (lv_at hl 0 rfl) ?_
    refine va_get (ci := 9) (C := R_Mo) (T := F_Mo) (N := 24) hx hb htb in_Mo hown hK hP 0 rfl rfl 19 (by decide) (htb _ tw715) (fun _ h9 => h9) rfl d_M_isText_23 ?_
    refine lv_icmp_ne (tgt := 33) hx hb d_M_isText_26 rfl (fun hc => ?_) (fun hc => ?_)
    · have hw := hw.1 hc
      exact hJ330 u2.1 u2.2.1 u2.2.2 _ _ _ (lv_sub hl [0] rfl) hP hD hS hw
    · have hw := hw.2 hc
      refine lv_iconst (v := 1) hx hb d_M_isText_29 (by decide) ?_
      refine lv_goto (tgt := 34) hx hb d_M_isText_30 rfl ?_
      exact hJ340 true u2.1 u2.2.1 u2.2.2 _ _ _ (lv_sub hl [0] rfl) hP hD hS hw
