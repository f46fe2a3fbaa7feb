/-! DecimalPatterns$PatternMaker.beginSub(LDecimalPatterns$Sub;)V -/
def wp_Mk_beginSub (nx : Nat) (mk_s : Nat) (mk_st : Int32) (mk_qd : Bool) (mk_qe : Bool) (Q : (Nat × Int32 × Bool × Bool) → Prop) : Prop := Q (nx, 0, false, false)
set_option maxHeartbeats 4000000 in
set_option maxRecDepth 100000 in
theorem c_Mk_beginSub (l : Launch) (D : va_G) (cA : ClassId) (mk mk_g nx : Nat) (mk_s : Nat) (mk_st : Int32) (mk_qd : Bool) (mk_qe : Bool) (Q : (Nat × Int32 × Bool × Bool) → Prop) (hw : wp_Mk_beginSub nx mk_s mk_st mk_qd mk_qe Q) : ct_M vwCl l D [(cA, .int)] y_Mk_beginSub w_Mk_beginSub { frames := 0, cells := 0, slots := 0, locals := 0 } [.ref mk, .ref nx] (wd_MkN cA mk mk_g nx mk_s mk_st mk_qd mk_qe) (ct_qv vwCl D [(cA, .int)] Q (fun u => wd_MkN cA mk mk_g nx u.1 u.2.1 u.2.2.1 u.2.2.2)) := by
  refine ct_enter (cc := b_Mk_beginSub) (maxL := 2) (ret := none) (by decide) rfl (Nat.le_of_ble_eq_true rfl) ?_
  intro p e s m args below meth c A ls hx hb hr hlk hml hts hown hA hS hP hK hN hD hl
  have hl : lv_has ls 2 [(0, .ref mk), (1, .ref nx)] := hl
  have htb : ∀ w ∈ tbl, w.before args s = true := fun w h => hts w (List.mem_cons_of_mem _ h)
  have hown : s.vm.findClass "DecimalPatterns$PatternMaker" = some m.cls := hown
  unfold wp_Mk_beginSub at hw
  refine lv_aload_n hx hb d_Mk_beginSub_0 rfl (lv_at hl 0 rfl) ?_
  refine lv_aload_n hx hb d_Mk_beginSub_1 rfl (lv_at hl 1 rfl) ?_
  refine va_put (ci := 3) (v := .ref nx) (ty := .object "DecimalPatterns$Sub") (C := R_Mk) (T := F_Mk) (N := 5) hx hb htb in_Mk t_Mk t_Mk_ok n_Mk hown hK hP hD hS 0 rfl rfl 1 (by decide) (htb _ tw290) (fun _ h9 => h9) rfl (by decide +kernel) rfl rfl (Nat.le_of_ble_eq_true rfl) d_Mk_beginSub_2 (fun H locs hP hD hS => ?_)
  have hP : va_P D vwCl (wd_MkN cA mk mk_g nx nx mk_st mk_qd mk_qe) H := hP
  have hD : va_D A (wd_MkN cA mk mk_g nx nx mk_st mk_qd mk_qe) := hD
  refine lv_aload_n hx hb d_Mk_beginSub_5 rfl (lv_at hl 0 rfl) ?_
  refine lv_iconst (v := 0) hx hb d_Mk_beginSub_6 (by decide) ?_
  refine va_put (ci := 3) (v := .int 0) (ty := .int) (C := R_Mk) (T := F_Mk) (N := 5) hx hb htb in_Mk t_Mk t_Mk_ok n_Mk hown hK hP hD hS 0 rfl rfl 2 (by decide) (htb _ tw291) (fun _ h9 => h9) rfl (by decide +kernel) rfl rfl (Nat.le_of_ble_eq_true rfl) d_Mk_beginSub_7 (fun H locs hP hD hS => ?_)
  have hP : va_P D vwCl (wd_MkN cA mk mk_g nx nx 0 mk_qd mk_qe) H := hP
  have hD : va_D A (wd_MkN cA mk mk_g nx nx 0 mk_qd mk_qe) := hD
  refine lv_aload_n hx hb d_Mk_beginSub_10 rfl (lv_at hl 0 rfl) ?_
  refine lv_iconst (v := 0) hx hb d_Mk_beginSub_11 (by decide) ?_
  refine va_put (ci := 3) (v := .int (bI false)) (ty := .boolean) (C := R_Mk) (T := F_Mk) (N := 5) hx hb htb in_Mk t_Mk t_Mk_ok n_Mk hown hK hP hD hS 0 rfl rfl 3 (by decide) (htb _ tw292) (fun _ h9 => h9) rfl (by decide +kernel) (bI_nar false) (bI_fit false) (Nat.le_of_ble_eq_true rfl) d_Mk_beginSub_12 (fun H locs hP hD hS => ?_)
  have hP : va_P D vwCl (wd_MkN cA mk mk_g nx nx 0 false mk_qe) H := hP
  have hD : va_D A (wd_MkN cA mk mk_g nx nx 0 false mk_qe) := hD
  refine lv_aload_n hx hb d_Mk_beginSub_15 rfl (lv_at hl 0 rfl) ?_
  refine lv_iconst (v := 0) hx hb d_Mk_beginSub_16 (by decide) ?_
  refine va_put (ci := 3) (v := .int (bI false)) (ty := .boolean) (C := R_Mk) (T := F_Mk) (N := 5) hx hb htb in_Mk t_Mk t_Mk_ok n_Mk hown hK hP hD hS 0 rfl rfl 4 (by decide) (htb _ tw293) (fun _ h9 => h9) rfl (by decide +kernel) (bI_nar false) (bI_fit false) (Nat.le_of_ble_eq_true rfl) d_Mk_beginSub_17 (fun H locs hP hD hS => ?_)
  have hP : va_P D vwCl (wd_MkN cA mk mk_g nx nx 0 false false) H := hP
  have hD : va_D A (wd_MkN cA mk mk_g nx nx 0 false false) := hD
  exact ct_vret hx hb hr hlk hK hS (nx, 0, false, false) hw hP hD d_Mk_beginSub_20
/-! DecimalPatterns$PatternMaker.numberEnded()Z -/
def wp_Mk_numberEnded (mk_st : Int32) (Q : Bool → Unit → Prop) : Prop := (mk_st = 1 → (Q true ())) ∧ (¬ mk_st = 1 → ((mk_st = 4 → (Q true ())) ∧ (¬ mk_st = 4 → ((mk_st = 7 → (Q true ())) ∧ (¬ mk_st = 7 → ((¬ mk_st = 8 → (Q false ())) ∧ (mk_st = 8 → (Q true ()))))))))
set_option maxHeartbeats 4000000 in
set_option maxRecDepth 100000 in
theorem c_Mk_numberEnded (l : Launch) (D : va_G) (cA : ClassId) (mk mk_g : Nat) (mk_s : Nat) (mk_st : Int32) (mk_qd : Bool) (mk_qe : Bool) (Q : Bool → Unit → Prop) (hw : wp_Mk_numberEnded mk_st Q) : ct_M vwCl l D [(cA, .int)] y_Mk_numberEnded w_Mk_numberEnded { frames := 0, cells := 0, slots := 0, locals := 0 } [.ref mk] (wd_MkO cA mk mk_g mk_s mk_st mk_qd mk_qe) (ct_qz vwCl D [(cA, .int)] Q (fun u => wd_MkO cA mk mk_g mk_s mk_st mk_qd mk_qe)) := by
  refine ct_enter (cc := b_Mk_numberEnded) (maxL := 1) (ret := (some .boolean)) (by decide) rfl (Nat.le_of_ble_eq_true rfl) ?_
  intro p e s m args below meth c A ls hx hb hr hlk hml hts hown hA hS hP hK hN hD hl
  have hl : lv_has ls 1 [(0, .ref mk)] := hl
  have htb : ∀ w ∈ tbl, w.before args s = true := fun w h => hts w (List.mem_cons_of_mem _ h)
  have hown : s.vm.findClass "DecimalPatterns$PatternMaker" = some m.cls := hown
  unfold wp_Mk_numberEnded at hw
  refine lv_aload_n hx hb d_Mk_numberEnded_0 rfl (lv_at hl 0 rfl) ?_
  refine va_get (ci := 3) (C := R_Mk) (T := F_Mk) (N := 5) hx hb htb in_Mk hown hK hP 0 rfl rfl 2 (by decide) (htb _ tw291) (fun _ h9 => h9) rfl d_Mk_numberEnded_1 ?_
  refine lv_iconst (v := 1) hx hb d_Mk_numberEnded_4 (by decide) ?_
  refine lv_icmp_eq (tgt := 34) hx hb d_Mk_numberEnded_5 rfl (fun hc => ?_) (fun hc => ?_)
  · have hw := hw.1 hc
    refine lv_iconst (v := 1) hx hb d_Mk_numberEnded_34 (by decide) ?_
    refine lv_goto (tgt := 39) hx hb d_Mk_numberEnded_35 rfl ?_
    exact ct_zret true hx hb hr hlk hK hS () hw hP hD d_Mk_numberEnded_39
  · have hw := hw.2 hc
    refine lv_aload_n hx hb d_Mk_numberEnded_8 rfl (lv_at hl 0 rfl) ?_
    refine va_get (ci := 3) (C := R_Mk) (T := F_Mk) (N := 5) hx hb htb in_Mk hown hK hP 0 rfl rfl 2 (by decide) (htb _ tw291) (fun _ h9 => h9) rfl d_Mk_numberEnded_9 ?_
    refine lv_iconst (v := 4) hx hb d_Mk_numberEnded_12 (by decide) ?_
    refine lv_icmp_eq (tgt := 34) hx hb d_Mk_numberEnded_13 rfl (fun hc => ?_) (fun hc => ?_)
    · have hw := hw.1 hc
      refine lv_iconst (v := 1) hx hb d_Mk_numberEnded_34 (by decide) ?_
      refine lv_goto (tgt := 39) hx hb d_Mk_numberEnded_35 rfl ?_
      exact ct_zret true hx hb hr hlk hK hS () hw hP hD d_Mk_numberEnded_39
    · have hw := hw.2 hc
      refine lv_aload_n hx hb d_Mk_numberEnded_16 rfl (lv_at hl 0 rfl) ?_
      refine va_get (ci := 3) (C := R_Mk) (T := F_Mk) (N := 5) hx hb htb in_Mk hown hK hP 0 rfl rfl 2 (by decide) (htb _ tw291) (fun _ h9 => h9) rfl d_Mk_numberEnded_17 ?_
      refine lv_bipush (v := 7) hx hb d_Mk_numberEnded_20 (by decide) ?_
      refine lv_icmp_eq (tgt := 34) hx hb d_Mk_numberEnded_22 rfl (fun hc => ?_) (fun hc => ?_)
      · have hw := hw.1 hc
        refine lv_iconst (v := 1) hx hb d_Mk_numberEnded_34 (by decide) ?_
        refine lv_goto (tgt := 39) hx hb d_Mk_numberEnded_35 rfl ?_
        exact ct_zret true hx hb hr hlk hK hS () hw hP hD d_Mk_numberEnded_39
      · have hw := hw.2 hc
        refine lv_aload_n hx hb d_Mk_numberEnded_25 rfl (lv_at hl 0 rfl) ?_
        refine va_get (ci := 3) (C := R_Mk) (T := F_Mk) (N := 5) hx hb htb in_Mk hown hK hP 0 rfl rfl 2 (by decide) (htb _ tw291) (fun _ h9 => h9) rfl d_Mk_numberEnded_26 ?_
        refine lv_bipush (v := 8) hx hb d_Mk_numberEnded_29 (by decide) ?_
        refine lv_icmp_ne (tgt := 38) hx hb d_Mk_numberEnded_31 rfl (fun hc => ?_) (fun hc => ?_)
        · have hw := hw.1 hc
          refine lv_iconst (v := 0) hx hb d_Mk_numberEnded_38 (by decide) ?_
          exact ct_zret false hx hb hr hlk hK hS () hw hP hD d_Mk_numberEnded_39
        · have hw := hw.2 hc
          refine lv_iconst (v := 1) hx hb d_Mk_numberEnded_34 (by decide) ?_
          refine lv_goto (tgt := 39) hx hb d_Mk_numberEnded_35 rfl ?_
          exact ct_zret true hx hb hr hlk hK hS () hw hP hD d_Mk_numberEnded_39
/-! DecimalPatterns$PatternMaker.inInteger()Z -/
def wp_Mk_inInteger (mk_st : Int32) (Q : Bool → Unit → Prop) : Prop := (mk_st = 0 → (Q true ())) ∧ (¬ mk_st = 0 → ((mk_st = 1 → (Q true ())) ∧ (¬ mk_st = 1 → ((¬ mk_st = 2 → (Q false ())) ∧ (mk_st = 2 → (Q true ()))))))
set_option maxHeartbeats 4000000 in
set_option maxRecDepth 100000 in
theorem c_Mk_inInteger (l : Launch) (D : va_G) (cA : ClassId) (mk mk_g : Nat) (mk_s : Nat) (mk_st : Int32) (mk_qd : Bool) (mk_qe : Bool) (Q : Bool → Unit → Prop) (hw : wp_Mk_inInteger mk_st Q) : ct_M vwCl l D [(cA, .int)] y_Mk_inInteger w_Mk_inInteger { frames := 0, cells := 0, slots := 0, locals := 0 } [.ref mk] (wd_MkO cA mk mk_g mk_s mk_st mk_qd mk_qe) (ct_qz vwCl D [(cA, .int)] Q (fun u => wd_MkO cA mk mk_g mk_s mk_st mk_qd mk_qe)) := by
  refine ct_enter (cc := b_Mk_inInteger) (maxL := 1) (ret := (some .boolean)) (by decide) rfl (Nat.le_of_ble_eq_true rfl) ?_
  intro p e s m args below meth c A ls hx hb hr hlk hml hts hown hA hS hP hK hN hD hl
  have hl : lv_has ls 1 [(0, .ref mk)] := hl
  have htb : ∀ w ∈ tbl, w.before args s = true := fun w h => hts w (List.mem_cons_of_mem _ h)
  have hown : s.vm.findClass "DecimalPatterns$PatternMaker" = some m.cls := hown
  unfold wp_Mk_inInteger at hw
  refine lv_aload_n hx hb d_Mk_inInteger_0 rfl (lv_at hl 0 rfl) ?_
  refine va_get (ci := 3) (C := R_Mk) (T := F_Mk) (N := 5) hx hb htb in_Mk hown hK hP 0 rfl rfl 2 (by decide) (htb _ tw291) (fun _ h9 => h9) rfl d_Mk_inInteger_1 ?_
  refine lv_if_eq (tgt := 23) hx hb d_Mk_inInteger_4 rfl (fun hc => ?_) (fun hc => ?_)
  · have hw := hw.1 hc
    refine lv_iconst (v := 1) hx hb d_Mk_inInteger_23 (by decide) ?_
    refine lv_goto (tgt := 28) hx hb d_Mk_inInteger_24 rfl ?_
    exact ct_zret true hx hb hr hlk hK hS () hw hP hD d_Mk_inInteger_28
  · have hw := hw.2 hc
    refine lv_aload_n hx hb d_Mk_inInteger_7 rfl (lv_at hl 0 rfl) ?_
    refine va_get (ci := 3) (C := R_Mk) (T := F_Mk) (N := 5) hx hb htb in_Mk hown hK hP 0 rfl rfl 2 (by decide) (htb _ tw291) (fun _ h9 => h9) rfl d_Mk_inInteger_8 ?_
    refine lv_iconst (v := 1) hx hb d_Mk_inInteger_11 (by decide) ?_
    refine lv_icmp_eq (tgt := 23) hx hb d_Mk_inInteger_12 rfl (fun hc => ?_) (fun hc => ?_)
    · have hw := hw.1 hc
      refine lv_iconst (v := 1) hx hb d_Mk_inInteger_23 (by decide) ?_
      refine lv_goto (tgt := 28) hx hb d_Mk_inInteger_24 rfl ?_
      exact ct_zret true hx hb hr hlk hK hS () hw hP hD d_Mk_inInteger_28
    · have hw := hw.2 hc
      refine lv_aload_n hx hb d_Mk_inInteger_15 rfl (lv_at hl 0 rfl) ?_
      refine va_get (ci := 3) (C := R_Mk) (T := F_Mk) (N := 5) hx hb htb in_Mk hown hK hP 0 rfl rfl 2 (by decide) (htb _ tw291) (fun _ h9 => h9) rfl d_Mk_inInteger_16 ?_
      refine lv_iconst (v := 2) hx hb d_Mk_inInteger_19 (by decide) ?_
      refine lv_icmp_ne (tgt := 27) hx hb d_Mk_inInteger_20 rfl (fun hc => ?_) (fun hc => ?_)
      · have hw := hw.1 hc
        refine lv_iconst (v := 0) hx hb d_Mk_inInteger_27 (by decide) ?_
        exact ct_zret false hx hb hr hlk hK hS () hw hP hD d_Mk_inInteger_28
      · have hw := hw.2 hc
        refine lv_iconst (v := 1) hx hb d_Mk_inInteger_23 (by decide) ?_
        refine lv_goto (tgt := 28) hx hb d_Mk_inInteger_24 rfl ?_
        exact ct_zret true hx hb hr hlk hK hS () hw hP hD d_Mk_inInteger_28
/-! DecimalPatterns$PatternMaker.takeHash()Z -/
def wp_Mk_takeHash (mk_st : Int32) (sb_h : Int32) (sb_z : Int32) (sb_b : Int32) (sb_f : Int32) (Q : Bool → (Int32 × Int32 × Int32 × Int32) → Prop) : Prop := (mk_st = 3 → (Q true (4, sb_h, sb_b, sb_f + 1))) ∧ (¬ mk_st = 3 → ((¬ mk_st = 4 → (wp_Mk_inInteger mk_st (fun r1 u2 => (r1 = false → (Q false (mk_st, sb_h, sb_b, sb_f))) ∧ (r1 = true → ((sb_z ≤ 0 → (Q true (1, sb_h + 1, sb_b + 1, sb_f))) ∧ (¬ sb_z ≤ 0 → (Q false (mk_st, sb_h, sb_b, sb_f)))))))) ∧ (mk_st = 4 → (Q true (4, sb_h, sb_b, sb_f + 1)))))
set_option maxHeartbeats 4000000 in
set_option maxRecDepth 100000 in
theorem c_Mk_takeHash (l : Launch) (D : va_G) (cA : ClassId) (mk sb mk_g sb_p sb_s : Nat) (mk_st : Int32) (mk_qd : Bool) (mk_qe : Bool) (sb_pm : Bool) (sb_h : Int32) (sb_z : Int32) (sb_c : Int32) (sb_b : Int32) (sb_t : Int32) (sb_f : Int32) (sb_q : Int32) (sb_e : Int32) (sb_x : Bool) (Q : Bool → (Int32 × Int32 × Int32 × Int32) → Prop) (hw : wp_Mk_takeHash mk_st sb_h sb_z sb_b sb_f Q) : ct_M vwCl l D [(cA, .int)] y_Mk_takeHash w_Mk_takeHash { frames := 1, cells := 0, slots := 0, locals := 20 } [.ref mk] (wd_MkSub cA mk sb mk_g sb_p sb_s mk_st mk_qd mk_qe sb_pm sb_h sb_z sb_c sb_b sb_t sb_f sb_q sb_e sb_x) (ct_qz vwCl D [(cA, .int)] Q (fun u => wd_MkSub cA mk sb mk_g sb_p sb_s u.1 mk_qd mk_qe sb_pm u.2.1 sb_z sb_c u.2.2.1 sb_t u.2.2.2 sb_q sb_e sb_x)) := by
  refine ct_enter (cc := b_Mk_takeHash) (maxL := 1) (ret := (some .boolean)) (by decide) rfl (Nat.le_of_ble_eq_true rfl) ?_
  intro p e s m args below meth c A ls hx hb hr hlk hml hts hown hA hS hP hK hN hD hl
  have hl : lv_has ls 1 [(0, .ref mk)] := hl
  have htb : ∀ w ∈ tbl, w.before args s = true := fun w h => hts w (List.mem_cons_of_mem _ h)
  have hown : s.vm.findClass "DecimalPatterns$PatternMaker" = some m.cls := hown
  unfold wp_Mk_takeHash at hw
  refine lv_aload_n hx hb d_Mk_takeHash_0 rfl (lv_at hl 0 rfl) ?_
  refine va_get (ci := 3) (C := R_Mk) (T := F_Mk) (N := 5) hx hb htb in_Mk hown hK hP 0 rfl rfl 2 (by decide) (htb _ tw291) (fun _ h9 => h9) rfl d_Mk_takeHash_1 ?_
  refine lv_iconst (v := 3) hx hb d_Mk_takeHash_4 (by decide) ?_
  refine lv_icmp_eq (tgt := 16) hx hb d_Mk_takeHash_5 rfl (fun hc => ?_) (fun hc => ?_)
  · have hw := hw.1 hc
    refine lv_aload_n hx hb d_Mk_takeHash_16 rfl (lv_at hl 0 rfl) ?_
    refine va_get (ci := 3) (C := R_Mk) (T := F_Mk) (N := 5) hx hb htb in_Mk hown hK hP 0 rfl rfl 1 (by decide) (htb _ tw290) (fun _ h9 => h9) rfl d_Mk_takeHash_17 ?_
    refine lv_dup hx hb d_Mk_takeHash_20 rfl ?_
    refine va_get (ci := 6) (C := R_Sb) (T := F_Sb) (N := 12) hx hb htb in_Sb hown hK hP 1 rfl rfl 8 (by decide) (htb _ tw232) (fun _ h9 => h9) rfl d_Mk_takeHash_21 ?_
    refine lv_iconst (v := 1) hx hb d_Mk_takeHash_24 (by decide) ?_
    refine lv_iadd hx hb d_Mk_takeHash_25 ?_
    refine va_put (ci := 6) (v := .int (sb_f + 1)) (ty := .int) (C := R_Sb) (T := F_Sb) (N := 12) hx hb htb in_Sb t_Sb t_Sb_ok n_Sb hown hK hP hD hS 1 rfl rfl 8 (by decide) (htb _ tw232) (fun _ h9 => h9) rfl (by decide +kernel) rfl rfl (Nat.le_of_ble_eq_true rfl) d_Mk_takeHash_26 (fun H locs hP hD hS => ?_)
    have hP : va_P D vwCl (wd_MkSub cA mk sb mk_g sb_p sb_s mk_st mk_qd mk_qe sb_pm sb_h sb_z sb_c sb_b sb_t (sb_f + 1) sb_q sb_e sb_x) H := hP
    have hD : va_D A (wd_MkSub cA mk sb mk_g sb_p sb_s mk_st mk_qd mk_qe sb_pm sb_h sb_z sb_c sb_b sb_t (sb_f + 1) sb_q sb_e sb_x) := hD
    refine lv_aload_n hx hb d_Mk_takeHash_29 rfl (lv_at hl 0 rfl) ?_
    refine lv_iconst (v := 4) hx hb d_Mk_takeHash_30 (by decide) ?_
    refine va_put (ci := 3) (v := .int 4) (ty := .int) (C := R_Mk) (T := F_Mk) (N := 5) hx hb htb in_Mk t_Mk t_Mk_ok n_Mk hown hK hP hD hS 0 rfl rfl 2 (by decide) (htb _ tw291) (fun _ h9 => h9) rfl (by decide +kernel) rfl rfl (Nat.le_of_ble_eq_true rfl) d_Mk_takeHash_31 (fun H locs hP hD hS => ?_)
    have hP : va_P D vwCl (wd_MkSub cA mk sb mk_g sb_p sb_s 4 mk_qd mk_qe sb_pm sb_h sb_z sb_c sb_b sb_t (sb_f + 1) sb_q sb_e sb_x) H := hP
    have hD : va_D A (wd_MkSub cA mk sb mk_g sb_p sb_s 4 mk_qd mk_qe sb_pm sb_h sb_z sb_c sb_b sb_t (sb_f + 1) sb_q sb_e sb_x) := hD
    refine lv_iconst (v := 1) hx hb d_Mk_takeHash_34 (by decide) ?_
    exact ct_zret true hx hb hr hlk hK hS (4, sb_h, sb_b, sb_f + 1) hw hP hD d_Mk_takeHash_35
  · have hw := hw.2 hc
    refine lv_aload_n hx hb d_Mk_takeHash_8 rfl (lv_at hl 0 rfl) ?_
    refine va_get (ci := 3) (C := R_Mk) (T := F_Mk) (N := 5) hx hb htb in_Mk hown hK hP 0 rfl rfl 2 (by decide) (htb _ tw291) (fun _ h9 => h9) rfl d_Mk_takeHash_9 ?_
    refine lv_iconst (v := 4) hx hb d_Mk_takeHash_12 (by decide) ?_
    refine lv_icmp_ne (tgt := 36) hx hb d_Mk_takeHash_13 rfl (fun hc => ?_) (fun hc => ?_)
    · have hw := hw.1 hc
      refine lv_aload_n hx hb d_Mk_takeHash_36 rfl (lv_at hl 0 rfl) ?_
      refine ct_callz (wn := fun _ => wd_MkSub cA mk sb mk_g sb_p sb_s mk_st mk_qd mk_qe sb_pm sb_h sb_z sb_c sb_b sb_t sb_f sb_q sb_e sb_x) (va_runV (As := []) (rest := []) ⟨hx, hb, hml, hown, htb⟩ (c_Mk_inInteger l D cA mk mk_g sb mk_st mk_qd mk_qe _ hw _) (ct_cwV 0 htb tw404 rfl rfl tw81 tw401 tw403 tw5 hd_Mk_inInteger ⟨by decide, by decide⟩) (ct_preV hP hD hK hN [0] rfl (by decide) 0 rfl rfl _) rfl rfl hl.1 rfl (lv_room (Nat.le_of_ble_eq_true rfl)) d_Mk_takeHash_37 ⟨Nat.zero_le _, Nat.zero_le _⟩) hP hD hS hA [0] [1] [1, 0] rfl rfl (by decide) (by decide) (fun _ => rfl) (by decide) (fun r1 u2 H locs hw hP hD hS => ?_)
      have hP : va_P D vwCl (wd_MkSub cA mk sb mk_g sb_p sb_s mk_st mk_qd mk_qe sb_pm sb_h sb_z sb_c sb_b sb_t sb_f sb_q sb_e sb_x) H := hP
      have hD : va_D A (wd_MkSub cA mk sb mk_g sb_p sb_s mk_st mk_qd mk_qe sb_pm sb_h sb_z sb_c sb_b sb_t sb_f sb_q sb_e sb_x) := hD
      refine lv_if_eq (tgt := 53) hx hb d_Mk_takeHash_40 rfl (fun hc => ?_) (fun hc => ?_)
      · have hw := hw.1 ((bI_0 _).mp hc)
        refine lv_iconst (v := 0) hx hb d_Mk_takeHash_53 (by decide) ?_
        exact ct_zret false hx hb hr hlk hK hS (mk_st, sb_h, sb_b, sb_f) hw hP hD d_Mk_takeHash_54
      · have hw := hw.2 ((bI_n0 _).mp hc)
        refine lv_aload_n hx hb d_Mk_takeHash_43 rfl (lv_at hl 0 rfl) ?_
        refine va_get (ci := 3) (C := R_Mk) (T := F_Mk) (N := 5) hx hb htb in_Mk hown hK hP 0 rfl rfl 1 (by decide) (htb _ tw290) (fun _ h9 => h9) rfl d_Mk_takeHash_44 ?_
        refine va_get (ci := 6) (C := R_Sb) (T := F_Sb) (N := 12) hx hb htb in_Sb hown hK hP 1 rfl rfl 4 (by decide) (htb _ tw222) (fun _ h9 => h9) rfl d_Mk_takeHash_47 ?_
        refine lv_if_le (tgt := 55) hx hb d_Mk_takeHash_50 rfl (fun hc => ?_) (fun hc => ?_)
        · have hw := hw.1 hc
          refine lv_aload_n hx hb d_Mk_takeHash_55 rfl (lv_at hl 0 rfl) ?_
          refine va_get (ci := 3) (C := R_Mk) (T := F_Mk) (N := 5) hx hb htb in_Mk hown hK hP 0 rfl rfl 1 (by decide) (htb _ tw290) (fun _ h9 => h9) rfl d_Mk_takeHash_56 ?_
          refine lv_dup hx hb d_Mk_takeHash_59 rfl ?_
          refine va_get (ci := 6) (C := R_Sb) (T := F_Sb) (N := 12) hx hb htb in_Sb hown hK hP 1 rfl rfl 3 (by decide) (htb _ tw218) (fun _ h9 => h9) rfl d_Mk_takeHash_60 ?_
          refine lv_iconst (v := 1) hx hb d_Mk_takeHash_63 (by decide) ?_
          refine lv_iadd hx hb d_Mk_takeHash_64 ?_
          refine va_put (ci := 6) (v := .int (sb_h + 1)) (ty := .int) (C := R_Sb) (T := F_Sb) (N := 12) hx hb htb in_Sb t_Sb t_Sb_ok n_Sb hown hK hP hD hS 1 rfl rfl 3 (by decide) (htb _ tw218) (fun _ h9 => h9) rfl (by decide +kernel) rfl rfl (Nat.le_of_ble_eq_true rfl) d_Mk_takeHash_65 (fun H locs hP hD hS => ?_)
          have hP : va_P D vwCl (wd_MkSub cA mk sb mk_g sb_p sb_s mk_st mk_qd mk_qe sb_pm (sb_h + 1) sb_z sb_c sb_b sb_t sb_f sb_q sb_e sb_x) H := hP
          have hD : va_D A (wd_MkSub cA mk sb mk_g sb_p sb_s mk_st mk_qd mk_qe sb_pm (sb_h + 1) sb_z sb_c sb_b sb_t sb_f sb_q sb_e sb_x) := hD
          refine lv_aload_n hx hb d_Mk_takeHash_68 rfl (lv_at hl 0 rfl) ?_
          refine va_get (ci := 3) (C := R_Mk) (T := F_Mk) (N := 5) hx hb htb in_Mk hown hK hP 0 rfl rfl 1 (by decide) (htb _ tw290) (fun _ h9 => h9) rfl d_Mk_takeHash_69 ?_
          refine lv_dup hx hb d_Mk_takeHash_72 rfl ?_
          refine va_get (ci := 6) (C := R_Sb) (T := F_Sb) (N := 12) hx hb htb in_Sb hown hK hP 1 rfl rfl 6 (by decide) (htb _ tw227) (fun _ h9 => h9) rfl d_Mk_takeHash_73 ?_
          refine lv_iconst (v := 1) hx hb d_Mk_takeHash_76 (by decide) ?_
          refine lv_iadd hx hb d_Mk_takeHash_77 ?_
          refine va_put (ci := 6) (v := .int (sb_b + 1)) (ty := .int) (C := R_Sb) (T := F_Sb) (N := 12) hx hb htb in_Sb t_Sb t_Sb_ok n_Sb hown hK hP hD hS 1 rfl rfl 6 (by decide) (htb _ tw227) (fun _ h9 => h9) rfl (by decide +kernel) rfl rfl (Nat.le_of_ble_eq_true rfl) d_Mk_takeHash_78 (fun H locs hP hD hS => ?_)
          have hP : va_P D vwCl (wd_MkSub cA mk sb mk_g sb_p sb_s mk_st mk_qd mk_qe sb_pm (sb_h + 1) sb_z sb_c (sb_b + 1) sb_t sb_f sb_q sb_e sb_x) H := hP
          have hD : va_D A (wd_MkSub cA mk sb mk_g sb_p sb_s mk_st mk_qd mk_qe sb_pm (sb_h + 1) sb_z sb_c (sb_b + 1) sb_t sb_f sb_q sb_e sb_x) := hD
          refine lv_aload_n hx hb d_Mk_takeHash_81 rfl (lv_at hl 0 rfl) ?_
          refine lv_iconst (v := 1) hx hb d_Mk_takeHash_82 (by decide) ?_
          refine va_put (ci := 3) (v := .int 1) (ty := .int) (C := R_Mk) (T := F_Mk) (N := 5) hx hb htb in_Mk t_Mk t_Mk_ok n_Mk hown hK hP hD hS 0 rfl rfl 2 (by decide) (htb _ tw291) (fun _ h9 => h9) rfl (by decide +kernel) rfl rfl (Nat.le_of_ble_eq_true rfl) d_Mk_takeHash_83 (fun H locs hP hD hS => ?_)
          have hP : va_P D vwCl (wd_MkSub cA mk sb mk_g sb_p sb_s 1 mk_qd mk_qe sb_pm (sb_h + 1) sb_z sb_c (sb_b + 1) sb_t sb_f sb_q sb_e sb_x) H := hP
          have hD : va_D A (wd_MkSub cA mk sb mk_g sb_p sb_s 1 mk_qd mk_qe sb_pm (sb_h + 1) sb_z sb_c (sb_b + 1) sb_t sb_f sb_q sb_e sb_x) := hD
          refine lv_iconst (v := 1) hx hb d_Mk_takeHash_86 (by decide) ?_
          exact ct_zret true hx hb hr hlk hK hS (1, sb_h + 1, sb_b + 1, sb_f) hw hP hD d_Mk_takeHash_87
        · have hw := hw.2 hc
          refine lv_iconst (v := 0) hx hb d_Mk_takeHash_53 (by decide) ?_
          exact ct_zret false hx hb hr hlk hK hS (mk_st, sb_h, sb_b, sb_f) hw hP hD d_Mk_takeHash_54
    · have hw := hw.2 hc
      refine lv_aload_n hx hb d_Mk_takeHash_16 rfl (lv_at hl 0 rfl) ?_
      refine va_get (ci := 3) (C := R_Mk) (T := F_Mk) (N := 5) hx hb htb in_Mk hown hK hP 0 rfl rfl 1 (by decide) (htb _ tw290) (fun _ h9 => h9) rfl d_Mk_takeHash_17 ?_
      refine lv_dup hx hb d_Mk_takeHash_20 rfl ?_
      refine va_get (ci := 6) (C := R_Sb) (T := F_Sb) (N := 12) hx hb htb in_Sb hown hK hP 1 rfl rfl 8 (by decide) (htb _ tw232) (fun _ h9 => h9) rfl d_Mk_takeHash_21 ?_
      refine lv_iconst (v := 1) hx hb d_Mk_takeHash_24 (by decide) ?_
      refine lv_iadd hx hb d_Mk_takeHash_25 ?_
      refine va_put (ci := 6) (v := .int (sb_f + 1)) (ty := .int) (C := R_Sb) (T := F_Sb) (N := 12) hx hb htb in_Sb t_Sb t_Sb_ok n_Sb hown hK hP hD hS 1 rfl rfl 8 (by decide) (htb _ tw232) (fun _ h9 => h9) rfl (by decide +kernel) rfl rfl (Nat.le_of_ble_eq_true rfl) d_Mk_takeHash_26 (fun H locs hP hD hS => ?_)
      have hP : va_P D vwCl (wd_MkSub cA mk sb mk_g sb_p sb_s mk_st mk_qd mk_qe sb_pm sb_h sb_z sb_c sb_b sb_t (sb_f + 1) sb_q sb_e sb_x) H := hP
      have hD : va_D A (wd_MkSub cA mk sb mk_g sb_p sb_s mk_st mk_qd mk_qe sb_pm sb_h sb_z sb_c sb_b sb_t (sb_f + 1) sb_q sb_e sb_x) := hD
      refine lv_aload_n hx hb d_Mk_takeHash_29 rfl (lv_at hl 0 rfl) ?_
      refine lv_iconst (v := 4) hx hb d_Mk_takeHash_30 (by decide) ?_
      refine va_put (ci := 3) (v := .int 4) (ty := .int) (C := R_Mk) (T := F_Mk) (N := 5) hx hb htb in_Mk t_Mk t_Mk_ok n_Mk hown hK hP hD hS 0 rfl rfl 2 (by decide) (htb _ tw291) (fun _ h9 => h9) rfl (by decide +kernel) rfl rfl (Nat.le_of_ble_eq_true rfl) d_Mk_takeHash_31 (fun H locs hP hD hS => ?_)
      have hP : va_P D vwCl (wd_MkSub cA mk sb mk_g sb_p sb_s 4 mk_qd mk_qe sb_pm sb_h sb_z sb_c sb_b sb_t (sb_f + 1) sb_q sb_e sb_x) H := hP
      have hD : va_D A (wd_MkSub cA mk sb mk_g sb_p sb_s 4 mk_qd mk_qe sb_pm sb_h sb_z sb_c sb_b sb_t (sb_f + 1) sb_q sb_e sb_x) := hD
      refine lv_iconst (v := 1) hx hb d_Mk_takeHash_34 (by decide) ?_
      exact ct_zret true hx hb hr hlk hK hS (4, sb_h, sb_b, sb_f + 1) hw hP hD d_Mk_takeHash_35
/-! DecimalPatterns$PatternMaker.takeFractionZero()Z -/
def wp_Mk_takeFractionZero (mk_st : Int32) (sb_f : Int32) (sb_q : Int32) (Q : Bool → (Int32 × Int32 × Int32) → Prop) : Prop := (sb_f ≤ sb_q → (Q true (4, sb_f + 1, sb_q + 1))) ∧ (¬ sb_f ≤ sb_q → (Q false (mk_st, sb_f, sb_q)))
set_option maxHeartbeats 4000000 in
set_option maxRecDepth 100000 in
theorem c_Mk_takeFractionZero (l : Launch) (D : va_G) (cA : ClassId) (mk sb mk_g sb_p sb_s : Nat) (mk_st : Int32) (mk_qd : Bool) (mk_qe : Bool) (sb_pm : Bool) (sb_h : Int32) (sb_z : Int32) (sb_c : Int32) (sb_b : Int32) (sb_t : Int32) (sb_f : Int32) (sb_q : Int32) (sb_e : Int32) (sb_x : Bool) (Q : Bool → (Int32 × Int32 × Int32) → Prop) (hw : wp_Mk_takeFractionZero mk_st sb_f sb_q Q) : ct_M vwCl l D [(cA, .int)] y_Mk_takeFractionZero w_Mk_takeFractionZero { frames := 0, cells := 0, slots := 0, locals := 0 } [.ref mk] (wd_MkSub cA mk sb mk_g sb_p sb_s mk_st mk_qd mk_qe sb_pm sb_h sb_z sb_c sb_b sb_t sb_f sb_q sb_e sb_x) (ct_qz vwCl D [(cA, .int)] Q (fun u => wd_MkSub cA mk sb mk_g sb_p sb_s u.1 mk_qd mk_qe sb_pm sb_h sb_z sb_c sb_b sb_t u.2.1 u.2.2 sb_e sb_x)) := by
  refine ct_enter (cc := b_Mk_takeFractionZero) (maxL := 1) (ret := (some .boolean)) (by decide) rfl (Nat.le_of_ble_eq_true rfl) ?_
  intro p e s m args below meth c A ls hx hb hr hlk hml hts hown hA hS hP hK hN hD hl
  have hl : lv_has ls 1 [(0, .ref mk)] := hl
  have htb : ∀ w ∈ tbl, w.before args s = true := fun w h => hts w (List.mem_cons_of_mem _ h)
  have hown : s.vm.findClass "DecimalPatterns$PatternMaker" = some m.cls := hown
  unfold wp_Mk_takeFractionZero at hw
  refine lv_aload_n hx hb d_Mk_takeFractionZero_0 rfl (lv_at hl 0 rfl) ?_
  refine va_get (ci := 3) (C := R_Mk) (T := F_Mk) (N := 5) hx hb htb in_Mk hown hK hP 0 rfl rfl 1 (by decide) (htb _ tw290) (fun _ h9 => h9) rfl d_Mk_takeFractionZero_1 ?_
  refine va_get (ci := 6) (C := R_Sb) (T := F_Sb) (N := 12) hx hb htb in_Sb hown hK hP 1 rfl rfl 8 (by decide) (htb _ tw232) (fun _ h9 => h9) rfl d_Mk_takeFractionZero_4 ?_
  refine lv_aload_n hx hb d_Mk_takeFractionZero_7 rfl (lv_at hl 0 rfl) ?_
  refine va_get (ci := 3) (C := R_Mk) (T := F_Mk) (N := 5) hx hb htb in_Mk hown hK hP 0 rfl rfl 1 (by decide) (htb _ tw290) (fun _ h9 => h9) rfl d_Mk_takeFractionZero_8 ?_
  refine va_get (ci := 6) (C := R_Sb) (T := F_Sb) (N := 12) hx hb htb in_Sb hown hK hP 1 rfl rfl 9 (by decide) (htb _ tw235) (fun _ h9 => h9) rfl d_Mk_takeFractionZero_11 ?_
  refine lv_icmp_le (tgt := 19) hx hb d_Mk_takeFractionZero_14 rfl (fun hc => ?_) (fun hc => ?_)
  · have hw := hw.1 hc
    refine lv_aload_n hx hb d_Mk_takeFractionZero_19 rfl (lv_at hl 0 rfl) ?_
    refine va_get (ci := 3) (C := R_Mk) (T := F_Mk) (N := 5) hx hb htb in_Mk hown hK hP 0 rfl rfl 1 (by decide) (htb _ tw290) (fun _ h9 => h9) rfl d_Mk_takeFractionZero_20 ?_
    refine lv_dup hx hb d_Mk_takeFractionZero_23 rfl ?_
    refine va_get (ci := 6) (C := R_Sb) (T := F_Sb) (N := 12) hx hb htb in_Sb hown hK hP 1 rfl rfl 8 (by decide) (htb _ tw232) (fun _ h9 => h9) rfl d_Mk_takeFractionZero_24 ?_
    refine lv_iconst (v := 1) hx hb d_Mk_takeFractionZero_27 (by decide) ?_
    refine lv_iadd hx hb d_Mk_takeFractionZero_28 ?_
    refine va_put (ci := 6) (v := .int (sb_f + 1)) (ty := .int) (C := R_Sb) (T := F_Sb) (N := 12) hx hb htb in_Sb t_Sb t_Sb_ok n_Sb hown hK hP hD hS 1 rfl rfl 8 (by decide) (htb _ tw232) (fun _ h9 => h9) rfl (by decide +kernel) rfl rfl (Nat.le_of_ble_eq_true rfl) d_Mk_takeFractionZero_29 (fun H locs hP hD hS => ?_)
    have hP : va_P D vwCl (wd_MkSub cA mk sb mk_g sb_p sb_s mk_st mk_qd mk_qe sb_pm sb_h sb_z sb_c sb_b sb_t (sb_f + 1) sb_q sb_e sb_x) H := hP
    have hD : va_D A (wd_MkSub cA mk sb mk_g sb_p sb_s mk_st mk_qd mk_qe sb_pm sb_h sb_z sb_c sb_b sb_t (sb_f + 1) sb_q sb_e sb_x) := hD
    refine lv_aload_n hx hb d_Mk_takeFractionZero_32 rfl (lv_at hl 0 rfl) ?_
    refine va_get (ci := 3) (C := R_Mk) (T := F_Mk) (N := 5) hx hb htb in_Mk hown hK hP 0 rfl rfl 1 (by decide) (htb _ tw290) (fun _ h9 => h9) rfl d_Mk_takeFractionZero_33 ?_
    refine lv_dup hx hb d_Mk_takeFractionZero_36 rfl ?_
    refine va_get (ci := 6) (C := R_Sb) (T := F_Sb) (N := 12) hx hb htb in_Sb hown hK hP 1 rfl rfl 9 (by decide) (htb _ tw235) (fun _ h9 => h9) rfl d_Mk_takeFractionZero_37 ?_
    refine lv_iconst (v := 1) hx hb d_Mk_takeFractionZero_40 (by decide) ?_
    refine lv_iadd hx hb d_Mk_takeFractionZero_41 ?_
    refine va_put (ci := 6) (v := .int (sb_q + 1)) (ty := .int) (C := R_Sb) (T := F_Sb) (N := 12) hx hb htb in_Sb t_Sb t_Sb_ok n_Sb hown hK hP hD hS 1 rfl rfl 9 (by decide) (htb _ tw235) (fun _ h9 => h9) rfl (by decide +kernel) rfl rfl (Nat.le_of_ble_eq_true rfl) d_Mk_takeFractionZero_42 (fun H locs hP hD hS => ?_)
    have hP : va_P D vwCl (wd_MkSub cA mk sb mk_g sb_p sb_s mk_st mk_qd mk_qe sb_pm sb_h sb_z sb_c sb_b sb_t (sb_f + 1) (sb_q + 1) sb_e sb_x) H := hP
    have hD : va_D A (wd_MkSub cA mk sb mk_g sb_p sb_s mk_st mk_qd mk_qe sb_pm sb_h sb_z sb_c sb_b sb_t (sb_f + 1) (sb_q + 1) sb_e sb_x) := hD
    refine lv_aload_n hx hb d_Mk_takeFractionZero_45 rfl (lv_at hl 0 rfl) ?_
    refine lv_iconst (v := 4) hx hb d_Mk_takeFractionZero_46 (by decide) ?_
    refine va_put (ci := 3) (v := .int 4) (ty := .int) (C := R_Mk) (T := F_Mk) (N := 5) hx hb htb in_Mk t_Mk t_Mk_ok n_Mk hown hK hP hD hS 0 rfl rfl 2 (by decide) (htb _ tw291) (fun _ h9 => h9) rfl (by decide +kernel) rfl rfl (Nat.le_of_ble_eq_true rfl) d_Mk_takeFractionZero_47 (fun H locs hP hD hS => ?_)
    have hP : va_P D vwCl (wd_MkSub cA mk sb mk_g sb_p sb_s 4 mk_qd mk_qe sb_pm sb_h sb_z sb_c sb_b sb_t (sb_f + 1) (sb_q + 1) sb_e sb_x) H := hP
    have hD : va_D A (wd_MkSub cA mk sb mk_g sb_p sb_s 4 mk_qd mk_qe sb_pm sb_h sb_z sb_c sb_b sb_t (sb_f + 1) (sb_q + 1) sb_e sb_x) := hD
    refine lv_iconst (v := 1) hx hb d_Mk_takeFractionZero_50 (by decide) ?_
    exact ct_zret true hx hb hr hlk hK hS (4, sb_f + 1, sb_q + 1) hw hP hD d_Mk_takeFractionZero_51
  · have hw := hw.2 hc
    refine lv_iconst (v := 0) hx hb d_Mk_takeFractionZero_17 (by decide) ?_
    exact ct_zret false hx hb hr hlk hK hS (mk_st, sb_f, sb_q) hw hP hD d_Mk_takeFractionZero_18
/-! DecimalPatterns$PatternMaker.takeZero()Z -/
def wp_Mk_takeZero (mk_st : Int32) (sb_z : Int32) (sb_b : Int32) (sb_f : Int32) (sb_q : Int32) (sb_e : Int32) (Q : Bool → (Int32 × Int32 × Int32 × Int32 × Int32 × Int32) → Prop) : Prop := wp_Mk_inInteger mk_st (fun r1 u2 => (r1 = false → ((mk_st = 3 → (wp_Mk_takeFractionZero mk_st sb_f sb_q (fun r3 u4 => Q r3 (u4.1, sb_z, sb_b, u4.2.1, u4.2.2, sb_e)))) ∧ (¬ mk_st = 3 → ((¬ mk_st = 4 → ((mk_st = 5 → (Q true (7, sb_z, sb_b, sb_f, sb_q, sb_e + 1))) ∧ (¬ mk_st = 5 → ((mk_st = 6 → (Q true (7, sb_z, sb_b, sb_f, sb_q, sb_e + 1))) ∧ (¬ mk_st = 6 → ((¬ mk_st = 7 → (Q false (mk_st, sb_z, sb_b, sb_f, sb_q, sb_e))) ∧ (mk_st = 7 → (Q true (7, sb_z, sb_b, sb_f, sb_q, sb_e + 1))))))))) ∧ (mk_st = 4 → (wp_Mk_takeFractionZero mk_st sb_f sb_q (fun r5 u6 => Q r5 (u6.1, sb_z, sb_b, u6.2.1, u6.2.2, sb_e)))))))) ∧ (r1 = true → (Q true (1, sb_z + 1, sb_b + 1, sb_f, sb_q, sb_e))))
set_option maxHeartbeats 4000000 in
set_option maxRecDepth 100000 in
theorem c_Mk_takeZero (l : Launch) (D : va_G) (cA : ClassId) (mk sb mk_g sb_p sb_s : Nat) (mk_st : Int32) (mk_qd : Bool) (mk_qe : Bool) (sb_pm : Bool) (sb_h : Int32) (sb_z : Int32) (sb_c : Int32) (sb_b : Int32) (sb_t : Int32) (sb_f : Int32) (sb_q : Int32) (sb_e : Int32) (sb_x : Bool) (Q : Bool → (Int32 × Int32 × Int32 × Int32 × Int32 × Int32) → Prop) (hw : wp_Mk_takeZero mk_st sb_z sb_b sb_f sb_q sb_e Q) : ct_M vwCl l D [(cA, .int)] y_Mk_takeZero w_Mk_takeZero { frames := 1, cells := 0, slots := 0, locals := 20 } [.ref mk] (wd_MkSub cA mk sb mk_g sb_p sb_s mk_st mk_qd mk_qe sb_pm sb_h sb_z sb_c sb_b sb_t sb_f sb_q sb_e sb_x) (ct_qz vwCl D [(cA, .int)] Q (fun u => wd_MkSub cA mk sb mk_g sb_p sb_s u.1 mk_qd mk_qe sb_pm sb_h u.2.1 sb_c u.2.2.1 sb_t u.2.2.2.1 u.2.2.2.2.1 u.2.2.2.2.2 sb_x)) := by
  refine ct_enter (cc := b_Mk_takeZero) (maxL := 1) (ret := (some .boolean)) (by decide) rfl (Nat.le_of_ble_eq_true rfl) ?_
  intro p e s m args below meth c A ls hx hb hr hlk hml hts hown hA hS hP hK hN hD hl
  have hl : lv_has ls 1 [(0, .ref mk)] := hl
  have htb : ∀ w ∈ tbl, w.before args s = true := fun w h => hts w (List.mem_cons_of_mem _ h)
  have hown : s.vm.findClass "DecimalPatterns$PatternMaker" = some m.cls := hown
  unfold wp_Mk_takeZero at hw
  refine lv_aload_n hx hb d_Mk_takeZero_0 rfl (lv_at hl 0 rfl) ?_
  refine ct_callz (wn := fun _ => wd_MkSub cA mk sb mk_g sb_p sb_s mk_st mk_qd mk_qe sb_pm sb_h sb_z sb_c sb_b sb_t sb_f sb_q sb_e sb_x) (va_runV (As := []) (rest := []) ⟨hx, hb, hml, hown, htb⟩ (c_Mk_inInteger l D cA mk mk_g sb mk_st mk_qd mk_qe _ hw _) (ct_cwV 0 htb tw404 rfl rfl tw81 tw401 tw403 tw5 hd_Mk_inInteger ⟨by decide, by decide⟩) (ct_preV hP hD hK hN [0] rfl (by decide) 0 rfl rfl _) rfl rfl hl.1 rfl (lv_room (Nat.le_of_ble_eq_true rfl)) d_Mk_takeZero_1 ⟨Nat.zero_le _, Nat.zero_le _⟩) hP hD hS hA [0] [1] [1, 0] rfl rfl (by decide) (by decide) (fun _ => rfl) (by decide) (fun r1 u2 H locs hw hP hD hS => ?_)
  have hP : va_P D vwCl (wd_MkSub cA mk sb mk_g sb_p sb_s mk_st mk_qd mk_qe sb_pm sb_h sb_z sb_c sb_b sb_t sb_f sb_q sb_e sb_x) H := hP
  have hD : va_D A (wd_MkSub cA mk sb mk_g sb_p sb_s mk_st mk_qd mk_qe sb_pm sb_h sb_z sb_c sb_b sb_t sb_f sb_q sb_e sb_x) := hD
  refine lv_if_eq (tgt := 40) hx hb d_Mk_takeZero_4 rfl (fun hc => ?_) (fun hc => ?_)
  · have hw := hw.1 ((bI_0 _).mp hc)
    refine lv_aload_n hx hb d_Mk_takeZero_40 rfl (lv_at hl 0 rfl) ?_
    refine va_get (ci := 3) (C := R_Mk) (T := F_Mk) (N := 5) hx hb htb in_Mk hown hK hP 0 rfl rfl 2 (by decide) (htb _ tw291) (fun _ h9 => h9) rfl d_Mk_takeZero_41 ?_
    refine lv_iconst (v := 3) hx hb d_Mk_takeZero_44 (by decide) ?_
    refine lv_icmp_eq (tgt := 56) hx hb d_Mk_takeZero_45 rfl (fun hc => ?_) (fun hc => ?_)
    · have hw := hw.1 hc
      refine lv_aload_n hx hb d_Mk_takeZero_56 rfl (lv_at hl 0 rfl) ?_
      refine ct_callz (wn := fun u4 => wd_MkSub cA mk sb mk_g sb_p sb_s u4.1 mk_qd mk_qe sb_pm sb_h sb_z sb_c sb_b sb_t u4.2.1 u4.2.2 sb_e sb_x) (va_runV (As := []) (rest := []) ⟨hx, hb, hml, hown, htb⟩ (c_Mk_takeFractionZero l D cA mk sb mk_g sb_p sb_s mk_st mk_qd mk_qe sb_pm sb_h sb_z sb_c sb_b sb_t sb_f sb_q sb_e sb_x _ hw _) (ct_cwV 0 htb tw412 rfl rfl tw81 tw409 tw411 tw7 hd_Mk_takeFractionZero ⟨by decide, by decide⟩) (ct_preV hP hD hK hN [0, 1] rfl (by decide) 0 rfl rfl _) rfl rfl hl.1 rfl (lv_room (Nat.le_of_ble_eq_true rfl)) d_Mk_takeZero_57 ⟨Nat.zero_le _, Nat.zero_le _⟩) hP hD hS hA [0, 1] [] [0, 1] rfl rfl (by decide) (by decide) (fun _ => rfl) (by decide) (fun r3 u4 H locs hw hP hD hS => ?_)
      have hP : va_P D vwCl (wd_MkSub cA mk sb mk_g sb_p sb_s u4.1 mk_qd mk_qe sb_pm sb_h sb_z sb_c sb_b sb_t u4.2.1 u4.2.2 sb_e sb_x) H := hP
      have hD : va_D A (wd_MkSub cA mk sb mk_g sb_p sb_s u4.1 mk_qd mk_qe sb_pm sb_h sb_z sb_c sb_b sb_t u4.2.1 u4.2.2 sb_e sb_x) := hD
      exact ct_zret r3 hx hb hr hlk hK hS (u4.1, sb_z, sb_b, u4.2.1, u4.2.2, sb_e) hw hP hD d_Mk_takeZero_60
    · have hw := hw.2 hc
      refine lv_aload_n hx hb d_Mk_takeZero_48 rfl (lv_at hl 0 rfl) ?_
      refine va_get (ci := 3) (C := R_Mk) (T := F_Mk) (N := 5) hx hb htb in_Mk hown hK hP 0 rfl rfl 2 (by decide) (htb _ tw291) (fun _ h9 => h9) rfl d_Mk_takeZero_49 ?_
      refine lv_iconst (v := 4) hx hb d_Mk_takeZero_52 (by decide) ?_
      refine lv_icmp_ne (tgt := 61) hx hb d_Mk_takeZero_53 rfl (fun hc => ?_) (fun hc => ?_)
      · have hw := hw.1 hc
        refine lv_aload_n hx hb d_Mk_takeZero_61 rfl (lv_at hl 0 rfl) ?_
        refine va_get (ci := 3) (C := R_Mk) (T := F_Mk) (N := 5) hx hb htb in_Mk hown hK hP 0 rfl rfl 2 (by decide) (htb _ tw291) (fun _ h9 => h9) rfl d_Mk_takeZero_62 ?_
        refine lv_iconst (v := 5) hx hb d_Mk_takeZero_65 (by decide) ?_
        refine lv_icmp_eq (tgt := 87) hx hb d_Mk_takeZero_66 rfl (fun hc => ?_) (fun hc => ?_)
        · have hw := hw.1 hc
          refine lv_aload_n hx hb d_Mk_takeZero_87 rfl (lv_at hl 0 rfl) ?_
          refine va_get (ci := 3) (C := R_Mk) (T := F_Mk) (N := 5) hx hb htb in_Mk hown hK hP 0 rfl rfl 1 (by decide) (htb _ tw290) (fun _ h9 => h9) rfl d_Mk_takeZero_88 ?_
          refine lv_dup hx hb d_Mk_takeZero_91 rfl ?_
          refine va_get (ci := 6) (C := R_Sb) (T := F_Sb) (N := 12) hx hb htb in_Sb hown hK hP 1 rfl rfl 10 (by decide) (htb _ tw238) (fun _ h9 => h9) rfl d_Mk_takeZero_92 ?_
          refine lv_iconst (v := 1) hx hb d_Mk_takeZero_95 (by decide) ?_
          refine lv_iadd hx hb d_Mk_takeZero_96 ?_
          refine va_put (ci := 6) (v := .int (sb_e + 1)) (ty := .int) (C := R_Sb) (T := F_Sb) (N := 12) hx hb htb in_Sb t_Sb t_Sb_ok n_Sb hown hK hP hD hS 1 rfl rfl 10 (by decide) (htb _ tw238) (fun _ h9 => h9) rfl (by decide +kernel) rfl rfl (Nat.le_of_ble_eq_true rfl) d_Mk_takeZero_97 (fun H locs hP hD hS => ?_)
          have hP : va_P D vwCl (wd_MkSub cA mk sb mk_g sb_p sb_s mk_st mk_qd mk_qe sb_pm sb_h sb_z sb_c sb_b sb_t sb_f sb_q (sb_e + 1) sb_x) H := hP
          have hD : va_D A (wd_MkSub cA mk sb mk_g sb_p sb_s mk_st mk_qd mk_qe sb_pm sb_h sb_z sb_c sb_b sb_t sb_f sb_q (sb_e + 1) sb_x) := hD
          refine lv_aload_n hx hb d_Mk_takeZero_100 rfl (lv_at hl 0 rfl) ?_
          refine lv_bipush (v := 7) hx hb d_Mk_takeZero_101 (by decide) ?_
          refine va_put (ci := 3) (v := .int 7) (ty := .int) (C := R_Mk) (T := F_Mk) (N := 5) hx hb htb in_Mk t_Mk t_Mk_ok n_Mk hown hK hP hD hS 0 rfl rfl 2 (by decide) (htb _ tw291) (fun _ h9 => h9) rfl (by decide +kernel) rfl rfl (Nat.le_of_ble_eq_true rfl) d_Mk_takeZero_103 (fun H locs hP hD hS => ?_)
          have hP : va_P D vwCl (wd_MkSub cA mk sb mk_g sb_p sb_s 7 mk_qd mk_qe sb_pm sb_h sb_z sb_c sb_b sb_t sb_f sb_q (sb_e + 1) sb_x) H := hP
          have hD : va_D A (wd_MkSub cA mk sb mk_g sb_p sb_s 7 mk_qd mk_qe sb_pm sb_h sb_z sb_c sb_b sb_t sb_f sb_q (sb_e + 1) sb_x) := hD
          refine lv_iconst (v := 1) hx hb d_Mk_takeZero_106 (by decide) ?_
          exact ct_zret true hx hb hr hlk hK hS (7, sb_z, sb_b, sb_f, sb_q, sb_e + 1) hw hP hD d_Mk_takeZero_107
        · have hw := hw.2 hc
          refine lv_aload_n hx hb d_Mk_takeZero_69 rfl (lv_at hl 0 rfl) ?_
          refine va_get (ci := 3) (C := R_Mk) (T := F_Mk) (N := 5) hx hb htb in_Mk hown hK hP 0 rfl rfl 2 (by decide) (htb _ tw291) (fun _ h9 => h9) rfl d_Mk_takeZero_70 ?_
          refine lv_bipush (v := 6) hx hb d_Mk_takeZero_73 (by decide) ?_
          refine lv_icmp_eq (tgt := 87) hx hb d_Mk_takeZero_75 rfl (fun hc => ?_) (fun hc => ?_)
          · have hw := hw.1 hc
            refine lv_aload_n hx hb d_Mk_takeZero_87 rfl (lv_at hl 0 rfl) ?_
            refine va_get (ci := 3) (C := R_Mk) (T := F_Mk) (N := 5) hx hb htb in_Mk hown hK hP 0 rfl rfl 1 (by decide) (htb _ tw290) (fun _ h9 => h9) rfl d_Mk_takeZero_88 ?_
            refine lv_dup hx hb d_Mk_takeZero_91 rfl ?_
            refine va_get (ci := 6) (C := R_Sb) (T := F_Sb) (N := 12) hx hb htb in_Sb hown hK hP 1 rfl rfl 10 (by decide) (htb _ tw238) (fun _ h9 => h9) rfl d_Mk_takeZero_92 ?_
            refine lv_iconst (v := 1) hx hb d_Mk_takeZero_95 (by decide) ?_
            refine lv_iadd hx hb d_Mk_takeZero_96 ?_
            refine va_put (ci := 6) (v := .int (sb_e + 1)) (ty := .int) (C := R_Sb) (T := F_Sb) (N := 12) hx hb htb in_Sb t_Sb t_Sb_ok n_Sb hown hK hP hD hS 1 rfl rfl 10 (by decide) (htb _ tw238) (fun _ h9 => h9) rfl (by decide +kernel) rfl rfl (Nat.le_of_ble_eq_true rfl) d_Mk_takeZero_97 (fun H locs hP hD hS => ?_)
            have hP : va_P D vwCl (wd_MkSub cA mk sb mk_g sb_p sb_s mk_st mk_qd mk_qe sb_pm sb_h sb_z sb_c sb_b sb_t sb_f sb_q (sb_e + 1) sb_x) H := hP
            have hD : va_D A (wd_MkSub cA mk sb mk_g sb_p sb_s mk_st mk_qd mk_qe sb_pm sb_h sb_z sb_c sb_b sb_t sb_f sb_q (sb_e + 1) sb_x) := hD
            refine lv_aload_n hx hb d_Mk_takeZero_100 rfl (lv_at hl 0 rfl) ?_
            refine lv_bipush (v := 7) hx hb d_Mk_takeZero_101 (by decide) ?_
            refine va_put (ci := 3) (v := .int 7) (ty := .int) (C := R_Mk) (T := F_Mk) (N := 5) hx hb htb in_Mk t_Mk t_Mk_ok n_Mk hown hK hP hD hS 0 rfl rfl 2 (by decide) (htb _ tw291) (fun _ h9 => h9) rfl (by decide +kernel) rfl rfl (Nat.le_of_ble_eq_true rfl) d_Mk_takeZero_103 (fun H locs hP hD hS => ?_)
            have hP : va_P D vwCl (wd_MkSub cA mk sb mk_g sb_p sb_s 7 mk_qd mk_qe sb_pm sb_h sb_z sb_c sb_b sb_t sb_f sb_q (sb_e + 1) sb_x) H := hP
            have hD : va_D A (wd_MkSub cA mk sb mk_g sb_p sb_s 7 mk_qd mk_qe sb_pm sb_h sb_z sb_c sb_b sb_t sb_f sb_q (sb_e + 1) sb_x) := hD
            refine lv_iconst (v := 1) hx hb d_Mk_takeZero_106 (by decide) ?_
            exact ct_zret true hx hb hr hlk hK hS (7, sb_z, sb_b, sb_f, sb_q, sb_e + 1) hw hP hD d_Mk_takeZero_107
          · have hw := hw.2 hc
            refine lv_aload_n hx hb d_Mk_takeZero_78 rfl (lv_at hl 0 rfl) ?_
            refine va_get (ci := 3) (C := R_Mk) (T := F_Mk) (N := 5) hx hb htb in_Mk hown hK hP 0 rfl rfl 2 (by decide) (htb _ tw291) (fun _ h9 => h9) rfl d_Mk_takeZero_79 ?_
            refine lv_bipush (v := 7) hx hb d_Mk_takeZero_82 (by decide) ?_
            refine lv_icmp_ne (tgt := 108) hx hb d_Mk_takeZero_84 rfl (fun hc => ?_) (fun hc => ?_)
            · have hw := hw.1 hc
              refine lv_iconst (v := 0) hx hb d_Mk_takeZero_108 (by decide) ?_
              exact ct_zret false hx hb hr hlk hK hS (mk_st, sb_z, sb_b, sb_f, sb_q, sb_e) hw hP hD d_Mk_takeZero_109
            · have hw := hw.2 hc
              refine lv_aload_n hx hb d_Mk_takeZero_87 rfl (lv_at hl 0 rfl) ?_
              refine va_get (ci := 3) (C := R_Mk) (T := F_Mk) (N := 5) hx hb htb in_Mk hown hK hP 0 rfl rfl 1 (by decide) (htb _ tw290) (fun _ h9 => h9) rfl d_Mk_takeZero_88 ?_
              refine lv_dup hx hb d_Mk_takeZero_91 rfl ?_
              refine va_get (ci := 6) (C := R_Sb) (T := F_Sb) (N := 12) hx hb htb in_Sb hown hK hP 1 rfl rfl 10 (by decide) (htb _ tw238) (fun _ h9 => h9) rfl d_Mk_takeZero_92 ?_
              refine lv_iconst (v := 1) hx hb d_Mk_takeZero_95 (by decide) ?_
              refine lv_iadd hx hb d_Mk_takeZero_96 ?_
              refine va_put (ci := 6) (v := .int (sb_e + 1)) (ty := .int) (C := R_Sb) (T := F_Sb) (N := 12) hx hb htb in_Sb t_Sb t_Sb_ok n_Sb hown hK hP hD hS 1 rfl rfl 10 (by decide) (htb _ tw238) (fun _ h9 => h9) rfl (by decide +kernel) rfl rfl (Nat.le_of_ble_eq_true rfl) d_Mk_takeZero_97 (fun H locs hP hD hS => ?_)
              have hP : va_P D vwCl (wd_MkSub cA mk sb mk_g sb_p sb_s mk_st mk_qd mk_qe sb_pm sb_h sb_z sb_c sb_b sb_t sb_f sb_q (sb_e + 1) sb_x) H := hP
              have hD : va_D A (wd_MkSub cA mk sb mk_g sb_p sb_s mk_st mk_qd mk_qe sb_pm sb_h sb_z sb_c sb_b sb_t sb_f sb_q (sb_e + 1) sb_x) := hD
              refine lv_aload_n hx hb d_Mk_takeZero_100 rfl (lv_at hl 0 rfl) ?_
              refine lv_bipush (v := 7) hx hb d_Mk_takeZero_101 (by decide) ?_
              refine va_put (ci := 3) (v := .int 7) (ty := .int) (C := R_Mk) (T := F_Mk) (N := 5) hx hb htb in_Mk t_Mk t_Mk_ok n_Mk hown hK hP hD hS 0 rfl rfl 2 (by decide) (htb _ tw291) (fun _ h9 => h9) rfl (by decide +kernel) rfl rfl (Nat.le_of_ble_eq_true rfl) d_Mk_takeZero_103 (fun H locs hP hD hS => ?_)
              have hP : va_P D vwCl (wd_MkSub cA mk sb mk_g sb_p sb_s 7 mk_qd mk_qe sb_pm sb_h sb_z sb_c sb_b sb_t sb_f sb_q (sb_e + 1) sb_x) H := hP
              have hD : va_D A (wd_MkSub cA mk sb mk_g sb_p sb_s 7 mk_qd mk_qe sb_pm sb_h sb_z sb_c sb_b sb_t sb_f sb_q (sb_e + 1) sb_x) := hD
              refine lv_iconst (v := 1) hx hb d_Mk_takeZero_106 (by decide) ?_
              exact ct_zret true hx hb hr hlk hK hS (7, sb_z, sb_b, sb_f, sb_q, sb_e + 1) hw hP hD d_Mk_takeZero_107
      · have hw := hw.2 hc
        refine lv_aload_n hx hb d_Mk_takeZero_56 rfl (lv_at hl 0 rfl) ?_
        refine ct_callz (wn := fun u6 => wd_MkSub cA mk sb mk_g sb_p sb_s u6.1 mk_qd mk_qe sb_pm sb_h sb_z sb_c sb_b sb_t u6.2.1 u6.2.2 sb_e sb_x) (va_runV (As := []) (rest := []) ⟨hx, hb, hml, hown, htb⟩ (c_Mk_takeFractionZero l D cA mk sb mk_g sb_p sb_s mk_st mk_qd mk_qe sb_pm sb_h sb_z sb_c sb_b sb_t sb_f sb_q sb_e sb_x _ hw _) (ct_cwV 0 htb tw412 rfl rfl tw81 tw409 tw411 tw7 hd_Mk_takeFractionZero ⟨by decide, by decide⟩) (ct_preV hP hD hK hN [0, 1] rfl (by decide) 0 rfl rfl _) rfl rfl hl.1 rfl (lv_room (Nat.le_of_ble_eq_true rfl)) d_Mk_takeZero_57 ⟨Nat.zero_le _, Nat.zero_le _⟩) hP hD hS hA [0, 1] [] [0, 1] rfl rfl (by decide) (by decide) (fun _ => rfl) (by decide) (fun r5 u6 H locs hw hP hD hS => ?_)
        have hP : va_P D vwCl (wd_MkSub cA mk sb mk_g sb_p sb_s u6.1 mk_qd mk_qe sb_pm sb_h sb_z sb_c sb_b sb_t u6.2.1 u6.2.2 sb_e sb_x) H := hP
        have hD : va_D A (wd_MkSub cA mk sb mk_g sb_p sb_s u6.1 mk_qd mk_qe sb_pm sb_h sb_z sb_c sb_b sb_t u6.2.1 u6.2.2 sb_e sb_x) := hD
        exact ct_zret r5 hx hb hr hlk hK hS (u6.1, sb_z, sb_b, u6.2.1, u6.2.2, sb_e) hw hP hD d_Mk_takeZero_60
  · have hw := hw.2 ((bI_n0 _).mp hc)
    refine lv_aload_n hx hb d_Mk_takeZero_7 rfl (lv_at hl 0 rfl) ?_
    refine va_get (ci := 3) (C := R_Mk) (T := F_Mk) (N := 5) hx hb htb in_Mk hown hK hP 0 rfl rfl 1 (by decide) (htb _ tw290) (fun _ h9 => h9) rfl d_Mk_takeZero_8 ?_
    refine lv_dup hx hb d_Mk_takeZero_11 rfl ?_
    refine va_get (ci := 6) (C := R_Sb) (T := F_Sb) (N := 12) hx hb htb in_Sb hown hK hP 1 rfl rfl 4 (by decide) (htb _ tw222) (fun _ h9 => h9) rfl d_Mk_takeZero_12 ?_
    refine lv_iconst (v := 1) hx hb d_Mk_takeZero_15 (by decide) ?_
    refine lv_iadd hx hb d_Mk_takeZero_16 ?_
    refine va_put (ci := 6) (v := .int (sb_z + 1)) (ty := .int) (C := R_Sb) (T := F_Sb) (N := 12) hx hb htb in_Sb t_Sb t_Sb_ok n_Sb hown hK hP hD hS 1 rfl rfl 4 (by decide) (htb _ tw222) (fun _ h9 => h9) rfl (by decide +kernel) rfl rfl (Nat.le_of_ble_eq_true rfl) d_Mk_takeZero_17 (fun H locs hP hD hS => ?_)
    have hP : va_P D vwCl (wd_MkSub cA mk sb mk_g sb_p sb_s mk_st mk_qd mk_qe sb_pm sb_h (sb_z + 1) sb_c sb_b sb_t sb_f sb_q sb_e sb_x) H := hP
    have hD : va_D A (wd_MkSub cA mk sb mk_g sb_p sb_s mk_st mk_qd mk_qe sb_pm sb_h (sb_z + 1) sb_c sb_b sb_t sb_f sb_q sb_e sb_x) := hD
    refine lv_aload_n hx hb d_Mk_takeZero_20 rfl (lv_at hl 0 rfl) ?_
    refine va_get (ci := 3) (C := R_Mk) (T := F_Mk) (N := 5) hx hb htb in_Mk hown hK hP 0 rfl rfl 1 (by decide) (htb _ tw290) (fun _ h9 => h9) rfl d_Mk_takeZero_21 ?_
    refine lv_dup hx hb d_Mk_takeZero_24 rfl ?_
    refine va_get (ci := 6) (C := R_Sb) (T := F_Sb) (N := 12) hx hb htb in_Sb hown hK hP 1 rfl rfl 6 (by decide) (htb _ tw227) (fun _ h9 => h9) rfl d_Mk_takeZero_25 ?_
    refine lv_iconst (v := 1) hx hb d_Mk_takeZero_28 (by decide) ?_
    refine lv_iadd hx hb d_Mk_takeZero_29 ?_
    refine va_put (ci := 6) (v := .int (sb_b + 1)) (ty := .int) (C := R_Sb) (T := F_Sb) (N := 12) hx hb htb in_Sb t_Sb t_Sb_ok n_Sb hown hK hP hD hS 1 rfl rfl 6 (by decide) (htb _ tw227) (fun _ h9 => h9) rfl (by decide +kernel) rfl rfl (Nat.le_of_ble_eq_true rfl) d_Mk_takeZero_30 (fun H locs hP hD hS => ?_)
    have hP : va_P D vwCl (wd_MkSub cA mk sb mk_g sb_p sb_s mk_st mk_qd mk_qe sb_pm sb_h (sb_z + 1) sb_c (sb_b + 1) sb_t sb_f sb_q sb_e sb_x) H := hP
    have hD : va_D A (wd_MkSub cA mk sb mk_g sb_p sb_s mk_st mk_qd mk_qe sb_pm sb_h (sb_z + 1) sb_c (sb_b + 1) sb_t sb_f sb_q sb_e sb_x) := hD
    refine lv_aload_n hx hb d_Mk_takeZero_33 rfl (lv_at hl 0 rfl) ?_
    refine lv_iconst (v := 1) hx hb d_Mk_takeZero_34 (by decide) ?_
    refine va_put (ci := 3) (v := .int 1) (ty := .int) (C := R_Mk) (T := F_Mk) (N := 5) hx hb htb in_Mk t_Mk t_Mk_ok n_Mk hown hK hP hD hS 0 rfl rfl 2 (by decide) (htb _ tw291) (fun _ h9 => h9) rfl (by decide +kernel) rfl rfl (Nat.le_of_ble_eq_true rfl) d_Mk_takeZero_35 (fun H locs hP hD hS => ?_)
    have hP : va_P D vwCl (wd_MkSub cA mk sb mk_g sb_p sb_s 1 mk_qd mk_qe sb_pm sb_h (sb_z + 1) sb_c (sb_b + 1) sb_t sb_f sb_q sb_e sb_x) H := hP
    have hD : va_D A (wd_MkSub cA mk sb mk_g sb_p sb_s 1 mk_qd mk_qe sb_pm sb_h (sb_z + 1) sb_c (sb_b + 1) sb_t sb_f sb_q sb_e sb_x) := hD
    refine lv_iconst (v := 1) hx hb d_Mk_takeZero_38 (by decide) ?_
    exact ct_zret true hx hb hr hlk hK hS (1, sb_z + 1, sb_b + 1, sb_f, sb_q, sb_e) hw hP hD d_Mk_takeZero_39
/-! DecimalPatterns$PatternMaker.takeComma()Z -/
def wp_Mk_takeComma (mk_st : Int32) (sb_c : Int32) (sb_b : Int32) (sb_t : Int32) (Q : Bool → (Int32 × Int32 × Int32 × Int32) → Prop) : Prop := (mk_st = 1 → (Q true (2, sb_c + 1, 0, sb_b))) ∧ (¬ mk_st = 1 → (Q false (mk_st, sb_c, sb_b, sb_t)))
set_option maxHeartbeats 4000000 in
set_option maxRecDepth 100000 in
theorem c_Mk_takeComma (l : Launch) (D : va_G) (cA : ClassId) (mk sb mk_g sb_p sb_s : Nat) (mk_st : Int32) (mk_qd : Bool) (mk_qe : Bool) (sb_pm : Bool) (sb_h : Int32) (sb_z : Int32) (sb_c : Int32) (sb_b : Int32) (sb_t : Int32) (sb_f : Int32) (sb_q : Int32) (sb_e : Int32) (sb_x : Bool) (Q : Bool → (Int32 × Int32 × Int32 × Int32) → Prop) (hw : wp_Mk_takeComma mk_st sb_c sb_b sb_t Q) : ct_M vwCl l D [(cA, .int)] y_Mk_takeComma w_Mk_takeComma { frames := 0, cells := 0, slots := 0, locals := 0 } [.ref mk] (wd_MkSub cA mk sb mk_g sb_p sb_s mk_st mk_qd mk_qe sb_pm sb_h sb_z sb_c sb_b sb_t sb_f sb_q sb_e sb_x) (ct_qz vwCl D [(cA, .int)] Q (fun u => wd_MkSub cA mk sb mk_g sb_p sb_s u.1 mk_qd mk_qe sb_pm sb_h sb_z u.2.1 u.2.2.1 u.2.2.2 sb_f sb_q sb_e sb_x)) := by
  refine ct_enter (cc := b_Mk_takeComma) (maxL := 1) (ret := (some .boolean)) (by decide) rfl (Nat.le_of_ble_eq_true rfl) ?_
  intro p e s m args below meth c A ls hx hb hr hlk hml hts hown hA hS hP hK hN hD hl
  have hl : lv_has ls 1 [(0, .ref mk)] := hl
  have htb : ∀ w ∈ tbl, w.before args s = true := fun w h => hts w (List.mem_cons_of_mem _ h)
  have hown : s.vm.findClass "DecimalPatterns$PatternMaker" = some m.cls := hown
  unfold wp_Mk_takeComma at hw
  refine lv_aload_n hx hb d_Mk_takeComma_0 rfl (lv_at hl 0 rfl) ?_
  refine va_get (ci := 3) (C := R_Mk) (T := F_Mk) (N := 5) hx hb htb in_Mk hown hK hP 0 rfl rfl 2 (by decide) (htb _ tw291) (fun _ h9 => h9) rfl d_Mk_takeComma_1 ?_
  refine lv_iconst (v := 1) hx hb d_Mk_takeComma_4 (by decide) ?_
  refine lv_icmp_eq (tgt := 10) hx hb d_Mk_takeComma_5 rfl (fun hc => ?_) (fun hc => ?_)
  · have hw := hw.1 hc
    refine lv_aload_n hx hb d_Mk_takeComma_10 rfl (lv_at hl 0 rfl) ?_
    refine va_get (ci := 3) (C := R_Mk) (T := F_Mk) (N := 5) hx hb htb in_Mk hown hK hP 0 rfl rfl 1 (by decide) (htb _ tw290) (fun _ h9 => h9) rfl d_Mk_takeComma_11 ?_
    refine lv_dup hx hb d_Mk_takeComma_14 rfl ?_
    refine va_get (ci := 6) (C := R_Sb) (T := F_Sb) (N := 12) hx hb htb in_Sb hown hK hP 1 rfl rfl 5 (by decide) (htb _ tw224) (fun _ h9 => h9) rfl d_Mk_takeComma_15 ?_
    refine lv_iconst (v := 1) hx hb d_Mk_takeComma_18 (by decide) ?_
    refine lv_iadd hx hb d_Mk_takeComma_19 ?_
    refine va_put (ci := 6) (v := .int (sb_c + 1)) (ty := .int) (C := R_Sb) (T := F_Sb) (N := 12) hx hb htb in_Sb t_Sb t_Sb_ok n_Sb hown hK hP hD hS 1 rfl rfl 5 (by decide) (htb _ tw224) (fun _ h9 => h9) rfl (by decide +kernel) rfl rfl (Nat.le_of_ble_eq_true rfl) d_Mk_takeComma_20 (fun H locs hP hD hS => ?_)
    have hP : va_P D vwCl (wd_MkSub cA mk sb mk_g sb_p sb_s mk_st mk_qd mk_qe sb_pm sb_h sb_z (sb_c + 1) sb_b sb_t sb_f sb_q sb_e sb_x) H := hP
    have hD : va_D A (wd_MkSub cA mk sb mk_g sb_p sb_s mk_st mk_qd mk_qe sb_pm sb_h sb_z (sb_c + 1) sb_b sb_t sb_f sb_q sb_e sb_x) := hD
    refine lv_aload_n hx hb d_Mk_takeComma_23 rfl (lv_at hl 0 rfl) ?_
    refine va_get (ci := 3) (C := R_Mk) (T := F_Mk) (N := 5) hx hb htb in_Mk hown hK hP 0 rfl rfl 1 (by decide) (htb _ tw290) (fun _ h9 => h9) rfl d_Mk_takeComma_24 ?_
    refine lv_aload_n hx hb d_Mk_takeComma_27 rfl (lv_at hl 0 rfl) ?_
    refine va_get (ci := 3) (C := R_Mk) (T := F_Mk) (N := 5) hx hb htb in_Mk hown hK hP 0 rfl rfl 1 (by decide) (htb _ tw290) (fun _ h9 => h9) rfl d_Mk_takeComma_28 ?_
    refine va_get (ci := 6) (C := R_Sb) (T := F_Sb) (N := 12) hx hb htb in_Sb hown hK hP 1 rfl rfl 6 (by decide) (htb _ tw227) (fun _ h9 => h9) rfl d_Mk_takeComma_31 ?_
    refine va_put (ci := 6) (v := .int sb_b) (ty := .int) (C := R_Sb) (T := F_Sb) (N := 12) hx hb htb in_Sb t_Sb t_Sb_ok n_Sb hown hK hP hD hS 1 rfl rfl 7 (by decide) (htb _ tw229) (fun _ h9 => h9) rfl (by decide +kernel) rfl rfl (Nat.le_of_ble_eq_true rfl) d_Mk_takeComma_34 (fun H locs hP hD hS => ?_)
    have hP : va_P D vwCl (wd_MkSub cA mk sb mk_g sb_p sb_s mk_st mk_qd mk_qe sb_pm sb_h sb_z (sb_c + 1) sb_b sb_b sb_f sb_q sb_e sb_x) H := hP
    have hD : va_D A (wd_MkSub cA mk sb mk_g sb_p sb_s mk_st mk_qd mk_qe sb_pm sb_h sb_z (sb_c + 1) sb_b sb_b sb_f sb_q sb_e sb_x) := hD
    refine lv_aload_n hx hb d_Mk_takeComma_37 rfl (lv_at hl 0 rfl) ?_
    refine va_get (ci := 3) (C := R_Mk) (T := F_Mk) (N := 5) hx hb htb in_Mk hown hK hP 0 rfl rfl 1 (by decide) (htb _ tw290) (fun _ h9 => h9) rfl d_Mk_takeComma_38 ?_
    refine lv_iconst (v := 0) hx hb d_Mk_takeComma_41 (by decide) ?_
    refine va_put (ci := 6) (v := .int 0) (ty := .int) (C := R_Sb) (T := F_Sb) (N := 12) hx hb htb in_Sb t_Sb t_Sb_ok n_Sb hown hK hP hD hS 1 rfl rfl 6 (by decide) (htb _ tw227) (fun _ h9 => h9) rfl (by decide +kernel) rfl rfl (Nat.le_of_ble_eq_true rfl) d_Mk_takeComma_42 (fun H locs hP hD hS => ?_)
    have hP : va_P D vwCl (wd_MkSub cA mk sb mk_g sb_p sb_s mk_st mk_qd mk_qe sb_pm sb_h sb_z (sb_c + 1) 0 sb_b sb_f sb_q sb_e sb_x) H := hP
    have hD : va_D A (wd_MkSub cA mk sb mk_g sb_p sb_s mk_st mk_qd mk_qe sb_pm sb_h sb_z (sb_c + 1) 0 sb_b sb_f sb_q sb_e sb_x) := hD
    refine lv_aload_n hx hb d_Mk_takeComma_45 rfl (lv_at hl 0 rfl) ?_
    refine lv_iconst (v := 2) hx hb d_Mk_takeComma_46 (by decide) ?_
    refine va_put (ci := 3) (v := .int 2) (ty := .int) (C := R_Mk) (T := F_Mk) (N := 5) hx hb htb in_Mk t_Mk t_Mk_ok n_Mk hown hK hP hD hS 0 rfl rfl 2 (by decide) (htb _ tw291) (fun _ h9 => h9) rfl (by decide +kernel) rfl rfl (Nat.le_of_ble_eq_true rfl) d_Mk_takeComma_47 (fun H locs hP hD hS => ?_)
    have hP : va_P D vwCl (wd_MkSub cA mk sb mk_g sb_p sb_s 2 mk_qd mk_qe sb_pm sb_h sb_z (sb_c + 1) 0 sb_b sb_f sb_q sb_e sb_x) H := hP
    have hD : va_D A (wd_MkSub cA mk sb mk_g sb_p sb_s 2 mk_qd mk_qe sb_pm sb_h sb_z (sb_c + 1) 0 sb_b sb_f sb_q sb_e sb_x) := hD
    refine lv_iconst (v := 1) hx hb d_Mk_takeComma_50 (by decide) ?_
    exact ct_zret true hx hb hr hlk hK hS (2, sb_c + 1, 0, sb_b) hw hP hD d_Mk_takeComma_51
  · have hw := hw.2 hc
    refine lv_iconst (v := 0) hx hb d_Mk_takeComma_8 (by decide) ?_
    exact ct_zret false hx hb hr hlk hK hS (mk_st, sb_c, sb_b, sb_t) hw hP hD d_Mk_takeComma_9
/-! DecimalPatterns$PatternMaker.takePoint()Z -/
def wp_Mk_takePoint (mk_st : Int32) (Q : Bool → Int32 → Prop) : Prop := (mk_st = 0 → (Q true 3)) ∧ (¬ mk_st = 0 → ((mk_st = 1 → (Q true 3)) ∧ (¬ mk_st = 1 → (Q false mk_st))))
set_option maxHeartbeats 4000000 in
set_option maxRecDepth 100000 in
theorem c_Mk_takePoint (l : Launch) (D : va_G) (cA : ClassId) (mk mk_g : Nat) (mk_s : Nat) (mk_st : Int32) (mk_qd : Bool) (mk_qe : Bool) (Q : Bool → Int32 → Prop) (hw : wp_Mk_takePoint mk_st Q) : ct_M vwCl l D [(cA, .int)] y_Mk_takePoint w_Mk_takePoint { frames := 0, cells := 0, slots := 0, locals := 0 } [.ref mk] (wd_MkO cA mk mk_g mk_s mk_st mk_qd mk_qe) (ct_qz vwCl D [(cA, .int)] Q (fun u => wd_MkO cA mk mk_g mk_s u mk_qd mk_qe)) := by
  refine ct_enter (cc := b_Mk_takePoint) (maxL := 1) (ret := (some .boolean)) (by decide) rfl (Nat.le_of_ble_eq_true rfl) ?_
  intro p e s m args below meth c A ls hx hb hr hlk hml hts hown hA hS hP hK hN hD hl
  have hl : lv_has ls 1 [(0, .ref mk)] := hl
  have htb : ∀ w ∈ tbl, w.before args s = true := fun w h => hts w (List.mem_cons_of_mem _ h)
  have hown : s.vm.findClass "DecimalPatterns$PatternMaker" = some m.cls := hown
  unfold wp_Mk_takePoint at hw
  refine lv_aload_n hx hb d_Mk_takePoint_0 rfl (lv_at hl 0 rfl) ?_
  refine va_get (ci := 3) (C := R_Mk) (T := F_Mk) (N := 5) hx hb htb in_Mk hown hK hP 0 rfl rfl 2 (by decide) (htb _ tw291) (fun _ h9 => h9) rfl d_Mk_takePoint_1 ?_
  refine lv_if_eq (tgt := 17) hx hb d_Mk_takePoint_4 rfl (fun hc => ?_) (fun hc => ?_)
  · have hw := hw.1 hc
    refine lv_aload_n hx hb d_Mk_takePoint_17 rfl (lv_at hl 0 rfl) ?_
    refine lv_iconst (v := 3) hx hb d_Mk_takePoint_18 (by decide) ?_
    refine va_put (ci := 3) (v := .int 3) (ty := .int) (C := R_Mk) (T := F_Mk) (N := 5) hx hb htb in_Mk t_Mk t_Mk_ok n_Mk hown hK hP hD hS 0 rfl rfl 2 (by decide) (htb _ tw291) (fun _ h9 => h9) rfl (by decide +kernel) rfl rfl (Nat.le_of_ble_eq_true rfl) d_Mk_takePoint_19 (fun H locs hP hD hS => ?_)
    have hP : va_P D vwCl (wd_MkO cA mk mk_g mk_s 3 mk_qd mk_qe) H := hP
    have hD : va_D A (wd_MkO cA mk mk_g mk_s 3 mk_qd mk_qe) := hD
    refine lv_iconst (v := 1) hx hb d_Mk_takePoint_22 (by decide) ?_
    exact ct_zret true hx hb hr hlk hK hS 3 hw hP hD d_Mk_takePoint_23
  · have hw := hw.2 hc
    refine lv_aload_n hx hb d_Mk_takePoint_7 rfl (lv_at hl 0 rfl) ?_
    refine va_get (ci := 3) (C := R_Mk) (T := F_Mk) (N := 5) hx hb htb in_Mk hown hK hP 0 rfl rfl 2 (by decide) (htb _ tw291) (fun _ h9 => h9) rfl d_Mk_takePoint_8 ?_
    refine lv_iconst (v := 1) hx hb d_Mk_takePoint_11 (by decide) ?_
    refine lv_icmp_eq (tgt := 17) hx hb d_Mk_takePoint_12 rfl (fun hc => ?_) (fun hc => ?_)
    · have hw := hw.1 hc
      refine lv_aload_n hx hb d_Mk_takePoint_17 rfl (lv_at hl 0 rfl) ?_
      refine lv_iconst (v := 3) hx hb d_Mk_takePoint_18 (by decide) ?_
      refine va_put (ci := 3) (v := .int 3) (ty := .int) (C := R_Mk) (T := F_Mk) (N := 5) hx hb htb in_Mk t_Mk t_Mk_ok n_Mk hown hK hP hD hS 0 rfl rfl 2 (by decide) (htb _ tw291) (fun _ h9 => h9) rfl (by decide +kernel) rfl rfl (Nat.le_of_ble_eq_true rfl) d_Mk_takePoint_19 (fun H locs hP hD hS => ?_)
      have hP : va_P D vwCl (wd_MkO cA mk mk_g mk_s 3 mk_qd mk_qe) H := hP
      have hD : va_D A (wd_MkO cA mk mk_g mk_s 3 mk_qd mk_qe) := hD
      refine lv_iconst (v := 1) hx hb d_Mk_takePoint_22 (by decide) ?_
      exact ct_zret true hx hb hr hlk hK hS 3 hw hP hD d_Mk_takePoint_23
    · have hw := hw.2 hc
      refine lv_iconst (v := 0) hx hb d_Mk_takePoint_15 (by decide) ?_
      exact ct_zret false hx hb hr hlk hK hS mk_st hw hP hD d_Mk_takePoint_16
/-! DecimalPatterns$PatternMaker.takeE()Z -/
def wp_Mk_takeE_J210 (sb_z : Int32) (sb_c : Int32) (y0 : Bool) (mk_st : Int32) (Q : Bool → Int32 → Prop) : Prop := (y0 = false → (Q false mk_st)) ∧ (y0 = true → ((sb_z = 0 → (Q false mk_st)) ∧ (¬ sb_z = 0 → ((sb_c ≤ 0 → (Q true 5)) ∧ (¬ sb_c ≤ 0 → (Q false mk_st))))))
def wp_Mk_takeE_J160 (sb_z : Int32) (sb_c : Int32) (mk_st : Int32) (Q : Bool → Int32 → Prop) : Prop := wp_Mk_takeE_J210 sb_z sb_c true mk_st Q
def wp_Mk_takeE (mk_st : Int32) (sb_z : Int32) (sb_c : Int32) (Q : Bool → Int32 → Prop) : Prop := (mk_st = 1 → (wp_Mk_takeE_J160 sb_z sb_c mk_st Q)) ∧ (¬ mk_st = 1 → ((¬ mk_st = 4 → (wp_Mk_takeE_J210 sb_z sb_c false mk_st Q)) ∧ (mk_st = 4 → (wp_Mk_takeE_J160 sb_z sb_c mk_st Q))))
set_option maxHeartbeats 4000000 in
set_option maxRecDepth 100000 in
theorem c_Mk_takeE (l : Launch) (D : va_G) (cA : ClassId) (mk sb mk_g sb_p sb_s : Nat) (mk_st : Int32) (mk_qd : Bool) (mk_qe : Bool) (sb_pm : Bool) (sb_h : Int32) (sb_z : Int32) (sb_c : Int32) (sb_b : Int32) (sb_t : Int32) (sb_f : Int32) (sb_q : Int32) (sb_e : Int32) (sb_x : Bool) (Q : Bool → Int32 → Prop) (hw : wp_Mk_takeE mk_st sb_z sb_c Q) : ct_M vwCl l D [(cA, .int)] y_Mk_takeE w_Mk_takeE { frames := 0, cells := 0, slots := 0, locals := 0 } [.ref mk] (wd_MkSub cA mk sb mk_g sb_p sb_s mk_st mk_qd mk_qe sb_pm sb_h sb_z sb_c sb_b sb_t sb_f sb_q sb_e sb_x) (ct_qz vwCl D [(cA, .int)] Q (fun u => wd_MkSub cA mk sb mk_g sb_p sb_s u mk_qd mk_qe sb_pm sb_h sb_z sb_c sb_b sb_t sb_f sb_q sb_e sb_x)) := by
  refine ct_enter (cc := b_Mk_takeE) (maxL := 2) (ret := (some .boolean)) (by decide) rfl (Nat.le_of_ble_eq_true rfl) ?_
  intro p e s m args below meth c A ls hx hb hr hlk hml hts hown hA hS hP hK hN hD hl
  have hl : lv_has ls 2 [(0, .ref mk)] := hl
  have htb : ∀ w ∈ tbl, w.before args s = true := fun w h => hts w (List.mem_cons_of_mem _ h)
  have hown : s.vm.findClass "DecimalPatterns$PatternMaker" = some m.cls := hown
  unfold wp_Mk_takeE at hw
  have hJ210 : ∀ (y0 : Bool) (mk_st : Int32) (H : Heap) (locs : List Loc) (ls : Array Slot), lv_has ls 2 [(0, .ref mk)] → va_P D vwCl (wd_MkSub cA mk sb mk_g sb_p sb_s mk_st mk_qd mk_qe sb_pm sb_h sb_z sb_c sb_b sb_t sb_f sb_q sb_e sb_x) H → va_D A (wd_MkSub cA mk sb mk_g sb_p sb_s mk_st mk_qd mk_qe sb_pm sb_h sb_z sb_c sb_b sb_t sb_f sb_q sb_e sb_x) → va_S A s.heap H locs → wp_Mk_takeE_J210 sb_z sb_c y0 mk_st Q → W p l e { frames := 0, cells := 0, slots := 0, locals := 0 } s m args below meth c H locs 0 0 (MQ below (ct_qz vwCl D [(cA, .int)] Q (fun u => wd_MkSub cA mk sb mk_g sb_p sb_s u mk_qd mk_qe sb_pm sb_h sb_z sb_c sb_b sb_t sb_f sb_q sb_e sb_x) A) args s 0 0 A) (F0 m 21 ls [.int (bI y0)]) := by
    intro y0 mk_st H locs ls hl hP hD hS hw
    unfold wp_Mk_takeE_J210 at hw
    refine lv_istore_n (lv' := [(1, .int (bI y0)), (0, .ref mk)]) hx hb d_Mk_takeE_21 rfl hl (by decide) rfl (fun ls hl => ?_)
    refine lv_iload_n hx hb d_Mk_takeE_22 rfl (lv_at hl 0 rfl) ?_
    refine lv_if_eq (tgt := 46) hx hb d_Mk_takeE_23 rfl (fun hc => ?_) (fun hc => ?_)
    · have hw := hw.1 ((bI_0 _).mp hc)
      refine lv_iconst (v := 0) hx hb d_Mk_takeE_46 (by decide) ?_
      exact ct_zret false hx hb hr hlk hK hS mk_st hw hP hD d_Mk_takeE_47
    · have hw := hw.2 ((bI_n0 _).mp hc)
      refine lv_aload_n hx hb d_Mk_takeE_26 rfl (lv_at hl 1 rfl) ?_
      refine va_get (ci := 3) (C := R_Mk) (T := F_Mk) (N := 5) hx hb htb in_Mk hown hK hP 0 rfl rfl 1 (by decide) (htb _ tw290) (fun _ h9 => h9) rfl d_Mk_takeE_27 ?_
      refine va_get (ci := 6) (C := R_Sb) (T := F_Sb) (N := 12) hx hb htb in_Sb hown hK hP 1 rfl rfl 4 (by decide) (htb _ tw222) (fun _ h9 => h9) rfl d_Mk_takeE_30 ?_
      refine lv_if_eq (tgt := 46) hx hb d_Mk_takeE_33 rfl (fun hc => ?_) (fun hc => ?_)
      · have hw := hw.1 hc
        refine lv_iconst (v := 0) hx hb d_Mk_takeE_46 (by decide) ?_
        exact ct_zret false hx hb hr hlk hK hS mk_st hw hP hD d_Mk_takeE_47
      · have hw := hw.2 hc
        refine lv_aload_n hx hb d_Mk_takeE_36 rfl (lv_at hl 1 rfl) ?_
        refine va_get (ci := 3) (C := R_Mk) (T := F_Mk) (N := 5) hx hb htb in_Mk hown hK hP 0 rfl rfl 1 (by decide) (htb _ tw290) (fun _ h9 => h9) rfl d_Mk_takeE_37 ?_
        refine va_get (ci := 6) (C := R_Sb) (T := F_Sb) (N := 12) hx hb htb in_Sb hown hK hP 1 rfl rfl 5 (by decide) (htb _ tw224) (fun _ h9 => h9) rfl d_Mk_takeE_40 ?_
        refine lv_if_le (tgt := 48) hx hb d_Mk_takeE_43 rfl (fun hc => ?_) (fun hc => ?_)
        · have hw := hw.1 hc
          refine lv_aload_n hx hb d_Mk_takeE_48 rfl (lv_at hl 1 rfl) ?_
          refine lv_iconst (v := 5) hx hb d_Mk_takeE_49 (by decide) ?_
          refine va_put (ci := 3) (v := .int 5) (ty := .int) (C := R_Mk) (T := F_Mk) (N := 5) hx hb htb in_Mk t_Mk t_Mk_ok n_Mk hown hK hP hD hS 0 rfl rfl 2 (by decide) (htb _ tw291) (fun _ h9 => h9) rfl (by decide +kernel) rfl rfl (Nat.le_of_ble_eq_true rfl) d_Mk_takeE_50 (fun H locs hP hD hS => ?_)
          have hP : va_P D vwCl (wd_MkSub cA mk sb mk_g sb_p sb_s 5 mk_qd mk_qe sb_pm sb_h sb_z sb_c sb_b sb_t sb_f sb_q sb_e sb_x) H := hP
          have hD : va_D A (wd_MkSub cA mk sb mk_g sb_p sb_s 5 mk_qd mk_qe sb_pm sb_h sb_z sb_c sb_b sb_t sb_f sb_q sb_e sb_x) := hD
          refine lv_iconst (v := 1) hx hb d_Mk_takeE_53 (by decide) ?_
          exact ct_zret true hx hb hr hlk hK hS 5 hw hP hD d_Mk_takeE_54
        · have hw := hw.2 hc
          refine lv_iconst (v := 0) hx hb d_Mk_takeE_46 (by decide) ?_
          exact ct_zret false hx hb hr hlk hK hS mk_st hw hP hD d_Mk_takeE_47
  have hJ160 : ∀ (mk_st : Int32) (H : Heap) (locs : List Loc) (ls : Array Slot), lv_has ls 2 [(0, .ref mk)] → va_P D vwCl (wd_MkSub cA mk sb mk_g sb_p sb_s mk_st mk_qd mk_qe sb_pm sb_h sb_z sb_c sb_b sb_t sb_f sb_q sb_e sb_x) H → va_D A (wd_MkSub cA mk sb mk_g sb_p sb_s mk_st mk_qd mk_qe sb_pm sb_h sb_z sb_c sb_b sb_t sb_f sb_q sb_e sb_x) → va_S A s.heap H locs → wp_Mk_takeE_J160 sb_z sb_c mk_st Q → W p l e { frames := 0, cells := 0, slots := 0, locals := 0 } s m args below meth c H locs 0 0 (MQ below (ct_qz vwCl D [(cA, .int)] Q (fun u => wd_MkSub cA mk sb mk_g sb_p sb_s u mk_qd mk_qe sb_pm sb_h sb_z sb_c sb_b sb_t sb_f sb_q sb_e sb_x) A) args s 0 0 A) (F0 m 16 ls []) := by
    intro mk_st H locs ls hl hP hD hS hw
    unfold wp_Mk_takeE_J160 at hw
    refine lv_iconst (v := 1) hx hb d_Mk_takeE_16 (by decide) ?_
    refine lv_goto (tgt := 21) hx hb d_Mk_takeE_17 rfl ?_
    exact hJ210 true mk_st _ _ _ (lv_sub hl [0] rfl) hP hD hS hw
  refine lv_aload_n hx hb d_Mk_takeE_0 rfl (lv_at hl 0 rfl) ?_
  refine va_get (ci := 3) (C := R_Mk) (T := F_Mk) (N := 5) hx hb htb in_Mk hown hK hP 0 rfl rfl 2 (by decide) (htb _ tw291) (fun _ h9 => h9) rfl d_Mk_takeE_1 ?_
  refine lv_iconst (v := 1) hx hb d_Mk_takeE_4 (by decide) ?_
  refine lv_icmp_eq (tgt := 16) hx hb d_Mk_takeE_5 rfl (fun hc => ?_) (fun hc => ?_)
  · have hw := hw.1 hc
    exact hJ160 mk_st _ _ _ (lv_sub hl [0] rfl) hP hD hS hw
  · have hw := hw.2 hc
    refine lv_aload_n hx hb d_Mk_takeE_8 rfl (lv_at hl 0 rfl) ?_
    refine va_get (ci := 3) (C := R_Mk) (T := F_Mk) (N := 5) hx hb htb in_Mk hown hK hP 0 rfl rfl 2 (by decide) (htb _ tw291) (fun _ h9 => h9) rfl d_Mk_takeE_9 ?_
    refine lv_iconst (v := 4) hx hb d_Mk_takeE_12 (by decide) ?_
    refine lv_icmp_ne (tgt := 20) hx hb d_Mk_takeE_13 rfl (fun hc => ?_) (fun hc => ?_)
    · have hw := hw.1 hc
      refine lv_iconst (v := 0) hx hb d_Mk_takeE_20 (by decide) ?_
      exact hJ210 false mk_st _ _ _ (lv_sub hl [0] rfl) hP hD hS hw
    · have hw := hw.2 hc
      exact hJ160 mk_st _ _ _ (lv_sub hl [0] rfl) hP hD hS hw
/-! DecimalPatterns$PatternMaker.takeSemicolon()Z -/
def wp_Mk_takeSemicolon (mi : Nat) (mk_s : Nat) (mk_st : Int32) (mk_qd : Bool) (mk_qe : Bool) (pt_h : Bool) (Q : Bool → (Nat × Int32 × Bool × Bool × Bool) → Prop) : Prop := wp_Mk_numberEnded mk_st (fun r1 u2 => (r1 = false → (Q false (mk_s, mk_st, mk_qd, mk_qe, pt_h))) ∧ (r1 = true → ((pt_h = false → (wp_Mk_beginSub mi mk_s mk_st mk_qd mk_qe (fun u4 => Q true (u4.1, u4.2.1, u4.2.2.1, u4.2.2.2, true)))) ∧ (pt_h = true → (Q false (mk_s, mk_st, mk_qd, mk_qe, pt_h))))))
set_option maxHeartbeats 4000000 in
set_option maxRecDepth 100000 in
theorem c_Mk_takeSemicolon (l : Launch) (D : va_G) (cA : ClassId) (mk pt pl mi : Nat) (mk_s : Nat) (mk_st : Int32) (mk_qd : Bool) (mk_qe : Bool) (pt_h : Bool) (Q : Bool → (Nat × Int32 × Bool × Bool × Bool) → Prop) (hw : wp_Mk_takeSemicolon mi mk_s mk_st mk_qd mk_qe pt_h Q) : ct_M vwCl l D [(cA, .int)] y_Mk_takeSemicolon w_Mk_takeSemicolon { frames := 1, cells := 0, slots := 0, locals := 21 } [.ref mk] (wd_MkPat cA mk pt pl mi mk_s mk_st mk_qd mk_qe pt_h) (ct_qz vwCl D [(cA, .int)] Q (fun u => wd_MkPat cA mk pt pl mi u.1 u.2.1 u.2.2.1 u.2.2.2.1 u.2.2.2.2)) := by
  refine ct_enter (cc := b_Mk_takeSemicolon) (maxL := 1) (ret := (some .boolean)) (by decide) rfl (Nat.le_of_ble_eq_true rfl) ?_
  intro p e s m args below meth c A ls hx hb hr hlk hml hts hown hA hS hP hK hN hD hl
  have hl : lv_has ls 1 [(0, .ref mk)] := hl
  have htb : ∀ w ∈ tbl, w.before args s = true := fun w h => hts w (List.mem_cons_of_mem _ h)
  have hown : s.vm.findClass "DecimalPatterns$PatternMaker" = some m.cls := hown
  unfold wp_Mk_takeSemicolon at hw
  refine lv_aload_n hx hb d_Mk_takeSemicolon_0 rfl (lv_at hl 0 rfl) ?_
  refine ct_callz (wn := fun _ => wd_MkPat cA mk pt pl mi mk_s mk_st mk_qd mk_qe pt_h) (va_runV (As := []) (rest := []) ⟨hx, hb, hml, hown, htb⟩ (c_Mk_numberEnded l D cA mk pt mk_s mk_st mk_qd mk_qe _ hw _) (ct_cwV 0 htb tw432 rfl rfl tw81 tw429 tw431 tw12 hd_Mk_numberEnded ⟨by decide, by decide⟩) (ct_preV hP hD hK hN [0] rfl (by decide) 0 rfl rfl _) rfl rfl hl.1 rfl (lv_room (Nat.le_of_ble_eq_true rfl)) d_Mk_takeSemicolon_1 ⟨Nat.zero_le _, Nat.zero_le _⟩) hP hD hS hA [0] [1] [1, 0] rfl rfl (by decide) (by decide) (fun _ => rfl) (by decide) (fun r1 u2 H locs hw hP hD hS => ?_)
  have hP : va_P D vwCl (wd_MkPat cA mk pt pl mi mk_s mk_st mk_qd mk_qe pt_h) H := hP
  have hD : va_D A (wd_MkPat cA mk pt pl mi mk_s mk_st mk_qd mk_qe pt_h) := hD
  refine lv_if_eq (tgt := 17) hx hb d_Mk_takeSemicolon_4 rfl (fun hc => ?_) (fun hc => ?_)
  · have hw := hw.1 ((bI_0 _).mp hc)
    refine lv_iconst (v := 0) hx hb d_Mk_takeSemicolon_17 (by decide) ?_
    exact ct_zret false hx hb hr hlk hK hS (mk_s, mk_st, mk_qd, mk_qe, pt_h) hw hP hD d_Mk_takeSemicolon_18
  · have hw := hw.2 ((bI_n0 _).mp hc)
    refine lv_aload_n hx hb d_Mk_takeSemicolon_7 rfl (lv_at hl 0 rfl) ?_
    refine va_get (ci := 3) (C := R_Mk) (T := F_Mk) (N := 5) hx hb htb in_Mk hown hK hP 0 rfl rfl 0 (by decide) (htb _ tw289) (fun _ h9 => h9) rfl d_Mk_takeSemicolon_8 ?_
    refine va_get (ci := 2) (C := R_Pt) (T := F_Pt) (N := 3) hx hb htb in_Pt hown hK hP 1 rfl rfl 2 (by decide) (htb _ tw275) (fun _ h9 => h9) rfl d_Mk_takeSemicolon_11 ?_
    refine lv_if_eq (tgt := 19) hx hb d_Mk_takeSemicolon_14 rfl (fun hc => ?_) (fun hc => ?_)
    · have hw := hw.1 ((bI_0 _).mp hc)
      refine lv_aload_n hx hb d_Mk_takeSemicolon_19 rfl (lv_at hl 0 rfl) ?_
      refine va_get (ci := 3) (C := R_Mk) (T := F_Mk) (N := 5) hx hb htb in_Mk hown hK hP 0 rfl rfl 0 (by decide) (htb _ tw289) (fun _ h9 => h9) rfl d_Mk_takeSemicolon_20 ?_
      refine lv_iconst (v := 1) hx hb d_Mk_takeSemicolon_23 (by decide) ?_
      refine va_put (ci := 2) (v := .int (bI true)) (ty := .boolean) (C := R_Pt) (T := F_Pt) (N := 3) hx hb htb in_Pt t_Pt t_Pt_ok n_Pt hown hK hP hD hS 1 rfl rfl 2 (by decide) (htb _ tw275) (fun _ h9 => h9) rfl (by decide +kernel) (bI_nar true) (bI_fit true) (Nat.le_of_ble_eq_true rfl) d_Mk_takeSemicolon_24 (fun H locs hP hD hS => ?_)
      have hP : va_P D vwCl (wd_MkPat cA mk pt pl mi mk_s mk_st mk_qd mk_qe true) H := hP
      have hD : va_D A (wd_MkPat cA mk pt pl mi mk_s mk_st mk_qd mk_qe true) := hD
      refine lv_aload_n hx hb d_Mk_takeSemicolon_27 rfl (lv_at hl 0 rfl) ?_
      refine lv_aload_n hx hb d_Mk_takeSemicolon_28 rfl (lv_at hl 0 rfl) ?_
      refine va_get (ci := 3) (C := R_Mk) (T := F_Mk) (N := 5) hx hb htb in_Mk hown hK hP 0 rfl rfl 0 (by decide) (htb _ tw289) (fun _ h9 => h9) rfl d_Mk_takeSemicolon_29 ?_
      refine va_get (ci := 2) (C := R_Pt) (T := F_Pt) (N := 3) hx hb htb in_Pt hown hK hP 1 rfl rfl 1 (by decide) (htb _ tw273) (fun _ h9 => h9) rfl d_Mk_takeSemicolon_32 ?_
      refine ct_callv (wn := fun u4 => wd_MkPat cA mk pt pl mi u4.1 u4.2.1 u4.2.2.1 u4.2.2.2 true) (va_runV (As := [.ref mi]) (rest := []) ⟨hx, hb, hml, hown, htb⟩ (c_Mk_beginSub l D cA mk pt mi mk_s mk_st mk_qd mk_qe _ hw _) (ct_cwV 1 htb tw375 rfl rfl tw81 tw372 tw374 tw0 hd_Mk_beginSub ⟨by decide, by decide⟩) (ct_preV hP hD hK hN [0] rfl (by decide) 0 rfl rfl _) rfl rfl hl.1 rfl (lv_room (Nat.le_of_ble_eq_true rfl)) d_Mk_takeSemicolon_35 ⟨Nat.zero_le _, Nat.zero_le _⟩) hP hD hS hA [0] [1] [1, 0] rfl rfl (by decide) (by decide) (fun _ => rfl) (by decide) (fun u4 H locs hw hP hD hS => ?_)
      have hP : va_P D vwCl (wd_MkPat cA mk pt pl mi u4.1 u4.2.1 u4.2.2.1 u4.2.2.2 true) H := hP
      have hD : va_D A (wd_MkPat cA mk pt pl mi u4.1 u4.2.1 u4.2.2.1 u4.2.2.2 true) := hD
      refine lv_iconst (v := 1) hx hb d_Mk_takeSemicolon_38 (by decide) ?_
      exact ct_zret true hx hb hr hlk hK hS (u4.1, u4.2.1, u4.2.2.1, u4.2.2.2, true) hw hP hD d_Mk_takeSemicolon_39
    · have hw := hw.2 ((bI_n0 _).mp hc)
      refine lv_iconst (v := 0) hx hb d_Mk_takeSemicolon_17 (by decide) ?_
      exact ct_zret false hx hb hr hlk hK hS (mk_s, mk_st, mk_qd, mk_qe, pt_h) hw hP hD d_Mk_takeSemicolon_18
/-! DecimalPatterns$PatternMaker.enterAffix()Z -/
def wp_Mk_enterAffix (mk_st : Int32) (Q : Bool → Int32 → Prop) : Prop := (¬ mk_st = 0 → (wp_Mk_numberEnded mk_st (fun r1 u2 => (r1 = true → (Q true 8)) ∧ (r1 = false → (Q false mk_st))))) ∧ (mk_st = 0 → (Q true mk_st))
set_option maxHeartbeats 4000000 in
set_option maxRecDepth 100000 in
theorem c_Mk_enterAffix (l : Launch) (D : va_G) (cA : ClassId) (mk mk_g : Nat) (mk_s : Nat) (mk_st : Int32) (mk_qd : Bool) (mk_qe : Bool) (Q : Bool → Int32 → Prop) (hw : wp_Mk_enterAffix mk_st Q) : ct_M vwCl l D [(cA, .int)] y_Mk_enterAffix w_Mk_enterAffix { frames := 1, cells := 0, slots := 0, locals := 20 } [.ref mk] (wd_MkO cA mk mk_g mk_s mk_st mk_qd mk_qe) (ct_qz vwCl D [(cA, .int)] Q (fun u => wd_MkO cA mk mk_g mk_s u mk_qd mk_qe)) := by
  refine ct_enter (cc := b_Mk_enterAffix) (maxL := 1) (ret := (some .boolean)) (by decide) rfl (Nat.le_of_ble_eq_true rfl) ?_
  intro p e s m args below meth c A ls hx hb hr hlk hml hts hown hA hS hP hK hN hD hl
  have hl : lv_has ls 1 [(0, .ref mk)] := hl
  have htb : ∀ w ∈ tbl, w.before args s = true := fun w h => hts w (List.mem_cons_of_mem _ h)
  have hown : s.vm.findClass "DecimalPatterns$PatternMaker" = some m.cls := hown
  unfold wp_Mk_enterAffix at hw
  refine lv_aload_n hx hb d_Mk_enterAffix_0 rfl (lv_at hl 0 rfl) ?_
  refine va_get (ci := 3) (C := R_Mk) (T := F_Mk) (N := 5) hx hb htb in_Mk hown hK hP 0 rfl rfl 2 (by decide) (htb _ tw291) (fun _ h9 => h9) rfl d_Mk_enterAffix_1 ?_
  refine lv_if_ne (tgt := 9) hx hb d_Mk_enterAffix_4 rfl (fun hc => ?_) (fun hc => ?_)
  · have hw := hw.1 hc
    refine lv_aload_n hx hb d_Mk_enterAffix_9 rfl (lv_at hl 0 rfl) ?_
    refine ct_callz (wn := fun _ => wd_MkO cA mk mk_g mk_s mk_st mk_qd mk_qe) (va_runV (As := []) (rest := []) ⟨hx, hb, hml, hown, htb⟩ (c_Mk_numberEnded l D cA mk mk_g mk_s mk_st mk_qd mk_qe _ hw _) (ct_cwV 0 htb tw432 rfl rfl tw81 tw429 tw431 tw12 hd_Mk_numberEnded ⟨by decide, by decide⟩) (ct_preV hP hD hK hN [0] rfl (by decide) 0 rfl rfl _) rfl rfl hl.1 rfl (lv_room (Nat.le_of_ble_eq_true rfl)) d_Mk_enterAffix_10 ⟨Nat.zero_le _, Nat.zero_le _⟩) hP hD hS hA [0] [] [0] rfl rfl (by decide) (by decide) (fun _ => rfl) (by decide) (fun r1 u2 H locs hw hP hD hS => ?_)
    have hP : va_P D vwCl (wd_MkO cA mk mk_g mk_s mk_st mk_qd mk_qe) H := hP
    have hD : va_D A (wd_MkO cA mk mk_g mk_s mk_st mk_qd mk_qe) := hD
    refine lv_if_ne (tgt := 18) hx hb d_Mk_enterAffix_13 rfl (fun hc => ?_) (fun hc => ?_)
    · have hw := hw.1 ((bI_n0 _).mp hc)
      refine lv_aload_n hx hb d_Mk_enterAffix_18 rfl (lv_at hl 0 rfl) ?_
      refine lv_bipush (v := 8) hx hb d_Mk_enterAffix_19 (by decide) ?_
      refine va_put (ci := 3) (v := .int 8) (ty := .int) (C := R_Mk) (T := F_Mk) (N := 5) hx hb htb in_Mk t_Mk t_Mk_ok n_Mk hown hK hP hD hS 0 rfl rfl 2 (by decide) (htb _ tw291) (fun _ h9 => h9) rfl (by decide +kernel) rfl rfl (Nat.le_of_ble_eq_true rfl) d_Mk_enterAffix_21 (fun H locs hP hD hS => ?_)
      have hP : va_P D vwCl (wd_MkO cA mk mk_g mk_s 8 mk_qd mk_qe) H := hP
      have hD : va_D A (wd_MkO cA mk mk_g mk_s 8 mk_qd mk_qe) := hD
      refine lv_iconst (v := 1) hx hb d_Mk_enterAffix_24 (by decide) ?_
      exact ct_zret true hx hb hr hlk hK hS 8 hw hP hD d_Mk_enterAffix_25
    · have hw := hw.2 ((bI_0 _).mp hc)
      refine lv_iconst (v := 0) hx hb d_Mk_enterAffix_16 (by decide) ?_
      exact ct_zret false hx hb hr hlk hK hS mk_st hw hP hD d_Mk_enterAffix_17
  · have hw := hw.2 hc
    refine lv_iconst (v := 1) hx hb d_Mk_enterAffix_7 (by decide) ?_
    exact ct_zret true hx hb hr hlk hK hS mk_st hw hP hD d_Mk_enterAffix_8
/-! DecimalPatterns$PatternMaker.openAffix()LDecimalPatterns$Row; -/
def wp_Mk_openAffix (sb_p sb_s : Nat) (mk_st : Int32) (Q : Nat → Unit → Prop) : Prop := (¬ mk_st = 0 → (Q sb_s ())) ∧ (mk_st = 0 → (Q sb_p ()))
set_option maxHeartbeats 4000000 in
set_option maxRecDepth 100000 in
theorem c_Mk_openAffix (l : Launch) (D : va_G) (cA : ClassId) (mk sb mk_g sb_p sb_s : Nat) (mk_st : Int32) (mk_qd : Bool) (mk_qe : Bool) (sb_pm : Bool) (sb_h : Int32) (sb_z : Int32) (sb_c : Int32) (sb_b : Int32) (sb_t : Int32) (sb_f : Int32) (sb_q : Int32) (sb_e : Int32) (sb_x : Bool) (Q : Nat → Unit → Prop) (hw : wp_Mk_openAffix sb_p sb_s mk_st Q) : ct_M vwCl l D [(cA, .int)] y_Mk_openAffix w_Mk_openAffix { frames := 0, cells := 0, slots := 0, locals := 0 } [.ref mk] (wd_MkSub cA mk sb mk_g sb_p sb_s mk_st mk_qd mk_qe sb_pm sb_h sb_z sb_c sb_b sb_t sb_f sb_q sb_e sb_x) (ct_qr vwCl D [(cA, .int)] Q (fun u => wd_MkSub cA mk sb mk_g sb_p sb_s mk_st mk_qd mk_qe sb_pm sb_h sb_z sb_c sb_b sb_t sb_f sb_q sb_e sb_x)) := by
  refine ct_enter (cc := b_Mk_openAffix) (maxL := 1) (ret := (some (.object "DecimalPatterns$Row"))) (by decide) rfl (Nat.le_of_ble_eq_true rfl) ?_
  intro p e s m args below meth c A ls hx hb hr hlk hml hts hown hA hS hP hK hN hD hl
  have hl : lv_has ls 1 [(0, .ref mk)] := hl
  have htb : ∀ w ∈ tbl, w.before args s = true := fun w h => hts w (List.mem_cons_of_mem _ h)
  have hown : s.vm.findClass "DecimalPatterns$PatternMaker" = some m.cls := hown
  unfold wp_Mk_openAffix at hw
  refine lv_aload_n hx hb d_Mk_openAffix_0 rfl (lv_at hl 0 rfl) ?_
  refine va_get (ci := 3) (C := R_Mk) (T := F_Mk) (N := 5) hx hb htb in_Mk hown hK hP 0 rfl rfl 2 (by decide) (htb _ tw291) (fun _ h9 => h9) rfl d_Mk_openAffix_1 ?_
  refine lv_if_ne (tgt := 17) hx hb d_Mk_openAffix_4 rfl (fun hc => ?_) (fun hc => ?_)
  · have hw := hw.1 hc
    refine lv_aload_n hx hb d_Mk_openAffix_17 rfl (lv_at hl 0 rfl) ?_
    refine va_get (ci := 3) (C := R_Mk) (T := F_Mk) (N := 5) hx hb htb in_Mk hown hK hP 0 rfl rfl 1 (by decide) (htb _ tw290) (fun _ h9 => h9) rfl d_Mk_openAffix_18 ?_
    refine va_get (ci := 6) (C := R_Sb) (T := F_Sb) (N := 12) hx hb htb in_Sb hown hK hP 1 rfl rfl 1 (by decide) (htb _ tw211) (fun _ h9 => h9) rfl d_Mk_openAffix_21 ?_
    exact ct_aret hx hb hr (Or.inl ⟨_, rfl⟩) hlk hK hS () hw hP hD d_Mk_openAffix_24
  · have hw := hw.2 hc
    refine lv_aload_n hx hb d_Mk_openAffix_7 rfl (lv_at hl 0 rfl) ?_
    refine va_get (ci := 3) (C := R_Mk) (T := F_Mk) (N := 5) hx hb htb in_Mk hown hK hP 0 rfl rfl 1 (by decide) (htb _ tw290) (fun _ h9 => h9) rfl d_Mk_openAffix_8 ?_
    refine va_get (ci := 6) (C := R_Sb) (T := F_Sb) (N := 12) hx hb htb in_Sb hown hK hP 1 rfl rfl 0 (by decide) (htb _ tw207) (fun _ h9 => h9) rfl d_Mk_openAffix_11 ?_
    refine lv_goto (tgt := 24) hx hb d_Mk_openAffix_14 rfl ?_
    exact ct_aret hx hb hr (Or.inl ⟨_, rfl⟩) hlk hK hS () hw hP hD d_Mk_openAffix_24
/-! DecimalPatterns$PatternMaker.takeAffix(I)Z -/
def wp_Mk_takeAffix_J120 (x1 : Int32) (mk_st : Int32) (mk_qd : Bool) (mk_qe : Bool) (sb_pm : Bool) (sb_p_n : Int32) (sb_p_f : Nat → Int32) (sb_s_n : Int32) (sb_s_f : Nat → Int32) (Q : Bool → (Int32 × Bool × Bool × Bool × Int32 × (Nat → Int32) × Int32 × (Nat → Int32)) → Prop) : Prop := wp_Mk_enterAffix mk_st (fun r1 u2 => (r1 = true → ((¬ x1 = 39 → ((¬ x1 = 45 → ((¬ x1 = 37 → ((u2 = 0 → (wp_Row_add 40 sb_p_n sb_p_f x1 (fun r5 u6 => Q true (u2, mk_qd, mk_qe, sb_pm, u6.1, u6.2, sb_s_n, sb_s_f)))) ∧ (¬ u2 = 0 → (wp_Row_add 40 sb_s_n sb_s_f x1 (fun r7 u8 => Q true (u2, mk_qd, mk_qe, sb_pm, sb_p_n, sb_p_f, u8.1, u8.2)))))) ∧ (x1 = 37 → ((u2 = 0 → (wp_Row_add 40 sb_p_n sb_p_f 259 (fun r11 u12 => Q true (u2, mk_qd, mk_qe, true, u12.1, u12.2, sb_s_n, sb_s_f)))) ∧ (¬ u2 = 0 → (wp_Row_add 40 sb_s_n sb_s_f 259 (fun r13 u14 => Q true (u2, mk_qd, mk_qe, true, sb_p_n, sb_p_f, u14.1, u14.2)))))))) ∧ (x1 = 45 → ((u2 = 0 → (wp_Row_add 40 sb_p_n sb_p_f 258 (fun r17 u18 => Q true (u2, mk_qd, mk_qe, sb_pm, u18.1, u18.2, sb_s_n, sb_s_f)))) ∧ (¬ u2 = 0 → (wp_Row_add 40 sb_s_n sb_s_f 258 (fun r19 u20 => Q true (u2, mk_qd, mk_qe, sb_pm, sb_p_n, sb_p_f, u20.1, u20.2)))))))) ∧ (x1 = 39 → (Q true (u2, true, true, sb_pm, sb_p_n, sb_p_f, sb_s_n, sb_s_f))))) ∧ (r1 = false → (Q false (u2, mk_qd, mk_qe, sb_pm, sb_p_n, sb_p_f, sb_s_n, sb_s_f))))
def wp_Mk_takeAffix (mk_st : Int32) (mk_qd : Bool) (mk_qe : Bool) (sb_pm : Bool) (sb_p_n : Int32) (sb_p_f : Nat → Int32) (sb_s_n : Int32) (sb_s_f : Nat → Int32) (cd : Int32) (Q : Bool → (Int32 × Bool × Bool × Bool × Int32 × (Nat → Int32) × Int32 × (Nat → Int32)) → Prop) : Prop := (cd < 49 → (wp_Mk_takeAffix_J120 cd mk_st mk_qd mk_qe sb_pm sb_p_n sb_p_f sb_s_n sb_s_f Q)) ∧ (¬ cd < 49 → ((cd ≤ 57 → (Q false (mk_st, mk_qd, mk_qe, sb_pm, sb_p_n, sb_p_f, sb_s_n, sb_s_f))) ∧ (¬ cd ≤ 57 → (wp_Mk_takeAffix_J120 cd mk_st mk_qd mk_qe sb_pm sb_p_n sb_p_f sb_s_n sb_s_f Q))))
set_option maxHeartbeats 4000000 in
set_option maxRecDepth 100000 in
theorem c_Mk_takeAffix (l : Launch) (D : va_G) (cA : ClassId) (mk sb sb_p sb_p_a sb_s sb_s_a mk_g : Nat) (mk_st : Int32) (mk_qd : Bool) (mk_qe : Bool) (sb_pm : Bool) (sb_h : Int32) (sb_z : Int32) (sb_c : Int32) (sb_b : Int32) (sb_t : Int32) (sb_f : Int32) (sb_q : Int32) (sb_e : Int32) (sb_x : Bool) (sb_p_n : Int32) (sb_p_f : Nat → Int32) (sb_s_n : Int32) (sb_s_f : Nat → Int32) (cd : Int32) (Q : Bool → (Int32 × Bool × Bool × Bool × Int32 × (Nat → Int32) × Int32 × (Nat → Int32)) → Prop) (hw : wp_Mk_takeAffix mk_st mk_qd mk_qe sb_pm sb_p_n sb_p_f sb_s_n sb_s_f cd Q) : ct_M vwCl l D [(cA, .int)] y_Mk_takeAffix w_Mk_takeAffix { frames := 2, cells := 0, slots := 0, locals := 40 } [.ref mk, .int cd] (wd_MkSubF cA mk sb sb_p sb_p_a sb_s sb_s_a mk_g mk_st mk_qd mk_qe sb_pm sb_h sb_z sb_c sb_b sb_t sb_f sb_q sb_e sb_x sb_p_n sb_p_f sb_s_n sb_s_f) (ct_qz vwCl D [(cA, .int)] Q (fun u => wd_MkSubF cA mk sb sb_p sb_p_a sb_s sb_s_a mk_g u.1 u.2.1 u.2.2.1 u.2.2.2.1 sb_h sb_z sb_c sb_b sb_t sb_f sb_q sb_e sb_x u.2.2.2.2.1 u.2.2.2.2.2.1 u.2.2.2.2.2.2.1 u.2.2.2.2.2.2.2)) := by
  refine ct_enter (cc := b_Mk_takeAffix) (maxL := 2) (ret := (some .boolean)) (by decide) rfl (Nat.le_of_ble_eq_true rfl) ?_
  intro p e s m args below meth c A ls hx hb hr hlk hml hts hown hA hS hP hK hN hD hl
  have hl : lv_has ls 2 [(0, .ref mk), (1, .int cd)] := hl
  have htb : ∀ w ∈ tbl, w.before args s = true := fun w h => hts w (List.mem_cons_of_mem _ h)
  have hown : s.vm.findClass "DecimalPatterns$PatternMaker" = some m.cls := hown
  unfold wp_Mk_takeAffix at hw
  have hJ120 : ∀ (x1 : Int32) (mk_st : Int32) (mk_qd : Bool) (mk_qe : Bool) (sb_pm : Bool) (sb_p_n : Int32) (sb_p_f : Nat → Int32) (sb_s_n : Int32) (sb_s_f : Nat → Int32) (H : Heap) (locs : List Loc) (ls : Array Slot), lv_has ls 2 [(0, .ref mk), (1, .int x1)] → va_P D vwCl (wd_MkSubF cA mk sb sb_p sb_p_a sb_s sb_s_a mk_g mk_st mk_qd mk_qe sb_pm sb_h sb_z sb_c sb_b sb_t sb_f sb_q sb_e sb_x sb_p_n sb_p_f sb_s_n sb_s_f) H → va_D A (wd_MkSubF cA mk sb sb_p sb_p_a sb_s sb_s_a mk_g mk_st mk_qd mk_qe sb_pm sb_h sb_z sb_c sb_b sb_t sb_f sb_q sb_e sb_x sb_p_n sb_p_f sb_s_n sb_s_f) → va_S A s.heap H locs → wp_Mk_takeAffix_J120 x1 mk_st mk_qd mk_qe sb_pm sb_p_n sb_p_f sb_s_n sb_s_f Q → W p l e { frames := 2, cells := 0, slots := 0, locals := 40 } s m args below meth c H locs 0 0 (MQ below (ct_qz vwCl D [(cA, .int)] Q (fun u => wd_MkSubF cA mk sb sb_p sb_p_a sb_s sb_s_a mk_g u.1 u.2.1 u.2.2.1 u.2.2.2.1 sb_h sb_z sb_c sb_b sb_t sb_f sb_q sb_e sb_x u.2.2.2.2.1 u.2.2.2.2.2.1 u.2.2.2.2.2.2.1 u.2.2.2.2.2.2.2) A) args s 0 0 A) (F0 m 12 ls []) := by
    intro x1 mk_st mk_qd mk_qe sb_pm sb_p_n sb_p_f sb_s_n sb_s_f H locs ls hl hP hD hS hw
    unfold wp_Mk_takeAffix_J120 at hw
    refine lv_aload_n hx hb d_Mk_takeAffix_12 rfl (lv_at hl 0 rfl) ?_
    refine ct_callz (wn := fun u2 => wd_MkSubF cA mk sb sb_p sb_p_a sb_s sb_s_a mk_g u2 mk_qd mk_qe sb_pm sb_h sb_z sb_c sb_b sb_t sb_f sb_q sb_e sb_x sb_p_n sb_p_f sb_s_n sb_s_f) (va_runV (As := []) (rest := []) ⟨hx, hb, hml, hown, htb⟩ (c_Mk_enterAffix l D cA mk mk_g sb mk_st mk_qd mk_qe _ hw _) (ct_cwV 0 htb tw444 rfl rfl tw81 tw441 tw443 tw15 hd_Mk_enterAffix ⟨by decide, by decide⟩) (ct_preV hP hD hK hN [0] rfl (by decide) 0 rfl rfl _) rfl rfl hl.1 rfl (lv_room (Nat.le_of_ble_eq_true rfl)) d_Mk_takeAffix_13 ⟨Nat.zero_le _, Nat.zero_le _⟩) hP hD hS hA [0] [1, 2, 3, 4, 5] [5, 0, 1, 2, 3, 4] rfl rfl (by decide) (by decide) (fun _ => rfl) (by decide) (fun r1 u2 H locs hw hP hD hS => ?_)
    have hP : va_P D vwCl (wd_MkSubF cA mk sb sb_p sb_p_a sb_s sb_s_a mk_g u2 mk_qd mk_qe sb_pm sb_h sb_z sb_c sb_b sb_t sb_f sb_q sb_e sb_x sb_p_n sb_p_f sb_s_n sb_s_f) H := hP
    have hD : va_D A (wd_MkSubF cA mk sb sb_p sb_p_a sb_s sb_s_a mk_g u2 mk_qd mk_qe sb_pm sb_h sb_z sb_c sb_b sb_t sb_f sb_q sb_e sb_x sb_p_n sb_p_f sb_s_n sb_s_f) := hD
    refine lv_if_ne (tgt := 21) hx hb d_Mk_takeAffix_16 rfl (fun hc => ?_) (fun hc => ?_)
    · have hw := hw.1 ((bI_n0 _).mp hc)
      refine lv_iload_n hx hb d_Mk_takeAffix_21 rfl (lv_at hl 1 rfl) ?_
      refine lv_bipush (v := 39) hx hb d_Mk_takeAffix_22 (by decide) ?_
      refine lv_icmp_ne (tgt := 40) hx hb d_Mk_takeAffix_24 rfl (fun hc => ?_) (fun hc => ?_)
      · have hw := hw.1 hc
        refine lv_iload_n hx hb d_Mk_takeAffix_40 rfl (lv_at hl 1 rfl) ?_
        refine lv_bipush (v := 45) hx hb d_Mk_takeAffix_41 (by decide) ?_
        refine lv_icmp_ne (tgt := 60) hx hb d_Mk_takeAffix_43 rfl (fun hc => ?_) (fun hc => ?_)
        · have hw := hw.1 hc
          refine lv_iload_n hx hb d_Mk_takeAffix_60 rfl (lv_at hl 1 rfl) ?_
          refine lv_bipush (v := 37) hx hb d_Mk_takeAffix_61 (by decide) ?_
          refine lv_icmp_ne (tgt := 88) hx hb d_Mk_takeAffix_63 rfl (fun hc => ?_) (fun hc => ?_)
          · have hw := hw.1 hc
            refine lv_aload_n hx hb d_Mk_takeAffix_88 rfl (lv_at hl 0 rfl) ?_
            by_cases hc0 : u2 = 0
            · have hw := hw.1 hc0
              refine ct_callr (wn := fun _ => wd_MkSubF cA mk sb sb_p sb_p_a sb_s sb_s_a mk_g u2 mk_qd mk_qe sb_pm sb_h sb_z sb_c sb_b sb_t sb_f sb_q sb_e sb_x sb_p_n sb_p_f sb_s_n sb_s_f) (va_runV (As := []) (rest := []) ⟨hx, hb, hml, hown, htb⟩ (c_Mk_openAffix l D cA mk sb mk_g sb_p sb_s u2 mk_qd mk_qe sb_pm sb_h sb_z sb_c sb_b sb_t sb_f sb_q sb_e sb_x (fun r _ => r = sb_p) (by unfold wp_Mk_openAffix; exact ⟨fun h => absurd hc0 h, fun _ => rfl⟩) _) (ct_cwV 0 htb tw395 rfl rfl tw81 tw392 tw394 tw3 hd_Mk_openAffix ⟨by decide, by decide⟩) (ct_preV hP hD hK hN [0, 1] rfl (by decide) 0 rfl rfl _) rfl rfl hl.1 rfl (lv_room (Nat.le_of_ble_eq_true rfl)) d_Mk_takeAffix_89 ⟨Nat.zero_le _, Nat.zero_le _⟩) hP hD hS hA [0, 1] [2, 3, 4, 5] [4, 5, 0, 1, 2, 3] rfl rfl (by decide) (by decide) (fun _ => rfl) (by decide) (fun r3 u4 H locs hq hP hD hS => ?_)
              have hq := hq.symm
              subst hq
              have hP : va_P D vwCl (wd_MkSubF cA mk sb sb_p sb_p_a sb_s sb_s_a mk_g u2 mk_qd mk_qe sb_pm sb_h sb_z sb_c sb_b sb_t sb_f sb_q sb_e sb_x sb_p_n sb_p_f sb_s_n sb_s_f) H := hP
              have hD : va_D A (wd_MkSubF cA mk sb sb_p sb_p_a sb_s sb_s_a mk_g u2 mk_qd mk_qe sb_pm sb_h sb_z sb_c sb_b sb_t sb_f sb_q sb_e sb_x sb_p_n sb_p_f sb_s_n sb_s_f) := hD
              refine lv_iload_n hx hb d_Mk_takeAffix_92 rfl (lv_at hl 1 rfl) ?_
              refine ct_callz (wn := fun u6 => wd_MkSubF cA mk sb sb_p sb_p_a sb_s sb_s_a mk_g u2 mk_qd mk_qe sb_pm sb_h sb_z sb_c sb_b sb_t sb_f sb_q sb_e sb_x u6.1 u6.2 sb_s_n sb_s_f) (va_runV (As := [.int x1]) (rest := []) ⟨hx, hb, hml, hown, htb⟩ (c_Row_add l D cA sb_p sb_p_a 40 sb_p_n sb_p_f x1 _ hw _) (ct_cwV 1 htb tw346 rfl rfl tw73 tw396 tw344 tw345 hd_Row_add ⟨by decide, by decide⟩) (ct_preV hP hD hK hN [2, 3] rfl (by decide) 2 rfl rfl _) rfl rfl hl.1 rfl (lv_room (Nat.le_of_ble_eq_true rfl)) d_Mk_takeAffix_93 ⟨Nat.zero_le _, Nat.zero_le _⟩) hP hD hS hA [2, 3] [0, 1, 4, 5] [0, 1, 4, 5, 2, 3] rfl rfl (by decide) (by decide) (fun _ => rfl) (by decide) (fun r5 u6 H locs hw hP hD hS => ?_)
              have hP : va_P D vwCl (wd_MkSubF cA mk sb sb_p sb_p_a sb_s sb_s_a mk_g u2 mk_qd mk_qe sb_pm sb_h sb_z sb_c sb_b sb_t sb_f sb_q sb_e sb_x u6.1 u6.2 sb_s_n sb_s_f) H := hP
              have hD : va_D A (wd_MkSubF cA mk sb sb_p sb_p_a sb_s sb_s_a mk_g u2 mk_qd mk_qe sb_pm sb_h sb_z sb_c sb_b sb_t sb_f sb_q sb_e sb_x u6.1 u6.2 sb_s_n sb_s_f) := hD
              refine lv_pop hx hb d_Mk_takeAffix_96 rfl ?_
              refine lv_iconst (v := 1) hx hb d_Mk_takeAffix_97 (by decide) ?_
              exact ct_zret true hx hb hr hlk hK hS (u2, mk_qd, mk_qe, sb_pm, u6.1, u6.2, sb_s_n, sb_s_f) hw hP hD d_Mk_takeAffix_98
            have hw := hw.2 hc0
            refine ct_callr (wn := fun _ => wd_MkSubF cA mk sb sb_p sb_p_a sb_s sb_s_a mk_g u2 mk_qd mk_qe sb_pm sb_h sb_z sb_c sb_b sb_t sb_f sb_q sb_e sb_x sb_p_n sb_p_f sb_s_n sb_s_f) (va_runV (As := []) (rest := []) ⟨hx, hb, hml, hown, htb⟩ (c_Mk_openAffix l D cA mk sb mk_g sb_p sb_s u2 mk_qd mk_qe sb_pm sb_h sb_z sb_c sb_b sb_t sb_f sb_q sb_e sb_x (fun r _ => r = sb_s) (by unfold wp_Mk_openAffix; exact ⟨fun _ => rfl, fun h => absurd h hc0⟩) _) (ct_cwV 0 htb tw395 rfl rfl tw81 tw392 tw394 tw3 hd_Mk_openAffix ⟨by decide, by decide⟩) (ct_preV hP hD hK hN [0, 1] rfl (by decide) 0 rfl rfl _) rfl rfl hl.1 rfl (lv_room (Nat.le_of_ble_eq_true rfl)) d_Mk_takeAffix_89 ⟨Nat.zero_le _, Nat.zero_le _⟩) hP hD hS hA [0, 1] [2, 3, 4, 5] [4, 5, 0, 1, 2, 3] rfl rfl (by decide) (by decide) (fun _ => rfl) (by decide) (fun r3 u4 H locs hq hP hD hS => ?_)
            have hq := hq.symm
            subst hq
            have hP : va_P D vwCl (wd_MkSubF cA mk sb sb_p sb_p_a sb_s sb_s_a mk_g u2 mk_qd mk_qe sb_pm sb_h sb_z sb_c sb_b sb_t sb_f sb_q sb_e sb_x sb_p_n sb_p_f sb_s_n sb_s_f) H := hP
            have hD : va_D A (wd_MkSubF cA mk sb sb_p sb_p_a sb_s sb_s_a mk_g u2 mk_qd mk_qe sb_pm sb_h sb_z sb_c sb_b sb_t sb_f sb_q sb_e sb_x sb_p_n sb_p_f sb_s_n sb_s_f) := hD
            refine lv_iload_n hx hb d_Mk_takeAffix_92 rfl (lv_at hl 1 rfl) ?_
            refine ct_callz (wn := fun u8 => wd_MkSubF cA mk sb sb_p sb_p_a sb_s sb_s_a mk_g u2 mk_qd mk_qe sb_pm sb_h sb_z sb_c sb_b sb_t sb_f sb_q sb_e sb_x sb_p_n sb_p_f u8.1 u8.2) (va_runV (As := [.int x1]) (rest := []) ⟨hx, hb, hml, hown, htb⟩ (c_Row_add l D cA sb_s sb_s_a 40 sb_s_n sb_s_f x1 _ hw _) (ct_cwV 1 htb tw346 rfl rfl tw73 tw396 tw344 tw345 hd_Row_add ⟨by decide, by decide⟩) (ct_preV hP hD hK hN [4, 5] rfl (by decide) 4 rfl rfl _) rfl rfl hl.1 rfl (lv_room (Nat.le_of_ble_eq_true rfl)) d_Mk_takeAffix_93 ⟨Nat.zero_le _, Nat.zero_le _⟩) hP hD hS hA [4, 5] [0, 1, 2, 3] [0, 1, 2, 3, 4, 5] rfl rfl (by decide) (by decide) (fun _ => rfl) (by decide) (fun r7 u8 H locs hw hP hD hS => ?_)
            have hP : va_P D vwCl (wd_MkSubF cA mk sb sb_p sb_p_a sb_s sb_s_a mk_g u2 mk_qd mk_qe sb_pm sb_h sb_z sb_c sb_b sb_t sb_f sb_q sb_e sb_x sb_p_n sb_p_f u8.1 u8.2) H := hP
            have hD : va_D A (wd_MkSubF cA mk sb sb_p sb_p_a sb_s sb_s_a mk_g u2 mk_qd mk_qe sb_pm sb_h sb_z sb_c sb_b sb_t sb_f sb_q sb_e sb_x sb_p_n sb_p_f u8.1 u8.2) := hD
            refine lv_pop hx hb d_Mk_takeAffix_96 rfl ?_
            refine lv_iconst (v := 1) hx hb d_Mk_takeAffix_97 (by decide) ?_
            exact ct_zret true hx hb hr hlk hK hS (u2, mk_qd, mk_qe, sb_pm, sb_p_n, sb_p_f, u8.1, u8.2) hw hP hD d_Mk_takeAffix_98
          · have hw := hw.2 hc
            refine lv_aload_n hx hb d_Mk_takeAffix_66 rfl (lv_at hl 0 rfl) ?_
            by_cases hc0 : u2 = 0
            · have hw := hw.1 hc0
              refine ct_callr (wn := fun _ => wd_MkSubF cA mk sb sb_p sb_p_a sb_s sb_s_a mk_g u2 mk_qd mk_qe sb_pm sb_h sb_z sb_c sb_b sb_t sb_f sb_q sb_e sb_x sb_p_n sb_p_f sb_s_n sb_s_f) (va_runV (As := []) (rest := []) ⟨hx, hb, hml, hown, htb⟩ (c_Mk_openAffix l D cA mk sb mk_g sb_p sb_s u2 mk_qd mk_qe sb_pm sb_h sb_z sb_c sb_b sb_t sb_f sb_q sb_e sb_x (fun r _ => r = sb_p) (by unfold wp_Mk_openAffix; exact ⟨fun h => absurd hc0 h, fun _ => rfl⟩) _) (ct_cwV 0 htb tw395 rfl rfl tw81 tw392 tw394 tw3 hd_Mk_openAffix ⟨by decide, by decide⟩) (ct_preV hP hD hK hN [0, 1] rfl (by decide) 0 rfl rfl _) rfl rfl hl.1 rfl (lv_room (Nat.le_of_ble_eq_true rfl)) d_Mk_takeAffix_67 ⟨Nat.zero_le _, Nat.zero_le _⟩) hP hD hS hA [0, 1] [2, 3, 4, 5] [4, 5, 0, 1, 2, 3] rfl rfl (by decide) (by decide) (fun _ => rfl) (by decide) (fun r9 u10 H locs hq hP hD hS => ?_)
              have hq := hq.symm
              subst hq
              have hP : va_P D vwCl (wd_MkSubF cA mk sb sb_p sb_p_a sb_s sb_s_a mk_g u2 mk_qd mk_qe sb_pm sb_h sb_z sb_c sb_b sb_t sb_f sb_q sb_e sb_x sb_p_n sb_p_f sb_s_n sb_s_f) H := hP
              have hD : va_D A (wd_MkSubF cA mk sb sb_p sb_p_a sb_s sb_s_a mk_g u2 mk_qd mk_qe sb_pm sb_h sb_z sb_c sb_b sb_t sb_f sb_q sb_e sb_x sb_p_n sb_p_f sb_s_n sb_s_f) := hD
              refine lv_sipush (v := 259) hx hb d_Mk_takeAffix_70 (by decide) ?_
              refine ct_callz (wn := fun u12 => wd_MkSubF cA mk sb sb_p sb_p_a sb_s sb_s_a mk_g u2 mk_qd mk_qe sb_pm sb_h sb_z sb_c sb_b sb_t sb_f sb_q sb_e sb_x u12.1 u12.2 sb_s_n sb_s_f) (va_runV (As := [.int 259]) (rest := []) ⟨hx, hb, hml, hown, htb⟩ (c_Row_add l D cA sb_p sb_p_a 40 sb_p_n sb_p_f 259 _ hw _) (ct_cwV 1 htb tw346 rfl rfl tw73 tw396 tw344 tw345 hd_Row_add ⟨by decide, by decide⟩) (ct_preV hP hD hK hN [2, 3] rfl (by decide) 2 rfl rfl _) rfl rfl hl.1 rfl (lv_room (Nat.le_of_ble_eq_true rfl)) d_Mk_takeAffix_73 ⟨Nat.zero_le _, Nat.zero_le _⟩) hP hD hS hA [2, 3] [0, 1, 4, 5] [0, 1, 4, 5, 2, 3] rfl rfl (by decide) (by decide) (fun _ => rfl) (by decide) (fun r11 u12 H locs hw hP hD hS => ?_)
              have hP : va_P D vwCl (wd_MkSubF cA mk sb sb_p sb_p_a sb_s sb_s_a mk_g u2 mk_qd mk_qe sb_pm sb_h sb_z sb_c sb_b sb_t sb_f sb_q sb_e sb_x u12.1 u12.2 sb_s_n sb_s_f) H := hP
              have hD : va_D A (wd_MkSubF cA mk sb sb_p sb_p_a sb_s sb_s_a mk_g u2 mk_qd mk_qe sb_pm sb_h sb_z sb_c sb_b sb_t sb_f sb_q sb_e sb_x u12.1 u12.2 sb_s_n sb_s_f) := hD
              refine lv_pop hx hb d_Mk_takeAffix_76 rfl ?_
              refine lv_aload_n hx hb d_Mk_takeAffix_77 rfl (lv_at hl 0 rfl) ?_
              refine va_get (ci := 3) (C := R_Mk) (T := F_Mk) (N := 5) hx hb htb in_Mk hown hK hP 0 rfl rfl 1 (by decide) (htb _ tw290) (fun _ h9 => h9) rfl d_Mk_takeAffix_78 ?_
              refine lv_iconst (v := 1) hx hb d_Mk_takeAffix_81 (by decide) ?_
              refine va_put (ci := 6) (v := .int (bI true)) (ty := .boolean) (C := R_Sb) (T := F_Sb) (N := 12) hx hb htb in_Sb t_Sb t_Sb_ok n_Sb hown hK hP hD hS 1 rfl rfl 2 (by decide) (htb _ tw215) (fun _ h9 => h9) rfl (by decide +kernel) (bI_nar true) (bI_fit true) (Nat.le_of_ble_eq_true rfl) d_Mk_takeAffix_82 (fun H locs hP hD hS => ?_)
              have hP : va_P D vwCl (wd_MkSubF cA mk sb sb_p sb_p_a sb_s sb_s_a mk_g u2 mk_qd mk_qe true sb_h sb_z sb_c sb_b sb_t sb_f sb_q sb_e sb_x u12.1 u12.2 sb_s_n sb_s_f) H := hP
              have hD : va_D A (wd_MkSubF cA mk sb sb_p sb_p_a sb_s sb_s_a mk_g u2 mk_qd mk_qe true sb_h sb_z sb_c sb_b sb_t sb_f sb_q sb_e sb_x u12.1 u12.2 sb_s_n sb_s_f) := hD
              refine lv_goto (tgt := 97) hx hb d_Mk_takeAffix_85 rfl ?_
              refine lv_iconst (v := 1) hx hb d_Mk_takeAffix_97 (by decide) ?_
              exact ct_zret true hx hb hr hlk hK hS (u2, mk_qd, mk_qe, true, u12.1, u12.2, sb_s_n, sb_s_f) hw hP hD d_Mk_takeAffix_98
            have hw := hw.2 hc0
            refine ct_callr (wn := fun _ => wd_MkSubF cA mk sb sb_p sb_p_a sb_s sb_s_a mk_g u2 mk_qd mk_qe sb_pm sb_h sb_z sb_c sb_b sb_t sb_f sb_q sb_e sb_x sb_p_n sb_p_f sb_s_n sb_s_f) (va_runV (As := []) (rest := []) ⟨hx, hb, hml, hown, htb⟩ (c_Mk_openAffix l D cA mk sb mk_g sb_p sb_s u2 mk_qd mk_qe sb_pm sb_h sb_z sb_c sb_b sb_t sb_f sb_q sb_e sb_x (fun r _ => r = sb_s) (by unfold wp_Mk_openAffix; exact ⟨fun _ => rfl, fun h => absurd h hc0⟩) _) (ct_cwV 0 htb tw395 rfl rfl tw81 tw392 tw394 tw3 hd_Mk_openAffix ⟨by decide, by decide⟩) (ct_preV hP hD hK hN [0, 1] rfl (by decide) 0 rfl rfl _) rfl rfl hl.1 rfl (lv_room (Nat.le_of_ble_eq_true rfl)) d_Mk_takeAffix_67 ⟨Nat.zero_le _, Nat.zero_le _⟩) hP hD hS hA [0, 1] [2, 3, 4, 5] [4, 5, 0, 1, 2, 3] rfl rfl (by decide) (by decide) (fun _ => rfl) (by decide) (fun r9 u10 H locs hq hP hD hS => ?_)
            have hq := hq.symm
            subst hq
            have hP : va_P D vwCl (wd_MkSubF cA mk sb sb_p sb_p_a sb_s sb_s_a mk_g u2 mk_qd mk_qe sb_pm sb_h sb_z sb_c sb_b sb_t sb_f sb_q sb_e sb_x sb_p_n sb_p_f sb_s_n sb_s_f) H := hP
            have hD : va_D A (wd_MkSubF cA mk sb sb_p sb_p_a sb_s sb_s_a mk_g u2 mk_qd mk_qe sb_pm sb_h sb_z sb_c sb_b sb_t sb_f sb_q sb_e sb_x sb_p_n sb_p_f sb_s_n sb_s_f) := hD
            refine lv_sipush (v := 259) hx hb d_Mk_takeAffix_70 (by decide) ?_
            refine ct_callz (wn := fun u14 => wd_MkSubF cA mk sb sb_p sb_p_a sb_s sb_s_a mk_g u2 mk_qd mk_qe sb_pm sb_h sb_z sb_c sb_b sb_t sb_f sb_q sb_e sb_x sb_p_n sb_p_f u14.1 u14.2) (va_runV (As := [.int 259]) (rest := []) ⟨hx, hb, hml, hown, htb⟩ (c_Row_add l D cA sb_s sb_s_a 40 sb_s_n sb_s_f 259 _ hw _) (ct_cwV 1 htb tw346 rfl rfl tw73 tw396 tw344 tw345 hd_Row_add ⟨by decide, by decide⟩) (ct_preV hP hD hK hN [4, 5] rfl (by decide) 4 rfl rfl _) rfl rfl hl.1 rfl (lv_room (Nat.le_of_ble_eq_true rfl)) d_Mk_takeAffix_73 ⟨Nat.zero_le _, Nat.zero_le _⟩) hP hD hS hA [4, 5] [0, 1, 2, 3] [0, 1, 2, 3, 4, 5] rfl rfl (by decide) (by decide) (fun _ => rfl) (by decide) (fun r13 u14 H locs hw hP hD hS => ?_)
            have hP : va_P D vwCl (wd_MkSubF cA mk sb sb_p sb_p_a sb_s sb_s_a mk_g u2 mk_qd mk_qe sb_pm sb_h sb_z sb_c sb_b sb_t sb_f sb_q sb_e sb_x sb_p_n sb_p_f u14.1 u14.2) H := hP
            have hD : va_D A (wd_MkSubF cA mk sb sb_p sb_p_a sb_s sb_s_a mk_g u2 mk_qd mk_qe sb_pm sb_h sb_z sb_c sb_b sb_t sb_f sb_q sb_e sb_x sb_p_n sb_p_f u14.1 u14.2) := hD
            refine lv_pop hx hb d_Mk_takeAffix_76 rfl ?_
            refine lv_aload_n hx hb d_Mk_takeAffix_77 rfl (lv_at hl 0 rfl) ?_
            refine va_get (ci := 3) (C := R_Mk) (T := F_Mk) (N := 5) hx hb htb in_Mk hown hK hP 0 rfl rfl 1 (by decide) (htb _ tw290) (fun _ h9 => h9) rfl d_Mk_takeAffix_78 ?_
            refine lv_iconst (v := 1) hx hb d_Mk_takeAffix_81 (by decide) ?_
            refine va_put (ci := 6) (v := .int (bI true)) (ty := .boolean) (C := R_Sb) (T := F_Sb) (N := 12) hx hb htb in_Sb t_Sb t_Sb_ok n_Sb hown hK hP hD hS 1 rfl rfl 2 (by decide) (htb _ tw215) (fun _ h9 => h9) rfl (by decide +kernel) (bI_nar true) (bI_fit true) (Nat.le_of_ble_eq_true rfl) d_Mk_takeAffix_82 (fun H locs hP hD hS => ?_)
            have hP : va_P D vwCl (wd_MkSubF cA mk sb sb_p sb_p_a sb_s sb_s_a mk_g u2 mk_qd mk_qe true sb_h sb_z sb_c sb_b sb_t sb_f sb_q sb_e sb_x sb_p_n sb_p_f u14.1 u14.2) H := hP
            have hD : va_D A (wd_MkSubF cA mk sb sb_p sb_p_a sb_s sb_s_a mk_g u2 mk_qd mk_qe true sb_h sb_z sb_c sb_b sb_t sb_f sb_q sb_e sb_x sb_p_n sb_p_f u14.1 u14.2) := hD
            refine lv_goto (tgt := 97) hx hb d_Mk_takeAffix_85 rfl ?_
            refine lv_iconst (v := 1) hx hb d_Mk_takeAffix_97 (by decide) ?_
            exact ct_zret true hx hb hr hlk hK hS (u2, mk_qd, mk_qe, true, sb_p_n, sb_p_f, u14.1, u14.2) hw hP hD d_Mk_takeAffix_98
        · have hw := hw.2 hc
          refine lv_aload_n hx hb d_Mk_takeAffix_46 rfl (lv_at hl 0 rfl) ?_
          by_cases hc0 : u2 = 0
          · have hw := hw.1 hc0
            refine ct_callr (wn := fun _ => wd_MkSubF cA mk sb sb_p sb_p_a sb_s sb_s_a mk_g u2 mk_qd mk_qe sb_pm sb_h sb_z sb_c sb_b sb_t sb_f sb_q sb_e sb_x sb_p_n sb_p_f sb_s_n sb_s_f) (va_runV (As := []) (rest := []) ⟨hx, hb, hml, hown, htb⟩ (c_Mk_openAffix l D cA mk sb mk_g sb_p sb_s u2 mk_qd mk_qe sb_pm sb_h sb_z sb_c sb_b sb_t sb_f sb_q sb_e sb_x (fun r _ => r = sb_p) (by unfold wp_Mk_openAffix; exact ⟨fun h => absurd hc0 h, fun _ => rfl⟩) _) (ct_cwV 0 htb tw395 rfl rfl tw81 tw392 tw394 tw3 hd_Mk_openAffix ⟨by decide, by decide⟩) (ct_preV hP hD hK hN [0, 1] rfl (by decide) 0 rfl rfl _) rfl rfl hl.1 rfl (lv_room (Nat.le_of_ble_eq_true rfl)) d_Mk_takeAffix_47 ⟨Nat.zero_le _, Nat.zero_le _⟩) hP hD hS hA [0, 1] [2, 3, 4, 5] [4, 5, 0, 1, 2, 3] rfl rfl (by decide) (by decide) (fun _ => rfl) (by decide) (fun r15 u16 H locs hq hP hD hS => ?_)
            have hq := hq.symm
            subst hq
            have hP : va_P D vwCl (wd_MkSubF cA mk sb sb_p sb_p_a sb_s sb_s_a mk_g u2 mk_qd mk_qe sb_pm sb_h sb_z sb_c sb_b sb_t sb_f sb_q sb_e sb_x sb_p_n sb_p_f sb_s_n sb_s_f) H := hP
            have hD : va_D A (wd_MkSubF cA mk sb sb_p sb_p_a sb_s sb_s_a mk_g u2 mk_qd mk_qe sb_pm sb_h sb_z sb_c sb_b sb_t sb_f sb_q sb_e sb_x sb_p_n sb_p_f sb_s_n sb_s_f) := hD
            refine lv_sipush (v := 258) hx hb d_Mk_takeAffix_50 (by decide) ?_
            refine ct_callz (wn := fun u18 => wd_MkSubF cA mk sb sb_p sb_p_a sb_s sb_s_a mk_g u2 mk_qd mk_qe sb_pm sb_h sb_z sb_c sb_b sb_t sb_f sb_q sb_e sb_x u18.1 u18.2 sb_s_n sb_s_f) (va_runV (As := [.int 258]) (rest := []) ⟨hx, hb, hml, hown, htb⟩ (c_Row_add l D cA sb_p sb_p_a 40 sb_p_n sb_p_f 258 _ hw _) (ct_cwV 1 htb tw346 rfl rfl tw73 tw396 tw344 tw345 hd_Row_add ⟨by decide, by decide⟩) (ct_preV hP hD hK hN [2, 3] rfl (by decide) 2 rfl rfl _) rfl rfl hl.1 rfl (lv_room (Nat.le_of_ble_eq_true rfl)) d_Mk_takeAffix_53 ⟨Nat.zero_le _, Nat.zero_le _⟩) hP hD hS hA [2, 3] [0, 1, 4, 5] [0, 1, 4, 5, 2, 3] rfl rfl (by decide) (by decide) (fun _ => rfl) (by decide) (fun r17 u18 H locs hw hP hD hS => ?_)
            have hP : va_P D vwCl (wd_MkSubF cA mk sb sb_p sb_p_a sb_s sb_s_a mk_g u2 mk_qd mk_qe sb_pm sb_h sb_z sb_c sb_b sb_t sb_f sb_q sb_e sb_x u18.1 u18.2 sb_s_n sb_s_f) H := hP
            have hD : va_D A (wd_MkSubF cA mk sb sb_p sb_p_a sb_s sb_s_a mk_g u2 mk_qd mk_qe sb_pm sb_h sb_z sb_c sb_b sb_t sb_f sb_q sb_e sb_x u18.1 u18.2 sb_s_n sb_s_f) := hD
            refine lv_pop hx hb d_Mk_takeAffix_56 rfl ?_
            refine lv_goto (tgt := 97) hx hb d_Mk_takeAffix_57 rfl ?_
            refine lv_iconst (v := 1) hx hb d_Mk_takeAffix_97 (by decide) ?_
            exact ct_zret true hx hb hr hlk hK hS (u2, mk_qd, mk_qe, sb_pm, u18.1, u18.2, sb_s_n, sb_s_f) hw hP hD d_Mk_takeAffix_98
          have hw := hw.2 hc0
          refine ct_callr (wn := fun _ => wd_MkSubF cA mk sb sb_p sb_p_a sb_s sb_s_a mk_g u2 mk_qd mk_qe sb_pm sb_h sb_z sb_c sb_b sb_t sb_f sb_q sb_e sb_x sb_p_n sb_p_f sb_s_n sb_s_f) (va_runV (As := []) (rest := []) ⟨hx, hb, hml, hown, htb⟩ (c_Mk_openAffix l D cA mk sb mk_g sb_p sb_s u2 mk_qd mk_qe sb_pm sb_h sb_z sb_c sb_b sb_t sb_f sb_q sb_e sb_x (fun r _ => r = sb_s) (by unfold wp_Mk_openAffix; exact ⟨fun _ => rfl, fun h => absurd h hc0⟩) _) (ct_cwV 0 htb tw395 rfl rfl tw81 tw392 tw394 tw3 hd_Mk_openAffix ⟨by decide, by decide⟩) (ct_preV hP hD hK hN [0, 1] rfl (by decide) 0 rfl rfl _) rfl rfl hl.1 rfl (lv_room (Nat.le_of_ble_eq_true rfl)) d_Mk_takeAffix_47 ⟨Nat.zero_le _, Nat.zero_le _⟩) hP hD hS hA [0, 1] [2, 3, 4, 5] [4, 5, 0, 1, 2, 3] rfl rfl (by decide) (by decide) (fun _ => rfl) (by decide) (fun r15 u16 H locs hq hP hD hS => ?_)
          have hq := hq.symm
          subst hq
          have hP : va_P D vwCl (wd_MkSubF cA mk sb sb_p sb_p_a sb_s sb_s_a mk_g u2 mk_qd mk_qe sb_pm sb_h sb_z sb_c sb_b sb_t sb_f sb_q sb_e sb_x sb_p_n sb_p_f sb_s_n sb_s_f) H := hP
          have hD : va_D A (wd_MkSubF cA mk sb sb_p sb_p_a sb_s sb_s_a mk_g u2 mk_qd mk_qe sb_pm sb_h sb_z sb_c sb_b sb_t sb_f sb_q sb_e sb_x sb_p_n sb_p_f sb_s_n sb_s_f) := hD
          refine lv_sipush (v := 258) hx hb d_Mk_takeAffix_50 (by decide) ?_
          refine ct_callz (wn := fun u20 => wd_MkSubF cA mk sb sb_p sb_p_a sb_s sb_s_a mk_g u2 mk_qd mk_qe sb_pm sb_h sb_z sb_c sb_b sb_t sb_f sb_q sb_e sb_x sb_p_n sb_p_f u20.1 u20.2) (va_runV (As := [.int 258]) (rest := []) ⟨hx, hb, hml, hown, htb⟩ (c_Row_add l D cA sb_s sb_s_a 40 sb_s_n sb_s_f 258 _ hw _) (ct_cwV 1 htb tw346 rfl rfl tw73 tw396 tw344 tw345 hd_Row_add ⟨by decide, by decide⟩) (ct_preV hP hD hK hN [4, 5] rfl (by decide) 4 rfl rfl _) rfl rfl hl.1 rfl (lv_room (Nat.le_of_ble_eq_true rfl)) d_Mk_takeAffix_53 ⟨Nat.zero_le _, Nat.zero_le _⟩) hP hD hS hA [4, 5] [0, 1, 2, 3] [0, 1, 2, 3, 4, 5] rfl rfl (by decide) (by decide) (fun _ => rfl) (by decide) (fun r19 u20 H locs hw hP hD hS => ?_)
          have hP : va_P D vwCl (wd_MkSubF cA mk sb sb_p sb_p_a sb_s sb_s_a mk_g u2 mk_qd mk_qe sb_pm sb_h sb_z sb_c sb_b sb_t sb_f sb_q sb_e sb_x sb_p_n sb_p_f u20.1 u20.2) H := hP
          have hD : va_D A (wd_MkSubF cA mk sb sb_p sb_p_a sb_s sb_s_a mk_g u2 mk_qd mk_qe sb_pm sb_h sb_z sb_c sb_b sb_t sb_f sb_q sb_e sb_x sb_p_n sb_p_f u20.1 u20.2) := hD
          refine lv_pop hx hb d_Mk_takeAffix_56 rfl ?_
          refine lv_goto (tgt := 97) hx hb d_Mk_takeAffix_57 rfl ?_
          refine lv_iconst (v := 1) hx hb d_Mk_takeAffix_97 (by decide) ?_
          exact ct_zret true hx hb hr hlk hK hS (u2, mk_qd, mk_qe, sb_pm, sb_p_n, sb_p_f, u20.1, u20.2) hw hP hD d_Mk_takeAffix_98
      · have hw := hw.2 hc
        refine lv_aload_n hx hb d_Mk_takeAffix_27 rfl (lv_at hl 0 rfl) ?_
        refine lv_iconst (v := 1) hx hb d_Mk_takeAffix_28 (by decide) ?_
        refine va_put (ci := 3) (v := .int (bI true)) (ty := .boolean) (C := R_Mk) (T := F_Mk) (N := 5) hx hb htb in_Mk t_Mk t_Mk_ok n_Mk hown hK hP hD hS 0 rfl rfl 3 (by decide) (htb _ tw292) (fun _ h9 => h9) rfl (by decide +kernel) (bI_nar true) (bI_fit true) (Nat.le_of_ble_eq_true rfl) d_Mk_takeAffix_29 (fun H locs hP hD hS => ?_)
        have hP : va_P D vwCl (wd_MkSubF cA mk sb sb_p sb_p_a sb_s sb_s_a mk_g u2 true mk_qe sb_pm sb_h sb_z sb_c sb_b sb_t sb_f sb_q sb_e sb_x sb_p_n sb_p_f sb_s_n sb_s_f) H := hP
        have hD : va_D A (wd_MkSubF cA mk sb sb_p sb_p_a sb_s sb_s_a mk_g u2 true mk_qe sb_pm sb_h sb_z sb_c sb_b sb_t sb_f sb_q sb_e sb_x sb_p_n sb_p_f sb_s_n sb_s_f) := hD
        refine lv_aload_n hx hb d_Mk_takeAffix_32 rfl (lv_at hl 0 rfl) ?_
        refine lv_iconst (v := 1) hx hb d_Mk_takeAffix_33 (by decide) ?_
        refine va_put (ci := 3) (v := .int (bI true)) (ty := .boolean) (C := R_Mk) (T := F_Mk) (N := 5) hx hb htb in_Mk t_Mk t_Mk_ok n_Mk hown hK hP hD hS 0 rfl rfl 4 (by decide) (htb _ tw293) (fun _ h9 => h9) rfl (by decide +kernel) (bI_nar true) (bI_fit true) (Nat.le_of_ble_eq_true rfl) d_Mk_takeAffix_34 (fun H locs hP hD hS => ?_)
        have hP : va_P D vwCl (wd_MkSubF cA mk sb sb_p sb_p_a sb_s sb_s_a mk_g u2 true true sb_pm sb_h sb_z sb_c sb_b sb_t sb_f sb_q sb_e sb_x sb_p_n sb_p_f sb_s_n sb_s_f) H := hP
        have hD : va_D A (wd_MkSubF cA mk sb sb_p sb_p_a sb_s sb_s_a mk_g u2 true true sb_pm sb_h sb_z sb_c sb_b sb_t sb_f sb_q sb_e sb_x sb_p_n sb_p_f sb_s_n sb_s_f) := hD
        refine lv_goto (tgt := 97) hx hb d_Mk_takeAffix_37 rfl ?_
        refine lv_iconst (v := 1) hx hb d_Mk_takeAffix_97 (by decide) ?_
        exact ct_zret true hx hb hr hlk hK hS (u2, true, true, sb_pm, sb_p_n, sb_p_f, sb_s_n, sb_s_f) hw hP hD d_Mk_takeAffix_98
    · have hw := hw.2 ((bI_0 _).mp hc)
      refine lv_iconst (v := 0) hx hb d_Mk_takeAffix_19 (by decide) ?_
      exact ct_zret false hx hb hr hlk hK hS (u2, mk_qd, mk_qe, sb_pm, sb_p_n, sb_p_f, sb_s_n, sb_s_f) hw hP hD d_Mk_takeAffix_20
  refine lv_iload_n hx hb d_Mk_takeAffix_0 rfl (lv_at hl 1 rfl) ?_
  refine lv_bipush (v := 49) hx hb d_Mk_takeAffix_1 (by decide) ?_
  refine lv_icmp_lt (tgt := 12) hx hb d_Mk_takeAffix_3 rfl (fun hc => ?_) (fun hc => ?_)
  · have hw := hw.1 hc
    exact hJ120 cd mk_st mk_qd mk_qe sb_pm sb_p_n sb_p_f sb_s_n sb_s_f _ _ _ (lv_sub hl [0, 1] rfl) hP hD hS hw
  · have hw := hw.2 hc
    refine lv_iload_n hx hb d_Mk_takeAffix_6 rfl (lv_at hl 1 rfl) ?_
    refine lv_bipush (v := 57) hx hb d_Mk_takeAffix_7 (by decide) ?_
    refine lv_icmp_le (tgt := 19) hx hb d_Mk_takeAffix_9 rfl (fun hc => ?_) (fun hc => ?_)
    · have hw := hw.1 hc
      refine lv_iconst (v := 0) hx hb d_Mk_takeAffix_19 (by decide) ?_
      exact ct_zret false hx hb hr hlk hK hS (mk_st, mk_qd, mk_qe, sb_pm, sb_p_n, sb_p_f, sb_s_n, sb_s_f) hw hP hD d_Mk_takeAffix_20
    · have hw := hw.2 hc
      exact hJ120 cd mk_st mk_qd mk_qe sb_pm sb_p_n sb_p_f sb_s_n sb_s_f _ _ _ (lv_sub hl [0, 1] rfl) hP hD hS hw
