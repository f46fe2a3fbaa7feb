/-! DecimalPatterns$Finder.begin()V -/
def wp_Fi_begin (fi_w : Int64) (fi_p : Int32) (fi_t : Int32) (fi_z : Int32) (fi_e : Int32) (fi_n : Bool) (Q : (Int64 × Int32 × Int32 × Int32 × Int32 × Bool) → Prop) : Prop := Q (0, 0, 0, 0, 0, false)
set_option maxHeartbeats 4000000 in
set_option maxRecDepth 100000 in
theorem c_Fi_begin (l : Launch) (D : va_G) (cA : ClassId) (fi sy sc : Nat) (fi_w : Int64) (fi_p : Int32) (fi_t : Int32) (fi_z : Int32) (fi_e : Int32) (fi_n : Bool) (Q : (Int64 × Int32 × Int32 × Int32 × Int32 × Bool) → Prop) (hw : wp_Fi_begin fi_w fi_p fi_t fi_z fi_e fi_n Q) : ct_M vwCl l D [(cA, .int)] y_Fi_begin w_Fi_begin { frames := 0, cells := 0, slots := 0, locals := 0 } [.ref fi] (wd_Fi cA fi sy sc fi_w fi_p fi_t fi_z fi_e fi_n) (ct_qv vwCl D [(cA, .int)] Q (fun u => wd_Fi cA fi sy sc u.1 u.2.1 u.2.2.1 u.2.2.2.1 u.2.2.2.2.1 u.2.2.2.2.2)) := by
  refine ct_enter (cc := b_Fi_begin) (maxL := 1) (ret := none) (by decide) rfl (Nat.le_of_ble_eq_true rfl) ?_
  intro p e s m args below meth c A ls hx hb hr hlk hml hts hown hA hS hP hK hN hD hl
  have hl : lv_has ls 1 [(0, .ref fi)] := hl
  have htb : ∀ w ∈ tbl, w.before args s = true := fun w h => hts w (List.mem_cons_of_mem _ h)
  have hown : s.vm.findClass "DecimalPatterns$Finder" = some m.cls := hown
  unfold wp_Fi_begin at hw
  refine lv_aload_n hx hb d_Fi_begin_0 rfl (lv_at hl 0 rfl) ?_
  refine lv_lconst (v := 0) hx hb d_Fi_begin_1 (by decide) ?_
  refine va_put (ci := 1) (v := .long 0) (ty := .long) (C := R_Fi) (T := F_Fi) (N := 8) hx hb htb in_Fi t_Fi t_Fi_ok n_Fi hown hK hP hD hS 0 rfl rfl 2 (by decide) (htb _ tw165) (fun _ h9 => h9) rfl (by decide +kernel) rfl rfl (Nat.le_of_ble_eq_true rfl) d_Fi_begin_2 (fun H locs hP hD hS => ?_)
  have hP : va_P D vwCl (wd_Fi cA fi sy sc 0 fi_p fi_t fi_z fi_e fi_n) H := hP
  have hD : va_D A (wd_Fi cA fi sy sc 0 fi_p fi_t fi_z fi_e fi_n) := hD
  refine lv_aload_n hx hb d_Fi_begin_5 rfl (lv_at hl 0 rfl) ?_
  refine lv_iconst (v := 0) hx hb d_Fi_begin_6 (by decide) ?_
  refine va_put (ci := 1) (v := .int 0) (ty := .int) (C := R_Fi) (T := F_Fi) (N := 8) hx hb htb in_Fi t_Fi t_Fi_ok n_Fi hown hK hP hD hS 0 rfl rfl 3 (by decide) (htb _ tw167) (fun _ h9 => h9) rfl (by decide +kernel) rfl rfl (Nat.le_of_ble_eq_true rfl) d_Fi_begin_7 (fun H locs hP hD hS => ?_)
  have hP : va_P D vwCl (wd_Fi cA fi sy sc 0 0 fi_t fi_z fi_e fi_n) H := hP
  have hD : va_D A (wd_Fi cA fi sy sc 0 0 fi_t fi_z fi_e fi_n) := hD
  refine lv_aload_n hx hb d_Fi_begin_10 rfl (lv_at hl 0 rfl) ?_
  refine lv_iconst (v := 0) hx hb d_Fi_begin_11 (by decide) ?_
  refine va_put (ci := 1) (v := .int 0) (ty := .int) (C := R_Fi) (T := F_Fi) (N := 8) hx hb htb in_Fi t_Fi t_Fi_ok n_Fi hown hK hP hD hS 0 rfl rfl 4 (by decide) (htb _ tw169) (fun _ h9 => h9) rfl (by decide +kernel) rfl rfl (Nat.le_of_ble_eq_true rfl) d_Fi_begin_12 (fun H locs hP hD hS => ?_)
  have hP : va_P D vwCl (wd_Fi cA fi sy sc 0 0 0 fi_z fi_e fi_n) H := hP
  have hD : va_D A (wd_Fi cA fi sy sc 0 0 0 fi_z fi_e fi_n) := hD
  refine lv_aload_n hx hb d_Fi_begin_15 rfl (lv_at hl 0 rfl) ?_
  refine lv_iconst (v := 0) hx hb d_Fi_begin_16 (by decide) ?_
  refine va_put (ci := 1) (v := .int 0) (ty := .int) (C := R_Fi) (T := F_Fi) (N := 8) hx hb htb in_Fi t_Fi t_Fi_ok n_Fi hown hK hP hD hS 0 rfl rfl 5 (by decide) (htb _ tw170) (fun _ h9 => h9) rfl (by decide +kernel) rfl rfl (Nat.le_of_ble_eq_true rfl) d_Fi_begin_17 (fun H locs hP hD hS => ?_)
  have hP : va_P D vwCl (wd_Fi cA fi sy sc 0 0 0 0 fi_e fi_n) H := hP
  have hD : va_D A (wd_Fi cA fi sy sc 0 0 0 0 fi_e fi_n) := hD
  refine lv_aload_n hx hb d_Fi_begin_20 rfl (lv_at hl 0 rfl) ?_
  refine lv_iconst (v := 0) hx hb d_Fi_begin_21 (by decide) ?_
  refine va_put (ci := 1) (v := .int 0) (ty := .int) (C := R_Fi) (T := F_Fi) (N := 8) hx hb htb in_Fi t_Fi t_Fi_ok n_Fi hown hK hP hD hS 0 rfl rfl 6 (by decide) (htb _ tw171) (fun _ h9 => h9) rfl (by decide +kernel) rfl rfl (Nat.le_of_ble_eq_true rfl) d_Fi_begin_22 (fun H locs hP hD hS => ?_)
  have hP : va_P D vwCl (wd_Fi cA fi sy sc 0 0 0 0 0 fi_n) H := hP
  have hD : va_D A (wd_Fi cA fi sy sc 0 0 0 0 0 fi_n) := hD
  refine lv_aload_n hx hb d_Fi_begin_25 rfl (lv_at hl 0 rfl) ?_
  refine lv_iconst (v := 0) hx hb d_Fi_begin_26 (by decide) ?_
  refine va_put (ci := 1) (v := .int (bI false)) (ty := .boolean) (C := R_Fi) (T := F_Fi) (N := 8) hx hb htb in_Fi t_Fi t_Fi_ok n_Fi hown hK hP hD hS 0 rfl rfl 7 (by decide) (htb _ tw172) (fun _ h9 => h9) rfl (by decide +kernel) (bI_nar false) (bI_fit false) (Nat.le_of_ble_eq_true rfl) d_Fi_begin_27 (fun H locs hP hD hS => ?_)
  have hP : va_P D vwCl (wd_Fi cA fi sy sc 0 0 0 0 0 false) H := hP
  have hD : va_D A (wd_Fi cA fi sy sc 0 0 0 0 0 false) := hD
  exact ct_vret hx hb hr hlk hK hS (0, 0, 0, 0, 0, false) hw hP hD d_Fi_begin_30
/-! DecimalPatterns$Finder.enter(I)Z -/
def wp_Fi_enter (fi_t : Int32) (nx : Int32) (Q : Bool → Int32 → Prop) : Prop := (fi_t < nx → (Q true nx)) ∧ (¬ fi_t < nx → (Q false fi_t))
set_option maxHeartbeats 4000000 in
set_option maxRecDepth 100000 in
theorem c_Fi_enter (l : Launch) (D : va_G) (cA : ClassId) (fi sy sc : Nat) (fi_w : Int64) (fi_p : Int32) (fi_t : Int32) (fi_z : Int32) (fi_e : Int32) (fi_n : Bool) (nx : Int32) (Q : Bool → Int32 → Prop) (hw : wp_Fi_enter fi_t nx Q) : ct_M vwCl l D [(cA, .int)] y_Fi_enter w_Fi_enter { frames := 0, cells := 0, slots := 0, locals := 0 } [.ref fi, .int nx] (wd_Fi cA fi sy sc fi_w fi_p fi_t fi_z fi_e fi_n) (ct_qz vwCl D [(cA, .int)] Q (fun u => wd_Fi cA fi sy sc fi_w fi_p u fi_z fi_e fi_n)) := by
  refine ct_enter (cc := b_Fi_enter) (maxL := 2) (ret := (some .boolean)) (by decide) rfl (Nat.le_of_ble_eq_true rfl) ?_
  intro p e s m args below meth c A ls hx hb hr hlk hml hts hown hA hS hP hK hN hD hl
  have hl : lv_has ls 2 [(0, .ref fi), (1, .int nx)] := hl
  have htb : ∀ w ∈ tbl, w.before args s = true := fun w h => hts w (List.mem_cons_of_mem _ h)
  have hown : s.vm.findClass "DecimalPatterns$Finder" = some m.cls := hown
  unfold wp_Fi_enter at hw
  refine lv_aload_n hx hb d_Fi_enter_0 rfl (lv_at hl 0 rfl) ?_
  refine va_get (ci := 1) (C := R_Fi) (T := F_Fi) (N := 8) hx hb htb in_Fi hown hK hP 0 rfl rfl 4 (by decide) (htb _ tw169) (fun _ h9 => h9) rfl d_Fi_enter_1 ?_
  refine lv_iload_n hx hb d_Fi_enter_4 rfl (lv_at hl 1 rfl) ?_
  refine lv_icmp_lt (tgt := 10) hx hb d_Fi_enter_5 rfl (fun hc => ?_) (fun hc => ?_)
  · have hw := hw.1 hc
    refine lv_aload_n hx hb d_Fi_enter_10 rfl (lv_at hl 0 rfl) ?_
    refine lv_iload_n hx hb d_Fi_enter_11 rfl (lv_at hl 1 rfl) ?_
    refine va_put (ci := 1) (v := .int nx) (ty := .int) (C := R_Fi) (T := F_Fi) (N := 8) hx hb htb in_Fi t_Fi t_Fi_ok n_Fi hown hK hP hD hS 0 rfl rfl 4 (by decide) (htb _ tw169) (fun _ h9 => h9) rfl (by decide +kernel) rfl rfl (Nat.le_of_ble_eq_true rfl) d_Fi_enter_12 (fun H locs hP hD hS => ?_)
    have hP : va_P D vwCl (wd_Fi cA fi sy sc fi_w fi_p nx fi_z fi_e fi_n) H := hP
    have hD : va_D A (wd_Fi cA fi sy sc fi_w fi_p nx fi_z fi_e fi_n) := hD
    refine lv_iconst (v := 1) hx hb d_Fi_enter_15 (by decide) ?_
    exact ct_zret true hx hb hr hlk hK hS nx hw hP hD d_Fi_enter_16
  · have hw := hw.2 hc
    refine lv_iconst (v := 0) hx hb d_Fi_enter_8 (by decide) ?_
    exact ct_zret false hx hb hr hlk hK hS fi_t hw hP hD d_Fi_enter_9
/-! DecimalPatterns$Finder.append(I)Z -/
def wp_Fi_append (fi_w : Int64) (dg : Int32) (Q : Bool → Int64 → Prop) : Prop := (fi_w ≤ ((9223372036854775807 - dg.toInt64) / 10) → (Q true ((fi_w * 10) + dg.toInt64))) ∧ (¬ fi_w ≤ ((9223372036854775807 - dg.toInt64) / 10) → (Q false fi_w))
set_option maxHeartbeats 4000000 in
set_option maxRecDepth 100000 in
theorem c_Fi_append (l : Launch) (D : va_G) (cA : ClassId) (fi sy sc : Nat) (fi_w : Int64) (fi_p : Int32) (fi_t : Int32) (fi_z : Int32) (fi_e : Int32) (fi_n : Bool) (dg : Int32) (Q : Bool → Int64 → Prop) (hw : wp_Fi_append fi_w dg Q) : ct_M vwCl l D [(cA, .int)] y_Fi_append w_Fi_append { frames := 0, cells := 0, slots := 0, locals := 0 } [.ref fi, .int dg] (wd_Fi cA fi sy sc fi_w fi_p fi_t fi_z fi_e fi_n) (ct_qz vwCl D [(cA, .int)] Q (fun u => wd_Fi cA fi sy sc u fi_p fi_t fi_z fi_e fi_n)) := by
  refine ct_enter (cc := b_Fi_append) (maxL := 2) (ret := (some .boolean)) (by decide) rfl (Nat.le_of_ble_eq_true rfl) ?_
  intro p e s m args below meth c A ls hx hb hr hlk hml hts hown hA hS hP hK hN hD hl
  have hl : lv_has ls 2 [(0, .ref fi), (1, .int dg)] := hl
  have htb : ∀ w ∈ tbl, w.before args s = true := fun w h => hts w (List.mem_cons_of_mem _ h)
  have hown : s.vm.findClass "DecimalPatterns$Finder" = some m.cls := hown
  unfold wp_Fi_append at hw
  refine lv_aload_n hx hb d_Fi_append_0 rfl (lv_at hl 0 rfl) ?_
  refine va_get (ci := 1) (C := R_Fi) (T := F_Fi) (N := 8) hx hb htb in_Fi hown hK hP 0 rfl rfl 2 (by decide) (htb _ tw165) (fun _ h9 => h9) rfl d_Fi_append_1 ?_
  refine lv_ldc2 (v := 9223372036854775807) hx hb hown (htb _ tw662) d_Fi_append_4 ?_
  refine lv_iload_n hx hb d_Fi_append_7 rfl (lv_at hl 1 rfl) ?_
  refine lv_i2l (v := dg.toInt64) hx hb d_Fi_append_8 rfl ?_
  refine lv_lsub hx hb d_Fi_append_9 ?_
  refine lv_ldc2 (v := 10) hx hb hown (htb _ tw663) d_Fi_append_10 ?_
  refine lv_ldiv hx hb d_Fi_append_13 (by decide) ?_
  refine W.lcmp hx hb d_Fi_append_14 ?_
  refine lv_if_le (tgt := 20) hx hb d_Fi_append_15 rfl (fun hc => ?_) (fun hc => ?_)
  · have hw := hw.1 ((lg_cmp_le _ _).mp hc)
    refine lv_aload_n hx hb d_Fi_append_20 rfl (lv_at hl 0 rfl) ?_
    refine lv_aload_n hx hb d_Fi_append_21 rfl (lv_at hl 0 rfl) ?_
    refine va_get (ci := 1) (C := R_Fi) (T := F_Fi) (N := 8) hx hb htb in_Fi hown hK hP 0 rfl rfl 2 (by decide) (htb _ tw165) (fun _ h9 => h9) rfl d_Fi_append_22 ?_
    refine lv_ldc2 (v := 10) hx hb hown (htb _ tw663) d_Fi_append_25 ?_
    refine lv_lmul hx hb d_Fi_append_28 ?_
    refine lv_iload_n hx hb d_Fi_append_29 rfl (lv_at hl 1 rfl) ?_
    refine lv_i2l (v := dg.toInt64) hx hb d_Fi_append_30 rfl ?_
    refine lv_ladd hx hb d_Fi_append_31 ?_
    refine va_put (ci := 1) (v := .long ((fi_w * 10) + dg.toInt64)) (ty := .long) (C := R_Fi) (T := F_Fi) (N := 8) hx hb htb in_Fi t_Fi t_Fi_ok n_Fi hown hK hP hD hS 0 rfl rfl 2 (by decide) (htb _ tw165) (fun _ h9 => h9) rfl (by decide +kernel) rfl rfl (Nat.le_of_ble_eq_true rfl) d_Fi_append_32 (fun H locs hP hD hS => ?_)
    have hP : va_P D vwCl (wd_Fi cA fi sy sc ((fi_w * 10) + dg.toInt64) fi_p fi_t fi_z fi_e fi_n) H := hP
    have hD : va_D A (wd_Fi cA fi sy sc ((fi_w * 10) + dg.toInt64) fi_p fi_t fi_z fi_e fi_n) := hD
    refine lv_iconst (v := 1) hx hb d_Fi_append_35 (by decide) ?_
    exact ct_zret true hx hb hr hlk hK hS ((fi_w * 10) + dg.toInt64) hw hP hD d_Fi_append_36
  · have hw := hw.2 (fun h => hc ((lg_cmp_le _ _).mpr h))
    refine lv_iconst (v := 0) hx hb d_Fi_append_18 (by decide) ?_
    exact ct_zret false hx hb hr hlk hK hS fi_w hw hP hD d_Fi_append_19
/-! DecimalPatterns$Finder.takeZerosBehind()Z -/
def wp_Fi_takeZerosBehind_L250 : Nat → Int32 → Int32 → Int64 → Int32 → (Bool → (Int64 × Int32) → Prop) → Prop
  | 0, _, _, _, _, _ => False
  | n250 + 1, x1, x2, fi_w, fi_z, Q => (x1 ≤ x2 → (Q true (fi_w, fi_z))) ∧ (¬ x1 ≤ x2 → (wp_Fi_append fi_w 0 (fun r1 u2 => (r1 = true → (wp_Fi_takeZerosBehind_L250 n250 x1 (x2 + 1) u2 fi_z Q)) ∧ (r1 = false → (Q false (u2, fi_z))))))
def wp_Fi_takeZerosBehind_J170 (y0 : Int32) (fi_w : Int64) (fi_z : Int32) (Q : Bool → (Int64 × Int32) → Prop) : Prop := ∃ n250, wp_Fi_takeZerosBehind_L250 n250 y0 0 fi_w 0 Q
def wp_Fi_takeZerosBehind (fi_w : Int64) (fi_z : Int32) (Q : Bool → (Int64 × Int32) → Prop) : Prop := (¬ fi_w = 0 → (wp_Fi_takeZerosBehind_J170 fi_z fi_w fi_z Q)) ∧ (fi_w = 0 → (wp_Fi_takeZerosBehind_J170 0 fi_w fi_z Q))
set_option maxHeartbeats 4000000 in
set_option maxRecDepth 100000 in
theorem c_Fi_takeZerosBehind (l : Launch) (D : va_G) (cA : ClassId) (fi sy sc : Nat) (fi_w : Int64) (fi_p : Int32) (fi_t : Int32) (fi_z : Int32) (fi_e : Int32) (fi_n : Bool) (Q : Bool → (Int64 × Int32) → Prop) (hw : wp_Fi_takeZerosBehind fi_w fi_z Q) : ct_M vwCl l D [(cA, .int)] y_Fi_takeZerosBehind w_Fi_takeZerosBehind { frames := 1, cells := 0, slots := 0, locals := 21 } [.ref fi] (wd_Fi cA fi sy sc fi_w fi_p fi_t fi_z fi_e fi_n) (ct_qz vwCl D [(cA, .int)] Q (fun u => wd_Fi cA fi sy sc u.1 fi_p fi_t u.2 fi_e fi_n)) := by
  refine ct_enter (cc := b_Fi_takeZerosBehind) (maxL := 3) (ret := (some .boolean)) (by decide) rfl (Nat.le_of_ble_eq_true rfl) ?_
  intro p e s m args below meth c A ls hx hb hr hlk hml hts hown hA hS hP hK hN hD hl
  have hl : lv_has ls 3 [(0, .ref fi)] := hl
  have htb : ∀ w ∈ tbl, w.before args s = true := fun w h => hts w (List.mem_cons_of_mem _ h)
  have hown : s.vm.findClass "DecimalPatterns$Finder" = some m.cls := hown
  unfold wp_Fi_takeZerosBehind at hw
  have hL250 : ∀ (n250 : Nat) (x1 : Int32) (x2 : Int32) (fi_w : Int64) (fi_z : Int32) (H : Heap) (locs : List Loc) (ls : Array Slot), lv_has ls 3 [(0, .ref fi), (1, .int x1), (2, .int x2)] → va_P D vwCl (wd_Fi cA fi sy sc fi_w fi_p fi_t fi_z fi_e fi_n) H → va_D A (wd_Fi cA fi sy sc fi_w fi_p fi_t fi_z fi_e fi_n) → va_S A s.heap H locs → wp_Fi_takeZerosBehind_L250 n250 x1 x2 fi_w fi_z Q → W p l e { frames := 1, cells := 0, slots := 0, locals := 21 } s m args below meth c H locs 0 0 (MQ below (ct_qz vwCl D [(cA, .int)] Q (fun u => wd_Fi cA fi sy sc u.1 fi_p fi_t u.2 fi_e fi_n) A) args s 0 0 A) (F0 m 25 ls []) := by
    intro n250
    induction n250 with
    | zero => intro x1 x2 fi_w fi_z H locs ls hl hP hD hS hw; exact hw.elim
    | succ n250 ih250 =>
      intro x1 x2 fi_w fi_z H locs ls hl hP hD hS hw
      unfold wp_Fi_takeZerosBehind_L250 at hw
      refine lv_iload_n hx hb d_Fi_takeZerosBehind_25 rfl (lv_at hl 2 rfl) ?_
      refine lv_iload_n hx hb d_Fi_takeZerosBehind_26 rfl (lv_at hl 1 rfl) ?_
      refine lv_icmp_ge (tgt := 46) hx hb d_Fi_takeZerosBehind_27 rfl (fun hc => ?_) (fun hc => ?_)
      · have hw := hw.1 hc
        refine lv_iconst (v := 1) hx hb d_Fi_takeZerosBehind_46 (by decide) ?_
        exact ct_zret true hx hb hr hlk hK hS (fi_w, fi_z) hw hP hD d_Fi_takeZerosBehind_47
      · have hw := hw.2 hc
        refine lv_aload_n hx hb d_Fi_takeZerosBehind_30 rfl (lv_at hl 0 rfl) ?_
        refine lv_iconst (v := 0) hx hb d_Fi_takeZerosBehind_31 (by decide) ?_
        refine ct_callz (wn := fun u2 => wd_Fi cA fi sy sc u2 fi_p fi_t fi_z fi_e fi_n) (va_runV (As := [.int 0]) (rest := []) ⟨hx, hb, hml, hown, htb⟩ (c_Fi_append l D cA fi sy sc fi_w fi_p fi_t fi_z fi_e fi_n 0 _ hw _) (ct_cwV 1 htb tw661 rfl rfl tw78 tw658 tw660 tw37 hd_Fi_append ⟨by decide, by decide⟩) (ct_preV hP hD hK hN [0] rfl (by decide) 0 rfl rfl _) rfl rfl hl.1 rfl (lv_room (Nat.le_of_ble_eq_true rfl)) d_Fi_takeZerosBehind_32 ⟨Nat.zero_le _, Nat.zero_le _⟩) hP hD hS hA [0] [] [0] rfl rfl (by decide) (by decide) (fun _ => rfl) (by decide) (fun r1 u2 H locs hw hP hD hS => ?_)
        have hP : va_P D vwCl (wd_Fi cA fi sy sc u2 fi_p fi_t fi_z fi_e fi_n) H := hP
        have hD : va_D A (wd_Fi cA fi sy sc u2 fi_p fi_t fi_z fi_e fi_n) := hD
        refine lv_if_ne (tgt := 40) hx hb d_Fi_takeZerosBehind_35 rfl (fun hc => ?_) (fun hc => ?_)
        · have hw := hw.1 ((bI_n0 _).mp hc)
          refine lv_iinc (k := 2) (v := x2 + 1) (lv' := [(2, .int (x2 + 1)), (0, .ref fi), (1, .int x1)]) hx hb d_Fi_takeZerosBehind_40 hl rfl (by rfl) (by decide) rfl (fun ls hl => ?_)
          refine lv_goto (tgt := 25) hx hb d_Fi_takeZerosBehind_43 rfl ?_
          exact ih250 x1 (x2 + 1) u2 fi_z _ _ _ (lv_sub hl [1, 2, 0] rfl) hP hD hS hw
        · have hw := hw.2 ((bI_0 _).mp hc)
          refine lv_iconst (v := 0) hx hb d_Fi_takeZerosBehind_38 (by decide) ?_
          exact ct_zret false hx hb hr hlk hK hS (u2, fi_z) hw hP hD d_Fi_takeZerosBehind_39
  have hJ170 : ∀ (y0 : Int32) (fi_w : Int64) (fi_z : Int32) (H : Heap) (locs : List Loc) (ls : Array Slot), lv_has ls 3 [(0, .ref fi)] → va_P D vwCl (wd_Fi cA fi sy sc fi_w fi_p fi_t fi_z fi_e fi_n) H → va_D A (wd_Fi cA fi sy sc fi_w fi_p fi_t fi_z fi_e fi_n) → va_S A s.heap H locs → wp_Fi_takeZerosBehind_J170 y0 fi_w fi_z Q → W p l e { frames := 1, cells := 0, slots := 0, locals := 21 } s m args below meth c H locs 0 0 (MQ below (ct_qz vwCl D [(cA, .int)] Q (fun u => wd_Fi cA fi sy sc u.1 fi_p fi_t u.2 fi_e fi_n) A) args s 0 0 A) (F0 m 17 ls [.int y0]) := by
    intro y0 fi_w fi_z H locs ls hl hP hD hS hw
    unfold wp_Fi_takeZerosBehind_J170 at hw
    refine lv_istore_n (lv' := [(1, .int y0), (0, .ref fi)]) hx hb d_Fi_takeZerosBehind_17 rfl hl (by decide) rfl (fun ls hl => ?_)
    refine lv_aload_n hx hb d_Fi_takeZerosBehind_18 rfl (lv_at hl 1 rfl) ?_
    refine lv_iconst (v := 0) hx hb d_Fi_takeZerosBehind_19 (by decide) ?_
    refine va_put (ci := 1) (v := .int 0) (ty := .int) (C := R_Fi) (T := F_Fi) (N := 8) hx hb htb in_Fi t_Fi t_Fi_ok n_Fi hown hK hP hD hS 0 rfl rfl 5 (by decide) (htb _ tw170) (fun _ h9 => h9) rfl (by decide +kernel) rfl rfl (Nat.le_of_ble_eq_true rfl) d_Fi_takeZerosBehind_20 (fun H locs hP hD hS => ?_)
    have hP : va_P D vwCl (wd_Fi cA fi sy sc fi_w fi_p fi_t 0 fi_e fi_n) H := hP
    have hD : va_D A (wd_Fi cA fi sy sc fi_w fi_p fi_t 0 fi_e fi_n) := hD
    refine lv_iconst (v := 0) hx hb d_Fi_takeZerosBehind_23 (by decide) ?_
    refine lv_istore_n (lv' := [(2, .int 0), (1, .int y0), (0, .ref fi)]) hx hb d_Fi_takeZerosBehind_24 rfl hl (by decide) rfl (fun ls hl => ?_)
    obtain ⟨n250, hw⟩ := hw
    exact hL250 n250 y0 0 fi_w 0 _ _ _ (lv_sub hl [2, 1, 0] rfl) hP hD hS hw
  refine lv_aload_n hx hb d_Fi_takeZerosBehind_0 rfl (lv_at hl 0 rfl) ?_
  refine va_get (ci := 1) (C := R_Fi) (T := F_Fi) (N := 8) hx hb htb in_Fi hown hK hP 0 rfl rfl 2 (by decide) (htb _ tw165) (fun _ h9 => h9) rfl d_Fi_takeZerosBehind_1 ?_
  refine lv_lconst (v := 0) hx hb d_Fi_takeZerosBehind_4 (by decide) ?_
  refine W.lcmp hx hb d_Fi_takeZerosBehind_5 ?_
  refine lv_if_ne (tgt := 13) hx hb d_Fi_takeZerosBehind_6 rfl (fun hc => ?_) (fun hc => ?_)
  · have hw := hw.1 (fun h => hc ((lg_cmp_eq _ _).mpr h))
    refine lv_aload_n hx hb d_Fi_takeZerosBehind_13 rfl (lv_at hl 0 rfl) ?_
    refine va_get (ci := 1) (C := R_Fi) (T := F_Fi) (N := 8) hx hb htb in_Fi hown hK hP 0 rfl rfl 5 (by decide) (htb _ tw170) (fun _ h9 => h9) rfl d_Fi_takeZerosBehind_14 ?_
    exact hJ170 fi_z fi_w fi_z _ _ _ (lv_sub hl [0] rfl) hP hD hS hw
  · have hw := hw.2 ((lg_cmp_eq _ _).mp hc)
    refine lv_iconst (v := 0) hx hb d_Fi_takeZerosBehind_9 (by decide) ?_
    refine lv_goto (tgt := 17) hx hb d_Fi_takeZerosBehind_10 rfl ?_
    exact hJ170 0 fi_w fi_z _ _ _ (lv_sub hl [0] rfl) hP hD hS hw
/-! DecimalPatterns$Finder.takeDigit(I)Z -/
def wp_Fi_takeDigit_J580 (fi_t : Int32) (x1 : Int32) (fi_w : Int64) (fi_p : Int32) (fi_z : Int32) (fi_e : Int32) (Q : Bool → (Int64 × Int32 × Int32 × Int32) → Prop) : Prop := (¬ x1 = 0 → (wp_Fi_takeZerosBehind fi_w fi_z (fun r1 u2 => (r1 = false → (Q false (u2.1, fi_p, u2.2, fi_e))) ∧ (r1 = true → (wp_Fi_append u2.1 x1 (fun r3 u4 => (r3 = false → (Q false (u4, fi_p, u2.2, fi_e))) ∧ (r3 = true → (Q true (u4, fi_p, u2.2, fi_e))))))))) ∧ (x1 = 0 → (Q true (fi_w, fi_p, fi_z + 1, fi_e)))
def wp_Fi_takeDigit (fi_w : Int64) (fi_p : Int32) (fi_t : Int32) (fi_z : Int32) (fi_e : Int32) (dg : Int32) (Q : Bool → (Int64 × Int32 × Int32 × Int32) → Prop) : Prop := (¬ fi_t = 2 → ((¬ fi_t = 1 → (wp_Fi_takeDigit_J580 fi_t dg fi_w fi_p fi_z fi_e Q)) ∧ (fi_t = 1 → (wp_Fi_takeDigit_J580 fi_t dg fi_w (fi_p + 1) fi_z fi_e Q)))) ∧ (fi_t = 2 → ((1000 ≤ fi_e → (Q true (fi_w, fi_p, fi_z, fi_e))) ∧ (¬ 1000 ≤ fi_e → (Q true (fi_w, fi_p, fi_z, (fi_e * 10) + dg)))))
set_option maxHeartbeats 4000000 in
set_option maxRecDepth 100000 in
theorem c_Fi_takeDigit (l : Launch) (D : va_G) (cA : ClassId) (fi sy sc : Nat) (fi_w : Int64) (fi_p : Int32) (fi_t : Int32) (fi_z : Int32) (fi_e : Int32) (fi_n : Bool) (dg : Int32) (Q : Bool → (Int64 × Int32 × Int32 × Int32) → Prop) (hw : wp_Fi_takeDigit fi_w fi_p fi_t fi_z fi_e dg Q) : ct_M vwCl l D [(cA, .int)] y_Fi_takeDigit w_Fi_takeDigit { frames := 2, cells := 0, slots := 0, locals := 43 } [.ref fi, .int dg] (wd_Fi cA fi sy sc fi_w fi_p fi_t fi_z fi_e fi_n) (ct_qz vwCl D [(cA, .int)] Q (fun u => wd_Fi cA fi sy sc u.1 u.2.1 fi_t u.2.2.1 u.2.2.2 fi_n)) := by
  refine ct_enter (cc := b_Fi_takeDigit) (maxL := 2) (ret := (some .boolean)) (by decide) rfl (Nat.le_of_ble_eq_true rfl) ?_
  intro p e s m args below meth c A ls hx hb hr hlk hml hts hown hA hS hP hK hN hD hl
  have hl : lv_has ls 2 [(0, .ref fi), (1, .int dg)] := hl
  have htb : ∀ w ∈ tbl, w.before args s = true := fun w h => hts w (List.mem_cons_of_mem _ h)
  have hown : s.vm.findClass "DecimalPatterns$Finder" = some m.cls := hown
  unfold wp_Fi_takeDigit at hw
  have hJ580 : ∀ (x1 : Int32) (fi_w : Int64) (fi_p : Int32) (fi_z : Int32) (fi_e : Int32) (H : Heap) (locs : List Loc) (ls : Array Slot), lv_has ls 2 [(0, .ref fi), (1, .int x1)] → va_P D vwCl (wd_Fi cA fi sy sc fi_w fi_p fi_t fi_z fi_e fi_n) H → va_D A (wd_Fi cA fi sy sc fi_w fi_p fi_t fi_z fi_e fi_n) → va_S A s.heap H locs → wp_Fi_takeDigit_J580 fi_t x1 fi_w fi_p fi_z fi_e Q → W p l e { frames := 2, cells := 0, slots := 0, locals := 43 } s m args below meth c H locs 0 0 (MQ below (ct_qz vwCl D [(cA, .int)] Q (fun u => wd_Fi cA fi sy sc u.1 u.2.1 fi_t u.2.2.1 u.2.2.2 fi_n) A) args s 0 0 A) (F0 m 58 ls []) := by
    intro x1 fi_w fi_p fi_z fi_e H locs ls hl hP hD hS hw
    unfold wp_Fi_takeDigit_J580 at hw
    refine lv_iload_n hx hb d_Fi_takeDigit_58 rfl (lv_at hl 1 rfl) ?_
    refine lv_if_ne (tgt := 74) hx hb d_Fi_takeDigit_59 rfl (fun hc => ?_) (fun hc => ?_)
    · have hw := hw.1 hc
      refine lv_aload_n hx hb d_Fi_takeDigit_74 rfl (lv_at hl 0 rfl) ?_
      refine ct_callz (wn := fun u2 => wd_Fi cA fi sy sc u2.1 fi_p fi_t u2.2 fi_e fi_n) (va_runV (As := []) (rest := []) ⟨hx, hb, hml, hown, htb⟩ (c_Fi_takeZerosBehind l D cA fi sy sc fi_w fi_p fi_t fi_z fi_e fi_n _ hw _) (ct_cwV 0 htb tw657 rfl rfl tw78 tw654 tw656 tw36 hd_Fi_takeZerosBehind ⟨by decide, by decide⟩) (ct_preV hP hD hK hN [0] rfl (by decide) 0 rfl rfl _) rfl rfl hl.1 rfl (lv_room (Nat.le_of_ble_eq_true rfl)) d_Fi_takeDigit_75 ⟨Nat.zero_le _, Nat.zero_le _⟩) hP hD hS hA [0] [] [0] rfl rfl (by decide) (by decide) (fun _ => rfl) (by decide) (fun r1 u2 H locs hw hP hD hS => ?_)
      have hP : va_P D vwCl (wd_Fi cA fi sy sc u2.1 fi_p fi_t u2.2 fi_e fi_n) H := hP
      have hD : va_D A (wd_Fi cA fi sy sc u2.1 fi_p fi_t u2.2 fi_e fi_n) := hD
      refine lv_if_eq (tgt := 93) hx hb d_Fi_takeDigit_78 rfl (fun hc => ?_) (fun hc => ?_)
      · have hw := hw.1 ((bI_0 _).mp hc)
        refine lv_iconst (v := 0) hx hb d_Fi_takeDigit_93 (by decide) ?_
        exact ct_zret false hx hb hr hlk hK hS (u2.1, fi_p, u2.2, fi_e) hw hP hD d_Fi_takeDigit_94
      · have hw := hw.2 ((bI_n0 _).mp hc)
        refine lv_aload_n hx hb d_Fi_takeDigit_81 rfl (lv_at hl 0 rfl) ?_
        refine lv_iload_n hx hb d_Fi_takeDigit_82 rfl (lv_at hl 1 rfl) ?_
        refine ct_callz (wn := fun u4 => wd_Fi cA fi sy sc u4 fi_p fi_t u2.2 fi_e fi_n) (va_runV (As := [.int x1]) (rest := []) ⟨hx, hb, hml, hown, htb⟩ (c_Fi_append l D cA fi sy sc u2.1 fi_p fi_t u2.2 fi_e fi_n x1 _ hw _) (ct_cwV 1 htb tw661 rfl rfl tw78 tw658 tw660 tw37 hd_Fi_append ⟨by decide, by decide⟩) (ct_preV hP hD hK hN [0] rfl (by decide) 0 rfl rfl _) rfl rfl hl.1 rfl (lv_room (Nat.le_of_ble_eq_true rfl)) d_Fi_takeDigit_83 ⟨Nat.zero_le _, Nat.zero_le _⟩) hP hD hS hA [0] [] [0] rfl rfl (by decide) (by decide) (fun _ => rfl) (by decide) (fun r3 u4 H locs hw hP hD hS => ?_)
        have hP : va_P D vwCl (wd_Fi cA fi sy sc u4 fi_p fi_t u2.2 fi_e fi_n) H := hP
        have hD : va_D A (wd_Fi cA fi sy sc u4 fi_p fi_t u2.2 fi_e fi_n) := hD
        refine lv_if_eq (tgt := 93) hx hb d_Fi_takeDigit_86 rfl (fun hc => ?_) (fun hc => ?_)
        · have hw := hw.1 ((bI_0 _).mp hc)
          refine lv_iconst (v := 0) hx hb d_Fi_takeDigit_93 (by decide) ?_
          exact ct_zret false hx hb hr hlk hK hS (u4, fi_p, u2.2, fi_e) hw hP hD d_Fi_takeDigit_94
        · have hw := hw.2 ((bI_n0 _).mp hc)
          refine lv_iconst (v := 1) hx hb d_Fi_takeDigit_89 (by decide) ?_
          refine lv_goto (tgt := 94) hx hb d_Fi_takeDigit_90 rfl ?_
          exact ct_zret true hx hb hr hlk hK hS (u4, fi_p, u2.2, fi_e) hw hP hD d_Fi_takeDigit_94
    · have hw := hw.2 hc
      refine lv_aload_n hx hb d_Fi_takeDigit_62 rfl (lv_at hl 0 rfl) ?_
      refine lv_dup hx hb d_Fi_takeDigit_63 rfl ?_
      refine va_get (ci := 1) (C := R_Fi) (T := F_Fi) (N := 8) hx hb htb in_Fi hown hK hP 0 rfl rfl 5 (by decide) (htb _ tw170) (fun _ h9 => h9) rfl d_Fi_takeDigit_64 ?_
      refine lv_iconst (v := 1) hx hb d_Fi_takeDigit_67 (by decide) ?_
      refine lv_iadd hx hb d_Fi_takeDigit_68 ?_
      refine va_put (ci := 1) (v := .int (fi_z + 1)) (ty := .int) (C := R_Fi) (T := F_Fi) (N := 8) hx hb htb in_Fi t_Fi t_Fi_ok n_Fi hown hK hP hD hS 0 rfl rfl 5 (by decide) (htb _ tw170) (fun _ h9 => h9) rfl (by decide +kernel) rfl rfl (Nat.le_of_ble_eq_true rfl) d_Fi_takeDigit_69 (fun H locs hP hD hS => ?_)
      have hP : va_P D vwCl (wd_Fi cA fi sy sc fi_w fi_p fi_t (fi_z + 1) fi_e fi_n) H := hP
      have hD : va_D A (wd_Fi cA fi sy sc fi_w fi_p fi_t (fi_z + 1) fi_e fi_n) := hD
      refine lv_iconst (v := 1) hx hb d_Fi_takeDigit_72 (by decide) ?_
      exact ct_zret true hx hb hr hlk hK hS (fi_w, fi_p, fi_z + 1, fi_e) hw hP hD d_Fi_takeDigit_73
  refine lv_aload_n hx hb d_Fi_takeDigit_0 rfl (lv_at hl 0 rfl) ?_
  refine va_get (ci := 1) (C := R_Fi) (T := F_Fi) (N := 8) hx hb htb in_Fi hown hK hP 0 rfl rfl 4 (by decide) (htb _ tw169) (fun _ h9 => h9) rfl d_Fi_takeDigit_1 ?_
  refine lv_iconst (v := 2) hx hb d_Fi_takeDigit_4 (by decide) ?_
  refine lv_icmp_ne (tgt := 40) hx hb d_Fi_takeDigit_5 rfl (fun hc => ?_) (fun hc => ?_)
  · have hw := hw.1 hc
    refine lv_aload_n hx hb d_Fi_takeDigit_40 rfl (lv_at hl 0 rfl) ?_
    refine va_get (ci := 1) (C := R_Fi) (T := F_Fi) (N := 8) hx hb htb in_Fi hown hK hP 0 rfl rfl 4 (by decide) (htb _ tw169) (fun _ h9 => h9) rfl d_Fi_takeDigit_41 ?_
    refine lv_iconst (v := 1) hx hb d_Fi_takeDigit_44 (by decide) ?_
    refine lv_icmp_ne (tgt := 58) hx hb d_Fi_takeDigit_45 rfl (fun hc => ?_) (fun hc => ?_)
    · have hw := hw.1 hc
      exact hJ580 dg fi_w fi_p fi_z fi_e _ _ _ (lv_sub hl [0, 1] rfl) hP hD hS hw
    · have hw := hw.2 hc
      refine lv_aload_n hx hb d_Fi_takeDigit_48 rfl (lv_at hl 0 rfl) ?_
      refine lv_dup hx hb d_Fi_takeDigit_49 rfl ?_
      refine va_get (ci := 1) (C := R_Fi) (T := F_Fi) (N := 8) hx hb htb in_Fi hown hK hP 0 rfl rfl 3 (by decide) (htb _ tw167) (fun _ h9 => h9) rfl d_Fi_takeDigit_50 ?_
      refine lv_iconst (v := 1) hx hb d_Fi_takeDigit_53 (by decide) ?_
      refine lv_iadd hx hb d_Fi_takeDigit_54 ?_
      refine va_put (ci := 1) (v := .int (fi_p + 1)) (ty := .int) (C := R_Fi) (T := F_Fi) (N := 8) hx hb htb in_Fi t_Fi t_Fi_ok n_Fi hown hK hP hD hS 0 rfl rfl 3 (by decide) (htb _ tw167) (fun _ h9 => h9) rfl (by decide +kernel) rfl rfl (Nat.le_of_ble_eq_true rfl) d_Fi_takeDigit_55 (fun H locs hP hD hS => ?_)
      have hP : va_P D vwCl (wd_Fi cA fi sy sc fi_w (fi_p + 1) fi_t fi_z fi_e fi_n) H := hP
      have hD : va_D A (wd_Fi cA fi sy sc fi_w (fi_p + 1) fi_t fi_z fi_e fi_n) := hD
      exact hJ580 dg fi_w (fi_p + 1) fi_z fi_e _ _ _ (lv_sub hl [0, 1] rfl) hP hD hS hw
  · have hw := hw.2 hc
    refine lv_aload_n hx hb d_Fi_takeDigit_8 rfl (lv_at hl 0 rfl) ?_
    refine lv_aload_n hx hb d_Fi_takeDigit_9 rfl (lv_at hl 0 rfl) ?_
    refine va_get (ci := 1) (C := R_Fi) (T := F_Fi) (N := 8) hx hb htb in_Fi hown hK hP 0 rfl rfl 6 (by decide) (htb _ tw171) (fun _ h9 => h9) rfl d_Fi_takeDigit_10 ?_
    refine lv_sipush (v := 1000) hx hb d_Fi_takeDigit_13 (by decide) ?_
    refine lv_icmp_ge (tgt := 31) hx hb d_Fi_takeDigit_16 rfl (fun hc => ?_) (fun hc => ?_)
    · have hw := hw.1 hc
      refine lv_aload_n hx hb d_Fi_takeDigit_31 rfl (lv_at hl 0 rfl) ?_
      refine va_get (ci := 1) (C := R_Fi) (T := F_Fi) (N := 8) hx hb htb in_Fi hown hK hP 0 rfl rfl 6 (by decide) (htb _ tw171) (fun _ h9 => h9) rfl d_Fi_takeDigit_32 ?_
      refine va_put (ci := 1) (v := .int fi_e) (ty := .int) (C := R_Fi) (T := F_Fi) (N := 8) hx hb htb in_Fi t_Fi t_Fi_ok n_Fi hown hK hP hD hS 0 rfl rfl 6 (by decide) (htb _ tw171) (fun _ h9 => h9) rfl (by decide +kernel) rfl rfl (Nat.le_of_ble_eq_true rfl) d_Fi_takeDigit_35 (fun H locs hP hD hS => ?_)
      have hP : va_P D vwCl (wd_Fi cA fi sy sc fi_w fi_p fi_t fi_z fi_e fi_n) H := hP
      have hD : va_D A (wd_Fi cA fi sy sc fi_w fi_p fi_t fi_z fi_e fi_n) := hD
      refine lv_iconst (v := 1) hx hb d_Fi_takeDigit_38 (by decide) ?_
      exact ct_zret true hx hb hr hlk hK hS (fi_w, fi_p, fi_z, fi_e) hw hP hD d_Fi_takeDigit_39
    · have hw := hw.2 hc
      refine lv_aload_n hx hb d_Fi_takeDigit_19 rfl (lv_at hl 0 rfl) ?_
      refine va_get (ci := 1) (C := R_Fi) (T := F_Fi) (N := 8) hx hb htb in_Fi hown hK hP 0 rfl rfl 6 (by decide) (htb _ tw171) (fun _ h9 => h9) rfl d_Fi_takeDigit_20 ?_
      refine lv_bipush (v := 10) hx hb d_Fi_takeDigit_23 (by decide) ?_
      refine lv_imul hx hb d_Fi_takeDigit_25 ?_
      refine lv_iload_n hx hb d_Fi_takeDigit_26 rfl (lv_at hl 1 rfl) ?_
      refine lv_iadd hx hb d_Fi_takeDigit_27 ?_
      refine lv_goto (tgt := 35) hx hb d_Fi_takeDigit_28 rfl ?_
      refine va_put (ci := 1) (v := .int ((fi_e * 10) + dg)) (ty := .int) (C := R_Fi) (T := F_Fi) (N := 8) hx hb htb in_Fi t_Fi t_Fi_ok n_Fi hown hK hP hD hS 0 rfl rfl 6 (by decide) (htb _ tw171) (fun _ h9 => h9) rfl (by decide +kernel) rfl rfl (Nat.le_of_ble_eq_true rfl) d_Fi_takeDigit_35 (fun H locs hP hD hS => ?_)
      have hP : va_P D vwCl (wd_Fi cA fi sy sc fi_w fi_p fi_t fi_z ((fi_e * 10) + dg) fi_n) H := hP
      have hD : va_D A (wd_Fi cA fi sy sc fi_w fi_p fi_t fi_z ((fi_e * 10) + dg) fi_n) := hD
      refine lv_iconst (v := 1) hx hb d_Fi_takeDigit_38 (by decide) ?_
      exact ct_zret true hx hb hr hlk hK hS (fi_w, fi_p, fi_z, (fi_e * 10) + dg) hw hP hD d_Fi_takeDigit_39
/-! DecimalPatterns$Finder.take(I)Z -/
def wp_Fi_take (fi_w : Int64) (fi_p : Int32) (fi_t : Int32) (fi_z : Int32) (fi_e : Int32) (fi_n : Bool) (sy_f : Nat → Int32) (cd : Int32) (Q : Bool → (Int64 × Int32 × Int32 × Int32 × Int32 × Bool) → Prop) : Prop := wp_Sym_digitOf sy_f cd (fun r1 u2 => (r1 < 0 → (wp_Sym_code sy_f 1 (fun r3 u4 => (¬ cd = r3 → (wp_Sym_code sy_f 0 (fun r5 u6 => (¬ cd = r5 → (wp_Sym_code sy_f 4 (fun r7 u8 => (¬ cd = r7 → (wp_Sym_code sy_f 2 (fun r9 u10 => (¬ cd = r9 → ((¬ cd = 43 → (Q false (fi_w, fi_p, fi_t, fi_z, fi_e, fi_n))) ∧ (cd = 43 → ((¬ fi_t = 2 → (Q false (fi_w, fi_p, fi_t, fi_z, fi_e, fi_n))) ∧ (fi_t = 2 → (Q true (fi_w, fi_p, fi_t, fi_z, fi_e, fi_n))))))) ∧ (cd = r9 → ((¬ fi_t = 2 → (Q false (fi_w, fi_p, fi_t, fi_z, fi_e, true))) ∧ (fi_t = 2 → (Q true (fi_w, fi_p, fi_t, fi_z, fi_e, true)))))))) ∧ (cd = r7 → (wp_Fi_enter fi_t 2 (fun r11 u12 => Q r11 (fi_w, fi_p, u12, fi_z, fi_e, fi_n))))))) ∧ (cd = r5 → (wp_Fi_enter fi_t 1 (fun r13 u14 => Q r13 (fi_w, fi_p, u14, fi_z, fi_e, fi_n))))))) ∧ (cd = r3 → ((¬ fi_t = 0 → (Q false (fi_w, fi_p, fi_t, fi_z, fi_e, fi_n))) ∧ (fi_t = 0 → (Q true (fi_w, fi_p, fi_t, fi_z, fi_e, fi_n)))))))) ∧ (¬ r1 < 0 → (wp_Fi_takeDigit fi_w fi_p fi_t fi_z fi_e r1 (fun r15 u16 => Q r15 (u16.1, u16.2.1, fi_t, u16.2.2.1, u16.2.2.2, fi_n)))))
set_option maxHeartbeats 4000000 in
set_option maxRecDepth 100000 in
theorem c_Fi_take (l : Launch) (D : va_G) (cA : ClassId) (fi sy sy_a sc : Nat) (fi_w : Int64) (fi_p : Int32) (fi_t : Int32) (fi_z : Int32) (fi_e : Int32) (fi_n : Bool) (sy_l : Int32) (sy_f : Nat → Int32) (cd : Int32) (Q : Bool → (Int64 × Int32 × Int32 × Int32 × Int32 × Bool) → Prop) (hw : wp_Fi_take fi_w fi_p fi_t fi_z fi_e fi_n sy_f cd Q) : ct_M vwCl l D [(cA, .int)] y_Fi_take w_Fi_take { frames := 3, cells := 0, slots := 0, locals := 64 } [.ref fi, .int cd] (wd_FiSy cA fi sy sy_a sc fi_w fi_p fi_t fi_z fi_e fi_n sy_l sy_f) (ct_qz vwCl D [(cA, .int)] Q (fun u => wd_FiSy cA fi sy sy_a sc u.1 u.2.1 u.2.2.1 u.2.2.2.1 u.2.2.2.2.1 u.2.2.2.2.2 sy_l sy_f)) := by
  refine ct_enter (cc := b_Fi_take) (maxL := 3) (ret := (some .boolean)) (by decide) rfl (Nat.le_of_ble_eq_true rfl) ?_
  intro p e s m args below meth c A ls hx hb hr hlk hml hts hown hA hS hP hK hN hD hl
  have hl : lv_has ls 3 [(0, .ref fi), (1, .int cd)] := hl
  have htb : ∀ w ∈ tbl, w.before args s = true := fun w h => hts w (List.mem_cons_of_mem _ h)
  have hown : s.vm.findClass "DecimalPatterns$Finder" = some m.cls := hown
  unfold wp_Fi_take at hw
  refine lv_aload_n hx hb d_Fi_take_0 rfl (lv_at hl 0 rfl) ?_
  refine va_get (ci := 1) (C := R_Fi) (T := F_Fi) (N := 8) hx hb htb in_Fi hown hK hP 0 rfl rfl 0 (by decide) (htb _ tw163) (fun _ h9 => h9) rfl d_Fi_take_1 ?_
  refine lv_iload_n hx hb d_Fi_take_4 rfl (lv_at hl 1 rfl) ?_
  refine ct_calli (wn := fun _ => wd_FiSy cA fi sy sy_a sc fi_w fi_p fi_t fi_z fi_e fi_n sy_l sy_f) (va_runV (As := [.int cd]) (rest := []) ⟨hx, hb, hml, hown, htb⟩ (c_Sym_digitOf l D cA sy sy_a sy_l sy_f cd _ hw _) (ct_cwV 1 htb tw465 rfl rfl tw75 tw649 tw463 tw464 hd_Sym_digitOf ⟨by decide, by decide⟩) (ct_preV hP hD hK hN [1, 2] rfl (by decide) 1 rfl rfl _) rfl rfl hl.1 rfl (lv_room (Nat.le_of_ble_eq_true rfl)) d_Fi_take_5 ⟨Nat.zero_le _, Nat.zero_le _⟩) hP hD hS hA [1, 2] [0] [0, 1, 2] rfl rfl (by decide) (by decide) (fun _ => rfl) (by decide) (fun r1 u2 H locs hw hP hD hS => ?_)
  have hP : va_P D vwCl (wd_FiSy cA fi sy sy_a sc fi_w fi_p fi_t fi_z fi_e fi_n sy_l sy_f) H := hP
  have hD : va_D A (wd_FiSy cA fi sy sy_a sc fi_w fi_p fi_t fi_z fi_e fi_n sy_l sy_f) := hD
  refine lv_istore_n (lv' := [(2, .int r1), (0, .ref fi), (1, .int cd)]) hx hb d_Fi_take_8 rfl hl (by decide) rfl (fun ls hl => ?_)
  refine lv_iload_n hx hb d_Fi_take_9 rfl (lv_at hl 0 rfl) ?_
  refine lv_if_lt (tgt := 19) hx hb d_Fi_take_10 rfl (fun hc => ?_) (fun hc => ?_)
  · have hw := hw.1 hc
    refine lv_iload_n hx hb d_Fi_take_19 rfl (lv_at hl 2 rfl) ?_
    refine lv_aload_n hx hb d_Fi_take_20 rfl (lv_at hl 1 rfl) ?_
    refine va_get (ci := 1) (C := R_Fi) (T := F_Fi) (N := 8) hx hb htb in_Fi hown hK hP 0 rfl rfl 0 (by decide) (htb _ tw163) (fun _ h9 => h9) rfl d_Fi_take_21 ?_
    refine lv_iconst (v := 1) hx hb d_Fi_take_24 (by decide) ?_
    refine ct_calli (wn := fun _ => wd_FiSy cA fi sy sy_a sc fi_w fi_p fi_t fi_z fi_e fi_n sy_l sy_f) (va_runV (As := [.int 1]) (rest := [.int cd]) ⟨hx, hb, hml, hown, htb⟩ (c_Sym_code l D cA sy sy_a sy_l sy_f 1 _ hw _) (ct_cwV 1 htb tw547 rfl rfl tw75 tw664 tw545 tw546 hd_Sym_code ⟨by decide, by decide⟩) (ct_preV hP hD hK hN [1, 2] rfl (by decide) 1 rfl rfl _) rfl rfl hl.1 rfl (lv_room (Nat.le_of_ble_eq_true rfl)) d_Fi_take_25 ⟨Nat.zero_le _, Nat.zero_le _⟩) hP hD hS hA [1, 2] [0] [0, 1, 2] rfl rfl (by decide) (by decide) (fun _ => rfl) (by decide) (fun r3 u4 H locs hw hP hD hS => ?_)
    have hP : va_P D vwCl (wd_FiSy cA fi sy sy_a sc fi_w fi_p fi_t fi_z fi_e fi_n sy_l sy_f) H := hP
    have hD : va_D A (wd_FiSy cA fi sy sy_a sc fi_w fi_p fi_t fi_z fi_e fi_n sy_l sy_f) := hD
    refine lv_icmp_ne (tgt := 44) hx hb d_Fi_take_28 rfl (fun hc => ?_) (fun hc => ?_)
    · have hw := hw.1 hc
      refine lv_iload_n hx hb d_Fi_take_44 rfl (lv_at hl 2 rfl) ?_
      refine lv_aload_n hx hb d_Fi_take_45 rfl (lv_at hl 1 rfl) ?_
      refine va_get (ci := 1) (C := R_Fi) (T := F_Fi) (N := 8) hx hb htb in_Fi hown hK hP 0 rfl rfl 0 (by decide) (htb _ tw163) (fun _ h9 => h9) rfl d_Fi_take_46 ?_
      refine lv_iconst (v := 0) hx hb d_Fi_take_49 (by decide) ?_
      refine ct_calli (wn := fun _ => wd_FiSy cA fi sy sy_a sc fi_w fi_p fi_t fi_z fi_e fi_n sy_l sy_f) (va_runV (As := [.int 0]) (rest := [.int cd]) ⟨hx, hb, hml, hown, htb⟩ (c_Sym_code l D cA sy sy_a sy_l sy_f 0 _ hw _) (ct_cwV 1 htb tw547 rfl rfl tw75 tw664 tw545 tw546 hd_Sym_code ⟨by decide, by decide⟩) (ct_preV hP hD hK hN [1, 2] rfl (by decide) 1 rfl rfl _) rfl rfl hl.1 rfl (lv_room (Nat.le_of_ble_eq_true rfl)) d_Fi_take_50 ⟨Nat.zero_le _, Nat.zero_le _⟩) hP hD hS hA [1, 2] [0] [0, 1, 2] rfl rfl (by decide) (by decide) (fun _ => rfl) (by decide) (fun r5 u6 H locs hw hP hD hS => ?_)
      have hP : va_P D vwCl (wd_FiSy cA fi sy sy_a sc fi_w fi_p fi_t fi_z fi_e fi_n sy_l sy_f) H := hP
      have hD : va_D A (wd_FiSy cA fi sy sy_a sc fi_w fi_p fi_t fi_z fi_e fi_n sy_l sy_f) := hD
      refine lv_icmp_ne (tgt := 62) hx hb d_Fi_take_53 rfl (fun hc => ?_) (fun hc => ?_)
      · have hw := hw.1 hc
        refine lv_iload_n hx hb d_Fi_take_62 rfl (lv_at hl 2 rfl) ?_
        refine lv_aload_n hx hb d_Fi_take_63 rfl (lv_at hl 1 rfl) ?_
        refine va_get (ci := 1) (C := R_Fi) (T := F_Fi) (N := 8) hx hb htb in_Fi hown hK hP 0 rfl rfl 0 (by decide) (htb _ tw163) (fun _ h9 => h9) rfl d_Fi_take_64 ?_
        refine lv_iconst (v := 4) hx hb d_Fi_take_67 (by decide) ?_
        refine ct_calli (wn := fun _ => wd_FiSy cA fi sy sy_a sc fi_w fi_p fi_t fi_z fi_e fi_n sy_l sy_f) (va_runV (As := [.int 4]) (rest := [.int cd]) ⟨hx, hb, hml, hown, htb⟩ (c_Sym_code l D cA sy sy_a sy_l sy_f 4 _ hw _) (ct_cwV 1 htb tw547 rfl rfl tw75 tw664 tw545 tw546 hd_Sym_code ⟨by decide, by decide⟩) (ct_preV hP hD hK hN [1, 2] rfl (by decide) 1 rfl rfl _) rfl rfl hl.1 rfl (lv_room (Nat.le_of_ble_eq_true rfl)) d_Fi_take_68 ⟨Nat.zero_le _, Nat.zero_le _⟩) hP hD hS hA [1, 2] [0] [0, 1, 2] rfl rfl (by decide) (by decide) (fun _ => rfl) (by decide) (fun r7 u8 H locs hw hP hD hS => ?_)
        have hP : va_P D vwCl (wd_FiSy cA fi sy sy_a sc fi_w fi_p fi_t fi_z fi_e fi_n sy_l sy_f) H := hP
        have hD : va_D A (wd_FiSy cA fi sy sy_a sc fi_w fi_p fi_t fi_z fi_e fi_n sy_l sy_f) := hD
        refine lv_icmp_ne (tgt := 80) hx hb d_Fi_take_71 rfl (fun hc => ?_) (fun hc => ?_)
        · have hw := hw.1 hc
          refine lv_iload_n hx hb d_Fi_take_80 rfl (lv_at hl 2 rfl) ?_
          refine lv_aload_n hx hb d_Fi_take_81 rfl (lv_at hl 1 rfl) ?_
          refine va_get (ci := 1) (C := R_Fi) (T := F_Fi) (N := 8) hx hb htb in_Fi hown hK hP 0 rfl rfl 0 (by decide) (htb _ tw163) (fun _ h9 => h9) rfl d_Fi_take_82 ?_
          refine lv_iconst (v := 2) hx hb d_Fi_take_85 (by decide) ?_
          refine ct_calli (wn := fun _ => wd_FiSy cA fi sy sy_a sc fi_w fi_p fi_t fi_z fi_e fi_n sy_l sy_f) (va_runV (As := [.int 2]) (rest := [.int cd]) ⟨hx, hb, hml, hown, htb⟩ (c_Sym_code l D cA sy sy_a sy_l sy_f 2 _ hw _) (ct_cwV 1 htb tw547 rfl rfl tw75 tw664 tw545 tw546 hd_Sym_code ⟨by decide, by decide⟩) (ct_preV hP hD hK hN [1, 2] rfl (by decide) 1 rfl rfl _) rfl rfl hl.1 rfl (lv_room (Nat.le_of_ble_eq_true rfl)) d_Fi_take_86 ⟨Nat.zero_le _, Nat.zero_le _⟩) hP hD hS hA [1, 2] [0] [0, 1, 2] rfl rfl (by decide) (by decide) (fun _ => rfl) (by decide) (fun r9 u10 H locs hw hP hD hS => ?_)
          have hP : va_P D vwCl (wd_FiSy cA fi sy sy_a sc fi_w fi_p fi_t fi_z fi_e fi_n sy_l sy_f) H := hP
          have hD : va_D A (wd_FiSy cA fi sy sy_a sc fi_w fi_p fi_t fi_z fi_e fi_n sy_l sy_f) := hD
          refine lv_icmp_ne (tgt := 111) hx hb d_Fi_take_89 rfl (fun hc => ?_) (fun hc => ?_)
          · have hw := hw.1 hc
            refine lv_iload_n hx hb d_Fi_take_111 rfl (lv_at hl 2 rfl) ?_
            refine lv_bipush (v := 43) hx hb d_Fi_take_112 (by decide) ?_
            refine lv_icmp_ne (tgt := 129) hx hb d_Fi_take_114 rfl (fun hc => ?_) (fun hc => ?_)
            · have hw := hw.1 hc
              refine lv_iconst (v := 0) hx hb d_Fi_take_129 (by decide) ?_
              exact ct_zret false hx hb hr hlk hK hS (fi_w, fi_p, fi_t, fi_z, fi_e, fi_n) hw hP hD d_Fi_take_130
            · have hw := hw.2 hc
              refine lv_aload_n hx hb d_Fi_take_117 rfl (lv_at hl 1 rfl) ?_
              refine va_get (ci := 1) (C := R_Fi) (T := F_Fi) (N := 8) hx hb htb in_Fi hown hK hP 0 rfl rfl 4 (by decide) (htb _ tw169) (fun _ h9 => h9) rfl d_Fi_take_118 ?_
              refine lv_iconst (v := 2) hx hb d_Fi_take_121 (by decide) ?_
              refine lv_icmp_ne (tgt := 129) hx hb d_Fi_take_122 rfl (fun hc => ?_) (fun hc => ?_)
              · have hw := hw.1 hc
                refine lv_iconst (v := 0) hx hb d_Fi_take_129 (by decide) ?_
                exact ct_zret false hx hb hr hlk hK hS (fi_w, fi_p, fi_t, fi_z, fi_e, fi_n) hw hP hD d_Fi_take_130
              · have hw := hw.2 hc
                refine lv_iconst (v := 1) hx hb d_Fi_take_125 (by decide) ?_
                refine lv_goto (tgt := 130) hx hb d_Fi_take_126 rfl ?_
                exact ct_zret true hx hb hr hlk hK hS (fi_w, fi_p, fi_t, fi_z, fi_e, fi_n) hw hP hD d_Fi_take_130
          · have hw := hw.2 hc
            refine lv_aload_n hx hb d_Fi_take_92 rfl (lv_at hl 1 rfl) ?_
            refine lv_iconst (v := 1) hx hb d_Fi_take_93 (by decide) ?_
            refine va_put (ci := 1) (v := .int (bI true)) (ty := .boolean) (C := R_Fi) (T := F_Fi) (N := 8) hx hb htb in_Fi t_Fi t_Fi_ok n_Fi hown hK hP hD hS 0 rfl rfl 7 (by decide) (htb _ tw172) (fun _ h9 => h9) rfl (by decide +kernel) (bI_nar true) (bI_fit true) (Nat.le_of_ble_eq_true rfl) d_Fi_take_94 (fun H locs hP hD hS => ?_)
            have hP : va_P D vwCl (wd_FiSy cA fi sy sy_a sc fi_w fi_p fi_t fi_z fi_e true sy_l sy_f) H := hP
            have hD : va_D A (wd_FiSy cA fi sy sy_a sc fi_w fi_p fi_t fi_z fi_e true sy_l sy_f) := hD
            refine lv_aload_n hx hb d_Fi_take_97 rfl (lv_at hl 1 rfl) ?_
            refine va_get (ci := 1) (C := R_Fi) (T := F_Fi) (N := 8) hx hb htb in_Fi hown hK hP 0 rfl rfl 4 (by decide) (htb _ tw169) (fun _ h9 => h9) rfl d_Fi_take_98 ?_
            refine lv_iconst (v := 2) hx hb d_Fi_take_101 (by decide) ?_
            refine lv_icmp_ne (tgt := 109) hx hb d_Fi_take_102 rfl (fun hc => ?_) (fun hc => ?_)
            · have hw := hw.1 hc
              refine lv_iconst (v := 0) hx hb d_Fi_take_109 (by decide) ?_
              exact ct_zret false hx hb hr hlk hK hS (fi_w, fi_p, fi_t, fi_z, fi_e, true) hw hP hD d_Fi_take_110
            · have hw := hw.2 hc
              refine lv_iconst (v := 1) hx hb d_Fi_take_105 (by decide) ?_
              refine lv_goto (tgt := 110) hx hb d_Fi_take_106 rfl ?_
              exact ct_zret true hx hb hr hlk hK hS (fi_w, fi_p, fi_t, fi_z, fi_e, true) hw hP hD d_Fi_take_110
        · have hw := hw.2 hc
          refine lv_aload_n hx hb d_Fi_take_74 rfl (lv_at hl 1 rfl) ?_
          refine lv_iconst (v := 2) hx hb d_Fi_take_75 (by decide) ?_
          refine ct_callz (wn := fun u12 => wd_FiSy cA fi sy sy_a sc fi_w fi_p u12 fi_z fi_e fi_n sy_l sy_f) (va_runV (As := [.int 2]) (rest := []) ⟨hx, hb, hml, hown, htb⟩ (c_Fi_enter l D cA fi sy sc fi_w fi_p fi_t fi_z fi_e fi_n 2 _ hw _) (ct_cwV 1 htb tw668 rfl rfl tw78 tw665 tw667 tw38 hd_Fi_enter ⟨by decide, by decide⟩) (ct_preV hP hD hK hN [0] rfl (by decide) 0 rfl rfl _) rfl rfl hl.1 rfl (lv_room (Nat.le_of_ble_eq_true rfl)) d_Fi_take_76 ⟨Nat.zero_le _, Nat.zero_le _⟩) hP hD hS hA [0] [1, 2] [2, 0, 1] rfl rfl (by decide) (by decide) (fun _ => rfl) (by decide) (fun r11 u12 H locs hw hP hD hS => ?_)
          have hP : va_P D vwCl (wd_FiSy cA fi sy sy_a sc fi_w fi_p u12 fi_z fi_e fi_n sy_l sy_f) H := hP
          have hD : va_D A (wd_FiSy cA fi sy sy_a sc fi_w fi_p u12 fi_z fi_e fi_n sy_l sy_f) := hD
          exact ct_zret r11 hx hb hr hlk hK hS (fi_w, fi_p, u12, fi_z, fi_e, fi_n) hw hP hD d_Fi_take_79
      · have hw := hw.2 hc
        refine lv_aload_n hx hb d_Fi_take_56 rfl (lv_at hl 1 rfl) ?_
        refine lv_iconst (v := 1) hx hb d_Fi_take_57 (by decide) ?_
        refine ct_callz (wn := fun u14 => wd_FiSy cA fi sy sy_a sc fi_w fi_p u14 fi_z fi_e fi_n sy_l sy_f) (va_runV (As := [.int 1]) (rest := []) ⟨hx, hb, hml, hown, htb⟩ (c_Fi_enter l D cA fi sy sc fi_w fi_p fi_t fi_z fi_e fi_n 1 _ hw _) (ct_cwV 1 htb tw668 rfl rfl tw78 tw665 tw667 tw38 hd_Fi_enter ⟨by decide, by decide⟩) (ct_preV hP hD hK hN [0] rfl (by decide) 0 rfl rfl _) rfl rfl hl.1 rfl (lv_room (Nat.le_of_ble_eq_true rfl)) d_Fi_take_58 ⟨Nat.zero_le _, Nat.zero_le _⟩) hP hD hS hA [0] [1, 2] [2, 0, 1] rfl rfl (by decide) (by decide) (fun _ => rfl) (by decide) (fun r13 u14 H locs hw hP hD hS => ?_)
        have hP : va_P D vwCl (wd_FiSy cA fi sy sy_a sc fi_w fi_p u14 fi_z fi_e fi_n sy_l sy_f) H := hP
        have hD : va_D A (wd_FiSy cA fi sy sy_a sc fi_w fi_p u14 fi_z fi_e fi_n sy_l sy_f) := hD
        exact ct_zret r13 hx hb hr hlk hK hS (fi_w, fi_p, u14, fi_z, fi_e, fi_n) hw hP hD d_Fi_take_61
    · have hw := hw.2 hc
      refine lv_aload_n hx hb d_Fi_take_31 rfl (lv_at hl 1 rfl) ?_
      refine va_get (ci := 1) (C := R_Fi) (T := F_Fi) (N := 8) hx hb htb in_Fi hown hK hP 0 rfl rfl 4 (by decide) (htb _ tw169) (fun _ h9 => h9) rfl d_Fi_take_32 ?_
      refine lv_if_ne (tgt := 42) hx hb d_Fi_take_35 rfl (fun hc => ?_) (fun hc => ?_)
      · have hw := hw.1 hc
        refine lv_iconst (v := 0) hx hb d_Fi_take_42 (by decide) ?_
        exact ct_zret false hx hb hr hlk hK hS (fi_w, fi_p, fi_t, fi_z, fi_e, fi_n) hw hP hD d_Fi_take_43
      · have hw := hw.2 hc
        refine lv_iconst (v := 1) hx hb d_Fi_take_38 (by decide) ?_
        refine lv_goto (tgt := 43) hx hb d_Fi_take_39 rfl ?_
        exact ct_zret true hx hb hr hlk hK hS (fi_w, fi_p, fi_t, fi_z, fi_e, fi_n) hw hP hD d_Fi_take_43
  · have hw := hw.2 hc
    refine lv_aload_n hx hb d_Fi_take_13 rfl (lv_at hl 1 rfl) ?_
    refine lv_iload_n hx hb d_Fi_take_14 rfl (lv_at hl 0 rfl) ?_
    refine ct_callz (wn := fun u16 => wd_FiSy cA fi sy sy_a sc u16.1 u16.2.1 fi_t u16.2.2.1 u16.2.2.2 fi_n sy_l sy_f) (va_runV (As := [.int r1]) (rest := []) ⟨hx, hb, hml, hown, htb⟩ (c_Fi_takeDigit l D cA fi sy sc fi_w fi_p fi_t fi_z fi_e fi_n r1 _ hw _) (ct_cwV 1 htb tw653 rfl rfl tw78 tw650 tw652 tw35 hd_Fi_takeDigit ⟨by decide, by decide⟩) (ct_preV hP hD hK hN [0] rfl (by decide) 0 rfl rfl _) rfl rfl hl.1 rfl (lv_room (Nat.le_of_ble_eq_true rfl)) d_Fi_take_15 ⟨Nat.zero_le _, Nat.zero_le _⟩) hP hD hS hA [0] [1, 2] [2, 0, 1] rfl rfl (by decide) (by decide) (fun _ => rfl) (by decide) (fun r15 u16 H locs hw hP hD hS => ?_)
    have hP : va_P D vwCl (wd_FiSy cA fi sy sy_a sc u16.1 u16.2.1 fi_t u16.2.2.1 u16.2.2.2 fi_n sy_l sy_f) H := hP
    have hD : va_D A (wd_FiSy cA fi sy sy_a sc u16.1 u16.2.1 fi_t u16.2.2.1 u16.2.2.2 fi_n sy_l sy_f) := hD
    exact ct_zret r15 hx hb hr hlk hK hS (u16.1, u16.2.1, fi_t, u16.2.2.1, u16.2.2.2, fi_n) hw hP hD d_Fi_take_18
/-! DecimalPatterns$Finder.settle(Z)Z -/
def wp_Fi_settle_L830 : Nat → Int32 → Int32 → Bool → Int32 → Int32 → Int64 → Int32 → (Bool → (Int64 × Int32) → Prop) → Prop
  | 0, _, _, _, _, _, _, _, _ => False
  | n830 + 1, fi_z, fi_e, fi_n, x2, x3, fi_w, fi_p, Q => (x2 ≤ x3 → (Q true (fi_w, fi_p))) ∧ (¬ x2 ≤ x3 → (wp_Fi_append fi_w 0 (fun r1 u2 => (r1 = true → (wp_Fi_settle_L830 n830 fi_z fi_e fi_n x2 (x3 + 1) u2 fi_p Q)) ∧ (r1 = false → (Q false (u2, fi_p))))))
def wp_Fi_settle_J380 (fi_z : Int32) (fi_e : Int32) (fi_n : Bool) (y0 : Int32) (y1 : Int32) (fi_w : Int64) (fi_p : Int32) (Q : Bool → (Int64 × Int32) → Prop) : Prop := (¬ fi_w = 0 → ((0 ≤ (y1 - y0) → (∃ n830, wp_Fi_settle_L830 n830 fi_z fi_e fi_n (y1 - y0) 0 fi_w 0 Q)) ∧ (¬ 0 ≤ (y1 - y0) → ((18 < (-(y1 - y0)) → (Q false (fi_w, -(y1 - y0)))) ∧ (¬ 18 < (-(y1 - y0)) → (Q true (fi_w, -(y1 - y0)))))))) ∧ (fi_w = 0 → (Q true (fi_w, 0)))
def wp_Fi_settle_J280 (fi_z : Int32) (fi_e : Int32) (fi_n : Bool) (x1 : Bool) (y0 : Int32) (y1 : Int32) (fi_w : Int64) (fi_p : Int32) (Q : Bool → (Int64 × Int32) → Prop) : Prop := (x1 = false → (wp_Fi_settle_J380 fi_z fi_e fi_n 0 (y1 + y0) fi_w fi_p Q)) ∧ (x1 = true → (wp_Fi_settle_J380 fi_z fi_e fi_n 2 (y1 + y0) fi_w fi_p Q))
def wp_Fi_settle (fi_w : Int64) (fi_p : Int32) (fi_z : Int32) (fi_e : Int32) (fi_n : Bool) (hu : Bool) (Q : Bool → (Int64 × Int32) → Prop) : Prop := (fi_n = false → (wp_Fi_settle_J280 fi_z fi_e fi_n hu fi_e (fi_z - fi_p) fi_w fi_p Q)) ∧ (fi_n = true → (wp_Fi_settle_J280 fi_z fi_e fi_n hu (-fi_e) (fi_z - fi_p) fi_w fi_p Q))
set_option maxHeartbeats 4000000 in
set_option maxRecDepth 100000 in
theorem c_Fi_settle (l : Launch) (D : va_G) (cA : ClassId) (fi sy sc : Nat) (fi_w : Int64) (fi_p : Int32) (fi_t : Int32) (fi_z : Int32) (fi_e : Int32) (fi_n : Bool) (hu : Bool) (Q : Bool → (Int64 × Int32) → Prop) (hw : wp_Fi_settle fi_w fi_p fi_z fi_e fi_n hu Q) : ct_M vwCl l D [(cA, .int)] y_Fi_settle w_Fi_settle { frames := 1, cells := 0, slots := 0, locals := 21 } [.ref fi, .int (bI hu)] (wd_Fi cA fi sy sc fi_w fi_p fi_t fi_z fi_e fi_n) (ct_qz vwCl D [(cA, .int)] Q (fun u => wd_Fi cA fi sy sc u.1 u.2 fi_t fi_z fi_e fi_n)) := by
  refine ct_enter (cc := b_Fi_settle) (maxL := 4) (ret := (some .boolean)) (by decide) rfl (Nat.le_of_ble_eq_true rfl) ?_
  intro p e s m args below meth c A ls hx hb hr hlk hml hts hown hA hS hP hK hN hD hl
  have hl : lv_has ls 4 [(0, .ref fi), (1, .int (bI hu))] := hl
  have htb : ∀ w ∈ tbl, w.before args s = true := fun w h => hts w (List.mem_cons_of_mem _ h)
  have hown : s.vm.findClass "DecimalPatterns$Finder" = some m.cls := hown
  unfold wp_Fi_settle at hw
  have hL830 : ∀ (n830 : Nat) (x2 : Int32) (x3 : Int32) (fi_w : Int64) (fi_p : Int32) (H : Heap) (locs : List Loc) (ls : Array Slot), lv_has ls 4 [(0, .ref fi), (2, .int x2), (3, .int x3)] → va_P D vwCl (wd_Fi cA fi sy sc fi_w fi_p fi_t fi_z fi_e fi_n) H → va_D A (wd_Fi cA fi sy sc fi_w fi_p fi_t fi_z fi_e fi_n) → va_S A s.heap H locs → wp_Fi_settle_L830 n830 fi_z fi_e fi_n x2 x3 fi_w fi_p Q → W p l e { frames := 1, cells := 0, slots := 0, locals := 21 } s m args below meth c H locs 0 0 (MQ below (ct_qz vwCl D [(cA, .int)] Q (fun u => wd_Fi cA fi sy sc u.1 u.2 fi_t fi_z fi_e fi_n) A) args s 0 0 A) (F0 m 83 ls []) := by
    intro n830
    induction n830 with
    | zero => intro x2 x3 fi_w fi_p H locs ls hl hP hD hS hw; exact hw.elim
    | succ n830 ih830 =>
      intro x2 x3 fi_w fi_p H locs ls hl hP hD hS hw
      unfold wp_Fi_settle_L830 at hw
      refine lv_iload_n hx hb d_Fi_settle_83 rfl (lv_at hl 2 rfl) ?_
      refine lv_iload_n hx hb d_Fi_settle_84 rfl (lv_at hl 1 rfl) ?_
      refine lv_icmp_ge (tgt := 104) hx hb d_Fi_settle_85 rfl (fun hc => ?_) (fun hc => ?_)
      · have hw := hw.1 hc
        refine lv_iconst (v := 1) hx hb d_Fi_settle_104 (by decide) ?_
        exact ct_zret true hx hb hr hlk hK hS (fi_w, fi_p) hw hP hD d_Fi_settle_105
      · have hw := hw.2 hc
        refine lv_aload_n hx hb d_Fi_settle_88 rfl (lv_at hl 0 rfl) ?_
        refine lv_iconst (v := 0) hx hb d_Fi_settle_89 (by decide) ?_
        refine ct_callz (wn := fun u2 => wd_Fi cA fi sy sc u2 fi_p fi_t fi_z fi_e fi_n) (va_runV (As := [.int 0]) (rest := []) ⟨hx, hb, hml, hown, htb⟩ (c_Fi_append l D cA fi sy sc fi_w fi_p fi_t fi_z fi_e fi_n 0 _ hw _) (ct_cwV 1 htb tw661 rfl rfl tw78 tw658 tw660 tw37 hd_Fi_append ⟨by decide, by decide⟩) (ct_preV hP hD hK hN [0] rfl (by decide) 0 rfl rfl _) rfl rfl hl.1 rfl (lv_room (Nat.le_of_ble_eq_true rfl)) d_Fi_settle_90 ⟨Nat.zero_le _, Nat.zero_le _⟩) hP hD hS hA [0] [] [0] rfl rfl (by decide) (by decide) (fun _ => rfl) (by decide) (fun r1 u2 H locs hw hP hD hS => ?_)
        have hP : va_P D vwCl (wd_Fi cA fi sy sc u2 fi_p fi_t fi_z fi_e fi_n) H := hP
        have hD : va_D A (wd_Fi cA fi sy sc u2 fi_p fi_t fi_z fi_e fi_n) := hD
        refine lv_if_ne (tgt := 98) hx hb d_Fi_settle_93 rfl (fun hc => ?_) (fun hc => ?_)
        · have hw := hw.1 ((bI_n0 _).mp hc)
          refine lv_iinc (k := 2) (v := x3 + 1) (lv' := [(3, .int (x3 + 1)), (0, .ref fi), (2, .int x2)]) hx hb d_Fi_settle_98 hl rfl (by rfl) (by decide) rfl (fun ls hl => ?_)
          refine lv_goto (tgt := 83) hx hb d_Fi_settle_101 rfl ?_
          exact ih830 x2 (x3 + 1) u2 fi_p _ _ _ (lv_sub hl [1, 2, 0] rfl) hP hD hS hw
        · have hw := hw.2 ((bI_0 _).mp hc)
          refine lv_iconst (v := 0) hx hb d_Fi_settle_96 (by decide) ?_
          exact ct_zret false hx hb hr hlk hK hS (u2, fi_p) hw hP hD d_Fi_settle_97
  have hJ380 : ∀ (y0 : Int32) (y1 : Int32) (fi_w : Int64) (fi_p : Int32) (H : Heap) (locs : List Loc) (ls : Array Slot), lv_has ls 4 [(0, .ref fi)] → va_P D vwCl (wd_Fi cA fi sy sc fi_w fi_p fi_t fi_z fi_e fi_n) H → va_D A (wd_Fi cA fi sy sc fi_w fi_p fi_t fi_z fi_e fi_n) → va_S A s.heap H locs → wp_Fi_settle_J380 fi_z fi_e fi_n y0 y1 fi_w fi_p Q → W p l e { frames := 1, cells := 0, slots := 0, locals := 21 } s m args below meth c H locs 0 0 (MQ below (ct_qz vwCl D [(cA, .int)] Q (fun u => wd_Fi cA fi sy sc u.1 u.2 fi_t fi_z fi_e fi_n) A) args s 0 0 A) (F0 m 38 ls [.int y0, .int y1]) := by
    intro y0 y1 fi_w fi_p H locs ls hl hP hD hS hw
    unfold wp_Fi_settle_J380 at hw
    refine lv_isub hx hb d_Fi_settle_38 ?_
    refine lv_istore_n (lv' := [(2, .int (y1 - y0)), (0, .ref fi)]) hx hb d_Fi_settle_39 rfl hl (by decide) rfl (fun ls hl => ?_)
    refine lv_aload_n hx hb d_Fi_settle_40 rfl (lv_at hl 1 rfl) ?_
    refine lv_iconst (v := 0) hx hb d_Fi_settle_41 (by decide) ?_
    refine va_put (ci := 1) (v := .int 0) (ty := .int) (C := R_Fi) (T := F_Fi) (N := 8) hx hb htb in_Fi t_Fi t_Fi_ok n_Fi hown hK hP hD hS 0 rfl rfl 3 (by decide) (htb _ tw167) (fun _ h9 => h9) rfl (by decide +kernel) rfl rfl (Nat.le_of_ble_eq_true rfl) d_Fi_settle_42 (fun H locs hP hD hS => ?_)
    have hP : va_P D vwCl (wd_Fi cA fi sy sc fi_w 0 fi_t fi_z fi_e fi_n) H := hP
    have hD : va_D A (wd_Fi cA fi sy sc fi_w 0 fi_t fi_z fi_e fi_n) := hD
    refine lv_aload_n hx hb d_Fi_settle_45 rfl (lv_at hl 1 rfl) ?_
    refine va_get (ci := 1) (C := R_Fi) (T := F_Fi) (N := 8) hx hb htb in_Fi hown hK hP 0 rfl rfl 2 (by decide) (htb _ tw165) (fun _ h9 => h9) rfl d_Fi_settle_46 ?_
    refine lv_lconst (v := 0) hx hb d_Fi_settle_49 (by decide) ?_
    refine W.lcmp hx hb d_Fi_settle_50 ?_
    refine lv_if_ne (tgt := 56) hx hb d_Fi_settle_51 rfl (fun hc => ?_) (fun hc => ?_)
    · have hw := hw.1 (fun h => hc ((lg_cmp_eq _ _).mpr h))
      refine lv_iload_n hx hb d_Fi_settle_56 rfl (lv_at hl 0 rfl) ?_
      refine lv_if_ge (tgt := 81) hx hb d_Fi_settle_57 rfl (fun hc => ?_) (fun hc => ?_)
      · have hw := hw.1 hc
        refine lv_iconst (v := 0) hx hb d_Fi_settle_81 (by decide) ?_
        refine lv_istore_n (lv' := [(3, .int 0), (2, .int (y1 - y0)), (0, .ref fi)]) hx hb d_Fi_settle_82 rfl hl (by decide) rfl (fun ls hl => ?_)
        obtain ⟨n830, hw⟩ := hw
        exact hL830 n830 (y1 - y0) 0 fi_w 0 _ _ _ (lv_sub hl [2, 1, 0] rfl) hP hD hS hw
      · have hw := hw.2 hc
        refine lv_aload_n hx hb d_Fi_settle_60 rfl (lv_at hl 1 rfl) ?_
        refine lv_iload_n hx hb d_Fi_settle_61 rfl (lv_at hl 0 rfl) ?_
        refine lv_ineg hx hb d_Fi_settle_62 ?_
        refine va_put (ci := 1) (v := .int (-(y1 - y0))) (ty := .int) (C := R_Fi) (T := F_Fi) (N := 8) hx hb htb in_Fi t_Fi t_Fi_ok n_Fi hown hK hP hD hS 0 rfl rfl 3 (by decide) (htb _ tw167) (fun _ h9 => h9) rfl (by decide +kernel) rfl rfl (Nat.le_of_ble_eq_true rfl) d_Fi_settle_63 (fun H locs hP hD hS => ?_)
        have hP : va_P D vwCl (wd_Fi cA fi sy sc fi_w (-(y1 - y0)) fi_t fi_z fi_e fi_n) H := hP
        have hD : va_D A (wd_Fi cA fi sy sc fi_w (-(y1 - y0)) fi_t fi_z fi_e fi_n) := hD
        refine lv_aload_n hx hb d_Fi_settle_66 rfl (lv_at hl 1 rfl) ?_
        refine va_get (ci := 1) (C := R_Fi) (T := F_Fi) (N := 8) hx hb htb in_Fi hown hK hP 0 rfl rfl 3 (by decide) (htb _ tw167) (fun _ h9 => h9) rfl d_Fi_settle_67 ?_
        refine lv_bipush (v := 18) hx hb d_Fi_settle_70 (by decide) ?_
        refine lv_icmp_gt (tgt := 79) hx hb d_Fi_settle_72 rfl (fun hc => ?_) (fun hc => ?_)
        · have hw := hw.1 hc
          refine lv_iconst (v := 0) hx hb d_Fi_settle_79 (by decide) ?_
          exact ct_zret false hx hb hr hlk hK hS (fi_w, -(y1 - y0)) hw hP hD d_Fi_settle_80
        · have hw := hw.2 hc
          refine lv_iconst (v := 1) hx hb d_Fi_settle_75 (by decide) ?_
          refine lv_goto (tgt := 80) hx hb d_Fi_settle_76 rfl ?_
          exact ct_zret true hx hb hr hlk hK hS (fi_w, -(y1 - y0)) hw hP hD d_Fi_settle_80
    · have hw := hw.2 ((lg_cmp_eq _ _).mp hc)
      refine lv_iconst (v := 1) hx hb d_Fi_settle_54 (by decide) ?_
      exact ct_zret true hx hb hr hlk hK hS (fi_w, 0) hw hP hD d_Fi_settle_55
  have hJ280 : ∀ (x1 : Bool) (y0 : Int32) (y1 : Int32) (fi_w : Int64) (fi_p : Int32) (H : Heap) (locs : List Loc) (ls : Array Slot), lv_has ls 4 [(0, .ref fi), (1, .int (bI x1))] → va_P D vwCl (wd_Fi cA fi sy sc fi_w fi_p fi_t fi_z fi_e fi_n) H → va_D A (wd_Fi cA fi sy sc fi_w fi_p fi_t fi_z fi_e fi_n) → va_S A s.heap H locs → wp_Fi_settle_J280 fi_z fi_e fi_n x1 y0 y1 fi_w fi_p Q → W p l e { frames := 1, cells := 0, slots := 0, locals := 21 } s m args below meth c H locs 0 0 (MQ below (ct_qz vwCl D [(cA, .int)] Q (fun u => wd_Fi cA fi sy sc u.1 u.2 fi_t fi_z fi_e fi_n) A) args s 0 0 A) (F0 m 28 ls [.int y0, .int y1]) := by
    intro x1 y0 y1 fi_w fi_p H locs ls hl hP hD hS hw
    unfold wp_Fi_settle_J280 at hw
    refine lv_iadd hx hb d_Fi_settle_28 ?_
    refine lv_iload_n hx hb d_Fi_settle_29 rfl (lv_at hl 1 rfl) ?_
    refine lv_if_eq (tgt := 37) hx hb d_Fi_settle_30 rfl (fun hc => ?_) (fun hc => ?_)
    · have hw := hw.1 ((bI_0 _).mp hc)
      refine lv_iconst (v := 0) hx hb d_Fi_settle_37 (by decide) ?_
      exact hJ380 0 (y1 + y0) fi_w fi_p _ _ _ (lv_sub hl [0] rfl) hP hD hS hw
    · have hw := hw.2 ((bI_n0 _).mp hc)
      refine lv_iconst (v := 2) hx hb d_Fi_settle_33 (by decide) ?_
      refine lv_goto (tgt := 38) hx hb d_Fi_settle_34 rfl ?_
      exact hJ380 2 (y1 + y0) fi_w fi_p _ _ _ (lv_sub hl [0] rfl) hP hD hS hw
  refine lv_aload_n hx hb d_Fi_settle_0 rfl (lv_at hl 0 rfl) ?_
  refine va_get (ci := 1) (C := R_Fi) (T := F_Fi) (N := 8) hx hb htb in_Fi hown hK hP 0 rfl rfl 5 (by decide) (htb _ tw170) (fun _ h9 => h9) rfl d_Fi_settle_1 ?_
  refine lv_aload_n hx hb d_Fi_settle_4 rfl (lv_at hl 0 rfl) ?_
  refine va_get (ci := 1) (C := R_Fi) (T := F_Fi) (N := 8) hx hb htb in_Fi hown hK hP 0 rfl rfl 3 (by decide) (htb _ tw167) (fun _ h9 => h9) rfl d_Fi_settle_5 ?_
  refine lv_isub hx hb d_Fi_settle_8 ?_
  refine lv_aload_n hx hb d_Fi_settle_9 rfl (lv_at hl 0 rfl) ?_
  refine va_get (ci := 1) (C := R_Fi) (T := F_Fi) (N := 8) hx hb htb in_Fi hown hK hP 0 rfl rfl 7 (by decide) (htb _ tw172) (fun _ h9 => h9) rfl d_Fi_settle_10 ?_
  refine lv_if_eq (tgt := 24) hx hb d_Fi_settle_13 rfl (fun hc => ?_) (fun hc => ?_)
  · have hw := hw.1 ((bI_0 _).mp hc)
    refine lv_aload_n hx hb d_Fi_settle_24 rfl (lv_at hl 0 rfl) ?_
    refine va_get (ci := 1) (C := R_Fi) (T := F_Fi) (N := 8) hx hb htb in_Fi hown hK hP 0 rfl rfl 6 (by decide) (htb _ tw171) (fun _ h9 => h9) rfl d_Fi_settle_25 ?_
    exact hJ280 hu fi_e (fi_z - fi_p) fi_w fi_p _ _ _ (lv_sub hl [0, 1] rfl) hP hD hS hw
  · have hw := hw.2 ((bI_n0 _).mp hc)
    refine lv_aload_n hx hb d_Fi_settle_16 rfl (lv_at hl 0 rfl) ?_
    refine va_get (ci := 1) (C := R_Fi) (T := F_Fi) (N := 8) hx hb htb in_Fi hown hK hP 0 rfl rfl 6 (by decide) (htb _ tw171) (fun _ h9 => h9) rfl d_Fi_settle_17 ?_
    refine lv_ineg hx hb d_Fi_settle_20 ?_
    refine lv_goto (tgt := 28) hx hb d_Fi_settle_21 rfl ?_
    exact hJ280 hu (-fi_e) (fi_z - fi_p) fi_w fi_p _ _ _ (lv_sub hl [0, 1] rfl) hP hD hS hw
/-! DecimalPatterns$Finder.gather(LDecimalPatterns$Pattern;LDecimalPatterns$Row;Z)Z -/
def wp_Fi_gather_L540 : Nat → (Nat → Int32) → Bool → Int32 → Int32 → Int32 → Int32 → Int32 → (Nat → Int32) → Int32 → Int32 → Int64 → Int32 → Int32 → Int32 → Int32 → Bool → (Bool → (Int64 × Int32 × Int32 × Int32 × Int32 × Bool) → Prop) → Prop
  | 0, _, _, _, _, _, _, _, _, _, _, _, _, _, _, _, _, _ => False
  | n540 + 1, sy_f, pt_h, pl_p_n, pl_s_n, mi_p_n, mi_s_n, tx_n, tx_f, x6, x7, fi_w, fi_p, fi_t, fi_z, fi_e, fi_n, Q => (x6 ≤ x7 → (Q true (fi_w, fi_p, fi_t, fi_z, fi_e, fi_n))) ∧ (¬ x6 ≤ x7 → (wp_Row_code 256 tx_n tx_f x7 (fun r9 u10 => wp_Fi_take fi_w fi_p fi_t fi_z fi_e fi_n sy_f r9 (fun r11 u12 => (r11 = true → (wp_Fi_gather_L540 n540 sy_f pt_h pl_p_n pl_s_n mi_p_n mi_s_n tx_n tx_f x6 (x7 + 1) u12.1 u12.2.1 u12.2.2.1 u12.2.2.2.1 u12.2.2.2.2.1 u12.2.2.2.2.2 Q)) ∧ (r11 = false → (Q false (u12.1, u12.2.1, u12.2.2.1, u12.2.2.2.1, u12.2.2.2.2.1, u12.2.2.2.2.2)))))))
def wp_Fi_gather_J321 (sy_f : Nat → Int32) (pt_h : Bool) (pl_p_n : Int32) (pl_s_n : Int32) (mi_p_n : Int32) (mi_s_n : Int32) (tx_n : Int32) (tx_f : Nat → Int32) (y0 : Bool) (y1 : Int32) (fi_w : Int64) (fi_p : Int32) (fi_t : Int32) (fi_z : Int32) (fi_e : Int32) (fi_n : Bool) (Q : Bool → (Int64 × Int32 × Int32 × Int32 × Int32 × Bool) → Prop) : Prop := ∃ n540, wp_Fi_gather_L540 n540 sy_f pt_h pl_p_n pl_s_n mi_p_n mi_s_n tx_n tx_f (tx_n - pl_s_n) (y1 + (bI y0)) fi_w fi_p fi_t fi_z fi_e fi_n Q
def wp_Fi_gather_J320 (sy_f : Nat → Int32) (pt_h : Bool) (pl_p_n : Int32) (pl_s_n : Int32) (mi_p_n : Int32) (mi_s_n : Int32) (tx_n : Int32) (tx_f : Nat → Int32) (y0 : Bool) (y1 : Int32) (fi_w : Int64) (fi_p : Int32) (fi_t : Int32) (fi_z : Int32) (fi_e : Int32) (fi_n : Bool) (Q : Bool → (Int64 × Int32 × Int32 × Int32 × Int32 × Bool) → Prop) : Prop := ∃ n540, wp_Fi_gather_L540 n540 sy_f pt_h pl_p_n pl_s_n mi_p_n mi_s_n tx_n tx_f (tx_n - mi_s_n) (y1 + (bI y0)) fi_w fi_p fi_t fi_z fi_e fi_n Q
def wp_Fi_gather (fi_w : Int64) (fi_p : Int32) (fi_t : Int32) (fi_z : Int32) (fi_e : Int32) (fi_n : Bool) (sy_f : Nat → Int32) (pt_h : Bool) (pl_p_n : Int32) (pl_s_n : Int32) (mi_p_n : Int32) (mi_s_n : Int32) (tx_n : Int32) (tx_f : Nat → Int32) (ng : Bool) (Q : Bool → (Int64 × Int32 × Int32 × Int32 × Int32 × Bool) → Prop) : Prop := wp_Fi_begin fi_w fi_p fi_t fi_z fi_e fi_n (fun u2 => (ng = true ∧ pt_h = true → (wp_Pat_needsMinus pt_h ng (fun r5 u6 => (r5 = false → (wp_Fi_gather_J320 sy_f pt_h pl_p_n pl_s_n mi_p_n mi_s_n tx_n tx_f false mi_p_n u2.1 u2.2.1 u2.2.2.1 u2.2.2.2.1 u2.2.2.2.2.1 u2.2.2.2.2.2 Q)) ∧ (r5 = true → (wp_Fi_gather_J320 sy_f pt_h pl_p_n pl_s_n mi_p_n mi_s_n tx_n tx_f true mi_p_n u2.1 u2.2.1 u2.2.2.1 u2.2.2.2.1 u2.2.2.2.2.1 u2.2.2.2.2.2 Q))))) ∧ (¬ (ng = true ∧ pt_h = true) → (wp_Pat_needsMinus pt_h ng (fun r7 u8 => (r7 = false → (wp_Fi_gather_J321 sy_f pt_h pl_p_n pl_s_n mi_p_n mi_s_n tx_n tx_f false pl_p_n u2.1 u2.2.1 u2.2.2.1 u2.2.2.2.1 u2.2.2.2.2.1 u2.2.2.2.2.2 Q)) ∧ (r7 = true → (wp_Fi_gather_J321 sy_f pt_h pl_p_n pl_s_n mi_p_n mi_s_n tx_n tx_f true pl_p_n u2.1 u2.2.1 u2.2.2.1 u2.2.2.2.1 u2.2.2.2.2.1 u2.2.2.2.2.2 Q))))))
set_option maxHeartbeats 4000000 in
set_option maxRecDepth 100000 in
theorem c_Fi_gather (l : Launch) (D : va_G) (cA : ClassId) (fi sy sy_a pt pl pl_p pl_p_a pl_s pl_s_a mi mi_p mi_p_a mi_s mi_s_a tx tx_a sc : Nat) (fi_w : Int64) (fi_p : Int32) (fi_t : Int32) (fi_z : Int32) (fi_e : Int32) (fi_n : Bool) (sy_l : Int32) (sy_f : Nat → Int32) (pt_h : Bool) (pl_pm : Bool) (pl_h : Int32) (pl_z : Int32) (pl_c : Int32) (pl_b : Int32) (pl_t : Int32) (pl_f : Int32) (pl_q : Int32) (pl_e : Int32) (pl_x : Bool) (pl_p_n : Int32) (pl_p_f : Nat → Int32) (pl_s_n : Int32) (pl_s_f : Nat → Int32) (mi_pm : Bool) (mi_h : Int32) (mi_z : Int32) (mi_c : Int32) (mi_b : Int32) (mi_t : Int32) (mi_f : Int32) (mi_q : Int32) (mi_e : Int32) (mi_x : Bool) (mi_p_n : Int32) (mi_p_f : Nat → Int32) (mi_s_n : Int32) (mi_s_f : Nat → Int32) (tx_n : Int32) (tx_f : Nat → Int32) (ng : Bool) (Q : Bool → (Int64 × Int32 × Int32 × Int32 × Int32 × Bool) → Prop) (hw : wp_Fi_gather fi_w fi_p fi_t fi_z fi_e fi_n sy_f pt_h pl_p_n pl_s_n mi_p_n mi_s_n tx_n tx_f ng Q) : ct_M vwCl l D [(cA, .int)] y_Fi_gather w_Fi_gather { frames := 4, cells := 0, slots := 0, locals := 86 } [.ref fi, .ref pt, .ref tx, .int (bI ng)] (wd_Gath cA fi sy sy_a pt pl pl_p pl_p_a pl_s pl_s_a mi mi_p mi_p_a mi_s mi_s_a tx tx_a sc fi_w fi_p fi_t fi_z fi_e fi_n sy_l sy_f pt_h pl_pm pl_h pl_z pl_c pl_b pl_t pl_f pl_q pl_e pl_x pl_p_n pl_p_f pl_s_n pl_s_f mi_pm mi_h mi_z mi_c mi_b mi_t mi_f mi_q mi_e mi_x mi_p_n mi_p_f mi_s_n mi_s_f tx_n tx_f) (ct_qz vwCl D [(cA, .int)] Q (fun u => wd_Gath cA fi sy sy_a pt pl pl_p pl_p_a pl_s pl_s_a mi mi_p mi_p_a mi_s mi_s_a tx tx_a sc u.1 u.2.1 u.2.2.1 u.2.2.2.1 u.2.2.2.2.1 u.2.2.2.2.2 sy_l sy_f pt_h pl_pm pl_h pl_z pl_c pl_b pl_t pl_f pl_q pl_e pl_x pl_p_n pl_p_f pl_s_n pl_s_f mi_pm mi_h mi_z mi_c mi_b mi_t mi_f mi_q mi_e mi_x mi_p_n mi_p_f mi_s_n mi_s_f tx_n tx_f)) := by
  refine ct_enter (cc := b_Fi_gather) (maxL := 8) (ret := (some .boolean)) (by decide) rfl (Nat.le_of_ble_eq_true rfl) ?_
  intro p e s m args below meth c A ls hx hb hr hlk hml hts hown hA hS hP hK hN hD hl
  have hl : lv_has ls 8 [(0, .ref fi), (1, .ref pt), (2, .ref tx), (3, .int (bI ng))] := hl
  have htb : ∀ w ∈ tbl, w.before args s = true := fun w h => hts w (List.mem_cons_of_mem _ h)
  have hown : s.vm.findClass "DecimalPatterns$Finder" = some m.cls := hown
  unfold wp_Fi_gather at hw
  have hL540 : ∀ (n540 : Nat) (x6 : Int32) (x7 : Int32) (fi_w : Int64) (fi_p : Int32) (fi_t : Int32) (fi_z : Int32) (fi_e : Int32) (fi_n : Bool) (H : Heap) (locs : List Loc) (ls : Array Slot), lv_has ls 8 [(0, .ref fi), (2, .ref tx), (6, .int x6), (7, .int x7)] → va_P D vwCl (wd_Gath cA fi sy sy_a pt pl pl_p pl_p_a pl_s pl_s_a mi mi_p mi_p_a mi_s mi_s_a tx tx_a sc fi_w fi_p fi_t fi_z fi_e fi_n sy_l sy_f pt_h pl_pm pl_h pl_z pl_c pl_b pl_t pl_f pl_q pl_e pl_x pl_p_n pl_p_f pl_s_n pl_s_f mi_pm mi_h mi_z mi_c mi_b mi_t mi_f mi_q mi_e mi_x mi_p_n mi_p_f mi_s_n mi_s_f tx_n tx_f) H → va_D A (wd_Gath cA fi sy sy_a pt pl pl_p pl_p_a pl_s pl_s_a mi mi_p mi_p_a mi_s mi_s_a tx tx_a sc fi_w fi_p fi_t fi_z fi_e fi_n sy_l sy_f pt_h pl_pm pl_h pl_z pl_c pl_b pl_t pl_f pl_q pl_e pl_x pl_p_n pl_p_f pl_s_n pl_s_f mi_pm mi_h mi_z mi_c mi_b mi_t mi_f mi_q mi_e mi_x mi_p_n mi_p_f mi_s_n mi_s_f tx_n tx_f) → va_S A s.heap H locs → wp_Fi_gather_L540 n540 sy_f pt_h pl_p_n pl_s_n mi_p_n mi_s_n tx_n tx_f x6 x7 fi_w fi_p fi_t fi_z fi_e fi_n Q → W p l e { frames := 4, cells := 0, slots := 0, locals := 86 } s m args below meth c H locs 0 0 (MQ below (ct_qz vwCl D [(cA, .int)] Q (fun u => wd_Gath cA fi sy sy_a pt pl pl_p pl_p_a pl_s pl_s_a mi mi_p mi_p_a mi_s mi_s_a tx tx_a sc u.1 u.2.1 u.2.2.1 u.2.2.2.1 u.2.2.2.2.1 u.2.2.2.2.2 sy_l sy_f pt_h pl_pm pl_h pl_z pl_c pl_b pl_t pl_f pl_q pl_e pl_x pl_p_n pl_p_f pl_s_n pl_s_f mi_pm mi_h mi_z mi_c mi_b mi_t mi_f mi_q mi_e mi_x mi_p_n mi_p_f mi_s_n mi_s_f tx_n tx_f) A) args s 0 0 A) (F0 m 54 ls []) := by
    intro n540
    induction n540 with
    | zero => intro x6 x7 fi_w fi_p fi_t fi_z fi_e fi_n H locs ls hl hP hD hS hw; exact hw.elim
    | succ n540 ih540 =>
      intro x6 x7 fi_w fi_p fi_t fi_z fi_e fi_n H locs ls hl hP hD hS hw
      unfold wp_Fi_gather_L540 at hw
      refine lv_iload hx hb d_Fi_gather_54 (lv_at hl 3 rfl) ?_
      refine lv_iload hx hb d_Fi_gather_56 (lv_at hl 2 rfl) ?_
      refine lv_icmp_ge (tgt := 82) hx hb d_Fi_gather_58 rfl (fun hc => ?_) (fun hc => ?_)
      · have hw := hw.1 hc
        refine lv_iconst (v := 1) hx hb d_Fi_gather_82 (by decide) ?_
        exact ct_zret true hx hb hr hlk hK hS (fi_w, fi_p, fi_t, fi_z, fi_e, fi_n) hw hP hD d_Fi_gather_83
      · have hw := hw.2 hc
        refine lv_aload_n hx hb d_Fi_gather_61 rfl (lv_at hl 0 rfl) ?_
        refine lv_aload_n hx hb d_Fi_gather_62 rfl (lv_at hl 1 rfl) ?_
        refine lv_iload hx hb d_Fi_gather_63 (lv_at hl 3 rfl) ?_
        refine ct_calli (wn := fun _ => wd_Gath cA fi sy sy_a pt pl pl_p pl_p_a pl_s pl_s_a mi mi_p mi_p_a mi_s mi_s_a tx tx_a sc fi_w fi_p fi_t fi_z fi_e fi_n sy_l sy_f pt_h pl_pm pl_h pl_z pl_c pl_b pl_t pl_f pl_q pl_e pl_x pl_p_n pl_p_f pl_s_n pl_s_f mi_pm mi_h mi_z mi_c mi_b mi_t mi_f mi_q mi_e mi_x mi_p_n mi_p_f mi_s_n mi_s_f tx_n tx_f) (va_runV (As := [.int x7]) (rest := [.ref fi]) ⟨hx, hb, hml, hown, htb⟩ (c_Row_code l D cA tx tx_a 256 tx_n tx_f x7 _ hw _) (ct_cwV 1 htb tw379 rfl rfl tw73 tw644 tw377 tw378 hd_Row_code ⟨by decide, by decide⟩) (ct_preV hP hD hK hN [14, 15] rfl (by decide) 14 rfl rfl _) rfl rfl hl.1 rfl (lv_room (Nat.le_of_ble_eq_true rfl)) d_Fi_gather_65 ⟨Nat.zero_le _, Nat.zero_le _⟩) hP hD hS hA [14, 15] [0, 1, 2, 3, 4, 5, 6, 7, 8, 9, 10, 11, 12, 13] [0, 1, 2, 3, 4, 5, 6, 7, 8, 9, 10, 11, 12, 13, 14, 15] rfl rfl (by decide) (by decide) (fun _ => rfl) (by decide) (fun r9 u10 H locs hw hP hD hS => ?_)
        have hP : va_P D vwCl (wd_Gath cA fi sy sy_a pt pl pl_p pl_p_a pl_s pl_s_a mi mi_p mi_p_a mi_s mi_s_a tx tx_a sc fi_w fi_p fi_t fi_z fi_e fi_n sy_l sy_f pt_h pl_pm pl_h pl_z pl_c pl_b pl_t pl_f pl_q pl_e pl_x pl_p_n pl_p_f pl_s_n pl_s_f mi_pm mi_h mi_z mi_c mi_b mi_t mi_f mi_q mi_e mi_x mi_p_n mi_p_f mi_s_n mi_s_f tx_n tx_f) H := hP
        have hD : va_D A (wd_Gath cA fi sy sy_a pt pl pl_p pl_p_a pl_s pl_s_a mi mi_p mi_p_a mi_s mi_s_a tx tx_a sc fi_w fi_p fi_t fi_z fi_e fi_n sy_l sy_f pt_h pl_pm pl_h pl_z pl_c pl_b pl_t pl_f pl_q pl_e pl_x pl_p_n pl_p_f pl_s_n pl_s_f mi_pm mi_h mi_z mi_c mi_b mi_t mi_f mi_q mi_e mi_x mi_p_n mi_p_f mi_s_n mi_s_f tx_n tx_f) := hD
        refine ct_callz (wn := fun u12 => wd_Gath cA fi sy sy_a pt pl pl_p pl_p_a pl_s pl_s_a mi mi_p mi_p_a mi_s mi_s_a tx tx_a sc u12.1 u12.2.1 u12.2.2.1 u12.2.2.2.1 u12.2.2.2.2.1 u12.2.2.2.2.2 sy_l sy_f pt_h pl_pm pl_h pl_z pl_c pl_b pl_t pl_f pl_q pl_e pl_x pl_p_n pl_p_f pl_s_n pl_s_f mi_pm mi_h mi_z mi_c mi_b mi_t mi_f mi_q mi_e mi_x mi_p_n mi_p_f mi_s_n mi_s_f tx_n tx_f) (va_runV (As := [.int r9]) (rest := []) ⟨hx, hb, hml, hown, htb⟩ (c_Fi_take l D cA fi sy sy_a sc fi_w fi_p fi_t fi_z fi_e fi_n sy_l sy_f r9 _ hw _) (ct_cwV 1 htb tw648 rfl rfl tw78 tw645 tw647 tw34 hd_Fi_take ⟨by decide, by decide⟩) (ct_preV hP hD hK hN [0, 1, 2] rfl (by decide) 0 rfl rfl _) rfl rfl hl.1 rfl (lv_room (Nat.le_of_ble_eq_true rfl)) d_Fi_gather_68 ⟨Nat.zero_le _, Nat.zero_le _⟩) hP hD hS hA [0, 1, 2] [3, 4, 5, 6, 7, 8, 9, 10, 11, 12, 13, 14, 15] [13, 14, 15, 0, 1, 2, 3, 4, 5, 6, 7, 8, 9, 10, 11, 12] rfl rfl (by decide) (by decide) (fun _ => rfl) (by decide) (fun r11 u12 H locs hw hP hD hS => ?_)
        have hP : va_P D vwCl (wd_Gath cA fi sy sy_a pt pl pl_p pl_p_a pl_s pl_s_a mi mi_p mi_p_a mi_s mi_s_a tx tx_a sc u12.1 u12.2.1 u12.2.2.1 u12.2.2.2.1 u12.2.2.2.2.1 u12.2.2.2.2.2 sy_l sy_f pt_h pl_pm pl_h pl_z pl_c pl_b pl_t pl_f pl_q pl_e pl_x pl_p_n pl_p_f pl_s_n pl_s_f mi_pm mi_h mi_z mi_c mi_b mi_t mi_f mi_q mi_e mi_x mi_p_n mi_p_f mi_s_n mi_s_f tx_n tx_f) H := hP
        have hD : va_D A (wd_Gath cA fi sy sy_a pt pl pl_p pl_p_a pl_s pl_s_a mi mi_p mi_p_a mi_s mi_s_a tx tx_a sc u12.1 u12.2.1 u12.2.2.1 u12.2.2.2.1 u12.2.2.2.2.1 u12.2.2.2.2.2 sy_l sy_f pt_h pl_pm pl_h pl_z pl_c pl_b pl_t pl_f pl_q pl_e pl_x pl_p_n pl_p_f pl_s_n pl_s_f mi_pm mi_h mi_z mi_c mi_b mi_t mi_f mi_q mi_e mi_x mi_p_n mi_p_f mi_s_n mi_s_f tx_n tx_f) := hD
        refine lv_if_ne (tgt := 76) hx hb d_Fi_gather_71 rfl (fun hc => ?_) (fun hc => ?_)
        · have hw := hw.1 ((bI_n0 _).mp hc)
          refine lv_iinc (k := 3) (v := x7 + 1) (lv' := [(7, .int (x7 + 1)), (0, .ref fi), (2, .ref tx), (6, .int x6)]) hx hb d_Fi_gather_76 hl rfl (by rfl) (by decide) rfl (fun ls hl => ?_)
          refine lv_goto (tgt := 54) hx hb d_Fi_gather_79 rfl ?_
          exact ih540 x6 (x7 + 1) u12.1 u12.2.1 u12.2.2.1 u12.2.2.2.1 u12.2.2.2.2.1 u12.2.2.2.2.2 _ _ _ (lv_sub hl [1, 2, 3, 0] rfl) hP hD hS hw
        · have hw := hw.2 ((bI_0 _).mp hc)
          refine lv_iconst (v := 0) hx hb d_Fi_gather_74 (by decide) ?_
          exact ct_zret false hx hb hr hlk hK hS (u12.1, u12.2.1, u12.2.2.1, u12.2.2.2.1, u12.2.2.2.2.1, u12.2.2.2.2.2) hw hP hD d_Fi_gather_75
  have hJ321 : ∀ (y0 : Bool) (y1 : Int32) (fi_w : Int64) (fi_p : Int32) (fi_t : Int32) (fi_z : Int32) (fi_e : Int32) (fi_n : Bool) (H : Heap) (locs : List Loc) (ls : Array Slot), lv_has ls 8 [(0, .ref fi), (2, .ref tx), (4, .ref pl)] → va_P D vwCl (wd_Gath cA fi sy sy_a pt pl pl_p pl_p_a pl_s pl_s_a mi mi_p mi_p_a mi_s mi_s_a tx tx_a sc fi_w fi_p fi_t fi_z fi_e fi_n sy_l sy_f pt_h pl_pm pl_h pl_z pl_c pl_b pl_t pl_f pl_q pl_e pl_x pl_p_n pl_p_f pl_s_n pl_s_f mi_pm mi_h mi_z mi_c mi_b mi_t mi_f mi_q mi_e mi_x mi_p_n mi_p_f mi_s_n mi_s_f tx_n tx_f) H → va_D A (wd_Gath cA fi sy sy_a pt pl pl_p pl_p_a pl_s pl_s_a mi mi_p mi_p_a mi_s mi_s_a tx tx_a sc fi_w fi_p fi_t fi_z fi_e fi_n sy_l sy_f pt_h pl_pm pl_h pl_z pl_c pl_b pl_t pl_f pl_q pl_e pl_x pl_p_n pl_p_f pl_s_n pl_s_f mi_pm mi_h mi_z mi_c mi_b mi_t mi_f mi_q mi_e mi_x mi_p_n mi_p_f mi_s_n mi_s_f tx_n tx_f) → va_S A s.heap H locs → wp_Fi_gather_J321 sy_f pt_h pl_p_n pl_s_n mi_p_n mi_s_n tx_n tx_f y0 y1 fi_w fi_p fi_t fi_z fi_e fi_n Q → W p l e { frames := 4, cells := 0, slots := 0, locals := 86 } s m args below meth c H locs 0 0 (MQ below (ct_qz vwCl D [(cA, .int)] Q (fun u => wd_Gath cA fi sy sy_a pt pl pl_p pl_p_a pl_s pl_s_a mi mi_p mi_p_a mi_s mi_s_a tx tx_a sc u.1 u.2.1 u.2.2.1 u.2.2.2.1 u.2.2.2.2.1 u.2.2.2.2.2 sy_l sy_f pt_h pl_pm pl_h pl_z pl_c pl_b pl_t pl_f pl_q pl_e pl_x pl_p_n pl_p_f pl_s_n pl_s_f mi_pm mi_h mi_z mi_c mi_b mi_t mi_f mi_q mi_e mi_x mi_p_n mi_p_f mi_s_n mi_s_f tx_n tx_f) A) args s 0 0 A) (F0 m 32 ls [.int (bI y0), .int y1]) := by
    intro y0 y1 fi_w fi_p fi_t fi_z fi_e fi_n H locs ls hl hP hD hS hw
    unfold wp_Fi_gather_J321 at hw
    refine lv_iadd hx hb d_Fi_gather_32 ?_
    refine lv_istore (lv' := [(5, .int (y1 + (bI y0))), (0, .ref fi), (2, .ref tx), (4, .ref pl)]) hx hb d_Fi_gather_33 hl (by decide) rfl (fun ls hl => ?_)
    refine lv_aload_n hx hb d_Fi_gather_35 rfl (lv_at hl 2 rfl) ?_
    refine va_get (ci := 4) (C := R_Rw) (T := F_Rw) (N := 2) hx hb htb in_Rw hown hK hP 14 rfl rfl 1 (by decide) (htb _ tw103) (fun _ h9 => h9) rfl d_Fi_gather_36 ?_
    refine lv_aload hx hb d_Fi_gather_39 (lv_at hl 3 rfl) ?_
    refine va_get (ci := 6) (C := R_Sb) (T := F_Sb) (N := 12) hx hb htb in_Sb hown hK hP 4 rfl rfl 1 (by decide) (htb _ tw210) (fun _ h9 => h9) rfl d_Fi_gather_41 ?_
    refine va_get (ci := 4) (C := R_Rw) (T := F_Rw) (N := 2) hx hb htb in_Rw hown hK hP 7 rfl rfl 1 (by decide) (htb _ tw103) (fun _ h9 => h9) rfl d_Fi_gather_44 ?_
    refine lv_isub hx hb d_Fi_gather_47 ?_
    refine lv_istore (lv' := [(6, .int (tx_n - pl_s_n)), (5, .int (y1 + (bI y0))), (0, .ref fi), (2, .ref tx), (4, .ref pl)]) hx hb d_Fi_gather_48 hl (by decide) rfl (fun ls hl => ?_)
    refine lv_iload hx hb d_Fi_gather_50 (lv_at hl 1 rfl) ?_
    refine lv_istore (lv' := [(7, .int (y1 + (bI y0))), (6, .int (tx_n - pl_s_n)), (5, .int (y1 + (bI y0))), (0, .ref fi), (2, .ref tx), (4, .ref pl)]) hx hb d_Fi_gather_52 hl (by decide) rfl (fun ls hl => ?_)
    obtain ⟨n540, hw⟩ := hw
    exact hL540 n540 (tx_n - pl_s_n) (y1 + (bI y0)) fi_w fi_p fi_t fi_z fi_e fi_n _ _ _ (lv_sub hl [3, 4, 1, 0] rfl) hP hD hS hw
  have hJ320 : ∀ (y0 : Bool) (y1 : Int32) (fi_w : Int64) (fi_p : Int32) (fi_t : Int32) (fi_z : Int32) (fi_e : Int32) (fi_n : Bool) (H : Heap) (locs : List Loc) (ls : Array Slot), lv_has ls 8 [(0, .ref fi), (2, .ref tx), (4, .ref mi)] → va_P D vwCl (wd_Gath cA fi sy sy_a pt pl pl_p pl_p_a pl_s pl_s_a mi mi_p mi_p_a mi_s mi_s_a tx tx_a sc fi_w fi_p fi_t fi_z fi_e fi_n sy_l sy_f pt_h pl_pm pl_h pl_z pl_c pl_b pl_t pl_f pl_q pl_e pl_x pl_p_n pl_p_f pl_s_n pl_s_f mi_pm mi_h mi_z mi_c mi_b mi_t mi_f mi_q mi_e mi_x mi_p_n mi_p_f mi_s_n mi_s_f tx_n tx_f) H → va_D A (wd_Gath cA fi sy sy_a pt pl pl_p pl_p_a pl_s pl_s_a mi mi_p mi_p_a mi_s mi_s_a tx tx_a sc fi_w fi_p fi_t fi_z fi_e fi_n sy_l sy_f pt_h pl_pm pl_h pl_z pl_c pl_b pl_t pl_f pl_q pl_e pl_x pl_p_n pl_p_f pl_s_n pl_s_f mi_pm mi_h mi_z mi_c mi_b mi_t mi_f mi_q mi_e mi_x mi_p_n mi_p_f mi_s_n mi_s_f tx_n tx_f) → va_S A s.heap H locs → wp_Fi_gather_J320 sy_f pt_h pl_p_n pl_s_n mi_p_n mi_s_n tx_n tx_f y0 y1 fi_w fi_p fi_t fi_z fi_e fi_n Q → W p l e { frames := 4, cells := 0, slots := 0, locals := 86 } s m args below meth c H locs 0 0 (MQ below (ct_qz vwCl D [(cA, .int)] Q (fun u => wd_Gath cA fi sy sy_a pt pl pl_p pl_p_a pl_s pl_s_a mi mi_p mi_p_a mi_s mi_s_a tx tx_a sc u.1 u.2.1 u.2.2.1 u.2.2.2.1 u.2.2.2.2.1 u.2.2.2.2.2 sy_l sy_f pt_h pl_pm pl_h pl_z pl_c pl_b pl_t pl_f pl_q pl_e pl_x pl_p_n pl_p_f pl_s_n pl_s_f mi_pm mi_h mi_z mi_c mi_b mi_t mi_f mi_q mi_e mi_x mi_p_n mi_p_f mi_s_n mi_s_f tx_n tx_f) A) args s 0 0 A) (F0 m 32 ls [.int (bI y0), .int y1]) := by
    intro y0 y1 fi_w fi_p fi_t fi_z fi_e fi_n H locs ls hl hP hD hS hw
    unfold wp_Fi_gather_J320 at hw
    refine lv_iadd hx hb d_Fi_gather_32 ?_
    refine lv_istore (lv' := [(5, .int (y1 + (bI y0))), (0, .ref fi), (2, .ref tx), (4, .ref mi)]) hx hb d_Fi_gather_33 hl (by decide) rfl (fun ls hl => ?_)
    refine lv_aload_n hx hb d_Fi_gather_35 rfl (lv_at hl 2 rfl) ?_
    refine va_get (ci := 4) (C := R_Rw) (T := F_Rw) (N := 2) hx hb htb in_Rw hown hK hP 14 rfl rfl 1 (by decide) (htb _ tw103) (fun _ h9 => h9) rfl d_Fi_gather_36 ?_
    refine lv_aload hx hb d_Fi_gather_39 (lv_at hl 3 rfl) ?_
    refine va_get (ci := 6) (C := R_Sb) (T := F_Sb) (N := 12) hx hb htb in_Sb hown hK hP 9 rfl rfl 1 (by decide) (htb _ tw210) (fun _ h9 => h9) rfl d_Fi_gather_41 ?_
    refine va_get (ci := 4) (C := R_Rw) (T := F_Rw) (N := 2) hx hb htb in_Rw hown hK hP 12 rfl rfl 1 (by decide) (htb _ tw103) (fun _ h9 => h9) rfl d_Fi_gather_44 ?_
    refine lv_isub hx hb d_Fi_gather_47 ?_
    refine lv_istore (lv' := [(6, .int (tx_n - mi_s_n)), (5, .int (y1 + (bI y0))), (0, .ref fi), (2, .ref tx), (4, .ref mi)]) hx hb d_Fi_gather_48 hl (by decide) rfl (fun ls hl => ?_)
    refine lv_iload hx hb d_Fi_gather_50 (lv_at hl 1 rfl) ?_
    refine lv_istore (lv' := [(7, .int (y1 + (bI y0))), (6, .int (tx_n - mi_s_n)), (5, .int (y1 + (bI y0))), (0, .ref fi), (2, .ref tx), (4, .ref mi)]) hx hb d_Fi_gather_52 hl (by decide) rfl (fun ls hl => ?_)
    obtain ⟨n540, hw⟩ := hw
    exact hL540 n540 (tx_n - mi_s_n) (y1 + (bI y0)) fi_w fi_p fi_t fi_z fi_e fi_n _ _ _ (lv_sub hl [3, 4, 1, 0] rfl) hP hD hS hw
  refine lv_aload_n hx hb d_Fi_gather_0 rfl (lv_at hl 0 rfl) ?_
  refine ct_callv (wn := fun u2 => wd_Gath cA fi sy sy_a pt pl pl_p pl_p_a pl_s pl_s_a mi mi_p mi_p_a mi_s mi_s_a tx tx_a sc u2.1 u2.2.1 u2.2.2.1 u2.2.2.2.1 u2.2.2.2.2.1 u2.2.2.2.2.2 sy_l sy_f pt_h pl_pm pl_h pl_z pl_c pl_b pl_t pl_f pl_q pl_e pl_x pl_p_n pl_p_f pl_s_n pl_s_f mi_pm mi_h mi_z mi_c mi_b mi_t mi_f mi_q mi_e mi_x mi_p_n mi_p_f mi_s_n mi_s_f tx_n tx_f) (va_runV (As := []) (rest := []) ⟨hx, hb, hml, hown, htb⟩ (c_Fi_begin l D cA fi sy sc fi_w fi_p fi_t fi_z fi_e fi_n _ hw _) (ct_cwV 0 htb tw641 rfl rfl tw78 tw638 tw640 tw33 hd_Fi_begin ⟨by decide, by decide⟩) (ct_preV hP hD hK hN [0] rfl (by decide) 0 rfl rfl _) rfl rfl hl.1 rfl (lv_room (Nat.le_of_ble_eq_true rfl)) d_Fi_gather_1 ⟨Nat.zero_le _, Nat.zero_le _⟩) hP hD hS hA [0] [1, 2, 3, 4, 5, 6, 7, 8, 9, 10, 11, 12, 13, 14, 15] [15, 0, 1, 2, 3, 4, 5, 6, 7, 8, 9, 10, 11, 12, 13, 14] rfl rfl (by decide) (by decide) (fun _ => rfl) (by decide) (fun u2 H locs hw hP hD hS => ?_)
  have hP : va_P D vwCl (wd_Gath cA fi sy sy_a pt pl pl_p pl_p_a pl_s pl_s_a mi mi_p mi_p_a mi_s mi_s_a tx tx_a sc u2.1 u2.2.1 u2.2.2.1 u2.2.2.2.1 u2.2.2.2.2.1 u2.2.2.2.2.2 sy_l sy_f pt_h pl_pm pl_h pl_z pl_c pl_b pl_t pl_f pl_q pl_e pl_x pl_p_n pl_p_f pl_s_n pl_s_f mi_pm mi_h mi_z mi_c mi_b mi_t mi_f mi_q mi_e mi_x mi_p_n mi_p_f mi_s_n mi_s_f tx_n tx_f) H := hP
  have hD : va_D A (wd_Gath cA fi sy sy_a pt pl pl_p pl_p_a pl_s pl_s_a mi mi_p mi_p_a mi_s mi_s_a tx tx_a sc u2.1 u2.2.1 u2.2.2.1 u2.2.2.2.1 u2.2.2.2.2.1 u2.2.2.2.2.2 sy_l sy_f pt_h pl_pm pl_h pl_z pl_c pl_b pl_t pl_f pl_q pl_e pl_x pl_p_n pl_p_f pl_s_n pl_s_f mi_pm mi_h mi_z mi_c mi_b mi_t mi_f mi_q mi_e mi_x mi_p_n mi_p_f mi_s_n mi_s_f tx_n tx_f) := hD
  refine lv_aload_n hx hb d_Fi_gather_4 rfl (lv_at hl 1 rfl) ?_
  refine lv_iload_n hx hb d_Fi_gather_5 rfl (lv_at hl 3 rfl) ?_
  by_cases hc0 : ng = true ∧ pt_h = true
  · have hw := hw.1 hc0
    refine ct_callr (wn := fun _ => wd_Gath cA fi sy sy_a pt pl pl_p pl_p_a pl_s pl_s_a mi mi_p mi_p_a mi_s mi_s_a tx tx_a sc u2.1 u2.2.1 u2.2.2.1 u2.2.2.2.1 u2.2.2.2.2.1 u2.2.2.2.2.2 sy_l sy_f pt_h pl_pm pl_h pl_z pl_c pl_b pl_t pl_f pl_q pl_e pl_x pl_p_n pl_p_f pl_s_n pl_s_f mi_pm mi_h mi_z mi_c mi_b mi_t mi_f mi_q mi_e mi_x mi_p_n mi_p_f mi_s_n mi_s_f tx_n tx_f) (va_runV (As := [.int (bI ng)]) (rest := []) ⟨hx, hb, hml, hown, htb⟩ (c_Pat_affixesFor l D cA pt pl mi pt_h ng (fun r _ => r = mi) (by unfold wp_Pat_affixesFor; rw [hc0.1, hc0.2]; simp) _) (ct_cwV 1 htb tw534 rfl rfl tw79 tw642 tw532 tw533 hd_Pat_affixesFor ⟨by decide, by decide⟩) (ct_preV hP hD hK hN [3] rfl (by decide) 3 rfl rfl _) rfl rfl hl.1 rfl (lv_room (Nat.le_of_ble_eq_true rfl)) d_Fi_gather_6 ⟨Nat.zero_le _, Nat.zero_le _⟩) hP hD hS hA [3] [0, 1, 2, 4, 5, 6, 7, 8, 9, 10, 11, 12, 13, 14, 15] [0, 1, 2, 15, 3, 4, 5, 6, 7, 8, 9, 10, 11, 12, 13, 14] rfl rfl (by decide) (by decide) (fun _ => rfl) (by decide) (fun r3 u4 H locs hq hP hD hS => ?_)
    have hq := hq.symm
    subst hq
    have hP : va_P D vwCl (wd_Gath cA fi sy sy_a pt pl pl_p pl_p_a pl_s pl_s_a mi mi_p mi_p_a mi_s mi_s_a tx tx_a sc u2.1 u2.2.1 u2.2.2.1 u2.2.2.2.1 u2.2.2.2.2.1 u2.2.2.2.2.2 sy_l sy_f pt_h pl_pm pl_h pl_z pl_c pl_b pl_t pl_f pl_q pl_e pl_x pl_p_n pl_p_f pl_s_n pl_s_f mi_pm mi_h mi_z mi_c mi_b mi_t mi_f mi_q mi_e mi_x mi_p_n mi_p_f mi_s_n mi_s_f tx_n tx_f) H := hP
    have hD : va_D A (wd_Gath cA fi sy sy_a pt pl pl_p pl_p_a pl_s pl_s_a mi mi_p mi_p_a mi_s mi_s_a tx tx_a sc u2.1 u2.2.1 u2.2.2.1 u2.2.2.2.1 u2.2.2.2.2.1 u2.2.2.2.2.2 sy_l sy_f pt_h pl_pm pl_h pl_z pl_c pl_b pl_t pl_f pl_q pl_e pl_x pl_p_n pl_p_f pl_s_n pl_s_f mi_pm mi_h mi_z mi_c mi_b mi_t mi_f mi_q mi_e mi_x mi_p_n mi_p_f mi_s_n mi_s_f tx_n tx_f) := hD
    refine lv_astore (lv' := [(4, .ref mi), (0, .ref fi), (1, .ref pt), (2, .ref tx), (3, .int (bI ng))]) hx hb d_Fi_gather_9 hl (by decide) rfl (fun ls hl => ?_)
    refine lv_aload hx hb d_Fi_gather_11 (lv_at hl 0 rfl) ?_
    refine va_get (ci := 6) (C := R_Sb) (T := F_Sb) (N := 12) hx hb htb in_Sb hown hK hP 9 rfl rfl 0 (by decide) (htb _ tw206) (fun _ h9 => h9) rfl d_Fi_gather_13 ?_
    refine va_get (ci := 4) (C := R_Rw) (T := F_Rw) (N := 2) hx hb htb in_Rw hown hK hP 10 rfl rfl 1 (by decide) (htb _ tw103) (fun _ h9 => h9) rfl d_Fi_gather_16 ?_
    refine lv_aload_n hx hb d_Fi_gather_19 rfl (lv_at hl 2 rfl) ?_
    refine lv_iload_n hx hb d_Fi_gather_20 rfl (lv_at hl 4 rfl) ?_
    refine ct_callz (wn := fun _ => wd_Gath cA fi sy sy_a pt pl pl_p pl_p_a pl_s pl_s_a mi mi_p mi_p_a mi_s mi_s_a tx tx_a sc u2.1 u2.2.1 u2.2.2.1 u2.2.2.2.1 u2.2.2.2.2.1 u2.2.2.2.2.2 sy_l sy_f pt_h pl_pm pl_h pl_z pl_c pl_b pl_t pl_f pl_q pl_e pl_x pl_p_n pl_p_f pl_s_n pl_s_f mi_pm mi_h mi_z mi_c mi_b mi_t mi_f mi_q mi_e mi_x mi_p_n mi_p_f mi_s_n mi_s_f tx_n tx_f) (va_runV (As := [.int (bI ng)]) (rest := [.int mi_p_n]) ⟨hx, hb, hml, hown, htb⟩ (c_Pat_needsMinus l D cA pt pl mi pt_h ng _ hw _) (ct_cwV 1 htb tw539 rfl rfl tw79 tw643 tw537 tw538 hd_Pat_needsMinus ⟨by decide, by decide⟩) (ct_preV hP hD hK hN [3] rfl (by decide) 3 rfl rfl _) rfl rfl hl.1 rfl (lv_room (Nat.le_of_ble_eq_true rfl)) d_Fi_gather_21 ⟨Nat.zero_le _, Nat.zero_le _⟩) hP hD hS hA [3] [0, 1, 2, 4, 5, 6, 7, 8, 9, 10, 11, 12, 13, 14, 15] [0, 1, 2, 15, 3, 4, 5, 6, 7, 8, 9, 10, 11, 12, 13, 14] rfl rfl (by decide) (by decide) (fun _ => rfl) (by decide) (fun r5 u6 H locs hw hP hD hS => ?_)
    have hP : va_P D vwCl (wd_Gath cA fi sy sy_a pt pl pl_p pl_p_a pl_s pl_s_a mi mi_p mi_p_a mi_s mi_s_a tx tx_a sc u2.1 u2.2.1 u2.2.2.1 u2.2.2.2.1 u2.2.2.2.2.1 u2.2.2.2.2.2 sy_l sy_f pt_h pl_pm pl_h pl_z pl_c pl_b pl_t pl_f pl_q pl_e pl_x pl_p_n pl_p_f pl_s_n pl_s_f mi_pm mi_h mi_z mi_c mi_b mi_t mi_f mi_q mi_e mi_x mi_p_n mi_p_f mi_s_n mi_s_f tx_n tx_f) H := hP
    have hD : va_D A (wd_Gath cA fi sy sy_a pt pl pl_p pl_p_a pl_s pl_s_a mi mi_p mi_p_a mi_s mi_s_a tx tx_a sc u2.1 u2.2.1 u2.2.2.1 u2.2.2.2.1 u2.2.2.2.2.1 u2.2.2.2.2.2 sy_l sy_f pt_h pl_pm pl_h pl_z pl_c pl_b pl_t pl_f pl_q pl_e pl_x pl_p_n pl_p_f pl_s_n pl_s_f mi_pm mi_h mi_z mi_c mi_b mi_t mi_f mi_q mi_e mi_x mi_p_n mi_p_f mi_s_n mi_s_f tx_n tx_f) := hD
    refine lv_if_eq (tgt := 31) hx hb d_Fi_gather_24 rfl (fun hc => ?_) (fun hc => ?_)
    · have hw := hw.1 ((bI_0 _).mp hc)
      refine lv_iconst (v := 0) hx hb d_Fi_gather_31 (by decide) ?_
      exact hJ320 false mi_p_n u2.1 u2.2.1 u2.2.2.1 u2.2.2.2.1 u2.2.2.2.2.1 u2.2.2.2.2.2 _ _ _ (lv_sub hl [1, 3, 0] rfl) hP hD hS hw
    · have hw := hw.2 ((bI_n0 _).mp hc)
      refine lv_iconst (v := 1) hx hb d_Fi_gather_27 (by decide) ?_
      refine lv_goto (tgt := 32) hx hb d_Fi_gather_28 rfl ?_
      exact hJ320 true mi_p_n u2.1 u2.2.1 u2.2.2.1 u2.2.2.2.1 u2.2.2.2.2.1 u2.2.2.2.2.2 _ _ _ (lv_sub hl [1, 3, 0] rfl) hP hD hS hw
  have hw := hw.2 hc0
  refine ct_callr (wn := fun _ => wd_Gath cA fi sy sy_a pt pl pl_p pl_p_a pl_s pl_s_a mi mi_p mi_p_a mi_s mi_s_a tx tx_a sc u2.1 u2.2.1 u2.2.2.1 u2.2.2.2.1 u2.2.2.2.2.1 u2.2.2.2.2.2 sy_l sy_f pt_h pl_pm pl_h pl_z pl_c pl_b pl_t pl_f pl_q pl_e pl_x pl_p_n pl_p_f pl_s_n pl_s_f mi_pm mi_h mi_z mi_c mi_b mi_t mi_f mi_q mi_e mi_x mi_p_n mi_p_f mi_s_n mi_s_f tx_n tx_f) (va_runV (As := [.int (bI ng)]) (rest := []) ⟨hx, hb, hml, hown, htb⟩ (c_Pat_affixesFor l D cA pt pl mi pt_h ng (fun r _ => r = pl) (by unfold wp_Pat_affixesFor; revert hc0; cases ng <;> cases pt_h <;> simp) _) (ct_cwV 1 htb tw534 rfl rfl tw79 tw642 tw532 tw533 hd_Pat_affixesFor ⟨by decide, by decide⟩) (ct_preV hP hD hK hN [3] rfl (by decide) 3 rfl rfl _) rfl rfl hl.1 rfl (lv_room (Nat.le_of_ble_eq_true rfl)) d_Fi_gather_6 ⟨Nat.zero_le _, Nat.zero_le _⟩) hP hD hS hA [3] [0, 1, 2, 4, 5, 6, 7, 8, 9, 10, 11, 12, 13, 14, 15] [0, 1, 2, 15, 3, 4, 5, 6, 7, 8, 9, 10, 11, 12, 13, 14] rfl rfl (by decide) (by decide) (fun _ => rfl) (by decide) (fun r3 u4 H locs hq hP hD hS => ?_)
  have hq := hq.symm
  subst hq
  have hP : va_P D vwCl (wd_Gath cA fi sy sy_a pt pl pl_p pl_p_a pl_s pl_s_a mi mi_p mi_p_a mi_s mi_s_a tx tx_a sc u2.1 u2.2.1 u2.2.2.1 u2.2.2.2.1 u2.2.2.2.2.1 u2.2.2.2.2.2 sy_l sy_f pt_h pl_pm pl_h pl_z pl_c pl_b pl_t pl_f pl_q pl_e pl_x pl_p_n pl_p_f pl_s_n pl_s_f mi_pm mi_h mi_z mi_c mi_b mi_t mi_f mi_q mi_e mi_x mi_p_n mi_p_f mi_s_n mi_s_f tx_n tx_f) H := hP
  have hD : va_D A (wd_Gath cA fi sy sy_a pt pl pl_p pl_p_a pl_s pl_s_a mi mi_p mi_p_a mi_s mi_s_a tx tx_a sc u2.1 u2.2.1 u2.2.2.1 u2.2.2.2.1 u2.2.2.2.2.1 u2.2.2.2.2.2 sy_l sy_f pt_h pl_pm pl_h pl_z pl_c pl_b pl_t pl_f pl_q pl_e pl_x pl_p_n pl_p_f pl_s_n pl_s_f mi_pm mi_h mi_z mi_c mi_b mi_t mi_f mi_q mi_e mi_x mi_p_n mi_p_f mi_s_n mi_s_f tx_n tx_f) := hD
  refine lv_astore (lv' := [(4, .ref pl), (0, .ref fi), (1, .ref pt), (2, .ref tx), (3, .int (bI ng))]) hx hb d_Fi_gather_9 hl (by decide) rfl (fun ls hl => ?_)
  refine lv_aload hx hb d_Fi_gather_11 (lv_at hl 0 rfl) ?_
  refine va_get (ci := 6) (C := R_Sb) (T := F_Sb) (N := 12) hx hb htb in_Sb hown hK hP 4 rfl rfl 0 (by decide) (htb _ tw206) (fun _ h9 => h9) rfl d_Fi_gather_13 ?_
  refine va_get (ci := 4) (C := R_Rw) (T := F_Rw) (N := 2) hx hb htb in_Rw hown hK hP 5 rfl rfl 1 (by decide) (htb _ tw103) (fun _ h9 => h9) rfl d_Fi_gather_16 ?_
  refine lv_aload_n hx hb d_Fi_gather_19 rfl (lv_at hl 2 rfl) ?_
  refine lv_iload_n hx hb d_Fi_gather_20 rfl (lv_at hl 4 rfl) ?_
  refine ct_callz (wn := fun _ => wd_Gath cA fi sy sy_a pt pl pl_p pl_p_a pl_s pl_s_a mi mi_p mi_p_a mi_s mi_s_a tx tx_a sc u2.1 u2.2.1 u2.2.2.1 u2.2.2.2.1 u2.2.2.2.2.1 u2.2.2.2.2.2 sy_l sy_f pt_h pl_pm pl_h pl_z pl_c pl_b pl_t pl_f pl_q pl_e pl_x pl_p_n pl_p_f pl_s_n pl_s_f mi_pm mi_h mi_z mi_c mi_b mi_t mi_f mi_q mi_e mi_x mi_p_n mi_p_f mi_s_n mi_s_f tx_n tx_f) (va_runV (As := [.int (bI ng)]) (rest := [.int pl_p_n]) ⟨hx, hb, hml, hown, htb⟩ (c_Pat_needsMinus l D cA pt pl mi pt_h ng _ hw _) (ct_cwV 1 htb tw539 rfl rfl tw79 tw643 tw537 tw538 hd_Pat_needsMinus ⟨by decide, by decide⟩) (ct_preV hP hD hK hN [3] rfl (by decide) 3 rfl rfl _) rfl rfl hl.1 rfl (lv_room (Nat.le_of_ble_eq_true rfl)) d_Fi_gather_21 ⟨Nat.zero_le _, Nat.zero_le _⟩) hP hD hS hA [3] [0, 1, 2, 4, 5, 6, 7, 8, 9, 10, 11, 12, 13, 14, 15] [0, 1, 2, 15, 3, 4, 5, 6, 7, 8, 9, 10, 11, 12, 13, 14] rfl rfl (by decide) (by decide) (fun _ => rfl) (by decide) (fun r7 u8 H locs hw hP hD hS => ?_)
  have hP : va_P D vwCl (wd_Gath cA fi sy sy_a pt pl pl_p pl_p_a pl_s pl_s_a mi mi_p mi_p_a mi_s mi_s_a tx tx_a sc u2.1 u2.2.1 u2.2.2.1 u2.2.2.2.1 u2.2.2.2.2.1 u2.2.2.2.2.2 sy_l sy_f pt_h pl_pm pl_h pl_z pl_c pl_b pl_t pl_f pl_q pl_e pl_x pl_p_n pl_p_f pl_s_n pl_s_f mi_pm mi_h mi_z mi_c mi_b mi_t mi_f mi_q mi_e mi_x mi_p_n mi_p_f mi_s_n mi_s_f tx_n tx_f) H := hP
  have hD : va_D A (wd_Gath cA fi sy sy_a pt pl pl_p pl_p_a pl_s pl_s_a mi mi_p mi_p_a mi_s mi_s_a tx tx_a sc u2.1 u2.2.1 u2.2.2.1 u2.2.2.2.1 u2.2.2.2.2.1 u2.2.2.2.2.2 sy_l sy_f pt_h pl_pm pl_h pl_z pl_c pl_b pl_t pl_f pl_q pl_e pl_x pl_p_n pl_p_f pl_s_n pl_s_f mi_pm mi_h mi_z mi_c mi_b mi_t mi_f mi_q mi_e mi_x mi_p_n mi_p_f mi_s_n mi_s_f tx_n tx_f) := hD
  refine lv_if_eq (tgt := 31) hx hb d_Fi_gather_24 rfl (fun hc => ?_) (fun hc => ?_)
  · have hw := hw.1 ((bI_0 _).mp hc)
    refine lv_iconst (v := 0) hx hb d_Fi_gather_31 (by decide) ?_
    exact hJ321 false pl_p_n u2.1 u2.2.1 u2.2.2.1 u2.2.2.2.1 u2.2.2.2.2.1 u2.2.2.2.2.2 _ _ _ (lv_sub hl [1, 3, 0] rfl) hP hD hS hw
  · have hw := hw.2 ((bI_n0 _).mp hc)
    refine lv_iconst (v := 1) hx hb d_Fi_gather_27 (by decide) ?_
    refine lv_goto (tgt := 32) hx hb d_Fi_gather_28 rfl ?_
    exact hJ321 true pl_p_n u2.1 u2.2.1 u2.2.2.1 u2.2.2.2.1 u2.2.2.2.2.1 u2.2.2.2.2.2 _ _ _ (lv_sub hl [1, 3, 0] rfl) hP hD hS hw
/-! DecimalPatterns$Finder.find(LDecimalPatterns$Pattern;LDecimalPatterns$Row;Z)Z -/
def wp_Fi_find (fi_w : Int64) (fi_p : Int32) (fi_t : Int32) (fi_z : Int32) (fi_e : Int32) (fi_n : Bool) (pg_n : Int32) (pg_f : Nat → Int32) (am_f : Nat → Int32) (sy_l : Int32) (sy_f : Nat → Int32) (pt_h : Bool) (pl_pm : Bool) (pl_h : Int32) (pl_z : Int32) (pl_c : Int32) (pl_b : Int32) (pl_t : Int32) (pl_f : Int32) (pl_q : Int32) (pl_e : Int32) (pl_x : Bool) (pl_p_n : Int32) (pl_p_f : Nat → Int32) (pl_s_n : Int32) (pl_s_f : Nat → Int32) (mi_p_n : Int32) (mi_p_f : Nat → Int32) (mi_s_n : Int32) (mi_s_f : Nat → Int32) (tx_n : Int32) (tx_f : Nat → Int32) (ng : Bool) (Q : Bool → (Int64 × Int32 × Int32 × Int32 × Int32 × Bool × Int32 × (Nat → Int32) × (Nat → Int32)) → Prop) : Prop := wp_Fi_gather fi_w fi_p fi_t fi_z fi_e fi_n sy_f pt_h pl_p_n pl_s_n mi_p_n mi_s_n tx_n tx_f ng (fun r1 u2 => (r1 = false → (Q false (u2.1, u2.2.1, u2.2.2.1, u2.2.2.2.1, u2.2.2.2.2.1, u2.2.2.2.2.2, pg_n, pg_f, am_f))) ∧ (r1 = true → (wp_Fi_settle u2.1 u2.2.1 u2.2.2.2.1 u2.2.2.2.2.1 u2.2.2.2.2.2 pl_pm (fun r3 u4 => (r3 = false → (Q false (u4.1, u4.2, u2.2.2.1, u2.2.2.2.1, u2.2.2.2.2.1, u2.2.2.2.2.2, pg_n, pg_f, am_f))) ∧ (r3 = true → (wp_Sc_compose pg_n pg_f am_f sy_l sy_f pt_h pl_pm pl_h pl_z pl_c pl_b pl_t pl_f pl_q pl_e pl_x pl_p_n pl_p_f pl_s_n pl_s_f mi_p_n mi_p_f mi_s_n mi_s_f ng (-u4.1) u4.2 7 (fun r5 u6 => (r5 = false → (Q false (u4.1, u4.2, u2.2.2.1, u2.2.2.2.1, u2.2.2.2.2.1, u2.2.2.2.2.2, u6.1, u6.2.1, u6.2.2))) ∧ (r5 = true → (wp_Row_isSameAs 256 256 u6.1 u6.2.1 tx_n tx_f (fun r7 u8 => (r7 = false → (Q false (u4.1, u4.2, u2.2.2.1, u2.2.2.2.1, u2.2.2.2.2.1, u2.2.2.2.2.2, u6.1, u6.2.1, u6.2.2))) ∧ (r7 = true → (Q true (u4.1, u4.2, u2.2.2.1, u2.2.2.2.1, u2.2.2.2.2.1, u2.2.2.2.2.2, u6.1, u6.2.1, u6.2.2)))))))))))))
set_option maxHeartbeats 4000000 in
set_option maxRecDepth 100000 in
theorem c_Fi_find (l : Launch) (D : va_G) (cA : ClassId) (fi sc pg pg_a am am_a sy sy_a pt pl pl_p pl_p_a pl_s pl_s_a mi mi_p mi_p_a mi_s mi_s_a tx tx_a : Nat) (fi_w : Int64) (fi_p : Int32) (fi_t : Int32) (fi_z : Int32) (fi_e : Int32) (fi_n : Bool) (pg_n : Int32) (pg_f : Nat → Int32) (am_f : Nat → Int32) (sy_l : Int32) (sy_f : Nat → Int32) (pt_h : Bool) (pl_pm : Bool) (pl_h : Int32) (pl_z : Int32) (pl_c : Int32) (pl_b : Int32) (pl_t : Int32) (pl_f : Int32) (pl_q : Int32) (pl_e : Int32) (pl_x : Bool) (pl_p_n : Int32) (pl_p_f : Nat → Int32) (pl_s_n : Int32) (pl_s_f : Nat → Int32) (mi_pm : Bool) (mi_h : Int32) (mi_z : Int32) (mi_c : Int32) (mi_b : Int32) (mi_t : Int32) (mi_f : Int32) (mi_q : Int32) (mi_e : Int32) (mi_x : Bool) (mi_p_n : Int32) (mi_p_f : Nat → Int32) (mi_s_n : Int32) (mi_s_f : Nat → Int32) (tx_n : Int32) (tx_f : Nat → Int32) (ng : Bool) (Q : Bool → (Int64 × Int32 × Int32 × Int32 × Int32 × Bool × Int32 × (Nat → Int32) × (Nat → Int32)) → Prop) (hw : wp_Fi_find fi_w fi_p fi_t fi_z fi_e fi_n pg_n pg_f am_f sy_l sy_f pt_h pl_pm pl_h pl_z pl_c pl_b pl_t pl_f pl_q pl_e pl_x pl_p_n pl_p_f pl_s_n pl_s_f mi_p_n mi_p_f mi_s_n mi_s_f tx_n tx_f ng Q) : ct_M vwCl l D [(cA, .int)] y_Fi_find w_Fi_find { frames := 5, cells := 0, slots := 0, locals := 121 } [.ref fi, .ref pt, .ref tx, .int (bI ng)] (wd_Find cA fi sc pg pg_a am am_a sy sy_a pt pl pl_p pl_p_a pl_s pl_s_a mi mi_p mi_p_a mi_s mi_s_a tx tx_a fi_w fi_p fi_t fi_z fi_e fi_n pg_n pg_f am_f sy_l sy_f pt_h pl_pm pl_h pl_z pl_c pl_b pl_t pl_f pl_q pl_e pl_x pl_p_n pl_p_f pl_s_n pl_s_f mi_pm mi_h mi_z mi_c mi_b mi_t mi_f mi_q mi_e mi_x mi_p_n mi_p_f mi_s_n mi_s_f tx_n tx_f) (ct_qz vwCl D [(cA, .int)] Q (fun u => wd_Find cA fi sc pg pg_a am am_a sy sy_a pt pl pl_p pl_p_a pl_s pl_s_a mi mi_p mi_p_a mi_s mi_s_a tx tx_a u.1 u.2.1 u.2.2.1 u.2.2.2.1 u.2.2.2.2.1 u.2.2.2.2.2.1 u.2.2.2.2.2.2.1 u.2.2.2.2.2.2.2.1 u.2.2.2.2.2.2.2.2 sy_l sy_f pt_h pl_pm pl_h pl_z pl_c pl_b pl_t pl_f pl_q pl_e pl_x pl_p_n pl_p_f pl_s_n pl_s_f mi_pm mi_h mi_z mi_c mi_b mi_t mi_f mi_q mi_e mi_x mi_p_n mi_p_f mi_s_n mi_s_f tx_n tx_f)) := by
  refine ct_enter (cc := b_Fi_find) (maxL := 4) (ret := (some .boolean)) (by decide) rfl (Nat.le_of_ble_eq_true rfl) ?_
  intro p e s m args below meth c A ls hx hb hr hlk hml hts hown hA hS hP hK hN hD hl
  have hl : lv_has ls 4 [(0, .ref fi), (1, .ref pt), (2, .ref tx), (3, .int (bI ng))] := hl
  have htb : ∀ w ∈ tbl, w.before args s = true := fun w h => hts w (List.mem_cons_of_mem _ h)
  have hown : s.vm.findClass "DecimalPatterns$Finder" = some m.cls := hown
  unfold wp_Fi_find at hw
  refine lv_aload_n hx hb d_Fi_find_0 rfl (lv_at hl 0 rfl) ?_
  refine lv_aload_n hx hb d_Fi_find_1 rfl (lv_at hl 1 rfl) ?_
  refine lv_aload_n hx hb d_Fi_find_2 rfl (lv_at hl 2 rfl) ?_
  refine lv_iload_n hx hb d_Fi_find_3 rfl (lv_at hl 3 rfl) ?_
  refine ct_callz (wn := fun u2 => wd_Find cA fi sc pg pg_a am am_a sy sy_a pt pl pl_p pl_p_a pl_s pl_s_a mi mi_p mi_p_a mi_s mi_s_a tx tx_a u2.1 u2.2.1 u2.2.2.1 u2.2.2.2.1 u2.2.2.2.2.1 u2.2.2.2.2.2 pg_n pg_f am_f sy_l sy_f pt_h pl_pm pl_h pl_z pl_c pl_b pl_t pl_f pl_q pl_e pl_x pl_p_n pl_p_f pl_s_n pl_s_f mi_pm mi_h mi_z mi_c mi_b mi_t mi_f mi_q mi_e mi_x mi_p_n mi_p_f mi_s_n mi_s_f tx_n tx_f) (va_runV (As := [.ref pt, .ref tx, .int (bI ng)]) (rest := []) ⟨hx, hb, hml, hown, htb⟩ (c_Fi_gather l D cA fi sy sy_a pt pl pl_p pl_p_a pl_s pl_s_a mi mi_p mi_p_a mi_s mi_s_a tx tx_a sc fi_w fi_p fi_t fi_z fi_e fi_n sy_l sy_f pt_h pl_pm pl_h pl_z pl_c pl_b pl_t pl_f pl_q pl_e pl_x pl_p_n pl_p_f pl_s_n pl_s_f mi_pm mi_h mi_z mi_c mi_b mi_t mi_f mi_q mi_e mi_x mi_p_n mi_p_f mi_s_n mi_s_f tx_n tx_f ng _ hw _) (ct_cwV 3 htb tw637 rfl rfl tw78 tw634 tw636 tw32 hd_Fi_gather ⟨by decide, by decide⟩) (ct_preV hP hD hK hN [0, 6, 7, 8, 9, 10, 11, 12, 13, 14, 15, 16, 17, 18, 19, 20] rfl (by decide) 0 rfl rfl _) rfl rfl hl.1 rfl (lv_room (Nat.le_of_ble_eq_true rfl)) d_Fi_find_4 ⟨Nat.zero_le _, Nat.zero_le _⟩) hP hD hS hA [0, 6, 7, 8, 9, 10, 11, 12, 13, 14, 15, 16, 17, 18, 19, 20] [1, 2, 3, 4, 5] [5, 0, 1, 2, 3, 4, 6, 7, 8, 9, 10, 11, 12, 13, 14, 15, 16, 17, 18, 19, 20] rfl rfl (by decide) (by decide) (fun _ => rfl) (by decide) (fun r1 u2 H locs hw hP hD hS => ?_)
  have hP : va_P D vwCl (wd_Find cA fi sc pg pg_a am am_a sy sy_a pt pl pl_p pl_p_a pl_s pl_s_a mi mi_p mi_p_a mi_s mi_s_a tx tx_a u2.1 u2.2.1 u2.2.2.1 u2.2.2.2.1 u2.2.2.2.2.1 u2.2.2.2.2.2 pg_n pg_f am_f sy_l sy_f pt_h pl_pm pl_h pl_z pl_c pl_b pl_t pl_f pl_q pl_e pl_x pl_p_n pl_p_f pl_s_n pl_s_f mi_pm mi_h mi_z mi_c mi_b mi_t mi_f mi_q mi_e mi_x mi_p_n mi_p_f mi_s_n mi_s_f tx_n tx_f) H := hP
  have hD : va_D A (wd_Find cA fi sc pg pg_a am am_a sy sy_a pt pl pl_p pl_p_a pl_s pl_s_a mi mi_p mi_p_a mi_s mi_s_a tx tx_a u2.1 u2.2.1 u2.2.2.1 u2.2.2.2.1 u2.2.2.2.2.1 u2.2.2.2.2.2 pg_n pg_f am_f sy_l sy_f pt_h pl_pm pl_h pl_z pl_c pl_b pl_t pl_f pl_q pl_e pl_x pl_p_n pl_p_f pl_s_n pl_s_f mi_pm mi_h mi_z mi_c mi_b mi_t mi_f mi_q mi_e mi_x mi_p_n mi_p_f mi_s_n mi_s_f tx_n tx_f) := hD
  refine lv_if_eq (tgt := 65) hx hb d_Fi_find_7 rfl (fun hc => ?_) (fun hc => ?_)
  · have hw := hw.1 ((bI_0 _).mp hc)
    refine lv_iconst (v := 0) hx hb d_Fi_find_65 (by decide) ?_
    exact ct_zret false hx hb hr hlk hK hS (u2.1, u2.2.1, u2.2.2.1, u2.2.2.2.1, u2.2.2.2.2.1, u2.2.2.2.2.2, pg_n, pg_f, am_f) hw hP hD d_Fi_find_66
  · have hw := hw.2 ((bI_n0 _).mp hc)
    refine lv_aload_n hx hb d_Fi_find_10 rfl (lv_at hl 0 rfl) ?_
    refine lv_aload_n hx hb d_Fi_find_11 rfl (lv_at hl 1 rfl) ?_
    refine va_get (ci := 2) (C := R_Pt) (T := F_Pt) (N := 3) hx hb htb in_Pt hown hK hP 8 rfl rfl 0 (by decide) (htb _ tw271) (fun _ h9 => h9) rfl d_Fi_find_12 ?_
    refine va_get (ci := 6) (C := R_Sb) (T := F_Sb) (N := 12) hx hb htb in_Sb hown hK hP 9 rfl rfl 2 (by decide) (htb _ tw213) (fun _ h9 => h9) rfl d_Fi_find_15 ?_
    refine ct_callz (wn := fun u4 => wd_Find cA fi sc pg pg_a am am_a sy sy_a pt pl pl_p pl_p_a pl_s pl_s_a mi mi_p mi_p_a mi_s mi_s_a tx tx_a u4.1 u4.2 u2.2.2.1 u2.2.2.2.1 u2.2.2.2.2.1 u2.2.2.2.2.2 pg_n pg_f am_f sy_l sy_f pt_h pl_pm pl_h pl_z pl_c pl_b pl_t pl_f pl_q pl_e pl_x pl_p_n pl_p_f pl_s_n pl_s_f mi_pm mi_h mi_z mi_c mi_b mi_t mi_f mi_q mi_e mi_x mi_p_n mi_p_f mi_s_n mi_s_f tx_n tx_f) (va_runV (As := [.int (bI pl_pm)]) (rest := []) ⟨hx, hb, hml, hown, htb⟩ (c_Fi_settle l D cA fi sy sc u2.1 u2.2.1 u2.2.2.1 u2.2.2.2.1 u2.2.2.2.2.1 u2.2.2.2.2.2 pl_pm _ hw _) (ct_cwV 1 htb tw672 rfl rfl tw78 tw669 tw671 tw39 hd_Fi_settle ⟨by decide, by decide⟩) (ct_preV hP hD hK hN [0] rfl (by decide) 0 rfl rfl _) rfl rfl hl.1 rfl (lv_room (Nat.le_of_ble_eq_true rfl)) d_Fi_find_18 ⟨Nat.zero_le _, Nat.zero_le _⟩) hP hD hS hA [0] [1, 2, 3, 4, 5, 6, 7, 8, 9, 10, 11, 12, 13, 14, 15, 16, 17, 18, 19, 20] [20, 0, 1, 2, 3, 4, 5, 6, 7, 8, 9, 10, 11, 12, 13, 14, 15, 16, 17, 18, 19] rfl rfl (by decide) (by decide) (fun _ => rfl) (by decide) (fun r3 u4 H locs hw hP hD hS => ?_)
    have hP : va_P D vwCl (wd_Find cA fi sc pg pg_a am am_a sy sy_a pt pl pl_p pl_p_a pl_s pl_s_a mi mi_p mi_p_a mi_s mi_s_a tx tx_a u4.1 u4.2 u2.2.2.1 u2.2.2.2.1 u2.2.2.2.2.1 u2.2.2.2.2.2 pg_n pg_f am_f sy_l sy_f pt_h pl_pm pl_h pl_z pl_c pl_b pl_t pl_f pl_q pl_e pl_x pl_p_n pl_p_f pl_s_n pl_s_f mi_pm mi_h mi_z mi_c mi_b mi_t mi_f mi_q mi_e mi_x mi_p_n mi_p_f mi_s_n mi_s_f tx_n tx_f) H := hP
    have hD : va_D A (wd_Find cA fi sc pg pg_a am am_a sy sy_a pt pl pl_p pl_p_a pl_s pl_s_a mi mi_p mi_p_a mi_s mi_s_a tx tx_a u4.1 u4.2 u2.2.2.1 u2.2.2.2.1 u2.2.2.2.2.1 u2.2.2.2.2.2 pg_n pg_f am_f sy_l sy_f pt_h pl_pm pl_h pl_z pl_c pl_b pl_t pl_f pl_q pl_e pl_x pl_p_n pl_p_f pl_s_n pl_s_f mi_pm mi_h mi_z mi_c mi_b mi_t mi_f mi_q mi_e mi_x mi_p_n mi_p_f mi_s_n mi_s_f tx_n tx_f) := hD
    refine lv_if_eq (tgt := 65) hx hb d_Fi_find_21 rfl (fun hc => ?_) (fun hc => ?_)
    · have hw := hw.1 ((bI_0 _).mp hc)
      refine lv_iconst (v := 0) hx hb d_Fi_find_65 (by decide) ?_
      exact ct_zret false hx hb hr hlk hK hS (u4.1, u4.2, u2.2.2.1, u2.2.2.2.1, u2.2.2.2.2.1, u2.2.2.2.2.2, pg_n, pg_f, am_f) hw hP hD d_Fi_find_66
    · have hw := hw.2 ((bI_n0 _).mp hc)
      refine lv_aload_n hx hb d_Fi_find_24 rfl (lv_at hl 0 rfl) ?_
      refine va_get (ci := 1) (C := R_Fi) (T := F_Fi) (N := 8) hx hb htb in_Fi hown hK hP 0 rfl rfl 1 (by decide) (htb _ tw164) (fun _ h9 => h9) rfl d_Fi_find_25 ?_
      refine lv_aload_n hx hb d_Fi_find_28 rfl (lv_at hl 1 rfl) ?_
      refine lv_iload_n hx hb d_Fi_find_29 rfl (lv_at hl 3 rfl) ?_
      refine lv_aload_n hx hb d_Fi_find_30 rfl (lv_at hl 0 rfl) ?_
      refine va_get (ci := 1) (C := R_Fi) (T := F_Fi) (N := 8) hx hb htb in_Fi hown hK hP 0 rfl rfl 2 (by decide) (htb _ tw165) (fun _ h9 => h9) rfl d_Fi_find_31 ?_
      refine lv_lneg hx hb d_Fi_find_34 ?_
      refine lv_aload_n hx hb d_Fi_find_35 rfl (lv_at hl 0 rfl) ?_
      refine va_get (ci := 1) (C := R_Fi) (T := F_Fi) (N := 8) hx hb htb in_Fi hown hK hP 0 rfl rfl 3 (by decide) (htb _ tw167) (fun _ h9 => h9) rfl d_Fi_find_36 ?_
      refine lv_bipush (v := 7) hx hb d_Fi_find_39 (by decide) ?_
      refine ct_callz (wn := fun u6 => wd_Find cA fi sc pg pg_a am am_a sy sy_a pt pl pl_p pl_p_a pl_s pl_s_a mi mi_p mi_p_a mi_s mi_s_a tx tx_a u4.1 u4.2 u2.2.2.1 u2.2.2.2.1 u2.2.2.2.2.1 u2.2.2.2.2.2 u6.1 u6.2.1 u6.2.2 sy_l sy_f pt_h pl_pm pl_h pl_z pl_c pl_b pl_t pl_f pl_q pl_e pl_x pl_p_n pl_p_f pl_s_n pl_s_f mi_pm mi_h mi_z mi_c mi_b mi_t mi_f mi_q mi_e mi_x mi_p_n mi_p_f mi_s_n mi_s_f tx_n tx_f) (va_runV (As := [.ref pt, .int (bI ng), .long (-u4.1), .int u4.2, .int 7]) (rest := []) ⟨hx, hb, hml, hown, htb⟩ (c_Sc_compose l D cA sc pg pg_a am am_a sy sy_a pt pl pl_p pl_p_a pl_s pl_s_a mi mi_p mi_p_a mi_s mi_s_a pg_n pg_f am_f sy_l sy_f pt_h pl_pm pl_h pl_z pl_c pl_b pl_t pl_f pl_q pl_e pl_x pl_p_n pl_p_f pl_s_n pl_s_f mi_pm mi_h mi_z mi_c mi_b mi_t mi_f mi_q mi_e mi_x mi_p_n mi_p_f mi_s_n mi_s_f ng (-u4.1) u4.2 7 _ hw _) (ct_cwV 5 htb tw481 rfl rfl tw76 tw673 tw479 tw480 hd_Sc_compose ⟨by decide, by decide⟩) (ct_preV hP hD hK hN [1, 2, 3, 4, 5, 6, 7, 8, 9, 10, 11, 12, 13, 14, 15, 16, 17, 18] rfl (by decide) 1 rfl rfl _) rfl rfl hl.1 rfl (lv_room (Nat.le_of_ble_eq_true rfl)) d_Fi_find_41 ⟨Nat.zero_le _, Nat.zero_le _⟩) hP hD hS hA [1, 2, 3, 4, 5, 6, 7, 8, 9, 10, 11, 12, 13, 14, 15, 16, 17, 18] [0, 19, 20] [0, 3, 4, 5, 6, 7, 8, 9, 10, 11, 12, 13, 14, 15, 16, 17, 18, 19, 20, 1, 2] rfl rfl (by decide) (by decide) (fun _ => rfl) (by decide) (fun r5 u6 H locs hw hP hD hS => ?_)
      have hP : va_P D vwCl (wd_Find cA fi sc pg pg_a am am_a sy sy_a pt pl pl_p pl_p_a pl_s pl_s_a mi mi_p mi_p_a mi_s mi_s_a tx tx_a u4.1 u4.2 u2.2.2.1 u2.2.2.2.1 u2.2.2.2.2.1 u2.2.2.2.2.2 u6.1 u6.2.1 u6.2.2 sy_l sy_f pt_h pl_pm pl_h pl_z pl_c pl_b pl_t pl_f pl_q pl_e pl_x pl_p_n pl_p_f pl_s_n pl_s_f mi_pm mi_h mi_z mi_c mi_b mi_t mi_f mi_q mi_e mi_x mi_p_n mi_p_f mi_s_n mi_s_f tx_n tx_f) H := hP
      have hD : va_D A (wd_Find cA fi sc pg pg_a am am_a sy sy_a pt pl pl_p pl_p_a pl_s pl_s_a mi mi_p mi_p_a mi_s mi_s_a tx tx_a u4.1 u4.2 u2.2.2.1 u2.2.2.2.1 u2.2.2.2.2.1 u2.2.2.2.2.2 u6.1 u6.2.1 u6.2.2 sy_l sy_f pt_h pl_pm pl_h pl_z pl_c pl_b pl_t pl_f pl_q pl_e pl_x pl_p_n pl_p_f pl_s_n pl_s_f mi_pm mi_h mi_z mi_c mi_b mi_t mi_f mi_q mi_e mi_x mi_p_n mi_p_f mi_s_n mi_s_f tx_n tx_f) := hD
      refine lv_if_eq (tgt := 65) hx hb d_Fi_find_44 rfl (fun hc => ?_) (fun hc => ?_)
      · have hw := hw.1 ((bI_0 _).mp hc)
        refine lv_iconst (v := 0) hx hb d_Fi_find_65 (by decide) ?_
        exact ct_zret false hx hb hr hlk hK hS (u4.1, u4.2, u2.2.2.1, u2.2.2.2.1, u2.2.2.2.2.1, u2.2.2.2.2.2, u6.1, u6.2.1, u6.2.2) hw hP hD d_Fi_find_66
      · have hw := hw.2 ((bI_n0 _).mp hc)
        refine lv_aload_n hx hb d_Fi_find_47 rfl (lv_at hl 0 rfl) ?_
        refine va_get (ci := 1) (C := R_Fi) (T := F_Fi) (N := 8) hx hb htb in_Fi hown hK hP 0 rfl rfl 1 (by decide) (htb _ tw164) (fun _ h9 => h9) rfl d_Fi_find_48 ?_
        refine va_get (ci := 5) (C := R_Sc) (T := F_Sc) (N := 3) hx hb htb in_Sc hown hK hP 1 rfl rfl 0 (by decide) (htb _ tw146) (fun _ h9 => h9) rfl d_Fi_find_51 ?_
        refine lv_aload_n hx hb d_Fi_find_54 rfl (lv_at hl 2 rfl) ?_
        refine ct_callz (wn := fun _ => wd_Find cA fi sc pg pg_a am am_a sy sy_a pt pl pl_p pl_p_a pl_s pl_s_a mi mi_p mi_p_a mi_s mi_s_a tx tx_a u4.1 u4.2 u2.2.2.1 u2.2.2.2.1 u2.2.2.2.2.1 u2.2.2.2.2.2 u6.1 u6.2.1 u6.2.2 sy_l sy_f pt_h pl_pm pl_h pl_z pl_c pl_b pl_t pl_f pl_q pl_e pl_x pl_p_n pl_p_f pl_s_n pl_s_f mi_pm mi_h mi_z mi_c mi_b mi_t mi_f mi_q mi_e mi_x mi_p_n mi_p_f mi_s_n mi_s_f tx_n tx_f) (va_runV (As := [.ref tx]) (rest := []) ⟨hx, hb, hml, hown, htb⟩ (c_Row_isSameAs l D cA pg pg_a tx tx_a 256 256 u6.1 u6.2.1 tx_n tx_f _ hw _) (ct_cwV 1 htb tw677 rfl rfl tw73 tw674 tw675 tw676 hd_Row_isSameAs ⟨by decide, by decide⟩) (ct_preV hP hD hK hN [2, 3, 19, 20] rfl (by decide) 2 rfl rfl _) rfl rfl hl.1 rfl (lv_room (Nat.le_of_ble_eq_true rfl)) d_Fi_find_55 ⟨Nat.zero_le _, Nat.zero_le _⟩) hP hD hS hA [2, 3, 19, 20] [0, 1, 4, 5, 6, 7, 8, 9, 10, 11, 12, 13, 14, 15, 16, 17, 18] [0, 1, 17, 18, 2, 3, 4, 5, 6, 7, 8, 9, 10, 11, 12, 13, 14, 15, 16, 19, 20] rfl rfl (by decide) (by decide) (fun _ => rfl) (by decide) (fun r7 u8 H locs hw hP hD hS => ?_)
        have hP : va_P D vwCl (wd_Find cA fi sc pg pg_a am am_a sy sy_a pt pl pl_p pl_p_a pl_s pl_s_a mi mi_p mi_p_a mi_s mi_s_a tx tx_a u4.1 u4.2 u2.2.2.1 u2.2.2.2.1 u2.2.2.2.2.1 u2.2.2.2.2.2 u6.1 u6.2.1 u6.2.2 sy_l sy_f pt_h pl_pm pl_h pl_z pl_c pl_b pl_t pl_f pl_q pl_e pl_x pl_p_n pl_p_f pl_s_n pl_s_f mi_pm mi_h mi_z mi_c mi_b mi_t mi_f mi_q mi_e mi_x mi_p_n mi_p_f mi_s_n mi_s_f tx_n tx_f) H := hP
        have hD : va_D A (wd_Find cA fi sc pg pg_a am am_a sy sy_a pt pl pl_p pl_p_a pl_s pl_s_a mi mi_p mi_p_a mi_s mi_s_a tx tx_a u4.1 u4.2 u2.2.2.1 u2.2.2.2.1 u2.2.2.2.2.1 u2.2.2.2.2.2 u6.1 u6.2.1 u6.2.2 sy_l sy_f pt_h pl_pm pl_h pl_z pl_c pl_b pl_t pl_f pl_q pl_e pl_x pl_p_n pl_p_f pl_s_n pl_s_f mi_pm mi_h mi_z mi_c mi_b mi_t mi_f mi_q mi_e mi_x mi_p_n mi_p_f mi_s_n mi_s_f tx_n tx_f) := hD
        refine lv_if_eq (tgt := 65) hx hb d_Fi_find_58 rfl (fun hc => ?_) (fun hc => ?_)
        · have hw := hw.1 ((bI_0 _).mp hc)
          refine lv_iconst (v := 0) hx hb d_Fi_find_65 (by decide) ?_
          exact ct_zret false hx hb hr hlk hK hS (u4.1, u4.2, u2.2.2.1, u2.2.2.2.1, u2.2.2.2.2.1, u2.2.2.2.2.2, u6.1, u6.2.1, u6.2.2) hw hP hD d_Fi_find_66
        · have hw := hw.2 ((bI_n0 _).mp hc)
          refine lv_iconst (v := 1) hx hb d_Fi_find_61 (by decide) ?_
          refine lv_goto (tgt := 66) hx hb d_Fi_find_62 rfl ?_
          exact ct_zret true hx hb hr hlk hK hS (u4.1, u4.2, u2.2.2.1, u2.2.2.2.1, u2.2.2.2.2.1, u2.2.2.2.2.2, u6.1, u6.2.1, u6.2.2) hw hP hD d_Fi_find_66
