/-! DecimalPatterns.isPlain(I)Z -/
def wp_isPlain (cd : Int32) (Q : Bool → Unit → Prop) : Prop := (cd < 32 → (Q false ())) ∧ (¬ cd < 32 → ((126 < cd → (Q false ())) ∧ (¬ 126 < cd → (Q true ()))))
set_option maxHeartbeats 4000000 in
set_option maxRecDepth 100000 in
theorem c_isPlain (l : Launch) (D : va_G) (cA : ClassId) (cd : Int32) (Q : Bool → Unit → Prop) (hw : wp_isPlain cd Q) : ct_M vwCl l D [(cA, .int)] y_isPlain w_isPlain { frames := 0, cells := 0, slots := 0, locals := 0 } [.int cd] (wd_Nil cA) (ct_qz vwCl D [(cA, .int)] Q (fun u => wd_Nil cA)) := by
  refine ct_enter (cc := b_isPlain) (maxL := 1) (ret := (some .boolean)) (by decide) rfl (Nat.le_of_ble_eq_true rfl) ?_
  intro p e s m args below meth c A ls hx hb hr hlk hml hts hown hA hS hP hK hN hD hl
  have hl : lv_has ls 1 [(0, .int cd)] := hl
  have htb : ∀ w ∈ tbl, w.before args s = true := fun w h => hts w (List.mem_cons_of_mem _ h)
  have hown : s.vm.findClass "DecimalPatterns" = some m.cls := hown
  unfold wp_isPlain at hw
  refine lv_iload_n hx hb d_isPlain_0 rfl (lv_at hl 0 rfl) ?_
  refine lv_bipush (v := 32) hx hb d_isPlain_1 (by decide) ?_
  refine lv_icmp_lt (tgt := 16) hx hb d_isPlain_3 rfl (fun hc => ?_) (fun hc => ?_)
  · have hw := hw.1 hc
    refine lv_iconst (v := 0) hx hb d_isPlain_16 (by decide) ?_
    exact ct_zret false hx hb hr hlk hK hS () hw hP hD d_isPlain_17
  · have hw := hw.2 hc
    refine lv_iload_n hx hb d_isPlain_6 rfl (lv_at hl 0 rfl) ?_
    refine lv_bipush (v := 126) hx hb d_isPlain_7 (by decide) ?_
    refine lv_icmp_gt (tgt := 16) hx hb d_isPlain_9 rfl (fun hc => ?_) (fun hc => ?_)
    · have hw := hw.1 hc
      refine lv_iconst (v := 0) hx hb d_isPlain_16 (by decide) ?_
      exact ct_zret false hx hb hr hlk hK hS () hw hP hD d_isPlain_17
    · have hw := hw.2 hc
      refine lv_iconst (v := 1) hx hb d_isPlain_12 (by decide) ?_
      refine lv_goto (tgt := 17) hx hb d_isPlain_13 rfl ?_
      exact ct_zret true hx hb hr hlk hK hS () hw hP hD d_isPlain_17
/-! DecimalPatterns$Row.add(I)Z -/
def wp_Row_add (rw_N : Nat) (rw_n : Int32) (rw_f : Nat → Int32) (cd : Int32) (Q : Bool → (Int32 × (Nat → Int32)) → Prop) : Prop := (rw_n < (nI rw_N) → (vp_in rw_n rw_N ∧ (Q true (rw_n + 1, upd rw_f rw_n.toNatClampNeg cd)))) ∧ (¬ rw_n < (nI rw_N) → (Q false (rw_n, rw_f)))
set_option maxHeartbeats 4000000 in
set_option maxRecDepth 100000 in
theorem c_Row_add (l : Launch) (D : va_G) (cA : ClassId) (rw rw_a : Nat) (rw_N : Nat) (rw_n : Int32) (rw_f : Nat → Int32) (cd : Int32) (Q : Bool → (Int32 × (Nat → Int32)) → Prop) (hw : wp_Row_add rw_N rw_n rw_f cd Q) : ct_M vwCl l D [(cA, .int)] y_Row_add w_Row_add { frames := 0, cells := 0, slots := 0, locals := 0 } [.ref rw, .int cd] (wd_Row cA rw rw_a rw_N rw_n rw_f) (ct_qz vwCl D [(cA, .int)] Q (fun u => wd_Row cA rw rw_a rw_N u.1 u.2)) := by
  refine ct_enter (cc := b_Row_add) (maxL := 2) (ret := (some .boolean)) (by decide) rfl (Nat.le_of_ble_eq_true rfl) ?_
  intro p e s m args below meth c A ls hx hb hr hlk hml hts hown hA hS hP hK hN hD hl
  have hl : lv_has ls 2 [(0, .ref rw), (1, .int cd)] := hl
  have htb : ∀ w ∈ tbl, w.before args s = true := fun w h => hts w (List.mem_cons_of_mem _ h)
  have hown : s.vm.findClass "DecimalPatterns$Row" = some m.cls := hown
  unfold wp_Row_add at hw
  refine lv_aload_n hx hb d_Row_add_0 rfl (lv_at hl 0 rfl) ?_
  refine va_get (ci := 4) (C := R_Rw) (T := F_Rw) (N := 2) hx hb htb in_Rw hown hK hP 0 rfl rfl 1 (by decide) (htb _ tw101) (fun _ h9 => h9) rfl d_Row_add_1 ?_
  refine lv_aload_n hx hb d_Row_add_4 rfl (lv_at hl 0 rfl) ?_
  refine va_get (ci := 4) (C := R_Rw) (T := F_Rw) (N := 2) hx hb htb in_Rw hown hK hP 0 rfl rfl 0 (by decide) (htb _ tw100) (fun _ h9 => h9) rfl d_Row_add_5 ?_
  refine va_alen (v := nI rw_N) hx hb hK hP 1 0 rfl rfl rfl d_Row_add_8 ?_
  refine lv_icmp_lt (tgt := 14) hx hb d_Row_add_9 rfl (fun hc => ?_) (fun hc => ?_)
  · have hw := hw.1 hc
    refine lv_aload_n hx hb d_Row_add_14 rfl (lv_at hl 0 rfl) ?_
    refine va_get (ci := 4) (C := R_Rw) (T := F_Rw) (N := 2) hx hb htb in_Rw hown hK hP 0 rfl rfl 0 (by decide) (htb _ tw100) (fun _ h9 => h9) rfl d_Row_add_15 ?_
    refine lv_aload_n hx hb d_Row_add_18 rfl (lv_at hl 0 rfl) ?_
    refine va_get (ci := 4) (C := R_Rw) (T := F_Rw) (N := 2) hx hb htb in_Rw hown hK hP 0 rfl rfl 1 (by decide) (htb _ tw101) (fun _ h9 => h9) rfl d_Row_add_19 ?_
    refine lv_iload_n hx hb d_Row_add_22 rfl (lv_at hl 1 rfl) ?_
    have hi := hw.1
    have hw := hw.2
    refine va_iast hx hb hK hP hD hS 1 0 rfl rfl hi d_Row_add_23 (fun H locs hP hD hS => ?_)
    have hP : va_P D vwCl (wd_Row cA rw rw_a rw_N rw_n (upd rw_f rw_n.toNatClampNeg cd)) H := hP
    have hD : va_D A (wd_Row cA rw rw_a rw_N rw_n (upd rw_f rw_n.toNatClampNeg cd)) := hD
    refine lv_aload_n hx hb d_Row_add_24 rfl (lv_at hl 0 rfl) ?_
    refine lv_dup hx hb d_Row_add_25 rfl ?_
    refine va_get (ci := 4) (C := R_Rw) (T := F_Rw) (N := 2) hx hb htb in_Rw hown hK hP 0 rfl rfl 1 (by decide) (htb _ tw101) (fun _ h9 => h9) rfl d_Row_add_26 ?_
    refine lv_iconst (v := 1) hx hb d_Row_add_29 (by decide) ?_
    refine lv_iadd hx hb d_Row_add_30 ?_
    refine va_put (ci := 4) (v := .int (rw_n + 1)) (ty := .int) (C := R_Rw) (T := F_Rw) (N := 2) hx hb htb in_Rw t_Rw t_Rw_ok n_Rw hown hK hP hD hS 0 rfl rfl 1 (by decide) (htb _ tw101) (fun _ h9 => h9) rfl (by decide +kernel) rfl rfl (Nat.le_of_ble_eq_true rfl) d_Row_add_31 (fun H locs hP hD hS => ?_)
    have hP : va_P D vwCl (wd_Row cA rw rw_a rw_N (rw_n + 1) (upd rw_f rw_n.toNatClampNeg cd)) H := hP
    have hD : va_D A (wd_Row cA rw rw_a rw_N (rw_n + 1) (upd rw_f rw_n.toNatClampNeg cd)) := hD
    refine lv_iconst (v := 1) hx hb d_Row_add_34 (by decide) ?_
    exact ct_zret true hx hb hr hlk hK hS (rw_n + 1, upd rw_f rw_n.toNatClampNeg cd) hw hP hD d_Row_add_35
  · have hw := hw.2 hc
    refine lv_iconst (v := 0) hx hb d_Row_add_12 (by decide) ?_
    exact ct_zret false hx hb hr hlk hK hS (rw_n, rw_f) hw hP hD d_Row_add_13
/-! DecimalPatterns$Row.clear()V -/
def wp_Row_clear (rw_n : Int32) (Q : Int32 → Prop) : Prop := Q 0
set_option maxHeartbeats 4000000 in
set_option maxRecDepth 100000 in
theorem c_Row_clear (l : Launch) (D : va_G) (cA : ClassId) (rw rw_a : Nat) (rw_N : Nat) (rw_n : Int32) (rw_f : Nat → Int32) (Q : Int32 → Prop) (hw : wp_Row_clear rw_n Q) : ct_M vwCl l D [(cA, .int)] y_Row_clear w_Row_clear { frames := 0, cells := 0, slots := 0, locals := 0 } [.ref rw] (wd_Row cA rw rw_a rw_N rw_n rw_f) (ct_qv vwCl D [(cA, .int)] Q (fun u => wd_Row cA rw rw_a rw_N u rw_f)) := by
  refine ct_enter (cc := b_Row_clear) (maxL := 1) (ret := none) (by decide) rfl (Nat.le_of_ble_eq_true rfl) ?_
  intro p e s m args below meth c A ls hx hb hr hlk hml hts hown hA hS hP hK hN hD hl
  have hl : lv_has ls 1 [(0, .ref rw)] := hl
  have htb : ∀ w ∈ tbl, w.before args s = true := fun w h => hts w (List.mem_cons_of_mem _ h)
  have hown : s.vm.findClass "DecimalPatterns$Row" = some m.cls := hown
  unfold wp_Row_clear at hw
  refine lv_aload_n hx hb d_Row_clear_0 rfl (lv_at hl 0 rfl) ?_
  refine lv_iconst (v := 0) hx hb d_Row_clear_1 (by decide) ?_
  refine va_put (ci := 4) (v := .int 0) (ty := .int) (C := R_Rw) (T := F_Rw) (N := 2) hx hb htb in_Rw t_Rw t_Rw_ok n_Rw hown hK hP hD hS 0 rfl rfl 1 (by decide) (htb _ tw101) (fun _ h9 => h9) rfl (by decide +kernel) rfl rfl (Nat.le_of_ble_eq_true rfl) d_Row_clear_2 (fun H locs hP hD hS => ?_)
  have hP : va_P D vwCl (wd_Row cA rw rw_a rw_N 0 rw_f) H := hP
  have hD : va_D A (wd_Row cA rw rw_a rw_N 0 rw_f) := hD
  exact ct_vret hx hb hr hlk hK hS 0 hw hP hD d_Row_clear_5
/-! DecimalPatterns$Row.has(I)Z -/
def wp_Row_has (rw_n : Int32) (ix : Int32) (Q : Bool → Unit → Prop) : Prop := (ix < 0 → (Q false ())) ∧ (¬ ix < 0 → ((rw_n ≤ ix → (Q false ())) ∧ (¬ rw_n ≤ ix → (Q true ()))))
set_option maxHeartbeats 4000000 in
set_option maxRecDepth 100000 in
theorem c_Row_has (l : Launch) (D : va_G) (cA : ClassId) (rw rw_a : Nat) (rw_N : Nat) (rw_n : Int32) (rw_f : Nat → Int32) (ix : Int32) (Q : Bool → Unit → Prop) (hw : wp_Row_has rw_n ix Q) : ct_M vwCl l D [(cA, .int)] y_Row_has w_Row_has { frames := 0, cells := 0, slots := 0, locals := 0 } [.ref rw, .int ix] (wd_Row cA rw rw_a rw_N rw_n rw_f) (ct_qz vwCl D [(cA, .int)] Q (fun u => wd_Row cA rw rw_a rw_N rw_n rw_f)) := by
  refine ct_enter (cc := b_Row_has) (maxL := 2) (ret := (some .boolean)) (by decide) rfl (Nat.le_of_ble_eq_true rfl) ?_
  intro p e s m args below meth c A ls hx hb hr hlk hml hts hown hA hS hP hK hN hD hl
  have hl : lv_has ls 2 [(0, .ref rw), (1, .int ix)] := hl
  have htb : ∀ w ∈ tbl, w.before args s = true := fun w h => hts w (List.mem_cons_of_mem _ h)
  have hown : s.vm.findClass "DecimalPatterns$Row" = some m.cls := hown
  unfold wp_Row_has at hw
  refine lv_iload_n hx hb d_Row_has_0 rfl (lv_at hl 1 rfl) ?_
  refine lv_if_lt (tgt := 16) hx hb d_Row_has_1 rfl (fun hc => ?_) (fun hc => ?_)
  · have hw := hw.1 hc
    refine lv_iconst (v := 0) hx hb d_Row_has_16 (by decide) ?_
    exact ct_zret false hx hb hr hlk hK hS () hw hP hD d_Row_has_17
  · have hw := hw.2 hc
    refine lv_iload_n hx hb d_Row_has_4 rfl (lv_at hl 1 rfl) ?_
    refine lv_aload_n hx hb d_Row_has_5 rfl (lv_at hl 0 rfl) ?_
    refine va_get (ci := 4) (C := R_Rw) (T := F_Rw) (N := 2) hx hb htb in_Rw hown hK hP 0 rfl rfl 1 (by decide) (htb _ tw101) (fun _ h9 => h9) rfl d_Row_has_6 ?_
    refine lv_icmp_ge (tgt := 16) hx hb d_Row_has_9 rfl (fun hc => ?_) (fun hc => ?_)
    · have hw := hw.1 hc
      refine lv_iconst (v := 0) hx hb d_Row_has_16 (by decide) ?_
      exact ct_zret false hx hb hr hlk hK hS () hw hP hD d_Row_has_17
    · have hw := hw.2 hc
      refine lv_iconst (v := 1) hx hb d_Row_has_12 (by decide) ?_
      refine lv_goto (tgt := 17) hx hb d_Row_has_13 rfl ?_
      exact ct_zret true hx hb hr hlk hK hS () hw hP hD d_Row_has_17
/-! DecimalPatterns$Row.code(I)I -/
def wp_Row_code (rw_N : Nat) (rw_n : Int32) (rw_f : Nat → Int32) (ix : Int32) (Q : Int32 → Unit → Prop) : Prop := wp_Row_has rw_n ix (fun r1 u2 => (r1 = false → (Q (-1) ())) ∧ (r1 = true → (vp_in ix rw_N ∧ (Q (rw_f ix.toNatClampNeg) ()))))
set_option maxHeartbeats 4000000 in
set_option maxRecDepth 100000 in
theorem c_Row_code (l : Launch) (D : va_G) (cA : ClassId) (rw rw_a : Nat) (rw_N : Nat) (rw_n : Int32) (rw_f : Nat → Int32) (ix : Int32) (Q : Int32 → Unit → Prop) (hw : wp_Row_code rw_N rw_n rw_f ix Q) : ct_M vwCl l D [(cA, .int)] y_Row_code w_Row_code { frames := 1, cells := 0, slots := 0, locals := 21 } [.ref rw, .int ix] (wd_Row cA rw rw_a rw_N rw_n rw_f) (ct_qi vwCl D [(cA, .int)] Q (fun u => wd_Row cA rw rw_a rw_N rw_n rw_f)) := by
  refine ct_enter (cc := b_Row_code) (maxL := 2) (ret := (some .int)) (by decide) rfl (Nat.le_of_ble_eq_true rfl) ?_
  intro p e s m args below meth c A ls hx hb hr hlk hml hts hown hA hS hP hK hN hD hl
  have hl : lv_has ls 2 [(0, .ref rw), (1, .int ix)] := hl
  have htb : ∀ w ∈ tbl, w.before args s = true := fun w h => hts w (List.mem_cons_of_mem _ h)
  have hown : s.vm.findClass "DecimalPatterns$Row" = some m.cls := hown
  unfold wp_Row_code at hw
  refine lv_aload_n hx hb d_Row_code_0 rfl (lv_at hl 0 rfl) ?_
  refine lv_iload_n hx hb d_Row_code_1 rfl (lv_at hl 1 rfl) ?_
  refine ct_callz (wn := fun _ => wd_Row cA rw rw_a rw_N rw_n rw_f) (va_runV (As := [.int ix]) (rest := []) ⟨hx, hb, hml, hown, htb⟩ (c_Row_has l D cA rw rw_a rw_N rw_n rw_f ix _ hw _) (ct_cwV 1 htb tw383 rfl rfl tw73 tw380 tw381 tw382 hd_Row_has ⟨by decide, by decide⟩) (ct_preV hP hD hK hN [0, 1] rfl (by decide) 0 rfl rfl _) rfl rfl hl.1 rfl (lv_room (Nat.le_of_ble_eq_true rfl)) d_Row_code_2 ⟨Nat.zero_le _, Nat.zero_le _⟩) hP hD hS hA [0, 1] [] [0, 1] rfl rfl (by decide) (by decide) (fun _ => rfl) (by decide) (fun r1 u2 H locs hw hP hD hS => ?_)
  have hP : va_P D vwCl (wd_Row cA rw rw_a rw_N rw_n rw_f) H := hP
  have hD : va_D A (wd_Row cA rw rw_a rw_N rw_n rw_f) := hD
  refine lv_if_eq (tgt := 17) hx hb d_Row_code_5 rfl (fun hc => ?_) (fun hc => ?_)
  · have hw := hw.1 ((bI_0 _).mp hc)
    refine lv_iconst (v := (-1)) hx hb d_Row_code_17 (by decide) ?_
    exact ct_iret hx hb hr hlk hK hS () hw hP hD d_Row_code_18
  · have hw := hw.2 ((bI_n0 _).mp hc)
    refine lv_aload_n hx hb d_Row_code_8 rfl (lv_at hl 0 rfl) ?_
    refine va_get (ci := 4) (C := R_Rw) (T := F_Rw) (N := 2) hx hb htb in_Rw hown hK hP 0 rfl rfl 0 (by decide) (htb _ tw100) (fun _ h9 => h9) rfl d_Row_code_9 ?_
    refine lv_iload_n hx hb d_Row_code_12 rfl (lv_at hl 1 rfl) ?_
    have hi := hw.1
    have hw := hw.2
    refine va_iald hx hb hK hP 1 0 rfl rfl hi d_Row_code_13 ?_
    refine lv_goto (tgt := 18) hx hb d_Row_code_14 rfl ?_
    exact ct_iret hx hb hr hlk hK hS () hw hP hD d_Row_code_18
/-! DecimalPatterns$Row.copyFrom(LDecimalPatterns$Row;)V -/
def wp_Row_copyFrom_L60 : Nat → Nat → Nat → Int32 → (Nat → Int32) → Int32 → Int32 → (Nat → Int32) → ((Int32 × (Nat → Int32)) → Prop) → Prop
  | 0, _, _, _, _, _, _, _, _ => False
  | n60 + 1, rw_N, ot_N, ot_n, ot_f, x2, rw_n, rw_f, Q => (ot_n ≤ x2 → (Q (rw_n, rw_f))) ∧ (¬ ot_n ≤ x2 → (wp_Row_code ot_N ot_n ot_f x2 (fun r3 u4 => wp_Row_add rw_N rw_n rw_f r3 (fun r5 u6 => wp_Row_copyFrom_L60 n60 rw_N ot_N ot_n ot_f (x2 + 1) u6.1 u6.2 Q))))
def wp_Row_copyFrom (rw_N ot_N : Nat) (rw_n : Int32) (rw_f : Nat → Int32) (ot_n : Int32) (ot_f : Nat → Int32) (Q : (Int32 × (Nat → Int32)) → Prop) : Prop := wp_Row_clear rw_n (fun u2 => ∃ n60, wp_Row_copyFrom_L60 n60 rw_N ot_N ot_n ot_f 0 u2 rw_f Q)
set_option maxHeartbeats 4000000 in
set_option maxRecDepth 100000 in
theorem c_Row_copyFrom (l : Launch) (D : va_G) (cA : ClassId) (rw rw_a ot ot_a : Nat) (rw_N ot_N : Nat) (rw_n : Int32) (rw_f : Nat → Int32) (ot_n : Int32) (ot_f : Nat → Int32) (Q : (Int32 × (Nat → Int32)) → Prop) (hw : wp_Row_copyFrom rw_N ot_N rw_n rw_f ot_n ot_f Q) : ct_M vwCl l D [(cA, .int)] y_Row_copyFrom w_Row_copyFrom { frames := 2, cells := 0, slots := 0, locals := 42 } [.ref rw, .ref ot] (wd_Row2 cA rw rw_a ot ot_a rw_N ot_N rw_n rw_f ot_n ot_f) (ct_qv vwCl D [(cA, .int)] Q (fun u => wd_Row2 cA rw rw_a ot ot_a rw_N ot_N u.1 u.2 ot_n ot_f)) := by
  refine ct_enter (cc := b_Row_copyFrom) (maxL := 3) (ret := none) (by decide) rfl (Nat.le_of_ble_eq_true rfl) ?_
  intro p e s m args below meth c A ls hx hb hr hlk hml hts hown hA hS hP hK hN hD hl
  have hl : lv_has ls 3 [(0, .ref rw), (1, .ref ot)] := hl
  have htb : ∀ w ∈ tbl, w.before args s = true := fun w h => hts w (List.mem_cons_of_mem _ h)
  have hown : s.vm.findClass "DecimalPatterns$Row" = some m.cls := hown
  unfold wp_Row_copyFrom at hw
  have hL60 : ∀ (n60 : Nat) (x2 : Int32) (rw_n : Int32) (rw_f : Nat → Int32) (H : Heap) (locs : List Loc) (ls : Array Slot), lv_has ls 3 [(0, .ref rw), (1, .ref ot), (2, .int x2)] → va_P D vwCl (wd_Row2 cA rw rw_a ot ot_a rw_N ot_N rw_n rw_f ot_n ot_f) H → va_D A (wd_Row2 cA rw rw_a ot ot_a rw_N ot_N rw_n rw_f ot_n ot_f) → va_S A s.heap H locs → wp_Row_copyFrom_L60 n60 rw_N ot_N ot_n ot_f x2 rw_n rw_f Q → W p l e { frames := 2, cells := 0, slots := 0, locals := 42 } s m args below meth c H locs 0 0 (MQ below (ct_qv vwCl D [(cA, .int)] Q (fun u => wd_Row2 cA rw rw_a ot ot_a rw_N ot_N u.1 u.2 ot_n ot_f) A) args s 0 0 A) (F0 m 6 ls []) := by
    intro n60
    induction n60 with
    | zero => intro x2 rw_n rw_f H locs ls hl hP hD hS hw; exact hw.elim
    | succ n60 ih60 =>
      intro x2 rw_n rw_f H locs ls hl hP hD hS hw
      unfold wp_Row_copyFrom_L60 at hw
      refine lv_iload_n hx hb d_Row_copyFrom_6 rfl (lv_at hl 2 rfl) ?_
      refine lv_aload_n hx hb d_Row_copyFrom_7 rfl (lv_at hl 1 rfl) ?_
      refine va_get (ci := 4) (C := R_Rw) (T := F_Rw) (N := 2) hx hb htb in_Rw hown hK hP 2 rfl rfl 1 (by decide) (htb _ tw101) (fun _ h9 => h9) rfl d_Row_copyFrom_8 ?_
      refine lv_icmp_ge (tgt := 30) hx hb d_Row_copyFrom_11 rfl (fun hc => ?_) (fun hc => ?_)
      · have hw := hw.1 hc
        exact ct_vret hx hb hr hlk hK hS (rw_n, rw_f) hw hP hD d_Row_copyFrom_30
      · have hw := hw.2 hc
        refine lv_aload_n hx hb d_Row_copyFrom_14 rfl (lv_at hl 0 rfl) ?_
        refine lv_aload_n hx hb d_Row_copyFrom_15 rfl (lv_at hl 1 rfl) ?_
        refine lv_iload_n hx hb d_Row_copyFrom_16 rfl (lv_at hl 2 rfl) ?_
        refine ct_calli (wn := fun _ => wd_Row2 cA rw rw_a ot ot_a rw_N ot_N rw_n rw_f ot_n ot_f) (va_runV (As := [.int x2]) (rest := [.ref rw]) ⟨hx, hb, hml, hown, htb⟩ (c_Row_code l D cA ot ot_a ot_N ot_n ot_f x2 _ hw _) (ct_cwV 1 htb tw379 rfl rfl tw73 tw606 tw377 tw378 hd_Row_code ⟨by decide, by decide⟩) (ct_preV hP hD hK hN [2, 3] rfl (by decide) 2 rfl rfl _) rfl rfl hl.1 rfl (lv_room (Nat.le_of_ble_eq_true rfl)) d_Row_copyFrom_17 ⟨Nat.zero_le _, Nat.zero_le _⟩) hP hD hS hA [2, 3] [0, 1] [0, 1, 2, 3] rfl rfl (by decide) (by decide) (fun _ => rfl) (by decide) (fun r3 u4 H locs hw hP hD hS => ?_)
        have hP : va_P D vwCl (wd_Row2 cA rw rw_a ot ot_a rw_N ot_N rw_n rw_f ot_n ot_f) H := hP
        have hD : va_D A (wd_Row2 cA rw rw_a ot ot_a rw_N ot_N rw_n rw_f ot_n ot_f) := hD
        refine ct_callz (wn := fun u6 => wd_Row2 cA rw rw_a ot ot_a rw_N ot_N u6.1 u6.2 ot_n ot_f) (va_runV (As := [.int r3]) (rest := []) ⟨hx, hb, hml, hown, htb⟩ (c_Row_add l D cA rw rw_a rw_N rw_n rw_f r3 _ hw _) (ct_cwV 1 htb tw346 rfl rfl tw73 tw607 tw344 tw345 hd_Row_add ⟨by decide, by decide⟩) (ct_preV hP hD hK hN [0, 1] rfl (by decide) 0 rfl rfl _) rfl rfl hl.1 rfl (lv_room (Nat.le_of_ble_eq_true rfl)) d_Row_copyFrom_20 ⟨Nat.zero_le _, Nat.zero_le _⟩) hP hD hS hA [0, 1] [2, 3] [2, 3, 0, 1] rfl rfl (by decide) (by decide) (fun _ => rfl) (by decide) (fun r5 u6 H locs hw hP hD hS => ?_)
        have hP : va_P D vwCl (wd_Row2 cA rw rw_a ot ot_a rw_N ot_N u6.1 u6.2 ot_n ot_f) H := hP
        have hD : va_D A (wd_Row2 cA rw rw_a ot ot_a rw_N ot_N u6.1 u6.2 ot_n ot_f) := hD
        refine lv_pop hx hb d_Row_copyFrom_23 rfl ?_
        refine lv_iinc (k := 2) (v := x2 + 1) (lv' := [(2, .int (x2 + 1)), (0, .ref rw), (1, .ref ot)]) hx hb d_Row_copyFrom_24 hl rfl (by rfl) (by decide) rfl (fun ls hl => ?_)
        refine lv_goto (tgt := 6) hx hb d_Row_copyFrom_27 rfl ?_
        exact ih60 (x2 + 1) u6.1 u6.2 _ _ _ (lv_sub hl [1, 2, 0] rfl) hP hD hS hw
  refine lv_aload_n hx hb d_Row_copyFrom_0 rfl (lv_at hl 0 rfl) ?_
  refine ct_callv (wn := fun u2 => wd_Row2 cA rw rw_a ot ot_a rw_N ot_N u2 rw_f ot_n ot_f) (va_runV (As := []) (rest := []) ⟨hx, hb, hml, hown, htb⟩ (c_Row_clear l D cA rw rw_a rw_N rw_n rw_f _ hw _) (ct_cwV 0 htb tw354 rfl rfl tw73 tw605 tw352 tw353 hd_Row_clear ⟨by decide, by decide⟩) (ct_preV hP hD hK hN [0, 1] rfl (by decide) 0 rfl rfl _) rfl rfl hl.1 rfl (lv_room (Nat.le_of_ble_eq_true rfl)) d_Row_copyFrom_1 ⟨Nat.zero_le _, Nat.zero_le _⟩) hP hD hS hA [0, 1] [2, 3] [2, 3, 0, 1] rfl rfl (by decide) (by decide) (fun _ => rfl) (by decide) (fun u2 H locs hw hP hD hS => ?_)
  have hP : va_P D vwCl (wd_Row2 cA rw rw_a ot ot_a rw_N ot_N u2 rw_f ot_n ot_f) H := hP
  have hD : va_D A (wd_Row2 cA rw rw_a ot ot_a rw_N ot_N u2 rw_f ot_n ot_f) := hD
  refine lv_iconst (v := 0) hx hb d_Row_copyFrom_4 (by decide) ?_
  refine lv_istore_n (lv' := [(2, .int 0), (0, .ref rw), (1, .ref ot)]) hx hb d_Row_copyFrom_5 rfl hl (by decide) rfl (fun ls hl => ?_)
  obtain ⟨n60, hw⟩ := hw
  exact hL60 n60 0 u2 rw_f _ _ _ (lv_sub hl [1, 2, 0] rfl) hP hD hS hw
/-! DecimalPatterns$Row.isSameAs(LDecimalPatterns$Row;)Z -/
def wp_Row_isSameAs_L150 : Nat → Nat → Nat → Int32 → (Nat → Int32) → Int32 → (Nat → Int32) → Int32 → (Bool → Unit → Prop) → Prop
  | 0, _, _, _, _, _, _, _, _ => False
  | n150 + 1, rw_N, ot_N, rw_n, rw_f, ot_n, ot_f, x2, Q => (rw_n ≤ x2 → (Q true ())) ∧ (¬ rw_n ≤ x2 → (wp_Row_code rw_N rw_n rw_f x2 (fun r1 u2 => wp_Row_code ot_N ot_n ot_f x2 (fun r3 u4 => (r1 = r3 → (wp_Row_isSameAs_L150 n150 rw_N ot_N rw_n rw_f ot_n ot_f (x2 + 1) Q)) ∧ (¬ r1 = r3 → (Q false ()))))))
def wp_Row_isSameAs (rw_N ot_N : Nat) (rw_n : Int32) (rw_f : Nat → Int32) (ot_n : Int32) (ot_f : Nat → Int32) (Q : Bool → Unit → Prop) : Prop := (rw_n = ot_n → (∃ n150, wp_Row_isSameAs_L150 n150 rw_N ot_N rw_n rw_f ot_n ot_f 0 Q)) ∧ (¬ rw_n = ot_n → (Q false ()))
set_option maxHeartbeats 4000000 in
set_option maxRecDepth 100000 in
theorem c_Row_isSameAs (l : Launch) (D : va_G) (cA : ClassId) (rw rw_a ot ot_a : Nat) (rw_N ot_N : Nat) (rw_n : Int32) (rw_f : Nat → Int32) (ot_n : Int32) (ot_f : Nat → Int32) (Q : Bool → Unit → Prop) (hw : wp_Row_isSameAs rw_N ot_N rw_n rw_f ot_n ot_f Q) : ct_M vwCl l D [(cA, .int)] y_Row_isSameAs w_Row_isSameAs { frames := 2, cells := 0, slots := 0, locals := 42 } [.ref rw, .ref ot] (wd_Row2 cA rw rw_a ot ot_a rw_N ot_N rw_n rw_f ot_n ot_f) (ct_qz vwCl D [(cA, .int)] Q (fun u => wd_Row2 cA rw rw_a ot ot_a rw_N ot_N rw_n rw_f ot_n ot_f)) := by
  refine ct_enter (cc := b_Row_isSameAs) (maxL := 3) (ret := (some .boolean)) (by decide) rfl (Nat.le_of_ble_eq_true rfl) ?_
  intro p e s m args below meth c A ls hx hb hr hlk hml hts hown hA hS hP hK hN hD hl
  have hl : lv_has ls 3 [(0, .ref rw), (1, .ref ot)] := hl
  have htb : ∀ w ∈ tbl, w.before args s = true := fun w h => hts w (List.mem_cons_of_mem _ h)
  have hown : s.vm.findClass "DecimalPatterns$Row" = some m.cls := hown
  unfold wp_Row_isSameAs at hw
  have hL150 : ∀ (n150 : Nat) (x2 : Int32) (H : Heap) (locs : List Loc) (ls : Array Slot), lv_has ls 3 [(0, .ref rw), (1, .ref ot), (2, .int x2)] → va_P D vwCl (wd_Row2 cA rw rw_a ot ot_a rw_N ot_N rw_n rw_f ot_n ot_f) H → va_D A (wd_Row2 cA rw rw_a ot ot_a rw_N ot_N rw_n rw_f ot_n ot_f) → va_S A s.heap H locs → wp_Row_isSameAs_L150 n150 rw_N ot_N rw_n rw_f ot_n ot_f x2 Q → W p l e { frames := 2, cells := 0, slots := 0, locals := 42 } s m args below meth c H locs 0 0 (MQ below (ct_qz vwCl D [(cA, .int)] Q (fun u => wd_Row2 cA rw rw_a ot ot_a rw_N ot_N rw_n rw_f ot_n ot_f) A) args s 0 0 A) (F0 m 15 ls []) := by
    intro n150
    induction n150 with
    | zero => intro x2 H locs ls hl hP hD hS hw; exact hw.elim
    | succ n150 ih150 =>
      intro x2 H locs ls hl hP hD hS hw
      unfold wp_Row_isSameAs_L150 at hw
      refine lv_iload_n hx hb d_Row_isSameAs_15 rfl (lv_at hl 2 rfl) ?_
      refine lv_aload_n hx hb d_Row_isSameAs_16 rfl (lv_at hl 0 rfl) ?_
      refine va_get (ci := 4) (C := R_Rw) (T := F_Rw) (N := 2) hx hb htb in_Rw hown hK hP 0 rfl rfl 1 (by decide) (htb _ tw101) (fun _ h9 => h9) rfl d_Row_isSameAs_17 ?_
      refine lv_icmp_ge (tgt := 44) hx hb d_Row_isSameAs_20 rfl (fun hc => ?_) (fun hc => ?_)
      · have hw := hw.1 hc
        refine lv_iconst (v := 1) hx hb d_Row_isSameAs_44 (by decide) ?_
        exact ct_zret true hx hb hr hlk hK hS () hw hP hD d_Row_isSameAs_45
      · have hw := hw.2 hc
        refine lv_aload_n hx hb d_Row_isSameAs_23 rfl (lv_at hl 0 rfl) ?_
        refine lv_iload_n hx hb d_Row_isSameAs_24 rfl (lv_at hl 2 rfl) ?_
        refine ct_calli (wn := fun _ => wd_Row2 cA rw rw_a ot ot_a rw_N ot_N rw_n rw_f ot_n ot_f) (va_runV (As := [.int x2]) (rest := []) ⟨hx, hb, hml, hown, htb⟩ (c_Row_code l D cA rw rw_a rw_N rw_n rw_f x2 _ hw _) (ct_cwV 1 htb tw379 rfl rfl tw73 tw606 tw377 tw378 hd_Row_code ⟨by decide, by decide⟩) (ct_preV hP hD hK hN [0, 1] rfl (by decide) 0 rfl rfl _) rfl rfl hl.1 rfl (lv_room (Nat.le_of_ble_eq_true rfl)) d_Row_isSameAs_25 ⟨Nat.zero_le _, Nat.zero_le _⟩) hP hD hS hA [0, 1] [2, 3] [2, 3, 0, 1] rfl rfl (by decide) (by decide) (fun _ => rfl) (by decide) (fun r1 u2 H locs hw hP hD hS => ?_)
        have hP : va_P D vwCl (wd_Row2 cA rw rw_a ot ot_a rw_N ot_N rw_n rw_f ot_n ot_f) H := hP
        have hD : va_D A (wd_Row2 cA rw rw_a ot ot_a rw_N ot_N rw_n rw_f ot_n ot_f) := hD
        refine lv_aload_n hx hb d_Row_isSameAs_28 rfl (lv_at hl 1 rfl) ?_
        refine lv_iload_n hx hb d_Row_isSameAs_29 rfl (lv_at hl 2 rfl) ?_
        refine ct_calli (wn := fun _ => wd_Row2 cA rw rw_a ot ot_a rw_N ot_N rw_n rw_f ot_n ot_f) (va_runV (As := [.int x2]) (rest := [.int r1]) ⟨hx, hb, hml, hown, htb⟩ (c_Row_code l D cA ot ot_a ot_N ot_n ot_f x2 _ hw _) (ct_cwV 1 htb tw379 rfl rfl tw73 tw606 tw377 tw378 hd_Row_code ⟨by decide, by decide⟩) (ct_preV hP hD hK hN [2, 3] rfl (by decide) 2 rfl rfl _) rfl rfl hl.1 rfl (lv_room (Nat.le_of_ble_eq_true rfl)) d_Row_isSameAs_30 ⟨Nat.zero_le _, Nat.zero_le _⟩) hP hD hS hA [2, 3] [0, 1] [0, 1, 2, 3] rfl rfl (by decide) (by decide) (fun _ => rfl) (by decide) (fun r3 u4 H locs hw hP hD hS => ?_)
        have hP : va_P D vwCl (wd_Row2 cA rw rw_a ot ot_a rw_N ot_N rw_n rw_f ot_n ot_f) H := hP
        have hD : va_D A (wd_Row2 cA rw rw_a ot ot_a rw_N ot_N rw_n rw_f ot_n ot_f) := hD
        refine lv_icmp_eq (tgt := 38) hx hb d_Row_isSameAs_33 rfl (fun hc => ?_) (fun hc => ?_)
        · have hw := hw.1 hc
          refine lv_iinc (k := 2) (v := x2 + 1) (lv' := [(2, .int (x2 + 1)), (0, .ref rw), (1, .ref ot)]) hx hb d_Row_isSameAs_38 hl rfl (by rfl) (by decide) rfl (fun ls hl => ?_)
          refine lv_goto (tgt := 15) hx hb d_Row_isSameAs_41 rfl ?_
          exact ih150 (x2 + 1) _ _ _ (lv_sub hl [1, 2, 0] rfl) hP hD hS hw
        · have hw := hw.2 hc
          refine lv_iconst (v := 0) hx hb d_Row_isSameAs_36 (by decide) ?_
          exact ct_zret false hx hb hr hlk hK hS () hw hP hD d_Row_isSameAs_37
  refine lv_aload_n hx hb d_Row_isSameAs_0 rfl (lv_at hl 0 rfl) ?_
  refine va_get (ci := 4) (C := R_Rw) (T := F_Rw) (N := 2) hx hb htb in_Rw hown hK hP 0 rfl rfl 1 (by decide) (htb _ tw101) (fun _ h9 => h9) rfl d_Row_isSameAs_1 ?_
  refine lv_aload_n hx hb d_Row_isSameAs_4 rfl (lv_at hl 1 rfl) ?_
  refine va_get (ci := 4) (C := R_Rw) (T := F_Rw) (N := 2) hx hb htb in_Rw hown hK hP 2 rfl rfl 1 (by decide) (htb _ tw101) (fun _ h9 => h9) rfl d_Row_isSameAs_5 ?_
  refine lv_icmp_eq (tgt := 13) hx hb d_Row_isSameAs_8 rfl (fun hc => ?_) (fun hc => ?_)
  · have hw := hw.1 hc
    refine lv_iconst (v := 0) hx hb d_Row_isSameAs_13 (by decide) ?_
    refine lv_istore_n (lv' := [(2, .int 0), (0, .ref rw), (1, .ref ot)]) hx hb d_Row_isSameAs_14 rfl hl (by decide) rfl (fun ls hl => ?_)
    obtain ⟨n150, hw⟩ := hw
    exact hL150 n150 0 _ _ _ (lv_sub hl [1, 2, 0] rfl) hP hD hS hw
  · have hw := hw.2 hc
    refine lv_iconst (v := 0) hx hb d_Row_isSameAs_11 (by decide) ?_
    exact ct_zret false hx hb hr hlk hK hS () hw hP hD d_Row_isSameAs_12
