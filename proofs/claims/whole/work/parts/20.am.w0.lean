/-! DecimalPatterns$Amount.digit(I)I -/
def wp_Am_digit (am_f : Nat → Int32) (pw : Int32) (Q : Int32 → Unit → Prop) : Prop := (pw < (-18) → (Q 0 ())) ∧ (¬ pw < (-18) → ((21 < pw → (Q 0 ())) ∧ (¬ 21 < pw → (vp_in (pw - (-18)) 40 ∧ (Q (am_f (pw - (-18)).toNatClampNeg) ())))))
set_option maxHeartbeats 4000000 in
set_option maxRecDepth 100000 in
theorem c_Am_digit (l : Launch) (D : va_G) (cA : ClassId) (am am_a : Nat) (am_f : Nat → Int32) (pw : Int32) (Q : Int32 → Unit → Prop) (hw : wp_Am_digit am_f pw Q) : ct_M vwCl l D [(cA, .int)] y_Am_digit w_Am_digit { frames := 0, cells := 0, slots := 0, locals := 0 } [.ref am, .int pw] (wd_Am cA am am_a am_f) (ct_qi vwCl D [(cA, .int)] Q (fun u => wd_Am cA am am_a am_f)) := by
  refine ct_enter (cc := b_Am_digit) (maxL := 2) (ret := (some .int)) (by decide) rfl (Nat.le_of_ble_eq_true rfl) ?_
  intro p e s m args below meth c A ls hx hb hr hlk hml hts hown hA hS hP hK hN hD hl
  have hl : lv_has ls 2 [(0, .ref am), (1, .int pw)] := hl
  have htb : ∀ w ∈ tbl, w.before args s = true := fun w h => hts w (List.mem_cons_of_mem _ h)
  have hown : s.vm.findClass "DecimalPatterns$Amount" = some m.cls := hown
  unfold wp_Am_digit at hw
  refine lv_iload_n hx hb d_Am_digit_0 rfl (lv_at hl 1 rfl) ?_
  refine lv_bipush (v := (-18)) hx hb d_Am_digit_1 (by decide) ?_
  refine lv_icmp_lt (tgt := 24) hx hb d_Am_digit_3 rfl (fun hc => ?_) (fun hc => ?_)
  · have hw := hw.1 hc
    refine lv_iconst (v := 0) hx hb d_Am_digit_24 (by decide) ?_
    exact ct_iret hx hb hr hlk hK hS () hw hP hD d_Am_digit_25
  · have hw := hw.2 hc
    refine lv_iload_n hx hb d_Am_digit_6 rfl (lv_at hl 1 rfl) ?_
    refine lv_bipush (v := 21) hx hb d_Am_digit_7 (by decide) ?_
    refine lv_icmp_gt (tgt := 24) hx hb d_Am_digit_9 rfl (fun hc => ?_) (fun hc => ?_)
    · have hw := hw.1 hc
      refine lv_iconst (v := 0) hx hb d_Am_digit_24 (by decide) ?_
      exact ct_iret hx hb hr hlk hK hS () hw hP hD d_Am_digit_25
    · have hw := hw.2 hc
      refine lv_aload_n hx hb d_Am_digit_12 rfl (lv_at hl 0 rfl) ?_
      refine va_get (ci := 0) (C := R_Am) (T := F_Am) (N := 1) hx hb htb in_Am hown hK hP 0 rfl rfl 0 (by decide) (htb _ tw141) (fun _ h9 => h9) rfl d_Am_digit_13 ?_
      refine lv_iload_n hx hb d_Am_digit_16 rfl (lv_at hl 1 rfl) ?_
      refine lv_bipush (v := (-18)) hx hb d_Am_digit_17 (by decide) ?_
      refine lv_isub hx hb d_Am_digit_19 ?_
      have hi := hw.1
      have hw := hw.2
      refine va_iald hx hb hK hP 1 0 rfl rfl hi d_Am_digit_20 ?_
      refine lv_goto (tgt := 25) hx hb d_Am_digit_21 rfl ?_
      exact ct_iret hx hb hr hlk hK hS () hw hP hD d_Am_digit_25
/-! DecimalPatterns$Amount.put(II)V -/
def wp_Am_put (am_f : Nat → Int32) (pw : Int32) (dg : Int32) (Q : (Nat → Int32) → Prop) : Prop := (pw < (-18) → (Q am_f)) ∧ (¬ pw < (-18) → ((21 < pw → (Q am_f)) ∧ (¬ 21 < pw → (vp_in (pw - (-18)) 40 ∧ (Q (upd am_f (pw - (-18)).toNatClampNeg dg))))))
set_option maxHeartbeats 4000000 in
set_option maxRecDepth 100000 in
theorem c_Am_put (l : Launch) (D : va_G) (cA : ClassId) (am am_a : Nat) (am_f : Nat → Int32) (pw : Int32) (dg : Int32) (Q : (Nat → Int32) → Prop) (hw : wp_Am_put am_f pw dg Q) : ct_M vwCl l D [(cA, .int)] y_Am_put w_Am_put { frames := 0, cells := 0, slots := 0, locals := 0 } [.ref am, .int pw, .int dg] (wd_Am cA am am_a am_f) (ct_qv vwCl D [(cA, .int)] Q (fun u => wd_Am cA am am_a u)) := by
  refine ct_enter (cc := b_Am_put) (maxL := 3) (ret := none) (by decide) rfl (Nat.le_of_ble_eq_true rfl) ?_
  intro p e s m args below meth c A ls hx hb hr hlk hml hts hown hA hS hP hK hN hD hl
  have hl : lv_has ls 3 [(0, .ref am), (1, .int pw), (2, .int dg)] := hl
  have htb : ∀ w ∈ tbl, w.before args s = true := fun w h => hts w (List.mem_cons_of_mem _ h)
  have hown : s.vm.findClass "DecimalPatterns$Amount" = some m.cls := hown
  unfold wp_Am_put at hw
  refine lv_iload_n hx hb d_Am_put_0 rfl (lv_at hl 1 rfl) ?_
  refine lv_bipush (v := (-18)) hx hb d_Am_put_1 (by decide) ?_
  refine lv_icmp_lt (tgt := 22) hx hb d_Am_put_3 rfl (fun hc => ?_) (fun hc => ?_)
  · have hw := hw.1 hc
    exact ct_vret hx hb hr hlk hK hS am_f hw hP hD d_Am_put_22
  · have hw := hw.2 hc
    refine lv_iload_n hx hb d_Am_put_6 rfl (lv_at hl 1 rfl) ?_
    refine lv_bipush (v := 21) hx hb d_Am_put_7 (by decide) ?_
    refine lv_icmp_gt (tgt := 22) hx hb d_Am_put_9 rfl (fun hc => ?_) (fun hc => ?_)
    · have hw := hw.1 hc
      exact ct_vret hx hb hr hlk hK hS am_f hw hP hD d_Am_put_22
    · have hw := hw.2 hc
      refine lv_aload_n hx hb d_Am_put_12 rfl (lv_at hl 0 rfl) ?_
      refine va_get (ci := 0) (C := R_Am) (T := F_Am) (N := 1) hx hb htb in_Am hown hK hP 0 rfl rfl 0 (by decide) (htb _ tw141) (fun _ h9 => h9) rfl d_Am_put_13 ?_
      refine lv_iload_n hx hb d_Am_put_16 rfl (lv_at hl 1 rfl) ?_
      refine lv_bipush (v := (-18)) hx hb d_Am_put_17 (by decide) ?_
      refine lv_isub hx hb d_Am_put_19 ?_
      refine lv_iload_n hx hb d_Am_put_20 rfl (lv_at hl 2 rfl) ?_
      have hi := hw.1
      have hw := hw.2
      refine va_iast hx hb hK hP hD hS 1 0 rfl rfl hi d_Am_put_21 (fun H locs hP hD hS => ?_)
      have hP : va_P D vwCl (wd_Am cA am am_a (upd am_f (pw - (-18)).toNatClampNeg dg)) H := hP
      have hD : va_D A (wd_Am cA am am_a (upd am_f (pw - (-18)).toNatClampNeg dg)) := hD
      exact ct_vret hx hb hr hlk hK hS (upd am_f (pw - (-18)).toNatClampNeg dg) hw hP hD d_Am_put_22
/-! DecimalPatterns$Amount.clearBelow(I)V -/
def wp_Am_clearBelow_L30 : Nat → Int32 → Int32 → (Nat → Int32) → ((Nat → Int32) → Prop) → Prop
  | 0, _, _, _, _ => False
  | n30 + 1, x1, x2, am_f, Q => (x1 ≤ x2 → (Q am_f)) ∧ (¬ x1 ≤ x2 → ((21 < x2 → (Q am_f)) ∧ (¬ 21 < x2 → (vp_in (x2 - (-18)) 40 ∧ (wp_Am_clearBelow_L30 n30 x1 (x2 + 1) (upd am_f (x2 - (-18)).toNatClampNeg 0) Q)))))
def wp_Am_clearBelow (am_f : Nat → Int32) (pw : Int32) (Q : (Nat → Int32) → Prop) : Prop := ∃ n30, wp_Am_clearBelow_L30 n30 pw (-18) am_f Q
set_option maxHeartbeats 4000000 in
set_option maxRecDepth 100000 in
theorem c_Am_clearBelow (l : Launch) (D : va_G) (cA : ClassId) (am am_a : Nat) (am_f : Nat → Int32) (pw : Int32) (Q : (Nat → Int32) → Prop) (hw : wp_Am_clearBelow am_f pw Q) : ct_M vwCl l D [(cA, .int)] y_Am_clearBelow w_Am_clearBelow { frames := 0, cells := 0, slots := 0, locals := 0 } [.ref am, .int pw] (wd_Am cA am am_a am_f) (ct_qv vwCl D [(cA, .int)] Q (fun u => wd_Am cA am am_a u)) := by
  refine ct_enter (cc := b_Am_clearBelow) (maxL := 3) (ret := none) (by decide) rfl (Nat.le_of_ble_eq_true rfl) ?_
  intro p e s m args below meth c A ls hx hb hr hlk hml hts hown hA hS hP hK hN hD hl
  have hl : lv_has ls 3 [(0, .ref am), (1, .int pw)] := hl
  have htb : ∀ w ∈ tbl, w.before args s = true := fun w h => hts w (List.mem_cons_of_mem _ h)
  have hown : s.vm.findClass "DecimalPatterns$Amount" = some m.cls := hown
  unfold wp_Am_clearBelow at hw
  have hL30 : ∀ (n30 : Nat) (x1 : Int32) (x2 : Int32) (am_f : Nat → Int32) (H : Heap) (locs : List Loc) (ls : Array Slot), lv_has ls 3 [(0, .ref am), (1, .int x1), (2, .int x2)] → va_P D vwCl (wd_Am cA am am_a am_f) H → va_D A (wd_Am cA am am_a am_f) → va_S A s.heap H locs → wp_Am_clearBelow_L30 n30 x1 x2 am_f Q → W p l e { frames := 0, cells := 0, slots := 0, locals := 0 } s m args below meth c H locs 0 0 (MQ below (ct_qv vwCl D [(cA, .int)] Q (fun u => wd_Am cA am am_a u) A) args s 0 0 A) (F0 m 3 ls []) := by
    intro n30
    induction n30 with
    | zero => intro x1 x2 am_f H locs ls hl hP hD hS hw; exact hw.elim
    | succ n30 ih30 =>
      intro x1 x2 am_f H locs ls hl hP hD hS hw
      unfold wp_Am_clearBelow_L30 at hw
      refine lv_iload_n hx hb d_Am_clearBelow_3 rfl (lv_at hl 2 rfl) ?_
      refine lv_iload_n hx hb d_Am_clearBelow_4 rfl (lv_at hl 1 rfl) ?_
      refine lv_icmp_ge (tgt := 30) hx hb d_Am_clearBelow_5 rfl (fun hc => ?_) (fun hc => ?_)
      · have hw := hw.1 hc
        exact ct_vret hx hb hr hlk hK hS am_f hw hP hD d_Am_clearBelow_30
      · have hw := hw.2 hc
        refine lv_iload_n hx hb d_Am_clearBelow_8 rfl (lv_at hl 2 rfl) ?_
        refine lv_bipush (v := 21) hx hb d_Am_clearBelow_9 (by decide) ?_
        refine lv_icmp_gt (tgt := 30) hx hb d_Am_clearBelow_11 rfl (fun hc => ?_) (fun hc => ?_)
        · have hw := hw.1 hc
          exact ct_vret hx hb hr hlk hK hS am_f hw hP hD d_Am_clearBelow_30
        · have hw := hw.2 hc
          refine lv_aload_n hx hb d_Am_clearBelow_14 rfl (lv_at hl 0 rfl) ?_
          refine va_get (ci := 0) (C := R_Am) (T := F_Am) (N := 1) hx hb htb in_Am hown hK hP 0 rfl rfl 0 (by decide) (htb _ tw141) (fun _ h9 => h9) rfl d_Am_clearBelow_15 ?_
          refine lv_iload_n hx hb d_Am_clearBelow_18 rfl (lv_at hl 2 rfl) ?_
          refine lv_bipush (v := (-18)) hx hb d_Am_clearBelow_19 (by decide) ?_
          refine lv_isub hx hb d_Am_clearBelow_21 ?_
          refine lv_iconst (v := 0) hx hb d_Am_clearBelow_22 (by decide) ?_
          have hi := hw.1
          have hw := hw.2
          refine va_iast hx hb hK hP hD hS 1 0 rfl rfl hi d_Am_clearBelow_23 (fun H locs hP hD hS => ?_)
          have hP : va_P D vwCl (wd_Am cA am am_a (upd am_f (x2 - (-18)).toNatClampNeg 0)) H := hP
          have hD : va_D A (wd_Am cA am am_a (upd am_f (x2 - (-18)).toNatClampNeg 0)) := hD
          refine lv_iinc (k := 2) (v := x2 + 1) (lv' := [(2, .int (x2 + 1)), (0, .ref am), (1, .int x1)]) hx hb d_Am_clearBelow_24 hl rfl (by rfl) (by decide) rfl (fun ls hl => ?_)
          refine lv_goto (tgt := 3) hx hb d_Am_clearBelow_27 rfl ?_
          exact ih30 x1 (x2 + 1) (upd am_f (x2 - (-18)).toNatClampNeg 0) _ _ _ (lv_sub hl [1, 2, 0] rfl) hP hD hS hw
  refine lv_bipush (v := (-18)) hx hb d_Am_clearBelow_0 (by decide) ?_
  refine lv_istore_n (lv' := [(2, .int (-18)), (0, .ref am), (1, .int pw)]) hx hb d_Am_clearBelow_2 rfl hl (by decide) rfl (fun ls hl => ?_)
  obtain ⟨n30, hw⟩ := hw
  exact hL30 n30 pw (-18) am_f _ _ _ (lv_sub hl [1, 2, 0] rfl) hP hD hS hw
/-! DecimalPatterns$Amount.anyBelow(I)Z -/
def wp_Am_anyBelow_L30 : Nat → (Nat → Int32) → Int32 → Int32 → (Bool → Unit → Prop) → Prop
  | 0, _, _, _, _ => False
  | n30 + 1, am_f, x1, x2, Q => (x1 ≤ x2 → (Q false ())) ∧ (¬ x1 ≤ x2 → ((21 < x2 → (Q false ())) ∧ (¬ 21 < x2 → (vp_in (x2 - (-18)) 40 ∧ (((am_f (x2 - (-18)).toNatClampNeg) = 0 → (wp_Am_anyBelow_L30 n30 am_f x1 (x2 + 1) Q)) ∧ (¬ (am_f (x2 - (-18)).toNatClampNeg) = 0 → (Q true ())))))))
def wp_Am_anyBelow (am_f : Nat → Int32) (pw : Int32) (Q : Bool → Unit → Prop) : Prop := ∃ n30, wp_Am_anyBelow_L30 n30 am_f pw (-18) Q
set_option maxHeartbeats 4000000 in
set_option maxRecDepth 100000 in
theorem c_Am_anyBelow (l : Launch) (D : va_G) (cA : ClassId) (am am_a : Nat) (am_f : Nat → Int32) (pw : Int32) (Q : Bool → Unit → Prop) (hw : wp_Am_anyBelow am_f pw Q) : ct_M vwCl l D [(cA, .int)] y_Am_anyBelow w_Am_anyBelow { frames := 0, cells := 0, slots := 0, locals := 0 } [.ref am, .int pw] (wd_Am cA am am_a am_f) (ct_qz vwCl D [(cA, .int)] Q (fun u => wd_Am cA am am_a am_f)) := by
  refine ct_enter (cc := b_Am_anyBelow) (maxL := 3) (ret := (some .boolean)) (by decide) rfl (Nat.le_of_ble_eq_true rfl) ?_
  intro p e s m args below meth c A ls hx hb hr hlk hml hts hown hA hS hP hK hN hD hl
  have hl : lv_has ls 3 [(0, .ref am), (1, .int pw)] := hl
  have htb : ∀ w ∈ tbl, w.before args s = true := fun w h => hts w (List.mem_cons_of_mem _ h)
  have hown : s.vm.findClass "DecimalPatterns$Amount" = some m.cls := hown
  unfold wp_Am_anyBelow at hw
  have hL30 : ∀ (n30 : Nat) (x1 : Int32) (x2 : Int32) (H : Heap) (locs : List Loc) (ls : Array Slot), lv_has ls 3 [(0, .ref am), (1, .int x1), (2, .int x2)] → va_P D vwCl (wd_Am cA am am_a am_f) H → va_D A (wd_Am cA am am_a am_f) → va_S A s.heap H locs → wp_Am_anyBelow_L30 n30 am_f x1 x2 Q → W p l e { frames := 0, cells := 0, slots := 0, locals := 0 } s m args below meth c H locs 0 0 (MQ below (ct_qz vwCl D [(cA, .int)] Q (fun u => wd_Am cA am am_a am_f) A) args s 0 0 A) (F0 m 3 ls []) := by
    intro n30
    induction n30 with
    | zero => intro x1 x2 H locs ls hl hP hD hS hw; exact hw.elim
    | succ n30 ih30 =>
      intro x1 x2 H locs ls hl hP hD hS hw
      unfold wp_Am_anyBelow_L30 at hw
      refine lv_iload_n hx hb d_Am_anyBelow_3 rfl (lv_at hl 2 rfl) ?_
      refine lv_iload_n hx hb d_Am_anyBelow_4 rfl (lv_at hl 1 rfl) ?_
      refine lv_icmp_ge (tgt := 34) hx hb d_Am_anyBelow_5 rfl (fun hc => ?_) (fun hc => ?_)
      · have hw := hw.1 hc
        refine lv_iconst (v := 0) hx hb d_Am_anyBelow_34 (by decide) ?_
        exact ct_zret false hx hb hr hlk hK hS () hw hP hD d_Am_anyBelow_35
      · have hw := hw.2 hc
        refine lv_iload_n hx hb d_Am_anyBelow_8 rfl (lv_at hl 2 rfl) ?_
        refine lv_bipush (v := 21) hx hb d_Am_anyBelow_9 (by decide) ?_
        refine lv_icmp_gt (tgt := 34) hx hb d_Am_anyBelow_11 rfl (fun hc => ?_) (fun hc => ?_)
        · have hw := hw.1 hc
          refine lv_iconst (v := 0) hx hb d_Am_anyBelow_34 (by decide) ?_
          exact ct_zret false hx hb hr hlk hK hS () hw hP hD d_Am_anyBelow_35
        · have hw := hw.2 hc
          refine lv_aload_n hx hb d_Am_anyBelow_14 rfl (lv_at hl 0 rfl) ?_
          refine va_get (ci := 0) (C := R_Am) (T := F_Am) (N := 1) hx hb htb in_Am hown hK hP 0 rfl rfl 0 (by decide) (htb _ tw141) (fun _ h9 => h9) rfl d_Am_anyBelow_15 ?_
          refine lv_iload_n hx hb d_Am_anyBelow_18 rfl (lv_at hl 2 rfl) ?_
          refine lv_bipush (v := (-18)) hx hb d_Am_anyBelow_19 (by decide) ?_
          refine lv_isub hx hb d_Am_anyBelow_21 ?_
          have hi := hw.1
          have hw := hw.2
          refine va_iald hx hb hK hP 1 0 rfl rfl hi d_Am_anyBelow_22 ?_
          refine lv_if_eq (tgt := 28) hx hb d_Am_anyBelow_23 rfl (fun hc => ?_) (fun hc => ?_)
          · have hw := hw.1 hc
            refine lv_iinc (k := 2) (v := x2 + 1) (lv' := [(2, .int (x2 + 1)), (0, .ref am), (1, .int x1)]) hx hb d_Am_anyBelow_28 hl rfl (by rfl) (by decide) rfl (fun ls hl => ?_)
            refine lv_goto (tgt := 3) hx hb d_Am_anyBelow_31 rfl ?_
            exact ih30 x1 (x2 + 1) _ _ _ (lv_sub hl [1, 2, 0] rfl) hP hD hS hw
          · have hw := hw.2 hc
            refine lv_iconst (v := 1) hx hb d_Am_anyBelow_26 (by decide) ?_
            exact ct_zret true hx hb hr hlk hK hS () hw hP hD d_Am_anyBelow_27
  refine lv_bipush (v := (-18)) hx hb d_Am_anyBelow_0 (by decide) ?_
  refine lv_istore_n (lv' := [(2, .int (-18)), (0, .ref am), (1, .int pw)]) hx hb d_Am_anyBelow_2 rfl hl (by decide) rfl (fun ls hl => ?_)
  obtain ⟨n30, hw⟩ := hw
  exact hL30 n30 pw (-18) _ _ _ (lv_sub hl [1, 2, 0] rfl) hP hD hS hw
/-! DecimalPatterns$Amount.fill(JIZ)V -/
def wp_Am_fill_L270 : Nat → Int32 → Int64 → Int32 → (Nat → Int32) → ((Nat → Int32) → Prop) → Prop
  | 0, _, _, _, _, _ => False
  | n270 + 1, x5, x6, x8, am_f, Q => (19 ≤ x8 → (Q am_f)) ∧ (¬ 19 ≤ x8 → (wp_Am_put am_f (x5 + x8) ((-(x6 - x6 / 10 * 10)).toInt32) (fun u4 => wp_Am_fill_L270 n270 x5 (x6 / 10) (x8 + 1) u4 Q)))
def wp_Am_fill_J190 (x1 : Int64) (y0 : Int32) (am_f : Nat → Int32) (Q : (Nat → Int32) → Prop) : Prop := ∃ n270, wp_Am_fill_L270 n270 y0 x1 0 am_f Q
def wp_Am_fill (am_f : Nat → Int32) (ng : Int64) (sl : Int32) (hu : Bool) (Q : (Nat → Int32) → Prop) : Prop := wp_Am_clearBelow am_f 22 (fun u2 => (hu = false → (wp_Am_fill_J190 ng (-sl) u2 Q)) ∧ (hu = true → (wp_Am_fill_J190 ng (2 - sl) u2 Q)))
set_option maxHeartbeats 4000000 in
set_option maxRecDepth 100000 in
theorem c_Am_fill (l : Launch) (D : va_G) (cA : ClassId) (am am_a : Nat) (am_f : Nat → Int32) (ng : Int64) (sl : Int32) (hu : Bool) (Q : (Nat → Int32) → Prop) (hw : wp_Am_fill am_f ng sl hu Q) : ct_M vwCl l D [(cA, .int)] y_Am_fill w_Am_fill { frames := 1, cells := 0, slots := 0, locals := 22 } [.ref am, .long ng, .int sl, .int (bI hu)] (wd_Am cA am am_a am_f) (ct_qv vwCl D [(cA, .int)] Q (fun u => wd_Am cA am am_a u)) := by
  refine ct_enter (cc := b_Am_fill) (maxL := 9) (ret := none) (by decide) rfl (Nat.le_of_ble_eq_true rfl) ?_
  intro p e s m args below meth c A ls hx hb hr hlk hml hts hown hA hS hP hK hN hD hl
  have hl : lv_has ls 9 [(0, .ref am), (1, .long ng), (3, .int sl), (4, .int (bI hu))] := hl
  have htb : ∀ w ∈ tbl, w.before args s = true := fun w h => hts w (List.mem_cons_of_mem _ h)
  have hown : s.vm.findClass "DecimalPatterns$Amount" = some m.cls := hown
  unfold wp_Am_fill at hw
  have hL270 : ∀ (n270 : Nat) (x5 : Int32) (x6 : Int64) (x8 : Int32) (am_f : Nat → Int32) (H : Heap) (locs : List Loc) (ls : Array Slot), lv_has ls 9 [(0, .ref am), (5, .int x5), (6, .long x6), (8, .int x8)] → va_P D vwCl (wd_Am cA am am_a am_f) H → va_D A (wd_Am cA am am_a am_f) → va_S A s.heap H locs → wp_Am_fill_L270 n270 x5 x6 x8 am_f Q → W p l e { frames := 1, cells := 0, slots := 0, locals := 22 } s m args below meth c H locs 0 0 (MQ below (ct_qv vwCl D [(cA, .int)] Q (fun u => wd_Am cA am am_a u) A) args s 0 0 A) (F0 m 27 ls []) := by
    intro n270
    induction n270 with
    | zero => intro x5 x6 x8 am_f H locs ls hl hP hD hS hw; exact hw.elim
    | succ n270 ih270 =>
      intro x5 x6 x8 am_f H locs ls hl hP hD hS hw
      unfold wp_Am_fill_L270 at hw
      refine lv_iload hx hb d_Am_fill_27 (lv_at hl 3 rfl) ?_
      refine lv_bipush (v := 19) hx hb d_Am_fill_29 (by decide) ?_
      refine lv_icmp_ge (tgt := 65) hx hb d_Am_fill_31 rfl (fun hc => ?_) (fun hc => ?_)
      · have hw := hw.1 hc
        exact ct_vret hx hb hr hlk hK hS am_f hw hP hD d_Am_fill_65
      · have hw := hw.2 hc
        refine lv_aload_n hx hb d_Am_fill_34 rfl (lv_at hl 0 rfl) ?_
        refine lv_iload hx hb d_Am_fill_35 (lv_at hl 1 rfl) ?_
        refine lv_iload hx hb d_Am_fill_37 (lv_at hl 3 rfl) ?_
        refine lv_iadd hx hb d_Am_fill_39 ?_
        refine lv_lload hx hb d_Am_fill_40 (lv_at hl 2 rfl) ?_
        refine lv_ldc2 (v := 10) hx hb hown (htb _ tw490) d_Am_fill_42 ?_
        refine lv_lrem hx hb d_Am_fill_45 (by decide) ?_
        refine lv_lneg hx hb d_Am_fill_46 ?_
        refine lv_l2i (v := (-(x6 - x6 / 10 * 10)).toInt32) hx hb d_Am_fill_47 rfl ?_
        refine ct_callv (wn := fun u4 => wd_Am cA am am_a u4) (va_runV (As := [.int (x5 + x8), .int ((-(x6 - x6 / 10 * 10)).toInt32)]) (rest := []) ⟨hx, hb, hml, hown, htb⟩ (c_Am_put l D cA am am_a am_f (x5 + x8) ((-(x6 - x6 / 10 * 10)).toInt32) _ hw _) (ct_cwV 2 htb tw494 rfl rfl tw77 tw491 tw493 tw19 hd_Am_put ⟨by decide, by decide⟩) (ct_preV hP hD hK hN [0, 1] rfl (by decide) 0 rfl rfl _) rfl rfl hl.1 rfl (lv_room (Nat.le_of_ble_eq_true rfl)) d_Am_fill_48 ⟨Nat.zero_le _, Nat.zero_le _⟩) hP hD hS hA [0, 1] [] [0, 1] rfl rfl (by decide) (by decide) (fun _ => rfl) (by decide) (fun u4 H locs hw hP hD hS => ?_)
        have hP : va_P D vwCl (wd_Am cA am am_a u4) H := hP
        have hD : va_D A (wd_Am cA am am_a u4) := hD
        refine lv_lload hx hb d_Am_fill_51 (lv_at hl 2 rfl) ?_
        refine lv_ldc2 (v := 10) hx hb hown (htb _ tw490) d_Am_fill_53 ?_
        refine lv_ldiv hx hb d_Am_fill_56 (by decide) ?_
        refine lv_lstore (lv' := [(6, .long (x6 / 10)), (0, .ref am), (5, .int x5), (8, .int x8)]) hx hb d_Am_fill_57 hl (by decide) rfl (fun ls hl => ?_)
        refine lv_iinc (k := 3) (v := x8 + 1) (lv' := [(8, .int (x8 + 1)), (6, .long (x6 / 10)), (0, .ref am), (5, .int x5)]) hx hb d_Am_fill_59 hl rfl (by rfl) (by decide) rfl (fun ls hl => ?_)
        refine lv_goto (tgt := 27) hx hb d_Am_fill_62 rfl ?_
        exact ih270 x5 (x6 / 10) (x8 + 1) u4 _ _ _ (lv_sub hl [2, 3, 1, 0] rfl) hP hD hS hw
  have hJ190 : ∀ (x1 : Int64) (y0 : Int32) (am_f : Nat → Int32) (H : Heap) (locs : List Loc) (ls : Array Slot), lv_has ls 9 [(0, .ref am), (1, .long x1)] → va_P D vwCl (wd_Am cA am am_a am_f) H → va_D A (wd_Am cA am am_a am_f) → va_S A s.heap H locs → wp_Am_fill_J190 x1 y0 am_f Q → W p l e { frames := 1, cells := 0, slots := 0, locals := 22 } s m args below meth c H locs 0 0 (MQ below (ct_qv vwCl D [(cA, .int)] Q (fun u => wd_Am cA am am_a u) A) args s 0 0 A) (F0 m 19 ls [.int y0]) := by
    intro x1 y0 am_f H locs ls hl hP hD hS hw
    unfold wp_Am_fill_J190 at hw
    refine lv_istore (lv' := [(5, .int y0), (0, .ref am), (1, .long x1)]) hx hb d_Am_fill_19 hl (by decide) rfl (fun ls hl => ?_)
    refine lv_lload_n hx hb d_Am_fill_21 rfl (lv_at hl 2 rfl) ?_
    refine lv_lstore (lv' := [(6, .long x1), (5, .int y0), (0, .ref am), (1, .long x1)]) hx hb d_Am_fill_22 hl (by decide) rfl (fun ls hl => ?_)
    refine lv_iconst (v := 0) hx hb d_Am_fill_24 (by decide) ?_
    refine lv_istore (lv' := [(8, .int 0), (6, .long x1), (5, .int y0), (0, .ref am), (1, .long x1)]) hx hb d_Am_fill_25 hl (by decide) rfl (fun ls hl => ?_)
    obtain ⟨n270, hw⟩ := hw
    exact hL270 n270 y0 x1 0 am_f _ _ _ (lv_sub hl [3, 2, 1, 0] rfl) hP hD hS hw
  refine lv_aload_n hx hb d_Am_fill_0 rfl (lv_at hl 0 rfl) ?_
  refine lv_bipush (v := 22) hx hb d_Am_fill_1 (by decide) ?_
  refine ct_callv (wn := fun u2 => wd_Am cA am am_a u2) (va_runV (As := [.int 22]) (rest := []) ⟨hx, hb, hml, hown, htb⟩ (c_Am_clearBelow l D cA am am_a am_f 22 _ hw _) (ct_cwV 1 htb tw489 rfl rfl tw77 tw486 tw488 tw18 hd_Am_clearBelow ⟨by decide, by decide⟩) (ct_preV hP hD hK hN [0, 1] rfl (by decide) 0 rfl rfl _) rfl rfl hl.1 rfl (lv_room (Nat.le_of_ble_eq_true rfl)) d_Am_fill_3 ⟨Nat.zero_le _, Nat.zero_le _⟩) hP hD hS hA [0, 1] [] [0, 1] rfl rfl (by decide) (by decide) (fun _ => rfl) (by decide) (fun u2 H locs hw hP hD hS => ?_)
  have hP : va_P D vwCl (wd_Am cA am am_a u2) H := hP
  have hD : va_D A (wd_Am cA am am_a u2) := hD
  refine lv_iload hx hb d_Am_fill_6 (lv_at hl 3 rfl) ?_
  refine lv_if_eq (tgt := 17) hx hb d_Am_fill_8 rfl (fun hc => ?_) (fun hc => ?_)
  · have hw := hw.1 ((bI_0 _).mp hc)
    refine lv_iload_n hx hb d_Am_fill_17 rfl (lv_at hl 2 rfl) ?_
    refine lv_ineg hx hb d_Am_fill_18 ?_
    exact hJ190 ng (-sl) u2 _ _ _ (lv_sub hl [0, 1] rfl) hP hD hS hw
  · have hw := hw.2 ((bI_n0 _).mp hc)
    refine lv_iconst (v := 2) hx hb d_Am_fill_11 (by decide) ?_
    refine lv_iload_n hx hb d_Am_fill_12 rfl (lv_at hl 2 rfl) ?_
    refine lv_isub hx hb d_Am_fill_13 ?_
    refine lv_goto (tgt := 19) hx hb d_Am_fill_14 rfl ?_
    exact hJ190 ng (2 - sl) u2 _ _ _ (lv_sub hl [0, 1] rfl) hP hD hS hw
/-! DecimalPatterns$Amount.isZero()Z -/
def wp_Am_isZero (am_f : Nat → Int32) (Q : Bool → Unit → Prop) : Prop := wp_Am_anyBelow am_f 22 (fun r1 u2 => (r1 = true → (Q false ())) ∧ (r1 = false → (Q true ())))
set_option maxHeartbeats 4000000 in
set_option maxRecDepth 100000 in
theorem c_Am_isZero (l : Launch) (D : va_G) (cA : ClassId) (am am_a : Nat) (am_f : Nat → Int32) (Q : Bool → Unit → Prop) (hw : wp_Am_isZero am_f Q) : ct_M vwCl l D [(cA, .int)] y_Am_isZero w_Am_isZero { frames := 1, cells := 0, slots := 0, locals := 22 } [.ref am] (wd_Am cA am am_a am_f) (ct_qz vwCl D [(cA, .int)] Q (fun u => wd_Am cA am am_a am_f)) := by
  refine ct_enter (cc := b_Am_isZero) (maxL := 1) (ret := (some .boolean)) (by decide) rfl (Nat.le_of_ble_eq_true rfl) ?_
  intro p e s m args below meth c A ls hx hb hr hlk hml hts hown hA hS hP hK hN hD hl
  have hl : lv_has ls 1 [(0, .ref am)] := hl
  have htb : ∀ w ∈ tbl, w.before args s = true := fun w h => hts w (List.mem_cons_of_mem _ h)
  have hown : s.vm.findClass "DecimalPatterns$Amount" = some m.cls := hown
  unfold wp_Am_isZero at hw
  refine lv_aload_n hx hb d_Am_isZero_0 rfl (lv_at hl 0 rfl) ?_
  refine lv_bipush (v := 22) hx hb d_Am_isZero_1 (by decide) ?_
  refine ct_callz (wn := fun _ => wd_Am cA am am_a am_f) (va_runV (As := [.int 22]) (rest := []) ⟨hx, hb, hml, hown, htb⟩ (c_Am_anyBelow l D cA am am_a am_f 22 _ hw _) (ct_cwV 1 htb tw518 rfl rfl tw77 tw515 tw517 tw21 hd_Am_anyBelow ⟨by decide, by decide⟩) (ct_preV hP hD hK hN [0, 1] rfl (by decide) 0 rfl rfl _) rfl rfl hl.1 rfl (lv_room (Nat.le_of_ble_eq_true rfl)) d_Am_isZero_3 ⟨Nat.zero_le _, Nat.zero_le _⟩) hP hD hS hA [0, 1] [] [0, 1] rfl rfl (by decide) (by decide) (fun _ => rfl) (by decide) (fun r1 u2 H locs hw hP hD hS => ?_)
  have hP : va_P D vwCl (wd_Am cA am am_a am_f) H := hP
  have hD : va_D A (wd_Am cA am am_a am_f) := hD
  refine lv_if_ne (tgt := 13) hx hb d_Am_isZero_6 rfl (fun hc => ?_) (fun hc => ?_)
  · have hw := hw.1 ((bI_n0 _).mp hc)
    refine lv_iconst (v := 0) hx hb d_Am_isZero_13 (by decide) ?_
    exact ct_zret false hx hb hr hlk hK hS () hw hP hD d_Am_isZero_14
  · have hw := hw.2 ((bI_0 _).mp hc)
    refine lv_iconst (v := 1) hx hb d_Am_isZero_9 (by decide) ?_
    refine lv_goto (tgt := 14) hx hb d_Am_isZero_10 rfl ?_
    exact ct_zret true hx hb hr hlk hK hS () hw hP hD d_Am_isZero_14
/-! DecimalPatterns$Amount.firstPower()I -/
def wp_Am_firstPower_L30 : Nat → (Nat → Int32) → Int32 → (Int32 → Unit → Prop) → Prop
  | 0, _, _, _ => False
  | n30 + 1, am_f, x1, Q => (x1 ≤ (-18) → (Q (-18) ())) ∧ (¬ x1 ≤ (-18) → (wp_Am_digit am_f x1 (fun r1 u2 => (r1 = 0 → (wp_Am_firstPower_L30 n30 am_f (x1 + (-1)) Q)) ∧ (¬ r1 = 0 → (Q x1 ())))))
def wp_Am_firstPower (am_f : Nat → Int32) (Q : Int32 → Unit → Prop) : Prop := ∃ n30, wp_Am_firstPower_L30 n30 am_f 21 Q
set_option maxHeartbeats 4000000 in
set_option maxRecDepth 100000 in
theorem c_Am_firstPower (l : Launch) (D : va_G) (cA : ClassId) (am am_a : Nat) (am_f : Nat → Int32) (Q : Int32 → Unit → Prop) (hw : wp_Am_firstPower am_f Q) : ct_M vwCl l D [(cA, .int)] y_Am_firstPower w_Am_firstPower { frames := 1, cells := 0, slots := 0, locals := 21 } [.ref am] (wd_Am cA am am_a am_f) (ct_qi vwCl D [(cA, .int)] Q (fun u => wd_Am cA am am_a am_f)) := by
  refine ct_enter (cc := b_Am_firstPower) (maxL := 2) (ret := (some .int)) (by decide) rfl (Nat.le_of_ble_eq_true rfl) ?_
  intro p e s m args below meth c A ls hx hb hr hlk hml hts hown hA hS hP hK hN hD hl
  have hl : lv_has ls 2 [(0, .ref am)] := hl
  have htb : ∀ w ∈ tbl, w.before args s = true := fun w h => hts w (List.mem_cons_of_mem _ h)
  have hown : s.vm.findClass "DecimalPatterns$Amount" = some m.cls := hown
  unfold wp_Am_firstPower at hw
  have hL30 : ∀ (n30 : Nat) (x1 : Int32) (H : Heap) (locs : List Loc) (ls : Array Slot), lv_has ls 2 [(0, .ref am), (1, .int x1)] → va_P D vwCl (wd_Am cA am am_a am_f) H → va_D A (wd_Am cA am am_a am_f) → va_S A s.heap H locs → wp_Am_firstPower_L30 n30 am_f x1 Q → W p l e { frames := 1, cells := 0, slots := 0, locals := 21 } s m args below meth c H locs 0 0 (MQ below (ct_qi vwCl D [(cA, .int)] Q (fun u => wd_Am cA am am_a am_f) A) args s 0 0 A) (F0 m 3 ls []) := by
    intro n30
    induction n30 with
    | zero => intro x1 H locs ls hl hP hD hS hw; exact hw.elim
    | succ n30 ih30 =>
      intro x1 H locs ls hl hP hD hS hw
      unfold wp_Am_firstPower_L30 at hw
      refine lv_iload_n hx hb d_Am_firstPower_3 rfl (lv_at hl 1 rfl) ?_
      refine lv_bipush (v := (-18)) hx hb d_Am_firstPower_4 (by decide) ?_
      refine lv_icmp_le (tgt := 25) hx hb d_Am_firstPower_6 rfl (fun hc => ?_) (fun hc => ?_)
      · have hw := hw.1 hc
        refine lv_bipush (v := (-18)) hx hb d_Am_firstPower_25 (by decide) ?_
        exact ct_iret hx hb hr hlk hK hS () hw hP hD d_Am_firstPower_27
      · have hw := hw.2 hc
        refine lv_aload_n hx hb d_Am_firstPower_9 rfl (lv_at hl 0 rfl) ?_
        refine lv_iload_n hx hb d_Am_firstPower_10 rfl (lv_at hl 1 rfl) ?_
        refine ct_calli (wn := fun _ => wd_Am cA am am_a am_f) (va_runV (As := [.int x1]) (rest := []) ⟨hx, hb, hml, hown, htb⟩ (c_Am_digit l D cA am am_a am_f x1 _ hw _) (ct_cwV 1 htb tw510 rfl rfl tw77 tw507 tw508 tw509 hd_Am_digit ⟨by decide, by decide⟩) (ct_preV hP hD hK hN [0, 1] rfl (by decide) 0 rfl rfl _) rfl rfl hl.1 rfl (lv_room (Nat.le_of_ble_eq_true rfl)) d_Am_firstPower_11 ⟨Nat.zero_le _, Nat.zero_le _⟩) hP hD hS hA [0, 1] [] [0, 1] rfl rfl (by decide) (by decide) (fun _ => rfl) (by decide) (fun r1 u2 H locs hw hP hD hS => ?_)
        have hP : va_P D vwCl (wd_Am cA am am_a am_f) H := hP
        have hD : va_D A (wd_Am cA am am_a am_f) := hD
        refine lv_if_eq (tgt := 19) hx hb d_Am_firstPower_14 rfl (fun hc => ?_) (fun hc => ?_)
        · have hw := hw.1 hc
          refine lv_iinc (k := 1) (v := x1 + (-1)) (lv' := [(1, .int (x1 + (-1))), (0, .ref am)]) hx hb d_Am_firstPower_19 hl rfl (by rfl) (by decide) rfl (fun ls hl => ?_)
          refine lv_goto (tgt := 3) hx hb d_Am_firstPower_22 rfl ?_
          exact ih30 (x1 + (-1)) _ _ _ (lv_sub hl [1, 0] rfl) hP hD hS hw
        · have hw := hw.2 hc
          refine lv_iload_n hx hb d_Am_firstPower_17 rfl (lv_at hl 1 rfl) ?_
          exact ct_iret hx hb hr hlk hK hS () hw hP hD d_Am_firstPower_18
  refine lv_bipush (v := 21) hx hb d_Am_firstPower_0 (by decide) ?_
  refine lv_istore_n (lv' := [(1, .int 21), (0, .ref am)]) hx hb d_Am_firstPower_2 rfl hl (by decide) rfl (fun ls hl => ?_)
  obtain ⟨n30, hw⟩ := hw
  exact hL30 n30 21 _ _ _ (lv_sub hl [1, 0] rfl) hP hD hS hw
/-! DecimalPatterns$Amount.lastPower()I -/
def wp_Am_lastPower_L30 : Nat → (Nat → Int32) → Int32 → (Int32 → Unit → Prop) → Prop
  | 0, _, _, _ => False
  | n30 + 1, am_f, x1, Q => (21 ≤ x1 → (Q 21 ())) ∧ (¬ 21 ≤ x1 → (wp_Am_digit am_f x1 (fun r1 u2 => (r1 = 0 → (wp_Am_lastPower_L30 n30 am_f (x1 + 1) Q)) ∧ (¬ r1 = 0 → (Q x1 ())))))
def wp_Am_lastPower (am_f : Nat → Int32) (Q : Int32 → Unit → Prop) : Prop := ∃ n30, wp_Am_lastPower_L30 n30 am_f (-18) Q
set_option maxHeartbeats 4000000 in
set_option maxRecDepth 100000 in
theorem c_Am_lastPower (l : Launch) (D : va_G) (cA : ClassId) (am am_a : Nat) (am_f : Nat → Int32) (Q : Int32 → Unit → Prop) (hw : wp_Am_lastPower am_f Q) : ct_M vwCl l D [(cA, .int)] y_Am_lastPower w_Am_lastPower { frames := 1, cells := 0, slots := 0, locals := 21 } [.ref am] (wd_Am cA am am_a am_f) (ct_qi vwCl D [(cA, .int)] Q (fun u => wd_Am cA am am_a am_f)) := by
  refine ct_enter (cc := b_Am_lastPower) (maxL := 2) (ret := (some .int)) (by decide) rfl (Nat.le_of_ble_eq_true rfl) ?_
  intro p e s m args below meth c A ls hx hb hr hlk hml hts hown hA hS hP hK hN hD hl
  have hl : lv_has ls 2 [(0, .ref am)] := hl
  have htb : ∀ w ∈ tbl, w.before args s = true := fun w h => hts w (List.mem_cons_of_mem _ h)
  have hown : s.vm.findClass "DecimalPatterns$Amount" = some m.cls := hown
  unfold wp_Am_lastPower at hw
  have hL30 : ∀ (n30 : Nat) (x1 : Int32) (H : Heap) (locs : List Loc) (ls : Array Slot), lv_has ls 2 [(0, .ref am), (1, .int x1)] → va_P D vwCl (wd_Am cA am am_a am_f) H → va_D A (wd_Am cA am am_a am_f) → va_S A s.heap H locs → wp_Am_lastPower_L30 n30 am_f x1 Q → W p l e { frames := 1, cells := 0, slots := 0, locals := 21 } s m args below meth c H locs 0 0 (MQ below (ct_qi vwCl D [(cA, .int)] Q (fun u => wd_Am cA am am_a am_f) A) args s 0 0 A) (F0 m 3 ls []) := by
    intro n30
    induction n30 with
    | zero => intro x1 H locs ls hl hP hD hS hw; exact hw.elim
    | succ n30 ih30 =>
      intro x1 H locs ls hl hP hD hS hw
      unfold wp_Am_lastPower_L30 at hw
      refine lv_iload_n hx hb d_Am_lastPower_3 rfl (lv_at hl 1 rfl) ?_
      refine lv_bipush (v := 21) hx hb d_Am_lastPower_4 (by decide) ?_
      refine lv_icmp_ge (tgt := 25) hx hb d_Am_lastPower_6 rfl (fun hc => ?_) (fun hc => ?_)
      · have hw := hw.1 hc
        refine lv_bipush (v := 21) hx hb d_Am_lastPower_25 (by decide) ?_
        exact ct_iret hx hb hr hlk hK hS () hw hP hD d_Am_lastPower_27
      · have hw := hw.2 hc
        refine lv_aload_n hx hb d_Am_lastPower_9 rfl (lv_at hl 0 rfl) ?_
        refine lv_iload_n hx hb d_Am_lastPower_10 rfl (lv_at hl 1 rfl) ?_
        refine ct_calli (wn := fun _ => wd_Am cA am am_a am_f) (va_runV (As := [.int x1]) (rest := []) ⟨hx, hb, hml, hown, htb⟩ (c_Am_digit l D cA am am_a am_f x1 _ hw _) (ct_cwV 1 htb tw510 rfl rfl tw77 tw507 tw508 tw509 hd_Am_digit ⟨by decide, by decide⟩) (ct_preV hP hD hK hN [0, 1] rfl (by decide) 0 rfl rfl _) rfl rfl hl.1 rfl (lv_room (Nat.le_of_ble_eq_true rfl)) d_Am_lastPower_11 ⟨Nat.zero_le _, Nat.zero_le _⟩) hP hD hS hA [0, 1] [] [0, 1] rfl rfl (by decide) (by decide) (fun _ => rfl) (by decide) (fun r1 u2 H locs hw hP hD hS => ?_)
        have hP : va_P D vwCl (wd_Am cA am am_a am_f) H := hP
        have hD : va_D A (wd_Am cA am am_a am_f) := hD
        refine lv_if_eq (tgt := 19) hx hb d_Am_lastPower_14 rfl (fun hc => ?_) (fun hc => ?_)
        · have hw := hw.1 hc
          refine lv_iinc (k := 1) (v := x1 + 1) (lv' := [(1, .int (x1 + 1)), (0, .ref am)]) hx hb d_Am_lastPower_19 hl rfl (by rfl) (by decide) rfl (fun ls hl => ?_)
          refine lv_goto (tgt := 3) hx hb d_Am_lastPower_22 rfl ?_
          exact ih30 (x1 + 1) _ _ _ (lv_sub hl [1, 0] rfl) hP hD hS hw
        · have hw := hw.2 hc
          refine lv_iload_n hx hb d_Am_lastPower_17 rfl (lv_at hl 1 rfl) ?_
          exact ct_iret hx hb hr hlk hK hS () hw hP hD d_Am_lastPower_18
  refine lv_bipush (v := (-18)) hx hb d_Am_lastPower_0 (by decide) ?_
  refine lv_istore_n (lv' := [(1, .int (-18)), (0, .ref am)]) hx hb d_Am_lastPower_2 rfl hl (by decide) rfl (fun ls hl => ?_)
  obtain ⟨n30, hw⟩ := hw
  exact hL30 n30 (-18) _ _ _ (lv_sub hl [1, 0] rfl) hP hD hS hw
/-! DecimalPatterns$Amount.againstHalf(I)I -/
def wp_Am_againstHalf (am_f : Nat → Int32) (pw : Int32) (Q : Int32 → Unit → Prop) : Prop := wp_Am_digit am_f (pw - 1) (fun r1 u2 => (r1 = 5 → (wp_Am_anyBelow am_f (pw - 1) (fun r3 u4 => (r3 = false → (Q 0 ())) ∧ (r3 = true → (Q 1 ()))))) ∧ (¬ r1 = 5 → ((5 ≤ r1 → (Q 1 ())) ∧ (¬ 5 ≤ r1 → (Q (-1) ())))))
set_option maxHeartbeats 4000000 in
set_option maxRecDepth 100000 in
theorem c_Am_againstHalf (l : Launch) (D : va_G) (cA : ClassId) (am am_a : Nat) (am_f : Nat → Int32) (pw : Int32) (Q : Int32 → Unit → Prop) (hw : wp_Am_againstHalf am_f pw Q) : ct_M vwCl l D [(cA, .int)] y_Am_againstHalf w_Am_againstHalf { frames := 1, cells := 0, slots := 0, locals := 22 } [.ref am, .int pw] (wd_Am cA am am_a am_f) (ct_qi vwCl D [(cA, .int)] Q (fun u => wd_Am cA am am_a am_f)) := by
  refine ct_enter (cc := b_Am_againstHalf) (maxL := 3) (ret := (some .int)) (by decide) rfl (Nat.le_of_ble_eq_true rfl) ?_
  intro p e s m args below meth c A ls hx hb hr hlk hml hts hown hA hS hP hK hN hD hl
  have hl : lv_has ls 3 [(0, .ref am), (1, .int pw)] := hl
  have htb : ∀ w ∈ tbl, w.before args s = true := fun w h => hts w (List.mem_cons_of_mem _ h)
  have hown : s.vm.findClass "DecimalPatterns$Amount" = some m.cls := hown
  unfold wp_Am_againstHalf at hw
  refine lv_aload_n hx hb d_Am_againstHalf_0 rfl (lv_at hl 0 rfl) ?_
  refine lv_iload_n hx hb d_Am_againstHalf_1 rfl (lv_at hl 1 rfl) ?_
  refine lv_iconst (v := 1) hx hb d_Am_againstHalf_2 (by decide) ?_
  refine lv_isub hx hb d_Am_againstHalf_3 ?_
  refine ct_calli (wn := fun _ => wd_Am cA am am_a am_f) (va_runV (As := [.int (pw - 1)]) (rest := []) ⟨hx, hb, hml, hown, htb⟩ (c_Am_digit l D cA am am_a am_f (pw - 1) _ hw _) (ct_cwV 1 htb tw510 rfl rfl tw77 tw507 tw508 tw509 hd_Am_digit ⟨by decide, by decide⟩) (ct_preV hP hD hK hN [0, 1] rfl (by decide) 0 rfl rfl _) rfl rfl hl.1 rfl (lv_room (Nat.le_of_ble_eq_true rfl)) d_Am_againstHalf_4 ⟨Nat.zero_le _, Nat.zero_le _⟩) hP hD hS hA [0, 1] [] [0, 1] rfl rfl (by decide) (by decide) (fun _ => rfl) (by decide) (fun r1 u2 H locs hw hP hD hS => ?_)
  have hP : va_P D vwCl (wd_Am cA am am_a am_f) H := hP
  have hD : va_D A (wd_Am cA am am_a am_f) := hD
  refine lv_istore_n (lv' := [(2, .int r1), (0, .ref am), (1, .int pw)]) hx hb d_Am_againstHalf_7 rfl hl (by decide) rfl (fun ls hl => ?_)
  refine lv_iload_n hx hb d_Am_againstHalf_8 rfl (lv_at hl 0 rfl) ?_
  refine lv_iconst (v := 5) hx hb d_Am_againstHalf_9 (by decide) ?_
  refine lv_icmp_eq (tgt := 24) hx hb d_Am_againstHalf_10 rfl (fun hc => ?_) (fun hc => ?_)
  · have hw := hw.1 hc
    refine lv_aload_n hx hb d_Am_againstHalf_24 rfl (lv_at hl 1 rfl) ?_
    refine lv_iload_n hx hb d_Am_againstHalf_25 rfl (lv_at hl 2 rfl) ?_
    refine lv_iconst (v := 1) hx hb d_Am_againstHalf_26 (by decide) ?_
    refine lv_isub hx hb d_Am_againstHalf_27 ?_
    refine ct_callz (wn := fun _ => wd_Am cA am am_a am_f) (va_runV (As := [.int (pw - 1)]) (rest := []) ⟨hx, hb, hml, hown, htb⟩ (c_Am_anyBelow l D cA am am_a am_f (pw - 1) _ hw _) (ct_cwV 1 htb tw518 rfl rfl tw77 tw515 tw517 tw21 hd_Am_anyBelow ⟨by decide, by decide⟩) (ct_preV hP hD hK hN [0, 1] rfl (by decide) 0 rfl rfl _) rfl rfl hl.1 rfl (lv_room (Nat.le_of_ble_eq_true rfl)) d_Am_againstHalf_28 ⟨Nat.zero_le _, Nat.zero_le _⟩) hP hD hS hA [0, 1] [] [0, 1] rfl rfl (by decide) (by decide) (fun _ => rfl) (by decide) (fun r3 u4 H locs hw hP hD hS => ?_)
    have hP : va_P D vwCl (wd_Am cA am am_a am_f) H := hP
    have hD : va_D A (wd_Am cA am am_a am_f) := hD
    refine lv_if_eq (tgt := 38) hx hb d_Am_againstHalf_31 rfl (fun hc => ?_) (fun hc => ?_)
    · have hw := hw.1 ((bI_0 _).mp hc)
      refine lv_iconst (v := 0) hx hb d_Am_againstHalf_38 (by decide) ?_
      exact ct_iret hx hb hr hlk hK hS () hw hP hD d_Am_againstHalf_39
    · have hw := hw.2 ((bI_n0 _).mp hc)
      refine lv_iconst (v := 1) hx hb d_Am_againstHalf_34 (by decide) ?_
      refine lv_goto (tgt := 39) hx hb d_Am_againstHalf_35 rfl ?_
      exact ct_iret hx hb hr hlk hK hS () hw hP hD d_Am_againstHalf_39
  · have hw := hw.2 hc
    refine lv_iload_n hx hb d_Am_againstHalf_13 rfl (lv_at hl 0 rfl) ?_
    refine lv_iconst (v := 5) hx hb d_Am_againstHalf_14 (by decide) ?_
    refine lv_icmp_ge (tgt := 22) hx hb d_Am_againstHalf_15 rfl (fun hc => ?_) (fun hc => ?_)
    · have hw := hw.1 hc
      refine lv_iconst (v := 1) hx hb d_Am_againstHalf_22 (by decide) ?_
      exact ct_iret hx hb hr hlk hK hS () hw hP hD d_Am_againstHalf_23
    · have hw := hw.2 hc
      refine lv_iconst (v := (-1)) hx hb d_Am_againstHalf_18 (by decide) ?_
      refine lv_goto (tgt := 23) hx hb d_Am_againstHalf_19 rfl ?_
      exact ct_iret hx hb hr hlk hK hS () hw hP hD d_Am_againstHalf_23
/-! DecimalPatterns$Amount.goesUp(IIZ)Z -/
def wp_Am_goesUp (am_f : Nat → Int32) (pw : Int32) (md : Int32) (ng : Bool) (Q : Bool → Unit → Prop) : Prop := (md = 0 → (Q true ())) ∧ (md = 1 → (Q false ())) ∧ (md = 2 → ((ng = true → (Q false ())) ∧ (ng = false → (Q true ())))) ∧ (md = 3 → (Q ng ())) ∧ (md = 4 → (wp_Am_againstHalf am_f pw (fun r1 u2 => (r1 < 0 → (Q false ())) ∧ (¬ r1 < 0 → (Q true ()))))) ∧ (md = 5 → (wp_Am_againstHalf am_f pw (fun r3 u4 => (r3 ≤ 0 → (Q false ())) ∧ (¬ r3 ≤ 0 → (Q true ()))))) ∧ (md = 6 → (wp_Am_againstHalf am_f pw (fun r5 u6 => (0 < r5 → (Q true ())) ∧ (¬ 0 < r5 → (wp_Am_againstHalf am_f pw (fun r7 u8 => (¬ r7 = 0 → (Q false ())) ∧ (r7 = 0 → (wp_Am_digit am_f pw (fun r9 u10 => ((r9 - r9 / 2 * 2) = 0 → (Q false ())) ∧ (¬ (r9 - r9 / 2 * 2) = 0 → (Q true ()))))))))))) ∧ (¬ md = 0 → ¬ md = 1 → ¬ md = 2 → ¬ md = 3 → ¬ md = 4 → ¬ md = 5 → ¬ md = 6 → (Q false ()))
set_option maxHeartbeats 4000000 in
set_option maxRecDepth 100000 in
theorem c_Am_goesUp (l : Launch) (D : va_G) (cA : ClassId) (am am_a : Nat) (am_f : Nat → Int32) (pw : Int32) (md : Int32) (ng : Bool) (Q : Bool → Unit → Prop) (hw : wp_Am_goesUp am_f pw md ng Q) : ct_M vwCl l D [(cA, .int)] y_Am_goesUp w_Am_goesUp { frames := 2, cells := 0, slots := 0, locals := 44 } [.ref am, .int pw, .int md, .int (bI ng)] (wd_Am cA am am_a am_f) (ct_qz vwCl D [(cA, .int)] Q (fun u => wd_Am cA am am_a am_f)) := by
  refine ct_enter (cc := b_Am_goesUp) (maxL := 4) (ret := (some .boolean)) (by decide) rfl (Nat.le_of_ble_eq_true rfl) ?_
  intro p e s m args below meth c A ls hx hb hr hlk hml hts hown hA hS hP hK hN hD hl
  have hl : lv_has ls 4 [(0, .ref am), (1, .int pw), (2, .int md), (3, .int (bI ng))] := hl
  have htb : ∀ w ∈ tbl, w.before args s = true := fun w h => hts w (List.mem_cons_of_mem _ h)
  have hown : s.vm.findClass "DecimalPatterns$Amount" = some m.cls := hown
  unfold wp_Am_goesUp at hw
  refine lv_iload_n hx hb d_Am_goesUp_0 rfl (lv_at hl 2 rfl) ?_
  by_cases hc0 : md = 0
  · have hw := hw.1 hc0
    refine lv_tableIn (off := 43) (tgt := 44) hx hb d_Am_goesUp_1 (by rw [hc0]; decide) (by rw [hc0]; decide) (by rw [hc0]; decide) (by decide) ?_
    refine lv_iconst (v := 1) hx hb d_Am_goesUp_44 (by decide) ?_
    exact ct_zret true hx hb hr hlk hK hS () hw hP hD d_Am_goesUp_45
  by_cases hc1 : md = 1
  · have hw := hw.2.1 hc1
    refine lv_tableIn (off := 117) (tgt := 118) hx hb d_Am_goesUp_1 (by rw [hc1]; decide) (by rw [hc1]; decide) (by rw [hc1]; decide) (by decide) ?_
    refine lv_iconst (v := 0) hx hb d_Am_goesUp_118 (by decide) ?_
    exact ct_zret false hx hb hr hlk hK hS () hw hP hD d_Am_goesUp_119
  by_cases hc2 : md = 2
  · have hw := hw.2.2.1 hc2
    refine lv_tableIn (off := 45) (tgt := 46) hx hb d_Am_goesUp_1 (by rw [hc2]; decide) (by rw [hc2]; decide) (by rw [hc2]; decide) (by decide) ?_
    refine lv_iload_n hx hb d_Am_goesUp_46 rfl (lv_at hl 3 rfl) ?_
    refine lv_if_ne (tgt := 54) hx hb d_Am_goesUp_47 rfl (fun hc => ?_) (fun hc => ?_)
    · have hw := hw.1 ((bI_n0 _).mp hc)
      refine lv_iconst (v := 0) hx hb d_Am_goesUp_54 (by decide) ?_
      exact ct_zret false hx hb hr hlk hK hS () hw hP hD d_Am_goesUp_55
    · have hw := hw.2 ((bI_0 _).mp hc)
      refine lv_iconst (v := 1) hx hb d_Am_goesUp_50 (by decide) ?_
      refine lv_goto (tgt := 55) hx hb d_Am_goesUp_51 rfl ?_
      exact ct_zret true hx hb hr hlk hK hS () hw hP hD d_Am_goesUp_55
  by_cases hc3 : md = 3
  · have hw := hw.2.2.2.1 hc3
    refine lv_tableIn (off := 55) (tgt := 56) hx hb d_Am_goesUp_1 (by rw [hc3]; decide) (by rw [hc3]; decide) (by rw [hc3]; decide) (by decide) ?_
    refine lv_iload_n hx hb d_Am_goesUp_56 rfl (lv_at hl 3 rfl) ?_
    exact ct_zret ng hx hb hr hlk hK hS () hw hP hD d_Am_goesUp_57
  by_cases hc4 : md = 4
  · have hw := hw.2.2.2.2.1 hc4
    refine lv_tableIn (off := 57) (tgt := 58) hx hb d_Am_goesUp_1 (by rw [hc4]; decide) (by rw [hc4]; decide) (by rw [hc4]; decide) (by decide) ?_
    refine lv_aload_n hx hb d_Am_goesUp_58 rfl (lv_at hl 0 rfl) ?_
    refine lv_iload_n hx hb d_Am_goesUp_59 rfl (lv_at hl 1 rfl) ?_
    refine ct_calli (wn := fun _ => wd_Am cA am am_a am_f) (va_runV (As := [.int pw]) (rest := []) ⟨hx, hb, hml, hown, htb⟩ (c_Am_againstHalf l D cA am am_a am_f pw _ hw _) (ct_cwV 1 htb tw526 rfl rfl tw77 tw523 tw525 tw23 hd_Am_againstHalf ⟨by decide, by decide⟩) (ct_preV hP hD hK hN [0, 1] rfl (by decide) 0 rfl rfl _) rfl rfl hl.1 rfl (lv_room (Nat.le_of_ble_eq_true rfl)) d_Am_goesUp_60 ⟨Nat.zero_le _, Nat.zero_le _⟩) hP hD hS hA [0, 1] [] [0, 1] rfl rfl (by decide) (by decide) (fun _ => rfl) (by decide) (fun r1 u2 H locs hw hP hD hS => ?_)
    have hP : va_P D vwCl (wd_Am cA am am_a am_f) H := hP
    have hD : va_D A (wd_Am cA am am_a am_f) := hD
    refine lv_if_lt (tgt := 70) hx hb d_Am_goesUp_63 rfl (fun hc => ?_) (fun hc => ?_)
    · have hw := hw.1 hc
      refine lv_iconst (v := 0) hx hb d_Am_goesUp_70 (by decide) ?_
      exact ct_zret false hx hb hr hlk hK hS () hw hP hD d_Am_goesUp_71
    · have hw := hw.2 hc
      refine lv_iconst (v := 1) hx hb d_Am_goesUp_66 (by decide) ?_
      refine lv_goto (tgt := 71) hx hb d_Am_goesUp_67 rfl ?_
      exact ct_zret true hx hb hr hlk hK hS () hw hP hD d_Am_goesUp_71
  by_cases hc5 : md = 5
  · have hw := hw.2.2.2.2.2.1 hc5
    refine lv_tableIn (off := 71) (tgt := 72) hx hb d_Am_goesUp_1 (by rw [hc5]; decide) (by rw [hc5]; decide) (by rw [hc5]; decide) (by decide) ?_
    refine lv_aload_n hx hb d_Am_goesUp_72 rfl (lv_at hl 0 rfl) ?_
    refine lv_iload_n hx hb d_Am_goesUp_73 rfl (lv_at hl 1 rfl) ?_
    refine ct_calli (wn := fun _ => wd_Am cA am am_a am_f) (va_runV (As := [.int pw]) (rest := []) ⟨hx, hb, hml, hown, htb⟩ (c_Am_againstHalf l D cA am am_a am_f pw _ hw _) (ct_cwV 1 htb tw526 rfl rfl tw77 tw523 tw525 tw23 hd_Am_againstHalf ⟨by decide, by decide⟩) (ct_preV hP hD hK hN [0, 1] rfl (by decide) 0 rfl rfl _) rfl rfl hl.1 rfl (lv_room (Nat.le_of_ble_eq_true rfl)) d_Am_goesUp_74 ⟨Nat.zero_le _, Nat.zero_le _⟩) hP hD hS hA [0, 1] [] [0, 1] rfl rfl (by decide) (by decide) (fun _ => rfl) (by decide) (fun r3 u4 H locs hw hP hD hS => ?_)
    have hP : va_P D vwCl (wd_Am cA am am_a am_f) H := hP
    have hD : va_D A (wd_Am cA am am_a am_f) := hD
    refine lv_if_le (tgt := 84) hx hb d_Am_goesUp_77 rfl (fun hc => ?_) (fun hc => ?_)
    · have hw := hw.1 hc
      refine lv_iconst (v := 0) hx hb d_Am_goesUp_84 (by decide) ?_
      exact ct_zret false hx hb hr hlk hK hS () hw hP hD d_Am_goesUp_85
    · have hw := hw.2 hc
      refine lv_iconst (v := 1) hx hb d_Am_goesUp_80 (by decide) ?_
      refine lv_goto (tgt := 85) hx hb d_Am_goesUp_81 rfl ?_
      exact ct_zret true hx hb hr hlk hK hS () hw hP hD d_Am_goesUp_85
  by_cases hc6 : md = 6
  · have hw := hw.2.2.2.2.2.2.1 hc6
    refine lv_tableIn (off := 85) (tgt := 86) hx hb d_Am_goesUp_1 (by rw [hc6]; decide) (by rw [hc6]; decide) (by rw [hc6]; decide) (by decide) ?_
    refine lv_aload_n hx hb d_Am_goesUp_86 rfl (lv_at hl 0 rfl) ?_
    refine lv_iload_n hx hb d_Am_goesUp_87 rfl (lv_at hl 1 rfl) ?_
    refine ct_calli (wn := fun _ => wd_Am cA am am_a am_f) (va_runV (As := [.int pw]) (rest := []) ⟨hx, hb, hml, hown, htb⟩ (c_Am_againstHalf l D cA am am_a am_f pw _ hw _) (ct_cwV 1 htb tw526 rfl rfl tw77 tw523 tw525 tw23 hd_Am_againstHalf ⟨by decide, by decide⟩) (ct_preV hP hD hK hN [0, 1] rfl (by decide) 0 rfl rfl _) rfl rfl hl.1 rfl (lv_room (Nat.le_of_ble_eq_true rfl)) d_Am_goesUp_88 ⟨Nat.zero_le _, Nat.zero_le _⟩) hP hD hS hA [0, 1] [] [0, 1] rfl rfl (by decide) (by decide) (fun _ => rfl) (by decide) (fun r5 u6 H locs hw hP hD hS => ?_)
    have hP : va_P D vwCl (wd_Am cA am am_a am_f) H := hP
    have hD : va_D A (wd_Am cA am am_a am_f) := hD
    refine lv_if_gt (tgt := 112) hx hb d_Am_goesUp_91 rfl (fun hc => ?_) (fun hc => ?_)
    · have hw := hw.1 hc
      refine lv_iconst (v := 1) hx hb d_Am_goesUp_112 (by decide) ?_
      refine lv_goto (tgt := 117) hx hb d_Am_goesUp_113 rfl ?_
      exact ct_zret true hx hb hr hlk hK hS () hw hP hD d_Am_goesUp_117
    · have hw := hw.2 hc
      refine lv_aload_n hx hb d_Am_goesUp_94 rfl (lv_at hl 0 rfl) ?_
      refine lv_iload_n hx hb d_Am_goesUp_95 rfl (lv_at hl 1 rfl) ?_
      refine ct_calli (wn := fun _ => wd_Am cA am am_a am_f) (va_runV (As := [.int pw]) (rest := []) ⟨hx, hb, hml, hown, htb⟩ (c_Am_againstHalf l D cA am am_a am_f pw _ hw _) (ct_cwV 1 htb tw526 rfl rfl tw77 tw523 tw525 tw23 hd_Am_againstHalf ⟨by decide, by decide⟩) (ct_preV hP hD hK hN [0, 1] rfl (by decide) 0 rfl rfl _) rfl rfl hl.1 rfl (lv_room (Nat.le_of_ble_eq_true rfl)) d_Am_goesUp_96 ⟨Nat.zero_le _, Nat.zero_le _⟩) hP hD hS hA [0, 1] [] [0, 1] rfl rfl (by decide) (by decide) (fun _ => rfl) (by decide) (fun r7 u8 H locs hw hP hD hS => ?_)
      have hP : va_P D vwCl (wd_Am cA am am_a am_f) H := hP
      have hD : va_D A (wd_Am cA am am_a am_f) := hD
      refine lv_if_ne (tgt := 116) hx hb d_Am_goesUp_99 rfl (fun hc => ?_) (fun hc => ?_)
      · have hw := hw.1 hc
        refine lv_iconst (v := 0) hx hb d_Am_goesUp_116 (by decide) ?_
        exact ct_zret false hx hb hr hlk hK hS () hw hP hD d_Am_goesUp_117
      · have hw := hw.2 hc
        refine lv_aload_n hx hb d_Am_goesUp_102 rfl (lv_at hl 0 rfl) ?_
        refine lv_iload_n hx hb d_Am_goesUp_103 rfl (lv_at hl 1 rfl) ?_
        refine ct_calli (wn := fun _ => wd_Am cA am am_a am_f) (va_runV (As := [.int pw]) (rest := []) ⟨hx, hb, hml, hown, htb⟩ (c_Am_digit l D cA am am_a am_f pw _ hw _) (ct_cwV 1 htb tw510 rfl rfl tw77 tw507 tw508 tw509 hd_Am_digit ⟨by decide, by decide⟩) (ct_preV hP hD hK hN [0, 1] rfl (by decide) 0 rfl rfl _) rfl rfl hl.1 rfl (lv_room (Nat.le_of_ble_eq_true rfl)) d_Am_goesUp_104 ⟨Nat.zero_le _, Nat.zero_le _⟩) hP hD hS hA [0, 1] [] [0, 1] rfl rfl (by decide) (by decide) (fun _ => rfl) (by decide) (fun r9 u10 H locs hw hP hD hS => ?_)
        have hP : va_P D vwCl (wd_Am cA am am_a am_f) H := hP
        have hD : va_D A (wd_Am cA am am_a am_f) := hD
        refine lv_iconst (v := 2) hx hb d_Am_goesUp_107 (by decide) ?_
        refine lv_irem hx hb d_Am_goesUp_108 (by decide) ?_
        refine lv_if_eq (tgt := 116) hx hb d_Am_goesUp_109 rfl (fun hc => ?_) (fun hc => ?_)
        · have hw := hw.1 hc
          refine lv_iconst (v := 0) hx hb d_Am_goesUp_116 (by decide) ?_
          exact ct_zret false hx hb hr hlk hK hS () hw hP hD d_Am_goesUp_117
        · have hw := hw.2 hc
          refine lv_iconst (v := 1) hx hb d_Am_goesUp_112 (by decide) ?_
          refine lv_goto (tgt := 117) hx hb d_Am_goesUp_113 rfl ?_
          exact ct_zret true hx hb hr hlk hK hS () hw hP hD d_Am_goesUp_117
  have hw := hw.2.2.2.2.2.2.2 hc0 hc1 hc2 hc3 hc4 hc5 hc6
  have hz0 : md.toInt ≠ 0 := fun q => hc0 (Int32.toInt_inj.mp (by rw [q]; decide))
  have hz1 : md.toInt ≠ 1 := fun q => hc1 (Int32.toInt_inj.mp (by rw [q]; decide))
  have hz2 : md.toInt ≠ 2 := fun q => hc2 (Int32.toInt_inj.mp (by rw [q]; decide))
  have hz3 : md.toInt ≠ 3 := fun q => hc3 (Int32.toInt_inj.mp (by rw [q]; decide))
  have hz4 : md.toInt ≠ 4 := fun q => hc4 (Int32.toInt_inj.mp (by rw [q]; decide))
  have hz5 : md.toInt ≠ 5 := fun q => hc5 (Int32.toInt_inj.mp (by rw [q]; decide))
  have hz6 : md.toInt ≠ 6 := fun q => hc6 (Int32.toInt_inj.mp (by rw [q]; decide))
  refine lv_tableOut (tgt := 118) hx hb d_Am_goesUp_1 (by omega) (by decide) ?_
  refine lv_iconst (v := 0) hx hb d_Am_goesUp_118 (by decide) ?_
  exact ct_zret false hx hb hr hlk hK hS () hw hP hD d_Am_goesUp_119
/-! DecimalPatterns$Amount.addOneAt(I)V -/
def wp_Am_addOneAt_L20 : Nat → Int32 → (Nat → Int32) → ((Nat → Int32) → Prop) → Prop
  | 0, _, _, _ => False
  | n20 + 1, x2, am_f, Q => (21 < x2 → (Q am_f)) ∧ (¬ 21 < x2 → (wp_Am_digit am_f x2 (fun r1 u2 => (9 ≤ r1 → (wp_Am_put am_f x2 0 (fun u4 => wp_Am_addOneAt_L20 n20 (x2 + 1) u4 Q))) ∧ (¬ 9 ≤ r1 → (wp_Am_digit am_f x2 (fun r5 u6 => wp_Am_put am_f x2 (r5 + 1) (fun u8 => Q u8)))))))
def wp_Am_addOneAt (am_f : Nat → Int32) (pw : Int32) (Q : (Nat → Int32) → Prop) : Prop := ∃ n20, wp_Am_addOneAt_L20 n20 pw am_f Q
set_option maxHeartbeats 4000000 in
set_option maxRecDepth 100000 in
theorem c_Am_addOneAt (l : Launch) (D : va_G) (cA : ClassId) (am am_a : Nat) (am_f : Nat → Int32) (pw : Int32) (Q : (Nat → Int32) → Prop) (hw : wp_Am_addOneAt am_f pw Q) : ct_M vwCl l D [(cA, .int)] y_Am_addOneAt w_Am_addOneAt { frames := 1, cells := 0, slots := 0, locals := 22 } [.ref am, .int pw] (wd_Am cA am am_a am_f) (ct_qv vwCl D [(cA, .int)] Q (fun u => wd_Am cA am am_a u)) := by
  refine ct_enter (cc := b_Am_addOneAt) (maxL := 3) (ret := none) (by decide) rfl (Nat.le_of_ble_eq_true rfl) ?_
  intro p e s m args below meth c A ls hx hb hr hlk hml hts hown hA hS hP hK hN hD hl
  have hl : lv_has ls 3 [(0, .ref am), (1, .int pw)] := hl
  have htb : ∀ w ∈ tbl, w.before args s = true := fun w h => hts w (List.mem_cons_of_mem _ h)
  have hown : s.vm.findClass "DecimalPatterns$Amount" = some m.cls := hown
  unfold wp_Am_addOneAt at hw
  have hL20 : ∀ (n20 : Nat) (x2 : Int32) (am_f : Nat → Int32) (H : Heap) (locs : List Loc) (ls : Array Slot), lv_has ls 3 [(0, .ref am), (2, .int x2)] → va_P D vwCl (wd_Am cA am am_a am_f) H → va_D A (wd_Am cA am am_a am_f) → va_S A s.heap H locs → wp_Am_addOneAt_L20 n20 x2 am_f Q → W p l e { frames := 1, cells := 0, slots := 0, locals := 22 } s m args below meth c H locs 0 0 (MQ below (ct_qv vwCl D [(cA, .int)] Q (fun u => wd_Am cA am am_a u) A) args s 0 0 A) (F0 m 2 ls []) := by
    intro n20
    induction n20 with
    | zero => intro x2 am_f H locs ls hl hP hD hS hw; exact hw.elim
    | succ n20 ih20 =>
      intro x2 am_f H locs ls hl hP hD hS hw
      unfold wp_Am_addOneAt_L20 at hw
      refine lv_iload_n hx hb d_Am_addOneAt_2 rfl (lv_at hl 1 rfl) ?_
      refine lv_bipush (v := 21) hx hb d_Am_addOneAt_3 (by decide) ?_
      refine lv_icmp_gt (tgt := 43) hx hb d_Am_addOneAt_5 rfl (fun hc => ?_) (fun hc => ?_)
      · have hw := hw.1 hc
        exact ct_vret hx hb hr hlk hK hS am_f hw hP hD d_Am_addOneAt_43
      · have hw := hw.2 hc
        refine lv_aload_n hx hb d_Am_addOneAt_8 rfl (lv_at hl 0 rfl) ?_
        refine lv_iload_n hx hb d_Am_addOneAt_9 rfl (lv_at hl 1 rfl) ?_
        refine ct_calli (wn := fun _ => wd_Am cA am am_a am_f) (va_runV (As := [.int x2]) (rest := []) ⟨hx, hb, hml, hown, htb⟩ (c_Am_digit l D cA am am_a am_f x2 _ hw _) (ct_cwV 1 htb tw510 rfl rfl tw77 tw507 tw508 tw509 hd_Am_digit ⟨by decide, by decide⟩) (ct_preV hP hD hK hN [0, 1] rfl (by decide) 0 rfl rfl _) rfl rfl hl.1 rfl (lv_room (Nat.le_of_ble_eq_true rfl)) d_Am_addOneAt_10 ⟨Nat.zero_le _, Nat.zero_le _⟩) hP hD hS hA [0, 1] [] [0, 1] rfl rfl (by decide) (by decide) (fun _ => rfl) (by decide) (fun r1 u2 H locs hw hP hD hS => ?_)
        have hP : va_P D vwCl (wd_Am cA am am_a am_f) H := hP
        have hD : va_D A (wd_Am cA am am_a am_f) := hD
        refine lv_bipush (v := 9) hx hb d_Am_addOneAt_13 (by decide) ?_
        refine lv_icmp_ge (tgt := 31) hx hb d_Am_addOneAt_15 rfl (fun hc => ?_) (fun hc => ?_)
        · have hw := hw.1 hc
          refine lv_aload_n hx hb d_Am_addOneAt_31 rfl (lv_at hl 0 rfl) ?_
          refine lv_iload_n hx hb d_Am_addOneAt_32 rfl (lv_at hl 1 rfl) ?_
          refine lv_iconst (v := 0) hx hb d_Am_addOneAt_33 (by decide) ?_
          refine ct_callv (wn := fun u4 => wd_Am cA am am_a u4) (va_runV (As := [.int x2, .int 0]) (rest := []) ⟨hx, hb, hml, hown, htb⟩ (c_Am_put l D cA am am_a am_f x2 0 _ hw _) (ct_cwV 2 htb tw494 rfl rfl tw77 tw491 tw493 tw19 hd_Am_put ⟨by decide, by decide⟩) (ct_preV hP hD hK hN [0, 1] rfl (by decide) 0 rfl rfl _) rfl rfl hl.1 rfl (lv_room (Nat.le_of_ble_eq_true rfl)) d_Am_addOneAt_34 ⟨Nat.zero_le _, Nat.zero_le _⟩) hP hD hS hA [0, 1] [] [0, 1] rfl rfl (by decide) (by decide) (fun _ => rfl) (by decide) (fun u4 H locs hw hP hD hS => ?_)
          have hP : va_P D vwCl (wd_Am cA am am_a u4) H := hP
          have hD : va_D A (wd_Am cA am am_a u4) := hD
          refine lv_iinc (k := 1) (v := x2 + 1) (lv' := [(2, .int (x2 + 1)), (0, .ref am)]) hx hb d_Am_addOneAt_37 hl rfl (by rfl) (by decide) rfl (fun ls hl => ?_)
          refine lv_goto (tgt := 2) hx hb d_Am_addOneAt_40 rfl ?_
          exact ih20 (x2 + 1) u4 _ _ _ (lv_sub hl [1, 0] rfl) hP hD hS hw
        · have hw := hw.2 hc
          refine lv_aload_n hx hb d_Am_addOneAt_18 rfl (lv_at hl 0 rfl) ?_
          refine lv_iload_n hx hb d_Am_addOneAt_19 rfl (lv_at hl 1 rfl) ?_
          refine lv_aload_n hx hb d_Am_addOneAt_20 rfl (lv_at hl 0 rfl) ?_
          refine lv_iload_n hx hb d_Am_addOneAt_21 rfl (lv_at hl 1 rfl) ?_
          refine ct_calli (wn := fun _ => wd_Am cA am am_a am_f) (va_runV (As := [.int x2]) (rest := [.int x2, .ref am]) ⟨hx, hb, hml, hown, htb⟩ (c_Am_digit l D cA am am_a am_f x2 _ hw _) (ct_cwV 1 htb tw510 rfl rfl tw77 tw507 tw508 tw509 hd_Am_digit ⟨by decide, by decide⟩) (ct_preV hP hD hK hN [0, 1] rfl (by decide) 0 rfl rfl _) rfl rfl hl.1 rfl (lv_room (Nat.le_of_ble_eq_true rfl)) d_Am_addOneAt_22 ⟨Nat.zero_le _, Nat.zero_le _⟩) hP hD hS hA [0, 1] [] [0, 1] rfl rfl (by decide) (by decide) (fun _ => rfl) (by decide) (fun r5 u6 H locs hw hP hD hS => ?_)
          have hP : va_P D vwCl (wd_Am cA am am_a am_f) H := hP
          have hD : va_D A (wd_Am cA am am_a am_f) := hD
          refine lv_iconst (v := 1) hx hb d_Am_addOneAt_25 (by decide) ?_
          refine lv_iadd hx hb d_Am_addOneAt_26 ?_
          refine ct_callv (wn := fun u8 => wd_Am cA am am_a u8) (va_runV (As := [.int x2, .int (r5 + 1)]) (rest := []) ⟨hx, hb, hml, hown, htb⟩ (c_Am_put l D cA am am_a am_f x2 (r5 + 1) _ hw _) (ct_cwV 2 htb tw494 rfl rfl tw77 tw491 tw493 tw19 hd_Am_put ⟨by decide, by decide⟩) (ct_preV hP hD hK hN [0, 1] rfl (by decide) 0 rfl rfl _) rfl rfl hl.1 rfl (lv_room (Nat.le_of_ble_eq_true rfl)) d_Am_addOneAt_27 ⟨Nat.zero_le _, Nat.zero_le _⟩) hP hD hS hA [0, 1] [] [0, 1] rfl rfl (by decide) (by decide) (fun _ => rfl) (by decide) (fun u8 H locs hw hP hD hS => ?_)
          have hP : va_P D vwCl (wd_Am cA am am_a u8) H := hP
          have hD : va_D A (wd_Am cA am am_a u8) := hD
          exact ct_vret hx hb hr hlk hK hS u8 hw hP hD d_Am_addOneAt_30
  refine lv_iload_n hx hb d_Am_addOneAt_0 rfl (lv_at hl 1 rfl) ?_
  refine lv_istore_n (lv' := [(2, .int pw), (0, .ref am), (1, .int pw)]) hx hb d_Am_addOneAt_1 rfl hl (by decide) rfl (fun ls hl => ?_)
  obtain ⟨n20, hw⟩ := hw
  exact hL20 n20 pw am_f _ _ _ (lv_sub hl [1, 0] rfl) hP hD hS hw
/-! DecimalPatterns$Amount.roundTo(IIZ)Z -/
def wp_Am_roundTo (am_f : Nat → Int32) (pw : Int32) (md : Int32) (ng : Bool) (Q : Bool → (Nat → Int32) → Prop) : Prop := wp_Am_anyBelow am_f pw (fun r1 u2 => (r1 = true → ((¬ md = 7 → (wp_Am_goesUp am_f pw md ng (fun r3 u4 => wp_Am_clearBelow am_f pw (fun u6 => (r3 = false → (Q true u6)) ∧ (r3 = true → (wp_Am_addOneAt u6 pw (fun u8 => Q true u8))))))) ∧ (md = 7 → (Q false am_f)))) ∧ (r1 = false → (Q true am_f)))
set_option maxHeartbeats 4000000 in
set_option maxRecDepth 100000 in
theorem c_Am_roundTo (l : Launch) (D : va_G) (cA : ClassId) (am am_a : Nat) (am_f : Nat → Int32) (pw : Int32) (md : Int32) (ng : Bool) (Q : Bool → (Nat → Int32) → Prop) (hw : wp_Am_roundTo am_f pw md ng Q) : ct_M vwCl l D [(cA, .int)] y_Am_roundTo w_Am_roundTo { frames := 3, cells := 0, slots := 0, locals := 67 } [.ref am, .int pw, .int md, .int (bI ng)] (wd_Am cA am am_a am_f) (ct_qz vwCl D [(cA, .int)] Q (fun u => wd_Am cA am am_a u)) := by
  refine ct_enter (cc := b_Am_roundTo) (maxL := 5) (ret := (some .boolean)) (by decide) rfl (Nat.le_of_ble_eq_true rfl) ?_
  intro p e s m args below meth c A ls hx hb hr hlk hml hts hown hA hS hP hK hN hD hl
  have hl : lv_has ls 5 [(0, .ref am), (1, .int pw), (2, .int md), (3, .int (bI ng))] := hl
  have htb : ∀ w ∈ tbl, w.before args s = true := fun w h => hts w (List.mem_cons_of_mem _ h)
  have hown : s.vm.findClass "DecimalPatterns$Amount" = some m.cls := hown
  unfold wp_Am_roundTo at hw
  refine lv_aload_n hx hb d_Am_roundTo_0 rfl (lv_at hl 0 rfl) ?_
  refine lv_iload_n hx hb d_Am_roundTo_1 rfl (lv_at hl 1 rfl) ?_
  refine ct_callz (wn := fun _ => wd_Am cA am am_a am_f) (va_runV (As := [.int pw]) (rest := []) ⟨hx, hb, hml, hown, htb⟩ (c_Am_anyBelow l D cA am am_a am_f pw _ hw _) (ct_cwV 1 htb tw518 rfl rfl tw77 tw515 tw517 tw21 hd_Am_anyBelow ⟨by decide, by decide⟩) (ct_preV hP hD hK hN [0, 1] rfl (by decide) 0 rfl rfl _) rfl rfl hl.1 rfl (lv_room (Nat.le_of_ble_eq_true rfl)) d_Am_roundTo_2 ⟨Nat.zero_le _, Nat.zero_le _⟩) hP hD hS hA [0, 1] [] [0, 1] rfl rfl (by decide) (by decide) (fun _ => rfl) (by decide) (fun r1 u2 H locs hw hP hD hS => ?_)
  have hP : va_P D vwCl (wd_Am cA am am_a am_f) H := hP
  have hD : va_D A (wd_Am cA am am_a am_f) := hD
  refine lv_if_ne (tgt := 10) hx hb d_Am_roundTo_5 rfl (fun hc => ?_) (fun hc => ?_)
  · have hw := hw.1 ((bI_n0 _).mp hc)
    refine lv_iload_n hx hb d_Am_roundTo_10 rfl (lv_at hl 2 rfl) ?_
    refine lv_bipush (v := 7) hx hb d_Am_roundTo_11 (by decide) ?_
    refine lv_icmp_ne (tgt := 18) hx hb d_Am_roundTo_13 rfl (fun hc => ?_) (fun hc => ?_)
    · have hw := hw.1 hc
      refine lv_aload_n hx hb d_Am_roundTo_18 rfl (lv_at hl 0 rfl) ?_
      refine lv_iload_n hx hb d_Am_roundTo_19 rfl (lv_at hl 1 rfl) ?_
      refine lv_iload_n hx hb d_Am_roundTo_20 rfl (lv_at hl 2 rfl) ?_
      refine lv_iload_n hx hb d_Am_roundTo_21 rfl (lv_at hl 3 rfl) ?_
      refine ct_callz (wn := fun _ => wd_Am cA am am_a am_f) (va_runV (As := [.int pw, .int md, .int (bI ng)]) (rest := []) ⟨hx, hb, hml, hown, htb⟩ (c_Am_goesUp l D cA am am_a am_f pw md ng _ hw _) (ct_cwV 3 htb tw522 rfl rfl tw77 tw519 tw521 tw22 hd_Am_goesUp ⟨by decide, by decide⟩) (ct_preV hP hD hK hN [0, 1] rfl (by decide) 0 rfl rfl _) rfl rfl hl.1 rfl (lv_room (Nat.le_of_ble_eq_true rfl)) d_Am_roundTo_22 ⟨Nat.zero_le _, Nat.zero_le _⟩) hP hD hS hA [0, 1] [] [0, 1] rfl rfl (by decide) (by decide) (fun _ => rfl) (by decide) (fun r3 u4 H locs hw hP hD hS => ?_)
      have hP : va_P D vwCl (wd_Am cA am am_a am_f) H := hP
      have hD : va_D A (wd_Am cA am am_a am_f) := hD
      refine lv_istore (lv' := [(4, .int (bI r3)), (0, .ref am), (1, .int pw), (2, .int md), (3, .int (bI ng))]) hx hb d_Am_roundTo_25 hl (by decide) rfl (fun ls hl => ?_)
      refine lv_aload_n hx hb d_Am_roundTo_27 rfl (lv_at hl 1 rfl) ?_
      refine lv_iload_n hx hb d_Am_roundTo_28 rfl (lv_at hl 2 rfl) ?_
      refine ct_callv (wn := fun u6 => wd_Am cA am am_a u6) (va_runV (As := [.int pw]) (rest := []) ⟨hx, hb, hml, hown, htb⟩ (c_Am_clearBelow l D cA am am_a am_f pw _ hw _) (ct_cwV 1 htb tw489 rfl rfl tw77 tw486 tw488 tw18 hd_Am_clearBelow ⟨by decide, by decide⟩) (ct_preV hP hD hK hN [0, 1] rfl (by decide) 0 rfl rfl _) rfl rfl hl.1 rfl (lv_room (Nat.le_of_ble_eq_true rfl)) d_Am_roundTo_29 ⟨Nat.zero_le _, Nat.zero_le _⟩) hP hD hS hA [0, 1] [] [0, 1] rfl rfl (by decide) (by decide) (fun _ => rfl) (by decide) (fun u6 H locs hw hP hD hS => ?_)
      have hP : va_P D vwCl (wd_Am cA am am_a u6) H := hP
      have hD : va_D A (wd_Am cA am am_a u6) := hD
      refine lv_iload hx hb d_Am_roundTo_32 (lv_at hl 0 rfl) ?_
      refine lv_if_eq (tgt := 42) hx hb d_Am_roundTo_34 rfl (fun hc => ?_) (fun hc => ?_)
      · have hw := hw.1 ((bI_0 _).mp hc)
        refine lv_iconst (v := 1) hx hb d_Am_roundTo_42 (by decide) ?_
        exact ct_zret true hx hb hr hlk hK hS u6 hw hP hD d_Am_roundTo_43
      · have hw := hw.2 ((bI_n0 _).mp hc)
        refine lv_aload_n hx hb d_Am_roundTo_37 rfl (lv_at hl 1 rfl) ?_
        refine lv_iload_n hx hb d_Am_roundTo_38 rfl (lv_at hl 2 rfl) ?_
        refine ct_callv (wn := fun u8 => wd_Am cA am am_a u8) (va_runV (As := [.int pw]) (rest := []) ⟨hx, hb, hml, hown, htb⟩ (c_Am_addOneAt l D cA am am_a u6 pw _ hw _) (ct_cwV 1 htb tw530 rfl rfl tw77 tw527 tw529 tw24 hd_Am_addOneAt ⟨by decide, by decide⟩) (ct_preV hP hD hK hN [0, 1] rfl (by decide) 0 rfl rfl _) rfl rfl hl.1 rfl (lv_room (Nat.le_of_ble_eq_true rfl)) d_Am_roundTo_39 ⟨Nat.zero_le _, Nat.zero_le _⟩) hP hD hS hA [0, 1] [] [0, 1] rfl rfl (by decide) (by decide) (fun _ => rfl) (by decide) (fun u8 H locs hw hP hD hS => ?_)
        have hP : va_P D vwCl (wd_Am cA am am_a u8) H := hP
        have hD : va_D A (wd_Am cA am am_a u8) := hD
        refine lv_iconst (v := 1) hx hb d_Am_roundTo_42 (by decide) ?_
        exact ct_zret true hx hb hr hlk hK hS u8 hw hP hD d_Am_roundTo_43
    · have hw := hw.2 hc
      refine lv_iconst (v := 0) hx hb d_Am_roundTo_16 (by decide) ?_
      exact ct_zret false hx hb hr hlk hK hS am_f hw hP hD d_Am_roundTo_17
  · have hw := hw.2 ((bI_0 _).mp hc)
    refine lv_iconst (v := 1) hx hb d_Am_roundTo_8 (by decide) ?_
    exact ct_zret true hx hb hr hlk hK hS am_f hw hP hD d_Am_roundTo_9
