/-! DecimalPatterns$Symbols.code(I)I -/
def wp_Sym_code (sy_f : Nat → Int32) (ix : Int32) (Q : Int32 → Unit → Prop) : Prop := (ix < 0 → (Q (-1) ())) ∧ (¬ ix < 0 → ((6 ≤ ix → (Q (-1) ())) ∧ (¬ 6 ≤ ix → (vp_in ix 6 ∧ (Q (sy_f ix.toNatClampNeg) ())))))
set_option maxHeartbeats 4000000 in
set_option maxRecDepth 100000 in
theorem c_Sym_code (l : Launch) (D : va_G) (cA : ClassId) (sy sy_a : Nat) (sy_l : Int32) (sy_f : Nat → Int32) (ix : Int32) (Q : Int32 → Unit → Prop) (hw : wp_Sym_code sy_f ix Q) : ct_M vwCl l D [(cA, .int)] y_Sym_code w_Sym_code { frames := 0, cells := 0, slots := 0, locals := 0 } [.ref sy, .int ix] (wd_Sym cA sy sy_a sy_l sy_f) (ct_qi vwCl D [(cA, .int)] Q (fun u => wd_Sym cA sy sy_a sy_l sy_f)) := by
  refine ct_enter (cc := b_Sym_code) (maxL := 2) (ret := (some .int)) (by decide) rfl (Nat.le_of_ble_eq_true rfl) ?_
  intro p e s m args below meth c A ls hx hb hr hlk hml hts hown hA hS hP hK hN hD hl
  have hl : lv_has ls 2 [(0, .ref sy), (1, .int ix)] := hl
  have htb : ∀ w ∈ tbl, w.before args s = true := fun w h => hts w (List.mem_cons_of_mem _ h)
  have hown : s.vm.findClass "DecimalPatterns$Symbols" = some m.cls := hown
  unfold wp_Sym_code at hw
  refine lv_iload_n hx hb d_Sym_code_0 rfl (lv_at hl 1 rfl) ?_
  refine lv_if_lt (tgt := 19) hx hb d_Sym_code_1 rfl (fun hc => ?_) (fun hc => ?_)
  · have hw := hw.1 hc
    refine lv_iconst (v := (-1)) hx hb d_Sym_code_19 (by decide) ?_
    exact ct_iret hx hb hr hlk hK hS () hw hP hD d_Sym_code_20
  · have hw := hw.2 hc
    refine lv_iload_n hx hb d_Sym_code_4 rfl (lv_at hl 1 rfl) ?_
    refine lv_bipush (v := 6) hx hb d_Sym_code_5 (by decide) ?_
    refine lv_icmp_ge (tgt := 19) hx hb d_Sym_code_7 rfl (fun hc => ?_) (fun hc => ?_)
    · have hw := hw.1 hc
      refine lv_iconst (v := (-1)) hx hb d_Sym_code_19 (by decide) ?_
      exact ct_iret hx hb hr hlk hK hS () hw hP hD d_Sym_code_20
    · have hw := hw.2 hc
      refine lv_aload_n hx hb d_Sym_code_10 rfl (lv_at hl 0 rfl) ?_
      refine va_get (ci := 7) (C := R_Sy) (T := F_Sy) (N := 2) hx hb htb in_Sy hown hK hP 0 rfl rfl 0 (by decide) (htb _ tw118) (fun _ h9 => h9) rfl d_Sym_code_11 ?_
      refine lv_iload_n hx hb d_Sym_code_14 rfl (lv_at hl 1 rfl) ?_
      have hi := hw.1
      have hw := hw.2
      refine va_iald hx hb hK hP 1 0 rfl rfl hi d_Sym_code_15 ?_
      refine lv_goto (tgt := 20) hx hb d_Sym_code_16 rfl ?_
      exact ct_iret hx hb hr hlk hK hS () hw hP hD d_Sym_code_20
/-! DecimalPatterns$Symbols.digitCode(I)I -/
def wp_Sym_digitCode (sy_f : Nat → Int32) (dg : Int32) (Q : Int32 → Unit → Prop) : Prop := vp_in (5 : Int32) 6 ∧ (Q ((sy_f (5 : Int32).toNatClampNeg) + dg) ())
set_option maxHeartbeats 4000000 in
set_option maxRecDepth 100000 in
theorem c_Sym_digitCode (l : Launch) (D : va_G) (cA : ClassId) (sy sy_a : Nat) (sy_l : Int32) (sy_f : Nat → Int32) (dg : Int32) (Q : Int32 → Unit → Prop) (hw : wp_Sym_digitCode sy_f dg Q) : ct_M vwCl l D [(cA, .int)] y_Sym_digitCode w_Sym_digitCode { frames := 0, cells := 0, slots := 0, locals := 0 } [.ref sy, .int dg] (wd_Sym cA sy sy_a sy_l sy_f) (ct_qi vwCl D [(cA, .int)] Q (fun u => wd_Sym cA sy sy_a sy_l sy_f)) := by
  refine ct_enter (cc := b_Sym_digitCode) (maxL := 2) (ret := (some .int)) (by decide) rfl (Nat.le_of_ble_eq_true rfl) ?_
  intro p e s m args below meth c A ls hx hb hr hlk hml hts hown hA hS hP hK hN hD hl
  have hl : lv_has ls 2 [(0, .ref sy), (1, .int dg)] := hl
  have htb : ∀ w ∈ tbl, w.before args s = true := fun w h => hts w (List.mem_cons_of_mem _ h)
  have hown : s.vm.findClass "DecimalPatterns$Symbols" = some m.cls := hown
  unfold wp_Sym_digitCode at hw
  refine lv_aload_n hx hb d_Sym_digitCode_0 rfl (lv_at hl 0 rfl) ?_
  refine va_get (ci := 7) (C := R_Sy) (T := F_Sy) (N := 2) hx hb htb in_Sy hown hK hP 0 rfl rfl 0 (by decide) (htb _ tw118) (fun _ h9 => h9) rfl d_Sym_digitCode_1 ?_
  refine lv_iconst (v := 5) hx hb d_Sym_digitCode_4 (by decide) ?_
  have hi := hw.1
  have hw := hw.2
  refine va_iald hx hb hK hP 1 0 rfl rfl hi d_Sym_digitCode_5 ?_
  refine lv_iload_n hx hb d_Sym_digitCode_6 rfl (lv_at hl 1 rfl) ?_
  refine lv_iadd hx hb d_Sym_digitCode_7 ?_
  exact ct_iret hx hb hr hlk hK hS () hw hP hD d_Sym_digitCode_8
/-! DecimalPatterns$Symbols.digitOf(I)I -/
def wp_Sym_digitOf (sy_f : Nat → Int32) (cd : Int32) (Q : Int32 → Unit → Prop) : Prop := vp_in (5 : Int32) 6 ∧ (((cd - (sy_f (5 : Int32).toNatClampNeg)) < 0 → (Q (-1) ())) ∧ (¬ (cd - (sy_f (5 : Int32).toNatClampNeg)) < 0 → ((9 < (cd - (sy_f (5 : Int32).toNatClampNeg)) → (Q (-1) ())) ∧ (¬ 9 < (cd - (sy_f (5 : Int32).toNatClampNeg)) → (Q (cd - (sy_f (5 : Int32).toNatClampNeg)) ())))))
set_option maxHeartbeats 4000000 in
set_option maxRecDepth 100000 in
theorem c_Sym_digitOf (l : Launch) (D : va_G) (cA : ClassId) (sy sy_a : Nat) (sy_l : Int32) (sy_f : Nat → Int32) (cd : Int32) (Q : Int32 → Unit → Prop) (hw : wp_Sym_digitOf sy_f cd Q) : ct_M vwCl l D [(cA, .int)] y_Sym_digitOf w_Sym_digitOf { frames := 0, cells := 0, slots := 0, locals := 0 } [.ref sy, .int cd] (wd_Sym cA sy sy_a sy_l sy_f) (ct_qi vwCl D [(cA, .int)] Q (fun u => wd_Sym cA sy sy_a sy_l sy_f)) := by
  refine ct_enter (cc := b_Sym_digitOf) (maxL := 3) (ret := (some .int)) (by decide) rfl (Nat.le_of_ble_eq_true rfl) ?_
  intro p e s m args below meth c A ls hx hb hr hlk hml hts hown hA hS hP hK hN hD hl
  have hl : lv_has ls 3 [(0, .ref sy), (1, .int cd)] := hl
  have htb : ∀ w ∈ tbl, w.before args s = true := fun w h => hts w (List.mem_cons_of_mem _ h)
  have hown : s.vm.findClass "DecimalPatterns$Symbols" = some m.cls := hown
  unfold wp_Sym_digitOf at hw
  refine lv_iload_n hx hb d_Sym_digitOf_0 rfl (lv_at hl 1 rfl) ?_
  refine lv_aload_n hx hb d_Sym_digitOf_1 rfl (lv_at hl 0 rfl) ?_
  refine va_get (ci := 7) (C := R_Sy) (T := F_Sy) (N := 2) hx hb htb in_Sy hown hK hP 0 rfl rfl 0 (by decide) (htb _ tw118) (fun _ h9 => h9) rfl d_Sym_digitOf_2 ?_
  refine lv_iconst (v := 5) hx hb d_Sym_digitOf_5 (by decide) ?_
  have hi := hw.1
  have hw := hw.2
  refine va_iald hx hb hK hP 1 0 rfl rfl hi d_Sym_digitOf_6 ?_
  refine lv_isub hx hb d_Sym_digitOf_7 ?_
  refine lv_istore_n (lv' := [(2, .int (cd - (sy_f (5 : Int32).toNatClampNeg))), (0, .ref sy), (1, .int cd)]) hx hb d_Sym_digitOf_8 rfl hl (by decide) rfl (fun ls hl => ?_)
  refine lv_iload_n hx hb d_Sym_digitOf_9 rfl (lv_at hl 0 rfl) ?_
  refine lv_if_lt (tgt := 23) hx hb d_Sym_digitOf_10 rfl (fun hc => ?_) (fun hc => ?_)
  · have hw := hw.1 hc
    refine lv_iconst (v := (-1)) hx hb d_Sym_digitOf_23 (by decide) ?_
    exact ct_iret hx hb hr hlk hK hS () hw hP hD d_Sym_digitOf_24
  · have hw := hw.2 hc
    refine lv_iload_n hx hb d_Sym_digitOf_13 rfl (lv_at hl 0 rfl) ?_
    refine lv_bipush (v := 9) hx hb d_Sym_digitOf_14 (by decide) ?_
    refine lv_icmp_gt (tgt := 23) hx hb d_Sym_digitOf_16 rfl (fun hc => ?_) (fun hc => ?_)
    · have hw := hw.1 hc
      refine lv_iconst (v := (-1)) hx hb d_Sym_digitOf_23 (by decide) ?_
      exact ct_iret hx hb hr hlk hK hS () hw hP hD d_Sym_digitOf_24
    · have hw := hw.2 hc
      refine lv_iload_n hx hb d_Sym_digitOf_19 rfl (lv_at hl 0 rfl) ?_
      refine lv_goto (tgt := 24) hx hb d_Sym_digitOf_20 rfl ?_
      exact ct_iret hx hb hr hlk hK hS () hw hP hD d_Sym_digitOf_24
/-! DecimalPatterns$Symbols.standsBefore(II)Z -/
def wp_Sym_standsBefore_L20 : Nat → (Nat → Int32) → Int32 → Int32 → Int32 → (Bool → Unit → Prop) → Prop
  | 0, _, _, _, _, _ => False
  | n20 + 1, sy_f, x1, x2, x3, Q => (x1 ≤ x3 → (Q false ())) ∧ (¬ x1 ≤ x3 → ((6 ≤ x3 → (Q false ())) ∧ (¬ 6 ≤ x3 → (vp_in x3 6 ∧ ((¬ (sy_f x3.toNatClampNeg) = x2 → (wp_Sym_standsBefore_L20 n20 sy_f x1 x2 (x3 + 1) Q)) ∧ ((sy_f x3.toNatClampNeg) = x2 → (Q true ())))))))
def wp_Sym_standsBefore (sy_f : Nat → Int32) (ix : Int32) (cd : Int32) (Q : Bool → Unit → Prop) : Prop := ∃ n20, wp_Sym_standsBefore_L20 n20 sy_f ix cd 0 Q
set_option maxHeartbeats 4000000 in
set_option maxRecDepth 100000 in
theorem c_Sym_standsBefore (l : Launch) (D : va_G) (cA : ClassId) (sy sy_a : Nat) (sy_l : Int32) (sy_f : Nat → Int32) (ix : Int32) (cd : Int32) (Q : Bool → Unit → Prop) (hw : wp_Sym_standsBefore sy_f ix cd Q) : ct_M vwCl l D [(cA, .int)] y_Sym_standsBefore w_Sym_standsBefore { frames := 0, cells := 0, slots := 0, locals := 0 } [.ref sy, .int ix, .int cd] (wd_Sym cA sy sy_a sy_l sy_f) (ct_qz vwCl D [(cA, .int)] Q (fun u => wd_Sym cA sy sy_a sy_l sy_f)) := by
  refine ct_enter (cc := b_Sym_standsBefore) (maxL := 4) (ret := (some .boolean)) (by decide) rfl (Nat.le_of_ble_eq_true rfl) ?_
  intro p e s m args below meth c A ls hx hb hr hlk hml hts hown hA hS hP hK hN hD hl
  have hl : lv_has ls 4 [(0, .ref sy), (1, .int ix), (2, .int cd)] := hl
  have htb : ∀ w ∈ tbl, w.before args s = true := fun w h => hts w (List.mem_cons_of_mem _ h)
  have hown : s.vm.findClass "DecimalPatterns$Symbols" = some m.cls := hown
  unfold wp_Sym_standsBefore at hw
  have hL20 : ∀ (n20 : Nat) (x1 : Int32) (x2 : Int32) (x3 : Int32) (H : Heap) (locs : List Loc) (ls : Array Slot), lv_has ls 4 [(0, .ref sy), (1, .int x1), (2, .int x2), (3, .int x3)] → va_P D vwCl (wd_Sym cA sy sy_a sy_l sy_f) H → va_D A (wd_Sym cA sy sy_a sy_l sy_f) → va_S A s.heap H locs → wp_Sym_standsBefore_L20 n20 sy_f x1 x2 x3 Q → W p l e { frames := 0, cells := 0, slots := 0, locals := 0 } s m args below meth c H locs 0 0 (MQ below (ct_qz vwCl D [(cA, .int)] Q (fun u => wd_Sym cA sy sy_a sy_l sy_f) A) args s 0 0 A) (F0 m 2 ls []) := by
    intro n20
    induction n20 with
    | zero => intro x1 x2 x3 H locs ls hl hP hD hS hw; exact hw.elim
    | succ n20 ih20 =>
      intro x1 x2 x3 H locs ls hl hP hD hS hw
      unfold wp_Sym_standsBefore_L20 at hw
      refine lv_iload_n hx hb d_Sym_standsBefore_2 rfl (lv_at hl 3 rfl) ?_
      refine lv_iload_n hx hb d_Sym_standsBefore_3 rfl (lv_at hl 1 rfl) ?_
      refine lv_icmp_ge (tgt := 31) hx hb d_Sym_standsBefore_4 rfl (fun hc => ?_) (fun hc => ?_)
      · have hw := hw.1 hc
        refine lv_iconst (v := 0) hx hb d_Sym_standsBefore_31 (by decide) ?_
        exact ct_zret false hx hb hr hlk hK hS () hw hP hD d_Sym_standsBefore_32
      · have hw := hw.2 hc
        refine lv_iload_n hx hb d_Sym_standsBefore_7 rfl (lv_at hl 3 rfl) ?_
        refine lv_bipush (v := 6) hx hb d_Sym_standsBefore_8 (by decide) ?_
        refine lv_icmp_ge (tgt := 31) hx hb d_Sym_standsBefore_10 rfl (fun hc => ?_) (fun hc => ?_)
        · have hw := hw.1 hc
          refine lv_iconst (v := 0) hx hb d_Sym_standsBefore_31 (by decide) ?_
          exact ct_zret false hx hb hr hlk hK hS () hw hP hD d_Sym_standsBefore_32
        · have hw := hw.2 hc
          refine lv_aload_n hx hb d_Sym_standsBefore_13 rfl (lv_at hl 0 rfl) ?_
          refine va_get (ci := 7) (C := R_Sy) (T := F_Sy) (N := 2) hx hb htb in_Sy hown hK hP 0 rfl rfl 0 (by decide) (htb _ tw118) (fun _ h9 => h9) rfl d_Sym_standsBefore_14 ?_
          refine lv_iload_n hx hb d_Sym_standsBefore_17 rfl (lv_at hl 3 rfl) ?_
          have hi := hw.1
          have hw := hw.2
          refine va_iald hx hb hK hP 1 0 rfl rfl hi d_Sym_standsBefore_18 ?_
          refine lv_iload_n hx hb d_Sym_standsBefore_19 rfl (lv_at hl 2 rfl) ?_
          refine lv_icmp_ne (tgt := 25) hx hb d_Sym_standsBefore_20 rfl (fun hc => ?_) (fun hc => ?_)
          · have hw := hw.1 hc
            refine lv_iinc (k := 3) (v := x3 + 1) (lv' := [(3, .int (x3 + 1)), (0, .ref sy), (1, .int x1), (2, .int x2)]) hx hb d_Sym_standsBefore_25 hl rfl (by rfl) (by decide) rfl (fun ls hl => ?_)
            refine lv_goto (tgt := 2) hx hb d_Sym_standsBefore_28 rfl ?_
            exact ih20 x1 x2 (x3 + 1) _ _ _ (lv_sub hl [1, 2, 3, 0] rfl) hP hD hS hw
          · have hw := hw.2 hc
            refine lv_iconst (v := 1) hx hb d_Sym_standsBefore_23 (by decide) ?_
            exact ct_zret true hx hb hr hlk hK hS () hw hP hD d_Sym_standsBefore_24
  refine lv_iconst (v := 0) hx hb d_Sym_standsBefore_0 (by decide) ?_
  refine lv_istore_n (lv' := [(3, .int 0), (0, .ref sy), (1, .int ix), (2, .int cd)]) hx hb d_Sym_standsBefore_1 rfl hl (by decide) rfl (fun ls hl => ?_)
  obtain ⟨n20, hw⟩ := hw
  exact hL20 n20 ix cd 0 _ _ _ (lv_sub hl [1, 2, 3, 0] rfl) hP hD hS hw
/-! DecimalPatterns$Symbols.areSound()Z -/
def wp_Sym_areSound_L360 : Nat → (Nat → Int32) → Int32 → (Bool → Unit → Prop) → Prop
  | 0, _, _, _ => False
  | n360 + 1, sy_f, x1, Q => (5 ≤ x1 → (Q true ())) ∧ (¬ 5 ≤ x1 → (vp_in x1 6 ∧ (wp_isPlain (sy_f x1.toNatClampNeg) (fun r11 u12 => (r11 = false → (Q false ())) ∧ (r11 = true → (((sy_f x1.toNatClampNeg) = 43 → (Q false ())) ∧ (¬ (sy_f x1.toNatClampNeg) = 43 → (wp_Sym_digitOf sy_f (sy_f x1.toNatClampNeg) (fun r13 u14 => (0 ≤ r13 → (Q false ())) ∧ (¬ 0 ≤ r13 → (wp_Sym_standsBefore sy_f x1 (sy_f x1.toNatClampNeg) (fun r15 u16 => (r15 = false → (wp_Sym_areSound_L360 n360 sy_f (x1 + 1) Q)) ∧ (r15 = true → (Q false ()))))))))))))))
def wp_Sym_areSound (sy_f : Nat → Int32) (Q : Bool → Unit → Prop) : Prop := wp_Sym_digitCode sy_f 0 (fun r1 u2 => wp_isPlain r1 (fun r3 u4 => (r3 = false → (Q false ())) ∧ (r3 = true → (wp_Sym_digitCode sy_f 9 (fun r5 u6 => wp_isPlain r5 (fun r7 u8 => (r7 = false → (Q false ())) ∧ (r7 = true → (wp_Sym_digitOf sy_f 43 (fun r9 u10 => (r9 < 0 → (∃ n360, wp_Sym_areSound_L360 n360 sy_f 0 Q)) ∧ (¬ r9 < 0 → (Q false ())))))))))))
set_option maxHeartbeats 4000000 in
set_option maxRecDepth 100000 in
theorem c_Sym_areSound (l : Launch) (D : va_G) (cA : ClassId) (sy sy_a : Nat) (sy_l : Int32) (sy_f : Nat → Int32) (Q : Bool → Unit → Prop) (hw : wp_Sym_areSound sy_f Q) : ct_M vwCl l D [(cA, .int)] y_Sym_areSound w_Sym_areSound { frames := 1, cells := 0, slots := 0, locals := 23 } [.ref sy] (wd_Sym cA sy sy_a sy_l sy_f) (ct_qz vwCl D [(cA, .int)] Q (fun u => wd_Sym cA sy sy_a sy_l sy_f)) := by
  refine ct_enter (cc := b_Sym_areSound) (maxL := 3) (ret := (some .boolean)) (by decide) rfl (Nat.le_of_ble_eq_true rfl) ?_
  intro p e s m args below meth c A ls hx hb hr hlk hml hts hown hA hS hP hK hN hD hl
  have hl : lv_has ls 3 [(0, .ref sy)] := hl
  have htb : ∀ w ∈ tbl, w.before args s = true := fun w h => hts w (List.mem_cons_of_mem _ h)
  have hown : s.vm.findClass "DecimalPatterns$Symbols" = some m.cls := hown
  unfold wp_Sym_areSound at hw
  have hL360 : ∀ (n360 : Nat) (x1 : Int32) (H : Heap) (locs : List Loc) (ls : Array Slot), lv_has ls 3 [(0, .ref sy), (1, .int x1)] → va_P D vwCl (wd_Sym cA sy sy_a sy_l sy_f) H → va_D A (wd_Sym cA sy sy_a sy_l sy_f) → va_S A s.heap H locs → wp_Sym_areSound_L360 n360 sy_f x1 Q → W p l e { frames := 1, cells := 0, slots := 0, locals := 23 } s m args below meth c H locs 0 0 (MQ below (ct_qz vwCl D [(cA, .int)] Q (fun u => wd_Sym cA sy sy_a sy_l sy_f) A) args s 0 0 A) (F0 m 36 ls []) := by
    intro n360
    induction n360 with
    | zero => intro x1 H locs ls hl hP hD hS hw; exact hw.elim
    | succ n360 ih360 =>
      intro x1 H locs ls hl hP hD hS hw
      unfold wp_Sym_areSound_L360 at hw
      refine lv_iload_n hx hb d_Sym_areSound_36 rfl (lv_at hl 1 rfl) ?_
      refine lv_iconst (v := 5) hx hb d_Sym_areSound_37 (by decide) ?_
      refine lv_icmp_ge (tgt := 86) hx hb d_Sym_areSound_38 rfl (fun hc => ?_) (fun hc => ?_)
      · have hw := hw.1 hc
        refine lv_iconst (v := 1) hx hb d_Sym_areSound_86 (by decide) ?_
        exact ct_zret true hx hb hr hlk hK hS () hw hP hD d_Sym_areSound_87
      · have hw := hw.2 hc
        refine lv_aload_n hx hb d_Sym_areSound_41 rfl (lv_at hl 0 rfl) ?_
        refine va_get (ci := 7) (C := R_Sy) (T := F_Sy) (N := 2) hx hb htb in_Sy hown hK hP 0 rfl rfl 0 (by decide) (htb _ tw118) (fun _ h9 => h9) rfl d_Sym_areSound_42 ?_
        refine lv_iload_n hx hb d_Sym_areSound_45 rfl (lv_at hl 1 rfl) ?_
        have hi := hw.1
        have hw := hw.2
        refine va_iald hx hb hK hP 1 0 rfl rfl hi d_Sym_areSound_46 ?_
        refine lv_istore_n (lv' := [(2, .int (sy_f x1.toNatClampNeg)), (0, .ref sy), (1, .int x1)]) hx hb d_Sym_areSound_47 rfl hl (by decide) rfl (fun ls hl => ?_)
        refine lv_iload_n hx hb d_Sym_areSound_48 rfl (lv_at hl 0 rfl) ?_
        refine ct_callz (wn := fun _ => wd_Sym cA sy sy_a sy_l sy_f) (va_runSN (As := [.int (sy_f x1.toNatClampNeg)]) (rest := []) ⟨hx, hb, hml, hown, htb⟩ (c_isPlain l D cA (sy_f x1.toNatClampNeg) _ hw _) (ct_cwSN 1 htb tw342 rfl rfl tw72 hN tw341 hd_isPlain ⟨by decide, by decide⟩) (ct_preS hP hD hK hN [] rfl (by decide) _) rfl rfl hl.1 rfl (lv_room (Nat.le_of_ble_eq_true rfl)) d_Sym_areSound_49 ⟨Nat.zero_le _, Nat.zero_le _⟩) hP hD hS hA [] [0, 1] [0, 1] rfl rfl (by decide) (by decide) (fun _ => rfl) (by decide) (fun r11 u12 H locs hw hP hD hS => ?_)
        have hP : va_P D vwCl (wd_Sym cA sy sy_a sy_l sy_f) H := hP
        have hD : va_D A (wd_Sym cA sy sy_a sy_l sy_f) := hD
        refine lv_if_eq (tgt := 78) hx hb d_Sym_areSound_52 rfl (fun hc => ?_) (fun hc => ?_)
        · have hw := hw.1 ((bI_0 _).mp hc)
          refine lv_iconst (v := 0) hx hb d_Sym_areSound_78 (by decide) ?_
          exact ct_zret false hx hb hr hlk hK hS () hw hP hD d_Sym_areSound_79
        · have hw := hw.2 ((bI_n0 _).mp hc)
          refine lv_iload_n hx hb d_Sym_areSound_55 rfl (lv_at hl 0 rfl) ?_
          refine lv_bipush (v := 43) hx hb d_Sym_areSound_56 (by decide) ?_
          refine lv_icmp_eq (tgt := 78) hx hb d_Sym_areSound_58 rfl (fun hc => ?_) (fun hc => ?_)
          · have hw := hw.1 hc
            refine lv_iconst (v := 0) hx hb d_Sym_areSound_78 (by decide) ?_
            exact ct_zret false hx hb hr hlk hK hS () hw hP hD d_Sym_areSound_79
          · have hw := hw.2 hc
            refine lv_aload_n hx hb d_Sym_areSound_61 rfl (lv_at hl 1 rfl) ?_
            refine lv_iload_n hx hb d_Sym_areSound_62 rfl (lv_at hl 0 rfl) ?_
            refine ct_calli (wn := fun _ => wd_Sym cA sy sy_a sy_l sy_f) (va_runV (As := [.int (sy_f x1.toNatClampNeg)]) (rest := []) ⟨hx, hb, hml, hown, htb⟩ (c_Sym_digitOf l D cA sy sy_a sy_l sy_f (sy_f x1.toNatClampNeg) _ hw _) (ct_cwV 1 htb tw465 rfl rfl tw75 tw462 tw463 tw464 hd_Sym_digitOf ⟨by decide, by decide⟩) (ct_preV hP hD hK hN [0, 1] rfl (by decide) 0 rfl rfl _) rfl rfl hl.1 rfl (lv_room (Nat.le_of_ble_eq_true rfl)) d_Sym_areSound_63 ⟨Nat.zero_le _, Nat.zero_le _⟩) hP hD hS hA [0, 1] [] [0, 1] rfl rfl (by decide) (by decide) (fun _ => rfl) (by decide) (fun r13 u14 H locs hw hP hD hS => ?_)
            have hP : va_P D vwCl (wd_Sym cA sy sy_a sy_l sy_f) H := hP
            have hD : va_D A (wd_Sym cA sy sy_a sy_l sy_f) := hD
            refine lv_if_ge (tgt := 78) hx hb d_Sym_areSound_66 rfl (fun hc => ?_) (fun hc => ?_)
            · have hw := hw.1 hc
              refine lv_iconst (v := 0) hx hb d_Sym_areSound_78 (by decide) ?_
              exact ct_zret false hx hb hr hlk hK hS () hw hP hD d_Sym_areSound_79
            · have hw := hw.2 hc
              refine lv_aload_n hx hb d_Sym_areSound_69 rfl (lv_at hl 1 rfl) ?_
              refine lv_iload_n hx hb d_Sym_areSound_70 rfl (lv_at hl 2 rfl) ?_
              refine lv_iload_n hx hb d_Sym_areSound_71 rfl (lv_at hl 0 rfl) ?_
              refine ct_callz (wn := fun _ => wd_Sym cA sy sy_a sy_l sy_f) (va_runV (As := [.int x1, .int (sy_f x1.toNatClampNeg)]) (rest := []) ⟨hx, hb, hml, hown, htb⟩ (c_Sym_standsBefore l D cA sy sy_a sy_l sy_f x1 (sy_f x1.toNatClampNeg) _ hw _) (ct_cwV 2 htb tw469 rfl rfl tw75 tw466 tw468 tw17 hd_Sym_standsBefore ⟨by decide, by decide⟩) (ct_preV hP hD hK hN [0, 1] rfl (by decide) 0 rfl rfl _) rfl rfl hl.1 rfl (lv_room (Nat.le_of_ble_eq_true rfl)) d_Sym_areSound_72 ⟨Nat.zero_le _, Nat.zero_le _⟩) hP hD hS hA [0, 1] [] [0, 1] rfl rfl (by decide) (by decide) (fun _ => rfl) (by decide) (fun r15 u16 H locs hw hP hD hS => ?_)
              have hP : va_P D vwCl (wd_Sym cA sy sy_a sy_l sy_f) H := hP
              have hD : va_D A (wd_Sym cA sy sy_a sy_l sy_f) := hD
              refine lv_if_eq (tgt := 80) hx hb d_Sym_areSound_75 rfl (fun hc => ?_) (fun hc => ?_)
              · have hw := hw.1 ((bI_0 _).mp hc)
                refine lv_iinc (k := 2) (v := x1 + 1) (lv' := [(1, .int (x1 + 1)), (2, .int (sy_f x1.toNatClampNeg)), (0, .ref sy)]) hx hb d_Sym_areSound_80 hl rfl (by rfl) (by decide) rfl (fun ls hl => ?_)
                refine lv_goto (tgt := 36) hx hb d_Sym_areSound_83 rfl ?_
                exact ih360 (x1 + 1) _ _ _ (lv_sub hl [2, 0] rfl) hP hD hS hw
              · have hw := hw.2 ((bI_n0 _).mp hc)
                refine lv_iconst (v := 0) hx hb d_Sym_areSound_78 (by decide) ?_
                exact ct_zret false hx hb hr hlk hK hS () hw hP hD d_Sym_areSound_79
  refine lv_aload_n hx hb d_Sym_areSound_0 rfl (lv_at hl 0 rfl) ?_
  refine lv_iconst (v := 0) hx hb d_Sym_areSound_1 (by decide) ?_
  refine ct_calli (wn := fun _ => wd_Sym cA sy sy_a sy_l sy_f) (va_runV (As := [.int 0]) (rest := []) ⟨hx, hb, hml, hown, htb⟩ (c_Sym_digitCode l D cA sy sy_a sy_l sy_f 0 _ hw _) (ct_cwV 1 htb tw460 rfl rfl tw75 tw457 tw458 tw459 hd_Sym_digitCode ⟨by decide, by decide⟩) (ct_preV hP hD hK hN [0, 1] rfl (by decide) 0 rfl rfl _) rfl rfl hl.1 rfl (lv_room (Nat.le_of_ble_eq_true rfl)) d_Sym_areSound_2 ⟨Nat.zero_le _, Nat.zero_le _⟩) hP hD hS hA [0, 1] [] [0, 1] rfl rfl (by decide) (by decide) (fun _ => rfl) (by decide) (fun r1 u2 H locs hw hP hD hS => ?_)
  have hP : va_P D vwCl (wd_Sym cA sy sy_a sy_l sy_f) H := hP
  have hD : va_D A (wd_Sym cA sy sy_a sy_l sy_f) := hD
  refine ct_callz (wn := fun _ => wd_Sym cA sy sy_a sy_l sy_f) (va_runSN (As := [.int r1]) (rest := []) ⟨hx, hb, hml, hown, htb⟩ (c_isPlain l D cA r1 _ hw _) (ct_cwSN 1 htb tw342 rfl rfl tw72 hN tw341 hd_isPlain ⟨by decide, by decide⟩) (ct_preS hP hD hK hN [] rfl (by decide) _) rfl rfl hl.1 rfl (lv_room (Nat.le_of_ble_eq_true rfl)) d_Sym_areSound_5 ⟨Nat.zero_le _, Nat.zero_le _⟩) hP hD hS hA [] [0, 1] [0, 1] rfl rfl (by decide) (by decide) (fun _ => rfl) (by decide) (fun r3 u4 H locs hw hP hD hS => ?_)
  have hP : va_P D vwCl (wd_Sym cA sy sy_a sy_l sy_f) H := hP
  have hD : va_D A (wd_Sym cA sy sy_a sy_l sy_f) := hD
  refine lv_if_eq (tgt := 32) hx hb d_Sym_areSound_8 rfl (fun hc => ?_) (fun hc => ?_)
  · have hw := hw.1 ((bI_0 _).mp hc)
    refine lv_iconst (v := 0) hx hb d_Sym_areSound_32 (by decide) ?_
    exact ct_zret false hx hb hr hlk hK hS () hw hP hD d_Sym_areSound_33
  · have hw := hw.2 ((bI_n0 _).mp hc)
    refine lv_aload_n hx hb d_Sym_areSound_11 rfl (lv_at hl 0 rfl) ?_
    refine lv_bipush (v := 9) hx hb d_Sym_areSound_12 (by decide) ?_
    refine ct_calli (wn := fun _ => wd_Sym cA sy sy_a sy_l sy_f) (va_runV (As := [.int 9]) (rest := []) ⟨hx, hb, hml, hown, htb⟩ (c_Sym_digitCode l D cA sy sy_a sy_l sy_f 9 _ hw _) (ct_cwV 1 htb tw460 rfl rfl tw75 tw457 tw458 tw459 hd_Sym_digitCode ⟨by decide, by decide⟩) (ct_preV hP hD hK hN [0, 1] rfl (by decide) 0 rfl rfl _) rfl rfl hl.1 rfl (lv_room (Nat.le_of_ble_eq_true rfl)) d_Sym_areSound_14 ⟨Nat.zero_le _, Nat.zero_le _⟩) hP hD hS hA [0, 1] [] [0, 1] rfl rfl (by decide) (by decide) (fun _ => rfl) (by decide) (fun r5 u6 H locs hw hP hD hS => ?_)
    have hP : va_P D vwCl (wd_Sym cA sy sy_a sy_l sy_f) H := hP
    have hD : va_D A (wd_Sym cA sy sy_a sy_l sy_f) := hD
    refine ct_callz (wn := fun _ => wd_Sym cA sy sy_a sy_l sy_f) (va_runSN (As := [.int r5]) (rest := []) ⟨hx, hb, hml, hown, htb⟩ (c_isPlain l D cA r5 _ hw _) (ct_cwSN 1 htb tw342 rfl rfl tw72 hN tw341 hd_isPlain ⟨by decide, by decide⟩) (ct_preS hP hD hK hN [] rfl (by decide) _) rfl rfl hl.1 rfl (lv_room (Nat.le_of_ble_eq_true rfl)) d_Sym_areSound_17 ⟨Nat.zero_le _, Nat.zero_le _⟩) hP hD hS hA [] [0, 1] [0, 1] rfl rfl (by decide) (by decide) (fun _ => rfl) (by decide) (fun r7 u8 H locs hw hP hD hS => ?_)
    have hP : va_P D vwCl (wd_Sym cA sy sy_a sy_l sy_f) H := hP
    have hD : va_D A (wd_Sym cA sy sy_a sy_l sy_f) := hD
    refine lv_if_eq (tgt := 32) hx hb d_Sym_areSound_20 rfl (fun hc => ?_) (fun hc => ?_)
    · have hw := hw.1 ((bI_0 _).mp hc)
      refine lv_iconst (v := 0) hx hb d_Sym_areSound_32 (by decide) ?_
      exact ct_zret false hx hb hr hlk hK hS () hw hP hD d_Sym_areSound_33
    · have hw := hw.2 ((bI_n0 _).mp hc)
      refine lv_aload_n hx hb d_Sym_areSound_23 rfl (lv_at hl 0 rfl) ?_
      refine lv_bipush (v := 43) hx hb d_Sym_areSound_24 (by decide) ?_
      refine ct_calli (wn := fun _ => wd_Sym cA sy sy_a sy_l sy_f) (va_runV (As := [.int 43]) (rest := []) ⟨hx, hb, hml, hown, htb⟩ (c_Sym_digitOf l D cA sy sy_a sy_l sy_f 43 _ hw _) (ct_cwV 1 htb tw465 rfl rfl tw75 tw462 tw463 tw464 hd_Sym_digitOf ⟨by decide, by decide⟩) (ct_preV hP hD hK hN [0, 1] rfl (by decide) 0 rfl rfl _) rfl rfl hl.1 rfl (lv_room (Nat.le_of_ble_eq_true rfl)) d_Sym_areSound_26 ⟨Nat.zero_le _, Nat.zero_le _⟩) hP hD hS hA [0, 1] [] [0, 1] rfl rfl (by decide) (by decide) (fun _ => rfl) (by decide) (fun r9 u10 H locs hw hP hD hS => ?_)
      have hP : va_P D vwCl (wd_Sym cA sy sy_a sy_l sy_f) H := hP
      have hD : va_D A (wd_Sym cA sy sy_a sy_l sy_f) := hD
      refine lv_if_lt (tgt := 34) hx hb d_Sym_areSound_29 rfl (fun hc => ?_) (fun hc => ?_)
      · have hw := hw.1 hc
        refine lv_iconst (v := 0) hx hb d_Sym_areSound_34 (by decide) ?_
        refine lv_istore_n (lv' := [(1, .int 0), (0, .ref sy)]) hx hb d_Sym_areSound_35 rfl hl (by decide) rfl (fun ls hl => ?_)
        obtain ⟨n360, hw⟩ := hw
        exact hL360 n360 0 _ _ _ (lv_sub hl [1, 0] rfl) hP hD hS hw
      · have hw := hw.2 hc
        refine lv_iconst (v := 0) hx hb d_Sym_areSound_32 (by decide) ?_
        exact ct_zret false hx hb hr hlk hK hS () hw hP hD d_Sym_areSound_33
/-! DecimalPatterns$Symbols.change(II)Z -/
def wp_Sym_change (sy_f : Nat → Int32) (ix : Int32) (cd : Int32) (Q : Bool → (Nat → Int32) → Prop) : Prop := (ix < 0 → (Q false sy_f)) ∧ (¬ ix < 0 → ((ix < 6 → (vp_in ix 6 ∧ (vp_in ix 6 ∧ (wp_Sym_areSound (upd sy_f ix.toNatClampNeg cd) (fun r1 u2 => (r1 = false → (vp_in ix 6 ∧ (Q false (upd (upd sy_f ix.toNatClampNeg cd) ix.toNatClampNeg (sy_f ix.toNatClampNeg))))) ∧ (r1 = true → (Q true (upd sy_f ix.toNatClampNeg cd)))))))) ∧ (¬ ix < 6 → (Q false sy_f))))
set_option maxHeartbeats 4000000 in
set_option maxRecDepth 100000 in
theorem c_Sym_change (l : Launch) (D : va_G) (cA : ClassId) (sy sy_a : Nat) (sy_l : Int32) (sy_f : Nat → Int32) (ix : Int32) (cd : Int32) (Q : Bool → (Nat → Int32) → Prop) (hw : wp_Sym_change sy_f ix cd Q) : ct_M vwCl l D [(cA, .int)] y_Sym_change w_Sym_change { frames := 2, cells := 0, slots := 0, locals := 45 } [.ref sy, .int ix, .int cd] (wd_Sym cA sy sy_a sy_l sy_f) (ct_qz vwCl D [(cA, .int)] Q (fun u => wd_Sym cA sy sy_a sy_l u)) := by
  refine ct_enter (cc := b_Sym_change) (maxL := 4) (ret := (some .boolean)) (by decide) rfl (Nat.le_of_ble_eq_true rfl) ?_
  intro p e s m args below meth c A ls hx hb hr hlk hml hts hown hA hS hP hK hN hD hl
  have hl : lv_has ls 4 [(0, .ref sy), (1, .int ix), (2, .int cd)] := hl
  have htb : ∀ w ∈ tbl, w.before args s = true := fun w h => hts w (List.mem_cons_of_mem _ h)
  have hown : s.vm.findClass "DecimalPatterns$Symbols" = some m.cls := hown
  unfold wp_Sym_change at hw
  refine lv_iload_n hx hb d_Sym_change_0 rfl (lv_at hl 1 rfl) ?_
  refine lv_if_lt (tgt := 10) hx hb d_Sym_change_1 rfl (fun hc => ?_) (fun hc => ?_)
  · have hw := hw.1 hc
    refine lv_iconst (v := 0) hx hb d_Sym_change_10 (by decide) ?_
    exact ct_zret false hx hb hr hlk hK hS sy_f hw hP hD d_Sym_change_11
  · have hw := hw.2 hc
    refine lv_iload_n hx hb d_Sym_change_4 rfl (lv_at hl 1 rfl) ?_
    refine lv_bipush (v := 6) hx hb d_Sym_change_5 (by decide) ?_
    refine lv_icmp_lt (tgt := 12) hx hb d_Sym_change_7 rfl (fun hc => ?_) (fun hc => ?_)
    · have hw := hw.1 hc
      refine lv_aload_n hx hb d_Sym_change_12 rfl (lv_at hl 0 rfl) ?_
      refine va_get (ci := 7) (C := R_Sy) (T := F_Sy) (N := 2) hx hb htb in_Sy hown hK hP 0 rfl rfl 0 (by decide) (htb _ tw118) (fun _ h9 => h9) rfl d_Sym_change_13 ?_
      refine lv_iload_n hx hb d_Sym_change_16 rfl (lv_at hl 1 rfl) ?_
      have hi := hw.1
      have hw := hw.2
      refine va_iald hx hb hK hP 1 0 rfl rfl hi d_Sym_change_17 ?_
      refine lv_istore_n (lv' := [(3, .int (sy_f ix.toNatClampNeg)), (0, .ref sy), (1, .int ix), (2, .int cd)]) hx hb d_Sym_change_18 rfl hl (by decide) rfl (fun ls hl => ?_)
      refine lv_aload_n hx hb d_Sym_change_19 rfl (lv_at hl 1 rfl) ?_
      refine va_get (ci := 7) (C := R_Sy) (T := F_Sy) (N := 2) hx hb htb in_Sy hown hK hP 0 rfl rfl 0 (by decide) (htb _ tw118) (fun _ h9 => h9) rfl d_Sym_change_20 ?_
      refine lv_iload_n hx hb d_Sym_change_23 rfl (lv_at hl 2 rfl) ?_
      refine lv_iload_n hx hb d_Sym_change_24 rfl (lv_at hl 3 rfl) ?_
      have hi := hw.1
      have hw := hw.2
      refine va_iast hx hb hK hP hD hS 1 0 rfl rfl hi d_Sym_change_25 (fun H locs hP hD hS => ?_)
      have hP : va_P D vwCl (wd_Sym cA sy sy_a sy_l (upd sy_f ix.toNatClampNeg cd)) H := hP
      have hD : va_D A (wd_Sym cA sy sy_a sy_l (upd sy_f ix.toNatClampNeg cd)) := hD
      refine lv_aload_n hx hb d_Sym_change_26 rfl (lv_at hl 1 rfl) ?_
      refine ct_callz (wn := fun _ => wd_Sym cA sy sy_a sy_l (upd sy_f ix.toNatClampNeg cd)) (va_runV (As := []) (rest := []) ⟨hx, hb, hml, hown, htb⟩ (c_Sym_areSound l D cA sy sy_a sy_l (upd sy_f ix.toNatClampNeg cd) _ hw _) (ct_cwV 0 htb tw456 rfl rfl tw75 tw453 tw455 tw16 hd_Sym_areSound ⟨by decide, by decide⟩) (ct_preV hP hD hK hN [0, 1] rfl (by decide) 0 rfl rfl _) rfl rfl hl.1 rfl (lv_room (Nat.le_of_ble_eq_true rfl)) d_Sym_change_27 ⟨Nat.zero_le _, Nat.zero_le _⟩) hP hD hS hA [0, 1] [] [0, 1] rfl rfl (by decide) (by decide) (fun _ => rfl) (by decide) (fun r1 u2 H locs hw hP hD hS => ?_)
      have hP : va_P D vwCl (wd_Sym cA sy sy_a sy_l (upd sy_f ix.toNatClampNeg cd)) H := hP
      have hD : va_D A (wd_Sym cA sy sy_a sy_l (upd sy_f ix.toNatClampNeg cd)) := hD
      refine lv_if_eq (tgt := 35) hx hb d_Sym_change_30 rfl (fun hc => ?_) (fun hc => ?_)
      · have hw := hw.1 ((bI_0 _).mp hc)
        refine lv_aload_n hx hb d_Sym_change_35 rfl (lv_at hl 1 rfl) ?_
        refine va_get (ci := 7) (C := R_Sy) (T := F_Sy) (N := 2) hx hb htb in_Sy hown hK hP 0 rfl rfl 0 (by decide) (htb _ tw118) (fun _ h9 => h9) rfl d_Sym_change_36 ?_
        refine lv_iload_n hx hb d_Sym_change_39 rfl (lv_at hl 2 rfl) ?_
        refine lv_iload_n hx hb d_Sym_change_40 rfl (lv_at hl 0 rfl) ?_
        have hi := hw.1
        have hw := hw.2
        refine va_iast hx hb hK hP hD hS 1 0 rfl rfl hi d_Sym_change_41 (fun H locs hP hD hS => ?_)
        have hP : va_P D vwCl (wd_Sym cA sy sy_a sy_l (upd (upd sy_f ix.toNatClampNeg cd) ix.toNatClampNeg (sy_f ix.toNatClampNeg))) H := hP
        have hD : va_D A (wd_Sym cA sy sy_a sy_l (upd (upd sy_f ix.toNatClampNeg cd) ix.toNatClampNeg (sy_f ix.toNatClampNeg))) := hD
        refine lv_iconst (v := 0) hx hb d_Sym_change_42 (by decide) ?_
        exact ct_zret false hx hb hr hlk hK hS (upd (upd sy_f ix.toNatClampNeg cd) ix.toNatClampNeg (sy_f ix.toNatClampNeg)) hw hP hD d_Sym_change_43
      · have hw := hw.2 ((bI_n0 _).mp hc)
        refine lv_iconst (v := 1) hx hb d_Sym_change_33 (by decide) ?_
        exact ct_zret true hx hb hr hlk hK hS (upd sy_f ix.toNatClampNeg cd) hw hP hD d_Sym_change_34
    · have hw := hw.2 hc
      refine lv_iconst (v := 0) hx hb d_Sym_change_10 (by decide) ?_
      exact ct_zret false hx hb hr hlk hK hS sy_f hw hP hD d_Sym_change_11
