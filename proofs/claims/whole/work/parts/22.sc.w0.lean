/-! DecimalPatterns$Scribe.widthOf(I)I -/
def wp_Sc_widthOf_L60 : Nat → Int32 → Int32 → Int32 → (Int32 → Unit → Prop) → Prop
  | 0, _, _, _, _ => False
  | n60 + 1, x1, x2, x3, Q => (10 ≤ x3 → (Q x2 ())) ∧ (¬ 10 ≤ x3 → ((x1 ≤ 0 → (Q x2 ())) ∧ (¬ x1 ≤ 0 → (wp_Sc_widthOf_L60 n60 (x1 / 10) (x2 + 1) (x3 + 1) Q))))
def wp_Sc_widthOf (nn : Int32) (Q : Int32 → Unit → Prop) : Prop := ∃ n60, wp_Sc_widthOf_L60 n60 nn 0 0 Q
set_option maxHeartbeats 4000000 in
set_option maxRecDepth 100000 in
theorem c_Sc_widthOf (l : Launch) (D : va_G) (cA : ClassId) (nn : Int32) (Q : Int32 → Unit → Prop) (hw : wp_Sc_widthOf nn Q) : ct_M vwCl l D [(cA, .int)] y_Sc_widthOf w_Sc_widthOf { frames := 0, cells := 0, slots := 0, locals := 0 } [.int nn] (wd_Nil cA) (ct_qi vwCl D [(cA, .int)] Q (fun u => wd_Nil cA)) := by
  refine ct_enter (cc := b_Sc_widthOf) (maxL := 4) (ret := (some .int)) (by decide) rfl (Nat.le_of_ble_eq_true rfl) ?_
  intro p e s m args below meth c A ls hx hb hr hlk hml hts hown hA hS hP hK hN hD hl
  have hl : lv_has ls 4 [(0, .int nn)] := hl
  have htb : ∀ w ∈ tbl, w.before args s = true := fun w h => hts w (List.mem_cons_of_mem _ h)
  have hown : s.vm.findClass "DecimalPatterns$Scribe" = some m.cls := hown
  unfold wp_Sc_widthOf at hw
  have hL60 : ∀ (n60 : Nat) (x1 : Int32) (x2 : Int32) (x3 : Int32) (H : Heap) (locs : List Loc) (ls : Array Slot), lv_has ls 4 [(1, .int x1), (2, .int x2), (3, .int x3)] → va_P D vwCl (wd_Nil cA) H → va_D A (wd_Nil cA) → va_S A s.heap H locs → wp_Sc_widthOf_L60 n60 x1 x2 x3 Q → W p l e { frames := 0, cells := 0, slots := 0, locals := 0 } s m args below meth c H locs 0 0 (MQ below (ct_qi vwCl D [(cA, .int)] Q (fun u => wd_Nil cA) A) args s 0 0 A) (F0 m 6 ls []) := by
    intro n60
    induction n60 with
    | zero => intro x1 x2 x3 H locs ls hl hP hD hS hw; exact hw.elim
    | succ n60 ih60 =>
      intro x1 x2 x3 H locs ls hl hP hD hS hw
      unfold wp_Sc_widthOf_L60 at hw
      refine lv_iload_n hx hb d_Sc_widthOf_6 rfl (lv_at hl 2 rfl) ?_
      refine lv_bipush (v := 10) hx hb d_Sc_widthOf_7 (by decide) ?_
      refine lv_icmp_ge (tgt := 30) hx hb d_Sc_widthOf_9 rfl (fun hc => ?_) (fun hc => ?_)
      · have hw := hw.1 hc
        refine lv_iload_n hx hb d_Sc_widthOf_30 rfl (lv_at hl 1 rfl) ?_
        exact ct_iret hx hb hr hlk hK hS () hw hP hD d_Sc_widthOf_31
      · have hw := hw.2 hc
        refine lv_iload_n hx hb d_Sc_widthOf_12 rfl (lv_at hl 0 rfl) ?_
        refine lv_if_le (tgt := 30) hx hb d_Sc_widthOf_13 rfl (fun hc => ?_) (fun hc => ?_)
        · have hw := hw.1 hc
          refine lv_iload_n hx hb d_Sc_widthOf_30 rfl (lv_at hl 1 rfl) ?_
          exact ct_iret hx hb hr hlk hK hS () hw hP hD d_Sc_widthOf_31
        · have hw := hw.2 hc
          refine lv_iload_n hx hb d_Sc_widthOf_16 rfl (lv_at hl 0 rfl) ?_
          refine lv_bipush (v := 10) hx hb d_Sc_widthOf_17 (by decide) ?_
          refine lv_idiv hx hb d_Sc_widthOf_19 (by decide) ?_
          refine lv_istore_n (lv' := [(1, .int (x1 / 10)), (2, .int x2), (3, .int x3)]) hx hb d_Sc_widthOf_20 rfl hl (by decide) rfl (fun ls hl => ?_)
          refine lv_iinc (k := 1) (v := x2 + 1) (lv' := [(2, .int (x2 + 1)), (1, .int (x1 / 10)), (3, .int x3)]) hx hb d_Sc_widthOf_21 hl rfl (by rfl) (by decide) rfl (fun ls hl => ?_)
          refine lv_iinc (k := 2) (v := x3 + 1) (lv' := [(3, .int (x3 + 1)), (2, .int (x2 + 1)), (1, .int (x1 / 10))]) hx hb d_Sc_widthOf_24 hl rfl (by rfl) (by decide) rfl (fun ls hl => ?_)
          refine lv_goto (tgt := 6) hx hb d_Sc_widthOf_27 rfl ?_
          exact ih60 (x1 / 10) (x2 + 1) (x3 + 1) _ _ _ (lv_sub hl [2, 1, 0] rfl) hP hD hS hw
  refine lv_iload_n hx hb d_Sc_widthOf_0 rfl (lv_at hl 0 rfl) ?_
  refine lv_istore_n (lv' := [(1, .int nn), (0, .int nn)]) hx hb d_Sc_widthOf_1 rfl hl (by decide) rfl (fun ls hl => ?_)
  refine lv_iconst (v := 0) hx hb d_Sc_widthOf_2 (by decide) ?_
  refine lv_istore_n (lv' := [(2, .int 0), (1, .int nn), (0, .int nn)]) hx hb d_Sc_widthOf_3 rfl hl (by decide) rfl (fun ls hl => ?_)
  refine lv_iconst (v := 0) hx hb d_Sc_widthOf_4 (by decide) ?_
  refine lv_istore_n (lv' := [(3, .int 0), (2, .int 0), (1, .int nn), (0, .int nn)]) hx hb d_Sc_widthOf_5 rfl hl (by decide) rfl (fun ls hl => ?_)
  obtain ⟨n60, hw⟩ := hw
  exact hL60 n60 nn 0 0 _ _ _ (lv_sub hl [2, 1, 0] rfl) hP hD hS hw
/-! DecimalPatterns$Scribe.digitAt(II)I -/
def wp_Sc_digitAt_L40 : Nat → Int32 → Int32 → Int32 → (Int32 → Unit → Prop) → Prop
  | 0, _, _, _, _ => False
  | n40 + 1, x1, x2, x3, Q => (x1 ≤ x3 → (Q (x2 - x2 / 10 * 10) ())) ∧ (¬ x1 ≤ x3 → ((x2 ≤ 0 → (Q (x2 - x2 / 10 * 10) ())) ∧ (¬ x2 ≤ 0 → (wp_Sc_digitAt_L40 n40 x1 (x2 / 10) (x3 + 1) Q))))
def wp_Sc_digitAt (nn : Int32) (pc_ : Int32) (Q : Int32 → Unit → Prop) : Prop := ∃ n40, wp_Sc_digitAt_L40 n40 pc_ nn 0 Q
set_option maxHeartbeats 4000000 in
set_option maxRecDepth 100000 in
theorem c_Sc_digitAt (l : Launch) (D : va_G) (cA : ClassId) (nn : Int32) (pc_ : Int32) (Q : Int32 → Unit → Prop) (hw : wp_Sc_digitAt nn pc_ Q) : ct_M vwCl l D [(cA, .int)] y_Sc_digitAt w_Sc_digitAt { frames := 0, cells := 0, slots := 0, locals := 0 } [.int nn, .int pc_] (wd_Nil cA) (ct_qi vwCl D [(cA, .int)] Q (fun u => wd_Nil cA)) := by
  refine ct_enter (cc := b_Sc_digitAt) (maxL := 4) (ret := (some .int)) (by decide) rfl (Nat.le_of_ble_eq_true rfl) ?_
  intro p e s m args below meth c A ls hx hb hr hlk hml hts hown hA hS hP hK hN hD hl
  have hl : lv_has ls 4 [(0, .int nn), (1, .int pc_)] := hl
  have htb : ∀ w ∈ tbl, w.before args s = true := fun w h => hts w (List.mem_cons_of_mem _ h)
  have hown : s.vm.findClass "DecimalPatterns$Scribe" = some m.cls := hown
  unfold wp_Sc_digitAt at hw
  have hL40 : ∀ (n40 : Nat) (x1 : Int32) (x2 : Int32) (x3 : Int32) (H : Heap) (locs : List Loc) (ls : Array Slot), lv_has ls 4 [(1, .int x1), (2, .int x2), (3, .int x3)] → va_P D vwCl (wd_Nil cA) H → va_D A (wd_Nil cA) → va_S A s.heap H locs → wp_Sc_digitAt_L40 n40 x1 x2 x3 Q → W p l e { frames := 0, cells := 0, slots := 0, locals := 0 } s m args below meth c H locs 0 0 (MQ below (ct_qi vwCl D [(cA, .int)] Q (fun u => wd_Nil cA) A) args s 0 0 A) (F0 m 4 ls []) := by
    intro n40
    induction n40 with
    | zero => intro x1 x2 x3 H locs ls hl hP hD hS hw; exact hw.elim
    | succ n40 ih40 =>
      intro x1 x2 x3 H locs ls hl hP hD hS hw
      unfold wp_Sc_digitAt_L40 at hw
      refine lv_iload_n hx hb d_Sc_digitAt_4 rfl (lv_at hl 2 rfl) ?_
      refine lv_iload_n hx hb d_Sc_digitAt_5 rfl (lv_at hl 0 rfl) ?_
      refine lv_icmp_ge (tgt := 24) hx hb d_Sc_digitAt_6 rfl (fun hc => ?_) (fun hc => ?_)
      · have hw := hw.1 hc
        refine lv_iload_n hx hb d_Sc_digitAt_24 rfl (lv_at hl 1 rfl) ?_
        refine lv_bipush (v := 10) hx hb d_Sc_digitAt_25 (by decide) ?_
        refine lv_irem hx hb d_Sc_digitAt_27 (by decide) ?_
        exact ct_iret hx hb hr hlk hK hS () hw hP hD d_Sc_digitAt_28
      · have hw := hw.2 hc
        refine lv_iload_n hx hb d_Sc_digitAt_9 rfl (lv_at hl 1 rfl) ?_
        refine lv_if_le (tgt := 24) hx hb d_Sc_digitAt_10 rfl (fun hc => ?_) (fun hc => ?_)
        · have hw := hw.1 hc
          refine lv_iload_n hx hb d_Sc_digitAt_24 rfl (lv_at hl 1 rfl) ?_
          refine lv_bipush (v := 10) hx hb d_Sc_digitAt_25 (by decide) ?_
          refine lv_irem hx hb d_Sc_digitAt_27 (by decide) ?_
          exact ct_iret hx hb hr hlk hK hS () hw hP hD d_Sc_digitAt_28
        · have hw := hw.2 hc
          refine lv_iload_n hx hb d_Sc_digitAt_13 rfl (lv_at hl 1 rfl) ?_
          refine lv_bipush (v := 10) hx hb d_Sc_digitAt_14 (by decide) ?_
          refine lv_idiv hx hb d_Sc_digitAt_16 (by decide) ?_
          refine lv_istore_n (lv' := [(2, .int (x2 / 10)), (1, .int x1), (3, .int x3)]) hx hb d_Sc_digitAt_17 rfl hl (by decide) rfl (fun ls hl => ?_)
          refine lv_iinc (k := 2) (v := x3 + 1) (lv' := [(3, .int (x3 + 1)), (2, .int (x2 / 10)), (1, .int x1)]) hx hb d_Sc_digitAt_18 hl rfl (by rfl) (by decide) rfl (fun ls hl => ?_)
          refine lv_goto (tgt := 4) hx hb d_Sc_digitAt_21 rfl ?_
          exact ih40 x1 (x2 / 10) (x3 + 1) _ _ _ (lv_sub hl [2, 1, 0] rfl) hP hD hS hw
  refine lv_iload_n hx hb d_Sc_digitAt_0 rfl (lv_at hl 0 rfl) ?_
  refine lv_istore_n (lv' := [(2, .int nn), (0, .int nn), (1, .int pc_)]) hx hb d_Sc_digitAt_1 rfl hl (by decide) rfl (fun ls hl => ?_)
  refine lv_iconst (v := 0) hx hb d_Sc_digitAt_2 (by decide) ?_
  refine lv_istore_n (lv' := [(3, .int 0), (2, .int nn), (0, .int nn), (1, .int pc_)]) hx hb d_Sc_digitAt_3 rfl hl (by decide) rfl (fun ls hl => ?_)
  obtain ⟨n40, hw⟩ := hw
  exact hL40 n40 pc_ nn 0 _ _ _ (lv_sub hl [3, 1, 0] rfl) hP hD hS hw
/-! DecimalPatterns$Scribe.putSymbol(I)V -/
def wp_Sc_putSymbol (pg_n : Int32) (pg_f : Nat → Int32) (sy_f : Nat → Int32) (ix : Int32) (Q : (Int32 × (Nat → Int32)) → Prop) : Prop := wp_Sym_code sy_f ix (fun r1 u2 => wp_Row_add 256 pg_n pg_f r1 (fun r3 u4 => Q (u4.1, u4.2)))
set_option maxHeartbeats 4000000 in
set_option maxRecDepth 100000 in
theorem c_Sc_putSymbol (l : Launch) (D : va_G) (cA : ClassId) (sc pg pg_a sy sy_a am : Nat) (pg_n : Int32) (pg_f : Nat → Int32) (sy_l : Int32) (sy_f : Nat → Int32) (ix : Int32) (Q : (Int32 × (Nat → Int32)) → Prop) (hw : wp_Sc_putSymbol pg_n pg_f sy_f ix Q) : ct_M vwCl l D [(cA, .int)] y_Sc_putSymbol w_Sc_putSymbol { frames := 1, cells := 0, slots := 0, locals := 21 } [.ref sc, .int ix] (wd_ScPg cA sc pg pg_a sy sy_a am pg_n pg_f sy_l sy_f) (ct_qv vwCl D [(cA, .int)] Q (fun u => wd_ScPg cA sc pg pg_a sy sy_a am u.1 u.2 sy_l sy_f)) := by
  refine ct_enter (cc := b_Sc_putSymbol) (maxL := 2) (ret := none) (by decide) rfl (Nat.le_of_ble_eq_true rfl) ?_
  intro p e s m args below meth c A ls hx hb hr hlk hml hts hown hA hS hP hK hN hD hl
  have hl : lv_has ls 2 [(0, .ref sc), (1, .int ix)] := hl
  have htb : ∀ w ∈ tbl, w.before args s = true := fun w h => hts w (List.mem_cons_of_mem _ h)
  have hown : s.vm.findClass "DecimalPatterns$Scribe" = some m.cls := hown
  unfold wp_Sc_putSymbol at hw
  refine lv_aload_n hx hb d_Sc_putSymbol_0 rfl (lv_at hl 0 rfl) ?_
  refine va_get (ci := 5) (C := R_Sc) (T := F_Sc) (N := 3) hx hb htb in_Sc hown hK hP 0 rfl rfl 0 (by decide) (htb _ tw145) (fun _ h9 => h9) rfl d_Sc_putSymbol_1 ?_
  refine lv_aload_n hx hb d_Sc_putSymbol_4 rfl (lv_at hl 0 rfl) ?_
  refine va_get (ci := 5) (C := R_Sc) (T := F_Sc) (N := 3) hx hb htb in_Sc hown hK hP 0 rfl rfl 2 (by decide) (htb _ tw149) (fun _ h9 => h9) rfl d_Sc_putSymbol_5 ?_
  refine lv_iload_n hx hb d_Sc_putSymbol_8 rfl (lv_at hl 1 rfl) ?_
  refine ct_calli (wn := fun _ => wd_ScPg cA sc pg pg_a sy sy_a am pg_n pg_f sy_l sy_f) (va_runV (As := [.int ix]) (rest := [.ref pg]) ⟨hx, hb, hml, hown, htb⟩ (c_Sym_code l D cA sy sy_a sy_l sy_f ix _ hw _) (ct_cwV 1 htb tw547 rfl rfl tw75 tw544 tw545 tw546 hd_Sym_code ⟨by decide, by decide⟩) (ct_preV hP hD hK hN [3, 4] rfl (by decide) 3 rfl rfl _) rfl rfl hl.1 rfl (lv_room (Nat.le_of_ble_eq_true rfl)) d_Sc_putSymbol_9 ⟨Nat.zero_le _, Nat.zero_le _⟩) hP hD hS hA [3, 4] [0, 1, 2] [0, 1, 2, 3, 4] rfl rfl (by decide) (by decide) (fun _ => rfl) (by decide) (fun r1 u2 H locs hw hP hD hS => ?_)
  have hP : va_P D vwCl (wd_ScPg cA sc pg pg_a sy sy_a am pg_n pg_f sy_l sy_f) H := hP
  have hD : va_D A (wd_ScPg cA sc pg pg_a sy sy_a am pg_n pg_f sy_l sy_f) := hD
  refine ct_callz (wn := fun u4 => wd_ScPg cA sc pg pg_a sy sy_a am u4.1 u4.2 sy_l sy_f) (va_runV (As := [.int r1]) (rest := []) ⟨hx, hb, hml, hown, htb⟩ (c_Row_add l D cA pg pg_a 256 pg_n pg_f r1 _ hw _) (ct_cwV 1 htb tw346 rfl rfl tw73 tw548 tw344 tw345 hd_Row_add ⟨by decide, by decide⟩) (ct_preV hP hD hK hN [1, 2] rfl (by decide) 1 rfl rfl _) rfl rfl hl.1 rfl (lv_room (Nat.le_of_ble_eq_true rfl)) d_Sc_putSymbol_12 ⟨Nat.zero_le _, Nat.zero_le _⟩) hP hD hS hA [1, 2] [0, 3, 4] [0, 3, 4, 1, 2] rfl rfl (by decide) (by decide) (fun _ => rfl) (by decide) (fun r3 u4 H locs hw hP hD hS => ?_)
  have hP : va_P D vwCl (wd_ScPg cA sc pg pg_a sy sy_a am u4.1 u4.2 sy_l sy_f) H := hP
  have hD : va_D A (wd_ScPg cA sc pg pg_a sy sy_a am u4.1 u4.2 sy_l sy_f) := hD
  refine lv_pop hx hb d_Sc_putSymbol_15 rfl ?_
  exact ct_vret hx hb hr hlk hK hS (u4.1, u4.2) hw hP hD d_Sc_putSymbol_16
/-! DecimalPatterns$Scribe.putDigit(I)V -/
def wp_Sc_putDigit (pg_n : Int32) (pg_f : Nat → Int32) (sy_f : Nat → Int32) (dg : Int32) (Q : (Int32 × (Nat → Int32)) → Prop) : Prop := wp_Sym_digitCode sy_f dg (fun r1 u2 => wp_Row_add 256 pg_n pg_f r1 (fun r3 u4 => Q (u4.1, u4.2)))
set_option maxHeartbeats 4000000 in
set_option maxRecDepth 100000 in
theorem c_Sc_putDigit (l : Launch) (D : va_G) (cA : ClassId) (sc pg pg_a sy sy_a am : Nat) (pg_n : Int32) (pg_f : Nat → Int32) (sy_l : Int32) (sy_f : Nat → Int32) (dg : Int32) (Q : (Int32 × (Nat → Int32)) → Prop) (hw : wp_Sc_putDigit pg_n pg_f sy_f dg Q) : ct_M vwCl l D [(cA, .int)] y_Sc_putDigit w_Sc_putDigit { frames := 1, cells := 0, slots := 0, locals := 21 } [.ref sc, .int dg] (wd_ScPg cA sc pg pg_a sy sy_a am pg_n pg_f sy_l sy_f) (ct_qv vwCl D [(cA, .int)] Q (fun u => wd_ScPg cA sc pg pg_a sy sy_a am u.1 u.2 sy_l sy_f)) := by
  refine ct_enter (cc := b_Sc_putDigit) (maxL := 2) (ret := none) (by decide) rfl (Nat.le_of_ble_eq_true rfl) ?_
  intro p e s m args below meth c A ls hx hb hr hlk hml hts hown hA hS hP hK hN hD hl
  have hl : lv_has ls 2 [(0, .ref sc), (1, .int dg)] := hl
  have htb : ∀ w ∈ tbl, w.before args s = true := fun w h => hts w (List.mem_cons_of_mem _ h)
  have hown : s.vm.findClass "DecimalPatterns$Scribe" = some m.cls := hown
  unfold wp_Sc_putDigit at hw
  refine lv_aload_n hx hb d_Sc_putDigit_0 rfl (lv_at hl 0 rfl) ?_
  refine va_get (ci := 5) (C := R_Sc) (T := F_Sc) (N := 3) hx hb htb in_Sc hown hK hP 0 rfl rfl 0 (by decide) (htb _ tw145) (fun _ h9 => h9) rfl d_Sc_putDigit_1 ?_
  refine lv_aload_n hx hb d_Sc_putDigit_4 rfl (lv_at hl 0 rfl) ?_
  refine va_get (ci := 5) (C := R_Sc) (T := F_Sc) (N := 3) hx hb htb in_Sc hown hK hP 0 rfl rfl 2 (by decide) (htb _ tw149) (fun _ h9 => h9) rfl d_Sc_putDigit_5 ?_
  refine lv_iload_n hx hb d_Sc_putDigit_8 rfl (lv_at hl 1 rfl) ?_
  refine ct_calli (wn := fun _ => wd_ScPg cA sc pg pg_a sy sy_a am pg_n pg_f sy_l sy_f) (va_runV (As := [.int dg]) (rest := [.ref pg]) ⟨hx, hb, hml, hown, htb⟩ (c_Sym_digitCode l D cA sy sy_a sy_l sy_f dg _ hw _) (ct_cwV 1 htb tw460 rfl rfl tw75 tw583 tw458 tw459 hd_Sym_digitCode ⟨by decide, by decide⟩) (ct_preV hP hD hK hN [3, 4] rfl (by decide) 3 rfl rfl _) rfl rfl hl.1 rfl (lv_room (Nat.le_of_ble_eq_true rfl)) d_Sc_putDigit_9 ⟨Nat.zero_le _, Nat.zero_le _⟩) hP hD hS hA [3, 4] [0, 1, 2] [0, 1, 2, 3, 4] rfl rfl (by decide) (by decide) (fun _ => rfl) (by decide) (fun r1 u2 H locs hw hP hD hS => ?_)
  have hP : va_P D vwCl (wd_ScPg cA sc pg pg_a sy sy_a am pg_n pg_f sy_l sy_f) H := hP
  have hD : va_D A (wd_ScPg cA sc pg pg_a sy sy_a am pg_n pg_f sy_l sy_f) := hD
  refine ct_callz (wn := fun u4 => wd_ScPg cA sc pg pg_a sy sy_a am u4.1 u4.2 sy_l sy_f) (va_runV (As := [.int r1]) (rest := []) ⟨hx, hb, hml, hown, htb⟩ (c_Row_add l D cA pg pg_a 256 pg_n pg_f r1 _ hw _) (ct_cwV 1 htb tw346 rfl rfl tw73 tw548 tw344 tw345 hd_Row_add ⟨by decide, by decide⟩) (ct_preV hP hD hK hN [1, 2] rfl (by decide) 1 rfl rfl _) rfl rfl hl.1 rfl (lv_room (Nat.le_of_ble_eq_true rfl)) d_Sc_putDigit_12 ⟨Nat.zero_le _, Nat.zero_le _⟩) hP hD hS hA [1, 2] [0, 3, 4] [0, 3, 4, 1, 2] rfl rfl (by decide) (by decide) (fun _ => rfl) (by decide) (fun r3 u4 H locs hw hP hD hS => ?_)
  have hP : va_P D vwCl (wd_ScPg cA sc pg pg_a sy sy_a am u4.1 u4.2 sy_l sy_f) H := hP
  have hD : va_D A (wd_ScPg cA sc pg pg_a sy sy_a am u4.1 u4.2 sy_l sy_f) := hD
  refine lv_pop hx hb d_Sc_putDigit_15 rfl ?_
  exact ct_vret hx hb hr hlk hK hS (u4.1, u4.2) hw hP hD d_Sc_putDigit_16
/-! DecimalPatterns$Scribe.putAffix(LDecimalPatterns$Row;)V -/
def wp_Sc_putAffix_L20 : Nat → (Nat → Int32) → Int32 → (Nat → Int32) → Int32 → Int32 → (Nat → Int32) → ((Int32 × (Nat → Int32)) → Prop) → Prop
  | 0, _, _, _, _, _, _, _ => False
  | n20 + 1, sy_f, af_n, af_f, x2, pg_n, pg_f, Q => (af_n ≤ x2 → (Q (pg_n, pg_f))) ∧ (¬ af_n ≤ x2 → (wp_Row_code 40 af_n af_f x2 (fun r1 u2 => (r1 < 256 → (wp_Row_add 256 pg_n pg_f r1 (fun r3 u4 => wp_Sc_putAffix_L20 n20 sy_f af_n af_f (x2 + 1) u4.1 u4.2 Q))) ∧ (¬ r1 < 256 → (wp_Sc_putSymbol pg_n pg_f sy_f (r1 - 256) (fun u6 => wp_Sc_putAffix_L20 n20 sy_f af_n af_f (x2 + 1) u6.1 u6.2 Q))))))
def wp_Sc_putAffix (pg_n : Int32) (pg_f : Nat → Int32) (sy_f : Nat → Int32) (af_n : Int32) (af_f : Nat → Int32) (Q : (Int32 × (Nat → Int32)) → Prop) : Prop := ∃ n20, wp_Sc_putAffix_L20 n20 sy_f af_n af_f 0 pg_n pg_f Q
set_option maxHeartbeats 4000000 in
set_option maxRecDepth 100000 in
theorem c_Sc_putAffix (l : Launch) (D : va_G) (cA : ClassId) (sc pg pg_a sy sy_a af af_a am : Nat) (pg_n : Int32) (pg_f : Nat → Int32) (sy_l : Int32) (sy_f : Nat → Int32) (af_n : Int32) (af_f : Nat → Int32) (Q : (Int32 × (Nat → Int32)) → Prop) (hw : wp_Sc_putAffix pg_n pg_f sy_f af_n af_f Q) : ct_M vwCl l D [(cA, .int)] y_Sc_putAffix w_Sc_putAffix { frames := 2, cells := 0, slots := 0, locals := 42 } [.ref sc, .ref af] (wd_ScAf cA sc pg pg_a sy sy_a af af_a am pg_n pg_f sy_l sy_f af_n af_f) (ct_qv vwCl D [(cA, .int)] Q (fun u => wd_ScAf cA sc pg pg_a sy sy_a af af_a am u.1 u.2 sy_l sy_f af_n af_f)) := by
  refine ct_enter (cc := b_Sc_putAffix) (maxL := 4) (ret := none) (by decide) rfl (Nat.le_of_ble_eq_true rfl) ?_
  intro p e s m args below meth c A ls hx hb hr hlk hml hts hown hA hS hP hK hN hD hl
  have hl : lv_has ls 4 [(0, .ref sc), (1, .ref af)] := hl
  have htb : ∀ w ∈ tbl, w.before args s = true := fun w h => hts w (List.mem_cons_of_mem _ h)
  have hown : s.vm.findClass "DecimalPatterns$Scribe" = some m.cls := hown
  unfold wp_Sc_putAffix at hw
  have hL20 : ∀ (n20 : Nat) (x2 : Int32) (pg_n : Int32) (pg_f : Nat → Int32) (H : Heap) (locs : List Loc) (ls : Array Slot), lv_has ls 4 [(0, .ref sc), (1, .ref af), (2, .int x2)] → va_P D vwCl (wd_ScAf cA sc pg pg_a sy sy_a af af_a am pg_n pg_f sy_l sy_f af_n af_f) H → va_D A (wd_ScAf cA sc pg pg_a sy sy_a af af_a am pg_n pg_f sy_l sy_f af_n af_f) → va_S A s.heap H locs → wp_Sc_putAffix_L20 n20 sy_f af_n af_f x2 pg_n pg_f Q → W p l e { frames := 2, cells := 0, slots := 0, locals := 42 } s m args below meth c H locs 0 0 (MQ below (ct_qv vwCl D [(cA, .int)] Q (fun u => wd_ScAf cA sc pg pg_a sy sy_a af af_a am u.1 u.2 sy_l sy_f af_n af_f) A) args s 0 0 A) (F0 m 2 ls []) := by
    intro n20
    induction n20 with
    | zero => intro x2 pg_n pg_f H locs ls hl hP hD hS hw; exact hw.elim
    | succ n20 ih20 =>
      intro x2 pg_n pg_f H locs ls hl hP hD hS hw
      unfold wp_Sc_putAffix_L20 at hw
      refine lv_iload_n hx hb d_Sc_putAffix_2 rfl (lv_at hl 2 rfl) ?_
      refine lv_aload_n hx hb d_Sc_putAffix_3 rfl (lv_at hl 1 rfl) ?_
      refine va_get (ci := 4) (C := R_Rw) (T := F_Rw) (N := 2) hx hb htb in_Rw hown hK hP 5 rfl rfl 1 (by decide) (htb _ tw105) (fun _ h9 => h9) rfl d_Sc_putAffix_4 ?_
      refine lv_icmp_ge (tgt := 50) hx hb d_Sc_putAffix_7 rfl (fun hc => ?_) (fun hc => ?_)
      · have hw := hw.1 hc
        exact ct_vret hx hb hr hlk hK hS (pg_n, pg_f) hw hP hD d_Sc_putAffix_50
      · have hw := hw.2 hc
        refine lv_aload_n hx hb d_Sc_putAffix_10 rfl (lv_at hl 1 rfl) ?_
        refine lv_iload_n hx hb d_Sc_putAffix_11 rfl (lv_at hl 2 rfl) ?_
        refine ct_calli (wn := fun _ => wd_ScAf cA sc pg pg_a sy sy_a af af_a am pg_n pg_f sy_l sy_f af_n af_f) (va_runV (As := [.int x2]) (rest := []) ⟨hx, hb, hml, hown, htb⟩ (c_Row_code l D cA af af_a 40 af_n af_f x2 _ hw _) (ct_cwV 1 htb tw379 rfl rfl tw73 tw553 tw377 tw378 hd_Row_code ⟨by decide, by decide⟩) (ct_preV hP hD hK hN [5, 6] rfl (by decide) 5 rfl rfl _) rfl rfl hl.1 rfl (lv_room (Nat.le_of_ble_eq_true rfl)) d_Sc_putAffix_12 ⟨Nat.zero_le _, Nat.zero_le _⟩) hP hD hS hA [5, 6] [0, 1, 2, 3, 4] [0, 1, 2, 3, 4, 5, 6] rfl rfl (by decide) (by decide) (fun _ => rfl) (by decide) (fun r1 u2 H locs hw hP hD hS => ?_)
        have hP : va_P D vwCl (wd_ScAf cA sc pg pg_a sy sy_a af af_a am pg_n pg_f sy_l sy_f af_n af_f) H := hP
        have hD : va_D A (wd_ScAf cA sc pg pg_a sy sy_a af af_a am pg_n pg_f sy_l sy_f af_n af_f) := hD
        refine lv_istore_n (lv' := [(3, .int r1), (0, .ref sc), (1, .ref af), (2, .int x2)]) hx hb d_Sc_putAffix_15 rfl hl (by decide) rfl (fun ls hl => ?_)
        refine lv_iload_n hx hb d_Sc_putAffix_16 rfl (lv_at hl 0 rfl) ?_
        refine lv_sipush (v := 256) hx hb d_Sc_putAffix_17 (by decide) ?_
        refine lv_icmp_lt (tgt := 35) hx hb d_Sc_putAffix_20 rfl (fun hc => ?_) (fun hc => ?_)
        · have hw := hw.1 hc
          refine lv_aload_n hx hb d_Sc_putAffix_35 rfl (lv_at hl 1 rfl) ?_
          refine va_get (ci := 5) (C := R_Sc) (T := F_Sc) (N := 3) hx hb htb in_Sc hown hK hP 0 rfl rfl 0 (by decide) (htb _ tw145) (fun _ h9 => h9) rfl d_Sc_putAffix_36 ?_
          refine lv_iload_n hx hb d_Sc_putAffix_39 rfl (lv_at hl 0 rfl) ?_
          refine ct_callz (wn := fun u4 => wd_ScAf cA sc pg pg_a sy sy_a af af_a am u4.1 u4.2 sy_l sy_f af_n af_f) (va_runV (As := [.int r1]) (rest := []) ⟨hx, hb, hml, hown, htb⟩ (c_Row_add l D cA pg pg_a 256 pg_n pg_f r1 _ hw _) (ct_cwV 1 htb tw346 rfl rfl tw73 tw548 tw344 tw345 hd_Row_add ⟨by decide, by decide⟩) (ct_preV hP hD hK hN [1, 2] rfl (by decide) 1 rfl rfl _) rfl rfl hl.1 rfl (lv_room (Nat.le_of_ble_eq_true rfl)) d_Sc_putAffix_40 ⟨Nat.zero_le _, Nat.zero_le _⟩) hP hD hS hA [1, 2] [0, 3, 4, 5, 6] [0, 5, 6, 1, 2, 3, 4] rfl rfl (by decide) (by decide) (fun _ => rfl) (by decide) (fun r3 u4 H locs hw hP hD hS => ?_)
          have hP : va_P D vwCl (wd_ScAf cA sc pg pg_a sy sy_a af af_a am u4.1 u4.2 sy_l sy_f af_n af_f) H := hP
          have hD : va_D A (wd_ScAf cA sc pg pg_a sy sy_a af af_a am u4.1 u4.2 sy_l sy_f af_n af_f) := hD
          refine lv_pop hx hb d_Sc_putAffix_43 rfl ?_
          refine lv_iinc (k := 3) (v := x2 + 1) (lv' := [(2, .int (x2 + 1)), (3, .int r1), (0, .ref sc), (1, .ref af)]) hx hb d_Sc_putAffix_44 hl rfl (by rfl) (by decide) rfl (fun ls hl => ?_)
          refine lv_goto (tgt := 2) hx hb d_Sc_putAffix_47 rfl ?_
          exact ih20 (x2 + 1) u4.1 u4.2 _ _ _ (lv_sub hl [2, 3, 0] rfl) hP hD hS hw
        · have hw := hw.2 hc
          refine lv_aload_n hx hb d_Sc_putAffix_23 rfl (lv_at hl 1 rfl) ?_
          refine lv_iload_n hx hb d_Sc_putAffix_24 rfl (lv_at hl 0 rfl) ?_
          refine lv_sipush (v := 256) hx hb d_Sc_putAffix_25 (by decide) ?_
          refine lv_isub hx hb d_Sc_putAffix_28 ?_
          refine ct_callv (wn := fun u6 => wd_ScAf cA sc pg pg_a sy sy_a af af_a am u6.1 u6.2 sy_l sy_f af_n af_f) (va_runV (As := [.int (r1 - 256)]) (rest := []) ⟨hx, hb, hml, hown, htb⟩ (c_Sc_putSymbol l D cA sc pg pg_a sy sy_a am pg_n pg_f sy_l sy_f (r1 - 256) _ hw _) (ct_cwV 1 htb tw543 rfl rfl tw76 tw540 tw542 tw25 hd_Sc_putSymbol ⟨by decide, by decide⟩) (ct_preV hP hD hK hN [0, 1, 2, 3, 4] rfl (by decide) 0 rfl rfl _) rfl rfl hl.1 rfl (lv_room (Nat.le_of_ble_eq_true rfl)) d_Sc_putAffix_29 ⟨Nat.zero_le _, Nat.zero_le _⟩) hP hD hS hA [0, 1, 2, 3, 4] [5, 6] [2, 3, 4, 5, 6, 0, 1] rfl rfl (by decide) (by decide) (fun _ => rfl) (by decide) (fun u6 H locs hw hP hD hS => ?_)
          have hP : va_P D vwCl (wd_ScAf cA sc pg pg_a sy sy_a af af_a am u6.1 u6.2 sy_l sy_f af_n af_f) H := hP
          have hD : va_D A (wd_ScAf cA sc pg pg_a sy sy_a af af_a am u6.1 u6.2 sy_l sy_f af_n af_f) := hD
          refine lv_goto (tgt := 44) hx hb d_Sc_putAffix_32 rfl ?_
          refine lv_iinc (k := 3) (v := x2 + 1) (lv' := [(2, .int (x2 + 1)), (3, .int r1), (0, .ref sc), (1, .ref af)]) hx hb d_Sc_putAffix_44 hl rfl (by rfl) (by decide) rfl (fun ls hl => ?_)
          refine lv_goto (tgt := 2) hx hb d_Sc_putAffix_47 rfl ?_
          exact ih20 (x2 + 1) u6.1 u6.2 _ _ _ (lv_sub hl [2, 3, 0] rfl) hP hD hS hw
  refine lv_iconst (v := 0) hx hb d_Sc_putAffix_0 (by decide) ?_
  refine lv_istore_n (lv' := [(2, .int 0), (0, .ref sc), (1, .ref af)]) hx hb d_Sc_putAffix_1 rfl hl (by decide) rfl (fun ls hl => ?_)
  obtain ⟨n20, hw⟩ := hw
  exact hL20 n20 0 pg_n pg_f _ _ _ (lv_sub hl [1, 2, 0] rfl) hP hD hS hw
/-! DecimalPatterns$Scribe.roundingPower(LDecimalPatterns$Sub;)I -/
def wp_Sc_roundingPower (am_f : Nat → Int32) (sb_z : Int32) (sb_f : Int32) (sb_e : Int32) (Q : Int32 → Unit → Prop) : Prop := wp_Sub_hasExponent sb_e (fun r1 u2 => (r1 = true → (wp_Am_firstPower am_f (fun r3 u4 => Q (((r3 - sb_z) - sb_f) + 1) ()))) ∧ (r1 = false → (Q (-sb_f) ())))
set_option maxHeartbeats 4000000 in
set_option maxRecDepth 100000 in
theorem c_Sc_roundingPower (l : Launch) (D : va_G) (cA : ClassId) (sc am am_a sb pg sy sb_p sb_s : Nat) (am_f : Nat → Int32) (sb_pm : Bool) (sb_h : Int32) (sb_z : Int32) (sb_c : Int32) (sb_b : Int32) (sb_t : Int32) (sb_f : Int32) (sb_q : Int32) (sb_e : Int32) (sb_x : Bool) (Q : Int32 → Unit → Prop) (hw : wp_Sc_roundingPower am_f sb_z sb_f sb_e Q) : ct_M vwCl l D [(cA, .int)] y_Sc_roundingPower w_Sc_roundingPower { frames := 2, cells := 0, slots := 0, locals := 42 } [.ref sc, .ref sb] (wd_ScAm cA sc am am_a sb pg sy sb_p sb_s am_f sb_pm sb_h sb_z sb_c sb_b sb_t sb_f sb_q sb_e sb_x) (ct_qi vwCl D [(cA, .int)] Q (fun u => wd_ScAm cA sc am am_a sb pg sy sb_p sb_s am_f sb_pm sb_h sb_z sb_c sb_b sb_t sb_f sb_q sb_e sb_x)) := by
  refine ct_enter (cc := b_Sc_roundingPower) (maxL := 2) (ret := (some .int)) (by decide) rfl (Nat.le_of_ble_eq_true rfl) ?_
  intro p e s m args below meth c A ls hx hb hr hlk hml hts hown hA hS hP hK hN hD hl
  have hl : lv_has ls 2 [(0, .ref sc), (1, .ref sb)] := hl
  have htb : ∀ w ∈ tbl, w.before args s = true := fun w h => hts w (List.mem_cons_of_mem _ h)
  have hown : s.vm.findClass "DecimalPatterns$Scribe" = some m.cls := hown
  unfold wp_Sc_roundingPower at hw
  refine lv_aload_n hx hb d_Sc_roundingPower_0 rfl (lv_at hl 1 rfl) ?_
  refine ct_callz (wn := fun _ => wd_ScAm cA sc am am_a sb pg sy sb_p sb_s am_f sb_pm sb_h sb_z sb_c sb_b sb_t sb_f sb_q sb_e sb_x) (va_runV (As := []) (rest := []) ⟨hx, hb, hml, hown, htb⟩ (c_Sub_hasExponent l D cA sb sb_p sb_s sb_pm sb_h sb_z sb_c sb_b sb_t sb_f sb_q sb_e sb_x _ hw _) (ct_cwV 0 htb tw502 rfl rfl tw80 tw499 tw500 tw501 hd_Sub_hasExponent ⟨by decide, by decide⟩) (ct_preV hP hD hK hN [3] rfl (by decide) 3 rfl rfl _) rfl rfl hl.1 rfl (lv_room (Nat.le_of_ble_eq_true rfl)) d_Sc_roundingPower_1 ⟨Nat.zero_le _, Nat.zero_le _⟩) hP hD hS hA [3] [0, 1, 2] [0, 1, 2, 3] rfl rfl (by decide) (by decide) (fun _ => rfl) (by decide) (fun r1 u2 H locs hw hP hD hS => ?_)
  have hP : va_P D vwCl (wd_ScAm cA sc am am_a sb pg sy sb_p sb_s am_f sb_pm sb_h sb_z sb_c sb_b sb_t sb_f sb_q sb_e sb_x) H := hP
  have hD : va_D A (wd_ScAm cA sc am am_a sb pg sy sb_p sb_s am_f sb_pm sb_h sb_z sb_c sb_b sb_t sb_f sb_q sb_e sb_x) := hD
  refine lv_if_ne (tgt := 13) hx hb d_Sc_roundingPower_4 rfl (fun hc => ?_) (fun hc => ?_)
  · have hw := hw.1 ((bI_n0 _).mp hc)
    refine lv_aload_n hx hb d_Sc_roundingPower_13 rfl (lv_at hl 0 rfl) ?_
    refine va_get (ci := 5) (C := R_Sc) (T := F_Sc) (N := 3) hx hb htb in_Sc hown hK hP 0 rfl rfl 1 (by decide) (htb _ tw148) (fun _ h9 => h9) rfl d_Sc_roundingPower_14 ?_
    refine ct_calli (wn := fun _ => wd_ScAm cA sc am am_a sb pg sy sb_p sb_s am_f sb_pm sb_h sb_z sb_c sb_b sb_t sb_f sb_q sb_e sb_x) (va_runV (As := []) (rest := []) ⟨hx, hb, hml, hown, htb⟩ (c_Am_firstPower l D cA am am_a am_f _ hw _) (ct_cwV 0 htb tw506 rfl rfl tw77 tw503 tw504 tw505 hd_Am_firstPower ⟨by decide, by decide⟩) (ct_preV hP hD hK hN [1, 2] rfl (by decide) 1 rfl rfl _) rfl rfl hl.1 rfl (lv_room (Nat.le_of_ble_eq_true rfl)) d_Sc_roundingPower_17 ⟨Nat.zero_le _, Nat.zero_le _⟩) hP hD hS hA [1, 2] [0, 3] [0, 2, 3, 1] rfl rfl (by decide) (by decide) (fun _ => rfl) (by decide) (fun r3 u4 H locs hw hP hD hS => ?_)
    have hP : va_P D vwCl (wd_ScAm cA sc am am_a sb pg sy sb_p sb_s am_f sb_pm sb_h sb_z sb_c sb_b sb_t sb_f sb_q sb_e sb_x) H := hP
    have hD : va_D A (wd_ScAm cA sc am am_a sb pg sy sb_p sb_s am_f sb_pm sb_h sb_z sb_c sb_b sb_t sb_f sb_q sb_e sb_x) := hD
    refine lv_aload_n hx hb d_Sc_roundingPower_20 rfl (lv_at hl 1 rfl) ?_
    refine va_get (ci := 6) (C := R_Sb) (T := F_Sb) (N := 12) hx hb htb in_Sb hown hK hP 3 rfl rfl 4 (by decide) (htb _ tw221) (fun _ h9 => h9) rfl d_Sc_roundingPower_21 ?_
    refine lv_isub hx hb d_Sc_roundingPower_24 ?_
    refine lv_aload_n hx hb d_Sc_roundingPower_25 rfl (lv_at hl 1 rfl) ?_
    refine va_get (ci := 6) (C := R_Sb) (T := F_Sb) (N := 12) hx hb htb in_Sb hown hK hP 3 rfl rfl 8 (by decide) (htb _ tw231) (fun _ h9 => h9) rfl d_Sc_roundingPower_26 ?_
    refine lv_isub hx hb d_Sc_roundingPower_29 ?_
    refine lv_iconst (v := 1) hx hb d_Sc_roundingPower_30 (by decide) ?_
    refine lv_iadd hx hb d_Sc_roundingPower_31 ?_
    exact ct_iret hx hb hr hlk hK hS () hw hP hD d_Sc_roundingPower_32
  · have hw := hw.2 ((bI_0 _).mp hc)
    refine lv_aload_n hx hb d_Sc_roundingPower_7 rfl (lv_at hl 1 rfl) ?_
    refine va_get (ci := 6) (C := R_Sb) (T := F_Sb) (N := 12) hx hb htb in_Sb hown hK hP 3 rfl rfl 8 (by decide) (htb _ tw231) (fun _ h9 => h9) rfl d_Sc_roundingPower_8 ?_
    refine lv_ineg hx hb d_Sc_roundingPower_11 ?_
    exact ct_iret hx hb hr hlk hK hS () hw hP hD d_Sc_roundingPower_12
/-! java/lang/Math.floorDiv(II)I -/
def wp_floorDiv (xx : Int32) (yy : Int32) (Q : Int32 → Unit → Prop) : Prop := ¬ yy = 0 ∧ ((0 ≤ (xx ^^^ yy) → (Q (xx / yy) ())) ∧ (¬ 0 ≤ (xx ^^^ yy) → ((((xx / yy) * yy) = xx → (Q (xx / yy) ())) ∧ (¬ ((xx / yy) * yy) = xx → (Q ((xx / yy) - 1) ())))))
set_option maxHeartbeats 4000000 in
set_option maxRecDepth 100000 in
theorem c_floorDiv (l : Launch) (D : va_G) (cA : ClassId) (xx : Int32) (yy : Int32) (Q : Int32 → Unit → Prop) (hw : wp_floorDiv xx yy Q) : ct_M vwCl l D [(cA, .int)] y_floorDiv w_floorDiv { frames := 0, cells := 0, slots := 0, locals := 0 } [.int xx, .int yy] (wd_Nil cA) (ct_qi vwCl D [(cA, .int)] Q (fun u => wd_Nil cA)) := by
  refine ct_enterF (cc := b_floorDiv) (maxL := 3) (ret := (some .int)) (by decide +kernel) rfl (Nat.le_of_ble_eq_true rfl) ?_
  intro p e s m args below meth c A ls hx hb hr hlk hml hts hown hA hS hP hK hN hD hl
  have hl : lv_has ls 3 [(0, .int xx), (1, .int yy)] := hl
  have htb : ∀ w ∈ tbl, w.before args s = true := fun w h => hts w (List.mem_cons_of_mem _ h)
  have hown : s.vm.findClass "java/lang/Math" = some m.cls := hown
  unfold wp_floorDiv at hw
  refine lv_iload_n hx hb d_floorDiv_0 rfl (lv_at hl 0 rfl) ?_
  refine lv_iload_n hx hb d_floorDiv_1 rfl (lv_at hl 1 rfl) ?_
  have hi := hw.1
  have hw := hw.2
  refine lv_idiv hx hb d_floorDiv_2 hi ?_
  refine lv_istore_n (lv' := [(2, .int (xx / yy)), (0, .int xx), (1, .int yy)]) hx hb d_floorDiv_3 rfl hl (by decide) rfl (fun ls hl => ?_)
  refine lv_iload_n hx hb d_floorDiv_4 rfl (lv_at hl 1 rfl) ?_
  refine lv_iload_n hx hb d_floorDiv_5 rfl (lv_at hl 2 rfl) ?_
  refine lv_ixor hx hb d_floorDiv_6 ?_
  refine lv_if_ge (tgt := 21) hx hb d_floorDiv_7 rfl (fun hc => ?_) (fun hc => ?_)
  · have hw := hw.1 hc
    refine lv_iload_n hx hb d_floorDiv_21 rfl (lv_at hl 0 rfl) ?_
    exact ct_iret hx hb hr hlk hK hS () hw hP hD d_floorDiv_22
  · have hw := hw.2 hc
    refine lv_iload_n hx hb d_floorDiv_10 rfl (lv_at hl 0 rfl) ?_
    refine lv_iload_n hx hb d_floorDiv_11 rfl (lv_at hl 2 rfl) ?_
    refine lv_imul hx hb d_floorDiv_12 ?_
    refine lv_iload_n hx hb d_floorDiv_13 rfl (lv_at hl 1 rfl) ?_
    refine lv_icmp_eq (tgt := 21) hx hb d_floorDiv_14 rfl (fun hc => ?_) (fun hc => ?_)
    · have hw := hw.1 hc
      refine lv_iload_n hx hb d_floorDiv_21 rfl (lv_at hl 0 rfl) ?_
      exact ct_iret hx hb hr hlk hK hS () hw hP hD d_floorDiv_22
    · have hw := hw.2 hc
      refine lv_iload_n hx hb d_floorDiv_17 rfl (lv_at hl 0 rfl) ?_
      refine lv_iconst (v := 1) hx hb d_floorDiv_18 (by decide) ?_
      refine lv_isub hx hb d_floorDiv_19 ?_
      exact ct_iret hx hb hr hlk hK hS () hw hP hD d_floorDiv_20
/-! DecimalPatterns$Scribe.exponentFor(LDecimalPatterns$Sub;)I -/
def wp_Sc_exponentFor (am_f : Nat → Int32) (sb_h : Int32) (sb_z : Int32) (sb_e : Int32) (Q : Int32 → Unit → Prop) : Prop := wp_Sub_hasExponent sb_e (fun r1 u2 => (r1 = false → (Q 0 ())) ∧ (r1 = true → (wp_Am_isZero am_f (fun r3 u4 => (r3 = false → ((¬ sb_h = 0 → (((sb_h + sb_z) ≤ 0 → (Q 0 ())) ∧ (¬ (sb_h + sb_z) ≤ 0 → (wp_Am_firstPower am_f (fun r5 u6 => wp_floorDiv r5 (sb_h + sb_z) (fun r7 u8 => Q (r7 * (sb_h + sb_z)) ())))))) ∧ (sb_h = 0 → (wp_Am_firstPower am_f (fun r9 u10 => Q ((r9 - sb_z) + 1) ()))))) ∧ (r3 = true → (Q 0 ()))))))
set_option maxHeartbeats 4000000 in
set_option maxRecDepth 100000 in
theorem c_Sc_exponentFor (l : Launch) (D : va_G) (cA : ClassId) (sc am am_a sb pg sy sb_p sb_s : Nat) (am_f : Nat → Int32) (sb_pm : Bool) (sb_h : Int32) (sb_z : Int32) (sb_c : Int32) (sb_b : Int32) (sb_t : Int32) (sb_f : Int32) (sb_q : Int32) (sb_e : Int32) (sb_x : Bool) (Q : Int32 → Unit → Prop) (hw : wp_Sc_exponentFor am_f sb_h sb_z sb_e Q) : ct_M vwCl l D [(cA, .int)] y_Sc_exponentFor w_Sc_exponentFor { frames := 2, cells := 0, slots := 0, locals := 42 } [.ref sc, .ref sb] (wd_ScAm cA sc am am_a sb pg sy sb_p sb_s am_f sb_pm sb_h sb_z sb_c sb_b sb_t sb_f sb_q sb_e sb_x) (ct_qi vwCl D [(cA, .int)] Q (fun u => wd_ScAm cA sc am am_a sb pg sy sb_p sb_s am_f sb_pm sb_h sb_z sb_c sb_b sb_t sb_f sb_q sb_e sb_x)) := by
  refine ct_enter (cc := b_Sc_exponentFor) (maxL := 3) (ret := (some .int)) (by decide) rfl (Nat.le_of_ble_eq_true rfl) ?_
  intro p e s m args below meth c A ls hx hb hr hlk hml hts hown hA hS hP hK hN hD hl
  have hl : lv_has ls 3 [(0, .ref sc), (1, .ref sb)] := hl
  have htb : ∀ w ∈ tbl, w.before args s = true := fun w h => hts w (List.mem_cons_of_mem _ h)
  have hown : s.vm.findClass "DecimalPatterns$Scribe" = some m.cls := hown
  unfold wp_Sc_exponentFor at hw
  refine lv_aload_n hx hb d_Sc_exponentFor_0 rfl (lv_at hl 1 rfl) ?_
  refine ct_callz (wn := fun _ => wd_ScAm cA sc am am_a sb pg sy sb_p sb_s am_f sb_pm sb_h sb_z sb_c sb_b sb_t sb_f sb_q sb_e sb_x) (va_runV (As := []) (rest := []) ⟨hx, hb, hml, hown, htb⟩ (c_Sub_hasExponent l D cA sb sb_p sb_s sb_pm sb_h sb_z sb_c sb_b sb_t sb_f sb_q sb_e sb_x _ hw _) (ct_cwV 0 htb tw502 rfl rfl tw80 tw499 tw500 tw501 hd_Sub_hasExponent ⟨by decide, by decide⟩) (ct_preV hP hD hK hN [3] rfl (by decide) 3 rfl rfl _) rfl rfl hl.1 rfl (lv_room (Nat.le_of_ble_eq_true rfl)) d_Sc_exponentFor_1 ⟨Nat.zero_le _, Nat.zero_le _⟩) hP hD hS hA [3] [0, 1, 2] [0, 1, 2, 3] rfl rfl (by decide) (by decide) (fun _ => rfl) (by decide) (fun r1 u2 H locs hw hP hD hS => ?_)
  have hP : va_P D vwCl (wd_ScAm cA sc am am_a sb pg sy sb_p sb_s am_f sb_pm sb_h sb_z sb_c sb_b sb_t sb_f sb_q sb_e sb_x) H := hP
  have hD : va_D A (wd_ScAm cA sc am am_a sb pg sy sb_p sb_s am_f sb_pm sb_h sb_z sb_c sb_b sb_t sb_f sb_q sb_e sb_x) := hD
  refine lv_if_eq (tgt := 17) hx hb d_Sc_exponentFor_4 rfl (fun hc => ?_) (fun hc => ?_)
  · have hw := hw.1 ((bI_0 _).mp hc)
    refine lv_iconst (v := 0) hx hb d_Sc_exponentFor_17 (by decide) ?_
    exact ct_iret hx hb hr hlk hK hS () hw hP hD d_Sc_exponentFor_18
  · have hw := hw.2 ((bI_n0 _).mp hc)
    refine lv_aload_n hx hb d_Sc_exponentFor_7 rfl (lv_at hl 0 rfl) ?_
    refine va_get (ci := 5) (C := R_Sc) (T := F_Sc) (N := 3) hx hb htb in_Sc hown hK hP 0 rfl rfl 1 (by decide) (htb _ tw148) (fun _ h9 => h9) rfl d_Sc_exponentFor_8 ?_
    refine ct_callz (wn := fun _ => wd_ScAm cA sc am am_a sb pg sy sb_p sb_s am_f sb_pm sb_h sb_z sb_c sb_b sb_t sb_f sb_q sb_e sb_x) (va_runV (As := []) (rest := []) ⟨hx, hb, hml, hown, htb⟩ (c_Am_isZero l D cA am am_a am_f _ hw _) (ct_cwV 0 htb tw561 rfl rfl tw77 tw558 tw559 tw560 hd_Am_isZero ⟨by decide, by decide⟩) (ct_preV hP hD hK hN [1, 2] rfl (by decide) 1 rfl rfl _) rfl rfl hl.1 rfl (lv_room (Nat.le_of_ble_eq_true rfl)) d_Sc_exponentFor_11 ⟨Nat.zero_le _, Nat.zero_le _⟩) hP hD hS hA [1, 2] [0, 3] [0, 2, 3, 1] rfl rfl (by decide) (by decide) (fun _ => rfl) (by decide) (fun r3 u4 H locs hw hP hD hS => ?_)
    have hP : va_P D vwCl (wd_ScAm cA sc am am_a sb pg sy sb_p sb_s am_f sb_pm sb_h sb_z sb_c sb_b sb_t sb_f sb_q sb_e sb_x) H := hP
    have hD : va_D A (wd_ScAm cA sc am am_a sb pg sy sb_p sb_s am_f sb_pm sb_h sb_z sb_c sb_b sb_t sb_f sb_q sb_e sb_x) := hD
    refine lv_if_eq (tgt := 19) hx hb d_Sc_exponentFor_14 rfl (fun hc => ?_) (fun hc => ?_)
    · have hw := hw.1 ((bI_0 _).mp hc)
      refine lv_aload_n hx hb d_Sc_exponentFor_19 rfl (lv_at hl 1 rfl) ?_
      refine va_get (ci := 6) (C := R_Sb) (T := F_Sb) (N := 12) hx hb htb in_Sb hown hK hP 3 rfl rfl 3 (by decide) (htb _ tw217) (fun _ h9 => h9) rfl d_Sc_exponentFor_20 ?_
      refine lv_if_ne (tgt := 41) hx hb d_Sc_exponentFor_23 rfl (fun hc => ?_) (fun hc => ?_)
      · have hw := hw.1 hc
        refine lv_aload_n hx hb d_Sc_exponentFor_41 rfl (lv_at hl 1 rfl) ?_
        refine va_get (ci := 6) (C := R_Sb) (T := F_Sb) (N := 12) hx hb htb in_Sb hown hK hP 3 rfl rfl 3 (by decide) (htb _ tw217) (fun _ h9 => h9) rfl d_Sc_exponentFor_42 ?_
        refine lv_aload_n hx hb d_Sc_exponentFor_45 rfl (lv_at hl 1 rfl) ?_
        refine va_get (ci := 6) (C := R_Sb) (T := F_Sb) (N := 12) hx hb htb in_Sb hown hK hP 3 rfl rfl 4 (by decide) (htb _ tw221) (fun _ h9 => h9) rfl d_Sc_exponentFor_46 ?_
        refine lv_iadd hx hb d_Sc_exponentFor_49 ?_
        refine lv_istore_n (lv' := [(2, .int (sb_h + sb_z)), (0, .ref sc), (1, .ref sb)]) hx hb d_Sc_exponentFor_50 rfl hl (by decide) rfl (fun ls hl => ?_)
        refine lv_iload_n hx hb d_Sc_exponentFor_51 rfl (lv_at hl 0 rfl) ?_
        refine lv_if_le (tgt := 71) hx hb d_Sc_exponentFor_52 rfl (fun hc => ?_) (fun hc => ?_)
        · have hw := hw.1 hc
          refine lv_iconst (v := 0) hx hb d_Sc_exponentFor_71 (by decide) ?_
          exact ct_iret hx hb hr hlk hK hS () hw hP hD d_Sc_exponentFor_72
        · have hw := hw.2 hc
          refine lv_aload_n hx hb d_Sc_exponentFor_55 rfl (lv_at hl 1 rfl) ?_
          refine va_get (ci := 5) (C := R_Sc) (T := F_Sc) (N := 3) hx hb htb in_Sc hown hK hP 0 rfl rfl 1 (by decide) (htb _ tw148) (fun _ h9 => h9) rfl d_Sc_exponentFor_56 ?_
          refine ct_calli (wn := fun _ => wd_ScAm cA sc am am_a sb pg sy sb_p sb_s am_f sb_pm sb_h sb_z sb_c sb_b sb_t sb_f sb_q sb_e sb_x) (va_runV (As := []) (rest := []) ⟨hx, hb, hml, hown, htb⟩ (c_Am_firstPower l D cA am am_a am_f _ hw _) (ct_cwV 0 htb tw506 rfl rfl tw77 tw503 tw504 tw505 hd_Am_firstPower ⟨by decide, by decide⟩) (ct_preV hP hD hK hN [1, 2] rfl (by decide) 1 rfl rfl _) rfl rfl hl.1 rfl (lv_room (Nat.le_of_ble_eq_true rfl)) d_Sc_exponentFor_59 ⟨Nat.zero_le _, Nat.zero_le _⟩) hP hD hS hA [1, 2] [0, 3] [0, 2, 3, 1] rfl rfl (by decide) (by decide) (fun _ => rfl) (by decide) (fun r5 u6 H locs hw hP hD hS => ?_)
          have hP : va_P D vwCl (wd_ScAm cA sc am am_a sb pg sy sb_p sb_s am_f sb_pm sb_h sb_z sb_c sb_b sb_t sb_f sb_q sb_e sb_x) H := hP
          have hD : va_D A (wd_ScAm cA sc am am_a sb pg sy sb_p sb_s am_f sb_pm sb_h sb_z sb_c sb_b sb_t sb_f sb_q sb_e sb_x) := hD
          refine lv_iload_n hx hb d_Sc_exponentFor_62 rfl (lv_at hl 0 rfl) ?_
          refine ct_calli (wn := fun _ => wd_ScAm cA sc am am_a sb pg sy sb_p sb_s am_f sb_pm sb_h sb_z sb_c sb_b sb_t sb_f sb_q sb_e sb_x) (va_runS (As := [.int r5, .int (sb_h + sb_z)]) (rest := []) ⟨hx, hb, hml, hown, htb⟩ (c_floorDiv l D cA r5 (sb_h + sb_z) _ hw _) (ct_cwS 2 htb tw564 rfl rfl tw74 tw562 tw563 hd_floorDiv ⟨by decide, by decide⟩) (ct_preS hP hD hK hN [] rfl (by decide) _) rfl rfl hl.1 rfl (lv_room (Nat.le_of_ble_eq_true rfl)) d_Sc_exponentFor_63 ⟨Nat.zero_le _, Nat.zero_le _⟩) hP hD hS hA [] [0, 1, 2, 3] [0, 1, 2, 3] rfl rfl (by decide) (by decide) (fun _ => rfl) (by decide) (fun r7 u8 H locs hw hP hD hS => ?_)
          have hP : va_P D vwCl (wd_ScAm cA sc am am_a sb pg sy sb_p sb_s am_f sb_pm sb_h sb_z sb_c sb_b sb_t sb_f sb_q sb_e sb_x) H := hP
          have hD : va_D A (wd_ScAm cA sc am am_a sb pg sy sb_p sb_s am_f sb_pm sb_h sb_z sb_c sb_b sb_t sb_f sb_q sb_e sb_x) := hD
          refine lv_iload_n hx hb d_Sc_exponentFor_66 rfl (lv_at hl 0 rfl) ?_
          refine lv_imul hx hb d_Sc_exponentFor_67 ?_
          refine lv_goto (tgt := 72) hx hb d_Sc_exponentFor_68 rfl ?_
          exact ct_iret hx hb hr hlk hK hS () hw hP hD d_Sc_exponentFor_72
      · have hw := hw.2 hc
        refine lv_aload_n hx hb d_Sc_exponentFor_26 rfl (lv_at hl 0 rfl) ?_
        refine va_get (ci := 5) (C := R_Sc) (T := F_Sc) (N := 3) hx hb htb in_Sc hown hK hP 0 rfl rfl 1 (by decide) (htb _ tw148) (fun _ h9 => h9) rfl d_Sc_exponentFor_27 ?_
        refine ct_calli (wn := fun _ => wd_ScAm cA sc am am_a sb pg sy sb_p sb_s am_f sb_pm sb_h sb_z sb_c sb_b sb_t sb_f sb_q sb_e sb_x) (va_runV (As := []) (rest := []) ⟨hx, hb, hml, hown, htb⟩ (c_Am_firstPower l D cA am am_a am_f _ hw _) (ct_cwV 0 htb tw506 rfl rfl tw77 tw503 tw504 tw505 hd_Am_firstPower ⟨by decide, by decide⟩) (ct_preV hP hD hK hN [1, 2] rfl (by decide) 1 rfl rfl _) rfl rfl hl.1 rfl (lv_room (Nat.le_of_ble_eq_true rfl)) d_Sc_exponentFor_30 ⟨Nat.zero_le _, Nat.zero_le _⟩) hP hD hS hA [1, 2] [0, 3] [0, 2, 3, 1] rfl rfl (by decide) (by decide) (fun _ => rfl) (by decide) (fun r9 u10 H locs hw hP hD hS => ?_)
        have hP : va_P D vwCl (wd_ScAm cA sc am am_a sb pg sy sb_p sb_s am_f sb_pm sb_h sb_z sb_c sb_b sb_t sb_f sb_q sb_e sb_x) H := hP
        have hD : va_D A (wd_ScAm cA sc am am_a sb pg sy sb_p sb_s am_f sb_pm sb_h sb_z sb_c sb_b sb_t sb_f sb_q sb_e sb_x) := hD
        refine lv_aload_n hx hb d_Sc_exponentFor_33 rfl (lv_at hl 1 rfl) ?_
        refine va_get (ci := 6) (C := R_Sb) (T := F_Sb) (N := 12) hx hb htb in_Sb hown hK hP 3 rfl rfl 4 (by decide) (htb _ tw221) (fun _ h9 => h9) rfl d_Sc_exponentFor_34 ?_
        refine lv_isub hx hb d_Sc_exponentFor_37 ?_
        refine lv_iconst (v := 1) hx hb d_Sc_exponentFor_38 (by decide) ?_
        refine lv_iadd hx hb d_Sc_exponentFor_39 ?_
        exact ct_iret hx hb hr hlk hK hS () hw hP hD d_Sc_exponentFor_40
    · have hw := hw.2 ((bI_n0 _).mp hc)
      refine lv_iconst (v := 0) hx hb d_Sc_exponentFor_17 (by decide) ?_
      exact ct_iret hx hb hr hlk hK hS () hw hP hD d_Sc_exponentFor_18
/-! DecimalPatterns$Scribe.putWhole(LDecimalPatterns$Sub;II)V -/
def wp_Sc_putWhole_L280 : Nat → (Nat → Int32) → Int32 → (Nat → Int32) → Int32 → Int32 → Int32 → Int32 → Bool → Int32 → Int32 → (Nat → Int32) → ((Int32 × (Nat → Int32)) → Prop) → Prop
  | 0, _, _, _, _, _, _, _, _, _, _, _, _ => False
  | n280 + 1, am_f, sy_l, sy_f, sb_c, sb_b, sb_t, x2, x4, x5, pg_n, pg_f, Q => (x5 < 0 → (Q (pg_n, pg_f))) ∧ (¬ x5 < 0 → (wp_Am_digit am_f (x2 + x5) (fun r1 u2 => wp_Sc_putDigit pg_n pg_f sy_f r1 (fun u4 => (x4 = false → (wp_Sc_putWhole_L280 n280 am_f sy_l sy_f sb_c sb_b sb_t x2 x4 (x5 + (-1)) u4.1 u4.2 Q)) ∧ (x4 = true → (wp_Sub_groupsBefore sb_c sb_b sb_t x5 (fun r5 u6 => (r5 = false → (wp_Sc_putWhole_L280 n280 am_f sy_l sy_f sb_c sb_b sb_t x2 x4 (x5 + (-1)) u4.1 u4.2 Q)) ∧ (r5 = true → (wp_Sc_putSymbol u4.1 u4.2 sy_f 1 (fun u8 => wp_Sc_putWhole_L280 n280 am_f sy_l sy_f sb_c sb_b sb_t x2 x4 (x5 + (-1)) u8.1 u8.2 Q))))))))))
def wp_Sc_putWhole_J210 (am_f : Nat → Int32) (sy_l : Int32) (sy_f : Nat → Int32) (sb_c : Int32) (sb_b : Int32) (sb_t : Int32) (x2 : Int32) (x3 : Int32) (y0 : Bool) (pg_n : Int32) (pg_f : Nat → Int32) (Q : (Int32 × (Nat → Int32)) → Prop) : Prop := ∃ n280, wp_Sc_putWhole_L280 n280 am_f sy_l sy_f sb_c sb_b sb_t x2 y0 (x3 - 1) pg_n pg_f Q
def wp_Sc_putWhole (pg_n : Int32) (pg_f : Nat → Int32) (am_f : Nat → Int32) (sy_l : Int32) (sy_f : Nat → Int32) (sb_c : Int32) (sb_b : Int32) (sb_t : Int32) (ex : Int32) (wh : Int32) (Q : (Int32 × (Nat → Int32)) → Prop) : Prop := (wh < (sb_b + sy_l) → (wp_Sc_putWhole_J210 am_f sy_l sy_f sb_c sb_b sb_t ex wh false pg_n pg_f Q)) ∧ (¬ wh < (sb_b + sy_l) → (wp_Sc_putWhole_J210 am_f sy_l sy_f sb_c sb_b sb_t ex wh true pg_n pg_f Q))
set_option maxHeartbeats 4000000 in
set_option maxRecDepth 100000 in
theorem c_Sc_putWhole (l : Launch) (D : va_G) (cA : ClassId) (sc pg pg_a am am_a sy sy_a sb sb_p sb_s : Nat) (pg_n : Int32) (pg_f : Nat → Int32) (am_f : Nat → Int32) (sy_l : Int32) (sy_f : Nat → Int32) (sb_pm : Bool) (sb_h : Int32) (sb_z : Int32) (sb_c : Int32) (sb_b : Int32) (sb_t : Int32) (sb_f : Int32) (sb_q : Int32) (sb_e : Int32) (sb_x : Bool) (ex : Int32) (wh : Int32) (Q : (Int32 × (Nat → Int32)) → Prop) (hw : wp_Sc_putWhole pg_n pg_f am_f sy_l sy_f sb_c sb_b sb_t ex wh Q) : ct_M vwCl l D [(cA, .int)] y_Sc_putWhole w_Sc_putWhole { frames := 2, cells := 0, slots := 0, locals := 42 } [.ref sc, .ref sb, .int ex, .int wh] (wd_ScD cA sc pg pg_a am am_a sy sy_a sb sb_p sb_s pg_n pg_f am_f sy_l sy_f sb_pm sb_h sb_z sb_c sb_b sb_t sb_f sb_q sb_e sb_x) (ct_qv vwCl D [(cA, .int)] Q (fun u => wd_ScD cA sc pg pg_a am am_a sy sy_a sb sb_p sb_s u.1 u.2 am_f sy_l sy_f sb_pm sb_h sb_z sb_c sb_b sb_t sb_f sb_q sb_e sb_x)) := by
  refine ct_enter (cc := b_Sc_putWhole) (maxL := 6) (ret := none) (by decide) rfl (Nat.le_of_ble_eq_true rfl) ?_
  intro p e s m args below meth c A ls hx hb hr hlk hml hts hown hA hS hP hK hN hD hl
  have hl : lv_has ls 6 [(0, .ref sc), (1, .ref sb), (2, .int ex), (3, .int wh)] := hl
  have htb : ∀ w ∈ tbl, w.before args s = true := fun w h => hts w (List.mem_cons_of_mem _ h)
  have hown : s.vm.findClass "DecimalPatterns$Scribe" = some m.cls := hown
  unfold wp_Sc_putWhole at hw
  have hL280 : ∀ (n280 : Nat) (x2 : Int32) (x4 : Bool) (x5 : Int32) (pg_n : Int32) (pg_f : Nat → Int32) (H : Heap) (locs : List Loc) (ls : Array Slot), lv_has ls 6 [(0, .ref sc), (1, .ref sb), (2, .int x2), (4, .int (bI x4)), (5, .int x5)] → va_P D vwCl (wd_ScD cA sc pg pg_a am am_a sy sy_a sb sb_p sb_s pg_n pg_f am_f sy_l sy_f sb_pm sb_h sb_z sb_c sb_b sb_t sb_f sb_q sb_e sb_x) H → va_D A (wd_ScD cA sc pg pg_a am am_a sy sy_a sb sb_p sb_s pg_n pg_f am_f sy_l sy_f sb_pm sb_h sb_z sb_c sb_b sb_t sb_f sb_q sb_e sb_x) → va_S A s.heap H locs → wp_Sc_putWhole_L280 n280 am_f sy_l sy_f sb_c sb_b sb_t x2 x4 x5 pg_n pg_f Q → W p l e { frames := 2, cells := 0, slots := 0, locals := 42 } s m args below meth c H locs 0 0 (MQ below (ct_qv vwCl D [(cA, .int)] Q (fun u => wd_ScD cA sc pg pg_a am am_a sy sy_a sb sb_p sb_s u.1 u.2 am_f sy_l sy_f sb_pm sb_h sb_z sb_c sb_b sb_t sb_f sb_q sb_e sb_x) A) args s 0 0 A) (F0 m 28 ls []) := by
    intro n280
    induction n280 with
    | zero => intro x2 x4 x5 pg_n pg_f H locs ls hl hP hD hS hw; exact hw.elim
    | succ n280 ih280 =>
      intro x2 x4 x5 pg_n pg_f H locs ls hl hP hD hS hw
      unfold wp_Sc_putWhole_L280 at hw
      refine lv_iload hx hb d_Sc_putWhole_28 (lv_at hl 4 rfl) ?_
      refine lv_if_lt (tgt := 73) hx hb d_Sc_putWhole_30 rfl (fun hc => ?_) (fun hc => ?_)
      · have hw := hw.1 hc
        exact ct_vret hx hb hr hlk hK hS (pg_n, pg_f) hw hP hD d_Sc_putWhole_73
      · have hw := hw.2 hc
        refine lv_aload_n hx hb d_Sc_putWhole_33 rfl (lv_at hl 0 rfl) ?_
        refine lv_aload_n hx hb d_Sc_putWhole_34 rfl (lv_at hl 0 rfl) ?_
        refine va_get (ci := 5) (C := R_Sc) (T := F_Sc) (N := 3) hx hb htb in_Sc hown hK hP 0 rfl rfl 1 (by decide) (htb _ tw148) (fun _ h9 => h9) rfl d_Sc_putWhole_35 ?_
        refine lv_iload_n hx hb d_Sc_putWhole_38 rfl (lv_at hl 2 rfl) ?_
        refine lv_iload hx hb d_Sc_putWhole_39 (lv_at hl 4 rfl) ?_
        refine lv_iadd hx hb d_Sc_putWhole_41 ?_
        refine ct_calli (wn := fun _ => wd_ScD cA sc pg pg_a am am_a sy sy_a sb sb_p sb_s pg_n pg_f am_f sy_l sy_f sb_pm sb_h sb_z sb_c sb_b sb_t sb_f sb_q sb_e sb_x) (va_runV (As := [.int (x2 + x5)]) (rest := [.ref sc]) ⟨hx, hb, hml, hown, htb⟩ (c_Am_digit l D cA am am_a am_f (x2 + x5) _ hw _) (ct_cwV 1 htb tw510 rfl rfl tw77 tw578 tw508 tw509 hd_Am_digit ⟨by decide, by decide⟩) (ct_preV hP hD hK hN [3, 4] rfl (by decide) 3 rfl rfl _) rfl rfl hl.1 rfl (lv_room (Nat.le_of_ble_eq_true rfl)) d_Sc_putWhole_42 ⟨Nat.zero_le _, Nat.zero_le _⟩) hP hD hS hA [3, 4] [0, 1, 2, 5, 6, 7] [0, 1, 2, 6, 7, 3, 4, 5] rfl rfl (by decide) (by decide) (fun _ => rfl) (by decide) (fun r1 u2 H locs hw hP hD hS => ?_)
        have hP : va_P D vwCl (wd_ScD cA sc pg pg_a am am_a sy sy_a sb sb_p sb_s pg_n pg_f am_f sy_l sy_f sb_pm sb_h sb_z sb_c sb_b sb_t sb_f sb_q sb_e sb_x) H := hP
        have hD : va_D A (wd_ScD cA sc pg pg_a am am_a sy sy_a sb sb_p sb_s pg_n pg_f am_f sy_l sy_f sb_pm sb_h sb_z sb_c sb_b sb_t sb_f sb_q sb_e sb_x) := hD
        refine ct_callv (wn := fun u4 => wd_ScD cA sc pg pg_a am am_a sy sy_a sb sb_p sb_s u4.1 u4.2 am_f sy_l sy_f sb_pm sb_h sb_z sb_c sb_b sb_t sb_f sb_q sb_e sb_x) (va_runV (As := [.int r1]) (rest := []) ⟨hx, hb, hml, hown, htb⟩ (c_Sc_putDigit l D cA sc pg pg_a sy sy_a am pg_n pg_f sy_l sy_f r1 _ hw _) (ct_cwV 1 htb tw582 rfl rfl tw76 tw579 tw581 tw30 hd_Sc_putDigit ⟨by decide, by decide⟩) (ct_preV hP hD hK hN [0, 1, 2, 5, 6] rfl (by decide) 0 rfl rfl _) rfl rfl hl.1 rfl (lv_room (Nat.le_of_ble_eq_true rfl)) d_Sc_putWhole_45 ⟨Nat.zero_le _, Nat.zero_le _⟩) hP hD hS hA [0, 1, 2, 5, 6] [3, 4, 7] [3, 4, 5, 0, 1, 6, 7, 2] rfl rfl (by decide) (by decide) (fun _ => rfl) (by decide) (fun u4 H locs hw hP hD hS => ?_)
        have hP : va_P D vwCl (wd_ScD cA sc pg pg_a am am_a sy sy_a sb sb_p sb_s u4.1 u4.2 am_f sy_l sy_f sb_pm sb_h sb_z sb_c sb_b sb_t sb_f sb_q sb_e sb_x) H := hP
        have hD : va_D A (wd_ScD cA sc pg pg_a am am_a sy sy_a sb sb_p sb_s u4.1 u4.2 am_f sy_l sy_f sb_pm sb_h sb_z sb_c sb_b sb_t sb_f sb_q sb_e sb_x) := hD
        refine lv_iload hx hb d_Sc_putWhole_48 (lv_at hl 3 rfl) ?_
        refine lv_if_eq (tgt := 67) hx hb d_Sc_putWhole_50 rfl (fun hc => ?_) (fun hc => ?_)
        · have hw := hw.1 ((bI_0 _).mp hc)
          refine lv_iinc (k := 4) (v := x5 + (-1)) (lv' := [(5, .int (x5 + (-1))), (0, .ref sc), (1, .ref sb), (2, .int x2), (4, .int (bI x4))]) hx hb d_Sc_putWhole_67 hl rfl (by rfl) (by decide) rfl (fun ls hl => ?_)
          refine lv_goto (tgt := 28) hx hb d_Sc_putWhole_70 rfl ?_
          exact ih280 x2 x4 (x5 + (-1)) u4.1 u4.2 _ _ _ (lv_sub hl [1, 2, 3, 4, 0] rfl) hP hD hS hw
        · have hw := hw.2 ((bI_n0 _).mp hc)
          refine lv_aload_n hx hb d_Sc_putWhole_53 rfl (lv_at hl 1 rfl) ?_
          refine lv_iload hx hb d_Sc_putWhole_54 (lv_at hl 4 rfl) ?_
          refine ct_callz (wn := fun _ => wd_ScD cA sc pg pg_a am am_a sy sy_a sb sb_p sb_s u4.1 u4.2 am_f sy_l sy_f sb_pm sb_h sb_z sb_c sb_b sb_t sb_f sb_q sb_e sb_x) (va_runV (As := [.int x5]) (rest := []) ⟨hx, hb, hml, hown, htb⟩ (c_Sub_groupsBefore l D cA sb sb_p sb_s sb_pm sb_h sb_z sb_c sb_b sb_t sb_f sb_q sb_e sb_x x5 _ hw _) (ct_cwV 1 htb tw587 rfl rfl tw80 tw584 tw585 tw586 hd_Sub_groupsBefore ⟨by decide, by decide⟩) (ct_preV hP hD hK hN [7] rfl (by decide) 7 rfl rfl _) rfl rfl hl.1 rfl (lv_room (Nat.le_of_ble_eq_true rfl)) d_Sc_putWhole_56 ⟨Nat.zero_le _, Nat.zero_le _⟩) hP hD hS hA [7] [0, 1, 2, 3, 4, 5, 6] [0, 1, 2, 3, 4, 5, 6, 7] rfl rfl (by decide) (by decide) (fun _ => rfl) (by decide) (fun r5 u6 H locs hw hP hD hS => ?_)
          have hP : va_P D vwCl (wd_ScD cA sc pg pg_a am am_a sy sy_a sb sb_p sb_s u4.1 u4.2 am_f sy_l sy_f sb_pm sb_h sb_z sb_c sb_b sb_t sb_f sb_q sb_e sb_x) H := hP
          have hD : va_D A (wd_ScD cA sc pg pg_a am am_a sy sy_a sb sb_p sb_s u4.1 u4.2 am_f sy_l sy_f sb_pm sb_h sb_z sb_c sb_b sb_t sb_f sb_q sb_e sb_x) := hD
          refine lv_if_eq (tgt := 67) hx hb d_Sc_putWhole_59 rfl (fun hc => ?_) (fun hc => ?_)
          · have hw := hw.1 ((bI_0 _).mp hc)
            refine lv_iinc (k := 4) (v := x5 + (-1)) (lv' := [(5, .int (x5 + (-1))), (0, .ref sc), (1, .ref sb), (2, .int x2), (4, .int (bI x4))]) hx hb d_Sc_putWhole_67 hl rfl (by rfl) (by decide) rfl (fun ls hl => ?_)
            refine lv_goto (tgt := 28) hx hb d_Sc_putWhole_70 rfl ?_
            exact ih280 x2 x4 (x5 + (-1)) u4.1 u4.2 _ _ _ (lv_sub hl [1, 2, 3, 4, 0] rfl) hP hD hS hw
          · have hw := hw.2 ((bI_n0 _).mp hc)
            refine lv_aload_n hx hb d_Sc_putWhole_62 rfl (lv_at hl 0 rfl) ?_
            refine lv_iconst (v := 1) hx hb d_Sc_putWhole_63 (by decide) ?_
            refine ct_callv (wn := fun u8 => wd_ScD cA sc pg pg_a am am_a sy sy_a sb sb_p sb_s u8.1 u8.2 am_f sy_l sy_f sb_pm sb_h sb_z sb_c sb_b sb_t sb_f sb_q sb_e sb_x) (va_runV (As := [.int 1]) (rest := []) ⟨hx, hb, hml, hown, htb⟩ (c_Sc_putSymbol l D cA sc pg pg_a sy sy_a am u4.1 u4.2 sy_l sy_f 1 _ hw _) (ct_cwV 1 htb tw543 rfl rfl tw76 tw540 tw542 tw25 hd_Sc_putSymbol ⟨by decide, by decide⟩) (ct_preV hP hD hK hN [0, 1, 2, 5, 6] rfl (by decide) 0 rfl rfl _) rfl rfl hl.1 rfl (lv_room (Nat.le_of_ble_eq_true rfl)) d_Sc_putWhole_64 ⟨Nat.zero_le _, Nat.zero_le _⟩) hP hD hS hA [0, 1, 2, 5, 6] [3, 4, 7] [3, 4, 5, 0, 1, 6, 7, 2] rfl rfl (by decide) (by decide) (fun _ => rfl) (by decide) (fun u8 H locs hw hP hD hS => ?_)
            have hP : va_P D vwCl (wd_ScD cA sc pg pg_a am am_a sy sy_a sb sb_p sb_s u8.1 u8.2 am_f sy_l sy_f sb_pm sb_h sb_z sb_c sb_b sb_t sb_f sb_q sb_e sb_x) H := hP
            have hD : va_D A (wd_ScD cA sc pg pg_a am am_a sy sy_a sb sb_p sb_s u8.1 u8.2 am_f sy_l sy_f sb_pm sb_h sb_z sb_c sb_b sb_t sb_f sb_q sb_e sb_x) := hD
            refine lv_iinc (k := 4) (v := x5 + (-1)) (lv' := [(5, .int (x5 + (-1))), (0, .ref sc), (1, .ref sb), (2, .int x2), (4, .int (bI x4))]) hx hb d_Sc_putWhole_67 hl rfl (by rfl) (by decide) rfl (fun ls hl => ?_)
            refine lv_goto (tgt := 28) hx hb d_Sc_putWhole_70 rfl ?_
            exact ih280 x2 x4 (x5 + (-1)) u8.1 u8.2 _ _ _ (lv_sub hl [1, 2, 3, 4, 0] rfl) hP hD hS hw
  have hJ210 : ∀ (x2 : Int32) (x3 : Int32) (y0 : Bool) (pg_n : Int32) (pg_f : Nat → Int32) (H : Heap) (locs : List Loc) (ls : Array Slot), lv_has ls 6 [(0, .ref sc), (1, .ref sb), (2, .int x2), (3, .int x3)] → va_P D vwCl (wd_ScD cA sc pg pg_a am am_a sy sy_a sb sb_p sb_s pg_n pg_f am_f sy_l sy_f sb_pm sb_h sb_z sb_c sb_b sb_t sb_f sb_q sb_e sb_x) H → va_D A (wd_ScD cA sc pg pg_a am am_a sy sy_a sb sb_p sb_s pg_n pg_f am_f sy_l sy_f sb_pm sb_h sb_z sb_c sb_b sb_t sb_f sb_q sb_e sb_x) → va_S A s.heap H locs → wp_Sc_putWhole_J210 am_f sy_l sy_f sb_c sb_b sb_t x2 x3 y0 pg_n pg_f Q → W p l e { frames := 2, cells := 0, slots := 0, locals := 42 } s m args below meth c H locs 0 0 (MQ below (ct_qv vwCl D [(cA, .int)] Q (fun u => wd_ScD cA sc pg pg_a am am_a sy sy_a sb sb_p sb_s u.1 u.2 am_f sy_l sy_f sb_pm sb_h sb_z sb_c sb_b sb_t sb_f sb_q sb_e sb_x) A) args s 0 0 A) (F0 m 21 ls [.int (bI y0)]) := by
    intro x2 x3 y0 pg_n pg_f H locs ls hl hP hD hS hw
    unfold wp_Sc_putWhole_J210 at hw
    refine lv_istore (lv' := [(4, .int (bI y0)), (0, .ref sc), (1, .ref sb), (2, .int x2), (3, .int x3)]) hx hb d_Sc_putWhole_21 hl (by decide) rfl (fun ls hl => ?_)
    refine lv_iload_n hx hb d_Sc_putWhole_23 rfl (lv_at hl 4 rfl) ?_
    refine lv_iconst (v := 1) hx hb d_Sc_putWhole_24 (by decide) ?_
    refine lv_isub hx hb d_Sc_putWhole_25 ?_
    refine lv_istore (lv' := [(5, .int (x3 - 1)), (4, .int (bI y0)), (0, .ref sc), (1, .ref sb), (2, .int x2), (3, .int x3)]) hx hb d_Sc_putWhole_26 hl (by decide) rfl (fun ls hl => ?_)
    obtain ⟨n280, hw⟩ := hw
    exact hL280 n280 x2 y0 (x3 - 1) pg_n pg_f _ _ _ (lv_sub hl [2, 3, 4, 1, 0] rfl) hP hD hS hw
  refine lv_iload_n hx hb d_Sc_putWhole_0 rfl (lv_at hl 3 rfl) ?_
  refine lv_aload_n hx hb d_Sc_putWhole_1 rfl (lv_at hl 1 rfl) ?_
  refine va_get (ci := 6) (C := R_Sb) (T := F_Sb) (N := 12) hx hb htb in_Sb hown hK hP 7 rfl rfl 6 (by decide) (htb _ tw226) (fun _ h9 => h9) rfl d_Sc_putWhole_2 ?_
  refine lv_aload_n hx hb d_Sc_putWhole_5 rfl (lv_at hl 0 rfl) ?_
  refine va_get (ci := 5) (C := R_Sc) (T := F_Sc) (N := 3) hx hb htb in_Sc hown hK hP 0 rfl rfl 2 (by decide) (htb _ tw149) (fun _ h9 => h9) rfl d_Sc_putWhole_6 ?_
  refine va_get (ci := 7) (C := R_Sy) (T := F_Sy) (N := 2) hx hb htb in_Sy hown hK hP 5 rfl rfl 1 (by decide) (htb _ tw120) (fun _ h9 => h9) rfl d_Sc_putWhole_9 ?_
  refine lv_iadd hx hb d_Sc_putWhole_12 ?_
  refine lv_icmp_lt (tgt := 20) hx hb d_Sc_putWhole_13 rfl (fun hc => ?_) (fun hc => ?_)
  · have hw := hw.1 hc
    refine lv_iconst (v := 0) hx hb d_Sc_putWhole_20 (by decide) ?_
    exact hJ210 ex wh false pg_n pg_f _ _ _ (lv_sub hl [0, 1, 2, 3] rfl) hP hD hS hw
  · have hw := hw.2 hc
    refine lv_iconst (v := 1) hx hb d_Sc_putWhole_16 (by decide) ?_
    refine lv_goto (tgt := 21) hx hb d_Sc_putWhole_17 rfl ?_
    exact hJ210 ex wh true pg_n pg_f _ _ _ (lv_sub hl [0, 1, 2, 3] rfl) hP hD hS hw
/-! DecimalPatterns$Scribe.putDigits(LDecimalPatterns$Sub;I)V -/
def wp_Sc_putDigits_L1020 : Nat → (Nat → Int32) → Int32 → (Nat → Int32) → Int32 → Int32 → Int32 → Int32 → Int32 → Int32 → Int32 → Int32 → Int32 → Int32 → Int32 → (Nat → Int32) → ((Int32 × (Nat → Int32)) → Prop) → Prop
  | 0, _, _, _, _, _, _, _, _, _, _, _, _, _, _, _, _ => False
  | n1020 + 1, am_f, sy_l, sy_f, sb_h, sb_z, sb_c, sb_b, sb_t, sb_q, sb_e, x2, x4, x5, pg_n, pg_f, Q => (x4 < x5 → (Q (pg_n, pg_f))) ∧ (¬ x4 < x5 → (wp_Am_digit am_f (x2 - x5) (fun r13 u14 => wp_Sc_putDigit pg_n pg_f sy_f r13 (fun u16 => wp_Sc_putDigits_L1020 n1020 am_f sy_l sy_f sb_h sb_z sb_c sb_b sb_t sb_q sb_e x2 x4 (x5 + 1) u16.1 u16.2 Q))))
def wp_Sc_putDigits_J990 (am_f : Nat → Int32) (sy_l : Int32) (sy_f : Nat → Int32) (sb_h : Int32) (sb_z : Int32) (sb_c : Int32) (sb_b : Int32) (sb_t : Int32) (sb_q : Int32) (sb_e : Int32) (x2 : Int32) (x4 : Int32) (pg_n : Int32) (pg_f : Nat → Int32) (Q : (Int32 × (Nat → Int32)) → Prop) : Prop := ∃ n1020, wp_Sc_putDigits_L1020 n1020 am_f sy_l sy_f sb_h sb_z sb_c sb_b sb_t sb_q sb_e x2 x4 1 pg_n pg_f Q
def wp_Sc_putDigits_J820 (am_f : Nat → Int32) (sy_l : Int32) (sy_f : Nat → Int32) (sb_h : Int32) (sb_z : Int32) (sb_c : Int32) (sb_b : Int32) (sb_t : Int32) (sb_q : Int32) (sb_e : Int32) (x2 : Int32) (x3 : Int32) (x4 : Int32) (pg_n : Int32) (pg_f : Nat → Int32) (Q : (Int32 × (Nat → Int32)) → Prop) : Prop := wp_Sc_putWhole pg_n pg_f am_f sy_l sy_f sb_c sb_b sb_t x2 x3 (fun u10 => (x4 ≤ 0 → (wp_Sc_putDigits_J990 am_f sy_l sy_f sb_h sb_z sb_c sb_b sb_t sb_q sb_e x2 x4 u10.1 u10.2 Q)) ∧ (¬ x4 ≤ 0 → (wp_Sc_putSymbol u10.1 u10.2 sy_f 0 (fun u12 => wp_Sc_putDigits_J990 am_f sy_l sy_f sb_h sb_z sb_c sb_b sb_t sb_q sb_e x2 x4 u12.1 u12.2 Q))))
def wp_Sc_putDigits_J710 (am_f : Nat → Int32) (sy_l : Int32) (sy_f : Nat → Int32) (sb_h : Int32) (sb_z : Int32) (sb_c : Int32) (sb_b : Int32) (sb_t : Int32) (sb_q : Int32) (sb_e : Int32) (x2 : Int32) (x3 : Int32) (x4 : Int32) (pg_n : Int32) (pg_f : Nat → Int32) (Q : (Int32 × (Nat → Int32)) → Prop) : Prop := (¬ x3 = 0 → (wp_Sc_putDigits_J820 am_f sy_l sy_f sb_h sb_z sb_c sb_b sb_t sb_q sb_e x2 x3 x4 pg_n pg_f Q)) ∧ (x3 = 0 → ((¬ x4 = 0 → (wp_Sc_putDigits_J820 am_f sy_l sy_f sb_h sb_z sb_c sb_b sb_t sb_q sb_e x2 x3 x4 pg_n pg_f Q)) ∧ (x4 = 0 → (wp_Sc_putDigits_J820 am_f sy_l sy_f sb_h sb_z sb_c sb_b sb_t sb_q sb_e x2 1 x4 pg_n pg_f Q))))
def wp_Sc_putDigits_J220 (am_f : Nat → Int32) (sy_l : Int32) (sy_f : Nat → Int32) (sb_h : Int32) (sb_z : Int32) (sb_c : Int32) (sb_b : Int32) (sb_t : Int32) (sb_q : Int32) (sb_e : Int32) (x2 : Int32) (y0 : Int32) (pg_n : Int32) (pg_f : Nat → Int32) (Q : (Int32 × (Nat → Int32)) → Prop) : Prop := wp_Am_isZero am_f (fun r3 u4 => (r3 = true → (wp_Sc_putDigits_J710 am_f sy_l sy_f sb_h sb_z sb_c sb_b sb_t sb_q sb_e x2 y0 sb_q pg_n pg_f Q)) ∧ (r3 = false → (wp_Am_firstPower am_f (fun r5 u6 => wp_Am_lastPower am_f (fun r7 u8 => wp_Sc_putDigits_J710 am_f sy_l sy_f sb_h sb_z sb_c sb_b sb_t sb_q sb_e x2 (if y0 < ((r5 - x2) + 1) then ((r5 - x2) + 1) else y0) (if sb_q < (x2 - r7) then (x2 - r7) else sb_q) pg_n pg_f Q)))))
def wp_Sc_putDigits_J180 (am_f : Nat → Int32) (sy_l : Int32) (sy_f : Nat → Int32) (sb_h : Int32) (sb_z : Int32) (sb_c : Int32) (sb_b : Int32) (sb_t : Int32) (sb_q : Int32) (sb_e : Int32) (x2 : Int32) (pg_n : Int32) (pg_f : Nat → Int32) (Q : (Int32 × (Nat → Int32)) → Prop) : Prop := wp_Sc_putDigits_J220 am_f sy_l sy_f sb_h sb_z sb_c sb_b sb_t sb_q sb_e x2 sb_z pg_n pg_f Q
def wp_Sc_putDigits (pg_n : Int32) (pg_f : Nat → Int32) (am_f : Nat → Int32) (sy_l : Int32) (sy_f : Nat → Int32) (sb_h : Int32) (sb_z : Int32) (sb_c : Int32) (sb_b : Int32) (sb_t : Int32) (sb_q : Int32) (sb_e : Int32) (ex : Int32) (Q : (Int32 × (Nat → Int32)) → Prop) : Prop := wp_Sub_hasExponent sb_e (fun r1 u2 => (r1 = false → (wp_Sc_putDigits_J180 am_f sy_l sy_f sb_h sb_z sb_c sb_b sb_t sb_q sb_e ex pg_n pg_f Q)) ∧ (r1 = true → ((sb_h ≤ 0 → (wp_Sc_putDigits_J180 am_f sy_l sy_f sb_h sb_z sb_c sb_b sb_t sb_q sb_e ex pg_n pg_f Q)) ∧ (¬ sb_h ≤ 0 → (wp_Sc_putDigits_J220 am_f sy_l sy_f sb_h sb_z sb_c sb_b sb_t sb_q sb_e ex 1 pg_n pg_f Q)))))
set_option maxHeartbeats 4000000 in
set_option maxRecDepth 100000 in
theorem c_Sc_putDigits (l : Launch) (D : va_G) (cA : ClassId) (sc pg pg_a am am_a sy sy_a sb sb_p sb_s : Nat) (pg_n : Int32) (pg_f : Nat → Int32) (am_f : Nat → Int32) (sy_l : Int32) (sy_f : Nat → Int32) (sb_pm : Bool) (sb_h : Int32) (sb_z : Int32) (sb_c : Int32) (sb_b : Int32) (sb_t : Int32) (sb_f : Int32) (sb_q : Int32) (sb_e : Int32) (sb_x : Bool) (ex : Int32) (Q : (Int32 × (Nat → Int32)) → Prop) (hw : wp_Sc_putDigits pg_n pg_f am_f sy_l sy_f sb_h sb_z sb_c sb_b sb_t sb_q sb_e ex Q) : ct_M vwCl l D [(cA, .int)] y_Sc_putDigits w_Sc_putDigits { frames := 3, cells := 0, slots := 0, locals := 67 } [.ref sc, .ref sb, .int ex] (wd_ScD cA sc pg pg_a am am_a sy sy_a sb sb_p sb_s pg_n pg_f am_f sy_l sy_f sb_pm sb_h sb_z sb_c sb_b sb_t sb_f sb_q sb_e sb_x) (ct_qv vwCl D [(cA, .int)] Q (fun u => wd_ScD cA sc pg pg_a am am_a sy sy_a sb sb_p sb_s u.1 u.2 am_f sy_l sy_f sb_pm sb_h sb_z sb_c sb_b sb_t sb_f sb_q sb_e sb_x)) := by
  refine ct_enter (cc := b_Sc_putDigits) (maxL := 6) (ret := none) (by decide) rfl (Nat.le_of_ble_eq_true rfl) ?_
  intro p e s m args below meth c A ls hx hb hr hlk hml hts hown hA hS hP hK hN hD hl
  have hl : lv_has ls 6 [(0, .ref sc), (1, .ref sb), (2, .int ex)] := hl
  have htb : ∀ w ∈ tbl, w.before args s = true := fun w h => hts w (List.mem_cons_of_mem _ h)
  have hown : s.vm.findClass "DecimalPatterns$Scribe" = some m.cls := hown
  unfold wp_Sc_putDigits at hw
  have hL1020 : ∀ (n1020 : Nat) (x2 : Int32) (x4 : Int32) (x5 : Int32) (pg_n : Int32) (pg_f : Nat → Int32) (H : Heap) (locs : List Loc) (ls : Array Slot), lv_has ls 6 [(0, .ref sc), (2, .int x2), (4, .int x4), (5, .int x5)] → va_P D vwCl (wd_ScD cA sc pg pg_a am am_a sy sy_a sb sb_p sb_s pg_n pg_f am_f sy_l sy_f sb_pm sb_h sb_z sb_c sb_b sb_t sb_f sb_q sb_e sb_x) H → va_D A (wd_ScD cA sc pg pg_a am am_a sy sy_a sb sb_p sb_s pg_n pg_f am_f sy_l sy_f sb_pm sb_h sb_z sb_c sb_b sb_t sb_f sb_q sb_e sb_x) → va_S A s.heap H locs → wp_Sc_putDigits_L1020 n1020 am_f sy_l sy_f sb_h sb_z sb_c sb_b sb_t sb_q sb_e x2 x4 x5 pg_n pg_f Q → W p l e { frames := 3, cells := 0, slots := 0, locals := 67 } s m args below meth c H locs 0 0 (MQ below (ct_qv vwCl D [(cA, .int)] Q (fun u => wd_ScD cA sc pg pg_a am am_a sy sy_a sb sb_p sb_s u.1 u.2 am_f sy_l sy_f sb_pm sb_h sb_z sb_c sb_b sb_t sb_f sb_q sb_e sb_x) A) args s 0 0 A) (F0 m 102 ls []) := by
    intro n1020
    induction n1020 with
    | zero => intro x2 x4 x5 pg_n pg_f H locs ls hl hP hD hS hw; exact hw.elim
    | succ n1020 ih1020 =>
      intro x2 x4 x5 pg_n pg_f H locs ls hl hP hD hS hw
      unfold wp_Sc_putDigits_L1020 at hw
      refine lv_iload hx hb d_Sc_putDigits_102 (lv_at hl 3 rfl) ?_
      refine lv_iload hx hb d_Sc_putDigits_104 (lv_at hl 2 rfl) ?_
      refine lv_icmp_gt (tgt := 130) hx hb d_Sc_putDigits_106 rfl (fun hc => ?_) (fun hc => ?_)
      · have hw := hw.1 hc
        exact ct_vret hx hb hr hlk hK hS (pg_n, pg_f) hw hP hD d_Sc_putDigits_130
      · have hw := hw.2 hc
        refine lv_aload_n hx hb d_Sc_putDigits_109 rfl (lv_at hl 0 rfl) ?_
        refine lv_aload_n hx hb d_Sc_putDigits_110 rfl (lv_at hl 0 rfl) ?_
        refine va_get (ci := 5) (C := R_Sc) (T := F_Sc) (N := 3) hx hb htb in_Sc hown hK hP 0 rfl rfl 1 (by decide) (htb _ tw148) (fun _ h9 => h9) rfl d_Sc_putDigits_111 ?_
        refine lv_iload_n hx hb d_Sc_putDigits_114 rfl (lv_at hl 1 rfl) ?_
        refine lv_iload hx hb d_Sc_putDigits_115 (lv_at hl 3 rfl) ?_
        refine lv_isub hx hb d_Sc_putDigits_117 ?_
        refine ct_calli (wn := fun _ => wd_ScD cA sc pg pg_a am am_a sy sy_a sb sb_p sb_s pg_n pg_f am_f sy_l sy_f sb_pm sb_h sb_z sb_c sb_b sb_t sb_f sb_q sb_e sb_x) (va_runV (As := [.int (x2 - x5)]) (rest := [.ref sc]) ⟨hx, hb, hml, hown, htb⟩ (c_Am_digit l D cA am am_a am_f (x2 - x5) _ hw _) (ct_cwV 1 htb tw510 rfl rfl tw77 tw578 tw508 tw509 hd_Am_digit ⟨by decide, by decide⟩) (ct_preV hP hD hK hN [3, 4] rfl (by decide) 3 rfl rfl _) rfl rfl hl.1 rfl (lv_room (Nat.le_of_ble_eq_true rfl)) d_Sc_putDigits_118 ⟨Nat.zero_le _, Nat.zero_le _⟩) hP hD hS hA [3, 4] [0, 1, 2, 5, 6, 7] [0, 1, 2, 6, 7, 3, 4, 5] rfl rfl (by decide) (by decide) (fun _ => rfl) (by decide) (fun r13 u14 H locs hw hP hD hS => ?_)
        have hP : va_P D vwCl (wd_ScD cA sc pg pg_a am am_a sy sy_a sb sb_p sb_s pg_n pg_f am_f sy_l sy_f sb_pm sb_h sb_z sb_c sb_b sb_t sb_f sb_q sb_e sb_x) H := hP
        have hD : va_D A (wd_ScD cA sc pg pg_a am am_a sy sy_a sb sb_p sb_s pg_n pg_f am_f sy_l sy_f sb_pm sb_h sb_z sb_c sb_b sb_t sb_f sb_q sb_e sb_x) := hD
        refine ct_callv (wn := fun u16 => wd_ScD cA sc pg pg_a am am_a sy sy_a sb sb_p sb_s u16.1 u16.2 am_f sy_l sy_f sb_pm sb_h sb_z sb_c sb_b sb_t sb_f sb_q sb_e sb_x) (va_runV (As := [.int r13]) (rest := []) ⟨hx, hb, hml, hown, htb⟩ (c_Sc_putDigit l D cA sc pg pg_a sy sy_a am pg_n pg_f sy_l sy_f r13 _ hw _) (ct_cwV 1 htb tw582 rfl rfl tw76 tw579 tw581 tw30 hd_Sc_putDigit ⟨by decide, by decide⟩) (ct_preV hP hD hK hN [0, 1, 2, 5, 6] rfl (by decide) 0 rfl rfl _) rfl rfl hl.1 rfl (lv_room (Nat.le_of_ble_eq_true rfl)) d_Sc_putDigits_121 ⟨Nat.zero_le _, Nat.zero_le _⟩) hP hD hS hA [0, 1, 2, 5, 6] [3, 4, 7] [3, 4, 5, 0, 1, 6, 7, 2] rfl rfl (by decide) (by decide) (fun _ => rfl) (by decide) (fun u16 H locs hw hP hD hS => ?_)
        have hP : va_P D vwCl (wd_ScD cA sc pg pg_a am am_a sy sy_a sb sb_p sb_s u16.1 u16.2 am_f sy_l sy_f sb_pm sb_h sb_z sb_c sb_b sb_t sb_f sb_q sb_e sb_x) H := hP
        have hD : va_D A (wd_ScD cA sc pg pg_a am am_a sy sy_a sb sb_p sb_s u16.1 u16.2 am_f sy_l sy_f sb_pm sb_h sb_z sb_c sb_b sb_t sb_f sb_q sb_e sb_x) := hD
        refine lv_iinc (k := 3) (v := x5 + 1) (lv' := [(5, .int (x5 + 1)), (0, .ref sc), (2, .int x2), (4, .int x4)]) hx hb d_Sc_putDigits_124 hl rfl (by rfl) (by decide) rfl (fun ls hl => ?_)
        refine lv_goto (tgt := 102) hx hb d_Sc_putDigits_127 rfl ?_
        exact ih1020 x2 x4 (x5 + 1) u16.1 u16.2 _ _ _ (lv_sub hl [1, 2, 3, 0] rfl) hP hD hS hw
  have hJ990 : ∀ (x2 : Int32) (x4 : Int32) (pg_n : Int32) (pg_f : Nat → Int32) (H : Heap) (locs : List Loc) (ls : Array Slot), lv_has ls 6 [(0, .ref sc), (2, .int x2), (4, .int x4)] → va_P D vwCl (wd_ScD cA sc pg pg_a am am_a sy sy_a sb sb_p sb_s pg_n pg_f am_f sy_l sy_f sb_pm sb_h sb_z sb_c sb_b sb_t sb_f sb_q sb_e sb_x) H → va_D A (wd_ScD cA sc pg pg_a am am_a sy sy_a sb sb_p sb_s pg_n pg_f am_f sy_l sy_f sb_pm sb_h sb_z sb_c sb_b sb_t sb_f sb_q sb_e sb_x) → va_S A s.heap H locs → wp_Sc_putDigits_J990 am_f sy_l sy_f sb_h sb_z sb_c sb_b sb_t sb_q sb_e x2 x4 pg_n pg_f Q → W p l e { frames := 3, cells := 0, slots := 0, locals := 67 } s m args below meth c H locs 0 0 (MQ below (ct_qv vwCl D [(cA, .int)] Q (fun u => wd_ScD cA sc pg pg_a am am_a sy sy_a sb sb_p sb_s u.1 u.2 am_f sy_l sy_f sb_pm sb_h sb_z sb_c sb_b sb_t sb_f sb_q sb_e sb_x) A) args s 0 0 A) (F0 m 99 ls []) := by
    intro x2 x4 pg_n pg_f H locs ls hl hP hD hS hw
    unfold wp_Sc_putDigits_J990 at hw
    refine lv_iconst (v := 1) hx hb d_Sc_putDigits_99 (by decide) ?_
    refine lv_istore (lv' := [(5, .int 1), (0, .ref sc), (2, .int x2), (4, .int x4)]) hx hb d_Sc_putDigits_100 hl (by decide) rfl (fun ls hl => ?_)
    obtain ⟨n1020, hw⟩ := hw
    exact hL1020 n1020 x2 x4 1 pg_n pg_f _ _ _ (lv_sub hl [1, 2, 3, 0] rfl) hP hD hS hw
  have hJ820 : ∀ (x2 : Int32) (x3 : Int32) (x4 : Int32) (pg_n : Int32) (pg_f : Nat → Int32) (H : Heap) (locs : List Loc) (ls : Array Slot), lv_has ls 6 [(0, .ref sc), (1, .ref sb), (2, .int x2), (3, .int x3), (4, .int x4)] → va_P D vwCl (wd_ScD cA sc pg pg_a am am_a sy sy_a sb sb_p sb_s pg_n pg_f am_f sy_l sy_f sb_pm sb_h sb_z sb_c sb_b sb_t sb_f sb_q sb_e sb_x) H → va_D A (wd_ScD cA sc pg pg_a am am_a sy sy_a sb sb_p sb_s pg_n pg_f am_f sy_l sy_f sb_pm sb_h sb_z sb_c sb_b sb_t sb_f sb_q sb_e sb_x) → va_S A s.heap H locs → wp_Sc_putDigits_J820 am_f sy_l sy_f sb_h sb_z sb_c sb_b sb_t sb_q sb_e x2 x3 x4 pg_n pg_f Q → W p l e { frames := 3, cells := 0, slots := 0, locals := 67 } s m args below meth c H locs 0 0 (MQ below (ct_qv vwCl D [(cA, .int)] Q (fun u => wd_ScD cA sc pg pg_a am am_a sy sy_a sb sb_p sb_s u.1 u.2 am_f sy_l sy_f sb_pm sb_h sb_z sb_c sb_b sb_t sb_f sb_q sb_e sb_x) A) args s 0 0 A) (F0 m 82 ls []) := by
    intro x2 x3 x4 pg_n pg_f H locs ls hl hP hD hS hw
    unfold wp_Sc_putDigits_J820 at hw
    refine lv_aload_n hx hb d_Sc_putDigits_82 rfl (lv_at hl 0 rfl) ?_
    refine lv_aload_n hx hb d_Sc_putDigits_83 rfl (lv_at hl 1 rfl) ?_
    refine lv_iload_n hx hb d_Sc_putDigits_84 rfl (lv_at hl 2 rfl) ?_
    refine lv_iload_n hx hb d_Sc_putDigits_85 rfl (lv_at hl 3 rfl) ?_
    refine ct_callv (wn := fun u10 => wd_ScD cA sc pg pg_a am am_a sy sy_a sb sb_p sb_s u10.1 u10.2 am_f sy_l sy_f sb_pm sb_h sb_z sb_c sb_b sb_t sb_f sb_q sb_e sb_x) (va_runV (As := [.ref sb, .int x2, .int x3]) (rest := []) ⟨hx, hb, hml, hown, htb⟩ (c_Sc_putWhole l D cA sc pg pg_a am am_a sy sy_a sb sb_p sb_s pg_n pg_f am_f sy_l sy_f sb_pm sb_h sb_z sb_c sb_b sb_t sb_f sb_q sb_e sb_x x2 x3 _ hw _) (ct_cwV 3 htb tw577 rfl rfl tw76 tw574 tw576 tw29 hd_Sc_putWhole ⟨by decide, by decide⟩) (ct_preV hP hD hK hN [0, 1, 2, 3, 4, 5, 6, 7] rfl (by decide) 0 rfl rfl _) rfl rfl hl.1 rfl (lv_room (Nat.le_of_ble_eq_true rfl)) d_Sc_putDigits_86 ⟨Nat.zero_le _, Nat.zero_le _⟩) hP hD hS hA [0, 1, 2, 3, 4, 5, 6, 7] [] [0, 1, 2, 3, 4, 5, 6, 7] rfl rfl (by decide) (by decide) (fun _ => rfl) (by decide) (fun u10 H locs hw hP hD hS => ?_)
    have hP : va_P D vwCl (wd_ScD cA sc pg pg_a am am_a sy sy_a sb sb_p sb_s u10.1 u10.2 am_f sy_l sy_f sb_pm sb_h sb_z sb_c sb_b sb_t sb_f sb_q sb_e sb_x) H := hP
    have hD : va_D A (wd_ScD cA sc pg pg_a am am_a sy sy_a sb sb_p sb_s u10.1 u10.2 am_f sy_l sy_f sb_pm sb_h sb_z sb_c sb_b sb_t sb_f sb_q sb_e sb_x) := hD
    refine lv_iload hx hb d_Sc_putDigits_89 (lv_at hl 4 rfl) ?_
    refine lv_if_le (tgt := 99) hx hb d_Sc_putDigits_91 rfl (fun hc => ?_) (fun hc => ?_)
    · have hw := hw.1 hc
      exact hJ990 x2 x4 u10.1 u10.2 _ _ _ (lv_sub hl [0, 2, 4] rfl) hP hD hS hw
    · have hw := hw.2 hc
      refine lv_aload_n hx hb d_Sc_putDigits_94 rfl (lv_at hl 0 rfl) ?_
      refine lv_iconst (v := 0) hx hb d_Sc_putDigits_95 (by decide) ?_
      refine ct_callv (wn := fun u12 => wd_ScD cA sc pg pg_a am am_a sy sy_a sb sb_p sb_s u12.1 u12.2 am_f sy_l sy_f sb_pm sb_h sb_z sb_c sb_b sb_t sb_f sb_q sb_e sb_x) (va_runV (As := [.int 0]) (rest := []) ⟨hx, hb, hml, hown, htb⟩ (c_Sc_putSymbol l D cA sc pg pg_a sy sy_a am u10.1 u10.2 sy_l sy_f 0 _ hw _) (ct_cwV 1 htb tw543 rfl rfl tw76 tw540 tw542 tw25 hd_Sc_putSymbol ⟨by decide, by decide⟩) (ct_preV hP hD hK hN [0, 1, 2, 5, 6] rfl (by decide) 0 rfl rfl _) rfl rfl hl.1 rfl (lv_room (Nat.le_of_ble_eq_true rfl)) d_Sc_putDigits_96 ⟨Nat.zero_le _, Nat.zero_le _⟩) hP hD hS hA [0, 1, 2, 5, 6] [3, 4, 7] [3, 4, 5, 0, 1, 6, 7, 2] rfl rfl (by decide) (by decide) (fun _ => rfl) (by decide) (fun u12 H locs hw hP hD hS => ?_)
      have hP : va_P D vwCl (wd_ScD cA sc pg pg_a am am_a sy sy_a sb sb_p sb_s u12.1 u12.2 am_f sy_l sy_f sb_pm sb_h sb_z sb_c sb_b sb_t sb_f sb_q sb_e sb_x) H := hP
      have hD : va_D A (wd_ScD cA sc pg pg_a am am_a sy sy_a sb sb_p sb_s u12.1 u12.2 am_f sy_l sy_f sb_pm sb_h sb_z sb_c sb_b sb_t sb_f sb_q sb_e sb_x) := hD
      exact hJ990 x2 x4 u12.1 u12.2 _ _ _ (lv_sub hl [0, 2, 4] rfl) hP hD hS hw
  have hJ710 : ∀ (x2 : Int32) (x3 : Int32) (x4 : Int32) (pg_n : Int32) (pg_f : Nat → Int32) (H : Heap) (locs : List Loc) (ls : Array Slot), lv_has ls 6 [(0, .ref sc), (1, .ref sb), (2, .int x2), (3, .int x3), (4, .int x4)] → va_P D vwCl (wd_ScD cA sc pg pg_a am am_a sy sy_a sb sb_p sb_s pg_n pg_f am_f sy_l sy_f sb_pm sb_h sb_z sb_c sb_b sb_t sb_f sb_q sb_e sb_x) H → va_D A (wd_ScD cA sc pg pg_a am am_a sy sy_a sb sb_p sb_s pg_n pg_f am_f sy_l sy_f sb_pm sb_h sb_z sb_c sb_b sb_t sb_f sb_q sb_e sb_x) → va_S A s.heap H locs → wp_Sc_putDigits_J710 am_f sy_l sy_f sb_h sb_z sb_c sb_b sb_t sb_q sb_e x2 x3 x4 pg_n pg_f Q → W p l e { frames := 3, cells := 0, slots := 0, locals := 67 } s m args below meth c H locs 0 0 (MQ below (ct_qv vwCl D [(cA, .int)] Q (fun u => wd_ScD cA sc pg pg_a am am_a sy sy_a sb sb_p sb_s u.1 u.2 am_f sy_l sy_f sb_pm sb_h sb_z sb_c sb_b sb_t sb_f sb_q sb_e sb_x) A) args s 0 0 A) (F0 m 71 ls []) := by
    intro x2 x3 x4 pg_n pg_f H locs ls hl hP hD hS hw
    unfold wp_Sc_putDigits_J710 at hw
    refine lv_iload_n hx hb d_Sc_putDigits_71 rfl (lv_at hl 3 rfl) ?_
    refine lv_if_ne (tgt := 82) hx hb d_Sc_putDigits_72 rfl (fun hc => ?_) (fun hc => ?_)
    · have hw := hw.1 hc
      exact hJ820 x2 x3 x4 pg_n pg_f _ _ _ (lv_sub hl [0, 1, 2, 3, 4] rfl) hP hD hS hw
    · have hw := hw.2 hc
      refine lv_iload hx hb d_Sc_putDigits_75 (lv_at hl 4 rfl) ?_
      refine lv_if_ne (tgt := 82) hx hb d_Sc_putDigits_77 rfl (fun hc => ?_) (fun hc => ?_)
      · have hw := hw.1 hc
        exact hJ820 x2 x3 x4 pg_n pg_f _ _ _ (lv_sub hl [0, 1, 2, 3, 4] rfl) hP hD hS hw
      · have hw := hw.2 hc
        refine lv_iconst (v := 1) hx hb d_Sc_putDigits_80 (by decide) ?_
        refine lv_istore_n (lv' := [(3, .int 1), (0, .ref sc), (1, .ref sb), (2, .int x2), (4, .int x4)]) hx hb d_Sc_putDigits_81 rfl hl (by decide) rfl (fun ls hl => ?_)
        exact hJ820 x2 1 x4 pg_n pg_f _ _ _ (lv_sub hl [1, 2, 3, 0, 4] rfl) hP hD hS hw
  have hJ220 : ∀ (x2 : Int32) (y0 : Int32) (pg_n : Int32) (pg_f : Nat → Int32) (H : Heap) (locs : List Loc) (ls : Array Slot), lv_has ls 6 [(0, .ref sc), (1, .ref sb), (2, .int x2)] → va_P D vwCl (wd_ScD cA sc pg pg_a am am_a sy sy_a sb sb_p sb_s pg_n pg_f am_f sy_l sy_f sb_pm sb_h sb_z sb_c sb_b sb_t sb_f sb_q sb_e sb_x) H → va_D A (wd_ScD cA sc pg pg_a am am_a sy sy_a sb sb_p sb_s pg_n pg_f am_f sy_l sy_f sb_pm sb_h sb_z sb_c sb_b sb_t sb_f sb_q sb_e sb_x) → va_S A s.heap H locs → wp_Sc_putDigits_J220 am_f sy_l sy_f sb_h sb_z sb_c sb_b sb_t sb_q sb_e x2 y0 pg_n pg_f Q → W p l e { frames := 3, cells := 0, slots := 0, locals := 67 } s m args below meth c H locs 0 0 (MQ below (ct_qv vwCl D [(cA, .int)] Q (fun u => wd_ScD cA sc pg pg_a am am_a sy sy_a sb sb_p sb_s u.1 u.2 am_f sy_l sy_f sb_pm sb_h sb_z sb_c sb_b sb_t sb_f sb_q sb_e sb_x) A) args s 0 0 A) (F0 m 22 ls [.int y0]) := by
    intro x2 y0 pg_n pg_f H locs ls hl hP hD hS hw
    unfold wp_Sc_putDigits_J220 at hw
    refine lv_istore_n (lv' := [(3, .int y0), (0, .ref sc), (1, .ref sb), (2, .int x2)]) hx hb d_Sc_putDigits_22 rfl hl (by decide) rfl (fun ls hl => ?_)
    refine lv_aload_n hx hb d_Sc_putDigits_23 rfl (lv_at hl 2 rfl) ?_
    refine va_get (ci := 6) (C := R_Sb) (T := F_Sb) (N := 12) hx hb htb in_Sb hown hK hP 7 rfl rfl 9 (by decide) (htb _ tw234) (fun _ h9 => h9) rfl d_Sc_putDigits_24 ?_
    refine lv_istore (lv' := [(4, .int sb_q), (3, .int y0), (0, .ref sc), (1, .ref sb), (2, .int x2)]) hx hb d_Sc_putDigits_27 hl (by decide) rfl (fun ls hl => ?_)
    refine lv_aload_n hx hb d_Sc_putDigits_29 rfl (lv_at hl 2 rfl) ?_
    refine va_get (ci := 5) (C := R_Sc) (T := F_Sc) (N := 3) hx hb htb in_Sc hown hK hP 0 rfl rfl 1 (by decide) (htb _ tw148) (fun _ h9 => h9) rfl d_Sc_putDigits_30 ?_
    refine ct_callz (wn := fun _ => wd_ScD cA sc pg pg_a am am_a sy sy_a sb sb_p sb_s pg_n pg_f am_f sy_l sy_f sb_pm sb_h sb_z sb_c sb_b sb_t sb_f sb_q sb_e sb_x) (va_runV (As := []) (rest := []) ⟨hx, hb, hml, hown, htb⟩ (c_Am_isZero l D cA am am_a am_f _ hw _) (ct_cwV 0 htb tw561 rfl rfl tw77 tw558 tw559 tw560 hd_Am_isZero ⟨by decide, by decide⟩) (ct_preV hP hD hK hN [3, 4] rfl (by decide) 3 rfl rfl _) rfl rfl hl.1 rfl (lv_room (Nat.le_of_ble_eq_true rfl)) d_Sc_putDigits_33 ⟨Nat.zero_le _, Nat.zero_le _⟩) hP hD hS hA [3, 4] [0, 1, 2, 5, 6, 7] [0, 1, 2, 6, 7, 3, 4, 5] rfl rfl (by decide) (by decide) (fun _ => rfl) (by decide) (fun r3 u4 H locs hw hP hD hS => ?_)
    have hP : va_P D vwCl (wd_ScD cA sc pg pg_a am am_a sy sy_a sb sb_p sb_s pg_n pg_f am_f sy_l sy_f sb_pm sb_h sb_z sb_c sb_b sb_t sb_f sb_q sb_e sb_x) H := hP
    have hD : va_D A (wd_ScD cA sc pg pg_a am am_a sy sy_a sb sb_p sb_s pg_n pg_f am_f sy_l sy_f sb_pm sb_h sb_z sb_c sb_b sb_t sb_f sb_q sb_e sb_x) := hD
    refine lv_if_ne (tgt := 71) hx hb d_Sc_putDigits_36 rfl (fun hc => ?_) (fun hc => ?_)
    · have hw := hw.1 ((bI_n0 _).mp hc)
      exact hJ710 x2 y0 sb_q pg_n pg_f _ _ _ (lv_sub hl [2, 3, 4, 1, 0] rfl) hP hD hS hw
    · have hw := hw.2 ((bI_0 _).mp hc)
      refine lv_iload_n hx hb d_Sc_putDigits_39 rfl (lv_at hl 1 rfl) ?_
      refine lv_aload_n hx hb d_Sc_putDigits_40 rfl (lv_at hl 2 rfl) ?_
      refine va_get (ci := 5) (C := R_Sc) (T := F_Sc) (N := 3) hx hb htb in_Sc hown hK hP 0 rfl rfl 1 (by decide) (htb _ tw148) (fun _ h9 => h9) rfl d_Sc_putDigits_41 ?_
      refine ct_calli (wn := fun _ => wd_ScD cA sc pg pg_a am am_a sy sy_a sb sb_p sb_s pg_n pg_f am_f sy_l sy_f sb_pm sb_h sb_z sb_c sb_b sb_t sb_f sb_q sb_e sb_x) (va_runV (As := []) (rest := [.int y0]) ⟨hx, hb, hml, hown, htb⟩ (c_Am_firstPower l D cA am am_a am_f _ hw _) (ct_cwV 0 htb tw506 rfl rfl tw77 tw503 tw504 tw505 hd_Am_firstPower ⟨by decide, by decide⟩) (ct_preV hP hD hK hN [3, 4] rfl (by decide) 3 rfl rfl _) rfl rfl hl.1 rfl (lv_room (Nat.le_of_ble_eq_true rfl)) d_Sc_putDigits_44 ⟨Nat.zero_le _, Nat.zero_le _⟩) hP hD hS hA [3, 4] [0, 1, 2, 5, 6, 7] [0, 1, 2, 6, 7, 3, 4, 5] rfl rfl (by decide) (by decide) (fun _ => rfl) (by decide) (fun r5 u6 H locs hw hP hD hS => ?_)
      have hP : va_P D vwCl (wd_ScD cA sc pg pg_a am am_a sy sy_a sb sb_p sb_s pg_n pg_f am_f sy_l sy_f sb_pm sb_h sb_z sb_c sb_b sb_t sb_f sb_q sb_e sb_x) H := hP
      have hD : va_D A (wd_ScD cA sc pg pg_a am am_a sy sy_a sb sb_p sb_s pg_n pg_f am_f sy_l sy_f sb_pm sb_h sb_z sb_c sb_b sb_t sb_f sb_q sb_e sb_x) := hD
      refine lv_iload_n hx hb d_Sc_putDigits_47 rfl (lv_at hl 4 rfl) ?_
      refine lv_isub hx hb d_Sc_putDigits_48 ?_
      refine lv_iconst (v := 1) hx hb d_Sc_putDigits_49 (by decide) ?_
      refine lv_iadd hx hb d_Sc_putDigits_50 ?_
      refine va_mmax hx hb (hml.trans hl.1.symm) hown (htb _ tw569) (htb _ tw98) (htb _ tw74) (htb _ tw99) (Nat.le_of_ble_eq_true rfl) (Nat.le_of_ble_eq_true rfl) (Nat.zero_le _) (Nat.zero_le _) d_Sc_putDigits_51 ?_
      refine lv_istore_n (lv' := [(3, .int (if y0 < ((r5 - x2) + 1) then ((r5 - x2) + 1) else y0)), (4, .int sb_q), (0, .ref sc), (1, .ref sb), (2, .int x2)]) hx hb d_Sc_putDigits_54 rfl hl (by decide) rfl (fun ls hl => ?_)
      refine lv_iload hx hb d_Sc_putDigits_55 (lv_at hl 1 rfl) ?_
      refine lv_iload_n hx hb d_Sc_putDigits_57 rfl (lv_at hl 4 rfl) ?_
      refine lv_aload_n hx hb d_Sc_putDigits_58 rfl (lv_at hl 2 rfl) ?_
      refine va_get (ci := 5) (C := R_Sc) (T := F_Sc) (N := 3) hx hb htb in_Sc hown hK hP 0 rfl rfl 1 (by decide) (htb _ tw148) (fun _ h9 => h9) rfl d_Sc_putDigits_59 ?_
      refine ct_calli (wn := fun _ => wd_ScD cA sc pg pg_a am am_a sy sy_a sb sb_p sb_s pg_n pg_f am_f sy_l sy_f sb_pm sb_h sb_z sb_c sb_b sb_t sb_f sb_q sb_e sb_x) (va_runV (As := []) (rest := [.int x2, .int sb_q]) ⟨hx, hb, hml, hown, htb⟩ (c_Am_lastPower l D cA am am_a am_f _ hw _) (ct_cwV 0 htb tw573 rfl rfl tw77 tw570 tw571 tw572 hd_Am_lastPower ⟨by decide, by decide⟩) (ct_preV hP hD hK hN [3, 4] rfl (by decide) 3 rfl rfl _) rfl rfl hl.1 rfl (lv_room (Nat.le_of_ble_eq_true rfl)) d_Sc_putDigits_62 ⟨Nat.zero_le _, Nat.zero_le _⟩) hP hD hS hA [3, 4] [0, 1, 2, 5, 6, 7] [0, 1, 2, 6, 7, 3, 4, 5] rfl rfl (by decide) (by decide) (fun _ => rfl) (by decide) (fun r7 u8 H locs hw hP hD hS => ?_)
      have hP : va_P D vwCl (wd_ScD cA sc pg pg_a am am_a sy sy_a sb sb_p sb_s pg_n pg_f am_f sy_l sy_f sb_pm sb_h sb_z sb_c sb_b sb_t sb_f sb_q sb_e sb_x) H := hP
      have hD : va_D A (wd_ScD cA sc pg pg_a am am_a sy sy_a sb sb_p sb_s pg_n pg_f am_f sy_l sy_f sb_pm sb_h sb_z sb_c sb_b sb_t sb_f sb_q sb_e sb_x) := hD
      refine lv_isub hx hb d_Sc_putDigits_65 ?_
      refine va_mmax hx hb (hml.trans hl.1.symm) hown (htb _ tw569) (htb _ tw98) (htb _ tw74) (htb _ tw99) (Nat.le_of_ble_eq_true rfl) (Nat.le_of_ble_eq_true rfl) (Nat.zero_le _) (Nat.zero_le _) d_Sc_putDigits_66 ?_
      refine lv_istore (lv' := [(4, .int (if sb_q < (x2 - r7) then (x2 - r7) else sb_q)), (3, .int (if y0 < ((r5 - x2) + 1) then ((r5 - x2) + 1) else y0)), (0, .ref sc), (1, .ref sb), (2, .int x2)]) hx hb d_Sc_putDigits_69 hl (by decide) rfl (fun ls hl => ?_)
      exact hJ710 x2 (if y0 < ((r5 - x2) + 1) then ((r5 - x2) + 1) else y0) (if sb_q < (x2 - r7) then (x2 - r7) else sb_q) pg_n pg_f _ _ _ (lv_sub hl [2, 3, 4, 1, 0] rfl) hP hD hS hw
  have hJ180 : ∀ (x2 : Int32) (pg_n : Int32) (pg_f : Nat → Int32) (H : Heap) (locs : List Loc) (ls : Array Slot), lv_has ls 6 [(0, .ref sc), (1, .ref sb), (2, .int x2)] → va_P D vwCl (wd_ScD cA sc pg pg_a am am_a sy sy_a sb sb_p sb_s pg_n pg_f am_f sy_l sy_f sb_pm sb_h sb_z sb_c sb_b sb_t sb_f sb_q sb_e sb_x) H → va_D A (wd_ScD cA sc pg pg_a am am_a sy sy_a sb sb_p sb_s pg_n pg_f am_f sy_l sy_f sb_pm sb_h sb_z sb_c sb_b sb_t sb_f sb_q sb_e sb_x) → va_S A s.heap H locs → wp_Sc_putDigits_J180 am_f sy_l sy_f sb_h sb_z sb_c sb_b sb_t sb_q sb_e x2 pg_n pg_f Q → W p l e { frames := 3, cells := 0, slots := 0, locals := 67 } s m args below meth c H locs 0 0 (MQ below (ct_qv vwCl D [(cA, .int)] Q (fun u => wd_ScD cA sc pg pg_a am am_a sy sy_a sb sb_p sb_s u.1 u.2 am_f sy_l sy_f sb_pm sb_h sb_z sb_c sb_b sb_t sb_f sb_q sb_e sb_x) A) args s 0 0 A) (F0 m 18 ls []) := by
    intro x2 pg_n pg_f H locs ls hl hP hD hS hw
    unfold wp_Sc_putDigits_J180 at hw
    refine lv_aload_n hx hb d_Sc_putDigits_18 rfl (lv_at hl 1 rfl) ?_
    refine va_get (ci := 6) (C := R_Sb) (T := F_Sb) (N := 12) hx hb htb in_Sb hown hK hP 7 rfl rfl 4 (by decide) (htb _ tw221) (fun _ h9 => h9) rfl d_Sc_putDigits_19 ?_
    exact hJ220 x2 sb_z pg_n pg_f _ _ _ (lv_sub hl [0, 1, 2] rfl) hP hD hS hw
  refine lv_aload_n hx hb d_Sc_putDigits_0 rfl (lv_at hl 1 rfl) ?_
  refine ct_callz (wn := fun _ => wd_ScD cA sc pg pg_a am am_a sy sy_a sb sb_p sb_s pg_n pg_f am_f sy_l sy_f sb_pm sb_h sb_z sb_c sb_b sb_t sb_f sb_q sb_e sb_x) (va_runV (As := []) (rest := []) ⟨hx, hb, hml, hown, htb⟩ (c_Sub_hasExponent l D cA sb sb_p sb_s sb_pm sb_h sb_z sb_c sb_b sb_t sb_f sb_q sb_e sb_x _ hw _) (ct_cwV 0 htb tw502 rfl rfl tw80 tw499 tw500 tw501 hd_Sub_hasExponent ⟨by decide, by decide⟩) (ct_preV hP hD hK hN [7] rfl (by decide) 7 rfl rfl _) rfl rfl hl.1 rfl (lv_room (Nat.le_of_ble_eq_true rfl)) d_Sc_putDigits_1 ⟨Nat.zero_le _, Nat.zero_le _⟩) hP hD hS hA [7] [0, 1, 2, 3, 4, 5, 6] [0, 1, 2, 3, 4, 5, 6, 7] rfl rfl (by decide) (by decide) (fun _ => rfl) (by decide) (fun r1 u2 H locs hw hP hD hS => ?_)
  have hP : va_P D vwCl (wd_ScD cA sc pg pg_a am am_a sy sy_a sb sb_p sb_s pg_n pg_f am_f sy_l sy_f sb_pm sb_h sb_z sb_c sb_b sb_t sb_f sb_q sb_e sb_x) H := hP
  have hD : va_D A (wd_ScD cA sc pg pg_a am am_a sy sy_a sb sb_p sb_s pg_n pg_f am_f sy_l sy_f sb_pm sb_h sb_z sb_c sb_b sb_t sb_f sb_q sb_e sb_x) := hD
  refine lv_if_eq (tgt := 18) hx hb d_Sc_putDigits_4 rfl (fun hc => ?_) (fun hc => ?_)
  · have hw := hw.1 ((bI_0 _).mp hc)
    exact hJ180 ex pg_n pg_f _ _ _ (lv_sub hl [0, 1, 2] rfl) hP hD hS hw
  · have hw := hw.2 ((bI_n0 _).mp hc)
    refine lv_aload_n hx hb d_Sc_putDigits_7 rfl (lv_at hl 1 rfl) ?_
    refine va_get (ci := 6) (C := R_Sb) (T := F_Sb) (N := 12) hx hb htb in_Sb hown hK hP 7 rfl rfl 3 (by decide) (htb _ tw217) (fun _ h9 => h9) rfl d_Sc_putDigits_8 ?_
    refine lv_if_le (tgt := 18) hx hb d_Sc_putDigits_11 rfl (fun hc => ?_) (fun hc => ?_)
    · have hw := hw.1 hc
      exact hJ180 ex pg_n pg_f _ _ _ (lv_sub hl [0, 1, 2] rfl) hP hD hS hw
    · have hw := hw.2 hc
      refine lv_iconst (v := 1) hx hb d_Sc_putDigits_14 (by decide) ?_
      refine lv_goto (tgt := 22) hx hb d_Sc_putDigits_15 rfl ?_
      exact hJ220 ex 1 pg_n pg_f _ _ _ (lv_sub hl [0, 1, 2] rfl) hP hD hS hw
/-! DecimalPatterns$Scribe.putExponent(LDecimalPatterns$Sub;I)V -/
def wp_Sc_putExponent_L580 : Nat → (Nat → Int32) → Int32 → Bool → Int32 → Int32 → Int32 → (Nat → Int32) → ((Int32 × (Nat → Int32)) → Prop) → Prop
  | 0, _, _, _, _, _, _, _, _ => False
  | n580 + 1, sy_f, sb_e, sb_x, x3, x5, pg_n, pg_f, Q => (x5 < 0 → (Q (pg_n, pg_f))) ∧ (¬ x5 < 0 → (wp_Sc_digitAt x3 x5 (fun r9 u10 => wp_Sc_putDigit pg_n pg_f sy_f r9 (fun u12 => wp_Sc_putExponent_L580 n580 sy_f sb_e sb_x x3 (x5 + (-1)) u12.1 u12.2 Q))))
def wp_Sc_putExponent_J340 (sy_f : Nat → Int32) (sb_e : Int32) (sb_x : Bool) (x2 : Int32) (pg_n : Int32) (pg_f : Nat → Int32) (Q : (Int32 × (Nat → Int32)) → Prop) : Prop := wp_Sc_widthOf (if 0 ≤ x2 then x2 else 0 - x2) (fun r7 u8 => ∃ n580, wp_Sc_putExponent_L580 n580 sy_f sb_e sb_x (if 0 ≤ x2 then x2 else 0 - x2) ((if sb_e < r7 then r7 else sb_e) - 1) pg_n pg_f Q)
def wp_Sc_putExponent (pg_n : Int32) (pg_f : Nat → Int32) (sy_f : Nat → Int32) (sb_e : Int32) (sb_x : Bool) (ex : Int32) (Q : (Int32 × (Nat → Int32)) → Prop) : Prop := wp_Sc_putSymbol pg_n pg_f sy_f 4 (fun u2 => (0 ≤ ex → ((sb_x = false → (wp_Sc_putExponent_J340 sy_f sb_e sb_x ex u2.1 u2.2 Q)) ∧ (sb_x = true → (wp_Row_add 256 u2.1 u2.2 43 (fun r3 u4 => wp_Sc_putExponent_J340 sy_f sb_e sb_x ex u4.1 u4.2 Q))))) ∧ (¬ 0 ≤ ex → (wp_Sc_putSymbol u2.1 u2.2 sy_f 2 (fun u6 => wp_Sc_putExponent_J340 sy_f sb_e sb_x ex u6.1 u6.2 Q))))
set_option maxHeartbeats 4000000 in
set_option maxRecDepth 100000 in
theorem c_Sc_putExponent (l : Launch) (D : va_G) (cA : ClassId) (sc pg pg_a sy sy_a sb am sb_p sb_s : Nat) (pg_n : Int32) (pg_f : Nat → Int32) (sy_l : Int32) (sy_f : Nat → Int32) (sb_pm : Bool) (sb_h : Int32) (sb_z : Int32) (sb_c : Int32) (sb_b : Int32) (sb_t : Int32) (sb_f : Int32) (sb_q : Int32) (sb_e : Int32) (sb_x : Bool) (ex : Int32) (Q : (Int32 × (Nat → Int32)) → Prop) (hw : wp_Sc_putExponent pg_n pg_f sy_f sb_e sb_x ex Q) : ct_M vwCl l D [(cA, .int)] y_Sc_putExponent w_Sc_putExponent { frames := 2, cells := 0, slots := 0, locals := 42 } [.ref sc, .ref sb, .int ex] (wd_ScE cA sc pg pg_a sy sy_a sb am sb_p sb_s pg_n pg_f sy_l sy_f sb_pm sb_h sb_z sb_c sb_b sb_t sb_f sb_q sb_e sb_x) (ct_qv vwCl D [(cA, .int)] Q (fun u => wd_ScE cA sc pg pg_a sy sy_a sb am sb_p sb_s u.1 u.2 sy_l sy_f sb_pm sb_h sb_z sb_c sb_b sb_t sb_f sb_q sb_e sb_x)) := by
  refine ct_enter (cc := b_Sc_putExponent) (maxL := 6) (ret := none) (by decide) rfl (Nat.le_of_ble_eq_true rfl) ?_
  intro p e s m args below meth c A ls hx hb hr hlk hml hts hown hA hS hP hK hN hD hl
  have hl : lv_has ls 6 [(0, .ref sc), (1, .ref sb), (2, .int ex)] := hl
  have htb : ∀ w ∈ tbl, w.before args s = true := fun w h => hts w (List.mem_cons_of_mem _ h)
  have hown : s.vm.findClass "DecimalPatterns$Scribe" = some m.cls := hown
  unfold wp_Sc_putExponent at hw
  have hL580 : ∀ (n580 : Nat) (x3 : Int32) (x5 : Int32) (pg_n : Int32) (pg_f : Nat → Int32) (H : Heap) (locs : List Loc) (ls : Array Slot), lv_has ls 6 [(0, .ref sc), (3, .int x3), (5, .int x5)] → va_P D vwCl (wd_ScE cA sc pg pg_a sy sy_a sb am sb_p sb_s pg_n pg_f sy_l sy_f sb_pm sb_h sb_z sb_c sb_b sb_t sb_f sb_q sb_e sb_x) H → va_D A (wd_ScE cA sc pg pg_a sy sy_a sb am sb_p sb_s pg_n pg_f sy_l sy_f sb_pm sb_h sb_z sb_c sb_b sb_t sb_f sb_q sb_e sb_x) → va_S A s.heap H locs → wp_Sc_putExponent_L580 n580 sy_f sb_e sb_x x3 x5 pg_n pg_f Q → W p l e { frames := 2, cells := 0, slots := 0, locals := 42 } s m args below meth c H locs 0 0 (MQ below (ct_qv vwCl D [(cA, .int)] Q (fun u => wd_ScE cA sc pg pg_a sy sy_a sb am sb_p sb_s u.1 u.2 sy_l sy_f sb_pm sb_h sb_z sb_c sb_b sb_t sb_f sb_q sb_e sb_x) A) args s 0 0 A) (F0 m 58 ls []) := by
    intro n580
    induction n580 with
    | zero => intro x3 x5 pg_n pg_f H locs ls hl hP hD hS hw; exact hw.elim
    | succ n580 ih580 =>
      intro x3 x5 pg_n pg_f H locs ls hl hP hD hS hw
      unfold wp_Sc_putExponent_L580 at hw
      refine lv_iload hx hb d_Sc_putExponent_58 (lv_at hl 2 rfl) ?_
      refine lv_if_lt (tgt := 79) hx hb d_Sc_putExponent_60 rfl (fun hc => ?_) (fun hc => ?_)
      · have hw := hw.1 hc
        exact ct_vret hx hb hr hlk hK hS (pg_n, pg_f) hw hP hD d_Sc_putExponent_79
      · have hw := hw.2 hc
        refine lv_aload_n hx hb d_Sc_putExponent_63 rfl (lv_at hl 0 rfl) ?_
        refine lv_iload_n hx hb d_Sc_putExponent_64 rfl (lv_at hl 1 rfl) ?_
        refine lv_iload hx hb d_Sc_putExponent_65 (lv_at hl 2 rfl) ?_
        refine ct_calli (wn := fun _ => wd_ScE cA sc pg pg_a sy sy_a sb am sb_p sb_s pg_n pg_f sy_l sy_f sb_pm sb_h sb_z sb_c sb_b sb_t sb_f sb_q sb_e sb_x) (va_runS (As := [.int x3, .int x5]) (rest := [.ref sc]) ⟨hx, hb, hml, hown, htb⟩ (c_Sc_digitAt l D cA x3 x5 _ hw _) (ct_cwS 2 htb tw600 rfl rfl tw76 tw598 tw599 hd_Sc_digitAt ⟨by decide, by decide⟩) (ct_preS hP hD hK hN [] rfl (by decide) _) rfl rfl hl.1 rfl (lv_room (Nat.le_of_ble_eq_true rfl)) d_Sc_putExponent_67 ⟨Nat.zero_le _, Nat.zero_le _⟩) hP hD hS hA [] [0, 1, 2, 3, 4, 5] [0, 1, 2, 3, 4, 5] rfl rfl (by decide) (by decide) (fun _ => rfl) (by decide) (fun r9 u10 H locs hw hP hD hS => ?_)
        have hP : va_P D vwCl (wd_ScE cA sc pg pg_a sy sy_a sb am sb_p sb_s pg_n pg_f sy_l sy_f sb_pm sb_h sb_z sb_c sb_b sb_t sb_f sb_q sb_e sb_x) H := hP
        have hD : va_D A (wd_ScE cA sc pg pg_a sy sy_a sb am sb_p sb_s pg_n pg_f sy_l sy_f sb_pm sb_h sb_z sb_c sb_b sb_t sb_f sb_q sb_e sb_x) := hD
        refine ct_callv (wn := fun u12 => wd_ScE cA sc pg pg_a sy sy_a sb am sb_p sb_s u12.1 u12.2 sy_l sy_f sb_pm sb_h sb_z sb_c sb_b sb_t sb_f sb_q sb_e sb_x) (va_runV (As := [.int r9]) (rest := []) ⟨hx, hb, hml, hown, htb⟩ (c_Sc_putDigit l D cA sc pg pg_a sy sy_a am pg_n pg_f sy_l sy_f r9 _ hw _) (ct_cwV 1 htb tw582 rfl rfl tw76 tw579 tw581 tw30 hd_Sc_putDigit ⟨by decide, by decide⟩) (ct_preV hP hD hK hN [0, 1, 2, 3, 4] rfl (by decide) 0 rfl rfl _) rfl rfl hl.1 rfl (lv_room (Nat.le_of_ble_eq_true rfl)) d_Sc_putExponent_70 ⟨Nat.zero_le _, Nat.zero_le _⟩) hP hD hS hA [0, 1, 2, 3, 4] [5] [1, 2, 3, 4, 5, 0] rfl rfl (by decide) (by decide) (fun _ => rfl) (by decide) (fun u12 H locs hw hP hD hS => ?_)
        have hP : va_P D vwCl (wd_ScE cA sc pg pg_a sy sy_a sb am sb_p sb_s u12.1 u12.2 sy_l sy_f sb_pm sb_h sb_z sb_c sb_b sb_t sb_f sb_q sb_e sb_x) H := hP
        have hD : va_D A (wd_ScE cA sc pg pg_a sy sy_a sb am sb_p sb_s u12.1 u12.2 sy_l sy_f sb_pm sb_h sb_z sb_c sb_b sb_t sb_f sb_q sb_e sb_x) := hD
        refine lv_iinc (k := 2) (v := x5 + (-1)) (lv' := [(5, .int (x5 + (-1))), (0, .ref sc), (3, .int x3)]) hx hb d_Sc_putExponent_73 hl rfl (by rfl) (by decide) rfl (fun ls hl => ?_)
        refine lv_goto (tgt := 58) hx hb d_Sc_putExponent_76 rfl ?_
        exact ih580 x3 (x5 + (-1)) u12.1 u12.2 _ _ _ (lv_sub hl [1, 2, 0] rfl) hP hD hS hw
  have hJ340 : ∀ (x2 : Int32) (pg_n : Int32) (pg_f : Nat → Int32) (H : Heap) (locs : List Loc) (ls : Array Slot), lv_has ls 6 [(0, .ref sc), (1, .ref sb), (2, .int x2)] → va_P D vwCl (wd_ScE cA sc pg pg_a sy sy_a sb am sb_p sb_s pg_n pg_f sy_l sy_f sb_pm sb_h sb_z sb_c sb_b sb_t sb_f sb_q sb_e sb_x) H → va_D A (wd_ScE cA sc pg pg_a sy sy_a sb am sb_p sb_s pg_n pg_f sy_l sy_f sb_pm sb_h sb_z sb_c sb_b sb_t sb_f sb_q sb_e sb_x) → va_S A s.heap H locs → wp_Sc_putExponent_J340 sy_f sb_e sb_x x2 pg_n pg_f Q → W p l e { frames := 2, cells := 0, slots := 0, locals := 42 } s m args below meth c H locs 0 0 (MQ below (ct_qv vwCl D [(cA, .int)] Q (fun u => wd_ScE cA sc pg pg_a sy sy_a sb am sb_p sb_s u.1 u.2 sy_l sy_f sb_pm sb_h sb_z sb_c sb_b sb_t sb_f sb_q sb_e sb_x) A) args s 0 0 A) (F0 m 34 ls []) := by
    intro x2 pg_n pg_f H locs ls hl hP hD hS hw
    unfold wp_Sc_putExponent_J340 at hw
    refine lv_iload_n hx hb d_Sc_putExponent_34 rfl (lv_at hl 2 rfl) ?_
    refine va_mabs hx hb (hml.trans hl.1.symm) hown (htb _ tw592) (htb _ tw593) (htb _ tw74) (htb _ tw594) (Nat.le_of_ble_eq_true rfl) (Nat.le_of_ble_eq_true rfl) (Nat.zero_le _) (Nat.zero_le _) d_Sc_putExponent_35 ?_
    refine lv_istore_n (lv' := [(3, .int (if 0 ≤ x2 then x2 else 0 - x2)), (0, .ref sc), (1, .ref sb), (2, .int x2)]) hx hb d_Sc_putExponent_38 rfl hl (by decide) rfl (fun ls hl => ?_)
    refine lv_aload_n hx hb d_Sc_putExponent_39 rfl (lv_at hl 2 rfl) ?_
    refine va_get (ci := 6) (C := R_Sb) (T := F_Sb) (N := 12) hx hb htb in_Sb hown hK hP 5 rfl rfl 10 (by decide) (htb _ tw237) (fun _ h9 => h9) rfl d_Sc_putExponent_40 ?_
    refine lv_iload_n hx hb d_Sc_putExponent_43 rfl (lv_at hl 0 rfl) ?_
    refine ct_calli (wn := fun _ => wd_ScE cA sc pg pg_a sy sy_a sb am sb_p sb_s pg_n pg_f sy_l sy_f sb_pm sb_h sb_z sb_c sb_b sb_t sb_f sb_q sb_e sb_x) (va_runS (As := [.int (if 0 ≤ x2 then x2 else 0 - x2)]) (rest := [.int sb_e]) ⟨hx, hb, hml, hown, htb⟩ (c_Sc_widthOf l D cA (if 0 ≤ x2 then x2 else 0 - x2) _ hw _) (ct_cwS 1 htb tw597 rfl rfl tw76 tw595 tw596 hd_Sc_widthOf ⟨by decide, by decide⟩) (ct_preS hP hD hK hN [] rfl (by decide) _) rfl rfl hl.1 rfl (lv_room (Nat.le_of_ble_eq_true rfl)) d_Sc_putExponent_44 ⟨Nat.zero_le _, Nat.zero_le _⟩) hP hD hS hA [] [0, 1, 2, 3, 4, 5] [0, 1, 2, 3, 4, 5] rfl rfl (by decide) (by decide) (fun _ => rfl) (by decide) (fun r7 u8 H locs hw hP hD hS => ?_)
    have hP : va_P D vwCl (wd_ScE cA sc pg pg_a sy sy_a sb am sb_p sb_s pg_n pg_f sy_l sy_f sb_pm sb_h sb_z sb_c sb_b sb_t sb_f sb_q sb_e sb_x) H := hP
    have hD : va_D A (wd_ScE cA sc pg pg_a sy sy_a sb am sb_p sb_s pg_n pg_f sy_l sy_f sb_pm sb_h sb_z sb_c sb_b sb_t sb_f sb_q sb_e sb_x) := hD
    refine va_mmax hx hb (hml.trans hl.1.symm) hown (htb _ tw569) (htb _ tw98) (htb _ tw74) (htb _ tw99) (Nat.le_of_ble_eq_true rfl) (Nat.le_of_ble_eq_true rfl) (Nat.zero_le _) (Nat.zero_le _) d_Sc_putExponent_47 ?_
    refine lv_istore (lv' := [(4, .int (if sb_e < r7 then r7 else sb_e)), (3, .int (if 0 ≤ x2 then x2 else 0 - x2)), (0, .ref sc), (1, .ref sb), (2, .int x2)]) hx hb d_Sc_putExponent_50 hl (by decide) rfl (fun ls hl => ?_)
    refine lv_iload hx hb d_Sc_putExponent_52 (lv_at hl 0 rfl) ?_
    refine lv_iconst (v := 1) hx hb d_Sc_putExponent_54 (by decide) ?_
    refine lv_isub hx hb d_Sc_putExponent_55 ?_
    refine lv_istore (lv' := [(5, .int ((if sb_e < r7 then r7 else sb_e) - 1)), (4, .int (if sb_e < r7 then r7 else sb_e)), (3, .int (if 0 ≤ x2 then x2 else 0 - x2)), (0, .ref sc), (1, .ref sb), (2, .int x2)]) hx hb d_Sc_putExponent_56 hl (by decide) rfl (fun ls hl => ?_)
    obtain ⟨n580, hw⟩ := hw
    exact hL580 n580 (if 0 ≤ x2 then x2 else 0 - x2) ((if sb_e < r7 then r7 else sb_e) - 1) pg_n pg_f _ _ _ (lv_sub hl [3, 2, 0] rfl) hP hD hS hw
  refine lv_aload_n hx hb d_Sc_putExponent_0 rfl (lv_at hl 0 rfl) ?_
  refine lv_iconst (v := 4) hx hb d_Sc_putExponent_1 (by decide) ?_
  refine ct_callv (wn := fun u2 => wd_ScE cA sc pg pg_a sy sy_a sb am sb_p sb_s u2.1 u2.2 sy_l sy_f sb_pm sb_h sb_z sb_c sb_b sb_t sb_f sb_q sb_e sb_x) (va_runV (As := [.int 4]) (rest := []) ⟨hx, hb, hml, hown, htb⟩ (c_Sc_putSymbol l D cA sc pg pg_a sy sy_a am pg_n pg_f sy_l sy_f 4 _ hw _) (ct_cwV 1 htb tw543 rfl rfl tw76 tw540 tw542 tw25 hd_Sc_putSymbol ⟨by decide, by decide⟩) (ct_preV hP hD hK hN [0, 1, 2, 3, 4] rfl (by decide) 0 rfl rfl _) rfl rfl hl.1 rfl (lv_room (Nat.le_of_ble_eq_true rfl)) d_Sc_putExponent_2 ⟨Nat.zero_le _, Nat.zero_le _⟩) hP hD hS hA [0, 1, 2, 3, 4] [5] [1, 2, 3, 4, 5, 0] rfl rfl (by decide) (by decide) (fun _ => rfl) (by decide) (fun u2 H locs hw hP hD hS => ?_)
  have hP : va_P D vwCl (wd_ScE cA sc pg pg_a sy sy_a sb am sb_p sb_s u2.1 u2.2 sy_l sy_f sb_pm sb_h sb_z sb_c sb_b sb_t sb_f sb_q sb_e sb_x) H := hP
  have hD : va_D A (wd_ScE cA sc pg pg_a sy sy_a sb am sb_p sb_s u2.1 u2.2 sy_l sy_f sb_pm sb_h sb_z sb_c sb_b sb_t sb_f sb_q sb_e sb_x) := hD
  refine lv_iload_n hx hb d_Sc_putExponent_5 rfl (lv_at hl 2 rfl) ?_
  refine lv_if_ge (tgt := 17) hx hb d_Sc_putExponent_6 rfl (fun hc => ?_) (fun hc => ?_)
  · have hw := hw.1 hc
    refine lv_aload_n hx hb d_Sc_putExponent_17 rfl (lv_at hl 1 rfl) ?_
    refine va_get (ci := 6) (C := R_Sb) (T := F_Sb) (N := 12) hx hb htb in_Sb hown hK hP 5 rfl rfl 11 (by decide) (htb _ tw240) (fun _ h9 => h9) rfl d_Sc_putExponent_18 ?_
    refine lv_if_eq (tgt := 34) hx hb d_Sc_putExponent_21 rfl (fun hc => ?_) (fun hc => ?_)
    · have hw := hw.1 ((bI_0 _).mp hc)
      exact hJ340 ex u2.1 u2.2 _ _ _ (lv_sub hl [0, 1, 2] rfl) hP hD hS hw
    · have hw := hw.2 ((bI_n0 _).mp hc)
      refine lv_aload_n hx hb d_Sc_putExponent_24 rfl (lv_at hl 0 rfl) ?_
      refine va_get (ci := 5) (C := R_Sc) (T := F_Sc) (N := 3) hx hb htb in_Sc hown hK hP 0 rfl rfl 0 (by decide) (htb _ tw145) (fun _ h9 => h9) rfl d_Sc_putExponent_25 ?_
      refine lv_bipush (v := 43) hx hb d_Sc_putExponent_28 (by decide) ?_
      refine ct_callz (wn := fun u4 => wd_ScE cA sc pg pg_a sy sy_a sb am sb_p sb_s u4.1 u4.2 sy_l sy_f sb_pm sb_h sb_z sb_c sb_b sb_t sb_f sb_q sb_e sb_x) (va_runV (As := [.int 43]) (rest := []) ⟨hx, hb, hml, hown, htb⟩ (c_Row_add l D cA pg pg_a 256 u2.1 u2.2 43 _ hw _) (ct_cwV 1 htb tw346 rfl rfl tw73 tw548 tw344 tw345 hd_Row_add ⟨by decide, by decide⟩) (ct_preV hP hD hK hN [1, 2] rfl (by decide) 1 rfl rfl _) rfl rfl hl.1 rfl (lv_room (Nat.le_of_ble_eq_true rfl)) d_Sc_putExponent_30 ⟨Nat.zero_le _, Nat.zero_le _⟩) hP hD hS hA [1, 2] [0, 3, 4, 5] [0, 4, 5, 1, 2, 3] rfl rfl (by decide) (by decide) (fun _ => rfl) (by decide) (fun r3 u4 H locs hw hP hD hS => ?_)
      have hP : va_P D vwCl (wd_ScE cA sc pg pg_a sy sy_a sb am sb_p sb_s u4.1 u4.2 sy_l sy_f sb_pm sb_h sb_z sb_c sb_b sb_t sb_f sb_q sb_e sb_x) H := hP
      have hD : va_D A (wd_ScE cA sc pg pg_a sy sy_a sb am sb_p sb_s u4.1 u4.2 sy_l sy_f sb_pm sb_h sb_z sb_c sb_b sb_t sb_f sb_q sb_e sb_x) := hD
      refine lv_pop hx hb d_Sc_putExponent_33 rfl ?_
      exact hJ340 ex u4.1 u4.2 _ _ _ (lv_sub hl [0, 1, 2] rfl) hP hD hS hw
  · have hw := hw.2 hc
    refine lv_aload_n hx hb d_Sc_putExponent_9 rfl (lv_at hl 0 rfl) ?_
    refine lv_iconst (v := 2) hx hb d_Sc_putExponent_10 (by decide) ?_
    refine ct_callv (wn := fun u6 => wd_ScE cA sc pg pg_a sy sy_a sb am sb_p sb_s u6.1 u6.2 sy_l sy_f sb_pm sb_h sb_z sb_c sb_b sb_t sb_f sb_q sb_e sb_x) (va_runV (As := [.int 2]) (rest := []) ⟨hx, hb, hml, hown, htb⟩ (c_Sc_putSymbol l D cA sc pg pg_a sy sy_a am u2.1 u2.2 sy_l sy_f 2 _ hw _) (ct_cwV 1 htb tw543 rfl rfl tw76 tw540 tw542 tw25 hd_Sc_putSymbol ⟨by decide, by decide⟩) (ct_preV hP hD hK hN [0, 1, 2, 3, 4] rfl (by decide) 0 rfl rfl _) rfl rfl hl.1 rfl (lv_room (Nat.le_of_ble_eq_true rfl)) d_Sc_putExponent_11 ⟨Nat.zero_le _, Nat.zero_le _⟩) hP hD hS hA [0, 1, 2, 3, 4] [5] [1, 2, 3, 4, 5, 0] rfl rfl (by decide) (by decide) (fun _ => rfl) (by decide) (fun u6 H locs hw hP hD hS => ?_)
    have hP : va_P D vwCl (wd_ScE cA sc pg pg_a sy sy_a sb am sb_p sb_s u6.1 u6.2 sy_l sy_f sb_pm sb_h sb_z sb_c sb_b sb_t sb_f sb_q sb_e sb_x) H := hP
    have hD : va_D A (wd_ScE cA sc pg pg_a sy sy_a sb am sb_p sb_s u6.1 u6.2 sy_l sy_f sb_pm sb_h sb_z sb_c sb_b sb_t sb_f sb_q sb_e sb_x) := hD
    refine lv_goto (tgt := 34) hx hb d_Sc_putExponent_14 rfl ?_
    exact hJ340 ex u6.1 u6.2 _ _ _ (lv_sub hl [0, 1, 2] rfl) hP hD hS hw
