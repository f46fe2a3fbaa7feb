/-! constructors: contracts that make cells; the nest mates' links go with them -/
abbrev nw_2 : Cond := Cond.methodLinkNest "DecimalPatterns" 23 ⟨"DecimalPatterns$Symbols", "<init>", "()V"⟩ "DecimalPatterns"
abbrev nw_3 : Cond := Cond.methodLinkNest "DecimalPatterns$Scribe" 22 ⟨"DecimalPatterns$Amount", "<init>", "()V"⟩ "DecimalPatterns"
abbrev nw_4 : Cond := Cond.methodLinkNest "DecimalPatterns" 48 ⟨"DecimalPatterns$Pattern", "<init>", "()V"⟩ "DecimalPatterns"
abbrev nw_5 : Cond := Cond.methodLinkNest "DecimalPatterns$Pattern" 9 ⟨"DecimalPatterns$Sub", "<init>", "()V"⟩ "DecimalPatterns"
def nwc (U : State) : Prop := va_Nw nw_2 U ∧ va_Nw nw_3 U ∧ va_Nw nw_4 U ∧ va_Nw nw_5 U
theorem nwc.warm {s U : State} (hW : s.WarmedH U.vm) (h : nwc s) : nwc U := ⟨va_Nw.warmM hW h.1, va_Nw.warmM hW h.2.1, va_Nw.warmM hW h.2.2.1, va_Nw.warmM hW h.2.2.2⟩
theorem nwc.same {u U : State} (e : u.vm = U.vm) (h : nwc u) : nwc U := ⟨va_Nw.same rfl e h.1, va_Nw.same rfl e h.2.1, va_Nw.same rfl e h.2.2.1, va_Nw.same rfl e h.2.2.2⟩
abbrev cn_pre (D : va_G) (cl : List vw_C) (tys : List (ClassId × FieldType)) (wc : va_W) (sz : Nat) : State → Prop := fun U => U.heap.size = sz ∧ va_P D cl wc U.heap ∧ va_K D cl tys U ∧ va_D (fun _ => True) wc ∧ nwc U
def cn_M (cl : List vw_C) (l : Launch) (D : va_G) (tys : List (ClassId × FieldType)) (y : MethodName) (ws : List Cond) (rm : Room) (av : List Value) (wc : va_W) (Qc : (Nat → Prop) → Array Value → State → Outcome → State → Prop) (mc ms : Nat) : Prop :=
  ∀ sz : Nat, Met l y ws rm (va_Pc av (cn_pre D cl tys wc sz)) (Qc (va_A wc sz)) mc ms (va_A wc sz)
theorem cn_enter {cl : List vw_C} {l : Launch} {D : va_G} {tys : List (ClassId × FieldType)} {y : MethodName} {ws ws' : List Cond} {rm : Room} {av : List Value} {wc : va_W} {Qc : (Nat → Prop) → Array Value → State → Outcome → State → Prop} {cc : ByteArray} {maxL mc ms : Nat} {ret : Option FieldType}
    (hy : plainName y.cls = true) (hw : ws = Cond.code y cc maxL ret :: ws') (hlen : (lg_sl av).length ≤ maxL)
    (body : ∀ (p : Program) (e : Env) (s : State) (m : MethodId) (args : Array Value) (below : List Frame) (meth : Method) (c : Code) (A : Nat → Prop) (ls : Array Slot), p.tables.exec = Jvm.exec → c.code = cc → meth.sig.returnType = ret → meth.locks = false → c.maxLocals = maxL → meth.name = y.name → (∀ w ∈ ws, w.before args s = true) → s.vm.findClass y.cls = some m.cls →
      (∀ q : Nat, s.heap.size ≤ q → A q) → va_S A s.heap s.heap [] → va_P D cl wc s.heap → va_K D cl tys s → nwc s → va_D A wc → lv_has ls maxL (lv_args 0 av) →
      W p l e rm s m args below meth c s.heap [] 0 0 (MQ below (Qc A) args s mc ms A) (F0 m 0 ls [])) : cn_M cl l D tys y ws rm av wc Qc mc ms := by
  intro sz
  refine Met.ofW (cc := cc) (maxL := maxL) (ret := ret) hy hw ?_
  intro p e s m args below meth c s₁ B hml hv
  obtain ⟨rfl, hsz, hP, hK, hD0, hN⟩ := hv
  subst hsz
  have hD := hD0.self (sz := s.heap.size)
  have hts := atoms_spec (ws := ws) B.pre
  rw [lg_entry_eq]
  exact body p e s m av.toArray below meth c (va_A wc s.heap.size) _ B.exec B.bytes B.returns B.notSynchronized hml (name_of_methodNamed B.named B.method).1 hts (findClass_of_methodNamed B.named) (fun q h => Or.inr h) va_S.rf hP hK hN hD (lv_entry av hlen)
section CNW
variable {p : Program} {l : Launch} {e : Env} {R : Room} {s : State} {m : MethodId} {args : Array Value} {below : List Frame} {meth : Method} {c : Code} {H : Heap} {locs : List Loc} {cells slots : Nat} {Q : State → Prop}
variable {cc : ByteArray} {pc mc ms : Nat} {ls : Array Slot} {rest st0 : List Value} {D : va_G} {cl : List vw_C} {A : Nat → Prop} {cA : ClassId} {tys : List (ClassId × FieldType)} {H0 : Heap} {a : Array Value}
theorem cn_vret {S : Type} {post : S → Prop} {w1 : S → va_W} (hx : p.tables.exec = Jvm.exec) (hb : c.code = cc) (hr : meth.sig.returnType = none) (hlk : meth.locks = false) (hK : va_K D cl tys s) (hS : va_S A s.heap H locs) (u : S) (hq : post u) (hP : va_P D cl (w1 u) H) (hD : va_D A (w1 u)) (hdg : decode cc pc = .ok (.return_, 1)) :
    W p l e R s m args below meth c H locs cells slots (MQ below (ct_qv cl D tys post w1 A) args s cells slots A) (F0 m pc ls []) :=
  W.vret hx hb hr (fun t ht hW => ⟨⟨u, rfl, hq, by rw [ht]; exact hP, va_K.moved hW.alike hK, hD⟩, hS.F ht⟩) hS.2.2 hdg hlk
theorem cn_callv {S : Type} {post : S → Prop} {w1 : S → va_W} {wc ws : va_W} (wr : va_W) (hr : va_Run p l e R s m args below meth c H locs cells slots mc ms (F0 m pc ls st0) rest (ct_qv cl D tys post w1 (va_A wc H.size) a) (va_A wc H.size))
    (hP : va_P D cl ws H) (hD : va_D A ws) (hS : va_S A H0 H locs) (hA : ∀ q, H0.size ≤ q → A q) (isC isR : List Nat) (hC : isC.map (fun i => ws[i]?) = wc.map some) (hR : isR.map (fun i => ws[i]?) = wr.map some) (hn : va_nd isR = true) (hdis : ∀ i ∈ isR, i ∉ isC)
    (kk : ∀ (u : S) (H1 : Heap) (locs1 : List Loc), post u → va_P D cl (wr ++ w1 u) H1 → va_D A (wr ++ w1 u) → va_S A H0 H1 locs1 → W p l e R s m args below meth c H1 locs1 (cells + mc) (slots + ms) Q (F0 m (pc + 3) ls rest)) : W p l e R s m args below meth c H locs cells slots Q (F0 m pc ls st0) := by
  have hF := va_free hD hS hA isC hC
  refine va_callv hr hS (fun q _ h => hF q h) hF (fun u t H1 locs1 ht hvm hp hB hz hk hS1 => ?_)
  obtain ⟨hP1, -, hD1⟩ := hB
  rw [ht] at hP1
  obtain ⟨hPj, hDj⟩ := va_join hP hD isC isR hC hR hn hdis hk hF hP1 hD1
  exact kk u H1 locs1 hp hPj hDj hS1
theorem cn_preI {ws wc : va_W} (hP : va_P D cl ws H) (hD : va_D A ws) (hK : va_K D cl tys s) (hN : nwc s) (isC : List Nat) (hC : isC.map (fun i => ws[i]?) = wc.map some) (hnC : va_nd isC = true) (As : List Value) : PreS s H (va_Pc As (cn_pre D cl tys wc H.size)) As :=
  ⟨fun a U g mk h => by
    obtain ⟨q0, q1, qP, qK, qD, qN⟩ := h
    exact ⟨q0, q1, qP, va_K.moved (u := U) (U := U.calling g mk a) (Vm.Alike.refl U.vm) qK, qD, nwc.same (u := U) (U := U.calling g mk a) rfl qN⟩,
   fun U hU hW => ⟨rfl, by rw [hU], by rw [hU]; exact hP.sub isC (ct_fm hC), va_K.moved hW.alike hK, (hD.sub isC hnC hC).weaken (fun _ _ _ _ => trivial), nwc.warm hW hN⟩⟩
theorem cn_newa (hexec : p.tables.exec = Jvm.exec) (hb : c.code = cc) (harr : (Cond.arrayClass .int).before args s = true) (hK : va_K D cl [(cA, .int)] s) {ws : va_W} (hP : va_P D cl ws H) (hD : va_D A ws) (hS : va_S A H0 H locs) (hA : ∀ q, H0.size ≤ q → A q)
    {n : Int32} {N' : Nat} (hn : ¬ n < 0) (hN : n.toNatClampNeg = N') (hsm : N' ≤ 1000) (hcells : cells + 1 ≤ R.cells) (hslots : slots + N' ≤ R.slots) (hdg : decode cc pc = .ok (.newarray .int, 2))
    (kk : ∀ (q : Nat) (H1 : Heap), va_P D cl (ws ++ [(q, .inl (cA, N', .inl (fun _ => 0)))]) H1 → va_D A (ws ++ [(q, .inl (cA, N', .inl (fun _ => 0)))]) → va_S A H0 H1 locs →
      W p l e R s m args below meth c H1 locs (cells + 1) (slots + N') Q (F0 m (pc + 2) ls (.ref q :: rest))) : W p l e R s m args below meth c H locs cells slots Q (F0 m pc ls (.int n :: rest)) := by
  refine va_newa (atype := .int) (a0 := (N', .inl (fun _ => 0))) (ty := .int) hexec hb harr rfl hK hP hD hS hA (fun _ => rfl) hn hN (by show N' * 4 ≤ 536870912; omega) hcells hslots hdg (fun q cA' H1 hK' hP' hD' hS' => ?_)
  have e1 : s.vm.findClass ("[" ++ FieldType.int.toString) = some cA := (hK'.2 0 _ rfl).2
  have e2 : s.vm.findClass ("[" ++ FieldType.int.toString) = some cA' := (hK'.2 1 _ rfl).2
  have e3 : cA = cA' := Option.some.inj (e1.symm.trans e2)
  subst e3
  exact kk q H1 hP' hD' hS'
end CNW
section CWI
variable {R : Room} {s : State} {args : Array Value} {own host : String} {index maxL mc ms : Nat} {y : MethodName} {bytes : ByteArray} {rm : Room}
theorem cn_cwI (n : Nat) (htb : ∀ w ∈ tbl, w.before args s = true) (hc : Cond.code y bytes maxL none ∈ tbl) (hrc : rm.cells = mc) (hrs : rm.slots = ms) (hini : Cond.initialized y.cls ∈ tbl) (hl : Cond.methodLink own index y ∈ tbl) (hin : Cond.instanceMethod y ∈ tbl) (hy1 : y.name = "<init>")
    (hd : y.cls ≠ "java/lang/invoke/MethodHandle" ∧ y.cls ≠ "java/lang/invoke/VarHandle" ∧ (parseMethodDescriptor y.desc).map (fun d => d.parameters.length) = some n) (hR : rm.frames + 1 ≤ R.frames ∧ 8 + (maxL + 11) + rm.locals ≤ R.locals) : CallB R s args own index y bytes maxL none (Cond.code y bytes maxL none :: tbl) rm mc ms n ∧ y.name = "<init>" ∧ (Cond.instanceMethod y).before args s = true :=
  ⟨callB_of n htb (gi hc) rfl hrc hrs (htb _ hini) (htb _ hl) hd hR, hy1, htb _ hin⟩
theorem cn_cwIN (n : Nat) (htb : ∀ w ∈ tbl, w.before args s = true) (hc : Cond.code y bytes maxL none ∈ tbl) (hrc : rm.cells = mc) (hrs : rm.slots = ms) (hini : Cond.initialized y.cls ∈ tbl) (hl : va_Nw (.methodLinkNest own index y host) s) (hin : Cond.instanceMethod y ∈ tbl) (hy1 : y.name = "<init>")
    (hd : y.cls ≠ "java/lang/invoke/MethodHandle" ∧ y.cls ≠ "java/lang/invoke/VarHandle" ∧ (parseMethodDescriptor y.desc).map (fun d => d.parameters.length) = some n) (hR : rm.frames + 1 ≤ R.frames ∧ 8 + (maxL + 11) + rm.locals ≤ R.locals) : va_CN R s args own index y host bytes maxL none (Cond.code y bytes maxL none :: tbl) rm mc ms n ∧ y.name = "<init>" ∧ (Cond.instanceMethod y).before args s = true :=
  ⟨va_cnB n htb (gi hc) rfl hrc hrs hl (htb _ hini) hd hR, hy1, htb _ hin⟩
end CWI
abbrev b_Row_init : ByteArray := prog_6_method_1_code
abbrev y_Row_init : MethodName := ⟨"DecimalPatterns$Row", "<init>", "(I)V"⟩
abbrev w_Row_init : List Cond := .code y_Row_init b_Row_init 2 none :: tbl
abbrev b_Am_init : ByteArray := prog_2_method_1_code
abbrev y_Am_init : MethodName := ⟨"DecimalPatterns$Amount", "<init>", "()V"⟩
abbrev w_Am_init : List Cond := .code y_Am_init b_Am_init 1 none :: tbl
abbrev b_Sy_init : ByteArray := prog_9_method_1_code
abbrev y_Sy_init : MethodName := ⟨"DecimalPatterns$Symbols", "<init>", "()V"⟩
abbrev w_Sy_init : List Cond := .code y_Sy_init b_Sy_init 1 none :: tbl
abbrev b_Sb_init : ByteArray := prog_8_method_1_code
abbrev y_Sb_init : MethodName := ⟨"DecimalPatterns$Sub", "<init>", "()V"⟩
abbrev w_Sb_init : List Cond := .code y_Sb_init b_Sb_init 1 none :: tbl
abbrev b_Pt_init : ByteArray := prog_4_method_1_code
abbrev y_Pt_init : MethodName := ⟨"DecimalPatterns$Pattern", "<init>", "()V"⟩
abbrev w_Pt_init : List Cond := .code y_Pt_init b_Pt_init 1 none :: tbl
abbrev b_Sc_init : ByteArray := prog_7_method_1_code
abbrev y_Sc_init : MethodName := ⟨"DecimalPatterns$Scribe", "<init>", "(LDecimalPatterns$Symbols;)V"⟩
abbrev w_Sc_init : List Cond := .code y_Sc_init b_Sc_init 2 none :: tbl
abbrev b_Fi_init : ByteArray := prog_3_method_1_code
abbrev y_Fi_init : MethodName := ⟨"DecimalPatterns$Finder", "<init>", "(LDecimalPatterns$Symbols;LDecimalPatterns$Scribe;)V"⟩
abbrev w_Fi_init : List Cond := .code y_Fi_init b_Fi_init 3 none :: tbl
abbrev b_Mk_init : ByteArray := prog_5_method_1_code
abbrev y_Mk_init : MethodName := ⟨"DecimalPatterns$PatternMaker", "<init>", "(LDecimalPatterns$Pattern;)V"⟩
abbrev w_Mk_init : List Cond := .code y_Mk_init b_Mk_init 2 none :: tbl
abbrev b_Ob_init : ByteArray := prog_1_method_1_code
abbrev y_Ob_init : MethodName := ⟨"DecimalPatterns", "<init>", "()V"⟩
abbrev w_Ob_init : List Cond := .code y_Ob_init b_Ob_init 1 none :: tbl
abbrev b_Mo_init : ByteArray := prog_11_method_1_code
abbrev y_Mo_init : MethodName := ⟨"DecimalPatternsModel", "<init>", "()V"⟩
abbrev w_Mo_init : List Cond := .code y_Mo_init b_Mo_init 1 none :: tbl
theorem tw88 : (Cond.methodLink "DecimalPatterns" 1 ⟨"java/lang/Object", "<init>", "()V"⟩) ∈ tbl := tbl_in (i := 88) (by decide +kernel) (by decide +kernel)
theorem tw89 : (Cond.instanceMethod ⟨"java/lang/Object", "<init>", "()V"⟩) ∈ tbl := tbl_in (i := 89) (by decide +kernel) (by decide +kernel)
theorem tw90 : (Cond.code ⟨"java/lang/Object", "<init>", "()V"⟩ object_method_1_code 1 (Option.none : Option FieldType)) ∈ tbl := tbl_in (i := 90) (by decide +kernel) (by decide +kernel)
theorem tw91 : (Cond.classLink "DecimalPatterns" 7 "DecimalPatterns$Row") ∈ tbl := tbl_in (i := 91) (by decide +kernel) (by decide +kernel)
theorem tw92 : (Cond.instantiable "DecimalPatterns$Row" 2) ∈ tbl := tbl_in (i := 92) (by decide +kernel) (by decide +kernel)
theorem tw93 : (Cond.methodLink "DecimalPatterns" 11 ⟨"DecimalPatterns$Row", "<init>", "(I)V"⟩) ∈ tbl := tbl_in (i := 93) (by decide +kernel) (by decide +kernel)
theorem tw94 : (Cond.instanceMethod ⟨"DecimalPatterns$Row", "<init>", "(I)V"⟩) ∈ tbl := tbl_in (i := 94) (by decide +kernel) (by decide +kernel)
theorem tw95 : (Cond.code ⟨"DecimalPatterns$Row", "<init>", "(I)V"⟩ prog_6_method_1_code 2 (Option.none : Option FieldType)) ∈ tbl := tbl_in (i := 95) (by decide +kernel) (by decide +kernel)
theorem tw96 : (Cond.methodLink "DecimalPatterns$Row" 1 ⟨"java/lang/Object", "<init>", "()V"⟩) ∈ tbl := tbl_in (i := 96) (by decide +kernel) (by decide +kernel)
theorem tw97 : (Cond.methodLink "DecimalPatterns$Row" 7 ⟨"java/lang/Math", "max", "(II)I"⟩) ∈ tbl := tbl_in (i := 97) (by decide +kernel) (by decide +kernel)
theorem tw111 : (Cond.arrayClass .int) ∈ tbl := tbl_in (i := 111) (by decide +kernel) (by decide +kernel)
theorem tw112 : (Cond.classLink "DecimalPatterns" 21 "DecimalPatterns$Symbols") ∈ tbl := tbl_in (i := 112) (by decide +kernel) (by decide +kernel)
theorem tw113 : (Cond.instantiable "DecimalPatterns$Symbols" 2) ∈ tbl := tbl_in (i := 113) (by decide +kernel) (by decide +kernel)
theorem tw115 : (Cond.instanceMethod ⟨"DecimalPatterns$Symbols", "<init>", "()V"⟩) ∈ tbl := tbl_in (i := 115) (by decide +kernel) (by decide +kernel)
theorem tw116 : (Cond.code ⟨"DecimalPatterns$Symbols", "<init>", "()V"⟩ prog_9_method_1_code 1 (Option.none : Option FieldType)) ∈ tbl := tbl_in (i := 116) (by decide +kernel) (by decide +kernel)
theorem tw117 : (Cond.methodLink "DecimalPatterns$Symbols" 3 ⟨"java/lang/Object", "<init>", "()V"⟩) ∈ tbl := tbl_in (i := 117) (by decide +kernel) (by decide +kernel)
theorem tw119 : (Cond.fieldLink "DecimalPatterns$Symbols" 15 "DecimalPatterns$Symbols" "groupLead" "I") ∈ tbl := tbl_in (i := 119) (by decide +kernel) (by decide +kernel)
theorem tw127 : (Cond.classLink "DecimalPatterns" 28 "DecimalPatterns$Scribe") ∈ tbl := tbl_in (i := 127) (by decide +kernel) (by decide +kernel)
theorem tw128 : (Cond.instantiable "DecimalPatterns$Scribe" 3) ∈ tbl := tbl_in (i := 128) (by decide +kernel) (by decide +kernel)
theorem tw129 : (Cond.methodLink "DecimalPatterns" 30 ⟨"DecimalPatterns$Scribe", "<init>", "(LDecimalPatterns$Symbols;)V"⟩) ∈ tbl := tbl_in (i := 129) (by decide +kernel) (by decide +kernel)
theorem tw130 : (Cond.instanceMethod ⟨"DecimalPatterns$Scribe", "<init>", "(LDecimalPatterns$Symbols;)V"⟩) ∈ tbl := tbl_in (i := 130) (by decide +kernel) (by decide +kernel)
theorem tw131 : (Cond.code ⟨"DecimalPatterns$Scribe", "<init>", "(LDecimalPatterns$Symbols;)V"⟩ prog_7_method_1_code 2 (Option.none : Option FieldType)) ∈ tbl := tbl_in (i := 131) (by decide +kernel) (by decide +kernel)
theorem tw132 : (Cond.methodLink "DecimalPatterns$Scribe" 3 ⟨"java/lang/Object", "<init>", "()V"⟩) ∈ tbl := tbl_in (i := 132) (by decide +kernel) (by decide +kernel)
theorem tw133 : (Cond.classLink "DecimalPatterns$Scribe" 9 "DecimalPatterns$Row") ∈ tbl := tbl_in (i := 133) (by decide +kernel) (by decide +kernel)
theorem tw134 : (Cond.methodLink "DecimalPatterns$Scribe" 11 ⟨"DecimalPatterns$Row", "<init>", "(I)V"⟩) ∈ tbl := tbl_in (i := 134) (by decide +kernel) (by decide +kernel)
theorem tw135 : (Cond.classLink "DecimalPatterns$Scribe" 20 "DecimalPatterns$Amount") ∈ tbl := tbl_in (i := 135) (by decide +kernel) (by decide +kernel)
theorem tw136 : (Cond.instantiable "DecimalPatterns$Amount" 1) ∈ tbl := tbl_in (i := 136) (by decide +kernel) (by decide +kernel)
theorem tw138 : (Cond.instanceMethod ⟨"DecimalPatterns$Amount", "<init>", "()V"⟩) ∈ tbl := tbl_in (i := 138) (by decide +kernel) (by decide +kernel)
theorem tw139 : (Cond.code ⟨"DecimalPatterns$Amount", "<init>", "()V"⟩ prog_2_method_1_code 1 (Option.none : Option FieldType)) ∈ tbl := tbl_in (i := 139) (by decide +kernel) (by decide +kernel)
theorem tw140 : (Cond.methodLink "DecimalPatterns$Amount" 3 ⟨"java/lang/Object", "<init>", "()V"⟩) ∈ tbl := tbl_in (i := 140) (by decide +kernel) (by decide +kernel)
theorem tw157 : (Cond.classLink "DecimalPatterns" 37 "DecimalPatterns$Finder") ∈ tbl := tbl_in (i := 157) (by decide +kernel) (by decide +kernel)
theorem tw158 : (Cond.instantiable "DecimalPatterns$Finder" 8) ∈ tbl := tbl_in (i := 158) (by decide +kernel) (by decide +kernel)
theorem tw159 : (Cond.methodLink "DecimalPatterns" 39 ⟨"DecimalPatterns$Finder", "<init>", "(LDecimalPatterns$Symbols;LDecimalPatterns$Scribe;)V"⟩) ∈ tbl := tbl_in (i := 159) (by decide +kernel) (by decide +kernel)
theorem tw160 : (Cond.instanceMethod ⟨"DecimalPatterns$Finder", "<init>", "(LDecimalPatterns$Symbols;LDecimalPatterns$Scribe;)V"⟩) ∈ tbl := tbl_in (i := 160) (by decide +kernel) (by decide +kernel)
theorem tw161 : (Cond.code ⟨"DecimalPatterns$Finder", "<init>", "(LDecimalPatterns$Symbols;LDecimalPatterns$Scribe;)V"⟩ prog_3_method_1_code 3 (Option.none : Option FieldType)) ∈ tbl := tbl_in (i := 161) (by decide +kernel) (by decide +kernel)
theorem tw162 : (Cond.methodLink "DecimalPatterns$Finder" 3 ⟨"java/lang/Object", "<init>", "()V"⟩) ∈ tbl := tbl_in (i := 162) (by decide +kernel) (by decide +kernel)
theorem tw190 : (Cond.classLink "DecimalPatterns" 46 "DecimalPatterns$Pattern") ∈ tbl := tbl_in (i := 190) (by decide +kernel) (by decide +kernel)
theorem tw191 : (Cond.instantiable "DecimalPatterns$Pattern" 3) ∈ tbl := tbl_in (i := 191) (by decide +kernel) (by decide +kernel)
theorem tw193 : (Cond.instanceMethod ⟨"DecimalPatterns$Pattern", "<init>", "()V"⟩) ∈ tbl := tbl_in (i := 193) (by decide +kernel) (by decide +kernel)
theorem tw194 : (Cond.code ⟨"DecimalPatterns$Pattern", "<init>", "()V"⟩ prog_4_method_1_code 1 (Option.none : Option FieldType)) ∈ tbl := tbl_in (i := 194) (by decide +kernel) (by decide +kernel)
theorem tw195 : (Cond.methodLink "DecimalPatterns$Pattern" 1 ⟨"java/lang/Object", "<init>", "()V"⟩) ∈ tbl := tbl_in (i := 195) (by decide +kernel) (by decide +kernel)
theorem tw196 : (Cond.classLink "DecimalPatterns$Pattern" 7 "DecimalPatterns$Sub") ∈ tbl := tbl_in (i := 196) (by decide +kernel) (by decide +kernel)
theorem tw197 : (Cond.instantiable "DecimalPatterns$Sub" 12) ∈ tbl := tbl_in (i := 197) (by decide +kernel) (by decide +kernel)
theorem tw199 : (Cond.instanceMethod ⟨"DecimalPatterns$Sub", "<init>", "()V"⟩) ∈ tbl := tbl_in (i := 199) (by decide +kernel) (by decide +kernel)
theorem tw200 : (Cond.code ⟨"DecimalPatterns$Sub", "<init>", "()V"⟩ prog_8_method_1_code 1 (Option.none : Option FieldType)) ∈ tbl := tbl_in (i := 200) (by decide +kernel) (by decide +kernel)
theorem tw201 : (Cond.methodLink "DecimalPatterns$Sub" 3 ⟨"java/lang/Object", "<init>", "()V"⟩) ∈ tbl := tbl_in (i := 201) (by decide +kernel) (by decide +kernel)
theorem tw202 : (Cond.classLink "DecimalPatterns$Sub" 9 "DecimalPatterns$Row") ∈ tbl := tbl_in (i := 202) (by decide +kernel) (by decide +kernel)
theorem tw203 : (Cond.methodLink "DecimalPatterns$Sub" 11 ⟨"DecimalPatterns$Row", "<init>", "(I)V"⟩) ∈ tbl := tbl_in (i := 203) (by decide +kernel) (by decide +kernel)
theorem tw219 : (Cond.fieldLink "DecimalPatterns" 57 "DecimalPatterns$Sub" "zeros" "I") ∈ tbl := tbl_in (i := 219) (by decide +kernel) (by decide +kernel)
theorem tw269 : (Cond.fieldLink "DecimalPatterns" 53 "DecimalPatterns$Pattern" "plus" "LDecimalPatterns$Sub;") ∈ tbl := tbl_in (i := 269) (by decide +kernel) (by decide +kernel)
theorem tw283 : (Cond.classLink "DecimalPatterns" 66 "DecimalPatterns$PatternMaker") ∈ tbl := tbl_in (i := 283) (by decide +kernel) (by decide +kernel)
theorem tw284 : (Cond.instantiable "DecimalPatterns$PatternMaker" 5) ∈ tbl := tbl_in (i := 284) (by decide +kernel) (by decide +kernel)
theorem tw285 : (Cond.methodLink "DecimalPatterns" 68 ⟨"DecimalPatterns$PatternMaker", "<init>", "(LDecimalPatterns$Pattern;)V"⟩) ∈ tbl := tbl_in (i := 285) (by decide +kernel) (by decide +kernel)
theorem tw286 : (Cond.instanceMethod ⟨"DecimalPatterns$PatternMaker", "<init>", "(LDecimalPatterns$Pattern;)V"⟩) ∈ tbl := tbl_in (i := 286) (by decide +kernel) (by decide +kernel)
theorem tw287 : (Cond.code ⟨"DecimalPatterns$PatternMaker", "<init>", "(LDecimalPatterns$Pattern;)V"⟩ prog_5_method_1_code 2 (Option.none : Option FieldType)) ∈ tbl := tbl_in (i := 287) (by decide +kernel) (by decide +kernel)
theorem tw288 : (Cond.methodLink "DecimalPatterns$PatternMaker" 3 ⟨"java/lang/Object", "<init>", "()V"⟩) ∈ tbl := tbl_in (i := 288) (by decide +kernel) (by decide +kernel)
theorem tw695 : (Cond.methodLink "DecimalPatternsModel" 1 ⟨"java/lang/Object", "<init>", "()V"⟩) ∈ tbl := tbl_in (i := 695) (by decide +kernel) (by decide +kernel)
theorem hd_Am_init : y_Am_init.cls ≠ "java/lang/invoke/MethodHandle" ∧ y_Am_init.cls ≠ "java/lang/invoke/VarHandle" ∧ (parseMethodDescriptor y_Am_init.desc).map (fun d => d.parameters.length) = some 0 := by decide +kernel
theorem hd_Fi_init : y_Fi_init.cls ≠ "java/lang/invoke/MethodHandle" ∧ y_Fi_init.cls ≠ "java/lang/invoke/VarHandle" ∧ (parseMethodDescriptor y_Fi_init.desc).map (fun d => d.parameters.length) = some 2 := by decide +kernel
theorem hd_Pt_init : y_Pt_init.cls ≠ "java/lang/invoke/MethodHandle" ∧ y_Pt_init.cls ≠ "java/lang/invoke/VarHandle" ∧ (parseMethodDescriptor y_Pt_init.desc).map (fun d => d.parameters.length) = some 0 := by decide +kernel
theorem hd_Mk_init : y_Mk_init.cls ≠ "java/lang/invoke/MethodHandle" ∧ y_Mk_init.cls ≠ "java/lang/invoke/VarHandle" ∧ (parseMethodDescriptor y_Mk_init.desc).map (fun d => d.parameters.length) = some 1 := by decide +kernel
theorem hd_Row_init : y_Row_init.cls ≠ "java/lang/invoke/MethodHandle" ∧ y_Row_init.cls ≠ "java/lang/invoke/VarHandle" ∧ (parseMethodDescriptor y_Row_init.desc).map (fun d => d.parameters.length) = some 1 := by decide +kernel
theorem hd_Sc_init : y_Sc_init.cls ≠ "java/lang/invoke/MethodHandle" ∧ y_Sc_init.cls ≠ "java/lang/invoke/VarHandle" ∧ (parseMethodDescriptor y_Sc_init.desc).map (fun d => d.parameters.length) = some 1 := by decide +kernel
theorem hd_Sb_init : y_Sb_init.cls ≠ "java/lang/invoke/MethodHandle" ∧ y_Sb_init.cls ≠ "java/lang/invoke/VarHandle" ∧ (parseMethodDescriptor y_Sb_init.desc).map (fun d => d.parameters.length) = some 0 := by decide +kernel
theorem hd_Sy_init : y_Sy_init.cls ≠ "java/lang/invoke/MethodHandle" ∧ y_Sy_init.cls ≠ "java/lang/invoke/VarHandle" ∧ (parseMethodDescriptor y_Sy_init.desc).map (fun d => d.parameters.length) = some 0 := by decide +kernel
theorem d_Row_init_0 : decode b_Row_init 0 = .ok (.aload_n 0, 1) := by decide +kernel
theorem d_Row_init_1 : decode b_Row_init 1 = .ok (.invokespecial 1, 3) := by decide +kernel
theorem d_Row_init_4 : decode b_Row_init 4 = .ok (.aload_n 0, 1) := by decide +kernel
theorem d_Row_init_5 : decode b_Row_init 5 = .ok (.iload_n 1, 1) := by decide +kernel
theorem d_Row_init_6 : decode b_Row_init 6 = .ok (.iconst 0, 1) := by decide +kernel
theorem d_Row_init_7 : decode b_Row_init 7 = .ok (.invokestatic 7, 3) := by decide +kernel
theorem d_Row_init_10 : decode b_Row_init 10 = .ok (.newarray .int, 2) := by decide +kernel
theorem d_Row_init_12 : decode b_Row_init 12 = .ok (.putfield 13, 3) := by decide +kernel
theorem d_Row_init_15 : decode b_Row_init 15 = .ok (.return_, 1) := by decide +kernel
theorem d_Am_init_0 : decode b_Am_init 0 = .ok (.aload_n 0, 1) := by decide +kernel
theorem d_Am_init_1 : decode b_Am_init 1 = .ok (.invokespecial 3, 3) := by decide +kernel
theorem d_Am_init_4 : decode b_Am_init 4 = .ok (.aload_n 0, 1) := by decide +kernel
theorem d_Am_init_5 : decode b_Am_init 5 = .ok (.bipush 40, 2) := by decide +kernel
theorem d_Am_init_7 : decode b_Am_init 7 = .ok (.newarray .int, 2) := by decide +kernel
theorem d_Am_init_9 : decode b_Am_init 9 = .ok (.putfield 11, 3) := by decide +kernel
theorem d_Am_init_12 : decode b_Am_init 12 = .ok (.return_, 1) := by decide +kernel
theorem d_Sy_init_0 : decode b_Sy_init 0 = .ok (.aload_n 0, 1) := by decide +kernel
theorem d_Sy_init_1 : decode b_Sy_init 1 = .ok (.invokespecial 3, 3) := by decide +kernel
theorem d_Sy_init_4 : decode b_Sy_init 4 = .ok (.aload_n 0, 1) := by decide +kernel
theorem d_Sy_init_5 : decode b_Sy_init 5 = .ok (.bipush 6, 2) := by decide +kernel
theorem d_Sy_init_7 : decode b_Sy_init 7 = .ok (.newarray .int, 2) := by decide +kernel
theorem d_Sy_init_9 : decode b_Sy_init 9 = .ok (.dup, 1) := by decide +kernel
theorem d_Sy_init_10 : decode b_Sy_init 10 = .ok (.iconst 0, 1) := by decide +kernel
theorem d_Sy_init_11 : decode b_Sy_init 11 = .ok (.bipush 46, 2) := by decide +kernel
theorem d_Sy_init_13 : decode b_Sy_init 13 = .ok (.iastore, 1) := by decide +kernel
theorem d_Sy_init_14 : decode b_Sy_init 14 = .ok (.dup, 1) := by decide +kernel
theorem d_Sy_init_15 : decode b_Sy_init 15 = .ok (.iconst 1, 1) := by decide +kernel
theorem d_Sy_init_16 : decode b_Sy_init 16 = .ok (.bipush 44, 2) := by decide +kernel
theorem d_Sy_init_18 : decode b_Sy_init 18 = .ok (.iastore, 1) := by decide +kernel
theorem d_Sy_init_19 : decode b_Sy_init 19 = .ok (.dup, 1) := by decide +kernel
theorem d_Sy_init_20 : decode b_Sy_init 20 = .ok (.iconst 2, 1) := by decide +kernel
theorem d_Sy_init_21 : decode b_Sy_init 21 = .ok (.bipush 45, 2) := by decide +kernel
theorem d_Sy_init_23 : decode b_Sy_init 23 = .ok (.iastore, 1) := by decide +kernel
theorem d_Sy_init_24 : decode b_Sy_init 24 = .ok (.dup, 1) := by decide +kernel
theorem d_Sy_init_25 : decode b_Sy_init 25 = .ok (.iconst 3, 1) := by decide +kernel
theorem d_Sy_init_26 : decode b_Sy_init 26 = .ok (.bipush 37, 2) := by decide +kernel
theorem d_Sy_init_28 : decode b_Sy_init 28 = .ok (.iastore, 1) := by decide +kernel
theorem d_Sy_init_29 : decode b_Sy_init 29 = .ok (.dup, 1) := by decide +kernel
theorem d_Sy_init_30 : decode b_Sy_init 30 = .ok (.iconst 4, 1) := by decide +kernel
theorem d_Sy_init_31 : decode b_Sy_init 31 = .ok (.bipush 69, 2) := by decide +kernel
theorem d_Sy_init_33 : decode b_Sy_init 33 = .ok (.iastore, 1) := by decide +kernel
theorem d_Sy_init_34 : decode b_Sy_init 34 = .ok (.dup, 1) := by decide +kernel
theorem d_Sy_init_35 : decode b_Sy_init 35 = .ok (.iconst 5, 1) := by decide +kernel
theorem d_Sy_init_36 : decode b_Sy_init 36 = .ok (.bipush 48, 2) := by decide +kernel
theorem d_Sy_init_38 : decode b_Sy_init 38 = .ok (.iastore, 1) := by decide +kernel
theorem d_Sy_init_39 : decode b_Sy_init 39 = .ok (.putfield 9, 3) := by decide +kernel
theorem d_Sy_init_42 : decode b_Sy_init 42 = .ok (.aload_n 0, 1) := by decide +kernel
theorem d_Sy_init_43 : decode b_Sy_init 43 = .ok (.iconst 1, 1) := by decide +kernel
theorem d_Sy_init_44 : decode b_Sy_init 44 = .ok (.putfield 15, 3) := by decide +kernel
theorem d_Sy_init_47 : decode b_Sy_init 47 = .ok (.return_, 1) := by decide +kernel
theorem d_Sb_init_0 : decode b_Sb_init 0 = .ok (.aload_n 0, 1) := by decide +kernel
theorem d_Sb_init_1 : decode b_Sb_init 1 = .ok (.invokespecial 3, 3) := by decide +kernel
theorem d_Sb_init_4 : decode b_Sb_init 4 = .ok (.aload_n 0, 1) := by decide +kernel
theorem d_Sb_init_5 : decode b_Sb_init 5 = .ok (.new 9, 3) := by decide +kernel
theorem d_Sb_init_8 : decode b_Sb_init 8 = .ok (.dup, 1) := by decide +kernel
theorem d_Sb_init_9 : decode b_Sb_init 9 = .ok (.bipush 40, 2) := by decide +kernel
theorem d_Sb_init_11 : decode b_Sb_init 11 = .ok (.invokespecial 11, 3) := by decide +kernel
theorem d_Sb_init_14 : decode b_Sb_init 14 = .ok (.putfield 14, 3) := by decide +kernel
theorem d_Sb_init_17 : decode b_Sb_init 17 = .ok (.aload_n 0, 1) := by decide +kernel
theorem d_Sb_init_18 : decode b_Sb_init 18 = .ok (.new 9, 3) := by decide +kernel
theorem d_Sb_init_21 : decode b_Sb_init 21 = .ok (.dup, 1) := by decide +kernel
theorem d_Sb_init_22 : decode b_Sb_init 22 = .ok (.bipush 40, 2) := by decide +kernel
theorem d_Sb_init_24 : decode b_Sb_init 24 = .ok (.invokespecial 11, 3) := by decide +kernel
theorem d_Sb_init_27 : decode b_Sb_init 27 = .ok (.putfield 20, 3) := by decide +kernel
theorem d_Sb_init_30 : decode b_Sb_init 30 = .ok (.return_, 1) := by decide +kernel
theorem d_Pt_init_0 : decode b_Pt_init 0 = .ok (.aload_n 0, 1) := by decide +kernel
theorem d_Pt_init_1 : decode b_Pt_init 1 = .ok (.invokespecial 1, 3) := by decide +kernel
theorem d_Pt_init_4 : decode b_Pt_init 4 = .ok (.aload_n 0, 1) := by decide +kernel
theorem d_Pt_init_5 : decode b_Pt_init 5 = .ok (.new 7, 3) := by decide +kernel
theorem d_Pt_init_8 : decode b_Pt_init 8 = .ok (.dup, 1) := by decide +kernel
theorem d_Pt_init_9 : decode b_Pt_init 9 = .ok (.invokespecial 9, 3) := by decide +kernel
theorem d_Pt_init_12 : decode b_Pt_init 12 = .ok (.putfield 10, 3) := by decide +kernel
theorem d_Pt_init_15 : decode b_Pt_init 15 = .ok (.aload_n 0, 1) := by decide +kernel
theorem d_Pt_init_16 : decode b_Pt_init 16 = .ok (.new 7, 3) := by decide +kernel
theorem d_Pt_init_19 : decode b_Pt_init 19 = .ok (.dup, 1) := by decide +kernel
theorem d_Pt_init_20 : decode b_Pt_init 20 = .ok (.invokespecial 9, 3) := by decide +kernel
theorem d_Pt_init_23 : decode b_Pt_init 23 = .ok (.putfield 16, 3) := by decide +kernel
theorem d_Pt_init_26 : decode b_Pt_init 26 = .ok (.return_, 1) := by decide +kernel
theorem d_Sc_init_0 : decode b_Sc_init 0 = .ok (.aload_n 0, 1) := by decide +kernel
theorem d_Sc_init_1 : decode b_Sc_init 1 = .ok (.invokespecial 3, 3) := by decide +kernel
theorem d_Sc_init_4 : decode b_Sc_init 4 = .ok (.aload_n 0, 1) := by decide +kernel
theorem d_Sc_init_5 : decode b_Sc_init 5 = .ok (.new 9, 3) := by decide +kernel
theorem d_Sc_init_8 : decode b_Sc_init 8 = .ok (.dup, 1) := by decide +kernel
theorem d_Sc_init_9 : decode b_Sc_init 9 = .ok (.sipush 256, 3) := by decide +kernel
theorem d_Sc_init_12 : decode b_Sc_init 12 = .ok (.invokespecial 11, 3) := by decide +kernel
theorem d_Sc_init_15 : decode b_Sc_init 15 = .ok (.putfield 14, 3) := by decide +kernel
theorem d_Sc_init_18 : decode b_Sc_init 18 = .ok (.aload_n 0, 1) := by decide +kernel
theorem d_Sc_init_19 : decode b_Sc_init 19 = .ok (.new 20, 3) := by decide +kernel
theorem d_Sc_init_22 : decode b_Sc_init 22 = .ok (.dup, 1) := by decide +kernel
theorem d_Sc_init_23 : decode b_Sc_init 23 = .ok (.invokespecial 22, 3) := by decide +kernel
theorem d_Sc_init_26 : decode b_Sc_init 26 = .ok (.putfield 23, 3) := by decide +kernel
theorem d_Sc_init_29 : decode b_Sc_init 29 = .ok (.aload_n 0, 1) := by decide +kernel
theorem d_Sc_init_30 : decode b_Sc_init 30 = .ok (.aload_n 1, 1) := by decide +kernel
theorem d_Sc_init_31 : decode b_Sc_init 31 = .ok (.putfield 27, 3) := by decide +kernel
theorem d_Sc_init_34 : decode b_Sc_init 34 = .ok (.return_, 1) := by decide +kernel
theorem d_Fi_init_0 : decode b_Fi_init 0 = .ok (.aload_n 0, 1) := by decide +kernel
theorem d_Fi_init_1 : decode b_Fi_init 1 = .ok (.invokespecial 3, 3) := by decide +kernel
theorem d_Fi_init_4 : decode b_Fi_init 4 = .ok (.aload_n 0, 1) := by decide +kernel
theorem d_Fi_init_5 : decode b_Fi_init 5 = .ok (.aload_n 1, 1) := by decide +kernel
theorem d_Fi_init_6 : decode b_Fi_init 6 = .ok (.putfield 9, 3) := by decide +kernel
theorem d_Fi_init_9 : decode b_Fi_init 9 = .ok (.aload_n 0, 1) := by decide +kernel
theorem d_Fi_init_10 : decode b_Fi_init 10 = .ok (.aload_n 2, 1) := by decide +kernel
theorem d_Fi_init_11 : decode b_Fi_init 11 = .ok (.putfield 15, 3) := by decide +kernel
theorem d_Fi_init_14 : decode b_Fi_init 14 = .ok (.return_, 1) := by decide +kernel
theorem d_Mk_init_0 : decode b_Mk_init 0 = .ok (.aload_n 0, 1) := by decide +kernel
theorem d_Mk_init_1 : decode b_Mk_init 1 = .ok (.invokespecial 3, 3) := by decide +kernel
theorem d_Mk_init_4 : decode b_Mk_init 4 = .ok (.aload_n 0, 1) := by decide +kernel
theorem d_Mk_init_5 : decode b_Mk_init 5 = .ok (.aload_n 1, 1) := by decide +kernel
theorem d_Mk_init_6 : decode b_Mk_init 6 = .ok (.putfield 9, 3) := by decide +kernel
theorem d_Mk_init_9 : decode b_Mk_init 9 = .ok (.aload_n 0, 1) := by decide +kernel
theorem d_Mk_init_10 : decode b_Mk_init 10 = .ok (.aload_n 1, 1) := by decide +kernel
theorem d_Mk_init_11 : decode b_Mk_init 11 = .ok (.getfield 15, 3) := by decide +kernel
theorem d_Mk_init_14 : decode b_Mk_init 14 = .ok (.putfield 21, 3) := by decide +kernel
theorem d_Mk_init_17 : decode b_Mk_init 17 = .ok (.return_, 1) := by decide +kernel
theorem d_Ob_init_0 : decode b_Ob_init 0 = .ok (.aload_n 0, 1) := by decide +kernel
theorem d_Ob_init_1 : decode b_Ob_init 1 = .ok (.invokespecial 1, 3) := by decide +kernel
theorem d_Ob_init_4 : decode b_Ob_init 4 = .ok (.aload_n 0, 1) := by decide +kernel
theorem d_Ob_init_5 : decode b_Ob_init 5 = .ok (.new 7, 3) := by decide +kernel
theorem d_Ob_init_8 : decode b_Ob_init 8 = .ok (.dup, 1) := by decide +kernel
theorem d_Ob_init_9 : decode b_Ob_init 9 = .ok (.bipush 40, 2) := by decide +kernel
theorem d_Ob_init_11 : decode b_Ob_init 11 = .ok (.invokespecial 11, 3) := by decide +kernel
theorem d_Ob_init_14 : decode b_Ob_init 14 = .ok (.putfield 14, 3) := by decide +kernel
theorem d_Ob_init_17 : decode b_Ob_init 17 = .ok (.aload_n 0, 1) := by decide +kernel
theorem d_Ob_init_18 : decode b_Ob_init 18 = .ok (.new 7, 3) := by decide +kernel
theorem d_Ob_init_21 : decode b_Ob_init 21 = .ok (.dup, 1) := by decide +kernel
theorem d_Ob_init_22 : decode b_Ob_init 22 = .ok (.sipush 256, 3) := by decide +kernel
theorem d_Ob_init_25 : decode b_Ob_init 25 = .ok (.invokespecial 11, 3) := by decide +kernel
theorem d_Ob_init_28 : decode b_Ob_init 28 = .ok (.putfield 18, 3) := by decide +kernel
theorem d_Ob_init_31 : decode b_Ob_init 31 = .ok (.aload_n 0, 1) := by decide +kernel
theorem d_Ob_init_32 : decode b_Ob_init 32 = .ok (.new 21, 3) := by decide +kernel
theorem d_Ob_init_35 : decode b_Ob_init 35 = .ok (.dup, 1) := by decide +kernel
theorem d_Ob_init_36 : decode b_Ob_init 36 = .ok (.invokespecial 23, 3) := by decide +kernel
theorem d_Ob_init_39 : decode b_Ob_init 39 = .ok (.putfield 24, 3) := by decide +kernel
theorem d_Ob_init_42 : decode b_Ob_init 42 = .ok (.aload_n 0, 1) := by decide +kernel
theorem d_Ob_init_43 : decode b_Ob_init 43 = .ok (.new 28, 3) := by decide +kernel
theorem d_Ob_init_46 : decode b_Ob_init 46 = .ok (.dup, 1) := by decide +kernel
theorem d_Ob_init_47 : decode b_Ob_init 47 = .ok (.aload_n 0, 1) := by decide +kernel
theorem d_Ob_init_48 : decode b_Ob_init 48 = .ok (.getfield 24, 3) := by decide +kernel
theorem d_Ob_init_51 : decode b_Ob_init 51 = .ok (.invokespecial 30, 3) := by decide +kernel
theorem d_Ob_init_54 : decode b_Ob_init 54 = .ok (.putfield 33, 3) := by decide +kernel
theorem d_Ob_init_57 : decode b_Ob_init 57 = .ok (.aload_n 0, 1) := by decide +kernel
theorem d_Ob_init_58 : decode b_Ob_init 58 = .ok (.new 37, 3) := by decide +kernel
theorem d_Ob_init_61 : decode b_Ob_init 61 = .ok (.dup, 1) := by decide +kernel
theorem d_Ob_init_62 : decode b_Ob_init 62 = .ok (.aload_n 0, 1) := by decide +kernel
theorem d_Ob_init_63 : decode b_Ob_init 63 = .ok (.getfield 24, 3) := by decide +kernel
theorem d_Ob_init_66 : decode b_Ob_init 66 = .ok (.aload_n 0, 1) := by decide +kernel
theorem d_Ob_init_67 : decode b_Ob_init 67 = .ok (.getfield 33, 3) := by decide +kernel
theorem d_Ob_init_70 : decode b_Ob_init 70 = .ok (.invokespecial 39, 3) := by decide +kernel
theorem d_Ob_init_73 : decode b_Ob_init 73 = .ok (.putfield 42, 3) := by decide +kernel
theorem d_Ob_init_76 : decode b_Ob_init 76 = .ok (.aload_n 0, 1) := by decide +kernel
theorem d_Ob_init_77 : decode b_Ob_init 77 = .ok (.new 46, 3) := by decide +kernel
theorem d_Ob_init_80 : decode b_Ob_init 80 = .ok (.dup, 1) := by decide +kernel
theorem d_Ob_init_81 : decode b_Ob_init 81 = .ok (.invokespecial 48, 3) := by decide +kernel
theorem d_Ob_init_84 : decode b_Ob_init 84 = .ok (.putfield 49, 3) := by decide +kernel
theorem d_Ob_init_87 : decode b_Ob_init 87 = .ok (.aload_n 0, 1) := by decide +kernel
theorem d_Ob_init_88 : decode b_Ob_init 88 = .ok (.getfield 49, 3) := by decide +kernel
theorem d_Ob_init_91 : decode b_Ob_init 91 = .ok (.getfield 53, 3) := by decide +kernel
theorem d_Ob_init_94 : decode b_Ob_init 94 = .ok (.iconst 1, 1) := by decide +kernel
theorem d_Ob_init_95 : decode b_Ob_init 95 = .ok (.putfield 57, 3) := by decide +kernel
theorem d_Ob_init_98 : decode b_Ob_init 98 = .ok (.aload_n 0, 1) := by decide +kernel
theorem d_Ob_init_99 : decode b_Ob_init 99 = .ok (.new 46, 3) := by decide +kernel
theorem d_Ob_init_102 : decode b_Ob_init 102 = .ok (.dup, 1) := by decide +kernel
theorem d_Ob_init_103 : decode b_Ob_init 103 = .ok (.invokespecial 48, 3) := by decide +kernel
theorem d_Ob_init_106 : decode b_Ob_init 106 = .ok (.putfield 63, 3) := by decide +kernel
theorem d_Ob_init_109 : decode b_Ob_init 109 = .ok (.aload_n 0, 1) := by decide +kernel
theorem d_Ob_init_110 : decode b_Ob_init 110 = .ok (.new 66, 3) := by decide +kernel
theorem d_Ob_init_113 : decode b_Ob_init 113 = .ok (.dup, 1) := by decide +kernel
theorem d_Ob_init_114 : decode b_Ob_init 114 = .ok (.aload_n 0, 1) := by decide +kernel
theorem d_Ob_init_115 : decode b_Ob_init 115 = .ok (.getfield 63, 3) := by decide +kernel
theorem d_Ob_init_118 : decode b_Ob_init 118 = .ok (.invokespecial 68, 3) := by decide +kernel
theorem d_Ob_init_121 : decode b_Ob_init 121 = .ok (.putfield 71, 3) := by decide +kernel
theorem d_Ob_init_124 : decode b_Ob_init 124 = .ok (.return_, 1) := by decide +kernel
theorem d_Mo_init_0 : decode b_Mo_init 0 = .ok (.aload_n 0, 1) := by decide +kernel
theorem d_Mo_init_1 : decode b_Mo_init 1 = .ok (.invokespecial 1, 3) := by decide +kernel
theorem d_Mo_init_4 : decode b_Mo_init 4 = .ok (.aload_n 0, 1) := by decide +kernel
theorem d_Mo_init_5 : decode b_Mo_init 5 = .ok (.bipush 40, 2) := by decide +kernel
theorem d_Mo_init_7 : decode b_Mo_init 7 = .ok (.newarray .int, 2) := by decide +kernel
theorem d_Mo_init_9 : decode b_Mo_init 9 = .ok (.putfield 7, 3) := by decide +kernel
theorem d_Mo_init_12 : decode b_Mo_init 12 = .ok (.aload_n 0, 1) := by decide +kernel
theorem d_Mo_init_13 : decode b_Mo_init 13 = .ok (.bipush 9, 2) := by decide +kernel
theorem d_Mo_init_15 : decode b_Mo_init 15 = .ok (.newarray .int, 2) := by decide +kernel
theorem d_Mo_init_17 : decode b_Mo_init 17 = .ok (.putfield 13, 3) := by decide +kernel
theorem d_Mo_init_20 : decode b_Mo_init 20 = .ok (.aload_n 0, 1) := by decide +kernel
theorem d_Mo_init_21 : decode b_Mo_init 21 = .ok (.bipush 9, 2) := by decide +kernel
theorem d_Mo_init_23 : decode b_Mo_init 23 = .ok (.newarray .int, 2) := by decide +kernel
theorem d_Mo_init_25 : decode b_Mo_init 25 = .ok (.putfield 16, 3) := by decide +kernel
theorem d_Mo_init_28 : decode b_Mo_init 28 = .ok (.aload_n 0, 1) := by decide +kernel
theorem d_Mo_init_29 : decode b_Mo_init 29 = .ok (.bipush 9, 2) := by decide +kernel
theorem d_Mo_init_31 : decode b_Mo_init 31 = .ok (.newarray .int, 2) := by decide +kernel
theorem d_Mo_init_33 : decode b_Mo_init 33 = .ok (.putfield 19, 3) := by decide +kernel
theorem d_Mo_init_36 : decode b_Mo_init 36 = .ok (.aload_n 0, 1) := by decide +kernel
theorem d_Mo_init_37 : decode b_Mo_init 37 = .ok (.sipush 160, 3) := by decide +kernel
theorem d_Mo_init_40 : decode b_Mo_init 40 = .ok (.newarray .int, 2) := by decide +kernel
theorem d_Mo_init_42 : decode b_Mo_init 42 = .ok (.putfield 22, 3) := by decide +kernel
theorem d_Mo_init_45 : decode b_Mo_init 45 = .ok (.aload_n 0, 1) := by decide +kernel
theorem d_Mo_init_46 : decode b_Mo_init 46 = .ok (.iconst 4, 1) := by decide +kernel
theorem d_Mo_init_47 : decode b_Mo_init 47 = .ok (.newarray .int, 2) := by decide +kernel
theorem d_Mo_init_49 : decode b_Mo_init 49 = .ok (.putfield 25, 3) := by decide +kernel
theorem d_Mo_init_52 : decode b_Mo_init 52 = .ok (.aload_n 0, 1) := by decide +kernel
theorem d_Mo_init_53 : decode b_Mo_init 53 = .ok (.sipush 160, 3) := by decide +kernel
theorem d_Mo_init_56 : decode b_Mo_init 56 = .ok (.newarray .int, 2) := by decide +kernel
theorem d_Mo_init_58 : decode b_Mo_init 58 = .ok (.putfield 28, 3) := by decide +kernel
theorem d_Mo_init_61 : decode b_Mo_init 61 = .ok (.aload_n 0, 1) := by decide +kernel
theorem d_Mo_init_62 : decode b_Mo_init 62 = .ok (.iconst 4, 1) := by decide +kernel
theorem d_Mo_init_63 : decode b_Mo_init 63 = .ok (.newarray .int, 2) := by decide +kernel
theorem d_Mo_init_65 : decode b_Mo_init 65 = .ok (.putfield 31, 3) := by decide +kernel
theorem d_Mo_init_68 : decode b_Mo_init 68 = .ok (.aload_n 0, 1) := by decide +kernel
theorem d_Mo_init_69 : decode b_Mo_init 69 = .ok (.bipush 6, 2) := by decide +kernel
theorem d_Mo_init_71 : decode b_Mo_init 71 = .ok (.newarray .int, 2) := by decide +kernel
theorem d_Mo_init_73 : decode b_Mo_init 73 = .ok (.putfield 34, 3) := by decide +kernel
theorem d_Mo_init_76 : decode b_Mo_init 76 = .ok (.aload_n 0, 1) := by decide +kernel
theorem d_Mo_init_77 : decode b_Mo_init 77 = .ok (.iconst 1, 1) := by decide +kernel
theorem d_Mo_init_78 : decode b_Mo_init 78 = .ok (.putfield 37, 3) := by decide +kernel
theorem d_Mo_init_81 : decode b_Mo_init 81 = .ok (.aload_n 0, 1) := by decide +kernel
theorem d_Mo_init_82 : decode b_Mo_init 82 = .ok (.sipush 128, 3) := by decide +kernel
theorem d_Mo_init_85 : decode b_Mo_init 85 = .ok (.newarray .int, 2) := by decide +kernel
theorem d_Mo_init_87 : decode b_Mo_init 87 = .ok (.putfield 41, 3) := by decide +kernel
theorem d_Mo_init_90 : decode b_Mo_init 90 = .ok (.aload_n 0, 1) := by decide +kernel
theorem d_Mo_init_91 : decode b_Mo_init 91 = .ok (.sipush 400, 3) := by decide +kernel
theorem d_Mo_init_94 : decode b_Mo_init 94 = .ok (.newarray .int, 2) := by decide +kernel
theorem d_Mo_init_96 : decode b_Mo_init 96 = .ok (.putfield 44, 3) := by decide +kernel
theorem d_Mo_init_99 : decode b_Mo_init 99 = .ok (.aload_n 0, 1) := by decide +kernel
theorem d_Mo_init_100 : decode b_Mo_init 100 = .ok (.sipush 400, 3) := by decide +kernel
theorem d_Mo_init_103 : decode b_Mo_init 103 = .ok (.newarray .int, 2) := by decide +kernel
theorem d_Mo_init_105 : decode b_Mo_init 105 = .ok (.putfield 47, 3) := by decide +kernel
theorem d_Mo_init_108 : decode b_Mo_init 108 = .ok (.aload_n 0, 1) := by decide +kernel
theorem d_Mo_init_109 : decode b_Mo_init 109 = .ok (.getfield 19, 3) := by decide +kernel
theorem d_Mo_init_112 : decode b_Mo_init 112 = .ok (.iconst 1, 1) := by decide +kernel
theorem d_Mo_init_113 : decode b_Mo_init 113 = .ok (.iconst 1, 1) := by decide +kernel
theorem d_Mo_init_114 : decode b_Mo_init 114 = .ok (.iastore, 1) := by decide +kernel
theorem d_Mo_init_115 : decode b_Mo_init 115 = .ok (.aload_n 0, 1) := by decide +kernel
theorem d_Mo_init_116 : decode b_Mo_init 116 = .ok (.getfield 34, 3) := by decide +kernel
theorem d_Mo_init_119 : decode b_Mo_init 119 = .ok (.iconst 0, 1) := by decide +kernel
theorem d_Mo_init_120 : decode b_Mo_init 120 = .ok (.bipush 46, 2) := by decide +kernel
theorem d_Mo_init_122 : decode b_Mo_init 122 = .ok (.iastore, 1) := by decide +kernel
theorem d_Mo_init_123 : decode b_Mo_init 123 = .ok (.aload_n 0, 1) := by decide +kernel
theorem d_Mo_init_124 : decode b_Mo_init 124 = .ok (.getfield 34, 3) := by decide +kernel
theorem d_Mo_init_127 : decode b_Mo_init 127 = .ok (.iconst 1, 1) := by decide +kernel
theorem d_Mo_init_128 : decode b_Mo_init 128 = .ok (.bipush 44, 2) := by decide +kernel
theorem d_Mo_init_130 : decode b_Mo_init 130 = .ok (.iastore, 1) := by decide +kernel
theorem d_Mo_init_131 : decode b_Mo_init 131 = .ok (.aload_n 0, 1) := by decide +kernel
theorem d_Mo_init_132 : decode b_Mo_init 132 = .ok (.getfield 34, 3) := by decide +kernel
theorem d_Mo_init_135 : decode b_Mo_init 135 = .ok (.iconst 2, 1) := by decide +kernel
theorem d_Mo_init_136 : decode b_Mo_init 136 = .ok (.bipush 45, 2) := by decide +kernel
theorem d_Mo_init_138 : decode b_Mo_init 138 = .ok (.iastore, 1) := by decide +kernel
theorem d_Mo_init_139 : decode b_Mo_init 139 = .ok (.aload_n 0, 1) := by decide +kernel
theorem d_Mo_init_140 : decode b_Mo_init 140 = .ok (.getfield 34, 3) := by decide +kernel
theorem d_Mo_init_143 : decode b_Mo_init 143 = .ok (.iconst 3, 1) := by decide +kernel
theorem d_Mo_init_144 : decode b_Mo_init 144 = .ok (.bipush 37, 2) := by decide +kernel
theorem d_Mo_init_146 : decode b_Mo_init 146 = .ok (.iastore, 1) := by decide +kernel
theorem d_Mo_init_147 : decode b_Mo_init 147 = .ok (.aload_n 0, 1) := by decide +kernel
theorem d_Mo_init_148 : decode b_Mo_init 148 = .ok (.getfield 34, 3) := by decide +kernel
theorem d_Mo_init_151 : decode b_Mo_init 151 = .ok (.iconst 4, 1) := by decide +kernel
theorem d_Mo_init_152 : decode b_Mo_init 152 = .ok (.bipush 69, 2) := by decide +kernel
theorem d_Mo_init_154 : decode b_Mo_init 154 = .ok (.iastore, 1) := by decide +kernel
theorem d_Mo_init_155 : decode b_Mo_init 155 = .ok (.aload_n 0, 1) := by decide +kernel
theorem d_Mo_init_156 : decode b_Mo_init 156 = .ok (.getfield 34, 3) := by decide +kernel
theorem d_Mo_init_159 : decode b_Mo_init 159 = .ok (.iconst 5, 1) := by decide +kernel
theorem d_Mo_init_160 : decode b_Mo_init 160 = .ok (.bipush 48, 2) := by decide +kernel
theorem d_Mo_init_162 : decode b_Mo_init 162 = .ok (.iastore, 1) := by decide +kernel
theorem d_Mo_init_163 : decode b_Mo_init 163 = .ok (.return_, 1) := by decide +kernel
theorem mx0 {nn : Nat} (h : nn ≤ 256) : (if nI nn < 0 then (0 : Int32) else nI nn) = nI nn := if_neg (nI_pos (by omega))
theorem no_ge {k n : Nat} {P : Prop} (h : k + n < n) : P := absurd h (by omega)
theorem df_Am : ∀ j, j < 1 → defaultValue (t_Am j) = vp_V [.null] j := fun j hj => match j, hj with | 0, _ => rfl | k + 1, h => no_ge h
theorem df_Fi : ∀ j, j < 8 → defaultValue (t_Fi j) = vp_V [.null, .null, .long 0, .int 0, .int 0, .int 0, .int 0, .int 0] j := fun j hj => match j, hj with | 0, _ => rfl | 1, _ => rfl | 2, _ => rfl | 3, _ => rfl | 4, _ => rfl | 5, _ => rfl | 6, _ => rfl | 7, _ => rfl | k + 8, h => no_ge h
theorem df_Pt : ∀ j, j < 3 → defaultValue (t_Pt j) = vp_V [.null, .null, .int 0] j := fun j hj => match j, hj with | 0, _ => rfl | 1, _ => rfl | 2, _ => rfl | k + 3, h => no_ge h
theorem df_Mk : ∀ j, j < 5 → defaultValue (t_Mk j) = vp_V [.null, .null, .int 0, .int 0, .int 0] j := fun j hj => match j, hj with | 0, _ => rfl | 1, _ => rfl | 2, _ => rfl | 3, _ => rfl | 4, _ => rfl | k + 5, h => no_ge h
theorem df_Rw : ∀ j, j < 2 → defaultValue (t_Rw j) = vp_V [.null, .int 0] j := fun j hj => match j, hj with | 0, _ => rfl | 1, _ => rfl | k + 2, h => no_ge h
theorem df_Sc : ∀ j, j < 3 → defaultValue (t_Sc j) = vp_V [.null, .null, .null] j := fun j hj => match j, hj with | 0, _ => rfl | 1, _ => rfl | 2, _ => rfl | k + 3, h => no_ge h
theorem df_Sb : ∀ j, j < 12 → defaultValue (t_Sb j) = vp_V [.null, .null, .int 0, .int 0, .int 0, .int 0, .int 0, .int 0, .int 0, .int 0, .int 0, .int 0] j := fun j hj => match j, hj with | 0, _ => rfl | 1, _ => rfl | 2, _ => rfl | 3, _ => rfl | 4, _ => rfl | 5, _ => rfl | 6, _ => rfl | 7, _ => rfl | 8, _ => rfl | 9, _ => rfl | 10, _ => rfl | 11, _ => rfl | k + 12, h => no_ge h
theorem df_Sy : ∀ j, j < 2 → defaultValue (t_Sy j) = vp_V [.null, .int 0] j := fun j hj => match j, hj with | 0, _ => rfl | 1, _ => rfl | k + 2, h => no_ge h
theorem df_Ob : ∀ j, j < 10 → defaultValue (t_Ob j) = vp_V [.null, .null, .null, .null, .null, .null, .null, .null, .long 0, .int 0] j := fun j hj => match j, hj with | 0, _ => rfl | 1, _ => rfl | 2, _ => rfl | 3, _ => rfl | 4, _ => rfl | 5, _ => rfl | 6, _ => rfl | 7, _ => rfl | 8, _ => rfl | 9, _ => rfl | k + 10, h => no_ge h
theorem df_Mo : ∀ j, j < 24 → defaultValue (t_Mo j) = vp_V [.null, .int 0, .int 0, .int 0, .int 0, .null, .null, .null, .null, .null, .null, .null, .int 0, .null, .int 0, .null, .null, .int 0, .null, .int 0, .long 0, .int 0, .long 0, .int 0] j := fun j hj => match j, hj with | 0, _ => rfl | 1, _ => rfl | 2, _ => rfl | 3, _ => rfl | 4, _ => rfl | 5, _ => rfl | 6, _ => rfl | 7, _ => rfl | 8, _ => rfl | 9, _ => rfl | 10, _ => rfl | 11, _ => rfl | 12, _ => rfl | 13, _ => rfl | 14, _ => rfl | 15, _ => rfl | 16, _ => rfl | 17, _ => rfl | 18, _ => rfl | 19, _ => rfl | 20, _ => rfl | 21, _ => rfl | 22, _ => rfl | 23, _ => rfl | k + 24, h => no_ge h
