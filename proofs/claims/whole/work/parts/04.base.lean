/-! My own rows over the kit's: a contract's form (a world of cells, fixed addresses, no new cell), its entry, its ends, its calls. -/
section CTB
/-- the one call between nest mates that the methods have (a word that a call doesn't hand on by itself) -/
abbrev nw_1 : Cond := Cond.methodLinkNest "DecimalPatterns$Symbols" 29 ⟨"DecimalPatterns", "isPlain", "(I)Z"⟩ "DecimalPatterns"
def bI : Bool → Int32
  | true => 1
  | false => 0
theorem bI_nar (b : Bool) : narrow .boolean (.int (bI b)) = .int (bI b) := by cases b <;> rfl
theorem bI_fit (b : Bool) : fits .boolean (.int (bI b)) = true := by cases b <;> rfl
theorem bI_0 (b : Bool) : bI b = 0 ↔ b = false := by cases b <;> decide
theorem bI_n0 (b : Bool) : ¬ bI b = 0 ↔ b = true := by cases b <;> decide
theorem ct_fm {ws w : va_W} {is : List Nat} (h : is.map (fun i => ws[i]?) = w.map some) : is.filterMap (fun i => ws[i]?) = w := by
  have h1 : is.filterMap (fun i => ws[i]?) = (is.map (fun i => ws[i]?)).filterMap id := by rw [List.filterMap_map]; rfl
  rw [h1, h, List.filterMap_map]
  show w.filterMap (fun x => some x) = w
  exact List.filterMap_some
abbrev ct_pre (D : va_G) (cl : List vw_C) (tys : List (ClassId × FieldType)) (wc : va_W) (sz : Nat) : State → Prop := fun U => U.heap.size = sz ∧ va_P D cl wc U.heap ∧ va_K D cl tys U ∧ va_D (fun _ => True) wc ∧ va_Nw nw_1 U
abbrev ct_at (D : va_G) (cl : List vw_C) (tys : List (ClassId × FieldType)) (A : Nat → Prop) (w : va_W) : State → Prop := fun t => va_P D cl w t.heap ∧ va_K D cl tys t ∧ va_D A w
def ct_M (cl : List vw_C) (l : Launch) (D : va_G) (tys : List (ClassId × FieldType)) (y : MethodName) (ws : List Cond) (rm : Room) (av : List Value) (wc : va_W) (Qc : (Nat → Prop) → Array Value → State → Outcome → State → Prop) : Prop :=
  ∀ sz : Nat, Met l y ws rm (va_Pc av (ct_pre D cl tys wc sz)) (Qc (va_A wc sz)) 0 0 (va_A wc sz)
abbrev ct_qi (cl : List vw_C) (D : va_G) (tys : List (ClassId × FieldType)) {S : Type} (post : Int32 → S → Prop) (w1 : S → va_W) : (Nat → Prop) → Array Value → State → Outcome → State → Prop := fun A => va_Qi post (fun u t => ct_at D cl tys A (w1 u) t) A
abbrev ct_qz (cl : List vw_C) (D : va_G) (tys : List (ClassId × FieldType)) {S : Type} (post : Bool → S → Prop) (w1 : S → va_W) : (Nat → Prop) → Array Value → State → Outcome → State → Prop := fun A => va_Qi (fun r (u : Bool × S) => r = bI u.1 ∧ post u.1 u.2) (fun u t => ct_at D cl tys A (w1 u.2) t) A
abbrev ct_ql (cl : List vw_C) (D : va_G) (tys : List (ClassId × FieldType)) {S : Type} (post : Int64 → S → Prop) (w1 : S → va_W) : (Nat → Prop) → Array Value → State → Outcome → State → Prop := fun A => va_Ql post (fun u t => ct_at D cl tys A (w1 u) t) A
abbrev ct_qv (cl : List vw_C) (D : va_G) (tys : List (ClassId × FieldType)) {S : Type} (post : S → Prop) (w1 : S → va_W) : (Nat → Prop) → Array Value → State → Outcome → State → Prop := fun A => va_Qv post (fun u t => ct_at D cl tys A (w1 u) t) A
abbrev ct_qr (cl : List vw_C) (D : va_G) (tys : List (ClassId × FieldType)) {S : Type} (post : Nat → S → Prop) (w1 : S → va_W) : (Nat → Prop) → Array Value → State → Outcome → State → Prop := fun A => va_Qr (fun u : Nat × S => post u.1 u.2) (fun u a t => a = u.1 ∧ ct_at D cl tys A (w1 u.2) t) A
theorem ct_enter {cl : List vw_C} {l : Launch} {D : va_G} {tys : List (ClassId × FieldType)} {y : MethodName} {ws ws' : List Cond} {rm : Room} {av : List Value} {wc : va_W} {Qc : (Nat → Prop) → Array Value → State → Outcome → State → Prop} {cc : ByteArray} {maxL : Nat} {ret : Option FieldType}
    (hy : plainName y.cls = true) (hw : ws = Cond.code y cc maxL ret :: ws') (hlen : (lg_sl av).length ≤ maxL)
    (body : ∀ (p : Program) (e : Env) (s : State) (m : MethodId) (args : Array Value) (below : List Frame) (meth : Method) (c : Code) (A : Nat → Prop) (ls : Array Slot), p.tables.exec = Jvm.exec → c.code = cc → meth.sig.returnType = ret → meth.locks = false → c.maxLocals = maxL → (∀ w ∈ ws, w.before args s = true) → s.vm.findClass y.cls = some m.cls →
      (∀ q : Nat, s.heap.size ≤ q → A q) → va_S A s.heap s.heap [] → va_P D cl wc s.heap → va_K D cl tys s → va_Nw nw_1 s → va_D A wc → lv_has ls maxL (lv_args 0 av) →
      W p l e rm s m args below meth c s.heap [] 0 0 (MQ below (Qc A) args s 0 0 A) (F0 m 0 ls [])) : ct_M cl l D tys y ws rm av wc Qc := by
  intro sz
  refine Met.ofW (cc := cc) (maxL := maxL) (ret := ret) hy hw ?_
  intro p e s m args below meth c s₁ B hml hv
  obtain ⟨rfl, hsz, hP, hK, hD0, hN⟩ := hv
  subst hsz
  have hD := hD0.self (sz := s.heap.size)
  have hts := atoms_spec (ws := ws) B.pre
  rw [lg_entry_eq]
  exact body p e s m av.toArray below meth c (va_A wc s.heap.size) _ B.exec B.bytes B.returns B.notSynchronized hml hts (findClass_of_methodNamed B.named) (fun q h => Or.inr h) va_S.rf hP hK hN hD (lv_entry av hlen)
theorem ct_enterF {cl : List vw_C} {l : Launch} {D : va_G} {tys : List (ClassId × FieldType)} {y : MethodName} {ws ws' : List Cond} {rm : Room} {av : List Value} {wc : va_W} {Qc : (Nat → Prop) → Array Value → State → Outcome → State → Prop} {cc : ByteArray} {maxL : Nat} {ret : Option FieldType}
    (hy : plainFor y = true) (hw : ws = Cond.code y cc maxL ret :: ws') (hlen : (lg_sl av).length ≤ maxL)
    (body : ∀ (p : Program) (e : Env) (s : State) (m : MethodId) (args : Array Value) (below : List Frame) (meth : Method) (c : Code) (A : Nat → Prop) (ls : Array Slot), p.tables.exec = Jvm.exec → c.code = cc → meth.sig.returnType = ret → meth.locks = false → c.maxLocals = maxL → (∀ w ∈ ws, w.before args s = true) → s.vm.findClass y.cls = some m.cls →
      (∀ q : Nat, s.heap.size ≤ q → A q) → va_S A s.heap s.heap [] → va_P D cl wc s.heap → va_K D cl tys s → va_Nw nw_1 s → va_D A wc → lv_has ls maxL (lv_args 0 av) →
      W p l e rm s m args below meth c s.heap [] 0 0 (MQ below (Qc A) args s 0 0 A) (F0 m 0 ls [])) : ct_M cl l D tys y ws rm av wc Qc := by
  intro sz
  refine va_MetF (cc := cc) (maxL := maxL) (ret := ret) hy hw ?_
  intro p e s m args below meth c s₁ B hml hv
  obtain ⟨rfl, hsz, hP, hK, hD0, hN⟩ := hv
  subst hsz
  have hD := hD0.self (sz := s.heap.size)
  have hts := atoms_spec (ws := ws) B.pre
  rw [lg_entry_eq]
  exact body p e s m av.toArray below meth c (va_A wc s.heap.size) _ B.exec B.bytes B.returns B.notSynchronized hml hts (findClass_of_methodNamed B.named) (fun q h => Or.inr h) va_S.rf hP hK hN hD (lv_entry av hlen)
section CTW
variable {p : Program} {l : Launch} {e : Env} {R : Room} {s : State} {m : MethodId} {args : Array Value} {below : List Frame} {meth : Method} {c : Code} {H : Heap} {locs : List Loc} {cells slots : Nat} {Q : State → Prop}
variable {cc : ByteArray} {pc : Nat} {ls : Array Slot} {rest st0 : List Value} {D : va_G} {cl : List vw_C} {A : Nat → Prop} {tys : List (ClassId × FieldType)} {H0 : Heap} {a : Array Value}
theorem ct_iret {S : Type} {post : Int32 → S → Prop} {w1 : S → va_W} {v : Int32} (hx : p.tables.exec = Jvm.exec) (hb : c.code = cc) (hr : meth.sig.returnType = some .int) (hlk : meth.locks = false) (hK : va_K D cl tys s) (hS : va_S A s.heap H locs) (u : S) (hq : post v u) (hP : va_P D cl (w1 u) H) (hD : va_D A (w1 u)) (hdg : decode cc pc = .ok (.ireturn, 1)) :
    W p l e R s m args below meth c H locs 0 0 (MQ below (ct_qi cl D tys post w1 A) args s 0 0 A) (F0 m pc ls [.int v]) :=
  W.iret (v := v) hx hb hr (fun t ht hW => ⟨⟨v, u, rfl, hq, by rw [ht]; exact hP, va_K.moved hW.alike hK, hD⟩, hS.F ht⟩) hS.2.2 hdg hlk
theorem ct_zret {S : Type} {post : Bool → S → Prop} {w1 : S → va_W} (v : Bool) (hx : p.tables.exec = Jvm.exec) (hb : c.code = cc) (hr : meth.sig.returnType = some .boolean) (hlk : meth.locks = false) (hK : va_K D cl tys s) (hS : va_S A s.heap H locs) (u : S) (hq : post v u) (hP : va_P D cl (w1 u) H) (hD : va_D A (w1 u)) (hdg : decode cc pc = .ok (.ireturn, 1)) :
    W p l e R s m args below meth c H locs 0 0 (MQ below (ct_qz cl D tys post w1 A) args s 0 0 A) (F0 m pc ls [.int (bI v)]) :=
  W.zret (v := bI v) (ty := .boolean) hx hb hr (bI_nar v) (fun t ht hW => ⟨⟨bI v, (v, u), rfl, ⟨rfl, hq⟩, by rw [ht]; exact hP, va_K.moved hW.alike hK, hD⟩, hS.F ht⟩) hS.2.2 hdg hlk
theorem ct_lret {S : Type} {post : Int64 → S → Prop} {w1 : S → va_W} {v : Int64} (hx : p.tables.exec = Jvm.exec) (hb : c.code = cc) (hr : meth.sig.returnType = some .long) (hlk : meth.locks = false) (hK : va_K D cl tys s) (hS : va_S A s.heap H locs) (u : S) (hq : post v u) (hP : va_P D cl (w1 u) H) (hD : va_D A (w1 u)) (hdg : decode cc pc = .ok (.lreturn, 1)) :
    W p l e R s m args below meth c H locs 0 0 (MQ below (ct_ql cl D tys post w1 A) args s 0 0 A) (F0 m pc ls [.long v]) :=
  W.lret (v := v) hx hb hr (fun t ht hW => ⟨⟨v, u, rfl, hq, by rw [ht]; exact hP, va_K.moved hW.alike hK, hD⟩, hS.F ht⟩) hS.2.2 hdg hlk
theorem ct_vret {S : Type} {post : S → Prop} {w1 : S → va_W} (hx : p.tables.exec = Jvm.exec) (hb : c.code = cc) (hr : meth.sig.returnType = none) (hlk : meth.locks = false) (hK : va_K D cl tys s) (hS : va_S A s.heap H locs) (u : S) (hq : post u) (hP : va_P D cl (w1 u) H) (hD : va_D A (w1 u)) (hdg : decode cc pc = .ok (.return_, 1)) :
    W p l e R s m args below meth c H locs 0 0 (MQ below (ct_qv cl D tys post w1 A) args s 0 0 A) (F0 m pc ls []) :=
  W.vret hx hb hr (fun t ht hW => ⟨⟨u, rfl, hq, by rw [ht]; exact hP, va_K.moved hW.alike hK, hD⟩, hS.F ht⟩) hS.2.2 hdg hlk
theorem ct_aret {S : Type} {post : Nat → S → Prop} {w1 : S → va_W} {v : Nat} {rt : FieldType} (hx : p.tables.exec = Jvm.exec) (hb : c.code = cc) (hr : meth.sig.returnType = some rt) (hrt : (∃ n, rt = .object n) ∨ ∃ t, rt = .array t) (hlk : meth.locks = false) (hK : va_K D cl tys s) (hS : va_S A s.heap H locs) (u : S) (hq : post v u) (hP : va_P D cl (w1 u) H) (hD : va_D A (w1 u)) (hdg : decode cc pc = .ok (.areturn, 1)) :
    W p l e R s m args below meth c H locs 0 0 (MQ below (ct_qr cl D tys post w1 A) args s 0 0 A) (F0 m pc ls [.ref v]) :=
  W.aret (v := .ref v) hx hb hr hrt (Or.inr ⟨v, rfl⟩) (fun t ht hW => ⟨⟨(v, u), v, rfl, hq, rfl, by rw [ht]; exact hP, va_K.moved hW.alike hK, hD⟩, hS.F ht⟩) hS.2.2 hdg hlk
/-- the cells at the places -/
abbrev ct_pk (ws : va_W) (is : List Nat) : va_W := is.filterMap (fun i => ws[i]?)
theorem ct_join {ws wc wr w1 wn : va_W} {H1 : Heap} (hP : va_P D cl ws H) (hD : va_D A ws) (isC isR isN : List Nat) (hC : isC.map (fun i => ws[i]?) = wc.map some) (hR : isR.map (fun i => ws[i]?) = wr.map some) (hn : va_nd isR = true) (hdis : ∀ i ∈ isR, i ∉ isC)
    (hk : ∀ q : Nat, q < H.size → ¬ va_A wc H.size q → H1[q]? = H[q]?) (hF : ∀ q, va_A wc H.size q → A q) (hP1 : va_P D cl w1 H1) (hD1 : va_D (va_A wc H.size) w1) (hN : isN.map (fun i => (wr ++ w1)[i]?) = wn.map some) (hnN : va_nd isN = true) : va_P D cl wn H1 ∧ va_D A wn := by
  obtain ⟨hPj, hDj⟩ := va_join hP hD isC isR hC hR hn hdis hk hF hP1 hD1
  exact ⟨hPj.sub isN (ct_fm hN), hDj.sub isN hnN hN⟩
theorem ct_calli {S : Type} {post : Int32 → S → Prop} {w1 wn : S → va_W} {wc ws : va_W} (hr : va_Run p l e R s m args below meth c H locs cells slots 0 0 (F0 m pc ls st0) rest (ct_qi cl D tys post w1 (va_A wc H.size) a) (va_A wc H.size))
    (hP : va_P D cl ws H) (hD : va_D A ws) (hS : va_S A H0 H locs) (hA : ∀ q, H0.size ≤ q → A q) (isC isR isN : List Nat) (hC : isC.map (fun i => ws[i]?) = wc.map some) (hR : isR.map (fun i => ws[i]?) = (ct_pk ws isR).map some) (hn : va_nd isR = true) (hdis : ∀ i ∈ isR, i ∉ isC) (hN : ∀ u, isN.map (fun i => (ct_pk ws isR ++ w1 u)[i]?) = (wn u).map some) (hnN : va_nd isN = true)
    (kk : ∀ (r : Int32) (u : S) (H1 : Heap) (locs1 : List Loc), post r u → va_P D cl (wn u) H1 → va_D A (wn u) → va_S A H0 H1 locs1 → W p l e R s m args below meth c H1 locs1 cells slots Q (F0 m (pc + 3) ls (.int r :: rest))) : W p l e R s m args below meth c H locs cells slots Q (F0 m pc ls st0) := by
  have hF := va_free hD hS hA isC hC
  refine va_calli hr hS (fun q _ h => hF q h) hF (fun r u t H1 locs1 ht hvm hp hB hz hk hS1 => ?_)
  obtain ⟨hP1, -, hD1⟩ := hB
  rw [ht] at hP1
  obtain ⟨hPj, hDj⟩ := ct_join hP hD isC isR isN hC hR hn hdis hk hF hP1 hD1 (hN u) hnN
  exact kk r u H1 locs1 hp hPj hDj hS1
theorem ct_callz {S : Type} {post : Bool → S → Prop} {w1 wn : S → va_W} {wc ws : va_W} (hr : va_Run p l e R s m args below meth c H locs cells slots 0 0 (F0 m pc ls st0) rest (ct_qz cl D tys post w1 (va_A wc H.size) a) (va_A wc H.size))
    (hP : va_P D cl ws H) (hD : va_D A ws) (hS : va_S A H0 H locs) (hA : ∀ q, H0.size ≤ q → A q) (isC isR isN : List Nat) (hC : isC.map (fun i => ws[i]?) = wc.map some) (hR : isR.map (fun i => ws[i]?) = (ct_pk ws isR).map some) (hn : va_nd isR = true) (hdis : ∀ i ∈ isR, i ∉ isC) (hN : ∀ u, isN.map (fun i => (ct_pk ws isR ++ w1 u)[i]?) = (wn u).map some) (hnN : va_nd isN = true)
    (kk : ∀ (r : Bool) (u : S) (H1 : Heap) (locs1 : List Loc), post r u → va_P D cl (wn u) H1 → va_D A (wn u) → va_S A H0 H1 locs1 → W p l e R s m args below meth c H1 locs1 cells slots Q (F0 m (pc + 3) ls (.int (bI r) :: rest))) : W p l e R s m args below meth c H locs cells slots Q (F0 m pc ls st0) := by
  have hF := va_free hD hS hA isC hC
  refine va_calli hr hS (fun q _ h => hF q h) hF (fun r u t H1 locs1 ht hvm hp hB hz hk hS1 => ?_)
  obtain ⟨hP1, -, hD1⟩ := hB
  rw [ht] at hP1
  obtain ⟨hPj, hDj⟩ := ct_join hP hD isC isR isN hC hR hn hdis hk hF hP1 hD1 (hN u.2) hnN
  rw [hp.1]
  exact kk u.1 u.2 H1 locs1 hp.2 hPj hDj hS1
theorem ct_calll {S : Type} {post : Int64 → S → Prop} {w1 wn : S → va_W} {wc ws : va_W} (hr : va_Run p l e R s m args below meth c H locs cells slots 0 0 (F0 m pc ls st0) rest (ct_ql cl D tys post w1 (va_A wc H.size) a) (va_A wc H.size))
    (hP : va_P D cl ws H) (hD : va_D A ws) (hS : va_S A H0 H locs) (hA : ∀ q, H0.size ≤ q → A q) (isC isR isN : List Nat) (hC : isC.map (fun i => ws[i]?) = wc.map some) (hR : isR.map (fun i => ws[i]?) = (ct_pk ws isR).map some) (hn : va_nd isR = true) (hdis : ∀ i ∈ isR, i ∉ isC) (hN : ∀ u, isN.map (fun i => (ct_pk ws isR ++ w1 u)[i]?) = (wn u).map some) (hnN : va_nd isN = true)
    (kk : ∀ (r : Int64) (u : S) (H1 : Heap) (locs1 : List Loc), post r u → va_P D cl (wn u) H1 → va_D A (wn u) → va_S A H0 H1 locs1 → W p l e R s m args below meth c H1 locs1 cells slots Q (F0 m (pc + 3) ls (.long r :: rest))) : W p l e R s m args below meth c H locs cells slots Q (F0 m pc ls st0) := by
  have hF := va_free hD hS hA isC hC
  refine va_calll hr hS (fun q _ h => hF q h) hF (fun r u t H1 locs1 ht hvm hp hB hz hk hS1 => ?_)
  obtain ⟨hP1, -, hD1⟩ := hB
  rw [ht] at hP1
  obtain ⟨hPj, hDj⟩ := ct_join hP hD isC isR isN hC hR hn hdis hk hF hP1 hD1 (hN u) hnN
  exact kk r u H1 locs1 hp hPj hDj hS1
theorem ct_callv {S : Type} {post : S → Prop} {w1 wn : S → va_W} {wc ws : va_W} (hr : va_Run p l e R s m args below meth c H locs cells slots 0 0 (F0 m pc ls st0) rest (ct_qv cl D tys post w1 (va_A wc H.size) a) (va_A wc H.size))
    (hP : va_P D cl ws H) (hD : va_D A ws) (hS : va_S A H0 H locs) (hA : ∀ q, H0.size ≤ q → A q) (isC isR isN : List Nat) (hC : isC.map (fun i => ws[i]?) = wc.map some) (hR : isR.map (fun i => ws[i]?) = (ct_pk ws isR).map some) (hn : va_nd isR = true) (hdis : ∀ i ∈ isR, i ∉ isC) (hN : ∀ u, isN.map (fun i => (ct_pk ws isR ++ w1 u)[i]?) = (wn u).map some) (hnN : va_nd isN = true)
    (kk : ∀ (u : S) (H1 : Heap) (locs1 : List Loc), post u → va_P D cl (wn u) H1 → va_D A (wn u) → va_S A H0 H1 locs1 → W p l e R s m args below meth c H1 locs1 cells slots Q (F0 m (pc + 3) ls rest)) : W p l e R s m args below meth c H locs cells slots Q (F0 m pc ls st0) := by
  have hF := va_free hD hS hA isC hC
  refine va_callv hr hS (fun q _ h => hF q h) hF (fun u t H1 locs1 ht hvm hp hB hz hk hS1 => ?_)
  obtain ⟨hP1, -, hD1⟩ := hB
  rw [ht] at hP1
  obtain ⟨hPj, hDj⟩ := ct_join hP hD isC isR isN hC hR hn hdis hk hF hP1 hD1 (hN u) hnN
  exact kk u H1 locs1 hp hPj hDj hS1
theorem ct_callr {S : Type} {post : Nat → S → Prop} {w1 wn : S → va_W} {wc ws : va_W} (hr : va_Run p l e R s m args below meth c H locs cells slots 0 0 (F0 m pc ls st0) rest (ct_qr cl D tys post w1 (va_A wc H.size) a) (va_A wc H.size))
    (hP : va_P D cl ws H) (hD : va_D A ws) (hS : va_S A H0 H locs) (hA : ∀ q, H0.size ≤ q → A q) (isC isR isN : List Nat) (hC : isC.map (fun i => ws[i]?) = wc.map some) (hR : isR.map (fun i => ws[i]?) = (ct_pk ws isR).map some) (hn : va_nd isR = true) (hdis : ∀ i ∈ isR, i ∉ isC) (hN : ∀ u, isN.map (fun i => (ct_pk ws isR ++ w1 u)[i]?) = (wn u).map some) (hnN : va_nd isN = true)
    (kk : ∀ (r : Nat) (u : S) (H1 : Heap) (locs1 : List Loc), post r u → va_P D cl (wn u) H1 → va_D A (wn u) → va_S A H0 H1 locs1 → W p l e R s m args below meth c H1 locs1 cells slots Q (F0 m (pc + 3) ls (.ref r :: rest))) : W p l e R s m args below meth c H locs cells slots Q (F0 m pc ls st0) := by
  have hF := va_free hD hS hA isC hC
  refine va_callr hr hS (fun q _ h => hF q h) hF (fun u ra t H1 locs1 ht hvm hp hB hz hk hS1 => ?_)
  obtain ⟨rfl, hP1, -, hD1⟩ := hB
  rw [ht] at hP1
  obtain ⟨hPj, hDj⟩ := ct_join hP hD isC isR isN hC hR hn hdis hk hF hP1 hD1 (hN u.2) hnN
  exact kk u.1 u.2 H1 locs1 hp hPj hDj hS1
theorem ct_blind (av : List Value) (wc : va_W) (sz : Nat) : FrameBlind (va_Pc av (ct_pre D cl tys wc sz)) := fun a U g mk h => by
  obtain ⟨q0, q1, qP, qK, qD, qN⟩ := h
  exact ⟨q0, q1, qP, va_K.moved (u := U) (U := U.calling g mk a) (Vm.Alike.refl U.vm) qK, qD, va_Nw.same rfl (u := U) (U := U.calling g mk a) rfl qN⟩
theorem ct_preS {ws wc : va_W} (hP : va_P D cl ws H) (hD : va_D A ws) (hK : va_K D cl tys s) (hN : va_Nw nw_1 s) (isC : List Nat) (hC : isC.map (fun i => ws[i]?) = wc.map some) (hnC : va_nd isC = true) (As : List Value) : PreS s H (va_Pc As (ct_pre D cl tys wc H.size)) As :=
  ⟨ct_blind _ _ _, fun U hU hW => ⟨rfl, by rw [hU], by rw [hU]; exact hP.sub isC (ct_fm hC), va_K.moved hW.alike hK, (hD.sub isC hnC hC).weaken (fun _ _ _ _ => trivial), va_Nw.warmM hW hN⟩⟩
theorem ct_preV {ws wc : va_W} (hP : va_P D cl ws H) (hD : va_D A ws) (hK : va_K D cl tys s) (hN : va_Nw nw_1 s) (isC : List Nat) (hC : isC.map (fun i => ws[i]?) = wc.map some) (hnC : va_nd isC = true) {b : Nat} {ci : Nat} {fs : List Value} {C : String} {T : u_T} {N : Nat} (q0 : Nat) (he : ws[q0]? = some (b, .inr (ci, fs))) (hc : cl[ci]? = some (C, T, N)) (As : List Value) : PreV s H C b (va_Pc (.ref b :: As) (ct_pre D cl tys wc H.size)) As :=
  ⟨ct_blind _ _ _, va_recv hK hP hc he, fun U hU hW => ⟨rfl, by rw [hU], by rw [hU]; exact hP.sub isC (ct_fm hC), va_K.moved hW.alike hK, (hD.sub isC hnC hC).weaken (fun _ _ _ _ => trivial), va_Nw.warmM hW hN⟩⟩
end CTW
end CTB
section CWs
variable {R : Room} {s : State} {args : Array Value} {own C : String} {index maxL : Nat} {y : MethodName} {bytes : ByteArray} {ret : Option FieldType} {rm : Room}
theorem ct_cwV (n : Nat) (htb : ∀ w ∈ tbl, w.before args s = true) (hc : Cond.code y bytes maxL ret ∈ tbl) (hrc : rm.cells = 0) (hrs : rm.slots = 0) (hini : Cond.initialized y.cls ∈ tbl) (hl : Cond.methodLink own index y ∈ tbl) (hin : Cond.instanceMethod y ∈ tbl) (hsel : Cond.selects C y y ∈ tbl)
    (hd : y.cls ≠ "java/lang/invoke/MethodHandle" ∧ y.cls ≠ "java/lang/invoke/VarHandle" ∧ (parseMethodDescriptor y.desc).map (fun d => d.parameters.length) = some n) (hR : rm.frames + 1 ≤ R.frames ∧ 8 + (maxL + 11) + rm.locals ≤ R.locals) : CallW R s args own C index y bytes maxL ret (Cond.code y bytes maxL ret :: tbl) rm 0 0 n :=
  ⟨callB_of n htb (gi hc) rfl hrc hrs (htb _ hini) (htb _ hl) hd hR, htb _ hin, htb _ hsel⟩
theorem ct_cwS (n : Nat) (htb : ∀ w ∈ tbl, w.before args s = true) (hc : Cond.code y bytes maxL ret ∈ tbl) (hrc : rm.cells = 0) (hrs : rm.slots = 0) (hini : Cond.initialized y.cls ∈ tbl) (hl : Cond.methodLink own index y ∈ tbl) (hst : Cond.static y ∈ tbl)
    (hd : y.cls ≠ "java/lang/invoke/MethodHandle" ∧ y.cls ≠ "java/lang/invoke/VarHandle" ∧ (parseMethodDescriptor y.desc).map (fun d => d.parameters.length) = some n) (hR : rm.frames + 1 ≤ R.frames ∧ 8 + (maxL + 11) + rm.locals ≤ R.locals) : CallB R s args own index y bytes maxL ret (Cond.code y bytes maxL ret :: tbl) rm 0 0 n ∧ (Cond.static y).before args s = true :=
  ⟨callB_of n htb (gi hc) rfl hrc hrs (htb _ hini) (htb _ hl) hd hR, htb _ hst⟩
theorem ct_cwSN {host : String} (n : Nat) (htb : ∀ w ∈ tbl, w.before args s = true) (hc : Cond.code y bytes maxL ret ∈ tbl) (hrc : rm.cells = 0) (hrs : rm.slots = 0) (hini : Cond.initialized y.cls ∈ tbl) (hl : va_Nw (.methodLinkNest own index y host) s) (hst : Cond.static y ∈ tbl)
    (hd : y.cls ≠ "java/lang/invoke/MethodHandle" ∧ y.cls ≠ "java/lang/invoke/VarHandle" ∧ (parseMethodDescriptor y.desc).map (fun d => d.parameters.length) = some n) (hR : rm.frames + 1 ≤ R.frames ∧ 8 + (maxL + 11) + rm.locals ≤ R.locals) : va_CN R s args own index y host bytes maxL ret (Cond.code y bytes maxL ret :: tbl) rm 0 0 n ∧ (Cond.static y).before args s = true ∧ True :=
  ⟨va_cnB n htb (gi hc) rfl hrc hrs hl (htb _ hini) hd hR, htb _ hst, trivial⟩
end CWs
