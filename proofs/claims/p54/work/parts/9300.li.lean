/-! lists: what they stand on; contracts over the whole world, and their calls -/
/-- where the cache's boxes lie; the places that boxes of the world may have -/
abbrev li_ad : Type := (Nat → Nat) × (Nat → Prop)
def li_hn : MethodName := ⟨"java/util/Iterator", "hasNext", "()Z"⟩
def li_nx : MethodName := ⟨"java/util/Iterator", "next", "()Ljava/lang/Object;"⟩
/-- and of what the constructors make -/
theorem va_AOA.moved {t : FieldType} {u U : State} (hvm : u.vm.Alike U.vm) (h : va_AOA t u) : va_AOA t U := Jvm.Stand.arrayOver_alikeB (args' := #[]) (first' := U) (o' := none) (idx' := []) hvm h
def li_c (U : State) : Prop := va_AO RX3 U ∧ va_AO RX5 U ∧ va_AOA .int U ∧ va_AOA .char U ∧ va_Nw (.castable "java/util/ArrayList" "java/lang/Object") U ∧ va_Nw (.methodLinkNest RX5 9 yX0_init "FairwayChancery") U ∧ va_Nw (.methodLinkNest RX4 11 yX0_init "FairwayChancery") U
theorem li_c.moved {s U : State} (hW : s.WarmedH U.vm) (h : li_c s) : li_c U := ⟨va_AO.moved hW.alike h.1, va_AO.moved hW.alike h.2.1, va_AOA.moved hW.alike h.2.2.1, va_AOA.moved hW.alike h.2.2.2.1, va_Nw.warmC hW h.2.2.2.2.1, va_Nw.warmM hW h.2.2.2.2.2.1, va_Nw.warmM hW h.2.2.2.2.2.2⟩
theorem li_c.blind {U : State} {g : JFrame} {mk : MethodId} {a : Array Value} (h : li_c U) : li_c (U.calling g mk a) := ⟨va_AO.moved (u := U) (Vm.Alike.refl U.vm) h.1, va_AO.moved (u := U) (Vm.Alike.refl U.vm) h.2.1, va_AOA.moved (u := U) (Vm.Alike.refl U.vm) h.2.2.1, va_AOA.moved (u := U) (Vm.Alike.refl U.vm) h.2.2.2.1, va_Nw.same (u := U) rfl rfl h.2.2.2.2.1, va_Nw.same (u := U) rfl rfl h.2.2.2.2.2.1, va_Nw.same (u := U) rfl rfl h.2.2.2.2.2.2⟩
/-- what the tables say besides -/
def li_o (U : State) : Prop := va_AO "java/lang/Object" U ∧ va_Nw (.castable "java/lang/Integer" "java/lang/Object") U ∧ va_Fw RJx35411 li_hn yJx35411_hasNext_aae02 U ∧ va_Fw RJx35411 li_nx yJx35411_next_0502b U ∧ va_Dc U ∧ va_Nw (.fieldLinkNest RJx35411 28 "java/util/ArrayList" "size" "I" "java/util/ArrayList") U ∧ li_c U
theorem li_o.moved {s U : State} (hW : s.WarmedH U.vm) (h : li_o s) : li_o U := ⟨va_AO.moved hW.alike h.1, va_Nw.warmC hW h.2.1, va_Fw.moved (by decide) hW.alike h.2.2.1, va_Fw.moved (by decide) hW.alike h.2.2.2.1, va_Dc.moved hW.alike h.2.2.2.2.1, va_Nw.warmF hW h.2.2.2.2.2.1, h.2.2.2.2.2.2.moved hW⟩
theorem li_o.blind {U : State} {g : JFrame} {mk : MethodId} {a : Array Value} (h : li_o U) : li_o (U.calling g mk a) := ⟨va_AO.moved (u := U) (Vm.Alike.refl U.vm) h.1, va_Nw.same (u := U) rfl rfl h.2.1, va_Fw.moved (by decide) (u := U) (Vm.Alike.refl U.vm) h.2.2.1, va_Fw.moved (by decide) (u := U) (Vm.Alike.refl U.vm) h.2.2.2.1, va_Dc.moved (u := U) (Vm.Alike.refl U.vm) h.2.2.2.2.1, va_Nw.same (u := U) rfl rfl h.2.2.2.2.2.1, h.2.2.2.2.2.2.blind⟩
/-- what lies outside: the shared empty array e0, the cache of Integers; ca is the class object of the arrays of objects -/
def li_f (e0 ca : Nat) (ad : li_ad) (A : Nat → Prop) (U : State) (H : Heap) : Prop := va_Z "java/util/ArrayList" "DEFAULTCAPACITY_EMPTY_ELEMENTDATA" "[Ljava/lang/Object;" (.ref e0) A U H ∧ va_T (.object "java/lang/Object") e0 0 (fun _ => .null) A U H ∧ va_Z "java/lang/Integer$IntegerCache" "high" "I" (.int 127) A U H ∧ (∃ cb : Nat, va_Z "java/lang/Integer$IntegerCache" "cache" "[Ljava/lang/Integer;" (.ref cb) A U H ∧ va_T (.object "java/lang/Integer") cb 256 (fun k => .ref (ad.1 k)) A U H) ∧ vb_C ad.1 A U H ∧ va_Mi "[Ljava/lang/Object;" ca U ∧ li_o U
theorem li_f.go {e0 ca : Nat} {ad : li_ad} {A B : Nat → Prop} {s U : State} {H : Heap} {locs : List Loc} (h : li_f e0 ca ad A s s.heap) (hS : va_S A s.heap H locs) (hW : s.WarmedH U.vm) (hU : U.heap = H) (hAB : ∀ q, B q → A q) : li_f e0 ca ad B U U.heap := by
  obtain ⟨h1, h2, h3, ⟨cb, h4, h5⟩, h6, h7, h8⟩ := h
  rw [hU]
  exact ⟨va_Z.narrow (va_Z.moved hW.alike (h1.kept hS.2.1)) hAB, va_T.narrow (va_T.moved hW.alike (h2.kept hS.2.1)) hAB, va_Z.narrow (va_Z.moved hW.alike (h3.kept hS.2.1)) hAB, ⟨cb, va_Z.narrow (va_Z.moved hW.alike (h4.kept hS.2.1)) hAB, va_T.narrow (va_T.moved hW.alike (h5.kept hS.2.1)) hAB⟩, vb_C.narrow (vb_C.moved hW.alike (h6.kept hS.2.1)) hAB, va_Mi.moved hW.alike h7, h8.moved hW⟩
theorem li_f.blind {e0 ca : Nat} {ad : li_ad} {A : Nat → Prop} {U : State} {g : JFrame} {mk : MethodId} {a : Array Value} (h : li_f e0 ca ad A U U.heap) : li_f e0 ca ad A (U.calling g mk a) (U.calling g mk a).heap := by
  obtain ⟨h1, h2, h3, ⟨cb, h4, h5⟩, h6, h7, h8⟩ := h
  exact ⟨va_Z.moved (u := U) (Vm.Alike.refl U.vm) h1, va_T.moved (u := U) (Vm.Alike.refl U.vm) h2, va_Z.moved (u := U) (Vm.Alike.refl U.vm) h3, ⟨cb, va_Z.moved (u := U) (Vm.Alike.refl U.vm) h4, va_T.moved (u := U) (Vm.Alike.refl U.vm) h5⟩, vb_C.moved (u := U) (Vm.Alike.refl U.vm) h6, va_Mi.moved (u := U) (Vm.Alike.refl U.vm) h7, h8.blind⟩
def li_B (D : va_G) (tys : List (ClassId × FieldType)) (w : va_W) (sz e0 ca : Nat) (ad : li_ad) : State → Prop := fun U => en_B D vwCl tys w sz U ∧ li_f e0 ca ad (va_A w sz) U U.heap
/-- 0 an int, 1 a reference, else nothing -/
def li_Q (rs : Nat) (D : va_G) (P : Option Value → va_W → Prop) (A : Nat → Prop) : Array Value → State → Outcome → State → Prop := match rs with
  | 0 => va_Qi (fun r w' => P (some (.int r)) w') (fun w' t => va_P D vwCl w' t.heap ∧ va_D A w') A
  | 1 => va_Qr (fun _ : va_W => True) (fun w' ra t => P (some (.ref ra)) w' ∧ va_P D vwCl w' t.heap ∧ va_D A w') A
  | _ => va_Qv (fun w' => P none w') (fun w' t => va_P D vwCl w' t.heap ∧ va_D A w') A
def li_C (l : Launch) (y : MethodName) (cy : ByteArray) (mxl : Nat) (ret : Option FieldType) (lv mc ms rs : Nat) (As : List Value) (D : va_G) (tys : List (ClassId × FieldType)) (w : va_W) (sz e0 ca : Nat) (ad : li_ad) (P : Option Value → va_W → Prop) : Prop := Met l y (Cond.code y cy mxl ret :: en_cw) (en_rm lv (mc, ms)) (va_Pc As (li_B D tys w sz e0 ca ad)) (li_Q rs D P (va_A w sz)) mc ms (va_A w sz)
def li_rv (rs : Nat) (res : Option Value) : Prop := match rs with
  | 0 => ∃ r, res = some (.int r)
  | 1 => ∃ r, res = some (.ref r)
  | _ => res = none
/-- a cell put anew -/
theorem li_set {w : va_W} {q a : Nat} {x : va_E} (h : w[q]? = some (a, x)) (x' : va_E) : ∃ w1 : va_W, w1 = w.set q (a, x') ∧ w1[q]? = some (a, x') ∧ w1.length = w.length ∧ ∀ j, j ≠ q → w1[j]? = w[j]? := by
  have hlt := (List.getElem?_eq_some_iff.mp h).1
  refine ⟨_, rfl, ?_, List.length_set, fun j hj => List.getElem?_set_ne (Ne.symm hj)⟩
  rw [List.getElem?_set_self hlt]
/-- a cell made -/
theorem li_app (w : va_W) (x : Nat × va_E) : ∃ w1 : va_W, w1 = w ++ [x] ∧ w1[w.length]? = some x ∧ w1.length = w.length + 1 ∧ ∀ j, j < w.length → w1[j]? = w[j]? := ⟨_, rfl, by simp, by simp, fun j hj => List.getElem?_append_left hj⟩
/-- a world out of another: the places of qs changed, others may be made -/
def li_sh : va_E → va_E → Prop
  | .inl a, .inl b => b.1 = a.1 ∧ b.2.1 = a.2.1
  | .inr a, .inr b => b.1 = a.1 ∧ b.2.length = a.2.length
  | _, _ => False
theorem li_sh.rf (x : va_E) : li_sh x x := by
  rcases x with a | a
  · exact ⟨rfl, rfl⟩
  · exact ⟨rfl, rfl⟩
theorem li_sh.tr {x y z : va_E} (h : li_sh x y) (g : li_sh y z) : li_sh x z := by
  rcases x with a | a <;> rcases y with b | b <;> rcases z with c | c <;> first | exact h.elim | exact g.elim | exact ⟨g.1.trans h.1, g.2.trans h.2⟩
def li_R (w w' : va_W) (qs : List Nat) : Prop := w.length ≤ w'.length ∧ (∀ j, j < w.length → j ∉ qs → w'[j]? = w[j]?) ∧ ∀ (j : Nat) (x : Nat × va_E), w[j]? = some x → ∃ x' : Nat × va_E, w'[j]? = some x' ∧ (x'.1 = x.1 ∧ li_sh x.2 x'.2)
theorem li_R.rf {w : va_W} {qs : List Nat} : li_R w w qs := ⟨Nat.le_refl _, fun _ _ _ => rfl, fun _ x h => ⟨x, h, rfl, li_sh.rf _⟩⟩
theorem li_R.tr {w w1 w2 : va_W} {qs : List Nat} (h : li_R w w1 qs) (g : li_R w1 w2 qs) : li_R w w2 qs := ⟨Nat.le_trans h.1 g.1, fun j hj hq => (g.2.1 j (Nat.lt_of_lt_of_le hj h.1) hq).trans (h.2.1 j hj hq), fun j x hx => by
  obtain ⟨x1, a, b⟩ := h.2.2 j x hx
  obtain ⟨x2, c, d⟩ := g.2.2 j x1 a
  exact ⟨x2, c, d.1.trans b.1, b.2.tr d.2⟩⟩
theorem li_R.st {w w1 : va_W} {q a : Nat} {x x' : va_E} {qs : List Nat} (h : w[q]? = some (a, x)) (hq : q ∈ qs) (h1 : w1[q]? = some (a, x')) (h2 : w1.length = w.length) (h3 : ∀ j, j ≠ q → w1[j]? = w[j]?) (hs : li_sh x x') : li_R w w1 qs := ⟨Nat.le_of_eq h2.symm, fun j _ hn => h3 j fun e => hn (e ▸ hq), fun j y hy => by
  by_cases e : j = q
  · subst e
    have e9 := Option.some.inj (hy.symm.trans h)
    subst e9
    exact ⟨_, h1, rfl, hs⟩
  · exact ⟨y, (h3 j e).trans hy, rfl, li_sh.rf _⟩⟩
theorem li_R.ap {w w1 : va_W} {qs : List Nat} (h2 : w1.length = w.length + 1) (h3 : ∀ j, j < w.length → w1[j]? = w[j]?) : li_R w w1 qs := ⟨by omega, fun j hj _ => h3 j hj, fun j y hy => ⟨y, (h3 j (List.getElem?_eq_some_iff.mp hy).1).trans hy, rfl, li_sh.rf _⟩⟩
theorem li_R.at {w w1 : va_W} {qs : List Nat} (h : li_R w w1 qs) {j : Nat} {x : Nat × va_E} (hx : w[j]? = some x) (hj : j ∉ qs) : w1[j]? = some x := (h.2.1 j (List.getElem?_eq_some_iff.mp hx).1 hj).trans hx
theorem li_R.mono {w w1 : va_W} {qs ps : List Nat} (h : li_R w w1 qs) (hs : ∀ q ∈ qs, q ∈ ps) : li_R w w1 ps := ⟨h.1, fun j hj hn => h.2.1 j hj fun hq => hn (hs j hq), h.2.2⟩
section
variable {p : Program} {l : Launch} {e : Env} {R : Room} {s : State} {m : MethodId} {args : Array Value} {below : List Frame} {meth : Method} {c : Code} {Q : State → Prop} {cc : ByteArray}
variable {D : va_G} {tys : List (ClassId × FieldType)} {A : Nat → Prop} {w : va_W} {H : Heap} {locs : List Loc} {ls : Array Slot} {pc cells slots e0 ca : Nat} {ad : li_ad} {P : Option Value → va_W → Prop} {rest As : List Value} {y : MethodName} {cy : ByteArray} {mxl lv mc ms rs n ix : Nat} {ret : Option FieldType} {own C : String} {b : Nat}
theorem li_AA (hD : va_D A w) (hS : va_S A s.heap H locs) (hA : ∀ q, s.heap.size ≤ q → A q) : ∀ q, va_A w H.size q → A q := fun q hq => by
  rcases hq with ⟨j, ej, hj⟩ | hq
  · exact hD.2 j _ hj
  · exact hA q (Nat.le_trans hS.1 hq)
theorem li_pre (hK : va_K D vwCl tys s) (hT : tf A s s.heap) (hL : li_f e0 ca ad A s s.heap) (hP : va_P D vwCl w H) (hD : va_D A w) (hS : va_S A s.heap H locs) (hA : ∀ q, s.heap.size ≤ q → A q) : FrameBlind (va_Pc As (li_B D tys w H.size e0 ca ad)) ∧ ∀ U : State, U.heap = H → s.WarmedH U.vm → va_Pc As (li_B D tys w H.size e0 ca ad) As.toArray U :=
  ⟨fun a U g mk q => ⟨q.1, q.2.1.blind, q.2.2.blind⟩, fun U hU hW => ⟨rfl, ⟨by rw [hU], by rw [hU]; exact hP, va_K.moved hW.alike hK, tf.go hT hS hW hU (li_AA hD hS hA)⟩, li_f.go hL hS hW hU (li_AA hD hS hA)⟩⟩
theorem li_call {st0 : List Value} {av : Array Value} (hD : va_D A w) (hS : va_S A s.heap H locs) (hA : ∀ q, s.heap.size ≤ q → A q)
    (hr : va_Run p l e R s m args below meth c H locs cells slots mc ms (F0 m pc ls st0) rest (li_Q rs D P (va_A w H.size) av) (va_A w H.size))
    (k : ∀ (res : Option Value) (w1 : va_W) (H1 : Heap) (locs1 : List Loc), li_rv rs res → P res w1 → va_P D vwCl w1 H1 → va_D A w1 → va_S A s.heap H1 locs1 → W p l e R s m args below meth c H1 locs1 (cells + mc) (slots + ms) Q (F0 m (pc + 3) ls (res.toList ++ rest))) :
    W p l e R s m args below meth c H locs cells slots Q (F0 m pc ls st0) := by
  have hAA := li_AA hD hS hA
  have fin : ∀ w1, va_D (va_A w H.size) w1 → va_D A w1 := fun w1 h => ⟨h.1, fun j q hq => hAA _ (h.2 j q hq)⟩
  match rs with
  | 0 => exact va_calli (a := av) hr hS (fun q _ h => hAA q h) hAA (fun r u t H1 locs1 ht hvm hw hB _ _ hS1 => k (some (.int r)) u H1 locs1 ⟨r, rfl⟩ hw (by rw [← ht]; exact hB.1) (fin u hB.2) hS1)
  | 1 => exact va_callr (a := av) hr hS (fun q _ h => hAA q h) hAA (fun u ra t H1 locs1 ht hvm hw hB _ _ hS1 => k (some (.ref ra)) u H1 locs1 ⟨ra, rfl⟩ hB.1 (by rw [← ht]; exact hB.2.1) (fin u hB.2.2) hS1)
  | n + 2 => exact va_callv (a := av) hr hS (fun q _ h => hAA q h) hAA (fun u t H1 locs1 ht hvm hw hB _ _ hS1 => k none u H1 locs1 rfl hw (by rw [← ht]; exact hB.1) (fin u hB.2) hS1)
/-- a call with a receiver -/
theorem li_cV (hM : li_C l y cy mxl ret lv mc ms rs (.ref b :: As) D tys w H.size e0 ca ad P) (hV : en_CV en_cw own ix y C cy mxl ret n) (hrc : ∃ cell : Cell, H[b]? = some cell ∧ cell.vm.isStatics = false ∧ s.vm.findClass C = some cell.cls) (hAl : As.length = n) (hlv : 40 + lv + 1 ≤ R.frames ∧ 8 + (mxl + 11) + (400 + 60 * lv) ≤ R.locals) (hcs : cells + mc ≤ R.cells ∧ slots + ms ≤ R.slots) (hwt : (rest.map fun v => v.category).sum ≤ 8)
    (hexec : p.tables.exec = Jvm.exec) (hb : c.code = cc) (hml : c.maxLocals = ls.size) (hts : ∀ w ∈ en_cw, w.before args s = true) (hown : s.vm.findClass own = some m.cls) (hK : va_K D vwCl tys s) (hT : tf A s s.heap) (hL : li_f e0 ca ad A s s.heap) (hP : va_P D vwCl w H) (hD : va_D A w) (hS : va_S A s.heap H locs) (hA : ∀ q, s.heap.size ≤ q → A q) (hdg : decode cc pc = .ok (.invokevirtual ix, 3))
    (k : ∀ (res : Option Value) (w1 : va_W) (H1 : Heap) (locs1 : List Loc), li_rv rs res → P res w1 → va_P D vwCl w1 H1 → va_D A w1 → va_S A s.heap H1 locs1 → W p l e R s m args below meth c H1 locs1 (cells + mc) (slots + ms) Q (F0 m (pc + 3) ls (res.toList ++ rest))) :
    W p l e R s m args below meth c H locs cells slots Q (F0 m pc ls (As.reverse ++ .ref b :: rest)) := by
  obtain ⟨h1, h2⟩ := li_pre (As := .ref b :: As) hK hT hL hP hD hS hA
  exact li_call hD hS hA (va_runV (As := As) (rest := rest) (b := b) (C := C) ⟨hexec, hb, rfl, hown, hts⟩ hM (cwV n hts hV.1 rfl rfl rfl hV.2 hlv) ⟨h1, hrc, h2⟩ rfl hAl hml.symm rfl (lv_room hwt) hdg hcs) k
/-- a static call -/
theorem li_cS (hM : li_C l y cy mxl ret lv mc ms rs As D tys w H.size e0 ca ad P) (hV : en_CZ en_cw own ix y cy mxl ret n) (hAl : As.length = n) (hlv : 40 + lv + 1 ≤ R.frames ∧ 8 + (mxl + 11) + (400 + 60 * lv) ≤ R.locals) (hcs : cells + mc ≤ R.cells ∧ slots + ms ≤ R.slots) (hwt : (rest.map fun v => v.category).sum ≤ 8)
    (hexec : p.tables.exec = Jvm.exec) (hb : c.code = cc) (hml : c.maxLocals = ls.size) (hts : ∀ w ∈ en_cw, w.before args s = true) (hown : s.vm.findClass own = some m.cls) (hK : va_K D vwCl tys s) (hT : tf A s s.heap) (hL : li_f e0 ca ad A s s.heap) (hP : va_P D vwCl w H) (hD : va_D A w) (hS : va_S A s.heap H locs) (hA : ∀ q, s.heap.size ≤ q → A q) (hdg : decode cc pc = .ok (.invokestatic ix, 3))
    (k : ∀ (res : Option Value) (w1 : va_W) (H1 : Heap) (locs1 : List Loc), li_rv rs res → P res w1 → va_P D vwCl w1 H1 → va_D A w1 → va_S A s.heap H1 locs1 → W p l e R s m args below meth c H1 locs1 (cells + mc) (slots + ms) Q (F0 m (pc + 3) ls (res.toList ++ rest))) :
    W p l e R s m args below meth c H locs cells slots Q (F0 m pc ls (As.reverse ++ rest)) := by
  obtain ⟨h1, h2⟩ := li_pre (As := As) hK hT hL hP hD hS hA
  exact li_call hD hS hA (va_runS (As := As) (rest := rest) ⟨hexec, hb, rfl, hown, hts⟩ hM (va_cwS n hts hV.1 rfl rfl rfl hV.2 hlv) ⟨h1, h2⟩ rfl hAl hml.symm rfl (lv_room hwt) hdg hcs) k
/-- a constructor's call -/
def li_CI (own : String) (ix : Nat) (y : MethodName) (cy : ByteArray) (mxl n : Nat) : Prop := Cond.initialized y.cls ∈ en_cw ∧ Cond.methodLink own ix y ∈ en_cw ∧ Cond.instanceMethod y ∈ en_cw ∧ Cond.code y cy mxl none ∈ en_cw ∧ y.name = "<init>" ∧ (y.cls ≠ "java/lang/invoke/MethodHandle" ∧ y.cls ≠ "java/lang/invoke/VarHandle" ∧ (parseMethodDescriptor y.desc).map (fun d => d.parameters.length) = some n)
theorem li_cI (hM : li_C l y cy mxl none lv mc ms 2 (.ref b :: As) D tys w H.size e0 ca ad P) (hV : li_CI own ix y cy mxl n) (hAl : As.length = n) (hlv : 40 + lv + 1 ≤ R.frames ∧ 8 + (mxl + 11) + (400 + 60 * lv) ≤ R.locals) (hcs : cells + mc ≤ R.cells ∧ slots + ms ≤ R.slots) (hwt : (rest.map fun v => v.category).sum ≤ 8)
    (hexec : p.tables.exec = Jvm.exec) (hb : c.code = cc) (hml : c.maxLocals = ls.size) (hts : ∀ w ∈ en_cw, w.before args s = true) (hown : s.vm.findClass own = some m.cls) (hK : va_K D vwCl tys s) (hT : tf A s s.heap) (hL : li_f e0 ca ad A s s.heap) (hP : va_P D vwCl w H) (hD : va_D A w) (hS : va_S A s.heap H locs) (hA : ∀ q, s.heap.size ≤ q → A q) (hdg : decode cc pc = .ok (.invokespecial ix, 3))
    (k : ∀ (res : Option Value) (w1 : va_W) (H1 : Heap) (locs1 : List Loc), li_rv 2 res → P res w1 → va_P D vwCl w1 H1 → va_D A w1 → va_S A s.heap H1 locs1 → W p l e R s m args below meth c H1 locs1 (cells + mc) (slots + ms) Q (F0 m (pc + 3) ls (res.toList ++ rest))) :
    W p l e R s m args below meth c H locs cells slots Q (F0 m pc ls (As.reverse ++ .ref b :: rest)) := by
  obtain ⟨h1, h2⟩ := li_pre (As := .ref b :: As) hK hT hL hP hD hS hA
  obtain ⟨v1, v2, v3, v4, v5, v6⟩ := hV
  exact li_call hD hS hA (va_runI (As := As) (rest := rest) (b := b) ⟨hexec, hb, rfl, hown, hts⟩ hM (cwI n hts (cw_g (cw_c v4 fun _ h => h)) rfl rfl rfl (hts _ v1) (hts _ v2) (hts _ v3) v5 v6 hlv) ⟨h1, h2⟩ rfl hAl hml.symm rfl (lv_room hwt) hdg hcs) k
end
/-- a box of the world, or of the cache -/
def li_x (w : va_W) (ad : li_ad) (y : Nat) : Prop := (∃ (qb : Nat) (v : Int32), ad.2 qb ∧ w[qb]? = some (y, .inr (2, [.int v]))) ∨ ∃ k : Nat, k < 256 ∧ y = ad.1 k
/-- a place that's no box -/
def li_nb (w : va_W) (q : Nat) : Prop := ∀ (y : Nat) (v : Int32), w[q]? ≠ some (y, .inr (2, [.int v]))
theorem li_x.st {w w1 : va_W} {ad : li_ad} {y : Nat} {qs : List Nat} (h : li_x w ad y) (hR : li_R w w1 qs) (hq : ∀ q ∈ qs, li_nb w q) : li_x w1 ad y := by
  rcases h with ⟨qb, v, hk, h⟩ | h
  · exact Or.inl ⟨qb, v, hk, hR.at h fun hm => hq qb hm y v h⟩
  · exact Or.inr h
theorem li_nbo {w : va_W} {q la : Nat} {vs : List Value} (h : w[q]? = some (la, .inr (5, vs))) : li_nb w q := fun y v h9 => by
  have e := (Prod.mk.inj (Option.some.inj (h.symm.trans h9))).2
  have e1 := (Prod.mk.inj (Sum.inr.inj e)).1
  exact absurd e1 (by decide)
theorem li_nba {w : va_W} {q ra : Nat} {x : ClassId × vp_A} (h : w[q]? = some (ra, .inl x)) : li_nb w q := fun y v h9 => by
  have e := (Prod.mk.inj (Option.some.inj (h.symm.trans h9))).2
  cases e
theorem li_xr {D : va_G} {tys : List (ClassId × FieldType)} {A : Nat → Prop} {s : State} {w : va_W} {H : Heap} {locs : List Loc} {e0 ca : Nat} {ad : li_ad} {y : Nat} (h : li_x w ad y) (hK : va_K D vwCl tys s) (hL : li_f e0 ca ad A s s.heap) (hP : va_P D vwCl w H) (hS : va_S A s.heap H locs) : ∃ cell : Cell, H[y]? = some cell ∧ cell.vm.isStatics = false ∧ s.vm.findClass "java/lang/Integer" = some cell.cls := by
  rcases h with ⟨qb, v, -, h⟩ | ⟨k, hk, rfl⟩
  · exact va_recv hK hP (ci := 2) (q0 := qb) rfl h
  · exact va_Orecv (hL.2.2.2.2.1.1 k hk) hS
/-- a list: its object at place q, its array at place qa (or none made yet) -/
def li_S (w : va_W) (q qa la e0 : Nat) (cL : ClassId) (n : Nat) (f : Nat → Option Nat) : Prop := ∃ (mc : Int32) (ra : Nat), w[q]? = some (la, .inr (5, [.int mc, .ref ra, .int (nI n)])) ∧ ((n = 0 ∧ ra = e0) ∨ ∃ N : Nat, w[qa]? = some (ra, .inl (cL, N, .inr (.inr (.inr (.inr f))))) ∧ n ≤ N ∧ (N = 10 ∨ N = 15 ∨ N = 22))
def li_E (w : va_W) (ad : li_ad) (n : Nat) (f : Nat → Option Nat) : Prop := ∀ k, k < n → ∃ y, f k = some y ∧ li_x w ad y
def li_L (w : va_W) (q qa la e0 : Nat) (cL : ClassId) (ad : li_ad) (n : Nat) : Prop := ∃ f : Nat → Option Nat, li_S w q qa la e0 cL n f ∧ li_E w ad n f
theorem li_E.st {w w1 : va_W} {ad : li_ad} {n : Nat} {f : Nat → Option Nat} {qs : List Nat} (h : li_E w ad n f) (hR : li_R w w1 qs) (hq : ∀ q ∈ qs, li_nb w q) : li_E w1 ad n f := fun k hk => by
  obtain ⟨y, h1, h2⟩ := h k hk
  exact ⟨y, h1, h2.st hR hq⟩
theorem li_up {f : Nat → Option Nat} {i y : Nat} : va_up f i (some y) i = some y ∧ ∀ j, j ≠ i → va_up f i (some y) j = f j := ⟨by simp [va_up], fun j hj => by simp [va_up, hj]⟩
theorem li_cA {D : va_G} {tys : List (ClassId × FieldType)} {s : State} {cL cA : ClassId} {t9 : Nat} {C : String} (hK : va_K D vwCl tys s) (hK9 : va_K D vwCl (tys ++ [(cA, .object C)]) s) (ht : tys[t9]? = some (cL, .object C)) : cA = cL := by
  obtain ⟨-, -, -, -, -, h1⟩ := (hK.2 t9 _ ht).2
  have h9 : (tys ++ [(cA, FieldType.object C)])[tys.length]? = some (cA, .object C) := by simp
  obtain ⟨-, -, -, -, -, h2⟩ := (hK9.2 tys.length _ h9).2
  exact Option.some.inj (h2.symm.trans h1)
theorem li_R.sn {w w0 w1 : va_W} {q a : Nat} {x x' : va_E} {qs : List Nat} (hR : li_R w w0 qs) (h : w0[q]? = some (a, x)) (hq : w.length ≤ q) (h1 : w1[q]? = some (a, x')) (h2 : w1.length = w0.length) (h3 : ∀ j, j ≠ q → w1[j]? = w0[j]?) : li_R w w1 qs := ⟨by rw [h2]; exact hR.1, fun j hj hn => (h3 j (by omega)).trans (hR.2.1 j hj hn), fun j y hy => by
  obtain ⟨y1, a1, b1⟩ := hR.2.2 j y hy
  exact ⟨y1, (h3 j (by have := (List.getElem?_eq_some_iff.mp hy).1; omega)).trans a1, b1⟩⟩
theorem li_hel {D : va_G} {tys : List (ClassId × FieldType)} {A : Nat → Prop} {s : State} {w w1 : va_W} {H : Heap} {locs : List Loc} {e0 ca n k y : Nat} {ad : li_ad} {f : Nat → Option Nat} {qs : List Nat} (hE : li_E w ad n f) (hR : li_R w w1 qs) (hq : ∀ q ∈ qs, li_nb w q) (hK : va_K D vwCl tys s) (hL : li_f e0 ca ad A s s.heap) (hP : va_P D vwCl w1 H) (hS : va_S A s.heap H locs) (e : f k = some y) (hk : k < n) : ∃ cell : Cell, H[y]? = some cell ∧ cell.vm.isStatics = false ∧ s.vm.findClass "java/lang/Integer" = some cell.cls := by
  obtain ⟨y8, a8, b8⟩ := hE k hk
  rw [show y = y8 from Option.some.inj (e.symm.trans a8)]
  exact li_xr (b8.st hR hq) hK hL hP hS
theorem li_arc {D : va_G} {tys : List (ClassId × FieldType)} {s : State} {w : va_W} {H : Heap} {qa ra N t9 : Nat} {cL : ClassId} {f : Nat → Option Nat} (hK : va_K D vwCl tys s) (hP : va_P D vwCl w H) (ha : w[qa]? = some (ra, .inl (cL, N, .inr (.inr (.inr (.inr f)))))) (ht9 : tys[t9]? = some (cL, .object "java/lang/Object")) : ∃ cell : Cell, H[ra]? = some cell ∧ cell.vm.isStatics = false ∧ s.vm.findClass "[Ljava/lang/Object;" = some cell.cls := by
  have h1 := hP qa _ ha
  exact ⟨_, h1, rfl, va_nmO (hK.2 t9 _ ht9).2 (by decide)⟩
theorem li_gr1 {f : Nat → Option Nat} {N y k : Nat} (h : k < N) : va_up (va_cpy f (fun _ => none) 0 0 N) N (some y) k = f k := by
  rw [va_up_ne _ _ (by omega)]
  show (if 0 ≤ k ∧ k < 0 + N then f (0 + (k - 0)) else none) = f k
  rw [if_pos (by omega)]
  congr 1
  omega
theorem li_gr2 {f : Nat → Option Nat} {N y : Nat} : va_up (va_cpy f (fun _ => none) 0 0 N) N (some y) N = some y := va_up_self _ _ _
theorem li_gr0 {f : Nat → Option Nat} {N k : Nat} (h : k < N) : va_cpy f (fun _ => none) 0 0 N k = f k := by
  show (if 0 ≤ k ∧ k < 0 + N then f (0 + (k - 0)) else none) = f k
  rw [if_pos (by omega)]
  congr 1
  omega
theorem li_nsub {i n : Nat} (h : i ≤ n) (hn : n < 1000) : nI n - nI i = nI (n - i) := by
  apply Int32.toInt_inj.mp
  rw [Int32.toInt_sub, nI_toInt (by omega), nI_toInt (by omega), nI_toInt (by omega), en_b32 (by omega) (by omega)]
  omega
theorem li_ins {f g : Nat → Option Nat} {i n y : Nat} (hi : i ≤ n) (h : ∀ k, k < n → g k = f k) : ∀ k, k < n + 1 → (∃ j, j < n ∧ va_up (va_cpy g g i (i + 1) (n - i)) i (some y) k = f j) ∨ va_up (va_cpy g g i (i + 1) (n - i)) i (some y) k = some y := fun k hk => by
  by_cases e : k = i
  · subst e
    exact Or.inr (va_up_self _ _ _)
  · refine Or.inl ?_
    rw [va_up_ne _ _ e]
    show ∃ j, j < n ∧ (if i + 1 ≤ k ∧ k < i + 1 + (n - i) then g (i + (k - (i + 1))) else g k) = f j
    by_cases hk2 : i + 1 ≤ k ∧ k < i + 1 + (n - i)
    · rw [if_pos hk2]
      exact ⟨i + (k - (i + 1)), by omega, h _ (by omega)⟩
    · rw [if_neg hk2]
      exact ⟨k, by omega, h _ (by omega)⟩
theorem li_cix {v : Int32} (h1 : ¬ v < -128) (h2 : ¬ 127 < v) : ∃ j : Nat, j < 256 ∧ v + 128 = nI j := by
  rw [Int32.lt_iff_toInt_lt] at h1 h2
  have e1 : (-128 : Int32).toInt = -128 := rfl
  have e2 : (127 : Int32).toInt = 127 := rfl
  have e3 : (128 : Int32).toInt = 128 := rfl
  refine ⟨(v.toInt + 128).toNat, by omega, ?_⟩
  apply Int32.toInt_inj.mp
  rw [Int32.toInt_add, e3, en_b32 (by omega) (by omega), nI_toInt (by omega)]
  omega
/-- a cell made, then set -/
theorem li_R.sm {w w1 w2 : va_W} {qs : List Nat} (h : li_R w w1 qs) (g : li_R w1 w2 [w.length]) : li_R w w2 qs := ⟨Nat.le_trans h.1 g.1, fun j hj hn => (g.2.1 j (Nat.lt_of_lt_of_le hj h.1) (by simp; omega)).trans (h.2.1 j hj hn), fun j x hx => by
  obtain ⟨x1, a, b⟩ := h.2.2 j x hx
  obtain ⟨x2, c, d⟩ := g.2.2 j x1 a
  exact ⟨x2, c, d.1.trans b.1, b.2.tr d.2⟩⟩
/-- as Met.ofW, for a method whose class has rows of natives, none of them its own -/
theorem li_ofF {l : Launch} {y : MethodName} {ws ws' : List Cond} {rm : Room} {Pc : Array Value → State → Prop} {Qc : Array Value → State → Outcome → State → Prop} {mc ms : Nat} {free : Addr → Prop} {cc : ByteArray} {maxL : Nat} {ret : Option FieldType} (hy : plainFor y = true) (hw : ws = Cond.code y cc maxL ret :: ws')
    (body : ∀ p e s m args below meth c s₁, BodyLoose p l y (headSpec ws rm) cc maxL ret e s m args below meth c s₁ → c.maxLocals = maxL → Pc args s → W p l e (headSpec ws rm).room s m args below meth c s.heap [] 0 0 (MQ below Qc args s mc ms free) (entryFrame m args maxL)) : Met l y ws rm Pc Qc mc ms free := by
  refine MetFree.of_bodySF (code := cc) (maxLocals := maxL) (ret := ret) hy (fun args s m h hn => ?_) (fun p e s m args below meth c s₁ B hml hP _ => ?_)
  · obtain ⟨me, co, g1, g2, g3, g4, g5, g6, -, -⟩ := Cond.code_spec hn (atoms_spec (ws := ws) h _ (by rw [hw]; exact List.mem_cons_self))
    exact ⟨me, co, g1, g2, g3, g4, g5, g6⟩
  · obtain ⟨t, a1, o, b1, b2, b3⟩ := body p e s m args below meth c s₁ B hml hP s₁ (by rw [B.state]; rfl) (Stand.of_body B)
    exact ⟨t, o, a1, b1, b2, b3.1, b3.2⟩
