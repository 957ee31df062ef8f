/-! exact contracts, by hand: base -/
theorem kx_set {w : va_W} {q a : Nat} {x : va_E} (h : w[q]? = some (a, x)) (x' : va_E) : ∃ w1 : va_W, w1 = w.set q (a, x') ∧ w1[q]? = some (a, x') ∧ w1.length = w.length ∧ ∀ j, j ≠ q → w1[j]? = w[j]? := by
  have hlt := (List.getElem?_eq_some_iff.mp h).1
  refine ⟨_, rfl, ?_, List.length_set, fun j hj => List.getElem?_set_ne (Ne.symm hj)⟩
  rw [List.getElem?_set_self hlt]
theorem kx_app (w : va_W) (x : Nat × va_E) : ∃ w1 : va_W, w1 = w ++ [x] ∧ w1[w.length]? = some x ∧ w1.length = w.length + 1 ∧ ∀ j, j < w.length → w1[j]? = w[j]? := ⟨_, rfl, by simp, by simp, fun j hj => List.getElem?_append_left hj⟩
/-- 0 an int, 1 a long, else nothing -/
def kx_Q (rs : Nat) (D : va_G) (P : Option Value → va_W → Prop) (A : Nat → Prop) : Array Value → State → Outcome → State → Prop := match rs with
  | 0 => va_Qi (fun r w' => P (some (.int r)) w') (fun w' t => va_P D vwCl w' t.heap ∧ va_D A w') A
  | 1 => va_Ql (fun r w' => P (some (.long r)) w') (fun w' t => va_P D vwCl w' t.heap ∧ va_D A w') A
  | _ => va_Qv (fun w' => P none w') (fun w' t => va_P D vwCl w' t.heap ∧ va_D A w') A
def kx_rv (rs : Nat) (res : Option Value) : Prop := match rs with
  | 0 => ∃ r, res = some (.int r)
  | 1 => ∃ r, res = some (.long r)
  | _ => res = none
/-- thrown: the world as it was -/
def kx_XC (D : va_G) (w : va_W) (X : String → Prop) (A : Nat → Prop) : String → State → State → Prop := vx_X (fun _ : Unit => True) (fun E _ t => X E ∧ va_P D vwCl w t.heap) A
def kx_C (l : Launch) (y : MethodName) (cy : ByteArray) (mxl : Nat) (ret : Option FieldType) (lv mc ms rs : Nat) (As : List Value) (D : va_G) (tys : List (ClassId × FieldType)) (w : va_W) (sz : Nat) (P : Option Value → va_W → Prop) (X : String → Prop) : Prop := vx_Met l y (Cond.code y cy mxl ret :: en_cw) (en_rm lv (mc, ms)) (va_Pc As (en_B D vwCl tys w sz)) (kx_Q rs D P (va_A w sz)) (kx_XC D w X (va_A w sz)) mc ms (va_A w sz)
/-- what lasts in a frame -/
def kx_G (p : Program) (s : State) (m : MethodId) (args : Array Value) (c : Code) (cc : ByteArray) (own : String) (D : va_G) (tys : List (ClassId × FieldType)) (A : Nat → Prop) : Prop := p.tables.exec = Jvm.exec ∧ c.code = cc ∧ (∀ w ∈ en_cw, w.before args s = true) ∧ s.vm.findClass own = some m.cls ∧ va_K D vwCl tys s ∧ tf A s s.heap ∧ ∀ q, s.heap.size ≤ q → A q
def kx_H (D : va_G) (A : Nat → Prop) (s : State) (w : va_W) (H : Heap) (locs : List Loc) : Prop := va_P D vwCl w H ∧ va_D A w ∧ va_S A s.heap H locs
theorem kx_AA {D : va_G} {A : Nat → Prop} {s : State} {w : va_W} {H : Heap} {locs : List Loc} (L : kx_H D A s w H locs) (hA : ∀ q, s.heap.size ≤ q → A q) : ∀ q, va_A w H.size q → A q := fun q hq => by
  rcases hq with ⟨j, ej, hj⟩ | hq
  · exact L.2.1.2 j _ hj
  · exact hA q (Nat.le_trans L.2.2.1 hq)
theorem kx_D1 {D : va_G} {A : Nat → Prop} {s : State} {w : va_W} {H : Heap} {locs : List Loc} (L : kx_H D A s w H locs) : va_D (va_A w H.size) w := ⟨L.2.1.1, fun j z hz => Or.inl ⟨j, z.2, hz⟩⟩
section
variable {p : Program} {l : Launch} {e : Env} {R : Room} {s : State} {m : MethodId} {args : Array Value} {below : List Frame} {meth : Method} {c : Code} {Q : State → Prop} {cc : ByteArray}
variable {D : va_G} {tys : List (ClassId × FieldType)} {A : Nat → Prop} {w : va_W} {H : Heap} {locs : List Loc} {ls : Array Slot} {pc cells slots : Nat} {rest : List Value} {own : String}
theorem kx_get {ix ci j q a : Nat} {fs : List Value} {v : Value} (G : kx_G p s m args c cc own D tys A) (L : kx_H D A s w H locs) (hF : en_Fd vwCl own en_cw ix ci j) (hw : w[q]? = some (a, .inr (ci, fs))) (hv : fs[j]? = some v) (hdg : decode cc pc = .ok (.getfield ix, 3))
    (k : W p l e R s m args below meth c H locs cells slots Q (F0 m (pc + 3) ls (v :: rest))) : W p l e R s m args below meth c H locs cells slots Q (F0 m pc ls (.ref a :: rest)) := by
  obtain ⟨C, T, N, h1, h2, h3, h4⟩ := hF
  obtain ⟨hx, hb, hts, hown, hK, -, -⟩ := G
  exact va_get (D := D) (C := C) (T := T) (N := N) (ci := ci) hx hb hts h3 hown hK L.1 q hw h1 j h2 (hts _ h4) (fun _ h => h) hv hdg k
theorem kx_put {ix ci j ty q a : Nat} {fs : List Value} {x : Int32} (G : kx_G p s m args c cc own D tys A) (L : kx_H D A s w H locs) (hF : en_Fp vwCl own en_cw ix ci j ty) (hw : w[q]? = some (a, .inr (ci, fs))) (hj : j < fs.length) (h1 : (en_tyI ty).1 ≤ x.toInt) (h2 : x.toInt ≤ (en_tyI ty).2) (hdg : decode cc pc = .ok (.putfield ix, 3))
    (k : ∀ (w1 : va_W) (H1 : Heap) (locs1 : List Loc), w1[q]? = some (a, .inr (ci, fs.set j (.int x))) → w1.length = w.length → (∀ i, i ≠ q → w1[i]? = w[i]?) → kx_H D A s w1 H1 locs1 → W p l e R s m args below meth c H1 locs1 cells slots Q (F0 m (pc + 3) ls rest)) : W p l e R s m args below meth c H locs cells slots Q (F0 m pc ls (.int x :: .ref a :: rest)) := by
  obtain ⟨C, T, N, ty0, g1, g2, g3, g4, g5, g6, g7, g8⟩ := hF
  obtain ⟨hx, hb, hts, hown, hK, -, -⟩ := G
  obtain ⟨n1, n2⟩ := en_fit h1 h2
  refine va_put (D := D) (C := C) (T := T) (N := N) (ci := ci) (v := .int x) (ty := en_ty ty) hx hb hts g3 ty0 g5 g6 hown hK L.1 L.2.1 L.2.2 q hw g1 j g2 (hts _ g4) (fun _ h => h) g7 g8 n1 n2 hj hdg (fun H1 locs1 hP hD hS => ?_)
  obtain ⟨w1, ew, e1, e2, e3⟩ := kx_set hw (.inr (ci, fs.set j (.int x)))
  exact k w1 H1 locs1 e1 e2 e3 ⟨by rw [ew]; exact hP, by rw [ew]; exact hD, hS⟩
theorem kx_aald {q t0 n k a b : Nat} {cA : ClassId} {f : Nat → Option Nat} {C : String} (G : kx_G p s m args c cc own D tys A) (L : kx_H D A s w H locs) (hw : w[q]? = some (a, .inl (cA, n, .inr (.inr (.inr (.inr f)))))) (ht : tys[t0]? = some (cA, .object C)) (hk : k < n) (hn : n < 2 ^ 31) (hf : f k = some b) (hdg : decode cc pc = .ok (.aaload, 1))
    (kk : W p l e R s m args below meth c H locs cells slots Q (F0 m (pc + 1) ls (.ref b :: rest))) : W p l e R s m args below meth c H locs cells slots Q (F0 m pc ls (.int (nI k) :: .ref a :: rest)) := by
  refine va_aldq G.1 G.2.1 G.2.2.2.2.1 L.1 q t0 hw ht (vp_in_nI hk hn) hdg ?_
  rw [nI_clamp (Nat.lt_trans hk hn), hf]
  exact kk
theorem kx_aaldA {q t0 n k a b : Nat} {cA : ClassId} {f : Nat → Option Nat} {t : FieldType} (G : kx_G p s m args c cc own D tys A) (L : kx_H D A s w H locs) (hw : w[q]? = some (a, .inl (cA, n, .inr (.inr (.inr (.inr f)))))) (ht : tys[t0]? = some (cA, .array t)) (hk : k < n) (hn : n < 2 ^ 31) (hf : f k = some b) (hdg : decode cc pc = .ok (.aaload, 1))
    (kk : W p l e R s m args below meth c H locs cells slots Q (F0 m (pc + 1) ls (.ref b :: rest))) : W p l e R s m args below meth c H locs cells slots Q (F0 m pc ls (.int (nI k) :: .ref a :: rest)) := by
  refine va_aldqA G.1 G.2.1 G.2.2.2.2.1 L.1 q t0 hw ht (vp_in_nI hk hn) hdg ?_
  rw [nI_clamp (Nat.lt_trans hk hn), hf]
  exact kk
theorem kx_iald {q t0 n k a : Nat} {cA : ClassId} {f : Nat → Int32} (G : kx_G p s m args c cc own D tys A) (L : kx_H D A s w H locs) (hw : w[q]? = some (a, .inl (cA, n, .inl f))) (ht : tys[t0]? = some (cA, .int)) (hk : k < n) (hn : n < 2 ^ 31) (hdg : decode cc pc = .ok (.iaload, 1))
    (kk : W p l e R s m args below meth c H locs cells slots Q (F0 m (pc + 1) ls (.int (f k) :: rest))) : W p l e R s m args below meth c H locs cells slots Q (F0 m pc ls (.int (nI k) :: .ref a :: rest)) := by
  refine va_iald G.1 G.2.1 G.2.2.2.2.1 L.1 q t0 hw ht (vp_in_nI hk hn) hdg ?_
  rw [nI_clamp (Nat.lt_trans hk hn)]
  exact kk
theorem kx_cald {q t0 n k a : Nat} {cA : ClassId} {f : Nat → Int32} (G : kx_G p s m args c cc own D tys A) (L : kx_H D A s w H locs) (hw : w[q]? = some (a, .inl (cA, n, .inl f))) (ht : tys[t0]? = some (cA, .char)) (hk : k < n) (hn : n < 2 ^ 31) (hdg : decode cc pc = .ok (.caload, 1))
    (kk : W p l e R s m args below meth c H locs cells slots Q (F0 m (pc + 1) ls (.int (f k) :: rest))) : W p l e R s m args below meth c H locs cells slots Q (F0 m pc ls (.int (nI k) :: .ref a :: rest)) := by
  refine va_cald G.1 G.2.1 G.2.2.2.2.1 L.1 q t0 hw ht (vp_in_nI hk hn) hdg ?_
  rw [nI_clamp (Nat.lt_trans hk hn)]
  exact kk
theorem kx_iast {q t0 n k a : Nat} {cA : ClassId} {f : Nat → Int32} {x : Int32} (G : kx_G p s m args c cc own D tys A) (L : kx_H D A s w H locs) (hw : w[q]? = some (a, .inl (cA, n, .inl f))) (ht : tys[t0]? = some (cA, .int)) (hk : k < n) (hn : n < 2 ^ 31) (hdg : decode cc pc = .ok (.iastore, 1))
    (kk : ∀ (w1 : va_W) (H1 : Heap) (locs1 : List Loc), w1[q]? = some (a, .inl (cA, n, .inl (upd f k x))) → w1.length = w.length → (∀ i, i ≠ q → w1[i]? = w[i]?) → kx_H D A s w1 H1 locs1 → W p l e R s m args below meth c H1 locs1 cells slots Q (F0 m (pc + 1) ls rest)) : W p l e R s m args below meth c H locs cells slots Q (F0 m pc ls (.int x :: .int (nI k) :: .ref a :: rest)) := by
  refine va_iast G.1 G.2.1 G.2.2.2.2.1 L.1 L.2.1 L.2.2 q t0 hw ht (vp_in_nI hk hn) hdg (fun H1 locs1 hP hD hS => ?_)
  rw [nI_clamp (Nat.lt_trans hk hn)] at hP hD
  obtain ⟨w1, ew, e1, e2, e3⟩ := kx_set hw (.inl (cA, n, .inl (upd f k x)))
  exact kk w1 H1 locs1 e1 e2 e3 ⟨by rw [ew]; exact hP, by rw [ew]; exact hD, hS⟩
theorem kx_cast {q t0 n k a : Nat} {cA : ClassId} {f : Nat → Int32} {x : Int32} (G : kx_G p s m args c cc own D tys A) (L : kx_H D A s w H locs) (hw : w[q]? = some (a, .inl (cA, n, .inl f))) (ht : tys[t0]? = some (cA, .char)) (hk : k < n) (hn : n < 2 ^ 31) (h1 : 0 ≤ x.toInt) (h2 : x.toInt ≤ 65535) (hdg : decode cc pc = .ok (.castore, 1))
    (kk : ∀ (w1 : va_W) (H1 : Heap) (locs1 : List Loc), w1[q]? = some (a, .inl (cA, n, .inl (upd f k x))) → w1.length = w.length → (∀ i, i ≠ q → w1[i]? = w[i]?) → kx_H D A s w1 H1 locs1 → W p l e R s m args below meth c H1 locs1 cells slots Q (F0 m (pc + 1) ls rest)) : W p l e R s m args below meth c H locs cells slots Q (F0 m pc ls (.int x :: .int (nI k) :: .ref a :: rest)) := by
  refine va_cast G.1 G.2.1 G.2.2.2.2.1 L.1 L.2.1 L.2.2 q t0 hw ht (vp_in_nI hk hn) hdg (fun H1 locs1 hP hD hS => ?_)
  rw [nI_clamp (Nat.lt_trans hk hn), show vp_nar .char x = x from en_nar1 (ty := 1) h1 h2] at hP hD
  obtain ⟨w1, ew, e1, e2, e3⟩ := kx_set hw (.inl (cA, n, .inl (upd f k x)))
  exact kk w1 H1 locs1 e1 e2 e3 ⟨by rw [ew]; exact hP, by rw [ew]; exact hD, hS⟩
/-- a call by such a contract -/
theorem kx_call {lv mc ms rs : Nat} {P : Option Value → va_W → Prop} {X : String → Prop} {st0 : List Value} {av : Array Value} (G : kx_G p s m args c cc own D tys A) (L : kx_H D A s w H locs)
    (hr : vx_Run p l e R s m args below meth c H locs cells slots mc ms (F0 m pc ls st0) rest (kx_Q rs D P (va_A w H.size) av) (kx_XC D w X (va_A w H.size)) (va_A w H.size))
    (kx : ∀ (E : String) (ce : Cell) (q9 : Addr) (H1 : Heap) (locs1 : List Loc), X E → kx_H D A s w H1 locs1 → H1[q9]? = some ce → ce.vm = .none → s.vm.findClass E = some ce.cls → vx_W p l e R s m args below meth c H1 locs1 (cells + mc) (slots + ms) Q (F0 m pc ls rest) q9)
    (k : ∀ (res : Option Value) (w1 : va_W) (H1 : Heap) (locs1 : List Loc), kx_rv rs res → P res w1 → kx_H D A s w1 H1 locs1 → W p l e R s m args below meth c H1 locs1 (cells + mc) (slots + ms) Q (F0 m (pc + 3) ls (res.toList ++ rest))) :
    W p l e R s m args below meth c H locs cells slots Q (F0 m pc ls st0) := by
  have hAA := kx_AA L G.2.2.2.2.2.2
  have h1 : ∀ q, q < H.size → va_A w H.size q → A q := fun q _ h => hAA q h
  have fin : ∀ w1, va_D (va_A w H.size) w1 → va_D A w1 := fun w1 h => ⟨h.1, fun j q hq => hAA _ (h.2 j q hq)⟩
  have kx' : ∀ (E : String) (ce : Cell) (q9 : Addr) (u : Unit) (t : State) (H1 : Heap) (locs1 : List Loc), t.heap = H1 → s.vm.Alike t.vm → True → (X E ∧ va_P D vwCl w t.heap) → H.size ≤ H1.size → (∀ q : Nat, q < H.size → ¬ va_A w H.size q → H1[q]? = H[q]?) → va_S A s.heap H1 locs1 → H1[q9]? = some ce → ce.vm = .none → s.vm.findClass E = some ce.cls → vx_W p l e R s m args below meth c H1 locs1 (cells + mc) (slots + ms) Q (F0 m pc ls rest) q9 := by
    intro E ce q9 u t H1 locs1 ht _ _ hB _ _ hS hcell hv hcl
    exact kx E ce q9 H1 locs1 hB.1 ⟨by rw [← ht]; exact hB.2, L.2.1, hS⟩ hcell hv hcl
  match rs with
  | 0 => exact vx_calli (a := av) hr L.2.2 h1 hAA h1 kx' (fun r u t H1 locs1 ht hvm hw hB _ _ hS1 => k (some (.int r)) u H1 locs1 ⟨r, rfl⟩ hw ⟨by rw [← ht]; exact hB.1, fin u hB.2, hS1⟩)
  | 1 => exact vx_calll (a := av) hr L.2.2 h1 hAA h1 kx' (fun r u t H1 locs1 ht hvm hw hB _ _ hS1 => k (some (.long r)) u H1 locs1 ⟨r, rfl⟩ hw ⟨by rw [← ht]; exact hB.1, fin u hB.2, hS1⟩)
  | n + 2 => exact vx_callv (a := av) hr L.2.2 h1 hAA h1 kx' (fun u t H1 locs1 ht hvm hw hB _ _ hS1 => k none u H1 locs1 rfl hw ⟨by rw [← ht]; exact hB.1, fin u hB.2, hS1⟩)
theorem kx_pre {As : List Value} (G : kx_G p s m args c cc own D tys A) (L : kx_H D A s w H locs) : FrameBlind (va_Pc As (en_B D vwCl tys w H.size)) ∧ ∀ U : State, U.heap = H → s.WarmedH U.vm → va_Pc As (en_B D vwCl tys w H.size) As.toArray U :=
  ⟨fun a U g mk q => ⟨q.1, q.2.blind⟩, fun U hU hW => ⟨rfl, ⟨by rw [hU], by rw [hU]; exact L.1, va_K.moved hW.alike G.2.2.2.2.1, tf.go G.2.2.2.2.2.1 L.2.2 hW hU (kx_AA L G.2.2.2.2.2.2)⟩⟩⟩
/-- with a receiver -/
theorem kx_cV {lv mc ms rs ix mxl n q b ci : Nat} {fs : List Value} {r : vw_C} {P : Option Value → va_W → Prop} {X : String → Prop} {As : List Value} {y : MethodName} {C : String} {cy : ByteArray} {ret : Option FieldType} (G : kx_G p s m args c cc own D tys A) (L : kx_H D A s w H locs) (hM : kx_C l y cy mxl ret lv mc ms rs (.ref b :: As) D tys w H.size P X) (hV : en_CV en_cw own ix y C cy mxl ret n)
    (hb0 : w[q]? = some (b, .inr (ci, fs))) (hr : vwCl[ci]? = some r) (hrC : r.1 = C) (hAl : As.length = n) (hml : c.maxLocals = ls.size) (hlv : 40 + lv + 1 ≤ R.frames ∧ 8 + (mxl + 11) + (400 + 60 * lv) ≤ R.locals) (hcs : cells + mc ≤ R.cells ∧ slots + ms ≤ R.slots) (hwt : (rest.map fun v => v.category).sum ≤ 8) (hdg : decode cc pc = .ok (.invokevirtual ix, 3))
    (kx : ∀ (E : String) (ce : Cell) (q9 : Addr) (H1 : Heap) (locs1 : List Loc), X E → kx_H D A s w H1 locs1 → H1[q9]? = some ce → ce.vm = .none → s.vm.findClass E = some ce.cls → vx_W p l e R s m args below meth c H1 locs1 (cells + mc) (slots + ms) Q (F0 m pc ls rest) q9)
    (k : ∀ (res : Option Value) (w1 : va_W) (H1 : Heap) (locs1 : List Loc), kx_rv rs res → P res w1 → kx_H D A s w1 H1 locs1 → W p l e R s m args below meth c H1 locs1 (cells + mc) (slots + ms) Q (F0 m (pc + 3) ls (res.toList ++ rest))) :
    W p l e R s m args below meth c H locs cells slots Q (F0 m pc ls (As.reverse ++ .ref b :: rest)) := by
  obtain ⟨h1, h2⟩ := kx_pre (As := .ref b :: As) G L
  subst hrC
  exact kx_call (lv := lv) G L (vx_runV (As := As) (rest := rest) (b := b) (C := r.1) ⟨G.1, G.2.1, rfl, G.2.2.2.1, G.2.2.1⟩ hM (cwV n G.2.2.1 hV.1 rfl rfl rfl hV.2 hlv) ⟨h1, va_recv G.2.2.2.2.1 L.1 (ci := ci) (q0 := q) hr hb0, h2⟩ rfl hAl hml.symm rfl (lv_room hwt) hdg hcs) kx k
/-- a static call, or one of a nest mate's -/
theorem kx_cS {lv mc ms rs ix mxl n : Nat} {P : Option Value → va_W → Prop} {X : String → Prop} {As : List Value} {y : MethodName} {cy : ByteArray} {ret : Option FieldType} (G : kx_G p s m args c cc own D tys A) (L : kx_H D A s w H locs) (hM : kx_C l y cy mxl ret lv mc ms rs As D tys w H.size P X) (hV : en_CZ en_cw own ix y cy mxl ret n ∨ en_CN en_cw own ix y cy mxl ret n)
    (hAl : As.length = n) (hml : c.maxLocals = ls.size) (hlv : 40 + lv + 1 ≤ R.frames ∧ 8 + (mxl + 11) + (400 + 60 * lv) ≤ R.locals) (hcs : cells + mc ≤ R.cells ∧ slots + ms ≤ R.slots) (hwt : (rest.map fun v => v.category).sum ≤ 8) (hdg : decode cc pc = .ok (.invokestatic ix, 3))
    (kx : ∀ (E : String) (ce : Cell) (q9 : Addr) (H1 : Heap) (locs1 : List Loc), X E → kx_H D A s w H1 locs1 → H1[q9]? = some ce → ce.vm = .none → s.vm.findClass E = some ce.cls → vx_W p l e R s m args below meth c H1 locs1 (cells + mc) (slots + ms) Q (F0 m pc ls rest) q9)
    (k : ∀ (res : Option Value) (w1 : va_W) (H1 : Heap) (locs1 : List Loc), kx_rv rs res → P res w1 → kx_H D A s w1 H1 locs1 → W p l e R s m args below meth c H1 locs1 (cells + mc) (slots + ms) Q (F0 m (pc + 3) ls (res.toList ++ rest))) :
    W p l e R s m args below meth c H locs cells slots Q (F0 m pc ls (As.reverse ++ rest)) := by
  obtain ⟨h1, h2⟩ := kx_pre (As := As) G L
  rcases hV with ⟨hG, hd⟩ | ⟨host, hm, hG, hs, hi, hd⟩
  · exact kx_call (lv := lv) G L (vx_runS (As := As) (rest := rest) ⟨G.1, G.2.1, rfl, G.2.2.2.1, G.2.2.1⟩ hM (va_cwS n G.2.2.1 hG rfl rfl rfl hd hlv) ⟨h1, h2⟩ rfl hAl hml.symm rfl (lv_room hwt) hdg hcs) kx k
  · exact kx_call (lv := lv) G L (vx_runSN (As := As) (rest := rest) ⟨G.1, G.2.1, rfl, G.2.2.2.1, G.2.2.1⟩ hM ⟨va_cnB n G.2.2.1 hG rfl rfl rfl (G.2.2.2.2.2.1.2.2.2.2.2 _ hm) (G.2.2.1 _ hi) hd hlv, G.2.2.1 _ hs, trivial⟩ ⟨h1, h2⟩ rfl hAl hml.symm rfl (lv_room hwt) hdg hcs) kx k
/-- thrown on -/
theorem kx_out {E : String} {ce : Cell} {q9 : Addr} {mc ms : Nat} {Qc : Array Value → State → Outcome → State → Prop} {X : String → Prop} (hne : ∀ x ∈ c.exceptionTable.toList, False) (hlocks : meth.locks = false) (L : kx_H D A s w H locs) (hcell : H[q9]? = some ce) (hv : ce.vm = .none) (hcl : s.vm.findClass E = some ce.cls) (hX : X E) (h1 : cells ≤ mc) (h2 : slots ≤ ms) :
    vx_W p l e R s m args below meth c H locs cells slots (vx_MQ below Qc (kx_XC D w X A) args s mc ms A) (F0 m pc ls rest) q9 :=
  vx_out (fun x hx => (hne x hx).elim) hlocks hcell hv hcl (fun t ht _ => ⟨(), trivial, ⟨hX, by rw [ht]; exact L.1⟩, by rw [ht]; exact L.2.2.1, fun q a b => by rw [ht]; exact L.2.2.2.1 q a b⟩) L.2.2.2.2 h1 h2
/-- 'throw new E("..")' -/
theorem kx_thr {ik is ic x mc ms : Nat} {text : String} {Qc : Array Value → State → Outcome → State → Prop} {X : String → Prop} (hW : en_TW l en_cw ik ic x) (G : kx_G p s m args c cc RX6 D tys A) (L : kx_H D A s w H locs) (ht : (is, text) ∈ tf_str) (hml : ls.size = c.maxLocals) (d0 : decode cc pc = .ok (.new ik, 3)) (d3 : decode cc (pc + 3) = .ok (.dup, 1))
    (d4 : (decode cc (pc + 4) = .ok (.ldc is, 2) ∧ decode cc (pc + 6) = .ok (.invokespecial ic, 3) ∧ decode cc (pc + 9) = .ok (.athrow, 1)) ∨ (decode cc (pc + 4) = .ok (.ldc_w is, 3) ∧ decode cc (pc + 7) = .ok (.invokespecial ic, 3) ∧ decode cc (pc + 10) = .ok (.athrow, 1)))
    (hne : ∀ x ∈ c.exceptionTable.toList, False) (h1 : 12 < R.frames) (h2 : (rest.map fun v => v.category).sum + 200 ≤ R.locals) (h3 : cells + 1 ≤ R.cells) (h4 : slots + 6 ≤ R.slots) (hlocks : meth.locks = false) (hX : X (en_xn x)) (h5 : cells + 1 ≤ mc) (h6 : slots + 6 ≤ ms) :
    W p l e R s m args below meth c H locs cells slots (vx_MQ below Qc (kx_XC D w X A) args s mc ms A) (F0 m pc ls rest) := by
  refine hW p e R s m args below meth c H locs cells slots mc ms Qc _ A A cc pc is ls rest text G.1 G.2.1 G.2.2.2.1 G.2.2.1 G.2.2.2.2.2.1 L.2.2 ht hml d0 d3 d4 hne h1 h2 h3 h4 hlocks ?_ L.2.2.2.2 h5 h6
  intro t _ hz hk9
  exact ⟨(), trivial, ⟨hX, L.1.kept (fun j z hj => hk9 z.1 ((L.1 j z hj).lt))⟩, Nat.le_trans L.2.2.1 hz, fun q hq hnA => (hk9 q (Nat.lt_of_lt_of_le hq L.2.2.1)).trans (L.2.2.2.1 q hq hnA)⟩
end
theorem kx_cN {x : Int32} (h : 0 ≤ x.toInt) : x = nI x.toInt.toNat := by
  have := en_hi x
  apply Int32.toInt_inj.mp
  rw [nI_toInt (by omega)]
  omega
theorem kx_nI {k : Nat} (h : k < 1000000) : (nI k).toInt = (k : Int) := nI_toInt (by omega)
/-- the place of a cell -/
theorem kx_at {x y : Nat} (hx : x < 30) (hy : y < 20) : nI y * 30 + nI x = nI (y * 30 + x) := by
  have h1 : (nI y).toInt = (y : Int) := kx_nI (by omega)
  have h2 : (nI x).toInt = (x : Int) := kx_nI (by omega)
  have h3 : (nI (y * 30 + x)).toInt = ((y * 30 + x : Nat) : Int) := kx_nI (by omega)
  have h4 : ((y : Int) * 30).bmod (2 ^ 32) = (y : Int) * 30 := en_b32 (by omega) (by omega)
  apply Int32.toInt_inj.mp
  rw [Int32.toInt_add, Int32.toInt_mul, h1, h2, h3, show (30 : Int32).toInt = 30 from rfl, h4]
  have h5 : ((y * 30 + x : Nat) : Int) = (y : Int) * 30 + (x : Int) := by omega
  rw [h5]
  exact en_b32 (by omega) (by omega)
theorem kx_inc {k : Nat} (h : k < 1000000) : nI k + 1 = nI (k + 1) := (nI_succ k).symm
theorem kx_dec {k : Nat} (h : k < 1000000) : nI (k + 1) - 1 = nI k := by
  have h1 : (nI (k + 1)).toInt = ((k + 1 : Nat) : Int) := nI_toInt (by omega)
  have h2 : (nI k).toInt = (k : Int) := kx_nI h
  have h3 : ((k + 1 : Nat) : Int) - 1 = (k : Int) := by omega
  apply Int32.toInt_inj.mp
  rw [Int32.toInt_sub, h1, h2, show (1 : Int32).toInt = 1 from rfl, h3]
  exact en_b32 (by omega) (by omega)
/-- kinds of cells that an area may have -/
def kx_kd (c : Int32) : Prop := c = 46 ∨ c = 98 ∨ c = 100 ∨ c = 103 ∨ c = 111 ∨ c = 112 ∨ c = 114 ∨ c = 119 ∨ c = 121
/-! the class's cells, as data: holes told, players, whether a round was begun; for each hole its index, its areas, its cells' kinds -/
def kx_X (tys : List (ClassId × FieldType)) (sh : en_H) (w : va_W) (fx : List Value) (hc pc : Nat) (bg : Int32) (ix ar : Nat → Int32) (ck : Nat → Nat → Int32) : Prop :=
  (w[66]? = some (sh.2 66, .inr (12, fx)) ∧ fx.length = 14 ∧ fx[0]? = some (.ref (sh.2 67)) ∧ fx[4]? = some (.int (nI hc)) ∧ fx[5]? = some (.int (nI pc)) ∧ fx[10]? = some (.int bg) ∧ hc ≤ 9 ∧ pc ≤ 6 ∧ (bg = 0 ∨ bg = 1)) ∧
  (∃ (cH : ClassId) (f : Nat → Option Nat), tys[3]? = some (cH, .object "FairwayChancery$Hole") ∧ w[67]? = some (sh.2 67, .inl (cH, 9, .inr (.inr (.inr (.inr f))))) ∧ ∀ j, j < 9 → f j = some (sh.2 (68 + 2 * j))) ∧
  (∀ j, j < 9 → ∃ p c t : Int32, w[68 + 2 * j]? = some (sh.2 (68 + 2 * j), .inr (9, [.ref (sh.2 (69 + 2 * j)), .int p, .int (ix j), .int c, .int t, .int (ar j)]))) ∧
  ∀ j, j < 9 → ∃ (cX : ClassId) (g : Nat → Int32), tys[1]? = some (cX, .char) ∧ w[69 + 2 * j]? = some (sh.2 (69 + 2 * j), .inl (cX, 600, .inl g)) ∧ ∀ i, i < 600 → g i = ck j i
/-! the reference's cells likewise; rr: the course's rows -/
def kx_M (tys : List (ClassId × FieldType)) (sh : en_H) (w : va_W) (fs : List Value) (hc pc : Nat) (bg : Int32) (rr mk : Nat → Nat → Int32) : Prop :=
  (w[0]? = some (sh.2 0, .inr (13, fs)) ∧ fs.length = 31 ∧ fs[0]? = some (.ref (sh.2 1)) ∧ fs[1]? = some (.ref (sh.2 27)) ∧ fs[16]? = some (.int (nI hc)) ∧ fs[17]? = some (.int (nI pc)) ∧ fs[21]? = some (.int bg) ∧ hc ≤ 9 ∧ pc ≤ 6 ∧ (bg = 0 ∨ bg = 1)) ∧
  (∃ (cR : ClassId) (f : Nat → Option Nat), tys[5]? = some (cR, .array .int) ∧ w[1]? = some (sh.2 1, .inl (cR, 9, .inr (.inr (.inr (.inr f))))) ∧ ∀ j, j < 9 → f j = some (sh.2 (2 + j))) ∧
  (∃ (cR : ClassId) (f : Nat → Option Nat), tys[6]? = some (cR, .array .char) ∧ w[27]? = some (sh.2 27, .inl (cR, 9, .inr (.inr (.inr (.inr f))))) ∧ ∀ j, j < 9 → f j = some (sh.2 (28 + j))) ∧
  (∀ j, j < 9 → ∃ (cI : ClassId) (g : Nat → Int32), tys[0]? = some (cI, .int) ∧ w[2 + j]? = some (sh.2 (2 + j), .inl (cI, 7, .inl g)) ∧ ∀ i, i < 7 → g i = rr j i) ∧
  ∀ j, j < 9 → ∃ (cX : ClassId) (g : Nat → Int32), tys[1]? = some (cX, .char) ∧ w[28 + j]? = some (sh.2 (28 + j), .inl (cX, 600, .inl g)) ∧ ∀ i, i < 600 → g i = mk j i
/-- only what a call of the reference told is another -/
def kx_T (sh : en_H) (w w1 : va_W) (fs fs1 : List Value) (t : Int32) : Prop := w1[0]? = some (sh.2 0, .inr (13, fs1)) ∧ fs1.length = fs.length ∧ fs1[30]? = some (.int t) ∧ (∀ j, j ≠ 30 → fs1[j]? = fs[j]?) ∧ w1.length = w.length ∧ ∀ j, j ≠ 0 → w1[j]? = w[j]?
theorem kx_T.rf {sh : en_H} {w : va_W} {fs : List Value} {t : Int32} (h : w[0]? = some (sh.2 0, .inr (13, fs))) (ht : fs[30]? = some (.int t)) : kx_T sh w w fs fs t := ⟨h, rfl, ht, fun _ _ => rfl, rfl, fun _ _ => rfl⟩
theorem kx_T.tr {sh : en_H} {w w1 w2 : va_W} {fs fs1 fs2 : List Value} {t t2 : Int32} (h : kx_T sh w w1 fs fs1 t) (g : kx_T sh w1 w2 fs1 fs2 t2) : kx_T sh w w2 fs fs2 t2 := ⟨g.1, g.2.1.trans h.2.1, g.2.2.1, fun j hj => (g.2.2.2.1 j hj).trans (h.2.2.2.1 j hj), g.2.2.2.2.1.trans h.2.2.2.2.1, fun j hj => (g.2.2.2.2.2 j hj).trans (h.2.2.2.2.2 j hj)⟩
theorem kx_M.t {tys : List (ClassId × FieldType)} {sh : en_H} {w w1 : va_W} {fs fs1 : List Value} {hc pc : Nat} {bg t : Int32} {rr mk : Nat → Nat → Int32} (h : kx_M tys sh w fs hc pc bg rr mk) (g : kx_T sh w w1 fs fs1 t) : kx_M tys sh w1 fs1 hc pc bg rr mk := by
  obtain ⟨⟨a1, a2, a3, a4, a5, a6, a7, a8⟩, ⟨cR, f, b1, b2, b3⟩, ⟨cR2, f2, c1, c2, c3⟩, d, e⟩ := h
  obtain ⟨g1, g2, g3, g4, g5, g6⟩ := g
  refine ⟨⟨g1, g2.trans a2, (g4 0 (by decide)).trans a3, (g4 1 (by decide)).trans a4, (g4 16 (by decide)).trans a5, (g4 17 (by decide)).trans a6, (g4 21 (by decide)).trans a7, a8⟩, ⟨cR, f, b1, (g6 1 (by decide)).trans b2, b3⟩, ⟨cR2, f2, c1, (g6 27 (by decide)).trans c2, c3⟩, fun j hj => ?_, fun j hj => ?_⟩
  · obtain ⟨cI, gg, x1, x2, x3⟩ := d j hj
    exact ⟨cI, gg, x1, (g6 (2 + j) (by omega)).trans x2, x3⟩
  · obtain ⟨cI, gg, x1, x2, x3⟩ := e j hj
    exact ⟨cI, gg, x1, (g6 (28 + j) (by omega)).trans x2, x3⟩
/-- another class's cells where those places are as they were -/
theorem kx_X.of {tys : List (ClassId × FieldType)} {sh : en_H} {w w1 : va_W} {fx : List Value} {hc pc : Nat} {bg : Int32} {ix ar : Nat → Int32} {ck : Nat → Nat → Int32} (h : kx_X tys sh w fx hc pc bg ix ar ck) (g : ∀ j, 66 ≤ j → j < 86 → w1[j]? = w[j]?) : kx_X tys sh w1 fx hc pc bg ix ar ck := by
  obtain ⟨⟨a1, a2⟩, ⟨cH, f, b1, b2, b3⟩, c, d⟩ := h
  refine ⟨⟨(g 66 (by decide) (by decide)).trans a1, a2⟩, ⟨cH, f, b1, (g 67 (by decide) (by decide)).trans b2, b3⟩, fun j hj => ?_, fun j hj => ?_⟩
  · obtain ⟨p, c0, t, x⟩ := c j hj
    exact ⟨p, c0, t, (g _ (by omega) (by omega)).trans x⟩
  · obtain ⟨cX, gg, x1, x2, x3⟩ := d j hj
    exact ⟨cX, gg, x1, (g _ (by omega) (by omega)).trans x2, x3⟩
section
variable {tys : List (ClassId × FieldType)} {sh : en_H} {w w1 : va_W} {fx fx1 : List Value} {hc pc : Nat} {bg : Int32} {ix ar : Nat → Int32} {ck : Nat → Nat → Int32}
/-- a hole added -/
theorem kx_X.hole {p i c t : Int32} (h : kx_X tys sh w fx hc pc bg ix ar ck) (hlt : hc < 9) (e : w1[66]? = some (sh.2 66, .inr (12, fx1))) (hrow : w1[68 + 2 * hc]? = some (sh.2 (68 + 2 * hc), .inr (9, [.ref (sh.2 (69 + 2 * hc)), .int p, .int i, .int c, .int t, .int (ar hc)]))) (ho : ∀ j, j ≠ 66 → j ≠ 68 + 2 * hc → w1[j]? = w[j]?) (g : ∀ j, j ≠ 4 → fx1[j]? = fx[j]?) (g4 : fx1[4]? = some (.int (nI (hc + 1)))) (hl : fx1.length = fx.length) : kx_X tys sh w1 fx1 (hc + 1) pc bg (va_up ix hc i) ar ck := by
  obtain ⟨⟨a1, a2, a3, a4, a5, a6, a7, a8⟩, ⟨cH, f, b1, b2, b3⟩, c0, d⟩ := h
  refine ⟨⟨e, hl.trans a2, (g 0 (by decide)).trans a3, g4, (g 5 (by decide)).trans a5, (g 10 (by decide)).trans a6, by omega, a8⟩, ⟨cH, f, b1, (ho 67 (by decide) (by omega)).trans b2, b3⟩, fun j hj => ?_, fun j hj => ?_⟩
  · by_cases hjh : j = hc
    · subst hjh
      exact ⟨p, c, t, by rw [va_up_self]; exact hrow⟩
    · obtain ⟨p0, c1, t0, x⟩ := c0 j hj
      exact ⟨p0, c1, t0, by rw [va_up_ne _ _ hjh]; exact (ho _ (by omega) (by omega)).trans x⟩
  · obtain ⟨cX, gg, x1, x2, x3⟩ := d j hj
    exact ⟨cX, gg, x1, (ho _ (by omega) (by omega)).trans x2, x3⟩
/-- a player added -/
theorem kx_X.player (h : kx_X tys sh w fx hc pc bg ix ar ck) (hlt : pc < 6) (e : w1[66]? = some (sh.2 66, .inr (12, fx1))) (ho : ∀ j, j ≠ 66 → w1[j]? = w[j]?) (g : ∀ j, j ≠ 5 → fx1[j]? = fx[j]?) (g5 : fx1[5]? = some (.int (nI (pc + 1)))) (hl : fx1.length = fx.length) : kx_X tys sh w1 fx1 hc (pc + 1) bg ix ar ck := by
  obtain ⟨⟨a1, a2, a3, a4, a5, a6, a7, a8, a9⟩, ⟨cH, f, b1, b2, b3⟩, c0, d⟩ := h
  refine ⟨⟨e, hl.trans a2, (g 0 (by decide)).trans a3, (g 4 (by decide)).trans a4, g5, (g 10 (by decide)).trans a6, a7, by omega, a9⟩, ⟨cH, f, b1, (ho 67 (by decide)).trans b2, b3⟩, fun j hj => ?_, fun j hj => ?_⟩
  · obtain ⟨p0, c1, t0, x⟩ := c0 j hj
    exact ⟨p0, c1, t0, (ho _ (by omega)).trans x⟩
  · obtain ⟨cX, gg, x1, x2, x3⟩ := d j hj
    exact ⟨cX, gg, x1, (ho _ (by omega)).trans x2, x3⟩
end
/-- numbers of a hole that are in range, cup and tee apart -/
def kx_hg (a1 a2 a3 a4 a5 a6 : Int32) : Prop := (3 ≤ a1.toInt ∧ a1.toInt ≤ 5) ∧ (1 ≤ a2.toInt ∧ a2.toInt ≤ 9) ∧ en_ce a3 a4 ∧ en_ce a5 a6 ∧ ¬ (a3 = a5 ∧ a4 = a6)
/-- an area's kind and rectangle that may be told -/
def kx_ag (k l lo r hi : Int32) : Prop := kx_kd k ∧ en_ce l lo ∧ en_ce r hi ∧ l.toInt ≤ r.toInt ∧ lo.toInt ≤ hi.toInt
/-- painted up to a cell, by rows -/
def kx_pp (g : Nat → Int32) (k : Int32) (l lo r y x : Nat) : Nat → Int32 := fun i => if l ≤ i % 30 ∧ i % 30 ≤ r ∧ lo ≤ i / 30 ∧ (i / 30 < y ∨ (i / 30 = y ∧ i % 30 < x)) then k else g i
/-- painted whole -/
def kx_pt (g : Nat → Int32) (k : Int32) (l lo r hi : Nat) : Nat → Int32 := fun i => if l ≤ i % 30 ∧ i % 30 ≤ r ∧ lo ≤ i / 30 ∧ i / 30 ≤ hi then k else g i
def kx_ck (ck : Nat → Nat → Int32) (h : Nat) (k l lo r hi : Int32) : Nat → Nat → Int32 := fun j i => if j = h then kx_pt (ck h) k l.toInt.toNat lo.toInt.toNat r.toInt.toNat hi.toInt.toNat i else ck j i
theorem kx_pp0 {g : Nat → Int32} {k : Int32} {l lo r i : Nat} : kx_pp g k l lo r lo l i = g i := if_neg (by omega)
theorem kx_ppx {g f : Nat → Int32} {k : Int32} {l lo r y x : Nat} (hf : ∀ i, i < 600 → f i = kx_pp g k l lo r y x i) (h1 : l ≤ x) (h2 : x ≤ r) (h3 : lo ≤ y) (h4 : x < 30) : ∀ i, i < 600 → upd f (y * 30 + x) k i = kx_pp g k l lo r y (x + 1) i := fun i hi => by
  unfold upd
  by_cases e : i = y * 30 + x
  · rw [if_pos e]
    unfold kx_pp
    rw [if_pos (by omega)]
  · rw [if_neg e, hf i hi]
    unfold kx_pp
    by_cases c : l ≤ i % 30 ∧ i % 30 ≤ r ∧ lo ≤ i / 30 ∧ (i / 30 < y ∨ (i / 30 = y ∧ i % 30 < x))
    · rw [if_pos c, if_pos (by omega)]
    · rw [if_neg c, if_neg (by omega)]
theorem kx_ppy {g f : Nat → Int32} {k : Int32} {l lo r y : Nat} (hf : ∀ i, i < 600 → f i = kx_pp g k l lo r y (r + 1) i) (h3 : lo ≤ y) : ∀ i, i < 600 → f i = kx_pp g k l lo r (y + 1) l i := fun i hi => by
  rw [hf i hi]
  unfold kx_pp
  by_cases c : l ≤ i % 30 ∧ i % 30 ≤ r ∧ lo ≤ i / 30 ∧ (i / 30 < y ∨ (i / 30 = y ∧ i % 30 < r + 1))
  · rw [if_pos c, if_pos (by omega)]
  · rw [if_neg c, if_neg (by omega)]
theorem kx_ppz {g f : Nat → Int32} {k : Int32} {l lo r hi : Nat} (hf : ∀ i, i < 600 → f i = kx_pp g k l lo r (hi + 1) l i) : ∀ i, i < 600 → f i = kx_pt g k l lo r hi i := fun i h => by
  rw [hf i h]
  unfold kx_pp kx_pt
  by_cases c : l ≤ i % 30 ∧ i % 30 ≤ r ∧ lo ≤ i / 30 ∧ (i / 30 < hi + 1 ∨ (i / 30 = hi + 1 ∧ i % 30 < l))
  · rw [if_pos c, if_pos (by omega)]
  · rw [if_neg c, if_neg (by omega)]
section
variable {tys : List (ClassId × FieldType)} {sh : en_H} {w w1 : va_W} {fx : List Value} {hc pc : Nat} {bg : Int32} {ix ar : Nat → Int32} {ck : Nat → Nat → Int32}
/-- an area painted -/
theorem kx_X.area {h : Nat} {cX : ClassId} {g : Nat → Int32} {p c t k l lo r hi : Int32} (hX : kx_X tys sh w fx hc pc bg ix ar ck) (hh : h < 9) (ht : tys[1]? = some (cX, .char)) (hrow : w1[68 + 2 * h]? = some (sh.2 (68 + 2 * h), .inr (9, [.ref (sh.2 (69 + 2 * h)), .int p, .int (ix h), .int c, .int t, .int (ar h + 1)]))) (harr : w1[69 + 2 * h]? = some (sh.2 (69 + 2 * h), .inl (cX, 600, .inl g))) (hg : ∀ i, i < 600 → g i = kx_pt (ck h) k l.toInt.toNat lo.toInt.toNat r.toInt.toNat hi.toInt.toNat i) (ho : ∀ j, j ≠ 68 + 2 * h → j ≠ 69 + 2 * h → w1[j]? = w[j]?) : kx_X tys sh w1 fx hc pc bg ix (va_up ar h (ar h + 1)) (kx_ck ck h k l lo r hi) := by
  obtain ⟨⟨a1, a2⟩, ⟨cH, f, b1, b2, b3⟩, c0, d⟩ := hX
  refine ⟨⟨(ho 66 (by omega) (by omega)).trans a1, a2⟩, ⟨cH, f, b1, (ho 67 (by omega) (by omega)).trans b2, b3⟩, fun j hj => ?_, fun j hj => ?_⟩
  · by_cases hjh : j = h
    · subst hjh
      exact ⟨p, c, t, by rw [va_up_self]; exact hrow⟩
    · obtain ⟨p0, c1, t0, x⟩ := c0 j hj
      exact ⟨p0, c1, t0, by rw [va_up_ne _ _ hjh]; exact (ho _ (by omega) (by omega)).trans x⟩
  · by_cases hjh : j = h
    · subst hjh
      exact ⟨cX, g, ht, harr, fun i h9 => by unfold kx_ck; rw [if_pos rfl]; exact hg i h9⟩
    · obtain ⟨cX9, gg, x1, x2, x3⟩ := d j hj
      exact ⟨cX9, gg, x1, (ho _ (by omega) (by omega)).trans x2, fun i h9 => by unfold kx_ck; rw [if_neg hjh]; exact x3 i h9⟩
end
