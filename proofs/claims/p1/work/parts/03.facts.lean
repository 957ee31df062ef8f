/-! what a fresh object is, here and in the reference; what the throws stand on -/
abbrev FX6 (r : Nat → Nat) : List Value := [.ref (r 0), .ref (r 1), .ref (r 2), .ref (r 3), .int 0, .int 0, .int 1, .int 110, .int 0, .int 115, .int 0, .int 0, .int 0, .int 0]
abbrev FX7 (r : Nat → Nat) (th : Int32) : List Value := [.ref (r 0), .ref (r 1), .ref (r 2), .ref (r 3), .ref (r 4), .ref (r 5), .ref (r 6), .ref (r 7), .ref (r 8), .ref (r 9), .ref (r 10), .ref (r 11), .ref (r 12), .ref (r 13), .ref (r 14), .ref (r 15), .int 0, .int 0, .int 1, .int 110, .int 0, .int 0, .int 0, .int 0, .int 0, .int 0, .int 0, .int 0, .int 0, .int 0, .int th]
abbrev tf_N2 : List String := ["java/lang/RuntimeException", "java/lang/Exception"]
/-- the exceptions that a fresh object throws: by the constructor's link, the class -/
def tf_E : List (Nat × String) := [(53, "java/lang/IllegalArgumentException"), (69, "java/lang/IllegalStateException"), (78, "java/lang/UnsupportedOperationException"), (539, "java/lang/IndexOutOfBoundsException")]
/-- their words that aren't good ones -/
def tf_B : List Cond := (tf_E.flatMap (fun q => vx_atS RX6 q.1 q.2 tf_N2)).filter (fun w => !goodWord w)
/-- the texts that they are thrown with -/
def tf_str : List (Nat × String) := [(51, "a number is out of range"), (56, "the cup and the tee are the same cell"), (145, "no such format"), (147, "no round can be begun"), (143, "no such edition"), (506, "the greatest rank is out of range"), (511, "the conditions are out of range"), (568, "no such player"), (570, "no such hole"), (574, "no round is on"), (580, "there is no match")]
theorem tf_face : ∀ w ∈ tf_B, (w.onTables && w.keepsFace) = true := by decide +kernel
theorem tf_ok : ∀ q ∈ tf_E, Bundle.fit q.2 = true ∧ (∀ w ∈ (vx_atS RX6 q.1 q.2 tf_N2).filter (fun w => !goodWord w), w ∈ tf_B) ∧ ∀ w ∈ vx_atS RX6 q.1 q.2 tf_N2, vx_ot w = true := by decide +kernel
theorem tf_cast : ∀ q ∈ tf_E, Cond.castable q.2 q.2 ∈ tf_B := by decide +kernel
theorem nw_face {w : Cond} (h1 : (w.onTables && w.keepsFace) = true) {s U : State} (hW : s.WarmedH U.vm) (h : va_Nw w s) : va_Nw w U := by
  simp only [Bool.and_eq_true] at h1
  exact va_tabs h1.1 (rfl : (s.setVm U.vm).vm = U.vm) (Cond.before_shiftedFace (State.Shifted.of_warmed hW) _ h1.2 h)
/-- what a throw stands on, outside A -/
def tf (A : Nat → Prop) (U : State) (H : Heap) : Prop := (∀ w ∈ tf_B, va_Nw w U) ∧ (∀ q ∈ tf_str, ∃ a, vk_R RX6 q.1 q.2 a U) ∧ vx_Zq Bundle.tN "UNASSIGNED_STACK" Bundle.steD A U H ∧ vx_Zq Bundle.tN "SUPPRESSED_SENTINEL" Bundle.listD A U H ∧ va_Nc "java/lang/UnsupportedOperationException" "java/lang/IllegalArgumentException" U
theorem tf.go {A B : Nat → Prop} {s U : State} {H : Heap} {locs : List Loc} (h : tf A s s.heap) (hS : va_S A s.heap H locs) (hW : s.WarmedH U.vm) (hU : U.heap = H) (hAB : ∀ q, B q → A q) : tf B U U.heap := by
  obtain ⟨h1, h2, h3, h4, h5⟩ := h
  refine ⟨fun w hw => nw_face (tf_face w hw) hW (h1 w hw), fun q hq => ?_, ?_, ?_, va_Nc.moved hW.alike h5⟩
  · obtain ⟨a, ha⟩ := h2 q hq
    exact ⟨a, vk_R.warm hW ha⟩
  · rw [hU]
    exact vx_Zq.narrow (vx_Zq.moved hW.alike (h3.kept hS.2.1)) hAB
  · rw [hU]
    exact vx_Zq.narrow (vx_Zq.moved hW.alike (h4.kept hS.2.1)) hAB
theorem tf.blind {A : Nat → Prop} {U : State} {g : JFrame} {mk : MethodId} {a : Array Value} (h : tf A U U.heap) : tf A (U.calling g mk a) (U.calling g mk a).heap := by
  obtain ⟨h1, h2, h3, h4, h5⟩ := h
  refine ⟨fun w hw => va_Nw.same (u := U) ((Bool.and_eq_true _ _ ▸ tf_face w hw).1) rfl (h1 w hw), fun q hq => ?_, ?_, ?_, va_Nc.moved (u := U) (Vm.Alike.refl U.vm) h5⟩
  · obtain ⟨a, ha⟩ := h2 q hq
    exact ⟨a, vk_R.same (u := U) rfl ha⟩
  · exact vx_Zq.moved (u := U) (Vm.Alike.refl U.vm) h3
  · exact vx_Zq.moved (u := U) (Vm.Alike.refl U.vm) h4
-- regions: what a method may write, of size sz at its start
def rg0 (sz : Nat) : Nat → Prop := fun q => sz ≤ q
def rg1 (h0 sz : Nat) : Nat → Prop := fun q => q = h0 ∨ sz ≤ q
theorem rg0_le {a b : Nat} (h : a ≤ b) : ∀ q, rg0 b q → rg0 a q := fun _ hq => Nat.le_trans h hq
theorem rg1_D {D0 : Nat} {sz : Nat} {e : va_E} : va_D (rg1 D0 sz) [(D0, e)] := ⟨fun i j p q hi hj _ => by
    have h1 : i < 1 := (List.getElem?_eq_some_iff.mp hi).1
    have h2 : j < 1 := (List.getElem?_eq_some_iff.mp hj).1
    omega, fun k q h => by
    have h1 : k < 1 := (List.getElem?_eq_some_iff.mp h).1
    rw [show k = 0 by omega] at h
    cases h
    exact Or.inl rfl⟩
/-- the world is as it was: nothing old was written -/
theorem va_kept0 {D : va_G} {cl : List vw_C} {ws : va_W} {H H1 : Heap} (hP : va_P D cl ws H) (hk : ∀ q : Nat, q < H.size → ¬ rg0 H.size q → H1[q]? = H[q]?) : va_P D cl ws H1 := hP.kept (fun k x hx => hk x.1 ((hP k x hx).lt) (Nat.not_le.mpr ((hP k x hx).lt)))
/-- a fresh object at h0 -/
def PX6 (D : va_G) (h0 : Nat) (r : Nat → Nat) (sz : Nat) : State → Prop := fun U => U.heap.size = sz ∧ va_P D vwCl [(h0, .inr (12, FX6 r))] U.heap ∧ va_K D vwCl [] U ∧ tf (rg0 sz) U U.heap
/-- a fresh reference at h0, with what it said last -/
def PX7 (D : va_G) (h0 : Nat) (r : Nat → Nat) (th : Int32) (sz : Nat) : State → Prop := fun U => U.heap.size = sz ∧ va_P D vwCl [(h0, .inr (13, FX7 r th))] U.heap ∧ va_K D vwCl [] U
theorem PX6.blind {D : va_G} {h0 : Nat} {r : Nat → Nat} {sz : Nat} {U : State} {g : JFrame} {mk : MethodId} {a : Array Value} (h : PX6 D h0 r sz U) : PX6 D h0 r sz (U.calling g mk a) := ⟨h.1, h.2.1, va_K.moved (u := U) (U := U.calling g mk a) (Vm.Alike.refl U.vm) h.2.2.1, h.2.2.2.blind⟩
theorem PX7.blind {D : va_G} {h0 : Nat} {r : Nat → Nat} {th : Int32} {sz : Nat} {U : State} {g : JFrame} {mk : MethodId} {a : Array Value} (h : PX7 D h0 r th sz U) : PX7 D h0 r th sz (U.calling g mk a) := ⟨h.1, h.2.1, va_K.moved (u := U) (U := U.calling g mk a) (Vm.Alike.refl U.vm) h.2.2⟩
theorem PX6.go {D : va_G} {h0 : Nat} {r : Nat → Nat} {s U : State} {H : Heap} {locs : List Loc} {A : Nat → Prop} (hP : va_P D vwCl [(h0, .inr (12, FX6 r))] H) (hK : va_K D vwCl [] s) (hT : tf A s s.heap) (hS : va_S A s.heap H locs) (hA : ∀ q, s.heap.size ≤ q → A q) (hU : U.heap = H) (hW : s.WarmedH U.vm) : PX6 D h0 r H.size U := ⟨by rw [hU], by rw [hU]; exact hP, va_K.moved hW.alike hK, hT.go hS hW hU (fun q hq => hA q (Nat.le_trans hS.1 hq))⟩
theorem PX7.go {D : va_G} {h0 : Nat} {r : Nat → Nat} {th : Int32} {s U : State} {H : Heap} (hP : va_P D vwCl [(h0, .inr (13, FX7 r th))] H) (hK : va_K D vwCl [] s) (hU : U.heap = H) (hW : s.WarmedH U.vm) : PX7 D h0 r th H.size U := ⟨by rw [hU], by rw [hU]; exact hP, va_K.moved hW.alike hK⟩
/-- an E with P leaves the method -/
def tX (P : String → Prop) (A : Nat → Prop) : String → State → State → Prop := vx_X (S := Unit) (fun _ => True) (fun E _ _ => P E) A
section
variable {p : Program} {l : Launch} {e : Env} {R : Room} {s : State} {m : MethodId} {args : Array Value} {below : List Frame} {meth : Method} {c : Code} {H : Heap} {locs : List Loc} {cells slots : Nat}
/-- 'throw new E("text")' in the class itself -/
theorem tx_throw {cc : ByteArray} {pc : Nat} {ls : Array Slot} {rest : List Value} {Qc : Array Value → State → Outcome → State → Prop} {A B : Nat → Prop} {P : String → Prop} {cls text : String} {ik is ic mc ms : Nat} (hp : P cls) (hexec : p.tables.exec = Jvm.exec) (hb : c.code = cc) (hl : l.stackTraces = false) (hown : s.vm.findClass RX6 = some m.cls)
    (hq : (ic, cls) ∈ tf_E) (hsn : (is, text) ∈ tf_str) (hk : (Cond.classLink RX6 ik cls).before args s = true) (hini : (Cond.initialized cls).before args s = true) (hat : ∀ w ∈ (vx_atS RX6 ic cls tf_N2).filter goodWord, w.before args s = true) (hT : tf B s s.heap) (hS : va_S B s.heap H locs) (hBA : ∀ q, B q → A q) (hsz : ls.size = c.maxLocals)
    (d0 : decode cc pc = .ok (.new ik, 3)) (d3 : decode cc (pc + 3) = .ok (.dup, 1)) (d4 : decode cc (pc + 4) = .ok (.ldc is, 2)) (d6 : decode cc (pc + 6) = .ok (.invokespecial ic, 3)) (d9 : decode cc (pc + 9) = .ok (.athrow, 1))
    (hne : ∀ x ∈ c.exceptionTable.toList, False) (hRf : 5 < R.frames) (hRl : (rest.map fun v => v.category).sum + 82 ≤ R.locals) (hRc : cells + 1 ≤ R.cells) (hRs : slots + 6 ≤ R.slots) (hlocks : meth.locks = false) (hc : cells + 1 ≤ mc) (hs : slots + 6 ≤ ms) :
    W p l e R s m args below meth c H locs cells slots (vx_MQ below Qc (tX P A) args s mc ms A) (F0 m pc ls rest) := by
  obtain ⟨a, ha⟩ := hT.2.1 _ hsn
  obtain ⟨h1, h2, h3⟩ := tf_ok _ hq
  refine vx_throwS (names := tf_N2) hexec hb hl hown h1 (by decide +kernel) hk hini ha (vx_hat hat h2 (fun w hw => va_Nw.use ((Bool.and_eq_true _ _ ▸ tf_face w hw).1) (hT.1 w hw))) ?_ hT.2.2.1 hT.2.2.2.1 hS hsz d0 d3 d4 d6 d9 (fun x hx => (hne x hx).elim) hRf hRl hRc hRs hlocks (fun t _ hz hk9 => ⟨(), trivial, hp, Nat.le_trans hS.1 hz, fun q hq hnA => (hk9 q (Nat.lt_of_lt_of_le hq hS.1)).trans (hS.2.1 q hq (fun hB => hnA (hBA q hB)))⟩) (fun z hz => hBA _ (hS.2.2 z hz)) hc hs
  intro w hw
  rcases List.mem_cons.mp hw with rfl | hw
  · rfl
  · rcases List.mem_cons.mp hw with rfl | hw
    · rfl
    · exact h3 w hw
/-- 'throw new E("text")' in the class itself, the text by a wide index -/
theorem tx_throwW {cc : ByteArray} {pc : Nat} {ls : Array Slot} {rest : List Value} {Qc : Array Value → State → Outcome → State → Prop} {A B : Nat → Prop} {P : String → Prop} {cls text : String} {ik is ic mc ms : Nat} (hp : P cls) (hexec : p.tables.exec = Jvm.exec) (hb : c.code = cc) (hl : l.stackTraces = false) (hown : s.vm.findClass RX6 = some m.cls)
    (hq : (ic, cls) ∈ tf_E) (hsn : (is, text) ∈ tf_str) (hk : (Cond.classLink RX6 ik cls).before args s = true) (hini : (Cond.initialized cls).before args s = true) (hat : ∀ w ∈ (vx_atS RX6 ic cls tf_N2).filter goodWord, w.before args s = true) (hT : tf B s s.heap) (hS : va_S B s.heap H locs) (hBA : ∀ q, B q → A q) (hsz : ls.size = c.maxLocals)
    (d0 : decode cc pc = .ok (.new ik, 3)) (d3 : decode cc (pc + 3) = .ok (.dup, 1)) (d4 : decode cc (pc + 4) = .ok (.ldc_w is, 3)) (d6 : decode cc (pc + 7) = .ok (.invokespecial ic, 3)) (d9 : decode cc (pc + 10) = .ok (.athrow, 1))
    (hne : ∀ x ∈ c.exceptionTable.toList, False) (hRf : 5 < R.frames) (hRl : (rest.map fun v => v.category).sum + 82 ≤ R.locals) (hRc : cells + 1 ≤ R.cells) (hRs : slots + 6 ≤ R.slots) (hlocks : meth.locks = false) (hc : cells + 1 ≤ mc) (hs : slots + 6 ≤ ms) :
    W p l e R s m args below meth c H locs cells slots (vx_MQ below Qc (tX P A) args s mc ms A) (F0 m pc ls rest) := by
  obtain ⟨a, ha⟩ := hT.2.1 _ hsn
  obtain ⟨h1, h2, h3⟩ := tf_ok _ hq
  refine vx_throwSW (names := tf_N2) hexec hb hl hown h1 (by decide +kernel) hk hini ha (vx_hat hat h2 (fun w hw => va_Nw.use ((Bool.and_eq_true _ _ ▸ tf_face w hw).1) (hT.1 w hw))) ?_ hT.2.2.1 hT.2.2.2.1 hS hsz d0 d3 d4 d6 d9 (fun x hx => (hne x hx).elim) hRf hRl hRc hRs hlocks (fun t _ hz hk9 => ⟨(), trivial, hp, Nat.le_trans hS.1 hz, fun q hq hnA => (hk9 q (Nat.lt_of_lt_of_le hq hS.1)).trans (hS.2.1 q hq (fun hB => hnA (hBA q hB)))⟩) (fun z hz => hBA _ (hS.2.2 z hz)) hc hs
  intro w hw
  rcases List.mem_cons.mp hw with rfl | hw
  · rfl
  · rcases List.mem_cons.mp hw with rfl | hw
    · rfl
    · exact h3 w hw
end
-- numbers
def bIn (v lo hi : Int32) : Int32 := if lo ≤ v ∧ v ≤ hi then 1 else 0
def bCell (x y : Int32) : Int32 := if (0 ≤ x ∧ x ≤ 29) ∧ (0 ≤ y ∧ y ≤ 19) then 1 else 0
theorem bIn_none (v : Int32) : bIn v 0 (-1) = 0 := by
  unfold bIn
  rw [if_neg]
  rintro ⟨h1, h2⟩
  rw [Int32.le_iff_toInt_le] at h1 h2
  have e1 : (0 : Int32).toInt = 0 := by decide
  have e2 : (-1 : Int32).toInt = -1 := by decide
  omega
theorem tI_0 : (0 : Int32).toInt = 0 := by decide
theorem tI_1 : (1 : Int32).toInt = 1 := by decide
theorem tI_3 : (3 : Int32).toInt = 3 := by decide
theorem tI_5 : (5 : Int32).toInt = 5 := by decide
theorem tI_6 : (6 : Int32).toInt = 6 := by decide
theorem tI_9 : (9 : Int32).toInt = 9 := by decide
theorem tI_19 : (19 : Int32).toInt = 19 := by decide
theorem tI_20 : (20 : Int32).toInt = 20 := by decide
theorem tI_29 : (29 : Int32).toInt = 29 := by decide
theorem tI_30 : (30 : Int32).toInt = 30 := by decide
theorem tI_36 : (36 : Int32).toInt = 36 := by decide
theorem tI_m1 : (-1 : Int32).toInt = -1 := by decide
theorem bIn_0 {v lo hi : Int32} : bIn v lo hi = 0 ↔ ¬ (lo.toInt ≤ v.toInt ∧ v.toInt ≤ hi.toInt) := by
  unfold bIn
  simp only [Int32.le_iff_toInt_le]
  split
  · next h => exact ⟨fun q => absurd q (by decide), fun q => absurd h q⟩
  · next h => exact ⟨fun _ => h, fun _ => rfl⟩
theorem bIn_1 {v lo hi : Int32} (h : lo.toInt ≤ v.toInt ∧ v.toInt ≤ hi.toInt) : bIn v lo hi = 1 := by
  unfold bIn
  simp only [Int32.le_iff_toInt_le]
  rw [if_pos h]
theorem bCell_0 {x y : Int32} : bCell x y = 0 ↔ ¬ (0 ≤ x.toInt ∧ x.toInt ≤ 29 ∧ 0 ≤ y.toInt ∧ y.toInt ≤ 19) := by
  unfold bCell
  simp only [Int32.le_iff_toInt_le, tI_0, tI_29, tI_19]
  split
  · next h => exact ⟨fun q => absurd q (by decide), fun q => absurd ⟨h.1.1, h.1.2, h.2.1, h.2.2⟩ q⟩
  · next h => exact ⟨fun _ q => h ⟨⟨q.1, q.2.1⟩, q.2.2.1, q.2.2.2⟩, fun _ => rfl⟩
theorem bCell_1 {x y : Int32} (h : 0 ≤ x.toInt ∧ x.toInt ≤ 29 ∧ 0 ≤ y.toInt ∧ y.toInt ≤ 19) : bCell x y = 1 := by
  unfold bCell
  simp only [Int32.le_iff_toInt_le, tI_0, tI_29, tI_19]
  rw [if_pos ⟨⟨h.1, h.2.1⟩, h.2.2.1, h.2.2.2⟩]
theorem bIn_or (v lo hi : Int32) : bIn v lo hi = 0 ∨ bIn v lo hi = 1 := by
  unfold bIn
  split
  · exact Or.inr rfl
  · exact Or.inl rfl
theorem bCell_or (x y : Int32) : bCell x y = 0 ∨ bCell x y = 1 := by
  unfold bCell
  split
  · exact Or.inr rfl
  · exact Or.inl rfl
/-- what a hole asks of its numbers -/
def okHole (a1 a2 a3 a4 a5 a6 : Int32) : Prop := (3 ≤ a1.toInt ∧ a1.toInt ≤ 5) ∧ (1 ≤ a2.toInt ∧ a2.toInt ≤ 9) ∧ (0 ≤ a3.toInt ∧ a3.toInt ≤ 29 ∧ 0 ≤ a4.toInt ∧ a4.toInt ≤ 19) ∧ (0 ≤ a5.toInt ∧ a5.toInt ≤ 29 ∧ 0 ≤ a6.toInt ∧ a6.toInt ≤ 19) ∧ ¬ (a3 = a5 ∧ a4 = a6)
/-- one object was written, all else is as it was -/
theorem va_keep1 {D : va_G} {cl : List vw_C} {h0 : Nat} {e e' : va_E} {rest : va_W} {H H1 : Heap} {A : Nat → Prop} (hP : va_P D cl ((h0, e) :: rest) H) (hD : va_D A ((h0, e) :: rest)) (hB : va_P D cl [(h0, e')] H1) (hk : ∀ q : Nat, q < H.size → ¬ rg1 h0 H.size q → H1[q]? = H[q]?) : va_P D cl ((h0, e') :: rest) H1 := by
  have hr : va_P D cl rest H := fun k x hx => hP (k + 1) x hx
  have hr1 : va_P D cl rest H1 := hr.kept (fun k x hx => hk x.1 ((hr k x hx).lt) (fun q => q.elim (fun e9 => absurd (hD.1 (k + 1) 0 x (h0, e) hx rfl e9) (Nat.succ_ne_zero k)) (fun h => absurd ((hr k x hx).lt) (Nat.not_lt.mpr h))))
  intro k x hx
  cases k with
  | zero => exact hB 0 x hx
  | succ k => exact hr1 k x hx
theorem va_keep1D {h0 : Nat} {e e' : va_E} {rest : va_W} {A : Nat → Prop} (hD : va_D A ((h0, e) :: rest)) : va_D A ((h0, e') :: rest) := by
  have key : ∀ (k : Nat) (x : Nat × va_E), ((h0, e') :: rest)[k]? = some x → ∃ y : Nat × va_E, ((h0, e) :: rest)[k]? = some y ∧ y.1 = x.1 := by
    intro k x hx
    cases k with
    | zero => cases hx; exact ⟨(h0, e), rfl, rfl⟩
    | succ k => exact ⟨x, hx, rfl⟩
  refine ⟨fun i j p q hi hj e9 => ?_, fun k q h => ?_⟩
  · obtain ⟨y, hy, ey⟩ := key i p hi
    obtain ⟨z, hz, ez⟩ := key j q hj
    exact hD.1 i j y z hy hz (by rw [ey, ez, e9])
  · obtain ⟨y, hy, ey⟩ := key k q h
    rw [← ey]
    exact hD.2 k y hy
section
variable {p : Program} {l : Launch} {e : Env} {R : Room} {s : State} {m : MethodId} {args : Array Value} {below : List Frame} {meth : Method} {c : Code} {H : Heap} {locs : List Loc} {cells slots : Nat} {Q : State → Prop}
/-- aaload out of an array of arrays -/
theorem va_aldqA {cc : ByteArray} {pc : Nat} {ls : Array Slot} {rest : List Value} {D : va_G} {cl : List vw_C} {a : Nat} {tys : List (ClassId × FieldType)} {ws : va_W} (hexec : p.tables.exec = Jvm.exec) (hb : c.code = cc) (hK : va_K D cl tys s) (hP : va_P D cl ws H) (q0 t0 : Nat) {cA : ClassId} {t : FieldType} {n : Nat} {f : Nat → Option Nat} (ha : ws[q0]? = some (a, .inl (cA, n, .inr (.inr (.inr (.inr f)))))) (ht : tys[t0]? = some (cA, .array t)) {i : Int32} (hin : vp_in i n) (hdg : decode cc pc = .ok (.aaload, 1))
    (kk : W p l e R s m args below meth c H locs cells slots Q (F0 m (pc + 1) ls (va_rf (f i.toNatClampNeg) :: rest))) : W p l e R s m args below meth c H locs cells slots Q (F0 m pc ls (.int i :: .ref a :: rest)) := by
  have hlt : i.toNatClampNeg < n := Nat.not_le.mp fun q => hin (Or.inr q)
  refine W.aald (v := va_rf (f i.toNatClampNeg)) (ty := .array t) hexec hb (hP q0 _ ha) ((hK.2 t0 _ ht).1 n (fun j => va_rf (f j))) rfl (fun q => by cases q) ?_ ?_ rfl rfl hdg kk
  · show ¬ (i < 0 ∨ (arrV _ _ _).slots.size ≤ _)
    rw [arrV_size]
    exact hin
  · show (arrV _ _ _).slots[_]? = _
    rw [arrV_read _ _ hlt]
end
