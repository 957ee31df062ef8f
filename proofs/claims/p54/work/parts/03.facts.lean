/-! what throws stand on; regions; a row of the kit that lacked -/
abbrev tf_N2 : List String := ["java/lang/RuntimeException", "java/lang/Exception"]
/-- the exceptions that a fresh object throws: by the constructor's link, the class -/
def tf_E : List (Nat × String) := [(53, "java/lang/IllegalArgumentException"), (69, "java/lang/IllegalStateException"), (78, "java/lang/UnsupportedOperationException"), (539, "java/lang/IndexOutOfBoundsException"), (181, "java/util/NoSuchElementException"), (561, "java/lang/ArithmeticException")]
/-- their words that aren't good ones -/
def tf_B : List Cond := (tf_E.flatMap (fun q => vx_atS RX6 q.1 q.2 tf_N2)).filter (fun w => !goodWord w)
/-- the texts that they are thrown with -/
def tf_str : List (Nat × String) := [(51, "a number is out of range"), (56, "the cup and the tee are the same cell"), (67, "no hole can be added"), (76, "another hole has this index"), (103, "no such kind or rectangle"), (108, "no area can be added"), (125, "no player can be added"), (130, "the handicap is out of range"), (135, "a round is on"), (143, "no such edition"), (145, "no such format"), (147, "no round can be begun"), (179, "all are done"), (242, "no such kind"), (263, "no such provisional ball"), (268, "the ball is not sought"), (286, "no relief at the spot"), (292, "the number is out of range"), (303, "no relief on the line"), (308, "no relief aside"), (314, "no relief without a penalty"), (319, "there is no point"), (330, "the cell is not allowed"), (341, "no wrong place there"), (346, "there is nothing to be corrected"), (354, "no such cause"), (356, "the ball cannot be moved so"), (361, "no such wrong ball"), (363, "the player is done"), (368, "there is no stroke to be cancelled"), (377, "no such thing"), (385, "it cannot be conceded"), (399, "somebody is not done"), (417, "the ball lies nowhere"), (425, "there is no score"), (438, "the score is out of range"), (446, "nothing can be written"), (451, "the card cannot be signed"), (456, "there is no score on some hole"), (464, "nothing is written for some hole"), (486, "both are the same"), (488, "nothing is written for both"), (506, "the greatest rank is out of range"), (511, "the conditions are out of range"), (519, "the card cannot be posted"), (537, "no such difference"), (568, "no such player"), (570, "no such hole"), (572, "no such cell"), (574, "no round is on"), (576, "no play is on"), (578, "no such stroke"), (580, "there is no match"), (582, "the round is not over"), (584, "no signed card, or out"), (586, "nothing was posted")]
def tf_X : List String := tf_E.map Prod.snd
theorem tf_face : ∀ w ∈ tf_B, (w.onTables && w.keepsFace) = true := by decide +kernel
theorem tf_ok : ∀ q ∈ tf_E, Bundle.fit q.2 = true ∧ (∀ w ∈ (vx_atS RX6 q.1 q.2 tf_N2).filter (fun w => !goodWord w), w ∈ tf_B) ∧ ∀ w ∈ vx_atS RX6 q.1 q.2 tf_N2, vx_ot w = true := by decide +kernel
theorem tf_cast : ∀ q ∈ tf_E, Cond.castable q.2 q.2 ∈ tf_B := by decide +kernel
theorem nw_face {w : Cond} (h1 : (w.onTables && w.keepsFace) = true) {s U : State} (hW : s.WarmedH U.vm) (h : va_Nw w s) : va_Nw w U := by
  simp only [Bool.and_eq_true] at h1
  exact va_tabs h1.1 (rfl : (s.setVm U.vm).vm = U.vm) (Cond.before_shiftedFace (State.Shifted.of_warmed hW) _ h1.2 h)
/-- members of a nest mate that are private: the class, the index, the method, the host -/
def tf_M : List (String × Nat × MethodName × String) := [(RX3, 15, yX6_isCell, "FairwayChancery"), (RX3, 19, yX6_cellAt, "FairwayChancery"), (RX3, 34, yX6_distance, "FairwayChancery"), (RX3, 48, yX6_commonDivisor, "FairwayChancery"), (RX3, 66, yX6_rootFrom, "FairwayChancery")]
/-- what a throw stands on, outside A; private members of nest mates -/
def tf (A : Nat → Prop) (U : State) (H : Heap) : Prop := (∀ w ∈ tf_B, va_Nw w U) ∧ (∀ q ∈ tf_str, ∃ a, vk_R RX6 q.1 q.2 a U) ∧ vx_Zq Bundle.tN "UNASSIGNED_STACK" Bundle.steD A U H ∧ vx_Zq Bundle.tN "SUPPRESSED_SENTINEL" Bundle.listD A U H ∧ (∀ a ∈ tf_X, ∀ b ∈ tf_X, a ≠ b → va_Nc a b U) ∧ ∀ z ∈ tf_M, va_Nw (.methodLinkNest z.1 z.2.1 z.2.2.1 z.2.2.2) U
theorem tf.go {A B : Nat → Prop} {s U : State} {H : Heap} {locs : List Loc} (h : tf A s s.heap) (hS : va_S A s.heap H locs) (hW : s.WarmedH U.vm) (hU : U.heap = H) (hAB : ∀ q, B q → A q) : tf B U U.heap := by
  obtain ⟨h1, h2, h3, h4, h5, h6⟩ := h
  refine ⟨fun w hw => nw_face (tf_face w hw) hW (h1 w hw), fun q hq => ?_, ?_, ?_, fun a ha b hb hn => va_Nc.moved hW.alike (h5 a ha b hb hn), fun z hz => va_Nw.warmM hW (h6 z hz)⟩
  · obtain ⟨a, ha⟩ := h2 q hq
    exact ⟨a, vk_R.warm hW ha⟩
  · rw [hU]
    exact vx_Zq.narrow (vx_Zq.moved hW.alike (h3.kept hS.2.1)) hAB
  · rw [hU]
    exact vx_Zq.narrow (vx_Zq.moved hW.alike (h4.kept hS.2.1)) hAB
theorem tf.blind {A : Nat → Prop} {U : State} {g : JFrame} {mk : MethodId} {a : Array Value} (h : tf A U U.heap) : tf A (U.calling g mk a) (U.calling g mk a).heap := by
  obtain ⟨h1, h2, h3, h4, h5, h6⟩ := h
  refine ⟨fun w hw => va_Nw.same (u := U) ((Bool.and_eq_true _ _ ▸ tf_face w hw).1) rfl (h1 w hw), fun q hq => ?_, ?_, ?_, fun a ha b hb hn => va_Nc.moved (u := U) (Vm.Alike.refl U.vm) (h5 a ha b hb hn), fun z hz => va_Nw.same (u := U) rfl rfl (h6 z hz)⟩
  · obtain ⟨a, ha⟩ := h2 q hq
    exact ⟨a, vk_R.same (u := U) rfl ha⟩
  · exact vx_Zq.moved (u := U) (Vm.Alike.refl U.vm) h3
  · exact vx_Zq.moved (u := U) (Vm.Alike.refl U.vm) h4
section
variable {p : Program} {l : Launch} {e : Env} {R : Room} {s : State} {m : MethodId} {args : Array Value} {below : List Frame} {meth : Method} {c : Code} {H : Heap} {locs : List Loc} {cells slots : Nat} {Q : State → Prop}
/-- aaload out of an array of arrays -/
theorem va_aldqA {cc : ByteArray} {pc : Nat} {ls : Array Slot} {rest : List Value} {D : va_G} {cl : List vw_C} {a : Nat} {tys : List (ClassId × FieldType)} {ws : va_W} (hexec : p.tables.exec = Jvm.exec) (hb : c.code = cc) (hK : va_K D cl tys s) (hP : va_P D cl ws H) (q0 t0 : Nat) {cA : ClassId} {t : FieldType} {n : Nat} {f : Nat → Option Nat} (ha : ws[q0]? = some (a, .inl (cA, n, .inr (.inr (.inr (.inr f)))))) (ht : tys[t0]? = some (cA, .array t)) {i : Int32} (hin : vp_in i n) (hdg : decode cc pc = .ok (.aaload, 1))
    (kk : W p l e R s m args below meth c H locs cells slots Q (F0 m (pc + 1) ls (va_rf (f i.toNatClampNeg) :: rest))) : W p l e R s m args below meth c H locs cells slots Q (F0 m pc ls (.int i :: .ref a :: rest)) := by
  have hlt : i.toNatClampNeg < n := Nat.not_le.mp fun q => hin (Or.inr q)
  refine W.aald (v := va_rf (f i.toNatClampNeg)) (ty := .array t) hexec hb (hP q0 _ ha) ((hK.2 t0 _ ht).1 n (fun j => va_rf (f j))) rfl (fun q => by cases q) ?_ ?_ rfl rfl hdg kk
  · show ¬ (i < 0 ∨ (arrV _ _ _).slots.size ≤ _)
    rw [arrV_size]
    exact hin
  · show (arrV _ _ _).slots[_]? = _
    rw [arrV_read _ _ hlt]
end
