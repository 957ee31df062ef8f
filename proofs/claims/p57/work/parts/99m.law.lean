set_option maxRecDepth 20000 in
theorem uwj_J0 : ∀ w ∈ u_ws RJ0 TJ0 4, w ∈ en_cw := cw_all _ [639, 641, 2306, 2308] (by decide +kernel) (by decide +kernel)
set_option maxRecDepth 20000 in
theorem uwj_J4 : ∀ w ∈ u_ws RJ4 TJ4 4, w ∈ en_cw := cw_all _ [2107, 2109, 2111, 2113] (by decide +kernel) (by decide +kernel)
set_option maxRecDepth 20000 in
theorem uwj_Jx00060 : ∀ w ∈ u_ws RJx00060 TJx00060 6, w ∈ en_cw := cw_all _ [627, 628, 629, 630, 631, 632] (by decide +kernel) (by decide +kernel)
theorem lw_in9 : ∀ w ∈ en_cw, w ∈ lw_tbl := fun w h => (List.mem_filter.mp h).1
theorem lw_D {s : State} {A : Array Value} (hts0 : ∀ w ∈ lw_tbl, w.before A s = true) : ∃ D : va_G, va_K D vwCl [] s := by
  have hts : ∀ w ∈ en_cw, w.before A s = true := fun w h => hts0 w (lw_in9 w h)
  obtain ⟨cJ0, iJ0, kJ0⟩ := u_known (C := RJ0) (T := TJ0) (N := 4) (n := 4) hts uwj_J0 (hts0 (.instantiable RJ0 4) (by decide +kernel))
  obtain ⟨cJ4, iJ4, kJ4⟩ := u_known (C := RJ4) (T := TJ4) (N := 4) (n := 4) hts uwj_J4 (hts0 (.instantiable RJ4 4) (by decide +kernel))
  obtain ⟨cJ6, iJ6, kJ6⟩ := u_known (C := RJ6) (T := TJ6) (N := 1) (n := 1) hts uwj_J6 (hts0 (.instantiable RJ6 1) (by decide +kernel))
  obtain ⟨cJx00060, iJx00060, kJx00060⟩ := u_known (C := RJx00060) (T := TJx00060) (N := 6) (n := 6) hts uwj_Jx00060 (hts0 (.instantiable RJx00060 6) (by decide +kernel))
  obtain ⟨cJx35411, iJx35411, kJx35411⟩ := u_known (C := RJx35411) (T := TJx35411) (N := 4) (n := 4) hts uwj_Jx35411 (hts0 (.instantiable RJx35411 4) (by decide +kernel))
  obtain ⟨cJx4a65c, iJx4a65c, kJx4a65c⟩ := u_known (C := RJx4a65c) (T := TJx4a65c) (N := 3) (n := 3) hts uwj_Jx4a65c (hts0 (.instantiable RJx4a65c 3) (by decide +kernel))
  obtain ⟨cX0, iX0, kX0⟩ := u_known (C := RX0) (T := TX0) (N := 16) (n := 16) hts uwj_X0 (hts0 (.instantiable RX0 16) (by decide +kernel))
  obtain ⟨cX1, iX1, kX1⟩ := u_known (C := RX1) (T := TX1) (N := 6) (n := 6) hts uwj_X1 (hts0 (.instantiable RX1 6) (by decide +kernel))
  obtain ⟨cX2, iX2, kX2⟩ := u_known (C := RX2) (T := TX2) (N := 4) (n := 4) hts uwj_X2 (hts0 (.instantiable RX2 4) (by decide +kernel))
  obtain ⟨cX3, iX3, kX3⟩ := u_known (C := RX3) (T := TX3) (N := 6) (n := 6) hts uwj_X3 (hts0 (.instantiable RX3 6) (by decide +kernel))
  obtain ⟨cX4, iX4, kX4⟩ := u_known (C := RX4) (T := TX4) (N := 6) (n := 6) hts uwj_X4 (hts0 (.instantiable RX4 6) (by decide +kernel))
  obtain ⟨cX5, iX5, kX5⟩ := u_known (C := RX5) (T := TX5) (N := 4) (n := 4) hts uwj_X5 (hts0 (.instantiable RX5 4) (by decide +kernel))
  obtain ⟨cX6, iX6, kX6⟩ := u_known (C := RX6) (T := TX6) (N := 14) (n := 14) hts uwj_X6 (hts0 (.instantiable RX6 14) (by decide +kernel))
  obtain ⟨cX7, iX7, kX7⟩ := u_known (C := RX7) (T := TX7) (N := 31) (n := 31) hts uwj_X7 (hts0 (.instantiable RX7 31) (by decide +kernel))
  refine ⟨((fun c => match c with | 0 => cJ0 | 1 => cJ4 | 2 => cJ6 | 3 => cJx00060 | 4 => cJx35411 | 5 => cJx4a65c | 6 => cX0 | 7 => cX1 | 8 => cX2 | 9 => cX3 | 10 => cX4 | 11 => cX5 | 12 => cX6 | _ => cX7), (fun c => match c with | 0 => iJ0 | 1 => iJ4 | 2 => iJ6 | 3 => iJx00060 | 4 => iJx35411 | 5 => iJx4a65c | 6 => iX0 | 7 => iX1 | 8 => iX2 | 9 => iX3 | 10 => iX4 | 11 => iX5 | 12 => iX6 | _ => iX7)), fun c q hq => ?_, fun k q h => by simp at h⟩
  match c, hq with
  | 0, hq => 
    have h9 : some ((RJ0, TJ0, 4) : vw_C) = some q := hq
    cases h9
    exact kJ0
  | 1, hq => 
    have h9 : some ((RJ4, TJ4, 4) : vw_C) = some q := hq
    cases h9
    exact kJ4
  | 2, hq => 
    have h9 : some ((RJ6, TJ6, 1) : vw_C) = some q := hq
    cases h9
    exact kJ6
  | 3, hq => 
    have h9 : some ((RJx00060, TJx00060, 6) : vw_C) = some q := hq
    cases h9
    exact kJx00060
  | 4, hq => 
    have h9 : some ((RJx35411, TJx35411, 4) : vw_C) = some q := hq
    cases h9
    exact kJx35411
  | 5, hq => 
    have h9 : some ((RJx4a65c, TJx4a65c, 3) : vw_C) = some q := hq
    cases h9
    exact kJx4a65c
  | 6, hq => 
    have h9 : some ((RX0, TX0, 16) : vw_C) = some q := hq
    cases h9
    exact kX0
  | 7, hq => 
    have h9 : some ((RX1, TX1, 6) : vw_C) = some q := hq
    cases h9
    exact kX1
  | 8, hq => 
    have h9 : some ((RX2, TX2, 4) : vw_C) = some q := hq
    cases h9
    exact kX2
  | 9, hq => 
    have h9 : some ((RX3, TX3, 6) : vw_C) = some q := hq
    cases h9
    exact kX3
  | 10, hq => 
    have h9 : some ((RX4, TX4, 6) : vw_C) = some q := hq
    cases h9
    exact kX4
  | 11, hq => 
    have h9 : some ((RX5, TX5, 4) : vw_C) = some q := hq
    cases h9
    exact kX5
  | 12, hq => 
    have h9 : some ((RX6, TX6, 14) : vw_C) = some q := hq
    cases h9
    exact kX6
  | 13, hq => 
    have h9 : some ((RX7, TX7, 31) : vw_C) = some q := hq
    cases h9
    exact kX7
  | n + 14, hq => 
    rw [List.getElem?_eq_none (show vwCl.length ≤ n + 14 from Nat.le_add_left 14 n)] at hq
    cases hq
theorem va_K.ext {D : va_G} {cl : List vw_C} {tys : List (ClassId × FieldType)} {s : State} {x : ClassId × FieldType} (hK : va_K D cl tys s) (h1 : ArrOfT s x.1 x.2) (h2 : va_RA s x.1 x.2) : va_K D cl (tys ++ [x]) s := ⟨hK.1, fun i y hy => by
  by_cases hl : i < tys.length
  · rw [List.getElem?_append_left hl] at hy
    exact hK.2 i y hy
  · rw [List.getElem?_append_right (by omega)] at hy
    have hz : i - tys.length < 1 := (List.getElem?_eq_some_iff.mp hy).1
    rw [show i - tys.length = 0 by omega] at hy
    cases hy
    exact ⟨h1, h2⟩⟩
theorem arrK_p {D : va_G} {cl : List vw_C} {tys : List (ClassId × FieldType)} {s : State} {args : Array Value} {ty : FieldType} (hRA : ∀ c, s.vm.findClass ("[" ++ ty.toString) = some c → va_RA s c ty) (h : (Cond.arrayClass ty).before args s = true) (hK : va_K D cl tys s) : ∃ c : ClassId, va_K D cl (tys ++ [(c, ty)]) s := by
  obtain ⟨c, k, comp, h1, h2, h3⟩ := Cond.arrayClass_spec h
  exact ⟨c, hK.ext (x := (c, ty)) (fun n z => ⟨fun k9 h9 => (by cases h9), k, h2, comp, h3⟩) (hRA c h1)⟩
theorem arrK_o {D : va_G} {cl : List vw_C} {tys : List (ClassId × FieldType)} {s : State} {C : String} (h : va_AO C s) (hK : va_K D cl tys s) : ∃ c : ClassId, va_K D cl (tys ++ [(c, .object C)]) s := by
  obtain ⟨comp, c, k, h1, -, h2, h3, h4⟩ := Cond.arrayOver_spec (args := #[]) (first := s) (s := s) (o := none) (idx := []) h
  exact ⟨c, hK.ext (x := (c, .object C)) (fun n z => ⟨fun k9 h9 => (by cases h9), k, h2, comp, h3⟩) ⟨k, comp, h2, h3, h1, h4⟩⟩
theorem arrK_a {D : va_G} {cl : List vw_C} {tys : List (ClassId × FieldType)} {s : State} {t : FieldType} (h : va_AOA t s) (hK : va_K D cl tys s) : ∃ c : ClassId, va_K D cl (tys ++ [(c, .array t)]) s := by
  obtain ⟨comp, c, k, h1, h2, h3, h4⟩ := Cond.arrayOver_specA (args := #[]) (first := s) (s := s) (o := none) (idx := []) h
  exact ⟨c, hK.ext (x := (c, .array t)) (fun n z => ⟨fun k9 h9 => (by cases h9), k, h2, comp, h3⟩) h4⟩
theorem tf_in : ∀ w ∈ tf_B, w ∈ lw_tbl := by decide +kernel
theorem tf_strin : ∀ q ∈ tf_str, Cond.stringRef RX6 q.1 q.2 ∈ lw_tbl := by decide +kernel
theorem tf_Min : ∀ z ∈ tf_M, (Cond.methodLinkNest z.1 z.2.1 z.2.2.1 z.2.2.2) ∈ lw_tbl := by decide +kernel
theorem tf_Mt : ∀ z ∈ tf_M, (Cond.methodLinkNest z.1 z.2.1 z.2.2.1 z.2.2.2).onTables = true := by decide +kernel
theorem tf_Xg : ∀ a ∈ tf_X, ∀ b ∈ tf_X, a ≠ b → Cond.not (.castable a b) ∈ flatC (Jvm.Cond.and given_1 narrow_1) := by decide +kernel
theorem lw_tf {s : State} {b : Nat} {A : Nat → Prop} {cur : ClassId} (hcur : s.vm.findClass RX6 = some cur) (hts0 : ∀ w ∈ lw_tbl, w.before #[Value.ref b] s = true) (hgv : (Jvm.Cond.and given_1 narrow_1).before #[Value.ref b] s = true) (hA : ∀ a : Nat, a < s.heap.size → ¬ A a) : tf A s s.heap := by
  have hg := flat_of_before _ hgv
  refine ⟨fun w hw => va_Nw.of ((Bool.and_eq_true _ _ ▸ tf_face w hw).1) (hts0 w (tf_in w hw)), fun q hq => ?_, ?_, ?_, fun a ha b9 hb9 hne => va_Nc.of (hg _ (tf_Xg a ha b9 hb9 hne)), fun z hz => va_Nw.of (tf_Mt z hz) (hts0 _ (tf_Min z hz))⟩
  · have h := hts0 _ (tf_strin q hq)
    obtain ⟨_, _, _, a, -, -, -, -, -, hev⟩ := Cond.stringRef_spec hcur h
    exact ⟨a, vk_R.of h hev⟩
  · exact vx_Zqof (hts0 (.laysStatic "java/lang/Throwable" "UNASSIGNED_STACK" "[Ljava/lang/StackTraceElement;") (by decide +kernel)) (hts0 (.initialized "java/lang/Throwable") (by decide +kernel)) (hg (.isRef (.static "java/lang/Throwable" "UNASSIGNED_STACK" "[Ljava/lang/StackTraceElement;")) (by decide +kernel)) hA
  · exact vx_Zqof (hts0 (.laysStatic "java/lang/Throwable" "SUPPRESSED_SENTINEL" "Ljava/util/List;") (by decide +kernel)) (hts0 (.initialized "java/lang/Throwable") (by decide +kernel)) (hg (.isRef (.static "java/lang/Throwable" "SUPPRESSED_SENTINEL" "Ljava/util/List;")) (by decide +kernel)) hA
def lw_tE : Term := .static "java/util/ArrayList" "DEFAULTCAPACITY_EMPTY_ELEMENTDATA" "[Ljava/lang/Object;"
def lw_tC : Term := .static "java/lang/Integer$IntegerCache" "cache" "[Ljava/lang/Integer;"
theorem lw_lf {s : State} {b : Nat} {A : Nat → Prop} (hts0 : ∀ w ∈ lw_tbl, w.before #[Value.ref b] s = true) (hgv : (Jvm.Cond.and given_1 narrow_1).before #[Value.ref b] s = true) (hA : ∀ a : Nat, a < s.heap.size → ¬ A a) : ∃ (e0 ca : Nat) (af : Nat → Nat), li_f e0 ca (af, fun _ => False) A s s.heap := by
  have hg := flat_of_before _ hgv
  have hlen : (Term.length lw_tE).eval #[Value.ref b] s none [] s = some (.int (Int32.ofNat 0)) := va_eqt (z := 0) (hg (.eq (.length lw_tE) (.int 0)) (by decide +kernel))
  obtain ⟨t, ht, hT⟩ := va_Tof (tm := lw_tE) (ty := .object "java/lang/Object") (N := 0) (f := fun _ => .null) (A := A) (by decide) (hg (.arrayOf lw_tE (.object "java/lang/Object")) (by decide +kernel)) hlen (fun j hj => absurd hj (Nat.not_lt_zero j)) hA
  have hlenC : (Term.length lw_tC).eval #[Value.ref b] s none [] s = some (.int (Int32.ofNat 256)) := va_eqt (z := 256) (hg (.eq (.length lw_tC) (.int 256)) (by decide +kernel))
  obtain ⟨af, hC, hel⟩ := vb_Cof (st := lw_tC) (A := A) rfl hlenC (hg (.all lw_tC (.and (.exactly (.elem lw_tC (.index 0)) "java/lang/Integer") (.eq (.field (.elem lw_tC (.index 0)) "java/lang/Integer" "value" "I") (.sub (.index 0) (.int 128))))) (by decide +kernel)) hA
  obtain ⟨cb, hcb, hTC⟩ := va_Tof (tm := lw_tC) (ty := .object "java/lang/Integer") (N := 256) (f := fun k => .ref (af k)) (A := A) (by decide) (hg (.arrayOf lw_tC (.object "java/lang/Integer")) (by decide +kernel)) hlenC hel hA
  obtain ⟨ca, hca⟩ := va_Mi.of (hg (.isRef (.mirror "[Ljava/lang/Object;")) (by decide +kernel))
  refine ⟨t, ca, af, va_Zref (hts0 (.laysStatic "java/util/ArrayList" "DEFAULTCAPACITY_EMPTY_ELEMENTDATA" "[Ljava/lang/Object;") (by decide +kernel)) (hts0 (.initialized "java/util/ArrayList") (by decide +kernel)) ht hA, hT, va_Zof (hts0 (.laysStatic "java/lang/Integer$IntegerCache" "high" "I") (by decide +kernel)) (hts0 (.initialized "java/lang/Integer$IntegerCache") (by decide +kernel)) (va_eqt (z := 127) (hg (.eq (.static "java/lang/Integer$IntegerCache" "high" "I") (.int 127)) (by decide +kernel))) hA, ⟨cb, va_Zref (hts0 (.laysStatic "java/lang/Integer$IntegerCache" "cache" "[Ljava/lang/Integer;") (by decide +kernel)) (hts0 (.initialized "java/lang/Integer$IntegerCache") (by decide +kernel)) hcb hA, hTC⟩, hC, hca, va_AO.of (hts0 (.arrayOver (.object "java/lang/Object")) (by decide +kernel)), va_Nw.of rfl (hts0 (.castable "java/lang/Integer" "java/lang/Object") (by decide +kernel)), ?_, ?_, va_Dc.of (hts0 (.declares { cls := "java/lang/Object", name := "getClass", desc := "()Ljava/lang/Class;" }) (by decide +kernel)), va_Nw.of rfl (hts0 (.fieldLinkNest RJx35411 28 "java/util/ArrayList" "size" "I" "java/util/ArrayList") (by decide +kernel)), va_AO.of (hts0 (.arrayOver (.object RX3)) (by decide +kernel)), va_AO.of (hts0 (.arrayOver (.object RX5)) (by decide +kernel)), hts0 (.arrayOver (.array .int)) (by decide +kernel), hts0 (.arrayOver (.array .char)) (by decide +kernel), va_Nw.of rfl (hts0 (.castable "java/util/ArrayList" "java/lang/Object") (by decide +kernel)), va_Nw.of rfl (hts0 (.methodLinkNest RX5 9 yX0_init "FairwayChancery") (by decide +kernel)), va_Nw.of rfl (hts0 (.methodLinkNest RX4 11 yX0_init "FairwayChancery") (by decide +kernel))⟩
  · exact va_Fw.of (hts0 (.declares li_hn) (by decide +kernel)) (hts0 (.interfaceMethod li_hn.cls li_hn.cls li_hn.name li_hn.desc) (by decide +kernel)) (hts0 (.publicMethod yJx35411_hasNext_aae02) (by decide +kernel)) (hts0 (.unhidden RJx35411 li_hn.name li_hn.desc) (by decide +kernel)) (hts0 (.castable RJx35411 li_hn.cls) (by decide +kernel))
  · exact va_Fw.of (hts0 (.declares li_nx) (by decide +kernel)) (hts0 (.interfaceMethod li_nx.cls li_nx.cls li_nx.name li_nx.desc) (by decide +kernel)) (hts0 (.publicMethod yJx35411_next_0502b) (by decide +kernel)) (hts0 (.unhidden RJx35411 li_nx.name li_nx.desc) (by decide +kernel)) (hts0 (.castable RJx35411 li_nx.cls) (by decide +kernel))
/-- the arrays' classes at the law's entry -/
theorem lw_TYS {D : va_G} {s : State} {A : Array Value} (hts0 : ∀ w ∈ lw_tbl, w.before A s = true) (hK : va_K D vwCl [] s) : ∃ cI cX cZ cH cPl cII cCC cO cD cL : ClassId, va_K D vwCl (([(cI, .int), (cX, .char), (cZ, .boolean), (cH, .object "FairwayChancery$Hole"), (cPl, .object "FairwayChancery$Player"), (cII, .array .int), (cCC, .array .char)] ++ [(cO, .long), (cD, .double)]) ++ [(cL, .object "java/lang/Object")]) s := by
  obtain ⟨cI, hK⟩ := arrK_p (ty := .int) (fun c h => h) (hts0 (.arrayClass .int) (by decide +kernel)) hK
  obtain ⟨cX, hK⟩ := arrK_p (ty := .char) (fun c h => h) (hts0 (.arrayClass .char) (by decide +kernel)) hK
  obtain ⟨cZ, hK⟩ := arrK_p (ty := .boolean) (fun c h => h) (hts0 (.arrayClass .boolean) (by decide +kernel)) hK
  obtain ⟨cH, hK⟩ := arrK_o (va_AO.of (hts0 (.arrayOver (.object RX3)) (by decide +kernel))) hK
  obtain ⟨cPl, hK⟩ := arrK_o (va_AO.of (hts0 (.arrayOver (.object RX5)) (by decide +kernel))) hK
  obtain ⟨cII, hK⟩ := arrK_a (t := .int) (hts0 (.arrayOver (.array .int)) (by decide +kernel)) hK
  obtain ⟨cCC, hK⟩ := arrK_a (t := .char) (hts0 (.arrayOver (.array .char)) (by decide +kernel)) hK
  obtain ⟨cO, hK⟩ := arrK_p (ty := .long) (fun c h => h) (hts0 (.arrayClass .long) (by decide +kernel)) hK
  obtain ⟨cD, hK⟩ := arrK_p (ty := .double) (fun c h => h) (hts0 (.arrayClass .double) (by decide +kernel)) hK
  obtain ⟨cL, hK⟩ := arrK_o (va_AO.of (hts0 (.arrayOver (.object "java/lang/Object")) (by decide +kernel))) hK
  exact ⟨cI, cX, cZ, cH, cPl, cII, cCC, cO, cD, cL, hK⟩
