set_option maxRecDepth 20000 in
theorem ggL_law_X6_init : GoodIn wsL_law wsX6_init := goodIn_ca (goodIn_r _ [10, 11, 12, 13, 14, 15, 16, 17, 18, 19, 20, 21, 22, 23, 24, 25, 26, 27, 28, 29, 30, 31, 32, 33, 34, 35, 36, 37, 38, 39, 40, 41, 42, 43, 44, 45, 46, 47, 48, 49, 50, 51, 52, 53, 54, 55, 56, 57, 58, 59, 60, 61, 62, 63, 64, 65, 66, 67, 68, 69, 70, 71, 72, 73, 74, 1560, 1561, 1562, 1563, 1564, 1565, 1566, 1567, 1568, 1569, 1570, 1571, 1572, 1573, 1605, 1606, 1607, 1608, 1609, 1610, 1611, 1612, 1613, 1614, 1615, 1616, 1617, 1618, 1619, 1620, 1621, 1622, 1623, 1624, 1625, 1626, 1627, 1628, 1629, 1630, 1631, 1632, 1633, 1634, 1635, 1636, 1637, 1638, 1639, 1640, 1641, 1642, 1643, 1644, 1645, 1646] (by decide +kernel) (by decide +kernel)) (goodIn_sub (fun _ h => List.mem_append_left _ (List.mem_append_left _ (List.mem_append_left _ (List.mem_append_left _ (List.mem_append_left _ (List.mem_append_left _ (List.mem_append_left _ (List.mem_append_right _ h)))))))) (by decide +kernel))
set_option maxRecDepth 20000 in
theorem gL_law_X6_init : GoodIn wsL_law (wsX6_init) := ggL_law_X6_init
set_option maxRecDepth 20000 in
theorem ggL_law_X7_init : GoodIn wsL_law wsX7_init := goodIn_r _ [77, 78, 12, 13, 79, 22, 80, 81, 35, 82, 83, 84, 85, 86, 87, 88, 89, 90, 91, 92, 93, 94, 95, 96, 97, 98, 99, 100, 101, 102, 103, 104, 105, 106, 107, 108, 109, 110, 111, 112, 113, 114, 115, 116, 117, 118, 119, 120, 121, 122, 123, 124, 125, 126, 127, 128, 129, 130, 131, 132, 133, 134, 135, 136, 137, 138, 139, 140, 141, 142, 143, 144, 145, 146, 147, 148, 149, 150, 151, 152, 153, 154, 155, 156, 157, 158, 159, 160, 161, 162, 163, 164, 165, 166, 167, 168, 169, 170, 1574, 1575, 1576, 1577, 1578, 1579, 1580, 1581, 1582, 1583, 1584, 1585, 1586, 1587, 1588, 1589, 1590, 1591, 1592, 1593, 1594, 1595, 1596, 1597, 1598, 1599, 1600, 1601, 1602, 1603, 1604, 1647, 1648, 1649] (by decide +kernel) (by decide +kernel)
set_option maxRecDepth 20000 in
theorem gL_law_X7_init : GoodIn wsL_law (wsX7_init) := ggL_law_X7_init
theorem dL_law_0 : decode cL_law 0 = .ok (.new 8, 3) := by decide +kernel
theorem dL_law_3 : decode cL_law 3 = .ok (.dup, 1) := by decide +kernel
theorem dL_law_4 : decode cL_law 4 = .ok (.invokespecial 201, 3) := by decide +kernel
theorem dL_law_7 : decode cL_law 7 = .ok (.astore_n 1, 1) := by decide +kernel
theorem dL_law_8 : decode cL_law 8 = .ok (.new 202, 3) := by decide +kernel
theorem dL_law_11 : decode cL_law 11 = .ok (.dup, 1) := by decide +kernel
theorem dL_law_12 : decode cL_law 12 = .ok (.invokespecial 204, 3) := by decide +kernel
theorem dL_law_15 : decode cL_law 15 = .ok (.astore_n 2, 1) := by decide +kernel
theorem dL_law_16 : decode cL_law 16 = .ok (.iconst 1, 1) := by decide +kernel
theorem dL_law_17 : decode cL_law 17 = .ok (.newarray .long, 2) := by decide +kernel
theorem dL_law_19 : decode cL_law 19 = .ok (.astore_n 3, 1) := by decide +kernel
theorem dL_law_20 : decode cL_law 20 = .ok (.iconst 1, 1) := by decide +kernel
theorem dL_law_21 : decode cL_law 21 = .ok (.newarray .double, 2) := by decide +kernel
theorem dL_law_23 : decode cL_law 23 = .ok (.astore 4, 2) := by decide +kernel
theorem dL_law_25 : decode cL_law 25 = .ok (.iconst 0, 1) := by decide +kernel
theorem dL_law_26 : decode cL_law 26 = .ok (.istore 5, 2) := by decide +kernel
theorem dL_law_28 : decode cL_law 28 = .ok (.iload 5, 2) := by decide +kernel
theorem dL_law_30 : decode cL_law 30 = .ok (.aload_n 0, 1) := by decide +kernel
theorem dL_law_31 : decode cL_law 31 = .ok (.arraylength, 1) := by decide +kernel
theorem dL_law_32 : decode cL_law 32 = .ok (.bipush 7, 2) := by decide +kernel
theorem dL_law_34 : decode cL_law 34 = .ok (.isub, 1) := by decide +kernel
theorem dL_law_35 : decode cL_law 35 = .ok (.if_icmp .gt 3875, 3) := by decide +kernel
theorem dL_law_38 : decode cL_law 38 = .ok (.aload_n 0, 1) := by decide +kernel
theorem dL_law_39 : decode cL_law 39 = .ok (.iload 5, 2) := by decide +kernel
theorem dL_law_41 : decode cL_law 41 = .ok (.iaload, 1) := by decide +kernel
theorem dL_law_42 : decode cL_law 42 = .ok (.bipush 63, 2) := by decide +kernel
theorem dL_law_44 : decode cL_law 44 = .ok (.iand, 1) := by decide +kernel
theorem dL_law_45 : decode cL_law 45 = .ok (.tableswitch 3859 0 55 #[239, 357, 477, 557, 601, 669, 737, 762, 820, 878, 922, 966, 1046, 1140, 1220, 1276, 1332, 1400, 1480, 1564, 1644, 1731, 1787, 1881, 1949, 2005, 2084, 2147, 2217, 2261, 2317, 2401, 2457, 2513, 2576, 2644, 2688, 2739, 2819, 2882, 2938, 2994, 3050, 3118, 3174, 3230, 3305, 3361, 3417, 3497, 3565, 3621, 3677, 3691, 3769, 3846], 239) := by decide +kernel
theorem dL_law_3904 : decode cL_law 3904 = .ok (.iinc 5 7, 3) := by decide +kernel
theorem dL_law_3907 : decode cL_law 3907 = .ok (.goto (-3879), 3) := by decide +kernel
theorem dL_law_3910 : decode cL_law 3910 = .ok (.iconst 1, 1) := by decide +kernel
theorem lw_D {s : State} {A : Array Value} (hts0 : ∀ w ∈ lw_tbl, w.before A s = true) : ∃ D : va_G, va_K D vwCl [] s := by
  have hts : ∀ w ∈ wsL_law, w.before A s = true := fun w h => hts0 w (wsL_law_in w h)
  obtain ⟨cX0, iX0, kX0⟩ := u_known (C := RX0) (T := TX0) (N := 16) (n := 16) hts inlX0 (hts0 (.instantiable RX0 16) (by decide +kernel))
  obtain ⟨cX1, iX1, kX1⟩ := u_known (C := RX1) (T := TX1) (N := 6) (n := 6) hts inlX1 (hts0 (.instantiable RX1 6) (by decide +kernel))
  obtain ⟨cX2, iX2, kX2⟩ := u_known (C := RX2) (T := TX2) (N := 4) (n := 4) hts inlX2 (hts0 (.instantiable RX2 4) (by decide +kernel))
  obtain ⟨cX3, iX3, kX3⟩ := u_known (C := RX3) (T := TX3) (N := 6) (n := 6) hts inlX3 (hts0 (.instantiable RX3 6) (by decide +kernel))
  obtain ⟨cX4, iX4, kX4⟩ := u_known (C := RX4) (T := TX4) (N := 6) (n := 6) hts inlX4 (hts0 (.instantiable RX4 6) (by decide +kernel))
  obtain ⟨cX5, iX5, kX5⟩ := u_known (C := RX5) (T := TX5) (N := 4) (n := 4) hts inlX5 (hts0 (.instantiable RX5 4) (by decide +kernel))
  obtain ⟨cX6, iX6, kX6⟩ := u_known (C := RX6) (T := TX6) (N := 14) (n := 14) hts inlX6 (hts0 (.instantiable RX6 14) (by decide +kernel))
  obtain ⟨cX7, iX7, kX7⟩ := u_known (C := RX7) (T := TX7) (N := 31) (n := 31) hts inlX7 (hts0 (.instantiable RX7 31) (by decide +kernel))
  obtain ⟨cJx4a65c, iJx4a65c, kJx4a65c⟩ := u_known (C := RJx4a65c) (T := TJx4a65c) (N := 3) (n := 3) hts inlJx4a65c (hts0 (.instantiable RJx4a65c 3) (by decide +kernel))
  refine ⟨((fun c => match c with | 5 => cJx4a65c | 7 => cX1 | 8 => cX2 | 9 => cX3 | 10 => cX4 | 11 => cX5 | 12 => cX6 | 13 => cX7 | _ => cX0), (fun c => match c with | 5 => iJx4a65c | 7 => iX1 | 8 => iX2 | 9 => iX3 | 10 => iX4 | 11 => iX5 | 12 => iX6 | 13 => iX7 | _ => iX0)), fun c q hq => ?_, fun k q h => by simp at h⟩
  match c, hq with
  | 0, hq => 
    have h9 : some ((RX0, TX0, 16) : vw_C) = some q := hq
    cases h9
    exact kX0
  | 1, hq => 
    have h9 : some ((RX0, TX0, 16) : vw_C) = some q := hq
    cases h9
    exact kX0
  | 2, hq => 
    have h9 : some ((RX0, TX0, 16) : vw_C) = some q := hq
    cases h9
    exact kX0
  | 3, hq => 
    have h9 : some ((RX0, TX0, 16) : vw_C) = some q := hq
    cases h9
    exact kX0
  | 4, hq => 
    have h9 : some ((RX0, TX0, 16) : vw_C) = some q := hq
    cases h9
    exact kX0
  | 5, hq => 
    have h9 : some ((RJx4a65c, TJx4a65c, 3) : vw_C) = some q := hq
    cases h9
    exact kJx4a65c
  | 6, hq => 
    have h9 : some ((RX0, TX0, 16) : vw_C) = some q := hq
    cases h9
    exact kX0
  | 7, hq => 
    have h9 : some ((RX1, TX1, 6) : vw_C) = some q := hq
    cases h9
    exact kX1
  | 8, hq => 
    have h9 : some ((RX2, TX2, 4) : vw_C) = some q := hq
    cases h9
    exact kX2
  | 9, hq => 
    have h9 : some ((RX3, TX3, 6) : vw_C) = some q := hq
    cases h9
    exact kX3
  | 10, hq => 
    have h9 : some ((RX4, TX4, 6) : vw_C) = some q := hq
    cases h9
    exact kX4
  | 11, hq => 
    have h9 : some ((RX5, TX5, 4) : vw_C) = some q := hq
    cases h9
    exact kX5
  | 12, hq => 
    have h9 : some ((RX6, TX6, 14) : vw_C) = some q := hq
    cases h9
    exact kX6
  | 13, hq => 
    have h9 : some ((RX7, TX7, 31) : vw_C) = some q := hq
    cases h9
    exact kX7
  | n + 14, hq => 
    rw [List.getElem?_eq_none (show vwCl.length ≤ n + 14 from Nat.le_add_left 14 n)] at hq
    cases hq
theorem tf_in : ∀ w ∈ tf_B, w ∈ lw_tbl := by decide +kernel
theorem tf_strin : ∀ q ∈ tf_str, Cond.stringRef RX6 q.1 q.2 ∈ lw_tbl := by decide +kernel
theorem lw_tf {s : State} {b : Nat} {A : Nat → Prop} {cur : ClassId} (hcur : s.vm.findClass RX6 = some cur) (hts0 : ∀ w ∈ lw_tbl, w.before #[Value.ref b] s = true) (hgv : (Jvm.Cond.and given_1 narrow_1).before #[Value.ref b] s = true) (hA : ∀ a : Nat, a < s.heap.size → ¬ A a) : tf A s s.heap := by
  have hg := flat_of_before _ hgv
  refine ⟨fun w hw => va_Nw.of ((Bool.and_eq_true _ _ ▸ tf_face w hw).1) (hts0 w (tf_in w hw)), fun q hq => ?_, ?_, ?_, ?_⟩
  · have h := hts0 _ (tf_strin q hq)
    obtain ⟨_, _, _, a, -, -, -, -, -, hev⟩ := Cond.stringRef_spec hcur h
    exact ⟨a, vk_R.of h hev⟩
  · exact vx_Zqof (hts0 (.laysStatic "java/lang/Throwable" "UNASSIGNED_STACK" "[Ljava/lang/StackTraceElement;") (by decide +kernel)) (hts0 (.initialized "java/lang/Throwable") (by decide +kernel)) (hg (.isRef (.static "java/lang/Throwable" "UNASSIGNED_STACK" "[Ljava/lang/StackTraceElement;")) (by decide +kernel)) hA
  · exact vx_Zqof (hts0 (.laysStatic "java/lang/Throwable" "SUPPRESSED_SENTINEL" "Ljava/util/List;") (by decide +kernel)) (hts0 (.initialized "java/lang/Throwable") (by decide +kernel)) (hg (.isRef (.static "java/lang/Throwable" "SUPPRESSED_SENTINEL" "Ljava/util/List;")) (by decide +kernel)) hA
  · exact va_Nc.of (hg (.not (.castable "java/lang/UnsupportedOperationException" "java/lang/IllegalArgumentException")) (by decide +kernel))
theorem lw_lf {s : State} {b : Nat} {A : Nat → Prop} (hts0 : ∀ w ∈ lw_tbl, w.before #[Value.ref b] s = true) (hgv : (Jvm.Cond.and given_1 narrow_1).before #[Value.ref b] s = true) (hA : ∀ a : Nat, a < s.heap.size → ¬ A a) : ∃ e0 : Nat, lf e0 A s s.heap := by
  have hg := flat_of_before _ hgv
  have hlen : (Term.length (.static "java/util/ArrayList" "DEFAULTCAPACITY_EMPTY_ELEMENTDATA" "[Ljava/lang/Object;")).eval #[Value.ref b] s none [] s = some (.int (Int32.ofNat 0)) := va_eqt (z := 0) (hg (.eq (.length (.static "java/util/ArrayList" "DEFAULTCAPACITY_EMPTY_ELEMENTDATA" "[Ljava/lang/Object;")) (.int 0)) (by decide +kernel))
  obtain ⟨t, ht, hT⟩ := va_Tof (tm := .static "java/util/ArrayList" "DEFAULTCAPACITY_EMPTY_ELEMENTDATA" "[Ljava/lang/Object;") (ty := .object "java/lang/Object") (N := 0) (f := fun _ => .null) (A := A) (by decide) (hg (.arrayOf (.static "java/util/ArrayList" "DEFAULTCAPACITY_EMPTY_ELEMENTDATA" "[Ljava/lang/Object;") (.object "java/lang/Object")) (by decide +kernel)) hlen (fun j hj => absurd hj (Nat.not_lt_zero j)) hA
  exact ⟨t, va_Zref (hts0 (.laysStatic "java/util/ArrayList" "DEFAULTCAPACITY_EMPTY_ELEMENTDATA" "[Ljava/lang/Object;") (by decide +kernel)) (hts0 (.initialized "java/util/ArrayList") (by decide +kernel)) ht hA, hT, va_AO.of (hts0 (.arrayOver (.object "java/lang/Object")) (by decide +kernel)), va_Nw.of rfl (hts0 (.castable "java/util/ArrayList" "java/lang/Object") (by decide +kernel))⟩
theorem law_tail (l : Launch) {p : Program} {e : Env} {s : State} {m : MethodId} {below : List Frame} {meth : Method} {c : Code} {Q : State → Prop} {b : Nat} {xs : Nat → Int32} {A : Nat → Prop} {H : Heap} {locs : List Loc} {ls : Array Slot} (hx : p.tables.exec = Jvm.exec) (hb : c.code = cL_law) (hX : va_X b 7 xs s s.heap) (hbl : b < s.heap.size) (hbA : ¬ A b) (hS : va_S A s.heap H locs) (hA : ∀ q : Nat, A q → s.heap.size ≤ q) (hl : lv_has ls 9 [(0, .ref b), (5, .int 0)])
    (kk : ∀ (H : Heap) (ls : Array Slot), W p l e room_1 s m #[Value.ref b] below meth c H [] 200 12100 Q (F0 m 3911 ls [.int 1])) : W p l e room_1 s m #[Value.ref b] below meth c H locs 200 12100 Q (F0 m 3904 ls []) := by
  refine lv_iinc (v := 7) (lv' := [(5, .int 7), (0, .ref b)]) hx hb dL_law_3904 hl (k := 1) rfl (by decide) (by decide) rfl (fun ls hl => ?_)
  refine lv_goto (tgt := 28) hx hb dL_law_3907 (by decide) ?_
  refine lv_iload hx hb dL_law_28 (lv_at hl 0 rfl) ?_
  refine lv_aload_n hx hb dL_law_30 rfl (lv_at hl 1 rfl) ?_
  refine va_slen hx hb hX hbl hbA hS dL_law_31 ?_
  refine lv_bipush (v := 7) hx hb dL_law_32 (by decide) ?_
  refine lv_isub hx hb dL_law_34 ?_
  refine lv_icmp_gt (tgt := 3910) hx hb dL_law_35 (by decide) (fun _ => ?_) (fun c => absurd (by decide) c)
  refine lv_iconst (v := 1) hx hb dL_law_3910 (by decide) ?_
  refine va_forget (fun q hq => hA _ (hS.2.2 q hq)) ?_
  exact kk H ls
set_option maxHeartbeats 4000000 in
set_option maxRecDepth 100000 in
theorem law_table (l : Launch) (hlT : l.stackTraces = false) {p : Program} {e : Env} {s : State} {m : MethodId} {below : List Frame} {meth : Method} {c : Code} {Q : State → Prop} {b : Nat} {xs : Nat → Int32} {D : va_G} {A : Nat → Prop} {x m7 o o2 : Nat} {rx rm : Nat → Nat} {fo : Nat → Int64} {fd : Nat → UInt64} {H : Heap} {locs : List Loc} {ls : Array Slot} {h1 kq c0 k0 : Nat} {cH cC cI cK cX cO cD : ClassId} {fH gC gK : Nat → Option Nat} {fI fk : Nat → Int32} (hf : fH 0 = some h1) (hg1 : gC 0 = some c0) (hg2 : gK 0 = some k0) (hx : p.tables.exec = Jvm.exec) (hb : c.code = cL_law) (hml : c.maxLocals = 9) (hown : s.vm.findClass RL = some m.cls) (hts : ∀ w ∈ wsL_law, w.before #[Value.ref b] s = true) (hX : va_X b 7 xs s s.heap) (hbl : b < s.heap.size) (hbA : ¬ A b) (hA : ∀ q : Nat, s.heap.size ≤ q → A q) (hT : tf A s s.heap) (h17 : va_Nw (.classLink RL 17 "java/lang/UnsupportedOperationException") s)
    (hK : va_K D vwCl [(cH, .object "FairwayChancery$Hole"), (cC, .array .int), (cI, .int), (cK, .array .char), (cX, .char), (cO, .long), (cD, .double)] s) (hP : va_P D vwCl [(x, .inr (12, [.ref (rx 0), .ref (rx 1), .ref (rx 2), .ref (rx 3), .int 0, .int 0, .int 1, .int 110, .int 0, .int 115, .int 0, .int 0, .int 0, .int 0])), (rx 0, .inl (cH, 9, .inr (.inr (.inr (.inr fH))))), (h1, .inr (9, [.ref kq, .int 0, .int 0, .int 0, .int 0, .int 0])), (m7, .inr (13, [.ref (rm 0), .ref (rm 1), .ref (rm 2), .ref (rm 3), .ref (rm 4), .ref (rm 5), .ref (rm 6), .ref (rm 7), .ref (rm 8), .ref (rm 9), .ref (rm 10), .ref (rm 11), .ref (rm 12), .ref (rm 13), .ref (rm 14), .ref (rm 15), .int 0, .int 0, .int 1, .int 110, .int 0, .int 0, .int 0, .int 0, .int 0, .int 0, .int 0, .int 0, .int 0, .int 0, .int 0])), (rm 0, .inl (cC, 9, .inr (.inr (.inr (.inr gC))))), (c0, .inl (cI, 7, .inl fI)), (rm 1, .inl (cK, 9, .inr (.inr (.inr (.inr gK))))), (k0, .inl (cX, 600, .inl fk)), (o, .inl (cO, 1, .inr (.inl fo))), (o2, .inl (cD, 1, .inr (.inr (.inr (.inl fd)))))] H) (hD : va_D A [(x, .inr (12, [.ref (rx 0), .ref (rx 1), .ref (rx 2), .ref (rx 3), .int 0, .int 0, .int 1, .int 110, .int 0, .int 115, .int 0, .int 0, .int 0, .int 0])), (rx 0, .inl (cH, 9, .inr (.inr (.inr (.inr fH))))), (h1, .inr (9, [.ref kq, .int 0, .int 0, .int 0, .int 0, .int 0])), (m7, .inr (13, [.ref (rm 0), .ref (rm 1), .ref (rm 2), .ref (rm 3), .ref (rm 4), .ref (rm 5), .ref (rm 6), .ref (rm 7), .ref (rm 8), .ref (rm 9), .ref (rm 10), .ref (rm 11), .ref (rm 12), .ref (rm 13), .ref (rm 14), .ref (rm 15), .int 0, .int 0, .int 1, .int 110, .int 0, .int 0, .int 0, .int 0, .int 0, .int 0, .int 0, .int 0, .int 0, .int 0, .int 0])), (rm 0, .inl (cC, 9, .inr (.inr (.inr (.inr gC))))), (c0, .inl (cI, 7, .inl fI)), (rm 1, .inl (cK, 9, .inr (.inr (.inr (.inr gK))))), (k0, .inl (cX, 600, .inl fk)), (o, .inl (cO, 1, .inr (.inl fo))), (o2, .inl (cD, 1, .inr (.inr (.inr (.inl fd)))))]) (hS : va_S A s.heap H locs) (hl : lv_has ls 9 [(0, .ref b), (1, .ref x), (2, .ref m7), (3, .ref o), (4, .ref o2), (5, .int 0)])
    (kk : ∀ (H : Heap) (locs : List Loc) (ls : Array Slot), va_S A s.heap H locs → lv_has ls 9 [(0, .ref b), (5, .int 0)] → W p l e room_1 s m #[Value.ref b] below meth c H locs 200 12100 Q (F0 m 3904 ls [])) (j : Nat) :
    W p l e room_1 s m #[Value.ref b] below meth c H locs 140 11923 Q (F0 m 45 ls [.int (nI (j % 64))]) := by
  have hP4 := hP.sub (ws' := [(x, .inr (12, [.ref (rx 0), .ref (rx 1), .ref (rx 2), .ref (rx 3), .int 0, .int 0, .int 1, .int 110, .int 0, .int 115, .int 0, .int 0, .int 0, .int 0])), (m7, .inr (13, [.ref (rm 0), .ref (rm 1), .ref (rm 2), .ref (rm 3), .ref (rm 4), .ref (rm 5), .ref (rm 6), .ref (rm 7), .ref (rm 8), .ref (rm 9), .ref (rm 10), .ref (rm 11), .ref (rm 12), .ref (rm 13), .ref (rm 14), .ref (rm 15), .int 0, .int 0, .int 1, .int 110, .int 0, .int 0, .int 0, .int 0, .int 0, .int 0, .int 0, .int 0, .int 0, .int 0, .int 0])), (o, .inl (cO, 1, .inr (.inl fo))), (o2, .inl (cD, 1, .inr (.inr (.inr (.inl fd)))))]) [0, 3, 8, 9] rfl
  have hD4 := hD.sub (ws' := [(x, .inr (12, [.ref (rx 0), .ref (rx 1), .ref (rx 2), .ref (rx 3), .int 0, .int 0, .int 1, .int 110, .int 0, .int 115, .int 0, .int 0, .int 0, .int 0])), (m7, .inr (13, [.ref (rm 0), .ref (rm 1), .ref (rm 2), .ref (rm 3), .ref (rm 4), .ref (rm 5), .ref (rm 6), .ref (rm 7), .ref (rm 8), .ref (rm 9), .ref (rm 10), .ref (rm 11), .ref (rm 12), .ref (rm 13), .ref (rm 14), .ref (rm 15), .int 0, .int 0, .int 1, .int 110, .int 0, .int 0, .int 0, .int 0, .int 0, .int 0, .int 0, .int 0, .int 0, .int 0, .int 0])), (o, .inl (cO, 1, .inr (.inl fo))), (o2, .inl (cD, 1, .inr (.inr (.inr (.inl fd)))))]) [0, 3, 8, 9] (by decide) rfl
  have hK2 := hK.sub (tys' := [(cO, .long), (cD, .double)]) [5, 6] rfl
  have hj : j % 64 < 64 := Nat.mod_lt _ (by decide)
  generalize j % 64 = i at hj ⊢
  have hlo : ∀ n : Nat, n < 64 → ¬ (nI n).toInt < 0 := by decide
  match i, hj with
  | 0, _ => exact lv_tableIn (off := 239) (tgt := 284) hx hb dL_law_45 (by decide) (by decide) (by decide) (by decide) (law_c0 l hlT hf hg1 hg2 hx hb hml hown hts hX hbl hbA hA hT hK hP hD hS hl kk)
  | 1, _ => exact lv_tableIn (off := 357) (tgt := 402) hx hb dL_law_45 (by decide) (by decide) (by decide) (by decide) (law_c1 l hlT hx hb hml hown hts hX hbl hbA hA hT hK2 hP4 hD4 hS hl kk)
  | 2, _ => exact lv_tableIn (off := 477) (tgt := 522) hx hb dL_law_45 (by decide) (by decide) (by decide) (by decide) (law_c2 l hlT hx hb hml hown hts hX hbl hbA hA hT hK2 hP4 hD4 hS hl kk)
  | 3, _ => exact lv_tableIn (off := 557) (tgt := 602) hx hb dL_law_45 (by decide) (by decide) (by decide) (by decide) (law_c3 l hlT hx hb hml hown hts hX hbl hbA hA hT hK2 hP4 hD4 hS hl kk)
  | 4, _ => exact lv_tableIn (off := 601) (tgt := 646) hx hb dL_law_45 (by decide) (by decide) (by decide) (by decide) (law_c4 l hlT hx hb hml hown hts hX hbl hbA hA hT hK2 hP4 hD4 hS hl kk)
  | 5, _ => exact lv_tableIn (off := 669) (tgt := 714) hx hb dL_law_45 (by decide) (by decide) (by decide) (by decide) (law_c5 l hlT hx hb hml hown hts hX hbl hbA hA hT hK2 hP4 hD4 hS hl kk)
  | 6, _ => exact lv_tableIn (off := 737) (tgt := 782) hx hb dL_law_45 (by decide) (by decide) (by decide) (by decide) (law_c6 l hlT hx hb hml hown hts hX hbl hbA hA hT hK2 hP4 hD4 hS hl kk)
  | 7, _ => exact lv_tableIn (off := 762) (tgt := 807) hx hb dL_law_45 (by decide) (by decide) (by decide) (by decide) (law_c7 l hlT hx hb hml hown hts hX hbl hbA hA hT hK2 hP4 hD4 hS hl kk)
  | 8, _ => exact lv_tableIn (off := 820) (tgt := 865) hx hb dL_law_45 (by decide) (by decide) (by decide) (by decide) (law_c8 l hlT h17 hx hb hml hown hts hX hbl hbA hA hT hK2 hP4 hD4 hS hl kk)
  | 9, _ => exact lv_tableIn (off := 878) (tgt := 923) hx hb dL_law_45 (by decide) (by decide) (by decide) (by decide) (law_c9 l hlT hx hb hml hown hts hX hbl hbA hA hT hK2 hP4 hD4 hS hl kk)
  | 10, _ => exact lv_tableIn (off := 922) (tgt := 967) hx hb dL_law_45 (by decide) (by decide) (by decide) (by decide) (law_c10 l hlT hx hb hml hown hts hX hbl hbA hA hT hK2 hP4 hD4 hS hl kk)
  | 11, _ => exact lv_tableIn (off := 966) (tgt := 1011) hx hb dL_law_45 (by decide) (by decide) (by decide) (by decide) (law_c11 l hlT hx hb hml hown hts hX hbl hbA hA hT hK2 hP4 hD4 hS hl kk)
  | 12, _ => exact lv_tableIn (off := 1046) (tgt := 1091) hx hb dL_law_45 (by decide) (by decide) (by decide) (by decide) (law_c12 l hlT hx hb hml hown hts hX hbl hbA hA hT hK2 hP4 hD4 hS hl kk)
  | 13, _ => exact lv_tableIn (off := 1140) (tgt := 1185) hx hb dL_law_45 (by decide) (by decide) (by decide) (by decide) (law_c13 l hlT hx hb hml hown hts hX hbl hbA hA hT hK2 hP4 hD4 hS hl kk)
  | 14, _ => exact lv_tableIn (off := 1220) (tgt := 1265) hx hb dL_law_45 (by decide) (by decide) (by decide) (by decide) (law_c14 l hlT hx hb hml hown hts hX hbl hbA hA hT hK2 hP4 hD4 hS hl kk)
  | 15, _ => exact lv_tableIn (off := 1276) (tgt := 1321) hx hb dL_law_45 (by decide) (by decide) (by decide) (by decide) (law_c15 l hlT hx hb hml hown hts hX hbl hbA hA hT hK2 hP4 hD4 hS hl kk)
  | 16, _ => exact lv_tableIn (off := 1332) (tgt := 1377) hx hb dL_law_45 (by decide) (by decide) (by decide) (by decide) (law_c16 l hlT hx hb hml hown hts hX hbl hbA hA hT hK2 hP4 hD4 hS hl kk)
  | 17, _ => exact lv_tableIn (off := 1400) (tgt := 1445) hx hb dL_law_45 (by decide) (by decide) (by decide) (by decide) (law_c17 l hlT hx hb hml hown hts hX hbl hbA hA hT hK2 hP4 hD4 hS hl kk)
  | 18, _ => exact lv_tableIn (off := 1480) (tgt := 1525) hx hb dL_law_45 (by decide) (by decide) (by decide) (by decide) (law_c18 l hlT hx hb hml hown hts hX hbl hbA hA hT hK2 hP4 hD4 hS hl kk)
  | 19, _ => exact lv_tableIn (off := 1564) (tgt := 1609) hx hb dL_law_45 (by decide) (by decide) (by decide) (by decide) (law_c19 l hlT hx hb hml hown hts hX hbl hbA hA hT hK2 hP4 hD4 hS hl kk)
  | 20, _ => exact lv_tableIn (off := 1644) (tgt := 1689) hx hb dL_law_45 (by decide) (by decide) (by decide) (by decide) (law_c20 l hlT hx hb hml hown hts hX hbl hbA hA hT hK2 hP4 hD4 hS hl kk)
  | 21, _ => exact lv_tableIn (off := 1731) (tgt := 1776) hx hb dL_law_45 (by decide) (by decide) (by decide) (by decide) (law_c21 l hlT hx hb hml hown hts hX hbl hbA hA hT hK2 hP4 hD4 hS hl kk)
  | 22, _ => exact lv_tableIn (off := 1787) (tgt := 1832) hx hb dL_law_45 (by decide) (by decide) (by decide) (by decide) (law_c22 l hlT hx hb hml hown hts hX hbl hbA hA hT hK2 hP4 hD4 hS hl kk)
  | 23, _ => exact lv_tableIn (off := 1881) (tgt := 1926) hx hb dL_law_45 (by decide) (by decide) (by decide) (by decide) (law_c23 l hlT hx hb hml hown hts hX hbl hbA hA hT hK2 hP4 hD4 hS hl kk)
  | 24, _ => exact lv_tableIn (off := 1949) (tgt := 1994) hx hb dL_law_45 (by decide) (by decide) (by decide) (by decide) (law_c24 l hlT hx hb hml hown hts hX hbl hbA hA hT hK2 hP4 hD4 hS hl kk)
  | 25, _ => exact lv_tableIn (off := 2005) (tgt := 2050) hx hb dL_law_45 (by decide) (by decide) (by decide) (by decide) (law_c25 l hlT hx hb hml hown hts hX hbl hbA hA hT hK2 hP4 hD4 hS hl kk)
  | 26, _ => exact lv_tableIn (off := 2084) (tgt := 2129) hx hb dL_law_45 (by decide) (by decide) (by decide) (by decide) (law_c26 l hlT hx hb hml hown hts hX hbl hbA hA hT hK2 hP4 hD4 hS hl kk)
  | 27, _ => exact lv_tableIn (off := 2147) (tgt := 2192) hx hb dL_law_45 (by decide) (by decide) (by decide) (by decide) (law_c27 l hlT hx hb hml hown hts hX hbl hbA hA hT hK2 hP4 hD4 hS hl kk)
  | 28, _ => exact lv_tableIn (off := 2217) (tgt := 2262) hx hb dL_law_45 (by decide) (by decide) (by decide) (by decide) (law_c28 l hlT hx hb hml hown hts hX hbl hbA hA hT hK2 hP4 hD4 hS hl kk)
  | 29, _ => exact lv_tableIn (off := 2261) (tgt := 2306) hx hb dL_law_45 (by decide) (by decide) (by decide) (by decide) (law_c29 l hlT hx hb hml hown hts hX hbl hbA hA hT hK2 hP4 hD4 hS hl kk)
  | 30, _ => exact lv_tableIn (off := 2317) (tgt := 2362) hx hb dL_law_45 (by decide) (by decide) (by decide) (by decide) (law_c30 l hlT hx hb hml hown hts hX hbl hbA hA hT hK2 hP4 hD4 hS hl kk)
  | 31, _ => exact lv_tableIn (off := 2401) (tgt := 2446) hx hb dL_law_45 (by decide) (by decide) (by decide) (by decide) (law_c31 l hlT hx hb hml hown hts hX hbl hbA hA hT hK2 hP4 hD4 hS hl kk)
  | 32, _ => exact lv_tableIn (off := 2457) (tgt := 2502) hx hb dL_law_45 (by decide) (by decide) (by decide) (by decide) (law_c32 l hlT hx hb hml hown hts hX hbl hbA hA hT hK2 hP4 hD4 hS hl kk)
  | 33, _ => exact lv_tableIn (off := 2513) (tgt := 2558) hx hb dL_law_45 (by decide) (by decide) (by decide) (by decide) (law_c33 l hlT hx hb hml hown hts hX hbl hbA hA hT hK2 hP4 hD4 hS hl kk)
  | 34, _ => exact lv_tableIn (off := 2576) (tgt := 2621) hx hb dL_law_45 (by decide) (by decide) (by decide) (by decide) (law_c34 l hlT hx hb hml hown hts hX hbl hbA hA hT hK2 hP4 hD4 hS hl kk)
  | 35, _ => exact lv_tableIn (off := 2644) (tgt := 2689) hx hb dL_law_45 (by decide) (by decide) (by decide) (by decide) (law_c35 l hlT hx hb hml hown hts hX hbl hbA hA hT hK2 hP4 hD4 hS hl kk)
  | 36, _ => exact lv_tableIn (off := 2688) (tgt := 2733) hx hb dL_law_45 (by decide) (by decide) (by decide) (by decide) (law_c36 l hlT hx hb hml hown hts hX hbl hbA hA hT hK2 hP4 hD4 hS hl kk)
  | 37, _ => exact lv_tableIn (off := 2739) (tgt := 2784) hx hb dL_law_45 (by decide) (by decide) (by decide) (by decide) (law_c37 l hlT hx hb hml hown hts hX hbl hbA hA hT hK2 hP4 hD4 hS hl kk)
  | 38, _ => exact lv_tableIn (off := 2819) (tgt := 2864) hx hb dL_law_45 (by decide) (by decide) (by decide) (by decide) (law_c38 l hlT hx hb hml hown hts hX hbl hbA hA hT hK2 hP4 hD4 hS hl kk)
  | 39, _ => exact lv_tableIn (off := 2882) (tgt := 2927) hx hb dL_law_45 (by decide) (by decide) (by decide) (by decide) (law_c39 l hlT hx hb hml hown hts hX hbl hbA hA hT hK2 hP4 hD4 hS hl kk)
  | 40, _ => exact lv_tableIn (off := 2938) (tgt := 2983) hx hb dL_law_45 (by decide) (by decide) (by decide) (by decide) (law_c40 l hlT hx hb hml hown hts hX hbl hbA hA hT hK2 hP4 hD4 hS hl kk)
  | 41, _ => exact lv_tableIn (off := 2994) (tgt := 3039) hx hb dL_law_45 (by decide) (by decide) (by decide) (by decide) (law_c41 l hlT hx hb hml hown hts hX hbl hbA hA hT hK2 hP4 hD4 hS hl kk)
  | 42, _ => exact lv_tableIn (off := 3050) (tgt := 3095) hx hb dL_law_45 (by decide) (by decide) (by decide) (by decide) (law_c42 l hlT hx hb hml hown hts hX hbl hbA hA hT hK2 hP4 hD4 hS hl kk)
  | 43, _ => exact lv_tableIn (off := 3118) (tgt := 3163) hx hb dL_law_45 (by decide) (by decide) (by decide) (by decide) (law_c43 l hlT hx hb hml hown hts hX hbl hbA hA hT hK2 hP4 hD4 hS hl kk)
  | 44, _ => exact lv_tableIn (off := 3174) (tgt := 3219) hx hb dL_law_45 (by decide) (by decide) (by decide) (by decide) (law_c44 l hlT hx hb hml hown hts hX hbl hbA hA hT hK2 hP4 hD4 hS hl kk)
  | 45, _ => exact lv_tableIn (off := 3230) (tgt := 3275) hx hb dL_law_45 (by decide) (by decide) (by decide) (by decide) (law_c45 l hlT hx hb hml hown hts hX hbl hbA hA hT hK2 hP4 hD4 hS hl kk)
  | 46, _ => exact lv_tableIn (off := 3305) (tgt := 3350) hx hb dL_law_45 (by decide) (by decide) (by decide) (by decide) (law_c46 l hlT hx hb hml hown hts hX hbl hbA hA hT hK2 hP4 hD4 hS hl kk)
  | 47, _ => exact lv_tableIn (off := 3361) (tgt := 3406) hx hb dL_law_45 (by decide) (by decide) (by decide) (by decide) (law_c47 l hlT hx hb hml hown hts hX hbl hbA hA hT hK2 hP4 hD4 hS hl kk)
  | 48, _ => exact lv_tableIn (off := 3417) (tgt := 3462) hx hb dL_law_45 (by decide) (by decide) (by decide) (by decide) (law_c48 l hlT hx hb hml hown hts hX hbl hbA hA hT hK2 hP4 hD4 hS hl kk)
  | 49, _ => exact lv_tableIn (off := 3497) (tgt := 3542) hx hb dL_law_45 (by decide) (by decide) (by decide) (by decide) (law_c49 l hlT hx hb hml hown hts hX hbl hbA hA hT hK2 hP4 hD4 hS hl kk)
  | 50, _ => exact lv_tableIn (off := 3565) (tgt := 3610) hx hb dL_law_45 (by decide) (by decide) (by decide) (by decide) (law_c50 l hlT hx hb hml hown hts hX hbl hbA hA hT hK2 hP4 hD4 hS hl kk)
  | 51, _ => exact lv_tableIn (off := 3621) (tgt := 3666) hx hb dL_law_45 (by decide) (by decide) (by decide) (by decide) (law_c51 l hlT hx hb hml hown hts hX hbl hbA hA hT hK2 hP4 hD4 hS hl kk)
  | 52, _ => exact lv_tableIn (off := 3677) (tgt := 3722) hx hb dL_law_45 (by decide) (by decide) (by decide) (by decide) (law_c52 l hlT hx hb hml hown hts hX hbl hbA hA hT hK2 hP4 hD4 hS hl kk)
  | 53, _ => exact lv_tableIn (off := 3691) (tgt := 3736) hx hb dL_law_45 (by decide) (by decide) (by decide) (by decide) (law_c53 l hlT hx hb hml hown hts hX hbl hbA hA hT hK2 hP4 hD4 hS hl kk)
  | 54, _ => exact lv_tableIn (off := 3769) (tgt := 3814) hx hb dL_law_45 (by decide) (by decide) (by decide) (by decide) (law_c54 l hlT hx hb hml hown hts hX hbl hbA hA hT hK2 hP4 hD4 hS hl kk)
  | 55, _ => exact lv_tableIn (off := 3846) (tgt := 3891) hx hb dL_law_45 (by decide) (by decide) (by decide) (by decide) (law_c55 l hlT hx hb hml hown hts hX hbl hbA hA hT hK2 hP4 hD4 hS hl kk)
  | n + 56, hn => 
    refine lv_tableOut (tgt := 3904) hx hb dL_law_45 (Or.inr ?_) (by decide) ?_
    · have h5 : ∀ k : Nat, k < 8 → (55 : Int) < (nI (k + 56)).toInt := by decide
      exact h5 n (by omega)
    · refine W.widen (k := 200) (n := 12100) (Nat.le_of_ble_eq_true rfl) (Nat.le_of_ble_eq_true rfl) ?_
      exact kk H locs ls hS (lv_sub hl [0, 5] rfl)
set_option maxHeartbeats 4000000 in
set_option maxRecDepth 100000 in
theorem law_main (l : Launch) (hlT : l.stackTraces = false) {p : Program} {e : Env} {s : State} {m : MethodId} {below : List Frame} {meth : Method} {c : Code} {Q : State → Prop} {b : Nat} {xs : Nat → Int32} {L : Nat} (hL7 : L ≤ 7) (hx : p.tables.exec = Jvm.exec) (hb : c.code = cL_law) (hml : c.maxLocals = 9) (hown : s.vm.findClass RL = some m.cls) (hts0 : ∀ w ∈ lw_tbl, w.before #[Value.ref b] s = true) (hX : va_X b L xs s s.heap) (hbl : b < s.heap.size) (hgv : (Jvm.Cond.and given_1 narrow_1).before #[Value.ref b] s = true)
    (kk : ∀ (H : Heap) (ls : Array Slot), W p l e room_1 s m #[Value.ref b] below meth c H [] 200 12100 Q (F0 m 3911 ls [.int 1])) : W p l e room_1 s m #[Value.ref b] below meth c s.heap [] 0 0 Q (entryFrame m ([Value.ref b] : List Value).toArray 9) := by
  have hts : ∀ w ∈ wsL_law, w.before #[Value.ref b] s = true := fun w h => hts0 w (wsL_law_in w h)
  obtain ⟨D, hK⟩ := lw_D hts0
  have hcur : s.vm.findClass RX6 = some (D.1 12) := (hK.1 12 _ rfl).2.1
  have hold : ∀ a : Nat, a < s.heap.size → ¬ rg0 s.heap.size a := fun a h => Nat.not_le.mpr h
  have hT := lw_tf (A := rg0 s.heap.size) hcur hts0 hgv hold
  obtain ⟨e0, hL⟩ := lw_lf (A := rg0 s.heap.size) hts0 hgv hold
  have h17 : va_Nw (.classLink RL 17 "java/lang/UnsupportedOperationException") s := va_Nw.of rfl (hts0 _ (by decide +kernel))
  have hN5 : va_Nw (.methodLinkNest RX5 9 yX0_init "FairwayChancery") s := va_Nw.of rfl (hts0 _ (by decide +kernel))
  have hN4 : va_Nw (.methodLinkNest RX4 11 yX0_init "FairwayChancery") s := va_Nw.of rfl (hts0 _ (by decide +kernel))
  have hO3 : va_AO RX3 s := va_AO.of (hts0 (.arrayOver (.object RX3)) (by decide +kernel))
  have hO5 : va_AO RX5 s := va_AO.of (hts0 (.arrayOver (.object RX5)) (by decide +kernel))
  have hOi : va_AOA .int s := hts0 (.arrayOver (.array .int)) (by decide +kernel)
  have hOc : va_AOA .char s := hts0 (.arrayOver (.array .char)) (by decide +kernel)
  have hbA : ¬ rg0 s.heap.size b := hold b hbl
  have hA : ∀ q : Nat, s.heap.size ≤ q → rg0 s.heap.size q := fun q h => h
  have hAr : ∀ q : Nat, rg0 s.heap.size q → s.heap.size ≤ q := fun q h => h
  generalize rg0 s.heap.size = A at hT hL hbA hA hAr
  have hS : va_S A s.heap s.heap [] := va_S.rf
  have hP : va_P D vwCl [] s.heap := fun k q h => by simp at h
  have hD : va_D A [] := ⟨fun i j p q h => by simp at h, fun k q h => by simp at h⟩
  have hl := lv_entry ([.ref b]) (n := 9) (Nat.le_of_ble_eq_true rfl)
  rw [lg_entry_eq]
  generalize (lg_sl ([.ref b]) ++ List.replicate (9 - (lg_sl ([.ref b])).length) Slot.unset).toArray = ls at hl ⊢
  have hl : lv_has ls 9 [(0, .ref b)] := hl
  refine va_new (ci := 12) (fs := [.null, .null, .null, .null, .int 0, .int 0, .int 0, .int 0, .int 0, .int 0, .int 0, .int 0, .int 0, .int 0]) (C := RX6) (T := TX6) (N := 14) hx hb hts inlX6 tyX6 tyX6_ok hown (hts0 (.classLink RL 8 RX6) (by decide +kernel)) (hts0 (.instantiable RX6 14) (by decide +kernel)) (hts0 (.initialized RX6) (by decide +kernel)) hK hP hD hS hA rfl (fun j hj => match j, hj with | 0, _ => rfl | 1, _ => rfl | 2, _ => rfl | 3, _ => rfl | 4, _ => rfl | 5, _ => rfl | 6, _ => rfl | 7, _ => rfl | 8, _ => rfl | 9, _ => rfl | 10, _ => rfl | 11, _ => rfl | 12, _ => rfl | 13, _ => rfl | n + 14, h => absurd h (by omega)) (Nat.le_of_ble_eq_true rfl) (Nat.le_of_ble_eq_true rfl) dL_law_0 (fun q1 H hP hD hS => ?_)
  have hP : va_P D vwCl [(q1, .inr (12, [.null, .null, .null, .null, .int 0, .int 0, .int 0, .int 0, .int 0, .int 0, .int 0, .int 0, .int 0, .int 0]))] H := hP
  have hD : va_D A [(q1, .inr (12, [.null, .null, .null, .null, .int 0, .int 0, .int 0, .int 0, .int 0, .int 0, .int 0, .int 0, .int 0, .int 0]))] := hD
  refine W.widen (k := 1) (n := 14) (by decide) (by decide) ?_
  refine lv_dup hx hb dL_law_3 rfl ?_
  have hPc := hP
  have hKc := hK
  have hFc : ∀ q : Nat, rg1 q1 H.size q → A q := fun q h => h.elim (fun e => by rw [e]; exact hD.2 0 _ rfl) (fun h => hA q (Nat.le_trans hS.1 h))
  refine va_callv (va_runI (As := []) (rest := [.ref q1]) ⟨hx, hb, hml, hown, hts⟩ (c_X6_init l D q1 H.size) (cwI 0 hts gL_law_X6_init rfl rfl rfl (hts0 (.initialized RX6) (by decide +kernel)) (hts0 (.methodLink RL 201 yX6_init) (by decide +kernel)) (hts0 (.instanceMethod yX6_init) (by decide +kernel)) rfl (by decide +kernel) ⟨Nat.le_of_ble_eq_true rfl, Nat.le_of_ble_eq_true rfl⟩) ⟨fun a U g mk q => ⟨q.1, q.2.1, q.2.2.1, va_K.moved (u := U) (U := U.calling g mk a) (Vm.Alike.refl U.vm) q.2.2.2.1, va_Nw.same (u := U) rfl rfl q.2.2.2.2.1, va_Nw.same (u := U) rfl rfl q.2.2.2.2.2.1, va_AO.moved (u := U) (Vm.Alike.refl U.vm) q.2.2.2.2.2.2.1, va_AO.moved (u := U) (Vm.Alike.refl U.vm) q.2.2.2.2.2.2.2⟩, fun U hU hW => ⟨rfl, congrArg Array.size hU, by rw [hU]; exact hPc, va_K.moved hW.alike hKc, va_Nw.warmM hW hN5, va_Nw.warmM hW hN4, va_AO.moved hW.alike hO3, va_AO.moved hW.alike hO5⟩⟩ rfl rfl hl.1 rfl (lv_room (Nat.le_of_ble_eq_true rfl)) dL_law_4 ⟨Nat.le_of_ble_eq_true rfl, Nat.le_of_ble_eq_true rfl⟩) hS (fun q _ h => hFc q h) hFc (fun u t H1 locs ht hvm hw hB hz1 hk1 hS => ?_)
  obtain ⟨⟨rx, h1, kq, cH, fH⟩, eu⟩ : ∃ z, z = u := ⟨_, rfl⟩
  rw [← eu] at hB hw
  obtain ⟨hP1, hK1, hD1⟩ := hB
  rw [ht] at hP1
  have hf : fH 0 = some h1 := hw
  have hK : va_K D vwCl [(cH, .object "FairwayChancery$Hole")] s := va_K.moved hvm.symm hK1
  have hD : va_D A [(q1, .inr (12, [.ref (rx 0), .ref (rx 1), .ref (rx 2), .ref (rx 3), .int 0, .int 0, .int 1, .int 110, .int 0, .int 115, .int 0, .int 0, .int 0, .int 0])), (rx 0, .inl (cH, 9, .inr (.inr (.inr (.inr fH))))), (h1, .inr (9, [.ref kq, .int 0, .int 0, .int 0, .int 0, .int 0]))] := hD1.weaken (fun _ q _ h => hFc _ h)
  have hP : va_P D vwCl [(q1, .inr (12, [.ref (rx 0), .ref (rx 1), .ref (rx 2), .ref (rx 3), .int 0, .int 0, .int 1, .int 110, .int 0, .int 115, .int 0, .int 0, .int 0, .int 0])), (rx 0, .inl (cH, 9, .inr (.inr (.inr (.inr fH))))), (h1, .inr (9, [.ref kq, .int 0, .int 0, .int 0, .int 0, .int 0]))] H1 := hP1
  clear hPc hKc hFc hP1 hK1 hD1 hk1 ht
  generalize H1 = H at hP hS ⊢
  refine W.widen (k := 72) (n := 5973) (by decide) (by decide) ?_
  refine lv_astore_n (lv' := [(1, .ref q1), (0, .ref b)]) hx hb dL_law_7 rfl hl (by decide) rfl (fun ls hl => ?_)
  refine va_new (ci := 13) (fs := [.null, .null, .null, .null, .null, .null, .null, .null, .null, .null, .null, .null, .null, .null, .null, .null, .int 0, .int 0, .int 0, .int 0, .int 0, .int 0, .int 0, .int 0, .int 0, .int 0, .int 0, .int 0, .int 0, .int 0, .int 0]) (C := RX7) (T := TX7) (N := 31) hx hb hts inlX7 tyX7 tyX7_ok hown (hts0 (.classLink RL 202 RX7) (by decide +kernel)) (hts0 (.instantiable RX7 31) (by decide +kernel)) (hts0 (.initialized RX7) (by decide +kernel)) hK hP hD hS hA rfl (fun j hj => match j, hj with | 0, _ => rfl | 1, _ => rfl | 2, _ => rfl | 3, _ => rfl | 4, _ => rfl | 5, _ => rfl | 6, _ => rfl | 7, _ => rfl | 8, _ => rfl | 9, _ => rfl | 10, _ => rfl | 11, _ => rfl | 12, _ => rfl | 13, _ => rfl | 14, _ => rfl | 15, _ => rfl | 16, _ => rfl | 17, _ => rfl | 18, _ => rfl | 19, _ => rfl | 20, _ => rfl | 21, _ => rfl | 22, _ => rfl | 23, _ => rfl | 24, _ => rfl | 25, _ => rfl | 26, _ => rfl | 27, _ => rfl | 28, _ => rfl | 29, _ => rfl | 30, _ => rfl | n + 31, h => absurd h (by omega)) (Nat.le_of_ble_eq_true rfl) (Nat.le_of_ble_eq_true rfl) dL_law_8 (fun q2 H hP hD hS => ?_)
  have hP : va_P D vwCl [(q1, .inr (12, [.ref (rx 0), .ref (rx 1), .ref (rx 2), .ref (rx 3), .int 0, .int 0, .int 1, .int 110, .int 0, .int 115, .int 0, .int 0, .int 0, .int 0])), (rx 0, .inl (cH, 9, .inr (.inr (.inr (.inr fH))))), (h1, .inr (9, [.ref kq, .int 0, .int 0, .int 0, .int 0, .int 0])), (q2, .inr (13, [.null, .null, .null, .null, .null, .null, .null, .null, .null, .null, .null, .null, .null, .null, .null, .null, .int 0, .int 0, .int 0, .int 0, .int 0, .int 0, .int 0, .int 0, .int 0, .int 0, .int 0, .int 0, .int 0, .int 0, .int 0]))] H := hP
  have hD : va_D A [(q1, .inr (12, [.ref (rx 0), .ref (rx 1), .ref (rx 2), .ref (rx 3), .int 0, .int 0, .int 1, .int 110, .int 0, .int 115, .int 0, .int 0, .int 0, .int 0])), (rx 0, .inl (cH, 9, .inr (.inr (.inr (.inr fH))))), (h1, .inr (9, [.ref kq, .int 0, .int 0, .int 0, .int 0, .int 0])), (q2, .inr (13, [.null, .null, .null, .null, .null, .null, .null, .null, .null, .null, .null, .null, .null, .null, .null, .null, .int 0, .int 0, .int 0, .int 0, .int 0, .int 0, .int 0, .int 0, .int 0, .int 0, .int 0, .int 0, .int 0, .int 0, .int 0]))] := hD
  refine W.widen (k := 73) (n := 6004) (by decide) (by decide) ?_
  refine lv_dup hx hb dL_law_11 rfl ?_
  have hPc := hP.sub (ws' := [(q2, .inr (13, [.null, .null, .null, .null, .null, .null, .null, .null, .null, .null, .null, .null, .null, .null, .null, .null, .int 0, .int 0, .int 0, .int 0, .int 0, .int 0, .int 0, .int 0, .int 0, .int 0, .int 0, .int 0, .int 0, .int 0, .int 0]))]) [3] rfl
  have hKc := hK.sub (tys' := []) [] rfl
  have hFc : ∀ q : Nat, rg1 q2 H.size q → A q := fun q h => h.elim (fun e => by rw [e]; exact hD.2 3 _ rfl) (fun h => hA q (Nat.le_trans hS.1 h))
  have hS0 := hS
  refine va_callv (va_runI (As := []) (rest := [.ref q2]) ⟨hx, hb, hml, hown, hts⟩ (c_X7_init l D q2 e0 H.size) (cwI 0 hts gL_law_X7_init rfl rfl rfl (hts0 (.initialized RX7) (by decide +kernel)) (hts0 (.methodLink RL 204 yX7_init) (by decide +kernel)) (hts0 (.instanceMethod yX7_init) (by decide +kernel)) rfl (by decide +kernel) ⟨Nat.le_of_ble_eq_true rfl, Nat.le_of_ble_eq_true rfl⟩) ⟨fun a U g mk q => ⟨q.1, q.2.1, q.2.2.1, va_K.moved (u := U) (U := U.calling g mk a) (Vm.Alike.refl U.vm) q.2.2.2.1, va_AOA.moved (u := U) (Vm.Alike.refl U.vm) q.2.2.2.2.1, va_AOA.moved (u := U) (Vm.Alike.refl U.vm) q.2.2.2.2.2.1, q.2.2.2.2.2.2.blind⟩, fun U hU hW => ⟨rfl, congrArg Array.size hU, by rw [hU]; exact hPc, va_K.moved hW.alike hKc, va_AOA.moved hW.alike hOi, va_AOA.moved hW.alike hOc, hL.go hS hW hU hFc⟩⟩ rfl rfl hl.1 rfl (lv_room (Nat.le_of_ble_eq_true rfl)) dL_law_12 ⟨Nat.le_of_ble_eq_true rfl, Nat.le_of_ble_eq_true rfl⟩) hS (fun q _ h => hFc q h) hFc (fun u t H1 locs ht hvm hw hB hz1 hk1 hS => ?_)
  obtain ⟨⟨rm, ⟨c0, k0⟩, ⟨cC, cI, cK, cX⟩, ⟨gC, gK⟩⟩, eu⟩ : ∃ z, z = u := ⟨_, rfl⟩
  rw [← eu] at hB hw
  obtain ⟨hP1, hK1, hD1⟩ := hB
  rw [ht] at hP1
  have hg1 : gC 0 = some c0 := hw.1
  have hg2 : gK 0 = some k0 := hw.2
  have hK1 := va_K.moved hvm.symm hK1
  have hD1 := hD1.weaken (B := va_A [(q2, .inr (13, [.null, .null, .null, .null, .null, .null, .null, .null, .null, .null, .null, .null, .null, .null, .null, .null, .int 0, .int 0, .int 0, .int 0, .int 0, .int 0, .int 0, .int 0, .int 0, .int 0, .int 0, .int 0, .int 0, .int 0, .int 0]))] H.size) (fun _ q _ h => va_Arg1 _ h)
  have hk1 : ∀ q : Nat, q < H.size → ¬ va_A [(q2, .inr (13, [.null, .null, .null, .null, .null, .null, .null, .null, .null, .null, .null, .null, .null, .null, .null, .null, .int 0, .int 0, .int 0, .int 0, .int 0, .int 0, .int 0, .int 0, .int 0, .int 0, .int 0, .int 0, .int 0, .int 0, .int 0]))] H.size q → H1[q]? = H[q]? := fun q h1 h2 => hk1 q h1 (fun h3 => h2 (va_Arg1 q h3))
  have hF9 : ∀ q, va_A [(q2, .inr (13, [.null, .null, .null, .null, .null, .null, .null, .null, .null, .null, .null, .null, .null, .null, .null, .null, .int 0, .int 0, .int 0, .int 0, .int 0, .int 0, .int 0, .int 0, .int 0, .int 0, .int 0, .int 0, .int 0, .int 0, .int 0]))] H.size q → A q := va_free (wc := [(q2, .inr (13, [.null, .null, .null, .null, .null, .null, .null, .null, .null, .null, .null, .null, .null, .null, .null, .null, .int 0, .int 0, .int 0, .int 0, .int 0, .int 0, .int 0, .int 0, .int 0, .int 0, .int 0, .int 0, .int 0, .int 0, .int 0]))]) hD hS0 hA [3] rfl
  obtain ⟨hP, hD⟩ := va_join (wc := [(q2, .inr (13, [.null, .null, .null, .null, .null, .null, .null, .null, .null, .null, .null, .null, .null, .null, .null, .null, .int 0, .int 0, .int 0, .int 0, .int 0, .int 0, .int 0, .int 0, .int 0, .int 0, .int 0, .int 0, .int 0, .int 0, .int 0]))]) (wr := [(q1, .inr (12, [.ref (rx 0), .ref (rx 1), .ref (rx 2), .ref (rx 3), .int 0, .int 0, .int 1, .int 110, .int 0, .int 115, .int 0, .int 0, .int 0, .int 0])), (rx 0, .inl (cH, 9, .inr (.inr (.inr (.inr fH))))), (h1, .inr (9, [.ref kq, .int 0, .int 0, .int 0, .int 0, .int 0]))]) (w1 := [(q2, .inr (13, [.ref (rm 0), .ref (rm 1), .ref (rm 2), .ref (rm 3), .ref (rm 4), .ref (rm 5), .ref (rm 6), .ref (rm 7), .ref (rm 8), .ref (rm 9), .ref (rm 10), .ref (rm 11), .ref (rm 12), .ref (rm 13), .ref (rm 14), .ref (rm 15), .int 0, .int 0, .int 1, .int 110, .int 0, .int 0, .int 0, .int 0, .int 0, .int 0, .int 0, .int 0, .int 0, .int 0, .int 0])), (rm 0, .inl (cC, 9, .inr (.inr (.inr (.inr gC))))), (c0, .inl (cI, 7, .inl (fun _ => 0))), (rm 1, .inl (cK, 9, .inr (.inr (.inr (.inr gK))))), (k0, .inl (cX, 600, .inl (fun _ => 0)))]) hP hD [3] [0, 1, 2] rfl rfl (by decide) (by decide) hk1 hF9 hP1 hD1
  have hK := hK.app hK1
  have hK : va_K D vwCl [(cH, .object "FairwayChancery$Hole"), (cC, .array .int), (cI, .int), (cK, .array .char), (cX, .char)] s := hK
  have hP : va_P D vwCl [(q1, .inr (12, [.ref (rx 0), .ref (rx 1), .ref (rx 2), .ref (rx 3), .int 0, .int 0, .int 1, .int 110, .int 0, .int 115, .int 0, .int 0, .int 0, .int 0])), (rx 0, .inl (cH, 9, .inr (.inr (.inr (.inr fH))))), (h1, .inr (9, [.ref kq, .int 0, .int 0, .int 0, .int 0, .int 0])), (q2, .inr (13, [.ref (rm 0), .ref (rm 1), .ref (rm 2), .ref (rm 3), .ref (rm 4), .ref (rm 5), .ref (rm 6), .ref (rm 7), .ref (rm 8), .ref (rm 9), .ref (rm 10), .ref (rm 11), .ref (rm 12), .ref (rm 13), .ref (rm 14), .ref (rm 15), .int 0, .int 0, .int 1, .int 110, .int 0, .int 0, .int 0, .int 0, .int 0, .int 0, .int 0, .int 0, .int 0, .int 0, .int 0])), (rm 0, .inl (cC, 9, .inr (.inr (.inr (.inr gC))))), (c0, .inl (cI, 7, .inl (fun _ => 0))), (rm 1, .inl (cK, 9, .inr (.inr (.inr (.inr gK))))), (k0, .inl (cX, 600, .inl (fun _ => 0)))] H1 := hP
  have hD : va_D A [(q1, .inr (12, [.ref (rx 0), .ref (rx 1), .ref (rx 2), .ref (rx 3), .int 0, .int 0, .int 1, .int 110, .int 0, .int 115, .int 0, .int 0, .int 0, .int 0])), (rx 0, .inl (cH, 9, .inr (.inr (.inr (.inr fH))))), (h1, .inr (9, [.ref kq, .int 0, .int 0, .int 0, .int 0, .int 0])), (q2, .inr (13, [.ref (rm 0), .ref (rm 1), .ref (rm 2), .ref (rm 3), .ref (rm 4), .ref (rm 5), .ref (rm 6), .ref (rm 7), .ref (rm 8), .ref (rm 9), .ref (rm 10), .ref (rm 11), .ref (rm 12), .ref (rm 13), .ref (rm 14), .ref (rm 15), .int 0, .int 0, .int 1, .int 110, .int 0, .int 0, .int 0, .int 0, .int 0, .int 0, .int 0, .int 0, .int 0, .int 0, .int 0])), (rm 0, .inl (cC, 9, .inr (.inr (.inr (.inr gC))))), (c0, .inl (cI, 7, .inl (fun _ => 0))), (rm 1, .inl (cK, 9, .inr (.inr (.inr (.inr gK))))), (k0, .inl (cX, 600, .inl (fun _ => 0)))] := hD
  clear hPc hKc hFc hP1 hK1 hD1 hk1 ht hF9 hS0
  generalize H1 = H at hP hS ⊢
  refine W.widen (k := 138) (n := 11921) (by decide) (by decide) ?_
  refine lv_astore_n (lv' := [(2, .ref q2), (1, .ref q1), (0, .ref b)]) hx hb dL_law_15 rfl hl (by decide) rfl (fun ls hl => ?_)
  refine lv_iconst (v := 1) hx hb dL_law_16 (by decide) ?_
  refine va_newa (atype := .long) (ty := .long) (a0 := (1, .inr (.inl (fun _ => 0)))) hx hb (hts0 (.arrayClass .long) (by decide +kernel)) rfl hK hP hD hS hA (fun cA => rfl) (by decide) (N' := 1) (by decide) (by decide) (Nat.le_of_ble_eq_true rfl) (Nat.le_of_ble_eq_true rfl) dL_law_17 (fun q3 cO H hK hP hD hS => ?_)
  have hK : va_K D vwCl [(cH, .object "FairwayChancery$Hole"), (cC, .array .int), (cI, .int), (cK, .array .char), (cX, .char), (cO, .long)] s := hK
  have hP : va_P D vwCl [(q1, .inr (12, [.ref (rx 0), .ref (rx 1), .ref (rx 2), .ref (rx 3), .int 0, .int 0, .int 1, .int 110, .int 0, .int 115, .int 0, .int 0, .int 0, .int 0])), (rx 0, .inl (cH, 9, .inr (.inr (.inr (.inr fH))))), (h1, .inr (9, [.ref kq, .int 0, .int 0, .int 0, .int 0, .int 0])), (q2, .inr (13, [.ref (rm 0), .ref (rm 1), .ref (rm 2), .ref (rm 3), .ref (rm 4), .ref (rm 5), .ref (rm 6), .ref (rm 7), .ref (rm 8), .ref (rm 9), .ref (rm 10), .ref (rm 11), .ref (rm 12), .ref (rm 13), .ref (rm 14), .ref (rm 15), .int 0, .int 0, .int 1, .int 110, .int 0, .int 0, .int 0, .int 0, .int 0, .int 0, .int 0, .int 0, .int 0, .int 0, .int 0])), (rm 0, .inl (cC, 9, .inr (.inr (.inr (.inr gC))))), (c0, .inl (cI, 7, .inl (fun _ => 0))), (rm 1, .inl (cK, 9, .inr (.inr (.inr (.inr gK))))), (k0, .inl (cX, 600, .inl (fun _ => 0))), (q3, .inl (cO, 1, .inr (.inl (fun _ => 0))))] H := hP
  have hD : va_D A [(q1, .inr (12, [.ref (rx 0), .ref (rx 1), .ref (rx 2), .ref (rx 3), .int 0, .int 0, .int 1, .int 110, .int 0, .int 115, .int 0, .int 0, .int 0, .int 0])), (rx 0, .inl (cH, 9, .inr (.inr (.inr (.inr fH))))), (h1, .inr (9, [.ref kq, .int 0, .int 0, .int 0, .int 0, .int 0])), (q2, .inr (13, [.ref (rm 0), .ref (rm 1), .ref (rm 2), .ref (rm 3), .ref (rm 4), .ref (rm 5), .ref (rm 6), .ref (rm 7), .ref (rm 8), .ref (rm 9), .ref (rm 10), .ref (rm 11), .ref (rm 12), .ref (rm 13), .ref (rm 14), .ref (rm 15), .int 0, .int 0, .int 1, .int 110, .int 0, .int 0, .int 0, .int 0, .int 0, .int 0, .int 0, .int 0, .int 0, .int 0, .int 0])), (rm 0, .inl (cC, 9, .inr (.inr (.inr (.inr gC))))), (c0, .inl (cI, 7, .inl (fun _ => 0))), (rm 1, .inl (cK, 9, .inr (.inr (.inr (.inr gK))))), (k0, .inl (cX, 600, .inl (fun _ => 0))), (q3, .inl (cO, 1, .inr (.inl (fun _ => 0))))] := hD
  refine W.widen (k := 139) (n := 11922) (by decide) (by decide) ?_
  refine lv_astore_n (lv' := [(3, .ref q3), (2, .ref q2), (1, .ref q1), (0, .ref b)]) hx hb dL_law_19 rfl hl (by decide) rfl (fun ls hl => ?_)
  refine lv_iconst (v := 1) hx hb dL_law_20 (by decide) ?_
  refine va_newa (atype := .double) (ty := .double) (a0 := (1, .inr (.inr (.inr (.inl (fun _ => 0)))))) hx hb (hts0 (.arrayClass .double) (by decide +kernel)) rfl hK hP hD hS hA (fun cA => rfl) (by decide) (N' := 1) (by decide) (by decide) (Nat.le_of_ble_eq_true rfl) (Nat.le_of_ble_eq_true rfl) dL_law_21 (fun q4 cD H hK hP hD hS => ?_)
  have hK : va_K D vwCl [(cH, .object "FairwayChancery$Hole"), (cC, .array .int), (cI, .int), (cK, .array .char), (cX, .char), (cO, .long), (cD, .double)] s := hK
  have hP : va_P D vwCl [(q1, .inr (12, [.ref (rx 0), .ref (rx 1), .ref (rx 2), .ref (rx 3), .int 0, .int 0, .int 1, .int 110, .int 0, .int 115, .int 0, .int 0, .int 0, .int 0])), (rx 0, .inl (cH, 9, .inr (.inr (.inr (.inr fH))))), (h1, .inr (9, [.ref kq, .int 0, .int 0, .int 0, .int 0, .int 0])), (q2, .inr (13, [.ref (rm 0), .ref (rm 1), .ref (rm 2), .ref (rm 3), .ref (rm 4), .ref (rm 5), .ref (rm 6), .ref (rm 7), .ref (rm 8), .ref (rm 9), .ref (rm 10), .ref (rm 11), .ref (rm 12), .ref (rm 13), .ref (rm 14), .ref (rm 15), .int 0, .int 0, .int 1, .int 110, .int 0, .int 0, .int 0, .int 0, .int 0, .int 0, .int 0, .int 0, .int 0, .int 0, .int 0])), (rm 0, .inl (cC, 9, .inr (.inr (.inr (.inr gC))))), (c0, .inl (cI, 7, .inl (fun _ => 0))), (rm 1, .inl (cK, 9, .inr (.inr (.inr (.inr gK))))), (k0, .inl (cX, 600, .inl (fun _ => 0))), (q3, .inl (cO, 1, .inr (.inl (fun _ => 0)))), (q4, .inl (cD, 1, .inr (.inr (.inr (.inl (fun _ => 0))))))] H := hP
  have hD : va_D A [(q1, .inr (12, [.ref (rx 0), .ref (rx 1), .ref (rx 2), .ref (rx 3), .int 0, .int 0, .int 1, .int 110, .int 0, .int 115, .int 0, .int 0, .int 0, .int 0])), (rx 0, .inl (cH, 9, .inr (.inr (.inr (.inr fH))))), (h1, .inr (9, [.ref kq, .int 0, .int 0, .int 0, .int 0, .int 0])), (q2, .inr (13, [.ref (rm 0), .ref (rm 1), .ref (rm 2), .ref (rm 3), .ref (rm 4), .ref (rm 5), .ref (rm 6), .ref (rm 7), .ref (rm 8), .ref (rm 9), .ref (rm 10), .ref (rm 11), .ref (rm 12), .ref (rm 13), .ref (rm 14), .ref (rm 15), .int 0, .int 0, .int 1, .int 110, .int 0, .int 0, .int 0, .int 0, .int 0, .int 0, .int 0, .int 0, .int 0, .int 0, .int 0])), (rm 0, .inl (cC, 9, .inr (.inr (.inr (.inr gC))))), (c0, .inl (cI, 7, .inl (fun _ => 0))), (rm 1, .inl (cK, 9, .inr (.inr (.inr (.inr gK))))), (k0, .inl (cX, 600, .inl (fun _ => 0))), (q3, .inl (cO, 1, .inr (.inl (fun _ => 0)))), (q4, .inl (cD, 1, .inr (.inr (.inr (.inl (fun _ => 0))))))] := hD
  refine W.widen (k := 140) (n := 11923) (by decide) (by decide) ?_
  refine lv_astore (lv' := [(4, .ref q4), (3, .ref q3), (2, .ref q2), (1, .ref q1), (0, .ref b)]) hx hb dL_law_23 hl (by decide) rfl (fun ls hl => ?_)
  refine lv_iconst (v := 0) hx hb dL_law_25 (by decide) ?_
  refine lv_istore (lv' := [(5, .int 0), (4, .ref q4), (3, .ref q3), (2, .ref q2), (1, .ref q1), (0, .ref b)]) hx hb dL_law_26 hl (by decide) rfl (fun ls hl => ?_)
  refine lv_iload hx hb dL_law_28 (lv_at hl 0 rfl) ?_
  refine lv_aload_n hx hb dL_law_30 rfl (lv_at hl 5 rfl) ?_
  refine va_slen hx hb hX hbl hbA hS dL_law_31 ?_
  refine lv_bipush (v := 7) hx hb dL_law_32 (by decide) ?_
  refine lv_isub hx hb dL_law_34 ?_
  refine lv_icmp_gt (tgt := 3910) hx hb dL_law_35 (by decide) (fun c9 => ?_) (fun c9 => ?_)
  · refine lv_iconst (v := 1) hx hb dL_law_3910 (by decide) ?_
    refine va_forget (fun q hq => hAr _ (hS.2.2 q hq)) ?_
    refine W.widen (k := 200) (n := 12100) (Nat.le_of_ble_eq_true rfl) (Nat.le_of_ble_eq_true rfl) ?_
    exact kk H ls
  · have h7 : L = 7 := by
      have hq : ∀ k : Nat, k < 7 → Int32.ofNat k - 7 < 0 := by decide
      by_cases h6 : L < 7
      · exact absurd (hq L h6) c9
      · omega
    subst h7
    refine lv_aload_n hx hb dL_law_38 rfl (lv_at hl 5 rfl) ?_
    refine lv_iload hx hb dL_law_39 (lv_at hl 0 rfl) ?_
    refine va_sld hx hb hX hbl hbA hS (vp_in_nI (n := 0) (by decide) (by decide)) dL_law_41 ?_
    refine lv_bipush (v := 63) hx hb dL_law_42 (by decide) ?_
    refine lv_iand hx hb dL_law_44 ?_
    rw [pk_and _ (m := 63) 6 (by decide)]
    exact law_table l hlT hf hg1 hg2 hx hb hml hown hts hX hbl hbA hA hT h17 hK hP hD hS (lv_sub hl [5, 4, 3, 2, 1, 0] rfl) (fun H locs ls hS hl => law_tail l hx hb hX hbl hbA hS hAr hl kk) _
