theorem ct_0.st {w w1 : va_W} {q y : Nat} {qs : List Nat} (h : ct_0 w q y) (hR : li_R w w1 qs) (hq : q ∉ qs) : ct_0 w1 q y := hR.at h hq
theorem ct_6.st {cI cX cH cPl : ClassId} {w w1 : va_W} {q y L : Nat} {qs : List Nat} (h : ct_6 cI cX cH cPl w q y L) (hR : li_R w w1 qs) (hq : ∀ z, z = q ∨ (L ≤ z ∧ z < L + 71) → z ∉ qs) : ct_6 cI cX cH cPl w1 q y L := by
  obtain ⟨aH, aP, aO, aM, fH, fP, c1, c2, c3, c4, c5, c6, c7⟩ := h
  exact ⟨aH, aP, aO, aM, fH, fP, hR.at c1 (hq _ (Or.inl rfl)), hR.at c2 (hq _ (Or.inr (by omega))), ct_all c3 (fun j a hj u => u.st hR (fun z hz => hq z (Or.inr (by omega)))), hR.at c4 (hq _ (Or.inr (by omega))), ct_all c5 (fun j a hj u => u.st hR (fun z hz => hq z (Or.inr (by omega)))), hR.at c6 (hq _ (Or.inr (by omega))), c7.st hR (fun z hz => hq z (Or.inr (by omega)))⟩
theorem ct_7.st {cI cX cZ cII cCC cL : ClassId} {e0 : Nat} {w w1 : va_W} {q y L : Nat} {qs : List Nat} (h : ct_7 cI cX cZ cII cCC cL e0 w q y L) (hR : li_R w w1 qs) (hq : ∀ z, z = q ∨ (L ≤ z ∧ z < L + 65) → z ∉ qs) : ct_7 cI cX cZ cII cCC cL e0 w1 q y L := by
  obtain ⟨a0, a1, a2, a3, a4, a5, a6, a7, a8, a9, a10, a11, a12, a13, a14, a15, rD, l0, l1, l2, l3, l4, l5, mc, gD, m1, ⟨r0, r1, m2, r3, m4, r5, r6, r7⟩, ⟨m8, m9, m10, m11, m12, m13, m14, m15⟩, m16, hg, n0, n1, n2, n3, n4, n5⟩ := h
  have A : ∀ {z : Nat} {x : Nat × va_E}, w[z]? = some x → L ≤ z → z < L + 65 → w1[z]? = some x := fun h h1 h2 => hR.at h (hq _ (Or.inr ⟨h1, h2⟩))
  exact ⟨a0, a1, a2, a3, a4, a5, a6, a7, a8, a9, a10, a11, a12, a13, a14, a15, rD, l0, l1, l2, l3, l4, l5, mc, gD, hR.at m1 (hq _ (Or.inl rfl)), ⟨r0.st hR (fun z hz => hq z (Or.inr (by omega))), r1.st hR (fun z hz => hq z (Or.inr (by omega))), A m2 (by omega) (by omega), r3.st hR (fun z hz => hq z (Or.inr (by omega))), A m4 (by omega) (by omega), r5.st hR (fun z hz => hq z (Or.inr (by omega))), r6.st hR (fun z hz => hq z (Or.inr (by omega))), r7.st hR (fun z hz => hq z (Or.inr (by omega)))⟩, ⟨A m8 (by omega) (by omega), A m9 (by omega) (by omega), A m10 (by omega) (by omega), A m11 (by omega) (by omega), A m12 (by omega) (by omega), A m13 (by omega) (by omega), A m14 (by omega) (by omega), A m15 (by omega) (by omega)⟩, A m16 (by omega) (by omega), hg, A n0 (by omega) (by omega), A n1 (by omega) (by omega), A n2 (by omega) (by omega), A n3 (by omega) (by omega), A n4 (by omega) (by omega), A n5 (by omega) (by omega)⟩
theorem cwj75 : Cond.initialized RX6 ∈ en_cw := cw_at 75 (by decide +kernel) (by decide +kernel)
theorem cwj111 : Cond.classLink RL 8 RX6 ∈ en_cw := cw_at 111 (by decide +kernel) (by decide +kernel)
theorem cwj112 : Cond.instantiable RX6 14 ∈ en_cw := cw_at 112 (by decide +kernel) (by decide +kernel)
theorem cwj113 : Cond.methodLink RL 201 yX6_init ∈ en_cw := cw_at 113 (by decide +kernel) (by decide +kernel)
theorem cwj114 : Cond.instanceMethod yX6_init ∈ en_cw := cw_at 114 (by decide +kernel) (by decide +kernel)
theorem cwj115 : Cond.code yX6_init cX6_init 2 none ∈ en_cw := cw_at 115 (by decide +kernel) (by decide +kernel)
theorem cwj1395 : Cond.classLink RL 202 RX7 ∈ en_cw := cw_at 1395 (by decide +kernel) (by decide +kernel)
theorem cwj1396 : Cond.instantiable RX7 31 ∈ en_cw := cw_at 1396 (by decide +kernel) (by decide +kernel)
theorem cwj1397 : Cond.methodLink RL 204 yX7_init ∈ en_cw := cw_at 1397 (by decide +kernel) (by decide +kernel)
theorem cwj1398 : Cond.instanceMethod yX7_init ∈ en_cw := cw_at 1398 (by decide +kernel) (by decide +kernel)
theorem cwj1399 : Cond.code yX7_init cX7_init 2 none ∈ en_cw := cw_at 1399 (by decide +kernel) (by decide +kernel)
theorem cwj2345 : Cond.arrayClass .long ∈ en_cw := cw_at 2345 (by decide +kernel) (by decide +kernel)
theorem cwj2346 : Cond.arrayClass .double ∈ en_cw := cw_at 2346 (by decide +kernel) (by decide +kernel)
theorem gj_L_201 : li_CI RL 201 yX6_init cX6_init 2 0 := ⟨cwj75, cwj113, cwj114, cwj115, rfl, by decide, by decide, by decide +kernel⟩
theorem gj_L_204 : li_CI RL 204 yX7_init cX7_init 2 0 := ⟨cwj82, cwj1397, cwj1398, cwj1399, rfl, by decide, by decide, by decide +kernel⟩
theorem dlz_0 : decode cL_law 0 = .ok (.new 8, 3) := by decide +kernel
theorem dlz_3 : decode cL_law 3 = .ok (.dup, 1) := by decide +kernel
theorem dlz_4 : decode cL_law 4 = .ok (.invokespecial 201, 3) := by decide +kernel
theorem dlz_7 : decode cL_law 7 = .ok (.astore_n 1, 1) := by decide +kernel
theorem dlz_8 : decode cL_law 8 = .ok (.new 202, 3) := by decide +kernel
theorem dlz_11 : decode cL_law 11 = .ok (.dup, 1) := by decide +kernel
theorem dlz_12 : decode cL_law 12 = .ok (.invokespecial 204, 3) := by decide +kernel
theorem dlz_15 : decode cL_law 15 = .ok (.astore_n 2, 1) := by decide +kernel
theorem dlz_16 : decode cL_law 16 = .ok (.iconst 1, 1) := by decide +kernel
theorem dlz_17 : decode cL_law 17 = .ok (.newarray .long, 2) := by decide +kernel
theorem dlz_19 : decode cL_law 19 = .ok (.astore_n 3, 1) := by decide +kernel
theorem dlz_20 : decode cL_law 20 = .ok (.iconst 1, 1) := by decide +kernel
theorem dlz_21 : decode cL_law 21 = .ok (.newarray .double, 2) := by decide +kernel
theorem dlz_23 : decode cL_law 23 = .ok (.astore 4, 2) := by decide +kernel
theorem dlz_25 : decode cL_law 25 = .ok (.iconst 0, 1) := by decide +kernel
theorem dlz_26 : decode cL_law 26 = .ok (.istore 5, 2) := by decide +kernel
theorem dlz_2335 : decode cL_law 2335 = .ok (.iconst 1, 1) := by decide +kernel
set_option maxHeartbeats 4000000 in
set_option maxRecDepth 100000 in
theorem law_main (l : Launch) (hlT : l.stackTraces = false) {p : Program} {e : Env} {s : State} {m : MethodId} {below : List Frame} {meth : Method} {c : Code} {Q : State → Prop} {b : Nat} {xs : Nat → Int32} {Ln : Nat} (hLn : Ln ≤ 3584) (hx : p.tables.exec = Jvm.exec) (hb : c.code = cL_law) (hml : c.maxLocals = 9) (hown : s.vm.findClass RL = some m.cls) (hts0 : ∀ w ∈ lw_tbl, w.before #[Value.ref b] s = true) (hX : va_X b Ln xs s s.heap) (hbl : b < s.heap.size) (hgv : (Jvm.Cond.and given_1 narrow_1).before #[Value.ref b] s = true)
    (kk : ∀ (H : Heap) (ls : Array Slot), W p l e room_1 s m #[Value.ref b] below meth c H [] 603072 7198826 Q (F0 m 2336 ls [.int 1])) : W p l e room_1 s m #[Value.ref b] below meth c s.heap [] 0 0 Q (entryFrame m ([Value.ref b] : List Value).toArray 9) := by
  have hts : ∀ w ∈ en_cw, w.before #[Value.ref b] s = true := fun w h => hts0 w (lw_in9 w h)
  obtain ⟨D, hK0⟩ := lw_D hts0
  have hcur : s.vm.findClass RX6 = some (D.1 12) := (hK0.1 12 _ rfl).2.1
  have hold : ∀ a : Nat, a < s.heap.size → ¬ (fun q : Nat => s.heap.size ≤ q) a := fun a h => Nat.not_le.mpr h
  have hT := lw_tf (A := fun q : Nat => s.heap.size ≤ q) hcur hts0 hgv hold
  obtain ⟨e0, ca, af, hL⟩ := lw_lf (A := fun q : Nat => s.heap.size ≤ q) hts0 hgv hold
  obtain ⟨cI, cX, cZ, cH, cPl, cII, cCC, cO, cD, cL, hK⟩ := lw_TYS hts0 hK0
  have hbA := hold b hbl
  have hA : ∀ q : Nat, s.heap.size ≤ q → (fun q : Nat => s.heap.size ≤ q) q := fun q h => h
  have hAr : ∀ q : Nat, (fun q : Nat => s.heap.size ≤ q) q → s.heap.size ≤ q := fun q h => h
  generalize (fun q : Nat => s.heap.size ≤ q) = A at hT hL hbA hA hAr
  obtain ⟨TY, eTY⟩ : ∃ z : List (ClassId × FieldType), z = (([(cI, .int), (cX, .char), (cZ, .boolean), (cH, .object "FairwayChancery$Hole"), (cPl, .object "FairwayChancery$Player"), (cII, .array .int), (cCC, .array .char)] ++ [(cO, .long), (cD, .double)]) ++ [(cL, .object "java/lang/Object")]) := ⟨_, rfl⟩
  have hK9 : va_K D vwCl TY s := by rw [eTY]; exact hK
  have hTT : ct_T TY cI cX cZ cH cPl cII cCC cL := by rw [eTY]; exact ⟨⟨rfl, rfl, rfl, rfl, rfl⟩, rfl, rfl, rfl⟩
  have ht7 : TY[7]? = some (cO, .long) := by rw [eTY]; rfl
  have ht8 : TY[8]? = some (cD, .double) := by rw [eTY]; rfl
  have hKS := hK
  clear hK
  have hK := hK9
  clear hK9
  have hS : va_S A s.heap s.heap [] := va_S.rf
  have hP : va_P D vwCl [] s.heap := fun k q h => by simp at h
  have hD : va_D A [] := ⟨fun i j p q h => by simp at h, fun k q h => by simp at h⟩
  have hl := lv_entry ([.ref b]) (n := 9) (Nat.le_of_ble_eq_true rfl)
  rw [lg_entry_eq]
  generalize (lg_sl ([.ref b]) ++ List.replicate (9 - (lg_sl ([.ref b])).length) Slot.unset).toArray = ls at hl ⊢
  have hl : lv_has ls 9 [(0, .ref b)] := hl
  refine va_new (ci := 12) (fs := [.null, .null, .null, .null, .int 0, .int 0, .int 0, .int 0, .int 0, .int 0, .int 0, .int 0, .int 0, .int 0]) (C := RX6) (T := TX6) (N := 14) hx hb hts uwj_X6 tyX6 tyX6_ok hown (hts _ cwj111) (hts _ cwj112) (hts _ cwj75) hK hP hD hS hA rfl (fun j hj => match j, hj with | 0, _ => rfl | 1, _ => rfl | 2, _ => rfl | 3, _ => rfl | 4, _ => rfl | 5, _ => rfl | 6, _ => rfl | 7, _ => rfl | 8, _ => rfl | 9, _ => rfl | 10, _ => rfl | 11, _ => rfl | 12, _ => rfl | 13, _ => rfl | n + 14, h => absurd h (by omega)) (Nat.le_of_ble_eq_true rfl) (Nat.le_of_ble_eq_true rfl) dlz_0 (fun q1 H hP hD hS => ?_)
  obtain ⟨w1, ew, gw1, glw1, gnw1⟩ := li_app ([] : va_W) (q1, .inr (12, [.null, .null, .null, .null, .int 0, .int 0, .int 0, .int 0, .int 0, .int 0, .int 0, .int 0, .int 0, .int 0]))
  rw [← ew] at hP hD
  clear ew
  refine lv_dup hx hb dlz_3 rfl ?_
  have l1 : w1.length = 1 := glw1
  have f1 : w1[0]? = some (q1, .inr (12, [.null, .null, .null, .null, .int 0, .int 0, .int 0, .int 0, .int 0, .int 0, .int 0, .int 0, .int 0, .int 0])) := gw1
  refine li_cI (As := []) (rest := [.ref q1]) (li_X6_init l D TY w1 H.size e0 ca (af, fun _ => False) ⟨hD.1, fun j z hz => Or.inl ⟨j, z.2, hz⟩⟩ 0 q1 cI cX cZ cH cPl cII cCC cL hTT f1) gj_L_201 rfl ⟨(Nat.le_of_ble_eq_true rfl), (Nat.le_of_ble_eq_true rfl)⟩ ⟨(Nat.le_of_ble_eq_true rfl), (Nat.le_of_ble_eq_true rfl)⟩ (Nat.le_of_ble_eq_true rfl) hx hb (hml.trans hl.1.symm) hts hown hK hT hL hP hD hS hA dlz_4 (fun res w2 H locs hrv hqq hP hD hS => ?_)
  obtain rfl := (show res = none from hrv)
  clear hrv
  obtain ⟨k6, l2, hR2⟩ := hqq
  rw [l1] at k6 l2
  refine lv_astore_n (lv' := [(1, .ref q1), (0, .ref b)]) hx hb dlz_7 rfl hl (by decide) rfl (fun ls hl => ?_)
  refine va_new (ci := 13) (fs := [.null, .null, .null, .null, .null, .null, .null, .null, .null, .null, .null, .null, .null, .null, .null, .null, .int 0, .int 0, .int 0, .int 0, .int 0, .int 0, .int 0, .int 0, .int 0, .int 0, .int 0, .int 0, .int 0, .int 0, .int 0]) (C := RX7) (T := TX7) (N := 31) hx hb hts uwj_X7 tyX7 tyX7_ok hown (hts _ cwj1395) (hts _ cwj1396) (hts _ cwj82) hK hP hD hS hA rfl (fun j hj => match j, hj with | 0, _ => rfl | 1, _ => rfl | 2, _ => rfl | 3, _ => rfl | 4, _ => rfl | 5, _ => rfl | 6, _ => rfl | 7, _ => rfl | 8, _ => rfl | 9, _ => rfl | 10, _ => rfl | 11, _ => rfl | 12, _ => rfl | 13, _ => rfl | 14, _ => rfl | 15, _ => rfl | 16, _ => rfl | 17, _ => rfl | 18, _ => rfl | 19, _ => rfl | 20, _ => rfl | 21, _ => rfl | 22, _ => rfl | 23, _ => rfl | 24, _ => rfl | 25, _ => rfl | 26, _ => rfl | 27, _ => rfl | 28, _ => rfl | 29, _ => rfl | 30, _ => rfl | n + 31, h => absurd h (by omega)) (Nat.le_of_ble_eq_true rfl) (Nat.le_of_ble_eq_true rfl) dlz_8 (fun q2 H hP hD hS => ?_)
  obtain ⟨w3, ew, gw3, glw3, gnw3⟩ := li_app w2 (q2, .inr (13, [.null, .null, .null, .null, .null, .null, .null, .null, .null, .null, .null, .null, .null, .null, .null, .null, .int 0, .int 0, .int 0, .int 0, .int 0, .int 0, .int 0, .int 0, .int 0, .int 0, .int 0, .int 0, .int 0, .int 0, .int 0]))
  rw [← ew] at hP hD
  clear ew
  refine lv_dup hx hb dlz_11 rfl ?_
  have l3 : w3.length = 73 := by omega
  have f3 : w3[72]? = some (q2, .inr (13, [.null, .null, .null, .null, .null, .null, .null, .null, .null, .null, .null, .null, .null, .null, .null, .null, .int 0, .int 0, .int 0, .int 0, .int 0, .int 0, .int 0, .int 0, .int 0, .int 0, .int 0, .int 0, .int 0, .int 0, .int 0])) := by have e9 := gw3; rw [show w2.length = 72 by omega] at e9; exact e9
  have k6 := k6.st (li_R.ap (qs := []) glw3 gnw3) (fun z hz => by simp)
  refine li_cI (As := []) (rest := [.ref q2]) (li_X7_init l D TY w3 H.size e0 ca (af, fun _ => False) ⟨hD.1, fun j z hz => Or.inl ⟨j, z.2, hz⟩⟩ 72 q2 cI cX cZ cH cPl cII cCC cL hTT f3) gj_L_204 rfl ⟨(Nat.le_of_ble_eq_true rfl), (Nat.le_of_ble_eq_true rfl)⟩ ⟨(Nat.le_of_ble_eq_true rfl), (Nat.le_of_ble_eq_true rfl)⟩ (Nat.le_of_ble_eq_true rfl) hx hb (hml.trans hl.1.symm) hts hown hK hT hL hP hD hS hA dlz_12 (fun res w4 H locs hrv hqq hP hD hS => ?_)
  obtain rfl := (show res = none from hrv)
  clear hrv
  obtain ⟨k7, l4, hR4⟩ := hqq
  rw [l3] at k7 l4
  have k6 := k6.st hR4 (fun z hz => by simp; omega)
  refine lv_astore_n (lv' := [(2, .ref q2), (1, .ref q1), (0, .ref b)]) hx hb dlz_15 rfl hl (by decide) rfl (fun ls hl => ?_)
  refine lv_iconst (v := 1) hx hb dlz_16 (by decide) ?_
  refine va_newa (atype := .long) (ty := .long) (a0 := (1, .inr (.inl (fun _ => 0)))) hx hb (hts _ cwj2345) rfl hK hP hD hS hA (fun cA => rfl) (by decide) (N' := 1) (by decide) (by decide) (Nat.le_of_ble_eq_true rfl) (Nat.le_of_ble_eq_true rfl) dlz_17 (fun q3 cA H hK9 hP hD hS => ?_)
  have ec := li_cT hK hK9 ht7
  rw [ec] at hP hD
  clear hK9 ec
  obtain ⟨w5, ew, gw5, glw5, gnw5⟩ := li_app w4 (q3, .inl (cO, 1, .inr (.inl (fun _ => 0))))
  rw [← ew] at hP hD
  clear ew
  have k6 := k6.st (li_R.ap (qs := []) glw5 gnw5) (fun z hz => by simp)
  have k7 := k7.st (li_R.ap (qs := []) glw5 gnw5) (fun z hz => by simp)
  have fw5 : w5[138]? = some (q3, .inl (cO, 1, .inr (.inl (fun _ => 0)))) := by have e9 := gw5; rw [show w4.length = 138 by omega] at e9; exact e9
  refine lv_astore_n (lv' := [(3, .ref q3), (2, .ref q2), (1, .ref q1), (0, .ref b)]) hx hb dlz_19 rfl hl (by decide) rfl (fun ls hl => ?_)
  refine lv_iconst (v := 1) hx hb dlz_20 (by decide) ?_
  refine va_newa (atype := .double) (ty := .double) (a0 := (1, .inr (.inr (.inr (.inl (fun _ => 0)))))) hx hb (hts _ cwj2346) rfl hK hP hD hS hA (fun cA => rfl) (by decide) (N' := 1) (by decide) (by decide) (Nat.le_of_ble_eq_true rfl) (Nat.le_of_ble_eq_true rfl) dlz_21 (fun q4 cA H hK9 hP hD hS => ?_)
  have ec := li_cT hK hK9 ht8
  rw [ec] at hP hD
  clear hK9 ec
  obtain ⟨w6, ew, gw6, glw6, gnw6⟩ := li_app w5 (q4, .inl (cD, 1, .inr (.inr (.inr (.inl (fun _ => 0))))))
  rw [← ew] at hP hD
  clear ew
  have k6 := k6.st (li_R.ap (qs := []) glw6 gnw6) (fun z hz => by simp)
  have k7 := k7.st (li_R.ap (qs := []) glw6 gnw6) (fun z hz => by simp)
  have fw6 : w6[139]? = some (q4, .inl (cD, 1, .inr (.inr (.inr (.inl (fun _ => 0)))))) := by have e9 := gw6; rw [show w5.length = 139 by omega] at e9; exact e9
  have f5 := (gnw6 138 (by omega)).trans fw5
  refine lv_astore (lv' := [(4, .ref q4), (3, .ref q3), (2, .ref q2), (1, .ref q1), (0, .ref b)]) hx hb dlz_23 hl (by decide) rfl (fun ls hl => ?_)
  refine lv_iconst (v := 0) hx hb dlz_25 (by decide) ?_
  refine lv_istore (lv' := [(5, .int 0), (4, .ref q4), (3, .ref q3), (2, .ref q2), (1, .ref q1), (0, .ref b)]) hx hb dlz_26 hl (by decide) rfl (fun ls hl => ?_)
  have l6 : w6.length = 140 := by omega
  obtain ⟨fs, I⟩ := lw_first (cO := cO) (cD := cD) (af := af) k6 k7 f5 fw6
  have G : lw_G cL e0 ca af D [(cI, .int), (cX, .char), (cZ, .boolean), (cH, .object "FairwayChancery$Hole"), (cPl, .object "FairwayChancery$Player"), (cII, .array .int), (cCC, .array .char)] cO cD A s := ⟨hKS, hL⟩
  have F : lw_Fm p room_1 s m #[Value.ref b] c D [(cI, .int), (cX, .char), (cZ, .boolean), (cH, .object "FairwayChancery$Hole"), (cPl, .object "FairwayChancery$Player"), (cII, .array .int), (cCC, .array .char)] cO cD A := ⟨hx, hb, hml, hown, hts, rfl, hKS.pre, hT, hA, (Nat.le_of_ble_eq_true rfl), (Nat.le_of_ble_eq_true rfl)⟩
  refine lw_loop (C1 := 603072) (S1 := 7198826) hlT G F hX hbl hbA (by omega) (Nat.le_of_ble_eq_true rfl) (Nat.le_of_ble_eq_true rfl) (fun H locs ls cells slots h1 h2 hS => ?_) 512 0 _ _ 0 0 0 fs (lw_s0 w6, lw_w0 w6) H locs ls (by omega) (by omega) (Nat.le_of_ble_eq_true rfl) (Nat.le_of_ble_eq_true rfl) I ⟨lw_P0 l6 hP, lw_D0 l6 hD, hS⟩ (lv_sub hl [5, 4, 3, 2, 1, 0] rfl)
  refine lv_iconst (v := 1) hx hb dlz_2335 (by decide) ?_
  refine va_forget (fun q hq => hAr _ (hS.2.2 q hq)) ?_
  refine W.widen (k := 603072) (n := 7198826) h1 h2 ?_
  exact kk H ls
