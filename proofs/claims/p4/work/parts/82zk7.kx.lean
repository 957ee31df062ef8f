theorem dk_X3_kindOf_0 : decode cX3_kindOf 0 = .ok (.iload_n 1, 1) := by decide +kernel
theorem dk_X3_kindOf_1 : decode cX3_kindOf 1 = .ok (.ifCond .lt 19, 3) := by decide +kernel
theorem dk_X3_kindOf_4 : decode cX3_kindOf 4 = .ok (.iload_n 1, 1) := by decide +kernel
theorem dk_X3_kindOf_5 : decode cX3_kindOf 5 = .ok (.sipush 600, 3) := by decide +kernel
theorem dk_X3_kindOf_8 : decode cX3_kindOf 8 = .ok (.if_icmp .ge 12, 3) := by decide +kernel
theorem dk_X3_kindOf_11 : decode cX3_kindOf 11 = .ok (.aload_n 0, 1) := by decide +kernel
theorem dk_X3_kindOf_12 : decode cX3_kindOf 12 = .ok (.getfield 9, 3) := by decide +kernel
theorem dk_X3_kindOf_15 : decode cX3_kindOf 15 = .ok (.iload_n 1, 1) := by decide +kernel
theorem dk_X3_kindOf_16 : decode cX3_kindOf 16 = .ok (.caload, 1) := by decide +kernel
theorem dk_X3_kindOf_17 : decode cX3_kindOf 17 = .ok (.goto 5, 3) := by decide +kernel
theorem dk_X3_kindOf_22 : decode cX3_kindOf 22 = .ok (.ireturn, 1) := by decide +kernel
theorem dk_X6_kindAt_0 : decode cX6_kindAt 0 = .ok (.aload_n 0, 1) := by decide +kernel
theorem dk_X6_kindAt_1 : decode cX6_kindAt 1 = .ok (.iload_n 1, 1) := by decide +kernel
theorem dk_X6_kindAt_2 : decode cX6_kindAt 2 = .ok (.invokevirtual 95, 3) := by decide +kernel
theorem dk_X6_kindAt_5 : decode cX6_kindAt 5 = .ok (.iload_n 2, 1) := by decide +kernel
theorem dk_X6_kindAt_6 : decode cX6_kindAt 6 = .ok (.iload_n 3, 1) := by decide +kernel
theorem dk_X6_kindAt_7 : decode cX6_kindAt 7 = .ok (.invokestatic 114, 3) := by decide +kernel
theorem dk_X6_kindAt_10 : decode cX6_kindAt 10 = .ok (.aload_n 0, 1) := by decide +kernel
theorem dk_X6_kindAt_11 : decode cX6_kindAt 11 = .ok (.getfield 11, 3) := by decide +kernel
theorem dk_X6_kindAt_14 : decode cX6_kindAt 14 = .ok (.iload_n 1, 1) := by decide +kernel
theorem dk_X6_kindAt_15 : decode cX6_kindAt 15 = .ok (.aaload, 1) := by decide +kernel
theorem dk_X6_kindAt_16 : decode cX6_kindAt 16 = .ok (.iload_n 2, 1) := by decide +kernel
theorem dk_X6_kindAt_17 : decode cX6_kindAt 17 = .ok (.iload_n 3, 1) := by decide +kernel
theorem dk_X6_kindAt_18 : decode cX6_kindAt 18 = .ok (.invokestatic 85, 3) := by decide +kernel
theorem dk_X6_kindAt_21 : decode cX6_kindAt 21 = .ok (.invokevirtual 118, 3) := by decide +kernel
theorem dk_X6_kindAt_24 : decode cX6_kindAt 24 = .ok (.ireturn, 1) := by decide +kernel
theorem dk_X7_kindAt_0 : decode cX7_kindAt 0 = .ok (.aload_n 0, 1) := by decide +kernel
theorem dk_X7_kindAt_1 : decode cX7_kindAt 1 = .ok (.aload_n 0, 1) := by decide +kernel
theorem dk_X7_kindAt_2 : decode cX7_kindAt 2 = .ok (.iload_n 1, 1) := by decide +kernel
theorem dk_X7_kindAt_3 : decode cX7_kindAt 3 = .ok (.invokevirtual 128, 3) := by decide +kernel
theorem dk_X7_kindAt_6 : decode cX7_kindAt 6 = .ok (.ifCond .ne 11, 3) := by decide +kernel
theorem dk_X7_kindAt_9 : decode cX7_kindAt 9 = .ok (.iload_n 2, 1) := by decide +kernel
theorem dk_X7_kindAt_10 : decode cX7_kindAt 10 = .ok (.iload_n 3, 1) := by decide +kernel
theorem dk_X7_kindAt_11 : decode cX7_kindAt 11 = .ok (.invokestatic 106, 3) := by decide +kernel
theorem dk_X7_kindAt_14 : decode cX7_kindAt 14 = .ok (.ifCond .ne 7, 3) := by decide +kernel
theorem dk_X7_kindAt_17 : decode cX7_kindAt 17 = .ok (.iconst 1, 1) := by decide +kernel
theorem dk_X7_kindAt_18 : decode cX7_kindAt 18 = .ok (.goto 4, 3) := by decide +kernel
theorem dk_X7_kindAt_21 : decode cX7_kindAt 21 = .ok (.iconst 0, 1) := by decide +kernel
theorem dk_X7_kindAt_22 : decode cX7_kindAt 22 = .ok (.iconst 1, 1) := by decide +kernel
theorem dk_X7_kindAt_23 : decode cX7_kindAt 23 = .ok (.invokevirtual 110, 3) := by decide +kernel
theorem dk_X7_kindAt_26 : decode cX7_kindAt 26 = .ok (.ifCond .eq 8, 3) := by decide +kernel
theorem dk_X7_kindAt_29 : decode cX7_kindAt 29 = .ok (.bipush 32, 2) := by decide +kernel
theorem dk_X7_kindAt_31 : decode cX7_kindAt 31 = .ok (.goto 16, 3) := by decide +kernel
theorem dk_X7_kindAt_34 : decode cX7_kindAt 34 = .ok (.aload_n 0, 1) := by decide +kernel
theorem dk_X7_kindAt_35 : decode cX7_kindAt 35 = .ok (.getfield 16, 3) := by decide +kernel
theorem dk_X7_kindAt_38 : decode cX7_kindAt 38 = .ok (.iload_n 1, 1) := by decide +kernel
theorem dk_X7_kindAt_39 : decode cX7_kindAt 39 = .ok (.aaload, 1) := by decide +kernel
theorem dk_X7_kindAt_40 : decode cX7_kindAt 40 = .ok (.iload_n 3, 1) := by decide +kernel
theorem dk_X7_kindAt_41 : decode cX7_kindAt 41 = .ok (.bipush 30, 2) := by decide +kernel
theorem dk_X7_kindAt_43 : decode cX7_kindAt 43 = .ok (.imul, 1) := by decide +kernel
theorem dk_X7_kindAt_44 : decode cX7_kindAt 44 = .ok (.iload_n 2, 1) := by decide +kernel
theorem dk_X7_kindAt_45 : decode cX7_kindAt 45 = .ok (.iadd, 1) := by decide +kernel
theorem dk_X7_kindAt_46 : decode cX7_kindAt 46 = .ok (.caload, 1) := by decide +kernel
theorem dk_X7_kindAt_47 : decode cX7_kindAt 47 = .ok (.ireturn, 1) := by decide +kernel
set_option maxHeartbeats 4000000 in
theorem kx_X3_kindOf {l : Launch} (hl9 : l.stackTraces = false) (D : va_G) {tys : List (ClassId × FieldType)} {sh : en_H} {w : va_W} {sz : Nat} (hD0 : va_D (va_A w sz) w) {fx : List Value} {hc pc : Nat} {bg : Int32} {ix ar : Nat → Int32} {ck : Nat → Nat → Int32} {h k : Nat} (hX : kx_X tys sh w fx hc pc bg ix ar ck) (hh : h < 9) (hk : k < 600) (hb0 : 0 ≤ (ck h k).toInt ∧ (ck h k).toInt ≤ 65535) : kx_C l yX3_kindOf cX3_kindOf 2 (some .char) 0 0 0 0 [.ref (sh.2 (68 + 2 * h)), .int (nI k)] D tys w sz (fun res w1 => w1 = w ∧ res = some (.int (ck h k))) (fun _ => False) := by
  refine vx_ofW (cc := cX3_kindOf) (maxL := 2) (ret := (some .char)) (by decide +kernel) rfl ?_
  intro p e s m args below meth c s₁ B9 hml hne hv
  obtain ⟨rfl, hsz, hP, hK, hT⟩ := hv
  subst hsz
  have hx := B9.exec
  have hb := B9.bytes
  have hr := B9.returns
  have hlocks := B9.notSynchronized
  have hts0 := atoms_spec (ws := Cond.code yX3_kindOf cX3_kindOf 2 (some .char) :: en_cw) B9.pre
  have hts : ∀ z ∈ en_cw, z.before _ s = true := fun z hz => hts0 z (List.mem_cons_of_mem _ hz)
  have hown : s.vm.findClass RX3 = some m.cls := findClass_of_methodNamed B9.named
  have G : kx_G p s m ([.ref (sh.2 (68 + 2 * h)), .int (nI k)] : List Value).toArray c cX3_kindOf RX3 D tys (va_A w s.heap.size) := ⟨hx, hb, hts, hown, hK, hT, fun q h => Or.inr h⟩
  have L : kx_H D (va_A w s.heap.size) s w s.heap [] := ⟨hP, ⟨hD0.1, fun j z hz => Or.inl ⟨j, z.2, hz⟩⟩, va_S.rf⟩
  have hl := lv_entry ([.ref (sh.2 (68 + 2 * h)), .int (nI k)] : List Value) (n := 2) (Nat.le_of_ble_eq_true rfl)
  rw [lg_entry_eq]
  generalize (lg_sl ([.ref (sh.2 (68 + 2 * h)), .int (nI k)] : List Value) ++ List.replicate (2 - (lg_sl ([.ref (sh.2 (68 + 2 * h)), .int (nI k)] : List Value)).length) Slot.unset).toArray = ls at hl ⊢
  have hl : lv_has ls 2 [(0, .ref (sh.2 (68 + 2 * h))), (1, .int (nI k))] := hl
  obtain ⟨p9, c9, t9, hob⟩ := hX.2.2.1 h hh
  obtain ⟨cX, g0, ht1, hw0, hg0⟩ := hX.2.2.2 h hh
  refine lv_iload_n hx hb dk_X3_kindOf_0 rfl (lv_at hl 1 rfl) ?_
  have k2 : (nI k).toInt = (((k) : Nat) : Int) := kx_nI (by omega)
  have k3 : (0 : Int32).toInt = 0 := by decide
  refine lv_if_lt (tgt := 20) hx hb dk_X3_kindOf_1 (by decide) (fun c1 => ?_) (fun c1 => ?_)
  · skip
    have tc1 : ((nI k) : Int32).toInt < (0 : Int32).toInt := Int32.lt_iff_toInt_lt.mp c1
    exfalso
    omega
  · skip
    have tc1 : ¬ ((nI k) : Int32).toInt < (0 : Int32).toInt := fun h => c1 (Int32.lt_iff_toInt_lt.mpr h)
    refine lv_iload_n hx hb dk_X3_kindOf_4 rfl (lv_at hl 1 rfl) ?_
    refine lv_sipush (v := 600) hx hb dk_X3_kindOf_5 (by decide) ?_
    have k5 : (nI k).toInt = (((k) : Nat) : Int) := kx_nI (by omega)
    have k6 : (600 : Int32).toInt = 600 := by decide
    refine lv_icmp_ge (tgt := 20) hx hb dk_X3_kindOf_8 (by decide) (fun c4 => ?_) (fun c4 => ?_)
    · skip
      have tc4 : (600 : Int32).toInt ≤ ((nI k) : Int32).toInt := Int32.le_iff_toInt_le.mp c4
      exfalso
      omega
    · skip
      have tc4 : ¬ (600 : Int32).toInt ≤ ((nI k) : Int32).toInt := fun h => c4 (Int32.le_iff_toInt_le.mpr h)
      refine lv_aload_n hx hb dk_X3_kindOf_11 rfl (lv_at hl 0 rfl) ?_
      refine kx_get (v := .ref (sh.2 (69 + 2 * h))) G L (en_FTX3_ok (9, 9, 0) (by decide)) hob rfl dk_X3_kindOf_12 ?_
      refine lv_iload_n hx hb dk_X3_kindOf_15 rfl (lv_at hl 1 rfl) ?_
      refine kx_cald G L hw0 ht1 hk (by decide) dk_X3_kindOf_16 ?_
      refine lv_topi (fun y7 ey7 => ?_)
      obtain rfl : y7 = (ck h k) := ey7.trans (hg0 k hk)
      refine lv_goto (tgt := 22) hx hb dk_X3_kindOf_17 (by decide) ?_
      exact vx_ret (W.widen (Nat.le_of_ble_eq_true rfl) (Nat.le_of_ble_eq_true rfl) (W.zret (v := (ck h k)) (ty := .char) hx hb hr ((en_fit (ty := 1) hb0.1 hb0.2).1) (fun T9 hT9 _ => ⟨⟨(ck h k), w, rfl, ⟨rfl, rfl⟩, by rw [hT9]; exact L.1, L.2.1⟩, L.2.2.F hT9⟩) L.2.2.2.2 dk_X3_kindOf_22 hlocks))
set_option maxHeartbeats 4000000 in
theorem kx_X6_kindAt {l : Launch} (hl9 : l.stackTraces = false) (D : va_G) {tys : List (ClassId × FieldType)} {sh : en_H} {w : va_W} {sz : Nat} (hD0 : va_D (va_A w sz) w) {fx : List Value} {hc pc : Nat} {bg : Int32} {ix ar : Nat → Int32} {ck : Nat → Nat → Int32} {a1 a2 a3 : Int32} (hX : kx_X tys sh w fx hc pc bg ix ar ck) (hcb : ∀ j, j < 9 → ∀ i, i < 600 → 0 ≤ (ck j i).toInt ∧ (ck j i).toInt ≤ 65535) : kx_C l yX6_kindAt cX6_kindAt 4 (some .char) 2 2 12 0 [.ref (sh.2 66), .int a1, .int a2, .int a3] D tys w sz (fun res w1 => w1 = w ∧ (0 ≤ a1.toInt ∧ a1.toInt < (hc : Int)) ∧ en_ce a2 a3 ∧ res = some (.int (ck a1.toInt.toNat (a3.toInt.toNat * 30 + a2.toInt.toNat)))) (fun E => E = en_xn 3 ∧ ¬ ((0 ≤ a1.toInt ∧ a1.toInt < (hc : Int)) ∧ en_ce a2 a3)) := by
  refine vx_ofW (cc := cX6_kindAt) (maxL := 4) (ret := (some .char)) (by decide +kernel) rfl ?_
  intro p e s m args below meth c s₁ B9 hml hne hv
  obtain ⟨rfl, hsz, hP, hK, hT⟩ := hv
  subst hsz
  have hx := B9.exec
  have hb := B9.bytes
  have hr := B9.returns
  have hlocks := B9.notSynchronized
  have hts0 := atoms_spec (ws := Cond.code yX6_kindAt cX6_kindAt 4 (some .char) :: en_cw) B9.pre
  have hts : ∀ z ∈ en_cw, z.before _ s = true := fun z hz => hts0 z (List.mem_cons_of_mem _ hz)
  have hown : s.vm.findClass RX6 = some m.cls := findClass_of_methodNamed B9.named
  have G : kx_G p s m ([.ref (sh.2 66), .int a1, .int a2, .int a3] : List Value).toArray c cX6_kindAt RX6 D tys (va_A w s.heap.size) := ⟨hx, hb, hts, hown, hK, hT, fun q h => Or.inr h⟩
  have L : kx_H D (va_A w s.heap.size) s w s.heap [] := ⟨hP, ⟨hD0.1, fun j z hz => Or.inl ⟨j, z.2, hz⟩⟩, va_S.rf⟩
  have hl := lv_entry ([.ref (sh.2 66), .int a1, .int a2, .int a3] : List Value) (n := 4) (Nat.le_of_ble_eq_true rfl)
  rw [lg_entry_eq]
  generalize (lg_sl ([.ref (sh.2 66), .int a1, .int a2, .int a3] : List Value) ++ List.replicate (4 - (lg_sl ([.ref (sh.2 66), .int a1, .int a2, .int a3] : List Value)).length) Slot.unset).toArray = ls at hl ⊢
  have hl : lv_has ls 4 [(0, .ref (sh.2 66)), (1, .int a1), (2, .int a2), (3, .int a3)] := hl
  have fX := hX.1
  have hc9 : hc ≤ 9 := fX.2.2.2.2.2.2.1
  obtain ⟨cH, fH, ht3, hw67, hf67⟩ := hX.2.1
  refine lv_aload_n hx hb dk_X6_kindAt_0 rfl (lv_at hl 0 rfl) ?_
  refine lv_iload_n hx hb dk_X6_kindAt_1 rfl (lv_at hl 1 rfl) ?_
  refine kx_cV (As := [.int a1]) (rest := []) (q := 66) (ci := 12) G L (kx_X6_needHole hl9 D (kx_D1 L) hX) gc_RX6_95v fX.1 rfl rfl rfl (hml.trans hl.1.symm) ⟨Nat.le_of_ble_eq_true rfl, Nat.le_of_ble_eq_true rfl⟩ ⟨Nat.le_of_ble_eq_true rfl, Nat.le_of_ble_eq_true rfl⟩ (Nat.le_of_ble_eq_true rfl) dk_X6_kindAt_2 (fun E ce q9 H1 locs1 h9 L9 hcell hv hcl => kx_out hne hlocks L9 hcell hv hcl (⟨h9.1, fun h => h9.2 h.1⟩) (Nat.le_of_ble_eq_true rfl) (Nat.le_of_ble_eq_true rfl)) (fun res w1 H locs hrv hq1 L => ?_)
  obtain ⟨ew1, hq1⟩ := hq1
  have ew1 := ew1.symm
  subst ew1
  have hin : (0 ≤ a1.toInt ∧ a1.toInt < (hc : Int)) := hq1
  obtain rfl := (show res = none from hrv)
  refine lv_iload_n hx hb dk_X6_kindAt_5 rfl (lv_at hl 2 rfl) ?_
  refine lv_iload_n hx hb dk_X6_kindAt_6 rfl (lv_at hl 3 rfl) ?_
  refine kx_cS (As := [.int a2, .int a3]) (rest := []) G L (kx_X6_needCell hl9 D (kx_D1 L)) gc_RX6_114s rfl (hml.trans hl.1.symm) ⟨Nat.le_of_ble_eq_true rfl, Nat.le_of_ble_eq_true rfl⟩ ⟨Nat.le_of_ble_eq_true rfl, Nat.le_of_ble_eq_true rfl⟩ (Nat.le_of_ble_eq_true rfl) dk_X6_kindAt_7 (fun E ce q9 H1 locs1 h9 L9 hcell hv hcl => kx_out hne hlocks L9 hcell hv hcl (⟨h9.1, fun h => h9.2 h.2⟩) (Nat.le_of_ble_eq_true rfl) (Nat.le_of_ble_eq_true rfl)) (fun res w2 H locs hrv hq2 L => ?_)
  obtain ⟨ew2, hq2⟩ := hq2
  have ew2 := ew2.symm
  subst ew2
  have hce : en_ce a2 a3 := hq2
  obtain rfl := (show res = none from hrv)
  obtain ⟨u1, u2, u3, u4⟩ := id hce
  obtain ⟨x9, ex9⟩ : ∃ q : Nat, q = a2.toInt.toNat := ⟨_, rfl⟩
  obtain ⟨y9, ey9⟩ : ∃ q : Nat, q = a3.toInt.toNat := ⟨_, rfl⟩
  have ea2 : a2 = nI x9 := by rw [ex9]; exact kx_cN u1
  have ea3 : a3 = nI y9 := by rw [ey9]; exact kx_cN u3
  obtain ⟨h, eh⟩ : ∃ h : Nat, h = a1.toInt.toNat := ⟨_, rfl⟩
  have hh : h < 9 := by have := hin.1; have := hin.2; omega
  have ea : a1 = nI h := by rw [eh]; exact kx_cN hin.1
  refine lv_aload_n hx hb dk_X6_kindAt_10 rfl (lv_at hl 0 rfl) ?_
  refine kx_get (v := .ref (sh.2 67)) G L (en_FTX6_ok (11, 12, 0) (by decide)) fX.1 fX.2.2.1 dk_X6_kindAt_11 ?_
  refine lv_iload_n hx hb dk_X6_kindAt_14 rfl (lv_at hl 1 rfl) ?_
  refine lv_topi (fun y3 ey3 => ?_)
  obtain rfl : y3 = (nI h) := ey3.trans (ea)
  refine kx_aald G L hw67 ht3 hh (by decide) (hf67 h hh) dk_X6_kindAt_15 ?_
  refine lv_iload_n hx hb dk_X6_kindAt_16 rfl (lv_at hl 2 rfl) ?_
  refine lv_iload_n hx hb dk_X6_kindAt_17 rfl (lv_at hl 3 rfl) ?_
  refine kx_cS (As := [.int a2, .int a3]) (rest := [.ref (sh.2 (68 + 2 * h))]) G L (kx_X6_cellAt hl9 D (kx_D1 L)) gc_RX6_85s rfl (hml.trans hl.1.symm) ⟨Nat.le_of_ble_eq_true rfl, Nat.le_of_ble_eq_true rfl⟩ ⟨Nat.le_of_ble_eq_true rfl, Nat.le_of_ble_eq_true rfl⟩ (Nat.le_of_ble_eq_true rfl) dk_X6_kindAt_18 (fun _ _ _ _ _ h9 => h9.elim) (fun res w4 H locs hrv hq4 L => ?_)
  obtain ⟨ew4, hq4⟩ := hq4
  have ew4 := ew4.symm
  subst ew4
  obtain rfl := hq4
  refine lv_topi (fun y5 ey5 => ?_)
  obtain rfl : y5 = (nI (y9 * 30 + x9)) := ey5.trans (by rw [ea2, ea3]; exact kx_at (by omega) (by omega))
  obtain ⟨p9, c9, t9, hob⟩ := hX.2.2.1 h hh
  have hb0 := hcb h hh (y9 * 30 + x9) (by omega)
  refine kx_cV (As := [.int (nI (y9 * 30 + x9))]) (rest := []) (q := (68 + 2 * h)) (ci := 9) G L (kx_X3_kindOf hl9 D (kx_D1 L) hX hh (by omega) hb0) gc_RX6_118v hob rfl rfl rfl (hml.trans hl.1.symm) ⟨Nat.le_of_ble_eq_true rfl, Nat.le_of_ble_eq_true rfl⟩ ⟨Nat.le_of_ble_eq_true rfl, Nat.le_of_ble_eq_true rfl⟩ (Nat.le_of_ble_eq_true rfl) dk_X6_kindAt_21 (fun _ _ _ _ _ h9 => h9.elim) (fun res w6 H locs hrv hq6 L => ?_)
  obtain ⟨ew6, hq6⟩ := hq6
  have ew6 := ew6.symm
  subst ew6
  obtain rfl := hq6
  exact vx_ret (W.widen (Nat.le_of_ble_eq_true rfl) (Nat.le_of_ble_eq_true rfl) (W.zret (v := (ck h (y9 * 30 + x9))) (ty := .char) hx hb hr ((en_fit (ty := 1) hb0.1 hb0.2).1) (fun T9 hT9 _ => ⟨⟨(ck h (y9 * 30 + x9)), w, rfl, ⟨rfl, hin, hce, by rw [← eh, ← ex9, ← ey9]⟩, by rw [hT9]; exact L.1, L.2.1⟩, L.2.2.F hT9⟩) L.2.2.2.2 dk_X6_kindAt_24 hlocks))
set_option maxHeartbeats 4000000 in
theorem kx_X7_kindAt {l : Launch} (hl9 : l.stackTraces = false) (D : va_G) {tys : List (ClassId × FieldType)} {sh : en_H} {w : va_W} {sz : Nat} (hD0 : va_D (va_A w sz) w) {fs : List Value} {hc pc : Nat} {bg : Int32} {rr mk : Nat → Nat → Int32} {a1 a2 a3 : Int32} (hM : kx_M tys sh w fs hc pc bg rr mk) (hmb : ∀ j, j < 9 → ∀ i, i < 600 → 0 ≤ (mk j i).toInt ∧ (mk j i).toInt ≤ 65535) : kx_C l yX7_kindAt cX7_kindAt 4 (some .char) 2 0 0 0 [.ref (sh.2 0), .int a1, .int a2, .int a3] D tys w sz (fun res w1 => (res = some (.int 32) ∧ ¬ ((0 ≤ a1.toInt ∧ a1.toInt < (hc : Int)) ∧ en_ce a2 a3) ∧ ∃ fs1 : List Value, kx_T sh w w1 fs fs1 1) ∨ ((0 ≤ a1.toInt ∧ a1.toInt < (hc : Int)) ∧ en_ce a2 a3 ∧ res = some (.int (mk a1.toInt.toNat (a3.toInt.toNat * 30 + a2.toInt.toNat))) ∧ ∃ fs1 : List Value, kx_T sh w w1 fs fs1 0)) (fun _ => False) := by
  refine vx_ofW (cc := cX7_kindAt) (maxL := 4) (ret := (some .char)) (by decide +kernel) rfl ?_
  intro p e s m args below meth c s₁ B9 hml hne hv
  obtain ⟨rfl, hsz, hP, hK, hT⟩ := hv
  subst hsz
  have hx := B9.exec
  have hb := B9.bytes
  have hr := B9.returns
  have hlocks := B9.notSynchronized
  have hts0 := atoms_spec (ws := Cond.code yX7_kindAt cX7_kindAt 4 (some .char) :: en_cw) B9.pre
  have hts : ∀ z ∈ en_cw, z.before _ s = true := fun z hz => hts0 z (List.mem_cons_of_mem _ hz)
  have hown : s.vm.findClass RX7 = some m.cls := findClass_of_methodNamed B9.named
  have G : kx_G p s m ([.ref (sh.2 0), .int a1, .int a2, .int a3] : List Value).toArray c cX7_kindAt RX7 D tys (va_A w s.heap.size) := ⟨hx, hb, hts, hown, hK, hT, fun q h => Or.inr h⟩
  have L : kx_H D (va_A w s.heap.size) s w s.heap [] := ⟨hP, ⟨hD0.1, fun j z hz => Or.inl ⟨j, z.2, hz⟩⟩, va_S.rf⟩
  have hl := lv_entry ([.ref (sh.2 0), .int a1, .int a2, .int a3] : List Value) (n := 4) (Nat.le_of_ble_eq_true rfl)
  rw [lg_entry_eq]
  generalize (lg_sl ([.ref (sh.2 0), .int a1, .int a2, .int a3] : List Value) ++ List.replicate (4 - (lg_sl ([.ref (sh.2 0), .int a1, .int a2, .int a3] : List Value)).length) Slot.unset).toArray = ls at hl ⊢
  have hl : lv_has ls 4 [(0, .ref (sh.2 0)), (1, .int a1), (2, .int a2), (3, .int a3)] := hl
  have fM := hM.1
  have hc9 : hc ≤ 9 := fM.2.2.2.2.2.2.2.1
  refine lv_aload_n hx hb dk_X7_kindAt_0 rfl (lv_at hl 0 rfl) ?_
  refine lv_aload_n hx hb dk_X7_kindAt_1 rfl (lv_at hl 0 rfl) ?_
  refine lv_iload_n hx hb dk_X7_kindAt_2 rfl (lv_at hl 1 rfl) ?_
  refine kx_cV (As := [.int a1]) (rest := [.ref (sh.2 0)]) (q := 0) (ci := 13) G L (kx_X7_isNoHole hl9 D (kx_D1 L) hM) gc_RX7_128v fM.1 rfl rfl rfl (hml.trans hl.1.symm) ⟨Nat.le_of_ble_eq_true rfl, Nat.le_of_ble_eq_true rfl⟩ ⟨Nat.le_of_ble_eq_true rfl, Nat.le_of_ble_eq_true rfl⟩ (Nat.le_of_ble_eq_true rfl) dk_X7_kindAt_3 (fun _ _ _ _ _ h9 => h9.elim) (fun res w1 H locs hrv hq1 L => ?_)
  obtain ⟨ew1, hq1⟩ := hq1
  have ew1 := ew1.symm
  subst ew1
  rcases hq1 with ⟨rfl, hin⟩ | ⟨rfl, hin⟩
  · skip
    refine lv_if_ne (tgt := 17) hx hb dk_X7_kindAt_6 (by decide) (fun _ => ?_) (fun c9 => absurd c9 (by decide))
    refine lv_iconst (v := 1) hx hb dk_X7_kindAt_17 (by decide) ?_
    refine lv_goto (tgt := 22) hx hb dk_X7_kindAt_18 (by decide) ?_
    refine lv_iconst (v := 1) hx hb dk_X7_kindAt_22 (by decide) ?_
    refine kx_cV (As := [.int 1, .int 1]) (rest := []) (q := 0) (ci := 13) G L (kx_X7_isThrown hl9 D (kx_D1 L) fM.1 (by rw [fM.2.1]; decide) (Or.inr rfl)) gc_RX7_110v fM.1 rfl rfl rfl (hml.trans hl.1.symm) ⟨Nat.le_of_ble_eq_true rfl, Nat.le_of_ble_eq_true rfl⟩ ⟨Nat.le_of_ble_eq_true rfl, Nat.le_of_ble_eq_true rfl⟩ (Nat.le_of_ble_eq_true rfl) dk_X7_kindAt_23 (fun _ _ _ _ _ h9 => h9.elim) (fun res w2 H locs hrv hq2 L => ?_)
    obtain ⟨rfl, fs2, t2, hT2, h02, h12⟩ := hq2
    have et2 : t2 = 1 := h12 rfl
    rw [et2] at hT2
    have hTa := hT2
    have hMa := hM.t hTa
    have fa := hMa.1
    refine lv_if_eq (tgt := 34) hx hb dk_X7_kindAt_26 (by decide) (fun c9 => absurd c9 (by decide)) (fun _ => ?_)
    refine lv_bipush (v := 32) hx hb dk_X7_kindAt_29 (by decide) ?_
    refine lv_goto (tgt := 47) hx hb dk_X7_kindAt_31 (by decide) ?_
    exact vx_ret (W.widen (Nat.le_of_ble_eq_true rfl) (Nat.le_of_ble_eq_true rfl) (W.zret (v := 32) (ty := .char) hx hb hr (by decide) (fun T9 hT9 _ => ⟨⟨32, w2, rfl, Or.inl ⟨rfl, fun h => hin h.1, _, hTa⟩, by rw [hT9]; exact L.1, L.2.1⟩, L.2.2.F hT9⟩) L.2.2.2.2 dk_X7_kindAt_47 hlocks))
  · skip
    refine lv_if_ne (tgt := 17) hx hb dk_X7_kindAt_6 (by decide) (fun c9 => absurd (by decide) c9) (fun _ => ?_)
    refine lv_iload_n hx hb dk_X7_kindAt_9 rfl (lv_at hl 2 rfl) ?_
    refine lv_iload_n hx hb dk_X7_kindAt_10 rfl (lv_at hl 3 rfl) ?_
    refine kx_cS (As := [.int a2, .int a3]) (rest := [.ref (sh.2 0)]) G L (kx_X7_isCell hl9 D (kx_D1 L)) gc_RX7_106s rfl (hml.trans hl.1.symm) ⟨Nat.le_of_ble_eq_true rfl, Nat.le_of_ble_eq_true rfl⟩ ⟨Nat.le_of_ble_eq_true rfl, Nat.le_of_ble_eq_true rfl⟩ (Nat.le_of_ble_eq_true rfl) dk_X7_kindAt_11 (fun _ _ _ _ _ h9 => h9.elim) (fun res w3 H locs hrv hq3 L => ?_)
    obtain ⟨ew3, hq3⟩ := hq3
    have ew3 := ew3.symm
    subst ew3
    rcases hq3 with ⟨rfl, hce⟩ | ⟨rfl, hce⟩
    · skip
      refine lv_if_ne (tgt := 21) hx hb dk_X7_kindAt_14 (by decide) (fun _ => ?_) (fun c9 => absurd c9 (by decide))
      refine lv_iconst (v := 0) hx hb dk_X7_kindAt_21 (by decide) ?_
      refine lv_iconst (v := 1) hx hb dk_X7_kindAt_22 (by decide) ?_
      refine kx_cV (As := [.int 0, .int 1]) (rest := []) (q := 0) (ci := 13) G L (kx_X7_isThrown hl9 D (kx_D1 L) fM.1 (by rw [fM.2.1]; decide) (Or.inl rfl)) gc_RX7_110v fM.1 rfl rfl rfl (hml.trans hl.1.symm) ⟨Nat.le_of_ble_eq_true rfl, Nat.le_of_ble_eq_true rfl⟩ ⟨Nat.le_of_ble_eq_true rfl, Nat.le_of_ble_eq_true rfl⟩ (Nat.le_of_ble_eq_true rfl) dk_X7_kindAt_23 (fun _ _ _ _ _ h9 => h9.elim) (fun res w4 H locs hrv hq4 L => ?_)
      obtain ⟨rfl, fs4, t4, hT4, h04, h14⟩ := hq4
      have et4 : t4 = 0 := h04 rfl
      rw [et4] at hT4
      have hTb := hT4
      have hMb := hM.t hTb
      have fb := hMb.1
      refine lv_if_eq (tgt := 34) hx hb dk_X7_kindAt_26 (by decide) (fun _ => ?_) (fun c9 => absurd (by decide) c9)
      obtain ⟨u1, u2, u3, u4⟩ := id hce
      obtain ⟨x9, ex9⟩ : ∃ q : Nat, q = a2.toInt.toNat := ⟨_, rfl⟩
      obtain ⟨y9, ey9⟩ : ∃ q : Nat, q = a3.toInt.toNat := ⟨_, rfl⟩
      have ea2 : a2 = nI x9 := by rw [ex9]; exact kx_cN u1
      have ea3 : a3 = nI y9 := by rw [ey9]; exact kx_cN u3
      obtain ⟨h, eh⟩ : ∃ h : Nat, h = a1.toInt.toNat := ⟨_, rfl⟩
      have hh : h < 9 := by have := hin.1; have := hin.2; omega
      have ea : a1 = nI h := by rw [eh]; exact kx_cN hin.1
      obtain ⟨cR2, fK, ht6, hw27, hf27⟩ := hMb.2.2.1
      obtain ⟨cX8, gk, htX8, hwk, hk9⟩ := hMb.2.2.2.2 h hh
      have hb0 := hmb h hh (y9 * 30 + x9) (by omega)
      refine lv_aload_n hx hb dk_X7_kindAt_34 rfl (lv_at hl 0 rfl) ?_
      refine kx_get (v := .ref (sh.2 27)) G L (en_FTX7_ok (16, 13, 1) (by decide)) fb.1 fb.2.2.2.1 dk_X7_kindAt_35 ?_
      refine lv_iload_n hx hb dk_X7_kindAt_38 rfl (lv_at hl 1 rfl) ?_
      refine lv_topi (fun y5 ey5 => ?_)
      obtain rfl : y5 = (nI h) := ey5.trans (ea)
      refine kx_aaldA G L hw27 ht6 hh (by decide) (hf27 h hh) dk_X7_kindAt_39 ?_
      refine lv_iload_n hx hb dk_X7_kindAt_40 rfl (lv_at hl 3 rfl) ?_
      refine lv_bipush (v := 30) hx hb dk_X7_kindAt_41 (by decide) ?_
      refine lv_imul hx hb dk_X7_kindAt_43 ?_
      refine lv_iload_n hx hb dk_X7_kindAt_44 rfl (lv_at hl 2 rfl) ?_
      refine lv_iadd hx hb dk_X7_kindAt_45 ?_
      refine lv_topi (fun y6 ey6 => ?_)
      obtain rfl : y6 = (nI (y9 * 30 + x9)) := ey6.trans (by rw [ea2, ea3]; exact kx_at (by omega) (by omega))
      refine kx_cald G L hwk htX8 (show y9 * 30 + x9 < 600 by omega) (by decide) dk_X7_kindAt_46 ?_
      refine lv_topi (fun y7 ey7 => ?_)
      obtain rfl : y7 = (mk h (y9 * 30 + x9)) := ey7.trans (hk9 _ (by omega))
      exact vx_ret (W.widen (Nat.le_of_ble_eq_true rfl) (Nat.le_of_ble_eq_true rfl) (W.zret (v := (mk h (y9 * 30 + x9))) (ty := .char) hx hb hr ((en_fit (ty := 1) hb0.1 hb0.2).1) (fun T9 hT9 _ => ⟨⟨(mk h (y9 * 30 + x9)), w4, rfl, Or.inr ⟨hin, hce, by rw [← eh, ← ex9, ← ey9], _, hTb⟩, by rw [hT9]; exact L.1, L.2.1⟩, L.2.2.F hT9⟩) L.2.2.2.2 dk_X7_kindAt_47 hlocks))
    · skip
      refine lv_if_ne (tgt := 21) hx hb dk_X7_kindAt_14 (by decide) (fun c9 => absurd (by decide) c9) (fun _ => ?_)
      refine lv_iconst (v := 1) hx hb dk_X7_kindAt_17 (by decide) ?_
      refine lv_goto (tgt := 22) hx hb dk_X7_kindAt_18 (by decide) ?_
      refine lv_iconst (v := 1) hx hb dk_X7_kindAt_22 (by decide) ?_
      refine kx_cV (As := [.int 1, .int 1]) (rest := []) (q := 0) (ci := 13) G L (kx_X7_isThrown hl9 D (kx_D1 L) fM.1 (by rw [fM.2.1]; decide) (Or.inr rfl)) gc_RX7_110v fM.1 rfl rfl rfl (hml.trans hl.1.symm) ⟨Nat.le_of_ble_eq_true rfl, Nat.le_of_ble_eq_true rfl⟩ ⟨Nat.le_of_ble_eq_true rfl, Nat.le_of_ble_eq_true rfl⟩ (Nat.le_of_ble_eq_true rfl) dk_X7_kindAt_23 (fun _ _ _ _ _ h9 => h9.elim) (fun res w8 H locs hrv hq8 L => ?_)
      obtain ⟨rfl, fs8, t8, hT8, h08, h18⟩ := hq8
      have et8 : t8 = 1 := h18 rfl
      rw [et8] at hT8
      have hTa := hT8
      have hMa := hM.t hTa
      have fa := hMa.1
      refine lv_if_eq (tgt := 34) hx hb dk_X7_kindAt_26 (by decide) (fun c9 => absurd c9 (by decide)) (fun _ => ?_)
      refine lv_bipush (v := 32) hx hb dk_X7_kindAt_29 (by decide) ?_
      refine lv_goto (tgt := 47) hx hb dk_X7_kindAt_31 (by decide) ?_
      exact vx_ret (W.widen (Nat.le_of_ble_eq_true rfl) (Nat.le_of_ble_eq_true rfl) (W.zret (v := 32) (ty := .char) hx hb hr (by decide) (fun T9 hT9 _ => ⟨⟨32, w8, rfl, Or.inl ⟨rfl, fun h => hce h.2, _, hTa⟩, by rw [hT9]; exact L.1, L.2.1⟩, L.2.2.F hT9⟩) L.2.2.2.2 dk_X7_kindAt_47 hlocks))
