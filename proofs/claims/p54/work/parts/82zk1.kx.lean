theorem dk_X3_paint_0 : decode cX3_paint 0 = .ok (.iload_n 3, 1) := by decide +kernel
theorem dk_X3_paint_1 : decode cX3_paint 1 = .ok (.istore 6, 2) := by decide +kernel
theorem dk_X3_paint_3 : decode cX3_paint 3 = .ok (.iload 6, 2) := by decide +kernel
theorem dk_X3_paint_5 : decode cX3_paint 5 = .ok (.iload 5, 2) := by decide +kernel
theorem dk_X3_paint_7 : decode cX3_paint 7 = .ok (.if_icmp .gt 48, 3) := by decide +kernel
theorem dk_X3_paint_10 : decode cX3_paint 10 = .ok (.iload_n 2, 1) := by decide +kernel
theorem dk_X3_paint_11 : decode cX3_paint 11 = .ok (.istore 7, 2) := by decide +kernel
theorem dk_X3_paint_13 : decode cX3_paint 13 = .ok (.iload 7, 2) := by decide +kernel
theorem dk_X3_paint_15 : decode cX3_paint 15 = .ok (.iload 4, 2) := by decide +kernel
theorem dk_X3_paint_17 : decode cX3_paint 17 = .ok (.if_icmp .gt 32, 3) := by decide +kernel
theorem dk_X3_paint_20 : decode cX3_paint 20 = .ok (.iload 7, 2) := by decide +kernel
theorem dk_X3_paint_22 : decode cX3_paint 22 = .ok (.iload 6, 2) := by decide +kernel
theorem dk_X3_paint_24 : decode cX3_paint 24 = .ok (.invokestatic 15, 3) := by decide +kernel
theorem dk_X3_paint_27 : decode cX3_paint 27 = .ok (.ifCond .eq 16, 3) := by decide +kernel
theorem dk_X3_paint_30 : decode cX3_paint 30 = .ok (.aload_n 0, 1) := by decide +kernel
theorem dk_X3_paint_31 : decode cX3_paint 31 = .ok (.getfield 9, 3) := by decide +kernel
theorem dk_X3_paint_34 : decode cX3_paint 34 = .ok (.iload 7, 2) := by decide +kernel
theorem dk_X3_paint_36 : decode cX3_paint 36 = .ok (.iload 6, 2) := by decide +kernel
theorem dk_X3_paint_38 : decode cX3_paint 38 = .ok (.invokestatic 19, 3) := by decide +kernel
theorem dk_X3_paint_41 : decode cX3_paint 41 = .ok (.iload_n 1, 1) := by decide +kernel
theorem dk_X3_paint_42 : decode cX3_paint 42 = .ok (.castore, 1) := by decide +kernel
theorem dk_X3_paint_43 : decode cX3_paint 43 = .ok (.iinc 7 1, 3) := by decide +kernel
theorem dk_X3_paint_46 : decode cX3_paint 46 = .ok (.goto (-33), 3) := by decide +kernel
theorem dk_X3_paint_49 : decode cX3_paint 49 = .ok (.iinc 6 1, 3) := by decide +kernel
theorem dk_X3_paint_52 : decode cX3_paint 52 = .ok (.goto (-49), 3) := by decide +kernel
theorem dk_X3_paint_55 : decode cX3_paint 55 = .ok (.aload_n 0, 1) := by decide +kernel
theorem dk_X3_paint_56 : decode cX3_paint 56 = .ok (.dup, 1) := by decide +kernel
theorem dk_X3_paint_57 : decode cX3_paint 57 = .ok (.getfield 23, 3) := by decide +kernel
theorem dk_X3_paint_60 : decode cX3_paint 60 = .ok (.iconst 1, 1) := by decide +kernel
theorem dk_X3_paint_61 : decode cX3_paint 61 = .ok (.iadd, 1) := by decide +kernel
theorem dk_X3_paint_62 : decode cX3_paint 62 = .ok (.putfield 23, 3) := by decide +kernel
theorem dk_X3_paint_65 : decode cX3_paint 65 = .ok (.return_, 1) := by decide +kernel
theorem dk_X6_cellAt_0 : decode cX6_cellAt 0 = .ok (.iload_n 1, 1) := by decide +kernel
theorem dk_X6_cellAt_1 : decode cX6_cellAt 1 = .ok (.bipush 30, 2) := by decide +kernel
theorem dk_X6_cellAt_3 : decode cX6_cellAt 3 = .ok (.imul, 1) := by decide +kernel
theorem dk_X6_cellAt_4 : decode cX6_cellAt 4 = .ok (.iload_n 0, 1) := by decide +kernel
theorem dk_X6_cellAt_5 : decode cX6_cellAt 5 = .ok (.iadd, 1) := by decide +kernel
theorem dk_X6_cellAt_6 : decode cX6_cellAt 6 = .ok (.ireturn, 1) := by decide +kernel
theorem dk_X6_hasIndex_0 : decode cX6_hasIndex 0 = .ok (.iconst 0, 1) := by decide +kernel
theorem dk_X6_hasIndex_1 : decode cX6_hasIndex 1 = .ok (.istore_n 2, 1) := by decide +kernel
theorem dk_X6_hasIndex_2 : decode cX6_hasIndex 2 = .ok (.iload_n 2, 1) := by decide +kernel
theorem dk_X6_hasIndex_3 : decode cX6_hasIndex 3 = .ok (.aload_n 0, 1) := by decide +kernel
theorem dk_X6_hasIndex_4 : decode cX6_hasIndex 4 = .ok (.getfield 62, 3) := by decide +kernel
theorem dk_X6_hasIndex_7 : decode cX6_hasIndex 7 = .ok (.if_icmp .ge 24, 3) := by decide +kernel
theorem dk_X6_hasIndex_10 : decode cX6_hasIndex 10 = .ok (.aload_n 0, 1) := by decide +kernel
theorem dk_X6_hasIndex_11 : decode cX6_hasIndex 11 = .ok (.getfield 11, 3) := by decide +kernel
theorem dk_X6_hasIndex_14 : decode cX6_hasIndex 14 = .ok (.iload_n 2, 1) := by decide +kernel
theorem dk_X6_hasIndex_15 : decode cX6_hasIndex 15 = .ok (.aaload, 1) := by decide +kernel
theorem dk_X6_hasIndex_16 : decode cX6_hasIndex 16 = .ok (.getfield 82, 3) := by decide +kernel
theorem dk_X6_hasIndex_19 : decode cX6_hasIndex 19 = .ok (.iload_n 1, 1) := by decide +kernel
theorem dk_X6_hasIndex_20 : decode cX6_hasIndex 20 = .ok (.if_icmp .ne 5, 3) := by decide +kernel
theorem dk_X6_hasIndex_23 : decode cX6_hasIndex 23 = .ok (.iconst 1, 1) := by decide +kernel
theorem dk_X6_hasIndex_24 : decode cX6_hasIndex 24 = .ok (.ireturn, 1) := by decide +kernel
theorem dk_X6_hasIndex_25 : decode cX6_hasIndex 25 = .ok (.iinc 2 1, 3) := by decide +kernel
theorem dk_X6_hasIndex_28 : decode cX6_hasIndex 28 = .ok (.goto (-26), 3) := by decide +kernel
theorem dk_X6_hasIndex_31 : decode cX6_hasIndex 31 = .ok (.iconst 0, 1) := by decide +kernel
theorem dk_X6_hasIndex_32 : decode cX6_hasIndex 32 = .ok (.ireturn, 1) := by decide +kernel
theorem dk_X6_isCell_0 : decode cX6_isCell 0 = .ok (.iload_n 0, 1) := by decide +kernel
theorem dk_X6_isCell_1 : decode cX6_isCell 1 = .ok (.ifCond .lt 23, 3) := by decide +kernel
theorem dk_X6_isCell_4 : decode cX6_isCell 4 = .ok (.iload_n 0, 1) := by decide +kernel
theorem dk_X6_isCell_5 : decode cX6_isCell 5 = .ok (.bipush 30, 2) := by decide +kernel
theorem dk_X6_isCell_7 : decode cX6_isCell 7 = .ok (.if_icmp .ge 17, 3) := by decide +kernel
theorem dk_X6_isCell_10 : decode cX6_isCell 10 = .ok (.iload_n 1, 1) := by decide +kernel
theorem dk_X6_isCell_11 : decode cX6_isCell 11 = .ok (.ifCond .lt 13, 3) := by decide +kernel
theorem dk_X6_isCell_14 : decode cX6_isCell 14 = .ok (.iload_n 1, 1) := by decide +kernel
theorem dk_X6_isCell_15 : decode cX6_isCell 15 = .ok (.bipush 20, 2) := by decide +kernel
theorem dk_X6_isCell_17 : decode cX6_isCell 17 = .ok (.if_icmp .ge 7, 3) := by decide +kernel
theorem dk_X6_isCell_20 : decode cX6_isCell 20 = .ok (.iconst 1, 1) := by decide +kernel
theorem dk_X6_isCell_21 : decode cX6_isCell 21 = .ok (.goto 4, 3) := by decide +kernel
theorem dk_X6_isCell_24 : decode cX6_isCell 24 = .ok (.iconst 0, 1) := by decide +kernel
theorem dk_X6_isCell_25 : decode cX6_isCell 25 = .ok (.ireturn, 1) := by decide +kernel
theorem dk_X6_isKind_0 : decode cX6_isKind 0 = .ok (.iload_n 0, 1) := by decide +kernel
theorem dk_X6_isKind_1 : decode cX6_isKind 1 = .ok (.lookupswitch 85 #[(46, 83), (98, 83), (100, 83), (103, 83), (111, 83), (112, 83), (114, 83), (119, 83), (121, 83)], 83) := by decide +kernel
theorem dk_X6_isKind_84 : decode cX6_isKind 84 = .ok (.iconst 1, 1) := by decide +kernel
theorem dk_X6_isKind_85 : decode cX6_isKind 85 = .ok (.ireturn, 1) := by decide +kernel
theorem dk_X6_isKind_86 : decode cX6_isKind 86 = .ok (.iconst 0, 1) := by decide +kernel
theorem dk_X6_isKind_87 : decode cX6_isKind 87 = .ok (.ireturn, 1) := by decide +kernel
theorem dk_X6_needCell_0 : decode cX6_needCell 0 = .ok (.iload_n 0, 1) := by decide +kernel
theorem dk_X6_needCell_1 : decode cX6_needCell 1 = .ok (.iload_n 1, 1) := by decide +kernel
theorem dk_X6_needCell_2 : decode cX6_needCell 2 = .ok (.invokestatic 45, 3) := by decide +kernel
theorem dk_X6_needCell_5 : decode cX6_needCell 5 = .ok (.ifCond .ne 14, 3) := by decide +kernel
theorem dk_X6_needCell_8 : decode cX6_needCell 8 = .ok (.new 535, 3) := by decide +kernel
theorem dk_X6_needCell_11 : decode cX6_needCell 11 = .ok (.dup, 1) := by decide +kernel
theorem dk_X6_needCell_12 : decode cX6_needCell 12 = .ok (.ldc_w 572, 3) := by decide +kernel
theorem dk_X6_needCell_15 : decode cX6_needCell 15 = .ok (.invokespecial 539, 3) := by decide +kernel
theorem dk_X6_needCell_18 : decode cX6_needCell 18 = .ok (.athrow, 1) := by decide +kernel
theorem dk_X6_needCell_19 : decode cX6_needCell 19 = .ok (.return_, 1) := by decide +kernel
theorem dk_X6_needHole_0 : decode cX6_needHole 0 = .ok (.iload_n 1, 1) := by decide +kernel
theorem dk_X6_needHole_1 : decode cX6_needHole 1 = .ok (.ifCond .lt 11, 3) := by decide +kernel
theorem dk_X6_needHole_4 : decode cX6_needHole 4 = .ok (.iload_n 1, 1) := by decide +kernel
theorem dk_X6_needHole_5 : decode cX6_needHole 5 = .ok (.aload_n 0, 1) := by decide +kernel
theorem dk_X6_needHole_6 : decode cX6_needHole 6 = .ok (.getfield 62, 3) := by decide +kernel
theorem dk_X6_needHole_9 : decode cX6_needHole 9 = .ok (.if_icmp .lt 14, 3) := by decide +kernel
theorem dk_X6_needHole_12 : decode cX6_needHole 12 = .ok (.new 535, 3) := by decide +kernel
theorem dk_X6_needHole_15 : decode cX6_needHole 15 = .ok (.dup, 1) := by decide +kernel
theorem dk_X6_needHole_16 : decode cX6_needHole 16 = .ok (.ldc_w 570, 3) := by decide +kernel
theorem dk_X6_needHole_19 : decode cX6_needHole 19 = .ok (.invokespecial 539, 3) := by decide +kernel
theorem dk_X6_needHole_22 : decode cX6_needHole 22 = .ok (.athrow, 1) := by decide +kernel
theorem dk_X6_needHole_23 : decode cX6_needHole 23 = .ok (.return_, 1) := by decide +kernel
set_option maxHeartbeats 4000000 in
theorem kx_X6_isCell {l : Launch} (hl9 : l.stackTraces = false) (D : va_G) {tys : List (ClassId × FieldType)} {w : va_W} {sz : Nat} (hD0 : va_D (va_A w sz) w) {a1 a2 : Int32} : kx_C l yX6_isCell cX6_isCell 2 (some .boolean) 0 0 0 0 [.int a1, .int a2] D tys w sz (fun res w1 => w1 = w ∧ ((res = some (.int 1) ∧ en_ce a1 a2) ∨ (res = some (.int 0) ∧ ¬ en_ce a1 a2))) (fun _ => False) := by
  refine vx_ofW (cc := cX6_isCell) (maxL := 2) (ret := (some .boolean)) (by decide +kernel) rfl ?_
  intro p e s m args below meth c s₁ B9 hml hne hv
  obtain ⟨rfl, hsz, hP, hK, hT⟩ := hv
  subst hsz
  have hx := B9.exec
  have hb := B9.bytes
  have hr := B9.returns
  have hlocks := B9.notSynchronized
  have hts0 := atoms_spec (ws := Cond.code yX6_isCell cX6_isCell 2 (some .boolean) :: en_cw) B9.pre
  have hts : ∀ z ∈ en_cw, z.before _ s = true := fun z hz => hts0 z (List.mem_cons_of_mem _ hz)
  have hown : s.vm.findClass RX6 = some m.cls := findClass_of_methodNamed B9.named
  have G : kx_G p s m ([.int a1, .int a2] : List Value).toArray c cX6_isCell RX6 D tys (va_A w s.heap.size) := ⟨hx, hb, hts, hown, hK, hT, fun q h => Or.inr h⟩
  have L : kx_H D (va_A w s.heap.size) s w s.heap [] := ⟨hP, ⟨hD0.1, fun j z hz => Or.inl ⟨j, z.2, hz⟩⟩, va_S.rf⟩
  have hl := lv_entry ([.int a1, .int a2] : List Value) (n := 2) (Nat.le_of_ble_eq_true rfl)
  rw [lg_entry_eq]
  generalize (lg_sl ([.int a1, .int a2] : List Value) ++ List.replicate (2 - (lg_sl ([.int a1, .int a2] : List Value)).length) Slot.unset).toArray = ls at hl ⊢
  have hl : lv_has ls 2 [(0, .int a1), (1, .int a2)] := hl
  refine lv_iload_n hx hb dk_X6_isCell_0 rfl (lv_at hl 0 rfl) ?_
  have k2 : (0 : Int32).toInt = 0 := by decide
  refine lv_if_lt (tgt := 24) hx hb dk_X6_isCell_1 (by decide) (fun c1 => ?_) (fun c1 => ?_)
  · skip
    have tc1 : (a1 : Int32).toInt < (0 : Int32).toInt := Int32.lt_iff_toInt_lt.mp c1
    refine lv_iconst (v := 0) hx hb dk_X6_isCell_24 (by decide) ?_
    exact vx_ret (W.widen (Nat.le_of_ble_eq_true rfl) (Nat.le_of_ble_eq_true rfl) (W.zret (v := 0) (ty := .boolean) hx hb hr (by decide) (fun T9 hT9 _ => ⟨⟨0, w, rfl, ⟨rfl, Or.inr ⟨rfl, by unfold en_ce; omega⟩⟩, by rw [hT9]; exact L.1, L.2.1⟩, L.2.2.F hT9⟩) L.2.2.2.2 dk_X6_isCell_25 hlocks))
  · skip
    have tc1 : ¬ (a1 : Int32).toInt < (0 : Int32).toInt := fun h => c1 (Int32.lt_iff_toInt_lt.mpr h)
    refine lv_iload_n hx hb dk_X6_isCell_4 rfl (lv_at hl 0 rfl) ?_
    refine lv_bipush (v := 30) hx hb dk_X6_isCell_5 (by decide) ?_
    have k4 : (30 : Int32).toInt = 30 := by decide
    refine lv_icmp_ge (tgt := 24) hx hb dk_X6_isCell_7 (by decide) (fun c3 => ?_) (fun c3 => ?_)
    · skip
      have tc3 : (30 : Int32).toInt ≤ (a1 : Int32).toInt := Int32.le_iff_toInt_le.mp c3
      refine lv_iconst (v := 0) hx hb dk_X6_isCell_24 (by decide) ?_
      exact vx_ret (W.widen (Nat.le_of_ble_eq_true rfl) (Nat.le_of_ble_eq_true rfl) (W.zret (v := 0) (ty := .boolean) hx hb hr (by decide) (fun T9 hT9 _ => ⟨⟨0, w, rfl, ⟨rfl, Or.inr ⟨rfl, by unfold en_ce; omega⟩⟩, by rw [hT9]; exact L.1, L.2.1⟩, L.2.2.F hT9⟩) L.2.2.2.2 dk_X6_isCell_25 hlocks))
    · skip
      have tc3 : ¬ (30 : Int32).toInt ≤ (a1 : Int32).toInt := fun h => c3 (Int32.le_iff_toInt_le.mpr h)
      refine lv_iload_n hx hb dk_X6_isCell_10 rfl (lv_at hl 1 rfl) ?_
      have k6 : (0 : Int32).toInt = 0 := by decide
      refine lv_if_lt (tgt := 24) hx hb dk_X6_isCell_11 (by decide) (fun c5 => ?_) (fun c5 => ?_)
      · skip
        have tc5 : (a2 : Int32).toInt < (0 : Int32).toInt := Int32.lt_iff_toInt_lt.mp c5
        refine lv_iconst (v := 0) hx hb dk_X6_isCell_24 (by decide) ?_
        exact vx_ret (W.widen (Nat.le_of_ble_eq_true rfl) (Nat.le_of_ble_eq_true rfl) (W.zret (v := 0) (ty := .boolean) hx hb hr (by decide) (fun T9 hT9 _ => ⟨⟨0, w, rfl, ⟨rfl, Or.inr ⟨rfl, by unfold en_ce; omega⟩⟩, by rw [hT9]; exact L.1, L.2.1⟩, L.2.2.F hT9⟩) L.2.2.2.2 dk_X6_isCell_25 hlocks))
      · skip
        have tc5 : ¬ (a2 : Int32).toInt < (0 : Int32).toInt := fun h => c5 (Int32.lt_iff_toInt_lt.mpr h)
        refine lv_iload_n hx hb dk_X6_isCell_14 rfl (lv_at hl 1 rfl) ?_
        refine lv_bipush (v := 20) hx hb dk_X6_isCell_15 (by decide) ?_
        have k8 : (20 : Int32).toInt = 20 := by decide
        refine lv_icmp_ge (tgt := 24) hx hb dk_X6_isCell_17 (by decide) (fun c7 => ?_) (fun c7 => ?_)
        · skip
          have tc7 : (20 : Int32).toInt ≤ (a2 : Int32).toInt := Int32.le_iff_toInt_le.mp c7
          refine lv_iconst (v := 0) hx hb dk_X6_isCell_24 (by decide) ?_
          exact vx_ret (W.widen (Nat.le_of_ble_eq_true rfl) (Nat.le_of_ble_eq_true rfl) (W.zret (v := 0) (ty := .boolean) hx hb hr (by decide) (fun T9 hT9 _ => ⟨⟨0, w, rfl, ⟨rfl, Or.inr ⟨rfl, by unfold en_ce; omega⟩⟩, by rw [hT9]; exact L.1, L.2.1⟩, L.2.2.F hT9⟩) L.2.2.2.2 dk_X6_isCell_25 hlocks))
        · skip
          have tc7 : ¬ (20 : Int32).toInt ≤ (a2 : Int32).toInt := fun h => c7 (Int32.le_iff_toInt_le.mpr h)
          refine lv_iconst (v := 1) hx hb dk_X6_isCell_20 (by decide) ?_
          refine lv_goto (tgt := 25) hx hb dk_X6_isCell_21 (by decide) ?_
          exact vx_ret (W.widen (Nat.le_of_ble_eq_true rfl) (Nat.le_of_ble_eq_true rfl) (W.zret (v := 1) (ty := .boolean) hx hb hr (by decide) (fun T9 hT9 _ => ⟨⟨1, w, rfl, ⟨rfl, Or.inl ⟨rfl, by unfold en_ce; omega⟩⟩, by rw [hT9]; exact L.1, L.2.1⟩, L.2.2.F hT9⟩) L.2.2.2.2 dk_X6_isCell_25 hlocks))
set_option maxHeartbeats 4000000 in
theorem kx_X6_cellAt {l : Launch} (hl9 : l.stackTraces = false) (D : va_G) {tys : List (ClassId × FieldType)} {w : va_W} {sz : Nat} (hD0 : va_D (va_A w sz) w) {a1 a2 : Int32} : kx_C l yX6_cellAt cX6_cellAt 2 (some .int) 0 0 0 0 [.int a1, .int a2] D tys w sz (fun res w1 => w1 = w ∧ res = some (.int (a2 * 30 + a1))) (fun _ => False) := by
  refine vx_ofW (cc := cX6_cellAt) (maxL := 2) (ret := (some .int)) (by decide +kernel) rfl ?_
  intro p e s m args below meth c s₁ B9 hml hne hv
  obtain ⟨rfl, hsz, hP, hK, hT⟩ := hv
  subst hsz
  have hx := B9.exec
  have hb := B9.bytes
  have hr := B9.returns
  have hlocks := B9.notSynchronized
  have hts0 := atoms_spec (ws := Cond.code yX6_cellAt cX6_cellAt 2 (some .int) :: en_cw) B9.pre
  have hts : ∀ z ∈ en_cw, z.before _ s = true := fun z hz => hts0 z (List.mem_cons_of_mem _ hz)
  have hown : s.vm.findClass RX6 = some m.cls := findClass_of_methodNamed B9.named
  have G : kx_G p s m ([.int a1, .int a2] : List Value).toArray c cX6_cellAt RX6 D tys (va_A w s.heap.size) := ⟨hx, hb, hts, hown, hK, hT, fun q h => Or.inr h⟩
  have L : kx_H D (va_A w s.heap.size) s w s.heap [] := ⟨hP, ⟨hD0.1, fun j z hz => Or.inl ⟨j, z.2, hz⟩⟩, va_S.rf⟩
  have hl := lv_entry ([.int a1, .int a2] : List Value) (n := 2) (Nat.le_of_ble_eq_true rfl)
  rw [lg_entry_eq]
  generalize (lg_sl ([.int a1, .int a2] : List Value) ++ List.replicate (2 - (lg_sl ([.int a1, .int a2] : List Value)).length) Slot.unset).toArray = ls at hl ⊢
  have hl : lv_has ls 2 [(0, .int a1), (1, .int a2)] := hl
  refine lv_iload_n hx hb dk_X6_cellAt_0 rfl (lv_at hl 1 rfl) ?_
  refine lv_bipush (v := 30) hx hb dk_X6_cellAt_1 (by decide) ?_
  refine lv_imul hx hb dk_X6_cellAt_3 ?_
  refine lv_iload_n hx hb dk_X6_cellAt_4 rfl (lv_at hl 0 rfl) ?_
  refine lv_iadd hx hb dk_X6_cellAt_5 ?_
  exact vx_ret (W.widen (Nat.le_of_ble_eq_true rfl) (Nat.le_of_ble_eq_true rfl) (W.iret (v := ((a2 * 30) + a1)) hx hb hr (fun T9 hT9 _ => ⟨⟨((a2 * 30) + a1), w, rfl, ⟨rfl, rfl⟩, by rw [hT9]; exact L.1, L.2.1⟩, L.2.2.F hT9⟩) L.2.2.2.2 dk_X6_cellAt_6 hlocks))
set_option maxHeartbeats 4000000 in
theorem kx_X6_isKind {l : Launch} (hl9 : l.stackTraces = false) (D : va_G) {tys : List (ClassId × FieldType)} {w : va_W} {sz : Nat} (hD0 : va_D (va_A w sz) w) {a1 : Int32} : kx_C l yX6_isKind cX6_isKind 1 (some .boolean) 0 0 0 0 [.int a1] D tys w sz (fun res w1 => w1 = w ∧ ((res = some (.int 1) ∧ kx_kd a1) ∨ (res = some (.int 0) ∧ ¬ kx_kd a1))) (fun _ => False) := by
  refine vx_ofW (cc := cX6_isKind) (maxL := 1) (ret := (some .boolean)) (by decide +kernel) rfl ?_
  intro p e s m args below meth c s₁ B9 hml hne hv
  obtain ⟨rfl, hsz, hP, hK, hT⟩ := hv
  subst hsz
  have hx := B9.exec
  have hb := B9.bytes
  have hr := B9.returns
  have hlocks := B9.notSynchronized
  have hts0 := atoms_spec (ws := Cond.code yX6_isKind cX6_isKind 1 (some .boolean) :: en_cw) B9.pre
  have hts : ∀ z ∈ en_cw, z.before _ s = true := fun z hz => hts0 z (List.mem_cons_of_mem _ hz)
  have hown : s.vm.findClass RX6 = some m.cls := findClass_of_methodNamed B9.named
  have G : kx_G p s m ([.int a1] : List Value).toArray c cX6_isKind RX6 D tys (va_A w s.heap.size) := ⟨hx, hb, hts, hown, hK, hT, fun q h => Or.inr h⟩
  have L : kx_H D (va_A w s.heap.size) s w s.heap [] := ⟨hP, ⟨hD0.1, fun j z hz => Or.inl ⟨j, z.2, hz⟩⟩, va_S.rf⟩
  have hl := lv_entry ([.int a1] : List Value) (n := 1) (Nat.le_of_ble_eq_true rfl)
  rw [lg_entry_eq]
  generalize (lg_sl ([.int a1] : List Value) ++ List.replicate (1 - (lg_sl ([.int a1] : List Value)).length) Slot.unset).toArray = ls at hl ⊢
  have hl : lv_has ls 1 [(0, .int a1)] := hl
  refine lv_iload_n hx hb dk_X6_isKind_0 rfl (lv_at hl 0 rfl) ?_
  by_cases hk : kx_kd a1
  · have hk9 := hk
    obtain rfl | rfl | rfl | rfl | rfl | rfl | rfl | rfl | rfl := hk9
    · refine lv_lookup (off := 83) (tgt := 84) hx hb dk_X6_isKind_1 (by decide) (by decide) (by decide) ?_
      refine lv_iconst (v := 1) hx hb dk_X6_isKind_84 (by decide) ?_
      exact vx_ret (W.widen (Nat.le_of_ble_eq_true rfl) (Nat.le_of_ble_eq_true rfl) (W.zret (v := 1) (ty := .boolean) hx hb hr (by decide) (fun T9 hT9 _ => ⟨⟨1, w, rfl, ⟨rfl, Or.inl ⟨rfl, hk⟩⟩, by rw [hT9]; exact L.1, L.2.1⟩, L.2.2.F hT9⟩) L.2.2.2.2 dk_X6_isKind_85 hlocks))
    · refine lv_lookup (off := 83) (tgt := 84) hx hb dk_X6_isKind_1 (by decide) (by decide) (by decide) ?_
      refine lv_iconst (v := 1) hx hb dk_X6_isKind_84 (by decide) ?_
      exact vx_ret (W.widen (Nat.le_of_ble_eq_true rfl) (Nat.le_of_ble_eq_true rfl) (W.zret (v := 1) (ty := .boolean) hx hb hr (by decide) (fun T9 hT9 _ => ⟨⟨1, w, rfl, ⟨rfl, Or.inl ⟨rfl, hk⟩⟩, by rw [hT9]; exact L.1, L.2.1⟩, L.2.2.F hT9⟩) L.2.2.2.2 dk_X6_isKind_85 hlocks))
    · refine lv_lookup (off := 83) (tgt := 84) hx hb dk_X6_isKind_1 (by decide) (by decide) (by decide) ?_
      refine lv_iconst (v := 1) hx hb dk_X6_isKind_84 (by decide) ?_
      exact vx_ret (W.widen (Nat.le_of_ble_eq_true rfl) (Nat.le_of_ble_eq_true rfl) (W.zret (v := 1) (ty := .boolean) hx hb hr (by decide) (fun T9 hT9 _ => ⟨⟨1, w, rfl, ⟨rfl, Or.inl ⟨rfl, hk⟩⟩, by rw [hT9]; exact L.1, L.2.1⟩, L.2.2.F hT9⟩) L.2.2.2.2 dk_X6_isKind_85 hlocks))
    · refine lv_lookup (off := 83) (tgt := 84) hx hb dk_X6_isKind_1 (by decide) (by decide) (by decide) ?_
      refine lv_iconst (v := 1) hx hb dk_X6_isKind_84 (by decide) ?_
      exact vx_ret (W.widen (Nat.le_of_ble_eq_true rfl) (Nat.le_of_ble_eq_true rfl) (W.zret (v := 1) (ty := .boolean) hx hb hr (by decide) (fun T9 hT9 _ => ⟨⟨1, w, rfl, ⟨rfl, Or.inl ⟨rfl, hk⟩⟩, by rw [hT9]; exact L.1, L.2.1⟩, L.2.2.F hT9⟩) L.2.2.2.2 dk_X6_isKind_85 hlocks))
    · refine lv_lookup (off := 83) (tgt := 84) hx hb dk_X6_isKind_1 (by decide) (by decide) (by decide) ?_
      refine lv_iconst (v := 1) hx hb dk_X6_isKind_84 (by decide) ?_
      exact vx_ret (W.widen (Nat.le_of_ble_eq_true rfl) (Nat.le_of_ble_eq_true rfl) (W.zret (v := 1) (ty := .boolean) hx hb hr (by decide) (fun T9 hT9 _ => ⟨⟨1, w, rfl, ⟨rfl, Or.inl ⟨rfl, hk⟩⟩, by rw [hT9]; exact L.1, L.2.1⟩, L.2.2.F hT9⟩) L.2.2.2.2 dk_X6_isKind_85 hlocks))
    · refine lv_lookup (off := 83) (tgt := 84) hx hb dk_X6_isKind_1 (by decide) (by decide) (by decide) ?_
      refine lv_iconst (v := 1) hx hb dk_X6_isKind_84 (by decide) ?_
      exact vx_ret (W.widen (Nat.le_of_ble_eq_true rfl) (Nat.le_of_ble_eq_true rfl) (W.zret (v := 1) (ty := .boolean) hx hb hr (by decide) (fun T9 hT9 _ => ⟨⟨1, w, rfl, ⟨rfl, Or.inl ⟨rfl, hk⟩⟩, by rw [hT9]; exact L.1, L.2.1⟩, L.2.2.F hT9⟩) L.2.2.2.2 dk_X6_isKind_85 hlocks))
    · refine lv_lookup (off := 83) (tgt := 84) hx hb dk_X6_isKind_1 (by decide) (by decide) (by decide) ?_
      refine lv_iconst (v := 1) hx hb dk_X6_isKind_84 (by decide) ?_
      exact vx_ret (W.widen (Nat.le_of_ble_eq_true rfl) (Nat.le_of_ble_eq_true rfl) (W.zret (v := 1) (ty := .boolean) hx hb hr (by decide) (fun T9 hT9 _ => ⟨⟨1, w, rfl, ⟨rfl, Or.inl ⟨rfl, hk⟩⟩, by rw [hT9]; exact L.1, L.2.1⟩, L.2.2.F hT9⟩) L.2.2.2.2 dk_X6_isKind_85 hlocks))
    · refine lv_lookup (off := 83) (tgt := 84) hx hb dk_X6_isKind_1 (by decide) (by decide) (by decide) ?_
      refine lv_iconst (v := 1) hx hb dk_X6_isKind_84 (by decide) ?_
      exact vx_ret (W.widen (Nat.le_of_ble_eq_true rfl) (Nat.le_of_ble_eq_true rfl) (W.zret (v := 1) (ty := .boolean) hx hb hr (by decide) (fun T9 hT9 _ => ⟨⟨1, w, rfl, ⟨rfl, Or.inl ⟨rfl, hk⟩⟩, by rw [hT9]; exact L.1, L.2.1⟩, L.2.2.F hT9⟩) L.2.2.2.2 dk_X6_isKind_85 hlocks))
    · refine lv_lookup (off := 83) (tgt := 84) hx hb dk_X6_isKind_1 (by decide) (by decide) (by decide) ?_
      refine lv_iconst (v := 1) hx hb dk_X6_isKind_84 (by decide) ?_
      exact vx_ret (W.widen (Nat.le_of_ble_eq_true rfl) (Nat.le_of_ble_eq_true rfl) (W.zret (v := 1) (ty := .boolean) hx hb hr (by decide) (fun T9 hT9 _ => ⟨⟨1, w, rfl, ⟨rfl, Or.inl ⟨rfl, hk⟩⟩, by rw [hT9]; exact L.1, L.2.1⟩, L.2.2.F hT9⟩) L.2.2.2.2 dk_X6_isKind_85 hlocks))
  · have e9 : Op.lookupswitch.offset [(46, 83), (98, 83), (100, 83), (103, 83), (111, 83), (112, 83), (114, 83), (119, 83), (121, 83)] 85 a1.toInt = 85 := by
      unfold kx_kd at hk
      have n46 : ¬ (46 : Int) = a1.toInt := fun h => hk (by have e : a1 = 46 := Int32.toInt_inj.mp h.symm; rw [e]; decide)
      have n98 : ¬ (98 : Int) = a1.toInt := fun h => hk (by have e : a1 = 98 := Int32.toInt_inj.mp h.symm; rw [e]; decide)
      have n100 : ¬ (100 : Int) = a1.toInt := fun h => hk (by have e : a1 = 100 := Int32.toInt_inj.mp h.symm; rw [e]; decide)
      have n103 : ¬ (103 : Int) = a1.toInt := fun h => hk (by have e : a1 = 103 := Int32.toInt_inj.mp h.symm; rw [e]; decide)
      have n111 : ¬ (111 : Int) = a1.toInt := fun h => hk (by have e : a1 = 111 := Int32.toInt_inj.mp h.symm; rw [e]; decide)
      have n112 : ¬ (112 : Int) = a1.toInt := fun h => hk (by have e : a1 = 112 := Int32.toInt_inj.mp h.symm; rw [e]; decide)
      have n114 : ¬ (114 : Int) = a1.toInt := fun h => hk (by have e : a1 = 114 := Int32.toInt_inj.mp h.symm; rw [e]; decide)
      have n119 : ¬ (119 : Int) = a1.toInt := fun h => hk (by have e : a1 = 119 := Int32.toInt_inj.mp h.symm; rw [e]; decide)
      have n121 : ¬ (121 : Int) = a1.toInt := fun h => hk (by have e : a1 = 121 := Int32.toInt_inj.mp h.symm; rw [e]; decide)
      simp only [Op.lookupswitch.offset_cons, Op.lookupswitch.offset_nil]
      rw [if_neg n46, if_neg n98, if_neg n100, if_neg n103, if_neg n111, if_neg n112, if_neg n114, if_neg n119, if_neg n121]
    refine lv_lookup (off := 85) (tgt := 86) hx hb dk_X6_isKind_1 (by decide) e9 (by decide) ?_
    refine lv_iconst (v := 0) hx hb dk_X6_isKind_86 (by decide) ?_
    exact vx_ret (W.widen (Nat.le_of_ble_eq_true rfl) (Nat.le_of_ble_eq_true rfl) (W.zret (v := 0) (ty := .boolean) hx hb hr (by decide) (fun T9 hT9 _ => ⟨⟨0, w, rfl, ⟨rfl, Or.inr ⟨rfl, hk⟩⟩, by rw [hT9]; exact L.1, L.2.1⟩, L.2.2.F hT9⟩) L.2.2.2.2 dk_X6_isKind_87 hlocks))
set_option maxHeartbeats 4000000 in
theorem kx_X6_needHole {l : Launch} (hl9 : l.stackTraces = false) (D : va_G) {tys : List (ClassId × FieldType)} {sh : en_H} {w : va_W} {sz : Nat} (hD0 : va_D (va_A w sz) w) {fx : List Value} {hc pc : Nat} {bg : Int32} {ix ar : Nat → Int32} {ck : Nat → Nat → Int32} {a1 : Int32} (hX : kx_X tys sh w fx hc pc bg ix ar ck) : kx_C l yX6_needHole cX6_needHole 2 none 0 1 6 2 [.ref (sh.2 66), .int a1] D tys w sz (fun res w1 => w1 = w ∧ 0 ≤ a1.toInt ∧ a1.toInt < (hc : Int)) (fun E => E = en_xn 3 ∧ ¬ (0 ≤ a1.toInt ∧ a1.toInt < (hc : Int))) := by
  refine vx_ofW (cc := cX6_needHole) (maxL := 2) (ret := none) (by decide +kernel) rfl ?_
  intro p e s m args below meth c s₁ B9 hml hne hv
  obtain ⟨rfl, hsz, hP, hK, hT⟩ := hv
  subst hsz
  have hx := B9.exec
  have hb := B9.bytes
  have hr := B9.returns
  have hlocks := B9.notSynchronized
  have hts0 := atoms_spec (ws := Cond.code yX6_needHole cX6_needHole 2 none :: en_cw) B9.pre
  have hts : ∀ z ∈ en_cw, z.before _ s = true := fun z hz => hts0 z (List.mem_cons_of_mem _ hz)
  have hown : s.vm.findClass RX6 = some m.cls := findClass_of_methodNamed B9.named
  have G : kx_G p s m ([.ref (sh.2 66), .int a1] : List Value).toArray c cX6_needHole RX6 D tys (va_A w s.heap.size) := ⟨hx, hb, hts, hown, hK, hT, fun q h => Or.inr h⟩
  have L : kx_H D (va_A w s.heap.size) s w s.heap [] := ⟨hP, ⟨hD0.1, fun j z hz => Or.inl ⟨j, z.2, hz⟩⟩, va_S.rf⟩
  have hl := lv_entry ([.ref (sh.2 66), .int a1] : List Value) (n := 2) (Nat.le_of_ble_eq_true rfl)
  rw [lg_entry_eq]
  generalize (lg_sl ([.ref (sh.2 66), .int a1] : List Value) ++ List.replicate (2 - (lg_sl ([.ref (sh.2 66), .int a1] : List Value)).length) Slot.unset).toArray = ls at hl ⊢
  have hl : lv_has ls 2 [(0, .ref (sh.2 66)), (1, .int a1)] := hl
  have fX := hX.1
  have hc9 : hc ≤ 9 := fX.2.2.2.2.2.2.1
  refine lv_iload_n hx hb dk_X6_needHole_0 rfl (lv_at hl 1 rfl) ?_
  have k2 : (0 : Int32).toInt = 0 := by decide
  refine lv_if_lt (tgt := 12) hx hb dk_X6_needHole_1 (by decide) (fun c1 => ?_) (fun c1 => ?_)
  · skip
    have tc1 : (a1 : Int32).toInt < (0 : Int32).toInt := Int32.lt_iff_toInt_lt.mp c1
    exact kx_thr (en_tx3 hl9) G L (List.mem_of_getElem? (i := tf_ix 570) rfl) (hl.1.trans hml.symm) dk_X6_needHole_12 dk_X6_needHole_15 (Or.inr ⟨dk_X6_needHole_16, dk_X6_needHole_19, dk_X6_needHole_22⟩) hne (Nat.le_of_ble_eq_true rfl) (Nat.le_of_ble_eq_true rfl) (Nat.le_of_ble_eq_true rfl) (Nat.le_of_ble_eq_true rfl) hlocks (⟨rfl, by omega⟩) (Nat.le_of_ble_eq_true rfl) (Nat.le_of_ble_eq_true rfl)
  · skip
    have tc1 : ¬ (a1 : Int32).toInt < (0 : Int32).toInt := fun h => c1 (Int32.lt_iff_toInt_lt.mpr h)
    refine lv_iload_n hx hb dk_X6_needHole_4 rfl (lv_at hl 1 rfl) ?_
    refine lv_aload_n hx hb dk_X6_needHole_5 rfl (lv_at hl 0 rfl) ?_
    refine kx_get (v := .int (nI hc)) G L (en_FTX6_ok (62, 12, 4) (by decide)) fX.1 fX.2.2.2.1 dk_X6_needHole_6 ?_
    have k4 : (nI hc).toInt = (((hc) : Nat) : Int) := kx_nI (by omega)
    refine lv_icmp_lt (tgt := 23) hx hb dk_X6_needHole_9 (by decide) (fun c3 => ?_) (fun c3 => ?_)
    · skip
      have tc3 : (a1 : Int32).toInt < ((nI hc) : Int32).toInt := Int32.lt_iff_toInt_lt.mp c3
      exact vx_ret (W.widen (Nat.le_of_ble_eq_true rfl) (Nat.le_of_ble_eq_true rfl) (W.vret hx hb hr (fun T9 hT9 _ => ⟨⟨w, rfl, ⟨rfl, by omega, by omega⟩, by rw [hT9]; exact L.1, L.2.1⟩, L.2.2.F hT9⟩) L.2.2.2.2 dk_X6_needHole_23 hlocks))
    · skip
      have tc3 : ¬ (a1 : Int32).toInt < ((nI hc) : Int32).toInt := fun h => c3 (Int32.lt_iff_toInt_lt.mpr h)
      exact kx_thr (en_tx3 hl9) G L (List.mem_of_getElem? (i := tf_ix 570) rfl) (hl.1.trans hml.symm) dk_X6_needHole_12 dk_X6_needHole_15 (Or.inr ⟨dk_X6_needHole_16, dk_X6_needHole_19, dk_X6_needHole_22⟩) hne (Nat.le_of_ble_eq_true rfl) (Nat.le_of_ble_eq_true rfl) (Nat.le_of_ble_eq_true rfl) (Nat.le_of_ble_eq_true rfl) hlocks (⟨rfl, by omega⟩) (Nat.le_of_ble_eq_true rfl) (Nat.le_of_ble_eq_true rfl)
set_option maxHeartbeats 4000000 in
theorem kx_X6_needCell {l : Launch} (hl9 : l.stackTraces = false) (D : va_G) {tys : List (ClassId × FieldType)} {w : va_W} {sz : Nat} (hD0 : va_D (va_A w sz) w) {a1 a2 : Int32} : kx_C l yX6_needCell cX6_needCell 2 none 1 1 6 2 [.int a1, .int a2] D tys w sz (fun res w1 => w1 = w ∧ en_ce a1 a2) (fun E => E = en_xn 3 ∧ ¬ en_ce a1 a2) := by
  refine vx_ofW (cc := cX6_needCell) (maxL := 2) (ret := none) (by decide +kernel) rfl ?_
  intro p e s m args below meth c s₁ B9 hml hne hv
  obtain ⟨rfl, hsz, hP, hK, hT⟩ := hv
  subst hsz
  have hx := B9.exec
  have hb := B9.bytes
  have hr := B9.returns
  have hlocks := B9.notSynchronized
  have hts0 := atoms_spec (ws := Cond.code yX6_needCell cX6_needCell 2 none :: en_cw) B9.pre
  have hts : ∀ z ∈ en_cw, z.before _ s = true := fun z hz => hts0 z (List.mem_cons_of_mem _ hz)
  have hown : s.vm.findClass RX6 = some m.cls := findClass_of_methodNamed B9.named
  have G : kx_G p s m ([.int a1, .int a2] : List Value).toArray c cX6_needCell RX6 D tys (va_A w s.heap.size) := ⟨hx, hb, hts, hown, hK, hT, fun q h => Or.inr h⟩
  have L : kx_H D (va_A w s.heap.size) s w s.heap [] := ⟨hP, ⟨hD0.1, fun j z hz => Or.inl ⟨j, z.2, hz⟩⟩, va_S.rf⟩
  have hl := lv_entry ([.int a1, .int a2] : List Value) (n := 2) (Nat.le_of_ble_eq_true rfl)
  rw [lg_entry_eq]
  generalize (lg_sl ([.int a1, .int a2] : List Value) ++ List.replicate (2 - (lg_sl ([.int a1, .int a2] : List Value)).length) Slot.unset).toArray = ls at hl ⊢
  have hl : lv_has ls 2 [(0, .int a1), (1, .int a2)] := hl
  refine lv_iload_n hx hb dk_X6_needCell_0 rfl (lv_at hl 0 rfl) ?_
  refine lv_iload_n hx hb dk_X6_needCell_1 rfl (lv_at hl 1 rfl) ?_
  refine kx_cS (As := [.int a1, .int a2]) (rest := []) G L (kx_X6_isCell hl9 D (kx_D1 L)) gc_RX6_45s rfl (hml.trans hl.1.symm) ⟨Nat.le_of_ble_eq_true rfl, Nat.le_of_ble_eq_true rfl⟩ ⟨Nat.le_of_ble_eq_true rfl, Nat.le_of_ble_eq_true rfl⟩ (Nat.le_of_ble_eq_true rfl) dk_X6_needCell_2 (fun _ _ _ _ _ h9 => h9.elim) (fun res w1 H locs hrv hq1 L => ?_)
  obtain ⟨ew1, hq1⟩ := hq1
  have ew1 := ew1.symm
  subst ew1
  rcases hq1 with ⟨rfl, c0⟩ | ⟨rfl, c0⟩
  · skip
    refine lv_if_ne (tgt := 19) hx hb dk_X6_needCell_5 (by decide) (fun _ => ?_) (fun c9 => absurd c9 (by decide))
    exact vx_ret (W.widen (Nat.le_of_ble_eq_true rfl) (Nat.le_of_ble_eq_true rfl) (W.vret hx hb hr (fun T9 hT9 _ => ⟨⟨w, rfl, ⟨rfl, c0⟩, by rw [hT9]; exact L.1, L.2.1⟩, L.2.2.F hT9⟩) L.2.2.2.2 dk_X6_needCell_19 hlocks))
  · skip
    refine lv_if_ne (tgt := 19) hx hb dk_X6_needCell_5 (by decide) (fun c9 => absurd (by decide) c9) (fun _ => ?_)
    exact kx_thr (en_tx3 hl9) G L (List.mem_of_getElem? (i := tf_ix 572) rfl) (hl.1.trans hml.symm) dk_X6_needCell_8 dk_X6_needCell_11 (Or.inr ⟨dk_X6_needCell_12, dk_X6_needCell_15, dk_X6_needCell_18⟩) hne (Nat.le_of_ble_eq_true rfl) (Nat.le_of_ble_eq_true rfl) (Nat.le_of_ble_eq_true rfl) (Nat.le_of_ble_eq_true rfl) hlocks (⟨rfl, c0⟩) (Nat.le_of_ble_eq_true rfl) (Nat.le_of_ble_eq_true rfl)
set_option maxHeartbeats 4000000 in
theorem kx_X6_hasIndex {l : Launch} (hl9 : l.stackTraces = false) (D : va_G) {tys : List (ClassId × FieldType)} {sh : en_H} {w : va_W} {sz : Nat} (hD0 : va_D (va_A w sz) w) {fx : List Value} {hc pc : Nat} {bg : Int32} {ix ar : Nat → Int32} {ck : Nat → Nat → Int32} {a1 : Int32} (hX : kx_X tys sh w fx hc pc bg ix ar ck) : kx_C l yX6_hasIndex cX6_hasIndex 3 (some .boolean) 0 0 0 0 [.ref (sh.2 66), .int a1] D tys w sz (fun res w1 => w1 = w ∧ ((res = some (.int 1) ∧ ∃ j, j < hc ∧ ix j = a1) ∨ (res = some (.int 0) ∧ ∀ j, j < hc → ¬ ix j = a1))) (fun _ => False) := by
  refine vx_ofW (cc := cX6_hasIndex) (maxL := 3) (ret := (some .boolean)) (by decide +kernel) rfl ?_
  intro p e s m args below meth c s₁ B9 hml hne hv
  obtain ⟨rfl, hsz, hP, hK, hT⟩ := hv
  subst hsz
  have hx := B9.exec
  have hb := B9.bytes
  have hr := B9.returns
  have hlocks := B9.notSynchronized
  have hts0 := atoms_spec (ws := Cond.code yX6_hasIndex cX6_hasIndex 3 (some .boolean) :: en_cw) B9.pre
  have hts : ∀ z ∈ en_cw, z.before _ s = true := fun z hz => hts0 z (List.mem_cons_of_mem _ hz)
  have hown : s.vm.findClass RX6 = some m.cls := findClass_of_methodNamed B9.named
  have G : kx_G p s m ([.ref (sh.2 66), .int a1] : List Value).toArray c cX6_hasIndex RX6 D tys (va_A w s.heap.size) := ⟨hx, hb, hts, hown, hK, hT, fun q h => Or.inr h⟩
  have L : kx_H D (va_A w s.heap.size) s w s.heap [] := ⟨hP, ⟨hD0.1, fun j z hz => Or.inl ⟨j, z.2, hz⟩⟩, va_S.rf⟩
  have hl := lv_entry ([.ref (sh.2 66), .int a1] : List Value) (n := 3) (Nat.le_of_ble_eq_true rfl)
  rw [lg_entry_eq]
  generalize (lg_sl ([.ref (sh.2 66), .int a1] : List Value) ++ List.replicate (3 - (lg_sl ([.ref (sh.2 66), .int a1] : List Value)).length) Slot.unset).toArray = ls at hl ⊢
  have hl : lv_has ls 3 [(0, .ref (sh.2 66)), (1, .int a1)] := hl
  have fX := hX.1
  have hc9 : hc ≤ 9 := fX.2.2.2.2.2.2.1
  obtain ⟨cH, fH, ht3, hw67, hf67⟩ := hX.2.1
  refine lv_iconst (v := 0) hx hb dk_X6_hasIndex_0 (by decide) ?_
  refine lv_istore_n (lv' := [(2, .int 0), (0, .ref (sh.2 66)), (1, .int a1)]) hx hb dk_X6_hasIndex_1 rfl hl (by decide) rfl (fun ls hl => ?_)
  have loop : ∀ (d k : Nat), k + d = hc → (∀ j, j < k → ¬ ix j = a1) → ∀ (ls : Array Slot), lv_has ls 3 [(2, .int (nI k)), (0, .ref (sh.2 66)), (1, .int a1)] → W p l e (headSpec (Cond.code yX6_hasIndex cX6_hasIndex 3 (some .boolean) :: en_cw) (en_rm 0 (0, 0))).room s m ([.ref (sh.2 66), .int a1] : List Value).toArray below meth c s.heap [] (0) (0) (vx_MQ below (kx_Q 0 D (fun res w1 => w1 = w ∧ ((res = some (.int 1) ∧ ∃ j, j < hc ∧ ix j = a1) ∨ (res = some (.int 0) ∧ ∀ j, j < hc → ¬ ix j = a1))) (va_A w s.heap.size)) (kx_XC D w (fun _ => False) (va_A w s.heap.size)) ([.ref (sh.2 66), .int a1] : List Value).toArray s 0 0 (va_A w s.heap.size)) (F0 m 2 ls []) := by
    intro d
    induction d with
    | zero =>
      intro k hk hj ls hl
      refine lv_iload_n hx hb dk_X6_hasIndex_2 rfl (lv_at hl 0 rfl) ?_
      refine lv_aload_n hx hb dk_X6_hasIndex_3 rfl (lv_at hl 1 rfl) ?_
      refine kx_get (v := .int (nI hc)) G L (en_FTX6_ok (62, 12, 4) (by decide)) fX.1 fX.2.2.2.1 dk_X6_hasIndex_4 ?_
      have e9 : k = hc := by omega
      subst e9
      refine lv_icmp_ge (tgt := 31) hx hb dk_X6_hasIndex_7 (by decide) (fun _ => ?_) (fun c9 => absurd (nI_le (Nat.le_refl k) (by omega)) c9)
      refine lv_iconst (v := 0) hx hb dk_X6_hasIndex_31 (by decide) ?_
      exact vx_ret (W.widen (Nat.le_of_ble_eq_true rfl) (Nat.le_of_ble_eq_true rfl) (W.zret (v := 0) (ty := .boolean) hx hb hr (by decide) (fun T9 hT9 _ => ⟨⟨0, w, rfl, ⟨rfl, Or.inr ⟨rfl, hj⟩⟩, by rw [hT9]; exact L.1, L.2.1⟩, L.2.2.F hT9⟩) L.2.2.2.2 dk_X6_hasIndex_32 hlocks))
    | succ d ih =>
      intro k hk hj ls hl
      refine lv_iload_n hx hb dk_X6_hasIndex_2 rfl (lv_at hl 0 rfl) ?_
      refine lv_aload_n hx hb dk_X6_hasIndex_3 rfl (lv_at hl 1 rfl) ?_
      refine kx_get (v := .int (nI hc)) G L (en_FTX6_ok (62, 12, 4) (by decide)) fX.1 fX.2.2.2.1 dk_X6_hasIndex_4 ?_
      refine lv_icmp_ge (tgt := 31) hx hb dk_X6_hasIndex_7 (by decide) (fun c9 => absurd c9 (nI_ge (a := k) (b := hc) (by omega) (by omega))) (fun _ => ?_)
      refine lv_aload_n hx hb dk_X6_hasIndex_10 rfl (lv_at hl 1 rfl) ?_
      refine kx_get (v := .ref (sh.2 67)) G L (en_FTX6_ok (11, 12, 0) (by decide)) fX.1 fX.2.2.1 dk_X6_hasIndex_11 ?_
      refine lv_iload_n hx hb dk_X6_hasIndex_14 rfl (lv_at hl 0 rfl) ?_
      obtain ⟨pk, ck9, tk, hwk⟩ := hX.2.2.1 k (by omega)
      refine kx_aald G L hw67 ht3 (show k < 9 by omega) (by decide) (hf67 k (by omega)) dk_X6_hasIndex_15 ?_
      refine kx_get (v := .int (ix k)) G L (en_FTX6_ok (82, 9, 2) (by decide)) hwk rfl dk_X6_hasIndex_16 ?_
      refine lv_iload_n hx hb dk_X6_hasIndex_19 rfl (lv_at hl 2 rfl) ?_
      refine lv_icmp_ne (tgt := 25) hx hb dk_X6_hasIndex_20 (by decide) (fun c1 => ?_) (fun c1 => ?_)
      · skip
        have tc1 : ¬ ((ix k) : Int32).toInt = (a1 : Int32).toInt := fun h => c1 (Int32.toInt_inj.mp h)
        refine lv_iinc (v := nI (k + 1)) (lv' := [(2, .int (nI (k + 1))), (0, .ref (sh.2 66)), (1, .int a1)]) hx hb dk_X6_hasIndex_25 hl (k := 0) rfl (kx_inc (by omega)) (by decide) rfl (fun ls hl => ?_)
        refine lv_goto (tgt := 2) hx hb dk_X6_hasIndex_28 (by decide) ?_
        exact ih (k + 1) (by omega) (fun j h => by rcases Nat.lt_or_ge j k with h1 | h1; exact hj j h1; rw [show j = k by omega]; exact c1) ls hl
      · skip
        have tc1 : ((ix k) : Int32).toInt = (a1 : Int32).toInt := by rw [c1]
        refine lv_iconst (v := 1) hx hb dk_X6_hasIndex_23 (by decide) ?_
        exact vx_ret (W.widen (Nat.le_of_ble_eq_true rfl) (Nat.le_of_ble_eq_true rfl) (W.zret (v := 1) (ty := .boolean) hx hb hr (by decide) (fun T9 hT9 _ => ⟨⟨1, w, rfl, ⟨rfl, Or.inl ⟨rfl, k, by omega, c1⟩⟩, by rw [hT9]; exact L.1, L.2.1⟩, L.2.2.F hT9⟩) L.2.2.2.2 dk_X6_hasIndex_24 hlocks))
  exact loop hc 0 (by omega) (fun j h => absurd h (Nat.not_lt_zero j)) ls (lv_sub hl [0, 1, 2] rfl)
set_option maxHeartbeats 4000000 in
theorem kx_X3_paint {l : Launch} (hl9 : l.stackTraces = false) (D : va_G) {tys : List (ClassId × FieldType)} {sh : en_H} {w : va_W} {sz : Nat} (hD0 : va_D (va_A w sz) w) {fx : List Value} {hc pc : Nat} {bg : Int32} {ix ar : Nat → Int32} {ck : Nat → Nat → Int32} {h : Nat} {kk : Int32} {lx lo r hi : Nat} (hX : kx_X tys sh w fx hc pc bg ix ar ck) (hh : h < 9) (h1 : lx ≤ r) (h2 : r < 30) (h3 : lo ≤ hi) (h4 : hi < 20) (hk1 : 0 ≤ kk.toInt) (hk2 : kk.toInt ≤ 65535) : kx_C l yX3_paint cX3_paint 8 none 1 0 0 2 [.ref (sh.2 (68 + 2 * h)), .int kk, .int (nI lx), .int (nI lo), .int (nI r), .int (nI hi)] D tys w sz (fun res w1 => ∃ (cX : ClassId) (g : Nat → Int32) (p c t : Int32), tys[1]? = some (cX, .char) ∧ w1[68 + 2 * h]? = some ((sh.2 (68 + 2 * h)), .inr (9, [.ref (sh.2 (69 + 2 * h)), .int p, .int (ix h), .int c, .int t, .int (ar h + 1)])) ∧ w1[69 + 2 * h]? = some ((sh.2 (69 + 2 * h)), .inl (cX, 600, .inl g)) ∧ (∀ i, i < 600 → g i = kx_pt (ck h) kk lx lo r hi i) ∧ w1.length = w.length ∧ ∀ j, j ≠ 68 + 2 * h → j ≠ 69 + 2 * h → w1[j]? = w[j]?) (fun _ => False) := by
  refine vx_ofW (cc := cX3_paint) (maxL := 8) (ret := none) (by decide +kernel) rfl ?_
  intro p e s m args below meth c s₁ B9 hml hne hv
  obtain ⟨rfl, hsz, hP, hK, hT⟩ := hv
  subst hsz
  have hx := B9.exec
  have hb := B9.bytes
  have hr := B9.returns
  have hlocks := B9.notSynchronized
  have hts0 := atoms_spec (ws := Cond.code yX3_paint cX3_paint 8 none :: en_cw) B9.pre
  have hts : ∀ z ∈ en_cw, z.before _ s = true := fun z hz => hts0 z (List.mem_cons_of_mem _ hz)
  have hown : s.vm.findClass RX3 = some m.cls := findClass_of_methodNamed B9.named
  have G : kx_G p s m ([.ref (sh.2 (68 + 2 * h)), .int kk, .int (nI lx), .int (nI lo), .int (nI r), .int (nI hi)] : List Value).toArray c cX3_paint RX3 D tys (va_A w s.heap.size) := ⟨hx, hb, hts, hown, hK, hT, fun q h => Or.inr h⟩
  have L : kx_H D (va_A w s.heap.size) s w s.heap [] := ⟨hP, ⟨hD0.1, fun j z hz => Or.inl ⟨j, z.2, hz⟩⟩, va_S.rf⟩
  have hl := lv_entry ([.ref (sh.2 (68 + 2 * h)), .int kk, .int (nI lx), .int (nI lo), .int (nI r), .int (nI hi)] : List Value) (n := 8) (Nat.le_of_ble_eq_true rfl)
  rw [lg_entry_eq]
  generalize (lg_sl ([.ref (sh.2 (68 + 2 * h)), .int kk, .int (nI lx), .int (nI lo), .int (nI r), .int (nI hi)] : List Value) ++ List.replicate (8 - (lg_sl ([.ref (sh.2 (68 + 2 * h)), .int kk, .int (nI lx), .int (nI lo), .int (nI r), .int (nI hi)] : List Value)).length) Slot.unset).toArray = ls at hl ⊢
  have hl : lv_has ls 8 [(0, .ref (sh.2 (68 + 2 * h))), (1, .int kk), (2, .int (nI lx)), (3, .int (nI lo)), (4, .int (nI r)), (5, .int (nI hi))] := hl
  obtain ⟨p9, c9, t9, hob⟩ := hX.2.2.1 h hh
  obtain ⟨cX, g0, ht1, hw0, hg0⟩ := hX.2.2.2 h hh
  have inner : ∀ (d x y : Nat), x + d = r + 1 → lx ≤ x → lo ≤ y → y ≤ hi → (∀ (wk : va_W) (H : Heap) (locs : List Loc) (g : Nat → Int32), wk[69 + 2 * h]? = some ((sh.2 (69 + 2 * h)), .inl (cX, 600, .inl g)) → wk.length = w.length → (∀ j, j ≠ 69 + 2 * h → wk[j]? = w[j]?) → (∀ i, i < 600 → g i = kx_pp (ck h) kk lx lo r y (r + 1) i) → kx_H D (va_A w s.heap.size) s wk H locs → ∀ (ls : Array Slot), lv_has ls 8 [(6, .int (nI y)), (0, .ref (sh.2 (68 + 2 * h))), (1, .int kk), (2, .int (nI lx)), (3, .int (nI lo)), (4, .int (nI r)), (5, .int (nI hi))] → W p l e (headSpec (Cond.code yX3_paint cX3_paint 8 none :: en_cw) (en_rm 1 (0, 0))).room s m ([.ref (sh.2 (68 + 2 * h)), .int kk, .int (nI lx), .int (nI lo), .int (nI r), .int (nI hi)] : List Value).toArray below meth c H locs (0) (0) (vx_MQ below (kx_Q 2 D (fun res w1 => ∃ (cX : ClassId) (g : Nat → Int32) (p c t : Int32), tys[1]? = some (cX, .char) ∧ w1[68 + 2 * h]? = some ((sh.2 (68 + 2 * h)), .inr (9, [.ref (sh.2 (69 + 2 * h)), .int p, .int (ix h), .int c, .int t, .int (ar h + 1)])) ∧ w1[69 + 2 * h]? = some ((sh.2 (69 + 2 * h)), .inl (cX, 600, .inl g)) ∧ (∀ i, i < 600 → g i = kx_pt (ck h) kk lx lo r hi i) ∧ w1.length = w.length ∧ ∀ j, j ≠ 68 + 2 * h → j ≠ 69 + 2 * h → w1[j]? = w[j]?) (va_A w s.heap.size)) (kx_XC D w (fun _ => False) (va_A w s.heap.size)) ([.ref (sh.2 (68 + 2 * h)), .int kk, .int (nI lx), .int (nI lo), .int (nI r), .int (nI hi)] : List Value).toArray s 0 0 (va_A w s.heap.size)) (F0 m 49 ls [])) → ∀ (wk : va_W) (H : Heap) (locs : List Loc) (g : Nat → Int32), wk[69 + 2 * h]? = some ((sh.2 (69 + 2 * h)), .inl (cX, 600, .inl g)) → wk.length = w.length → (∀ j, j ≠ 69 + 2 * h → wk[j]? = w[j]?) → (∀ i, i < 600 → g i = kx_pp (ck h) kk lx lo r y x i) → kx_H D (va_A w s.heap.size) s wk H locs → ∀ (ls : Array Slot), lv_has ls 8 [(7, .int (nI x)), (6, .int (nI y)), (0, .ref (sh.2 (68 + 2 * h))), (1, .int kk), (2, .int (nI lx)), (3, .int (nI lo)), (4, .int (nI r)), (5, .int (nI hi))] → W p l e (headSpec (Cond.code yX3_paint cX3_paint 8 none :: en_cw) (en_rm 1 (0, 0))).room s m ([.ref (sh.2 (68 + 2 * h)), .int kk, .int (nI lx), .int (nI lo), .int (nI r), .int (nI hi)] : List Value).toArray below meth c H locs (0) (0) (vx_MQ below (kx_Q 2 D (fun res w1 => ∃ (cX : ClassId) (g : Nat → Int32) (p c t : Int32), tys[1]? = some (cX, .char) ∧ w1[68 + 2 * h]? = some ((sh.2 (68 + 2 * h)), .inr (9, [.ref (sh.2 (69 + 2 * h)), .int p, .int (ix h), .int c, .int t, .int (ar h + 1)])) ∧ w1[69 + 2 * h]? = some ((sh.2 (69 + 2 * h)), .inl (cX, 600, .inl g)) ∧ (∀ i, i < 600 → g i = kx_pt (ck h) kk lx lo r hi i) ∧ w1.length = w.length ∧ ∀ j, j ≠ 68 + 2 * h → j ≠ 69 + 2 * h → w1[j]? = w[j]?) (va_A w s.heap.size)) (kx_XC D w (fun _ => False) (va_A w s.heap.size)) ([.ref (sh.2 (68 + 2 * h)), .int kk, .int (nI lx), .int (nI lo), .int (nI r), .int (nI hi)] : List Value).toArray s 0 0 (va_A w s.heap.size)) (F0 m 13 ls []) := by
    intro d
    induction d with
    | zero =>
      intro x y hd hx1 hy1 hy2 kn wk H locs g ha hn ho hg L ls hl
      refine lv_iload hx hb dk_X3_paint_13 (lv_at hl 0 rfl) ?_
      refine lv_iload hx hb dk_X3_paint_15 (lv_at hl 6 rfl) ?_
      refine lv_icmp_gt (tgt := 49) hx hb dk_X3_paint_17 (by decide) (fun _ => ?_) (fun c9 => absurd (nI_lt (a := r) (b := x) (by omega) (by omega)) c9)
      have e9 : x = r + 1 := by omega
      subst e9
      exact kn wk H locs g ha hn ho hg L ls (lv_sub hl [1, 2, 3, 4, 5, 6, 7] rfl)
    | succ d ih =>
      intro x y hd hx1 hy1 hy2 kn wk H locs g ha hn ho hg L ls hl
      refine lv_iload hx hb dk_X3_paint_13 (lv_at hl 0 rfl) ?_
      refine lv_iload hx hb dk_X3_paint_15 (lv_at hl 6 rfl) ?_
      refine lv_icmp_gt (tgt := 49) hx hb dk_X3_paint_17 (by decide) (fun c9 => absurd c9 (nI_nlt (a := r) (b := x) (by omega) (by omega))) (fun _ => ?_)
      refine lv_iload hx hb dk_X3_paint_20 (lv_at hl 0 rfl) ?_
      refine lv_iload hx hb dk_X3_paint_22 (lv_at hl 1 rfl) ?_
      refine kx_cS (As := [.int (nI x), .int (nI y)]) (rest := []) G L (kx_X6_isCell hl9 D (kx_D1 L)) gc_RX3_15s rfl (hml.trans hl.1.symm) ⟨Nat.le_of_ble_eq_true rfl, Nat.le_of_ble_eq_true rfl⟩ ⟨Nat.le_of_ble_eq_true rfl, Nat.le_of_ble_eq_true rfl⟩ (Nat.le_of_ble_eq_true rfl) dk_X3_paint_24 (fun _ _ _ _ _ h9 => h9.elim) (fun res w1 H locs hrv hq1 L => ?_)
      obtain ⟨ew1, hq1⟩ := hq1
      have ew1 := ew1.symm
      subst ew1
      rcases hq1 with ⟨rfl, c0⟩ | ⟨rfl, c0⟩
      · skip
        refine lv_if_eq (tgt := 43) hx hb dk_X3_paint_27 (by decide) (fun c9 => absurd c9 (by decide)) (fun _ => ?_)
        refine lv_aload_n hx hb dk_X3_paint_30 rfl (lv_at hl 2 rfl) ?_
        refine kx_get (v := .ref (sh.2 (69 + 2 * h))) G L (en_FTX3_ok (9, 9, 0) (by decide)) ((ho _ (by omega)).trans hob) rfl dk_X3_paint_31 ?_
        refine lv_iload hx hb dk_X3_paint_34 (lv_at hl 0 rfl) ?_
        refine lv_iload hx hb dk_X3_paint_36 (lv_at hl 1 rfl) ?_
        refine kx_cS (As := [.int (nI x), .int (nI y)]) (rest := [.ref (sh.2 (69 + 2 * h))]) G L (kx_X6_cellAt hl9 D (kx_D1 L)) gc_RX3_19s rfl (hml.trans hl.1.symm) ⟨Nat.le_of_ble_eq_true rfl, Nat.le_of_ble_eq_true rfl⟩ ⟨Nat.le_of_ble_eq_true rfl, Nat.le_of_ble_eq_true rfl⟩ (Nat.le_of_ble_eq_true rfl) dk_X3_paint_38 (fun _ _ _ _ _ h9 => h9.elim) (fun res w2 H locs hrv hq2 L => ?_)
        obtain ⟨ew2, hq2⟩ := hq2
        have ew2 := ew2.symm
        subst ew2
        obtain rfl := hq2
        refine lv_topi (fun y3 ey3 => ?_)
        obtain rfl : y3 = (nI (y * 30 + x)) := ey3.trans (kx_at (by omega) (by omega))
        refine lv_iload_n hx hb dk_X3_paint_41 rfl (lv_at hl 3 rfl) ?_
        refine kx_cast G L ha ht1 (show y * 30 + x < 600 by omega) (by decide) hk1 hk2 dk_X3_paint_42 (fun w4 H locs e4 n4 o4 L => ?_)
        refine lv_iinc (v := (nI (x + 1))) (lv' := [(7, .int (nI (x + 1))), (6, .int (nI y)), (0, .ref (sh.2 (68 + 2 * h))), (1, .int kk), (2, .int (nI lx)), (3, .int (nI lo)), (4, .int (nI r)), (5, .int (nI hi))]) hx hb dk_X3_paint_43 hl (k := 0) rfl (kx_inc (by omega)) (by decide) rfl (fun ls hl => ?_)
        refine lv_goto (tgt := 13) hx hb dk_X3_paint_46 (by decide) ?_
        exact ih (x + 1) y (by omega) (by omega) hy1 hy2 kn w4 H locs _ e4 (n4.trans hn) (fun j hj => (o4 j hj).trans (ho j hj)) (kx_ppx hg hx1 (by omega) hy1 (by omega)) L ls hl
      · exact absurd ⟨by rw [kx_nI (by omega)]; omega, by rw [kx_nI (by omega)]; omega, by rw [kx_nI (by omega)]; omega, by rw [kx_nI (by omega)]; omega⟩ c0
  have outer : ∀ (d y : Nat), y + d = hi + 1 → lo ≤ y → ∀ (wk : va_W) (H : Heap) (locs : List Loc) (g : Nat → Int32), wk[69 + 2 * h]? = some ((sh.2 (69 + 2 * h)), .inl (cX, 600, .inl g)) → wk.length = w.length → (∀ j, j ≠ 69 + 2 * h → wk[j]? = w[j]?) → (∀ i, i < 600 → g i = kx_pp (ck h) kk lx lo r y lx i) → kx_H D (va_A w s.heap.size) s wk H locs → ∀ (ls : Array Slot), lv_has ls 8 [(6, .int (nI y)), (0, .ref (sh.2 (68 + 2 * h))), (1, .int kk), (2, .int (nI lx)), (3, .int (nI lo)), (4, .int (nI r)), (5, .int (nI hi))] → W p l e (headSpec (Cond.code yX3_paint cX3_paint 8 none :: en_cw) (en_rm 1 (0, 0))).room s m ([.ref (sh.2 (68 + 2 * h)), .int kk, .int (nI lx), .int (nI lo), .int (nI r), .int (nI hi)] : List Value).toArray below meth c H locs (0) (0) (vx_MQ below (kx_Q 2 D (fun res w1 => ∃ (cX : ClassId) (g : Nat → Int32) (p c t : Int32), tys[1]? = some (cX, .char) ∧ w1[68 + 2 * h]? = some ((sh.2 (68 + 2 * h)), .inr (9, [.ref (sh.2 (69 + 2 * h)), .int p, .int (ix h), .int c, .int t, .int (ar h + 1)])) ∧ w1[69 + 2 * h]? = some ((sh.2 (69 + 2 * h)), .inl (cX, 600, .inl g)) ∧ (∀ i, i < 600 → g i = kx_pt (ck h) kk lx lo r hi i) ∧ w1.length = w.length ∧ ∀ j, j ≠ 68 + 2 * h → j ≠ 69 + 2 * h → w1[j]? = w[j]?) (va_A w s.heap.size)) (kx_XC D w (fun _ => False) (va_A w s.heap.size)) ([.ref (sh.2 (68 + 2 * h)), .int kk, .int (nI lx), .int (nI lo), .int (nI r), .int (nI hi)] : List Value).toArray s 0 0 (va_A w s.heap.size)) (F0 m 3 ls []) := by
    intro d
    induction d with
    | zero =>
      intro y hd hy1 wk H locs g ha hn ho hg L ls hl
      refine lv_iload hx hb dk_X3_paint_3 (lv_at hl 0 rfl) ?_
      refine lv_iload hx hb dk_X3_paint_5 (lv_at hl 6 rfl) ?_
      refine lv_icmp_gt (tgt := 55) hx hb dk_X3_paint_7 (by decide) (fun _ => ?_) (fun c9 => absurd (nI_lt (a := hi) (b := y) (by omega) (by omega)) c9)
      have e9 : y = hi + 1 := by omega
      subst e9
      refine lv_aload_n hx hb dk_X3_paint_55 rfl (lv_at hl 1 rfl) ?_
      refine lv_dup hx hb dk_X3_paint_56 rfl ?_
      refine kx_get (v := .int (ar h)) G L (en_FTX3_ok (23, 9, 5) (by decide)) ((ho _ (by omega)).trans hob) rfl dk_X3_paint_57 ?_
      refine lv_iconst (v := 1) hx hb dk_X3_paint_60 (by decide) ?_
      refine lv_iadd hx hb dk_X3_paint_61 ?_
      refine kx_put (x := ((ar h) + 1)) G L (en_PTX3_ok (23, 9, 5, 0) (by decide)) ((ho _ (by omega)).trans hob) (Nat.le_of_ble_eq_true rfl) (en_lo _) (en_hi _) dk_X3_paint_62 (fun w5 H locs e5 n5 o5 L => ?_)
      exact vx_ret (W.widen (Nat.le_of_ble_eq_true rfl) (Nat.le_of_ble_eq_true rfl) (W.vret hx hb hr (fun T9 hT9 _ => ⟨⟨w5, rfl, ⟨cX, g, _, _, _, ht1, e5, (o5 _ (by omega)).trans ha, kx_ppz hg, n5.trans hn, fun j h1 h2 => (o5 j h1).trans (ho j h2)⟩, by rw [hT9]; exact L.1, L.2.1⟩, L.2.2.F hT9⟩) L.2.2.2.2 dk_X3_paint_65 hlocks))
    | succ d ih =>
      intro y hd hy1 wk H locs g ha hn ho hg L ls hl
      refine lv_iload hx hb dk_X3_paint_3 (lv_at hl 0 rfl) ?_
      refine lv_iload hx hb dk_X3_paint_5 (lv_at hl 6 rfl) ?_
      refine lv_icmp_gt (tgt := 55) hx hb dk_X3_paint_7 (by decide) (fun c9 => absurd c9 (nI_nlt (a := hi) (b := y) (by omega) (by omega))) (fun _ => ?_)
      refine lv_iload_n hx hb dk_X3_paint_10 rfl (lv_at hl 3 rfl) ?_
      refine lv_istore (lv' := [(7, .int (nI lx)), (6, .int (nI y)), (0, .ref (sh.2 (68 + 2 * h))), (1, .int kk), (2, .int (nI lx)), (3, .int (nI lo)), (4, .int (nI r)), (5, .int (nI hi))]) hx hb dk_X3_paint_11 hl (by decide) rfl (fun ls hl => ?_)
      refine inner (r + 1 - lx) lx y (by omega) (Nat.le_refl lx) hy1 (by omega) (fun wk H locs g ha hn ho hg L ls hl => ?_) wk H locs g ha hn ho hg L ls (lv_sub hl [0, 1, 2, 3, 4, 5, 6, 7] rfl)
      refine lv_iinc (v := (nI (y + 1))) (lv' := [(6, .int (nI (y + 1))), (0, .ref (sh.2 (68 + 2 * h))), (1, .int kk), (2, .int (nI lx)), (3, .int (nI lo)), (4, .int (nI r)), (5, .int (nI hi))]) hx hb dk_X3_paint_49 hl (k := 0) rfl (kx_inc (by omega)) (by decide) rfl (fun ls hl => ?_)
      refine lv_goto (tgt := 3) hx hb dk_X3_paint_52 (by decide) ?_
      exact ih (y + 1) (by omega) (by omega) wk H locs g ha hn ho (kx_ppy hg hy1) L ls hl
  refine lv_iload_n hx hb dk_X3_paint_0 rfl (lv_at hl 3 rfl) ?_
  refine lv_istore (lv' := [(6, .int (nI lo)), (0, .ref (sh.2 (68 + 2 * h))), (1, .int kk), (2, .int (nI lx)), (3, .int (nI lo)), (4, .int (nI r)), (5, .int (nI hi))]) hx hb dk_X3_paint_1 hl (by decide) rfl (fun ls hl => ?_)
  exact outer (hi + 1 - lo) lo (by omega) (Nat.le_refl lo) w s.heap [] g0 hw0 rfl (fun _ _ => rfl) (fun i h9 => (hg0 i h9).trans kx_pp0.symm) L ls (lv_sub hl [0, 1, 2, 3, 4, 5, 6] rfl)
