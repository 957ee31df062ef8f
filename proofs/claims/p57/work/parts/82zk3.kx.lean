theorem dk_X6_cellAt_0 : decode cX6_cellAt 0 = .ok (.iload_n 1, 1) := by decide +kernel
theorem dk_X6_cellAt_1 : decode cX6_cellAt 1 = .ok (.bipush 30, 2) := by decide +kernel
theorem dk_X6_cellAt_3 : decode cX6_cellAt 3 = .ok (.imul, 1) := by decide +kernel
theorem dk_X6_cellAt_4 : decode cX6_cellAt 4 = .ok (.iload_n 0, 1) := by decide +kernel
theorem dk_X6_cellAt_5 : decode cX6_cellAt 5 = .ok (.iadd, 1) := by decide +kernel
theorem dk_X6_cellAt_6 : decode cX6_cellAt 6 = .ok (.ireturn, 1) := by decide +kernel
theorem dk_X6_isCell_0 : decode cX6_isCell 0 = .ok (.iload_n 0, 1) := by decide +kernel
theorem dk_X6_isCell_1 : decode cX6_isCell 1 = .ok (.ifCond .lt 23, 3) := by decide +kernel
theorem dk_X6_isCell_4 : decode cX6_isCell 4 = .ok (.iload_n 0, 1) := by decide +kernel
theorem dk_X6_isCell_5 : decode cX6_isCell 5 = .ok (.bipush 30, 2) := by decide +kernel
theorem dk_X6_isCell_7 : decode cX6_isCell 7 = .ok (.if_icmp .ge 17, 3) := by decide +kernel
theorem dk_X6_isCell_10 : decode cX6_isCell 10 = .ok (.iload_n 1, 1) := by decide +kernel
theorem dk_X6_isCell_11 : decode cX6_isCell 11 = .ok (.ifCond .lt 13, 3) := by decide +kernel
theorem dk_X6_isCell_14 : decode cX6_isCell 14 = .ok (.iload_n 1, 1) := by decide +kernel
theorem dk_X6_isCell_15 : decode cX6_isCell 15 = .ok (.bipush 20, 2) := by decide +kernel
theorem dk_X6_isCell_17 : decode cX6_isCell 17 = .ok (.if_icmp .ge 7, 3) := by decide +kernel
theorem dk_X6_isCell_20 : decode cX6_isCell 20 = .ok (.iconst 1, 1) := by decide +kernel
theorem dk_X6_isCell_21 : decode cX6_isCell 21 = .ok (.goto 4, 3) := by decide +kernel
theorem dk_X6_isCell_24 : decode cX6_isCell 24 = .ok (.iconst 0, 1) := by decide +kernel
theorem dk_X6_isCell_25 : decode cX6_isCell 25 = .ok (.ireturn, 1) := by decide +kernel
set_option maxHeartbeats 4000000 in
theorem kx_X6_isCell {l : Launch} (hl9 : l.stackTraces = false) (D : va_G) {tys : List (ClassId × FieldType)} {w : va_W} {sz : Nat} (hD0 : va_D (va_A w sz) w) {a1 a2 : Int32} : kx_C l yX6_isCell cX6_isCell 2 (some .boolean) 0 0 0 0 [.int a1, .int a2] D tys w sz (fun res w1 => w1 = w ∧ ((res = some (.int 1) ∧ en_ce a1 a2) ∨ (res = some (.int 0) ∧ ¬ en_ce a1 a2))) (fun _ => False) := by
  refine vx_ofW (cc := cX6_isCell) (maxL := 2) (ret := (some .boolean)) (by decide +kernel) rfl ?_
  intro p e s m args below meth c s₁ B9 hml hne hv
  obtain ⟨rfl, hsz, hP, hK, hT⟩ := hv
  subst hsz
  have hx := B9.exec
  have hb := B9.bytes
  have hr := B9.returns
  have hlocks := B9.notSynchronized
  have hts0 := atoms_spec (ws := Cond.code yX6_isCell cX6_isCell 2 (some .boolean) :: en_cw) B9.pre
  have hts : ∀ z ∈ en_cw, z.before _ s = true := fun z hz => hts0 z (List.mem_cons_of_mem _ hz)
  have hown : s.vm.findClass RX6 = some m.cls := findClass_of_methodNamed B9.named
  have G : kx_G p s m ([.int a1, .int a2] : List Value).toArray c cX6_isCell RX6 D tys (va_A w s.heap.size) := ⟨hx, hb, hts, hown, hK, hT, fun q h => Or.inr h⟩
  have L : kx_H D (va_A w s.heap.size) s w s.heap [] := ⟨hP, ⟨hD0.1, fun j z hz => Or.inl ⟨j, z.2, hz⟩⟩, va_S.rf⟩
  have hl := lv_entry ([.int a1, .int a2] : List Value) (n := 2) (Nat.le_of_ble_eq_true rfl)
  rw [lg_entry_eq]
  generalize (lg_sl ([.int a1, .int a2] : List Value) ++ List.replicate (2 - (lg_sl ([.int a1, .int a2] : List Value)).length) Slot.unset).toArray = ls at hl ⊢
  have hl : lv_has ls 2 [(0, .int a1), (1, .int a2)] := hl
  refine lv_iload_n hx hb dk_X6_isCell_0 rfl (lv_at hl 0 rfl) ?_
  have k2 : (0 : Int32).toInt = 0 := by decide
  refine lv_if_lt (tgt := 24) hx hb dk_X6_isCell_1 (by decide) (fun c1 => ?_) (fun c1 => ?_)
  · skip
    have tc1 : (a1 : Int32).toInt < (0 : Int32).toInt := Int32.lt_iff_toInt_lt.mp c1
    refine lv_iconst (v := 0) hx hb dk_X6_isCell_24 (by decide) ?_
    exact vx_ret (W.widen (Nat.le_of_ble_eq_true rfl) (Nat.le_of_ble_eq_true rfl) (W.zret (v := 0) (ty := .boolean) hx hb hr (by decide) (fun T9 hT9 _ => ⟨⟨0, w, rfl, ⟨rfl, Or.inr ⟨rfl, by unfold en_ce; omega⟩⟩, by rw [hT9]; exact L.1, L.2.1⟩, L.2.2.F hT9⟩) L.2.2.2.2 dk_X6_isCell_25 hlocks))
  · skip
    have tc1 : ¬ (a1 : Int32).toInt < (0 : Int32).toInt := fun h => c1 (Int32.lt_iff_toInt_lt.mpr h)
    refine lv_iload_n hx hb dk_X6_isCell_4 rfl (lv_at hl 0 rfl) ?_
    refine lv_bipush (v := 30) hx hb dk_X6_isCell_5 (by decide) ?_
    have k4 : (30 : Int32).toInt = 30 := by decide
    refine lv_icmp_ge (tgt := 24) hx hb dk_X6_isCell_7 (by decide) (fun c3 => ?_) (fun c3 => ?_)
    · skip
      have tc3 : (30 : Int32).toInt ≤ (a1 : Int32).toInt := Int32.le_iff_toInt_le.mp c3
      refine lv_iconst (v := 0) hx hb dk_X6_isCell_24 (by decide) ?_
      exact vx_ret (W.widen (Nat.le_of_ble_eq_true rfl) (Nat.le_of_ble_eq_true rfl) (W.zret (v := 0) (ty := .boolean) hx hb hr (by decide) (fun T9 hT9 _ => ⟨⟨0, w, rfl, ⟨rfl, Or.inr ⟨rfl, by unfold en_ce; omega⟩⟩, by rw [hT9]; exact L.1, L.2.1⟩, L.2.2.F hT9⟩) L.2.2.2.2 dk_X6_isCell_25 hlocks))
    · skip
      have tc3 : ¬ (30 : Int32).toInt ≤ (a1 : Int32).toInt := fun h => c3 (Int32.le_iff_toInt_le.mpr h)
      refine lv_iload_n hx hb dk_X6_isCell_10 rfl (lv_at hl 1 rfl) ?_
      have k6 : (0 : Int32).toInt = 0 := by decide
      refine lv_if_lt (tgt := 24) hx hb dk_X6_isCell_11 (by decide) (fun c5 => ?_) (fun c5 => ?_)
      · skip
        have tc5 : (a2 : Int32).toInt < (0 : Int32).toInt := Int32.lt_iff_toInt_lt.mp c5
        refine lv_iconst (v := 0) hx hb dk_X6_isCell_24 (by decide) ?_
        exact vx_ret (W.widen (Nat.le_of_ble_eq_true rfl) (Nat.le_of_ble_eq_true rfl) (W.zret (v := 0) (ty := .boolean) hx hb hr (by decide) (fun T9 hT9 _ => ⟨⟨0, w, rfl, ⟨rfl, Or.inr ⟨rfl, by unfold en_ce; omega⟩⟩, by rw [hT9]; exact L.1, L.2.1⟩, L.2.2.F hT9⟩) L.2.2.2.2 dk_X6_isCell_25 hlocks))
      · skip
        have tc5 : ¬ (a2 : Int32).toInt < (0 : Int32).toInt := fun h => c5 (Int32.lt_iff_toInt_lt.mpr h)
        refine lv_iload_n hx hb dk_X6_isCell_14 rfl (lv_at hl 1 rfl) ?_
        refine lv_bipush (v := 20) hx hb dk_X6_isCell_15 (by decide) ?_
        have k8 : (20 : Int32).toInt = 20 := by decide
        refine lv_icmp_ge (tgt := 24) hx hb dk_X6_isCell_17 (by decide) (fun c7 => ?_) (fun c7 => ?_)
        · skip
          have tc7 : (20 : Int32).toInt ≤ (a2 : Int32).toInt := Int32.le_iff_toInt_le.mp c7
          refine lv_iconst (v := 0) hx hb dk_X6_isCell_24 (by decide) ?_
          exact vx_ret (W.widen (Nat.le_of_ble_eq_true rfl) (Nat.le_of_ble_eq_true rfl) (W.zret (v := 0) (ty := .boolean) hx hb hr (by decide) (fun T9 hT9 _ => ⟨⟨0, w, rfl, ⟨rfl, Or.inr ⟨rfl, by unfold en_ce; omega⟩⟩, by rw [hT9]; exact L.1, L.2.1⟩, L.2.2.F hT9⟩) L.2.2.2.2 dk_X6_isCell_25 hlocks))
        · skip
          have tc7 : ¬ (20 : Int32).toInt ≤ (a2 : Int32).toInt := fun h => c7 (Int32.le_iff_toInt_le.mpr h)
          refine lv_iconst (v := 1) hx hb dk_X6_isCell_20 (by decide) ?_
          refine lv_goto (tgt := 25) hx hb dk_X6_isCell_21 (by decide) ?_
          exact vx_ret (W.widen (Nat.le_of_ble_eq_true rfl) (Nat.le_of_ble_eq_true rfl) (W.zret (v := 1) (ty := .boolean) hx hb hr (by decide) (fun T9 hT9 _ => ⟨⟨1, w, rfl, ⟨rfl, Or.inl ⟨rfl, by unfold en_ce; omega⟩⟩, by rw [hT9]; exact L.1, L.2.1⟩, L.2.2.F hT9⟩) L.2.2.2.2 dk_X6_isCell_25 hlocks))
set_option maxHeartbeats 4000000 in
theorem kx_X6_cellAt {l : Launch} (hl9 : l.stackTraces = false) (D : va_G) {tys : List (ClassId × FieldType)} {w : va_W} {sz : Nat} (hD0 : va_D (va_A w sz) w) {a1 a2 : Int32} : kx_C l yX6_cellAt cX6_cellAt 2 (some .int) 0 0 0 0 [.int a1, .int a2] D tys w sz (fun res w1 => w1 = w ∧ res = some (.int (a2 * 30 + a1))) (fun _ => False) := by
  refine vx_ofW (cc := cX6_cellAt) (maxL := 2) (ret := (some .int)) (by decide +kernel) rfl ?_
  intro p e s m args below meth c s₁ B9 hml hne hv
  obtain ⟨rfl, hsz, hP, hK, hT⟩ := hv
  subst hsz
  have hx := B9.exec
  have hb := B9.bytes
  have hr := B9.returns
  have hlocks := B9.notSynchronized
  have hts0 := atoms_spec (ws := Cond.code yX6_cellAt cX6_cellAt 2 (some .int) :: en_cw) B9.pre
  have hts : ∀ z ∈ en_cw, z.before _ s = true := fun z hz => hts0 z (List.mem_cons_of_mem _ hz)
  have hown : s.vm.findClass RX6 = some m.cls := findClass_of_methodNamed B9.named
  have G : kx_G p s m ([.int a1, .int a2] : List Value).toArray c cX6_cellAt RX6 D tys (va_A w s.heap.size) := ⟨hx, hb, hts, hown, hK, hT, fun q h => Or.inr h⟩
  have L : kx_H D (va_A w s.heap.size) s w s.heap [] := ⟨hP, ⟨hD0.1, fun j z hz => Or.inl ⟨j, z.2, hz⟩⟩, va_S.rf⟩
  have hl := lv_entry ([.int a1, .int a2] : List Value) (n := 2) (Nat.le_of_ble_eq_true rfl)
  rw [lg_entry_eq]
  generalize (lg_sl ([.int a1, .int a2] : List Value) ++ List.replicate (2 - (lg_sl ([.int a1, .int a2] : List Value)).length) Slot.unset).toArray = ls at hl ⊢
  have hl : lv_has ls 2 [(0, .int a1), (1, .int a2)] := hl
  refine lv_iload_n hx hb dk_X6_cellAt_0 rfl (lv_at hl 1 rfl) ?_
  refine lv_bipush (v := 30) hx hb dk_X6_cellAt_1 (by decide) ?_
  refine lv_imul hx hb dk_X6_cellAt_3 ?_
  refine lv_iload_n hx hb dk_X6_cellAt_4 rfl (lv_at hl 0 rfl) ?_
  refine lv_iadd hx hb dk_X6_cellAt_5 ?_
  exact vx_ret (W.widen (Nat.le_of_ble_eq_true rfl) (Nat.le_of_ble_eq_true rfl) (W.iret (v := ((a2 * 30) + a1)) hx hb hr (fun T9 hT9 _ => ⟨⟨((a2 * 30) + a1), w, rfl, ⟨rfl, rfl⟩, by rw [hT9]; exact L.1, L.2.1⟩, L.2.2.F hT9⟩) L.2.2.2.2 dk_X6_cellAt_6 hlocks))
theorem dk_X3_isFreeFrom_0 : decode cX3_isFreeFrom 0 = .ok (.aload_n 0, 1) := by decide +kernel
theorem dk_X3_isFreeFrom_1 : decode cX3_isFreeFrom 1 = .ok (.iload_n 2, 1) := by decide +kernel
theorem dk_X3_isFreeFrom_2 : decode cX3_isFreeFrom 2 = .ok (.invokevirtual 57, 3) := by decide +kernel
theorem dk_X3_isFreeFrom_5 : decode cX3_isFreeFrom 5 = .ok (.ifCond .eq 26, 3) := by decide +kernel
theorem dk_X3_isFreeFrom_8 : decode cX3_isFreeFrom 8 = .ok (.iload_n 2, 1) := by decide +kernel
theorem dk_X3_isFreeFrom_9 : decode cX3_isFreeFrom 9 = .ok (.aload_n 0, 1) := by decide +kernel
theorem dk_X3_isFreeFrom_10 : decode cX3_isFreeFrom 10 = .ok (.getfield 27, 3) := by decide +kernel
theorem dk_X3_isFreeFrom_13 : decode cX3_isFreeFrom 13 = .ok (.invokestatic 34, 3) := by decide +kernel
theorem dk_X3_isFreeFrom_16 : decode cX3_isFreeFrom 16 = .ok (.iload_n 1, 1) := by decide +kernel
theorem dk_X3_isFreeFrom_17 : decode cX3_isFreeFrom 17 = .ok (.aload_n 0, 1) := by decide +kernel
theorem dk_X3_isFreeFrom_18 : decode cX3_isFreeFrom 18 = .ok (.getfield 27, 3) := by decide +kernel
theorem dk_X3_isFreeFrom_21 : decode cX3_isFreeFrom 21 = .ok (.invokestatic 34, 3) := by decide +kernel
theorem dk_X3_isFreeFrom_24 : decode cX3_isFreeFrom 24 = .ok (.if_icmp .lt 7, 3) := by decide +kernel
theorem dk_X3_isFreeFrom_27 : decode cX3_isFreeFrom 27 = .ok (.iconst 1, 1) := by decide +kernel
theorem dk_X3_isFreeFrom_28 : decode cX3_isFreeFrom 28 = .ok (.goto 4, 3) := by decide +kernel
theorem dk_X3_isFreeFrom_31 : decode cX3_isFreeFrom 31 = .ok (.iconst 0, 1) := by decide +kernel
theorem dk_X3_isFreeFrom_32 : decode cX3_isFreeFrom 32 = .ok (.ireturn, 1) := by decide +kernel
theorem dk_X3_isFreeGround_0 : decode cX3_isFreeGround 0 = .ok (.aload_n 0, 1) := by decide +kernel
theorem dk_X3_isFreeGround_1 : decode cX3_isFreeGround 1 = .ok (.iload_n 1, 1) := by decide +kernel
theorem dk_X3_isFreeGround_2 : decode cX3_isFreeGround 2 = .ok (.invokevirtual 30, 3) := by decide +kernel
theorem dk_X3_isFreeGround_5 : decode cX3_isFreeGround 5 = .ok (.bipush 46, 2) := by decide +kernel
theorem dk_X3_isFreeGround_7 : decode cX3_isFreeGround 7 = .ok (.if_icmp .ne 15, 3) := by decide +kernel
theorem dk_X3_isFreeGround_10 : decode cX3_isFreeGround 10 = .ok (.iload_n 1, 1) := by decide +kernel
theorem dk_X3_isFreeGround_11 : decode cX3_isFreeGround 11 = .ok (.aload_n 0, 1) := by decide +kernel
theorem dk_X3_isFreeGround_12 : decode cX3_isFreeGround 12 = .ok (.getfield 27, 3) := by decide +kernel
theorem dk_X3_isFreeGround_15 : decode cX3_isFreeGround 15 = .ok (.if_icmp .eq 7, 3) := by decide +kernel
theorem dk_X3_isFreeGround_18 : decode cX3_isFreeGround 18 = .ok (.iconst 1, 1) := by decide +kernel
theorem dk_X3_isFreeGround_19 : decode cX3_isFreeGround 19 = .ok (.goto 4, 3) := by decide +kernel
theorem dk_X3_isFreeGround_22 : decode cX3_isFreeGround 22 = .ok (.iconst 0, 1) := by decide +kernel
theorem dk_X3_isFreeGround_23 : decode cX3_isFreeGround 23 = .ok (.ireturn, 1) := by decide +kernel
theorem dk_X3_kindOf_0 : decode cX3_kindOf 0 = .ok (.iload_n 1, 1) := by decide +kernel
theorem dk_X3_kindOf_1 : decode cX3_kindOf 1 = .ok (.ifCond .lt 19, 3) := by decide +kernel
theorem dk_X3_kindOf_4 : decode cX3_kindOf 4 = .ok (.iload_n 1, 1) := by decide +kernel
theorem dk_X3_kindOf_5 : decode cX3_kindOf 5 = .ok (.sipush 600, 3) := by decide +kernel
theorem dk_X3_kindOf_8 : decode cX3_kindOf 8 = .ok (.if_icmp .ge 12, 3) := by decide +kernel
theorem dk_X3_kindOf_11 : decode cX3_kindOf 11 = .ok (.aload_n 0, 1) := by decide +kernel
theorem dk_X3_kindOf_12 : decode cX3_kindOf 12 = .ok (.getfield 9, 3) := by decide +kernel
theorem dk_X3_kindOf_15 : decode cX3_kindOf 15 = .ok (.iload_n 1, 1) := by decide +kernel
theorem dk_X3_kindOf_16 : decode cX3_kindOf 16 = .ok (.caload, 1) := by decide +kernel
theorem dk_X3_kindOf_17 : decode cX3_kindOf 17 = .ok (.goto 5, 3) := by decide +kernel
theorem dk_X3_kindOf_20 : decode cX3_kindOf 20 = .ok (.bipush 102, 2) := by decide +kernel
theorem dk_X3_kindOf_22 : decode cX3_kindOf 22 = .ok (.ireturn, 1) := by decide +kernel
theorem dk_X3_nearestPoint_0 : decode cX3_nearestPoint 0 = .ok (.iconst (-1), 1) := by decide +kernel
theorem dk_X3_nearestPoint_1 : decode cX3_nearestPoint 1 = .ok (.istore_n 2, 1) := by decide +kernel
theorem dk_X3_nearestPoint_2 : decode cX3_nearestPoint 2 = .ok (.iconst 0, 1) := by decide +kernel
theorem dk_X3_nearestPoint_3 : decode cX3_nearestPoint 3 = .ok (.istore_n 3, 1) := by decide +kernel
theorem dk_X3_nearestPoint_4 : decode cX3_nearestPoint 4 = .ok (.iconst 0, 1) := by decide +kernel
theorem dk_X3_nearestPoint_5 : decode cX3_nearestPoint 5 = .ok (.istore 4, 2) := by decide +kernel
theorem dk_X3_nearestPoint_7 : decode cX3_nearestPoint 7 = .ok (.iload 4, 2) := by decide +kernel
theorem dk_X3_nearestPoint_9 : decode cX3_nearestPoint 9 = .ok (.sipush 600, 3) := by decide +kernel
theorem dk_X3_nearestPoint_12 : decode cX3_nearestPoint 12 = .ok (.if_icmp .ge 44, 3) := by decide +kernel
theorem dk_X3_nearestPoint_15 : decode cX3_nearestPoint 15 = .ok (.aload_n 0, 1) := by decide +kernel
theorem dk_X3_nearestPoint_16 : decode cX3_nearestPoint 16 = .ok (.iload_n 1, 1) := by decide +kernel
theorem dk_X3_nearestPoint_17 : decode cX3_nearestPoint 17 = .ok (.iload 4, 2) := by decide +kernel
theorem dk_X3_nearestPoint_19 : decode cX3_nearestPoint 19 = .ok (.invokevirtual 60, 3) := by decide +kernel
theorem dk_X3_nearestPoint_22 : decode cX3_nearestPoint 22 = .ok (.ifCond .eq 28, 3) := by decide +kernel
theorem dk_X3_nearestPoint_25 : decode cX3_nearestPoint 25 = .ok (.iload_n 1, 1) := by decide +kernel
theorem dk_X3_nearestPoint_26 : decode cX3_nearestPoint 26 = .ok (.iload 4, 2) := by decide +kernel
theorem dk_X3_nearestPoint_28 : decode cX3_nearestPoint 28 = .ok (.invokestatic 34, 3) := by decide +kernel
theorem dk_X3_nearestPoint_31 : decode cX3_nearestPoint 31 = .ok (.istore 5, 2) := by decide +kernel
theorem dk_X3_nearestPoint_33 : decode cX3_nearestPoint 33 = .ok (.iload_n 2, 1) := by decide +kernel
theorem dk_X3_nearestPoint_34 : decode cX3_nearestPoint 34 = .ok (.iconst (-1), 1) := by decide +kernel
theorem dk_X3_nearestPoint_35 : decode cX3_nearestPoint 35 = .ok (.if_icmp .eq 9, 3) := by decide +kernel
theorem dk_X3_nearestPoint_38 : decode cX3_nearestPoint 38 = .ok (.iload 5, 2) := by decide +kernel
theorem dk_X3_nearestPoint_40 : decode cX3_nearestPoint 40 = .ok (.iload_n 3, 1) := by decide +kernel
theorem dk_X3_nearestPoint_41 : decode cX3_nearestPoint 41 = .ok (.if_icmp .ge 9, 3) := by decide +kernel
theorem dk_X3_nearestPoint_44 : decode cX3_nearestPoint 44 = .ok (.iload 4, 2) := by decide +kernel
theorem dk_X3_nearestPoint_46 : decode cX3_nearestPoint 46 = .ok (.istore_n 2, 1) := by decide +kernel
theorem dk_X3_nearestPoint_47 : decode cX3_nearestPoint 47 = .ok (.iload 5, 2) := by decide +kernel
theorem dk_X3_nearestPoint_49 : decode cX3_nearestPoint 49 = .ok (.istore_n 3, 1) := by decide +kernel
theorem dk_X3_nearestPoint_50 : decode cX3_nearestPoint 50 = .ok (.iinc 4 1, 3) := by decide +kernel
theorem dk_X3_nearestPoint_53 : decode cX3_nearestPoint 53 = .ok (.goto (-46), 3) := by decide +kernel
theorem dk_X3_nearestPoint_56 : decode cX3_nearestPoint 56 = .ok (.iload_n 2, 1) := by decide +kernel
theorem dk_X3_nearestPoint_57 : decode cX3_nearestPoint 57 = .ok (.ireturn, 1) := by decide +kernel
theorem dk_X3_pointAtDistance_0 : decode cX3_pointAtDistance 0 = .ok (.iconst 0, 1) := by decide +kernel
theorem dk_X3_pointAtDistance_1 : decode cX3_pointAtDistance 1 = .ok (.istore_n 3, 1) := by decide +kernel
theorem dk_X3_pointAtDistance_2 : decode cX3_pointAtDistance 2 = .ok (.iconst 0, 1) := by decide +kernel
theorem dk_X3_pointAtDistance_3 : decode cX3_pointAtDistance 3 = .ok (.istore 4, 2) := by decide +kernel
theorem dk_X3_pointAtDistance_5 : decode cX3_pointAtDistance 5 = .ok (.iload 4, 2) := by decide +kernel
theorem dk_X3_pointAtDistance_7 : decode cX3_pointAtDistance 7 = .ok (.bipush 20, 2) := by decide +kernel
theorem dk_X3_pointAtDistance_9 : decode cX3_pointAtDistance 9 = .ok (.if_icmp .ge 70, 3) := by decide +kernel
theorem dk_X3_pointAtDistance_12 : decode cX3_pointAtDistance 12 = .ok (.iload 4, 2) := by decide +kernel
theorem dk_X3_pointAtDistance_14 : decode cX3_pointAtDistance 14 = .ok (.iload_n 1, 1) := by decide +kernel
theorem dk_X3_pointAtDistance_15 : decode cX3_pointAtDistance 15 = .ok (.bipush 30, 2) := by decide +kernel
theorem dk_X3_pointAtDistance_17 : decode cX3_pointAtDistance 17 = .ok (.idiv, 1) := by decide +kernel
theorem dk_X3_pointAtDistance_18 : decode cX3_pointAtDistance 18 = .ok (.isub, 1) := by decide +kernel
theorem dk_X3_pointAtDistance_19 : decode cX3_pointAtDistance 19 = .ok (.istore 5, 2) := by decide +kernel
theorem dk_X3_pointAtDistance_21 : decode cX3_pointAtDistance 21 = .ok (.iload_n 2, 1) := by decide +kernel
theorem dk_X3_pointAtDistance_22 : decode cX3_pointAtDistance 22 = .ok (.iload 5, 2) := by decide +kernel
theorem dk_X3_pointAtDistance_24 : decode cX3_pointAtDistance 24 = .ok (.iload 5, 2) := by decide +kernel
theorem dk_X3_pointAtDistance_26 : decode cX3_pointAtDistance 26 = .ok (.imul, 1) := by decide +kernel
theorem dk_X3_pointAtDistance_27 : decode cX3_pointAtDistance 27 = .ok (.isub, 1) := by decide +kernel
theorem dk_X3_pointAtDistance_28 : decode cX3_pointAtDistance 28 = .ok (.istore 6, 2) := by decide +kernel
theorem dk_X3_pointAtDistance_30 : decode cX3_pointAtDistance 30 = .ok (.iload 6, 2) := by decide +kernel
theorem dk_X3_pointAtDistance_32 : decode cX3_pointAtDistance 32 = .ok (.ifCond .lt 41, 3) := by decide +kernel
theorem dk_X3_pointAtDistance_35 : decode cX3_pointAtDistance 35 = .ok (.iload_n 3, 1) := by decide +kernel
theorem dk_X3_pointAtDistance_36 : decode cX3_pointAtDistance 36 = .ok (.iload 6, 2) := by decide +kernel
theorem dk_X3_pointAtDistance_38 : decode cX3_pointAtDistance 38 = .ok (.invokestatic 66, 3) := by decide +kernel
theorem dk_X3_pointAtDistance_41 : decode cX3_pointAtDistance 41 = .ok (.istore_n 3, 1) := by decide +kernel
theorem dk_X3_pointAtDistance_42 : decode cX3_pointAtDistance 42 = .ok (.iload_n 3, 1) := by decide +kernel
theorem dk_X3_pointAtDistance_43 : decode cX3_pointAtDistance 43 = .ok (.iload_n 3, 1) := by decide +kernel
theorem dk_X3_pointAtDistance_44 : decode cX3_pointAtDistance 44 = .ok (.imul, 1) := by decide +kernel
theorem dk_X3_pointAtDistance_45 : decode cX3_pointAtDistance 45 = .ok (.iload 6, 2) := by decide +kernel
theorem dk_X3_pointAtDistance_47 : decode cX3_pointAtDistance 47 = .ok (.if_icmp .ne 14, 3) := by decide +kernel
theorem dk_X3_pointAtDistance_50 : decode cX3_pointAtDistance 50 = .ok (.aload_n 0, 1) := by decide +kernel
theorem dk_X3_pointAtDistance_51 : decode cX3_pointAtDistance 51 = .ok (.iload_n 1, 1) := by decide +kernel
theorem dk_X3_pointAtDistance_52 : decode cX3_pointAtDistance 52 = .ok (.iload_n 3, 1) := by decide +kernel
theorem dk_X3_pointAtDistance_53 : decode cX3_pointAtDistance 53 = .ok (.iload 4, 2) := by decide +kernel
theorem dk_X3_pointAtDistance_55 : decode cX3_pointAtDistance 55 = .ok (.invokevirtual 69, 3) := by decide +kernel
theorem dk_X3_pointAtDistance_58 : decode cX3_pointAtDistance 58 = .ok (.goto 4, 3) := by decide +kernel
theorem dk_X3_pointAtDistance_61 : decode cX3_pointAtDistance 61 = .ok (.iconst (-1), 1) := by decide +kernel
theorem dk_X3_pointAtDistance_62 : decode cX3_pointAtDistance 62 = .ok (.istore 7, 2) := by decide +kernel
theorem dk_X3_pointAtDistance_64 : decode cX3_pointAtDistance 64 = .ok (.iload 7, 2) := by decide +kernel
theorem dk_X3_pointAtDistance_66 : decode cX3_pointAtDistance 66 = .ok (.iconst (-1), 1) := by decide +kernel
theorem dk_X3_pointAtDistance_67 : decode cX3_pointAtDistance 67 = .ok (.if_icmp .eq 6, 3) := by decide +kernel
theorem dk_X3_pointAtDistance_70 : decode cX3_pointAtDistance 70 = .ok (.iload 7, 2) := by decide +kernel
theorem dk_X3_pointAtDistance_72 : decode cX3_pointAtDistance 72 = .ok (.ireturn, 1) := by decide +kernel
theorem dk_X3_pointAtDistance_73 : decode cX3_pointAtDistance 73 = .ok (.iinc 4 1, 3) := by decide +kernel
theorem dk_X3_pointAtDistance_76 : decode cX3_pointAtDistance 76 = .ok (.goto (-71), 3) := by decide +kernel
theorem dk_X3_pointAtDistance_79 : decode cX3_pointAtDistance 79 = .ok (.iconst (-1), 1) := by decide +kernel
theorem dk_X3_pointAtDistance_80 : decode cX3_pointAtDistance 80 = .ok (.ireturn, 1) := by decide +kernel
theorem dk_X3_pointByRisingDistances_0 : decode cX3_pointByRisingDistances 0 = .ok (.iconst 0, 1) := by decide +kernel
theorem dk_X3_pointByRisingDistances_1 : decode cX3_pointByRisingDistances 1 = .ok (.istore_n 2, 1) := by decide +kernel
theorem dk_X3_pointByRisingDistances_2 : decode cX3_pointByRisingDistances 2 = .ok (.iload_n 2, 1) := by decide +kernel
theorem dk_X3_pointByRisingDistances_3 : decode cX3_pointByRisingDistances 3 = .ok (.sipush 1202, 3) := by decide +kernel
theorem dk_X3_pointByRisingDistances_6 : decode cX3_pointByRisingDistances 6 = .ok (.if_icmp .gt 23, 3) := by decide +kernel
theorem dk_X3_pointByRisingDistances_9 : decode cX3_pointByRisingDistances 9 = .ok (.aload_n 0, 1) := by decide +kernel
theorem dk_X3_pointByRisingDistances_10 : decode cX3_pointByRisingDistances 10 = .ok (.iload_n 1, 1) := by decide +kernel
theorem dk_X3_pointByRisingDistances_11 : decode cX3_pointByRisingDistances 11 = .ok (.iload_n 2, 1) := by decide +kernel
theorem dk_X3_pointByRisingDistances_12 : decode cX3_pointByRisingDistances 12 = .ok (.invokevirtual 63, 3) := by decide +kernel
theorem dk_X3_pointByRisingDistances_15 : decode cX3_pointByRisingDistances 15 = .ok (.istore_n 3, 1) := by decide +kernel
theorem dk_X3_pointByRisingDistances_16 : decode cX3_pointByRisingDistances 16 = .ok (.iload_n 3, 1) := by decide +kernel
theorem dk_X3_pointByRisingDistances_17 : decode cX3_pointByRisingDistances 17 = .ok (.iconst (-1), 1) := by decide +kernel
theorem dk_X3_pointByRisingDistances_18 : decode cX3_pointByRisingDistances 18 = .ok (.if_icmp .eq 5, 3) := by decide +kernel
theorem dk_X3_pointByRisingDistances_21 : decode cX3_pointByRisingDistances 21 = .ok (.iload_n 3, 1) := by decide +kernel
theorem dk_X3_pointByRisingDistances_22 : decode cX3_pointByRisingDistances 22 = .ok (.ireturn, 1) := by decide +kernel
theorem dk_X3_pointByRisingDistances_23 : decode cX3_pointByRisingDistances 23 = .ok (.iinc 2 1, 3) := by decide +kernel
theorem dk_X3_pointByRisingDistances_26 : decode cX3_pointByRisingDistances 26 = .ok (.goto (-24), 3) := by decide +kernel
theorem dk_X3_pointByRisingDistances_29 : decode cX3_pointByRisingDistances 29 = .ok (.iconst (-1), 1) := by decide +kernel
theorem dk_X3_pointByRisingDistances_30 : decode cX3_pointByRisingDistances 30 = .ok (.ireturn, 1) := by decide +kernel
theorem dk_X3_pointInRow_0 : decode cX3_pointInRow 0 = .ok (.iload_n 1, 1) := by decide +kernel
theorem dk_X3_pointInRow_1 : decode cX3_pointInRow 1 = .ok (.bipush 30, 2) := by decide +kernel
theorem dk_X3_pointInRow_3 : decode cX3_pointInRow 3 = .ok (.irem, 1) := by decide +kernel
theorem dk_X3_pointInRow_4 : decode cX3_pointInRow 4 = .ok (.istore 4, 2) := by decide +kernel
theorem dk_X3_pointInRow_6 : decode cX3_pointInRow 6 = .ok (.iload 4, 2) := by decide +kernel
theorem dk_X3_pointInRow_8 : decode cX3_pointInRow 8 = .ok (.iload_n 2, 1) := by decide +kernel
theorem dk_X3_pointInRow_9 : decode cX3_pointInRow 9 = .ok (.isub, 1) := by decide +kernel
theorem dk_X3_pointInRow_10 : decode cX3_pointInRow 10 = .ok (.iload_n 3, 1) := by decide +kernel
theorem dk_X3_pointInRow_11 : decode cX3_pointInRow 11 = .ok (.invokestatic 15, 3) := by decide +kernel
theorem dk_X3_pointInRow_14 : decode cX3_pointInRow 14 = .ok (.ifCond .eq 28, 3) := by decide +kernel
theorem dk_X3_pointInRow_17 : decode cX3_pointInRow 17 = .ok (.aload_n 0, 1) := by decide +kernel
theorem dk_X3_pointInRow_18 : decode cX3_pointInRow 18 = .ok (.iload_n 1, 1) := by decide +kernel
theorem dk_X3_pointInRow_19 : decode cX3_pointInRow 19 = .ok (.iload 4, 2) := by decide +kernel
theorem dk_X3_pointInRow_21 : decode cX3_pointInRow 21 = .ok (.iload_n 2, 1) := by decide +kernel
theorem dk_X3_pointInRow_22 : decode cX3_pointInRow 22 = .ok (.isub, 1) := by decide +kernel
theorem dk_X3_pointInRow_23 : decode cX3_pointInRow 23 = .ok (.iload_n 3, 1) := by decide +kernel
theorem dk_X3_pointInRow_24 : decode cX3_pointInRow 24 = .ok (.invokestatic 19, 3) := by decide +kernel
theorem dk_X3_pointInRow_27 : decode cX3_pointInRow 27 = .ok (.invokevirtual 60, 3) := by decide +kernel
theorem dk_X3_pointInRow_30 : decode cX3_pointInRow 30 = .ok (.ifCond .eq 12, 3) := by decide +kernel
theorem dk_X3_pointInRow_33 : decode cX3_pointInRow 33 = .ok (.iload 4, 2) := by decide +kernel
theorem dk_X3_pointInRow_35 : decode cX3_pointInRow 35 = .ok (.iload_n 2, 1) := by decide +kernel
theorem dk_X3_pointInRow_36 : decode cX3_pointInRow 36 = .ok (.isub, 1) := by decide +kernel
theorem dk_X3_pointInRow_37 : decode cX3_pointInRow 37 = .ok (.iload_n 3, 1) := by decide +kernel
theorem dk_X3_pointInRow_38 : decode cX3_pointInRow 38 = .ok (.invokestatic 19, 3) := by decide +kernel
theorem dk_X3_pointInRow_41 : decode cX3_pointInRow 41 = .ok (.ireturn, 1) := by decide +kernel
theorem dk_X3_pointInRow_42 : decode cX3_pointInRow 42 = .ok (.iload 4, 2) := by decide +kernel
theorem dk_X3_pointInRow_44 : decode cX3_pointInRow 44 = .ok (.iload_n 2, 1) := by decide +kernel
theorem dk_X3_pointInRow_45 : decode cX3_pointInRow 45 = .ok (.iadd, 1) := by decide +kernel
theorem dk_X3_pointInRow_46 : decode cX3_pointInRow 46 = .ok (.iload_n 3, 1) := by decide +kernel
theorem dk_X3_pointInRow_47 : decode cX3_pointInRow 47 = .ok (.invokestatic 15, 3) := by decide +kernel
theorem dk_X3_pointInRow_50 : decode cX3_pointInRow 50 = .ok (.ifCond .eq 28, 3) := by decide +kernel
theorem dk_X3_pointInRow_53 : decode cX3_pointInRow 53 = .ok (.aload_n 0, 1) := by decide +kernel
theorem dk_X3_pointInRow_54 : decode cX3_pointInRow 54 = .ok (.iload_n 1, 1) := by decide +kernel
theorem dk_X3_pointInRow_55 : decode cX3_pointInRow 55 = .ok (.iload 4, 2) := by decide +kernel
theorem dk_X3_pointInRow_57 : decode cX3_pointInRow 57 = .ok (.iload_n 2, 1) := by decide +kernel
theorem dk_X3_pointInRow_58 : decode cX3_pointInRow 58 = .ok (.iadd, 1) := by decide +kernel
theorem dk_X3_pointInRow_59 : decode cX3_pointInRow 59 = .ok (.iload_n 3, 1) := by decide +kernel
theorem dk_X3_pointInRow_60 : decode cX3_pointInRow 60 = .ok (.invokestatic 19, 3) := by decide +kernel
theorem dk_X3_pointInRow_63 : decode cX3_pointInRow 63 = .ok (.invokevirtual 60, 3) := by decide +kernel
theorem dk_X3_pointInRow_66 : decode cX3_pointInRow 66 = .ok (.ifCond .eq 12, 3) := by decide +kernel
theorem dk_X3_pointInRow_69 : decode cX3_pointInRow 69 = .ok (.iload 4, 2) := by decide +kernel
theorem dk_X3_pointInRow_71 : decode cX3_pointInRow 71 = .ok (.iload_n 2, 1) := by decide +kernel
theorem dk_X3_pointInRow_72 : decode cX3_pointInRow 72 = .ok (.iadd, 1) := by decide +kernel
theorem dk_X3_pointInRow_73 : decode cX3_pointInRow 73 = .ok (.iload_n 3, 1) := by decide +kernel
theorem dk_X3_pointInRow_74 : decode cX3_pointInRow 74 = .ok (.invokestatic 19, 3) := by decide +kernel
theorem dk_X3_pointInRow_77 : decode cX3_pointInRow 77 = .ok (.ireturn, 1) := by decide +kernel
theorem dk_X3_pointInRow_78 : decode cX3_pointInRow 78 = .ok (.iconst (-1), 1) := by decide +kernel
theorem dk_X3_pointInRow_79 : decode cX3_pointInRow 79 = .ok (.ireturn, 1) := by decide +kernel
theorem dk_X6_distance_0 : decode cX6_distance 0 = .ok (.iload_n 0, 1) := by decide +kernel
theorem dk_X6_distance_1 : decode cX6_distance 1 = .ok (.bipush 30, 2) := by decide +kernel
theorem dk_X6_distance_3 : decode cX6_distance 3 = .ok (.irem, 1) := by decide +kernel
theorem dk_X6_distance_4 : decode cX6_distance 4 = .ok (.iload_n 1, 1) := by decide +kernel
theorem dk_X6_distance_5 : decode cX6_distance 5 = .ok (.bipush 30, 2) := by decide +kernel
theorem dk_X6_distance_7 : decode cX6_distance 7 = .ok (.irem, 1) := by decide +kernel
theorem dk_X6_distance_8 : decode cX6_distance 8 = .ok (.isub, 1) := by decide +kernel
theorem dk_X6_distance_9 : decode cX6_distance 9 = .ok (.istore_n 2, 1) := by decide +kernel
theorem dk_X6_distance_10 : decode cX6_distance 10 = .ok (.iload_n 0, 1) := by decide +kernel
theorem dk_X6_distance_11 : decode cX6_distance 11 = .ok (.bipush 30, 2) := by decide +kernel
theorem dk_X6_distance_13 : decode cX6_distance 13 = .ok (.idiv, 1) := by decide +kernel
theorem dk_X6_distance_14 : decode cX6_distance 14 = .ok (.iload_n 1, 1) := by decide +kernel
theorem dk_X6_distance_15 : decode cX6_distance 15 = .ok (.bipush 30, 2) := by decide +kernel
theorem dk_X6_distance_17 : decode cX6_distance 17 = .ok (.idiv, 1) := by decide +kernel
theorem dk_X6_distance_18 : decode cX6_distance 18 = .ok (.isub, 1) := by decide +kernel
theorem dk_X6_distance_19 : decode cX6_distance 19 = .ok (.istore_n 3, 1) := by decide +kernel
theorem dk_X6_distance_20 : decode cX6_distance 20 = .ok (.iload_n 2, 1) := by decide +kernel
theorem dk_X6_distance_21 : decode cX6_distance 21 = .ok (.iload_n 2, 1) := by decide +kernel
theorem dk_X6_distance_22 : decode cX6_distance 22 = .ok (.imul, 1) := by decide +kernel
theorem dk_X6_distance_23 : decode cX6_distance 23 = .ok (.iload_n 3, 1) := by decide +kernel
theorem dk_X6_distance_24 : decode cX6_distance 24 = .ok (.iload_n 3, 1) := by decide +kernel
theorem dk_X6_distance_25 : decode cX6_distance 25 = .ok (.imul, 1) := by decide +kernel
theorem dk_X6_distance_26 : decode cX6_distance 26 = .ok (.iadd, 1) := by decide +kernel
theorem dk_X6_distance_27 : decode cX6_distance 27 = .ok (.ireturn, 1) := by decide +kernel
theorem dk_X6_rootFrom_0 : decode cX6_rootFrom 0 = .ok (.iload_n 0, 1) := by decide +kernel
theorem dk_X6_rootFrom_1 : decode cX6_rootFrom 1 = .ok (.istore_n 2, 1) := by decide +kernel
theorem dk_X6_rootFrom_2 : decode cX6_rootFrom 2 = .ok (.iconst 0, 1) := by decide +kernel
theorem dk_X6_rootFrom_3 : decode cX6_rootFrom 3 = .ok (.istore_n 3, 1) := by decide +kernel
theorem dk_X6_rootFrom_4 : decode cX6_rootFrom 4 = .ok (.iload_n 3, 1) := by decide +kernel
theorem dk_X6_rootFrom_5 : decode cX6_rootFrom 5 = .ok (.sipush 600, 3) := by decide +kernel
theorem dk_X6_rootFrom_8 : decode cX6_rootFrom 8 = .ok (.if_icmp .ge 19, 3) := by decide +kernel
theorem dk_X6_rootFrom_11 : decode cX6_rootFrom 11 = .ok (.iload_n 2, 1) := by decide +kernel
theorem dk_X6_rootFrom_12 : decode cX6_rootFrom 12 = .ok (.iload_n 2, 1) := by decide +kernel
theorem dk_X6_rootFrom_13 : decode cX6_rootFrom 13 = .ok (.imul, 1) := by decide +kernel
theorem dk_X6_rootFrom_14 : decode cX6_rootFrom 14 = .ok (.iload_n 1, 1) := by decide +kernel
theorem dk_X6_rootFrom_15 : decode cX6_rootFrom 15 = .ok (.if_icmp .le 12, 3) := by decide +kernel
theorem dk_X6_rootFrom_18 : decode cX6_rootFrom 18 = .ok (.iinc 2 (-1), 3) := by decide +kernel
theorem dk_X6_rootFrom_21 : decode cX6_rootFrom 21 = .ok (.iinc 3 1, 3) := by decide +kernel
theorem dk_X6_rootFrom_24 : decode cX6_rootFrom 24 = .ok (.goto (-20), 3) := by decide +kernel
theorem dk_X6_rootFrom_27 : decode cX6_rootFrom 27 = .ok (.iconst 0, 1) := by decide +kernel
theorem dk_X6_rootFrom_28 : decode cX6_rootFrom 28 = .ok (.istore_n 3, 1) := by decide +kernel
theorem dk_X6_rootFrom_29 : decode cX6_rootFrom 29 = .ok (.iload_n 3, 1) := by decide +kernel
theorem dk_X6_rootFrom_30 : decode cX6_rootFrom 30 = .ok (.sipush 600, 3) := by decide +kernel
theorem dk_X6_rootFrom_33 : decode cX6_rootFrom 33 = .ok (.if_icmp .ge 23, 3) := by decide +kernel
theorem dk_X6_rootFrom_36 : decode cX6_rootFrom 36 = .ok (.iload_n 2, 1) := by decide +kernel
theorem dk_X6_rootFrom_37 : decode cX6_rootFrom 37 = .ok (.iconst 1, 1) := by decide +kernel
theorem dk_X6_rootFrom_38 : decode cX6_rootFrom 38 = .ok (.iadd, 1) := by decide +kernel
theorem dk_X6_rootFrom_39 : decode cX6_rootFrom 39 = .ok (.iload_n 2, 1) := by decide +kernel
theorem dk_X6_rootFrom_40 : decode cX6_rootFrom 40 = .ok (.iconst 1, 1) := by decide +kernel
theorem dk_X6_rootFrom_41 : decode cX6_rootFrom 41 = .ok (.iadd, 1) := by decide +kernel
theorem dk_X6_rootFrom_42 : decode cX6_rootFrom 42 = .ok (.imul, 1) := by decide +kernel
theorem dk_X6_rootFrom_43 : decode cX6_rootFrom 43 = .ok (.iload_n 1, 1) := by decide +kernel
theorem dk_X6_rootFrom_44 : decode cX6_rootFrom 44 = .ok (.if_icmp .gt 12, 3) := by decide +kernel
theorem dk_X6_rootFrom_47 : decode cX6_rootFrom 47 = .ok (.iinc 2 1, 3) := by decide +kernel
theorem dk_X6_rootFrom_50 : decode cX6_rootFrom 50 = .ok (.iinc 3 1, 3) := by decide +kernel
theorem dk_X6_rootFrom_53 : decode cX6_rootFrom 53 = .ok (.goto (-24), 3) := by decide +kernel
theorem dk_X6_rootFrom_56 : decode cX6_rootFrom 56 = .ok (.iload_n 2, 1) := by decide +kernel
theorem dk_X6_rootFrom_57 : decode cX6_rootFrom 57 = .ok (.ireturn, 1) := by decide +kernel
set_option maxHeartbeats 4000000 in
theorem kx_X6_distance {l : Launch} (hl9 : l.stackTraces = false) (D : va_G) {tys : List (ClassId × FieldType)} {w : va_W} {sz : Nat} (hD0 : va_D (va_A w sz) w) {a1 a2 : Int32} : kx_C l yX6_distance cX6_distance 4 (some .int) 0 0 0 0 [.int a1, .int a2] D tys w sz (fun res w1 => w1 = w ∧ res = some (.int (ks_di a1 a2))) (fun _ => False) := by
  refine vx_ofW (cc := cX6_distance) (maxL := 4) (ret := (some .int)) (by decide +kernel) rfl ?_
  intro p e s m args below meth c s₁ B9 hml hne hv
  obtain ⟨rfl, hsz, hP, hK, hT⟩ := hv
  subst hsz
  have hx := B9.exec
  have hb := B9.bytes
  have hr := B9.returns
  have hlocks := B9.notSynchronized
  have hts0 := atoms_spec (ws := Cond.code yX6_distance cX6_distance 4 (some .int) :: en_cw) B9.pre
  have hts : ∀ z ∈ en_cw, z.before _ s = true := fun z hz => hts0 z (List.mem_cons_of_mem _ hz)
  have hown : s.vm.findClass RX6 = some m.cls := findClass_of_methodNamed B9.named
  have G : kx_G p s m ([.int a1, .int a2] : List Value).toArray c cX6_distance RX6 D tys (va_A w s.heap.size) := ⟨hx, hb, hts, hown, hK, hT, fun q h => Or.inr h⟩
  have L : kx_H D (va_A w s.heap.size) s w s.heap [] := ⟨hP, ⟨hD0.1, fun j z hz => Or.inl ⟨j, z.2, hz⟩⟩, va_S.rf⟩
  have hl := lv_entry ([.int a1, .int a2] : List Value) (n := 4) (Nat.le_of_ble_eq_true rfl)
  rw [lg_entry_eq]
  generalize (lg_sl ([.int a1, .int a2] : List Value) ++ List.replicate (4 - (lg_sl ([.int a1, .int a2] : List Value)).length) Slot.unset).toArray = ls at hl ⊢
  have hl : lv_has ls 4 [(0, .int a1), (1, .int a2)] := hl
  refine lv_iload_n hx hb dk_X6_distance_0 rfl (lv_at hl 0 rfl) ?_
  refine lv_bipush (v := 30) hx hb dk_X6_distance_1 (by decide) ?_
  refine lv_irem hx hb dk_X6_distance_3 (by decide) ?_
  refine lv_iload_n hx hb dk_X6_distance_4 rfl (lv_at hl 1 rfl) ?_
  refine lv_bipush (v := 30) hx hb dk_X6_distance_5 (by decide) ?_
  refine lv_irem hx hb dk_X6_distance_7 (by decide) ?_
  refine lv_isub hx hb dk_X6_distance_8 ?_
  refine lv_istore_n (lv' := [(2, .int ((a1 - a1 / 30 * 30) - (a2 - a2 / 30 * 30))), (0, .int a1), (1, .int a2)]) hx hb dk_X6_distance_9 rfl hl (by decide) rfl (fun ls hl => ?_)
  refine lv_iload_n hx hb dk_X6_distance_10 rfl (lv_at hl 1 rfl) ?_
  refine lv_bipush (v := 30) hx hb dk_X6_distance_11 (by decide) ?_
  refine lv_idiv hx hb dk_X6_distance_13 (by decide) ?_
  refine lv_iload_n hx hb dk_X6_distance_14 rfl (lv_at hl 2 rfl) ?_
  refine lv_bipush (v := 30) hx hb dk_X6_distance_15 (by decide) ?_
  refine lv_idiv hx hb dk_X6_distance_17 (by decide) ?_
  refine lv_isub hx hb dk_X6_distance_18 ?_
  refine lv_istore_n (lv' := [(3, .int ((a1 / 30) - (a2 / 30))), (2, .int ((a1 - a1 / 30 * 30) - (a2 - a2 / 30 * 30))), (0, .int a1), (1, .int a2)]) hx hb dk_X6_distance_19 rfl hl (by decide) rfl (fun ls hl => ?_)
  refine lv_iload_n hx hb dk_X6_distance_20 rfl (lv_at hl 1 rfl) ?_
  refine lv_iload_n hx hb dk_X6_distance_21 rfl (lv_at hl 1 rfl) ?_
  refine lv_imul hx hb dk_X6_distance_22 ?_
  refine lv_iload_n hx hb dk_X6_distance_23 rfl (lv_at hl 0 rfl) ?_
  refine lv_iload_n hx hb dk_X6_distance_24 rfl (lv_at hl 0 rfl) ?_
  refine lv_imul hx hb dk_X6_distance_25 ?_
  refine lv_iadd hx hb dk_X6_distance_26 ?_
  exact vx_ret (W.widen (Nat.le_of_ble_eq_true rfl) (Nat.le_of_ble_eq_true rfl) (W.iret (v := ((((a1 - a1 / 30 * 30) - (a2 - a2 / 30 * 30)) * ((a1 - a1 / 30 * 30) - (a2 - a2 / 30 * 30))) + (((a1 / 30) - (a2 / 30)) * ((a1 / 30) - (a2 / 30))))) hx hb hr (fun T9 hT9 _ => ⟨⟨((((a1 - a1 / 30 * 30) - (a2 - a2 / 30 * 30)) * ((a1 - a1 / 30 * 30) - (a2 - a2 / 30 * 30))) + (((a1 / 30) - (a2 / 30)) * ((a1 / 30) - (a2 / 30)))), w, rfl, ⟨rfl, rfl⟩, by rw [hT9]; exact L.1, L.2.1⟩, L.2.2.F hT9⟩) L.2.2.2.2 dk_X6_distance_27 hlocks))
set_option maxHeartbeats 4000000 in
theorem kx_X3_kindOf {l : Launch} (hl9 : l.stackTraces = false) (D : va_G) {tys : List (ClassId × FieldType)} {w : va_W} {sz : Nat} (hD0 : va_D (va_A w sz) w) {b b2 q q2 : Nat} {p0 i0 cup t0 r0 : Int32} {cX : ClassId} {ck : Nat → Int32} {k : Nat} (ht1 : tys[1]? = some (cX, .char)) (hf : w[q]? = some (b, .inr (9, [.ref b2, .int p0, .int i0, .int cup, .int t0, .int r0]))) (hg : w[q2]? = some (b2, .inl (cX, 600, .inl ck))) (hb9 : ∀ i, i < 600 → 0 ≤ (ck i).toInt ∧ (ck i).toInt ≤ 65535) (hk : k < 600) : kx_C l yX3_kindOf cX3_kindOf 2 (some .char) 0 0 0 0 [.ref b, .int (nI k)] D tys w sz (fun res w1 => w1 = w ∧ res = some (.int (ck k))) (fun _ => False) := by
  refine vx_ofW (cc := cX3_kindOf) (maxL := 2) (ret := (some .char)) (by decide +kernel) rfl ?_
  intro p e s m args below meth c s₁ B9 hml hne hv
  obtain ⟨rfl, hsz, hP, hK, hT⟩ := hv
  subst hsz
  have hx := B9.exec
  have hb := B9.bytes
  have hr := B9.returns
  have hlocks := B9.notSynchronized
  have hts0 := atoms_spec (ws := Cond.code yX3_kindOf cX3_kindOf 2 (some .char) :: en_cw) B9.pre
  have hts : ∀ z ∈ en_cw, z.before _ s = true := fun z hz => hts0 z (List.mem_cons_of_mem _ hz)
  have hown : s.vm.findClass RX3 = some m.cls := findClass_of_methodNamed B9.named
  have G : kx_G p s m ([.ref b, .int (nI k)] : List Value).toArray c cX3_kindOf RX3 D tys (va_A w s.heap.size) := ⟨hx, hb, hts, hown, hK, hT, fun q h => Or.inr h⟩
  have L : kx_H D (va_A w s.heap.size) s w s.heap [] := ⟨hP, ⟨hD0.1, fun j z hz => Or.inl ⟨j, z.2, hz⟩⟩, va_S.rf⟩
  have hl := lv_entry ([.ref b, .int (nI k)] : List Value) (n := 2) (Nat.le_of_ble_eq_true rfl)
  rw [lg_entry_eq]
  generalize (lg_sl ([.ref b, .int (nI k)] : List Value) ++ List.replicate (2 - (lg_sl ([.ref b, .int (nI k)] : List Value)).length) Slot.unset).toArray = ls at hl ⊢
  have hl : lv_has ls 2 [(0, .ref b), (1, .int (nI k))] := hl
  have hb0 := hb9 k hk
  refine lv_iload_n hx hb dk_X3_kindOf_0 rfl (lv_at hl 1 rfl) ?_
  have k2 : (nI k).toInt = (((k) : Nat) : Int) := kx_nI (by omega)
  have k3 : (0 : Int32).toInt = 0 := by decide
  refine lv_if_lt (tgt := 20) hx hb dk_X3_kindOf_1 (by decide) (fun c1 => ?_) (fun c1 => ?_)
  · skip
    have tc1 : ((nI k) : Int32).toInt < (0 : Int32).toInt := Int32.lt_iff_toInt_lt.mp c1
    exfalso
    omega
  · skip
    have tc1 : ¬ ((nI k) : Int32).toInt < (0 : Int32).toInt := fun h => c1 (Int32.lt_iff_toInt_lt.mpr h)
    refine lv_iload_n hx hb dk_X3_kindOf_4 rfl (lv_at hl 1 rfl) ?_
    refine lv_sipush (v := 600) hx hb dk_X3_kindOf_5 (by decide) ?_
    have k5 : (nI k).toInt = (((k) : Nat) : Int) := kx_nI (by omega)
    have k6 : (600 : Int32).toInt = 600 := by decide
    refine lv_icmp_ge (tgt := 20) hx hb dk_X3_kindOf_8 (by decide) (fun c4 => ?_) (fun c4 => ?_)
    · skip
      have tc4 : (600 : Int32).toInt ≤ ((nI k) : Int32).toInt := Int32.le_iff_toInt_le.mp c4
      exfalso
      omega
    · skip
      have tc4 : ¬ (600 : Int32).toInt ≤ ((nI k) : Int32).toInt := fun h => c4 (Int32.le_iff_toInt_le.mpr h)
      refine lv_aload_n hx hb dk_X3_kindOf_11 rfl (lv_at hl 0 rfl) ?_
      refine kx_get (v := .ref b2) G L (en_FTX3_ok (9, 9, 0) (by decide)) hf rfl dk_X3_kindOf_12 ?_
      refine lv_iload_n hx hb dk_X3_kindOf_15 rfl (lv_at hl 1 rfl) ?_
      refine kx_cald G L hg ht1 hk (by decide) dk_X3_kindOf_16 ?_
      refine lv_goto (tgt := 22) hx hb dk_X3_kindOf_17 (by decide) ?_
      exact vx_ret (W.widen (Nat.le_of_ble_eq_true rfl) (Nat.le_of_ble_eq_true rfl) (W.zret (v := (ck k)) (ty := .char) hx hb hr ((en_fit (ty := 1) hb0.1 hb0.2).1) (fun T9 hT9 _ => ⟨⟨(ck k), w, rfl, ⟨rfl, rfl⟩, by rw [hT9]; exact L.1, L.2.1⟩, L.2.2.F hT9⟩) L.2.2.2.2 dk_X3_kindOf_22 hlocks))
set_option maxHeartbeats 4000000 in
theorem kx_X3_kindOf_g {l : Launch} (hl9 : l.stackTraces = false) (D : va_G) {tys : List (ClassId × FieldType)} {w : va_W} {sz : Nat} (hD0 : va_D (va_A w sz) w) {b b2 q q2 : Nat} {p0 i0 cup t0 r0 : Int32} {cX : ClassId} {ck : Nat → Int32} {a1 : Int32} (ht1 : tys[1]? = some (cX, .char)) (hf : w[q]? = some (b, .inr (9, [.ref b2, .int p0, .int i0, .int cup, .int t0, .int r0]))) (hg : w[q2]? = some (b2, .inl (cX, 600, .inl ck))) (hb9 : ∀ i, i < 600 → 0 ≤ (ck i).toInt ∧ (ck i).toInt ≤ 65535) : kx_C l yX3_kindOf cX3_kindOf 2 (some .char) 0 0 0 0 [.ref b, .int a1] D tys w sz (fun res w1 => w1 = w ∧ ((∃ k : Nat, k < 600 ∧ a1 = nI k ∧ res = some (.int (ck k))) ∨ res = some (.int 102))) (fun _ => False) := by
  refine vx_ofW (cc := cX3_kindOf) (maxL := 2) (ret := (some .char)) (by decide +kernel) rfl ?_
  intro p e s m args below meth c s₁ B9 hml hne hv
  obtain ⟨rfl, hsz, hP, hK, hT⟩ := hv
  subst hsz
  have hx := B9.exec
  have hb := B9.bytes
  have hr := B9.returns
  have hlocks := B9.notSynchronized
  have hts0 := atoms_spec (ws := Cond.code yX3_kindOf cX3_kindOf 2 (some .char) :: en_cw) B9.pre
  have hts : ∀ z ∈ en_cw, z.before _ s = true := fun z hz => hts0 z (List.mem_cons_of_mem _ hz)
  have hown : s.vm.findClass RX3 = some m.cls := findClass_of_methodNamed B9.named
  have G : kx_G p s m ([.ref b, .int a1] : List Value).toArray c cX3_kindOf RX3 D tys (va_A w s.heap.size) := ⟨hx, hb, hts, hown, hK, hT, fun q h => Or.inr h⟩
  have L : kx_H D (va_A w s.heap.size) s w s.heap [] := ⟨hP, ⟨hD0.1, fun j z hz => Or.inl ⟨j, z.2, hz⟩⟩, va_S.rf⟩
  have hl := lv_entry ([.ref b, .int a1] : List Value) (n := 2) (Nat.le_of_ble_eq_true rfl)
  rw [lg_entry_eq]
  generalize (lg_sl ([.ref b, .int a1] : List Value) ++ List.replicate (2 - (lg_sl ([.ref b, .int a1] : List Value)).length) Slot.unset).toArray = ls at hl ⊢
  have hl : lv_has ls 2 [(0, .ref b), (1, .int a1)] := hl
  refine lv_iload_n hx hb dk_X3_kindOf_0 rfl (lv_at hl 1 rfl) ?_
  have k2 : (0 : Int32).toInt = 0 := by decide
  refine lv_if_lt (tgt := 20) hx hb dk_X3_kindOf_1 (by decide) (fun c1 => ?_) (fun c1 => ?_)
  · skip
    have tc1 : (a1 : Int32).toInt < (0 : Int32).toInt := Int32.lt_iff_toInt_lt.mp c1
    refine lv_bipush (v := 102) hx hb dk_X3_kindOf_20 (by decide) ?_
    exact vx_ret (W.widen (Nat.le_of_ble_eq_true rfl) (Nat.le_of_ble_eq_true rfl) (W.zret (v := 102) (ty := .char) hx hb hr (by decide) (fun T9 hT9 _ => ⟨⟨102, w, rfl, ⟨rfl, Or.inr rfl⟩, by rw [hT9]; exact L.1, L.2.1⟩, L.2.2.F hT9⟩) L.2.2.2.2 dk_X3_kindOf_22 hlocks))
  · skip
    have tc1 : ¬ (a1 : Int32).toInt < (0 : Int32).toInt := fun h => c1 (Int32.lt_iff_toInt_lt.mpr h)
    refine lv_iload_n hx hb dk_X3_kindOf_4 rfl (lv_at hl 1 rfl) ?_
    refine lv_sipush (v := 600) hx hb dk_X3_kindOf_5 (by decide) ?_
    have k4 : (600 : Int32).toInt = 600 := by decide
    refine lv_icmp_ge (tgt := 20) hx hb dk_X3_kindOf_8 (by decide) (fun c3 => ?_) (fun c3 => ?_)
    · skip
      have tc3 : (600 : Int32).toInt ≤ (a1 : Int32).toInt := Int32.le_iff_toInt_le.mp c3
      refine lv_bipush (v := 102) hx hb dk_X3_kindOf_20 (by decide) ?_
      exact vx_ret (W.widen (Nat.le_of_ble_eq_true rfl) (Nat.le_of_ble_eq_true rfl) (W.zret (v := 102) (ty := .char) hx hb hr (by decide) (fun T9 hT9 _ => ⟨⟨102, w, rfl, ⟨rfl, Or.inr rfl⟩, by rw [hT9]; exact L.1, L.2.1⟩, L.2.2.F hT9⟩) L.2.2.2.2 dk_X3_kindOf_22 hlocks))
    · skip
      have tc3 : ¬ (600 : Int32).toInt ≤ (a1 : Int32).toInt := fun h => c3 (Int32.le_iff_toInt_le.mpr h)
      obtain ⟨k, ek⟩ : ∃ k : Nat, k = a1.toInt.toNat := ⟨_, rfl⟩
      have hk : k < 600 := by omega
      have ea : a1 = nI k := by rw [ek]; exact kx_cN (by omega)
      have hb0 := hb9 k hk
      refine lv_aload_n hx hb dk_X3_kindOf_11 rfl (lv_at hl 0 rfl) ?_
      refine kx_get (v := .ref b2) G L (en_FTX3_ok (9, 9, 0) (by decide)) hf rfl dk_X3_kindOf_12 ?_
      refine lv_iload_n hx hb dk_X3_kindOf_15 rfl (lv_at hl 1 rfl) ?_
      refine lv_topi (fun y5 ey5 => ?_)
      obtain rfl : y5 = (nI k) := ey5.trans (ea)
      refine kx_cald G L hg ht1 hk (by decide) dk_X3_kindOf_16 ?_
      refine lv_goto (tgt := 22) hx hb dk_X3_kindOf_17 (by decide) ?_
      exact vx_ret (W.widen (Nat.le_of_ble_eq_true rfl) (Nat.le_of_ble_eq_true rfl) (W.zret (v := (ck k)) (ty := .char) hx hb hr ((en_fit (ty := 1) hb0.1 hb0.2).1) (fun T9 hT9 _ => ⟨⟨(ck k), w, rfl, ⟨rfl, Or.inl ⟨k, hk, ea, rfl⟩⟩, by rw [hT9]; exact L.1, L.2.1⟩, L.2.2.F hT9⟩) L.2.2.2.2 dk_X3_kindOf_22 hlocks))
set_option maxHeartbeats 4000000 in
theorem kx_X3_isFreeGround {l : Launch} (hl9 : l.stackTraces = false) (D : va_G) {tys : List (ClassId × FieldType)} {w : va_W} {sz : Nat} (hD0 : va_D (va_A w sz) w) {b b2 q q2 : Nat} {p0 i0 cup t0 r0 : Int32} {cX : ClassId} {ck : Nat → Int32} {k : Nat} (ht1 : tys[1]? = some (cX, .char)) (hf : w[q]? = some (b, .inr (9, [.ref b2, .int p0, .int i0, .int cup, .int t0, .int r0]))) (hg : w[q2]? = some (b2, .inl (cX, 600, .inl ck))) (hb9 : ∀ i, i < 600 → 0 ≤ (ck i).toInt ∧ (ck i).toInt ≤ 65535) (hk : k < 600) : kx_C l yX3_isFreeGround cX3_isFreeGround 2 (some .boolean) 1 0 0 0 [.ref b, .int (nI k)] D tys w sz (fun res w1 => w1 = w ∧ ((res = some (.int 1) ∧ ks_fg ck cup k) ∨ (res = some (.int 0) ∧ ¬ ks_fg ck cup k))) (fun _ => False) := by
  refine vx_ofW (cc := cX3_isFreeGround) (maxL := 2) (ret := (some .boolean)) (by decide +kernel) rfl ?_
  intro p e s m args below meth c s₁ B9 hml hne hv
  obtain ⟨rfl, hsz, hP, hK, hT⟩ := hv
  subst hsz
  have hx := B9.exec
  have hb := B9.bytes
  have hr := B9.returns
  have hlocks := B9.notSynchronized
  have hts0 := atoms_spec (ws := Cond.code yX3_isFreeGround cX3_isFreeGround 2 (some .boolean) :: en_cw) B9.pre
  have hts : ∀ z ∈ en_cw, z.before _ s = true := fun z hz => hts0 z (List.mem_cons_of_mem _ hz)
  have hown : s.vm.findClass RX3 = some m.cls := findClass_of_methodNamed B9.named
  have G : kx_G p s m ([.ref b, .int (nI k)] : List Value).toArray c cX3_isFreeGround RX3 D tys (va_A w s.heap.size) := ⟨hx, hb, hts, hown, hK, hT, fun q h => Or.inr h⟩
  have L : kx_H D (va_A w s.heap.size) s w s.heap [] := ⟨hP, ⟨hD0.1, fun j z hz => Or.inl ⟨j, z.2, hz⟩⟩, va_S.rf⟩
  have hl := lv_entry ([.ref b, .int (nI k)] : List Value) (n := 2) (Nat.le_of_ble_eq_true rfl)
  rw [lg_entry_eq]
  generalize (lg_sl ([.ref b, .int (nI k)] : List Value) ++ List.replicate (2 - (lg_sl ([.ref b, .int (nI k)] : List Value)).length) Slot.unset).toArray = ls at hl ⊢
  have hl : lv_has ls 2 [(0, .ref b), (1, .int (nI k))] := hl
  refine lv_aload_n hx hb dk_X3_isFreeGround_0 rfl (lv_at hl 0 rfl) ?_
  refine lv_iload_n hx hb dk_X3_isFreeGround_1 rfl (lv_at hl 1 rfl) ?_
  refine kx_cV (As := [.int (nI k)]) (rest := []) (q := q) (ci := 9) G L (kx_X3_kindOf hl9 D (kx_D1 L) ht1 hf hg hb9 (k := k) hk) gc_RX3_30v hf rfl rfl rfl (hml.trans hl.1.symm) ⟨Nat.le_of_ble_eq_true rfl, Nat.le_of_ble_eq_true rfl⟩ ⟨Nat.le_of_ble_eq_true rfl, Nat.le_of_ble_eq_true rfl⟩ (Nat.le_of_ble_eq_true rfl) dk_X3_isFreeGround_2 (fun _ _ _ _ _ h9 => h9.elim) (fun res w1 H locs hrv hq1 L => ?_)
  obtain ⟨ew1, hq1⟩ := hq1
  have ew1 := ew1.symm
  subst ew1
  obtain rfl := hq1
  refine lv_bipush (v := 46) hx hb dk_X3_isFreeGround_5 (by decide) ?_
  have k3 : (46 : Int32).toInt = 46 := by decide
  refine lv_icmp_ne (tgt := 22) hx hb dk_X3_isFreeGround_7 (by decide) (fun c2 => ?_) (fun c2 => ?_)
  · skip
    have tc2 : ¬ ((ck k) : Int32).toInt = (46 : Int32).toInt := fun h => c2 (Int32.toInt_inj.mp h)
    refine lv_iconst (v := 0) hx hb dk_X3_isFreeGround_22 (by decide) ?_
    exact vx_ret (W.widen (Nat.le_of_ble_eq_true rfl) (Nat.le_of_ble_eq_true rfl) (W.zret (v := 0) (ty := .boolean) hx hb hr (by decide) (fun T9 hT9 _ => ⟨⟨0, w, rfl, ⟨rfl, Or.inr ⟨rfl, fun h => c2 h.1⟩⟩, by rw [hT9]; exact L.1, L.2.1⟩, L.2.2.F hT9⟩) L.2.2.2.2 dk_X3_isFreeGround_23 hlocks))
  · skip
    have tc2 : ((ck k) : Int32).toInt = (46 : Int32).toInt := by rw [c2]
    refine lv_iload_n hx hb dk_X3_isFreeGround_10 rfl (lv_at hl 1 rfl) ?_
    refine lv_aload_n hx hb dk_X3_isFreeGround_11 rfl (lv_at hl 0 rfl) ?_
    refine kx_get (v := .int cup) G L (en_FTX3_ok (27, 9, 3) (by decide)) hf rfl dk_X3_isFreeGround_12 ?_
    have k5 : (nI k).toInt = (((k) : Nat) : Int) := kx_nI (by omega)
    refine lv_icmp_eq (tgt := 22) hx hb dk_X3_isFreeGround_15 (by decide) (fun c4 => ?_) (fun c4 => ?_)
    · skip
      have tc4 : ((nI k) : Int32).toInt = (cup : Int32).toInt := by rw [c4]
      refine lv_iconst (v := 0) hx hb dk_X3_isFreeGround_22 (by decide) ?_
      exact vx_ret (W.widen (Nat.le_of_ble_eq_true rfl) (Nat.le_of_ble_eq_true rfl) (W.zret (v := 0) (ty := .boolean) hx hb hr (by decide) (fun T9 hT9 _ => ⟨⟨0, w, rfl, ⟨rfl, Or.inr ⟨rfl, fun h => h.2 c4⟩⟩, by rw [hT9]; exact L.1, L.2.1⟩, L.2.2.F hT9⟩) L.2.2.2.2 dk_X3_isFreeGround_23 hlocks))
    · skip
      have tc4 : ¬ ((nI k) : Int32).toInt = (cup : Int32).toInt := fun h => c4 (Int32.toInt_inj.mp h)
      refine lv_iconst (v := 1) hx hb dk_X3_isFreeGround_18 (by decide) ?_
      refine lv_goto (tgt := 23) hx hb dk_X3_isFreeGround_19 (by decide) ?_
      exact vx_ret (W.widen (Nat.le_of_ble_eq_true rfl) (Nat.le_of_ble_eq_true rfl) (W.zret (v := 1) (ty := .boolean) hx hb hr (by decide) (fun T9 hT9 _ => ⟨⟨1, w, rfl, ⟨rfl, Or.inl ⟨rfl, c2, c4⟩⟩, by rw [hT9]; exact L.1, L.2.1⟩, L.2.2.F hT9⟩) L.2.2.2.2 dk_X3_isFreeGround_23 hlocks))
set_option maxHeartbeats 4000000 in
theorem kx_X3_isFreeFrom {l : Launch} (hl9 : l.stackTraces = false) (D : va_G) {tys : List (ClassId × FieldType)} {w : va_W} {sz : Nat} (hD0 : va_D (va_A w sz) w) {b b2 q q2 : Nat} {p0 i0 cup t0 r0 : Int32} {cX : ClassId} {ck : Nat → Int32} {a1 : Int32} {k : Nat} (ht1 : tys[1]? = some (cX, .char)) (hf : w[q]? = some (b, .inr (9, [.ref b2, .int p0, .int i0, .int cup, .int t0, .int r0]))) (hg : w[q2]? = some (b2, .inl (cX, 600, .inl ck))) (hb9 : ∀ i, i < 600 → 0 ≤ (ck i).toInt ∧ (ck i).toInt ≤ 65535) (hk : k < 600) : kx_C l yX3_isFreeFrom cX3_isFreeFrom 3 (some .boolean) 2 0 0 0 [.ref b, .int a1, .int (nI k)] D tys w sz (fun res w1 => w1 = w ∧ ((res = some (.int 1) ∧ ks_fr ck cup a1 k) ∨ (res = some (.int 0) ∧ ¬ ks_fr ck cup a1 k))) (fun _ => False) := by
  refine vx_ofW (cc := cX3_isFreeFrom) (maxL := 3) (ret := (some .boolean)) (by decide +kernel) rfl ?_
  intro p e s m args below meth c s₁ B9 hml hne hv
  obtain ⟨rfl, hsz, hP, hK, hT⟩ := hv
  subst hsz
  have hx := B9.exec
  have hb := B9.bytes
  have hr := B9.returns
  have hlocks := B9.notSynchronized
  have hts0 := atoms_spec (ws := Cond.code yX3_isFreeFrom cX3_isFreeFrom 3 (some .boolean) :: en_cw) B9.pre
  have hts : ∀ z ∈ en_cw, z.before _ s = true := fun z hz => hts0 z (List.mem_cons_of_mem _ hz)
  have hown : s.vm.findClass RX3 = some m.cls := findClass_of_methodNamed B9.named
  have G : kx_G p s m ([.ref b, .int a1, .int (nI k)] : List Value).toArray c cX3_isFreeFrom RX3 D tys (va_A w s.heap.size) := ⟨hx, hb, hts, hown, hK, hT, fun q h => Or.inr h⟩
  have L : kx_H D (va_A w s.heap.size) s w s.heap [] := ⟨hP, ⟨hD0.1, fun j z hz => Or.inl ⟨j, z.2, hz⟩⟩, va_S.rf⟩
  have hl := lv_entry ([.ref b, .int a1, .int (nI k)] : List Value) (n := 3) (Nat.le_of_ble_eq_true rfl)
  rw [lg_entry_eq]
  generalize (lg_sl ([.ref b, .int a1, .int (nI k)] : List Value) ++ List.replicate (3 - (lg_sl ([.ref b, .int a1, .int (nI k)] : List Value)).length) Slot.unset).toArray = ls at hl ⊢
  have hl : lv_has ls 3 [(0, .ref b), (1, .int a1), (2, .int (nI k))] := hl
  refine lv_aload_n hx hb dk_X3_isFreeFrom_0 rfl (lv_at hl 0 rfl) ?_
  refine lv_iload_n hx hb dk_X3_isFreeFrom_1 rfl (lv_at hl 2 rfl) ?_
  refine kx_cV (As := [.int (nI k)]) (rest := []) (q := q) (ci := 9) G L (kx_X3_isFreeGround hl9 D (kx_D1 L) ht1 hf hg hb9 (k := k) hk) gc_RX3_57v hf rfl rfl rfl (hml.trans hl.1.symm) ⟨Nat.le_of_ble_eq_true rfl, Nat.le_of_ble_eq_true rfl⟩ ⟨Nat.le_of_ble_eq_true rfl, Nat.le_of_ble_eq_true rfl⟩ (Nat.le_of_ble_eq_true rfl) dk_X3_isFreeFrom_2 (fun _ _ _ _ _ h9 => h9.elim) (fun res w1 H locs hrv hq1 L => ?_)
  obtain ⟨ew1, hq1⟩ := hq1
  have ew1 := ew1.symm
  subst ew1
  rcases hq1 with ⟨rfl, c0⟩ | ⟨rfl, c0⟩
  · skip
    refine lv_if_eq (tgt := 31) hx hb dk_X3_isFreeFrom_5 (by decide) (fun c9 => absurd c9 (by decide)) (fun _ => ?_)
    refine lv_iload_n hx hb dk_X3_isFreeFrom_8 rfl (lv_at hl 2 rfl) ?_
    refine lv_aload_n hx hb dk_X3_isFreeFrom_9 rfl (lv_at hl 0 rfl) ?_
    refine kx_get (v := .int cup) G L (en_FTX3_ok (27, 9, 3) (by decide)) hf rfl dk_X3_isFreeFrom_10 ?_
    refine kx_cS (As := [.int (nI k), .int cup]) (rest := []) G L (kx_X6_distance hl9 D (kx_D1 L)) gc_RX3_34s rfl (hml.trans hl.1.symm) ⟨Nat.le_of_ble_eq_true rfl, Nat.le_of_ble_eq_true rfl⟩ ⟨Nat.le_of_ble_eq_true rfl, Nat.le_of_ble_eq_true rfl⟩ (Nat.le_of_ble_eq_true rfl) dk_X3_isFreeFrom_13 (fun _ _ _ _ _ h9 => h9.elim) (fun res w2 H locs hrv hq2 L => ?_)
    obtain ⟨ew2, hq2⟩ := hq2
    have ew2 := ew2.symm
    subst ew2
    obtain rfl := hq2
    refine lv_iload_n hx hb dk_X3_isFreeFrom_16 rfl (lv_at hl 1 rfl) ?_
    refine lv_aload_n hx hb dk_X3_isFreeFrom_17 rfl (lv_at hl 0 rfl) ?_
    refine kx_get (v := .int cup) G L (en_FTX3_ok (27, 9, 3) (by decide)) hf rfl dk_X3_isFreeFrom_18 ?_
    refine kx_cS (As := [.int a1, .int cup]) (rest := [.int (ks_di (nI k) cup)]) G L (kx_X6_distance hl9 D (kx_D1 L)) gc_RX3_34s rfl (hml.trans hl.1.symm) ⟨Nat.le_of_ble_eq_true rfl, Nat.le_of_ble_eq_true rfl⟩ ⟨Nat.le_of_ble_eq_true rfl, Nat.le_of_ble_eq_true rfl⟩ (Nat.le_of_ble_eq_true rfl) dk_X3_isFreeFrom_21 (fun _ _ _ _ _ h9 => h9.elim) (fun res w3 H locs hrv hq3 L => ?_)
    obtain ⟨ew3, hq3⟩ := hq3
    have ew3 := ew3.symm
    subst ew3
    obtain rfl := hq3
    refine lv_icmp_lt (tgt := 31) hx hb dk_X3_isFreeFrom_24 (by decide) (fun c4 => ?_) (fun c4 => ?_)
    · skip
      have tc4 : ((ks_di (nI k) cup) : Int32).toInt < ((ks_di a1 cup) : Int32).toInt := Int32.lt_iff_toInt_lt.mp c4
      refine lv_iconst (v := 0) hx hb dk_X3_isFreeFrom_31 (by decide) ?_
      exact vx_ret (W.widen (Nat.le_of_ble_eq_true rfl) (Nat.le_of_ble_eq_true rfl) (W.zret (v := 0) (ty := .boolean) hx hb hr (by decide) (fun T9 hT9 _ => ⟨⟨0, w, rfl, ⟨rfl, Or.inr ⟨rfl, fun h => by have h9 := h.2; omega⟩⟩, by rw [hT9]; exact L.1, L.2.1⟩, L.2.2.F hT9⟩) L.2.2.2.2 dk_X3_isFreeFrom_32 hlocks))
    · skip
      have tc4 : ¬ ((ks_di (nI k) cup) : Int32).toInt < ((ks_di a1 cup) : Int32).toInt := fun h => c4 (Int32.lt_iff_toInt_lt.mpr h)
      refine lv_iconst (v := 1) hx hb dk_X3_isFreeFrom_27 (by decide) ?_
      refine lv_goto (tgt := 32) hx hb dk_X3_isFreeFrom_28 (by decide) ?_
      exact vx_ret (W.widen (Nat.le_of_ble_eq_true rfl) (Nat.le_of_ble_eq_true rfl) (W.zret (v := 1) (ty := .boolean) hx hb hr (by decide) (fun T9 hT9 _ => ⟨⟨1, w, rfl, ⟨rfl, Or.inl ⟨rfl, c0, by omega⟩⟩, by rw [hT9]; exact L.1, L.2.1⟩, L.2.2.F hT9⟩) L.2.2.2.2 dk_X3_isFreeFrom_32 hlocks))
  · skip
    refine lv_if_eq (tgt := 31) hx hb dk_X3_isFreeFrom_5 (by decide) (fun _ => ?_) (fun c9 => absurd (by decide) c9)
    refine lv_iconst (v := 0) hx hb dk_X3_isFreeFrom_31 (by decide) ?_
    exact vx_ret (W.widen (Nat.le_of_ble_eq_true rfl) (Nat.le_of_ble_eq_true rfl) (W.zret (v := 0) (ty := .boolean) hx hb hr (by decide) (fun T9 hT9 _ => ⟨⟨0, w, rfl, ⟨rfl, Or.inr ⟨rfl, fun h => c0 h.1⟩⟩, by rw [hT9]; exact L.1, L.2.1⟩, L.2.2.F hT9⟩) L.2.2.2.2 dk_X3_isFreeFrom_32 hlocks))
set_option maxHeartbeats 4000000 in
theorem kx_X3_nearestPoint {l : Launch} (hl9 : l.stackTraces = false) (D : va_G) {tys : List (ClassId × FieldType)} {w : va_W} {sz : Nat} (hD0 : va_D (va_A w sz) w) {b b2 q q2 : Nat} {p0 i0 cup t0 r0 : Int32} {cX : ClassId} {ck : Nat → Int32} {ll : Nat} (ht1 : tys[1]? = some (cX, .char)) (hf : w[q]? = some (b, .inr (9, [.ref b2, .int p0, .int i0, .int cup, .int t0, .int r0]))) (hg : w[q2]? = some (b2, .inl (cX, 600, .inl ck))) (hb9 : ∀ i, i < 600 → 0 ≤ (ck i).toInt ∧ (ck i).toInt ≤ 65535) (hl6 : ll < 600) : kx_C l yX3_nearestPoint cX3_nearestPoint 6 (some .int) 3 0 0 0 [.ref b, .int (nI ll)] D tys w sz (fun res w1 => w1 = w ∧ ∃ r : Int32, res = some (.int r) ∧ ks_np (ks_fr ck cup (nI ll)) ll r) (fun _ => False) := by
  refine vx_ofW (cc := cX3_nearestPoint) (maxL := 6) (ret := (some .int)) (by decide +kernel) rfl ?_
  intro p e s m args below meth c s₁ B9 hml hne hv
  obtain ⟨rfl, hsz, hP, hK, hT⟩ := hv
  subst hsz
  have hx := B9.exec
  have hb := B9.bytes
  have hr := B9.returns
  have hlocks := B9.notSynchronized
  have hts0 := atoms_spec (ws := Cond.code yX3_nearestPoint cX3_nearestPoint 6 (some .int) :: en_cw) B9.pre
  have hts : ∀ z ∈ en_cw, z.before _ s = true := fun z hz => hts0 z (List.mem_cons_of_mem _ hz)
  have hown : s.vm.findClass RX3 = some m.cls := findClass_of_methodNamed B9.named
  have G : kx_G p s m ([.ref b, .int (nI ll)] : List Value).toArray c cX3_nearestPoint RX3 D tys (va_A w s.heap.size) := ⟨hx, hb, hts, hown, hK, hT, fun q h => Or.inr h⟩
  have L : kx_H D (va_A w s.heap.size) s w s.heap [] := ⟨hP, ⟨hD0.1, fun j z hz => Or.inl ⟨j, z.2, hz⟩⟩, va_S.rf⟩
  have hl := lv_entry ([.ref b, .int (nI ll)] : List Value) (n := 6) (Nat.le_of_ble_eq_true rfl)
  rw [lg_entry_eq]
  generalize (lg_sl ([.ref b, .int (nI ll)] : List Value) ++ List.replicate (6 - (lg_sl ([.ref b, .int (nI ll)] : List Value)).length) Slot.unset).toArray = ls at hl ⊢
  have hl : lv_has ls 6 [(0, .ref b), (1, .int (nI ll))] := hl
  refine lv_iconst (v := (-1)) hx hb dk_X3_nearestPoint_0 (by decide) ?_
  refine lv_istore_n (lv' := [(2, .int (-1)), (0, .ref b), (1, .int (nI ll))]) hx hb dk_X3_nearestPoint_1 rfl hl (by decide) rfl (fun ls hl => ?_)
  refine lv_iconst (v := 0) hx hb dk_X3_nearestPoint_2 (by decide) ?_
  refine lv_istore_n (lv' := [(3, .int 0), (2, .int (-1)), (0, .ref b), (1, .int (nI ll))]) hx hb dk_X3_nearestPoint_3 rfl hl (by decide) rfl (fun ls hl => ?_)
  refine lv_iconst (v := 0) hx hb dk_X3_nearestPoint_4 (by decide) ?_
  refine lv_istore (lv' := [(4, .int 0), (3, .int 0), (2, .int (-1)), (0, .ref b), (1, .int (nI ll))]) hx hb dk_X3_nearestPoint_5 hl (by decide) rfl (fun ls hl => ?_)
  have loop : ∀ (d : Nat) (k : Nat), k + d = 600 → ∀ (r x : Int32), ks_nq (ks_fr ck cup (nI ll)) ll k r x → ∀ (H : Heap) (locs : List Loc), kx_H D (va_A w s.heap.size) s w H locs → ∀ (ls : Array Slot), lv_has ls 6 [(4, .int (nI k)), (3, .int x), (2, .int r), (1, .int (nI ll)), (0, .ref b)] → W p l e (headSpec (Cond.code yX3_nearestPoint cX3_nearestPoint 6 (some .int) :: en_cw) (en_rm 3 (0, 0))).room s m ([.ref b, .int (nI ll)] : List Value).toArray below meth c H locs (0) (0) (vx_MQ below (kx_Q 0 D (fun res w1 => w1 = w ∧ ∃ r : Int32, res = some (.int r) ∧ ks_np (ks_fr ck cup (nI ll)) ll r) (va_A w s.heap.size)) (kx_XC D w (fun _ => False) (va_A w s.heap.size)) ([.ref b, .int (nI ll)] : List Value).toArray s 0 0 (va_A w s.heap.size)) (F0 m 7 ls []) := by
    intro d
    induction d with
    | zero =>
      intro k hk r x hn H locs L ls hl
      refine lv_iload hx hb dk_X3_nearestPoint_7 (lv_at hl 0 rfl) ?_
      refine lv_sipush (v := 600) hx hb dk_X3_nearestPoint_9 (by decide) ?_
      have e9 : k = 600 := by omega
      subst e9
      refine lv_icmp_ge (tgt := 56) hx hb dk_X3_nearestPoint_12 (by decide) (fun _ => ?_) (fun c9 => absurd (by decide) c9)
      refine lv_iload_n hx hb dk_X3_nearestPoint_56 rfl (lv_at hl 2 rfl) ?_
      exact vx_ret (W.widen (Nat.le_of_ble_eq_true rfl) (Nat.le_of_ble_eq_true rfl) (W.iret (v := r) hx hb hr (fun T9 hT9 _ => ⟨⟨r, w, rfl, ⟨rfl, r, rfl, ks_nq_e hn⟩, by rw [hT9]; exact L.1, L.2.1⟩, L.2.2.F hT9⟩) L.2.2.2.2 dk_X3_nearestPoint_57 hlocks))
    | succ d ih =>
      intro k hk r x hn H locs L ls hl
      refine lv_iload hx hb dk_X3_nearestPoint_7 (lv_at hl 0 rfl) ?_
      refine lv_sipush (v := 600) hx hb dk_X3_nearestPoint_9 (by decide) ?_
      refine lv_icmp_ge (tgt := 56) hx hb dk_X3_nearestPoint_12 (by decide) (fun c9 => absurd c9 (nI_ge (a := k) (b := 600) (by omega) (by omega))) (fun _ => ?_)
      have hk6 : k < 600 := by omega
      refine lv_aload_n hx hb dk_X3_nearestPoint_15 rfl (lv_at hl 4 rfl) ?_
      refine lv_iload_n hx hb dk_X3_nearestPoint_16 rfl (lv_at hl 3 rfl) ?_
      refine lv_iload hx hb dk_X3_nearestPoint_17 (lv_at hl 0 rfl) ?_
      refine kx_cV (As := [.int (nI ll), .int (nI k)]) (rest := []) (q := q) (ci := 9) G L (kx_X3_isFreeFrom hl9 D (kx_D1 L) ht1 hf hg hb9 (a1 := nI ll) (k := k) hk6) gc_RX3_60v hf rfl rfl rfl (hml.trans hl.1.symm) ⟨Nat.le_of_ble_eq_true rfl, Nat.le_of_ble_eq_true rfl⟩ ⟨Nat.le_of_ble_eq_true rfl, Nat.le_of_ble_eq_true rfl⟩ (Nat.le_of_ble_eq_true rfl) dk_X3_nearestPoint_19 (fun _ _ _ _ _ h9 => h9.elim) (fun res w1 H locs hrv hq1 L => ?_)
      obtain ⟨ew1, hq1⟩ := hq1
      have ew1 := ew1.symm
      subst ew1
      rcases hq1 with ⟨rfl, c0⟩ | ⟨rfl, c0⟩
      · skip
        refine lv_if_eq (tgt := 50) hx hb dk_X3_nearestPoint_22 (by decide) (fun c9 => absurd c9 (by decide)) (fun _ => ?_)
        refine lv_iload_n hx hb dk_X3_nearestPoint_25 rfl (lv_at hl 3 rfl) ?_
        refine lv_iload hx hb dk_X3_nearestPoint_26 (lv_at hl 0 rfl) ?_
        refine kx_cS (As := [.int (nI ll), .int (nI k)]) (rest := []) G L (kx_X6_distance hl9 D (kx_D1 L)) gc_RX3_34s rfl (hml.trans hl.1.symm) ⟨Nat.le_of_ble_eq_true rfl, Nat.le_of_ble_eq_true rfl⟩ ⟨Nat.le_of_ble_eq_true rfl, Nat.le_of_ble_eq_true rfl⟩ (Nat.le_of_ble_eq_true rfl) dk_X3_nearestPoint_28 (fun _ _ _ _ _ h9 => h9.elim) (fun res w2 H locs hrv hq2 L => ?_)
        obtain ⟨ew2, hq2⟩ := hq2
        have ew2 := ew2.symm
        subst ew2
        obtain rfl := hq2
        refine lv_topi (fun y3 ey3 => ?_)
        obtain rfl : y3 = (nI (ks_d ll k)) := ey3.trans (ks_di_n hl6 hk6)
        have d9 := ks_d_le hl6 hk6
        refine lv_istore (lv' := [(5, .int (nI (ks_d ll k))), (4, .int (nI k)), (3, .int x), (2, .int r), (1, .int (nI ll)), (0, .ref b)]) hx hb dk_X3_nearestPoint_31 hl (by decide) rfl (fun ls hl => ?_)
        refine lv_iload_n hx hb dk_X3_nearestPoint_33 rfl (lv_at hl 3 rfl) ?_
        refine lv_iconst (v := (-1)) hx hb dk_X3_nearestPoint_34 (by decide) ?_
        have k5 : ((-1) : Int32).toInt = -1 := by decide
        refine lv_icmp_eq (tgt := 44) hx hb dk_X3_nearestPoint_35 (by decide) (fun c4 => ?_) (fun c4 => ?_)
        · skip
          have tc4 : (r : Int32).toInt = ((-1) : Int32).toInt := by rw [c4]
          refine lv_iload hx hb dk_X3_nearestPoint_44 (lv_at hl 1 rfl) ?_
          refine lv_istore_n (lv' := [(2, .int (nI k)), (5, .int (nI (ks_d ll k))), (4, .int (nI k)), (3, .int x), (1, .int (nI ll)), (0, .ref b)]) hx hb dk_X3_nearestPoint_46 rfl hl (by decide) rfl (fun ls hl => ?_)
          refine lv_iload hx hb dk_X3_nearestPoint_47 (lv_at hl 1 rfl) ?_
          refine lv_istore_n (lv' := [(3, .int (nI (ks_d ll k))), (2, .int (nI k)), (5, .int (nI (ks_d ll k))), (4, .int (nI k)), (1, .int (nI ll)), (0, .ref b)]) hx hb dk_X3_nearestPoint_49 rfl hl (by decide) rfl (fun ls hl => ?_)
          refine lv_iinc (v := (nI (k + 1))) (lv' := [(4, .int (nI (k + 1))), (3, .int (nI (ks_d ll k))), (2, .int (nI k)), (5, .int (nI (ks_d ll k))), (1, .int (nI ll)), (0, .ref b)]) hx hb dk_X3_nearestPoint_50 hl (k := 3) rfl (kx_inc (by omega)) (by decide) rfl (fun ls hl => ?_)
          refine lv_goto (tgt := 7) hx hb dk_X3_nearestPoint_53 (by decide) ?_
          exact ih (k + 1) (by omega) (nI k) (nI (ks_d ll k)) (ks_nq_1 hn c0 hk6 c4) H locs L ls (lv_sub hl [0, 1, 2, 4, 5] rfl)
        · skip
          have tc4 : ¬ (r : Int32).toInt = ((-1) : Int32).toInt := fun h => c4 (Int32.toInt_inj.mp h)
          refine lv_iload hx hb dk_X3_nearestPoint_38 (lv_at hl 0 rfl) ?_
          refine lv_iload_n hx hb dk_X3_nearestPoint_40 rfl (lv_at hl 2 rfl) ?_
          have k7 : (nI (ks_d ll k)).toInt = ((((ks_d ll k)) : Nat) : Int) := kx_nI (by omega)
          refine lv_icmp_ge (tgt := 50) hx hb dk_X3_nearestPoint_41 (by decide) (fun c6 => ?_) (fun c6 => ?_)
          · skip
            have tc6 : (x : Int32).toInt ≤ ((nI (ks_d ll k)) : Int32).toInt := Int32.le_iff_toInt_le.mp c6
            refine lv_iinc (v := (nI (k + 1))) (lv' := [(4, .int (nI (k + 1))), (5, .int (nI (ks_d ll k))), (3, .int x), (2, .int r), (1, .int (nI ll)), (0, .ref b)]) hx hb dk_X3_nearestPoint_50 hl (k := 1) rfl (kx_inc (by omega)) (by decide) rfl (fun ls hl => ?_)
            refine lv_goto (tgt := 7) hx hb dk_X3_nearestPoint_53 (by decide) ?_
            exact ih (k + 1) (by omega) r x (ks_nq_3 hn hk6 hl6 c4 (by omega)) H locs L ls (lv_sub hl [0, 2, 3, 4, 5] rfl)
          · skip
            have tc6 : ¬ (x : Int32).toInt ≤ ((nI (ks_d ll k)) : Int32).toInt := fun h => c6 (Int32.le_iff_toInt_le.mpr h)
            refine lv_iload hx hb dk_X3_nearestPoint_44 (lv_at hl 1 rfl) ?_
            refine lv_istore_n (lv' := [(2, .int (nI k)), (5, .int (nI (ks_d ll k))), (4, .int (nI k)), (3, .int x), (1, .int (nI ll)), (0, .ref b)]) hx hb dk_X3_nearestPoint_46 rfl hl (by decide) rfl (fun ls hl => ?_)
            refine lv_iload hx hb dk_X3_nearestPoint_47 (lv_at hl 1 rfl) ?_
            refine lv_istore_n (lv' := [(3, .int (nI (ks_d ll k))), (2, .int (nI k)), (5, .int (nI (ks_d ll k))), (4, .int (nI k)), (1, .int (nI ll)), (0, .ref b)]) hx hb dk_X3_nearestPoint_49 rfl hl (by decide) rfl (fun ls hl => ?_)
            refine lv_iinc (v := (nI (k + 1))) (lv' := [(4, .int (nI (k + 1))), (3, .int (nI (ks_d ll k))), (2, .int (nI k)), (5, .int (nI (ks_d ll k))), (1, .int (nI ll)), (0, .ref b)]) hx hb dk_X3_nearestPoint_50 hl (k := 3) rfl (kx_inc (by omega)) (by decide) rfl (fun ls hl => ?_)
            refine lv_goto (tgt := 7) hx hb dk_X3_nearestPoint_53 (by decide) ?_
            exact ih (k + 1) (by omega) (nI k) (nI (ks_d ll k)) (ks_nq_2 hn c0 hk6 hl6 c4 (by omega)) H locs L ls (lv_sub hl [0, 1, 2, 4, 5] rfl)
      · skip
        refine lv_if_eq (tgt := 50) hx hb dk_X3_nearestPoint_22 (by decide) (fun _ => ?_) (fun c9 => absurd (by decide) c9)
        refine lv_iinc (v := (nI (k + 1))) (lv' := [(4, .int (nI (k + 1))), (3, .int x), (2, .int r), (1, .int (nI ll)), (0, .ref b)]) hx hb dk_X3_nearestPoint_50 hl (k := 0) rfl (kx_inc (by omega)) (by decide) rfl (fun ls hl => ?_)
        refine lv_goto (tgt := 7) hx hb dk_X3_nearestPoint_53 (by decide) ?_
        exact ih (k + 1) (by omega) r x (ks_nq_0 hn c0) H locs L ls (lv_sub hl [0, 1, 2, 3, 4] rfl)
  exact loop 600 0 (by omega) (-1) 0 ks_nq_z _ _ L ls (lv_sub hl [0, 1, 2, 4, 3] rfl)
set_option maxHeartbeats 4000000 in
theorem kx_X6_rootFrom {l : Launch} (hl9 : l.stackTraces = false) (D : va_G) {tys : List (ClassId × FieldType)} {w : va_W} {sz : Nat} (hD0 : va_D (va_A w sz) w) {n0 q0 : Nat} (hn0 : n0 ≤ 100) (hq0 : q0 ≤ 1202) : kx_C l yX6_rootFrom cX6_rootFrom 4 (some .int) 0 0 0 0 [.int (nI n0), .int (nI q0)] D tys w sz (fun res w1 => w1 = w ∧ ∃ r : Nat, res = some (.int (nI r)) ∧ r ≤ 100 ∧ r * r ≤ q0 ∧ q0 < (r + 1) * (r + 1)) (fun _ => False) := by
  refine vx_ofW (cc := cX6_rootFrom) (maxL := 4) (ret := (some .int)) (by decide +kernel) rfl ?_
  intro p e s m args below meth c s₁ B9 hml hne hv
  obtain ⟨rfl, hsz, hP, hK, hT⟩ := hv
  subst hsz
  have hx := B9.exec
  have hb := B9.bytes
  have hr := B9.returns
  have hlocks := B9.notSynchronized
  have hts0 := atoms_spec (ws := Cond.code yX6_rootFrom cX6_rootFrom 4 (some .int) :: en_cw) B9.pre
  have hts : ∀ z ∈ en_cw, z.before _ s = true := fun z hz => hts0 z (List.mem_cons_of_mem _ hz)
  have hown : s.vm.findClass RX6 = some m.cls := findClass_of_methodNamed B9.named
  have G : kx_G p s m ([.int (nI n0), .int (nI q0)] : List Value).toArray c cX6_rootFrom RX6 D tys (va_A w s.heap.size) := ⟨hx, hb, hts, hown, hK, hT, fun q h => Or.inr h⟩
  have L : kx_H D (va_A w s.heap.size) s w s.heap [] := ⟨hP, ⟨hD0.1, fun j z hz => Or.inl ⟨j, z.2, hz⟩⟩, va_S.rf⟩
  have hl := lv_entry ([.int (nI n0), .int (nI q0)] : List Value) (n := 4) (Nat.le_of_ble_eq_true rfl)
  rw [lg_entry_eq]
  generalize (lg_sl ([.int (nI n0), .int (nI q0)] : List Value) ++ List.replicate (4 - (lg_sl ([.int (nI n0), .int (nI q0)] : List Value)).length) Slot.unset).toArray = ls at hl ⊢
  have hl : lv_has ls 4 [(0, .int (nI n0)), (1, .int (nI q0))] := hl
  refine lv_iload_n hx hb dk_X6_rootFrom_0 rfl (lv_at hl 0 rfl) ?_
  refine lv_istore_n (lv' := [(2, .int (nI n0)), (0, .int (nI n0)), (1, .int (nI q0))]) hx hb dk_X6_rootFrom_1 rfl hl (by decide) rfl (fun ls hl => ?_)
  refine lv_iconst (v := 0) hx hb dk_X6_rootFrom_2 (by decide) ?_
  refine lv_istore_n (lv' := [(3, .int 0), (2, .int (nI n0)), (0, .int (nI n0)), (1, .int (nI q0))]) hx hb dk_X6_rootFrom_3 rfl hl (by decide) rfl (fun ls hl => ?_)
  have up : ∀ (d : Nat) (r : Nat), r + d = 101 → ∀ (i : Nat), i ≤ r → r * r ≤ q0 → ∀ (ls : Array Slot), lv_has ls 4 [(3, .int (nI i)), (2, .int (nI r)), (1, .int (nI q0)), (0, .int (nI n0))] → W p l e (headSpec (Cond.code yX6_rootFrom cX6_rootFrom 4 (some .int) :: en_cw) (en_rm 0 (0, 0))).room s m ([.int (nI n0), .int (nI q0)] : List Value).toArray below meth c s.heap [] (0) (0) (vx_MQ below (kx_Q 0 D (fun res w1 => w1 = w ∧ ∃ r : Nat, res = some (.int (nI r)) ∧ r ≤ 100 ∧ r * r ≤ q0 ∧ q0 < (r + 1) * (r + 1)) (va_A w s.heap.size)) (kx_XC D w (fun _ => False) (va_A w s.heap.size)) ([.int (nI n0), .int (nI q0)] : List Value).toArray s 0 0 (va_A w s.heap.size)) (F0 m 29 ls []) := by
    intro d
    induction d with
    | zero =>
      intro r hd i hi hrq ls hl
      exact absurd (ks_r34 hrq hq0) (by omega)
    | succ d ih =>
      intro r hd i hi hrq ls hl
      have hr34 := ks_r34 hrq hq0
      refine lv_iload_n hx hb dk_X6_rootFrom_29 rfl (lv_at hl 0 rfl) ?_
      refine lv_sipush (v := 600) hx hb dk_X6_rootFrom_30 (by decide) ?_
      have k2 : (nI i).toInt = (((i) : Nat) : Int) := kx_nI (by omega)
      have k3 : (600 : Int32).toInt = 600 := by decide
      refine lv_icmp_ge (tgt := 56) hx hb dk_X6_rootFrom_33 (by decide) (fun c1 => ?_) (fun c1 => ?_)
      · skip
        have tc1 : (600 : Int32).toInt ≤ ((nI i) : Int32).toInt := Int32.le_iff_toInt_le.mp c1
        exfalso
        omega
      · skip
        have tc1 : ¬ (600 : Int32).toInt ≤ ((nI i) : Int32).toInt := fun h => c1 (Int32.le_iff_toInt_le.mpr h)
        refine lv_iload_n hx hb dk_X6_rootFrom_36 rfl (lv_at hl 1 rfl) ?_
        refine lv_iconst (v := 1) hx hb dk_X6_rootFrom_37 (by decide) ?_
        refine lv_iadd hx hb dk_X6_rootFrom_38 ?_
        refine lv_topi (fun y4 ey4 => ?_)
        obtain rfl : y4 = (nI (r + 1)) := ey4.trans (kx_inc (by omega))
        refine lv_iload_n hx hb dk_X6_rootFrom_39 rfl (lv_at hl 1 rfl) ?_
        refine lv_iconst (v := 1) hx hb dk_X6_rootFrom_40 (by decide) ?_
        refine lv_iadd hx hb dk_X6_rootFrom_41 ?_
        refine lv_topi (fun y5 ey5 => ?_)
        obtain rfl : y5 = (nI (r + 1)) := ey5.trans (kx_inc (by omega))
        refine lv_imul hx hb dk_X6_rootFrom_42 ?_
        obtain ⟨z, ez⟩ : ∃ z : Nat, z = (r + 1) * (r + 1) := ⟨_, rfl⟩
        have z9 : z ≤ 35 * 35 := by rw [ez]; exact Nat.mul_le_mul (by omega) (by omega)
        refine lv_topi (fun y6 ey6 => ?_)
        obtain rfl : y6 = (nI z) := ey6.trans (by rw [ez]; exact ks_mul (by omega) (by omega))
        refine lv_iload_n hx hb dk_X6_rootFrom_43 rfl (lv_at hl 2 rfl) ?_
        have k8 : (nI z).toInt = (((z) : Nat) : Int) := kx_nI (by omega)
        have k9 : (nI q0).toInt = (((q0) : Nat) : Int) := kx_nI (by omega)
        refine lv_icmp_gt (tgt := 56) hx hb dk_X6_rootFrom_44 (by decide) (fun c7 => ?_) (fun c7 => ?_)
        · skip
          have tc7 : ((nI q0) : Int32).toInt < ((nI z) : Int32).toInt := Int32.lt_iff_toInt_lt.mp c7
          refine lv_iload_n hx hb dk_X6_rootFrom_56 rfl (lv_at hl 1 rfl) ?_
          exact vx_ret (W.widen (Nat.le_of_ble_eq_true rfl) (Nat.le_of_ble_eq_true rfl) (W.iret (v := (nI r)) hx hb hr (fun T9 hT9 _ => ⟨⟨(nI r), w, rfl, ⟨rfl, r, rfl, by omega, hrq, by rw [← ez]; omega⟩, by rw [hT9]; exact L.1, L.2.1⟩, L.2.2.F hT9⟩) L.2.2.2.2 dk_X6_rootFrom_57 hlocks))
        · skip
          have tc7 : ¬ ((nI q0) : Int32).toInt < ((nI z) : Int32).toInt := fun h => c7 (Int32.lt_iff_toInt_lt.mpr h)
          refine lv_iinc (v := (nI (r + 1))) (lv' := [(2, .int (nI (r + 1))), (3, .int (nI i)), (1, .int (nI q0)), (0, .int (nI n0))]) hx hb dk_X6_rootFrom_47 hl (k := 1) rfl (kx_inc (by omega)) (by decide) rfl (fun ls hl => ?_)
          refine lv_iinc (v := (nI (i + 1))) (lv' := [(3, .int (nI (i + 1))), (2, .int (nI (r + 1))), (1, .int (nI q0)), (0, .int (nI n0))]) hx hb dk_X6_rootFrom_50 hl (k := 1) rfl (kx_inc (by omega)) (by decide) rfl (fun ls hl => ?_)
          refine lv_goto (tgt := 29) hx hb dk_X6_rootFrom_53 (by decide) ?_
          exact ih (r + 1) (by omega) (i + 1) (by omega) (by rw [← ez]; omega) ls (lv_sub hl [0, 1, 2, 3] rfl)
  have S27 : ∀ (r : Nat), r ≤ 100 → r * r ≤ q0 → ∀ (ls : Array Slot), lv_has ls 4 [(2, .int (nI r)), (1, .int (nI q0)), (0, .int (nI n0))] → W p l e (headSpec (Cond.code yX6_rootFrom cX6_rootFrom 4 (some .int) :: en_cw) (en_rm 0 (0, 0))).room s m ([.int (nI n0), .int (nI q0)] : List Value).toArray below meth c s.heap [] (0) (0) (vx_MQ below (kx_Q 0 D (fun res w1 => w1 = w ∧ ∃ r : Nat, res = some (.int (nI r)) ∧ r ≤ 100 ∧ r * r ≤ q0 ∧ q0 < (r + 1) * (r + 1)) (va_A w s.heap.size)) (kx_XC D w (fun _ => False) (va_A w s.heap.size)) ([.int (nI n0), .int (nI q0)] : List Value).toArray s 0 0 (va_A w s.heap.size)) (F0 m 27 ls []) := by
    intro r hr9 hrq ls hl
    refine lv_iconst (v := 0) hx hb dk_X6_rootFrom_27 (by decide) ?_
    refine lv_istore_n (lv' := [(3, .int 0), (2, .int (nI r)), (1, .int (nI q0)), (0, .int (nI n0))]) hx hb dk_X6_rootFrom_28 rfl hl (by decide) rfl (fun ls hl => ?_)
    exact up (101 - r) r (by omega) 0 (Nat.zero_le _) hrq ls (lv_sub hl [0, 1, 2, 3] rfl)
  have down : ∀ (r i : Nat), r + i = n0 → ∀ (ls : Array Slot), lv_has ls 4 [(3, .int (nI i)), (2, .int (nI r)), (1, .int (nI q0)), (0, .int (nI n0))] → W p l e (headSpec (Cond.code yX6_rootFrom cX6_rootFrom 4 (some .int) :: en_cw) (en_rm 0 (0, 0))).room s m ([.int (nI n0), .int (nI q0)] : List Value).toArray below meth c s.heap [] (0) (0) (vx_MQ below (kx_Q 0 D (fun res w1 => w1 = w ∧ ∃ r : Nat, res = some (.int (nI r)) ∧ r ≤ 100 ∧ r * r ≤ q0 ∧ q0 < (r + 1) * (r + 1)) (va_A w s.heap.size)) (kx_XC D w (fun _ => False) (va_A w s.heap.size)) ([.int (nI n0), .int (nI q0)] : List Value).toArray s 0 0 (va_A w s.heap.size)) (F0 m 4 ls []) := by
    intro r
    induction r with
    | zero =>
      intro i hi ls hl
      refine lv_iload_n hx hb dk_X6_rootFrom_4 rfl (lv_at hl 0 rfl) ?_
      refine lv_sipush (v := 600) hx hb dk_X6_rootFrom_5 (by decide) ?_
      have k11 : (nI i).toInt = (((i) : Nat) : Int) := kx_nI (by omega)
      have k12 : (600 : Int32).toInt = 600 := by decide
      refine lv_icmp_ge (tgt := 27) hx hb dk_X6_rootFrom_8 (by decide) (fun c10 => ?_) (fun c10 => ?_)
      · skip
        have tc10 : (600 : Int32).toInt ≤ ((nI i) : Int32).toInt := Int32.le_iff_toInt_le.mp c10
        exfalso
        omega
      · skip
        have tc10 : ¬ (600 : Int32).toInt ≤ ((nI i) : Int32).toInt := fun h => c10 (Int32.le_iff_toInt_le.mpr h)
        refine lv_iload_n hx hb dk_X6_rootFrom_11 rfl (lv_at hl 1 rfl) ?_
        refine lv_iload_n hx hb dk_X6_rootFrom_12 rfl (lv_at hl 1 rfl) ?_
        refine lv_imul hx hb dk_X6_rootFrom_13 ?_
        obtain ⟨z, ez⟩ : ∃ z : Nat, z = 0 * 0 := ⟨_, rfl⟩
        have z9 : z ≤ 100 * 100 := by rw [ez]; exact Nat.mul_le_mul (by omega) (by omega)
        refine lv_topi (fun y13 ey13 => ?_)
        obtain rfl : y13 = (nI z) := ey13.trans (by rw [ez]; exact ks_mul (by omega) (by omega))
        refine lv_iload_n hx hb dk_X6_rootFrom_14 rfl (lv_at hl 2 rfl) ?_
        have k15 : (nI z).toInt = (((z) : Nat) : Int) := kx_nI (by omega)
        have k16 : (nI q0).toInt = (((q0) : Nat) : Int) := kx_nI (by omega)
        refine lv_icmp_le (tgt := 27) hx hb dk_X6_rootFrom_15 (by decide) (fun c14 => ?_) (fun c14 => ?_)
        · skip
          have tc14 : ((nI z) : Int32).toInt ≤ ((nI q0) : Int32).toInt := Int32.le_iff_toInt_le.mp c14
          exact S27 0 (by omega) (by rw [← ez]; omega) ls (lv_sub hl [1, 2, 3] rfl)
        · skip
          have tc14 : ¬ ((nI z) : Int32).toInt ≤ ((nI q0) : Int32).toInt := fun h => c14 (Int32.le_iff_toInt_le.mpr h)
          exfalso
          omega
    | succ r ih =>
      intro i hi ls hl
      refine lv_iload_n hx hb dk_X6_rootFrom_4 rfl (lv_at hl 0 rfl) ?_
      refine lv_sipush (v := 600) hx hb dk_X6_rootFrom_5 (by decide) ?_
      have k18 : (nI i).toInt = (((i) : Nat) : Int) := kx_nI (by omega)
      have k19 : (600 : Int32).toInt = 600 := by decide
      refine lv_icmp_ge (tgt := 27) hx hb dk_X6_rootFrom_8 (by decide) (fun c17 => ?_) (fun c17 => ?_)
      · skip
        have tc17 : (600 : Int32).toInt ≤ ((nI i) : Int32).toInt := Int32.le_iff_toInt_le.mp c17
        exfalso
        omega
      · skip
        have tc17 : ¬ (600 : Int32).toInt ≤ ((nI i) : Int32).toInt := fun h => c17 (Int32.le_iff_toInt_le.mpr h)
        refine lv_iload_n hx hb dk_X6_rootFrom_11 rfl (lv_at hl 1 rfl) ?_
        refine lv_iload_n hx hb dk_X6_rootFrom_12 rfl (lv_at hl 1 rfl) ?_
        refine lv_imul hx hb dk_X6_rootFrom_13 ?_
        obtain ⟨z, ez⟩ : ∃ z : Nat, z = (r + 1) * (r + 1) := ⟨_, rfl⟩
        have z9 : z ≤ 100 * 100 := by rw [ez]; exact Nat.mul_le_mul (by omega) (by omega)
        refine lv_topi (fun y20 ey20 => ?_)
        obtain rfl : y20 = (nI z) := ey20.trans (by rw [ez]; exact ks_mul (by omega) (by omega))
        refine lv_iload_n hx hb dk_X6_rootFrom_14 rfl (lv_at hl 2 rfl) ?_
        have k22 : (nI z).toInt = (((z) : Nat) : Int) := kx_nI (by omega)
        have k23 : (nI q0).toInt = (((q0) : Nat) : Int) := kx_nI (by omega)
        refine lv_icmp_le (tgt := 27) hx hb dk_X6_rootFrom_15 (by decide) (fun c21 => ?_) (fun c21 => ?_)
        · skip
          have tc21 : ((nI z) : Int32).toInt ≤ ((nI q0) : Int32).toInt := Int32.le_iff_toInt_le.mp c21
          exact S27 (r + 1) (by omega) (by rw [← ez]; omega) ls (lv_sub hl [1, 2, 3] rfl)
        · skip
          have tc21 : ¬ ((nI z) : Int32).toInt ≤ ((nI q0) : Int32).toInt := fun h => c21 (Int32.le_iff_toInt_le.mpr h)
          refine lv_iinc (v := (nI r)) (lv' := [(2, .int (nI r)), (3, .int (nI i)), (1, .int (nI q0)), (0, .int (nI n0))]) hx hb dk_X6_rootFrom_18 hl (k := 1) rfl (ks_decI (by omega)) (by decide) rfl (fun ls hl => ?_)
          refine lv_iinc (v := (nI (i + 1))) (lv' := [(3, .int (nI (i + 1))), (2, .int (nI r)), (1, .int (nI q0)), (0, .int (nI n0))]) hx hb dk_X6_rootFrom_21 hl (k := 1) rfl (kx_inc (by omega)) (by decide) rfl (fun ls hl => ?_)
          refine lv_goto (tgt := 4) hx hb dk_X6_rootFrom_24 (by decide) ?_
          exact ih (i + 1) (by omega) ls (lv_sub hl [0, 1, 2, 3] rfl)
  exact down n0 0 (by omega) ls (lv_sub hl [0, 1, 3, 2] rfl)
set_option maxHeartbeats 4000000 in
theorem kx_X3_pointInRow {l : Launch} (hl9 : l.stackTraces = false) (D : va_G) {tys : List (ClassId × FieldType)} {w : va_W} {sz : Nat} (hD0 : va_D (va_A w sz) w) {b b2 q q2 : Nat} {p0 i0 cup t0 r0 : Int32} {cX : ClassId} {ck : Nat → Int32} {ll d y : Nat} (ht1 : tys[1]? = some (cX, .char)) (hf : w[q]? = some (b, .inr (9, [.ref b2, .int p0, .int i0, .int cup, .int t0, .int r0]))) (hg : w[q2]? = some (b2, .inl (cX, 600, .inl ck))) (hb9 : ∀ i, i < 600 → 0 ≤ (ck i).toInt ∧ (ck i).toInt ≤ 65535) (hl6 : ll < 600) (hd9 : d ≤ 100) (hy9 : y < 20) : kx_C l yX3_pointInRow cX3_pointInRow 5 (some .int) 3 0 0 0 [.ref b, .int (nI ll), .int (nI d), .int (nI y)] D tys w sz (fun res w1 => w1 = w ∧ ((∃ x : Nat, x < 30 ∧ (x + d = ll % 30 ∨ x = ll % 30 + d) ∧ ks_fr ck cup (nI ll) (y * 30 + x) ∧ res = some (.int (nI (y * 30 + x))) ∧ ∀ x9, x9 < 30 → (x9 + d = ll % 30 ∨ x9 = ll % 30 + d) → ks_fr ck cup (nI ll) (y * 30 + x9) → x ≤ x9) ∨ (res = some (.int (-1)) ∧ ∀ x9, x9 < 30 → (x9 + d = ll % 30 ∨ x9 = ll % 30 + d) → ¬ ks_fr ck cup (nI ll) (y * 30 + x9)))) (fun _ => False) := by
  refine vx_ofW (cc := cX3_pointInRow) (maxL := 5) (ret := (some .int)) (by decide +kernel) rfl ?_
  intro p e s m args below meth c s₁ B9 hml hne hv
  obtain ⟨rfl, hsz, hP, hK, hT⟩ := hv
  subst hsz
  have hx := B9.exec
  have hb := B9.bytes
  have hr := B9.returns
  have hlocks := B9.notSynchronized
  have hts0 := atoms_spec (ws := Cond.code yX3_pointInRow cX3_pointInRow 5 (some .int) :: en_cw) B9.pre
  have hts : ∀ z ∈ en_cw, z.before _ s = true := fun z hz => hts0 z (List.mem_cons_of_mem _ hz)
  have hown : s.vm.findClass RX3 = some m.cls := findClass_of_methodNamed B9.named
  have G : kx_G p s m ([.ref b, .int (nI ll), .int (nI d), .int (nI y)] : List Value).toArray c cX3_pointInRow RX3 D tys (va_A w s.heap.size) := ⟨hx, hb, hts, hown, hK, hT, fun q h => Or.inr h⟩
  have L : kx_H D (va_A w s.heap.size) s w s.heap [] := ⟨hP, ⟨hD0.1, fun j z hz => Or.inl ⟨j, z.2, hz⟩⟩, va_S.rf⟩
  have hl := lv_entry ([.ref b, .int (nI ll), .int (nI d), .int (nI y)] : List Value) (n := 5) (Nat.le_of_ble_eq_true rfl)
  rw [lg_entry_eq]
  generalize (lg_sl ([.ref b, .int (nI ll), .int (nI d), .int (nI y)] : List Value) ++ List.replicate (5 - (lg_sl ([.ref b, .int (nI ll), .int (nI d), .int (nI y)] : List Value)).length) Slot.unset).toArray = ls at hl ⊢
  have hl : lv_has ls 5 [(0, .ref b), (1, .int (nI ll)), (2, .int (nI d)), (3, .int (nI y))] := hl
  have ky : (nI y).toInt = (y : Int) := kx_nI (by omega)
  refine lv_iload_n hx hb dk_X3_pointInRow_0 rfl (lv_at hl 1 rfl) ?_
  refine lv_bipush (v := 30) hx hb dk_X3_pointInRow_1 (by decide) ?_
  refine lv_irem hx hb dk_X3_pointInRow_3 (by decide) ?_
  refine lv_topi (fun y1 ey1 => ?_)
  obtain rfl : y1 = (nI (ll % 30)) := ey1.trans (ks_rem (by omega))
  refine lv_istore (lv' := [(4, .int (nI (ll % 30))), (0, .ref b), (1, .int (nI ll)), (2, .int (nI d)), (3, .int (nI y))]) hx hb dk_X3_pointInRow_4 hl (by decide) rfl (fun ls hl => ?_)
  have S42 : (∀ x9, x9 + d = ll % 30 → ¬ ks_fr ck cup (nI ll) (y * 30 + x9)) → ∀ (H : Heap) (locs : List Loc), kx_H D (va_A w s.heap.size) s w H locs → ∀ (ls : Array Slot), lv_has ls 5 [(4, .int (nI (ll % 30))), (3, .int (nI y)), (2, .int (nI d)), (1, .int (nI ll)), (0, .ref b)] → W p l e (headSpec (Cond.code yX3_pointInRow cX3_pointInRow 5 (some .int) :: en_cw) (en_rm 3 (0, 0))).room s m ([.ref b, .int (nI ll), .int (nI d), .int (nI y)] : List Value).toArray below meth c H locs (0) (0) (vx_MQ below (kx_Q 0 D (fun res w1 => w1 = w ∧ ((∃ x : Nat, x < 30 ∧ (x + d = ll % 30 ∨ x = ll % 30 + d) ∧ ks_fr ck cup (nI ll) (y * 30 + x) ∧ res = some (.int (nI (y * 30 + x))) ∧ ∀ x9, x9 < 30 → (x9 + d = ll % 30 ∨ x9 = ll % 30 + d) → ks_fr ck cup (nI ll) (y * 30 + x9) → x ≤ x9) ∨ (res = some (.int (-1)) ∧ ∀ x9, x9 < 30 → (x9 + d = ll % 30 ∨ x9 = ll % 30 + d) → ¬ ks_fr ck cup (nI ll) (y * 30 + x9)))) (va_A w s.heap.size)) (kx_XC D w (fun _ => False) (va_A w s.heap.size)) ([.ref b, .int (nI ll), .int (nI d), .int (nI y)] : List Value).toArray s 0 0 (va_A w s.heap.size)) (F0 m 42 ls []) := by
    intro hno H locs L ls hl
    have kx9 : (nI (ll % 30 + d)).toInt = ((ll % 30 + d : Nat) : Int) := kx_nI (by omega)
    refine lv_iload hx hb dk_X3_pointInRow_42 (lv_at hl 0 rfl) ?_
    refine lv_iload_n hx hb dk_X3_pointInRow_44 rfl (lv_at hl 2 rfl) ?_
    refine lv_iadd hx hb dk_X3_pointInRow_45 ?_
    refine lv_topi (fun y2 ey2 => ?_)
    obtain rfl : y2 = (nI (ll % 30 + d)) := ey2.trans (ks_add (a := ll % 30) (b := d) (by omega) (by omega))
    refine lv_iload_n hx hb dk_X3_pointInRow_46 rfl (lv_at hl 1 rfl) ?_
    refine kx_cS (As := [.int (nI (ll % 30 + d)), .int (nI y)]) (rest := []) G L (kx_X6_isCell hl9 D (kx_D1 L)) gc_RX3_15s rfl (hml.trans hl.1.symm) ⟨Nat.le_of_ble_eq_true rfl, Nat.le_of_ble_eq_true rfl⟩ ⟨Nat.le_of_ble_eq_true rfl, Nat.le_of_ble_eq_true rfl⟩ (Nat.le_of_ble_eq_true rfl) dk_X3_pointInRow_47 (fun _ _ _ _ _ h9 => h9.elim) (fun res w3 H locs hrv hq3 L => ?_)
    obtain ⟨ew3, hq3⟩ := hq3
    have ew3 := ew3.symm
    subst ew3
    rcases hq3 with ⟨rfl, c0⟩ | ⟨rfl, c0⟩
    · skip
      refine lv_if_eq (tgt := 78) hx hb dk_X3_pointInRow_50 (by decide) (fun c9 => absurd c9 (by decide)) (fun _ => ?_)
      have hx30 : ll % 30 + d < 30 := by have h9 := c0.2.1; rw [kx9] at h9; omega
      refine lv_aload_n hx hb dk_X3_pointInRow_53 rfl (lv_at hl 4 rfl) ?_
      refine lv_iload_n hx hb dk_X3_pointInRow_54 rfl (lv_at hl 3 rfl) ?_
      refine lv_iload hx hb dk_X3_pointInRow_55 (lv_at hl 0 rfl) ?_
      refine lv_iload_n hx hb dk_X3_pointInRow_57 rfl (lv_at hl 2 rfl) ?_
      refine lv_iadd hx hb dk_X3_pointInRow_58 ?_
      refine lv_topi (fun y4 ey4 => ?_)
      obtain rfl : y4 = (nI (ll % 30 + d)) := ey4.trans (ks_add (a := ll % 30) (b := d) (by omega) (by omega))
      refine lv_iload_n hx hb dk_X3_pointInRow_59 rfl (lv_at hl 1 rfl) ?_
      refine kx_cS (As := [.int (nI (ll % 30 + d)), .int (nI y)]) (rest := [.int (nI ll), .ref b]) G L (kx_X6_cellAt hl9 D (kx_D1 L)) gc_RX3_19s rfl (hml.trans hl.1.symm) ⟨Nat.le_of_ble_eq_true rfl, Nat.le_of_ble_eq_true rfl⟩ ⟨Nat.le_of_ble_eq_true rfl, Nat.le_of_ble_eq_true rfl⟩ (Nat.le_of_ble_eq_true rfl) dk_X3_pointInRow_60 (fun _ _ _ _ _ h9 => h9.elim) (fun res w5 H locs hrv hq5 L => ?_)
      obtain ⟨ew5, hq5⟩ := hq5
      have ew5 := ew5.symm
      subst ew5
      obtain rfl := hq5
      refine lv_topi (fun y6 ey6 => ?_)
      obtain rfl : y6 = (nI (y * 30 + (ll % 30 + d))) := ey6.trans (kx_at (by omega) (by omega))
      refine kx_cV (As := [.int (nI ll), .int (nI (y * 30 + (ll % 30 + d)))]) (rest := []) (q := q) (ci := 9) G L (kx_X3_isFreeFrom hl9 D (kx_D1 L) ht1 hf hg hb9 (a1 := nI ll) (k := y * 30 + (ll % 30 + d)) (by omega)) gc_RX3_60v hf rfl rfl rfl (hml.trans hl.1.symm) ⟨Nat.le_of_ble_eq_true rfl, Nat.le_of_ble_eq_true rfl⟩ ⟨Nat.le_of_ble_eq_true rfl, Nat.le_of_ble_eq_true rfl⟩ (Nat.le_of_ble_eq_true rfl) dk_X3_pointInRow_63 (fun _ _ _ _ _ h9 => h9.elim) (fun res w7 H locs hrv hq7 L => ?_)
      obtain ⟨ew7, hq7⟩ := hq7
      have ew7 := ew7.symm
      subst ew7
      rcases hq7 with ⟨rfl, c1⟩ | ⟨rfl, c1⟩
      · skip
        refine lv_if_eq (tgt := 78) hx hb dk_X3_pointInRow_66 (by decide) (fun c9 => absurd c9 (by decide)) (fun _ => ?_)
        refine lv_iload hx hb dk_X3_pointInRow_69 (lv_at hl 0 rfl) ?_
        refine lv_iload_n hx hb dk_X3_pointInRow_71 rfl (lv_at hl 2 rfl) ?_
        refine lv_iadd hx hb dk_X3_pointInRow_72 ?_
        refine lv_topi (fun y8 ey8 => ?_)
        obtain rfl : y8 = (nI (ll % 30 + d)) := ey8.trans (ks_add (a := ll % 30) (b := d) (by omega) (by omega))
        refine lv_iload_n hx hb dk_X3_pointInRow_73 rfl (lv_at hl 1 rfl) ?_
        refine kx_cS (As := [.int (nI (ll % 30 + d)), .int (nI y)]) (rest := []) G L (kx_X6_cellAt hl9 D (kx_D1 L)) gc_RX3_19s rfl (hml.trans hl.1.symm) ⟨Nat.le_of_ble_eq_true rfl, Nat.le_of_ble_eq_true rfl⟩ ⟨Nat.le_of_ble_eq_true rfl, Nat.le_of_ble_eq_true rfl⟩ (Nat.le_of_ble_eq_true rfl) dk_X3_pointInRow_74 (fun _ _ _ _ _ h9 => h9.elim) (fun res w9 H locs hrv hq9 L => ?_)
        obtain ⟨ew9, hq9⟩ := hq9
        have ew9 := ew9.symm
        subst ew9
        obtain rfl := hq9
        refine lv_topi (fun y10 ey10 => ?_)
        obtain rfl : y10 = (nI (y * 30 + (ll % 30 + d))) := ey10.trans (kx_at (by omega) (by omega))
        exact vx_ret (W.widen (Nat.le_of_ble_eq_true rfl) (Nat.le_of_ble_eq_true rfl) (W.iret (v := (nI (y * 30 + (ll % 30 + d)))) hx hb hr (fun T9 hT9 _ => ⟨⟨(nI (y * 30 + (ll % 30 + d))), w, rfl, ⟨rfl, Or.inl ⟨ll % 30 + d, hx30, Or.inr rfl, c1, rfl, fun x9 h1 h2 h3 => by rcases h2 with h2 | h2; exact absurd h3 (hno x9 h2); omega⟩⟩, by rw [hT9]; exact L.1, L.2.1⟩, L.2.2.F hT9⟩) L.2.2.2.2 dk_X3_pointInRow_77 hlocks))
      · skip
        refine lv_if_eq (tgt := 78) hx hb dk_X3_pointInRow_66 (by decide) (fun _ => ?_) (fun c9 => absurd (by decide) c9)
        refine lv_iconst (v := (-1)) hx hb dk_X3_pointInRow_78 (by decide) ?_
        exact vx_ret (W.widen (Nat.le_of_ble_eq_true rfl) (Nat.le_of_ble_eq_true rfl) (W.iret (v := (-1)) hx hb hr (fun T9 hT9 _ => ⟨⟨(-1), w, rfl, ⟨rfl, Or.inr ⟨rfl, fun x9 h1 h2 h3 => by rcases h2 with h2 | h2; exact absurd h3 (hno x9 h2); rw [h2] at h3; exact c1 h3⟩⟩, by rw [hT9]; exact L.1, L.2.1⟩, L.2.2.F hT9⟩) L.2.2.2.2 dk_X3_pointInRow_79 hlocks))
    · skip
      refine lv_if_eq (tgt := 78) hx hb dk_X3_pointInRow_50 (by decide) (fun _ => ?_) (fun c9 => absurd (by decide) c9)
      refine lv_iconst (v := (-1)) hx hb dk_X3_pointInRow_78 (by decide) ?_
      exact vx_ret (W.widen (Nat.le_of_ble_eq_true rfl) (Nat.le_of_ble_eq_true rfl) (W.iret (v := (-1)) hx hb hr (fun T9 hT9 _ => ⟨⟨(-1), w, rfl, ⟨rfl, Or.inr ⟨rfl, fun x9 h1 h2 h3 => by rcases h2 with h2 | h2; exact absurd h3 (hno x9 h2); exact c0 ⟨by rw [kx9]; omega, by rw [kx9]; omega, by rw [ky]; omega, by rw [ky]; omega⟩⟩⟩, by rw [hT9]; exact L.1, L.2.1⟩, L.2.2.F hT9⟩) L.2.2.2.2 dk_X3_pointInRow_79 hlocks))
  rcases Nat.lt_or_ge (ll % 30) d with hdl | hdl
  · skip
    have kz := ks_sub (p := ll % 30) (q := d) (by omega) (by omega)
    refine lv_iload hx hb dk_X3_pointInRow_6 (lv_at hl 0 rfl) ?_
    refine lv_iload_n hx hb dk_X3_pointInRow_8 rfl (lv_at hl 3 rfl) ?_
    refine lv_isub hx hb dk_X3_pointInRow_9 ?_
    refine lv_iload_n hx hb dk_X3_pointInRow_10 rfl (lv_at hl 4 rfl) ?_
    refine kx_cS (As := [.int ((nI (ll % 30)) - (nI d)), .int (nI y)]) (rest := []) G L (kx_X6_isCell hl9 D (kx_D1 L)) gc_RX3_15s rfl (hml.trans hl.1.symm) ⟨Nat.le_of_ble_eq_true rfl, Nat.le_of_ble_eq_true rfl⟩ ⟨Nat.le_of_ble_eq_true rfl, Nat.le_of_ble_eq_true rfl⟩ (Nat.le_of_ble_eq_true rfl) dk_X3_pointInRow_11 (fun _ _ _ _ _ h9 => h9.elim) (fun res w11 H locs hrv hq11 L => ?_)
    obtain ⟨ew11, hq11⟩ := hq11
    have ew11 := ew11.symm
    subst ew11
    rcases hq11 with ⟨rfl, c0⟩ | ⟨rfl, c0⟩
    · skip
      exfalso
      have h9 := c0.1
      rw [kz] at h9
      omega
    · skip
      refine lv_if_eq (tgt := 42) hx hb dk_X3_pointInRow_14 (by decide) (fun _ => ?_) (fun c9 => absurd (by decide) c9)
      exact S42 (fun x9 h => absurd h (by omega)) _ _ L ls (lv_sub hl [0, 4, 3, 2, 1] rfl)
  · skip
    have kx9 : (nI (ll % 30 - d)).toInt = ((ll % 30 - d : Nat) : Int) := kx_nI (by omega)
    have hx30 : ll % 30 - d < 30 := by omega
    refine lv_iload hx hb dk_X3_pointInRow_6 (lv_at hl 0 rfl) ?_
    refine lv_iload_n hx hb dk_X3_pointInRow_8 rfl (lv_at hl 3 rfl) ?_
    refine lv_isub hx hb dk_X3_pointInRow_9 ?_
    refine lv_topi (fun y12 ey12 => ?_)
    obtain rfl : y12 = (nI (ll % 30 - d)) := ey12.trans (ks_subn hdl (by omega))
    refine lv_iload_n hx hb dk_X3_pointInRow_10 rfl (lv_at hl 4 rfl) ?_
    refine kx_cS (As := [.int (nI (ll % 30 - d)), .int (nI y)]) (rest := []) G L (kx_X6_isCell hl9 D (kx_D1 L)) gc_RX3_15s rfl (hml.trans hl.1.symm) ⟨Nat.le_of_ble_eq_true rfl, Nat.le_of_ble_eq_true rfl⟩ ⟨Nat.le_of_ble_eq_true rfl, Nat.le_of_ble_eq_true rfl⟩ (Nat.le_of_ble_eq_true rfl) dk_X3_pointInRow_11 (fun _ _ _ _ _ h9 => h9.elim) (fun res w13 H locs hrv hq13 L => ?_)
    obtain ⟨ew13, hq13⟩ := hq13
    have ew13 := ew13.symm
    subst ew13
    rcases hq13 with ⟨rfl, c0⟩ | ⟨rfl, c0⟩
    · skip
      refine lv_if_eq (tgt := 42) hx hb dk_X3_pointInRow_14 (by decide) (fun c9 => absurd c9 (by decide)) (fun _ => ?_)
      refine lv_aload_n hx hb dk_X3_pointInRow_17 rfl (lv_at hl 1 rfl) ?_
      refine lv_iload_n hx hb dk_X3_pointInRow_18 rfl (lv_at hl 2 rfl) ?_
      refine lv_iload hx hb dk_X3_pointInRow_19 (lv_at hl 0 rfl) ?_
      refine lv_iload_n hx hb dk_X3_pointInRow_21 rfl (lv_at hl 3 rfl) ?_
      refine lv_isub hx hb dk_X3_pointInRow_22 ?_
      refine lv_topi (fun y14 ey14 => ?_)
      obtain rfl : y14 = (nI (ll % 30 - d)) := ey14.trans (ks_subn hdl (by omega))
      refine lv_iload_n hx hb dk_X3_pointInRow_23 rfl (lv_at hl 4 rfl) ?_
      refine kx_cS (As := [.int (nI (ll % 30 - d)), .int (nI y)]) (rest := [.int (nI ll), .ref b]) G L (kx_X6_cellAt hl9 D (kx_D1 L)) gc_RX3_19s rfl (hml.trans hl.1.symm) ⟨Nat.le_of_ble_eq_true rfl, Nat.le_of_ble_eq_true rfl⟩ ⟨Nat.le_of_ble_eq_true rfl, Nat.le_of_ble_eq_true rfl⟩ (Nat.le_of_ble_eq_true rfl) dk_X3_pointInRow_24 (fun _ _ _ _ _ h9 => h9.elim) (fun res w15 H locs hrv hq15 L => ?_)
      obtain ⟨ew15, hq15⟩ := hq15
      have ew15 := ew15.symm
      subst ew15
      obtain rfl := hq15
      refine lv_topi (fun y16 ey16 => ?_)
      obtain rfl : y16 = (nI (y * 30 + (ll % 30 - d))) := ey16.trans (kx_at (by omega) (by omega))
      refine kx_cV (As := [.int (nI ll), .int (nI (y * 30 + (ll % 30 - d)))]) (rest := []) (q := q) (ci := 9) G L (kx_X3_isFreeFrom hl9 D (kx_D1 L) ht1 hf hg hb9 (a1 := nI ll) (k := y * 30 + (ll % 30 - d)) (by omega)) gc_RX3_60v hf rfl rfl rfl (hml.trans hl.1.symm) ⟨Nat.le_of_ble_eq_true rfl, Nat.le_of_ble_eq_true rfl⟩ ⟨Nat.le_of_ble_eq_true rfl, Nat.le_of_ble_eq_true rfl⟩ (Nat.le_of_ble_eq_true rfl) dk_X3_pointInRow_27 (fun _ _ _ _ _ h9 => h9.elim) (fun res w17 H locs hrv hq17 L => ?_)
      obtain ⟨ew17, hq17⟩ := hq17
      have ew17 := ew17.symm
      subst ew17
      rcases hq17 with ⟨rfl, c1⟩ | ⟨rfl, c1⟩
      · skip
        refine lv_if_eq (tgt := 42) hx hb dk_X3_pointInRow_30 (by decide) (fun c9 => absurd c9 (by decide)) (fun _ => ?_)
        refine lv_iload hx hb dk_X3_pointInRow_33 (lv_at hl 0 rfl) ?_
        refine lv_iload_n hx hb dk_X3_pointInRow_35 rfl (lv_at hl 3 rfl) ?_
        refine lv_isub hx hb dk_X3_pointInRow_36 ?_
        refine lv_topi (fun y18 ey18 => ?_)
        obtain rfl : y18 = (nI (ll % 30 - d)) := ey18.trans (ks_subn hdl (by omega))
        refine lv_iload_n hx hb dk_X3_pointInRow_37 rfl (lv_at hl 4 rfl) ?_
        refine kx_cS (As := [.int (nI (ll % 30 - d)), .int (nI y)]) (rest := []) G L (kx_X6_cellAt hl9 D (kx_D1 L)) gc_RX3_19s rfl (hml.trans hl.1.symm) ⟨Nat.le_of_ble_eq_true rfl, Nat.le_of_ble_eq_true rfl⟩ ⟨Nat.le_of_ble_eq_true rfl, Nat.le_of_ble_eq_true rfl⟩ (Nat.le_of_ble_eq_true rfl) dk_X3_pointInRow_38 (fun _ _ _ _ _ h9 => h9.elim) (fun res w19 H locs hrv hq19 L => ?_)
        obtain ⟨ew19, hq19⟩ := hq19
        have ew19 := ew19.symm
        subst ew19
        obtain rfl := hq19
        refine lv_topi (fun y20 ey20 => ?_)
        obtain rfl : y20 = (nI (y * 30 + (ll % 30 - d))) := ey20.trans (kx_at (by omega) (by omega))
        exact vx_ret (W.widen (Nat.le_of_ble_eq_true rfl) (Nat.le_of_ble_eq_true rfl) (W.iret (v := (nI (y * 30 + (ll % 30 - d)))) hx hb hr (fun T9 hT9 _ => ⟨⟨(nI (y * 30 + (ll % 30 - d))), w, rfl, ⟨rfl, Or.inl ⟨ll % 30 - d, hx30, Or.inl (by omega), c1, rfl, fun x9 h1 h2 h3 => by omega⟩⟩, by rw [hT9]; exact L.1, L.2.1⟩, L.2.2.F hT9⟩) L.2.2.2.2 dk_X3_pointInRow_41 hlocks))
      · skip
        refine lv_if_eq (tgt := 42) hx hb dk_X3_pointInRow_30 (by decide) (fun _ => ?_) (fun c9 => absurd (by decide) c9)
        exact S42 (fun x9 h h3 => c1 (by rw [show ll % 30 - d = x9 by omega]; exact h3)) _ _ L ls (lv_sub hl [0, 4, 3, 2, 1] rfl)
    · skip
      exact absurd ⟨by rw [kx9]; omega, by rw [kx9]; omega, by rw [ky]; omega, by rw [ky]; omega⟩ c0
set_option maxHeartbeats 4000000 in
theorem kx_X3_pointAtDistance {l : Launch} (hl9 : l.stackTraces = false) (D : va_G) {tys : List (ClassId × FieldType)} {w : va_W} {sz : Nat} (hD0 : va_D (va_A w sz) w) {b b2 q q2 : Nat} {p0 i0 cup t0 r0 : Int32} {cX : ClassId} {ck : Nat → Int32} {ll f : Nat} (ht1 : tys[1]? = some (cX, .char)) (hf : w[q]? = some (b, .inr (9, [.ref b2, .int p0, .int i0, .int cup, .int t0, .int r0]))) (hg : w[q2]? = some (b2, .inl (cX, 600, .inl ck))) (hb9 : ∀ i, i < 600 → 0 ≤ (ck i).toInt ∧ (ck i).toInt ≤ 65535) (hl6 : ll < 600) (hf9 : f ≤ 1202) : kx_C l yX3_pointAtDistance cX3_pointAtDistance 8 (some .int) 4 0 0 0 [.ref b, .int (nI ll), .int (nI f)] D tys w sz (fun res w1 => w1 = w ∧ ((res = some (.int (-1)) ∧ ∀ c, c < 600 → ks_fr ck cup (nI ll) c → ¬ ks_d ll c = f) ∨ ∃ c0 : Nat, c0 < 600 ∧ res = some (.int (nI c0)) ∧ ks_fr ck cup (nI ll) c0 ∧ ks_d ll c0 = f ∧ ∀ c, c < c0 → ks_fr ck cup (nI ll) c → ¬ ks_d ll c = f)) (fun _ => False) := by
  refine vx_ofW (cc := cX3_pointAtDistance) (maxL := 8) (ret := (some .int)) (by decide +kernel) rfl ?_
  intro p e s m args below meth c s₁ B9 hml hne hv
  obtain ⟨rfl, hsz, hP, hK, hT⟩ := hv
  subst hsz
  have hx := B9.exec
  have hb := B9.bytes
  have hr := B9.returns
  have hlocks := B9.notSynchronized
  have hts0 := atoms_spec (ws := Cond.code yX3_pointAtDistance cX3_pointAtDistance 8 (some .int) :: en_cw) B9.pre
  have hts : ∀ z ∈ en_cw, z.before _ s = true := fun z hz => hts0 z (List.mem_cons_of_mem _ hz)
  have hown : s.vm.findClass RX3 = some m.cls := findClass_of_methodNamed B9.named
  have G : kx_G p s m ([.ref b, .int (nI ll), .int (nI f)] : List Value).toArray c cX3_pointAtDistance RX3 D tys (va_A w s.heap.size) := ⟨hx, hb, hts, hown, hK, hT, fun q h => Or.inr h⟩
  have L : kx_H D (va_A w s.heap.size) s w s.heap [] := ⟨hP, ⟨hD0.1, fun j z hz => Or.inl ⟨j, z.2, hz⟩⟩, va_S.rf⟩
  have hl := lv_entry ([.ref b, .int (nI ll), .int (nI f)] : List Value) (n := 8) (Nat.le_of_ble_eq_true rfl)
  rw [lg_entry_eq]
  generalize (lg_sl ([.ref b, .int (nI ll), .int (nI f)] : List Value) ++ List.replicate (8 - (lg_sl ([.ref b, .int (nI ll), .int (nI f)] : List Value)).length) Slot.unset).toArray = ls at hl ⊢
  have hl : lv_has ls 8 [(0, .ref b), (1, .int (nI ll)), (2, .int (nI f))] := hl
  refine lv_iconst (v := 0) hx hb dk_X3_pointAtDistance_0 (by decide) ?_
  refine lv_istore_n (lv' := [(3, .int 0), (0, .ref b), (1, .int (nI ll)), (2, .int (nI f))]) hx hb dk_X3_pointAtDistance_1 rfl hl (by decide) rfl (fun ls hl => ?_)
  refine lv_iconst (v := 0) hx hb dk_X3_pointAtDistance_2 (by decide) ?_
  refine lv_istore (lv' := [(4, .int 0), (3, .int 0), (0, .ref b), (1, .int (nI ll)), (2, .int (nI f))]) hx hb dk_X3_pointAtDistance_3 hl (by decide) rfl (fun ls hl => ?_)
  have loop : ∀ (d : Nat) (y : Nat), y + d = 20 → ∀ (r : Nat), r ≤ 100 → (∀ c, c < y * 30 → ks_fr ck cup (nI ll) c → ¬ ks_d ll c = f) → ∀ (H : Heap) (locs : List Loc), kx_H D (va_A w s.heap.size) s w H locs → ∀ (ls : Array Slot), lv_has ls 8 [(4, .int (nI y)), (3, .int (nI r)), (2, .int (nI f)), (1, .int (nI ll)), (0, .ref b)] → W p l e (headSpec (Cond.code yX3_pointAtDistance cX3_pointAtDistance 8 (some .int) :: en_cw) (en_rm 4 (0, 0))).room s m ([.ref b, .int (nI ll), .int (nI f)] : List Value).toArray below meth c H locs (0) (0) (vx_MQ below (kx_Q 0 D (fun res w1 => w1 = w ∧ ((res = some (.int (-1)) ∧ ∀ c, c < 600 → ks_fr ck cup (nI ll) c → ¬ ks_d ll c = f) ∨ ∃ c0 : Nat, c0 < 600 ∧ res = some (.int (nI c0)) ∧ ks_fr ck cup (nI ll) c0 ∧ ks_d ll c0 = f ∧ ∀ c, c < c0 → ks_fr ck cup (nI ll) c → ¬ ks_d ll c = f)) (va_A w s.heap.size)) (kx_XC D w (fun _ => False) (va_A w s.heap.size)) ([.ref b, .int (nI ll), .int (nI f)] : List Value).toArray s 0 0 (va_A w s.heap.size)) (F0 m 5 ls []) := by
    intro d
    induction d with
    | zero =>
      intro y hy r hr1 h0 H locs L ls hl
      refine lv_iload hx hb dk_X3_pointAtDistance_5 (lv_at hl 0 rfl) ?_
      refine lv_bipush (v := 20) hx hb dk_X3_pointAtDistance_7 (by decide) ?_
      have e9 : y = 20 := by omega
      subst e9
      refine lv_icmp_ge (tgt := 79) hx hb dk_X3_pointAtDistance_9 (by decide) (fun _ => ?_) (fun c9 => absurd (by decide) c9)
      refine lv_iconst (v := (-1)) hx hb dk_X3_pointAtDistance_79 (by decide) ?_
      exact vx_ret (W.widen (Nat.le_of_ble_eq_true rfl) (Nat.le_of_ble_eq_true rfl) (W.iret (v := (-1)) hx hb hr (fun T9 hT9 _ => ⟨⟨(-1), w, rfl, ⟨rfl, Or.inl ⟨rfl, h0⟩⟩, by rw [hT9]; exact L.1, L.2.1⟩, L.2.2.F hT9⟩) L.2.2.2.2 dk_X3_pointAtDistance_80 hlocks))
    | succ d ih =>
      intro y hy r hr1 h0 H locs L ls hl
      refine lv_iload hx hb dk_X3_pointAtDistance_5 (lv_at hl 0 rfl) ?_
      refine lv_bipush (v := 20) hx hb dk_X3_pointAtDistance_7 (by decide) ?_
      refine lv_icmp_ge (tgt := 79) hx hb dk_X3_pointAtDistance_9 (by decide) (fun c9 => absurd c9 (nI_ge (a := y) (b := 20) (by omega) (by omega))) (fun _ => ?_)
      have hy9 : y < 20 := by omega
      refine lv_iload hx hb dk_X3_pointAtDistance_12 (lv_at hl 0 rfl) ?_
      refine lv_iload_n hx hb dk_X3_pointAtDistance_14 rfl (lv_at hl 3 rfl) ?_
      refine lv_bipush (v := 30) hx hb dk_X3_pointAtDistance_15 (by decide) ?_
      refine lv_idiv hx hb dk_X3_pointAtDistance_17 (by decide) ?_
      refine lv_topi (fun y1 ey1 => ?_)
      obtain rfl : y1 = (nI (ll / 30)) := ey1.trans (ks_div (by omega))
      refine lv_isub hx hb dk_X3_pointAtDistance_18 ?_
      refine lv_istore (lv' := [(5, .int ((nI y) - (nI (ll / 30)))), (4, .int (nI y)), (3, .int (nI r)), (2, .int (nI f)), (1, .int (nI ll)), (0, .ref b)]) hx hb dk_X3_pointAtDistance_19 hl (by decide) rfl (fun ls hl => ?_)
      refine lv_iload_n hx hb dk_X3_pointAtDistance_21 rfl (lv_at hl 3 rfl) ?_
      refine lv_iload hx hb dk_X3_pointAtDistance_22 (lv_at hl 0 rfl) ?_
      refine lv_iload hx hb dk_X3_pointAtDistance_24 (lv_at hl 0 rfl) ?_
      refine lv_imul hx hb dk_X3_pointAtDistance_26 ?_
      obtain ⟨S, eS⟩ : ∃ S : Nat, S = ks_sq y (ll / 30) := ⟨_, rfl⟩
      have S9 : S ≤ 19 * 19 := by rw [eS]; exact ks_sq_le (by omega) (by omega)
      refine lv_topi (fun y2 ey2 => ?_)
      obtain rfl : y2 = (nI S) := ey2.trans (by rw [eS]; exact ks_mulsq (by omega) (by omega))
      refine lv_isub hx hb dk_X3_pointAtDistance_27 ?_
      rcases Nat.lt_or_ge f S with hfs | hfs
      · skip
        have kz := ks_sub (p := f) (q := S) (by omega) (by omega)
        refine lv_istore (lv' := [(6, .int ((nI f) - (nI S))), (5, .int ((nI y) - (nI (ll / 30)))), (4, .int (nI y)), (3, .int (nI r)), (2, .int (nI f)), (1, .int (nI ll)), (0, .ref b)]) hx hb dk_X3_pointAtDistance_28 hl (by decide) rfl (fun ls hl => ?_)
        refine lv_iload hx hb dk_X3_pointAtDistance_30 (lv_at hl 0 rfl) ?_
        have k4 : (0 : Int32).toInt = 0 := by decide
        refine lv_if_lt (tgt := 73) hx hb dk_X3_pointAtDistance_32 (by decide) (fun c3 => ?_) (fun c3 => ?_)
        · skip
          have tc3 : (((nI f) - (nI S)) : Int32).toInt < (0 : Int32).toInt := Int32.lt_iff_toInt_lt.mp c3
          refine lv_iinc (v := (nI (y + 1))) (lv' := [(4, .int (nI (y + 1))), (6, .int ((nI f) - (nI S))), (5, .int ((nI y) - (nI (ll / 30)))), (3, .int (nI r)), (2, .int (nI f)), (1, .int (nI ll)), (0, .ref b)]) hx hb dk_X3_pointAtDistance_73 hl (k := 2) rfl (kx_inc (by omega)) (by decide) rfl (fun ls hl => ?_)
          refine lv_goto (tgt := 5) hx hb dk_X3_pointAtDistance_76 (by decide) ?_
          exact ih (y + 1) (by omega) r (by omega) (ks_row h0 (fun x h1 h2 h3 => by rw [← eS] at h3; omega)) H locs L ls (lv_sub hl [0, 3, 4, 5, 6] rfl)
        · skip
          have tc3 : ¬ (((nI f) - (nI S)) : Int32).toInt < (0 : Int32).toInt := fun h => c3 (Int32.lt_iff_toInt_lt.mpr h)
          exfalso
          omega
      · skip
        refine lv_topi (fun y5 ey5 => ?_)
        obtain rfl : y5 = (nI (f - S)) := ey5.trans (ks_subn hfs (by omega))
        refine lv_istore (lv' := [(6, .int (nI (f - S))), (5, .int ((nI y) - (nI (ll / 30)))), (4, .int (nI y)), (3, .int (nI r)), (2, .int (nI f)), (1, .int (nI ll)), (0, .ref b)]) hx hb dk_X3_pointAtDistance_28 hl (by decide) rfl (fun ls hl => ?_)
        refine lv_iload hx hb dk_X3_pointAtDistance_30 (lv_at hl 0 rfl) ?_
        have k7 : (nI (f - S)).toInt = ((((f - S)) : Nat) : Int) := kx_nI (by omega)
        have k8 : (0 : Int32).toInt = 0 := by decide
        refine lv_if_lt (tgt := 73) hx hb dk_X3_pointAtDistance_32 (by decide) (fun c6 => ?_) (fun c6 => ?_)
        · skip
          have tc6 : ((nI (f - S)) : Int32).toInt < (0 : Int32).toInt := Int32.lt_iff_toInt_lt.mp c6
          exfalso
          omega
        · skip
          have tc6 : ¬ ((nI (f - S)) : Int32).toInt < (0 : Int32).toInt := fun h => c6 (Int32.lt_iff_toInt_lt.mpr h)
          refine lv_iload_n hx hb dk_X3_pointAtDistance_35 rfl (lv_at hl 3 rfl) ?_
          refine lv_iload hx hb dk_X3_pointAtDistance_36 (lv_at hl 0 rfl) ?_
          refine kx_cS (As := [.int (nI r), .int (nI (f - S))]) (rest := []) G L (kx_X6_rootFrom hl9 D (kx_D1 L) (n0 := r) (q0 := f - S) hr1 (by omega)) gc_RX3_66s rfl (hml.trans hl.1.symm) ⟨Nat.le_of_ble_eq_true rfl, Nat.le_of_ble_eq_true rfl⟩ ⟨Nat.le_of_ble_eq_true rfl, Nat.le_of_ble_eq_true rfl⟩ (Nat.le_of_ble_eq_true rfl) dk_X3_pointAtDistance_38 (fun _ _ _ _ _ h9 => h9.elim) (fun res w9 H locs hrv hq9 L => ?_)
          obtain ⟨ew9, hq9⟩ := hq9
          have ew9 := ew9.symm
          subst ew9
          obtain ⟨r2, rfl, hr2, hr3, hr4⟩ := hq9
          have hr34 := ks_r34 hr3 (by omega)
          refine lv_istore_n (lv' := [(3, .int (nI r2)), (6, .int (nI (f - S))), (5, .int ((nI y) - (nI (ll / 30)))), (4, .int (nI y)), (2, .int (nI f)), (1, .int (nI ll)), (0, .ref b)]) hx hb dk_X3_pointAtDistance_41 rfl hl (by decide) rfl (fun ls hl => ?_)
          refine lv_iload_n hx hb dk_X3_pointAtDistance_42 rfl (lv_at hl 0 rfl) ?_
          refine lv_iload_n hx hb dk_X3_pointAtDistance_43 rfl (lv_at hl 0 rfl) ?_
          refine lv_imul hx hb dk_X3_pointAtDistance_44 ?_
          obtain ⟨z, ez⟩ : ∃ z : Nat, z = r2 * r2 := ⟨_, rfl⟩
          have z9 : z ≤ 34 * 34 := by rw [ez]; exact Nat.mul_le_mul hr34 hr34
          refine lv_topi (fun y10 ey10 => ?_)
          obtain rfl : y10 = (nI z) := ey10.trans (by rw [ez]; exact ks_mul (by omega) (by omega))
          refine lv_iload hx hb dk_X3_pointAtDistance_45 (lv_at hl 1 rfl) ?_
          have k12 : (nI z).toInt = (((z) : Nat) : Int) := kx_nI (by omega)
          have k13 : (nI (f - S)).toInt = ((((f - S)) : Nat) : Int) := kx_nI (by omega)
          refine lv_icmp_ne (tgt := 61) hx hb dk_X3_pointAtDistance_47 (by decide) (fun c11 => ?_) (fun c11 => ?_)
          · skip
            have tc11 : ¬ ((nI z) : Int32).toInt = ((nI (f - S)) : Int32).toInt := fun h => c11 (Int32.toInt_inj.mp h)
            refine lv_iconst (v := (-1)) hx hb dk_X3_pointAtDistance_61 (by decide) ?_
            refine lv_istore (lv' := [(7, .int (-1)), (3, .int (nI r2)), (6, .int (nI (f - S))), (5, .int ((nI y) - (nI (ll / 30)))), (4, .int (nI y)), (2, .int (nI f)), (1, .int (nI ll)), (0, .ref b)]) hx hb dk_X3_pointAtDistance_62 hl (by decide) rfl (fun ls hl => ?_)
            refine lv_iload hx hb dk_X3_pointAtDistance_64 (lv_at hl 0 rfl) ?_
            refine lv_iconst (v := (-1)) hx hb dk_X3_pointAtDistance_66 (by decide) ?_
            refine lv_icmp_eq (tgt := 73) hx hb dk_X3_pointAtDistance_67 (by decide) (fun _ => ?_) (fun c9 => absurd (by decide) c9)
            refine lv_iinc (v := (nI (y + 1))) (lv' := [(4, .int (nI (y + 1))), (7, .int (-1)), (3, .int (nI r2)), (6, .int (nI (f - S))), (5, .int ((nI y) - (nI (ll / 30)))), (2, .int (nI f)), (1, .int (nI ll)), (0, .ref b)]) hx hb dk_X3_pointAtDistance_73 hl (k := 4) rfl (kx_inc (by omega)) (by decide) rfl (fun ls hl => ?_)
            refine lv_goto (tgt := 5) hx hb dk_X3_pointAtDistance_76 (by decide) ?_
            exact ih (y + 1) (by omega) r2 (by omega) (ks_row h0 (fun x h1 h2 h3 => by rw [← eS] at h3; have h4 := ks_no hr3 hr4 (show ks_sq x (ll % 30) = f - S by omega); rw [← ez] at h4; omega)) H locs L ls (lv_sub hl [0, 2, 5, 6, 7] rfl)
          · skip
            have tc11 : ((nI z) : Int32).toInt = ((nI (f - S)) : Int32).toInt := by rw [c11]
            have ezf : r2 * r2 = f - S := by rw [← ez]; omega
            have hrow : ∀ x, ks_sq x (ll % 30) + ks_sq y (ll / 30) = f → (x + r2 = ll % 30 ∨ x = ll % 30 + r2) := fun x h => ks_sq_r.mp (by rw [ezf, eS]; omega)
            refine lv_aload_n hx hb dk_X3_pointAtDistance_50 rfl (lv_at hl 6 rfl) ?_
            refine lv_iload_n hx hb dk_X3_pointAtDistance_51 rfl (lv_at hl 5 rfl) ?_
            refine lv_iload_n hx hb dk_X3_pointAtDistance_52 rfl (lv_at hl 0 rfl) ?_
            refine lv_iload hx hb dk_X3_pointAtDistance_53 (lv_at hl 3 rfl) ?_
            refine kx_cV (As := [.int (nI ll), .int (nI r2), .int (nI y)]) (rest := []) (q := q) (ci := 9) G L (kx_X3_pointInRow hl9 D (kx_D1 L) ht1 hf hg hb9 (ll := ll) (d := r2) (y := y) hl6 (by omega) hy9) gc_RX3_69v hf rfl rfl rfl (hml.trans hl.1.symm) ⟨Nat.le_of_ble_eq_true rfl, Nat.le_of_ble_eq_true rfl⟩ ⟨Nat.le_of_ble_eq_true rfl, Nat.le_of_ble_eq_true rfl⟩ (Nat.le_of_ble_eq_true rfl) dk_X3_pointAtDistance_55 (fun _ _ _ _ _ h9 => h9.elim) (fun res w14 H locs hrv hq14 L => ?_)
            obtain ⟨ew14, hq14⟩ := hq14
            have ew14 := ew14.symm
            subst ew14
            rcases hq14 with ⟨x, hxx, hxr, hpx, rfl, hmin⟩ | ⟨rfl, hnone⟩
            · skip
              refine lv_goto (tgt := 62) hx hb dk_X3_pointAtDistance_58 (by decide) ?_
              refine lv_istore (lv' := [(7, .int (nI (y * 30 + x))), (3, .int (nI r2)), (6, .int (nI (f - S))), (5, .int ((nI y) - (nI (ll / 30)))), (4, .int (nI y)), (2, .int (nI f)), (1, .int (nI ll)), (0, .ref b)]) hx hb dk_X3_pointAtDistance_62 hl (by decide) rfl (fun ls hl => ?_)
              refine lv_iload hx hb dk_X3_pointAtDistance_64 (lv_at hl 0 rfl) ?_
              refine lv_iconst (v := (-1)) hx hb dk_X3_pointAtDistance_66 (by decide) ?_
              have k16 : (nI (y * 30 + x)).toInt = ((((y * 30 + x)) : Nat) : Int) := kx_nI (by omega)
              have k17 : ((-1) : Int32).toInt = -1 := by decide
              refine lv_icmp_eq (tgt := 73) hx hb dk_X3_pointAtDistance_67 (by decide) (fun c15 => ?_) (fun c15 => ?_)
              · skip
                have tc15 : ((nI (y * 30 + x)) : Int32).toInt = ((-1) : Int32).toInt := by rw [c15]
                exfalso
                omega
              · skip
                have tc15 : ¬ ((nI (y * 30 + x)) : Int32).toInt = ((-1) : Int32).toInt := fun h => c15 (Int32.toInt_inj.mp h)
                refine lv_iload hx hb dk_X3_pointAtDistance_70 (lv_at hl 0 rfl) ?_
                exact vx_ret (W.widen (Nat.le_of_ble_eq_true rfl) (Nat.le_of_ble_eq_true rfl) (W.iret (v := (nI (y * 30 + x))) hx hb hr (fun T9 hT9 _ => ⟨⟨(nI (y * 30 + x)), w, rfl, ⟨rfl, Or.inr ⟨y * 30 + x, by omega, rfl, hpx, by rw [ks_d_row hxx, ks_sq_r.mpr hxr, ezf, ← eS]; omega, ks_rowf hxx h0 fun x9 h1 h2 h3 => hmin x9 h1 (hrow x9 h3) h2⟩⟩, by rw [hT9]; exact L.1, L.2.1⟩, L.2.2.F hT9⟩) L.2.2.2.2 dk_X3_pointAtDistance_72 hlocks))
            · skip
              refine lv_goto (tgt := 62) hx hb dk_X3_pointAtDistance_58 (by decide) ?_
              refine lv_istore (lv' := [(7, .int (-1)), (3, .int (nI r2)), (6, .int (nI (f - S))), (5, .int ((nI y) - (nI (ll / 30)))), (4, .int (nI y)), (2, .int (nI f)), (1, .int (nI ll)), (0, .ref b)]) hx hb dk_X3_pointAtDistance_62 hl (by decide) rfl (fun ls hl => ?_)
              refine lv_iload hx hb dk_X3_pointAtDistance_64 (lv_at hl 0 rfl) ?_
              refine lv_iconst (v := (-1)) hx hb dk_X3_pointAtDistance_66 (by decide) ?_
              refine lv_icmp_eq (tgt := 73) hx hb dk_X3_pointAtDistance_67 (by decide) (fun _ => ?_) (fun c9 => absurd (by decide) c9)
              refine lv_iinc (v := (nI (y + 1))) (lv' := [(4, .int (nI (y + 1))), (7, .int (-1)), (3, .int (nI r2)), (6, .int (nI (f - S))), (5, .int ((nI y) - (nI (ll / 30)))), (2, .int (nI f)), (1, .int (nI ll)), (0, .ref b)]) hx hb dk_X3_pointAtDistance_73 hl (k := 4) rfl (kx_inc (by omega)) (by decide) rfl (fun ls hl => ?_)
              refine lv_goto (tgt := 5) hx hb dk_X3_pointAtDistance_76 (by decide) ?_
              exact ih (y + 1) (by omega) r2 (by omega) (ks_row h0 (fun x h1 h2 h3 => hnone x h1 (hrow x h3) h2)) H locs L ls (lv_sub hl [0, 2, 5, 6, 7] rfl)
  exact loop 20 0 (by omega) 0 (by omega) (fun c h => absurd h (by omega)) _ _ L ls (lv_sub hl [0, 1, 4, 3, 2] rfl)
set_option maxHeartbeats 4000000 in
theorem kx_X3_pointByRisingDistances {l : Launch} (hl9 : l.stackTraces = false) (D : va_G) {tys : List (ClassId × FieldType)} {w : va_W} {sz : Nat} (hD0 : va_D (va_A w sz) w) {b b2 q q2 : Nat} {p0 i0 cup t0 r0 : Int32} {cX : ClassId} {ck : Nat → Int32} {ll : Nat} (ht1 : tys[1]? = some (cX, .char)) (hf : w[q]? = some (b, .inr (9, [.ref b2, .int p0, .int i0, .int cup, .int t0, .int r0]))) (hg : w[q2]? = some (b2, .inl (cX, 600, .inl ck))) (hb9 : ∀ i, i < 600 → 0 ≤ (ck i).toInt ∧ (ck i).toInt ≤ 65535) (hl6 : ll < 600) : kx_C l yX3_pointByRisingDistances cX3_pointByRisingDistances 4 (some .int) 5 0 0 0 [.ref b, .int (nI ll)] D tys w sz (fun res w1 => w1 = w ∧ ∃ r : Int32, res = some (.int r) ∧ ks_np (ks_fr ck cup (nI ll)) ll r) (fun _ => False) := by
  refine vx_ofW (cc := cX3_pointByRisingDistances) (maxL := 4) (ret := (some .int)) (by decide +kernel) rfl ?_
  intro p e s m args below meth c s₁ B9 hml hne hv
  obtain ⟨rfl, hsz, hP, hK, hT⟩ := hv
  subst hsz
  have hx := B9.exec
  have hb := B9.bytes
  have hr := B9.returns
  have hlocks := B9.notSynchronized
  have hts0 := atoms_spec (ws := Cond.code yX3_pointByRisingDistances cX3_pointByRisingDistances 4 (some .int) :: en_cw) B9.pre
  have hts : ∀ z ∈ en_cw, z.before _ s = true := fun z hz => hts0 z (List.mem_cons_of_mem _ hz)
  have hown : s.vm.findClass RX3 = some m.cls := findClass_of_methodNamed B9.named
  have G : kx_G p s m ([.ref b, .int (nI ll)] : List Value).toArray c cX3_pointByRisingDistances RX3 D tys (va_A w s.heap.size) := ⟨hx, hb, hts, hown, hK, hT, fun q h => Or.inr h⟩
  have L : kx_H D (va_A w s.heap.size) s w s.heap [] := ⟨hP, ⟨hD0.1, fun j z hz => Or.inl ⟨j, z.2, hz⟩⟩, va_S.rf⟩
  have hl := lv_entry ([.ref b, .int (nI ll)] : List Value) (n := 4) (Nat.le_of_ble_eq_true rfl)
  rw [lg_entry_eq]
  generalize (lg_sl ([.ref b, .int (nI ll)] : List Value) ++ List.replicate (4 - (lg_sl ([.ref b, .int (nI ll)] : List Value)).length) Slot.unset).toArray = ls at hl ⊢
  have hl : lv_has ls 4 [(0, .ref b), (1, .int (nI ll))] := hl
  refine lv_iconst (v := 0) hx hb dk_X3_pointByRisingDistances_0 (by decide) ?_
  refine lv_istore_n (lv' := [(2, .int 0), (0, .ref b), (1, .int (nI ll))]) hx hb dk_X3_pointByRisingDistances_1 rfl hl (by decide) rfl (fun ls hl => ?_)
  have loop : ∀ (d : Nat) (f : Nat), f + d = 1203 → (∀ c, c < 600 → ks_fr ck cup (nI ll) c → f ≤ ks_d ll c) → ∀ (H : Heap) (locs : List Loc), kx_H D (va_A w s.heap.size) s w H locs → ∀ (ls : Array Slot), lv_has ls 4 [(2, .int (nI f)), (1, .int (nI ll)), (0, .ref b)] → W p l e (headSpec (Cond.code yX3_pointByRisingDistances cX3_pointByRisingDistances 4 (some .int) :: en_cw) (en_rm 5 (0, 0))).room s m ([.ref b, .int (nI ll)] : List Value).toArray below meth c H locs (0) (0) (vx_MQ below (kx_Q 0 D (fun res w1 => w1 = w ∧ ∃ r : Int32, res = some (.int r) ∧ ks_np (ks_fr ck cup (nI ll)) ll r) (va_A w s.heap.size)) (kx_XC D w (fun _ => False) (va_A w s.heap.size)) ([.ref b, .int (nI ll)] : List Value).toArray s 0 0 (va_A w s.heap.size)) (F0 m 2 ls []) := by
    intro d
    induction d with
    | zero =>
      intro f hff h0 H locs L ls hl
      refine lv_iload_n hx hb dk_X3_pointByRisingDistances_2 rfl (lv_at hl 0 rfl) ?_
      refine lv_sipush (v := 1202) hx hb dk_X3_pointByRisingDistances_3 (by decide) ?_
      have e9 : f = 1203 := by omega
      subst e9
      refine lv_icmp_gt (tgt := 29) hx hb dk_X3_pointByRisingDistances_6 (by decide) (fun _ => ?_) (fun c9 => absurd (by decide) c9)
      refine lv_iconst (v := (-1)) hx hb dk_X3_pointByRisingDistances_29 (by decide) ?_
      exact vx_ret (W.widen (Nat.le_of_ble_eq_true rfl) (Nat.le_of_ble_eq_true rfl) (W.iret (v := (-1)) hx hb hr (fun T9 hT9 _ => ⟨⟨(-1), w, rfl, ⟨rfl, -1, rfl, Or.inl ⟨rfl, fun c h1 h2 => by have h3 := h0 c h1 h2; have h4 := ks_d_le hl6 h1; omega⟩⟩, by rw [hT9]; exact L.1, L.2.1⟩, L.2.2.F hT9⟩) L.2.2.2.2 dk_X3_pointByRisingDistances_30 hlocks))
    | succ d ih =>
      intro f hff h0 H locs L ls hl
      refine lv_iload_n hx hb dk_X3_pointByRisingDistances_2 rfl (lv_at hl 0 rfl) ?_
      refine lv_sipush (v := 1202) hx hb dk_X3_pointByRisingDistances_3 (by decide) ?_
      refine lv_icmp_gt (tgt := 29) hx hb dk_X3_pointByRisingDistances_6 (by decide) (fun c9 => absurd c9 (nI_nlt (a := 1202) (b := f) (by omega) (by omega))) (fun _ => ?_)
      refine lv_aload_n hx hb dk_X3_pointByRisingDistances_9 rfl (lv_at hl 2 rfl) ?_
      refine lv_iload_n hx hb dk_X3_pointByRisingDistances_10 rfl (lv_at hl 1 rfl) ?_
      refine lv_iload_n hx hb dk_X3_pointByRisingDistances_11 rfl (lv_at hl 0 rfl) ?_
      refine kx_cV (As := [.int (nI ll), .int (nI f)]) (rest := []) (q := q) (ci := 9) G L (kx_X3_pointAtDistance hl9 D (kx_D1 L) ht1 hf hg hb9 (ll := ll) (f := f) hl6 (by omega)) gc_RX3_63v hf rfl rfl rfl (hml.trans hl.1.symm) ⟨Nat.le_of_ble_eq_true rfl, Nat.le_of_ble_eq_true rfl⟩ ⟨Nat.le_of_ble_eq_true rfl, Nat.le_of_ble_eq_true rfl⟩ (Nat.le_of_ble_eq_true rfl) dk_X3_pointByRisingDistances_12 (fun _ _ _ _ _ h9 => h9.elim) (fun res w1 H locs hrv hq1 L => ?_)
      obtain ⟨ew1, hq1⟩ := hq1
      have ew1 := ew1.symm
      subst ew1
      rcases hq1 with ⟨rfl, hnone⟩ | ⟨c0, hc6, rfl, hpc, hdc, hmin⟩
      · skip
        refine lv_istore_n (lv' := [(3, .int (-1)), (2, .int (nI f)), (1, .int (nI ll)), (0, .ref b)]) hx hb dk_X3_pointByRisingDistances_15 rfl hl (by decide) rfl (fun ls hl => ?_)
        refine lv_iload_n hx hb dk_X3_pointByRisingDistances_16 rfl (lv_at hl 0 rfl) ?_
        refine lv_iconst (v := (-1)) hx hb dk_X3_pointByRisingDistances_17 (by decide) ?_
        refine lv_icmp_eq (tgt := 23) hx hb dk_X3_pointByRisingDistances_18 (by decide) (fun _ => ?_) (fun c9 => absurd (by decide) c9)
        refine lv_iinc (v := (nI (f + 1))) (lv' := [(2, .int (nI (f + 1))), (3, .int (-1)), (1, .int (nI ll)), (0, .ref b)]) hx hb dk_X3_pointByRisingDistances_23 hl (k := 1) rfl (kx_inc (by omega)) (by decide) rfl (fun ls hl => ?_)
        refine lv_goto (tgt := 2) hx hb dk_X3_pointByRisingDistances_26 (by decide) ?_
        exact ih (f + 1) (by omega) (fun c h1 h2 => by have h3 := h0 c h1 h2; have h4 := hnone c h1 h2; omega) H locs L ls (lv_sub hl [0, 2, 3] rfl)
      · skip
        refine lv_istore_n (lv' := [(3, .int (nI c0)), (2, .int (nI f)), (1, .int (nI ll)), (0, .ref b)]) hx hb dk_X3_pointByRisingDistances_15 rfl hl (by decide) rfl (fun ls hl => ?_)
        refine lv_iload_n hx hb dk_X3_pointByRisingDistances_16 rfl (lv_at hl 0 rfl) ?_
        refine lv_iconst (v := (-1)) hx hb dk_X3_pointByRisingDistances_17 (by decide) ?_
        have k3 : (nI c0).toInt = (((c0) : Nat) : Int) := kx_nI (by omega)
        have k4 : ((-1) : Int32).toInt = -1 := by decide
        refine lv_icmp_eq (tgt := 23) hx hb dk_X3_pointByRisingDistances_18 (by decide) (fun c2 => ?_) (fun c2 => ?_)
        · skip
          have tc2 : ((nI c0) : Int32).toInt = ((-1) : Int32).toInt := by rw [c2]
          exfalso
          omega
        · skip
          have tc2 : ¬ ((nI c0) : Int32).toInt = ((-1) : Int32).toInt := fun h => c2 (Int32.toInt_inj.mp h)
          refine lv_iload_n hx hb dk_X3_pointByRisingDistances_21 rfl (lv_at hl 0 rfl) ?_
          exact vx_ret (W.widen (Nat.le_of_ble_eq_true rfl) (Nat.le_of_ble_eq_true rfl) (W.iret (v := (nI c0)) hx hb hr (fun T9 hT9 _ => ⟨⟨(nI c0), w, rfl, ⟨rfl, nI c0, rfl, Or.inr ⟨c0, hc6, rfl, hpc, fun c h1 h2 => by have h3 := h0 c h1 h2; rw [hdc]; rcases Nat.lt_or_ge f (ks_d ll c) with h4 | h4; exact Or.inl h4; refine Or.inr ⟨by omega, ?_⟩; rcases Nat.lt_or_ge c c0 with h5 | h5; exact absurd (show ks_d ll c = f by omega) (hmin c h5 h2); exact h5⟩⟩, by rw [hT9]; exact L.1, L.2.1⟩, L.2.2.F hT9⟩) L.2.2.2.2 dk_X3_pointByRisingDistances_22 hlocks))
  exact loop 1203 0 (by omega) (fun c _ _ => Nat.zero_le _) _ _ L ls (lv_sub hl [0, 2, 1] rfl)
