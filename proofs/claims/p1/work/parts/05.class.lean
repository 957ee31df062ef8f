theorem dX6_player_0 : decode cX6_player 0 = .ok (.aload_n 0, 1) := by decide +kernel
theorem dX6_player_1 : decode cX6_player 1 = .ok (.getfield 58, 3) := by decide +kernel
theorem dX6_player_4 : decode cX6_player 4 = .ok (.ifCond .ne 12, 3) := by decide +kernel
theorem dX6_player_7 : decode cX6_player 7 = .ok (.aload_n 0, 1) := by decide +kernel
theorem dX6_player_8 : decode cX6_player 8 = .ok (.getfield 122, 3) := by decide +kernel
theorem dX6_player_11 : decode cX6_player 11 = .ok (.bipush 6, 2) := by decide +kernel
theorem dX6_player_13 : decode cX6_player 13 = .ok (.if_icmp .lt 13, 3) := by decide +kernel
theorem dX6_player_26 : decode cX6_player 26 = .ok (.aload_n 0, 1) := by decide +kernel
theorem dX6_player_27 : decode cX6_player 27 = .ok (.dup, 1) := by decide +kernel
theorem dX6_player_28 : decode cX6_player 28 = .ok (.getfield 122, 3) := by decide +kernel
theorem dX6_player_31 : decode cX6_player 31 = .ok (.iconst 1, 1) := by decide +kernel
theorem dX6_player_32 : decode cX6_player 32 = .ok (.iadd, 1) := by decide +kernel
theorem dX6_player_33 : decode cX6_player 33 = .ok (.putfield 122, 3) := by decide +kernel
theorem dX6_player_36 : decode cX6_player 36 = .ok (.aload_n 0, 1) := by decide +kernel
theorem dX6_player_37 : decode cX6_player 37 = .ok (.getfield 122, 3) := by decide +kernel
theorem dX6_player_40 : decode cX6_player 40 = .ok (.iconst 1, 1) := by decide +kernel
theorem dX6_player_41 : decode cX6_player 41 = .ok (.isub, 1) := by decide +kernel
theorem dX6_player_42 : decode cX6_player 42 = .ok (.ireturn, 1) := by decide +kernel
theorem dX6_setSeed_0 : decode cX6_setSeed 0 = .ok (.aload_n 0, 1) := by decide +kernel
theorem dX6_setSeed_1 : decode cX6_setSeed 1 = .ok (.getfield 34, 3) := by decide +kernel
theorem dX6_setSeed_4 : decode cX6_setSeed 4 = .ok (.istore_n 2, 1) := by decide +kernel
theorem dX6_setSeed_5 : decode cX6_setSeed 5 = .ok (.aload_n 0, 1) := by decide +kernel
theorem dX6_setSeed_6 : decode cX6_setSeed 6 = .ok (.iload_n 1, 1) := by decide +kernel
theorem dX6_setSeed_7 : decode cX6_setSeed 7 = .ok (.putfield 34, 3) := by decide +kernel
theorem dX6_setSeed_10 : decode cX6_setSeed 10 = .ok (.iload_n 2, 1) := by decide +kernel
theorem dX6_setSeed_11 : decode cX6_setSeed 11 = .ok (.ireturn, 1) := by decide +kernel
theorem dX6_edition_0 : decode cX6_edition 0 = .ok (.iload_n 1, 1) := by decide +kernel
theorem dX6_edition_1 : decode cX6_edition 1 = .ok (.bipush 110, 2) := by decide +kernel
theorem dX6_edition_3 : decode cX6_edition 3 = .ok (.if_icmp .eq 19, 3) := by decide +kernel
theorem dX6_edition_6 : decode cX6_edition 6 = .ok (.iload_n 1, 1) := by decide +kernel
theorem dX6_edition_7 : decode cX6_edition 7 = .ok (.bipush 111, 2) := by decide +kernel
theorem dX6_edition_9 : decode cX6_edition 9 = .ok (.if_icmp .eq 13, 3) := by decide +kernel
theorem dX6_edition_12 : decode cX6_edition 12 = .ok (.new 49, 3) := by decide +kernel
theorem dX6_edition_15 : decode cX6_edition 15 = .ok (.dup, 1) := by decide +kernel
theorem dX6_edition_16 : decode cX6_edition 16 = .ok (.ldc 143, 2) := by decide +kernel
theorem dX6_edition_18 : decode cX6_edition 18 = .ok (.invokespecial 53, 3) := by decide +kernel
theorem dX6_edition_21 : decode cX6_edition 21 = .ok (.athrow, 1) := by decide +kernel
theorem dX6_edition_22 : decode cX6_edition 22 = .ok (.aload_n 0, 1) := by decide +kernel
theorem dX6_edition_23 : decode cX6_edition 23 = .ok (.getfield 38, 3) := by decide +kernel
theorem dX6_edition_26 : decode cX6_edition 26 = .ok (.istore_n 2, 1) := by decide +kernel
theorem dX6_edition_27 : decode cX6_edition 27 = .ok (.aload_n 0, 1) := by decide +kernel
theorem dX6_edition_28 : decode cX6_edition 28 = .ok (.iload_n 1, 1) := by decide +kernel
theorem dX6_edition_29 : decode cX6_edition 29 = .ok (.putfield 38, 3) := by decide +kernel
theorem dX6_edition_32 : decode cX6_edition 32 = .ok (.iload_n 2, 1) := by decide +kernel
theorem dX6_edition_33 : decode cX6_edition 33 = .ok (.ireturn, 1) := by decide +kernel
theorem dX6_begin_0 : decode cX6_begin 0 = .ok (.iload_n 1, 1) := by decide +kernel
theorem dX6_begin_1 : decode cX6_begin 1 = .ok (.bipush 115, 2) := by decide +kernel
theorem dX6_begin_3 : decode cX6_begin 3 = .ok (.if_icmp .eq 19, 3) := by decide +kernel
theorem dX6_begin_6 : decode cX6_begin 6 = .ok (.iload_n 1, 1) := by decide +kernel
theorem dX6_begin_7 : decode cX6_begin 7 = .ok (.bipush 109, 2) := by decide +kernel
theorem dX6_begin_9 : decode cX6_begin 9 = .ok (.if_icmp .eq 13, 3) := by decide +kernel
theorem dX6_begin_12 : decode cX6_begin 12 = .ok (.new 49, 3) := by decide +kernel
theorem dX6_begin_15 : decode cX6_begin 15 = .ok (.dup, 1) := by decide +kernel
theorem dX6_begin_16 : decode cX6_begin 16 = .ok (.ldc 145, 2) := by decide +kernel
theorem dX6_begin_18 : decode cX6_begin 18 = .ok (.invokespecial 53, 3) := by decide +kernel
theorem dX6_begin_21 : decode cX6_begin 21 = .ok (.athrow, 1) := by decide +kernel
theorem dX6_begin_22 : decode cX6_begin 22 = .ok (.aload_n 0, 1) := by decide +kernel
theorem dX6_begin_23 : decode cX6_begin 23 = .ok (.getfield 62, 3) := by decide +kernel
theorem dX6_begin_26 : decode cX6_begin 26 = .ok (.ifCond .eq 31, 3) := by decide +kernel
theorem dX6_begin_57 : decode cX6_begin 57 = .ok (.new 74, 3) := by decide +kernel
theorem dX6_begin_60 : decode cX6_begin 60 = .ok (.dup, 1) := by decide +kernel
theorem dX6_begin_61 : decode cX6_begin 61 = .ok (.ldc 147, 2) := by decide +kernel
theorem dX6_begin_63 : decode cX6_begin 63 = .ok (.invokespecial 78, 3) := by decide +kernel
theorem dX6_begin_66 : decode cX6_begin 66 = .ok (.athrow, 1) := by decide +kernel
set_option maxRecDepth 20000 in
theorem ggX6_up_X6_needMatch : GoodIn wsX6_up wsX6_needMatch := goodIn_ca (goodIn_r _ [7, 8, 9, 10, 11, 12, 6, 13, 14, 15, 16, 17, 18, 19, 20, 21, 22, 23, 24, 25, 26, 27, 28] (by decide +kernel) (by decide +kernel)) (goodIn_sub (fun _ h => List.mem_cons_of_mem _ (List.mem_append_right _ h)) (by decide +kernel))
set_option maxRecDepth 20000 in
theorem gX6_up_X6_needMatch : GoodIn wsX6_up (wsV RX6 427 RX6 yX6_needMatch wsX6_needMatch) := goodIn_app (goodIn_of _ (by decide +kernel)) ggX6_up_X6_needMatch
theorem dX6_up_0 : decode cX6_up 0 = .ok (.aload_n 0, 1) := by decide +kernel
theorem dX6_up_1 : decode cX6_up 1 = .ok (.invokevirtual 427, 3) := by decide +kernel
set_option maxRecDepth 20000 in
theorem ggX6_isMatchOver_X6_needMatch : GoodIn wsX6_isMatchOver wsX6_needMatch := goodIn_ca (goodIn_r _ [15, 16, 17, 18, 19, 20, 14, 21, 22, 23, 24, 25, 26, 27, 28, 29, 30, 31, 32, 33, 34, 35, 36] (by decide +kernel) (by decide +kernel)) (goodIn_sub (fun _ h => List.mem_cons_of_mem _ (List.mem_append_right _ h)) (by decide +kernel))
set_option maxRecDepth 20000 in
theorem gX6_isMatchOver_X6_needMatch : GoodIn wsX6_isMatchOver (wsV RX6 427 RX6 yX6_needMatch wsX6_needMatch) := goodIn_app (goodIn_of _ (by decide +kernel)) ggX6_isMatchOver_X6_needMatch
theorem dX6_isMatchOver_0 : decode cX6_isMatchOver 0 = .ok (.aload_n 0, 1) := by decide +kernel
theorem dX6_isMatchOver_1 : decode cX6_isMatchOver 1 = .ok (.invokevirtual 427, 3) := by decide +kernel
theorem dX6_cut_0 : decode cX6_cut 0 = .ok (.iload_n 1, 1) := by decide +kernel
theorem dX6_cut_1 : decode cX6_cut 1 = .ok (.iconst 1, 1) := by decide +kernel
theorem dX6_cut_2 : decode cX6_cut 2 = .ok (.if_icmp .lt 9, 3) := by decide +kernel
theorem dX6_cut_5 : decode cX6_cut 5 = .ok (.iload_n 1, 1) := by decide +kernel
theorem dX6_cut_6 : decode cX6_cut 6 = .ok (.bipush 6, 2) := by decide +kernel
theorem dX6_cut_8 : decode cX6_cut 8 = .ok (.if_icmp .le 14, 3) := by decide +kernel
theorem dX6_cut_11 : decode cX6_cut 11 = .ok (.new 49, 3) := by decide +kernel
theorem dX6_cut_14 : decode cX6_cut 14 = .ok (.dup, 1) := by decide +kernel
theorem dX6_cut_15 : decode cX6_cut 15 = .ok (.ldc_w 506, 3) := by decide +kernel
theorem dX6_cut_18 : decode cX6_cut 18 = .ok (.invokespecial 53, 3) := by decide +kernel
theorem dX6_cut_21 : decode cX6_cut 21 = .ok (.athrow, 1) := by decide +kernel
theorem dX6_cut_22 : decode cX6_cut 22 = .ok (.iconst 0, 1) := by decide +kernel
theorem dX6_cut_23 : decode cX6_cut 23 = .ok (.istore_n 2, 1) := by decide +kernel
theorem dX6_cut_24 : decode cX6_cut 24 = .ok (.iconst 0, 1) := by decide +kernel
theorem dX6_cut_25 : decode cX6_cut 25 = .ok (.istore_n 3, 1) := by decide +kernel
theorem dX6_cut_26 : decode cX6_cut 26 = .ok (.iload_n 3, 1) := by decide +kernel
theorem dX6_cut_27 : decode cX6_cut 27 = .ok (.aload_n 0, 1) := by decide +kernel
theorem dX6_cut_28 : decode cX6_cut 28 = .ok (.getfield 122, 3) := by decide +kernel
theorem dX6_cut_31 : decode cX6_cut 31 = .ok (.if_icmp .ge 36, 3) := by decide +kernel
theorem dX6_cut_67 : decode cX6_cut 67 = .ok (.iload_n 2, 1) := by decide +kernel
theorem dX6_cut_68 : decode cX6_cut 68 = .ok (.ireturn, 1) := by decide +kernel
theorem dX6_conditions_0 : decode cX6_conditions 0 = .ok (.iload_n 1, 1) := by decide +kernel
theorem dX6_conditions_1 : decode cX6_conditions 1 = .ok (.iconst (-1), 1) := by decide +kernel
theorem dX6_conditions_2 : decode cX6_conditions 2 = .ok (.if_icmp .lt 8, 3) := by decide +kernel
theorem dX6_conditions_5 : decode cX6_conditions 5 = .ok (.iload_n 1, 1) := by decide +kernel
theorem dX6_conditions_6 : decode cX6_conditions 6 = .ok (.iconst 3, 1) := by decide +kernel
theorem dX6_conditions_7 : decode cX6_conditions 7 = .ok (.if_icmp .le 14, 3) := by decide +kernel
theorem dX6_conditions_10 : decode cX6_conditions 10 = .ok (.new 49, 3) := by decide +kernel
theorem dX6_conditions_13 : decode cX6_conditions 13 = .ok (.dup, 1) := by decide +kernel
theorem dX6_conditions_14 : decode cX6_conditions 14 = .ok (.ldc_w 511, 3) := by decide +kernel
theorem dX6_conditions_17 : decode cX6_conditions 17 = .ok (.invokespecial 53, 3) := by decide +kernel
theorem dX6_conditions_20 : decode cX6_conditions 20 = .ok (.athrow, 1) := by decide +kernel
theorem dX6_conditions_21 : decode cX6_conditions 21 = .ok (.aload_n 0, 1) := by decide +kernel
theorem dX6_conditions_22 : decode cX6_conditions 22 = .ok (.getfield 513, 3) := by decide +kernel
theorem dX6_conditions_25 : decode cX6_conditions 25 = .ok (.istore_n 2, 1) := by decide +kernel
theorem dX6_conditions_26 : decode cX6_conditions 26 = .ok (.aload_n 0, 1) := by decide +kernel
theorem dX6_conditions_27 : decode cX6_conditions 27 = .ok (.iload_n 1, 1) := by decide +kernel
theorem dX6_conditions_28 : decode cX6_conditions 28 = .ok (.putfield 513, 3) := by decide +kernel
theorem dX6_conditions_31 : decode cX6_conditions 31 = .ok (.iload_n 2, 1) := by decide +kernel
theorem dX6_conditions_32 : decode cX6_conditions 32 = .ok (.ireturn, 1) := by decide +kernel
theorem dX6_checksum_0 : decode cX6_checksum 0 = .ok (.ldc2_w 550, 3) := by decide +kernel
theorem dX6_checksum_3 : decode cX6_checksum 3 = .ok (.lstore_n 1, 1) := by decide +kernel
theorem dX6_checksum_4 : decode cX6_checksum 4 = .ok (.iconst 0, 1) := by decide +kernel
theorem dX6_checksum_5 : decode cX6_checksum 5 = .ok (.istore_n 3, 1) := by decide +kernel
theorem dX6_checksum_6 : decode cX6_checksum 6 = .ok (.iload_n 3, 1) := by decide +kernel
theorem dX6_checksum_7 : decode cX6_checksum 7 = .ok (.aload_n 0, 1) := by decide +kernel
theorem dX6_checksum_8 : decode cX6_checksum 8 = .ok (.getfield 62, 3) := by decide +kernel
theorem dX6_checksum_11 : decode cX6_checksum 11 = .ok (.if_icmp .ge 49, 3) := by decide +kernel
theorem dX6_checksum_60 : decode cX6_checksum 60 = .ok (.lload_n 1, 1) := by decide +kernel
theorem dX6_checksum_61 : decode cX6_checksum 61 = .ok (.lreturn, 1) := by decide +kernel
theorem dX6_isSound_0 : decode cX6_isSound 0 = .ok (.iconst 0, 1) := by decide +kernel
theorem dX6_isSound_1 : decode cX6_isSound 1 = .ok (.istore_n 1, 1) := by decide +kernel
theorem dX6_isSound_2 : decode cX6_isSound 2 = .ok (.iconst 0, 1) := by decide +kernel
theorem dX6_isSound_3 : decode cX6_isSound 3 = .ok (.istore_n 2, 1) := by decide +kernel
theorem dX6_isSound_4 : decode cX6_isSound 4 = .ok (.iload_n 2, 1) := by decide +kernel
theorem dX6_isSound_5 : decode cX6_isSound 5 = .ok (.aload_n 0, 1) := by decide +kernel
theorem dX6_isSound_6 : decode cX6_isSound 6 = .ok (.getfield 122, 3) := by decide +kernel
theorem dX6_isSound_9 : decode cX6_isSound 9 = .ok (.if_icmp .ge 61, 3) := by decide +kernel
theorem dX6_isSound_70 : decode cX6_isSound 70 = .ok (.iload_n 1, 1) := by decide +kernel
theorem dX6_isSound_71 : decode cX6_isSound 71 = .ok (.aload_n 0, 1) := by decide +kernel
theorem dX6_isSound_72 : decode cX6_isSound 72 = .ok (.getfield 62, 3) := by decide +kernel
theorem dX6_isSound_75 : decode cX6_isSound 75 = .ok (.if_icmp .gt 7, 3) := by decide +kernel
theorem dX6_isSound_78 : decode cX6_isSound 78 = .ok (.iconst 1, 1) := by decide +kernel
theorem dX6_isSound_79 : decode cX6_isSound 79 = .ok (.goto 4, 3) := by decide +kernel
theorem dX6_isSound_83 : decode cX6_isSound 83 = .ok (.ireturn, 1) := by decide +kernel
set_option maxRecDepth 20000 in
theorem ggX6_needMatch_X6_isMatch : GoodIn wsX6_needMatch wsX6_isMatch := goodIn_r _ [7, 8, 9, 10, 11, 12, 13, 14, 15, 16, 17, 18, 19, 20, 21, 22] (by decide +kernel) (by decide +kernel)
set_option maxRecDepth 20000 in
theorem gX6_needMatch_X6_isMatch : GoodIn wsX6_needMatch (wsV RX6 196 RX6 yX6_isMatch wsX6_isMatch) := goodIn_app (goodIn_of _ (by decide +kernel)) ggX6_needMatch_X6_isMatch
theorem dX6_needMatch_0 : decode cX6_needMatch 0 = .ok (.aload_n 0, 1) := by decide +kernel
theorem dX6_needMatch_1 : decode cX6_needMatch 1 = .ok (.invokevirtual 196, 3) := by decide +kernel
theorem dX6_needMatch_4 : decode cX6_needMatch 4 = .ok (.ifCond .ne 14, 3) := by decide +kernel
theorem dX6_needMatch_7 : decode cX6_needMatch 7 = .ok (.new 74, 3) := by decide +kernel
theorem dX6_needMatch_10 : decode cX6_needMatch 10 = .ok (.dup, 1) := by decide +kernel
theorem dX6_needMatch_11 : decode cX6_needMatch 11 = .ok (.ldc_w 580, 3) := by decide +kernel
theorem dX6_needMatch_14 : decode cX6_needMatch 14 = .ok (.invokespecial 78, 3) := by decide +kernel
theorem dX6_needMatch_17 : decode cX6_needMatch 17 = .ok (.athrow, 1) := by decide +kernel
theorem dX6_isCell_0 : decode cX6_isCell 0 = .ok (.iload_n 0, 1) := by decide +kernel
theorem dX6_isCell_1 : decode cX6_isCell 1 = .ok (.ifCond .lt 23, 3) := by decide +kernel
theorem dX6_isCell_4 : decode cX6_isCell 4 = .ok (.iload_n 0, 1) := by decide +kernel
theorem dX6_isCell_5 : decode cX6_isCell 5 = .ok (.bipush 30, 2) := by decide +kernel
theorem dX6_isCell_7 : decode cX6_isCell 7 = .ok (.if_icmp .ge 17, 3) := by decide +kernel
theorem dX6_isCell_10 : decode cX6_isCell 10 = .ok (.iload_n 1, 1) := by decide +kernel
theorem dX6_isCell_11 : decode cX6_isCell 11 = .ok (.ifCond .lt 13, 3) := by decide +kernel
theorem dX6_isCell_14 : decode cX6_isCell 14 = .ok (.iload_n 1, 1) := by decide +kernel
theorem dX6_isCell_15 : decode cX6_isCell 15 = .ok (.bipush 20, 2) := by decide +kernel
theorem dX6_isCell_17 : decode cX6_isCell 17 = .ok (.if_icmp .ge 7, 3) := by decide +kernel
theorem dX6_isCell_20 : decode cX6_isCell 20 = .ok (.iconst 1, 1) := by decide +kernel
theorem dX6_isCell_21 : decode cX6_isCell 21 = .ok (.goto 4, 3) := by decide +kernel
theorem dX6_isCell_24 : decode cX6_isCell 24 = .ok (.iconst 0, 1) := by decide +kernel
theorem dX6_isCell_25 : decode cX6_isCell 25 = .ok (.ireturn, 1) := by decide +kernel
theorem dX6_cellAt_0 : decode cX6_cellAt 0 = .ok (.iload_n 1, 1) := by decide +kernel
theorem dX6_cellAt_1 : decode cX6_cellAt 1 = .ok (.bipush 30, 2) := by decide +kernel
theorem dX6_cellAt_3 : decode cX6_cellAt 3 = .ok (.imul, 1) := by decide +kernel
theorem dX6_cellAt_4 : decode cX6_cellAt 4 = .ok (.iload_n 0, 1) := by decide +kernel
theorem dX6_cellAt_5 : decode cX6_cellAt 5 = .ok (.iadd, 1) := by decide +kernel
theorem dX6_cellAt_6 : decode cX6_cellAt 6 = .ok (.ireturn, 1) := by decide +kernel
theorem dX6_hasIndex_0 : decode cX6_hasIndex 0 = .ok (.iconst 0, 1) := by decide +kernel
theorem dX6_hasIndex_1 : decode cX6_hasIndex 1 = .ok (.istore_n 2, 1) := by decide +kernel
theorem dX6_hasIndex_2 : decode cX6_hasIndex 2 = .ok (.iload_n 2, 1) := by decide +kernel
theorem dX6_hasIndex_3 : decode cX6_hasIndex 3 = .ok (.aload_n 0, 1) := by decide +kernel
theorem dX6_hasIndex_4 : decode cX6_hasIndex 4 = .ok (.getfield 62, 3) := by decide +kernel
theorem dX6_hasIndex_7 : decode cX6_hasIndex 7 = .ok (.if_icmp .ge 24, 3) := by decide +kernel
theorem dX6_hasIndex_31 : decode cX6_hasIndex 31 = .ok (.iconst 0, 1) := by decide +kernel
theorem dX6_hasIndex_32 : decode cX6_hasIndex 32 = .ok (.ireturn, 1) := by decide +kernel
theorem dX6_isMatch_0 : decode cX6_isMatch 0 = .ok (.aload_n 0, 1) := by decide +kernel
theorem dX6_isMatch_1 : decode cX6_isMatch 1 = .ok (.getfield 42, 3) := by decide +kernel
theorem dX6_isMatch_4 : decode cX6_isMatch 4 = .ok (.bipush 109, 2) := by decide +kernel
theorem dX6_isMatch_6 : decode cX6_isMatch 6 = .ok (.if_icmp .ne 7, 3) := by decide +kernel
theorem dX6_isMatch_13 : decode cX6_isMatch 13 = .ok (.iconst 0, 1) := by decide +kernel
theorem dX6_isMatch_14 : decode cX6_isMatch 14 = .ok (.ireturn, 1) := by decide +kernel
set_option maxHeartbeats 4000000 in
set_option maxRecDepth 100000 in
theorem c_X6_isCell (l : Launch) (sz : Nat) (a1 a2 : Int32) : Met l yX6_isCell wsX6_isCell ({ frames := 5, cells := 0, slots := 0, locals := 50 }) (va_Pc [.int a1, .int a2] (fun U => U.heap.size = sz)) (va_Qi (fun r (_ : Unit) => r = bCell a1 a2) (fun _ _ => True) (rg0 sz)) 0 0 (rg0 sz) := by
  refine Met.ofW (cc := cX6_isCell) (maxL := 2) (ret := (some .boolean)) (by decide +kernel) rfl ?_
  intro p e s m args below meth c s₁ B hml hv
  obtain ⟨rfl, hsz⟩ := hv
  have hx := B.exec
  have hb := B.bytes
  have hr := B.returns
  have hts := atoms_spec (ws := wsX6_isCell) B.pre
  have hown : s.vm.findClass RX6 = some m.cls := findClass_of_methodNamed B.named
  have hlocks := B.notSynchronized
  subst hsz
  have hA : ∀ q : Nat, s.heap.size ≤ q → rg0 s.heap.size q := fun _ h => h
  have hS : va_S (rg0 s.heap.size) s.heap s.heap [] := va_S.rf
  have hP : va_P (((fun _ => 0), (fun _ _ => 0)) : va_G) vwCl [] s.heap := fun k q h => by simp at h
  have hl := lv_entry ([.int a1, .int a2]) (n := 2) (Nat.le_of_ble_eq_true rfl)
  rw [lg_entry_eq]
  generalize (lg_sl ([.int a1, .int a2]) ++ List.replicate (2 - (lg_sl ([.int a1, .int a2])).length) Slot.unset).toArray = ls at hl ⊢
  have hl : lv_has ls 2 [(0, .int a1), (1, .int a2)] := hl
  refine lv_iload_n hx hb dX6_isCell_0 rfl (lv_at hl 0 rfl) ?_
  refine lv_if_lt (tgt := 24) hx hb dX6_isCell_1 (by decide) (fun c_1 => ?_) (fun c_1 => ?_)
  · skip
    refine lv_iconst (v := 0) hx hb dX6_isCell_24 (by decide) ?_
    exact W.zret (v := 0) (ty := .boolean) hx hb hr (by decide) (fun t ht hW => ⟨⟨0, (), rfl, (by have h := c_1; simp only [Int32.lt_iff_toInt_lt, Int32.le_iff_toInt_le, bIn_0, bCell_0, tI_0, tI_1, tI_3, tI_5, tI_6, tI_9, tI_19, tI_20, tI_29, tI_30, tI_36, tI_m1] at h; first | exact (bCell_1 (by omega)).symm | exact (bCell_0.mpr (by omega)).symm), trivial⟩, hS.F ht⟩) hS.2.2 dX6_isCell_25
  · skip
    refine lv_iload_n hx hb dX6_isCell_4 rfl (lv_at hl 0 rfl) ?_
    refine lv_bipush (v := 30) hx hb dX6_isCell_5 (by decide) ?_
    refine lv_icmp_ge (tgt := 24) hx hb dX6_isCell_7 (by decide) (fun c_2 => ?_) (fun c_2 => ?_)
    · skip
      refine lv_iconst (v := 0) hx hb dX6_isCell_24 (by decide) ?_
      exact W.zret (v := 0) (ty := .boolean) hx hb hr (by decide) (fun t ht hW => ⟨⟨0, (), rfl, (by have h := And.intro c_1 (c_2); simp only [Int32.lt_iff_toInt_lt, Int32.le_iff_toInt_le, bIn_0, bCell_0, tI_0, tI_1, tI_3, tI_5, tI_6, tI_9, tI_19, tI_20, tI_29, tI_30, tI_36, tI_m1] at h; first | exact (bCell_1 (by omega)).symm | exact (bCell_0.mpr (by omega)).symm), trivial⟩, hS.F ht⟩) hS.2.2 dX6_isCell_25
    · skip
      refine lv_iload_n hx hb dX6_isCell_10 rfl (lv_at hl 1 rfl) ?_
      refine lv_if_lt (tgt := 24) hx hb dX6_isCell_11 (by decide) (fun c_3 => ?_) (fun c_3 => ?_)
      · skip
        refine lv_iconst (v := 0) hx hb dX6_isCell_24 (by decide) ?_
        exact W.zret (v := 0) (ty := .boolean) hx hb hr (by decide) (fun t ht hW => ⟨⟨0, (), rfl, (by have h := And.intro c_1 (And.intro c_2 (c_3)); simp only [Int32.lt_iff_toInt_lt, Int32.le_iff_toInt_le, bIn_0, bCell_0, tI_0, tI_1, tI_3, tI_5, tI_6, tI_9, tI_19, tI_20, tI_29, tI_30, tI_36, tI_m1] at h; first | exact (bCell_1 (by omega)).symm | exact (bCell_0.mpr (by omega)).symm), trivial⟩, hS.F ht⟩) hS.2.2 dX6_isCell_25
      · skip
        refine lv_iload_n hx hb dX6_isCell_14 rfl (lv_at hl 1 rfl) ?_
        refine lv_bipush (v := 20) hx hb dX6_isCell_15 (by decide) ?_
        refine lv_icmp_ge (tgt := 24) hx hb dX6_isCell_17 (by decide) (fun c_4 => ?_) (fun c_4 => ?_)
        · skip
          refine lv_iconst (v := 0) hx hb dX6_isCell_24 (by decide) ?_
          exact W.zret (v := 0) (ty := .boolean) hx hb hr (by decide) (fun t ht hW => ⟨⟨0, (), rfl, (by have h := And.intro c_1 (And.intro c_2 (And.intro c_3 (c_4))); simp only [Int32.lt_iff_toInt_lt, Int32.le_iff_toInt_le, bIn_0, bCell_0, tI_0, tI_1, tI_3, tI_5, tI_6, tI_9, tI_19, tI_20, tI_29, tI_30, tI_36, tI_m1] at h; first | exact (bCell_1 (by omega)).symm | exact (bCell_0.mpr (by omega)).symm), trivial⟩, hS.F ht⟩) hS.2.2 dX6_isCell_25
        · skip
          refine lv_iconst (v := 1) hx hb dX6_isCell_20 (by decide) ?_
          refine lv_goto (tgt := 25) hx hb dX6_isCell_21 (by decide) ?_
          exact W.zret (v := 1) (ty := .boolean) hx hb hr (by decide) (fun t ht hW => ⟨⟨1, (), rfl, (by have h := And.intro c_1 (And.intro c_2 (And.intro c_3 (c_4))); simp only [Int32.lt_iff_toInt_lt, Int32.le_iff_toInt_le, bIn_0, bCell_0, tI_0, tI_1, tI_3, tI_5, tI_6, tI_9, tI_19, tI_20, tI_29, tI_30, tI_36, tI_m1] at h; first | exact (bCell_1 (by omega)).symm | exact (bCell_0.mpr (by omega)).symm), trivial⟩, hS.F ht⟩) hS.2.2 dX6_isCell_25
set_option maxHeartbeats 4000000 in
set_option maxRecDepth 100000 in
theorem c_X6_cellAt (l : Launch) (sz : Nat) (a1 a2 : Int32) : Met l yX6_cellAt wsX6_cellAt ({ frames := 5, cells := 0, slots := 0, locals := 50 }) (va_Pc [.int a1, .int a2] (fun U => U.heap.size = sz)) (va_Qi (fun r (_ : Unit) => r = a2 * 30 + a1) (fun _ _ => True) (rg0 sz)) 0 0 (rg0 sz) := by
  refine Met.ofW (cc := cX6_cellAt) (maxL := 2) (ret := (some .int)) (by decide +kernel) rfl ?_
  intro p e s m args below meth c s₁ B hml hv
  obtain ⟨rfl, hsz⟩ := hv
  have hx := B.exec
  have hb := B.bytes
  have hr := B.returns
  have hts := atoms_spec (ws := wsX6_cellAt) B.pre
  have hown : s.vm.findClass RX6 = some m.cls := findClass_of_methodNamed B.named
  have hlocks := B.notSynchronized
  subst hsz
  have hA : ∀ q : Nat, s.heap.size ≤ q → rg0 s.heap.size q := fun _ h => h
  have hS : va_S (rg0 s.heap.size) s.heap s.heap [] := va_S.rf
  have hP : va_P (((fun _ => 0), (fun _ _ => 0)) : va_G) vwCl [] s.heap := fun k q h => by simp at h
  have hl := lv_entry ([.int a1, .int a2]) (n := 2) (Nat.le_of_ble_eq_true rfl)
  rw [lg_entry_eq]
  generalize (lg_sl ([.int a1, .int a2]) ++ List.replicate (2 - (lg_sl ([.int a1, .int a2])).length) Slot.unset).toArray = ls at hl ⊢
  have hl : lv_has ls 2 [(0, .int a1), (1, .int a2)] := hl
  refine lv_iload_n hx hb dX6_cellAt_0 rfl (lv_at hl 1 rfl) ?_
  refine lv_bipush (v := 30) hx hb dX6_cellAt_1 (by decide) ?_
  refine lv_imul hx hb dX6_cellAt_3 ?_
  refine lv_iload_n hx hb dX6_cellAt_4 rfl (lv_at hl 0 rfl) ?_
  refine lv_iadd hx hb dX6_cellAt_5 ?_
  exact W.iret (v := (a2 * 30) + a1) hx hb hr (fun t ht hW => ⟨⟨(a2 * 30) + a1, (), rfl, rfl, trivial⟩, hS.F ht⟩) hS.2.2 dX6_cellAt_6
set_option maxHeartbeats 4000000 in
set_option maxRecDepth 100000 in
theorem c_X6_isMatch (l : Launch) (D : va_G) (h0 : Nat) (r : Nat → Nat) (sz : Nat) : Met l yX6_isMatch wsX6_isMatch ({ frames := 5, cells := 0, slots := 0, locals := 50 }) (va_Pc [.ref h0] (PX6 D h0 r sz)) (va_Qi (fun (r9 : Int32) (_ : Unit) => r9 = 0) (fun _ _ => True) (rg0 sz)) 0 0 (rg0 sz) := by
  refine Met.ofW (cc := cX6_isMatch) (maxL := 1) (ret := (some .boolean)) (by decide +kernel) rfl ?_
  intro p e s m args below meth c s₁ B hml hv
  obtain ⟨rfl, hsz, hP, hK, hT⟩ := hv
  have hx := B.exec
  have hb := B.bytes
  have hr := B.returns
  have hts := atoms_spec (ws := wsX6_isMatch) B.pre
  have hown : s.vm.findClass RX6 = some m.cls := findClass_of_methodNamed B.named
  have hlocks := B.notSynchronized
  subst hsz
  have hA : ∀ q : Nat, s.heap.size ≤ q → (rg0 s.heap.size) q := fun _ h => h
  have hS : va_S (rg0 s.heap.size) s.heap s.heap [] := va_S.rf
  have hl := lv_entry ([.ref h0]) (n := 1) (Nat.le_of_ble_eq_true rfl)
  rw [lg_entry_eq]
  generalize (lg_sl ([.ref h0]) ++ List.replicate (1 - (lg_sl ([.ref h0])).length) Slot.unset).toArray = ls at hl ⊢
  have hl : lv_has ls 1 [(0, .ref h0)] := hl
  refine lv_aload_n hx hb dX6_isMatch_0 rfl (lv_at hl 0 rfl) ?_
  refine va_get (D := D) (ci := 12) (v := .int 115) (C := RX6) (T := TX6) (N := 14) hx hb hts (by decide +kernel) hown hK hP 0 rfl rfl 9 (by decide) (hts (.fieldLink RX6 42 "FairwayChancery" "format" "C") (by decide +kernel)) (fun _ h9 => h9) rfl dX6_isMatch_1 ?_
  refine lv_bipush (v := 109) hx hb dX6_isMatch_4 (by decide) ?_
  refine lv_icmp_ne (tgt := 13) hx hb dX6_isMatch_6 (by decide) (fun _ => ?_) (fun c => by first | exact absurd (by decide) c | exact absurd c (by decide))
  refine lv_iconst (v := 0) hx hb dX6_isMatch_13 (by decide) ?_
  exact W.zret (v := 0) (ty := .boolean) hx hb hr (by decide) (fun t ht hW => ⟨⟨0, (), rfl, rfl, trivial⟩, hS.F ht⟩) hS.2.2 dX6_isMatch_14
set_option maxHeartbeats 4000000 in
set_option maxRecDepth 100000 in
theorem c_X6_hasIndex (l : Launch) (D : va_G) (h0 : Nat) (r : Nat → Nat) (sz : Nat) (a1 : Int32) : Met l yX6_hasIndex wsX6_hasIndex ({ frames := 5, cells := 0, slots := 0, locals := 50 }) (va_Pc [.ref h0, .int a1] (PX6 D h0 r sz)) (va_Qi (fun (r9 : Int32) (_ : Unit) => r9 = 0) (fun _ _ => True) (rg0 sz)) 0 0 (rg0 sz) := by
  refine Met.ofW (cc := cX6_hasIndex) (maxL := 3) (ret := (some .boolean)) (by decide +kernel) rfl ?_
  intro p e s m args below meth c s₁ B hml hv
  obtain ⟨rfl, hsz, hP, hK, hT⟩ := hv
  have hx := B.exec
  have hb := B.bytes
  have hr := B.returns
  have hts := atoms_spec (ws := wsX6_hasIndex) B.pre
  have hown : s.vm.findClass RX6 = some m.cls := findClass_of_methodNamed B.named
  have hlocks := B.notSynchronized
  subst hsz
  have hA : ∀ q : Nat, s.heap.size ≤ q → (rg0 s.heap.size) q := fun _ h => h
  have hS : va_S (rg0 s.heap.size) s.heap s.heap [] := va_S.rf
  have hl := lv_entry ([.ref h0, .int a1]) (n := 3) (Nat.le_of_ble_eq_true rfl)
  rw [lg_entry_eq]
  generalize (lg_sl ([.ref h0, .int a1]) ++ List.replicate (3 - (lg_sl ([.ref h0, .int a1])).length) Slot.unset).toArray = ls at hl ⊢
  have hl : lv_has ls 3 [(0, .ref h0), (1, .int a1)] := hl
  refine lv_iconst (v := 0) hx hb dX6_hasIndex_0 (by decide) ?_
  refine lv_istore_n (lv' := [(2, .int 0), (0, .ref h0), (1, .int a1)]) hx hb dX6_hasIndex_1 rfl hl (by decide) rfl (fun ls hl => ?_)
  refine lv_iload_n hx hb dX6_hasIndex_2 rfl (lv_at hl 0 rfl) ?_
  refine lv_aload_n hx hb dX6_hasIndex_3 rfl (lv_at hl 1 rfl) ?_
  refine va_get (D := D) (ci := 12) (v := .int 0) (C := RX6) (T := TX6) (N := 14) hx hb hts (by decide +kernel) hown hK hP 0 rfl rfl 4 (by decide) (hts (.fieldLink RX6 62 "FairwayChancery" "holeCount" "I") (by decide +kernel)) (fun _ h9 => h9) rfl dX6_hasIndex_4 ?_
  refine lv_icmp_ge (tgt := 31) hx hb dX6_hasIndex_7 (by decide) (fun _ => ?_) (fun c => by first | exact absurd (by decide) c | exact absurd c (by decide))
  refine lv_iconst (v := 0) hx hb dX6_hasIndex_31 (by decide) ?_
  exact W.zret (v := 0) (ty := .boolean) hx hb hr (by decide) (fun t ht hW => ⟨⟨0, (), rfl, rfl, trivial⟩, hS.F ht⟩) hS.2.2 dX6_hasIndex_32
set_option maxHeartbeats 4000000 in
set_option maxRecDepth 100000 in
theorem c_X6_needMatch (l : Launch) (hlT : l.stackTraces = false) (D : va_G) (h0 : Nat) (r : Nat → Nat) (sz : Nat) : vx_Met l yX6_needMatch wsX6_needMatch ({ frames := 30, cells := 1, slots := 6, locals := 300 }) (va_Pc [.ref h0] (PX6 D h0 r sz)) (va_Qv (fun _ : Unit => False) (fun _ _ => True) (rg0 sz)) (tX (fun E => E = "java/lang/UnsupportedOperationException") (rg0 sz)) 1 6 (rg0 sz) := by
  refine vx_ofW (cc := cX6_needMatch) (maxL := 1) (ret := none) (by decide +kernel) rfl ?_
  intro p e s m args below meth c s₁ B hml hne hv
  obtain ⟨rfl, hsz, hP, hK, hT⟩ := hv
  have hx := B.exec
  have hb := B.bytes
  have hr := B.returns
  have hts := atoms_spec (ws := wsX6_needMatch) B.pre
  have hown : s.vm.findClass RX6 = some m.cls := findClass_of_methodNamed B.named
  have hlocks := B.notSynchronized
  subst hsz
  have hA : ∀ q : Nat, s.heap.size ≤ q → rg0 s.heap.size q := fun _ h => h
  have hS : va_S (rg0 s.heap.size) s.heap s.heap [] := va_S.rf
  have hl := lv_entry ([.ref h0]) (n := 1) (Nat.le_of_ble_eq_true rfl)
  rw [lg_entry_eq]
  generalize (lg_sl ([.ref h0]) ++ List.replicate (1 - (lg_sl ([.ref h0])).length) Slot.unset).toArray = ls at hl ⊢
  have hl : lv_has ls 1 [(0, .ref h0)] := hl
  refine lv_aload_n hx hb dX6_needMatch_0 rfl (lv_at hl 0 rfl) ?_
  refine va_calli (va_runV (As := []) (rest := []) ⟨hx, hb, hml, hown, hts⟩ (c_X6_isMatch l D h0 r s.heap.size) (cwV 0 hts gX6_needMatch_X6_isMatch rfl rfl rfl (by decide +kernel) ⟨Nat.le_of_ble_eq_true rfl, Nat.le_of_ble_eq_true rfl⟩) ⟨fun a U g mk q => ⟨q.1, PX6.blind q.2⟩, va_recv hK hP (ci := 12) (q0 := 0) rfl rfl, fun U hU hW => ⟨rfl, PX6.go hP hK hT hS hA hU hW⟩⟩ rfl rfl hl.1 rfl (lv_room (Nat.le_of_ble_eq_true rfl)) dX6_needMatch_1 ⟨Nat.le_of_ble_eq_true rfl, Nat.le_of_ble_eq_true rfl⟩) hS (fun q h1 h2 => absurd h1 (Nat.not_lt.mpr h2)) (fun q h => hA q (Nat.le_trans hS.1 h)) (fun r1 u t H1 locs ht hvm hw hB hz1 hk1 hS => ?_)
  have hP := va_kept0 hP hk1
  generalize H1 = H at hP hS ⊢
  have hP : va_P D vwCl [(h0, .inr (12, [.ref (r 0), .ref (r 1), .ref (r 2), .ref (r 3), .int 0, .int 0, .int 1, .int 110, .int 0, .int 115, .int 0, .int 0, .int 0, .int 0]))] H := hP
  obtain rfl : r1 = 0 := hw
  refine lv_if_ne (tgt := 18) hx hb dX6_needMatch_4 (by decide) (fun c => by first | exact absurd c (by decide) | exact absurd (by decide) c) (fun _ => ?_)
  exact tx_throwW (cls := "java/lang/UnsupportedOperationException") (text := "there is no match") rfl hx hb hlT hown (by decide +kernel) (by decide +kernel) (hts (.classLink RX6 74 "java/lang/UnsupportedOperationException") (by decide +kernel)) (hts (.initialized "java/lang/UnsupportedOperationException") (by decide +kernel)) (fun w hw => hts w (List.mem_cons_of_mem _ (List.mem_append_right _ hw))) hT hS (fun q h => h) (by rw [hml]; exact hl.1) dX6_needMatch_7 dX6_needMatch_10 dX6_needMatch_11 dX6_needMatch_14 dX6_needMatch_17 hne (Nat.le_of_ble_eq_true rfl) (Nat.le_of_ble_eq_true rfl) (Nat.le_of_ble_eq_true rfl) (Nat.le_of_ble_eq_true rfl) hlocks (by decide) (by decide)
set_option maxHeartbeats 4000000 in
set_option maxRecDepth 100000 in
theorem c_X6_up (l : Launch) (hlT : l.stackTraces = false) (D : va_G) (h0 : Nat) (r : Nat → Nat) (sz : Nat) : vx_Met l yX6_up wsX6_up ({ frames := 50, cells := 1, slots := 6, locals := 500 }) (va_Pc [.ref h0] (PX6 D h0 r sz)) (va_Qi (fun (_ : Int32) (_ : Unit) => False) (fun _ _ => True) (rg0 sz)) (tX (fun E => E = "java/lang/UnsupportedOperationException") (rg0 sz)) 1 6 (rg0 sz) := by
  refine vx_ofW (cc := cX6_up) (maxL := 1) (ret := (some .int)) (by decide +kernel) rfl ?_
  intro p e s m args below meth c s₁ B hml hne hv
  obtain ⟨rfl, hsz, hP, hK, hT⟩ := hv
  have hx := B.exec
  have hb := B.bytes
  have hr := B.returns
  have hts := atoms_spec (ws := wsX6_up) B.pre
  have hown : s.vm.findClass RX6 = some m.cls := findClass_of_methodNamed B.named
  have hlocks := B.notSynchronized
  subst hsz
  have hA : ∀ q : Nat, s.heap.size ≤ q → rg0 s.heap.size q := fun _ h => h
  have hS : va_S (rg0 s.heap.size) s.heap s.heap [] := va_S.rf
  have hl := lv_entry ([.ref h0]) (n := 1) (Nat.le_of_ble_eq_true rfl)
  rw [lg_entry_eq]
  generalize (lg_sl ([.ref h0]) ++ List.replicate (1 - (lg_sl ([.ref h0])).length) Slot.unset).toArray = ls at hl ⊢
  have hl : lv_has ls 1 [(0, .ref h0)] := hl
  refine lv_aload_n hx hb dX6_up_0 rfl (lv_at hl 0 rfl) ?_
  refine vx_callv (vx_runV (As := []) (rest := []) ⟨hx, hb, hml, hown, hts⟩ (c_X6_needMatch l hlT D h0 r s.heap.size) (cwV 0 hts gX6_up_X6_needMatch rfl rfl rfl (by decide +kernel) ⟨Nat.le_of_ble_eq_true rfl, Nat.le_of_ble_eq_true rfl⟩) ⟨fun a U g mk q => ⟨q.1, PX6.blind q.2⟩, va_recv hK hP (ci := 12) (q0 := 0) rfl rfl, fun U hU hW => ⟨rfl, PX6.go hP hK hT hS hA hU hW⟩⟩ rfl rfl hl.1 rfl (lv_room (Nat.le_of_ble_eq_true rfl)) dX6_up_1 ⟨Nat.le_of_ble_eq_true rfl, Nat.le_of_ble_eq_true rfl⟩) hS (fun q _ h => h) (fun q h => h) (fun q _ h => h) (fun E ce q9 u t H1 locs1 ht hvm hpx hB hz hk9 hS hcell hv hcl => ?_) (fun u t H1 locs1 ht hvm hw hB hz1 hk1 hS => hw.elim)
  have hE : E = "java/lang/UnsupportedOperationException" := hB
  subst hE
  exact vx_out (fun x h => (hne x h).elim) hlocks hcell hv hcl (fun t ht hvm => ⟨(), trivial, rfl, hS.F ht⟩) hS.2.2 (by decide) (by decide)
set_option maxHeartbeats 4000000 in
set_option maxRecDepth 100000 in
theorem c_X6_isMatchOver (l : Launch) (hlT : l.stackTraces = false) (D : va_G) (h0 : Nat) (r : Nat → Nat) (sz : Nat) : vx_Met l yX6_isMatchOver wsX6_isMatchOver ({ frames := 50, cells := 1, slots := 6, locals := 500 }) (va_Pc [.ref h0] (PX6 D h0 r sz)) (va_Qi (fun (_ : Int32) (_ : Unit) => False) (fun _ _ => True) (rg0 sz)) (tX (fun E => E = "java/lang/UnsupportedOperationException") (rg0 sz)) 1 6 (rg0 sz) := by
  refine vx_ofW (cc := cX6_isMatchOver) (maxL := 1) (ret := (some .boolean)) (by decide +kernel) rfl ?_
  intro p e s m args below meth c s₁ B hml hne hv
  obtain ⟨rfl, hsz, hP, hK, hT⟩ := hv
  have hx := B.exec
  have hb := B.bytes
  have hr := B.returns
  have hts := atoms_spec (ws := wsX6_isMatchOver) B.pre
  have hown : s.vm.findClass RX6 = some m.cls := findClass_of_methodNamed B.named
  have hlocks := B.notSynchronized
  subst hsz
  have hA : ∀ q : Nat, s.heap.size ≤ q → rg0 s.heap.size q := fun _ h => h
  have hS : va_S (rg0 s.heap.size) s.heap s.heap [] := va_S.rf
  have hl := lv_entry ([.ref h0]) (n := 1) (Nat.le_of_ble_eq_true rfl)
  rw [lg_entry_eq]
  generalize (lg_sl ([.ref h0]) ++ List.replicate (1 - (lg_sl ([.ref h0])).length) Slot.unset).toArray = ls at hl ⊢
  have hl : lv_has ls 1 [(0, .ref h0)] := hl
  refine lv_aload_n hx hb dX6_isMatchOver_0 rfl (lv_at hl 0 rfl) ?_
  refine vx_callv (vx_runV (As := []) (rest := []) ⟨hx, hb, hml, hown, hts⟩ (c_X6_needMatch l hlT D h0 r s.heap.size) (cwV 0 hts gX6_isMatchOver_X6_needMatch rfl rfl rfl (by decide +kernel) ⟨Nat.le_of_ble_eq_true rfl, Nat.le_of_ble_eq_true rfl⟩) ⟨fun a U g mk q => ⟨q.1, PX6.blind q.2⟩, va_recv hK hP (ci := 12) (q0 := 0) rfl rfl, fun U hU hW => ⟨rfl, PX6.go hP hK hT hS hA hU hW⟩⟩ rfl rfl hl.1 rfl (lv_room (Nat.le_of_ble_eq_true rfl)) dX6_isMatchOver_1 ⟨Nat.le_of_ble_eq_true rfl, Nat.le_of_ble_eq_true rfl⟩) hS (fun q _ h => h) (fun q h => h) (fun q _ h => h) (fun E ce q9 u t H1 locs1 ht hvm hpx hB hz hk9 hS hcell hv hcl => ?_) (fun u t H1 locs1 ht hvm hw hB hz1 hk1 hS => hw.elim)
  have hE : E = "java/lang/UnsupportedOperationException" := hB
  subst hE
  exact vx_out (fun x h => (hne x h).elim) hlocks hcell hv hcl (fun t ht hvm => ⟨(), trivial, rfl, hS.F ht⟩) hS.2.2 (by decide) (by decide)
set_option maxHeartbeats 4000000 in
set_option maxRecDepth 100000 in
theorem c_X6_player (l : Launch) (D : va_G) (h0 : Nat) (r : Nat → Nat) (sz : Nat) : Met l yX6_player wsX6_player ({ frames := 5, cells := 0, slots := 0, locals := 50 }) (va_Pc [.ref h0] (PX6 D h0 r sz)) (va_Qi (fun (r9 : Int32) (_ : Unit) => r9 = 0) (fun _ _ => True) (rg1 h0 sz)) 0 0 (rg1 h0 sz) := by
  refine Met.ofW (cc := cX6_player) (maxL := 1) (ret := (some .int)) (by decide +kernel) rfl ?_
  intro p e s m args below meth c s₁ B hml hv
  obtain ⟨rfl, hsz, hP, hK, hT⟩ := hv
  have hx := B.exec
  have hb := B.bytes
  have hr := B.returns
  have hts := atoms_spec (ws := wsX6_player) B.pre
  have hown : s.vm.findClass RX6 = some m.cls := findClass_of_methodNamed B.named
  have hlocks := B.notSynchronized
  subst hsz
  have hA : ∀ q : Nat, s.heap.size ≤ q → (rg1 h0 s.heap.size) q := fun _ h => Or.inr h
  have hS : va_S (rg1 h0 s.heap.size) s.heap s.heap [] := va_S.rf
  have hT : tf (rg0 s.heap.size) s s.heap := hT
  have hD : va_D (rg1 h0 s.heap.size) [(h0, .inr (12, [.ref (r 0), .ref (r 1), .ref (r 2), .ref (r 3), .int 0, .int 0, .int 1, .int 110, .int 0, .int 115, .int 0, .int 0, .int 0, .int 0]))] := rg1_D
  have hl := lv_entry ([.ref h0]) (n := 1) (Nat.le_of_ble_eq_true rfl)
  rw [lg_entry_eq]
  generalize (lg_sl ([.ref h0]) ++ List.replicate (1 - (lg_sl ([.ref h0])).length) Slot.unset).toArray = ls at hl ⊢
  have hl : lv_has ls 1 [(0, .ref h0)] := hl
  generalize hAe : rg1 h0 s.heap.size = A at hA hS hD ⊢
  refine lv_aload_n hx hb dX6_player_0 rfl (lv_at hl 0 rfl) ?_
  refine va_get (D := D) (ci := 12) (v := .int 0) (C := RX6) (T := TX6) (N := 14) hx hb hts (by decide +kernel) hown hK hP 0 rfl rfl 10 (by decide) (hts (.fieldLink RX6 58 "FairwayChancery" "isBegun" "Z") (by decide +kernel)) (fun _ h9 => h9) rfl dX6_player_1 ?_
  refine lv_if_ne (tgt := 16) hx hb dX6_player_4 (by decide) (fun c => by first | exact absurd c (by decide) | exact absurd (by decide) c) (fun _ => ?_)
  refine lv_aload_n hx hb dX6_player_7 rfl (lv_at hl 0 rfl) ?_
  refine va_get (D := D) (ci := 12) (v := .int 0) (C := RX6) (T := TX6) (N := 14) hx hb hts (by decide +kernel) hown hK hP 0 rfl rfl 5 (by decide) (hts (.fieldLink RX6 122 "FairwayChancery" "playerCount" "I") (by decide +kernel)) (fun _ h9 => h9) rfl dX6_player_8 ?_
  refine lv_bipush (v := 6) hx hb dX6_player_11 (by decide) ?_
  refine lv_icmp_lt (tgt := 26) hx hb dX6_player_13 (by decide) (fun _ => ?_) (fun c => by first | exact absurd (by decide) c | exact absurd c (by decide))
  refine lv_aload_n hx hb dX6_player_26 rfl (lv_at hl 0 rfl) ?_
  refine lv_dup hx hb dX6_player_27 rfl ?_
  refine va_get (D := D) (ci := 12) (v := .int 0) (C := RX6) (T := TX6) (N := 14) hx hb hts (by decide +kernel) hown hK hP 0 rfl rfl 5 (by decide) (hts (.fieldLink RX6 122 "FairwayChancery" "playerCount" "I") (by decide +kernel)) (fun _ h9 => h9) rfl dX6_player_28 ?_
  refine lv_iconst (v := 1) hx hb dX6_player_31 (by decide) ?_
  refine lv_iadd hx hb dX6_player_32 ?_
  refine lv_topi (fun y3 ey3 => ?_)
  obtain rfl : y3 = 1 := ey3.trans (by decide)
  refine va_put (D := D) (ci := 12) (v := .int 1) (ty := .int) (C := RX6) (T := TX6) (N := 14) hx hb hts (by decide +kernel) tyX6 tyX6_ok nmX6 hown hK hP hD hS 0 rfl rfl 5 (by decide) (hts (.fieldLink RX6 122 "FairwayChancery" "playerCount" "I") (by decide +kernel)) (fun _ h9 => h9) rfl (by decide +kernel) rfl rfl (Nat.le_of_ble_eq_true rfl) dX6_player_33 (fun H locs hP hD hS => ?_)
  have hP : va_P D vwCl [(h0, .inr (12, [.ref (r 0), .ref (r 1), .ref (r 2), .ref (r 3), .int 0, .int 1, .int 1, .int 110, .int 0, .int 115, .int 0, .int 0, .int 0, .int 0]))] H := hP
  have hD : va_D A [(h0, .inr (12, [.ref (r 0), .ref (r 1), .ref (r 2), .ref (r 3), .int 0, .int 1, .int 1, .int 110, .int 0, .int 115, .int 0, .int 0, .int 0, .int 0]))] := hD
  refine lv_aload_n hx hb dX6_player_36 rfl (lv_at hl 0 rfl) ?_
  refine va_get (D := D) (ci := 12) (v := .int 1) (C := RX6) (T := TX6) (N := 14) hx hb hts (by decide +kernel) hown hK hP 0 rfl rfl 5 (by decide) (hts (.fieldLink RX6 122 "FairwayChancery" "playerCount" "I") (by decide +kernel)) (fun _ h9 => h9) rfl dX6_player_37 ?_
  refine lv_iconst (v := 1) hx hb dX6_player_40 (by decide) ?_
  refine lv_isub hx hb dX6_player_41 ?_
  refine lv_topi (fun y4 ey4 => ?_)
  obtain rfl : y4 = 0 := ey4.trans (by decide)
  exact W.iret (v := 0) hx hb hr (fun t ht hW => ⟨⟨0, (), rfl, rfl, trivial⟩, hS.F ht⟩) hS.2.2 dX6_player_42
set_option maxHeartbeats 4000000 in
set_option maxRecDepth 100000 in
theorem c_X6_setSeed (l : Launch) (D : va_G) (h0 : Nat) (r : Nat → Nat) (sz : Nat) (a1 : Int32) : Met l yX6_setSeed wsX6_setSeed ({ frames := 5, cells := 0, slots := 0, locals := 50 }) (va_Pc [.ref h0, .int a1] (PX6 D h0 r sz)) (va_Qi (fun (r9 : Int32) (_ : Unit) => r9 = 1) (fun _ _ => True) (rg1 h0 sz)) 0 0 (rg1 h0 sz) := by
  refine Met.ofW (cc := cX6_setSeed) (maxL := 3) (ret := (some .int)) (by decide +kernel) rfl ?_
  intro p e s m args below meth c s₁ B hml hv
  obtain ⟨rfl, hsz, hP, hK, hT⟩ := hv
  have hx := B.exec
  have hb := B.bytes
  have hr := B.returns
  have hts := atoms_spec (ws := wsX6_setSeed) B.pre
  have hown : s.vm.findClass RX6 = some m.cls := findClass_of_methodNamed B.named
  have hlocks := B.notSynchronized
  subst hsz
  have hA : ∀ q : Nat, s.heap.size ≤ q → (rg1 h0 s.heap.size) q := fun _ h => Or.inr h
  have hS : va_S (rg1 h0 s.heap.size) s.heap s.heap [] := va_S.rf
  have hT : tf (rg0 s.heap.size) s s.heap := hT
  have hD : va_D (rg1 h0 s.heap.size) [(h0, .inr (12, [.ref (r 0), .ref (r 1), .ref (r 2), .ref (r 3), .int 0, .int 0, .int 1, .int 110, .int 0, .int 115, .int 0, .int 0, .int 0, .int 0]))] := rg1_D
  have hl := lv_entry ([.ref h0, .int a1]) (n := 3) (Nat.le_of_ble_eq_true rfl)
  rw [lg_entry_eq]
  generalize (lg_sl ([.ref h0, .int a1]) ++ List.replicate (3 - (lg_sl ([.ref h0, .int a1])).length) Slot.unset).toArray = ls at hl ⊢
  have hl : lv_has ls 3 [(0, .ref h0), (1, .int a1)] := hl
  generalize hAe : rg1 h0 s.heap.size = A at hA hS hD ⊢
  refine lv_aload_n hx hb dX6_setSeed_0 rfl (lv_at hl 0 rfl) ?_
  refine va_get (D := D) (ci := 12) (v := .int 1) (C := RX6) (T := TX6) (N := 14) hx hb hts (by decide +kernel) hown hK hP 0 rfl rfl 6 (by decide) (hts (.fieldLink RX6 34 "FairwayChancery" "seed" "I") (by decide +kernel)) (fun _ h9 => h9) rfl dX6_setSeed_1 ?_
  refine lv_istore_n (lv' := [(2, .int 1), (0, .ref h0), (1, .int a1)]) hx hb dX6_setSeed_4 rfl hl (by decide) rfl (fun ls hl => ?_)
  refine lv_aload_n hx hb dX6_setSeed_5 rfl (lv_at hl 1 rfl) ?_
  refine lv_iload_n hx hb dX6_setSeed_6 rfl (lv_at hl 2 rfl) ?_
  refine va_put (D := D) (ci := 12) (v := .int a1) (ty := .int) (C := RX6) (T := TX6) (N := 14) hx hb hts (by decide +kernel) tyX6 tyX6_ok nmX6 hown hK hP hD hS 0 rfl rfl 6 (by decide) (hts (.fieldLink RX6 34 "FairwayChancery" "seed" "I") (by decide +kernel)) (fun _ h9 => h9) rfl (by decide +kernel) rfl rfl (Nat.le_of_ble_eq_true rfl) dX6_setSeed_7 (fun H locs hP hD hS => ?_)
  have hP : va_P D vwCl [(h0, .inr (12, [.ref (r 0), .ref (r 1), .ref (r 2), .ref (r 3), .int 0, .int 0, .int a1, .int 110, .int 0, .int 115, .int 0, .int 0, .int 0, .int 0]))] H := hP
  have hD : va_D A [(h0, .inr (12, [.ref (r 0), .ref (r 1), .ref (r 2), .ref (r 3), .int 0, .int 0, .int a1, .int 110, .int 0, .int 115, .int 0, .int 0, .int 0, .int 0]))] := hD
  refine lv_iload_n hx hb dX6_setSeed_10 rfl (lv_at hl 0 rfl) ?_
  exact W.iret (v := 1) hx hb hr (fun t ht hW => ⟨⟨1, (), rfl, rfl, trivial⟩, hS.F ht⟩) hS.2.2 dX6_setSeed_11
set_option maxHeartbeats 4000000 in
set_option maxRecDepth 100000 in
theorem c_X6_isSound (l : Launch) (D : va_G) (h0 : Nat) (r : Nat → Nat) (sz : Nat) : Met l yX6_isSound wsX6_isSound ({ frames := 5, cells := 0, slots := 0, locals := 50 }) (va_Pc [.ref h0] (PX6 D h0 r sz)) (va_Qi (fun (r9 : Int32) (_ : Unit) => r9 = 1) (fun _ _ => True) (rg0 sz)) 0 0 (rg0 sz) := by
  refine Met.ofW (cc := cX6_isSound) (maxL := 3) (ret := (some .boolean)) (by decide +kernel) rfl ?_
  intro p e s m args below meth c s₁ B hml hv
  obtain ⟨rfl, hsz, hP, hK, hT⟩ := hv
  have hx := B.exec
  have hb := B.bytes
  have hr := B.returns
  have hts := atoms_spec (ws := wsX6_isSound) B.pre
  have hown : s.vm.findClass RX6 = some m.cls := findClass_of_methodNamed B.named
  have hlocks := B.notSynchronized
  subst hsz
  have hA : ∀ q : Nat, s.heap.size ≤ q → (rg0 s.heap.size) q := fun _ h => h
  have hS : va_S (rg0 s.heap.size) s.heap s.heap [] := va_S.rf
  have hl := lv_entry ([.ref h0]) (n := 3) (Nat.le_of_ble_eq_true rfl)
  rw [lg_entry_eq]
  generalize (lg_sl ([.ref h0]) ++ List.replicate (3 - (lg_sl ([.ref h0])).length) Slot.unset).toArray = ls at hl ⊢
  have hl : lv_has ls 3 [(0, .ref h0)] := hl
  refine lv_iconst (v := 0) hx hb dX6_isSound_0 (by decide) ?_
  refine lv_istore_n (lv' := [(1, .int 0), (0, .ref h0)]) hx hb dX6_isSound_1 rfl hl (by decide) rfl (fun ls hl => ?_)
  refine lv_iconst (v := 0) hx hb dX6_isSound_2 (by decide) ?_
  refine lv_istore_n (lv' := [(2, .int 0), (1, .int 0), (0, .ref h0)]) hx hb dX6_isSound_3 rfl hl (by decide) rfl (fun ls hl => ?_)
  refine lv_iload_n hx hb dX6_isSound_4 rfl (lv_at hl 0 rfl) ?_
  refine lv_aload_n hx hb dX6_isSound_5 rfl (lv_at hl 2 rfl) ?_
  refine va_get (D := D) (ci := 12) (v := .int 0) (C := RX6) (T := TX6) (N := 14) hx hb hts (by decide +kernel) hown hK hP 0 rfl rfl 5 (by decide) (hts (.fieldLink RX6 122 "FairwayChancery" "playerCount" "I") (by decide +kernel)) (fun _ h9 => h9) rfl dX6_isSound_6 ?_
  refine lv_icmp_ge (tgt := 70) hx hb dX6_isSound_9 (by decide) (fun _ => ?_) (fun c => by first | exact absurd (by decide) c | exact absurd c (by decide))
  refine lv_iload_n hx hb dX6_isSound_70 rfl (lv_at hl 1 rfl) ?_
  refine lv_aload_n hx hb dX6_isSound_71 rfl (lv_at hl 2 rfl) ?_
  refine va_get (D := D) (ci := 12) (v := .int 0) (C := RX6) (T := TX6) (N := 14) hx hb hts (by decide +kernel) hown hK hP 0 rfl rfl 4 (by decide) (hts (.fieldLink RX6 62 "FairwayChancery" "holeCount" "I") (by decide +kernel)) (fun _ h9 => h9) rfl dX6_isSound_72 ?_
  refine lv_icmp_gt (tgt := 82) hx hb dX6_isSound_75 (by decide) (fun c => by first | exact absurd c (by decide) | exact absurd (by decide) c) (fun _ => ?_)
  refine lv_iconst (v := 1) hx hb dX6_isSound_78 (by decide) ?_
  refine lv_goto (tgt := 83) hx hb dX6_isSound_79 (by decide) ?_
  exact W.zret (v := 1) (ty := .boolean) hx hb hr (by decide) (fun t ht hW => ⟨⟨1, (), rfl, rfl, trivial⟩, hS.F ht⟩) hS.2.2 dX6_isSound_83
set_option maxHeartbeats 4000000 in
set_option maxRecDepth 100000 in
theorem c_X6_checksum (l : Launch) (D : va_G) (h0 : Nat) (r : Nat → Nat) (sz : Nat) : Met l yX6_checksum wsX6_checksum ({ frames := 5, cells := 0, slots := 0, locals := 50 }) (va_Pc [.ref h0] (PX6 D h0 r sz)) (va_Ql (fun (r9 : Int64) (_ : Unit) => r9 = 7) (fun _ _ => True) (rg0 sz)) 0 0 (rg0 sz) := by
  refine Met.ofW (cc := cX6_checksum) (maxL := 6) (ret := (some .long)) (by decide +kernel) rfl ?_
  intro p e s m args below meth c s₁ B hml hv
  obtain ⟨rfl, hsz, hP, hK, hT⟩ := hv
  have hx := B.exec
  have hb := B.bytes
  have hr := B.returns
  have hts := atoms_spec (ws := wsX6_checksum) B.pre
  have hown : s.vm.findClass RX6 = some m.cls := findClass_of_methodNamed B.named
  have hlocks := B.notSynchronized
  subst hsz
  have hA : ∀ q : Nat, s.heap.size ≤ q → (rg0 s.heap.size) q := fun _ h => h
  have hS : va_S (rg0 s.heap.size) s.heap s.heap [] := va_S.rf
  have hl := lv_entry ([.ref h0]) (n := 6) (Nat.le_of_ble_eq_true rfl)
  rw [lg_entry_eq]
  generalize (lg_sl ([.ref h0]) ++ List.replicate (6 - (lg_sl ([.ref h0])).length) Slot.unset).toArray = ls at hl ⊢
  have hl : lv_has ls 6 [(0, .ref h0)] := hl
  refine lv_ldc2 hx hb hown (hts (.constantLong RX6 550 (7)) (by decide +kernel)) dX6_checksum_0 ?_
  refine lv_lstore_n (lv' := [(1, .long 7), (0, .ref h0)]) hx hb dX6_checksum_3 rfl hl (by decide) rfl (fun ls hl => ?_)
  refine lv_iconst (v := 0) hx hb dX6_checksum_4 (by decide) ?_
  refine lv_istore_n (lv' := [(3, .int 0), (1, .long 7), (0, .ref h0)]) hx hb dX6_checksum_5 rfl hl (by decide) rfl (fun ls hl => ?_)
  refine lv_iload_n hx hb dX6_checksum_6 rfl (lv_at hl 0 rfl) ?_
  refine lv_aload_n hx hb dX6_checksum_7 rfl (lv_at hl 2 rfl) ?_
  refine va_get (D := D) (ci := 12) (v := .int 0) (C := RX6) (T := TX6) (N := 14) hx hb hts (by decide +kernel) hown hK hP 0 rfl rfl 4 (by decide) (hts (.fieldLink RX6 62 "FairwayChancery" "holeCount" "I") (by decide +kernel)) (fun _ h9 => h9) rfl dX6_checksum_8 ?_
  refine lv_icmp_ge (tgt := 60) hx hb dX6_checksum_11 (by decide) (fun _ => ?_) (fun c => by first | exact absurd (by decide) c | exact absurd c (by decide))
  refine lv_lload_n hx hb dX6_checksum_60 rfl (lv_at hl 1 rfl) ?_
  exact W.lret (v := 7) hx hb hr (fun t ht hW => ⟨⟨7, (), rfl, rfl, trivial⟩, hS.F ht⟩) hS.2.2 dX6_checksum_61
set_option maxHeartbeats 4000000 in
set_option maxRecDepth 100000 in
theorem c_X6_edition (l : Launch) (hlT : l.stackTraces = false) (D : va_G) (h0 : Nat) (r : Nat → Nat) (sz : Nat) (a1 : Int32) : vx_Met l yX6_edition wsX6_edition ({ frames := 30, cells := 1, slots := 6, locals := 300 }) (va_Pc [.ref h0, .int a1] (PX6 D h0 r sz)) (va_Qi (fun (r9 : Int32) (_ : Unit) => r9 = 110 ∧ (a1 = 110 ∨ a1 = 111)) (fun _ _ => True) (rg1 h0 sz)) (tX (fun E => E = "java/lang/IllegalArgumentException" ∧ ¬ (a1 = 110 ∨ a1 = 111)) (rg1 h0 sz)) 1 6 (rg1 h0 sz) := by
  refine vx_ofW (cc := cX6_edition) (maxL := 3) (ret := (some .char)) (by decide +kernel) rfl ?_
  intro p e s m args below meth c s₁ B hml hne hv
  obtain ⟨rfl, hsz, hP, hK, hT⟩ := hv
  have hx := B.exec
  have hb := B.bytes
  have hr := B.returns
  have hts := atoms_spec (ws := wsX6_edition) B.pre
  have hown : s.vm.findClass RX6 = some m.cls := findClass_of_methodNamed B.named
  have hlocks := B.notSynchronized
  subst hsz
  have hA : ∀ q : Nat, s.heap.size ≤ q → (rg1 h0 s.heap.size) q := fun _ h => Or.inr h
  have hS : va_S (rg1 h0 s.heap.size) s.heap s.heap [] := va_S.rf
  have hT : tf (rg0 s.heap.size) s s.heap := hT
  have hD : va_D (rg1 h0 s.heap.size) [(h0, .inr (12, [.ref (r 0), .ref (r 1), .ref (r 2), .ref (r 3), .int 0, .int 0, .int 1, .int 110, .int 0, .int 115, .int 0, .int 0, .int 0, .int 0]))] := rg1_D
  have hl := lv_entry ([.ref h0, .int a1]) (n := 3) (Nat.le_of_ble_eq_true rfl)
  rw [lg_entry_eq]
  generalize (lg_sl ([.ref h0, .int a1]) ++ List.replicate (3 - (lg_sl ([.ref h0, .int a1])).length) Slot.unset).toArray = ls at hl ⊢
  have hl : lv_has ls 3 [(0, .ref h0), (1, .int a1)] := hl
  generalize hAe : rg1 h0 s.heap.size = A at hA hS hD ⊢
  refine lv_iload_n hx hb dX6_edition_0 rfl (lv_at hl 1 rfl) ?_
  refine lv_bipush (v := 110) hx hb dX6_edition_1 (by decide) ?_
  refine lv_icmp_eq (tgt := 22) hx hb dX6_edition_3 (by decide) (fun c_1 => ?_) (fun c_1 => ?_)
  · skip
    refine lv_aload_n hx hb dX6_edition_22 rfl (lv_at hl 0 rfl) ?_
    refine va_get (D := D) (ci := 12) (v := .int 110) (C := RX6) (T := TX6) (N := 14) hx hb hts (by decide +kernel) hown hK hP 0 rfl rfl 7 (by decide) (hts (.fieldLink RX6 38 "FairwayChancery" "law" "C") (by decide +kernel)) (fun _ h9 => h9) rfl dX6_edition_23 ?_
    refine lv_istore_n (lv' := [(2, .int 110), (0, .ref h0), (1, .int a1)]) hx hb dX6_edition_26 rfl hl (by decide) rfl (fun ls hl => ?_)
    refine lv_aload_n hx hb dX6_edition_27 rfl (lv_at hl 1 rfl) ?_
    refine lv_iload_n hx hb dX6_edition_28 rfl (lv_at hl 2 rfl) ?_
    refine va_put (D := D) (ci := 12) (v := .int a1) (ty := .char) (C := RX6) (T := TX6) (N := 14) hx hb hts (by decide +kernel) tyX6 tyX6_ok nmX6 hown hK hP hD hS 0 rfl rfl 7 (by decide) (hts (.fieldLink RX6 38 "FairwayChancery" "law" "C") (by decide +kernel)) (fun _ h9 => h9) rfl (by decide +kernel) (by rw [c_1]; decide) (by rw [c_1]; decide) (Nat.le_of_ble_eq_true rfl) dX6_edition_29 (fun H locs hP hD hS => ?_)
    have hP : va_P D vwCl [(h0, .inr (12, [.ref (r 0), .ref (r 1), .ref (r 2), .ref (r 3), .int 0, .int 0, .int 1, .int a1, .int 0, .int 115, .int 0, .int 0, .int 0, .int 0]))] H := hP
    have hD : va_D A [(h0, .inr (12, [.ref (r 0), .ref (r 1), .ref (r 2), .ref (r 3), .int 0, .int 0, .int 1, .int a1, .int 0, .int 115, .int 0, .int 0, .int 0, .int 0]))] := hD
    refine lv_iload_n hx hb dX6_edition_32 rfl (lv_at hl 0 rfl) ?_
    refine vx_ret ?_
    refine W.widen (k := 1) (n := 6) (by decide) (by decide) ?_
    exact W.zret (v := 110) (ty := .char) hx hb hr (by decide) (fun t ht hW => ⟨⟨110, (), rfl, ⟨rfl, by simp [c_1]⟩, trivial⟩, hS.F ht⟩) hS.2.2 dX6_edition_33
  · skip
    refine lv_iload_n hx hb dX6_edition_6 rfl (lv_at hl 1 rfl) ?_
    refine lv_bipush (v := 111) hx hb dX6_edition_7 (by decide) ?_
    refine lv_icmp_eq (tgt := 22) hx hb dX6_edition_9 (by decide) (fun c_2 => ?_) (fun c_2 => ?_)
    · skip
      refine lv_aload_n hx hb dX6_edition_22 rfl (lv_at hl 0 rfl) ?_
      refine va_get (D := D) (ci := 12) (v := .int 110) (C := RX6) (T := TX6) (N := 14) hx hb hts (by decide +kernel) hown hK hP 0 rfl rfl 7 (by decide) (hts (.fieldLink RX6 38 "FairwayChancery" "law" "C") (by decide +kernel)) (fun _ h9 => h9) rfl dX6_edition_23 ?_
      refine lv_istore_n (lv' := [(2, .int 110), (0, .ref h0), (1, .int a1)]) hx hb dX6_edition_26 rfl hl (by decide) rfl (fun ls hl => ?_)
      refine lv_aload_n hx hb dX6_edition_27 rfl (lv_at hl 1 rfl) ?_
      refine lv_iload_n hx hb dX6_edition_28 rfl (lv_at hl 2 rfl) ?_
      refine va_put (D := D) (ci := 12) (v := .int a1) (ty := .char) (C := RX6) (T := TX6) (N := 14) hx hb hts (by decide +kernel) tyX6 tyX6_ok nmX6 hown hK hP hD hS 0 rfl rfl 7 (by decide) (hts (.fieldLink RX6 38 "FairwayChancery" "law" "C") (by decide +kernel)) (fun _ h9 => h9) rfl (by decide +kernel) (by rw [c_2]; decide) (by rw [c_2]; decide) (Nat.le_of_ble_eq_true rfl) dX6_edition_29 (fun H locs hP hD hS => ?_)
      have hP : va_P D vwCl [(h0, .inr (12, [.ref (r 0), .ref (r 1), .ref (r 2), .ref (r 3), .int 0, .int 0, .int 1, .int a1, .int 0, .int 115, .int 0, .int 0, .int 0, .int 0]))] H := hP
      have hD : va_D A [(h0, .inr (12, [.ref (r 0), .ref (r 1), .ref (r 2), .ref (r 3), .int 0, .int 0, .int 1, .int a1, .int 0, .int 115, .int 0, .int 0, .int 0, .int 0]))] := hD
      refine lv_iload_n hx hb dX6_edition_32 rfl (lv_at hl 0 rfl) ?_
      refine vx_ret ?_
      refine W.widen (k := 1) (n := 6) (by decide) (by decide) ?_
      exact W.zret (v := 110) (ty := .char) hx hb hr (by decide) (fun t ht hW => ⟨⟨110, (), rfl, ⟨rfl, by simp [c_1, c_2]⟩, trivial⟩, hS.F ht⟩) hS.2.2 dX6_edition_33
    · skip
      exact tx_throw (cls := "java/lang/IllegalArgumentException") (text := "no such edition") (by first | exact ⟨rfl, by simp [c_1, c_2]⟩ | exact Or.inl ⟨rfl, by simp [c_1, c_2]⟩ | exact Or.inr ⟨rfl, by simp [c_1, c_2]⟩) hx hb hlT hown (by decide +kernel) (by decide +kernel) (hts (.classLink RX6 49 "java/lang/IllegalArgumentException") (by decide +kernel)) (hts (.initialized "java/lang/IllegalArgumentException") (by decide +kernel)) (fun w hw => hts w (List.mem_cons_of_mem _ (List.mem_append_right _ hw))) hT (va_S.rf : va_S (rg0 s.heap.size) s.heap s.heap []) (fun q h => hA q h) (by rw [hml]; exact hl.1) dX6_edition_12 dX6_edition_15 dX6_edition_16 dX6_edition_18 dX6_edition_21 hne (Nat.le_of_ble_eq_true rfl) (Nat.le_of_ble_eq_true rfl) (Nat.le_of_ble_eq_true rfl) (Nat.le_of_ble_eq_true rfl) hlocks (by decide) (by decide)
set_option maxHeartbeats 4000000 in
set_option maxRecDepth 100000 in
theorem c_X6_begin (l : Launch) (hlT : l.stackTraces = false) (D : va_G) (h0 : Nat) (r : Nat → Nat) (sz : Nat) (a1 : Int32) : vx_Met l yX6_begin wsX6_begin ({ frames := 30, cells := 1, slots := 6, locals := 300 }) (va_Pc [.ref h0, .int a1] (PX6 D h0 r sz)) (va_Qi (fun (r9 : Int32) (_ : Unit) => False) (fun _ _ => True) (rg0 sz)) (tX (fun E => (E = "java/lang/IllegalArgumentException" ∧ ¬ (a1 = 115 ∨ a1 = 109)) ∨ (E = "java/lang/UnsupportedOperationException" ∧ (a1 = 115 ∨ a1 = 109))) (rg0 sz)) 1 6 (rg0 sz) := by
  refine vx_ofW (cc := cX6_begin) (maxL := 3) (ret := (some .int)) (by decide +kernel) rfl ?_
  intro p e s m args below meth c s₁ B hml hne hv
  obtain ⟨rfl, hsz, hP, hK, hT⟩ := hv
  have hx := B.exec
  have hb := B.bytes
  have hr := B.returns
  have hts := atoms_spec (ws := wsX6_begin) B.pre
  have hown : s.vm.findClass RX6 = some m.cls := findClass_of_methodNamed B.named
  have hlocks := B.notSynchronized
  subst hsz
  have hA : ∀ q : Nat, s.heap.size ≤ q → (rg0 s.heap.size) q := fun _ h => h
  have hS : va_S (rg0 s.heap.size) s.heap s.heap [] := va_S.rf
  have hl := lv_entry ([.ref h0, .int a1]) (n := 3) (Nat.le_of_ble_eq_true rfl)
  rw [lg_entry_eq]
  generalize (lg_sl ([.ref h0, .int a1]) ++ List.replicate (3 - (lg_sl ([.ref h0, .int a1])).length) Slot.unset).toArray = ls at hl ⊢
  have hl : lv_has ls 3 [(0, .ref h0), (1, .int a1)] := hl
  refine lv_iload_n hx hb dX6_begin_0 rfl (lv_at hl 1 rfl) ?_
  refine lv_bipush (v := 115) hx hb dX6_begin_1 (by decide) ?_
  refine lv_icmp_eq (tgt := 22) hx hb dX6_begin_3 (by decide) (fun c_1 => ?_) (fun c_1 => ?_)
  · skip
    refine lv_aload_n hx hb dX6_begin_22 rfl (lv_at hl 0 rfl) ?_
    refine va_get (D := D) (ci := 12) (v := .int 0) (C := RX6) (T := TX6) (N := 14) hx hb hts (by decide +kernel) hown hK hP 0 rfl rfl 4 (by decide) (hts (.fieldLink RX6 62 "FairwayChancery" "holeCount" "I") (by decide +kernel)) (fun _ h9 => h9) rfl dX6_begin_23 ?_
    refine lv_if_eq (tgt := 57) hx hb dX6_begin_26 (by decide) (fun _ => ?_) (fun c => by first | exact absurd (by decide) c | exact absurd c (by decide))
    exact tx_throw (cls := "java/lang/UnsupportedOperationException") (text := "no round can be begun") (by first | exact ⟨rfl, by simp [c_1]⟩ | exact Or.inl ⟨rfl, by simp [c_1]⟩ | exact Or.inr ⟨rfl, by simp [c_1]⟩) hx hb hlT hown (by decide +kernel) (by decide +kernel) (hts (.classLink RX6 74 "java/lang/UnsupportedOperationException") (by decide +kernel)) (hts (.initialized "java/lang/UnsupportedOperationException") (by decide +kernel)) (fun w hw => hts w (List.mem_cons_of_mem _ (List.mem_append_left _ (List.mem_append_right _ hw)))) hT hS (fun q h => h) (by rw [hml]; exact hl.1) dX6_begin_57 dX6_begin_60 dX6_begin_61 dX6_begin_63 dX6_begin_66 hne (Nat.le_of_ble_eq_true rfl) (Nat.le_of_ble_eq_true rfl) (Nat.le_of_ble_eq_true rfl) (Nat.le_of_ble_eq_true rfl) hlocks (by decide) (by decide)
  · skip
    refine lv_iload_n hx hb dX6_begin_6 rfl (lv_at hl 1 rfl) ?_
    refine lv_bipush (v := 109) hx hb dX6_begin_7 (by decide) ?_
    refine lv_icmp_eq (tgt := 22) hx hb dX6_begin_9 (by decide) (fun c_3 => ?_) (fun c_3 => ?_)
    · skip
      refine lv_aload_n hx hb dX6_begin_22 rfl (lv_at hl 0 rfl) ?_
      refine va_get (D := D) (ci := 12) (v := .int 0) (C := RX6) (T := TX6) (N := 14) hx hb hts (by decide +kernel) hown hK hP 0 rfl rfl 4 (by decide) (hts (.fieldLink RX6 62 "FairwayChancery" "holeCount" "I") (by decide +kernel)) (fun _ h9 => h9) rfl dX6_begin_23 ?_
      refine lv_if_eq (tgt := 57) hx hb dX6_begin_26 (by decide) (fun _ => ?_) (fun c => by first | exact absurd (by decide) c | exact absurd c (by decide))
      exact tx_throw (cls := "java/lang/UnsupportedOperationException") (text := "no round can be begun") (by first | exact ⟨rfl, by simp [c_1, c_3]⟩ | exact Or.inl ⟨rfl, by simp [c_1, c_3]⟩ | exact Or.inr ⟨rfl, by simp [c_1, c_3]⟩) hx hb hlT hown (by decide +kernel) (by decide +kernel) (hts (.classLink RX6 74 "java/lang/UnsupportedOperationException") (by decide +kernel)) (hts (.initialized "java/lang/UnsupportedOperationException") (by decide +kernel)) (fun w hw => hts w (List.mem_cons_of_mem _ (List.mem_append_left _ (List.mem_append_right _ hw)))) hT hS (fun q h => h) (by rw [hml]; exact hl.1) dX6_begin_57 dX6_begin_60 dX6_begin_61 dX6_begin_63 dX6_begin_66 hne (Nat.le_of_ble_eq_true rfl) (Nat.le_of_ble_eq_true rfl) (Nat.le_of_ble_eq_true rfl) (Nat.le_of_ble_eq_true rfl) hlocks (by decide) (by decide)
    · skip
      exact tx_throw (cls := "java/lang/IllegalArgumentException") (text := "no such format") (by first | exact ⟨rfl, by simp [c_1, c_3]⟩ | exact Or.inl ⟨rfl, by simp [c_1, c_3]⟩ | exact Or.inr ⟨rfl, by simp [c_1, c_3]⟩) hx hb hlT hown (by decide +kernel) (by decide +kernel) (hts (.classLink RX6 49 "java/lang/IllegalArgumentException") (by decide +kernel)) (hts (.initialized "java/lang/IllegalArgumentException") (by decide +kernel)) (fun w hw => hts w (List.mem_cons_of_mem _ (List.mem_append_left _ (List.mem_append_left _ (List.mem_append_right _ hw))))) hT hS (fun q h => h) (by rw [hml]; exact hl.1) dX6_begin_12 dX6_begin_15 dX6_begin_16 dX6_begin_18 dX6_begin_21 hne (Nat.le_of_ble_eq_true rfl) (Nat.le_of_ble_eq_true rfl) (Nat.le_of_ble_eq_true rfl) (Nat.le_of_ble_eq_true rfl) hlocks (by decide) (by decide)
set_option maxHeartbeats 4000000 in
set_option maxRecDepth 100000 in
theorem c_X6_cut (l : Launch) (hlT : l.stackTraces = false) (D : va_G) (h0 : Nat) (r : Nat → Nat) (sz : Nat) (a1 : Int32) : vx_Met l yX6_cut wsX6_cut ({ frames := 30, cells := 1, slots := 6, locals := 300 }) (va_Pc [.ref h0, .int a1] (PX6 D h0 r sz)) (va_Qi (fun (r9 : Int32) (_ : Unit) => r9 = 0 ∧ ¬ bIn a1 1 6 = 0) (fun _ _ => True) (rg0 sz)) (tX (fun E => E = "java/lang/IllegalArgumentException" ∧ bIn a1 1 6 = 0) (rg0 sz)) 1 6 (rg0 sz) := by
  refine vx_ofW (cc := cX6_cut) (maxL := 4) (ret := (some .int)) (by decide +kernel) rfl ?_
  intro p e s m args below meth c s₁ B hml hne hv
  obtain ⟨rfl, hsz, hP, hK, hT⟩ := hv
  have hx := B.exec
  have hb := B.bytes
  have hr := B.returns
  have hts := atoms_spec (ws := wsX6_cut) B.pre
  have hown : s.vm.findClass RX6 = some m.cls := findClass_of_methodNamed B.named
  have hlocks := B.notSynchronized
  subst hsz
  have hA : ∀ q : Nat, s.heap.size ≤ q → (rg0 s.heap.size) q := fun _ h => h
  have hS : va_S (rg0 s.heap.size) s.heap s.heap [] := va_S.rf
  have hl := lv_entry ([.ref h0, .int a1]) (n := 4) (Nat.le_of_ble_eq_true rfl)
  rw [lg_entry_eq]
  generalize (lg_sl ([.ref h0, .int a1]) ++ List.replicate (4 - (lg_sl ([.ref h0, .int a1])).length) Slot.unset).toArray = ls at hl ⊢
  have hl : lv_has ls 4 [(0, .ref h0), (1, .int a1)] := hl
  refine lv_iload_n hx hb dX6_cut_0 rfl (lv_at hl 1 rfl) ?_
  refine lv_iconst (v := 1) hx hb dX6_cut_1 (by decide) ?_
  refine lv_icmp_lt (tgt := 11) hx hb dX6_cut_2 (by decide) (fun c_1 => ?_) (fun c_1 => ?_)
  · skip
    exact tx_throwW (cls := "java/lang/IllegalArgumentException") (text := "the greatest rank is out of range") ⟨rfl, by have h := c_1; simp only [Int32.lt_iff_toInt_lt, Int32.le_iff_toInt_le, bIn_0, bCell_0, tI_0, tI_1, tI_3, tI_5, tI_6, tI_9, tI_19, tI_20, tI_29, tI_30, tI_36, tI_m1] at h ⊢; omega⟩ hx hb hlT hown (by decide +kernel) (by decide +kernel) (hts (.classLink RX6 49 "java/lang/IllegalArgumentException") (by decide +kernel)) (hts (.initialized "java/lang/IllegalArgumentException") (by decide +kernel)) (fun w hw => hts w (List.mem_cons_of_mem _ (List.mem_append_left _ (List.mem_append_right _ hw)))) hT hS (fun q h => h) (by rw [hml]; exact hl.1) dX6_cut_11 dX6_cut_14 dX6_cut_15 dX6_cut_18 dX6_cut_21 hne (Nat.le_of_ble_eq_true rfl) (Nat.le_of_ble_eq_true rfl) (Nat.le_of_ble_eq_true rfl) (Nat.le_of_ble_eq_true rfl) hlocks (by decide) (by decide)
  · skip
    refine lv_iload_n hx hb dX6_cut_5 rfl (lv_at hl 1 rfl) ?_
    refine lv_bipush (v := 6) hx hb dX6_cut_6 (by decide) ?_
    refine lv_icmp_le (tgt := 22) hx hb dX6_cut_8 (by decide) (fun c_2 => ?_) (fun c_2 => ?_)
    · skip
      refine lv_iconst (v := 0) hx hb dX6_cut_22 (by decide) ?_
      refine lv_istore_n (lv' := [(2, .int 0), (0, .ref h0), (1, .int a1)]) hx hb dX6_cut_23 rfl hl (by decide) rfl (fun ls hl => ?_)
      refine lv_iconst (v := 0) hx hb dX6_cut_24 (by decide) ?_
      refine lv_istore_n (lv' := [(3, .int 0), (2, .int 0), (0, .ref h0), (1, .int a1)]) hx hb dX6_cut_25 rfl hl (by decide) rfl (fun ls hl => ?_)
      refine lv_iload_n hx hb dX6_cut_26 rfl (lv_at hl 0 rfl) ?_
      refine lv_aload_n hx hb dX6_cut_27 rfl (lv_at hl 2 rfl) ?_
      refine va_get (D := D) (ci := 12) (v := .int 0) (C := RX6) (T := TX6) (N := 14) hx hb hts (by decide +kernel) hown hK hP 0 rfl rfl 5 (by decide) (hts (.fieldLink RX6 122 "FairwayChancery" "playerCount" "I") (by decide +kernel)) (fun _ h9 => h9) rfl dX6_cut_28 ?_
      refine lv_icmp_ge (tgt := 67) hx hb dX6_cut_31 (by decide) (fun _ => ?_) (fun c => by first | exact absurd (by decide) c | exact absurd c (by decide))
      refine lv_iload_n hx hb dX6_cut_67 rfl (lv_at hl 1 rfl) ?_
      refine vx_ret ?_
      refine W.widen (k := 1) (n := 6) (by decide) (by decide) ?_
      exact W.iret (v := 0) hx hb hr (fun t ht hW => ⟨⟨0, (), rfl, ⟨rfl, by have h := And.intro c_1 (c_2); simp only [Int32.lt_iff_toInt_lt, Int32.le_iff_toInt_le, bIn_0, bCell_0, tI_0, tI_1, tI_3, tI_5, tI_6, tI_9, tI_19, tI_20, tI_29, tI_30, tI_36, tI_m1] at h ⊢; omega⟩, trivial⟩, hS.F ht⟩) hS.2.2 dX6_cut_68
    · skip
      exact tx_throwW (cls := "java/lang/IllegalArgumentException") (text := "the greatest rank is out of range") ⟨rfl, by have h := And.intro c_1 (c_2); simp only [Int32.lt_iff_toInt_lt, Int32.le_iff_toInt_le, bIn_0, bCell_0, tI_0, tI_1, tI_3, tI_5, tI_6, tI_9, tI_19, tI_20, tI_29, tI_30, tI_36, tI_m1] at h ⊢; omega⟩ hx hb hlT hown (by decide +kernel) (by decide +kernel) (hts (.classLink RX6 49 "java/lang/IllegalArgumentException") (by decide +kernel)) (hts (.initialized "java/lang/IllegalArgumentException") (by decide +kernel)) (fun w hw => hts w (List.mem_cons_of_mem _ (List.mem_append_left _ (List.mem_append_right _ hw)))) hT hS (fun q h => h) (by rw [hml]; exact hl.1) dX6_cut_11 dX6_cut_14 dX6_cut_15 dX6_cut_18 dX6_cut_21 hne (Nat.le_of_ble_eq_true rfl) (Nat.le_of_ble_eq_true rfl) (Nat.le_of_ble_eq_true rfl) (Nat.le_of_ble_eq_true rfl) hlocks (by decide) (by decide)
set_option maxHeartbeats 4000000 in
set_option maxRecDepth 100000 in
theorem c_X6_conditions (l : Launch) (hlT : l.stackTraces = false) (D : va_G) (h0 : Nat) (r : Nat → Nat) (sz : Nat) (a1 : Int32) : vx_Met l yX6_conditions wsX6_conditions ({ frames := 30, cells := 1, slots := 6, locals := 300 }) (va_Pc [.ref h0, .int a1] (PX6 D h0 r sz)) (va_Qi (fun (r9 : Int32) (_ : Unit) => r9 = 0 ∧ ¬ bIn a1 (-1) 3 = 0) (fun _ _ => True) (rg1 h0 sz)) (tX (fun E => E = "java/lang/IllegalArgumentException" ∧ bIn a1 (-1) 3 = 0) (rg1 h0 sz)) 1 6 (rg1 h0 sz) := by
  refine vx_ofW (cc := cX6_conditions) (maxL := 3) (ret := (some .int)) (by decide +kernel) rfl ?_
  intro p e s m args below meth c s₁ B hml hne hv
  obtain ⟨rfl, hsz, hP, hK, hT⟩ := hv
  have hx := B.exec
  have hb := B.bytes
  have hr := B.returns
  have hts := atoms_spec (ws := wsX6_conditions) B.pre
  have hown : s.vm.findClass RX6 = some m.cls := findClass_of_methodNamed B.named
  have hlocks := B.notSynchronized
  subst hsz
  have hA : ∀ q : Nat, s.heap.size ≤ q → (rg1 h0 s.heap.size) q := fun _ h => Or.inr h
  have hS : va_S (rg1 h0 s.heap.size) s.heap s.heap [] := va_S.rf
  have hT : tf (rg0 s.heap.size) s s.heap := hT
  have hD : va_D (rg1 h0 s.heap.size) [(h0, .inr (12, [.ref (r 0), .ref (r 1), .ref (r 2), .ref (r 3), .int 0, .int 0, .int 1, .int 110, .int 0, .int 115, .int 0, .int 0, .int 0, .int 0]))] := rg1_D
  have hl := lv_entry ([.ref h0, .int a1]) (n := 3) (Nat.le_of_ble_eq_true rfl)
  rw [lg_entry_eq]
  generalize (lg_sl ([.ref h0, .int a1]) ++ List.replicate (3 - (lg_sl ([.ref h0, .int a1])).length) Slot.unset).toArray = ls at hl ⊢
  have hl : lv_has ls 3 [(0, .ref h0), (1, .int a1)] := hl
  generalize hAe : rg1 h0 s.heap.size = A at hA hS hD ⊢
  refine lv_iload_n hx hb dX6_conditions_0 rfl (lv_at hl 1 rfl) ?_
  refine lv_iconst (v := (-1)) hx hb dX6_conditions_1 (by decide) ?_
  refine lv_icmp_lt (tgt := 10) hx hb dX6_conditions_2 (by decide) (fun c_1 => ?_) (fun c_1 => ?_)
  · skip
    exact tx_throwW (cls := "java/lang/IllegalArgumentException") (text := "the conditions are out of range") ⟨rfl, by have h := c_1; simp only [Int32.lt_iff_toInt_lt, Int32.le_iff_toInt_le, bIn_0, bCell_0, tI_0, tI_1, tI_3, tI_5, tI_6, tI_9, tI_19, tI_20, tI_29, tI_30, tI_36, tI_m1] at h ⊢; omega⟩ hx hb hlT hown (by decide +kernel) (by decide +kernel) (hts (.classLink RX6 49 "java/lang/IllegalArgumentException") (by decide +kernel)) (hts (.initialized "java/lang/IllegalArgumentException") (by decide +kernel)) (fun w hw => hts w (List.mem_cons_of_mem _ (List.mem_append_right _ hw))) hT (va_S.rf : va_S (rg0 s.heap.size) s.heap s.heap []) (fun q h => hA q h) (by rw [hml]; exact hl.1) dX6_conditions_10 dX6_conditions_13 dX6_conditions_14 dX6_conditions_17 dX6_conditions_20 hne (Nat.le_of_ble_eq_true rfl) (Nat.le_of_ble_eq_true rfl) (Nat.le_of_ble_eq_true rfl) (Nat.le_of_ble_eq_true rfl) hlocks (by decide) (by decide)
  · skip
    refine lv_iload_n hx hb dX6_conditions_5 rfl (lv_at hl 1 rfl) ?_
    refine lv_iconst (v := 3) hx hb dX6_conditions_6 (by decide) ?_
    refine lv_icmp_le (tgt := 21) hx hb dX6_conditions_7 (by decide) (fun c_2 => ?_) (fun c_2 => ?_)
    · skip
      refine lv_aload_n hx hb dX6_conditions_21 rfl (lv_at hl 0 rfl) ?_
      refine va_get (D := D) (ci := 12) (v := .int 0) (C := RX6) (T := TX6) (N := 14) hx hb hts (by decide +kernel) hown hK hP 0 rfl rfl 8 (by decide) (hts (.fieldLink RX6 513 "FairwayChancery" "weather" "I") (by decide +kernel)) (fun _ h9 => h9) rfl dX6_conditions_22 ?_
      refine lv_istore_n (lv' := [(2, .int 0), (0, .ref h0), (1, .int a1)]) hx hb dX6_conditions_25 rfl hl (by decide) rfl (fun ls hl => ?_)
      refine lv_aload_n hx hb dX6_conditions_26 rfl (lv_at hl 1 rfl) ?_
      refine lv_iload_n hx hb dX6_conditions_27 rfl (lv_at hl 2 rfl) ?_
      refine va_put (D := D) (ci := 12) (v := .int a1) (ty := .int) (C := RX6) (T := TX6) (N := 14) hx hb hts (by decide +kernel) tyX6 tyX6_ok nmX6 hown hK hP hD hS 0 rfl rfl 8 (by decide) (hts (.fieldLink RX6 513 "FairwayChancery" "weather" "I") (by decide +kernel)) (fun _ h9 => h9) rfl (by decide +kernel) rfl rfl (Nat.le_of_ble_eq_true rfl) dX6_conditions_28 (fun H locs hP hD hS => ?_)
      have hP : va_P D vwCl [(h0, .inr (12, [.ref (r 0), .ref (r 1), .ref (r 2), .ref (r 3), .int 0, .int 0, .int 1, .int 110, .int a1, .int 115, .int 0, .int 0, .int 0, .int 0]))] H := hP
      have hD : va_D A [(h0, .inr (12, [.ref (r 0), .ref (r 1), .ref (r 2), .ref (r 3), .int 0, .int 0, .int 1, .int 110, .int a1, .int 115, .int 0, .int 0, .int 0, .int 0]))] := hD
      refine lv_iload_n hx hb dX6_conditions_31 rfl (lv_at hl 0 rfl) ?_
      refine vx_ret ?_
      refine W.widen (k := 1) (n := 6) (by decide) (by decide) ?_
      exact W.iret (v := 0) hx hb hr (fun t ht hW => ⟨⟨0, (), rfl, ⟨rfl, by have h := And.intro c_1 (c_2); simp only [Int32.lt_iff_toInt_lt, Int32.le_iff_toInt_le, bIn_0, bCell_0, tI_0, tI_1, tI_3, tI_5, tI_6, tI_9, tI_19, tI_20, tI_29, tI_30, tI_36, tI_m1] at h ⊢; omega⟩, trivial⟩, hS.F ht⟩) hS.2.2 dX6_conditions_32
    · skip
      exact tx_throwW (cls := "java/lang/IllegalArgumentException") (text := "the conditions are out of range") ⟨rfl, by have h := And.intro c_1 (c_2); simp only [Int32.lt_iff_toInt_lt, Int32.le_iff_toInt_le, bIn_0, bCell_0, tI_0, tI_1, tI_3, tI_5, tI_6, tI_9, tI_19, tI_20, tI_29, tI_30, tI_36, tI_m1] at h ⊢; omega⟩ hx hb hlT hown (by decide +kernel) (by decide +kernel) (hts (.classLink RX6 49 "java/lang/IllegalArgumentException") (by decide +kernel)) (hts (.initialized "java/lang/IllegalArgumentException") (by decide +kernel)) (fun w hw => hts w (List.mem_cons_of_mem _ (List.mem_append_right _ hw))) hT (va_S.rf : va_S (rg0 s.heap.size) s.heap s.heap []) (fun q h => hA q h) (by rw [hml]; exact hl.1) dX6_conditions_10 dX6_conditions_13 dX6_conditions_14 dX6_conditions_17 dX6_conditions_20 hne (Nat.le_of_ble_eq_true rfl) (Nat.le_of_ble_eq_true rfl) (Nat.le_of_ble_eq_true rfl) (Nat.le_of_ble_eq_true rfl) hlocks (by decide) (by decide)
