set_option maxRecDepth 20000 in
theorem ggX7_player_X7_isThrown : GoodIn wsX7_player wsX7_isThrown := goodIn_r _ [7, 8, 9, 10, 11, 12, 13, 14, 15, 16, 17, 18, 19, 20, 21, 22, 23, 24, 25, 26, 27, 28, 29, 30, 31, 32, 33, 34, 35, 36, 37, 38, 39] (by decide +kernel) (by decide +kernel)
set_option maxRecDepth 20000 in
theorem gX7_player_X7_isThrown : GoodIn wsX7_player (wsV RX7 110 RX7 yX7_isThrown wsX7_isThrown) := goodIn_app (goodIn_of _ (by decide +kernel)) ggX7_player_X7_isThrown
theorem dX7_player_0 : decode cX7_player 0 = .ok (.aload_n 0, 1) := by decide +kernel
theorem dX7_player_1 : decode cX7_player 1 = .ok (.aload_n 0, 1) := by decide +kernel
theorem dX7_player_2 : decode cX7_player 2 = .ok (.getfield 89, 3) := by decide +kernel
theorem dX7_player_5 : decode cX7_player 5 = .ok (.bipush 6, 2) := by decide +kernel
theorem dX7_player_7 : decode cX7_player 7 = .ok (.if_icmp .eq 10, 3) := by decide +kernel
theorem dX7_player_10 : decode cX7_player 10 = .ok (.aload_n 0, 1) := by decide +kernel
theorem dX7_player_11 : decode cX7_player 11 = .ok (.getfield 114, 3) := by decide +kernel
theorem dX7_player_14 : decode cX7_player 14 = .ok (.ifCond .eq 7, 3) := by decide +kernel
theorem dX7_player_21 : decode cX7_player 21 = .ok (.iconst 0, 1) := by decide +kernel
theorem dX7_player_22 : decode cX7_player 22 = .ok (.iconst 1, 1) := by decide +kernel
theorem dX7_player_23 : decode cX7_player 23 = .ok (.invokevirtual 110, 3) := by decide +kernel
theorem dX7_player_26 : decode cX7_player 26 = .ok (.ifCond .eq 5, 3) := by decide +kernel
theorem dX7_player_31 : decode cX7_player 31 = .ok (.aload_n 0, 1) := by decide +kernel
theorem dX7_player_32 : decode cX7_player 32 = .ok (.dup, 1) := by decide +kernel
theorem dX7_player_33 : decode cX7_player 33 = .ok (.getfield 89, 3) := by decide +kernel
theorem dX7_player_36 : decode cX7_player 36 = .ok (.iconst 1, 1) := by decide +kernel
theorem dX7_player_37 : decode cX7_player 37 = .ok (.iadd, 1) := by decide +kernel
theorem dX7_player_38 : decode cX7_player 38 = .ok (.putfield 89, 3) := by decide +kernel
theorem dX7_player_41 : decode cX7_player 41 = .ok (.aload_n 0, 1) := by decide +kernel
theorem dX7_player_42 : decode cX7_player 42 = .ok (.getfield 89, 3) := by decide +kernel
theorem dX7_player_45 : decode cX7_player 45 = .ok (.iconst 1, 1) := by decide +kernel
theorem dX7_player_46 : decode cX7_player 46 = .ok (.isub, 1) := by decide +kernel
theorem dX7_player_47 : decode cX7_player 47 = .ok (.ireturn, 1) := by decide +kernel
theorem dX7_setSeed_0 : decode cX7_setSeed 0 = .ok (.aload_n 0, 1) := by decide +kernel
theorem dX7_setSeed_1 : decode cX7_setSeed 1 = .ok (.iconst 0, 1) := by decide +kernel
theorem dX7_setSeed_2 : decode cX7_setSeed 2 = .ok (.putfield 79, 3) := by decide +kernel
theorem dX7_setSeed_5 : decode cX7_setSeed 5 = .ok (.aload_n 0, 1) := by decide +kernel
theorem dX7_setSeed_6 : decode cX7_setSeed 6 = .ok (.getfield 67, 3) := by decide +kernel
theorem dX7_setSeed_9 : decode cX7_setSeed 9 = .ok (.istore_n 2, 1) := by decide +kernel
theorem dX7_setSeed_10 : decode cX7_setSeed 10 = .ok (.aload_n 0, 1) := by decide +kernel
theorem dX7_setSeed_11 : decode cX7_setSeed 11 = .ok (.iload_n 1, 1) := by decide +kernel
theorem dX7_setSeed_12 : decode cX7_setSeed 12 = .ok (.putfield 67, 3) := by decide +kernel
theorem dX7_setSeed_15 : decode cX7_setSeed 15 = .ok (.iload_n 2, 1) := by decide +kernel
theorem dX7_setSeed_16 : decode cX7_setSeed 16 = .ok (.ireturn, 1) := by decide +kernel
set_option maxRecDepth 20000 in
theorem ggX7_edition_X7_isThrown : GoodIn wsX7_edition wsX7_isThrown := goodIn_r _ [6, 7, 8, 9, 10, 11, 12, 13, 14, 15, 16, 17, 18, 19, 20, 21, 22, 23, 24, 25, 26, 27, 28, 29, 30, 31, 32, 33, 34, 35, 36, 37, 38] (by decide +kernel) (by decide +kernel)
set_option maxRecDepth 20000 in
theorem gX7_edition_X7_isThrown : GoodIn wsX7_edition (wsV RX7 110 RX7 yX7_isThrown wsX7_isThrown) := goodIn_app (goodIn_of _ (by decide +kernel)) ggX7_edition_X7_isThrown
theorem dX7_edition_0 : decode cX7_edition 0 = .ok (.aload_n 0, 1) := by decide +kernel
theorem dX7_edition_1 : decode cX7_edition 1 = .ok (.iload_n 1, 1) := by decide +kernel
theorem dX7_edition_2 : decode cX7_edition 2 = .ok (.bipush 110, 2) := by decide +kernel
theorem dX7_edition_4 : decode cX7_edition 4 = .ok (.if_icmp .eq 13, 3) := by decide +kernel
theorem dX7_edition_7 : decode cX7_edition 7 = .ok (.iload_n 1, 1) := by decide +kernel
theorem dX7_edition_8 : decode cX7_edition 8 = .ok (.bipush 111, 2) := by decide +kernel
theorem dX7_edition_10 : decode cX7_edition 10 = .ok (.if_icmp .eq 7, 3) := by decide +kernel
theorem dX7_edition_13 : decode cX7_edition 13 = .ok (.iconst 1, 1) := by decide +kernel
theorem dX7_edition_14 : decode cX7_edition 14 = .ok (.goto 4, 3) := by decide +kernel
theorem dX7_edition_17 : decode cX7_edition 17 = .ok (.iconst 0, 1) := by decide +kernel
theorem dX7_edition_18 : decode cX7_edition 18 = .ok (.iconst 1, 1) := by decide +kernel
theorem dX7_edition_19 : decode cX7_edition 19 = .ok (.invokevirtual 110, 3) := by decide +kernel
theorem dX7_edition_22 : decode cX7_edition 22 = .ok (.ifCond .eq 6, 3) := by decide +kernel
theorem dX7_edition_25 : decode cX7_edition 25 = .ok (.bipush 32, 2) := by decide +kernel
theorem dX7_edition_27 : decode cX7_edition 27 = .ok (.ireturn, 1) := by decide +kernel
theorem dX7_edition_28 : decode cX7_edition 28 = .ok (.aload_n 0, 1) := by decide +kernel
theorem dX7_edition_29 : decode cX7_edition 29 = .ok (.getfield 71, 3) := by decide +kernel
theorem dX7_edition_32 : decode cX7_edition 32 = .ok (.istore_n 2, 1) := by decide +kernel
theorem dX7_edition_33 : decode cX7_edition 33 = .ok (.aload_n 0, 1) := by decide +kernel
theorem dX7_edition_34 : decode cX7_edition 34 = .ok (.iload_n 1, 1) := by decide +kernel
theorem dX7_edition_35 : decode cX7_edition 35 = .ok (.putfield 71, 3) := by decide +kernel
theorem dX7_edition_38 : decode cX7_edition 38 = .ok (.iload_n 2, 1) := by decide +kernel
theorem dX7_edition_39 : decode cX7_edition 39 = .ok (.ireturn, 1) := by decide +kernel
set_option maxRecDepth 20000 in
theorem ggX7_begin_X7_isThrown : GoodIn wsX7_begin wsX7_isThrown := goodIn_r _ [22, 23, 32, 33, 34, 35, 36, 37, 38, 39, 40, 41, 42, 43, 44, 45, 46, 47, 48, 49, 50, 51, 52, 53, 54, 55, 56, 57, 58, 59, 60, 61, 62] (by decide +kernel) (by decide +kernel)
set_option maxRecDepth 20000 in
theorem gX7_begin_X7_isThrown : GoodIn wsX7_begin (wsV RX7 110 RX7 yX7_isThrown wsX7_isThrown) := goodIn_app (goodIn_of _ (by decide +kernel)) ggX7_begin_X7_isThrown
theorem dX7_begin_0 : decode cX7_begin 0 = .ok (.aload_n 0, 1) := by decide +kernel
theorem dX7_begin_1 : decode cX7_begin 1 = .ok (.iload_n 1, 1) := by decide +kernel
theorem dX7_begin_2 : decode cX7_begin 2 = .ok (.bipush 115, 2) := by decide +kernel
theorem dX7_begin_4 : decode cX7_begin 4 = .ok (.if_icmp .eq 13, 3) := by decide +kernel
theorem dX7_begin_7 : decode cX7_begin 7 = .ok (.iload_n 1, 1) := by decide +kernel
theorem dX7_begin_8 : decode cX7_begin 8 = .ok (.bipush 109, 2) := by decide +kernel
theorem dX7_begin_10 : decode cX7_begin 10 = .ok (.if_icmp .eq 7, 3) := by decide +kernel
theorem dX7_begin_13 : decode cX7_begin 13 = .ok (.iconst 1, 1) := by decide +kernel
theorem dX7_begin_14 : decode cX7_begin 14 = .ok (.goto 4, 3) := by decide +kernel
theorem dX7_begin_17 : decode cX7_begin 17 = .ok (.iconst 0, 1) := by decide +kernel
theorem dX7_begin_18 : decode cX7_begin 18 = .ok (.iconst 1, 1) := by decide +kernel
theorem dX7_begin_19 : decode cX7_begin 19 = .ok (.invokevirtual 110, 3) := by decide +kernel
theorem dX7_begin_22 : decode cX7_begin 22 = .ok (.ifCond .ne 51, 3) := by decide +kernel
theorem dX7_begin_25 : decode cX7_begin 25 = .ok (.aload_n 0, 1) := by decide +kernel
theorem dX7_begin_26 : decode cX7_begin 26 = .ok (.aload_n 0, 1) := by decide +kernel
theorem dX7_begin_27 : decode cX7_begin 27 = .ok (.getfield 86, 3) := by decide +kernel
theorem dX7_begin_30 : decode cX7_begin 30 = .ok (.ifCond .eq 31, 3) := by decide +kernel
theorem dX7_begin_61 : decode cX7_begin 61 = .ok (.iconst 1, 1) := by decide +kernel
theorem dX7_begin_62 : decode cX7_begin 62 = .ok (.goto 4, 3) := by decide +kernel
theorem dX7_begin_66 : decode cX7_begin 66 = .ok (.iconst 2, 1) := by decide +kernel
theorem dX7_begin_67 : decode cX7_begin 67 = .ok (.invokevirtual 110, 3) := by decide +kernel
theorem dX7_begin_70 : decode cX7_begin 70 = .ok (.ifCond .eq 5, 3) := by decide +kernel
theorem dX7_begin_73 : decode cX7_begin 73 = .ok (.iconst 0, 1) := by decide +kernel
theorem dX7_begin_74 : decode cX7_begin 74 = .ok (.ireturn, 1) := by decide +kernel
set_option maxRecDepth 20000 in
theorem ggX7_cut_X7_isIn : GoodIn wsX7_cut wsX7_isIn := goodIn_r _ [5] (by decide +kernel) (by decide +kernel)
set_option maxRecDepth 20000 in
theorem gX7_cut_X7_isIn : GoodIn wsX7_cut (va_wsS RX7 82 yX7_isIn wsX7_isIn) := goodIn_app (goodIn_of _ (by decide +kernel)) ggX7_cut_X7_isIn
set_option maxRecDepth 20000 in
theorem ggX7_cut_X7_isThrown : GoodIn wsX7_cut wsX7_isThrown := goodIn_r _ [9, 10, 27, 28, 29, 30, 31, 32, 33, 34, 35, 36, 37, 38, 39, 40, 41, 42, 43, 44, 45, 46, 47, 48, 49, 50, 51, 52, 53, 54, 55, 56, 57] (by decide +kernel) (by decide +kernel)
set_option maxRecDepth 20000 in
theorem gX7_cut_X7_isThrown : GoodIn wsX7_cut (wsV RX7 110 RX7 yX7_isThrown wsX7_isThrown) := goodIn_app (goodIn_of _ (by decide +kernel)) ggX7_cut_X7_isThrown
theorem dX7_cut_0 : decode cX7_cut 0 = .ok (.aload_n 0, 1) := by decide +kernel
theorem dX7_cut_1 : decode cX7_cut 1 = .ok (.iload_n 1, 1) := by decide +kernel
theorem dX7_cut_2 : decode cX7_cut 2 = .ok (.iconst 1, 1) := by decide +kernel
theorem dX7_cut_3 : decode cX7_cut 3 = .ok (.bipush 6, 2) := by decide +kernel
theorem dX7_cut_5 : decode cX7_cut 5 = .ok (.invokestatic 82, 3) := by decide +kernel
theorem dX7_cut_8 : decode cX7_cut 8 = .ok (.ifCond .ne 7, 3) := by decide +kernel
theorem dX7_cut_11 : decode cX7_cut 11 = .ok (.iconst 1, 1) := by decide +kernel
theorem dX7_cut_12 : decode cX7_cut 12 = .ok (.goto 4, 3) := by decide +kernel
theorem dX7_cut_15 : decode cX7_cut 15 = .ok (.iconst 0, 1) := by decide +kernel
theorem dX7_cut_16 : decode cX7_cut 16 = .ok (.iconst 1, 1) := by decide +kernel
theorem dX7_cut_17 : decode cX7_cut 17 = .ok (.invokevirtual 110, 3) := by decide +kernel
theorem dX7_cut_20 : decode cX7_cut 20 = .ok (.ifCond .eq 5, 3) := by decide +kernel
theorem dX7_cut_23 : decode cX7_cut 23 = .ok (.iconst 0, 1) := by decide +kernel
theorem dX7_cut_24 : decode cX7_cut 24 = .ok (.ireturn, 1) := by decide +kernel
theorem dX7_cut_25 : decode cX7_cut 25 = .ok (.iconst 0, 1) := by decide +kernel
theorem dX7_cut_26 : decode cX7_cut 26 = .ok (.istore_n 2, 1) := by decide +kernel
theorem dX7_cut_27 : decode cX7_cut 27 = .ok (.iconst 0, 1) := by decide +kernel
theorem dX7_cut_28 : decode cX7_cut 28 = .ok (.istore_n 3, 1) := by decide +kernel
theorem dX7_cut_29 : decode cX7_cut 29 = .ok (.iload_n 3, 1) := by decide +kernel
theorem dX7_cut_30 : decode cX7_cut 30 = .ok (.aload_n 0, 1) := by decide +kernel
theorem dX7_cut_31 : decode cX7_cut 31 = .ok (.getfield 89, 3) := by decide +kernel
theorem dX7_cut_34 : decode cX7_cut 34 = .ok (.if_icmp .ge 34, 3) := by decide +kernel
theorem dX7_cut_68 : decode cX7_cut 68 = .ok (.iload_n 2, 1) := by decide +kernel
theorem dX7_cut_69 : decode cX7_cut 69 = .ok (.ireturn, 1) := by decide +kernel
set_option maxRecDepth 20000 in
theorem ggX7_conditions_X7_isIn : GoodIn wsX7_conditions wsX7_isIn := goodIn_r _ [5] (by decide +kernel) (by decide +kernel)
set_option maxRecDepth 20000 in
theorem gX7_conditions_X7_isIn : GoodIn wsX7_conditions (va_wsS RX7 82 yX7_isIn wsX7_isIn) := goodIn_app (goodIn_of _ (by decide +kernel)) ggX7_conditions_X7_isIn
set_option maxRecDepth 20000 in
theorem ggX7_conditions_X7_isThrown : GoodIn wsX7_conditions wsX7_isThrown := goodIn_r _ [9, 10, 11, 12, 13, 14, 15, 16, 17, 18, 19, 20, 21, 22, 23, 24, 25, 26, 27, 28, 29, 30, 31, 32, 33, 34, 35, 36, 37, 38, 39, 40, 41] (by decide +kernel) (by decide +kernel)
set_option maxRecDepth 20000 in
theorem gX7_conditions_X7_isThrown : GoodIn wsX7_conditions (wsV RX7 110 RX7 yX7_isThrown wsX7_isThrown) := goodIn_app (goodIn_of _ (by decide +kernel)) ggX7_conditions_X7_isThrown
theorem dX7_conditions_0 : decode cX7_conditions 0 = .ok (.aload_n 0, 1) := by decide +kernel
theorem dX7_conditions_1 : decode cX7_conditions 1 = .ok (.iload_n 1, 1) := by decide +kernel
theorem dX7_conditions_2 : decode cX7_conditions 2 = .ok (.iconst (-1), 1) := by decide +kernel
theorem dX7_conditions_3 : decode cX7_conditions 3 = .ok (.iconst 3, 1) := by decide +kernel
theorem dX7_conditions_4 : decode cX7_conditions 4 = .ok (.invokestatic 82, 3) := by decide +kernel
theorem dX7_conditions_7 : decode cX7_conditions 7 = .ok (.ifCond .ne 7, 3) := by decide +kernel
theorem dX7_conditions_10 : decode cX7_conditions 10 = .ok (.iconst 1, 1) := by decide +kernel
theorem dX7_conditions_11 : decode cX7_conditions 11 = .ok (.goto 4, 3) := by decide +kernel
theorem dX7_conditions_14 : decode cX7_conditions 14 = .ok (.iconst 0, 1) := by decide +kernel
theorem dX7_conditions_15 : decode cX7_conditions 15 = .ok (.iconst 1, 1) := by decide +kernel
theorem dX7_conditions_16 : decode cX7_conditions 16 = .ok (.invokevirtual 110, 3) := by decide +kernel
theorem dX7_conditions_19 : decode cX7_conditions 19 = .ok (.ifCond .eq 5, 3) := by decide +kernel
theorem dX7_conditions_22 : decode cX7_conditions 22 = .ok (.iconst 0, 1) := by decide +kernel
theorem dX7_conditions_23 : decode cX7_conditions 23 = .ok (.ireturn, 1) := by decide +kernel
theorem dX7_conditions_24 : decode cX7_conditions 24 = .ok (.aload_n 0, 1) := by decide +kernel
theorem dX7_conditions_25 : decode cX7_conditions 25 = .ok (.getfield 278, 3) := by decide +kernel
theorem dX7_conditions_28 : decode cX7_conditions 28 = .ok (.istore_n 2, 1) := by decide +kernel
theorem dX7_conditions_29 : decode cX7_conditions 29 = .ok (.aload_n 0, 1) := by decide +kernel
theorem dX7_conditions_30 : decode cX7_conditions 30 = .ok (.iload_n 1, 1) := by decide +kernel
theorem dX7_conditions_31 : decode cX7_conditions 31 = .ok (.putfield 278, 3) := by decide +kernel
theorem dX7_conditions_34 : decode cX7_conditions 34 = .ok (.iload_n 2, 1) := by decide +kernel
theorem dX7_conditions_35 : decode cX7_conditions 35 = .ok (.ireturn, 1) := by decide +kernel
theorem dX7_checksum_0 : decode cX7_checksum 0 = .ok (.aload_n 0, 1) := by decide +kernel
theorem dX7_checksum_1 : decode cX7_checksum 1 = .ok (.iconst 0, 1) := by decide +kernel
theorem dX7_checksum_2 : decode cX7_checksum 2 = .ok (.putfield 79, 3) := by decide +kernel
theorem dX7_checksum_5 : decode cX7_checksum 5 = .ok (.ldc2_w 331, 3) := by decide +kernel
theorem dX7_checksum_8 : decode cX7_checksum 8 = .ok (.lstore_n 1, 1) := by decide +kernel
theorem dX7_checksum_9 : decode cX7_checksum 9 = .ok (.iconst 0, 1) := by decide +kernel
theorem dX7_checksum_10 : decode cX7_checksum 10 = .ok (.istore_n 3, 1) := by decide +kernel
theorem dX7_checksum_11 : decode cX7_checksum 11 = .ok (.iload_n 3, 1) := by decide +kernel
theorem dX7_checksum_12 : decode cX7_checksum 12 = .ok (.aload_n 0, 1) := by decide +kernel
theorem dX7_checksum_13 : decode cX7_checksum 13 = .ok (.getfield 86, 3) := by decide +kernel
theorem dX7_checksum_16 : decode cX7_checksum 16 = .ok (.if_icmp .ge 43, 3) := by decide +kernel
theorem dX7_checksum_59 : decode cX7_checksum 59 = .ok (.lload_n 1, 1) := by decide +kernel
theorem dX7_checksum_60 : decode cX7_checksum 60 = .ok (.lreturn, 1) := by decide +kernel
theorem dX7_isSound_0 : decode cX7_isSound 0 = .ok (.aload_n 0, 1) := by decide +kernel
theorem dX7_isSound_1 : decode cX7_isSound 1 = .ok (.iconst 0, 1) := by decide +kernel
theorem dX7_isSound_2 : decode cX7_isSound 2 = .ok (.putfield 79, 3) := by decide +kernel
theorem dX7_isSound_5 : decode cX7_isSound 5 = .ok (.iconst 1, 1) := by decide +kernel
theorem dX7_isSound_6 : decode cX7_isSound 6 = .ok (.ireturn, 1) := by decide +kernel
set_option maxHeartbeats 4000000 in
set_option maxRecDepth 100000 in
theorem c_X7_edition (l : Launch) (D : va_G) (h0 : Nat) (r : Nat → Nat) (sz : Nat) (a1 : Int32) : Met l yX7_edition wsX7_edition ({ frames := 60, cells := 0, slots := 0, locals := 600 }) (va_Pc [.ref h0, .int a1] (PX7 D h0 r 0 sz)) (va_Qi (fun (r9 : Int32) (u : List Value) => ((a1 = 110 ∨ a1 = 111) ∧ r9 = 110 ∧ u[30]? = some (.int 0)) ∨ (¬ (a1 = 110 ∨ a1 = 111) ∧ u[30]? = some (.int 1))) (fun u t => va_P D vwCl [(h0, .inr (13, u))] t.heap) (rg1 h0 sz)) 0 0 (rg1 h0 sz) := by
  refine Met.ofW (cc := cX7_edition) (maxL := 3) (ret := (some .char)) (by decide +kernel) rfl ?_
  intro p e s m args below meth c s₁ B hml hv
  obtain ⟨rfl, hsz, hP, hK⟩ := hv
  have hx := B.exec
  have hb := B.bytes
  have hr := B.returns
  have hts := atoms_spec (ws := wsX7_edition) B.pre
  have hown : s.vm.findClass RX7 = some m.cls := findClass_of_methodNamed B.named
  have hlocks := B.notSynchronized
  subst hsz
  have hD : va_D (rg1 h0 s.heap.size) [(h0, .inr (13, [.ref (r 0), .ref (r 1), .ref (r 2), .ref (r 3), .ref (r 4), .ref (r 5), .ref (r 6), .ref (r 7), .ref (r 8), .ref (r 9), .ref (r 10), .ref (r 11), .ref (r 12), .ref (r 13), .ref (r 14), .ref (r 15), .int 0, .int 0, .int 1, .int 110, .int 0, .int 0, .int 0, .int 0, .int 0, .int 0, .int 0, .int 0, .int 0, .int 0, .int 0]))] := rg1_D
  generalize hAe : rg1 h0 s.heap.size = A at hD ⊢
  have hA : ∀ q : Nat, s.heap.size ≤ q → A q := fun q h => by rw [← hAe]; exact Or.inr h
  have hS : va_S A s.heap s.heap [] := va_S.rf
  have hP : va_P D vwCl [(h0, .inr (13, [.ref (r 0), .ref (r 1), .ref (r 2), .ref (r 3), .ref (r 4), .ref (r 5), .ref (r 6), .ref (r 7), .ref (r 8), .ref (r 9), .ref (r 10), .ref (r 11), .ref (r 12), .ref (r 13), .ref (r 14), .ref (r 15), .int 0, .int 0, .int 1, .int 110, .int 0, .int 0, .int 0, .int 0, .int 0, .int 0, .int 0, .int 0, .int 0, .int 0, .int 0]))] s.heap := hP
  have hl := lv_entry ([.ref h0, .int a1]) (n := 3) (Nat.le_of_ble_eq_true rfl)
  rw [lg_entry_eq]
  generalize (lg_sl ([.ref h0, .int a1]) ++ List.replicate (3 - (lg_sl ([.ref h0, .int a1])).length) Slot.unset).toArray = ls at hl ⊢
  have hl : lv_has ls 3 [(0, .ref h0), (1, .int a1)] := hl
  refine lv_aload_n hx hb dX7_edition_0 rfl (lv_at hl 0 rfl) ?_
  refine lv_iload_n hx hb dX7_edition_1 rfl (lv_at hl 1 rfl) ?_
  refine lv_bipush (v := 110) hx hb dX7_edition_2 (by decide) ?_
  refine lv_icmp_eq (tgt := 17) hx hb dX7_edition_4 (by decide) (fun c_1 => ?_) (fun c_1 => ?_)
  · skip
    refine lv_iconst (v := 0) hx hb dX7_edition_17 (by decide) ?_
    refine lv_iconst (v := 1) hx hb dX7_edition_18 (by decide) ?_
    have hFc : ∀ q : Nat, rg1 h0 s.heap.size q → A q := fun q h => h.elim (fun e => by rw [e]; exact hD.2 0 _ rfl) (fun h => hA q (Nat.le_trans hS.1 h))
    refine va_calli (va_runV (As := [.int 0, .int 1]) (rest := []) ⟨hx, hb, hml, hown, hts⟩ (c_X7_isThrown l D h0 r 0 s.heap.size 0 1 (Or.inl rfl)) (cwV 2 hts gX7_edition_X7_isThrown rfl rfl rfl (by decide +kernel) ⟨Nat.le_of_ble_eq_true rfl, Nat.le_of_ble_eq_true rfl⟩) ⟨fun a U g mk q => ⟨q.1, PX7.blind q.2⟩, va_recv hK hP (ci := 13) (q0 := 0) rfl rfl, fun U hU hW => ⟨rfl, PX7.go hP hK hU hW⟩⟩ rfl rfl hl.1 rfl (lv_room (Nat.le_of_ble_eq_true rfl)) dX7_edition_19 ⟨Nat.le_of_ble_eq_true rfl, Nat.le_of_ble_eq_true rfl⟩) hS (fun q _ h => hFc q h) hFc (fun r2 u t H1 locs ht hvm hw hB hz1 hk1 hS => ?_)
    rw [ht, if_pos (by decide)] at hB
    have hP := hB
    generalize H1 = H at hP hS ⊢
    have hP : va_P D vwCl [(h0, .inr (13, [.ref (r 0), .ref (r 1), .ref (r 2), .ref (r 3), .ref (r 4), .ref (r 5), .ref (r 6), .ref (r 7), .ref (r 8), .ref (r 9), .ref (r 10), .ref (r 11), .ref (r 12), .ref (r 13), .ref (r 14), .ref (r 15), .int 0, .int 0, .int 1, .int 110, .int 0, .int 0, .int 0, .int 0, .int 0, .int 0, .int 0, .int 0, .int 0, .int 0, .int 0]))] H := hP
    have hD : va_D A [(h0, .inr (13, [.ref (r 0), .ref (r 1), .ref (r 2), .ref (r 3), .ref (r 4), .ref (r 5), .ref (r 6), .ref (r 7), .ref (r 8), .ref (r 9), .ref (r 10), .ref (r 11), .ref (r 12), .ref (r 13), .ref (r 14), .ref (r 15), .int 0, .int 0, .int 1, .int 110, .int 0, .int 0, .int 0, .int 0, .int 0, .int 0, .int 0, .int 0, .int 0, .int 0, .int 0]))] := by rw [← hAe]; exact rg1_D
    obtain rfl : r2 = 0 := hw
    refine lv_if_eq (tgt := 28) hx hb dX7_edition_22 (by decide) (fun _ => ?_) (fun c => by first | exact absurd (by decide) c | exact absurd c (by decide))
    refine lv_aload_n hx hb dX7_edition_28 rfl (lv_at hl 0 rfl) ?_
    refine va_get (D := D) (ci := 13) (v := .int 110) (C := RX7) (T := TX7) (N := 31) hx hb hts (by decide +kernel) hown hK hP 0 rfl rfl 19 (by decide) (hts (.fieldLink RX7 71 "FairwayChanceryModel" "edition" "C") (by decide +kernel)) (fun _ h9 => h9) rfl dX7_edition_29 ?_
    refine lv_istore_n (lv' := [(2, .int 110), (0, .ref h0), (1, .int a1)]) hx hb dX7_edition_32 rfl hl (by decide) rfl (fun ls hl => ?_)
    refine lv_aload_n hx hb dX7_edition_33 rfl (lv_at hl 1 rfl) ?_
    refine lv_iload_n hx hb dX7_edition_34 rfl (lv_at hl 2 rfl) ?_
    refine va_put (D := D) (ci := 13) (v := .int a1) (ty := .char) (C := RX7) (T := TX7) (N := 31) hx hb hts (by decide +kernel) tyX7 tyX7_ok nmX7 hown hK hP hD hS 0 rfl rfl 19 (by decide) (hts (.fieldLink RX7 71 "FairwayChanceryModel" "edition" "C") (by decide +kernel)) (fun _ h9 => h9) rfl (by decide +kernel) (by rw [c_1]; decide) (by rw [c_1]; decide) (Nat.le_of_ble_eq_true rfl) dX7_edition_35 (fun H locs hP hD hS => ?_)
    have hP : va_P D vwCl [(h0, .inr (13, [.ref (r 0), .ref (r 1), .ref (r 2), .ref (r 3), .ref (r 4), .ref (r 5), .ref (r 6), .ref (r 7), .ref (r 8), .ref (r 9), .ref (r 10), .ref (r 11), .ref (r 12), .ref (r 13), .ref (r 14), .ref (r 15), .int 0, .int 0, .int 1, .int a1, .int 0, .int 0, .int 0, .int 0, .int 0, .int 0, .int 0, .int 0, .int 0, .int 0, .int 0]))] H := hP
    have hD : va_D A [(h0, .inr (13, [.ref (r 0), .ref (r 1), .ref (r 2), .ref (r 3), .ref (r 4), .ref (r 5), .ref (r 6), .ref (r 7), .ref (r 8), .ref (r 9), .ref (r 10), .ref (r 11), .ref (r 12), .ref (r 13), .ref (r 14), .ref (r 15), .int 0, .int 0, .int 1, .int a1, .int 0, .int 0, .int 0, .int 0, .int 0, .int 0, .int 0, .int 0, .int 0, .int 0, .int 0]))] := hD
    refine lv_iload_n hx hb dX7_edition_38 rfl (lv_at hl 0 rfl) ?_
    have hP9 := hP
    exact W.zret (v := 110) (ty := .char) hx hb hr (by decide) (fun t ht hW => ⟨⟨110, [.ref (r 0), .ref (r 1), .ref (r 2), .ref (r 3), .ref (r 4), .ref (r 5), .ref (r 6), .ref (r 7), .ref (r 8), .ref (r 9), .ref (r 10), .ref (r 11), .ref (r 12), .ref (r 13), .ref (r 14), .ref (r 15), .int 0, .int 0, .int 1, .int a1, .int 0, .int 0, .int 0, .int 0, .int 0, .int 0, .int 0, .int 0, .int 0, .int 0, .int 0], rfl, Or.inl ⟨by simp [c_1], rfl, rfl⟩, by rw [← ht] at hP9; exact hP9⟩, hS.F ht⟩) hS.2.2 dX7_edition_39
  · skip
    refine lv_iload_n hx hb dX7_edition_7 rfl (lv_at hl 1 rfl) ?_
    refine lv_bipush (v := 111) hx hb dX7_edition_8 (by decide) ?_
    refine lv_icmp_eq (tgt := 17) hx hb dX7_edition_10 (by decide) (fun c_4 => ?_) (fun c_4 => ?_)
    · skip
      refine lv_iconst (v := 0) hx hb dX7_edition_17 (by decide) ?_
      refine lv_iconst (v := 1) hx hb dX7_edition_18 (by decide) ?_
      have hFc : ∀ q : Nat, rg1 h0 s.heap.size q → A q := fun q h => h.elim (fun e => by rw [e]; exact hD.2 0 _ rfl) (fun h => hA q (Nat.le_trans hS.1 h))
      refine va_calli (va_runV (As := [.int 0, .int 1]) (rest := []) ⟨hx, hb, hml, hown, hts⟩ (c_X7_isThrown l D h0 r 0 s.heap.size 0 1 (Or.inl rfl)) (cwV 2 hts gX7_edition_X7_isThrown rfl rfl rfl (by decide +kernel) ⟨Nat.le_of_ble_eq_true rfl, Nat.le_of_ble_eq_true rfl⟩) ⟨fun a U g mk q => ⟨q.1, PX7.blind q.2⟩, va_recv hK hP (ci := 13) (q0 := 0) rfl rfl, fun U hU hW => ⟨rfl, PX7.go hP hK hU hW⟩⟩ rfl rfl hl.1 rfl (lv_room (Nat.le_of_ble_eq_true rfl)) dX7_edition_19 ⟨Nat.le_of_ble_eq_true rfl, Nat.le_of_ble_eq_true rfl⟩) hS (fun q _ h => hFc q h) hFc (fun r5 u t H1 locs ht hvm hw hB hz1 hk1 hS => ?_)
      rw [ht, if_pos (by decide)] at hB
      have hP := hB
      generalize H1 = H at hP hS ⊢
      have hP : va_P D vwCl [(h0, .inr (13, [.ref (r 0), .ref (r 1), .ref (r 2), .ref (r 3), .ref (r 4), .ref (r 5), .ref (r 6), .ref (r 7), .ref (r 8), .ref (r 9), .ref (r 10), .ref (r 11), .ref (r 12), .ref (r 13), .ref (r 14), .ref (r 15), .int 0, .int 0, .int 1, .int 110, .int 0, .int 0, .int 0, .int 0, .int 0, .int 0, .int 0, .int 0, .int 0, .int 0, .int 0]))] H := hP
      have hD : va_D A [(h0, .inr (13, [.ref (r 0), .ref (r 1), .ref (r 2), .ref (r 3), .ref (r 4), .ref (r 5), .ref (r 6), .ref (r 7), .ref (r 8), .ref (r 9), .ref (r 10), .ref (r 11), .ref (r 12), .ref (r 13), .ref (r 14), .ref (r 15), .int 0, .int 0, .int 1, .int 110, .int 0, .int 0, .int 0, .int 0, .int 0, .int 0, .int 0, .int 0, .int 0, .int 0, .int 0]))] := by rw [← hAe]; exact rg1_D
      obtain rfl : r5 = 0 := hw
      refine lv_if_eq (tgt := 28) hx hb dX7_edition_22 (by decide) (fun _ => ?_) (fun c => by first | exact absurd (by decide) c | exact absurd c (by decide))
      refine lv_aload_n hx hb dX7_edition_28 rfl (lv_at hl 0 rfl) ?_
      refine va_get (D := D) (ci := 13) (v := .int 110) (C := RX7) (T := TX7) (N := 31) hx hb hts (by decide +kernel) hown hK hP 0 rfl rfl 19 (by decide) (hts (.fieldLink RX7 71 "FairwayChanceryModel" "edition" "C") (by decide +kernel)) (fun _ h9 => h9) rfl dX7_edition_29 ?_
      refine lv_istore_n (lv' := [(2, .int 110), (0, .ref h0), (1, .int a1)]) hx hb dX7_edition_32 rfl hl (by decide) rfl (fun ls hl => ?_)
      refine lv_aload_n hx hb dX7_edition_33 rfl (lv_at hl 1 rfl) ?_
      refine lv_iload_n hx hb dX7_edition_34 rfl (lv_at hl 2 rfl) ?_
      refine va_put (D := D) (ci := 13) (v := .int a1) (ty := .char) (C := RX7) (T := TX7) (N := 31) hx hb hts (by decide +kernel) tyX7 tyX7_ok nmX7 hown hK hP hD hS 0 rfl rfl 19 (by decide) (hts (.fieldLink RX7 71 "FairwayChanceryModel" "edition" "C") (by decide +kernel)) (fun _ h9 => h9) rfl (by decide +kernel) (by rw [c_4]; decide) (by rw [c_4]; decide) (Nat.le_of_ble_eq_true rfl) dX7_edition_35 (fun H locs hP hD hS => ?_)
      have hP : va_P D vwCl [(h0, .inr (13, [.ref (r 0), .ref (r 1), .ref (r 2), .ref (r 3), .ref (r 4), .ref (r 5), .ref (r 6), .ref (r 7), .ref (r 8), .ref (r 9), .ref (r 10), .ref (r 11), .ref (r 12), .ref (r 13), .ref (r 14), .ref (r 15), .int 0, .int 0, .int 1, .int a1, .int 0, .int 0, .int 0, .int 0, .int 0, .int 0, .int 0, .int 0, .int 0, .int 0, .int 0]))] H := hP
      have hD : va_D A [(h0, .inr (13, [.ref (r 0), .ref (r 1), .ref (r 2), .ref (r 3), .ref (r 4), .ref (r 5), .ref (r 6), .ref (r 7), .ref (r 8), .ref (r 9), .ref (r 10), .ref (r 11), .ref (r 12), .ref (r 13), .ref (r 14), .ref (r 15), .int 0, .int 0, .int 1, .int a1, .int 0, .int 0, .int 0, .int 0, .int 0, .int 0, .int 0, .int 0, .int 0, .int 0, .int 0]))] := hD
      refine lv_iload_n hx hb dX7_edition_38 rfl (lv_at hl 0 rfl) ?_
      have hP9 := hP
      exact W.zret (v := 110) (ty := .char) hx hb hr (by decide) (fun t ht hW => ⟨⟨110, [.ref (r 0), .ref (r 1), .ref (r 2), .ref (r 3), .ref (r 4), .ref (r 5), .ref (r 6), .ref (r 7), .ref (r 8), .ref (r 9), .ref (r 10), .ref (r 11), .ref (r 12), .ref (r 13), .ref (r 14), .ref (r 15), .int 0, .int 0, .int 1, .int a1, .int 0, .int 0, .int 0, .int 0, .int 0, .int 0, .int 0, .int 0, .int 0, .int 0, .int 0], rfl, Or.inl ⟨by simp [c_1, c_4], rfl, rfl⟩, by rw [← ht] at hP9; exact hP9⟩, hS.F ht⟩) hS.2.2 dX7_edition_39
    · skip
      refine lv_iconst (v := 1) hx hb dX7_edition_13 (by decide) ?_
      refine lv_goto (tgt := 18) hx hb dX7_edition_14 (by decide) ?_
      refine lv_iconst (v := 1) hx hb dX7_edition_18 (by decide) ?_
      have hFc : ∀ q : Nat, rg1 h0 s.heap.size q → A q := fun q h => h.elim (fun e => by rw [e]; exact hD.2 0 _ rfl) (fun h => hA q (Nat.le_trans hS.1 h))
      refine va_calli (va_runV (As := [.int 1, .int 1]) (rest := []) ⟨hx, hb, hml, hown, hts⟩ (c_X7_isThrown l D h0 r 0 s.heap.size 1 1 (Or.inr rfl)) (cwV 2 hts gX7_edition_X7_isThrown rfl rfl rfl (by decide +kernel) ⟨Nat.le_of_ble_eq_true rfl, Nat.le_of_ble_eq_true rfl⟩) ⟨fun a U g mk q => ⟨q.1, PX7.blind q.2⟩, va_recv hK hP (ci := 13) (q0 := 0) rfl rfl, fun U hU hW => ⟨rfl, PX7.go hP hK hU hW⟩⟩ rfl rfl hl.1 rfl (lv_room (Nat.le_of_ble_eq_true rfl)) dX7_edition_19 ⟨Nat.le_of_ble_eq_true rfl, Nat.le_of_ble_eq_true rfl⟩) hS (fun q _ h => hFc q h) hFc (fun r7 u t H1 locs ht hvm hw hB hz1 hk1 hS => ?_)
      rw [ht, if_neg (by decide)] at hB
      have hP := hB
      generalize H1 = H at hP hS ⊢
      have hP : va_P D vwCl [(h0, .inr (13, [.ref (r 0), .ref (r 1), .ref (r 2), .ref (r 3), .ref (r 4), .ref (r 5), .ref (r 6), .ref (r 7), .ref (r 8), .ref (r 9), .ref (r 10), .ref (r 11), .ref (r 12), .ref (r 13), .ref (r 14), .ref (r 15), .int 0, .int 0, .int 1, .int 110, .int 0, .int 0, .int 0, .int 0, .int 0, .int 0, .int 0, .int 0, .int 0, .int 0, .int 1]))] H := hP
      have hD : va_D A [(h0, .inr (13, [.ref (r 0), .ref (r 1), .ref (r 2), .ref (r 3), .ref (r 4), .ref (r 5), .ref (r 6), .ref (r 7), .ref (r 8), .ref (r 9), .ref (r 10), .ref (r 11), .ref (r 12), .ref (r 13), .ref (r 14), .ref (r 15), .int 0, .int 0, .int 1, .int 110, .int 0, .int 0, .int 0, .int 0, .int 0, .int 0, .int 0, .int 0, .int 0, .int 0, .int 1]))] := by rw [← hAe]; exact rg1_D
      obtain rfl : r7 = 1 := hw
      refine lv_if_eq (tgt := 28) hx hb dX7_edition_22 (by decide) (fun c => by first | exact absurd c (by decide) | exact absurd (by decide) c) (fun _ => ?_)
      refine lv_bipush (v := 32) hx hb dX7_edition_25 (by decide) ?_
      have hP9 := hP
      exact W.zret (v := 32) (ty := .char) hx hb hr (by decide) (fun t ht hW => ⟨⟨32, [.ref (r 0), .ref (r 1), .ref (r 2), .ref (r 3), .ref (r 4), .ref (r 5), .ref (r 6), .ref (r 7), .ref (r 8), .ref (r 9), .ref (r 10), .ref (r 11), .ref (r 12), .ref (r 13), .ref (r 14), .ref (r 15), .int 0, .int 0, .int 1, .int 110, .int 0, .int 0, .int 0, .int 0, .int 0, .int 0, .int 0, .int 0, .int 0, .int 0, .int 1], rfl, Or.inr ⟨by simp [c_1, c_4], rfl⟩, by rw [← ht] at hP9; exact hP9⟩, hS.F ht⟩) hS.2.2 dX7_edition_27
set_option maxHeartbeats 4000000 in
set_option maxRecDepth 100000 in
theorem c_X7_begin (l : Launch) (D : va_G) (h0 : Nat) (r : Nat → Nat) (sz : Nat) (a1 : Int32) : Met l yX7_begin wsX7_begin ({ frames := 60, cells := 0, slots := 0, locals := 600 }) (va_Pc [.ref h0, .int a1] (PX7 D h0 r 0 sz)) (va_Qi (fun (r9 : Int32) (u : List Value) => ((a1 = 115 ∨ a1 = 109) ∧ u[30]? = some (.int 2)) ∨ (¬ (a1 = 115 ∨ a1 = 109) ∧ u[30]? = some (.int 1))) (fun u t => va_P D vwCl [(h0, .inr (13, u))] t.heap) (rg1 h0 sz)) 0 0 (rg1 h0 sz) := by
  refine Met.ofW (cc := cX7_begin) (maxL := 4) (ret := (some .int)) (by decide +kernel) rfl ?_
  intro p e s m args below meth c s₁ B hml hv
  obtain ⟨rfl, hsz, hP, hK⟩ := hv
  have hx := B.exec
  have hb := B.bytes
  have hr := B.returns
  have hts := atoms_spec (ws := wsX7_begin) B.pre
  have hown : s.vm.findClass RX7 = some m.cls := findClass_of_methodNamed B.named
  have hlocks := B.notSynchronized
  subst hsz
  have hD : va_D (rg1 h0 s.heap.size) [(h0, .inr (13, [.ref (r 0), .ref (r 1), .ref (r 2), .ref (r 3), .ref (r 4), .ref (r 5), .ref (r 6), .ref (r 7), .ref (r 8), .ref (r 9), .ref (r 10), .ref (r 11), .ref (r 12), .ref (r 13), .ref (r 14), .ref (r 15), .int 0, .int 0, .int 1, .int 110, .int 0, .int 0, .int 0, .int 0, .int 0, .int 0, .int 0, .int 0, .int 0, .int 0, .int 0]))] := rg1_D
  generalize hAe : rg1 h0 s.heap.size = A at hD ⊢
  have hA : ∀ q : Nat, s.heap.size ≤ q → A q := fun q h => by rw [← hAe]; exact Or.inr h
  have hS : va_S A s.heap s.heap [] := va_S.rf
  have hP : va_P D vwCl [(h0, .inr (13, [.ref (r 0), .ref (r 1), .ref (r 2), .ref (r 3), .ref (r 4), .ref (r 5), .ref (r 6), .ref (r 7), .ref (r 8), .ref (r 9), .ref (r 10), .ref (r 11), .ref (r 12), .ref (r 13), .ref (r 14), .ref (r 15), .int 0, .int 0, .int 1, .int 110, .int 0, .int 0, .int 0, .int 0, .int 0, .int 0, .int 0, .int 0, .int 0, .int 0, .int 0]))] s.heap := hP
  have hl := lv_entry ([.ref h0, .int a1]) (n := 4) (Nat.le_of_ble_eq_true rfl)
  rw [lg_entry_eq]
  generalize (lg_sl ([.ref h0, .int a1]) ++ List.replicate (4 - (lg_sl ([.ref h0, .int a1])).length) Slot.unset).toArray = ls at hl ⊢
  have hl : lv_has ls 4 [(0, .ref h0), (1, .int a1)] := hl
  refine lv_aload_n hx hb dX7_begin_0 rfl (lv_at hl 0 rfl) ?_
  refine lv_iload_n hx hb dX7_begin_1 rfl (lv_at hl 1 rfl) ?_
  refine lv_bipush (v := 115) hx hb dX7_begin_2 (by decide) ?_
  refine lv_icmp_eq (tgt := 17) hx hb dX7_begin_4 (by decide) (fun c_1 => ?_) (fun c_1 => ?_)
  · skip
    refine lv_iconst (v := 0) hx hb dX7_begin_17 (by decide) ?_
    refine lv_iconst (v := 1) hx hb dX7_begin_18 (by decide) ?_
    have hFc : ∀ q : Nat, rg1 h0 s.heap.size q → A q := fun q h => h.elim (fun e => by rw [e]; exact hD.2 0 _ rfl) (fun h => hA q (Nat.le_trans hS.1 h))
    refine va_calli (va_runV (As := [.int 0, .int 1]) (rest := []) ⟨hx, hb, hml, hown, hts⟩ (c_X7_isThrown l D h0 r 0 s.heap.size 0 1 (Or.inl rfl)) (cwV 2 hts gX7_begin_X7_isThrown rfl rfl rfl (by decide +kernel) ⟨Nat.le_of_ble_eq_true rfl, Nat.le_of_ble_eq_true rfl⟩) ⟨fun a U g mk q => ⟨q.1, PX7.blind q.2⟩, va_recv hK hP (ci := 13) (q0 := 0) rfl rfl, fun U hU hW => ⟨rfl, PX7.go hP hK hU hW⟩⟩ rfl rfl hl.1 rfl (lv_room (Nat.le_of_ble_eq_true rfl)) dX7_begin_19 ⟨Nat.le_of_ble_eq_true rfl, Nat.le_of_ble_eq_true rfl⟩) hS (fun q _ h => hFc q h) hFc (fun r2 u t H1 locs ht hvm hw hB hz1 hk1 hS => ?_)
    rw [ht, if_pos (by decide)] at hB
    have hP := hB
    generalize H1 = H at hP hS ⊢
    have hP : va_P D vwCl [(h0, .inr (13, [.ref (r 0), .ref (r 1), .ref (r 2), .ref (r 3), .ref (r 4), .ref (r 5), .ref (r 6), .ref (r 7), .ref (r 8), .ref (r 9), .ref (r 10), .ref (r 11), .ref (r 12), .ref (r 13), .ref (r 14), .ref (r 15), .int 0, .int 0, .int 1, .int 110, .int 0, .int 0, .int 0, .int 0, .int 0, .int 0, .int 0, .int 0, .int 0, .int 0, .int 0]))] H := hP
    have hD : va_D A [(h0, .inr (13, [.ref (r 0), .ref (r 1), .ref (r 2), .ref (r 3), .ref (r 4), .ref (r 5), .ref (r 6), .ref (r 7), .ref (r 8), .ref (r 9), .ref (r 10), .ref (r 11), .ref (r 12), .ref (r 13), .ref (r 14), .ref (r 15), .int 0, .int 0, .int 1, .int 110, .int 0, .int 0, .int 0, .int 0, .int 0, .int 0, .int 0, .int 0, .int 0, .int 0, .int 0]))] := by rw [← hAe]; exact rg1_D
    obtain rfl : r2 = 0 := hw
    refine lv_if_ne (tgt := 73) hx hb dX7_begin_22 (by decide) (fun c => by first | exact absurd c (by decide) | exact absurd (by decide) c) (fun _ => ?_)
    refine lv_aload_n hx hb dX7_begin_25 rfl (lv_at hl 0 rfl) ?_
    refine lv_aload_n hx hb dX7_begin_26 rfl (lv_at hl 0 rfl) ?_
    refine va_get (D := D) (ci := 13) (v := .int 0) (C := RX7) (T := TX7) (N := 31) hx hb hts (by decide +kernel) hown hK hP 0 rfl rfl 16 (by decide) (hts (.fieldLink RX7 86 "FairwayChanceryModel" "holes" "I") (by decide +kernel)) (fun _ h9 => h9) rfl dX7_begin_27 ?_
    refine lv_if_eq (tgt := 61) hx hb dX7_begin_30 (by decide) (fun _ => ?_) (fun c => by first | exact absurd (by decide) c | exact absurd c (by decide))
    refine lv_iconst (v := 1) hx hb dX7_begin_61 (by decide) ?_
    refine lv_goto (tgt := 66) hx hb dX7_begin_62 (by decide) ?_
    refine lv_iconst (v := 2) hx hb dX7_begin_66 (by decide) ?_
    have hFc : ∀ q : Nat, rg1 h0 H.size q → A q := fun q h => h.elim (fun e => by rw [e]; exact hD.2 0 _ rfl) (fun h => hA q (Nat.le_trans hS.1 h))
    refine va_calli (va_runV (As := [.int 1, .int 2]) (rest := []) ⟨hx, hb, hml, hown, hts⟩ (c_X7_isThrown l D h0 r 0 H.size 1 2 (Or.inr rfl)) (cwV 2 hts gX7_begin_X7_isThrown rfl rfl rfl (by decide +kernel) ⟨Nat.le_of_ble_eq_true rfl, Nat.le_of_ble_eq_true rfl⟩) ⟨fun a U g mk q => ⟨q.1, PX7.blind q.2⟩, va_recv hK hP (ci := 13) (q0 := 0) rfl rfl, fun U hU hW => ⟨rfl, PX7.go hP hK hU hW⟩⟩ rfl rfl hl.1 rfl (lv_room (Nat.le_of_ble_eq_true rfl)) dX7_begin_67 ⟨Nat.le_of_ble_eq_true rfl, Nat.le_of_ble_eq_true rfl⟩) hS (fun q _ h => hFc q h) hFc (fun r5 u t H1 locs ht hvm hw hB hz1 hk1 hS => ?_)
    rw [ht, if_neg (by decide)] at hB
    have hP := hB
    generalize H1 = H at hP hS ⊢
    have hP : va_P D vwCl [(h0, .inr (13, [.ref (r 0), .ref (r 1), .ref (r 2), .ref (r 3), .ref (r 4), .ref (r 5), .ref (r 6), .ref (r 7), .ref (r 8), .ref (r 9), .ref (r 10), .ref (r 11), .ref (r 12), .ref (r 13), .ref (r 14), .ref (r 15), .int 0, .int 0, .int 1, .int 110, .int 0, .int 0, .int 0, .int 0, .int 0, .int 0, .int 0, .int 0, .int 0, .int 0, .int 2]))] H := hP
    have hD : va_D A [(h0, .inr (13, [.ref (r 0), .ref (r 1), .ref (r 2), .ref (r 3), .ref (r 4), .ref (r 5), .ref (r 6), .ref (r 7), .ref (r 8), .ref (r 9), .ref (r 10), .ref (r 11), .ref (r 12), .ref (r 13), .ref (r 14), .ref (r 15), .int 0, .int 0, .int 1, .int 110, .int 0, .int 0, .int 0, .int 0, .int 0, .int 0, .int 0, .int 0, .int 0, .int 0, .int 2]))] := by rw [← hAe]; exact rg1_D
    obtain rfl : r5 = 1 := hw
    refine lv_if_eq (tgt := 75) hx hb dX7_begin_70 (by decide) (fun c => by first | exact absurd c (by decide) | exact absurd (by decide) c) (fun _ => ?_)
    refine lv_iconst (v := 0) hx hb dX7_begin_73 (by decide) ?_
    have hP9 := hP
    exact W.iret (v := 0) hx hb hr (fun t ht hW => ⟨⟨0, [.ref (r 0), .ref (r 1), .ref (r 2), .ref (r 3), .ref (r 4), .ref (r 5), .ref (r 6), .ref (r 7), .ref (r 8), .ref (r 9), .ref (r 10), .ref (r 11), .ref (r 12), .ref (r 13), .ref (r 14), .ref (r 15), .int 0, .int 0, .int 1, .int 110, .int 0, .int 0, .int 0, .int 0, .int 0, .int 0, .int 0, .int 0, .int 0, .int 0, .int 2], rfl, Or.inl ⟨by simp [c_1], rfl⟩, by rw [← ht] at hP9; exact hP9⟩, hS.F ht⟩) hS.2.2 dX7_begin_74
  · skip
    refine lv_iload_n hx hb dX7_begin_7 rfl (lv_at hl 1 rfl) ?_
    refine lv_bipush (v := 109) hx hb dX7_begin_8 (by decide) ?_
    refine lv_icmp_eq (tgt := 17) hx hb dX7_begin_10 (by decide) (fun c_7 => ?_) (fun c_7 => ?_)
    · skip
      refine lv_iconst (v := 0) hx hb dX7_begin_17 (by decide) ?_
      refine lv_iconst (v := 1) hx hb dX7_begin_18 (by decide) ?_
      have hFc : ∀ q : Nat, rg1 h0 s.heap.size q → A q := fun q h => h.elim (fun e => by rw [e]; exact hD.2 0 _ rfl) (fun h => hA q (Nat.le_trans hS.1 h))
      refine va_calli (va_runV (As := [.int 0, .int 1]) (rest := []) ⟨hx, hb, hml, hown, hts⟩ (c_X7_isThrown l D h0 r 0 s.heap.size 0 1 (Or.inl rfl)) (cwV 2 hts gX7_begin_X7_isThrown rfl rfl rfl (by decide +kernel) ⟨Nat.le_of_ble_eq_true rfl, Nat.le_of_ble_eq_true rfl⟩) ⟨fun a U g mk q => ⟨q.1, PX7.blind q.2⟩, va_recv hK hP (ci := 13) (q0 := 0) rfl rfl, fun U hU hW => ⟨rfl, PX7.go hP hK hU hW⟩⟩ rfl rfl hl.1 rfl (lv_room (Nat.le_of_ble_eq_true rfl)) dX7_begin_19 ⟨Nat.le_of_ble_eq_true rfl, Nat.le_of_ble_eq_true rfl⟩) hS (fun q _ h => hFc q h) hFc (fun r8 u t H1 locs ht hvm hw hB hz1 hk1 hS => ?_)
      rw [ht, if_pos (by decide)] at hB
      have hP := hB
      generalize H1 = H at hP hS ⊢
      have hP : va_P D vwCl [(h0, .inr (13, [.ref (r 0), .ref (r 1), .ref (r 2), .ref (r 3), .ref (r 4), .ref (r 5), .ref (r 6), .ref (r 7), .ref (r 8), .ref (r 9), .ref (r 10), .ref (r 11), .ref (r 12), .ref (r 13), .ref (r 14), .ref (r 15), .int 0, .int 0, .int 1, .int 110, .int 0, .int 0, .int 0, .int 0, .int 0, .int 0, .int 0, .int 0, .int 0, .int 0, .int 0]))] H := hP
      have hD : va_D A [(h0, .inr (13, [.ref (r 0), .ref (r 1), .ref (r 2), .ref (r 3), .ref (r 4), .ref (r 5), .ref (r 6), .ref (r 7), .ref (r 8), .ref (r 9), .ref (r 10), .ref (r 11), .ref (r 12), .ref (r 13), .ref (r 14), .ref (r 15), .int 0, .int 0, .int 1, .int 110, .int 0, .int 0, .int 0, .int 0, .int 0, .int 0, .int 0, .int 0, .int 0, .int 0, .int 0]))] := by rw [← hAe]; exact rg1_D
      obtain rfl : r8 = 0 := hw
      refine lv_if_ne (tgt := 73) hx hb dX7_begin_22 (by decide) (fun c => by first | exact absurd c (by decide) | exact absurd (by decide) c) (fun _ => ?_)
      refine lv_aload_n hx hb dX7_begin_25 rfl (lv_at hl 0 rfl) ?_
      refine lv_aload_n hx hb dX7_begin_26 rfl (lv_at hl 0 rfl) ?_
      refine va_get (D := D) (ci := 13) (v := .int 0) (C := RX7) (T := TX7) (N := 31) hx hb hts (by decide +kernel) hown hK hP 0 rfl rfl 16 (by decide) (hts (.fieldLink RX7 86 "FairwayChanceryModel" "holes" "I") (by decide +kernel)) (fun _ h9 => h9) rfl dX7_begin_27 ?_
      refine lv_if_eq (tgt := 61) hx hb dX7_begin_30 (by decide) (fun _ => ?_) (fun c => by first | exact absurd (by decide) c | exact absurd c (by decide))
      refine lv_iconst (v := 1) hx hb dX7_begin_61 (by decide) ?_
      refine lv_goto (tgt := 66) hx hb dX7_begin_62 (by decide) ?_
      refine lv_iconst (v := 2) hx hb dX7_begin_66 (by decide) ?_
      have hFc : ∀ q : Nat, rg1 h0 H.size q → A q := fun q h => h.elim (fun e => by rw [e]; exact hD.2 0 _ rfl) (fun h => hA q (Nat.le_trans hS.1 h))
      refine va_calli (va_runV (As := [.int 1, .int 2]) (rest := []) ⟨hx, hb, hml, hown, hts⟩ (c_X7_isThrown l D h0 r 0 H.size 1 2 (Or.inr rfl)) (cwV 2 hts gX7_begin_X7_isThrown rfl rfl rfl (by decide +kernel) ⟨Nat.le_of_ble_eq_true rfl, Nat.le_of_ble_eq_true rfl⟩) ⟨fun a U g mk q => ⟨q.1, PX7.blind q.2⟩, va_recv hK hP (ci := 13) (q0 := 0) rfl rfl, fun U hU hW => ⟨rfl, PX7.go hP hK hU hW⟩⟩ rfl rfl hl.1 rfl (lv_room (Nat.le_of_ble_eq_true rfl)) dX7_begin_67 ⟨Nat.le_of_ble_eq_true rfl, Nat.le_of_ble_eq_true rfl⟩) hS (fun q _ h => hFc q h) hFc (fun r11 u t H1 locs ht hvm hw hB hz1 hk1 hS => ?_)
      rw [ht, if_neg (by decide)] at hB
      have hP := hB
      generalize H1 = H at hP hS ⊢
      have hP : va_P D vwCl [(h0, .inr (13, [.ref (r 0), .ref (r 1), .ref (r 2), .ref (r 3), .ref (r 4), .ref (r 5), .ref (r 6), .ref (r 7), .ref (r 8), .ref (r 9), .ref (r 10), .ref (r 11), .ref (r 12), .ref (r 13), .ref (r 14), .ref (r 15), .int 0, .int 0, .int 1, .int 110, .int 0, .int 0, .int 0, .int 0, .int 0, .int 0, .int 0, .int 0, .int 0, .int 0, .int 2]))] H := hP
      have hD : va_D A [(h0, .inr (13, [.ref (r 0), .ref (r 1), .ref (r 2), .ref (r 3), .ref (r 4), .ref (r 5), .ref (r 6), .ref (r 7), .ref (r 8), .ref (r 9), .ref (r 10), .ref (r 11), .ref (r 12), .ref (r 13), .ref (r 14), .ref (r 15), .int 0, .int 0, .int 1, .int 110, .int 0, .int 0, .int 0, .int 0, .int 0, .int 0, .int 0, .int 0, .int 0, .int 0, .int 2]))] := by rw [← hAe]; exact rg1_D
      obtain rfl : r11 = 1 := hw
      refine lv_if_eq (tgt := 75) hx hb dX7_begin_70 (by decide) (fun c => by first | exact absurd c (by decide) | exact absurd (by decide) c) (fun _ => ?_)
      refine lv_iconst (v := 0) hx hb dX7_begin_73 (by decide) ?_
      have hP9 := hP
      exact W.iret (v := 0) hx hb hr (fun t ht hW => ⟨⟨0, [.ref (r 0), .ref (r 1), .ref (r 2), .ref (r 3), .ref (r 4), .ref (r 5), .ref (r 6), .ref (r 7), .ref (r 8), .ref (r 9), .ref (r 10), .ref (r 11), .ref (r 12), .ref (r 13), .ref (r 14), .ref (r 15), .int 0, .int 0, .int 1, .int 110, .int 0, .int 0, .int 0, .int 0, .int 0, .int 0, .int 0, .int 0, .int 0, .int 0, .int 2], rfl, Or.inl ⟨by simp [c_1, c_7], rfl⟩, by rw [← ht] at hP9; exact hP9⟩, hS.F ht⟩) hS.2.2 dX7_begin_74
    · skip
      refine lv_iconst (v := 1) hx hb dX7_begin_13 (by decide) ?_
      refine lv_goto (tgt := 18) hx hb dX7_begin_14 (by decide) ?_
      refine lv_iconst (v := 1) hx hb dX7_begin_18 (by decide) ?_
      have hFc : ∀ q : Nat, rg1 h0 s.heap.size q → A q := fun q h => h.elim (fun e => by rw [e]; exact hD.2 0 _ rfl) (fun h => hA q (Nat.le_trans hS.1 h))
      refine va_calli (va_runV (As := [.int 1, .int 1]) (rest := []) ⟨hx, hb, hml, hown, hts⟩ (c_X7_isThrown l D h0 r 0 s.heap.size 1 1 (Or.inr rfl)) (cwV 2 hts gX7_begin_X7_isThrown rfl rfl rfl (by decide +kernel) ⟨Nat.le_of_ble_eq_true rfl, Nat.le_of_ble_eq_true rfl⟩) ⟨fun a U g mk q => ⟨q.1, PX7.blind q.2⟩, va_recv hK hP (ci := 13) (q0 := 0) rfl rfl, fun U hU hW => ⟨rfl, PX7.go hP hK hU hW⟩⟩ rfl rfl hl.1 rfl (lv_room (Nat.le_of_ble_eq_true rfl)) dX7_begin_19 ⟨Nat.le_of_ble_eq_true rfl, Nat.le_of_ble_eq_true rfl⟩) hS (fun q _ h => hFc q h) hFc (fun r13 u t H1 locs ht hvm hw hB hz1 hk1 hS => ?_)
      rw [ht, if_neg (by decide)] at hB
      have hP := hB
      generalize H1 = H at hP hS ⊢
      have hP : va_P D vwCl [(h0, .inr (13, [.ref (r 0), .ref (r 1), .ref (r 2), .ref (r 3), .ref (r 4), .ref (r 5), .ref (r 6), .ref (r 7), .ref (r 8), .ref (r 9), .ref (r 10), .ref (r 11), .ref (r 12), .ref (r 13), .ref (r 14), .ref (r 15), .int 0, .int 0, .int 1, .int 110, .int 0, .int 0, .int 0, .int 0, .int 0, .int 0, .int 0, .int 0, .int 0, .int 0, .int 1]))] H := hP
      have hD : va_D A [(h0, .inr (13, [.ref (r 0), .ref (r 1), .ref (r 2), .ref (r 3), .ref (r 4), .ref (r 5), .ref (r 6), .ref (r 7), .ref (r 8), .ref (r 9), .ref (r 10), .ref (r 11), .ref (r 12), .ref (r 13), .ref (r 14), .ref (r 15), .int 0, .int 0, .int 1, .int 110, .int 0, .int 0, .int 0, .int 0, .int 0, .int 0, .int 0, .int 0, .int 0, .int 0, .int 1]))] := by rw [← hAe]; exact rg1_D
      obtain rfl : r13 = 1 := hw
      refine lv_if_ne (tgt := 73) hx hb dX7_begin_22 (by decide) (fun _ => ?_) (fun c => by first | exact absurd (by decide) c | exact absurd c (by decide))
      refine lv_iconst (v := 0) hx hb dX7_begin_73 (by decide) ?_
      have hP9 := hP
      exact W.iret (v := 0) hx hb hr (fun t ht hW => ⟨⟨0, [.ref (r 0), .ref (r 1), .ref (r 2), .ref (r 3), .ref (r 4), .ref (r 5), .ref (r 6), .ref (r 7), .ref (r 8), .ref (r 9), .ref (r 10), .ref (r 11), .ref (r 12), .ref (r 13), .ref (r 14), .ref (r 15), .int 0, .int 0, .int 1, .int 110, .int 0, .int 0, .int 0, .int 0, .int 0, .int 0, .int 0, .int 0, .int 0, .int 0, .int 1], rfl, Or.inr ⟨by simp [c_1, c_7], rfl⟩, by rw [← ht] at hP9; exact hP9⟩, hS.F ht⟩) hS.2.2 dX7_begin_74
set_option maxHeartbeats 4000000 in
set_option maxRecDepth 100000 in
theorem c_X7_cut (l : Launch) (D : va_G) (h0 : Nat) (r : Nat → Nat) (sz : Nat) (a1 : Int32) : Met l yX7_cut wsX7_cut ({ frames := 60, cells := 0, slots := 0, locals := 600 }) (va_Pc [.ref h0, .int a1] (PX7 D h0 r 0 sz)) (va_Qi (fun (r9 : Int32) (u : List Value) => ((¬ bIn a1 1 6 = 0) ∧ r9 = 0 ∧ u[30]? = some (.int 0)) ∨ (¬ (¬ bIn a1 1 6 = 0) ∧ u[30]? = some (.int 1))) (fun u t => va_P D vwCl [(h0, .inr (13, u))] t.heap) (rg1 h0 sz)) 0 0 (rg1 h0 sz) := by
  refine Met.ofW (cc := cX7_cut) (maxL := 4) (ret := (some .int)) (by decide +kernel) rfl ?_
  intro p e s m args below meth c s₁ B hml hv
  obtain ⟨rfl, hsz, hP, hK⟩ := hv
  have hx := B.exec
  have hb := B.bytes
  have hr := B.returns
  have hts := atoms_spec (ws := wsX7_cut) B.pre
  have hown : s.vm.findClass RX7 = some m.cls := findClass_of_methodNamed B.named
  have hlocks := B.notSynchronized
  subst hsz
  have hD : va_D (rg1 h0 s.heap.size) [(h0, .inr (13, [.ref (r 0), .ref (r 1), .ref (r 2), .ref (r 3), .ref (r 4), .ref (r 5), .ref (r 6), .ref (r 7), .ref (r 8), .ref (r 9), .ref (r 10), .ref (r 11), .ref (r 12), .ref (r 13), .ref (r 14), .ref (r 15), .int 0, .int 0, .int 1, .int 110, .int 0, .int 0, .int 0, .int 0, .int 0, .int 0, .int 0, .int 0, .int 0, .int 0, .int 0]))] := rg1_D
  generalize hAe : rg1 h0 s.heap.size = A at hD ⊢
  have hA : ∀ q : Nat, s.heap.size ≤ q → A q := fun q h => by rw [← hAe]; exact Or.inr h
  have hS : va_S A s.heap s.heap [] := va_S.rf
  have hP : va_P D vwCl [(h0, .inr (13, [.ref (r 0), .ref (r 1), .ref (r 2), .ref (r 3), .ref (r 4), .ref (r 5), .ref (r 6), .ref (r 7), .ref (r 8), .ref (r 9), .ref (r 10), .ref (r 11), .ref (r 12), .ref (r 13), .ref (r 14), .ref (r 15), .int 0, .int 0, .int 1, .int 110, .int 0, .int 0, .int 0, .int 0, .int 0, .int 0, .int 0, .int 0, .int 0, .int 0, .int 0]))] s.heap := hP
  have hl := lv_entry ([.ref h0, .int a1]) (n := 4) (Nat.le_of_ble_eq_true rfl)
  rw [lg_entry_eq]
  generalize (lg_sl ([.ref h0, .int a1]) ++ List.replicate (4 - (lg_sl ([.ref h0, .int a1])).length) Slot.unset).toArray = ls at hl ⊢
  have hl : lv_has ls 4 [(0, .ref h0), (1, .int a1)] := hl
  refine lv_aload_n hx hb dX7_cut_0 rfl (lv_at hl 0 rfl) ?_
  refine lv_iload_n hx hb dX7_cut_1 rfl (lv_at hl 1 rfl) ?_
  refine lv_iconst (v := 1) hx hb dX7_cut_2 (by decide) ?_
  refine lv_bipush (v := 6) hx hb dX7_cut_3 (by decide) ?_
  refine va_calli (va_runS (As := [.int a1, .int 1, .int 6]) (rest := [.ref h0]) ⟨hx, hb, hml, hown, hts⟩ (c_X7_isIn l s.heap.size a1 1 6) (va_cwS 3 hts gX7_cut_X7_isIn rfl rfl rfl (by decide +kernel) ⟨Nat.le_of_ble_eq_true rfl, Nat.le_of_ble_eq_true rfl⟩) ⟨fun a U g mk q => q, fun U hU hW => ⟨rfl, congrArg Array.size hU⟩⟩ rfl rfl hl.1 rfl (lv_room (Nat.le_of_ble_eq_true rfl)) dX7_cut_5 ⟨Nat.le_of_ble_eq_true rfl, Nat.le_of_ble_eq_true rfl⟩) hS (fun q h1 h2 => absurd h1 (Nat.not_lt.mpr h2)) (fun q h => hA q (Nat.le_trans hS.1 h)) (fun r1 u t H1 locs ht hvm hw hB hz1 hk1 hS => ?_)
  have hP := va_kept0 hP hk1
  generalize H1 = H at hP hS ⊢
  have hP : va_P D vwCl [(h0, .inr (13, [.ref (r 0), .ref (r 1), .ref (r 2), .ref (r 3), .ref (r 4), .ref (r 5), .ref (r 6), .ref (r 7), .ref (r 8), .ref (r 9), .ref (r 10), .ref (r 11), .ref (r 12), .ref (r 13), .ref (r 14), .ref (r 15), .int 0, .int 0, .int 1, .int 110, .int 0, .int 0, .int 0, .int 0, .int 0, .int 0, .int 0, .int 0, .int 0, .int 0, .int 0]))] H := hP
  obtain rfl : r1 = bIn a1 1 6 := hw
  refine lv_if_ne (tgt := 15) hx hb dX7_cut_8 (by decide) (fun c_2 => ?_) (fun c_2 => ?_)
  · skip
    refine lv_iconst (v := 0) hx hb dX7_cut_15 (by decide) ?_
    refine lv_iconst (v := 1) hx hb dX7_cut_16 (by decide) ?_
    have hFc : ∀ q : Nat, rg1 h0 H.size q → A q := fun q h => h.elim (fun e => by rw [e]; exact hD.2 0 _ rfl) (fun h => hA q (Nat.le_trans hS.1 h))
    refine va_calli (va_runV (As := [.int 0, .int 1]) (rest := []) ⟨hx, hb, hml, hown, hts⟩ (c_X7_isThrown l D h0 r 0 H.size 0 1 (Or.inl rfl)) (cwV 2 hts gX7_cut_X7_isThrown rfl rfl rfl (by decide +kernel) ⟨Nat.le_of_ble_eq_true rfl, Nat.le_of_ble_eq_true rfl⟩) ⟨fun a U g mk q => ⟨q.1, PX7.blind q.2⟩, va_recv hK hP (ci := 13) (q0 := 0) rfl rfl, fun U hU hW => ⟨rfl, PX7.go hP hK hU hW⟩⟩ rfl rfl hl.1 rfl (lv_room (Nat.le_of_ble_eq_true rfl)) dX7_cut_17 ⟨Nat.le_of_ble_eq_true rfl, Nat.le_of_ble_eq_true rfl⟩) hS (fun q _ h => hFc q h) hFc (fun r3 u t H1 locs ht hvm hw hB hz1 hk1 hS => ?_)
    rw [ht, if_pos (by decide)] at hB
    have hP := hB
    generalize H1 = H at hP hS ⊢
    have hP : va_P D vwCl [(h0, .inr (13, [.ref (r 0), .ref (r 1), .ref (r 2), .ref (r 3), .ref (r 4), .ref (r 5), .ref (r 6), .ref (r 7), .ref (r 8), .ref (r 9), .ref (r 10), .ref (r 11), .ref (r 12), .ref (r 13), .ref (r 14), .ref (r 15), .int 0, .int 0, .int 1, .int 110, .int 0, .int 0, .int 0, .int 0, .int 0, .int 0, .int 0, .int 0, .int 0, .int 0, .int 0]))] H := hP
    have hD : va_D A [(h0, .inr (13, [.ref (r 0), .ref (r 1), .ref (r 2), .ref (r 3), .ref (r 4), .ref (r 5), .ref (r 6), .ref (r 7), .ref (r 8), .ref (r 9), .ref (r 10), .ref (r 11), .ref (r 12), .ref (r 13), .ref (r 14), .ref (r 15), .int 0, .int 0, .int 1, .int 110, .int 0, .int 0, .int 0, .int 0, .int 0, .int 0, .int 0, .int 0, .int 0, .int 0, .int 0]))] := by rw [← hAe]; exact rg1_D
    obtain rfl : r3 = 0 := hw
    refine lv_if_eq (tgt := 25) hx hb dX7_cut_20 (by decide) (fun _ => ?_) (fun c => by first | exact absurd (by decide) c | exact absurd c (by decide))
    refine lv_iconst (v := 0) hx hb dX7_cut_25 (by decide) ?_
    refine lv_istore_n (lv' := [(2, .int 0), (0, .ref h0), (1, .int a1)]) hx hb dX7_cut_26 rfl hl (by decide) rfl (fun ls hl => ?_)
    refine lv_iconst (v := 0) hx hb dX7_cut_27 (by decide) ?_
    refine lv_istore_n (lv' := [(3, .int 0), (2, .int 0), (0, .ref h0), (1, .int a1)]) hx hb dX7_cut_28 rfl hl (by decide) rfl (fun ls hl => ?_)
    refine lv_iload_n hx hb dX7_cut_29 rfl (lv_at hl 0 rfl) ?_
    refine lv_aload_n hx hb dX7_cut_30 rfl (lv_at hl 2 rfl) ?_
    refine va_get (D := D) (ci := 13) (v := .int 0) (C := RX7) (T := TX7) (N := 31) hx hb hts (by decide +kernel) hown hK hP 0 rfl rfl 17 (by decide) (hts (.fieldLink RX7 89 "FairwayChanceryModel" "players" "I") (by decide +kernel)) (fun _ h9 => h9) rfl dX7_cut_31 ?_
    refine lv_icmp_ge (tgt := 68) hx hb dX7_cut_34 (by decide) (fun _ => ?_) (fun c => by first | exact absurd (by decide) c | exact absurd c (by decide))
    refine lv_iload_n hx hb dX7_cut_68 rfl (lv_at hl 1 rfl) ?_
    have hP9 := hP
    exact W.iret (v := 0) hx hb hr (fun t ht hW => ⟨⟨0, [.ref (r 0), .ref (r 1), .ref (r 2), .ref (r 3), .ref (r 4), .ref (r 5), .ref (r 6), .ref (r 7), .ref (r 8), .ref (r 9), .ref (r 10), .ref (r 11), .ref (r 12), .ref (r 13), .ref (r 14), .ref (r 15), .int 0, .int 0, .int 1, .int 110, .int 0, .int 0, .int 0, .int 0, .int 0, .int 0, .int 0, .int 0, .int 0, .int 0, .int 0], rfl, Or.inl ⟨by have h := c_2; simp only [Int32.lt_iff_toInt_lt, Int32.le_iff_toInt_le, bIn_0, bCell_0, tI_0, tI_1, tI_3, tI_5, tI_6, tI_9, tI_19, tI_20, tI_29, tI_30, tI_36, tI_m1] at h ⊢; omega, rfl, rfl⟩, by rw [← ht] at hP9; exact hP9⟩, hS.F ht⟩) hS.2.2 dX7_cut_69
  · skip
    refine lv_iconst (v := 1) hx hb dX7_cut_11 (by decide) ?_
    refine lv_goto (tgt := 16) hx hb dX7_cut_12 (by decide) ?_
    refine lv_iconst (v := 1) hx hb dX7_cut_16 (by decide) ?_
    have hFc : ∀ q : Nat, rg1 h0 H.size q → A q := fun q h => h.elim (fun e => by rw [e]; exact hD.2 0 _ rfl) (fun h => hA q (Nat.le_trans hS.1 h))
    refine va_calli (va_runV (As := [.int 1, .int 1]) (rest := []) ⟨hx, hb, hml, hown, hts⟩ (c_X7_isThrown l D h0 r 0 H.size 1 1 (Or.inr rfl)) (cwV 2 hts gX7_cut_X7_isThrown rfl rfl rfl (by decide +kernel) ⟨Nat.le_of_ble_eq_true rfl, Nat.le_of_ble_eq_true rfl⟩) ⟨fun a U g mk q => ⟨q.1, PX7.blind q.2⟩, va_recv hK hP (ci := 13) (q0 := 0) rfl rfl, fun U hU hW => ⟨rfl, PX7.go hP hK hU hW⟩⟩ rfl rfl hl.1 rfl (lv_room (Nat.le_of_ble_eq_true rfl)) dX7_cut_17 ⟨Nat.le_of_ble_eq_true rfl, Nat.le_of_ble_eq_true rfl⟩) hS (fun q _ h => hFc q h) hFc (fun r6 u t H1 locs ht hvm hw hB hz1 hk1 hS => ?_)
    rw [ht, if_neg (by decide)] at hB
    have hP := hB
    generalize H1 = H at hP hS ⊢
    have hP : va_P D vwCl [(h0, .inr (13, [.ref (r 0), .ref (r 1), .ref (r 2), .ref (r 3), .ref (r 4), .ref (r 5), .ref (r 6), .ref (r 7), .ref (r 8), .ref (r 9), .ref (r 10), .ref (r 11), .ref (r 12), .ref (r 13), .ref (r 14), .ref (r 15), .int 0, .int 0, .int 1, .int 110, .int 0, .int 0, .int 0, .int 0, .int 0, .int 0, .int 0, .int 0, .int 0, .int 0, .int 1]))] H := hP
    have hD : va_D A [(h0, .inr (13, [.ref (r 0), .ref (r 1), .ref (r 2), .ref (r 3), .ref (r 4), .ref (r 5), .ref (r 6), .ref (r 7), .ref (r 8), .ref (r 9), .ref (r 10), .ref (r 11), .ref (r 12), .ref (r 13), .ref (r 14), .ref (r 15), .int 0, .int 0, .int 1, .int 110, .int 0, .int 0, .int 0, .int 0, .int 0, .int 0, .int 0, .int 0, .int 0, .int 0, .int 1]))] := by rw [← hAe]; exact rg1_D
    obtain rfl : r6 = 1 := hw
    refine lv_if_eq (tgt := 25) hx hb dX7_cut_20 (by decide) (fun c => by first | exact absurd c (by decide) | exact absurd (by decide) c) (fun _ => ?_)
    refine lv_iconst (v := 0) hx hb dX7_cut_23 (by decide) ?_
    have hP9 := hP
    exact W.iret (v := 0) hx hb hr (fun t ht hW => ⟨⟨0, [.ref (r 0), .ref (r 1), .ref (r 2), .ref (r 3), .ref (r 4), .ref (r 5), .ref (r 6), .ref (r 7), .ref (r 8), .ref (r 9), .ref (r 10), .ref (r 11), .ref (r 12), .ref (r 13), .ref (r 14), .ref (r 15), .int 0, .int 0, .int 1, .int 110, .int 0, .int 0, .int 0, .int 0, .int 0, .int 0, .int 0, .int 0, .int 0, .int 0, .int 1], rfl, Or.inr ⟨by have h := c_2; simp only [Int32.lt_iff_toInt_lt, Int32.le_iff_toInt_le, bIn_0, bCell_0, tI_0, tI_1, tI_3, tI_5, tI_6, tI_9, tI_19, tI_20, tI_29, tI_30, tI_36, tI_m1] at h ⊢; omega, rfl⟩, by rw [← ht] at hP9; exact hP9⟩, hS.F ht⟩) hS.2.2 dX7_cut_24
set_option maxHeartbeats 4000000 in
set_option maxRecDepth 100000 in
theorem c_X7_conditions (l : Launch) (D : va_G) (h0 : Nat) (r : Nat → Nat) (sz : Nat) (a1 : Int32) : Met l yX7_conditions wsX7_conditions ({ frames := 60, cells := 0, slots := 0, locals := 600 }) (va_Pc [.ref h0, .int a1] (PX7 D h0 r 0 sz)) (va_Qi (fun (r9 : Int32) (u : List Value) => ((¬ bIn a1 (-1) 3 = 0) ∧ r9 = 0 ∧ u[30]? = some (.int 0)) ∨ (¬ (¬ bIn a1 (-1) 3 = 0) ∧ u[30]? = some (.int 1))) (fun u t => va_P D vwCl [(h0, .inr (13, u))] t.heap) (rg1 h0 sz)) 0 0 (rg1 h0 sz) := by
  refine Met.ofW (cc := cX7_conditions) (maxL := 3) (ret := (some .int)) (by decide +kernel) rfl ?_
  intro p e s m args below meth c s₁ B hml hv
  obtain ⟨rfl, hsz, hP, hK⟩ := hv
  have hx := B.exec
  have hb := B.bytes
  have hr := B.returns
  have hts := atoms_spec (ws := wsX7_conditions) B.pre
  have hown : s.vm.findClass RX7 = some m.cls := findClass_of_methodNamed B.named
  have hlocks := B.notSynchronized
  subst hsz
  have hD : va_D (rg1 h0 s.heap.size) [(h0, .inr (13, [.ref (r 0), .ref (r 1), .ref (r 2), .ref (r 3), .ref (r 4), .ref (r 5), .ref (r 6), .ref (r 7), .ref (r 8), .ref (r 9), .ref (r 10), .ref (r 11), .ref (r 12), .ref (r 13), .ref (r 14), .ref (r 15), .int 0, .int 0, .int 1, .int 110, .int 0, .int 0, .int 0, .int 0, .int 0, .int 0, .int 0, .int 0, .int 0, .int 0, .int 0]))] := rg1_D
  generalize hAe : rg1 h0 s.heap.size = A at hD ⊢
  have hA : ∀ q : Nat, s.heap.size ≤ q → A q := fun q h => by rw [← hAe]; exact Or.inr h
  have hS : va_S A s.heap s.heap [] := va_S.rf
  have hP : va_P D vwCl [(h0, .inr (13, [.ref (r 0), .ref (r 1), .ref (r 2), .ref (r 3), .ref (r 4), .ref (r 5), .ref (r 6), .ref (r 7), .ref (r 8), .ref (r 9), .ref (r 10), .ref (r 11), .ref (r 12), .ref (r 13), .ref (r 14), .ref (r 15), .int 0, .int 0, .int 1, .int 110, .int 0, .int 0, .int 0, .int 0, .int 0, .int 0, .int 0, .int 0, .int 0, .int 0, .int 0]))] s.heap := hP
  have hl := lv_entry ([.ref h0, .int a1]) (n := 3) (Nat.le_of_ble_eq_true rfl)
  rw [lg_entry_eq]
  generalize (lg_sl ([.ref h0, .int a1]) ++ List.replicate (3 - (lg_sl ([.ref h0, .int a1])).length) Slot.unset).toArray = ls at hl ⊢
  have hl : lv_has ls 3 [(0, .ref h0), (1, .int a1)] := hl
  refine lv_aload_n hx hb dX7_conditions_0 rfl (lv_at hl 0 rfl) ?_
  refine lv_iload_n hx hb dX7_conditions_1 rfl (lv_at hl 1 rfl) ?_
  refine lv_iconst (v := (-1)) hx hb dX7_conditions_2 (by decide) ?_
  refine lv_iconst (v := 3) hx hb dX7_conditions_3 (by decide) ?_
  refine va_calli (va_runS (As := [.int a1, .int (-1), .int 3]) (rest := [.ref h0]) ⟨hx, hb, hml, hown, hts⟩ (c_X7_isIn l s.heap.size a1 (-1) 3) (va_cwS 3 hts gX7_conditions_X7_isIn rfl rfl rfl (by decide +kernel) ⟨Nat.le_of_ble_eq_true rfl, Nat.le_of_ble_eq_true rfl⟩) ⟨fun a U g mk q => q, fun U hU hW => ⟨rfl, congrArg Array.size hU⟩⟩ rfl rfl hl.1 rfl (lv_room (Nat.le_of_ble_eq_true rfl)) dX7_conditions_4 ⟨Nat.le_of_ble_eq_true rfl, Nat.le_of_ble_eq_true rfl⟩) hS (fun q h1 h2 => absurd h1 (Nat.not_lt.mpr h2)) (fun q h => hA q (Nat.le_trans hS.1 h)) (fun r1 u t H1 locs ht hvm hw hB hz1 hk1 hS => ?_)
  have hP := va_kept0 hP hk1
  generalize H1 = H at hP hS ⊢
  have hP : va_P D vwCl [(h0, .inr (13, [.ref (r 0), .ref (r 1), .ref (r 2), .ref (r 3), .ref (r 4), .ref (r 5), .ref (r 6), .ref (r 7), .ref (r 8), .ref (r 9), .ref (r 10), .ref (r 11), .ref (r 12), .ref (r 13), .ref (r 14), .ref (r 15), .int 0, .int 0, .int 1, .int 110, .int 0, .int 0, .int 0, .int 0, .int 0, .int 0, .int 0, .int 0, .int 0, .int 0, .int 0]))] H := hP
  obtain rfl : r1 = bIn a1 (-1) 3 := hw
  refine lv_if_ne (tgt := 14) hx hb dX7_conditions_7 (by decide) (fun c_2 => ?_) (fun c_2 => ?_)
  · skip
    refine lv_iconst (v := 0) hx hb dX7_conditions_14 (by decide) ?_
    refine lv_iconst (v := 1) hx hb dX7_conditions_15 (by decide) ?_
    have hFc : ∀ q : Nat, rg1 h0 H.size q → A q := fun q h => h.elim (fun e => by rw [e]; exact hD.2 0 _ rfl) (fun h => hA q (Nat.le_trans hS.1 h))
    refine va_calli (va_runV (As := [.int 0, .int 1]) (rest := []) ⟨hx, hb, hml, hown, hts⟩ (c_X7_isThrown l D h0 r 0 H.size 0 1 (Or.inl rfl)) (cwV 2 hts gX7_conditions_X7_isThrown rfl rfl rfl (by decide +kernel) ⟨Nat.le_of_ble_eq_true rfl, Nat.le_of_ble_eq_true rfl⟩) ⟨fun a U g mk q => ⟨q.1, PX7.blind q.2⟩, va_recv hK hP (ci := 13) (q0 := 0) rfl rfl, fun U hU hW => ⟨rfl, PX7.go hP hK hU hW⟩⟩ rfl rfl hl.1 rfl (lv_room (Nat.le_of_ble_eq_true rfl)) dX7_conditions_16 ⟨Nat.le_of_ble_eq_true rfl, Nat.le_of_ble_eq_true rfl⟩) hS (fun q _ h => hFc q h) hFc (fun r3 u t H1 locs ht hvm hw hB hz1 hk1 hS => ?_)
    rw [ht, if_pos (by decide)] at hB
    have hP := hB
    generalize H1 = H at hP hS ⊢
    have hP : va_P D vwCl [(h0, .inr (13, [.ref (r 0), .ref (r 1), .ref (r 2), .ref (r 3), .ref (r 4), .ref (r 5), .ref (r 6), .ref (r 7), .ref (r 8), .ref (r 9), .ref (r 10), .ref (r 11), .ref (r 12), .ref (r 13), .ref (r 14), .ref (r 15), .int 0, .int 0, .int 1, .int 110, .int 0, .int 0, .int 0, .int 0, .int 0, .int 0, .int 0, .int 0, .int 0, .int 0, .int 0]))] H := hP
    have hD : va_D A [(h0, .inr (13, [.ref (r 0), .ref (r 1), .ref (r 2), .ref (r 3), .ref (r 4), .ref (r 5), .ref (r 6), .ref (r 7), .ref (r 8), .ref (r 9), .ref (r 10), .ref (r 11), .ref (r 12), .ref (r 13), .ref (r 14), .ref (r 15), .int 0, .int 0, .int 1, .int 110, .int 0, .int 0, .int 0, .int 0, .int 0, .int 0, .int 0, .int 0, .int 0, .int 0, .int 0]))] := by rw [← hAe]; exact rg1_D
    obtain rfl : r3 = 0 := hw
    refine lv_if_eq (tgt := 24) hx hb dX7_conditions_19 (by decide) (fun _ => ?_) (fun c => by first | exact absurd (by decide) c | exact absurd c (by decide))
    refine lv_aload_n hx hb dX7_conditions_24 rfl (lv_at hl 0 rfl) ?_
    refine va_get (D := D) (ci := 13) (v := .int 0) (C := RX7) (T := TX7) (N := 31) hx hb hts (by decide +kernel) hown hK hP 0 rfl rfl 29 (by decide) (hts (.fieldLink RX7 278 "FairwayChanceryModel" "conditions" "I") (by decide +kernel)) (fun _ h9 => h9) rfl dX7_conditions_25 ?_
    refine lv_istore_n (lv' := [(2, .int 0), (0, .ref h0), (1, .int a1)]) hx hb dX7_conditions_28 rfl hl (by decide) rfl (fun ls hl => ?_)
    refine lv_aload_n hx hb dX7_conditions_29 rfl (lv_at hl 1 rfl) ?_
    refine lv_iload_n hx hb dX7_conditions_30 rfl (lv_at hl 2 rfl) ?_
    refine va_put (D := D) (ci := 13) (v := .int a1) (ty := .int) (C := RX7) (T := TX7) (N := 31) hx hb hts (by decide +kernel) tyX7 tyX7_ok nmX7 hown hK hP hD hS 0 rfl rfl 29 (by decide) (hts (.fieldLink RX7 278 "FairwayChanceryModel" "conditions" "I") (by decide +kernel)) (fun _ h9 => h9) rfl (by decide +kernel) rfl rfl (Nat.le_of_ble_eq_true rfl) dX7_conditions_31 (fun H locs hP hD hS => ?_)
    have hP : va_P D vwCl [(h0, .inr (13, [.ref (r 0), .ref (r 1), .ref (r 2), .ref (r 3), .ref (r 4), .ref (r 5), .ref (r 6), .ref (r 7), .ref (r 8), .ref (r 9), .ref (r 10), .ref (r 11), .ref (r 12), .ref (r 13), .ref (r 14), .ref (r 15), .int 0, .int 0, .int 1, .int 110, .int 0, .int 0, .int 0, .int 0, .int 0, .int 0, .int 0, .int 0, .int 0, .int a1, .int 0]))] H := hP
    have hD : va_D A [(h0, .inr (13, [.ref (r 0), .ref (r 1), .ref (r 2), .ref (r 3), .ref (r 4), .ref (r 5), .ref (r 6), .ref (r 7), .ref (r 8), .ref (r 9), .ref (r 10), .ref (r 11), .ref (r 12), .ref (r 13), .ref (r 14), .ref (r 15), .int 0, .int 0, .int 1, .int 110, .int 0, .int 0, .int 0, .int 0, .int 0, .int 0, .int 0, .int 0, .int 0, .int a1, .int 0]))] := hD
    refine lv_iload_n hx hb dX7_conditions_34 rfl (lv_at hl 0 rfl) ?_
    have hP9 := hP
    exact W.iret (v := 0) hx hb hr (fun t ht hW => ⟨⟨0, [.ref (r 0), .ref (r 1), .ref (r 2), .ref (r 3), .ref (r 4), .ref (r 5), .ref (r 6), .ref (r 7), .ref (r 8), .ref (r 9), .ref (r 10), .ref (r 11), .ref (r 12), .ref (r 13), .ref (r 14), .ref (r 15), .int 0, .int 0, .int 1, .int 110, .int 0, .int 0, .int 0, .int 0, .int 0, .int 0, .int 0, .int 0, .int 0, .int a1, .int 0], rfl, Or.inl ⟨by have h := c_2; simp only [Int32.lt_iff_toInt_lt, Int32.le_iff_toInt_le, bIn_0, bCell_0, tI_0, tI_1, tI_3, tI_5, tI_6, tI_9, tI_19, tI_20, tI_29, tI_30, tI_36, tI_m1] at h ⊢; omega, rfl, rfl⟩, by rw [← ht] at hP9; exact hP9⟩, hS.F ht⟩) hS.2.2 dX7_conditions_35
  · skip
    refine lv_iconst (v := 1) hx hb dX7_conditions_10 (by decide) ?_
    refine lv_goto (tgt := 15) hx hb dX7_conditions_11 (by decide) ?_
    refine lv_iconst (v := 1) hx hb dX7_conditions_15 (by decide) ?_
    have hFc : ∀ q : Nat, rg1 h0 H.size q → A q := fun q h => h.elim (fun e => by rw [e]; exact hD.2 0 _ rfl) (fun h => hA q (Nat.le_trans hS.1 h))
    refine va_calli (va_runV (As := [.int 1, .int 1]) (rest := []) ⟨hx, hb, hml, hown, hts⟩ (c_X7_isThrown l D h0 r 0 H.size 1 1 (Or.inr rfl)) (cwV 2 hts gX7_conditions_X7_isThrown rfl rfl rfl (by decide +kernel) ⟨Nat.le_of_ble_eq_true rfl, Nat.le_of_ble_eq_true rfl⟩) ⟨fun a U g mk q => ⟨q.1, PX7.blind q.2⟩, va_recv hK hP (ci := 13) (q0 := 0) rfl rfl, fun U hU hW => ⟨rfl, PX7.go hP hK hU hW⟩⟩ rfl rfl hl.1 rfl (lv_room (Nat.le_of_ble_eq_true rfl)) dX7_conditions_16 ⟨Nat.le_of_ble_eq_true rfl, Nat.le_of_ble_eq_true rfl⟩) hS (fun q _ h => hFc q h) hFc (fun r5 u t H1 locs ht hvm hw hB hz1 hk1 hS => ?_)
    rw [ht, if_neg (by decide)] at hB
    have hP := hB
    generalize H1 = H at hP hS ⊢
    have hP : va_P D vwCl [(h0, .inr (13, [.ref (r 0), .ref (r 1), .ref (r 2), .ref (r 3), .ref (r 4), .ref (r 5), .ref (r 6), .ref (r 7), .ref (r 8), .ref (r 9), .ref (r 10), .ref (r 11), .ref (r 12), .ref (r 13), .ref (r 14), .ref (r 15), .int 0, .int 0, .int 1, .int 110, .int 0, .int 0, .int 0, .int 0, .int 0, .int 0, .int 0, .int 0, .int 0, .int 0, .int 1]))] H := hP
    have hD : va_D A [(h0, .inr (13, [.ref (r 0), .ref (r 1), .ref (r 2), .ref (r 3), .ref (r 4), .ref (r 5), .ref (r 6), .ref (r 7), .ref (r 8), .ref (r 9), .ref (r 10), .ref (r 11), .ref (r 12), .ref (r 13), .ref (r 14), .ref (r 15), .int 0, .int 0, .int 1, .int 110, .int 0, .int 0, .int 0, .int 0, .int 0, .int 0, .int 0, .int 0, .int 0, .int 0, .int 1]))] := by rw [← hAe]; exact rg1_D
    obtain rfl : r5 = 1 := hw
    refine lv_if_eq (tgt := 24) hx hb dX7_conditions_19 (by decide) (fun c => by first | exact absurd c (by decide) | exact absurd (by decide) c) (fun _ => ?_)
    refine lv_iconst (v := 0) hx hb dX7_conditions_22 (by decide) ?_
    have hP9 := hP
    exact W.iret (v := 0) hx hb hr (fun t ht hW => ⟨⟨0, [.ref (r 0), .ref (r 1), .ref (r 2), .ref (r 3), .ref (r 4), .ref (r 5), .ref (r 6), .ref (r 7), .ref (r 8), .ref (r 9), .ref (r 10), .ref (r 11), .ref (r 12), .ref (r 13), .ref (r 14), .ref (r 15), .int 0, .int 0, .int 1, .int 110, .int 0, .int 0, .int 0, .int 0, .int 0, .int 0, .int 0, .int 0, .int 0, .int 0, .int 1], rfl, Or.inr ⟨by have h := c_2; simp only [Int32.lt_iff_toInt_lt, Int32.le_iff_toInt_le, bIn_0, bCell_0, tI_0, tI_1, tI_3, tI_5, tI_6, tI_9, tI_19, tI_20, tI_29, tI_30, tI_36, tI_m1] at h ⊢; omega, rfl⟩, by rw [← ht] at hP9; exact hP9⟩, hS.F ht⟩) hS.2.2 dX7_conditions_23
set_option maxHeartbeats 4000000 in
set_option maxRecDepth 100000 in
theorem c_X7_player (l : Launch) (D : va_G) (h0 : Nat) (r : Nat → Nat) (sz : Nat) : Met l yX7_player wsX7_player ({ frames := 60, cells := 0, slots := 0, locals := 600 }) (va_Pc [.ref h0] (PX7 D h0 r 0 sz)) (va_Qi (fun (r9 : Int32) (u : List Value) => r9 = 0 ∧ u[30]? = some (.int 0)) (fun u t => va_P D vwCl [(h0, .inr (13, u))] t.heap) (rg1 h0 sz)) 0 0 (rg1 h0 sz) := by
  refine Met.ofW (cc := cX7_player) (maxL := 1) (ret := (some .int)) (by decide +kernel) rfl ?_
  intro p e s m args below meth c s₁ B hml hv
  obtain ⟨rfl, hsz, hP, hK⟩ := hv
  have hx := B.exec
  have hb := B.bytes
  have hr := B.returns
  have hts := atoms_spec (ws := wsX7_player) B.pre
  have hown : s.vm.findClass RX7 = some m.cls := findClass_of_methodNamed B.named
  have hlocks := B.notSynchronized
  subst hsz
  have hD : va_D (rg1 h0 s.heap.size) [(h0, .inr (13, [.ref (r 0), .ref (r 1), .ref (r 2), .ref (r 3), .ref (r 4), .ref (r 5), .ref (r 6), .ref (r 7), .ref (r 8), .ref (r 9), .ref (r 10), .ref (r 11), .ref (r 12), .ref (r 13), .ref (r 14), .ref (r 15), .int 0, .int 0, .int 1, .int 110, .int 0, .int 0, .int 0, .int 0, .int 0, .int 0, .int 0, .int 0, .int 0, .int 0, .int 0]))] := rg1_D
  generalize hAe : rg1 h0 s.heap.size = A at hD ⊢
  have hA : ∀ q : Nat, s.heap.size ≤ q → A q := fun q h => by rw [← hAe]; exact Or.inr h
  have hS : va_S A s.heap s.heap [] := va_S.rf
  have hP : va_P D vwCl [(h0, .inr (13, [.ref (r 0), .ref (r 1), .ref (r 2), .ref (r 3), .ref (r 4), .ref (r 5), .ref (r 6), .ref (r 7), .ref (r 8), .ref (r 9), .ref (r 10), .ref (r 11), .ref (r 12), .ref (r 13), .ref (r 14), .ref (r 15), .int 0, .int 0, .int 1, .int 110, .int 0, .int 0, .int 0, .int 0, .int 0, .int 0, .int 0, .int 0, .int 0, .int 0, .int 0]))] s.heap := hP
  have hl := lv_entry ([.ref h0]) (n := 1) (Nat.le_of_ble_eq_true rfl)
  rw [lg_entry_eq]
  generalize (lg_sl ([.ref h0]) ++ List.replicate (1 - (lg_sl ([.ref h0])).length) Slot.unset).toArray = ls at hl ⊢
  have hl : lv_has ls 1 [(0, .ref h0)] := hl
  refine lv_aload_n hx hb dX7_player_0 rfl (lv_at hl 0 rfl) ?_
  refine lv_aload_n hx hb dX7_player_1 rfl (lv_at hl 0 rfl) ?_
  refine va_get (D := D) (ci := 13) (v := .int 0) (C := RX7) (T := TX7) (N := 31) hx hb hts (by decide +kernel) hown hK hP 0 rfl rfl 17 (by decide) (hts (.fieldLink RX7 89 "FairwayChanceryModel" "players" "I") (by decide +kernel)) (fun _ h9 => h9) rfl dX7_player_2 ?_
  refine lv_bipush (v := 6) hx hb dX7_player_5 (by decide) ?_
  refine lv_icmp_eq (tgt := 17) hx hb dX7_player_7 (by decide) (fun c => by first | exact absurd c (by decide) | exact absurd (by decide) c) (fun _ => ?_)
  refine lv_aload_n hx hb dX7_player_10 rfl (lv_at hl 0 rfl) ?_
  refine va_get (D := D) (ci := 13) (v := .int 0) (C := RX7) (T := TX7) (N := 31) hx hb hts (by decide +kernel) hown hK hP 0 rfl rfl 21 (by decide) (hts (.fieldLink RX7 114 "FairwayChanceryModel" "wasBegun" "Z") (by decide +kernel)) (fun _ h9 => h9) rfl dX7_player_11 ?_
  refine lv_if_eq (tgt := 21) hx hb dX7_player_14 (by decide) (fun _ => ?_) (fun c => by first | exact absurd (by decide) c | exact absurd c (by decide))
  refine lv_iconst (v := 0) hx hb dX7_player_21 (by decide) ?_
  refine lv_iconst (v := 1) hx hb dX7_player_22 (by decide) ?_
  have hFc : ∀ q : Nat, rg1 h0 s.heap.size q → A q := fun q h => h.elim (fun e => by rw [e]; exact hD.2 0 _ rfl) (fun h => hA q (Nat.le_trans hS.1 h))
  refine va_calli (va_runV (As := [.int 0, .int 1]) (rest := []) ⟨hx, hb, hml, hown, hts⟩ (c_X7_isThrown l D h0 r 0 s.heap.size 0 1 (Or.inl rfl)) (cwV 2 hts gX7_player_X7_isThrown rfl rfl rfl (by decide +kernel) ⟨Nat.le_of_ble_eq_true rfl, Nat.le_of_ble_eq_true rfl⟩) ⟨fun a U g mk q => ⟨q.1, PX7.blind q.2⟩, va_recv hK hP (ci := 13) (q0 := 0) rfl rfl, fun U hU hW => ⟨rfl, PX7.go hP hK hU hW⟩⟩ rfl rfl hl.1 rfl (lv_room (Nat.le_of_ble_eq_true rfl)) dX7_player_23 ⟨Nat.le_of_ble_eq_true rfl, Nat.le_of_ble_eq_true rfl⟩) hS (fun q _ h => hFc q h) hFc (fun r3 u t H1 locs ht hvm hw hB hz1 hk1 hS => ?_)
  rw [ht, if_pos (by decide)] at hB
  have hP := hB
  generalize H1 = H at hP hS ⊢
  have hP : va_P D vwCl [(h0, .inr (13, [.ref (r 0), .ref (r 1), .ref (r 2), .ref (r 3), .ref (r 4), .ref (r 5), .ref (r 6), .ref (r 7), .ref (r 8), .ref (r 9), .ref (r 10), .ref (r 11), .ref (r 12), .ref (r 13), .ref (r 14), .ref (r 15), .int 0, .int 0, .int 1, .int 110, .int 0, .int 0, .int 0, .int 0, .int 0, .int 0, .int 0, .int 0, .int 0, .int 0, .int 0]))] H := hP
  have hD : va_D A [(h0, .inr (13, [.ref (r 0), .ref (r 1), .ref (r 2), .ref (r 3), .ref (r 4), .ref (r 5), .ref (r 6), .ref (r 7), .ref (r 8), .ref (r 9), .ref (r 10), .ref (r 11), .ref (r 12), .ref (r 13), .ref (r 14), .ref (r 15), .int 0, .int 0, .int 1, .int 110, .int 0, .int 0, .int 0, .int 0, .int 0, .int 0, .int 0, .int 0, .int 0, .int 0, .int 0]))] := by rw [← hAe]; exact rg1_D
  obtain rfl : r3 = 0 := hw
  refine lv_if_eq (tgt := 31) hx hb dX7_player_26 (by decide) (fun _ => ?_) (fun c => by first | exact absurd (by decide) c | exact absurd c (by decide))
  refine lv_aload_n hx hb dX7_player_31 rfl (lv_at hl 0 rfl) ?_
  refine lv_dup hx hb dX7_player_32 rfl ?_
  refine va_get (D := D) (ci := 13) (v := .int 0) (C := RX7) (T := TX7) (N := 31) hx hb hts (by decide +kernel) hown hK hP 0 rfl rfl 17 (by decide) (hts (.fieldLink RX7 89 "FairwayChanceryModel" "players" "I") (by decide +kernel)) (fun _ h9 => h9) rfl dX7_player_33 ?_
  refine lv_iconst (v := 1) hx hb dX7_player_36 (by decide) ?_
  refine lv_iadd hx hb dX7_player_37 ?_
  refine lv_topi (fun y5 ey5 => ?_)
  obtain rfl : y5 = 1 := ey5.trans (by decide)
  refine va_put (D := D) (ci := 13) (v := .int 1) (ty := .int) (C := RX7) (T := TX7) (N := 31) hx hb hts (by decide +kernel) tyX7 tyX7_ok nmX7 hown hK hP hD hS 0 rfl rfl 17 (by decide) (hts (.fieldLink RX7 89 "FairwayChanceryModel" "players" "I") (by decide +kernel)) (fun _ h9 => h9) rfl (by decide +kernel) rfl rfl (Nat.le_of_ble_eq_true rfl) dX7_player_38 (fun H locs hP hD hS => ?_)
  have hP : va_P D vwCl [(h0, .inr (13, [.ref (r 0), .ref (r 1), .ref (r 2), .ref (r 3), .ref (r 4), .ref (r 5), .ref (r 6), .ref (r 7), .ref (r 8), .ref (r 9), .ref (r 10), .ref (r 11), .ref (r 12), .ref (r 13), .ref (r 14), .ref (r 15), .int 0, .int 1, .int 1, .int 110, .int 0, .int 0, .int 0, .int 0, .int 0, .int 0, .int 0, .int 0, .int 0, .int 0, .int 0]))] H := hP
  have hD : va_D A [(h0, .inr (13, [.ref (r 0), .ref (r 1), .ref (r 2), .ref (r 3), .ref (r 4), .ref (r 5), .ref (r 6), .ref (r 7), .ref (r 8), .ref (r 9), .ref (r 10), .ref (r 11), .ref (r 12), .ref (r 13), .ref (r 14), .ref (r 15), .int 0, .int 1, .int 1, .int 110, .int 0, .int 0, .int 0, .int 0, .int 0, .int 0, .int 0, .int 0, .int 0, .int 0, .int 0]))] := hD
  refine lv_aload_n hx hb dX7_player_41 rfl (lv_at hl 0 rfl) ?_
  refine va_get (D := D) (ci := 13) (v := .int 1) (C := RX7) (T := TX7) (N := 31) hx hb hts (by decide +kernel) hown hK hP 0 rfl rfl 17 (by decide) (hts (.fieldLink RX7 89 "FairwayChanceryModel" "players" "I") (by decide +kernel)) (fun _ h9 => h9) rfl dX7_player_42 ?_
  refine lv_iconst (v := 1) hx hb dX7_player_45 (by decide) ?_
  refine lv_isub hx hb dX7_player_46 ?_
  refine lv_topi (fun y6 ey6 => ?_)
  obtain rfl : y6 = 0 := ey6.trans (by decide)
  have hP9 := hP
  exact W.iret (v := 0) hx hb hr (fun t ht hW => ⟨⟨0, [.ref (r 0), .ref (r 1), .ref (r 2), .ref (r 3), .ref (r 4), .ref (r 5), .ref (r 6), .ref (r 7), .ref (r 8), .ref (r 9), .ref (r 10), .ref (r 11), .ref (r 12), .ref (r 13), .ref (r 14), .ref (r 15), .int 0, .int 1, .int 1, .int 110, .int 0, .int 0, .int 0, .int 0, .int 0, .int 0, .int 0, .int 0, .int 0, .int 0, .int 0], rfl, ⟨rfl, rfl⟩, by rw [← ht] at hP9; exact hP9⟩, hS.F ht⟩) hS.2.2 dX7_player_47
set_option maxHeartbeats 4000000 in
set_option maxRecDepth 100000 in
theorem c_X7_setSeed (l : Launch) (D : va_G) (h0 : Nat) (r : Nat → Nat) (sz : Nat) (a1 : Int32) : Met l yX7_setSeed wsX7_setSeed ({ frames := 60, cells := 0, slots := 0, locals := 600 }) (va_Pc [.ref h0, .int a1] (PX7 D h0 r 0 sz)) (va_Qi (fun (r9 : Int32) (u : List Value) => r9 = 1 ∧ u[30]? = some (.int 0)) (fun u t => va_P D vwCl [(h0, .inr (13, u))] t.heap) (rg1 h0 sz)) 0 0 (rg1 h0 sz) := by
  refine Met.ofW (cc := cX7_setSeed) (maxL := 3) (ret := (some .int)) (by decide +kernel) rfl ?_
  intro p e s m args below meth c s₁ B hml hv
  obtain ⟨rfl, hsz, hP, hK⟩ := hv
  have hx := B.exec
  have hb := B.bytes
  have hr := B.returns
  have hts := atoms_spec (ws := wsX7_setSeed) B.pre
  have hown : s.vm.findClass RX7 = some m.cls := findClass_of_methodNamed B.named
  have hlocks := B.notSynchronized
  subst hsz
  have hD : va_D (rg1 h0 s.heap.size) [(h0, .inr (13, [.ref (r 0), .ref (r 1), .ref (r 2), .ref (r 3), .ref (r 4), .ref (r 5), .ref (r 6), .ref (r 7), .ref (r 8), .ref (r 9), .ref (r 10), .ref (r 11), .ref (r 12), .ref (r 13), .ref (r 14), .ref (r 15), .int 0, .int 0, .int 1, .int 110, .int 0, .int 0, .int 0, .int 0, .int 0, .int 0, .int 0, .int 0, .int 0, .int 0, .int 0]))] := rg1_D
  generalize hAe : rg1 h0 s.heap.size = A at hD ⊢
  have hA : ∀ q : Nat, s.heap.size ≤ q → A q := fun q h => by rw [← hAe]; exact Or.inr h
  have hS : va_S A s.heap s.heap [] := va_S.rf
  have hP : va_P D vwCl [(h0, .inr (13, [.ref (r 0), .ref (r 1), .ref (r 2), .ref (r 3), .ref (r 4), .ref (r 5), .ref (r 6), .ref (r 7), .ref (r 8), .ref (r 9), .ref (r 10), .ref (r 11), .ref (r 12), .ref (r 13), .ref (r 14), .ref (r 15), .int 0, .int 0, .int 1, .int 110, .int 0, .int 0, .int 0, .int 0, .int 0, .int 0, .int 0, .int 0, .int 0, .int 0, .int 0]))] s.heap := hP
  have hl := lv_entry ([.ref h0, .int a1]) (n := 3) (Nat.le_of_ble_eq_true rfl)
  rw [lg_entry_eq]
  generalize (lg_sl ([.ref h0, .int a1]) ++ List.replicate (3 - (lg_sl ([.ref h0, .int a1])).length) Slot.unset).toArray = ls at hl ⊢
  have hl : lv_has ls 3 [(0, .ref h0), (1, .int a1)] := hl
  refine lv_aload_n hx hb dX7_setSeed_0 rfl (lv_at hl 0 rfl) ?_
  refine lv_iconst (v := 0) hx hb dX7_setSeed_1 (by decide) ?_
  refine va_put (D := D) (ci := 13) (v := .int 0) (ty := .int) (C := RX7) (T := TX7) (N := 31) hx hb hts (by decide +kernel) tyX7 tyX7_ok nmX7 hown hK hP hD hS 0 rfl rfl 30 (by decide) (hts (.fieldLink RX7 79 "FairwayChanceryModel" "thrown" "I") (by decide +kernel)) (fun _ h9 => h9) rfl (by decide +kernel) rfl rfl (Nat.le_of_ble_eq_true rfl) dX7_setSeed_2 (fun H locs hP hD hS => ?_)
  have hP : va_P D vwCl [(h0, .inr (13, [.ref (r 0), .ref (r 1), .ref (r 2), .ref (r 3), .ref (r 4), .ref (r 5), .ref (r 6), .ref (r 7), .ref (r 8), .ref (r 9), .ref (r 10), .ref (r 11), .ref (r 12), .ref (r 13), .ref (r 14), .ref (r 15), .int 0, .int 0, .int 1, .int 110, .int 0, .int 0, .int 0, .int 0, .int 0, .int 0, .int 0, .int 0, .int 0, .int 0, .int 0]))] H := hP
  have hD : va_D A [(h0, .inr (13, [.ref (r 0), .ref (r 1), .ref (r 2), .ref (r 3), .ref (r 4), .ref (r 5), .ref (r 6), .ref (r 7), .ref (r 8), .ref (r 9), .ref (r 10), .ref (r 11), .ref (r 12), .ref (r 13), .ref (r 14), .ref (r 15), .int 0, .int 0, .int 1, .int 110, .int 0, .int 0, .int 0, .int 0, .int 0, .int 0, .int 0, .int 0, .int 0, .int 0, .int 0]))] := hD
  refine lv_aload_n hx hb dX7_setSeed_5 rfl (lv_at hl 0 rfl) ?_
  refine va_get (D := D) (ci := 13) (v := .int 1) (C := RX7) (T := TX7) (N := 31) hx hb hts (by decide +kernel) hown hK hP 0 rfl rfl 18 (by decide) (hts (.fieldLink RX7 67 "FairwayChanceryModel" "seed" "I") (by decide +kernel)) (fun _ h9 => h9) rfl dX7_setSeed_6 ?_
  refine lv_istore_n (lv' := [(2, .int 1), (0, .ref h0), (1, .int a1)]) hx hb dX7_setSeed_9 rfl hl (by decide) rfl (fun ls hl => ?_)
  refine lv_aload_n hx hb dX7_setSeed_10 rfl (lv_at hl 1 rfl) ?_
  refine lv_iload_n hx hb dX7_setSeed_11 rfl (lv_at hl 2 rfl) ?_
  refine va_put (D := D) (ci := 13) (v := .int a1) (ty := .int) (C := RX7) (T := TX7) (N := 31) hx hb hts (by decide +kernel) tyX7 tyX7_ok nmX7 hown hK hP hD hS 0 rfl rfl 18 (by decide) (hts (.fieldLink RX7 67 "FairwayChanceryModel" "seed" "I") (by decide +kernel)) (fun _ h9 => h9) rfl (by decide +kernel) rfl rfl (Nat.le_of_ble_eq_true rfl) dX7_setSeed_12 (fun H locs hP hD hS => ?_)
  have hP : va_P D vwCl [(h0, .inr (13, [.ref (r 0), .ref (r 1), .ref (r 2), .ref (r 3), .ref (r 4), .ref (r 5), .ref (r 6), .ref (r 7), .ref (r 8), .ref (r 9), .ref (r 10), .ref (r 11), .ref (r 12), .ref (r 13), .ref (r 14), .ref (r 15), .int 0, .int 0, .int a1, .int 110, .int 0, .int 0, .int 0, .int 0, .int 0, .int 0, .int 0, .int 0, .int 0, .int 0, .int 0]))] H := hP
  have hD : va_D A [(h0, .inr (13, [.ref (r 0), .ref (r 1), .ref (r 2), .ref (r 3), .ref (r 4), .ref (r 5), .ref (r 6), .ref (r 7), .ref (r 8), .ref (r 9), .ref (r 10), .ref (r 11), .ref (r 12), .ref (r 13), .ref (r 14), .ref (r 15), .int 0, .int 0, .int a1, .int 110, .int 0, .int 0, .int 0, .int 0, .int 0, .int 0, .int 0, .int 0, .int 0, .int 0, .int 0]))] := hD
  refine lv_iload_n hx hb dX7_setSeed_15 rfl (lv_at hl 0 rfl) ?_
  have hP9 := hP
  exact W.iret (v := 1) hx hb hr (fun t ht hW => ⟨⟨1, [.ref (r 0), .ref (r 1), .ref (r 2), .ref (r 3), .ref (r 4), .ref (r 5), .ref (r 6), .ref (r 7), .ref (r 8), .ref (r 9), .ref (r 10), .ref (r 11), .ref (r 12), .ref (r 13), .ref (r 14), .ref (r 15), .int 0, .int 0, .int a1, .int 110, .int 0, .int 0, .int 0, .int 0, .int 0, .int 0, .int 0, .int 0, .int 0, .int 0, .int 0], rfl, ⟨rfl, rfl⟩, by rw [← ht] at hP9; exact hP9⟩, hS.F ht⟩) hS.2.2 dX7_setSeed_16
set_option maxHeartbeats 4000000 in
set_option maxRecDepth 100000 in
theorem c_X7_isSound (l : Launch) (D : va_G) (h0 : Nat) (r : Nat → Nat) (sz : Nat) : Met l yX7_isSound wsX7_isSound ({ frames := 60, cells := 0, slots := 0, locals := 600 }) (va_Pc [.ref h0] (PX7 D h0 r 0 sz)) (va_Qi (fun (r9 : Int32) (u : List Value) => r9 = 1 ∧ u[30]? = some (.int 0)) (fun u t => va_P D vwCl [(h0, .inr (13, u))] t.heap) (rg1 h0 sz)) 0 0 (rg1 h0 sz) := by
  refine Met.ofW (cc := cX7_isSound) (maxL := 1) (ret := (some .boolean)) (by decide +kernel) rfl ?_
  intro p e s m args below meth c s₁ B hml hv
  obtain ⟨rfl, hsz, hP, hK⟩ := hv
  have hx := B.exec
  have hb := B.bytes
  have hr := B.returns
  have hts := atoms_spec (ws := wsX7_isSound) B.pre
  have hown : s.vm.findClass RX7 = some m.cls := findClass_of_methodNamed B.named
  have hlocks := B.notSynchronized
  subst hsz
  have hD : va_D (rg1 h0 s.heap.size) [(h0, .inr (13, [.ref (r 0), .ref (r 1), .ref (r 2), .ref (r 3), .ref (r 4), .ref (r 5), .ref (r 6), .ref (r 7), .ref (r 8), .ref (r 9), .ref (r 10), .ref (r 11), .ref (r 12), .ref (r 13), .ref (r 14), .ref (r 15), .int 0, .int 0, .int 1, .int 110, .int 0, .int 0, .int 0, .int 0, .int 0, .int 0, .int 0, .int 0, .int 0, .int 0, .int 0]))] := rg1_D
  generalize hAe : rg1 h0 s.heap.size = A at hD ⊢
  have hA : ∀ q : Nat, s.heap.size ≤ q → A q := fun q h => by rw [← hAe]; exact Or.inr h
  have hS : va_S A s.heap s.heap [] := va_S.rf
  have hP : va_P D vwCl [(h0, .inr (13, [.ref (r 0), .ref (r 1), .ref (r 2), .ref (r 3), .ref (r 4), .ref (r 5), .ref (r 6), .ref (r 7), .ref (r 8), .ref (r 9), .ref (r 10), .ref (r 11), .ref (r 12), .ref (r 13), .ref (r 14), .ref (r 15), .int 0, .int 0, .int 1, .int 110, .int 0, .int 0, .int 0, .int 0, .int 0, .int 0, .int 0, .int 0, .int 0, .int 0, .int 0]))] s.heap := hP
  have hl := lv_entry ([.ref h0]) (n := 1) (Nat.le_of_ble_eq_true rfl)
  rw [lg_entry_eq]
  generalize (lg_sl ([.ref h0]) ++ List.replicate (1 - (lg_sl ([.ref h0])).length) Slot.unset).toArray = ls at hl ⊢
  have hl : lv_has ls 1 [(0, .ref h0)] := hl
  refine lv_aload_n hx hb dX7_isSound_0 rfl (lv_at hl 0 rfl) ?_
  refine lv_iconst (v := 0) hx hb dX7_isSound_1 (by decide) ?_
  refine va_put (D := D) (ci := 13) (v := .int 0) (ty := .int) (C := RX7) (T := TX7) (N := 31) hx hb hts (by decide +kernel) tyX7 tyX7_ok nmX7 hown hK hP hD hS 0 rfl rfl 30 (by decide) (hts (.fieldLink RX7 79 "FairwayChanceryModel" "thrown" "I") (by decide +kernel)) (fun _ h9 => h9) rfl (by decide +kernel) rfl rfl (Nat.le_of_ble_eq_true rfl) dX7_isSound_2 (fun H locs hP hD hS => ?_)
  have hP : va_P D vwCl [(h0, .inr (13, [.ref (r 0), .ref (r 1), .ref (r 2), .ref (r 3), .ref (r 4), .ref (r 5), .ref (r 6), .ref (r 7), .ref (r 8), .ref (r 9), .ref (r 10), .ref (r 11), .ref (r 12), .ref (r 13), .ref (r 14), .ref (r 15), .int 0, .int 0, .int 1, .int 110, .int 0, .int 0, .int 0, .int 0, .int 0, .int 0, .int 0, .int 0, .int 0, .int 0, .int 0]))] H := hP
  have hD : va_D A [(h0, .inr (13, [.ref (r 0), .ref (r 1), .ref (r 2), .ref (r 3), .ref (r 4), .ref (r 5), .ref (r 6), .ref (r 7), .ref (r 8), .ref (r 9), .ref (r 10), .ref (r 11), .ref (r 12), .ref (r 13), .ref (r 14), .ref (r 15), .int 0, .int 0, .int 1, .int 110, .int 0, .int 0, .int 0, .int 0, .int 0, .int 0, .int 0, .int 0, .int 0, .int 0, .int 0]))] := hD
  refine lv_iconst (v := 1) hx hb dX7_isSound_5 (by decide) ?_
  have hP9 := hP
  exact W.zret (v := 1) (ty := .boolean) hx hb hr (by decide) (fun t ht hW => ⟨⟨1, [.ref (r 0), .ref (r 1), .ref (r 2), .ref (r 3), .ref (r 4), .ref (r 5), .ref (r 6), .ref (r 7), .ref (r 8), .ref (r 9), .ref (r 10), .ref (r 11), .ref (r 12), .ref (r 13), .ref (r 14), .ref (r 15), .int 0, .int 0, .int 1, .int 110, .int 0, .int 0, .int 0, .int 0, .int 0, .int 0, .int 0, .int 0, .int 0, .int 0, .int 0], rfl, ⟨rfl, rfl⟩, by rw [← ht] at hP9; exact hP9⟩, hS.F ht⟩) hS.2.2 dX7_isSound_6
set_option maxHeartbeats 4000000 in
set_option maxRecDepth 100000 in
theorem c_X7_checksum (l : Launch) (D : va_G) (h0 : Nat) (r : Nat → Nat) (sz : Nat) : Met l yX7_checksum wsX7_checksum ({ frames := 60, cells := 0, slots := 0, locals := 600 }) (va_Pc [.ref h0] (PX7 D h0 r 0 sz)) (va_Ql (fun (r9 : Int64) (u : List Value) => r9 = 7 ∧ u[30]? = some (.int 0)) (fun u t => va_P D vwCl [(h0, .inr (13, u))] t.heap) (rg1 h0 sz)) 0 0 (rg1 h0 sz) := by
  refine Met.ofW (cc := cX7_checksum) (maxL := 5) (ret := (some .long)) (by decide +kernel) rfl ?_
  intro p e s m args below meth c s₁ B hml hv
  obtain ⟨rfl, hsz, hP, hK⟩ := hv
  have hx := B.exec
  have hb := B.bytes
  have hr := B.returns
  have hts := atoms_spec (ws := wsX7_checksum) B.pre
  have hown : s.vm.findClass RX7 = some m.cls := findClass_of_methodNamed B.named
  have hlocks := B.notSynchronized
  subst hsz
  have hD : va_D (rg1 h0 s.heap.size) [(h0, .inr (13, [.ref (r 0), .ref (r 1), .ref (r 2), .ref (r 3), .ref (r 4), .ref (r 5), .ref (r 6), .ref (r 7), .ref (r 8), .ref (r 9), .ref (r 10), .ref (r 11), .ref (r 12), .ref (r 13), .ref (r 14), .ref (r 15), .int 0, .int 0, .int 1, .int 110, .int 0, .int 0, .int 0, .int 0, .int 0, .int 0, .int 0, .int 0, .int 0, .int 0, .int 0]))] := rg1_D
  generalize hAe : rg1 h0 s.heap.size = A at hD ⊢
  have hA : ∀ q : Nat, s.heap.size ≤ q → A q := fun q h => by rw [← hAe]; exact Or.inr h
  have hS : va_S A s.heap s.heap [] := va_S.rf
  have hP : va_P D vwCl [(h0, .inr (13, [.ref (r 0), .ref (r 1), .ref (r 2), .ref (r 3), .ref (r 4), .ref (r 5), .ref (r 6), .ref (r 7), .ref (r 8), .ref (r 9), .ref (r 10), .ref (r 11), .ref (r 12), .ref (r 13), .ref (r 14), .ref (r 15), .int 0, .int 0, .int 1, .int 110, .int 0, .int 0, .int 0, .int 0, .int 0, .int 0, .int 0, .int 0, .int 0, .int 0, .int 0]))] s.heap := hP
  have hl := lv_entry ([.ref h0]) (n := 5) (Nat.le_of_ble_eq_true rfl)
  rw [lg_entry_eq]
  generalize (lg_sl ([.ref h0]) ++ List.replicate (5 - (lg_sl ([.ref h0])).length) Slot.unset).toArray = ls at hl ⊢
  have hl : lv_has ls 5 [(0, .ref h0)] := hl
  refine lv_aload_n hx hb dX7_checksum_0 rfl (lv_at hl 0 rfl) ?_
  refine lv_iconst (v := 0) hx hb dX7_checksum_1 (by decide) ?_
  refine va_put (D := D) (ci := 13) (v := .int 0) (ty := .int) (C := RX7) (T := TX7) (N := 31) hx hb hts (by decide +kernel) tyX7 tyX7_ok nmX7 hown hK hP hD hS 0 rfl rfl 30 (by decide) (hts (.fieldLink RX7 79 "FairwayChanceryModel" "thrown" "I") (by decide +kernel)) (fun _ h9 => h9) rfl (by decide +kernel) rfl rfl (Nat.le_of_ble_eq_true rfl) dX7_checksum_2 (fun H locs hP hD hS => ?_)
  have hP : va_P D vwCl [(h0, .inr (13, [.ref (r 0), .ref (r 1), .ref (r 2), .ref (r 3), .ref (r 4), .ref (r 5), .ref (r 6), .ref (r 7), .ref (r 8), .ref (r 9), .ref (r 10), .ref (r 11), .ref (r 12), .ref (r 13), .ref (r 14), .ref (r 15), .int 0, .int 0, .int 1, .int 110, .int 0, .int 0, .int 0, .int 0, .int 0, .int 0, .int 0, .int 0, .int 0, .int 0, .int 0]))] H := hP
  have hD : va_D A [(h0, .inr (13, [.ref (r 0), .ref (r 1), .ref (r 2), .ref (r 3), .ref (r 4), .ref (r 5), .ref (r 6), .ref (r 7), .ref (r 8), .ref (r 9), .ref (r 10), .ref (r 11), .ref (r 12), .ref (r 13), .ref (r 14), .ref (r 15), .int 0, .int 0, .int 1, .int 110, .int 0, .int 0, .int 0, .int 0, .int 0, .int 0, .int 0, .int 0, .int 0, .int 0, .int 0]))] := hD
  refine lv_ldc2 hx hb hown (hts (.constantLong RX7 331 (7)) (by decide +kernel)) dX7_checksum_5 ?_
  refine lv_lstore_n (lv' := [(1, .long 7), (0, .ref h0)]) hx hb dX7_checksum_8 rfl hl (by decide) rfl (fun ls hl => ?_)
  refine lv_iconst (v := 0) hx hb dX7_checksum_9 (by decide) ?_
  refine lv_istore_n (lv' := [(3, .int 0), (1, .long 7), (0, .ref h0)]) hx hb dX7_checksum_10 rfl hl (by decide) rfl (fun ls hl => ?_)
  refine lv_iload_n hx hb dX7_checksum_11 rfl (lv_at hl 0 rfl) ?_
  refine lv_aload_n hx hb dX7_checksum_12 rfl (lv_at hl 2 rfl) ?_
  refine va_get (D := D) (ci := 13) (v := .int 0) (C := RX7) (T := TX7) (N := 31) hx hb hts (by decide +kernel) hown hK hP 0 rfl rfl 16 (by decide) (hts (.fieldLink RX7 86 "FairwayChanceryModel" "holes" "I") (by decide +kernel)) (fun _ h9 => h9) rfl dX7_checksum_13 ?_
  refine lv_icmp_ge (tgt := 59) hx hb dX7_checksum_16 (by decide) (fun _ => ?_) (fun c => by first | exact absurd (by decide) c | exact absurd c (by decide))
  refine lv_lload_n hx hb dX7_checksum_59 rfl (lv_at hl 1 rfl) ?_
  have hP9 := hP
  exact W.lret (v := 7) hx hb hr (fun t ht hW => ⟨⟨7, [.ref (r 0), .ref (r 1), .ref (r 2), .ref (r 3), .ref (r 4), .ref (r 5), .ref (r 6), .ref (r 7), .ref (r 8), .ref (r 9), .ref (r 10), .ref (r 11), .ref (r 12), .ref (r 13), .ref (r 14), .ref (r 15), .int 0, .int 0, .int 1, .int 110, .int 0, .int 0, .int 0, .int 0, .int 0, .int 0, .int 0, .int 0, .int 0, .int 0, .int 0], rfl, ⟨rfl, rfl⟩, by rw [← ht] at hP9; exact hP9⟩, hS.F ht⟩) hS.2.2 dX7_checksum_60
