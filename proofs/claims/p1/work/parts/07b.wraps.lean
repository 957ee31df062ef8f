set_option maxRecDepth 20000 in
theorem ggL_hole_X6_hole : GoodIn wsL_hole wsX6_hole := goodIn_ca (goodIn_ca (goodIn_ca (goodIn_r _ [6, 7, 8, 9, 10, 11, 12, 13, 14, 15, 16, 17, 18, 19, 20, 21, 5, 22, 23, 24, 25, 26, 27, 28, 29, 30, 31, 32, 33, 34, 35, 36, 37, 38, 39, 40, 41, 42, 43, 44, 45, 46, 47, 48, 49] (by decide +kernel) (by decide +kernel)) (goodIn_sub (fun _ h => List.mem_cons_of_mem _ (List.mem_append_left _ (List.mem_append_left _ (List.mem_append_right _ h)))) (by decide +kernel))) (goodIn_sub (fun _ h => List.mem_cons_of_mem _ (List.mem_append_left _ (List.mem_append_right _ h))) (by decide +kernel))) (goodIn_sub (fun _ h => List.mem_cons_of_mem _ (List.mem_append_right _ h)) (by decide +kernel))
set_option maxRecDepth 20000 in
theorem gL_hole_X6_hole : GoodIn wsL_hole (wsV RL 7 RX6 yX6_hole wsX6_hole) := goodIn_app (goodIn_of _ (by decide +kernel)) ggL_hole_X6_hole
theorem dL_hole_0 : decode cL_hole 0 = .ok (.aload 7, 2) := by decide +kernel
theorem dL_hole_2 : decode cL_hole 2 = .ok (.iconst 0, 1) := by decide +kernel
theorem dL_hole_3 : decode cL_hole 3 = .ok (.aload_n 0, 1) := by decide +kernel
theorem dL_hole_4 : decode cL_hole 4 = .ok (.iload_n 1, 1) := by decide +kernel
theorem dL_hole_5 : decode cL_hole 5 = .ok (.iload_n 2, 1) := by decide +kernel
theorem dL_hole_6 : decode cL_hole 6 = .ok (.iload_n 3, 1) := by decide +kernel
theorem dL_hole_7 : decode cL_hole 7 = .ok (.iload 4, 2) := by decide +kernel
theorem dL_hole_9 : decode cL_hole 9 = .ok (.iload 5, 2) := by decide +kernel
theorem dL_hole_11 : decode cL_hole 11 = .ok (.iload 6, 2) := by decide +kernel
theorem dL_hole_13 : decode cL_hole 13 = .ok (.invokevirtual 7, 3) := by decide +kernel
theorem dL_hole_16 : decode cL_hole 16 = .ok (.i2l, 1) := by decide +kernel
theorem dL_hole_17 : decode cL_hole 17 = .ok (.lastore, 1) := by decide +kernel
theorem dL_hole_18 : decode cL_hole 18 = .ok (.goto 15, 3) := by decide +kernel
theorem dL_hole_21 : decode cL_hole 21 = .ok (.astore 8, 2) := by decide +kernel
theorem dL_hole_23 : decode cL_hole 23 = .ok (.iconst 1, 1) := by decide +kernel
theorem dL_hole_24 : decode cL_hole 24 = .ok (.ireturn, 1) := by decide +kernel
theorem dL_hole_33 : decode cL_hole 33 = .ok (.iconst 0, 1) := by decide +kernel
theorem dL_hole_34 : decode cL_hole 34 = .ok (.ireturn, 1) := by decide +kernel
set_option maxRecDepth 20000 in
theorem ggL_player_X6_player : GoodIn wsL_player wsX6_player := goodIn_ca (goodIn_r _ [6, 7, 8, 9, 10, 11, 12, 13, 14, 15, 16, 17, 18, 19, 20, 21, 22, 23, 24] (by decide +kernel) (by decide +kernel)) (goodIn_sub (fun _ h => List.mem_cons_of_mem _ (List.mem_append_right _ h)) (by decide +kernel))
set_option maxRecDepth 20000 in
theorem gL_player_X6_player : GoodIn wsL_player (wsV RL 29 RX6 yX6_player wsX6_player) := goodIn_app (goodIn_of _ (by decide +kernel)) ggL_player_X6_player
theorem dL_player_0 : decode cL_player 0 = .ok (.aload_n 1, 1) := by decide +kernel
theorem dL_player_1 : decode cL_player 1 = .ok (.iconst 0, 1) := by decide +kernel
theorem dL_player_2 : decode cL_player 2 = .ok (.aload_n 0, 1) := by decide +kernel
theorem dL_player_3 : decode cL_player 3 = .ok (.invokevirtual 29, 3) := by decide +kernel
theorem dL_player_6 : decode cL_player 6 = .ok (.i2l, 1) := by decide +kernel
theorem dL_player_7 : decode cL_player 7 = .ok (.lastore, 1) := by decide +kernel
theorem dL_player_8 : decode cL_player 8 = .ok (.goto 6, 3) := by decide +kernel
theorem dL_player_14 : decode cL_player 14 = .ok (.iconst 0, 1) := by decide +kernel
theorem dL_player_15 : decode cL_player 15 = .ok (.ireturn, 1) := by decide +kernel
set_option maxRecDepth 20000 in
theorem ggL_edition_X6_edition : GoodIn wsL_edition wsX6_edition := goodIn_ca (goodIn_r _ [6, 7, 8, 9, 10, 11, 12, 13, 14, 15, 16, 17, 18, 19, 20, 21, 22, 23] (by decide +kernel) (by decide +kernel)) (goodIn_sub (fun _ h => List.mem_cons_of_mem _ (List.mem_append_right _ h)) (by decide +kernel))
set_option maxRecDepth 20000 in
theorem gL_edition_X6_edition : GoodIn wsL_edition (wsV RL 40 RX6 yX6_edition wsX6_edition) := goodIn_app (goodIn_of _ (by decide +kernel)) ggL_edition_X6_edition
theorem dL_edition_0 : decode cL_edition 0 = .ok (.aload_n 2, 1) := by decide +kernel
theorem dL_edition_1 : decode cL_edition 1 = .ok (.iconst 0, 1) := by decide +kernel
theorem dL_edition_2 : decode cL_edition 2 = .ok (.aload_n 0, 1) := by decide +kernel
theorem dL_edition_3 : decode cL_edition 3 = .ok (.iload_n 1, 1) := by decide +kernel
theorem dL_edition_4 : decode cL_edition 4 = .ok (.invokevirtual 40, 3) := by decide +kernel
theorem dL_edition_7 : decode cL_edition 7 = .ok (.i2l, 1) := by decide +kernel
theorem dL_edition_8 : decode cL_edition 8 = .ok (.lastore, 1) := by decide +kernel
theorem dL_edition_9 : decode cL_edition 9 = .ok (.goto 6, 3) := by decide +kernel
theorem dL_edition_12 : decode cL_edition 12 = .ok (.astore_n 3, 1) := by decide +kernel
theorem dL_edition_13 : decode cL_edition 13 = .ok (.iconst 1, 1) := by decide +kernel
theorem dL_edition_14 : decode cL_edition 14 = .ok (.ireturn, 1) := by decide +kernel
theorem dL_edition_15 : decode cL_edition 15 = .ok (.iconst 0, 1) := by decide +kernel
theorem dL_edition_16 : decode cL_edition 16 = .ok (.ireturn, 1) := by decide +kernel
set_option maxRecDepth 20000 in
theorem ggL_begin_X6_begin : GoodIn wsL_begin wsX6_begin := goodIn_ca (goodIn_ca (goodIn_ca (goodIn_r _ [6, 7, 8, 9, 10, 11, 12, 13, 14, 15, 16, 17, 18, 19, 20, 21, 22, 23, 24, 25, 26, 27, 28, 29, 30, 31, 32, 33, 34, 35, 36, 37, 38, 39, 40, 41, 42, 5, 43, 44, 45, 46, 47, 48, 49, 50, 51, 52, 53, 54, 55, 56, 57, 58, 59, 60, 61, 62, 63, 64, 65, 66, 67, 68, 69, 70, 71, 72, 73, 74, 75, 76, 77, 78, 79, 80, 81, 82, 83, 84, 85, 86, 87, 88, 89, 90, 91, 92, 93, 94, 95, 96, 97, 98, 99, 100, 101, 102, 103, 104, 105, 106, 107, 108, 109, 110, 111, 112, 113, 114, 115, 116, 117, 118, 119, 120] (by decide +kernel) (by decide +kernel)) (goodIn_sub (fun _ h => List.mem_cons_of_mem _ (List.mem_append_left _ (List.mem_append_right _ h))) (by decide +kernel))) (goodIn_sub (fun _ h => List.mem_cons_of_mem _ (List.mem_append_right _ h)) (by decide +kernel))) (goodIn_sub (fun _ h => List.mem_cons_of_mem _ (List.mem_append_left _ (List.mem_append_left _ (List.mem_append_right _ h)))) (by decide +kernel))
set_option maxRecDepth 20000 in
theorem gL_begin_X6_begin : GoodIn wsL_begin (wsV RL 44 RX6 yX6_begin wsX6_begin) := goodIn_app (goodIn_of _ (by decide +kernel)) ggL_begin_X6_begin
theorem dL_begin_0 : decode cL_begin 0 = .ok (.aload_n 2, 1) := by decide +kernel
theorem dL_begin_1 : decode cL_begin 1 = .ok (.iconst 0, 1) := by decide +kernel
theorem dL_begin_2 : decode cL_begin 2 = .ok (.aload_n 0, 1) := by decide +kernel
theorem dL_begin_3 : decode cL_begin 3 = .ok (.iload_n 1, 1) := by decide +kernel
theorem dL_begin_4 : decode cL_begin 4 = .ok (.invokevirtual 44, 3) := by decide +kernel
theorem dL_begin_12 : decode cL_begin 12 = .ok (.astore_n 3, 1) := by decide +kernel
theorem dL_begin_13 : decode cL_begin 13 = .ok (.iconst 1, 1) := by decide +kernel
theorem dL_begin_14 : decode cL_begin 14 = .ok (.ireturn, 1) := by decide +kernel
theorem dL_begin_15 : decode cL_begin 15 = .ok (.astore_n 3, 1) := by decide +kernel
theorem dL_begin_16 : decode cL_begin 16 = .ok (.iconst 2, 1) := by decide +kernel
theorem dL_begin_17 : decode cL_begin 17 = .ok (.ireturn, 1) := by decide +kernel
set_option maxRecDepth 20000 in
theorem ggL_cut_X6_cut : GoodIn wsL_cut wsX6_cut := goodIn_ca (goodIn_ca (goodIn_r _ [6, 7, 8, 9, 10, 11, 12, 13, 14, 15, 16, 17, 18, 19, 20, 21, 5, 22, 23, 24, 25, 26, 27, 28, 29, 30, 31, 32, 33, 34, 35, 36, 37, 38, 39, 40, 41, 42, 43, 44, 45, 46, 47, 48, 49, 50, 51, 52, 53, 54, 55, 56, 57, 58, 59, 60, 61, 62, 63, 64] (by decide +kernel) (by decide +kernel)) (goodIn_sub (fun _ h => List.mem_cons_of_mem _ (List.mem_append_right _ h)) (by decide +kernel))) (goodIn_sub (fun _ h => List.mem_cons_of_mem _ (List.mem_append_left _ (List.mem_append_right _ h))) (by decide +kernel))
set_option maxRecDepth 20000 in
theorem gL_cut_X6_cut : GoodIn wsL_cut (wsV RL 173 RX6 yX6_cut wsX6_cut) := goodIn_app (goodIn_of _ (by decide +kernel)) ggL_cut_X6_cut
theorem dL_cut_0 : decode cL_cut 0 = .ok (.aload_n 2, 1) := by decide +kernel
theorem dL_cut_1 : decode cL_cut 1 = .ok (.iconst 0, 1) := by decide +kernel
theorem dL_cut_2 : decode cL_cut 2 = .ok (.aload_n 0, 1) := by decide +kernel
theorem dL_cut_3 : decode cL_cut 3 = .ok (.iload_n 1, 1) := by decide +kernel
theorem dL_cut_4 : decode cL_cut 4 = .ok (.invokevirtual 173, 3) := by decide +kernel
theorem dL_cut_7 : decode cL_cut 7 = .ok (.i2l, 1) := by decide +kernel
theorem dL_cut_8 : decode cL_cut 8 = .ok (.lastore, 1) := by decide +kernel
theorem dL_cut_9 : decode cL_cut 9 = .ok (.goto 6, 3) := by decide +kernel
theorem dL_cut_12 : decode cL_cut 12 = .ok (.astore_n 3, 1) := by decide +kernel
theorem dL_cut_13 : decode cL_cut 13 = .ok (.iconst 1, 1) := by decide +kernel
theorem dL_cut_14 : decode cL_cut 14 = .ok (.ireturn, 1) := by decide +kernel
theorem dL_cut_15 : decode cL_cut 15 = .ok (.iconst 0, 1) := by decide +kernel
theorem dL_cut_16 : decode cL_cut 16 = .ok (.ireturn, 1) := by decide +kernel
set_option maxRecDepth 20000 in
theorem ggL_conditions_X6_conditions : GoodIn wsL_conditions wsX6_conditions := goodIn_ca (goodIn_r _ [6, 7, 8, 9, 10, 11, 12, 13, 14, 15, 16, 17, 18, 19, 20, 21, 22, 23] (by decide +kernel) (by decide +kernel)) (goodIn_sub (fun _ h => List.mem_cons_of_mem _ (List.mem_append_right _ h)) (by decide +kernel))
set_option maxRecDepth 20000 in
theorem gL_conditions_X6_conditions : GoodIn wsL_conditions (wsV RL 176 RX6 yX6_conditions wsX6_conditions) := goodIn_app (goodIn_of _ (by decide +kernel)) ggL_conditions_X6_conditions
theorem dL_conditions_0 : decode cL_conditions 0 = .ok (.aload_n 2, 1) := by decide +kernel
theorem dL_conditions_1 : decode cL_conditions 1 = .ok (.iconst 0, 1) := by decide +kernel
theorem dL_conditions_2 : decode cL_conditions 2 = .ok (.aload_n 0, 1) := by decide +kernel
theorem dL_conditions_3 : decode cL_conditions 3 = .ok (.iload_n 1, 1) := by decide +kernel
theorem dL_conditions_4 : decode cL_conditions 4 = .ok (.invokevirtual 176, 3) := by decide +kernel
theorem dL_conditions_7 : decode cL_conditions 7 = .ok (.i2l, 1) := by decide +kernel
theorem dL_conditions_8 : decode cL_conditions 8 = .ok (.lastore, 1) := by decide +kernel
theorem dL_conditions_9 : decode cL_conditions 9 = .ok (.goto 6, 3) := by decide +kernel
theorem dL_conditions_12 : decode cL_conditions 12 = .ok (.astore_n 3, 1) := by decide +kernel
theorem dL_conditions_13 : decode cL_conditions 13 = .ok (.iconst 1, 1) := by decide +kernel
theorem dL_conditions_14 : decode cL_conditions 14 = .ok (.ireturn, 1) := by decide +kernel
theorem dL_conditions_15 : decode cL_conditions 15 = .ok (.iconst 0, 1) := by decide +kernel
theorem dL_conditions_16 : decode cL_conditions 16 = .ok (.ireturn, 1) := by decide +kernel
set_option maxHeartbeats 4000000 in
set_option maxRecDepth 100000 in
theorem c_L_begin (l : Launch) (hlT : l.stackTraces = false) (D : va_G) (h0 : Nat) (r : Nat → Nat) (o : Nat) (sz : Nat) (a1 : Int32) : Met l yL_begin wsL_begin ({ frames := 70, cells := 1, slots := 6, locals := 700 }) (va_Pc [.ref h0, .int a1, .ref o] (fun U => PX6 D h0 r sz U ∧ va_Nw (.classLink RL 17 "java/lang/UnsupportedOperationException") U)) (va_Qi (fun (r9 : Int32) (_ : Unit) => (r9 = 1 ∧ ¬ (a1 = 115 ∨ a1 = 109)) ∨ (r9 = 2 ∧ (a1 = 115 ∨ a1 = 109))) (fun _ _ => True) (rg0 sz)) 1 6 (rg0 sz) := by
  refine va_MetW (cc := cL_begin) (maxL := 4) (ret := (some .int)) (hh := [(0, 9, 12, 13), (0, 9, 15, 17)]) (by decide +kernel) rfl ?_
  intro p e s m args below meth c s₁ B hml hv
  obtain ⟨rfl, ⟨hsz, hP, hK, hT⟩, h17⟩ := hv
  have hx := B.exec
  have hb := B.bytes
  have hr := B.returns
  have hts := atoms_spec (ws := wsL_begin) B.pre
  have hown : s.vm.findClass RL = some m.cls := findClass_of_methodNamed B.named
  have hlocks := B.notSynchronized
  subst hsz
  have hA : ∀ q : Nat, s.heap.size ≤ q → rg0 s.heap.size q := fun _ h => h
  have hS : va_S (rg0 s.heap.size) s.heap s.heap [] := va_S.rf
  have htab := vx_table (x := yL_begin) B (hts (.codeWith yL_begin cL_begin 4 (some .int) [(0, 9, 12, 13), (0, 9, 15, 17)]) (List.mem_of_getElem? (i := 0) rfl))
  have hl := lv_entry ([.ref h0, .int a1, .ref o]) (n := 4) (Nat.le_of_ble_eq_true rfl)
  rw [lg_entry_eq]
  generalize (lg_sl ([.ref h0, .int a1, .ref o]) ++ List.replicate (4 - (lg_sl ([.ref h0, .int a1, .ref o])).length) Slot.unset).toArray = ls at hl ⊢
  have hl : lv_has ls 4 [(0, .ref h0), (1, .int a1), (2, .ref o)] := hl
  refine lv_aload_n hx hb dL_begin_0 rfl (lv_at hl 2 rfl) ?_
  refine lv_iconst (v := 0) hx hb dL_begin_1 (by decide) ?_
  refine lv_aload_n hx hb dL_begin_2 rfl (lv_at hl 0 rfl) ?_
  refine lv_iload_n hx hb dL_begin_3 rfl (lv_at hl 1 rfl) ?_
  refine vx_calli (vx_runV (As := [.int a1]) (rest := [.int 0, .ref o]) ⟨hx, hb, hml, hown, hts⟩ (c_X6_begin l hlT D h0 r s.heap.size a1) (cwV 1 hts gL_begin_X6_begin rfl rfl rfl (by decide +kernel) ⟨Nat.le_of_ble_eq_true rfl, Nat.le_of_ble_eq_true rfl⟩) ⟨fun a U g mk q => ⟨q.1, PX6.blind q.2⟩, va_recv hK hP (ci := 12) (q0 := 0) rfl rfl, fun U hU hW => ⟨rfl, PX6.go hP hK hT hS hA hU hW⟩⟩ rfl rfl hl.1 rfl (lv_room (Nat.le_of_ble_eq_true rfl)) dL_begin_4 ⟨Nat.le_of_ble_eq_true rfl, Nat.le_of_ble_eq_true rfl⟩) hS (fun q _ h => h) (fun q h => h) (fun q _ h => h) (fun E ce q9 u t H1 locs1 ht hvm hpx hB hz hk9 hS hcell hv hcl => ?_) (fun r9 u t H1 locs1 ht hvm hw hB hz1 hk1 hS => hw.elim)
  rcases (hB : (E = "java/lang/IllegalArgumentException" ∧ ¬ (a1 = 115 ∨ a1 = 109)) ∨ (E = "java/lang/UnsupportedOperationException" ∧ (a1 = 115 ∨ a1 = 109))) with ⟨rfl, hq⟩ | ⟨rfl, hq⟩
  · skip
    refine vx_catch (name := "java/lang/IllegalArgumentException") hown [] ⟨0, 9, 12, 13⟩ [⟨0, 9, 15, 17⟩] (htab.trans rfl) (fun z hz => absurd hz List.not_mem_nil) (by decide) (by decide) (hts (.classLink RL 13 "java/lang/IllegalArgumentException") (by decide +kernel)) (va_Nw.use rfl (hT.1 (Cond.castable "java/lang/IllegalArgumentException" "java/lang/IllegalArgumentException") (tf_cast (53, "java/lang/IllegalArgumentException") (by decide +kernel)))) hcell hv hcl ?_
    refine lv_astore_n (lv' := [(3, .ref q9), (0, .ref h0), (1, .int a1), (2, .ref o)]) hx hb dL_begin_12 rfl hl (by decide) rfl (fun ls hl => ?_)
    refine lv_iconst (v := 1) hx hb dL_begin_13 (by decide) ?_
    exact W.iret (v := 1) hx hb hr (fun t ht hW => ⟨⟨1, (), rfl, Or.inl ⟨rfl, hq⟩, trivial⟩, hS.F ht⟩) hS.2.2 dL_begin_14
  · skip
    refine vx_catch (name := "java/lang/UnsupportedOperationException") hown [⟨0, 9, 12, 13⟩] ⟨0, 9, 15, 17⟩ [] (htab.trans rfl) (fun z hz => by rw [List.mem_singleton.mp hz]; exact Or.inr ⟨by decide, "java/lang/IllegalArgumentException", hts (.classLink RL 13 "java/lang/IllegalArgumentException") (by decide +kernel), hT.2.2.2.2⟩) (by decide) (by decide) (va_Nw.use rfl h17) (va_Nw.use rfl (hT.1 (Cond.castable "java/lang/UnsupportedOperationException" "java/lang/UnsupportedOperationException") (tf_cast (78, "java/lang/UnsupportedOperationException") (by decide +kernel)))) hcell hv hcl ?_
    refine lv_astore_n (lv' := [(3, .ref q9), (0, .ref h0), (1, .int a1), (2, .ref o)]) hx hb dL_begin_15 rfl hl (by decide) rfl (fun ls hl => ?_)
    refine lv_iconst (v := 2) hx hb dL_begin_16 (by decide) ?_
    exact W.iret (v := 2) hx hb hr (fun t ht hW => ⟨⟨2, (), rfl, Or.inr ⟨rfl, hq⟩, trivial⟩, hS.F ht⟩) hS.2.2 dL_begin_17
set_option maxHeartbeats 4000000 in
set_option maxRecDepth 100000 in
theorem c_L_player (l : Launch) (hlT : l.stackTraces = false) (D : va_G) (h0 : Nat) (r : Nat → Nat) (o : Nat) (cO : ClassId) (fo : Nat → Int64) (sz : Nat) : Met l yL_player wsL_player ({ frames := 70, cells := 0, slots := 0, locals := 700 }) (va_Pc [.ref h0, .ref o] (fun U => U.heap.size = sz ∧ va_P D vwCl [(h0, .inr (12, [.ref (r 0), .ref (r 1), .ref (r 2), .ref (r 3), .int 0, .int 0, .int 1, .int 110, .int 0, .int 115, .int 0, .int 0, .int 0, .int 0])), (o, .inl (cO, 1, .inr (.inl fo)))] U.heap ∧ va_K D vwCl [(cO, .long)] U ∧ va_D (fun _ => True) [(h0, .inr (12, [.ref (r 0), .ref (r 1), .ref (r 2), .ref (r 3), .int 0, .int 0, .int 1, .int 110, .int 0, .int 115, .int 0, .int 0, .int 0, .int 0])), (o, .inl (cO, 1, .inr (.inl fo)))] ∧ tf (rg0 sz) U U.heap)) (va_Qi (fun (r9 : Int32) (u : Nat → Int64) => r9 = 0 ∧ u 0 = 0) (fun u t => va_P D vwCl [(o, .inl (cO, 1, .inr (.inl u)))] t.heap) (va_A [(h0, .inr (12, [.ref (r 0), .ref (r 1), .ref (r 2), .ref (r 3), .int 0, .int 0, .int 1, .int 110, .int 0, .int 115, .int 0, .int 0, .int 0, .int 0])), (o, .inl (cO, 1, .inr (.inl fo)))] sz)) 0 0 (va_A [(h0, .inr (12, [.ref (r 0), .ref (r 1), .ref (r 2), .ref (r 3), .int 0, .int 0, .int 1, .int 110, .int 0, .int 115, .int 0, .int 0, .int 0, .int 0])), (o, .inl (cO, 1, .inr (.inl fo)))] sz) := by
  refine va_MetW (cc := cL_player) (maxL := 3) (ret := (some .int)) (hh := [(0, 8, 11, 15)]) (by decide +kernel) rfl ?_
  intro p e s m args below meth c s₁ B hml hv
  obtain ⟨rfl, hsz, hP, hK, hD0, hT⟩ := hv
  have hx := B.exec
  have hb := B.bytes
  have hr := B.returns
  have hts := atoms_spec (ws := wsL_player) B.pre
  have hown : s.vm.findClass RL = some m.cls := findClass_of_methodNamed B.named
  have hlocks := B.notSynchronized
  subst hsz
  have hD := hD0.self (sz := s.heap.size)
  generalize hAe : va_A [(h0, .inr (12, [.ref (r 0), .ref (r 1), .ref (r 2), .ref (r 3), .int 0, .int 0, .int 1, .int 110, .int 0, .int 115, .int 0, .int 0, .int 0, .int 0])), (o, .inl (cO, 1, .inr (.inl fo)))] s.heap.size = A at hD ⊢
  have hA : ∀ q : Nat, s.heap.size ≤ q → A q := fun q h => by rw [← hAe]; exact Or.inr h
  have hS : va_S A s.heap s.heap [] := va_S.rf
  have htab := vx_table (x := yL_player) B (hts (.codeWith yL_player cL_player 3 (some .int) [(0, 8, 11, 15)]) (List.mem_of_getElem? (i := 0) rfl))
  have hl := lv_entry ([.ref h0, .ref o]) (n := 3) (Nat.le_of_ble_eq_true rfl)
  rw [lg_entry_eq]
  generalize (lg_sl ([.ref h0, .ref o]) ++ List.replicate (3 - (lg_sl ([.ref h0, .ref o])).length) Slot.unset).toArray = ls at hl ⊢
  have hl : lv_has ls 3 [(0, .ref h0), (1, .ref o)] := hl
  refine lv_aload_n hx hb dL_player_0 rfl (lv_at hl 1 rfl) ?_
  refine lv_iconst (v := 0) hx hb dL_player_1 (by decide) ?_
  refine lv_aload_n hx hb dL_player_2 rfl (lv_at hl 0 rfl) ?_
  have hPc := hP.sub (ws' := [(h0, .inr (12, [.ref (r 0), .ref (r 1), .ref (r 2), .ref (r 3), .int 0, .int 0, .int 1, .int 110, .int 0, .int 115, .int 0, .int 0, .int 0, .int 0]))]) [0] rfl
  have hKc := hK.sub (tys' := []) [] rfl
  have hFc : ∀ q : Nat, rg1 h0 s.heap.size q → A q := fun q h => h.elim (fun e => by rw [e]; exact hD.2 0 _ rfl) (hA q)
  refine va_calli (va_runV (As := []) (rest := [.int 0, .ref o]) ⟨hx, hb, hml, hown, hts⟩ (c_X6_player l D h0 r s.heap.size) (cwV 0 hts gL_player_X6_player rfl rfl rfl (by decide +kernel) ⟨Nat.le_of_ble_eq_true rfl, Nat.le_of_ble_eq_true rfl⟩) ⟨fun a U g mk q => ⟨q.1, PX6.blind q.2⟩, va_recv hK hP (ci := 12) (q0 := 0) rfl rfl, fun U hU hW => ⟨rfl, PX6.go hPc hKc hT (va_S.rf : va_S (rg0 s.heap.size) s.heap s.heap []) (fun _ h => h) hU hW⟩⟩ rfl rfl hl.1 rfl (lv_room (Nat.le_of_ble_eq_true rfl)) dL_player_3 ⟨Nat.le_of_ble_eq_true rfl, Nat.le_of_ble_eq_true rfl⟩) hS (fun q _ h => hFc q h) hFc (fun r9 u t H1 locs ht hvm hw hB hz1 hk1 hS => ?_)
  obtain rfl : r9 = 0 := hw
  have hPo := hP.sub (ws' := [(o, .inl (cO, 1, .inr (.inl fo)))]) [1] rfl
  have hDo := hD.sub (ws' := [(o, .inl (cO, 1, .inr (.inl fo)))]) [1] (by decide) rfl
  have hno : ¬ rg1 h0 s.heap.size o := fun q => q.elim (fun e => absurd (hD.1 1 0 _ _ rfl rfl e) (by decide)) (fun h => absurd (hP 1 _ rfl).lt (Nat.not_lt.mpr h))
  have hP : va_P D vwCl [(o, .inl (cO, 1, .inr (.inl fo)))] H1 := hPo.kept (fun k x hx9 => by have h0 : k < 1 := (List.getElem?_eq_some_iff.mp hx9).1; rw [show k = 0 by omega] at hx9; cases hx9; exact hk1 o (hP 1 _ rfl).lt hno)
  have hD := hDo
  generalize H1 = H at hP hS ⊢
  refine lv_i2l hx hb dL_player_6 rfl ?_
  refine va_last hx hb hK hP hD hS 0 0 rfl rfl (vp_in_nI (n := 0) (by decide) (by decide)) dL_player_7 (fun H locs hP hD hS => ?_)
  have hP : va_P D vwCl [(o, .inl (cO, 1, .inr (.inl (vp_updL fo (0 : Int32).toNatClampNeg ((0 : Int32).toInt64)))))] H := hP
  have hD : va_D A [(o, .inl (cO, 1, .inr (.inl (vp_updL fo (0 : Int32).toNatClampNeg ((0 : Int32).toInt64)))))] := hD
  refine lv_goto (tgt := 14) hx hb dL_player_8 (by decide) ?_
  refine lv_iconst (v := 0) hx hb dL_player_14 (by decide) ?_
  have hP9 := hP.sub (ws' := [(o, .inl (cO, 1, .inr (.inl (vp_updL fo (0 : Int32).toNatClampNeg ((0 : Int32).toInt64)))))]) [0] rfl
  exact W.iret (v := 0) hx hb hr (fun t ht hW => ⟨⟨0, (vp_updL fo (0 : Int32).toNatClampNeg ((0 : Int32).toInt64)), rfl, ⟨rfl, by unfold vp_updL; rw [if_pos (by decide)]; decide⟩, by rw [← ht] at hP9; exact hP9⟩, hS.F ht⟩) hS.2.2 dL_player_15
set_option maxHeartbeats 4000000 in
set_option maxRecDepth 100000 in
theorem c_L_edition (l : Launch) (hlT : l.stackTraces = false) (D : va_G) (h0 : Nat) (r : Nat → Nat) (o : Nat) (cO : ClassId) (fo : Nat → Int64) (sz : Nat) (a1 : Int32) : Met l yL_edition wsL_edition ({ frames := 70, cells := 1, slots := 6, locals := 700 }) (va_Pc [.ref h0, .int a1, .ref o] (fun U => U.heap.size = sz ∧ va_P D vwCl [(h0, .inr (12, [.ref (r 0), .ref (r 1), .ref (r 2), .ref (r 3), .int 0, .int 0, .int 1, .int 110, .int 0, .int 115, .int 0, .int 0, .int 0, .int 0])), (o, .inl (cO, 1, .inr (.inl fo)))] U.heap ∧ va_K D vwCl [(cO, .long)] U ∧ va_D (fun _ => True) [(h0, .inr (12, [.ref (r 0), .ref (r 1), .ref (r 2), .ref (r 3), .int 0, .int 0, .int 1, .int 110, .int 0, .int 115, .int 0, .int 0, .int 0, .int 0])), (o, .inl (cO, 1, .inr (.inl fo)))] ∧ tf (rg0 sz) U U.heap)) (va_Qi (fun (r9 : Int32) (u : Nat → Int64) => (r9 = 0 ∧ u 0 = 110 ∧ (a1 = 110 ∨ a1 = 111)) ∨ (r9 = 1 ∧ ¬ (a1 = 110 ∨ a1 = 111))) (fun u t => va_P D vwCl [(o, .inl (cO, 1, .inr (.inl u)))] t.heap) (va_A [(h0, .inr (12, [.ref (r 0), .ref (r 1), .ref (r 2), .ref (r 3), .int 0, .int 0, .int 1, .int 110, .int 0, .int 115, .int 0, .int 0, .int 0, .int 0])), (o, .inl (cO, 1, .inr (.inl fo)))] sz)) 1 6 (va_A [(h0, .inr (12, [.ref (r 0), .ref (r 1), .ref (r 2), .ref (r 3), .int 0, .int 0, .int 1, .int 110, .int 0, .int 115, .int 0, .int 0, .int 0, .int 0])), (o, .inl (cO, 1, .inr (.inl fo)))] sz) := by
  refine va_MetW (cc := cL_edition) (maxL := 4) (ret := (some .int)) (hh := [(0, 9, 12, 13)]) (by decide +kernel) rfl ?_
  intro p e s m args below meth c s₁ B hml hv
  obtain ⟨rfl, hsz, hP, hK, hD0, hT⟩ := hv
  have hx := B.exec
  have hb := B.bytes
  have hr := B.returns
  have hts := atoms_spec (ws := wsL_edition) B.pre
  have hown : s.vm.findClass RL = some m.cls := findClass_of_methodNamed B.named
  have hlocks := B.notSynchronized
  subst hsz
  have hD := hD0.self (sz := s.heap.size)
  generalize hAe : va_A [(h0, .inr (12, [.ref (r 0), .ref (r 1), .ref (r 2), .ref (r 3), .int 0, .int 0, .int 1, .int 110, .int 0, .int 115, .int 0, .int 0, .int 0, .int 0])), (o, .inl (cO, 1, .inr (.inl fo)))] s.heap.size = A at hD ⊢
  have hA : ∀ q : Nat, s.heap.size ≤ q → A q := fun q h => by rw [← hAe]; exact Or.inr h
  have hS : va_S A s.heap s.heap [] := va_S.rf
  have htab := vx_table (x := yL_edition) B (hts (.codeWith yL_edition cL_edition 4 (some .int) [(0, 9, 12, 13)]) (List.mem_of_getElem? (i := 0) rfl))
  have hl := lv_entry ([.ref h0, .int a1, .ref o]) (n := 4) (Nat.le_of_ble_eq_true rfl)
  rw [lg_entry_eq]
  generalize (lg_sl ([.ref h0, .int a1, .ref o]) ++ List.replicate (4 - (lg_sl ([.ref h0, .int a1, .ref o])).length) Slot.unset).toArray = ls at hl ⊢
  have hl : lv_has ls 4 [(0, .ref h0), (1, .int a1), (2, .ref o)] := hl
  refine lv_aload_n hx hb dL_edition_0 rfl (lv_at hl 2 rfl) ?_
  refine lv_iconst (v := 0) hx hb dL_edition_1 (by decide) ?_
  refine lv_aload_n hx hb dL_edition_2 rfl (lv_at hl 0 rfl) ?_
  refine lv_iload_n hx hb dL_edition_3 rfl (lv_at hl 1 rfl) ?_
  have hPc := hP.sub (ws' := [(h0, .inr (12, [.ref (r 0), .ref (r 1), .ref (r 2), .ref (r 3), .int 0, .int 0, .int 1, .int 110, .int 0, .int 115, .int 0, .int 0, .int 0, .int 0]))]) [0] rfl
  have hKc := hK.sub (tys' := []) [] rfl
  have hFc : ∀ q : Nat, rg1 h0 s.heap.size q → A q := fun q h => h.elim (fun e => by rw [e]; exact hD.2 0 _ rfl) (hA q)
  refine vx_calli (vx_runV (As := [.int a1]) (rest := [.int 0, .ref o]) ⟨hx, hb, hml, hown, hts⟩ (c_X6_edition l hlT D h0 r s.heap.size a1) (cwV 1 hts gL_edition_X6_edition rfl rfl rfl (by decide +kernel) ⟨Nat.le_of_ble_eq_true rfl, Nat.le_of_ble_eq_true rfl⟩) ⟨fun a U g mk q => ⟨q.1, PX6.blind q.2⟩, va_recv hK hP (ci := 12) (q0 := 0) rfl rfl, fun U hU hW => ⟨rfl, PX6.go hPc hKc hT (va_S.rf : va_S (rg0 s.heap.size) s.heap s.heap []) (fun _ h => h) hU hW⟩⟩ rfl rfl hl.1 rfl (lv_room (Nat.le_of_ble_eq_true rfl)) dL_edition_4 ⟨Nat.le_of_ble_eq_true rfl, Nat.le_of_ble_eq_true rfl⟩) hS (fun q _ h => hFc q h) hFc (fun q _ h => hFc q h) (fun E ce q9 u t H1 locs1 ht hvm hpx hB hz hk9 hS hcell hv hcl => ?_) (fun r9 u t H1 locs ht hvm hw hB hz1 hk1 hS => ?_)
  · skip
    obtain ⟨hE, hq⟩ := (hB : E = "java/lang/IllegalArgumentException" ∧ ¬ (a1 = 110 ∨ a1 = 111))
    subst hE
    refine vx_catch (name := "java/lang/IllegalArgumentException") hown [] ⟨0, 9, 12, 13⟩ [] (htab.trans rfl) (fun z hz => absurd hz List.not_mem_nil) (by decide) (by decide) (hts (.classLink RL 13 "java/lang/IllegalArgumentException") (by decide +kernel)) (va_Nw.use rfl (hT.1 (Cond.castable "java/lang/IllegalArgumentException" "java/lang/IllegalArgumentException") (tf_cast (53, "java/lang/IllegalArgumentException") (by decide +kernel)))) hcell hv hcl ?_
    have hPo := hP.sub (ws' := [(o, .inl (cO, 1, .inr (.inl fo)))]) [1] rfl
    have hDo := hD.sub (ws' := [(o, .inl (cO, 1, .inr (.inl fo)))]) [1] (by decide) rfl
    have hno : ¬ rg1 h0 s.heap.size o := fun q => q.elim (fun e => absurd (hD.1 1 0 _ _ rfl rfl e) (by decide)) (fun h => absurd (hP 1 _ rfl).lt (Nat.not_lt.mpr h))
    have hP : va_P D vwCl [(o, .inl (cO, 1, .inr (.inl fo)))] H1 := hPo.kept (fun k x hx9 => by have h0 : k < 1 := (List.getElem?_eq_some_iff.mp hx9).1; rw [show k = 0 by omega] at hx9; cases hx9; exact hk9 o (hP 1 _ rfl).lt hno)
    have hD := hDo
    generalize H1 = H at hP hS hcell ⊢
    refine lv_astore_n (lv' := [(3, .ref q9), (0, .ref h0), (1, .int a1), (2, .ref o)]) hx hb dL_edition_12 rfl hl (by decide) rfl (fun ls hl => ?_)
    refine lv_iconst (v := 1) hx hb dL_edition_13 (by decide) ?_
    have hP9 := hP.sub (ws' := [(o, .inl (cO, 1, .inr (.inl fo)))]) [0] rfl
    exact W.iret (v := 1) hx hb hr (fun t ht hW => ⟨⟨1, fo, rfl, Or.inr ⟨rfl, hq⟩, by rw [← ht] at hP9; exact hP9⟩, hS.F ht⟩) hS.2.2 dL_edition_14
  · skip
    obtain ⟨rfl, hq⟩ := hw
    have hPo := hP.sub (ws' := [(o, .inl (cO, 1, .inr (.inl fo)))]) [1] rfl
    have hDo := hD.sub (ws' := [(o, .inl (cO, 1, .inr (.inl fo)))]) [1] (by decide) rfl
    have hno : ¬ rg1 h0 s.heap.size o := fun q => q.elim (fun e => absurd (hD.1 1 0 _ _ rfl rfl e) (by decide)) (fun h => absurd (hP 1 _ rfl).lt (Nat.not_lt.mpr h))
    have hP : va_P D vwCl [(o, .inl (cO, 1, .inr (.inl fo)))] H1 := hPo.kept (fun k x hx9 => by have h0 : k < 1 := (List.getElem?_eq_some_iff.mp hx9).1; rw [show k = 0 by omega] at hx9; cases hx9; exact hk1 o (hP 1 _ rfl).lt hno)
    have hD := hDo
    generalize H1 = H at hP hS ⊢
    refine lv_i2l hx hb dL_edition_7 rfl ?_
    refine va_last hx hb hK hP hD hS 0 0 rfl rfl (vp_in_nI (n := 0) (by decide) (by decide)) dL_edition_8 (fun H locs hP hD hS => ?_)
    have hP : va_P D vwCl [(o, .inl (cO, 1, .inr (.inl (vp_updL fo (0 : Int32).toNatClampNeg ((110 : Int32).toInt64)))))] H := hP
    have hD : va_D A [(o, .inl (cO, 1, .inr (.inl (vp_updL fo (0 : Int32).toNatClampNeg ((110 : Int32).toInt64)))))] := hD
    refine lv_goto (tgt := 15) hx hb dL_edition_9 (by decide) ?_
    refine lv_iconst (v := 0) hx hb dL_edition_15 (by decide) ?_
    have hP9 := hP.sub (ws' := [(o, .inl (cO, 1, .inr (.inl (vp_updL fo (0 : Int32).toNatClampNeg ((110 : Int32).toInt64)))))]) [0] rfl
    exact W.iret (v := 0) hx hb hr (fun t ht hW => ⟨⟨0, (vp_updL fo (0 : Int32).toNatClampNeg ((110 : Int32).toInt64)), rfl, Or.inl ⟨rfl, by unfold vp_updL; rw [if_pos (by decide)]; decide, hq⟩, by rw [← ht] at hP9; exact hP9⟩, hS.F ht⟩) hS.2.2 dL_edition_16
set_option maxHeartbeats 4000000 in
set_option maxRecDepth 100000 in
theorem c_L_cut (l : Launch) (hlT : l.stackTraces = false) (D : va_G) (h0 : Nat) (r : Nat → Nat) (o : Nat) (cO : ClassId) (fo : Nat → Int64) (sz : Nat) (a1 : Int32) : Met l yL_cut wsL_cut ({ frames := 70, cells := 1, slots := 6, locals := 700 }) (va_Pc [.ref h0, .int a1, .ref o] (fun U => U.heap.size = sz ∧ va_P D vwCl [(h0, .inr (12, [.ref (r 0), .ref (r 1), .ref (r 2), .ref (r 3), .int 0, .int 0, .int 1, .int 110, .int 0, .int 115, .int 0, .int 0, .int 0, .int 0])), (o, .inl (cO, 1, .inr (.inl fo)))] U.heap ∧ va_K D vwCl [(cO, .long)] U ∧ va_D (fun _ => True) [(h0, .inr (12, [.ref (r 0), .ref (r 1), .ref (r 2), .ref (r 3), .int 0, .int 0, .int 1, .int 110, .int 0, .int 115, .int 0, .int 0, .int 0, .int 0])), (o, .inl (cO, 1, .inr (.inl fo)))] ∧ tf (rg0 sz) U U.heap)) (va_Qi (fun (r9 : Int32) (u : Nat → Int64) => (r9 = 0 ∧ u 0 = 0 ∧ ¬ bIn a1 1 6 = 0) ∨ (r9 = 1 ∧ bIn a1 1 6 = 0)) (fun u t => va_P D vwCl [(o, .inl (cO, 1, .inr (.inl u)))] t.heap) (va_A [(h0, .inr (12, [.ref (r 0), .ref (r 1), .ref (r 2), .ref (r 3), .int 0, .int 0, .int 1, .int 110, .int 0, .int 115, .int 0, .int 0, .int 0, .int 0])), (o, .inl (cO, 1, .inr (.inl fo)))] sz)) 1 6 (va_A [(h0, .inr (12, [.ref (r 0), .ref (r 1), .ref (r 2), .ref (r 3), .int 0, .int 0, .int 1, .int 110, .int 0, .int 115, .int 0, .int 0, .int 0, .int 0])), (o, .inl (cO, 1, .inr (.inl fo)))] sz) := by
  refine va_MetW (cc := cL_cut) (maxL := 4) (ret := (some .int)) (hh := [(0, 9, 12, 13)]) (by decide +kernel) rfl ?_
  intro p e s m args below meth c s₁ B hml hv
  obtain ⟨rfl, hsz, hP, hK, hD0, hT⟩ := hv
  have hx := B.exec
  have hb := B.bytes
  have hr := B.returns
  have hts := atoms_spec (ws := wsL_cut) B.pre
  have hown : s.vm.findClass RL = some m.cls := findClass_of_methodNamed B.named
  have hlocks := B.notSynchronized
  subst hsz
  have hD := hD0.self (sz := s.heap.size)
  generalize hAe : va_A [(h0, .inr (12, [.ref (r 0), .ref (r 1), .ref (r 2), .ref (r 3), .int 0, .int 0, .int 1, .int 110, .int 0, .int 115, .int 0, .int 0, .int 0, .int 0])), (o, .inl (cO, 1, .inr (.inl fo)))] s.heap.size = A at hD ⊢
  have hA : ∀ q : Nat, s.heap.size ≤ q → A q := fun q h => by rw [← hAe]; exact Or.inr h
  have hS : va_S A s.heap s.heap [] := va_S.rf
  have htab := vx_table (x := yL_cut) B (hts (.codeWith yL_cut cL_cut 4 (some .int) [(0, 9, 12, 13)]) (List.mem_of_getElem? (i := 0) rfl))
  have hl := lv_entry ([.ref h0, .int a1, .ref o]) (n := 4) (Nat.le_of_ble_eq_true rfl)
  rw [lg_entry_eq]
  generalize (lg_sl ([.ref h0, .int a1, .ref o]) ++ List.replicate (4 - (lg_sl ([.ref h0, .int a1, .ref o])).length) Slot.unset).toArray = ls at hl ⊢
  have hl : lv_has ls 4 [(0, .ref h0), (1, .int a1), (2, .ref o)] := hl
  refine lv_aload_n hx hb dL_cut_0 rfl (lv_at hl 2 rfl) ?_
  refine lv_iconst (v := 0) hx hb dL_cut_1 (by decide) ?_
  refine lv_aload_n hx hb dL_cut_2 rfl (lv_at hl 0 rfl) ?_
  refine lv_iload_n hx hb dL_cut_3 rfl (lv_at hl 1 rfl) ?_
  have hPc := hP.sub (ws' := [(h0, .inr (12, [.ref (r 0), .ref (r 1), .ref (r 2), .ref (r 3), .int 0, .int 0, .int 1, .int 110, .int 0, .int 115, .int 0, .int 0, .int 0, .int 0]))]) [0] rfl
  have hKc := hK.sub (tys' := []) [] rfl
  have hFc : ∀ q : Nat, rg0 s.heap.size q → A q := fun q h => hA q h
  refine vx_calli (vx_runV (As := [.int a1]) (rest := [.int 0, .ref o]) ⟨hx, hb, hml, hown, hts⟩ (c_X6_cut l hlT D h0 r s.heap.size a1) (cwV 1 hts gL_cut_X6_cut rfl rfl rfl (by decide +kernel) ⟨Nat.le_of_ble_eq_true rfl, Nat.le_of_ble_eq_true rfl⟩) ⟨fun a U g mk q => ⟨q.1, PX6.blind q.2⟩, va_recv hK hP (ci := 12) (q0 := 0) rfl rfl, fun U hU hW => ⟨rfl, PX6.go hPc hKc hT (va_S.rf : va_S (rg0 s.heap.size) s.heap s.heap []) (fun _ h => h) hU hW⟩⟩ rfl rfl hl.1 rfl (lv_room (Nat.le_of_ble_eq_true rfl)) dL_cut_4 ⟨Nat.le_of_ble_eq_true rfl, Nat.le_of_ble_eq_true rfl⟩) hS (fun q _ h => hFc q h) hFc (fun q _ h => hFc q h) (fun E ce q9 u t H1 locs1 ht hvm hpx hB hz hk9 hS hcell hv hcl => ?_) (fun r9 u t H1 locs ht hvm hw hB hz1 hk1 hS => ?_)
  · skip
    obtain ⟨hE, hq⟩ := (hB : E = "java/lang/IllegalArgumentException" ∧ bIn a1 1 6 = 0)
    subst hE
    refine vx_catch (name := "java/lang/IllegalArgumentException") hown [] ⟨0, 9, 12, 13⟩ [] (htab.trans rfl) (fun z hz => absurd hz List.not_mem_nil) (by decide) (by decide) (hts (.classLink RL 13 "java/lang/IllegalArgumentException") (by decide +kernel)) (va_Nw.use rfl (hT.1 (Cond.castable "java/lang/IllegalArgumentException" "java/lang/IllegalArgumentException") (tf_cast (53, "java/lang/IllegalArgumentException") (by decide +kernel)))) hcell hv hcl ?_
    have hPo := hP.sub (ws' := [(o, .inl (cO, 1, .inr (.inl fo)))]) [1] rfl
    have hDo := hD.sub (ws' := [(o, .inl (cO, 1, .inr (.inl fo)))]) [1] (by decide) rfl
    have hno : ¬ rg0 s.heap.size o := fun h => absurd (hP 1 _ rfl).lt (Nat.not_lt.mpr h)
    have hP : va_P D vwCl [(o, .inl (cO, 1, .inr (.inl fo)))] H1 := hPo.kept (fun k x hx9 => by have h0 : k < 1 := (List.getElem?_eq_some_iff.mp hx9).1; rw [show k = 0 by omega] at hx9; cases hx9; exact hk9 o (hP 1 _ rfl).lt hno)
    have hD := hDo
    generalize H1 = H at hP hS hcell ⊢
    refine lv_astore_n (lv' := [(3, .ref q9), (0, .ref h0), (1, .int a1), (2, .ref o)]) hx hb dL_cut_12 rfl hl (by decide) rfl (fun ls hl => ?_)
    refine lv_iconst (v := 1) hx hb dL_cut_13 (by decide) ?_
    have hP9 := hP.sub (ws' := [(o, .inl (cO, 1, .inr (.inl fo)))]) [0] rfl
    exact W.iret (v := 1) hx hb hr (fun t ht hW => ⟨⟨1, fo, rfl, Or.inr ⟨rfl, hq⟩, by rw [← ht] at hP9; exact hP9⟩, hS.F ht⟩) hS.2.2 dL_cut_14
  · skip
    obtain ⟨rfl, hq⟩ := hw
    have hPo := hP.sub (ws' := [(o, .inl (cO, 1, .inr (.inl fo)))]) [1] rfl
    have hDo := hD.sub (ws' := [(o, .inl (cO, 1, .inr (.inl fo)))]) [1] (by decide) rfl
    have hno : ¬ rg0 s.heap.size o := fun h => absurd (hP 1 _ rfl).lt (Nat.not_lt.mpr h)
    have hP : va_P D vwCl [(o, .inl (cO, 1, .inr (.inl fo)))] H1 := hPo.kept (fun k x hx9 => by have h0 : k < 1 := (List.getElem?_eq_some_iff.mp hx9).1; rw [show k = 0 by omega] at hx9; cases hx9; exact hk1 o (hP 1 _ rfl).lt hno)
    have hD := hDo
    generalize H1 = H at hP hS ⊢
    refine lv_i2l hx hb dL_cut_7 rfl ?_
    refine va_last hx hb hK hP hD hS 0 0 rfl rfl (vp_in_nI (n := 0) (by decide) (by decide)) dL_cut_8 (fun H locs hP hD hS => ?_)
    have hP : va_P D vwCl [(o, .inl (cO, 1, .inr (.inl (vp_updL fo (0 : Int32).toNatClampNeg ((0 : Int32).toInt64)))))] H := hP
    have hD : va_D A [(o, .inl (cO, 1, .inr (.inl (vp_updL fo (0 : Int32).toNatClampNeg ((0 : Int32).toInt64)))))] := hD
    refine lv_goto (tgt := 15) hx hb dL_cut_9 (by decide) ?_
    refine lv_iconst (v := 0) hx hb dL_cut_15 (by decide) ?_
    have hP9 := hP.sub (ws' := [(o, .inl (cO, 1, .inr (.inl (vp_updL fo (0 : Int32).toNatClampNeg ((0 : Int32).toInt64)))))]) [0] rfl
    exact W.iret (v := 0) hx hb hr (fun t ht hW => ⟨⟨0, (vp_updL fo (0 : Int32).toNatClampNeg ((0 : Int32).toInt64)), rfl, Or.inl ⟨rfl, by unfold vp_updL; rw [if_pos (by decide)]; decide, hq⟩, by rw [← ht] at hP9; exact hP9⟩, hS.F ht⟩) hS.2.2 dL_cut_16
set_option maxHeartbeats 4000000 in
set_option maxRecDepth 100000 in
theorem c_L_conditions (l : Launch) (hlT : l.stackTraces = false) (D : va_G) (h0 : Nat) (r : Nat → Nat) (o : Nat) (cO : ClassId) (fo : Nat → Int64) (sz : Nat) (a1 : Int32) : Met l yL_conditions wsL_conditions ({ frames := 70, cells := 1, slots := 6, locals := 700 }) (va_Pc [.ref h0, .int a1, .ref o] (fun U => U.heap.size = sz ∧ va_P D vwCl [(h0, .inr (12, [.ref (r 0), .ref (r 1), .ref (r 2), .ref (r 3), .int 0, .int 0, .int 1, .int 110, .int 0, .int 115, .int 0, .int 0, .int 0, .int 0])), (o, .inl (cO, 1, .inr (.inl fo)))] U.heap ∧ va_K D vwCl [(cO, .long)] U ∧ va_D (fun _ => True) [(h0, .inr (12, [.ref (r 0), .ref (r 1), .ref (r 2), .ref (r 3), .int 0, .int 0, .int 1, .int 110, .int 0, .int 115, .int 0, .int 0, .int 0, .int 0])), (o, .inl (cO, 1, .inr (.inl fo)))] ∧ tf (rg0 sz) U U.heap)) (va_Qi (fun (r9 : Int32) (u : Nat → Int64) => (r9 = 0 ∧ u 0 = 0 ∧ ¬ bIn a1 (-1) 3 = 0) ∨ (r9 = 1 ∧ bIn a1 (-1) 3 = 0)) (fun u t => va_P D vwCl [(o, .inl (cO, 1, .inr (.inl u)))] t.heap) (va_A [(h0, .inr (12, [.ref (r 0), .ref (r 1), .ref (r 2), .ref (r 3), .int 0, .int 0, .int 1, .int 110, .int 0, .int 115, .int 0, .int 0, .int 0, .int 0])), (o, .inl (cO, 1, .inr (.inl fo)))] sz)) 1 6 (va_A [(h0, .inr (12, [.ref (r 0), .ref (r 1), .ref (r 2), .ref (r 3), .int 0, .int 0, .int 1, .int 110, .int 0, .int 115, .int 0, .int 0, .int 0, .int 0])), (o, .inl (cO, 1, .inr (.inl fo)))] sz) := by
  refine va_MetW (cc := cL_conditions) (maxL := 4) (ret := (some .int)) (hh := [(0, 9, 12, 13)]) (by decide +kernel) rfl ?_
  intro p e s m args below meth c s₁ B hml hv
  obtain ⟨rfl, hsz, hP, hK, hD0, hT⟩ := hv
  have hx := B.exec
  have hb := B.bytes
  have hr := B.returns
  have hts := atoms_spec (ws := wsL_conditions) B.pre
  have hown : s.vm.findClass RL = some m.cls := findClass_of_methodNamed B.named
  have hlocks := B.notSynchronized
  subst hsz
  have hD := hD0.self (sz := s.heap.size)
  generalize hAe : va_A [(h0, .inr (12, [.ref (r 0), .ref (r 1), .ref (r 2), .ref (r 3), .int 0, .int 0, .int 1, .int 110, .int 0, .int 115, .int 0, .int 0, .int 0, .int 0])), (o, .inl (cO, 1, .inr (.inl fo)))] s.heap.size = A at hD ⊢
  have hA : ∀ q : Nat, s.heap.size ≤ q → A q := fun q h => by rw [← hAe]; exact Or.inr h
  have hS : va_S A s.heap s.heap [] := va_S.rf
  have htab := vx_table (x := yL_conditions) B (hts (.codeWith yL_conditions cL_conditions 4 (some .int) [(0, 9, 12, 13)]) (List.mem_of_getElem? (i := 0) rfl))
  have hl := lv_entry ([.ref h0, .int a1, .ref o]) (n := 4) (Nat.le_of_ble_eq_true rfl)
  rw [lg_entry_eq]
  generalize (lg_sl ([.ref h0, .int a1, .ref o]) ++ List.replicate (4 - (lg_sl ([.ref h0, .int a1, .ref o])).length) Slot.unset).toArray = ls at hl ⊢
  have hl : lv_has ls 4 [(0, .ref h0), (1, .int a1), (2, .ref o)] := hl
  refine lv_aload_n hx hb dL_conditions_0 rfl (lv_at hl 2 rfl) ?_
  refine lv_iconst (v := 0) hx hb dL_conditions_1 (by decide) ?_
  refine lv_aload_n hx hb dL_conditions_2 rfl (lv_at hl 0 rfl) ?_
  refine lv_iload_n hx hb dL_conditions_3 rfl (lv_at hl 1 rfl) ?_
  have hPc := hP.sub (ws' := [(h0, .inr (12, [.ref (r 0), .ref (r 1), .ref (r 2), .ref (r 3), .int 0, .int 0, .int 1, .int 110, .int 0, .int 115, .int 0, .int 0, .int 0, .int 0]))]) [0] rfl
  have hKc := hK.sub (tys' := []) [] rfl
  have hFc : ∀ q : Nat, rg1 h0 s.heap.size q → A q := fun q h => h.elim (fun e => by rw [e]; exact hD.2 0 _ rfl) (hA q)
  refine vx_calli (vx_runV (As := [.int a1]) (rest := [.int 0, .ref o]) ⟨hx, hb, hml, hown, hts⟩ (c_X6_conditions l hlT D h0 r s.heap.size a1) (cwV 1 hts gL_conditions_X6_conditions rfl rfl rfl (by decide +kernel) ⟨Nat.le_of_ble_eq_true rfl, Nat.le_of_ble_eq_true rfl⟩) ⟨fun a U g mk q => ⟨q.1, PX6.blind q.2⟩, va_recv hK hP (ci := 12) (q0 := 0) rfl rfl, fun U hU hW => ⟨rfl, PX6.go hPc hKc hT (va_S.rf : va_S (rg0 s.heap.size) s.heap s.heap []) (fun _ h => h) hU hW⟩⟩ rfl rfl hl.1 rfl (lv_room (Nat.le_of_ble_eq_true rfl)) dL_conditions_4 ⟨Nat.le_of_ble_eq_true rfl, Nat.le_of_ble_eq_true rfl⟩) hS (fun q _ h => hFc q h) hFc (fun q _ h => hFc q h) (fun E ce q9 u t H1 locs1 ht hvm hpx hB hz hk9 hS hcell hv hcl => ?_) (fun r9 u t H1 locs ht hvm hw hB hz1 hk1 hS => ?_)
  · skip
    obtain ⟨hE, hq⟩ := (hB : E = "java/lang/IllegalArgumentException" ∧ bIn a1 (-1) 3 = 0)
    subst hE
    refine vx_catch (name := "java/lang/IllegalArgumentException") hown [] ⟨0, 9, 12, 13⟩ [] (htab.trans rfl) (fun z hz => absurd hz List.not_mem_nil) (by decide) (by decide) (hts (.classLink RL 13 "java/lang/IllegalArgumentException") (by decide +kernel)) (va_Nw.use rfl (hT.1 (Cond.castable "java/lang/IllegalArgumentException" "java/lang/IllegalArgumentException") (tf_cast (53, "java/lang/IllegalArgumentException") (by decide +kernel)))) hcell hv hcl ?_
    have hPo := hP.sub (ws' := [(o, .inl (cO, 1, .inr (.inl fo)))]) [1] rfl
    have hDo := hD.sub (ws' := [(o, .inl (cO, 1, .inr (.inl fo)))]) [1] (by decide) rfl
    have hno : ¬ rg1 h0 s.heap.size o := fun q => q.elim (fun e => absurd (hD.1 1 0 _ _ rfl rfl e) (by decide)) (fun h => absurd (hP 1 _ rfl).lt (Nat.not_lt.mpr h))
    have hP : va_P D vwCl [(o, .inl (cO, 1, .inr (.inl fo)))] H1 := hPo.kept (fun k x hx9 => by have h0 : k < 1 := (List.getElem?_eq_some_iff.mp hx9).1; rw [show k = 0 by omega] at hx9; cases hx9; exact hk9 o (hP 1 _ rfl).lt hno)
    have hD := hDo
    generalize H1 = H at hP hS hcell ⊢
    refine lv_astore_n (lv' := [(3, .ref q9), (0, .ref h0), (1, .int a1), (2, .ref o)]) hx hb dL_conditions_12 rfl hl (by decide) rfl (fun ls hl => ?_)
    refine lv_iconst (v := 1) hx hb dL_conditions_13 (by decide) ?_
    have hP9 := hP.sub (ws' := [(o, .inl (cO, 1, .inr (.inl fo)))]) [0] rfl
    exact W.iret (v := 1) hx hb hr (fun t ht hW => ⟨⟨1, fo, rfl, Or.inr ⟨rfl, hq⟩, by rw [← ht] at hP9; exact hP9⟩, hS.F ht⟩) hS.2.2 dL_conditions_14
  · skip
    obtain ⟨rfl, hq⟩ := hw
    have hPo := hP.sub (ws' := [(o, .inl (cO, 1, .inr (.inl fo)))]) [1] rfl
    have hDo := hD.sub (ws' := [(o, .inl (cO, 1, .inr (.inl fo)))]) [1] (by decide) rfl
    have hno : ¬ rg1 h0 s.heap.size o := fun q => q.elim (fun e => absurd (hD.1 1 0 _ _ rfl rfl e) (by decide)) (fun h => absurd (hP 1 _ rfl).lt (Nat.not_lt.mpr h))
    have hP : va_P D vwCl [(o, .inl (cO, 1, .inr (.inl fo)))] H1 := hPo.kept (fun k x hx9 => by have h0 : k < 1 := (List.getElem?_eq_some_iff.mp hx9).1; rw [show k = 0 by omega] at hx9; cases hx9; exact hk1 o (hP 1 _ rfl).lt hno)
    have hD := hDo
    generalize H1 = H at hP hS ⊢
    refine lv_i2l hx hb dL_conditions_7 rfl ?_
    refine va_last hx hb hK hP hD hS 0 0 rfl rfl (vp_in_nI (n := 0) (by decide) (by decide)) dL_conditions_8 (fun H locs hP hD hS => ?_)
    have hP : va_P D vwCl [(o, .inl (cO, 1, .inr (.inl (vp_updL fo (0 : Int32).toNatClampNeg ((0 : Int32).toInt64)))))] H := hP
    have hD : va_D A [(o, .inl (cO, 1, .inr (.inl (vp_updL fo (0 : Int32).toNatClampNeg ((0 : Int32).toInt64)))))] := hD
    refine lv_goto (tgt := 15) hx hb dL_conditions_9 (by decide) ?_
    refine lv_iconst (v := 0) hx hb dL_conditions_15 (by decide) ?_
    have hP9 := hP.sub (ws' := [(o, .inl (cO, 1, .inr (.inl (vp_updL fo (0 : Int32).toNatClampNeg ((0 : Int32).toInt64)))))]) [0] rfl
    exact W.iret (v := 0) hx hb hr (fun t ht hW => ⟨⟨0, (vp_updL fo (0 : Int32).toNatClampNeg ((0 : Int32).toInt64)), rfl, Or.inl ⟨rfl, by unfold vp_updL; rw [if_pos (by decide)]; decide, hq⟩, by rw [← ht] at hP9; exact hP9⟩, hS.F ht⟩) hS.2.2 dL_conditions_16
set_option maxHeartbeats 4000000 in
set_option maxRecDepth 100000 in
theorem c_L_hole (l : Launch) (hlT : l.stackTraces = false) (D : va_G) (h0 : Nat) (r : Nat → Nat) (h1 kq : Nat) (cH : ClassId) (fH : Nat → Option Nat) (hf : fH 0 = some h1) (o : Nat) (cO : ClassId) (fo : Nat → Int64) (sz : Nat) (a1 a2 a3 a4 a5 a6 : Int32) : Met l yL_hole wsL_hole ({ frames := 70, cells := 1, slots := 6, locals := 700 }) (va_Pc [.ref h0, .int a1, .int a2, .int a3, .int a4, .int a5, .int a6, .ref o] (fun U => U.heap.size = sz ∧ va_P D vwCl [(h0, .inr (12, [.ref (r 0), .ref (r 1), .ref (r 2), .ref (r 3), .int 0, .int 0, .int 1, .int 110, .int 0, .int 115, .int 0, .int 0, .int 0, .int 0])), (r 0, .inl (cH, 9, .inr (.inr (.inr (.inr fH))))), (h1, .inr (9, [.ref kq, .int 0, .int 0, .int 0, .int 0, .int 0])), (o, .inl (cO, 1, .inr (.inl fo)))] U.heap ∧ va_K D vwCl [(cH, .object "FairwayChancery$Hole"), (cO, .long)] U ∧ va_D (fun _ => True) [(h0, .inr (12, [.ref (r 0), .ref (r 1), .ref (r 2), .ref (r 3), .int 0, .int 0, .int 1, .int 110, .int 0, .int 115, .int 0, .int 0, .int 0, .int 0])), (r 0, .inl (cH, 9, .inr (.inr (.inr (.inr fH))))), (h1, .inr (9, [.ref kq, .int 0, .int 0, .int 0, .int 0, .int 0])), (o, .inl (cO, 1, .inr (.inl fo)))] ∧ tf (va_A [(h0, .inr (12, [.ref (r 0), .ref (r 1), .ref (r 2), .ref (r 3), .int 0, .int 0, .int 1, .int 110, .int 0, .int 115, .int 0, .int 0, .int 0, .int 0])), (r 0, .inl (cH, 9, .inr (.inr (.inr (.inr fH))))), (h1, .inr (9, [.ref kq, .int 0, .int 0, .int 0, .int 0, .int 0])), (o, .inl (cO, 1, .inr (.inl fo)))] sz) U U.heap)) (va_Qi (fun (r9 : Int32) (u : Nat → Int64) => (r9 = 0 ∧ u 0 = 0 ∧ okHole a1 a2 a3 a4 a5 a6) ∨ (r9 = 1 ∧ ¬ okHole a1 a2 a3 a4 a5 a6)) (fun u t => va_P D vwCl [(o, .inl (cO, 1, .inr (.inl u)))] t.heap) (va_A [(h0, .inr (12, [.ref (r 0), .ref (r 1), .ref (r 2), .ref (r 3), .int 0, .int 0, .int 1, .int 110, .int 0, .int 115, .int 0, .int 0, .int 0, .int 0])), (r 0, .inl (cH, 9, .inr (.inr (.inr (.inr fH))))), (h1, .inr (9, [.ref kq, .int 0, .int 0, .int 0, .int 0, .int 0])), (o, .inl (cO, 1, .inr (.inl fo)))] sz)) 1 6 (va_A [(h0, .inr (12, [.ref (r 0), .ref (r 1), .ref (r 2), .ref (r 3), .int 0, .int 0, .int 1, .int 110, .int 0, .int 115, .int 0, .int 0, .int 0, .int 0])), (r 0, .inl (cH, 9, .inr (.inr (.inr (.inr fH))))), (h1, .inr (9, [.ref kq, .int 0, .int 0, .int 0, .int 0, .int 0])), (o, .inl (cO, 1, .inr (.inl fo)))] sz) := by
  refine va_MetW (cc := cL_hole) (maxL := 9) (ret := (some .int)) (hh := [(0, 18, 21, 13), (0, 18, 25, 15), (0, 18, 29, 17)]) (by decide +kernel) rfl ?_
  intro p e s m args below meth c s₁ B hml hv
  obtain ⟨rfl, hsz, hP, hK, hD0, hT⟩ := hv
  have hx := B.exec
  have hb := B.bytes
  have hr := B.returns
  have hts := atoms_spec (ws := wsL_hole) B.pre
  have hown : s.vm.findClass RL = some m.cls := findClass_of_methodNamed B.named
  have hlocks := B.notSynchronized
  subst hsz
  have hD := hD0.self (sz := s.heap.size)
  generalize hAe : va_A [(h0, .inr (12, [.ref (r 0), .ref (r 1), .ref (r 2), .ref (r 3), .int 0, .int 0, .int 1, .int 110, .int 0, .int 115, .int 0, .int 0, .int 0, .int 0])), (r 0, .inl (cH, 9, .inr (.inr (.inr (.inr fH))))), (h1, .inr (9, [.ref kq, .int 0, .int 0, .int 0, .int 0, .int 0])), (o, .inl (cO, 1, .inr (.inl fo)))] s.heap.size = A at hD hT ⊢
  have hA : ∀ q : Nat, s.heap.size ≤ q → A q := fun q h => by rw [← hAe]; exact Or.inr h
  have hS : va_S A s.heap s.heap [] := va_S.rf
  have htab := vx_table (x := yL_hole) B (hts (.codeWith yL_hole cL_hole 9 (some .int) [(0, 18, 21, 13), (0, 18, 25, 15), (0, 18, 29, 17)]) (List.mem_of_getElem? (i := 0) rfl))
  have hl := lv_entry ([.ref h0, .int a1, .int a2, .int a3, .int a4, .int a5, .int a6, .ref o]) (n := 9) (Nat.le_of_ble_eq_true rfl)
  rw [lg_entry_eq]
  generalize (lg_sl ([.ref h0, .int a1, .int a2, .int a3, .int a4, .int a5, .int a6, .ref o]) ++ List.replicate (9 - (lg_sl ([.ref h0, .int a1, .int a2, .int a3, .int a4, .int a5, .int a6, .ref o])).length) Slot.unset).toArray = ls at hl ⊢
  have hl : lv_has ls 9 [(0, .ref h0), (1, .int a1), (2, .int a2), (3, .int a3), (4, .int a4), (5, .int a5), (6, .int a6), (7, .ref o)] := hl
  refine lv_aload hx hb dL_hole_0 (lv_at hl 7 rfl) ?_
  refine lv_iconst (v := 0) hx hb dL_hole_2 (by decide) ?_
  refine lv_aload_n hx hb dL_hole_3 rfl (lv_at hl 0 rfl) ?_
  refine lv_iload_n hx hb dL_hole_4 rfl (lv_at hl 1 rfl) ?_
  refine lv_iload_n hx hb dL_hole_5 rfl (lv_at hl 2 rfl) ?_
  refine lv_iload_n hx hb dL_hole_6 rfl (lv_at hl 3 rfl) ?_
  refine lv_iload hx hb dL_hole_7 (lv_at hl 4 rfl) ?_
  refine lv_iload hx hb dL_hole_9 (lv_at hl 5 rfl) ?_
  refine lv_iload hx hb dL_hole_11 (lv_at hl 6 rfl) ?_
  have hPc := hP.sub (ws' := WH6 h0 r h1 kq cH fH) [0, 1, 2] rfl
  have hDc := hD.sub (ws' := WH6 h0 r h1 kq cH fH) [0, 1, 2] (by decide) rfl
  have hKc := hK.sub (tys' := [(cH, .object "FairwayChancery$Hole")]) [0] rfl
  have hFc := va_free (wc := WH6 h0 r h1 kq cH fH) hD hS hA [0, 1, 2] rfl
  refine vx_calli (vx_runV (As := [.int a1, .int a2, .int a3, .int a4, .int a5, .int a6]) (rest := [.int 0, .ref o]) ⟨hx, hb, hml, hown, hts⟩ (c_X6_hole l hlT D h0 r h1 kq cH fH hf s.heap.size a1 a2 a3 a4 a5 a6) (cwV 6 hts gL_hole_X6_hole rfl rfl rfl (by decide +kernel) ⟨Nat.le_of_ble_eq_true rfl, Nat.le_of_ble_eq_true rfl⟩) ⟨fun a U g mk q => ⟨q.1, PH6.blind q.2⟩, va_recv hK hP (ci := 12) (q0 := 0) rfl rfl, fun U hU hW => ⟨rfl, by rw [hU], by rw [hU]; exact hPc, va_K.moved hW.alike hKc, hDc.weaken (fun _ _ _ _ => trivial), hT.go hS hW hU hFc⟩⟩ rfl rfl hl.1 rfl (lv_room (Nat.le_of_ble_eq_true rfl)) dL_hole_13 ⟨Nat.le_of_ble_eq_true rfl, Nat.le_of_ble_eq_true rfl⟩) hS (fun q _ h => hFc q h) hFc (fun q _ h => hFc q h) (fun E ce q9 u t H1 locs1 ht hvm hpx hB hz hk9 hS hcell hv hcl => ?_) (fun r9 u t H1 locs ht hvm hw hB hz1 hk1 hS => ?_)
  · skip
    obtain ⟨hE, hq⟩ := (hB : E = "java/lang/IllegalArgumentException" ∧ ¬ okHole a1 a2 a3 a4 a5 a6)
    subst hE
    refine vx_catch (name := "java/lang/IllegalArgumentException") hown [] ⟨0, 18, 21, 13⟩ [⟨0, 18, 25, 15⟩, ⟨0, 18, 29, 17⟩] (htab.trans rfl) (fun z hz => absurd hz List.not_mem_nil) (by decide) (by decide) (hts (.classLink RL 13 "java/lang/IllegalArgumentException") (by decide +kernel)) (va_Nw.use rfl (hT.1 (Cond.castable "java/lang/IllegalArgumentException" "java/lang/IllegalArgumentException") (tf_cast (53, "java/lang/IllegalArgumentException") (by decide +kernel)))) hcell hv hcl ?_
    have hPo := hP.sub (ws' := [(o, .inl (cO, 1, .inr (.inl fo)))]) [3] rfl
    have hDo := hD.sub (ws' := [(o, .inl (cO, 1, .inr (.inl fo)))]) [3] (by decide) rfl
    have hno : ¬ va_A (WH6 h0 r h1 kq cH fH) s.heap.size o := fun q => q.elim (fun ⟨k, e9, hk⟩ => by have hk3 : k < 3 := (List.getElem?_eq_some_iff.mp hk).1; have h9 := hD.1 k 3 (o, e9) _ (by rcases (show k = 0 ∨ k = 1 ∨ k = 2 by omega) with rfl | rfl | rfl <;> exact hk) rfl rfl; omega) (fun h => absurd (hP 3 _ rfl).lt (Nat.not_lt.mpr h))
    have hP : va_P D vwCl [(o, .inl (cO, 1, .inr (.inl fo)))] H1 := hPo.kept (fun k x hx9 => by have h0 : k < 1 := (List.getElem?_eq_some_iff.mp hx9).1; rw [show k = 0 by omega] at hx9; cases hx9; exact hk9 o (hP 3 _ rfl).lt hno)
    have hD := hDo
    generalize H1 = H at hP hS hcell ⊢
    refine lv_astore (lv' := [(8, .ref q9), (0, .ref h0), (1, .int a1), (2, .int a2), (3, .int a3), (4, .int a4), (5, .int a5), (6, .int a6), (7, .ref o)]) hx hb dL_hole_21 hl (by decide) rfl (fun ls hl => ?_)
    refine lv_iconst (v := 1) hx hb dL_hole_23 (by decide) ?_
    have hP9 := hP.sub (ws' := [(o, .inl (cO, 1, .inr (.inl fo)))]) [0] rfl
    exact W.iret (v := 1) hx hb hr (fun t ht hW => ⟨⟨1, fo, rfl, Or.inr ⟨rfl, hq⟩, by rw [← ht] at hP9; exact hP9⟩, hS.F ht⟩) hS.2.2 dL_hole_24
  · skip
    obtain ⟨rfl, hq⟩ := hw
    have hPo := hP.sub (ws' := [(o, .inl (cO, 1, .inr (.inl fo)))]) [3] rfl
    have hDo := hD.sub (ws' := [(o, .inl (cO, 1, .inr (.inl fo)))]) [3] (by decide) rfl
    have hno : ¬ va_A (WH6 h0 r h1 kq cH fH) s.heap.size o := fun q => q.elim (fun ⟨k, e9, hk⟩ => by have hk3 : k < 3 := (List.getElem?_eq_some_iff.mp hk).1; have h9 := hD.1 k 3 (o, e9) _ (by rcases (show k = 0 ∨ k = 1 ∨ k = 2 by omega) with rfl | rfl | rfl <;> exact hk) rfl rfl; omega) (fun h => absurd (hP 3 _ rfl).lt (Nat.not_lt.mpr h))
    have hP : va_P D vwCl [(o, .inl (cO, 1, .inr (.inl fo)))] H1 := hPo.kept (fun k x hx9 => by have h0 : k < 1 := (List.getElem?_eq_some_iff.mp hx9).1; rw [show k = 0 by omega] at hx9; cases hx9; exact hk1 o (hP 3 _ rfl).lt hno)
    have hD := hDo
    generalize H1 = H at hP hS ⊢
    refine lv_i2l hx hb dL_hole_16 rfl ?_
    refine va_last hx hb hK hP hD hS 0 1 rfl rfl (vp_in_nI (n := 0) (by decide) (by decide)) dL_hole_17 (fun H locs hP hD hS => ?_)
    have hP : va_P D vwCl [(o, .inl (cO, 1, .inr (.inl (vp_updL fo (0 : Int32).toNatClampNeg ((0 : Int32).toInt64)))))] H := hP
    have hD : va_D A [(o, .inl (cO, 1, .inr (.inl (vp_updL fo (0 : Int32).toNatClampNeg ((0 : Int32).toInt64)))))] := hD
    refine lv_goto (tgt := 33) hx hb dL_hole_18 (by decide) ?_
    refine lv_iconst (v := 0) hx hb dL_hole_33 (by decide) ?_
    have hP9 := hP.sub (ws' := [(o, .inl (cO, 1, .inr (.inl (vp_updL fo (0 : Int32).toNatClampNeg ((0 : Int32).toInt64)))))]) [0] rfl
    exact W.iret (v := 0) hx hb hr (fun t ht hW => ⟨⟨0, (vp_updL fo (0 : Int32).toNatClampNeg ((0 : Int32).toInt64)), rfl, Or.inl ⟨rfl, by unfold vp_updL; rw [if_pos (by decide)]; decide, hq⟩, by rw [← ht] at hP9; exact hP9⟩, hS.F ht⟩) hS.2.2 dL_hole_34
