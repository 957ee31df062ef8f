theorem dX7_isThrown_0 : decode cX7_isThrown 0 = .ok (.aload_n 0, 1) := by decide +kernel
theorem dX7_isThrown_1 : decode cX7_isThrown 1 = .ok (.iload_n 1, 1) := by decide +kernel
theorem dX7_isThrown_2 : decode cX7_isThrown 2 = .ok (.ifCond .eq 7, 3) := by decide +kernel
theorem dX7_isThrown_5 : decode cX7_isThrown 5 = .ok (.iload_n 2, 1) := by decide +kernel
theorem dX7_isThrown_6 : decode cX7_isThrown 6 = .ok (.goto 4, 3) := by decide +kernel
theorem dX7_isThrown_9 : decode cX7_isThrown 9 = .ok (.iconst 0, 1) := by decide +kernel
theorem dX7_isThrown_10 : decode cX7_isThrown 10 = .ok (.putfield 79, 3) := by decide +kernel
theorem dX7_isThrown_13 : decode cX7_isThrown 13 = .ok (.iload_n 1, 1) := by decide +kernel
theorem dX7_isThrown_14 : decode cX7_isThrown 14 = .ok (.ireturn, 1) := by decide +kernel
theorem dX7_isIn_0 : decode cX7_isIn 0 = .ok (.iload_n 0, 1) := by decide +kernel
theorem dX7_isIn_1 : decode cX7_isIn 1 = .ok (.iload_n 1, 1) := by decide +kernel
theorem dX7_isIn_2 : decode cX7_isIn 2 = .ok (.if_icmp .lt 12, 3) := by decide +kernel
theorem dX7_isIn_5 : decode cX7_isIn 5 = .ok (.iload_n 0, 1) := by decide +kernel
theorem dX7_isIn_6 : decode cX7_isIn 6 = .ok (.iload_n 2, 1) := by decide +kernel
theorem dX7_isIn_7 : decode cX7_isIn 7 = .ok (.if_icmp .gt 7, 3) := by decide +kernel
theorem dX7_isIn_10 : decode cX7_isIn 10 = .ok (.iconst 1, 1) := by decide +kernel
theorem dX7_isIn_11 : decode cX7_isIn 11 = .ok (.goto 4, 3) := by decide +kernel
theorem dX7_isIn_14 : decode cX7_isIn 14 = .ok (.iconst 0, 1) := by decide +kernel
theorem dX7_isIn_15 : decode cX7_isIn 15 = .ok (.ireturn, 1) := by decide +kernel
set_option maxRecDepth 20000 in
theorem ggX7_isCell_X7_isIn : GoodIn wsX7_isCell wsX7_isIn := goodIn_r _ [4] (by decide +kernel) (by decide +kernel)
set_option maxRecDepth 20000 in
theorem gX7_isCell_X7_isIn : GoodIn wsX7_isCell (va_wsS RX7 82 yX7_isIn wsX7_isIn) := goodIn_app (goodIn_of _ (by decide +kernel)) ggX7_isCell_X7_isIn
theorem dX7_isCell_0 : decode cX7_isCell 0 = .ok (.iload_n 0, 1) := by decide +kernel
theorem dX7_isCell_1 : decode cX7_isCell 1 = .ok (.iconst 0, 1) := by decide +kernel
theorem dX7_isCell_2 : decode cX7_isCell 2 = .ok (.bipush 29, 2) := by decide +kernel
theorem dX7_isCell_4 : decode cX7_isCell 4 = .ok (.invokestatic 82, 3) := by decide +kernel
theorem dX7_isCell_7 : decode cX7_isCell 7 = .ok (.ifCond .eq 17, 3) := by decide +kernel
theorem dX7_isCell_10 : decode cX7_isCell 10 = .ok (.iload_n 1, 1) := by decide +kernel
theorem dX7_isCell_11 : decode cX7_isCell 11 = .ok (.iconst 0, 1) := by decide +kernel
theorem dX7_isCell_12 : decode cX7_isCell 12 = .ok (.bipush 19, 2) := by decide +kernel
theorem dX7_isCell_14 : decode cX7_isCell 14 = .ok (.invokestatic 82, 3) := by decide +kernel
theorem dX7_isCell_17 : decode cX7_isCell 17 = .ok (.ifCond .eq 7, 3) := by decide +kernel
theorem dX7_isCell_20 : decode cX7_isCell 20 = .ok (.iconst 1, 1) := by decide +kernel
theorem dX7_isCell_21 : decode cX7_isCell 21 = .ok (.goto 4, 3) := by decide +kernel
theorem dX7_isCell_24 : decode cX7_isCell 24 = .ok (.iconst 0, 1) := by decide +kernel
theorem dX7_isCell_25 : decode cX7_isCell 25 = .ok (.ireturn, 1) := by decide +kernel
set_option maxRecDepth 20000 in
theorem ggX7_isNoHole_X7_isIn : GoodIn wsX7_isNoHole wsX7_isIn := goodIn_r _ [5] (by decide +kernel) (by decide +kernel)
set_option maxRecDepth 20000 in
theorem gX7_isNoHole_X7_isIn : GoodIn wsX7_isNoHole (va_wsS RX7 82 yX7_isIn wsX7_isIn) := goodIn_app (goodIn_of _ (by decide +kernel)) ggX7_isNoHole_X7_isIn
theorem dX7_isNoHole_0 : decode cX7_isNoHole 0 = .ok (.iload_n 1, 1) := by decide +kernel
theorem dX7_isNoHole_1 : decode cX7_isNoHole 1 = .ok (.iconst 0, 1) := by decide +kernel
theorem dX7_isNoHole_2 : decode cX7_isNoHole 2 = .ok (.aload_n 0, 1) := by decide +kernel
theorem dX7_isNoHole_3 : decode cX7_isNoHole 3 = .ok (.getfield 86, 3) := by decide +kernel
theorem dX7_isNoHole_6 : decode cX7_isNoHole 6 = .ok (.iconst 1, 1) := by decide +kernel
theorem dX7_isNoHole_7 : decode cX7_isNoHole 7 = .ok (.isub, 1) := by decide +kernel
theorem dX7_isNoHole_8 : decode cX7_isNoHole 8 = .ok (.invokestatic 82, 3) := by decide +kernel
theorem dX7_isNoHole_11 : decode cX7_isNoHole 11 = .ok (.ifCond .ne 7, 3) := by decide +kernel
theorem dX7_isNoHole_14 : decode cX7_isNoHole 14 = .ok (.iconst 1, 1) := by decide +kernel
theorem dX7_isNoHole_15 : decode cX7_isNoHole 15 = .ok (.goto 4, 3) := by decide +kernel
theorem dX7_isNoHole_19 : decode cX7_isNoHole 19 = .ok (.ireturn, 1) := by decide +kernel
set_option maxRecDepth 20000 in
theorem ggX7_isNoPlayer_X7_isIn : GoodIn wsX7_isNoPlayer wsX7_isIn := goodIn_r _ [5] (by decide +kernel) (by decide +kernel)
set_option maxRecDepth 20000 in
theorem gX7_isNoPlayer_X7_isIn : GoodIn wsX7_isNoPlayer (va_wsS RX7 82 yX7_isIn wsX7_isIn) := goodIn_app (goodIn_of _ (by decide +kernel)) ggX7_isNoPlayer_X7_isIn
theorem dX7_isNoPlayer_0 : decode cX7_isNoPlayer 0 = .ok (.iload_n 1, 1) := by decide +kernel
theorem dX7_isNoPlayer_1 : decode cX7_isNoPlayer 1 = .ok (.iconst 0, 1) := by decide +kernel
theorem dX7_isNoPlayer_2 : decode cX7_isNoPlayer 2 = .ok (.aload_n 0, 1) := by decide +kernel
theorem dX7_isNoPlayer_3 : decode cX7_isNoPlayer 3 = .ok (.getfield 89, 3) := by decide +kernel
theorem dX7_isNoPlayer_6 : decode cX7_isNoPlayer 6 = .ok (.iconst 1, 1) := by decide +kernel
theorem dX7_isNoPlayer_7 : decode cX7_isNoPlayer 7 = .ok (.isub, 1) := by decide +kernel
theorem dX7_isNoPlayer_8 : decode cX7_isNoPlayer 8 = .ok (.invokestatic 82, 3) := by decide +kernel
theorem dX7_isNoPlayer_11 : decode cX7_isNoPlayer 11 = .ok (.ifCond .ne 7, 3) := by decide +kernel
theorem dX7_isNoPlayer_14 : decode cX7_isNoPlayer 14 = .ok (.iconst 1, 1) := by decide +kernel
theorem dX7_isNoPlayer_15 : decode cX7_isNoPlayer 15 = .ok (.goto 4, 3) := by decide +kernel
theorem dX7_isNoPlayer_19 : decode cX7_isNoPlayer 19 = .ok (.ireturn, 1) := by decide +kernel
set_option maxRecDepth 20000 in
theorem ggX7_isNone_X7_isNoPlayer : GoodIn wsX7_isNone wsX7_isNoPlayer := goodIn_r _ [6, 7, 8, 9, 5, 10, 16, 17, 18, 19, 20, 21, 22, 23, 24, 25, 26, 27, 28, 29, 30, 31, 32, 33, 34, 35, 36, 37, 38, 39, 40, 41, 42, 43, 44, 45, 46] (by decide +kernel) (by decide +kernel)
set_option maxRecDepth 20000 in
theorem gX7_isNone_X7_isNoPlayer : GoodIn wsX7_isNone (wsV RX7 132 RX7 yX7_isNoPlayer wsX7_isNoPlayer) := goodIn_app (goodIn_of _ (by decide +kernel)) ggX7_isNone_X7_isNoPlayer
set_option maxRecDepth 20000 in
theorem ggX7_isNone_X7_isThrown : GoodIn wsX7_isNone wsX7_isThrown := goodIn_r _ [14, 15, 16, 17, 18, 19, 20, 21, 22, 23, 24, 25, 26, 27, 28, 29, 30, 31, 32, 33, 34, 35, 36, 37, 38, 39, 40, 41, 42, 43, 44, 45, 46] (by decide +kernel) (by decide +kernel)
set_option maxRecDepth 20000 in
theorem gX7_isNone_X7_isThrown : GoodIn wsX7_isNone (wsV RX7 110 RX7 yX7_isThrown wsX7_isThrown) := goodIn_app (goodIn_of _ (by decide +kernel)) ggX7_isNone_X7_isThrown
theorem dX7_isNone_0 : decode cX7_isNone 0 = .ok (.aload_n 0, 1) := by decide +kernel
theorem dX7_isNone_1 : decode cX7_isNone 1 = .ok (.aload_n 0, 1) := by decide +kernel
theorem dX7_isNone_2 : decode cX7_isNone 2 = .ok (.iload_n 1, 1) := by decide +kernel
theorem dX7_isNone_3 : decode cX7_isNone 3 = .ok (.invokevirtual 132, 3) := by decide +kernel
theorem dX7_isNone_6 : decode cX7_isNone 6 = .ok (.iconst 1, 1) := by decide +kernel
theorem dX7_isNone_7 : decode cX7_isNone 7 = .ok (.invokevirtual 110, 3) := by decide +kernel
theorem dX7_isNone_10 : decode cX7_isNone 10 = .ok (.ifCond .ne 23, 3) := by decide +kernel
theorem dX7_isNone_33 : decode cX7_isNone 33 = .ok (.iconst 1, 1) := by decide +kernel
theorem dX7_isNone_34 : decode cX7_isNone 34 = .ok (.goto 4, 3) := by decide +kernel
theorem dX7_isNone_38 : decode cX7_isNone 38 = .ok (.ireturn, 1) := by decide +kernel
set_option maxHeartbeats 4000000 in
set_option maxRecDepth 100000 in
theorem c_X7_isIn (l : Launch) (sz : Nat) (a1 a2 a3 : Int32) : Met l yX7_isIn wsX7_isIn ({ frames := 5, cells := 0, slots := 0, locals := 50 }) (va_Pc [.int a1, .int a2, .int a3] (fun U => U.heap.size = sz)) (va_Qi (fun r (_ : Unit) => r = bIn a1 a2 a3) (fun _ _ => True) (rg0 sz)) 0 0 (rg0 sz) := by
  refine Met.ofW (cc := cX7_isIn) (maxL := 3) (ret := (some .boolean)) (by decide +kernel) rfl ?_
  intro p e s m args below meth c s₁ B hml hv
  obtain ⟨rfl, hsz⟩ := hv
  have hx := B.exec
  have hb := B.bytes
  have hr := B.returns
  have hts := atoms_spec (ws := wsX7_isIn) B.pre
  have hown : s.vm.findClass RX7 = some m.cls := findClass_of_methodNamed B.named
  have hlocks := B.notSynchronized
  subst hsz
  have hA : ∀ q : Nat, s.heap.size ≤ q → rg0 s.heap.size q := fun _ h => h
  have hS : va_S (rg0 s.heap.size) s.heap s.heap [] := va_S.rf
  have hP : va_P (((fun _ => 0), (fun _ _ => 0)) : va_G) vwCl [] s.heap := fun k q h => by simp at h
  have hl := lv_entry ([.int a1, .int a2, .int a3]) (n := 3) (Nat.le_of_ble_eq_true rfl)
  rw [lg_entry_eq]
  generalize (lg_sl ([.int a1, .int a2, .int a3]) ++ List.replicate (3 - (lg_sl ([.int a1, .int a2, .int a3])).length) Slot.unset).toArray = ls at hl ⊢
  have hl : lv_has ls 3 [(0, .int a1), (1, .int a2), (2, .int a3)] := hl
  refine lv_iload_n hx hb dX7_isIn_0 rfl (lv_at hl 0 rfl) ?_
  refine lv_iload_n hx hb dX7_isIn_1 rfl (lv_at hl 1 rfl) ?_
  refine lv_icmp_lt (tgt := 14) hx hb dX7_isIn_2 (by decide) (fun c_1 => ?_) (fun c_1 => ?_)
  · skip
    refine lv_iconst (v := 0) hx hb dX7_isIn_14 (by decide) ?_
    exact W.zret (v := 0) (ty := .boolean) hx hb hr (by decide) (fun t ht hW => ⟨⟨0, (), rfl, (by have h := c_1; simp only [Int32.lt_iff_toInt_lt, Int32.le_iff_toInt_le, bIn_0, bCell_0, tI_0, tI_1, tI_3, tI_5, tI_6, tI_9, tI_19, tI_20, tI_29, tI_30, tI_36, tI_m1] at h; first | exact (bIn_1 (by (try simp only [tI_0, tI_1, tI_29, tI_19]); omega)).symm | exact (bIn_0.mpr (by (try simp only [tI_0, tI_1, tI_29, tI_19]); omega)).symm), trivial⟩, hS.F ht⟩) hS.2.2 dX7_isIn_15
  · skip
    refine lv_iload_n hx hb dX7_isIn_5 rfl (lv_at hl 0 rfl) ?_
    refine lv_iload_n hx hb dX7_isIn_6 rfl (lv_at hl 2 rfl) ?_
    refine lv_icmp_gt (tgt := 14) hx hb dX7_isIn_7 (by decide) (fun c_2 => ?_) (fun c_2 => ?_)
    · skip
      refine lv_iconst (v := 0) hx hb dX7_isIn_14 (by decide) ?_
      exact W.zret (v := 0) (ty := .boolean) hx hb hr (by decide) (fun t ht hW => ⟨⟨0, (), rfl, (by have h := And.intro c_1 (c_2); simp only [Int32.lt_iff_toInt_lt, Int32.le_iff_toInt_le, bIn_0, bCell_0, tI_0, tI_1, tI_3, tI_5, tI_6, tI_9, tI_19, tI_20, tI_29, tI_30, tI_36, tI_m1] at h; first | exact (bIn_1 (by (try simp only [tI_0, tI_1, tI_29, tI_19]); omega)).symm | exact (bIn_0.mpr (by (try simp only [tI_0, tI_1, tI_29, tI_19]); omega)).symm), trivial⟩, hS.F ht⟩) hS.2.2 dX7_isIn_15
    · skip
      refine lv_iconst (v := 1) hx hb dX7_isIn_10 (by decide) ?_
      refine lv_goto (tgt := 15) hx hb dX7_isIn_11 (by decide) ?_
      exact W.zret (v := 1) (ty := .boolean) hx hb hr (by decide) (fun t ht hW => ⟨⟨1, (), rfl, (by have h := And.intro c_1 (c_2); simp only [Int32.lt_iff_toInt_lt, Int32.le_iff_toInt_le, bIn_0, bCell_0, tI_0, tI_1, tI_3, tI_5, tI_6, tI_9, tI_19, tI_20, tI_29, tI_30, tI_36, tI_m1] at h; first | exact (bIn_1 (by (try simp only [tI_0, tI_1, tI_29, tI_19]); omega)).symm | exact (bIn_0.mpr (by (try simp only [tI_0, tI_1, tI_29, tI_19]); omega)).symm), trivial⟩, hS.F ht⟩) hS.2.2 dX7_isIn_15
set_option maxHeartbeats 4000000 in
set_option maxRecDepth 100000 in
theorem c_X7_isCell (l : Launch) (sz : Nat) (a1 a2 : Int32) : Met l yX7_isCell wsX7_isCell ({ frames := 20, cells := 0, slots := 0, locals := 200 }) (va_Pc [.int a1, .int a2] (fun U => U.heap.size = sz)) (va_Qi (fun r (_ : Unit) => r = bCell a1 a2) (fun _ _ => True) (rg0 sz)) 0 0 (rg0 sz) := by
  refine Met.ofW (cc := cX7_isCell) (maxL := 2) (ret := (some .boolean)) (by decide +kernel) rfl ?_
  intro p e s m args below meth c s₁ B hml hv
  obtain ⟨rfl, hsz⟩ := hv
  have hx := B.exec
  have hb := B.bytes
  have hr := B.returns
  have hts := atoms_spec (ws := wsX7_isCell) B.pre
  have hown : s.vm.findClass RX7 = some m.cls := findClass_of_methodNamed B.named
  have hlocks := B.notSynchronized
  subst hsz
  have hA : ∀ q : Nat, s.heap.size ≤ q → rg0 s.heap.size q := fun _ h => h
  have hS : va_S (rg0 s.heap.size) s.heap s.heap [] := va_S.rf
  have hP : va_P (((fun _ => 0), (fun _ _ => 0)) : va_G) vwCl [] s.heap := fun k q h => by simp at h
  have hl := lv_entry ([.int a1, .int a2]) (n := 2) (Nat.le_of_ble_eq_true rfl)
  rw [lg_entry_eq]
  generalize (lg_sl ([.int a1, .int a2]) ++ List.replicate (2 - (lg_sl ([.int a1, .int a2])).length) Slot.unset).toArray = ls at hl ⊢
  have hl : lv_has ls 2 [(0, .int a1), (1, .int a2)] := hl
  refine lv_iload_n hx hb dX7_isCell_0 rfl (lv_at hl 0 rfl) ?_
  refine lv_iconst (v := 0) hx hb dX7_isCell_1 (by decide) ?_
  refine lv_bipush (v := 29) hx hb dX7_isCell_2 (by decide) ?_
  refine va_calli (va_runS (As := [.int a1, .int 0, .int 29]) (rest := []) ⟨hx, hb, hml, hown, hts⟩ (c_X7_isIn l s.heap.size a1 0 29) (va_cwS 3 hts gX7_isCell_X7_isIn rfl rfl rfl (by decide +kernel) ⟨Nat.le_of_ble_eq_true rfl, Nat.le_of_ble_eq_true rfl⟩) ⟨fun a U g mk q => q, fun U hU hW => ⟨rfl, congrArg Array.size hU⟩⟩ rfl rfl hl.1 rfl (lv_room (Nat.le_of_ble_eq_true rfl)) dX7_isCell_4 ⟨Nat.le_of_ble_eq_true rfl, Nat.le_of_ble_eq_true rfl⟩) hS (fun q h1 h2 => absurd h1 (Nat.not_lt.mpr h2)) (fun q h => hA q (Nat.le_trans hS.1 h)) (fun r1 u t H1 locs ht hvm hw hB hz1 hk1 hS => ?_)
  have hP := va_kept0 hP hk1
  generalize H1 = H at hP hS ⊢
  have hP : va_P (((fun _ => 0), (fun _ _ => 0)) : va_G) vwCl [] H := hP
  obtain rfl : r1 = bIn a1 0 29 := hw
  refine lv_if_eq (tgt := 24) hx hb dX7_isCell_7 (by decide) (fun c_2 => ?_) (fun c_2 => ?_)
  · skip
    refine lv_iconst (v := 0) hx hb dX7_isCell_24 (by decide) ?_
    exact W.zret (v := 0) (ty := .boolean) hx hb hr (by decide) (fun t ht hW => ⟨⟨0, (), rfl, (by have h := c_2; simp only [Int32.lt_iff_toInt_lt, Int32.le_iff_toInt_le, bIn_0, bCell_0, tI_0, tI_1, tI_3, tI_5, tI_6, tI_9, tI_19, tI_20, tI_29, tI_30, tI_36, tI_m1] at h; first | exact (bCell_1 (by (try simp only [tI_0, tI_1, tI_29, tI_19]); omega)).symm | exact (bCell_0.mpr (by (try simp only [tI_0, tI_1, tI_29, tI_19]); omega)).symm), trivial⟩, hS.F ht⟩) hS.2.2 dX7_isCell_25
  · skip
    refine lv_iload_n hx hb dX7_isCell_10 rfl (lv_at hl 1 rfl) ?_
    refine lv_iconst (v := 0) hx hb dX7_isCell_11 (by decide) ?_
    refine lv_bipush (v := 19) hx hb dX7_isCell_12 (by decide) ?_
    refine va_calli (va_runS (As := [.int a2, .int 0, .int 19]) (rest := []) ⟨hx, hb, hml, hown, hts⟩ (c_X7_isIn l H.size a2 0 19) (va_cwS 3 hts gX7_isCell_X7_isIn rfl rfl rfl (by decide +kernel) ⟨Nat.le_of_ble_eq_true rfl, Nat.le_of_ble_eq_true rfl⟩) ⟨fun a U g mk q => q, fun U hU hW => ⟨rfl, congrArg Array.size hU⟩⟩ rfl rfl hl.1 rfl (lv_room (Nat.le_of_ble_eq_true rfl)) dX7_isCell_14 ⟨Nat.le_of_ble_eq_true rfl, Nat.le_of_ble_eq_true rfl⟩) hS (fun q h1 h2 => absurd h1 (Nat.not_lt.mpr h2)) (fun q h => hA q (Nat.le_trans hS.1 h)) (fun r3 u t H1 locs ht hvm hw hB hz1 hk1 hS => ?_)
    have hP := va_kept0 hP hk1
    generalize H1 = H at hP hS ⊢
    have hP : va_P (((fun _ => 0), (fun _ _ => 0)) : va_G) vwCl [] H := hP
    obtain rfl : r3 = bIn a2 0 19 := hw
    refine lv_if_eq (tgt := 24) hx hb dX7_isCell_17 (by decide) (fun c_4 => ?_) (fun c_4 => ?_)
    · skip
      refine lv_iconst (v := 0) hx hb dX7_isCell_24 (by decide) ?_
      exact W.zret (v := 0) (ty := .boolean) hx hb hr (by decide) (fun t ht hW => ⟨⟨0, (), rfl, (by have h := And.intro c_2 (c_4); simp only [Int32.lt_iff_toInt_lt, Int32.le_iff_toInt_le, bIn_0, bCell_0, tI_0, tI_1, tI_3, tI_5, tI_6, tI_9, tI_19, tI_20, tI_29, tI_30, tI_36, tI_m1] at h; first | exact (bCell_1 (by (try simp only [tI_0, tI_1, tI_29, tI_19]); omega)).symm | exact (bCell_0.mpr (by (try simp only [tI_0, tI_1, tI_29, tI_19]); omega)).symm), trivial⟩, hS.F ht⟩) hS.2.2 dX7_isCell_25
    · skip
      refine lv_iconst (v := 1) hx hb dX7_isCell_20 (by decide) ?_
      refine lv_goto (tgt := 25) hx hb dX7_isCell_21 (by decide) ?_
      exact W.zret (v := 1) (ty := .boolean) hx hb hr (by decide) (fun t ht hW => ⟨⟨1, (), rfl, (by have h := And.intro c_2 (c_4); simp only [Int32.lt_iff_toInt_lt, Int32.le_iff_toInt_le, bIn_0, bCell_0, tI_0, tI_1, tI_3, tI_5, tI_6, tI_9, tI_19, tI_20, tI_29, tI_30, tI_36, tI_m1] at h; first | exact (bCell_1 (by (try simp only [tI_0, tI_1, tI_29, tI_19]); omega)).symm | exact (bCell_0.mpr (by (try simp only [tI_0, tI_1, tI_29, tI_19]); omega)).symm), trivial⟩, hS.F ht⟩) hS.2.2 dX7_isCell_25
set_option maxHeartbeats 4000000 in
set_option maxRecDepth 100000 in
theorem c_X7_isNoHole (l : Launch) (D : va_G) (h0 : Nat) (r : Nat → Nat) (th : Int32) (sz : Nat) (a1 : Int32) : Met l yX7_isNoHole wsX7_isNoHole ({ frames := 20, cells := 0, slots := 0, locals := 200 }) (va_Pc [.ref h0, .int a1] (PX7 D h0 r th sz)) (va_Qi (fun (r9 : Int32) (u : Unit) => r9 = 1) (fun u t => True) (rg0 sz)) 0 0 (rg0 sz) := by
  refine Met.ofW (cc := cX7_isNoHole) (maxL := 2) (ret := (some .boolean)) (by decide +kernel) rfl ?_
  intro p e s m args below meth c s₁ B hml hv
  obtain ⟨rfl, hsz, hP, hK⟩ := hv
  have hx := B.exec
  have hb := B.bytes
  have hr := B.returns
  have hts := atoms_spec (ws := wsX7_isNoHole) B.pre
  have hown : s.vm.findClass RX7 = some m.cls := findClass_of_methodNamed B.named
  have hlocks := B.notSynchronized
  subst hsz
  have hA : ∀ q : Nat, s.heap.size ≤ q → rg0 s.heap.size q := fun _ h => h
  have hS : va_S (rg0 s.heap.size) s.heap s.heap [] := va_S.rf
  have hP : va_P D vwCl [(h0, .inr (13, [.ref (r 0), .ref (r 1), .ref (r 2), .ref (r 3), .ref (r 4), .ref (r 5), .ref (r 6), .ref (r 7), .ref (r 8), .ref (r 9), .ref (r 10), .ref (r 11), .ref (r 12), .ref (r 13), .ref (r 14), .ref (r 15), .int 0, .int 0, .int 1, .int 110, .int 0, .int 0, .int 0, .int 0, .int 0, .int 0, .int 0, .int 0, .int 0, .int 0, .int th]))] s.heap := hP
  have hl := lv_entry ([.ref h0, .int a1]) (n := 2) (Nat.le_of_ble_eq_true rfl)
  rw [lg_entry_eq]
  generalize (lg_sl ([.ref h0, .int a1]) ++ List.replicate (2 - (lg_sl ([.ref h0, .int a1])).length) Slot.unset).toArray = ls at hl ⊢
  have hl : lv_has ls 2 [(0, .ref h0), (1, .int a1)] := hl
  refine lv_iload_n hx hb dX7_isNoHole_0 rfl (lv_at hl 1 rfl) ?_
  refine lv_iconst (v := 0) hx hb dX7_isNoHole_1 (by decide) ?_
  refine lv_aload_n hx hb dX7_isNoHole_2 rfl (lv_at hl 0 rfl) ?_
  refine va_get (D := D) (ci := 13) (v := .int 0) (C := RX7) (T := TX7) (N := 31) hx hb hts (by decide +kernel) hown hK hP 0 rfl rfl 16 (by decide) (hts (.fieldLink RX7 86 "FairwayChanceryModel" "holes" "I") (by decide +kernel)) (fun _ h9 => h9) rfl dX7_isNoHole_3 ?_
  refine lv_iconst (v := 1) hx hb dX7_isNoHole_6 (by decide) ?_
  refine lv_isub hx hb dX7_isNoHole_7 ?_
  refine lv_topi (fun y1 ey1 => ?_)
  obtain rfl : y1 = (-1) := ey1.trans (by decide)
  refine va_calli (va_runS (As := [.int a1, .int 0, .int (-1)]) (rest := []) ⟨hx, hb, hml, hown, hts⟩ (c_X7_isIn l s.heap.size a1 0 (-1)) (va_cwS 3 hts gX7_isNoHole_X7_isIn rfl rfl rfl (by decide +kernel) ⟨Nat.le_of_ble_eq_true rfl, Nat.le_of_ble_eq_true rfl⟩) ⟨fun a U g mk q => q, fun U hU hW => ⟨rfl, congrArg Array.size hU⟩⟩ rfl rfl hl.1 rfl (lv_room (Nat.le_of_ble_eq_true rfl)) dX7_isNoHole_8 ⟨Nat.le_of_ble_eq_true rfl, Nat.le_of_ble_eq_true rfl⟩) hS (fun q h1 h2 => absurd h1 (Nat.not_lt.mpr h2)) (fun q h => hA q (Nat.le_trans hS.1 h)) (fun r2 u t H1 locs ht hvm hw hB hz1 hk1 hS => ?_)
  have hP := va_kept0 hP hk1
  generalize H1 = H at hP hS ⊢
  have hP : va_P D vwCl [(h0, .inr (13, [.ref (r 0), .ref (r 1), .ref (r 2), .ref (r 3), .ref (r 4), .ref (r 5), .ref (r 6), .ref (r 7), .ref (r 8), .ref (r 9), .ref (r 10), .ref (r 11), .ref (r 12), .ref (r 13), .ref (r 14), .ref (r 15), .int 0, .int 0, .int 1, .int 110, .int 0, .int 0, .int 0, .int 0, .int 0, .int 0, .int 0, .int 0, .int 0, .int 0, .int th]))] H := hP
  obtain rfl : r2 = 0 := hw.trans (bIn_none _)
  refine lv_if_ne (tgt := 18) hx hb dX7_isNoHole_11 (by decide) (fun c => by first | exact absurd c (by decide) | exact absurd (by decide) c) (fun _ => ?_)
  refine lv_iconst (v := 1) hx hb dX7_isNoHole_14 (by decide) ?_
  refine lv_goto (tgt := 19) hx hb dX7_isNoHole_15 (by decide) ?_
  exact W.zret (v := 1) (ty := .boolean) hx hb hr (by decide) (fun t ht hW => ⟨⟨1, (), rfl, rfl, trivial⟩, hS.F ht⟩) hS.2.2 dX7_isNoHole_19
set_option maxHeartbeats 4000000 in
set_option maxRecDepth 100000 in
theorem c_X7_isNoPlayer (l : Launch) (D : va_G) (h0 : Nat) (r : Nat → Nat) (th : Int32) (sz : Nat) (a1 : Int32) : Met l yX7_isNoPlayer wsX7_isNoPlayer ({ frames := 20, cells := 0, slots := 0, locals := 200 }) (va_Pc [.ref h0, .int a1] (PX7 D h0 r th sz)) (va_Qi (fun (r9 : Int32) (u : Unit) => r9 = 1) (fun u t => True) (rg0 sz)) 0 0 (rg0 sz) := by
  refine Met.ofW (cc := cX7_isNoPlayer) (maxL := 2) (ret := (some .boolean)) (by decide +kernel) rfl ?_
  intro p e s m args below meth c s₁ B hml hv
  obtain ⟨rfl, hsz, hP, hK⟩ := hv
  have hx := B.exec
  have hb := B.bytes
  have hr := B.returns
  have hts := atoms_spec (ws := wsX7_isNoPlayer) B.pre
  have hown : s.vm.findClass RX7 = some m.cls := findClass_of_methodNamed B.named
  have hlocks := B.notSynchronized
  subst hsz
  have hA : ∀ q : Nat, s.heap.size ≤ q → rg0 s.heap.size q := fun _ h => h
  have hS : va_S (rg0 s.heap.size) s.heap s.heap [] := va_S.rf
  have hP : va_P D vwCl [(h0, .inr (13, [.ref (r 0), .ref (r 1), .ref (r 2), .ref (r 3), .ref (r 4), .ref (r 5), .ref (r 6), .ref (r 7), .ref (r 8), .ref (r 9), .ref (r 10), .ref (r 11), .ref (r 12), .ref (r 13), .ref (r 14), .ref (r 15), .int 0, .int 0, .int 1, .int 110, .int 0, .int 0, .int 0, .int 0, .int 0, .int 0, .int 0, .int 0, .int 0, .int 0, .int th]))] s.heap := hP
  have hl := lv_entry ([.ref h0, .int a1]) (n := 2) (Nat.le_of_ble_eq_true rfl)
  rw [lg_entry_eq]
  generalize (lg_sl ([.ref h0, .int a1]) ++ List.replicate (2 - (lg_sl ([.ref h0, .int a1])).length) Slot.unset).toArray = ls at hl ⊢
  have hl : lv_has ls 2 [(0, .ref h0), (1, .int a1)] := hl
  refine lv_iload_n hx hb dX7_isNoPlayer_0 rfl (lv_at hl 1 rfl) ?_
  refine lv_iconst (v := 0) hx hb dX7_isNoPlayer_1 (by decide) ?_
  refine lv_aload_n hx hb dX7_isNoPlayer_2 rfl (lv_at hl 0 rfl) ?_
  refine va_get (D := D) (ci := 13) (v := .int 0) (C := RX7) (T := TX7) (N := 31) hx hb hts (by decide +kernel) hown hK hP 0 rfl rfl 17 (by decide) (hts (.fieldLink RX7 89 "FairwayChanceryModel" "players" "I") (by decide +kernel)) (fun _ h9 => h9) rfl dX7_isNoPlayer_3 ?_
  refine lv_iconst (v := 1) hx hb dX7_isNoPlayer_6 (by decide) ?_
  refine lv_isub hx hb dX7_isNoPlayer_7 ?_
  refine lv_topi (fun y1 ey1 => ?_)
  obtain rfl : y1 = (-1) := ey1.trans (by decide)
  refine va_calli (va_runS (As := [.int a1, .int 0, .int (-1)]) (rest := []) ⟨hx, hb, hml, hown, hts⟩ (c_X7_isIn l s.heap.size a1 0 (-1)) (va_cwS 3 hts gX7_isNoPlayer_X7_isIn rfl rfl rfl (by decide +kernel) ⟨Nat.le_of_ble_eq_true rfl, Nat.le_of_ble_eq_true rfl⟩) ⟨fun a U g mk q => q, fun U hU hW => ⟨rfl, congrArg Array.size hU⟩⟩ rfl rfl hl.1 rfl (lv_room (Nat.le_of_ble_eq_true rfl)) dX7_isNoPlayer_8 ⟨Nat.le_of_ble_eq_true rfl, Nat.le_of_ble_eq_true rfl⟩) hS (fun q h1 h2 => absurd h1 (Nat.not_lt.mpr h2)) (fun q h => hA q (Nat.le_trans hS.1 h)) (fun r2 u t H1 locs ht hvm hw hB hz1 hk1 hS => ?_)
  have hP := va_kept0 hP hk1
  generalize H1 = H at hP hS ⊢
  have hP : va_P D vwCl [(h0, .inr (13, [.ref (r 0), .ref (r 1), .ref (r 2), .ref (r 3), .ref (r 4), .ref (r 5), .ref (r 6), .ref (r 7), .ref (r 8), .ref (r 9), .ref (r 10), .ref (r 11), .ref (r 12), .ref (r 13), .ref (r 14), .ref (r 15), .int 0, .int 0, .int 1, .int 110, .int 0, .int 0, .int 0, .int 0, .int 0, .int 0, .int 0, .int 0, .int 0, .int 0, .int th]))] H := hP
  obtain rfl : r2 = 0 := hw.trans (bIn_none _)
  refine lv_if_ne (tgt := 18) hx hb dX7_isNoPlayer_11 (by decide) (fun c => by first | exact absurd c (by decide) | exact absurd (by decide) c) (fun _ => ?_)
  refine lv_iconst (v := 1) hx hb dX7_isNoPlayer_14 (by decide) ?_
  refine lv_goto (tgt := 19) hx hb dX7_isNoPlayer_15 (by decide) ?_
  exact W.zret (v := 1) (ty := .boolean) hx hb hr (by decide) (fun t ht hW => ⟨⟨1, (), rfl, rfl, trivial⟩, hS.F ht⟩) hS.2.2 dX7_isNoPlayer_19
set_option maxHeartbeats 4000000 in
set_option maxRecDepth 100000 in
theorem c_X7_isThrown (l : Launch) (D : va_G) (h0 : Nat) (r : Nat → Nat) (th : Int32) (sz : Nat) (a1 a2 : Int32) (hc : a1 = 0 ∨ a1 = 1) : Met l yX7_isThrown wsX7_isThrown ({ frames := 5, cells := 0, slots := 0, locals := 50 }) (va_Pc [.ref h0, .int a1, .int a2] (PX7 D h0 r th sz)) (va_Qi (fun (r9 : Int32) (u : Unit) => r9 = a1) (fun u t => va_P D vwCl [(h0, .inr (13, FX7 r (if a1 = 0 then 0 else a2)))] t.heap) (rg1 h0 sz)) 0 0 (rg1 h0 sz) := by
  refine Met.ofW (cc := cX7_isThrown) (maxL := 3) (ret := (some .boolean)) (by decide +kernel) rfl ?_
  intro p e s m args below meth c s₁ B hml hv
  obtain ⟨rfl, hsz, hP, hK⟩ := hv
  have hx := B.exec
  have hb := B.bytes
  have hr := B.returns
  have hts := atoms_spec (ws := wsX7_isThrown) B.pre
  have hown : s.vm.findClass RX7 = some m.cls := findClass_of_methodNamed B.named
  have hlocks := B.notSynchronized
  subst hsz
  have hD : va_D (rg1 h0 s.heap.size) [(h0, .inr (13, [.ref (r 0), .ref (r 1), .ref (r 2), .ref (r 3), .ref (r 4), .ref (r 5), .ref (r 6), .ref (r 7), .ref (r 8), .ref (r 9), .ref (r 10), .ref (r 11), .ref (r 12), .ref (r 13), .ref (r 14), .ref (r 15), .int 0, .int 0, .int 1, .int 110, .int 0, .int 0, .int 0, .int 0, .int 0, .int 0, .int 0, .int 0, .int 0, .int 0, .int th]))] := rg1_D
  generalize hAe : rg1 h0 s.heap.size = A at hD ⊢
  have hA : ∀ q : Nat, s.heap.size ≤ q → A q := fun q h => by rw [← hAe]; exact Or.inr h
  have hS : va_S A s.heap s.heap [] := va_S.rf
  have hP : va_P D vwCl [(h0, .inr (13, [.ref (r 0), .ref (r 1), .ref (r 2), .ref (r 3), .ref (r 4), .ref (r 5), .ref (r 6), .ref (r 7), .ref (r 8), .ref (r 9), .ref (r 10), .ref (r 11), .ref (r 12), .ref (r 13), .ref (r 14), .ref (r 15), .int 0, .int 0, .int 1, .int 110, .int 0, .int 0, .int 0, .int 0, .int 0, .int 0, .int 0, .int 0, .int 0, .int 0, .int th]))] s.heap := hP
  have hl := lv_entry ([.ref h0, .int a1, .int a2]) (n := 3) (Nat.le_of_ble_eq_true rfl)
  rw [lg_entry_eq]
  generalize (lg_sl ([.ref h0, .int a1, .int a2]) ++ List.replicate (3 - (lg_sl ([.ref h0, .int a1, .int a2])).length) Slot.unset).toArray = ls at hl ⊢
  have hl : lv_has ls 3 [(0, .ref h0), (1, .int a1), (2, .int a2)] := hl
  refine lv_aload_n hx hb dX7_isThrown_0 rfl (lv_at hl 0 rfl) ?_
  refine lv_iload_n hx hb dX7_isThrown_1 rfl (lv_at hl 1 rfl) ?_
  refine lv_if_eq (tgt := 9) hx hb dX7_isThrown_2 (by decide) (fun c_1 => ?_) (fun c_1 => ?_)
  · skip
    refine lv_iconst (v := 0) hx hb dX7_isThrown_9 (by decide) ?_
    refine va_put (D := D) (ci := 13) (v := .int 0) (ty := .int) (C := RX7) (T := TX7) (N := 31) hx hb hts (by decide +kernel) tyX7 tyX7_ok nmX7 hown hK hP hD hS 0 rfl rfl 30 (by decide) (hts (.fieldLink RX7 79 "FairwayChanceryModel" "thrown" "I") (by decide +kernel)) (fun _ h9 => h9) rfl (by decide +kernel) rfl rfl (Nat.le_of_ble_eq_true rfl) dX7_isThrown_10 (fun H locs hP hD hS => ?_)
    have hP : va_P D vwCl [(h0, .inr (13, [.ref (r 0), .ref (r 1), .ref (r 2), .ref (r 3), .ref (r 4), .ref (r 5), .ref (r 6), .ref (r 7), .ref (r 8), .ref (r 9), .ref (r 10), .ref (r 11), .ref (r 12), .ref (r 13), .ref (r 14), .ref (r 15), .int 0, .int 0, .int 1, .int 110, .int 0, .int 0, .int 0, .int 0, .int 0, .int 0, .int 0, .int 0, .int 0, .int 0, .int 0]))] H := hP
    have hD : va_D A [(h0, .inr (13, [.ref (r 0), .ref (r 1), .ref (r 2), .ref (r 3), .ref (r 4), .ref (r 5), .ref (r 6), .ref (r 7), .ref (r 8), .ref (r 9), .ref (r 10), .ref (r 11), .ref (r 12), .ref (r 13), .ref (r 14), .ref (r 15), .int 0, .int 0, .int 1, .int 110, .int 0, .int 0, .int 0, .int 0, .int 0, .int 0, .int 0, .int 0, .int 0, .int 0, .int 0]))] := hD
    refine lv_iload_n hx hb dX7_isThrown_13 rfl (lv_at hl 1 rfl) ?_
    exact W.zret (v := a1) (ty := .boolean) hx hb hr (by rcases hc with rfl | rfl <;> decide) (fun t ht hW => ⟨⟨a1, (), rfl, rfl, by show va_P _ _ _ t.heap; rw [ht, if_pos c_1]; exact hP⟩, hS.F ht⟩) hS.2.2 dX7_isThrown_14
  · skip
    refine lv_iload_n hx hb dX7_isThrown_5 rfl (lv_at hl 2 rfl) ?_
    refine lv_goto (tgt := 10) hx hb dX7_isThrown_6 (by decide) ?_
    refine va_put (D := D) (ci := 13) (v := .int a2) (ty := .int) (C := RX7) (T := TX7) (N := 31) hx hb hts (by decide +kernel) tyX7 tyX7_ok nmX7 hown hK hP hD hS 0 rfl rfl 30 (by decide) (hts (.fieldLink RX7 79 "FairwayChanceryModel" "thrown" "I") (by decide +kernel)) (fun _ h9 => h9) rfl (by decide +kernel) rfl rfl (Nat.le_of_ble_eq_true rfl) dX7_isThrown_10 (fun H locs hP hD hS => ?_)
    have hP : va_P D vwCl [(h0, .inr (13, [.ref (r 0), .ref (r 1), .ref (r 2), .ref (r 3), .ref (r 4), .ref (r 5), .ref (r 6), .ref (r 7), .ref (r 8), .ref (r 9), .ref (r 10), .ref (r 11), .ref (r 12), .ref (r 13), .ref (r 14), .ref (r 15), .int 0, .int 0, .int 1, .int 110, .int 0, .int 0, .int 0, .int 0, .int 0, .int 0, .int 0, .int 0, .int 0, .int 0, .int a2]))] H := hP
    have hD : va_D A [(h0, .inr (13, [.ref (r 0), .ref (r 1), .ref (r 2), .ref (r 3), .ref (r 4), .ref (r 5), .ref (r 6), .ref (r 7), .ref (r 8), .ref (r 9), .ref (r 10), .ref (r 11), .ref (r 12), .ref (r 13), .ref (r 14), .ref (r 15), .int 0, .int 0, .int 1, .int 110, .int 0, .int 0, .int 0, .int 0, .int 0, .int 0, .int 0, .int 0, .int 0, .int 0, .int a2]))] := hD
    refine lv_iload_n hx hb dX7_isThrown_13 rfl (lv_at hl 1 rfl) ?_
    exact W.zret (v := a1) (ty := .boolean) hx hb hr (by rcases hc with rfl | rfl <;> decide) (fun t ht hW => ⟨⟨a1, (), rfl, rfl, by show va_P _ _ _ t.heap; rw [ht, if_neg c_1]; exact hP⟩, hS.F ht⟩) hS.2.2 dX7_isThrown_14
set_option maxHeartbeats 4000000 in
set_option maxRecDepth 100000 in
theorem c_X7_isNone (l : Launch) (D : va_G) (h0 : Nat) (r : Nat → Nat) (th : Int32) (sz : Nat) (a1 : Int32) : Met l yX7_isNone wsX7_isNone ({ frames := 40, cells := 0, slots := 0, locals := 400 }) (va_Pc [.ref h0, .int a1] (PX7 D h0 r th sz)) (va_Qi (fun (r9 : Int32) (u : Unit) => r9 = 1) (fun u t => va_P D vwCl [(h0, .inr (13, FX7 r 1))] t.heap) (rg1 h0 sz)) 0 0 (rg1 h0 sz) := by
  refine Met.ofW (cc := cX7_isNone) (maxL := 2) (ret := (some .boolean)) (by decide +kernel) rfl ?_
  intro p e s m args below meth c s₁ B hml hv
  obtain ⟨rfl, hsz, hP, hK⟩ := hv
  have hx := B.exec
  have hb := B.bytes
  have hr := B.returns
  have hts := atoms_spec (ws := wsX7_isNone) B.pre
  have hown : s.vm.findClass RX7 = some m.cls := findClass_of_methodNamed B.named
  have hlocks := B.notSynchronized
  subst hsz
  have hD : va_D (rg1 h0 s.heap.size) [(h0, .inr (13, [.ref (r 0), .ref (r 1), .ref (r 2), .ref (r 3), .ref (r 4), .ref (r 5), .ref (r 6), .ref (r 7), .ref (r 8), .ref (r 9), .ref (r 10), .ref (r 11), .ref (r 12), .ref (r 13), .ref (r 14), .ref (r 15), .int 0, .int 0, .int 1, .int 110, .int 0, .int 0, .int 0, .int 0, .int 0, .int 0, .int 0, .int 0, .int 0, .int 0, .int th]))] := rg1_D
  generalize hAe : rg1 h0 s.heap.size = A at hD ⊢
  have hA : ∀ q : Nat, s.heap.size ≤ q → A q := fun q h => by rw [← hAe]; exact Or.inr h
  have hS : va_S A s.heap s.heap [] := va_S.rf
  have hP : va_P D vwCl [(h0, .inr (13, [.ref (r 0), .ref (r 1), .ref (r 2), .ref (r 3), .ref (r 4), .ref (r 5), .ref (r 6), .ref (r 7), .ref (r 8), .ref (r 9), .ref (r 10), .ref (r 11), .ref (r 12), .ref (r 13), .ref (r 14), .ref (r 15), .int 0, .int 0, .int 1, .int 110, .int 0, .int 0, .int 0, .int 0, .int 0, .int 0, .int 0, .int 0, .int 0, .int 0, .int th]))] s.heap := hP
  have hl := lv_entry ([.ref h0, .int a1]) (n := 2) (Nat.le_of_ble_eq_true rfl)
  rw [lg_entry_eq]
  generalize (lg_sl ([.ref h0, .int a1]) ++ List.replicate (2 - (lg_sl ([.ref h0, .int a1])).length) Slot.unset).toArray = ls at hl ⊢
  have hl : lv_has ls 2 [(0, .ref h0), (1, .int a1)] := hl
  refine lv_aload_n hx hb dX7_isNone_0 rfl (lv_at hl 0 rfl) ?_
  refine lv_aload_n hx hb dX7_isNone_1 rfl (lv_at hl 0 rfl) ?_
  refine lv_iload_n hx hb dX7_isNone_2 rfl (lv_at hl 1 rfl) ?_
  refine va_calli (va_runV (As := [.int a1]) (rest := [.ref h0]) ⟨hx, hb, hml, hown, hts⟩ (c_X7_isNoPlayer l D h0 r th s.heap.size a1) (cwV 1 hts gX7_isNone_X7_isNoPlayer rfl rfl rfl (by decide +kernel) ⟨Nat.le_of_ble_eq_true rfl, Nat.le_of_ble_eq_true rfl⟩) ⟨fun a U g mk q => ⟨q.1, PX7.blind q.2⟩, va_recv hK hP (ci := 13) (q0 := 0) rfl rfl, fun U hU hW => ⟨rfl, PX7.go hP hK hU hW⟩⟩ rfl rfl hl.1 rfl (lv_room (Nat.le_of_ble_eq_true rfl)) dX7_isNone_3 ⟨Nat.le_of_ble_eq_true rfl, Nat.le_of_ble_eq_true rfl⟩) hS (fun q h1 h2 => absurd h1 (Nat.not_lt.mpr h2)) (fun q h => hA q (Nat.le_trans hS.1 h)) (fun r1 u t H1 locs ht hvm hw hB hz1 hk1 hS => ?_)
  have hP := va_kept0 hP hk1
  generalize H1 = H at hP hS ⊢
  have hP : va_P D vwCl [(h0, .inr (13, [.ref (r 0), .ref (r 1), .ref (r 2), .ref (r 3), .ref (r 4), .ref (r 5), .ref (r 6), .ref (r 7), .ref (r 8), .ref (r 9), .ref (r 10), .ref (r 11), .ref (r 12), .ref (r 13), .ref (r 14), .ref (r 15), .int 0, .int 0, .int 1, .int 110, .int 0, .int 0, .int 0, .int 0, .int 0, .int 0, .int 0, .int 0, .int 0, .int 0, .int th]))] H := hP
  obtain rfl : r1 = 1 := hw
  refine lv_iconst (v := 1) hx hb dX7_isNone_6 (by decide) ?_
  have hFc : ∀ q : Nat, rg1 h0 H.size q → A q := fun q h => h.elim (fun e => by rw [e]; exact hD.2 0 _ rfl) (fun h => hA q (Nat.le_trans hS.1 h))
  refine va_calli (va_runV (As := [.int 1, .int 1]) (rest := []) ⟨hx, hb, hml, hown, hts⟩ (c_X7_isThrown l D h0 r th H.size 1 1 (Or.inr rfl)) (cwV 2 hts gX7_isNone_X7_isThrown rfl rfl rfl (by decide +kernel) ⟨Nat.le_of_ble_eq_true rfl, Nat.le_of_ble_eq_true rfl⟩) ⟨fun a U g mk q => ⟨q.1, PX7.blind q.2⟩, va_recv hK hP (ci := 13) (q0 := 0) rfl rfl, fun U hU hW => ⟨rfl, PX7.go hP hK hU hW⟩⟩ rfl rfl hl.1 rfl (lv_room (Nat.le_of_ble_eq_true rfl)) dX7_isNone_7 ⟨Nat.le_of_ble_eq_true rfl, Nat.le_of_ble_eq_true rfl⟩) hS (fun q _ h => hFc q h) hFc (fun r2 u t H1 locs ht hvm hw hB hz1 hk1 hS => ?_)
  rw [ht, if_neg (by decide)] at hB
  have hP := hB
  generalize H1 = H at hP hS ⊢
  have hP : va_P D vwCl [(h0, .inr (13, [.ref (r 0), .ref (r 1), .ref (r 2), .ref (r 3), .ref (r 4), .ref (r 5), .ref (r 6), .ref (r 7), .ref (r 8), .ref (r 9), .ref (r 10), .ref (r 11), .ref (r 12), .ref (r 13), .ref (r 14), .ref (r 15), .int 0, .int 0, .int 1, .int 110, .int 0, .int 0, .int 0, .int 0, .int 0, .int 0, .int 0, .int 0, .int 0, .int 0, .int 1]))] H := hP
  have hD : va_D A [(h0, .inr (13, [.ref (r 0), .ref (r 1), .ref (r 2), .ref (r 3), .ref (r 4), .ref (r 5), .ref (r 6), .ref (r 7), .ref (r 8), .ref (r 9), .ref (r 10), .ref (r 11), .ref (r 12), .ref (r 13), .ref (r 14), .ref (r 15), .int 0, .int 0, .int 1, .int 110, .int 0, .int 0, .int 0, .int 0, .int 0, .int 0, .int 0, .int 0, .int 0, .int 0, .int 1]))] := by rw [← hAe]; exact rg1_D
  obtain rfl : r2 = 1 := hw
  refine lv_if_ne (tgt := 33) hx hb dX7_isNone_10 (by decide) (fun _ => ?_) (fun c => by first | exact absurd (by decide) c | exact absurd c (by decide))
  refine lv_iconst (v := 1) hx hb dX7_isNone_33 (by decide) ?_
  refine lv_goto (tgt := 38) hx hb dX7_isNone_34 (by decide) ?_
  have hP9 := hP
  exact W.zret (v := 1) (ty := .boolean) hx hb hr (by decide) (fun t ht hW => ⟨⟨1, (), rfl, rfl, by rw [← ht] at hP9; exact hP9⟩, hS.F ht⟩) hS.2.2 dX7_isNone_38
