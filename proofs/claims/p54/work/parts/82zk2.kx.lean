theorem dk_X6_area_0 : decode cX6_area 0 = .ok (.aload_n 0, 1) := by decide +kernel
theorem dk_X6_area_1 : decode cX6_area 1 = .ok (.iload_n 1, 1) := by decide +kernel
theorem dk_X6_area_2 : decode cX6_area 2 = .ok (.invokevirtual 95, 3) := by decide +kernel
theorem dk_X6_area_5 : decode cX6_area 5 = .ok (.iload_n 2, 1) := by decide +kernel
theorem dk_X6_area_6 : decode cX6_area 6 = .ok (.invokestatic 99, 3) := by decide +kernel
theorem dk_X6_area_9 : decode cX6_area 9 = .ok (.ifCond .eq 35, 3) := by decide +kernel
theorem dk_X6_area_12 : decode cX6_area 12 = .ok (.iload_n 3, 1) := by decide +kernel
theorem dk_X6_area_13 : decode cX6_area 13 = .ok (.iload 4, 2) := by decide +kernel
theorem dk_X6_area_15 : decode cX6_area 15 = .ok (.invokestatic 45, 3) := by decide +kernel
theorem dk_X6_area_18 : decode cX6_area 18 = .ok (.ifCond .eq 26, 3) := by decide +kernel
theorem dk_X6_area_21 : decode cX6_area 21 = .ok (.iload 5, 2) := by decide +kernel
theorem dk_X6_area_23 : decode cX6_area 23 = .ok (.iload 6, 2) := by decide +kernel
theorem dk_X6_area_25 : decode cX6_area 25 = .ok (.invokestatic 45, 3) := by decide +kernel
theorem dk_X6_area_28 : decode cX6_area 28 = .ok (.ifCond .eq 16, 3) := by decide +kernel
theorem dk_X6_area_31 : decode cX6_area 31 = .ok (.iload 5, 2) := by decide +kernel
theorem dk_X6_area_33 : decode cX6_area 33 = .ok (.iload_n 3, 1) := by decide +kernel
theorem dk_X6_area_34 : decode cX6_area 34 = .ok (.if_icmp .lt 10, 3) := by decide +kernel
theorem dk_X6_area_37 : decode cX6_area 37 = .ok (.iload 6, 2) := by decide +kernel
theorem dk_X6_area_39 : decode cX6_area 39 = .ok (.iload 4, 2) := by decide +kernel
theorem dk_X6_area_41 : decode cX6_area 41 = .ok (.if_icmp .ge 13, 3) := by decide +kernel
theorem dk_X6_area_44 : decode cX6_area 44 = .ok (.new 49, 3) := by decide +kernel
theorem dk_X6_area_47 : decode cX6_area 47 = .ok (.dup, 1) := by decide +kernel
theorem dk_X6_area_48 : decode cX6_area 48 = .ok (.ldc 103, 2) := by decide +kernel
theorem dk_X6_area_50 : decode cX6_area 50 = .ok (.invokespecial 53, 3) := by decide +kernel
theorem dk_X6_area_53 : decode cX6_area 53 = .ok (.athrow, 1) := by decide +kernel
theorem dk_X6_area_54 : decode cX6_area 54 = .ok (.aload_n 0, 1) := by decide +kernel
theorem dk_X6_area_55 : decode cX6_area 55 = .ok (.getfield 58, 3) := by decide +kernel
theorem dk_X6_area_58 : decode cX6_area 58 = .ok (.ifCond .ne 17, 3) := by decide +kernel
theorem dk_X6_area_61 : decode cX6_area 61 = .ok (.aload_n 0, 1) := by decide +kernel
theorem dk_X6_area_62 : decode cX6_area 62 = .ok (.getfield 11, 3) := by decide +kernel
theorem dk_X6_area_65 : decode cX6_area 65 = .ok (.iload_n 1, 1) := by decide +kernel
theorem dk_X6_area_66 : decode cX6_area 66 = .ok (.aaload, 1) := by decide +kernel
theorem dk_X6_area_67 : decode cX6_area 67 = .ok (.getfield 105, 3) := by decide +kernel
theorem dk_X6_area_70 : decode cX6_area 70 = .ok (.bipush 12, 2) := by decide +kernel
theorem dk_X6_area_72 : decode cX6_area 72 = .ok (.if_icmp .lt 13, 3) := by decide +kernel
theorem dk_X6_area_75 : decode cX6_area 75 = .ok (.new 65, 3) := by decide +kernel
theorem dk_X6_area_78 : decode cX6_area 78 = .ok (.dup, 1) := by decide +kernel
theorem dk_X6_area_79 : decode cX6_area 79 = .ok (.ldc 108, 2) := by decide +kernel
theorem dk_X6_area_81 : decode cX6_area 81 = .ok (.invokespecial 69, 3) := by decide +kernel
theorem dk_X6_area_84 : decode cX6_area 84 = .ok (.athrow, 1) := by decide +kernel
theorem dk_X6_area_85 : decode cX6_area 85 = .ok (.aload_n 0, 1) := by decide +kernel
theorem dk_X6_area_86 : decode cX6_area 86 = .ok (.getfield 11, 3) := by decide +kernel
theorem dk_X6_area_89 : decode cX6_area 89 = .ok (.iload_n 1, 1) := by decide +kernel
theorem dk_X6_area_90 : decode cX6_area 90 = .ok (.aaload, 1) := by decide +kernel
theorem dk_X6_area_91 : decode cX6_area 91 = .ok (.iload_n 2, 1) := by decide +kernel
theorem dk_X6_area_92 : decode cX6_area 92 = .ok (.iload_n 3, 1) := by decide +kernel
theorem dk_X6_area_93 : decode cX6_area 93 = .ok (.iload 4, 2) := by decide +kernel
theorem dk_X6_area_95 : decode cX6_area 95 = .ok (.iload 5, 2) := by decide +kernel
theorem dk_X6_area_97 : decode cX6_area 97 = .ok (.iload 6, 2) := by decide +kernel
theorem dk_X6_area_99 : decode cX6_area 99 = .ok (.invokevirtual 110, 3) := by decide +kernel
theorem dk_X6_area_102 : decode cX6_area 102 = .ok (.aload_n 0, 1) := by decide +kernel
theorem dk_X6_area_103 : decode cX6_area 103 = .ok (.getfield 11, 3) := by decide +kernel
theorem dk_X6_area_106 : decode cX6_area 106 = .ok (.iload_n 1, 1) := by decide +kernel
theorem dk_X6_area_107 : decode cX6_area 107 = .ok (.aaload, 1) := by decide +kernel
theorem dk_X6_area_108 : decode cX6_area 108 = .ok (.getfield 105, 3) := by decide +kernel
theorem dk_X6_area_111 : decode cX6_area 111 = .ok (.ireturn, 1) := by decide +kernel
theorem dk_X6_hole_0 : decode cX6_hole 0 = .ok (.iload_n 1, 1) := by decide +kernel
theorem dk_X6_hole_1 : decode cX6_hole 1 = .ok (.iconst 3, 1) := by decide +kernel
theorem dk_X6_hole_2 : decode cX6_hole 2 = .ok (.if_icmp .lt 38, 3) := by decide +kernel
theorem dk_X6_hole_5 : decode cX6_hole 5 = .ok (.iload_n 1, 1) := by decide +kernel
theorem dk_X6_hole_6 : decode cX6_hole 6 = .ok (.iconst 5, 1) := by decide +kernel
theorem dk_X6_hole_7 : decode cX6_hole 7 = .ok (.if_icmp .gt 33, 3) := by decide +kernel
theorem dk_X6_hole_10 : decode cX6_hole 10 = .ok (.iload_n 2, 1) := by decide +kernel
theorem dk_X6_hole_11 : decode cX6_hole 11 = .ok (.iconst 1, 1) := by decide +kernel
theorem dk_X6_hole_12 : decode cX6_hole 12 = .ok (.if_icmp .lt 28, 3) := by decide +kernel
theorem dk_X6_hole_15 : decode cX6_hole 15 = .ok (.iload_n 2, 1) := by decide +kernel
theorem dk_X6_hole_16 : decode cX6_hole 16 = .ok (.bipush 9, 2) := by decide +kernel
theorem dk_X6_hole_18 : decode cX6_hole 18 = .ok (.if_icmp .gt 22, 3) := by decide +kernel
theorem dk_X6_hole_21 : decode cX6_hole 21 = .ok (.iload_n 3, 1) := by decide +kernel
theorem dk_X6_hole_22 : decode cX6_hole 22 = .ok (.iload 4, 2) := by decide +kernel
theorem dk_X6_hole_24 : decode cX6_hole 24 = .ok (.invokestatic 45, 3) := by decide +kernel
theorem dk_X6_hole_27 : decode cX6_hole 27 = .ok (.ifCond .eq 13, 3) := by decide +kernel
theorem dk_X6_hole_30 : decode cX6_hole 30 = .ok (.iload 5, 2) := by decide +kernel
theorem dk_X6_hole_32 : decode cX6_hole 32 = .ok (.iload 6, 2) := by decide +kernel
theorem dk_X6_hole_34 : decode cX6_hole 34 = .ok (.invokestatic 45, 3) := by decide +kernel
theorem dk_X6_hole_37 : decode cX6_hole 37 = .ok (.ifCond .ne 13, 3) := by decide +kernel
theorem dk_X6_hole_40 : decode cX6_hole 40 = .ok (.new 49, 3) := by decide +kernel
theorem dk_X6_hole_43 : decode cX6_hole 43 = .ok (.dup, 1) := by decide +kernel
theorem dk_X6_hole_44 : decode cX6_hole 44 = .ok (.ldc 51, 2) := by decide +kernel
theorem dk_X6_hole_46 : decode cX6_hole 46 = .ok (.invokespecial 53, 3) := by decide +kernel
theorem dk_X6_hole_49 : decode cX6_hole 49 = .ok (.athrow, 1) := by decide +kernel
theorem dk_X6_hole_50 : decode cX6_hole 50 = .ok (.iload_n 3, 1) := by decide +kernel
theorem dk_X6_hole_51 : decode cX6_hole 51 = .ok (.iload 5, 2) := by decide +kernel
theorem dk_X6_hole_53 : decode cX6_hole 53 = .ok (.if_icmp .ne 20, 3) := by decide +kernel
theorem dk_X6_hole_56 : decode cX6_hole 56 = .ok (.iload 4, 2) := by decide +kernel
theorem dk_X6_hole_58 : decode cX6_hole 58 = .ok (.iload 6, 2) := by decide +kernel
theorem dk_X6_hole_60 : decode cX6_hole 60 = .ok (.if_icmp .ne 13, 3) := by decide +kernel
theorem dk_X6_hole_63 : decode cX6_hole 63 = .ok (.new 49, 3) := by decide +kernel
theorem dk_X6_hole_66 : decode cX6_hole 66 = .ok (.dup, 1) := by decide +kernel
theorem dk_X6_hole_67 : decode cX6_hole 67 = .ok (.ldc 56, 2) := by decide +kernel
theorem dk_X6_hole_69 : decode cX6_hole 69 = .ok (.invokespecial 53, 3) := by decide +kernel
theorem dk_X6_hole_72 : decode cX6_hole 72 = .ok (.athrow, 1) := by decide +kernel
theorem dk_X6_hole_73 : decode cX6_hole 73 = .ok (.aload_n 0, 1) := by decide +kernel
theorem dk_X6_hole_74 : decode cX6_hole 74 = .ok (.getfield 58, 3) := by decide +kernel
theorem dk_X6_hole_77 : decode cX6_hole 77 = .ok (.ifCond .ne 12, 3) := by decide +kernel
theorem dk_X6_hole_80 : decode cX6_hole 80 = .ok (.aload_n 0, 1) := by decide +kernel
theorem dk_X6_hole_81 : decode cX6_hole 81 = .ok (.getfield 62, 3) := by decide +kernel
theorem dk_X6_hole_84 : decode cX6_hole 84 = .ok (.bipush 9, 2) := by decide +kernel
theorem dk_X6_hole_86 : decode cX6_hole 86 = .ok (.if_icmp .lt 13, 3) := by decide +kernel
theorem dk_X6_hole_89 : decode cX6_hole 89 = .ok (.new 65, 3) := by decide +kernel
theorem dk_X6_hole_92 : decode cX6_hole 92 = .ok (.dup, 1) := by decide +kernel
theorem dk_X6_hole_93 : decode cX6_hole 93 = .ok (.ldc 67, 2) := by decide +kernel
theorem dk_X6_hole_95 : decode cX6_hole 95 = .ok (.invokespecial 69, 3) := by decide +kernel
theorem dk_X6_hole_98 : decode cX6_hole 98 = .ok (.athrow, 1) := by decide +kernel
theorem dk_X6_hole_99 : decode cX6_hole 99 = .ok (.aload_n 0, 1) := by decide +kernel
theorem dk_X6_hole_100 : decode cX6_hole 100 = .ok (.iload_n 2, 1) := by decide +kernel
theorem dk_X6_hole_101 : decode cX6_hole 101 = .ok (.invokevirtual 70, 3) := by decide +kernel
theorem dk_X6_hole_104 : decode cX6_hole 104 = .ok (.ifCond .eq 13, 3) := by decide +kernel
theorem dk_X6_hole_107 : decode cX6_hole 107 = .ok (.new 74, 3) := by decide +kernel
theorem dk_X6_hole_110 : decode cX6_hole 110 = .ok (.dup, 1) := by decide +kernel
theorem dk_X6_hole_111 : decode cX6_hole 111 = .ok (.ldc 76, 2) := by decide +kernel
theorem dk_X6_hole_113 : decode cX6_hole 113 = .ok (.invokespecial 78, 3) := by decide +kernel
theorem dk_X6_hole_116 : decode cX6_hole 116 = .ok (.athrow, 1) := by decide +kernel
theorem dk_X6_hole_117 : decode cX6_hole 117 = .ok (.aload_n 0, 1) := by decide +kernel
theorem dk_X6_hole_118 : decode cX6_hole 118 = .ok (.getfield 11, 3) := by decide +kernel
theorem dk_X6_hole_121 : decode cX6_hole 121 = .ok (.aload_n 0, 1) := by decide +kernel
theorem dk_X6_hole_122 : decode cX6_hole 122 = .ok (.getfield 62, 3) := by decide +kernel
theorem dk_X6_hole_125 : decode cX6_hole 125 = .ok (.aaload, 1) := by decide +kernel
theorem dk_X6_hole_126 : decode cX6_hole 126 = .ok (.astore 7, 2) := by decide +kernel
theorem dk_X6_hole_128 : decode cX6_hole 128 = .ok (.aload 7, 2) := by decide +kernel
theorem dk_X6_hole_130 : decode cX6_hole 130 = .ok (.iload_n 1, 1) := by decide +kernel
theorem dk_X6_hole_131 : decode cX6_hole 131 = .ok (.putfield 79, 3) := by decide +kernel
theorem dk_X6_hole_134 : decode cX6_hole 134 = .ok (.aload 7, 2) := by decide +kernel
theorem dk_X6_hole_136 : decode cX6_hole 136 = .ok (.iload_n 2, 1) := by decide +kernel
theorem dk_X6_hole_137 : decode cX6_hole 137 = .ok (.putfield 82, 3) := by decide +kernel
theorem dk_X6_hole_140 : decode cX6_hole 140 = .ok (.aload 7, 2) := by decide +kernel
theorem dk_X6_hole_142 : decode cX6_hole 142 = .ok (.iload_n 3, 1) := by decide +kernel
theorem dk_X6_hole_143 : decode cX6_hole 143 = .ok (.iload 4, 2) := by decide +kernel
theorem dk_X6_hole_145 : decode cX6_hole 145 = .ok (.invokestatic 85, 3) := by decide +kernel
theorem dk_X6_hole_148 : decode cX6_hole 148 = .ok (.putfield 89, 3) := by decide +kernel
theorem dk_X6_hole_151 : decode cX6_hole 151 = .ok (.aload 7, 2) := by decide +kernel
theorem dk_X6_hole_153 : decode cX6_hole 153 = .ok (.iload 5, 2) := by decide +kernel
theorem dk_X6_hole_155 : decode cX6_hole 155 = .ok (.iload 6, 2) := by decide +kernel
theorem dk_X6_hole_157 : decode cX6_hole 157 = .ok (.invokestatic 85, 3) := by decide +kernel
theorem dk_X6_hole_160 : decode cX6_hole 160 = .ok (.putfield 92, 3) := by decide +kernel
theorem dk_X6_hole_163 : decode cX6_hole 163 = .ok (.aload_n 0, 1) := by decide +kernel
theorem dk_X6_hole_164 : decode cX6_hole 164 = .ok (.dup, 1) := by decide +kernel
theorem dk_X6_hole_165 : decode cX6_hole 165 = .ok (.getfield 62, 3) := by decide +kernel
theorem dk_X6_hole_168 : decode cX6_hole 168 = .ok (.iconst 1, 1) := by decide +kernel
theorem dk_X6_hole_169 : decode cX6_hole 169 = .ok (.iadd, 1) := by decide +kernel
theorem dk_X6_hole_170 : decode cX6_hole 170 = .ok (.putfield 62, 3) := by decide +kernel
theorem dk_X6_hole_173 : decode cX6_hole 173 = .ok (.aload_n 0, 1) := by decide +kernel
theorem dk_X6_hole_174 : decode cX6_hole 174 = .ok (.getfield 62, 3) := by decide +kernel
theorem dk_X6_hole_177 : decode cX6_hole 177 = .ok (.iconst 1, 1) := by decide +kernel
theorem dk_X6_hole_178 : decode cX6_hole 178 = .ok (.isub, 1) := by decide +kernel
theorem dk_X6_hole_179 : decode cX6_hole 179 = .ok (.ireturn, 1) := by decide +kernel
theorem dk_X6_player_0 : decode cX6_player 0 = .ok (.aload_n 0, 1) := by decide +kernel
theorem dk_X6_player_1 : decode cX6_player 1 = .ok (.getfield 58, 3) := by decide +kernel
theorem dk_X6_player_4 : decode cX6_player 4 = .ok (.ifCond .ne 12, 3) := by decide +kernel
theorem dk_X6_player_7 : decode cX6_player 7 = .ok (.aload_n 0, 1) := by decide +kernel
theorem dk_X6_player_8 : decode cX6_player 8 = .ok (.getfield 122, 3) := by decide +kernel
theorem dk_X6_player_11 : decode cX6_player 11 = .ok (.bipush 6, 2) := by decide +kernel
theorem dk_X6_player_13 : decode cX6_player 13 = .ok (.if_icmp .lt 13, 3) := by decide +kernel
theorem dk_X6_player_16 : decode cX6_player 16 = .ok (.new 65, 3) := by decide +kernel
theorem dk_X6_player_19 : decode cX6_player 19 = .ok (.dup, 1) := by decide +kernel
theorem dk_X6_player_20 : decode cX6_player 20 = .ok (.ldc 125, 2) := by decide +kernel
theorem dk_X6_player_22 : decode cX6_player 22 = .ok (.invokespecial 69, 3) := by decide +kernel
theorem dk_X6_player_25 : decode cX6_player 25 = .ok (.athrow, 1) := by decide +kernel
theorem dk_X6_player_26 : decode cX6_player 26 = .ok (.aload_n 0, 1) := by decide +kernel
theorem dk_X6_player_27 : decode cX6_player 27 = .ok (.dup, 1) := by decide +kernel
theorem dk_X6_player_28 : decode cX6_player 28 = .ok (.getfield 122, 3) := by decide +kernel
theorem dk_X6_player_31 : decode cX6_player 31 = .ok (.iconst 1, 1) := by decide +kernel
theorem dk_X6_player_32 : decode cX6_player 32 = .ok (.iadd, 1) := by decide +kernel
theorem dk_X6_player_33 : decode cX6_player 33 = .ok (.putfield 122, 3) := by decide +kernel
theorem dk_X6_player_36 : decode cX6_player 36 = .ok (.aload_n 0, 1) := by decide +kernel
theorem dk_X6_player_37 : decode cX6_player 37 = .ok (.getfield 122, 3) := by decide +kernel
theorem dk_X6_player_40 : decode cX6_player 40 = .ok (.iconst 1, 1) := by decide +kernel
theorem dk_X6_player_41 : decode cX6_player 41 = .ok (.isub, 1) := by decide +kernel
theorem dk_X6_player_42 : decode cX6_player 42 = .ok (.ireturn, 1) := by decide +kernel
set_option maxHeartbeats 4000000 in
theorem kx_X6_hole {l : Launch} (hl9 : l.stackTraces = false) (D : va_G) {tys : List (ClassId × FieldType)} {sh : en_H} {w : va_W} {sz : Nat} (hD0 : va_D (va_A w sz) w) {fx : List Value} {hc pc : Nat} {bg : Int32} {ix ar : Nat → Int32} {ck : Nat → Nat → Int32} {a1 a2 a3 a4 a5 a6 : Int32} (hX : kx_X tys sh w fx hc pc bg ix ar ck) : kx_C l yX6_hole cX6_hole 8 (some .int) 1 1 6 0 [.ref (sh.2 66), .int a1, .int a2, .int a3, .int a4, .int a5, .int a6] D tys w sz (fun res w1 => res = some (.int (nI hc)) ∧ kx_hg a1 a2 a3 a4 a5 a6 ∧ bg = 0 ∧ hc < 9 ∧ (∀ j, j < hc → ¬ ix j = a2) ∧ ∃ fx1, kx_X tys sh w1 fx1 (hc + 1) pc bg (va_up ix hc a2) ar ck ∧ w1.length = w.length ∧ (∀ j, j ≠ 66 → j ≠ 68 + 2 * hc → w1[j]? = w[j]?) ∧ ∀ j, j ≠ 4 → fx1[j]? = fx[j]?) (fun E => (E = en_xn 0 ∧ ¬ kx_hg a1 a2 a3 a4 a5 a6) ∨ (E = en_xn 1 ∧ kx_hg a1 a2 a3 a4 a5 a6 ∧ ¬ (bg = 0 ∧ hc < 9)) ∨ (E = en_xn 2 ∧ kx_hg a1 a2 a3 a4 a5 a6 ∧ (bg = 0 ∧ hc < 9) ∧ ∃ j, j < hc ∧ ix j = a2)) := by
  refine vx_ofW (cc := cX6_hole) (maxL := 8) (ret := (some .int)) (by decide +kernel) rfl ?_
  intro p e s m args below meth c s₁ B9 hml hne hv
  obtain ⟨rfl, hsz, hP, hK, hT⟩ := hv
  subst hsz
  have hx := B9.exec
  have hb := B9.bytes
  have hr := B9.returns
  have hlocks := B9.notSynchronized
  have hts0 := atoms_spec (ws := Cond.code yX6_hole cX6_hole 8 (some .int) :: en_cw) B9.pre
  have hts : ∀ z ∈ en_cw, z.before _ s = true := fun z hz => hts0 z (List.mem_cons_of_mem _ hz)
  have hown : s.vm.findClass RX6 = some m.cls := findClass_of_methodNamed B9.named
  have G : kx_G p s m ([.ref (sh.2 66), .int a1, .int a2, .int a3, .int a4, .int a5, .int a6] : List Value).toArray c cX6_hole RX6 D tys (va_A w s.heap.size) := ⟨hx, hb, hts, hown, hK, hT, fun q h => Or.inr h⟩
  have L : kx_H D (va_A w s.heap.size) s w s.heap [] := ⟨hP, ⟨hD0.1, fun j z hz => Or.inl ⟨j, z.2, hz⟩⟩, va_S.rf⟩
  have hl := lv_entry ([.ref (sh.2 66), .int a1, .int a2, .int a3, .int a4, .int a5, .int a6] : List Value) (n := 8) (Nat.le_of_ble_eq_true rfl)
  rw [lg_entry_eq]
  generalize (lg_sl ([.ref (sh.2 66), .int a1, .int a2, .int a3, .int a4, .int a5, .int a6] : List Value) ++ List.replicate (8 - (lg_sl ([.ref (sh.2 66), .int a1, .int a2, .int a3, .int a4, .int a5, .int a6] : List Value)).length) Slot.unset).toArray = ls at hl ⊢
  have hl : lv_has ls 8 [(0, .ref (sh.2 66)), (1, .int a1), (2, .int a2), (3, .int a3), (4, .int a4), (5, .int a5), (6, .int a6)] := hl
  have fX := hX.1
  have hc9 : hc ≤ 9 := fX.2.2.2.2.2.2.1
  obtain ⟨cH, fH, ht3, hw67, hf67⟩ := hX.2.1
  have S73 : ∀ (H : Heap) (locs : List Loc), kx_H D (va_A w s.heap.size) s w H locs → kx_hg a1 a2 a3 a4 a5 a6 → ∀ (ls : Array Slot), lv_has ls 8 [(0, .ref (sh.2 66)), (1, .int a1), (2, .int a2), (3, .int a3), (4, .int a4), (5, .int a5), (6, .int a6)] → W p l e (headSpec (Cond.code yX6_hole cX6_hole 8 (some .int) :: en_cw) (en_rm 1 (1, 6))).room s m ([.ref (sh.2 66), .int a1, .int a2, .int a3, .int a4, .int a5, .int a6] : List Value).toArray below meth c H locs (0) (0) (vx_MQ below (kx_Q 0 D (fun res w1 => res = some (.int (nI hc)) ∧ kx_hg a1 a2 a3 a4 a5 a6 ∧ bg = 0 ∧ hc < 9 ∧ (∀ j, j < hc → ¬ ix j = a2) ∧ ∃ fx1, kx_X tys sh w1 fx1 (hc + 1) pc bg (va_up ix hc a2) ar ck ∧ w1.length = w.length ∧ (∀ j, j ≠ 66 → j ≠ 68 + 2 * hc → w1[j]? = w[j]?) ∧ ∀ j, j ≠ 4 → fx1[j]? = fx[j]?) (va_A w s.heap.size)) (kx_XC D w (fun E => (E = en_xn 0 ∧ ¬ kx_hg a1 a2 a3 a4 a5 a6) ∨ (E = en_xn 1 ∧ kx_hg a1 a2 a3 a4 a5 a6 ∧ ¬ (bg = 0 ∧ hc < 9)) ∨ (E = en_xn 2 ∧ kx_hg a1 a2 a3 a4 a5 a6 ∧ (bg = 0 ∧ hc < 9) ∧ ∃ j, j < hc ∧ ix j = a2)) (va_A w s.heap.size)) ([.ref (sh.2 66), .int a1, .int a2, .int a3, .int a4, .int a5, .int a6] : List Value).toArray s 1 6 (va_A w s.heap.size)) (F0 m 73 ls []) := by
    intro H locs L hgood ls hl
    refine lv_aload_n hx hb dk_X6_hole_73 rfl (lv_at hl 0 rfl) ?_
    refine kx_get (v := .int bg) G L (en_FTX6_ok (58, 12, 10) (by decide)) fX.1 fX.2.2.2.2.2.1 dk_X6_hole_74 ?_
    have k2 : (0 : Int32).toInt = 0 := by decide
    refine lv_if_ne (tgt := 89) hx hb dk_X6_hole_77 (by decide) (fun c1 => ?_) (fun c1 => ?_)
    · skip
      have tc1 : ¬ (bg : Int32).toInt = (0 : Int32).toInt := fun h => c1 (Int32.toInt_inj.mp h)
      exact kx_thr (en_tx1 hl9) G L (List.mem_of_getElem? (i := tf_ix 67) rfl) (hl.1.trans hml.symm) dk_X6_hole_89 dk_X6_hole_92 (Or.inl ⟨dk_X6_hole_93, dk_X6_hole_95, dk_X6_hole_98⟩) hne (Nat.le_of_ble_eq_true rfl) (Nat.le_of_ble_eq_true rfl) (Nat.le_of_ble_eq_true rfl) (Nat.le_of_ble_eq_true rfl) hlocks (Or.inr (Or.inl ⟨rfl, hgood, fun h => by have h1 := h.1; have h2 := h.2; exact absurd h1 c1⟩)) (Nat.le_of_ble_eq_true rfl) (Nat.le_of_ble_eq_true rfl)
    · skip
      have tc1 : (bg : Int32).toInt = (0 : Int32).toInt := by rw [c1]
      have hbg : bg = 0 := c1
      refine lv_aload_n hx hb dk_X6_hole_80 rfl (lv_at hl 0 rfl) ?_
      refine kx_get (v := .int (nI hc)) G L (en_FTX6_ok (62, 12, 4) (by decide)) fX.1 fX.2.2.2.1 dk_X6_hole_81 ?_
      refine lv_bipush (v := 9) hx hb dk_X6_hole_84 (by decide) ?_
      have kb : bg.toInt = 0 := by rw [hbg]; decide
      have k4 : (nI hc).toInt = (((hc) : Nat) : Int) := kx_nI (by omega)
      have k5 : (9 : Int32).toInt = 9 := by decide
      refine lv_icmp_lt (tgt := 99) hx hb dk_X6_hole_86 (by decide) (fun c3 => ?_) (fun c3 => ?_)
      · skip
        have tc3 : ((nI hc) : Int32).toInt < (9 : Int32).toInt := Int32.lt_iff_toInt_lt.mp c3
        refine lv_aload_n hx hb dk_X6_hole_99 rfl (lv_at hl 0 rfl) ?_
        refine lv_iload_n hx hb dk_X6_hole_100 rfl (lv_at hl 2 rfl) ?_
        have hlt : hc < 9 := by omega
        refine kx_cV (As := [.int a2]) (rest := []) (q := 66) (ci := 12) G L (kx_X6_hasIndex hl9 D (kx_D1 L) hX) gc_RX6_70v fX.1 rfl rfl rfl (hml.trans hl.1.symm) ⟨Nat.le_of_ble_eq_true rfl, Nat.le_of_ble_eq_true rfl⟩ ⟨Nat.le_of_ble_eq_true rfl, Nat.le_of_ble_eq_true rfl⟩ (Nat.le_of_ble_eq_true rfl) dk_X6_hole_101 (fun _ _ _ _ _ h9 => h9.elim) (fun res w6 H locs hrv hq6 L => ?_)
        obtain ⟨ew6, hq6⟩ := hq6
        have ew6 := ew6.symm
        subst ew6
        rcases hq6 with ⟨rfl, c0⟩ | ⟨rfl, c0⟩
        · skip
          refine lv_if_eq (tgt := 117) hx hb dk_X6_hole_104 (by decide) (fun c9 => absurd c9 (by decide)) (fun _ => ?_)
          exact kx_thr (en_tx2 hl9) G L (List.mem_of_getElem? (i := tf_ix 76) rfl) (hl.1.trans hml.symm) dk_X6_hole_107 dk_X6_hole_110 (Or.inl ⟨dk_X6_hole_111, dk_X6_hole_113, dk_X6_hole_116⟩) hne (Nat.le_of_ble_eq_true rfl) (Nat.le_of_ble_eq_true rfl) (Nat.le_of_ble_eq_true rfl) (Nat.le_of_ble_eq_true rfl) hlocks (Or.inr (Or.inr ⟨rfl, hgood, ⟨hbg, hlt⟩, c0⟩)) (Nat.le_of_ble_eq_true rfl) (Nat.le_of_ble_eq_true rfl)
        · skip
          refine lv_if_eq (tgt := 117) hx hb dk_X6_hole_104 (by decide) (fun _ => ?_) (fun c9 => absurd (by decide) c9)
          refine lv_aload_n hx hb dk_X6_hole_117 rfl (lv_at hl 0 rfl) ?_
          refine kx_get (v := .ref (sh.2 67)) G L (en_FTX6_ok (11, 12, 0) (by decide)) fX.1 fX.2.2.1 dk_X6_hole_118 ?_
          refine lv_aload_n hx hb dk_X6_hole_121 rfl (lv_at hl 0 rfl) ?_
          refine kx_get (v := .int (nI hc)) G L (en_FTX6_ok (62, 12, 4) (by decide)) fX.1 fX.2.2.2.1 dk_X6_hole_122 ?_
          obtain ⟨pk, ck9, tk, hwk⟩ := hX.2.2.1 hc hlt
          refine kx_aald G L hw67 ht3 hlt (by decide) (hf67 hc hlt) dk_X6_hole_125 ?_
          refine lv_astore (lv' := [(7, .ref (sh.2 (68 + 2 * hc))), (0, .ref (sh.2 66)), (1, .int a1), (2, .int a2), (3, .int a3), (4, .int a4), (5, .int a5), (6, .int a6)]) hx hb dk_X6_hole_126 hl (by decide) rfl (fun ls hl => ?_)
          refine lv_aload hx hb dk_X6_hole_128 (lv_at hl 0 rfl) ?_
          refine lv_iload_n hx hb dk_X6_hole_130 rfl (lv_at hl 2 rfl) ?_
          refine kx_put (x := a1) G L (en_PTX6_ok (79, 9, 1, 0) (by decide)) hwk (Nat.le_of_ble_eq_true rfl) (en_lo _) (en_hi _) dk_X6_hole_131 (fun w7 H locs e7 n7 o7 L => ?_)
          have e7 : w7[68 + 2 * hc]? = some ((sh.2 (68 + 2 * hc)), .inr (9, [.ref (sh.2 (69 + 2 * hc)), .int a1, .int (ix hc), .int ck9, .int tk, .int (ar hc)])) := e7
          refine lv_aload hx hb dk_X6_hole_134 (lv_at hl 0 rfl) ?_
          refine lv_iload_n hx hb dk_X6_hole_136 rfl (lv_at hl 3 rfl) ?_
          refine kx_put (x := a2) G L (en_PTX6_ok (82, 9, 2, 0) (by decide)) e7 (Nat.le_of_ble_eq_true rfl) (en_lo _) (en_hi _) dk_X6_hole_137 (fun w8 H locs e8 n8 o8 L => ?_)
          have e8 : w8[68 + 2 * hc]? = some ((sh.2 (68 + 2 * hc)), .inr (9, [.ref (sh.2 (69 + 2 * hc)), .int a1, .int a2, .int ck9, .int tk, .int (ar hc)])) := e8
          refine lv_aload hx hb dk_X6_hole_140 (lv_at hl 0 rfl) ?_
          refine lv_iload_n hx hb dk_X6_hole_142 rfl (lv_at hl 4 rfl) ?_
          refine lv_iload hx hb dk_X6_hole_143 (lv_at hl 5 rfl) ?_
          refine kx_cS (As := [.int a3, .int a4]) (rest := [.ref (sh.2 (68 + 2 * hc))]) G L (kx_X6_cellAt hl9 D (kx_D1 L)) gc_RX6_85s rfl (hml.trans hl.1.symm) ⟨Nat.le_of_ble_eq_true rfl, Nat.le_of_ble_eq_true rfl⟩ ⟨Nat.le_of_ble_eq_true rfl, Nat.le_of_ble_eq_true rfl⟩ (Nat.le_of_ble_eq_true rfl) dk_X6_hole_145 (fun _ _ _ _ _ h9 => h9.elim) (fun res w9 H locs hrv hq9 L => ?_)
          obtain ⟨ew9, hq9⟩ := hq9
          have ew9 := ew9.symm
          subst ew9
          obtain rfl := hq9
          refine kx_put (x := (a4 * 30 + a3)) G L (en_PTX6_ok (89, 9, 3, 0) (by decide)) e8 (Nat.le_of_ble_eq_true rfl) (en_lo _) (en_hi _) dk_X6_hole_148 (fun w10 H locs e10 n10 o10 L => ?_)
          have e10 : w10[68 + 2 * hc]? = some ((sh.2 (68 + 2 * hc)), .inr (9, [.ref (sh.2 (69 + 2 * hc)), .int a1, .int a2, .int (a4 * 30 + a3), .int tk, .int (ar hc)])) := e10
          refine lv_aload hx hb dk_X6_hole_151 (lv_at hl 0 rfl) ?_
          refine lv_iload hx hb dk_X6_hole_153 (lv_at hl 6 rfl) ?_
          refine lv_iload hx hb dk_X6_hole_155 (lv_at hl 7 rfl) ?_
          refine kx_cS (As := [.int a5, .int a6]) (rest := [.ref (sh.2 (68 + 2 * hc))]) G L (kx_X6_cellAt hl9 D (kx_D1 L)) gc_RX6_85s rfl (hml.trans hl.1.symm) ⟨Nat.le_of_ble_eq_true rfl, Nat.le_of_ble_eq_true rfl⟩ ⟨Nat.le_of_ble_eq_true rfl, Nat.le_of_ble_eq_true rfl⟩ (Nat.le_of_ble_eq_true rfl) dk_X6_hole_157 (fun _ _ _ _ _ h9 => h9.elim) (fun res w11 H locs hrv hq11 L => ?_)
          obtain ⟨ew11, hq11⟩ := hq11
          have ew11 := ew11.symm
          subst ew11
          obtain rfl := hq11
          refine kx_put (x := (a6 * 30 + a5)) G L (en_PTX6_ok (92, 9, 4, 0) (by decide)) e10 (Nat.le_of_ble_eq_true rfl) (en_lo _) (en_hi _) dk_X6_hole_160 (fun w12 H locs e12 n12 o12 L => ?_)
          have e12 : w12[68 + 2 * hc]? = some ((sh.2 (68 + 2 * hc)), .inr (9, [.ref (sh.2 (69 + 2 * hc)), .int a1, .int a2, .int (a4 * 30 + a3), .int (a6 * 30 + a5), .int (ar hc)])) := e12
          have hw66 : w12[66]? = some (sh.2 66, .inr (12, fx)) := (o12 66 (by omega)).trans ((o10 66 (by omega)).trans ((o8 66 (by omega)).trans ((o7 66 (by omega)).trans (fX.1))))
          refine lv_aload_n hx hb dk_X6_hole_163 rfl (lv_at hl 1 rfl) ?_
          refine lv_dup hx hb dk_X6_hole_164 rfl ?_
          refine kx_get (v := .int (nI hc)) G L (en_FTX6_ok (62, 12, 4) (by decide)) hw66 fX.2.2.2.1 dk_X6_hole_165 ?_
          refine lv_iconst (v := 1) hx hb dk_X6_hole_168 (by decide) ?_
          refine lv_iadd hx hb dk_X6_hole_169 ?_
          refine lv_topi (fun y13 ey13 => ?_)
          obtain rfl : y13 = (nI (hc + 1)) := ey13.trans (kx_inc (by omega))
          refine kx_put (x := (nI (hc + 1))) G L (en_PTX6_ok (62, 12, 4, 0) (by decide)) hw66 (by rw [fX.2.1]; decide) (en_lo _) (en_hi _) dk_X6_hole_170 (fun w14 H locs e14 n14 o14 L => ?_)
          have g66 : ∀ j, j ≠ 4 → (fx.set 4 (.int (nI (hc + 1))))[j]? = fx[j]? := fun j hj => List.getElem?_set_ne (Ne.symm hj)
          have g4 : (fx.set 4 (.int (nI (hc + 1))))[4]? = some (.int (nI (hc + 1))) := List.getElem?_set_self (by rw [fX.2.1]; decide)
          refine lv_aload_n hx hb dk_X6_hole_173 rfl (lv_at hl 1 rfl) ?_
          refine kx_get (v := .int (nI (hc + 1))) G L (en_FTX6_ok (62, 12, 4) (by decide)) e14 g4 dk_X6_hole_174 ?_
          refine lv_iconst (v := 1) hx hb dk_X6_hole_177 (by decide) ?_
          refine lv_isub hx hb dk_X6_hole_178 ?_
          refine lv_topi (fun y15 ey15 => ?_)
          obtain rfl : y15 = (nI hc) := ey15.trans (kx_dec (by omega))
          have hoth : ∀ j, j ≠ 66 → j ≠ 68 + 2 * hc → w14[j]? = w[j]? := fun j h1 h2 => (o14 j h1).trans ((o12 j h2).trans ((o10 j h2).trans ((o8 j h2).trans ((o7 j h2).trans (rfl)))))
          have hlen : w14.length = w.length := n14.trans (n12.trans (n10.trans (n8.trans (n7.trans (rfl)))))
          have hrow : w14[68 + 2 * hc]? = some ((sh.2 (68 + 2 * hc)), .inr (9, [.ref (sh.2 (69 + 2 * hc)), .int a1, .int a2, .int (a4 * 30 + a3), .int (a6 * 30 + a5), .int (ar hc)])) := (o14 _ (by omega)).trans e12
          exact vx_ret (W.widen (Nat.le_of_ble_eq_true rfl) (Nat.le_of_ble_eq_true rfl) (W.iret (v := (nI hc)) hx hb hr (fun T9 hT9 _ => ⟨⟨(nI hc), w14, rfl, ⟨rfl, hgood, hbg, hlt, c0, _, kx_X.hole hX hlt e14 hrow hoth g66 g4 List.length_set, hlen, hoth, g66⟩, by rw [hT9]; exact L.1, L.2.1⟩, L.2.2.F hT9⟩) L.2.2.2.2 dk_X6_hole_179 hlocks))
      · skip
        have tc3 : ¬ ((nI hc) : Int32).toInt < (9 : Int32).toInt := fun h => c3 (Int32.lt_iff_toInt_lt.mpr h)
        exact kx_thr (en_tx1 hl9) G L (List.mem_of_getElem? (i := tf_ix 67) rfl) (hl.1.trans hml.symm) dk_X6_hole_89 dk_X6_hole_92 (Or.inl ⟨dk_X6_hole_93, dk_X6_hole_95, dk_X6_hole_98⟩) hne (Nat.le_of_ble_eq_true rfl) (Nat.le_of_ble_eq_true rfl) (Nat.le_of_ble_eq_true rfl) (Nat.le_of_ble_eq_true rfl) hlocks (Or.inr (Or.inl ⟨rfl, hgood, fun h => by have h1 := h.1; have h2 := h.2; omega⟩)) (Nat.le_of_ble_eq_true rfl) (Nat.le_of_ble_eq_true rfl)
  refine lv_iload_n hx hb dk_X6_hole_0 rfl (lv_at hl 1 rfl) ?_
  refine lv_iconst (v := 3) hx hb dk_X6_hole_1 (by decide) ?_
  have k17 : (3 : Int32).toInt = 3 := by decide
  refine lv_icmp_lt (tgt := 40) hx hb dk_X6_hole_2 (by decide) (fun c16 => ?_) (fun c16 => ?_)
  · skip
    have tc16 : (a1 : Int32).toInt < (3 : Int32).toInt := Int32.lt_iff_toInt_lt.mp c16
    exact kx_thr (en_tx0 hl9) G L (List.mem_of_getElem? (i := tf_ix 51) rfl) (hl.1.trans hml.symm) dk_X6_hole_40 dk_X6_hole_43 (Or.inl ⟨dk_X6_hole_44, dk_X6_hole_46, dk_X6_hole_49⟩) hne (Nat.le_of_ble_eq_true rfl) (Nat.le_of_ble_eq_true rfl) (Nat.le_of_ble_eq_true rfl) (Nat.le_of_ble_eq_true rfl) hlocks (Or.inl ⟨rfl, fun h => by obtain ⟨h1, h2, h3, h4, h5⟩ := h; omega⟩) (Nat.le_of_ble_eq_true rfl) (Nat.le_of_ble_eq_true rfl)
  · skip
    have tc16 : ¬ (a1 : Int32).toInt < (3 : Int32).toInt := fun h => c16 (Int32.lt_iff_toInt_lt.mpr h)
    refine lv_iload_n hx hb dk_X6_hole_5 rfl (lv_at hl 1 rfl) ?_
    refine lv_iconst (v := 5) hx hb dk_X6_hole_6 (by decide) ?_
    have k19 : (5 : Int32).toInt = 5 := by decide
    refine lv_icmp_gt (tgt := 40) hx hb dk_X6_hole_7 (by decide) (fun c18 => ?_) (fun c18 => ?_)
    · skip
      have tc18 : (5 : Int32).toInt < (a1 : Int32).toInt := Int32.lt_iff_toInt_lt.mp c18
      exact kx_thr (en_tx0 hl9) G L (List.mem_of_getElem? (i := tf_ix 51) rfl) (hl.1.trans hml.symm) dk_X6_hole_40 dk_X6_hole_43 (Or.inl ⟨dk_X6_hole_44, dk_X6_hole_46, dk_X6_hole_49⟩) hne (Nat.le_of_ble_eq_true rfl) (Nat.le_of_ble_eq_true rfl) (Nat.le_of_ble_eq_true rfl) (Nat.le_of_ble_eq_true rfl) hlocks (Or.inl ⟨rfl, fun h => by obtain ⟨h1, h2, h3, h4, h5⟩ := h; omega⟩) (Nat.le_of_ble_eq_true rfl) (Nat.le_of_ble_eq_true rfl)
    · skip
      have tc18 : ¬ (5 : Int32).toInt < (a1 : Int32).toInt := fun h => c18 (Int32.lt_iff_toInt_lt.mpr h)
      refine lv_iload_n hx hb dk_X6_hole_10 rfl (lv_at hl 2 rfl) ?_
      refine lv_iconst (v := 1) hx hb dk_X6_hole_11 (by decide) ?_
      have k21 : (1 : Int32).toInt = 1 := by decide
      refine lv_icmp_lt (tgt := 40) hx hb dk_X6_hole_12 (by decide) (fun c20 => ?_) (fun c20 => ?_)
      · skip
        have tc20 : (a2 : Int32).toInt < (1 : Int32).toInt := Int32.lt_iff_toInt_lt.mp c20
        exact kx_thr (en_tx0 hl9) G L (List.mem_of_getElem? (i := tf_ix 51) rfl) (hl.1.trans hml.symm) dk_X6_hole_40 dk_X6_hole_43 (Or.inl ⟨dk_X6_hole_44, dk_X6_hole_46, dk_X6_hole_49⟩) hne (Nat.le_of_ble_eq_true rfl) (Nat.le_of_ble_eq_true rfl) (Nat.le_of_ble_eq_true rfl) (Nat.le_of_ble_eq_true rfl) hlocks (Or.inl ⟨rfl, fun h => by obtain ⟨h1, h2, h3, h4, h5⟩ := h; omega⟩) (Nat.le_of_ble_eq_true rfl) (Nat.le_of_ble_eq_true rfl)
      · skip
        have tc20 : ¬ (a2 : Int32).toInt < (1 : Int32).toInt := fun h => c20 (Int32.lt_iff_toInt_lt.mpr h)
        refine lv_iload_n hx hb dk_X6_hole_15 rfl (lv_at hl 2 rfl) ?_
        refine lv_bipush (v := 9) hx hb dk_X6_hole_16 (by decide) ?_
        have k23 : (9 : Int32).toInt = 9 := by decide
        refine lv_icmp_gt (tgt := 40) hx hb dk_X6_hole_18 (by decide) (fun c22 => ?_) (fun c22 => ?_)
        · skip
          have tc22 : (9 : Int32).toInt < (a2 : Int32).toInt := Int32.lt_iff_toInt_lt.mp c22
          exact kx_thr (en_tx0 hl9) G L (List.mem_of_getElem? (i := tf_ix 51) rfl) (hl.1.trans hml.symm) dk_X6_hole_40 dk_X6_hole_43 (Or.inl ⟨dk_X6_hole_44, dk_X6_hole_46, dk_X6_hole_49⟩) hne (Nat.le_of_ble_eq_true rfl) (Nat.le_of_ble_eq_true rfl) (Nat.le_of_ble_eq_true rfl) (Nat.le_of_ble_eq_true rfl) hlocks (Or.inl ⟨rfl, fun h => by obtain ⟨h1, h2, h3, h4, h5⟩ := h; omega⟩) (Nat.le_of_ble_eq_true rfl) (Nat.le_of_ble_eq_true rfl)
        · skip
          have tc22 : ¬ (9 : Int32).toInt < (a2 : Int32).toInt := fun h => c22 (Int32.lt_iff_toInt_lt.mpr h)
          refine lv_iload_n hx hb dk_X6_hole_21 rfl (lv_at hl 3 rfl) ?_
          refine lv_iload hx hb dk_X6_hole_22 (lv_at hl 4 rfl) ?_
          refine kx_cS (As := [.int a3, .int a4]) (rest := []) G L (kx_X6_isCell hl9 D (kx_D1 L)) gc_RX6_45s rfl (hml.trans hl.1.symm) ⟨Nat.le_of_ble_eq_true rfl, Nat.le_of_ble_eq_true rfl⟩ ⟨Nat.le_of_ble_eq_true rfl, Nat.le_of_ble_eq_true rfl⟩ (Nat.le_of_ble_eq_true rfl) dk_X6_hole_24 (fun _ _ _ _ _ h9 => h9.elim) (fun res w24 H locs hrv hq24 L => ?_)
          obtain ⟨ew24, hq24⟩ := hq24
          have ew24 := ew24.symm
          subst ew24
          rcases hq24 with ⟨rfl, cA⟩ | ⟨rfl, cA⟩
          · skip
            refine lv_if_eq (tgt := 40) hx hb dk_X6_hole_27 (by decide) (fun c9 => absurd c9 (by decide)) (fun _ => ?_)
            refine lv_iload hx hb dk_X6_hole_30 (lv_at hl 5 rfl) ?_
            refine lv_iload hx hb dk_X6_hole_32 (lv_at hl 6 rfl) ?_
            refine kx_cS (As := [.int a5, .int a6]) (rest := []) G L (kx_X6_isCell hl9 D (kx_D1 L)) gc_RX6_45s rfl (hml.trans hl.1.symm) ⟨Nat.le_of_ble_eq_true rfl, Nat.le_of_ble_eq_true rfl⟩ ⟨Nat.le_of_ble_eq_true rfl, Nat.le_of_ble_eq_true rfl⟩ (Nat.le_of_ble_eq_true rfl) dk_X6_hole_34 (fun _ _ _ _ _ h9 => h9.elim) (fun res w25 H locs hrv hq25 L => ?_)
            obtain ⟨ew25, hq25⟩ := hq25
            have ew25 := ew25.symm
            subst ew25
            rcases hq25 with ⟨rfl, cB⟩ | ⟨rfl, cB⟩
            · skip
              refine lv_if_ne (tgt := 50) hx hb dk_X6_hole_37 (by decide) (fun _ => ?_) (fun c9 => absurd c9 (by decide))
              refine lv_iload_n hx hb dk_X6_hole_50 rfl (lv_at hl 3 rfl) ?_
              refine lv_iload hx hb dk_X6_hole_51 (lv_at hl 5 rfl) ?_
              refine lv_icmp_ne (tgt := 73) hx hb dk_X6_hole_53 (by decide) (fun c26 => ?_) (fun c26 => ?_)
              · skip
                have tc26 : ¬ (a3 : Int32).toInt = (a5 : Int32).toInt := fun h => c26 (Int32.toInt_inj.mp h)
                exact S73 _ _ L ⟨⟨by omega, by omega⟩, ⟨by omega, by omega⟩, cA, cB, fun h => c26 h.1⟩ ls (lv_sub hl [0, 1, 2, 3, 4, 5, 6] rfl)
              · skip
                have tc26 : (a3 : Int32).toInt = (a5 : Int32).toInt := by rw [c26]
                refine lv_iload hx hb dk_X6_hole_56 (lv_at hl 4 rfl) ?_
                refine lv_iload hx hb dk_X6_hole_58 (lv_at hl 6 rfl) ?_
                refine lv_icmp_ne (tgt := 73) hx hb dk_X6_hole_60 (by decide) (fun c27 => ?_) (fun c27 => ?_)
                · skip
                  have tc27 : ¬ (a4 : Int32).toInt = (a6 : Int32).toInt := fun h => c27 (Int32.toInt_inj.mp h)
                  exact S73 _ _ L ⟨⟨by omega, by omega⟩, ⟨by omega, by omega⟩, cA, cB, fun h => c27 h.2⟩ ls (lv_sub hl [0, 1, 2, 3, 4, 5, 6] rfl)
                · skip
                  have tc27 : (a4 : Int32).toInt = (a6 : Int32).toInt := by rw [c27]
                  exact kx_thr (en_tx0 hl9) G L (List.mem_of_getElem? (i := tf_ix 56) rfl) (hl.1.trans hml.symm) dk_X6_hole_63 dk_X6_hole_66 (Or.inl ⟨dk_X6_hole_67, dk_X6_hole_69, dk_X6_hole_72⟩) hne (Nat.le_of_ble_eq_true rfl) (Nat.le_of_ble_eq_true rfl) (Nat.le_of_ble_eq_true rfl) (Nat.le_of_ble_eq_true rfl) hlocks (Or.inl ⟨rfl, fun h => by obtain ⟨h1, h2, h3, h4, h5⟩ := h; exact h5 ⟨c26, c27⟩⟩) (Nat.le_of_ble_eq_true rfl) (Nat.le_of_ble_eq_true rfl)
            · skip
              refine lv_if_ne (tgt := 50) hx hb dk_X6_hole_37 (by decide) (fun c9 => absurd (by decide) c9) (fun _ => ?_)
              exact kx_thr (en_tx0 hl9) G L (List.mem_of_getElem? (i := tf_ix 51) rfl) (hl.1.trans hml.symm) dk_X6_hole_40 dk_X6_hole_43 (Or.inl ⟨dk_X6_hole_44, dk_X6_hole_46, dk_X6_hole_49⟩) hne (Nat.le_of_ble_eq_true rfl) (Nat.le_of_ble_eq_true rfl) (Nat.le_of_ble_eq_true rfl) (Nat.le_of_ble_eq_true rfl) hlocks (Or.inl ⟨rfl, fun h => by obtain ⟨h1, h2, h3, h4, h5⟩ := h; exact cB h4⟩) (Nat.le_of_ble_eq_true rfl) (Nat.le_of_ble_eq_true rfl)
          · skip
            refine lv_if_eq (tgt := 40) hx hb dk_X6_hole_27 (by decide) (fun _ => ?_) (fun c9 => absurd (by decide) c9)
            exact kx_thr (en_tx0 hl9) G L (List.mem_of_getElem? (i := tf_ix 51) rfl) (hl.1.trans hml.symm) dk_X6_hole_40 dk_X6_hole_43 (Or.inl ⟨dk_X6_hole_44, dk_X6_hole_46, dk_X6_hole_49⟩) hne (Nat.le_of_ble_eq_true rfl) (Nat.le_of_ble_eq_true rfl) (Nat.le_of_ble_eq_true rfl) (Nat.le_of_ble_eq_true rfl) hlocks (Or.inl ⟨rfl, fun h => by obtain ⟨h1, h2, h3, h4, h5⟩ := h; exact cA h3⟩) (Nat.le_of_ble_eq_true rfl) (Nat.le_of_ble_eq_true rfl)
set_option maxHeartbeats 4000000 in
theorem kx_X6_player {l : Launch} (hl9 : l.stackTraces = false) (D : va_G) {tys : List (ClassId × FieldType)} {sh : en_H} {w : va_W} {sz : Nat} (hD0 : va_D (va_A w sz) w) {fx : List Value} {hc pc : Nat} {bg : Int32} {ix ar : Nat → Int32} {ck : Nat → Nat → Int32} (hX : kx_X tys sh w fx hc pc bg ix ar ck) : kx_C l yX6_player cX6_player 1 (some .int) 0 1 6 0 [.ref (sh.2 66)] D tys w sz (fun res w1 => res = some (.int (nI pc)) ∧ bg = 0 ∧ pc < 6 ∧ ∃ fx1, kx_X tys sh w1 fx1 hc (pc + 1) bg ix ar ck ∧ w1.length = w.length ∧ (∀ j, j ≠ 66 → w1[j]? = w[j]?) ∧ ∀ j, j ≠ 5 → fx1[j]? = fx[j]?) (fun E => E = en_xn 1 ∧ ¬ (bg = 0 ∧ pc < 6)) := by
  refine vx_ofW (cc := cX6_player) (maxL := 1) (ret := (some .int)) (by decide +kernel) rfl ?_
  intro p e s m args below meth c s₁ B9 hml hne hv
  obtain ⟨rfl, hsz, hP, hK, hT⟩ := hv
  subst hsz
  have hx := B9.exec
  have hb := B9.bytes
  have hr := B9.returns
  have hlocks := B9.notSynchronized
  have hts0 := atoms_spec (ws := Cond.code yX6_player cX6_player 1 (some .int) :: en_cw) B9.pre
  have hts : ∀ z ∈ en_cw, z.before _ s = true := fun z hz => hts0 z (List.mem_cons_of_mem _ hz)
  have hown : s.vm.findClass RX6 = some m.cls := findClass_of_methodNamed B9.named
  have G : kx_G p s m ([.ref (sh.2 66)] : List Value).toArray c cX6_player RX6 D tys (va_A w s.heap.size) := ⟨hx, hb, hts, hown, hK, hT, fun q h => Or.inr h⟩
  have L : kx_H D (va_A w s.heap.size) s w s.heap [] := ⟨hP, ⟨hD0.1, fun j z hz => Or.inl ⟨j, z.2, hz⟩⟩, va_S.rf⟩
  have hl := lv_entry ([.ref (sh.2 66)] : List Value) (n := 1) (Nat.le_of_ble_eq_true rfl)
  rw [lg_entry_eq]
  generalize (lg_sl ([.ref (sh.2 66)] : List Value) ++ List.replicate (1 - (lg_sl ([.ref (sh.2 66)] : List Value)).length) Slot.unset).toArray = ls at hl ⊢
  have hl : lv_has ls 1 [(0, .ref (sh.2 66))] := hl
  have fX := hX.1
  have hc9 : hc ≤ 9 := fX.2.2.2.2.2.2.1
  have pc6 : pc ≤ 6 := fX.2.2.2.2.2.2.2.1
  refine lv_aload_n hx hb dk_X6_player_0 rfl (lv_at hl 0 rfl) ?_
  refine kx_get (v := .int bg) G L (en_FTX6_ok (58, 12, 10) (by decide)) fX.1 fX.2.2.2.2.2.1 dk_X6_player_1 ?_
  have k2 : (0 : Int32).toInt = 0 := by decide
  refine lv_if_ne (tgt := 16) hx hb dk_X6_player_4 (by decide) (fun c1 => ?_) (fun c1 => ?_)
  · skip
    have tc1 : ¬ (bg : Int32).toInt = (0 : Int32).toInt := fun h => c1 (Int32.toInt_inj.mp h)
    exact kx_thr (en_tx1 hl9) G L (List.mem_of_getElem? (i := tf_ix 125) rfl) (hl.1.trans hml.symm) dk_X6_player_16 dk_X6_player_19 (Or.inl ⟨dk_X6_player_20, dk_X6_player_22, dk_X6_player_25⟩) hne (Nat.le_of_ble_eq_true rfl) (Nat.le_of_ble_eq_true rfl) (Nat.le_of_ble_eq_true rfl) (Nat.le_of_ble_eq_true rfl) hlocks (⟨rfl, fun h => c1 h.1⟩) (Nat.le_of_ble_eq_true rfl) (Nat.le_of_ble_eq_true rfl)
  · skip
    have tc1 : (bg : Int32).toInt = (0 : Int32).toInt := by rw [c1]
    have hbg : bg = 0 := c1
    refine lv_aload_n hx hb dk_X6_player_7 rfl (lv_at hl 0 rfl) ?_
    refine kx_get (v := .int (nI pc)) G L (en_FTX6_ok (122, 12, 5) (by decide)) fX.1 fX.2.2.2.2.1 dk_X6_player_8 ?_
    refine lv_bipush (v := 6) hx hb dk_X6_player_11 (by decide) ?_
    have k4 : (nI pc).toInt = (((pc) : Nat) : Int) := kx_nI (by omega)
    have k5 : (6 : Int32).toInt = 6 := by decide
    refine lv_icmp_lt (tgt := 26) hx hb dk_X6_player_13 (by decide) (fun c3 => ?_) (fun c3 => ?_)
    · skip
      have tc3 : ((nI pc) : Int32).toInt < (6 : Int32).toInt := Int32.lt_iff_toInt_lt.mp c3
      have hlt : pc < 6 := by omega
      refine lv_aload_n hx hb dk_X6_player_26 rfl (lv_at hl 0 rfl) ?_
      refine lv_dup hx hb dk_X6_player_27 rfl ?_
      refine kx_get (v := .int (nI pc)) G L (en_FTX6_ok (122, 12, 5) (by decide)) fX.1 fX.2.2.2.2.1 dk_X6_player_28 ?_
      refine lv_iconst (v := 1) hx hb dk_X6_player_31 (by decide) ?_
      refine lv_iadd hx hb dk_X6_player_32 ?_
      refine lv_topi (fun y6 ey6 => ?_)
      obtain rfl : y6 = (nI (pc + 1)) := ey6.trans (kx_inc (by omega))
      refine kx_put (x := (nI (pc + 1))) G L (en_PTX6_ok (122, 12, 5, 0) (by decide)) fX.1 (by rw [fX.2.1]; decide) (en_lo _) (en_hi _) dk_X6_player_33 (fun w7 H locs e7 n7 o7 L => ?_)
      have g66 : ∀ j, j ≠ 5 → (fx.set 5 (.int (nI (pc + 1))))[j]? = fx[j]? := fun j hj => List.getElem?_set_ne (Ne.symm hj)
      have g5 : (fx.set 5 (.int (nI (pc + 1))))[5]? = some (.int (nI (pc + 1))) := List.getElem?_set_self (by rw [fX.2.1]; decide)
      refine lv_aload_n hx hb dk_X6_player_36 rfl (lv_at hl 0 rfl) ?_
      refine kx_get (v := .int (nI (pc + 1))) G L (en_FTX6_ok (122, 12, 5) (by decide)) e7 g5 dk_X6_player_37 ?_
      refine lv_iconst (v := 1) hx hb dk_X6_player_40 (by decide) ?_
      refine lv_isub hx hb dk_X6_player_41 ?_
      refine lv_topi (fun y8 ey8 => ?_)
      obtain rfl : y8 = (nI pc) := ey8.trans (kx_dec (by omega))
      exact vx_ret (W.widen (Nat.le_of_ble_eq_true rfl) (Nat.le_of_ble_eq_true rfl) (W.iret (v := (nI pc)) hx hb hr (fun T9 hT9 _ => ⟨⟨(nI pc), w7, rfl, ⟨rfl, hbg, hlt, _, kx_X.player hX hlt e7 o7 g66 g5 List.length_set, n7, o7, g66⟩, by rw [hT9]; exact L.1, L.2.1⟩, L.2.2.F hT9⟩) L.2.2.2.2 dk_X6_player_42 hlocks))
    · skip
      have tc3 : ¬ ((nI pc) : Int32).toInt < (6 : Int32).toInt := fun h => c3 (Int32.lt_iff_toInt_lt.mpr h)
      exact kx_thr (en_tx1 hl9) G L (List.mem_of_getElem? (i := tf_ix 125) rfl) (hl.1.trans hml.symm) dk_X6_player_16 dk_X6_player_19 (Or.inl ⟨dk_X6_player_20, dk_X6_player_22, dk_X6_player_25⟩) hne (Nat.le_of_ble_eq_true rfl) (Nat.le_of_ble_eq_true rfl) (Nat.le_of_ble_eq_true rfl) (Nat.le_of_ble_eq_true rfl) hlocks (⟨rfl, fun h => by have h2 := h.2; omega⟩) (Nat.le_of_ble_eq_true rfl) (Nat.le_of_ble_eq_true rfl)
set_option maxHeartbeats 4000000 in
theorem kx_X6_area {l : Launch} (hl9 : l.stackTraces = false) (D : va_G) {tys : List (ClassId × FieldType)} {sh : en_H} {w : va_W} {sz : Nat} (hD0 : va_D (va_A w sz) w) {fx : List Value} {hc pc : Nat} {bg : Int32} {ix ar : Nat → Int32} {ck : Nat → Nat → Int32} {a1 a2 a3 a4 a5 a6 : Int32} (hX : kx_X tys sh w fx hc pc bg ix ar ck) (hk1 : 0 ≤ a2.toInt) (hk2 : a2.toInt ≤ 65535) : kx_C l yX6_area cX6_area 7 (some .int) 2 2 12 0 [.ref (sh.2 66), .int a1, .int a2, .int a3, .int a4, .int a5, .int a6] D tys w sz (fun res w1 => res = some (.int (ar a1.toInt.toNat + 1)) ∧ (0 ≤ a1.toInt ∧ a1.toInt < (hc : Int)) ∧ kx_ag a2 a3 a4 a5 a6 ∧ (bg = 0 ∧ (ar a1.toInt.toNat).toInt < 12) ∧ kx_X tys sh w1 fx hc pc bg ix (va_up ar a1.toInt.toNat (ar a1.toInt.toNat + 1)) (kx_ck ck a1.toInt.toNat a2 a3 a4 a5 a6) ∧ w1.length = w.length ∧ (∀ j, j ≠ 68 + 2 * a1.toInt.toNat → j ≠ 69 + 2 * a1.toInt.toNat → w1[j]? = w[j]?)) (fun E => (E = en_xn 3 ∧ ¬ (0 ≤ a1.toInt ∧ a1.toInt < (hc : Int))) ∨ (E = en_xn 0 ∧ (0 ≤ a1.toInt ∧ a1.toInt < (hc : Int)) ∧ ¬ kx_ag a2 a3 a4 a5 a6) ∨ (E = en_xn 1 ∧ (0 ≤ a1.toInt ∧ a1.toInt < (hc : Int)) ∧ kx_ag a2 a3 a4 a5 a6 ∧ ¬ (bg = 0 ∧ (ar a1.toInt.toNat).toInt < 12))) := by
  refine vx_ofW (cc := cX6_area) (maxL := 7) (ret := (some .int)) (by decide +kernel) rfl ?_
  intro p e s m args below meth c s₁ B9 hml hne hv
  obtain ⟨rfl, hsz, hP, hK, hT⟩ := hv
  subst hsz
  have hx := B9.exec
  have hb := B9.bytes
  have hr := B9.returns
  have hlocks := B9.notSynchronized
  have hts0 := atoms_spec (ws := Cond.code yX6_area cX6_area 7 (some .int) :: en_cw) B9.pre
  have hts : ∀ z ∈ en_cw, z.before _ s = true := fun z hz => hts0 z (List.mem_cons_of_mem _ hz)
  have hown : s.vm.findClass RX6 = some m.cls := findClass_of_methodNamed B9.named
  have G : kx_G p s m ([.ref (sh.2 66), .int a1, .int a2, .int a3, .int a4, .int a5, .int a6] : List Value).toArray c cX6_area RX6 D tys (va_A w s.heap.size) := ⟨hx, hb, hts, hown, hK, hT, fun q h => Or.inr h⟩
  have L : kx_H D (va_A w s.heap.size) s w s.heap [] := ⟨hP, ⟨hD0.1, fun j z hz => Or.inl ⟨j, z.2, hz⟩⟩, va_S.rf⟩
  have hl := lv_entry ([.ref (sh.2 66), .int a1, .int a2, .int a3, .int a4, .int a5, .int a6] : List Value) (n := 7) (Nat.le_of_ble_eq_true rfl)
  rw [lg_entry_eq]
  generalize (lg_sl ([.ref (sh.2 66), .int a1, .int a2, .int a3, .int a4, .int a5, .int a6] : List Value) ++ List.replicate (7 - (lg_sl ([.ref (sh.2 66), .int a1, .int a2, .int a3, .int a4, .int a5, .int a6] : List Value)).length) Slot.unset).toArray = ls at hl ⊢
  have hl : lv_has ls 7 [(0, .ref (sh.2 66)), (1, .int a1), (2, .int a2), (3, .int a3), (4, .int a4), (5, .int a5), (6, .int a6)] := hl
  have fX := hX.1
  have hc9 : hc ≤ 9 := fX.2.2.2.2.2.2.1
  obtain ⟨cH, fH, ht3, hw67, hf67⟩ := hX.2.1
  refine lv_aload_n hx hb dk_X6_area_0 rfl (lv_at hl 0 rfl) ?_
  refine lv_iload_n hx hb dk_X6_area_1 rfl (lv_at hl 1 rfl) ?_
  refine kx_cV (As := [.int a1]) (rest := []) (q := 66) (ci := 12) G L (kx_X6_needHole hl9 D (kx_D1 L) hX) gc_RX6_95v fX.1 rfl rfl rfl (hml.trans hl.1.symm) ⟨Nat.le_of_ble_eq_true rfl, Nat.le_of_ble_eq_true rfl⟩ ⟨Nat.le_of_ble_eq_true rfl, Nat.le_of_ble_eq_true rfl⟩ (Nat.le_of_ble_eq_true rfl) dk_X6_area_2 (fun E ce q9 H1 locs1 h9 L9 hcell hv hcl => kx_out hne hlocks L9 hcell hv hcl (Or.inl h9) (Nat.le_of_ble_eq_true rfl) (Nat.le_of_ble_eq_true rfl)) (fun res w1 H locs hrv hq1 L => ?_)
  obtain ⟨ew1, hq1⟩ := hq1
  have ew1 := ew1.symm
  subst ew1
  obtain ⟨hin1, hin2⟩ := hq1
  obtain rfl := (show res = none from hrv)
  have hin : (0 ≤ a1.toInt ∧ a1.toInt < (hc : Int)) := ⟨hin1, hin2⟩
  obtain ⟨h, eh⟩ : ∃ h : Nat, h = a1.toInt.toNat := ⟨_, rfl⟩
  have hh : h < 9 := by omega
  have ea : a1 = nI h := by rw [eh]; exact kx_cN hin1
  have S54 : ∀ (H : Heap) (locs : List Loc), kx_H D (va_A w s.heap.size) s w H locs → kx_ag a2 a3 a4 a5 a6 → ∀ (ls : Array Slot), lv_has ls 7 [(0, .ref (sh.2 66)), (1, .int a1), (2, .int a2), (3, .int a3), (4, .int a4), (5, .int a5), (6, .int a6)] → W p l e (headSpec (Cond.code yX6_area cX6_area 7 (some .int) :: en_cw) (en_rm 2 (2, 12))).room s m ([.ref (sh.2 66), .int a1, .int a2, .int a3, .int a4, .int a5, .int a6] : List Value).toArray below meth c H locs (1) (6) (vx_MQ below (kx_Q 0 D (fun res w1 => res = some (.int (ar a1.toInt.toNat + 1)) ∧ (0 ≤ a1.toInt ∧ a1.toInt < (hc : Int)) ∧ kx_ag a2 a3 a4 a5 a6 ∧ (bg = 0 ∧ (ar a1.toInt.toNat).toInt < 12) ∧ kx_X tys sh w1 fx hc pc bg ix (va_up ar a1.toInt.toNat (ar a1.toInt.toNat + 1)) (kx_ck ck a1.toInt.toNat a2 a3 a4 a5 a6) ∧ w1.length = w.length ∧ (∀ j, j ≠ 68 + 2 * a1.toInt.toNat → j ≠ 69 + 2 * a1.toInt.toNat → w1[j]? = w[j]?)) (va_A w s.heap.size)) (kx_XC D w (fun E => (E = en_xn 3 ∧ ¬ (0 ≤ a1.toInt ∧ a1.toInt < (hc : Int))) ∨ (E = en_xn 0 ∧ (0 ≤ a1.toInt ∧ a1.toInt < (hc : Int)) ∧ ¬ kx_ag a2 a3 a4 a5 a6) ∨ (E = en_xn 1 ∧ (0 ≤ a1.toInt ∧ a1.toInt < (hc : Int)) ∧ kx_ag a2 a3 a4 a5 a6 ∧ ¬ (bg = 0 ∧ (ar a1.toInt.toNat).toInt < 12))) (va_A w s.heap.size)) ([.ref (sh.2 66), .int a1, .int a2, .int a3, .int a4, .int a5, .int a6] : List Value).toArray s 2 12 (va_A w s.heap.size)) (F0 m 54 ls []) := by
    intro H locs L hgood ls hl
    refine lv_aload_n hx hb dk_X6_area_54 rfl (lv_at hl 0 rfl) ?_
    refine kx_get (v := .int bg) G L (en_FTX6_ok (58, 12, 10) (by decide)) fX.1 fX.2.2.2.2.2.1 dk_X6_area_55 ?_
    have k3 : (0 : Int32).toInt = 0 := by decide
    refine lv_if_ne (tgt := 75) hx hb dk_X6_area_58 (by decide) (fun c2 => ?_) (fun c2 => ?_)
    · skip
      have tc2 : ¬ (bg : Int32).toInt = (0 : Int32).toInt := fun h => c2 (Int32.toInt_inj.mp h)
      exact kx_thr (en_tx1 hl9) G L (List.mem_of_getElem? (i := tf_ix 108) rfl) (hl.1.trans hml.symm) dk_X6_area_75 dk_X6_area_78 (Or.inl ⟨dk_X6_area_79, dk_X6_area_81, dk_X6_area_84⟩) hne (Nat.le_of_ble_eq_true rfl) (Nat.le_of_ble_eq_true rfl) (Nat.le_of_ble_eq_true rfl) (Nat.le_of_ble_eq_true rfl) hlocks (Or.inr (Or.inr ⟨rfl, hin, hgood, fun h9 => by obtain ⟨h1, h2⟩ := h9; exact c2 h1⟩)) (Nat.le_of_ble_eq_true rfl) (Nat.le_of_ble_eq_true rfl)
    · skip
      have tc2 : (bg : Int32).toInt = (0 : Int32).toInt := by rw [c2]
      have hbg : bg = 0 := c2
      refine lv_aload_n hx hb dk_X6_area_61 rfl (lv_at hl 0 rfl) ?_
      refine kx_get (v := .ref (sh.2 67)) G L (en_FTX6_ok (11, 12, 0) (by decide)) fX.1 fX.2.2.1 dk_X6_area_62 ?_
      refine lv_iload_n hx hb dk_X6_area_65 rfl (lv_at hl 1 rfl) ?_
      refine lv_topi (fun y4 ey4 => ?_)
      obtain rfl : y4 = (nI h) := ey4.trans (ea)
      refine kx_aald G L hw67 ht3 hh (by decide) (hf67 h hh) dk_X6_area_66 ?_
      obtain ⟨p9, c9, t9, hob⟩ := hX.2.2.1 h hh
      refine kx_get (v := .int (ar h)) G L (en_FTX6_ok (105, 9, 5) (by decide)) hob rfl dk_X6_area_67 ?_
      refine lv_bipush (v := 12) hx hb dk_X6_area_70 (by decide) ?_
      have k6 : (12 : Int32).toInt = 12 := by decide
      refine lv_icmp_lt (tgt := 85) hx hb dk_X6_area_72 (by decide) (fun c5 => ?_) (fun c5 => ?_)
      · skip
        have tc5 : ((ar h) : Int32).toInt < (12 : Int32).toInt := Int32.lt_iff_toInt_lt.mp c5
        have har : (ar h).toInt < 12 := by omega
        refine lv_aload_n hx hb dk_X6_area_85 rfl (lv_at hl 0 rfl) ?_
        refine kx_get (v := .ref (sh.2 67)) G L (en_FTX6_ok (11, 12, 0) (by decide)) fX.1 fX.2.2.1 dk_X6_area_86 ?_
        refine lv_iload_n hx hb dk_X6_area_89 rfl (lv_at hl 1 rfl) ?_
        refine lv_topi (fun y7 ey7 => ?_)
        obtain rfl : y7 = (nI h) := ey7.trans (ea)
        refine kx_aald G L hw67 ht3 hh (by decide) (hf67 h hh) dk_X6_area_90 ?_
        obtain ⟨g1, g2, g3, g4, g5⟩ := id hgood
        obtain ⟨u1, u2, u3, u4⟩ := id g2
        obtain ⟨v1, v2, v3, v4⟩ := id g3
        have ea3 : a3 = nI a3.toInt.toNat := kx_cN u1
        have ea4 : a4 = nI a4.toInt.toNat := kx_cN u3
        have ea5 : a5 = nI a5.toInt.toNat := kx_cN v1
        have ea6 : a6 = nI a6.toInt.toNat := kx_cN v3
        refine lv_iload_n hx hb dk_X6_area_91 rfl (lv_at hl 2 rfl) ?_
        refine lv_iload_n hx hb dk_X6_area_92 rfl (lv_at hl 3 rfl) ?_
        refine lv_iload hx hb dk_X6_area_93 (lv_at hl 4 rfl) ?_
        refine lv_iload hx hb dk_X6_area_95 (lv_at hl 5 rfl) ?_
        refine lv_iload hx hb dk_X6_area_97 (lv_at hl 6 rfl) ?_
        have hM := kx_X3_paint (kk := a2) (lx := a3.toInt.toNat) (lo := a4.toInt.toNat) (r := a5.toInt.toNat) (hi := a6.toInt.toNat) hl9 D (kx_D1 L) hX hh (by omega) (by omega) (by omega) (by omega) hk1 hk2
        rw [← ea3, ← ea4, ← ea5, ← ea6] at hM
        refine kx_cV (As := [.int a2, .int a3, .int a4, .int a5, .int a6]) (rest := []) (q := 68 + 2 * h) (ci := 9) G L hM gc_RX6_110v hob rfl rfl rfl (hml.trans hl.1.symm) ⟨Nat.le_of_ble_eq_true rfl, Nat.le_of_ble_eq_true rfl⟩ ⟨Nat.le_of_ble_eq_true rfl, Nat.le_of_ble_eq_true rfl⟩ (Nat.le_of_ble_eq_true rfl) dk_X6_area_99 (fun _ _ _ _ _ h9 => h9.elim) (fun res w8 H locs hrv hq8 L => ?_)
        obtain rfl := (show res = none from hrv)
        obtain ⟨cX, g, p8, c8, t8, ht1, hrow, harr, hg, hlen, hoth⟩ := hq8
        have hX9 := kx_X.area hX hh ht1 hrow harr hg hoth
        have fX9 := hX9.1
        refine lv_aload_n hx hb dk_X6_area_102 rfl (lv_at hl 0 rfl) ?_
        refine kx_get (v := .ref (sh.2 67)) G L (en_FTX6_ok (11, 12, 0) (by decide)) fX9.1 fX9.2.2.1 dk_X6_area_103 ?_
        refine lv_iload_n hx hb dk_X6_area_106 rfl (lv_at hl 1 rfl) ?_
        refine lv_topi (fun y9 ey9 => ?_)
        obtain rfl : y9 = (nI h) := ey9.trans (ea)
        refine kx_aald G L ((hoth 67 (by omega) (by omega)).trans hw67) ht3 hh (by decide) (hf67 h hh) dk_X6_area_107 ?_
        refine kx_get (v := .int (ar h + 1)) G L (en_FTX6_ok (105, 9, 5) (by decide)) hrow rfl dk_X6_area_108 ?_
        exact vx_ret (W.widen (Nat.le_of_ble_eq_true rfl) (Nat.le_of_ble_eq_true rfl) (W.iret (v := (ar h + 1)) hx hb hr (fun T9 hT9 _ => ⟨⟨(ar h + 1), w8, rfl, ⟨by rw [← eh], hin, hgood, ⟨hbg, by rw [← eh]; exact har⟩, by rw [← eh]; exact hX9, hlen, by rw [← eh]; exact hoth⟩, by rw [hT9]; exact L.1, L.2.1⟩, L.2.2.F hT9⟩) L.2.2.2.2 dk_X6_area_111 hlocks))
      · skip
        have tc5 : ¬ ((ar h) : Int32).toInt < (12 : Int32).toInt := fun h => c5 (Int32.lt_iff_toInt_lt.mpr h)
        exact kx_thr (en_tx1 hl9) G L (List.mem_of_getElem? (i := tf_ix 108) rfl) (hl.1.trans hml.symm) dk_X6_area_75 dk_X6_area_78 (Or.inl ⟨dk_X6_area_79, dk_X6_area_81, dk_X6_area_84⟩) hne (Nat.le_of_ble_eq_true rfl) (Nat.le_of_ble_eq_true rfl) (Nat.le_of_ble_eq_true rfl) (Nat.le_of_ble_eq_true rfl) hlocks (Or.inr (Or.inr ⟨rfl, hin, hgood, fun h9 => by obtain ⟨h1, h2⟩ := h9; rw [← eh] at h2; omega⟩)) (Nat.le_of_ble_eq_true rfl) (Nat.le_of_ble_eq_true rfl)
  refine lv_iload_n hx hb dk_X6_area_5 rfl (lv_at hl 2 rfl) ?_
  refine kx_cS (As := [.int a2]) (rest := []) G L (kx_X6_isKind hl9 D (kx_D1 L)) gc_RX6_99s rfl (hml.trans hl.1.symm) ⟨Nat.le_of_ble_eq_true rfl, Nat.le_of_ble_eq_true rfl⟩ ⟨Nat.le_of_ble_eq_true rfl, Nat.le_of_ble_eq_true rfl⟩ (Nat.le_of_ble_eq_true rfl) dk_X6_area_6 (fun _ _ _ _ _ h9 => h9.elim) (fun res w10 H locs hrv hq10 L => ?_)
  obtain ⟨ew10, hq10⟩ := hq10
  have ew10 := ew10.symm
  subst ew10
  rcases hq10 with ⟨rfl, cK⟩ | ⟨rfl, cK⟩
  · skip
    refine lv_if_eq (tgt := 44) hx hb dk_X6_area_9 (by decide) (fun c9 => absurd c9 (by decide)) (fun _ => ?_)
    refine lv_iload_n hx hb dk_X6_area_12 rfl (lv_at hl 3 rfl) ?_
    refine lv_iload hx hb dk_X6_area_13 (lv_at hl 4 rfl) ?_
    refine kx_cS (As := [.int a3, .int a4]) (rest := []) G L (kx_X6_isCell hl9 D (kx_D1 L)) gc_RX6_45s rfl (hml.trans hl.1.symm) ⟨Nat.le_of_ble_eq_true rfl, Nat.le_of_ble_eq_true rfl⟩ ⟨Nat.le_of_ble_eq_true rfl, Nat.le_of_ble_eq_true rfl⟩ (Nat.le_of_ble_eq_true rfl) dk_X6_area_15 (fun _ _ _ _ _ h9 => h9.elim) (fun res w11 H locs hrv hq11 L => ?_)
    obtain ⟨ew11, hq11⟩ := hq11
    have ew11 := ew11.symm
    subst ew11
    rcases hq11 with ⟨rfl, cA⟩ | ⟨rfl, cA⟩
    · skip
      refine lv_if_eq (tgt := 44) hx hb dk_X6_area_18 (by decide) (fun c9 => absurd c9 (by decide)) (fun _ => ?_)
      refine lv_iload hx hb dk_X6_area_21 (lv_at hl 5 rfl) ?_
      refine lv_iload hx hb dk_X6_area_23 (lv_at hl 6 rfl) ?_
      refine kx_cS (As := [.int a5, .int a6]) (rest := []) G L (kx_X6_isCell hl9 D (kx_D1 L)) gc_RX6_45s rfl (hml.trans hl.1.symm) ⟨Nat.le_of_ble_eq_true rfl, Nat.le_of_ble_eq_true rfl⟩ ⟨Nat.le_of_ble_eq_true rfl, Nat.le_of_ble_eq_true rfl⟩ (Nat.le_of_ble_eq_true rfl) dk_X6_area_25 (fun _ _ _ _ _ h9 => h9.elim) (fun res w12 H locs hrv hq12 L => ?_)
      obtain ⟨ew12, hq12⟩ := hq12
      have ew12 := ew12.symm
      subst ew12
      rcases hq12 with ⟨rfl, cB⟩ | ⟨rfl, cB⟩
      · skip
        refine lv_if_eq (tgt := 44) hx hb dk_X6_area_28 (by decide) (fun c9 => absurd c9 (by decide)) (fun _ => ?_)
        refine lv_iload hx hb dk_X6_area_31 (lv_at hl 5 rfl) ?_
        refine lv_iload_n hx hb dk_X6_area_33 rfl (lv_at hl 3 rfl) ?_
        refine lv_icmp_lt (tgt := 44) hx hb dk_X6_area_34 (by decide) (fun c13 => ?_) (fun c13 => ?_)
        · skip
          have tc13 : (a5 : Int32).toInt < (a3 : Int32).toInt := Int32.lt_iff_toInt_lt.mp c13
          exact kx_thr (en_tx0 hl9) G L (List.mem_of_getElem? (i := tf_ix 103) rfl) (hl.1.trans hml.symm) dk_X6_area_44 dk_X6_area_47 (Or.inl ⟨dk_X6_area_48, dk_X6_area_50, dk_X6_area_53⟩) hne (Nat.le_of_ble_eq_true rfl) (Nat.le_of_ble_eq_true rfl) (Nat.le_of_ble_eq_true rfl) (Nat.le_of_ble_eq_true rfl) hlocks (Or.inr (Or.inl ⟨rfl, hin, fun h9 => by obtain ⟨h1, h2, h3, h4, h5⟩ := h9; omega⟩)) (Nat.le_of_ble_eq_true rfl) (Nat.le_of_ble_eq_true rfl)
        · skip
          have tc13 : ¬ (a5 : Int32).toInt < (a3 : Int32).toInt := fun h => c13 (Int32.lt_iff_toInt_lt.mpr h)
          refine lv_iload hx hb dk_X6_area_37 (lv_at hl 6 rfl) ?_
          refine lv_iload hx hb dk_X6_area_39 (lv_at hl 4 rfl) ?_
          refine lv_icmp_ge (tgt := 54) hx hb dk_X6_area_41 (by decide) (fun c14 => ?_) (fun c14 => ?_)
          · skip
            have tc14 : (a4 : Int32).toInt ≤ (a6 : Int32).toInt := Int32.le_iff_toInt_le.mp c14
            exact S54 _ _ L ⟨cK, cA, cB, by omega, by omega⟩ ls (lv_sub hl [0, 1, 2, 3, 4, 5, 6] rfl)
          · skip
            have tc14 : ¬ (a4 : Int32).toInt ≤ (a6 : Int32).toInt := fun h => c14 (Int32.le_iff_toInt_le.mpr h)
            exact kx_thr (en_tx0 hl9) G L (List.mem_of_getElem? (i := tf_ix 103) rfl) (hl.1.trans hml.symm) dk_X6_area_44 dk_X6_area_47 (Or.inl ⟨dk_X6_area_48, dk_X6_area_50, dk_X6_area_53⟩) hne (Nat.le_of_ble_eq_true rfl) (Nat.le_of_ble_eq_true rfl) (Nat.le_of_ble_eq_true rfl) (Nat.le_of_ble_eq_true rfl) hlocks (Or.inr (Or.inl ⟨rfl, hin, fun h9 => by obtain ⟨h1, h2, h3, h4, h5⟩ := h9; omega⟩)) (Nat.le_of_ble_eq_true rfl) (Nat.le_of_ble_eq_true rfl)
      · skip
        refine lv_if_eq (tgt := 44) hx hb dk_X6_area_28 (by decide) (fun _ => ?_) (fun c9 => absurd (by decide) c9)
        exact kx_thr (en_tx0 hl9) G L (List.mem_of_getElem? (i := tf_ix 103) rfl) (hl.1.trans hml.symm) dk_X6_area_44 dk_X6_area_47 (Or.inl ⟨dk_X6_area_48, dk_X6_area_50, dk_X6_area_53⟩) hne (Nat.le_of_ble_eq_true rfl) (Nat.le_of_ble_eq_true rfl) (Nat.le_of_ble_eq_true rfl) (Nat.le_of_ble_eq_true rfl) hlocks (Or.inr (Or.inl ⟨rfl, hin, fun h9 => by obtain ⟨h1, h2, h3, h4, h5⟩ := h9; exact cB h3⟩)) (Nat.le_of_ble_eq_true rfl) (Nat.le_of_ble_eq_true rfl)
    · skip
      refine lv_if_eq (tgt := 44) hx hb dk_X6_area_18 (by decide) (fun _ => ?_) (fun c9 => absurd (by decide) c9)
      exact kx_thr (en_tx0 hl9) G L (List.mem_of_getElem? (i := tf_ix 103) rfl) (hl.1.trans hml.symm) dk_X6_area_44 dk_X6_area_47 (Or.inl ⟨dk_X6_area_48, dk_X6_area_50, dk_X6_area_53⟩) hne (Nat.le_of_ble_eq_true rfl) (Nat.le_of_ble_eq_true rfl) (Nat.le_of_ble_eq_true rfl) (Nat.le_of_ble_eq_true rfl) hlocks (Or.inr (Or.inl ⟨rfl, hin, fun h9 => by obtain ⟨h1, h2, h3, h4, h5⟩ := h9; exact cA h2⟩)) (Nat.le_of_ble_eq_true rfl) (Nat.le_of_ble_eq_true rfl)
  · skip
    refine lv_if_eq (tgt := 44) hx hb dk_X6_area_9 (by decide) (fun _ => ?_) (fun c9 => absurd (by decide) c9)
    exact kx_thr (en_tx0 hl9) G L (List.mem_of_getElem? (i := tf_ix 103) rfl) (hl.1.trans hml.symm) dk_X6_area_44 dk_X6_area_47 (Or.inl ⟨dk_X6_area_48, dk_X6_area_50, dk_X6_area_53⟩) hne (Nat.le_of_ble_eq_true rfl) (Nat.le_of_ble_eq_true rfl) (Nat.le_of_ble_eq_true rfl) (Nat.le_of_ble_eq_true rfl) hlocks (Or.inr (Or.inl ⟨rfl, hin, fun h9 => by obtain ⟨h1, h2, h3, h4, h5⟩ := h9; exact cK h1⟩)) (Nat.le_of_ble_eq_true rfl) (Nat.le_of_ble_eq_true rfl)
