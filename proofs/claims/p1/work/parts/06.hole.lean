set_option maxRecDepth 20000 in
theorem ggX6_hole_X6_isCell : GoodIn wsX6_hole wsX6_isCell := goodIn_r _ [17] (by decide +kernel) (by decide +kernel)
set_option maxRecDepth 20000 in
theorem gX6_hole_X6_isCell : GoodIn wsX6_hole (va_wsS RX6 45 yX6_isCell wsX6_isCell) := goodIn_app (goodIn_of _ (by decide +kernel)) ggX6_hole_X6_isCell
set_option maxRecDepth 20000 in
theorem ggX6_hole_X6_hasIndex : GoodIn wsX6_hole wsX6_hasIndex := goodIn_r _ [21, 8, 9, 11, 25, 26, 27, 28, 29, 30, 31, 32, 33, 34, 35, 36, 37, 38, 39, 40, 41, 42, 43, 44] (by decide +kernel) (by decide +kernel)
set_option maxRecDepth 20000 in
theorem gX6_hole_X6_hasIndex : GoodIn wsX6_hole (wsV RX6 70 RX6 yX6_hasIndex wsX6_hasIndex) := goodIn_app (goodIn_of _ (by decide +kernel)) ggX6_hole_X6_hasIndex
set_option maxRecDepth 20000 in
theorem ggX6_hole_X6_cellAt : GoodIn wsX6_hole wsX6_cellAt := goodIn_r _ [24] (by decide +kernel) (by decide +kernel)
set_option maxRecDepth 20000 in
theorem gX6_hole_X6_cellAt : GoodIn wsX6_hole (va_wsS RX6 85 yX6_cellAt wsX6_cellAt) := goodIn_app (goodIn_of _ (by decide +kernel)) ggX6_hole_X6_cellAt
theorem dX6_hole_0 : decode cX6_hole 0 = .ok (.iload_n 1, 1) := by decide +kernel
theorem dX6_hole_1 : decode cX6_hole 1 = .ok (.iconst 3, 1) := by decide +kernel
theorem dX6_hole_2 : decode cX6_hole 2 = .ok (.if_icmp .lt 38, 3) := by decide +kernel
theorem dX6_hole_5 : decode cX6_hole 5 = .ok (.iload_n 1, 1) := by decide +kernel
theorem dX6_hole_6 : decode cX6_hole 6 = .ok (.iconst 5, 1) := by decide +kernel
theorem dX6_hole_7 : decode cX6_hole 7 = .ok (.if_icmp .gt 33, 3) := by decide +kernel
theorem dX6_hole_10 : decode cX6_hole 10 = .ok (.iload_n 2, 1) := by decide +kernel
theorem dX6_hole_11 : decode cX6_hole 11 = .ok (.iconst 1, 1) := by decide +kernel
theorem dX6_hole_12 : decode cX6_hole 12 = .ok (.if_icmp .lt 28, 3) := by decide +kernel
theorem dX6_hole_15 : decode cX6_hole 15 = .ok (.iload_n 2, 1) := by decide +kernel
theorem dX6_hole_16 : decode cX6_hole 16 = .ok (.bipush 9, 2) := by decide +kernel
theorem dX6_hole_18 : decode cX6_hole 18 = .ok (.if_icmp .gt 22, 3) := by decide +kernel
theorem dX6_hole_21 : decode cX6_hole 21 = .ok (.iload_n 3, 1) := by decide +kernel
theorem dX6_hole_22 : decode cX6_hole 22 = .ok (.iload 4, 2) := by decide +kernel
theorem dX6_hole_24 : decode cX6_hole 24 = .ok (.invokestatic 45, 3) := by decide +kernel
theorem dX6_hole_27 : decode cX6_hole 27 = .ok (.ifCond .eq 13, 3) := by decide +kernel
theorem dX6_hole_30 : decode cX6_hole 30 = .ok (.iload 5, 2) := by decide +kernel
theorem dX6_hole_32 : decode cX6_hole 32 = .ok (.iload 6, 2) := by decide +kernel
theorem dX6_hole_34 : decode cX6_hole 34 = .ok (.invokestatic 45, 3) := by decide +kernel
theorem dX6_hole_37 : decode cX6_hole 37 = .ok (.ifCond .ne 13, 3) := by decide +kernel
theorem dX6_hole_40 : decode cX6_hole 40 = .ok (.new 49, 3) := by decide +kernel
theorem dX6_hole_43 : decode cX6_hole 43 = .ok (.dup, 1) := by decide +kernel
theorem dX6_hole_44 : decode cX6_hole 44 = .ok (.ldc 51, 2) := by decide +kernel
theorem dX6_hole_46 : decode cX6_hole 46 = .ok (.invokespecial 53, 3) := by decide +kernel
theorem dX6_hole_49 : decode cX6_hole 49 = .ok (.athrow, 1) := by decide +kernel
theorem dX6_hole_50 : decode cX6_hole 50 = .ok (.iload_n 3, 1) := by decide +kernel
theorem dX6_hole_51 : decode cX6_hole 51 = .ok (.iload 5, 2) := by decide +kernel
theorem dX6_hole_53 : decode cX6_hole 53 = .ok (.if_icmp .ne 20, 3) := by decide +kernel
theorem dX6_hole_56 : decode cX6_hole 56 = .ok (.iload 4, 2) := by decide +kernel
theorem dX6_hole_58 : decode cX6_hole 58 = .ok (.iload 6, 2) := by decide +kernel
theorem dX6_hole_60 : decode cX6_hole 60 = .ok (.if_icmp .ne 13, 3) := by decide +kernel
theorem dX6_hole_63 : decode cX6_hole 63 = .ok (.new 49, 3) := by decide +kernel
theorem dX6_hole_66 : decode cX6_hole 66 = .ok (.dup, 1) := by decide +kernel
theorem dX6_hole_67 : decode cX6_hole 67 = .ok (.ldc 56, 2) := by decide +kernel
theorem dX6_hole_69 : decode cX6_hole 69 = .ok (.invokespecial 53, 3) := by decide +kernel
theorem dX6_hole_72 : decode cX6_hole 72 = .ok (.athrow, 1) := by decide +kernel
theorem dX6_hole_73 : decode cX6_hole 73 = .ok (.aload_n 0, 1) := by decide +kernel
theorem dX6_hole_74 : decode cX6_hole 74 = .ok (.getfield 58, 3) := by decide +kernel
theorem dX6_hole_77 : decode cX6_hole 77 = .ok (.ifCond .ne 12, 3) := by decide +kernel
theorem dX6_hole_80 : decode cX6_hole 80 = .ok (.aload_n 0, 1) := by decide +kernel
theorem dX6_hole_81 : decode cX6_hole 81 = .ok (.getfield 62, 3) := by decide +kernel
theorem dX6_hole_84 : decode cX6_hole 84 = .ok (.bipush 9, 2) := by decide +kernel
theorem dX6_hole_86 : decode cX6_hole 86 = .ok (.if_icmp .lt 13, 3) := by decide +kernel
theorem dX6_hole_99 : decode cX6_hole 99 = .ok (.aload_n 0, 1) := by decide +kernel
theorem dX6_hole_100 : decode cX6_hole 100 = .ok (.iload_n 2, 1) := by decide +kernel
theorem dX6_hole_101 : decode cX6_hole 101 = .ok (.invokevirtual 70, 3) := by decide +kernel
theorem dX6_hole_104 : decode cX6_hole 104 = .ok (.ifCond .eq 13, 3) := by decide +kernel
theorem dX6_hole_117 : decode cX6_hole 117 = .ok (.aload_n 0, 1) := by decide +kernel
theorem dX6_hole_118 : decode cX6_hole 118 = .ok (.getfield 11, 3) := by decide +kernel
theorem dX6_hole_121 : decode cX6_hole 121 = .ok (.aload_n 0, 1) := by decide +kernel
theorem dX6_hole_122 : decode cX6_hole 122 = .ok (.getfield 62, 3) := by decide +kernel
theorem dX6_hole_125 : decode cX6_hole 125 = .ok (.aaload, 1) := by decide +kernel
theorem dX6_hole_126 : decode cX6_hole 126 = .ok (.astore 7, 2) := by decide +kernel
theorem dX6_hole_128 : decode cX6_hole 128 = .ok (.aload 7, 2) := by decide +kernel
theorem dX6_hole_130 : decode cX6_hole 130 = .ok (.iload_n 1, 1) := by decide +kernel
theorem dX6_hole_131 : decode cX6_hole 131 = .ok (.putfield 79, 3) := by decide +kernel
theorem dX6_hole_134 : decode cX6_hole 134 = .ok (.aload 7, 2) := by decide +kernel
theorem dX6_hole_136 : decode cX6_hole 136 = .ok (.iload_n 2, 1) := by decide +kernel
theorem dX6_hole_137 : decode cX6_hole 137 = .ok (.putfield 82, 3) := by decide +kernel
theorem dX6_hole_140 : decode cX6_hole 140 = .ok (.aload 7, 2) := by decide +kernel
theorem dX6_hole_142 : decode cX6_hole 142 = .ok (.iload_n 3, 1) := by decide +kernel
theorem dX6_hole_143 : decode cX6_hole 143 = .ok (.iload 4, 2) := by decide +kernel
theorem dX6_hole_145 : decode cX6_hole 145 = .ok (.invokestatic 85, 3) := by decide +kernel
theorem dX6_hole_148 : decode cX6_hole 148 = .ok (.putfield 89, 3) := by decide +kernel
theorem dX6_hole_151 : decode cX6_hole 151 = .ok (.aload 7, 2) := by decide +kernel
theorem dX6_hole_153 : decode cX6_hole 153 = .ok (.iload 5, 2) := by decide +kernel
theorem dX6_hole_155 : decode cX6_hole 155 = .ok (.iload 6, 2) := by decide +kernel
theorem dX6_hole_157 : decode cX6_hole 157 = .ok (.invokestatic 85, 3) := by decide +kernel
theorem dX6_hole_160 : decode cX6_hole 160 = .ok (.putfield 92, 3) := by decide +kernel
theorem dX6_hole_163 : decode cX6_hole 163 = .ok (.aload_n 0, 1) := by decide +kernel
theorem dX6_hole_164 : decode cX6_hole 164 = .ok (.dup, 1) := by decide +kernel
theorem dX6_hole_165 : decode cX6_hole 165 = .ok (.getfield 62, 3) := by decide +kernel
theorem dX6_hole_168 : decode cX6_hole 168 = .ok (.iconst 1, 1) := by decide +kernel
theorem dX6_hole_169 : decode cX6_hole 169 = .ok (.iadd, 1) := by decide +kernel
theorem dX6_hole_170 : decode cX6_hole 170 = .ok (.putfield 62, 3) := by decide +kernel
theorem dX6_hole_173 : decode cX6_hole 173 = .ok (.aload_n 0, 1) := by decide +kernel
theorem dX6_hole_174 : decode cX6_hole 174 = .ok (.getfield 62, 3) := by decide +kernel
theorem dX6_hole_177 : decode cX6_hole 177 = .ok (.iconst 1, 1) := by decide +kernel
theorem dX6_hole_178 : decode cX6_hole 178 = .ok (.isub, 1) := by decide +kernel
theorem dX6_hole_179 : decode cX6_hole 179 = .ok (.ireturn, 1) := by decide +kernel
/-- a fresh object at h0 with its first hole h1 -/
abbrev WH6 (h0 : Nat) (r : Nat → Nat) (h1 kq : Nat) (cH : ClassId) (fH : Nat → Option Nat) : va_W := [(h0, .inr (12, [.ref (r 0), .ref (r 1), .ref (r 2), .ref (r 3), .int 0, .int 0, .int 1, .int 110, .int 0, .int 115, .int 0, .int 0, .int 0, .int 0])), (r 0, .inl (cH, 9, .inr (.inr (.inr (.inr fH))))), (h1, .inr (9, [.ref kq, .int 0, .int 0, .int 0, .int 0, .int 0]))]
def PH6 (D : va_G) (h0 : Nat) (r : Nat → Nat) (h1 kq : Nat) (cH : ClassId) (fH : Nat → Option Nat) (sz : Nat) : State → Prop := fun U => U.heap.size = sz ∧ va_P D vwCl (WH6 h0 r h1 kq cH fH) U.heap ∧ va_K D vwCl [(cH, .object "FairwayChancery$Hole")] U ∧ va_D (fun _ => True) (WH6 h0 r h1 kq cH fH) ∧ tf (va_A (WH6 h0 r h1 kq cH fH) sz) U U.heap
theorem PH6.blind {D : va_G} {h0 : Nat} {r : Nat → Nat} {h1 kq : Nat} {cH : ClassId} {fH : Nat → Option Nat} {sz : Nat} {U : State} {g : JFrame} {mk : MethodId} {a : Array Value} (h : PH6 D h0 r h1 kq cH fH sz U) : PH6 D h0 r h1 kq cH fH sz (U.calling g mk a) := ⟨h.1, h.2.1, va_K.moved (u := U) (U := U.calling g mk a) (Vm.Alike.refl U.vm) h.2.2.1, h.2.2.2.1, h.2.2.2.2.blind⟩
theorem hasIndex_pre {D : va_G} {h0 : Nat} {r : Nat → Nat} {s U : State} {H : Heap} {locs : List Loc} {A : Nat → Prop} {ws : va_W} {tys : List (ClassId × FieldType)} (hP : va_P D vwCl ws H) (h0e : ws[0]? = some (h0, .inr (12, FX6 r))) (hK : va_K D vwCl tys s) (hT : tf A s s.heap) (hS : va_S A s.heap H locs) (hA : ∀ q, s.heap.size ≤ q → A q) (hU : U.heap = H) (hW : s.WarmedH U.vm) : PX6 D h0 r H.size U := PX6.go (fun k x hx => by
  cases k with
  | zero => cases hx; exact hP 0 _ h0e
  | succ k => simp at hx) (hK.sub (tys' := []) [] rfl) hT hS hA hU hW
set_option maxHeartbeats 4000000 in
set_option maxRecDepth 100000 in
theorem c_X6_hole (l : Launch) (hlT : l.stackTraces = false) (D : va_G) (h0 : Nat) (r : Nat → Nat) (h1 kq : Nat) (cH : ClassId) (fH : Nat → Option Nat) (hf : fH 0 = some h1) (sz : Nat) (a1 a2 a3 a4 a5 a6 : Int32) : vx_Met l yX6_hole wsX6_hole ({ frames := 30, cells := 1, slots := 6, locals := 300 }) (va_Pc [.ref h0, .int a1, .int a2, .int a3, .int a4, .int a5, .int a6] (PH6 D h0 r h1 kq cH fH sz)) (va_Qi (fun (r9 : Int32) (_ : Unit) => r9 = 0 ∧ okHole a1 a2 a3 a4 a5 a6) (fun _ _ => True) (va_A (WH6 h0 r h1 kq cH fH) sz)) (tX (fun E => E = "java/lang/IllegalArgumentException" ∧ ¬ okHole a1 a2 a3 a4 a5 a6) (va_A (WH6 h0 r h1 kq cH fH) sz)) 1 6 (va_A (WH6 h0 r h1 kq cH fH) sz) := by
  refine vx_ofW (cc := cX6_hole) (maxL := 8) (ret := (some .int)) (by decide +kernel) rfl ?_
  intro p e s m args below meth c s₁ B hml hne hv
  obtain ⟨rfl, hsz, hP, hK, hD0, hT⟩ := hv
  have hx := B.exec
  have hb := B.bytes
  have hr := B.returns
  have hts := atoms_spec (ws := wsX6_hole) B.pre
  have hown : s.vm.findClass RX6 = some m.cls := findClass_of_methodNamed B.named
  have hlocks := B.notSynchronized
  subst hsz
  have hD := hD0.self (sz := s.heap.size)
  generalize hAe : va_A (WH6 h0 r h1 kq cH fH) s.heap.size = A at hD hT ⊢
  have hA : ∀ q : Nat, s.heap.size ≤ q → A q := fun q h => by rw [← hAe]; exact Or.inr h
  have hS : va_S A s.heap s.heap [] := va_S.rf
  have hP : va_P D vwCl [(h0, .inr (12, [.ref (r 0), .ref (r 1), .ref (r 2), .ref (r 3), .int 0, .int 0, .int 1, .int 110, .int 0, .int 115, .int 0, .int 0, .int 0, .int 0])), (r 0, .inl (cH, 9, .inr (.inr (.inr (.inr fH))))), (h1, .inr (9, [.ref kq, .int 0, .int 0, .int 0, .int 0, .int 0]))] s.heap := hP
  have hD : va_D A [(h0, .inr (12, [.ref (r 0), .ref (r 1), .ref (r 2), .ref (r 3), .int 0, .int 0, .int 1, .int 110, .int 0, .int 115, .int 0, .int 0, .int 0, .int 0])), (r 0, .inl (cH, 9, .inr (.inr (.inr (.inr fH))))), (h1, .inr (9, [.ref kq, .int 0, .int 0, .int 0, .int 0, .int 0]))] := hD
  have hl := lv_entry ([.ref h0, .int a1, .int a2, .int a3, .int a4, .int a5, .int a6]) (n := 8) (Nat.le_of_ble_eq_true rfl)
  rw [lg_entry_eq]
  generalize (lg_sl ([.ref h0, .int a1, .int a2, .int a3, .int a4, .int a5, .int a6]) ++ List.replicate (8 - (lg_sl ([.ref h0, .int a1, .int a2, .int a3, .int a4, .int a5, .int a6])).length) Slot.unset).toArray = ls at hl ⊢
  have hl : lv_has ls 8 [(0, .ref h0), (1, .int a1), (2, .int a2), (3, .int a3), (4, .int a4), (5, .int a5), (6, .int a6)] := hl
  refine lv_iload_n hx hb dX6_hole_0 rfl (lv_at hl 1 rfl) ?_
  refine lv_iconst (v := 3) hx hb dX6_hole_1 (by decide) ?_
  refine lv_icmp_lt (tgt := 40) hx hb dX6_hole_2 (by decide) (fun c_1 => ?_) (fun c_1 => ?_)
  · skip
    exact tx_throw (cls := "java/lang/IllegalArgumentException") (text := "a number is out of range") ⟨rfl, fun q => by have h := c_1; obtain ⟨q1, q2, q3, q4, -⟩ := q; simp only [Int32.lt_iff_toInt_lt, Int32.le_iff_toInt_le, bIn_0, bCell_0, tI_0, tI_1, tI_3, tI_5, tI_6, tI_9, tI_19, tI_20, tI_29, tI_30, tI_36, tI_m1] at h; omega⟩ hx hb hlT hown (by decide +kernel) (by decide +kernel) (hts (.classLink RX6 49 "java/lang/IllegalArgumentException") (by decide +kernel)) (hts (.initialized "java/lang/IllegalArgumentException") (by decide +kernel)) (fun w hw => hts w (List.mem_cons_of_mem _ (List.mem_append_left _ (List.mem_append_left _ (List.mem_append_right _ hw))))) hT hS (fun q h => h) (by rw [hml]; exact hl.1) dX6_hole_40 dX6_hole_43 dX6_hole_44 dX6_hole_46 dX6_hole_49 hne (Nat.le_of_ble_eq_true rfl) (Nat.le_of_ble_eq_true rfl) (Nat.le_of_ble_eq_true rfl) (Nat.le_of_ble_eq_true rfl) hlocks (by decide) (by decide)
  · skip
    refine lv_iload_n hx hb dX6_hole_5 rfl (lv_at hl 1 rfl) ?_
    refine lv_iconst (v := 5) hx hb dX6_hole_6 (by decide) ?_
    refine lv_icmp_gt (tgt := 40) hx hb dX6_hole_7 (by decide) (fun c_2 => ?_) (fun c_2 => ?_)
    · skip
      exact tx_throw (cls := "java/lang/IllegalArgumentException") (text := "a number is out of range") ⟨rfl, fun q => by have h := And.intro c_1 (c_2); obtain ⟨q1, q2, q3, q4, -⟩ := q; simp only [Int32.lt_iff_toInt_lt, Int32.le_iff_toInt_le, bIn_0, bCell_0, tI_0, tI_1, tI_3, tI_5, tI_6, tI_9, tI_19, tI_20, tI_29, tI_30, tI_36, tI_m1] at h; omega⟩ hx hb hlT hown (by decide +kernel) (by decide +kernel) (hts (.classLink RX6 49 "java/lang/IllegalArgumentException") (by decide +kernel)) (hts (.initialized "java/lang/IllegalArgumentException") (by decide +kernel)) (fun w hw => hts w (List.mem_cons_of_mem _ (List.mem_append_left _ (List.mem_append_left _ (List.mem_append_right _ hw))))) hT hS (fun q h => h) (by rw [hml]; exact hl.1) dX6_hole_40 dX6_hole_43 dX6_hole_44 dX6_hole_46 dX6_hole_49 hne (Nat.le_of_ble_eq_true rfl) (Nat.le_of_ble_eq_true rfl) (Nat.le_of_ble_eq_true rfl) (Nat.le_of_ble_eq_true rfl) hlocks (by decide) (by decide)
    · skip
      refine lv_iload_n hx hb dX6_hole_10 rfl (lv_at hl 2 rfl) ?_
      refine lv_iconst (v := 1) hx hb dX6_hole_11 (by decide) ?_
      refine lv_icmp_lt (tgt := 40) hx hb dX6_hole_12 (by decide) (fun c_3 => ?_) (fun c_3 => ?_)
      · skip
        exact tx_throw (cls := "java/lang/IllegalArgumentException") (text := "a number is out of range") ⟨rfl, fun q => by have h := And.intro c_1 (And.intro c_2 (c_3)); obtain ⟨q1, q2, q3, q4, -⟩ := q; simp only [Int32.lt_iff_toInt_lt, Int32.le_iff_toInt_le, bIn_0, bCell_0, tI_0, tI_1, tI_3, tI_5, tI_6, tI_9, tI_19, tI_20, tI_29, tI_30, tI_36, tI_m1] at h; omega⟩ hx hb hlT hown (by decide +kernel) (by decide +kernel) (hts (.classLink RX6 49 "java/lang/IllegalArgumentException") (by decide +kernel)) (hts (.initialized "java/lang/IllegalArgumentException") (by decide +kernel)) (fun w hw => hts w (List.mem_cons_of_mem _ (List.mem_append_left _ (List.mem_append_left _ (List.mem_append_right _ hw))))) hT hS (fun q h => h) (by rw [hml]; exact hl.1) dX6_hole_40 dX6_hole_43 dX6_hole_44 dX6_hole_46 dX6_hole_49 hne (Nat.le_of_ble_eq_true rfl) (Nat.le_of_ble_eq_true rfl) (Nat.le_of_ble_eq_true rfl) (Nat.le_of_ble_eq_true rfl) hlocks (by decide) (by decide)
      · skip
        refine lv_iload_n hx hb dX6_hole_15 rfl (lv_at hl 2 rfl) ?_
        refine lv_bipush (v := 9) hx hb dX6_hole_16 (by decide) ?_
        refine lv_icmp_gt (tgt := 40) hx hb dX6_hole_18 (by decide) (fun c_4 => ?_) (fun c_4 => ?_)
        · skip
          exact tx_throw (cls := "java/lang/IllegalArgumentException") (text := "a number is out of range") ⟨rfl, fun q => by have h := And.intro c_1 (And.intro c_2 (And.intro c_3 (c_4))); obtain ⟨q1, q2, q3, q4, -⟩ := q; simp only [Int32.lt_iff_toInt_lt, Int32.le_iff_toInt_le, bIn_0, bCell_0, tI_0, tI_1, tI_3, tI_5, tI_6, tI_9, tI_19, tI_20, tI_29, tI_30, tI_36, tI_m1] at h; omega⟩ hx hb hlT hown (by decide +kernel) (by decide +kernel) (hts (.classLink RX6 49 "java/lang/IllegalArgumentException") (by decide +kernel)) (hts (.initialized "java/lang/IllegalArgumentException") (by decide +kernel)) (fun w hw => hts w (List.mem_cons_of_mem _ (List.mem_append_left _ (List.mem_append_left _ (List.mem_append_right _ hw))))) hT hS (fun q h => h) (by rw [hml]; exact hl.1) dX6_hole_40 dX6_hole_43 dX6_hole_44 dX6_hole_46 dX6_hole_49 hne (Nat.le_of_ble_eq_true rfl) (Nat.le_of_ble_eq_true rfl) (Nat.le_of_ble_eq_true rfl) (Nat.le_of_ble_eq_true rfl) hlocks (by decide) (by decide)
        · skip
          refine lv_iload_n hx hb dX6_hole_21 rfl (lv_at hl 3 rfl) ?_
          refine lv_iload hx hb dX6_hole_22 (lv_at hl 4 rfl) ?_
          refine va_calli (va_runS (As := [.int a3, .int a4]) (rest := []) ⟨hx, hb, hml, hown, hts⟩ (c_X6_isCell l s.heap.size a3 a4) (va_cwS 2 hts gX6_hole_X6_isCell rfl rfl rfl (by decide +kernel) ⟨Nat.le_of_ble_eq_true rfl, Nat.le_of_ble_eq_true rfl⟩) ⟨fun a U g mk q => q, fun U hU hW => ⟨rfl, congrArg Array.size hU⟩⟩ rfl rfl hl.1 rfl (lv_room (Nat.le_of_ble_eq_true rfl)) dX6_hole_24 ⟨Nat.le_of_ble_eq_true rfl, Nat.le_of_ble_eq_true rfl⟩) hS (fun q h1 h2 => absurd h1 (Nat.not_lt.mpr h2)) (fun q h => hA q (Nat.le_trans hS.1 h)) (fun r5 u t H1 locs ht hvm hw hB hz1 hk1 hS => ?_)
          have hP := va_kept0 hP hk1
          generalize H1 = H at hP hS ⊢
          have hP : va_P D vwCl [(h0, .inr (12, [.ref (r 0), .ref (r 1), .ref (r 2), .ref (r 3), .int 0, .int 0, .int 1, .int 110, .int 0, .int 115, .int 0, .int 0, .int 0, .int 0])), (r 0, .inl (cH, 9, .inr (.inr (.inr (.inr fH))))), (h1, .inr (9, [.ref kq, .int 0, .int 0, .int 0, .int 0, .int 0]))] H := hP
          obtain rfl : r5 = bCell a3 a4 := hw
          refine lv_if_eq (tgt := 40) hx hb dX6_hole_27 (by decide) (fun c_6 => ?_) (fun c_6 => ?_)
          · skip
            exact tx_throw (cls := "java/lang/IllegalArgumentException") (text := "a number is out of range") ⟨rfl, fun q => by have h := And.intro c_1 (And.intro c_2 (And.intro c_3 (And.intro c_4 (c_6)))); obtain ⟨q1, q2, q3, q4, -⟩ := q; simp only [Int32.lt_iff_toInt_lt, Int32.le_iff_toInt_le, bIn_0, bCell_0, tI_0, tI_1, tI_3, tI_5, tI_6, tI_9, tI_19, tI_20, tI_29, tI_30, tI_36, tI_m1] at h; omega⟩ hx hb hlT hown (by decide +kernel) (by decide +kernel) (hts (.classLink RX6 49 "java/lang/IllegalArgumentException") (by decide +kernel)) (hts (.initialized "java/lang/IllegalArgumentException") (by decide +kernel)) (fun w hw => hts w (List.mem_cons_of_mem _ (List.mem_append_left _ (List.mem_append_left _ (List.mem_append_right _ hw))))) hT hS (fun q h => h) (by rw [hml]; exact hl.1) dX6_hole_40 dX6_hole_43 dX6_hole_44 dX6_hole_46 dX6_hole_49 hne (Nat.le_of_ble_eq_true rfl) (Nat.le_of_ble_eq_true rfl) (Nat.le_of_ble_eq_true rfl) (Nat.le_of_ble_eq_true rfl) hlocks (by decide) (by decide)
          · skip
            refine lv_iload hx hb dX6_hole_30 (lv_at hl 5 rfl) ?_
            refine lv_iload hx hb dX6_hole_32 (lv_at hl 6 rfl) ?_
            refine va_calli (va_runS (As := [.int a5, .int a6]) (rest := []) ⟨hx, hb, hml, hown, hts⟩ (c_X6_isCell l H.size a5 a6) (va_cwS 2 hts gX6_hole_X6_isCell rfl rfl rfl (by decide +kernel) ⟨Nat.le_of_ble_eq_true rfl, Nat.le_of_ble_eq_true rfl⟩) ⟨fun a U g mk q => q, fun U hU hW => ⟨rfl, congrArg Array.size hU⟩⟩ rfl rfl hl.1 rfl (lv_room (Nat.le_of_ble_eq_true rfl)) dX6_hole_34 ⟨Nat.le_of_ble_eq_true rfl, Nat.le_of_ble_eq_true rfl⟩) hS (fun q h1 h2 => absurd h1 (Nat.not_lt.mpr h2)) (fun q h => hA q (Nat.le_trans hS.1 h)) (fun r7 u t H1 locs ht hvm hw hB hz1 hk1 hS => ?_)
            have hP := va_kept0 hP hk1
            generalize H1 = H at hP hS ⊢
            have hP : va_P D vwCl [(h0, .inr (12, [.ref (r 0), .ref (r 1), .ref (r 2), .ref (r 3), .int 0, .int 0, .int 1, .int 110, .int 0, .int 115, .int 0, .int 0, .int 0, .int 0])), (r 0, .inl (cH, 9, .inr (.inr (.inr (.inr fH))))), (h1, .inr (9, [.ref kq, .int 0, .int 0, .int 0, .int 0, .int 0]))] H := hP
            obtain rfl : r7 = bCell a5 a6 := hw
            refine lv_if_ne (tgt := 50) hx hb dX6_hole_37 (by decide) (fun c_8 => ?_) (fun c_8 => ?_)
            · skip
              refine lv_iload_n hx hb dX6_hole_50 rfl (lv_at hl 3 rfl) ?_
              refine lv_iload hx hb dX6_hole_51 (lv_at hl 5 rfl) ?_
              refine lv_icmp_ne (tgt := 73) hx hb dX6_hole_53 (by decide) (fun c_9 => ?_) (fun c_9 => ?_)
              · skip
                refine lv_aload_n hx hb dX6_hole_73 rfl (lv_at hl 0 rfl) ?_
                refine va_get (D := D) (ci := 12) (v := .int 0) (C := RX6) (T := TX6) (N := 14) hx hb hts (by decide +kernel) hown hK hP 0 rfl rfl 10 (by decide) (hts (.fieldLink RX6 58 "FairwayChancery" "isBegun" "Z") (by decide +kernel)) (fun _ h9 => h9) rfl dX6_hole_74 ?_
                refine lv_if_ne (tgt := 89) hx hb dX6_hole_77 (by decide) (fun c => by first | exact absurd c (by decide) | exact absurd (by decide) c) (fun _ => ?_)
                refine lv_aload_n hx hb dX6_hole_80 rfl (lv_at hl 0 rfl) ?_
                refine va_get (D := D) (ci := 12) (v := .int 0) (C := RX6) (T := TX6) (N := 14) hx hb hts (by decide +kernel) hown hK hP 0 rfl rfl 4 (by decide) (hts (.fieldLink RX6 62 "FairwayChancery" "holeCount" "I") (by decide +kernel)) (fun _ h9 => h9) rfl dX6_hole_81 ?_
                refine lv_bipush (v := 9) hx hb dX6_hole_84 (by decide) ?_
                refine lv_icmp_lt (tgt := 99) hx hb dX6_hole_86 (by decide) (fun _ => ?_) (fun c => by first | exact absurd (by decide) c | exact absurd c (by decide))
                refine lv_aload_n hx hb dX6_hole_99 rfl (lv_at hl 0 rfl) ?_
                refine lv_iload_n hx hb dX6_hole_100 rfl (lv_at hl 2 rfl) ?_
                refine va_calli (va_runV (As := [.int a2]) (rest := []) ⟨hx, hb, hml, hown, hts⟩ (c_X6_hasIndex l D h0 r H.size a2) (cwV 1 hts gX6_hole_X6_hasIndex rfl rfl rfl (by decide +kernel) ⟨Nat.le_of_ble_eq_true rfl, Nat.le_of_ble_eq_true rfl⟩) ⟨fun a U g mk q => ⟨q.1, PX6.blind q.2⟩, va_recv hK hP (ci := 12) (q0 := 0) rfl rfl, fun U hU hW => ⟨rfl, hasIndex_pre hP rfl hK hT hS hA hU hW⟩⟩ rfl rfl hl.1 rfl (lv_room (Nat.le_of_ble_eq_true rfl)) dX6_hole_101 ⟨Nat.le_of_ble_eq_true rfl, Nat.le_of_ble_eq_true rfl⟩) hS (fun q h1 h2 => absurd h1 (Nat.not_lt.mpr h2)) (fun q h => hA q (Nat.le_trans hS.1 h)) (fun r12 u t H1 locs ht hvm hw hB hz1 hk1 hS => ?_)
                have hP := va_kept0 hP hk1
                generalize H1 = H at hP hS ⊢
                have hP : va_P D vwCl [(h0, .inr (12, [.ref (r 0), .ref (r 1), .ref (r 2), .ref (r 3), .int 0, .int 0, .int 1, .int 110, .int 0, .int 115, .int 0, .int 0, .int 0, .int 0])), (r 0, .inl (cH, 9, .inr (.inr (.inr (.inr fH))))), (h1, .inr (9, [.ref kq, .int 0, .int 0, .int 0, .int 0, .int 0]))] H := hP
                obtain rfl : r12 = 0 := hw
                refine lv_if_eq (tgt := 117) hx hb dX6_hole_104 (by decide) (fun _ => ?_) (fun c => by first | exact absurd (by decide) c | exact absurd c (by decide))
                refine lv_aload_n hx hb dX6_hole_117 rfl (lv_at hl 0 rfl) ?_
                refine va_get (D := D) (ci := 12) (v := .ref (r 0)) (C := RX6) (T := TX6) (N := 14) hx hb hts (by decide +kernel) hown hK hP 0 rfl rfl 0 (by decide) (hts (.fieldLink RX6 11 "FairwayChancery" "holes" "[LFairwayChancery$Hole;") (by decide +kernel)) (fun _ h9 => h9) rfl dX6_hole_118 ?_
                refine lv_aload_n hx hb dX6_hole_121 rfl (lv_at hl 0 rfl) ?_
                refine va_get (D := D) (ci := 12) (v := .int 0) (C := RX6) (T := TX6) (N := 14) hx hb hts (by decide +kernel) hown hK hP 0 rfl rfl 4 (by decide) (hts (.fieldLink RX6 62 "FairwayChancery" "holeCount" "I") (by decide +kernel)) (fun _ h9 => h9) rfl dX6_hole_122 ?_
                refine va_aldq hx hb hK hP 1 0 rfl rfl (vp_in_nI (n := 0) (by decide) (by decide)) dX6_hole_125 ?_
                have e0 : va_rf (fH (0 : Int32).toNatClampNeg) = .ref h1 := by rw [show (0 : Int32).toNatClampNeg = 0 from by decide, hf]; rfl
                rw [e0]
                refine lv_astore (lv' := [(7, .ref h1), (0, .ref h0), (1, .int a1), (2, .int a2), (3, .int a3), (4, .int a4), (5, .int a5), (6, .int a6)]) hx hb dX6_hole_126 hl (by decide) rfl (fun ls hl => ?_)
                refine lv_aload hx hb dX6_hole_128 (lv_at hl 0 rfl) ?_
                refine lv_iload_n hx hb dX6_hole_130 rfl (lv_at hl 2 rfl) ?_
                refine va_put (D := D) (ci := 9) (v := .int a1) (ty := .int) (C := RX3) (T := TX3) (N := 6) hx hb hts (by decide +kernel) tyX3 tyX3_ok nmX3 hown hK hP hD hS 2 rfl rfl 1 (by decide) (hts (.fieldLink RX6 79 "FairwayChancery$Hole" "par" "I") (by decide +kernel)) (fun _ h9 => h9) rfl (by decide +kernel) rfl rfl (Nat.le_of_ble_eq_true rfl) dX6_hole_131 (fun H locs hP hD hS => ?_)
                have hP : va_P D vwCl [(h0, .inr (12, [.ref (r 0), .ref (r 1), .ref (r 2), .ref (r 3), .int 0, .int 0, .int 1, .int 110, .int 0, .int 115, .int 0, .int 0, .int 0, .int 0])), (r 0, .inl (cH, 9, .inr (.inr (.inr (.inr fH))))), (h1, .inr (9, [.ref kq, .int a1, .int 0, .int 0, .int 0, .int 0]))] H := hP
                have hD : va_D A [(h0, .inr (12, [.ref (r 0), .ref (r 1), .ref (r 2), .ref (r 3), .int 0, .int 0, .int 1, .int 110, .int 0, .int 115, .int 0, .int 0, .int 0, .int 0])), (r 0, .inl (cH, 9, .inr (.inr (.inr (.inr fH))))), (h1, .inr (9, [.ref kq, .int a1, .int 0, .int 0, .int 0, .int 0]))] := hD
                refine lv_aload hx hb dX6_hole_134 (lv_at hl 0 rfl) ?_
                refine lv_iload_n hx hb dX6_hole_136 rfl (lv_at hl 3 rfl) ?_
                refine va_put (D := D) (ci := 9) (v := .int a2) (ty := .int) (C := RX3) (T := TX3) (N := 6) hx hb hts (by decide +kernel) tyX3 tyX3_ok nmX3 hown hK hP hD hS 2 rfl rfl 2 (by decide) (hts (.fieldLink RX6 82 "FairwayChancery$Hole" "index" "I") (by decide +kernel)) (fun _ h9 => h9) rfl (by decide +kernel) rfl rfl (Nat.le_of_ble_eq_true rfl) dX6_hole_137 (fun H locs hP hD hS => ?_)
                have hP : va_P D vwCl [(h0, .inr (12, [.ref (r 0), .ref (r 1), .ref (r 2), .ref (r 3), .int 0, .int 0, .int 1, .int 110, .int 0, .int 115, .int 0, .int 0, .int 0, .int 0])), (r 0, .inl (cH, 9, .inr (.inr (.inr (.inr fH))))), (h1, .inr (9, [.ref kq, .int a1, .int a2, .int 0, .int 0, .int 0]))] H := hP
                have hD : va_D A [(h0, .inr (12, [.ref (r 0), .ref (r 1), .ref (r 2), .ref (r 3), .int 0, .int 0, .int 1, .int 110, .int 0, .int 115, .int 0, .int 0, .int 0, .int 0])), (r 0, .inl (cH, 9, .inr (.inr (.inr (.inr fH))))), (h1, .inr (9, [.ref kq, .int a1, .int a2, .int 0, .int 0, .int 0]))] := hD
                refine lv_aload hx hb dX6_hole_140 (lv_at hl 0 rfl) ?_
                refine lv_iload_n hx hb dX6_hole_142 rfl (lv_at hl 4 rfl) ?_
                refine lv_iload hx hb dX6_hole_143 (lv_at hl 5 rfl) ?_
                refine va_calli (va_runS (As := [.int a3, .int a4]) (rest := [.ref h1]) ⟨hx, hb, hml, hown, hts⟩ (c_X6_cellAt l H.size a3 a4) (va_cwS 2 hts gX6_hole_X6_cellAt rfl rfl rfl (by decide +kernel) ⟨Nat.le_of_ble_eq_true rfl, Nat.le_of_ble_eq_true rfl⟩) ⟨fun a U g mk q => q, fun U hU hW => ⟨rfl, congrArg Array.size hU⟩⟩ rfl rfl hl.1 rfl (lv_room (Nat.le_of_ble_eq_true rfl)) dX6_hole_145 ⟨Nat.le_of_ble_eq_true rfl, Nat.le_of_ble_eq_true rfl⟩) hS (fun q h1 h2 => absurd h1 (Nat.not_lt.mpr h2)) (fun q h => hA q (Nat.le_trans hS.1 h)) (fun r14 u t H1 locs ht hvm hw hB hz1 hk1 hS => ?_)
                have hP := va_kept0 hP hk1
                generalize H1 = H at hP hS ⊢
                have hP : va_P D vwCl [(h0, .inr (12, [.ref (r 0), .ref (r 1), .ref (r 2), .ref (r 3), .int 0, .int 0, .int 1, .int 110, .int 0, .int 115, .int 0, .int 0, .int 0, .int 0])), (r 0, .inl (cH, 9, .inr (.inr (.inr (.inr fH))))), (h1, .inr (9, [.ref kq, .int a1, .int a2, .int 0, .int 0, .int 0]))] H := hP
                obtain rfl : r14 = a4 * 30 + a3 := hw
                refine va_put (D := D) (ci := 9) (v := .int (a4 * 30 + a3)) (ty := .int) (C := RX3) (T := TX3) (N := 6) hx hb hts (by decide +kernel) tyX3 tyX3_ok nmX3 hown hK hP hD hS 2 rfl rfl 3 (by decide) (hts (.fieldLink RX6 89 "FairwayChancery$Hole" "cup" "I") (by decide +kernel)) (fun _ h9 => h9) rfl (by decide +kernel) rfl rfl (Nat.le_of_ble_eq_true rfl) dX6_hole_148 (fun H locs hP hD hS => ?_)
                have hP : va_P D vwCl [(h0, .inr (12, [.ref (r 0), .ref (r 1), .ref (r 2), .ref (r 3), .int 0, .int 0, .int 1, .int 110, .int 0, .int 115, .int 0, .int 0, .int 0, .int 0])), (r 0, .inl (cH, 9, .inr (.inr (.inr (.inr fH))))), (h1, .inr (9, [.ref kq, .int a1, .int a2, .int (a4 * 30 + a3), .int 0, .int 0]))] H := hP
                have hD : va_D A [(h0, .inr (12, [.ref (r 0), .ref (r 1), .ref (r 2), .ref (r 3), .int 0, .int 0, .int 1, .int 110, .int 0, .int 115, .int 0, .int 0, .int 0, .int 0])), (r 0, .inl (cH, 9, .inr (.inr (.inr (.inr fH))))), (h1, .inr (9, [.ref kq, .int a1, .int a2, .int (a4 * 30 + a3), .int 0, .int 0]))] := hD
                refine lv_aload hx hb dX6_hole_151 (lv_at hl 0 rfl) ?_
                refine lv_iload hx hb dX6_hole_153 (lv_at hl 6 rfl) ?_
                refine lv_iload hx hb dX6_hole_155 (lv_at hl 7 rfl) ?_
                refine va_calli (va_runS (As := [.int a5, .int a6]) (rest := [.ref h1]) ⟨hx, hb, hml, hown, hts⟩ (c_X6_cellAt l H.size a5 a6) (va_cwS 2 hts gX6_hole_X6_cellAt rfl rfl rfl (by decide +kernel) ⟨Nat.le_of_ble_eq_true rfl, Nat.le_of_ble_eq_true rfl⟩) ⟨fun a U g mk q => q, fun U hU hW => ⟨rfl, congrArg Array.size hU⟩⟩ rfl rfl hl.1 rfl (lv_room (Nat.le_of_ble_eq_true rfl)) dX6_hole_157 ⟨Nat.le_of_ble_eq_true rfl, Nat.le_of_ble_eq_true rfl⟩) hS (fun q h1 h2 => absurd h1 (Nat.not_lt.mpr h2)) (fun q h => hA q (Nat.le_trans hS.1 h)) (fun r15 u t H1 locs ht hvm hw hB hz1 hk1 hS => ?_)
                have hP := va_kept0 hP hk1
                generalize H1 = H at hP hS ⊢
                have hP : va_P D vwCl [(h0, .inr (12, [.ref (r 0), .ref (r 1), .ref (r 2), .ref (r 3), .int 0, .int 0, .int 1, .int 110, .int 0, .int 115, .int 0, .int 0, .int 0, .int 0])), (r 0, .inl (cH, 9, .inr (.inr (.inr (.inr fH))))), (h1, .inr (9, [.ref kq, .int a1, .int a2, .int (a4 * 30 + a3), .int 0, .int 0]))] H := hP
                obtain rfl : r15 = a6 * 30 + a5 := hw
                refine va_put (D := D) (ci := 9) (v := .int (a6 * 30 + a5)) (ty := .int) (C := RX3) (T := TX3) (N := 6) hx hb hts (by decide +kernel) tyX3 tyX3_ok nmX3 hown hK hP hD hS 2 rfl rfl 4 (by decide) (hts (.fieldLink RX6 92 "FairwayChancery$Hole" "tee" "I") (by decide +kernel)) (fun _ h9 => h9) rfl (by decide +kernel) rfl rfl (Nat.le_of_ble_eq_true rfl) dX6_hole_160 (fun H locs hP hD hS => ?_)
                have hP : va_P D vwCl [(h0, .inr (12, [.ref (r 0), .ref (r 1), .ref (r 2), .ref (r 3), .int 0, .int 0, .int 1, .int 110, .int 0, .int 115, .int 0, .int 0, .int 0, .int 0])), (r 0, .inl (cH, 9, .inr (.inr (.inr (.inr fH))))), (h1, .inr (9, [.ref kq, .int a1, .int a2, .int (a4 * 30 + a3), .int (a6 * 30 + a5), .int 0]))] H := hP
                have hD : va_D A [(h0, .inr (12, [.ref (r 0), .ref (r 1), .ref (r 2), .ref (r 3), .int 0, .int 0, .int 1, .int 110, .int 0, .int 115, .int 0, .int 0, .int 0, .int 0])), (r 0, .inl (cH, 9, .inr (.inr (.inr (.inr fH))))), (h1, .inr (9, [.ref kq, .int a1, .int a2, .int (a4 * 30 + a3), .int (a6 * 30 + a5), .int 0]))] := hD
                refine lv_aload_n hx hb dX6_hole_163 rfl (lv_at hl 1 rfl) ?_
                refine lv_dup hx hb dX6_hole_164 rfl ?_
                refine va_get (D := D) (ci := 12) (v := .int 0) (C := RX6) (T := TX6) (N := 14) hx hb hts (by decide +kernel) hown hK hP 0 rfl rfl 4 (by decide) (hts (.fieldLink RX6 62 "FairwayChancery" "holeCount" "I") (by decide +kernel)) (fun _ h9 => h9) rfl dX6_hole_165 ?_
                refine lv_iconst (v := 1) hx hb dX6_hole_168 (by decide) ?_
                refine lv_iadd hx hb dX6_hole_169 ?_
                refine lv_topi (fun y16 ey16 => ?_)
                obtain rfl : y16 = 1 := ey16.trans (by decide)
                refine va_put (D := D) (ci := 12) (v := .int 1) (ty := .int) (C := RX6) (T := TX6) (N := 14) hx hb hts (by decide +kernel) tyX6 tyX6_ok nmX6 hown hK hP hD hS 0 rfl rfl 4 (by decide) (hts (.fieldLink RX6 62 "FairwayChancery" "holeCount" "I") (by decide +kernel)) (fun _ h9 => h9) rfl (by decide +kernel) rfl rfl (Nat.le_of_ble_eq_true rfl) dX6_hole_170 (fun H locs hP hD hS => ?_)
                have hP : va_P D vwCl [(h0, .inr (12, [.ref (r 0), .ref (r 1), .ref (r 2), .ref (r 3), .int 1, .int 0, .int 1, .int 110, .int 0, .int 115, .int 0, .int 0, .int 0, .int 0])), (r 0, .inl (cH, 9, .inr (.inr (.inr (.inr fH))))), (h1, .inr (9, [.ref kq, .int a1, .int a2, .int (a4 * 30 + a3), .int (a6 * 30 + a5), .int 0]))] H := hP
                have hD : va_D A [(h0, .inr (12, [.ref (r 0), .ref (r 1), .ref (r 2), .ref (r 3), .int 1, .int 0, .int 1, .int 110, .int 0, .int 115, .int 0, .int 0, .int 0, .int 0])), (r 0, .inl (cH, 9, .inr (.inr (.inr (.inr fH))))), (h1, .inr (9, [.ref kq, .int a1, .int a2, .int (a4 * 30 + a3), .int (a6 * 30 + a5), .int 0]))] := hD
                refine lv_aload_n hx hb dX6_hole_173 rfl (lv_at hl 1 rfl) ?_
                refine va_get (D := D) (ci := 12) (v := .int 1) (C := RX6) (T := TX6) (N := 14) hx hb hts (by decide +kernel) hown hK hP 0 rfl rfl 4 (by decide) (hts (.fieldLink RX6 62 "FairwayChancery" "holeCount" "I") (by decide +kernel)) (fun _ h9 => h9) rfl dX6_hole_174 ?_
                refine lv_iconst (v := 1) hx hb dX6_hole_177 (by decide) ?_
                refine lv_isub hx hb dX6_hole_178 ?_
                refine lv_topi (fun y17 ey17 => ?_)
                obtain rfl : y17 = 0 := ey17.trans (by decide)
                refine vx_ret ?_
                refine W.widen (k := 1) (n := 6) (by decide) (by decide) ?_
                exact W.iret (v := 0) hx hb hr (fun t ht hW => ⟨⟨0, (), rfl, ⟨rfl, by have h := And.intro c_1 (And.intro c_2 (And.intro c_3 (And.intro c_4 (And.intro c_6 (c_8))))); simp only [Int32.lt_iff_toInt_lt, Int32.le_iff_toInt_le, bIn_0, bCell_0, tI_0, tI_1, tI_3, tI_5, tI_6, tI_9, tI_19, tI_20, tI_29, tI_30, tI_36, tI_m1] at h; exact ⟨by omega, by omega, by omega, by omega, fun q => c_9 q.1⟩⟩, trivial⟩, hS.F ht⟩) hS.2.2 dX6_hole_179
              · skip
                refine lv_iload hx hb dX6_hole_56 (lv_at hl 4 rfl) ?_
                refine lv_iload hx hb dX6_hole_58 (lv_at hl 6 rfl) ?_
                refine lv_icmp_ne (tgt := 73) hx hb dX6_hole_60 (by decide) (fun c_18 => ?_) (fun c_18 => ?_)
                · skip
                  refine lv_aload_n hx hb dX6_hole_73 rfl (lv_at hl 0 rfl) ?_
                  refine va_get (D := D) (ci := 12) (v := .int 0) (C := RX6) (T := TX6) (N := 14) hx hb hts (by decide +kernel) hown hK hP 0 rfl rfl 10 (by decide) (hts (.fieldLink RX6 58 "FairwayChancery" "isBegun" "Z") (by decide +kernel)) (fun _ h9 => h9) rfl dX6_hole_74 ?_
                  refine lv_if_ne (tgt := 89) hx hb dX6_hole_77 (by decide) (fun c => by first | exact absurd c (by decide) | exact absurd (by decide) c) (fun _ => ?_)
                  refine lv_aload_n hx hb dX6_hole_80 rfl (lv_at hl 0 rfl) ?_
                  refine va_get (D := D) (ci := 12) (v := .int 0) (C := RX6) (T := TX6) (N := 14) hx hb hts (by decide +kernel) hown hK hP 0 rfl rfl 4 (by decide) (hts (.fieldLink RX6 62 "FairwayChancery" "holeCount" "I") (by decide +kernel)) (fun _ h9 => h9) rfl dX6_hole_81 ?_
                  refine lv_bipush (v := 9) hx hb dX6_hole_84 (by decide) ?_
                  refine lv_icmp_lt (tgt := 99) hx hb dX6_hole_86 (by decide) (fun _ => ?_) (fun c => by first | exact absurd (by decide) c | exact absurd c (by decide))
                  refine lv_aload_n hx hb dX6_hole_99 rfl (lv_at hl 0 rfl) ?_
                  refine lv_iload_n hx hb dX6_hole_100 rfl (lv_at hl 2 rfl) ?_
                  refine va_calli (va_runV (As := [.int a2]) (rest := []) ⟨hx, hb, hml, hown, hts⟩ (c_X6_hasIndex l D h0 r H.size a2) (cwV 1 hts gX6_hole_X6_hasIndex rfl rfl rfl (by decide +kernel) ⟨Nat.le_of_ble_eq_true rfl, Nat.le_of_ble_eq_true rfl⟩) ⟨fun a U g mk q => ⟨q.1, PX6.blind q.2⟩, va_recv hK hP (ci := 12) (q0 := 0) rfl rfl, fun U hU hW => ⟨rfl, hasIndex_pre hP rfl hK hT hS hA hU hW⟩⟩ rfl rfl hl.1 rfl (lv_room (Nat.le_of_ble_eq_true rfl)) dX6_hole_101 ⟨Nat.le_of_ble_eq_true rfl, Nat.le_of_ble_eq_true rfl⟩) hS (fun q h1 h2 => absurd h1 (Nat.not_lt.mpr h2)) (fun q h => hA q (Nat.le_trans hS.1 h)) (fun r21 u t H1 locs ht hvm hw hB hz1 hk1 hS => ?_)
                  have hP := va_kept0 hP hk1
                  generalize H1 = H at hP hS ⊢
                  have hP : va_P D vwCl [(h0, .inr (12, [.ref (r 0), .ref (r 1), .ref (r 2), .ref (r 3), .int 0, .int 0, .int 1, .int 110, .int 0, .int 115, .int 0, .int 0, .int 0, .int 0])), (r 0, .inl (cH, 9, .inr (.inr (.inr (.inr fH))))), (h1, .inr (9, [.ref kq, .int 0, .int 0, .int 0, .int 0, .int 0]))] H := hP
                  obtain rfl : r21 = 0 := hw
                  refine lv_if_eq (tgt := 117) hx hb dX6_hole_104 (by decide) (fun _ => ?_) (fun c => by first | exact absurd (by decide) c | exact absurd c (by decide))
                  refine lv_aload_n hx hb dX6_hole_117 rfl (lv_at hl 0 rfl) ?_
                  refine va_get (D := D) (ci := 12) (v := .ref (r 0)) (C := RX6) (T := TX6) (N := 14) hx hb hts (by decide +kernel) hown hK hP 0 rfl rfl 0 (by decide) (hts (.fieldLink RX6 11 "FairwayChancery" "holes" "[LFairwayChancery$Hole;") (by decide +kernel)) (fun _ h9 => h9) rfl dX6_hole_118 ?_
                  refine lv_aload_n hx hb dX6_hole_121 rfl (lv_at hl 0 rfl) ?_
                  refine va_get (D := D) (ci := 12) (v := .int 0) (C := RX6) (T := TX6) (N := 14) hx hb hts (by decide +kernel) hown hK hP 0 rfl rfl 4 (by decide) (hts (.fieldLink RX6 62 "FairwayChancery" "holeCount" "I") (by decide +kernel)) (fun _ h9 => h9) rfl dX6_hole_122 ?_
                  refine va_aldq hx hb hK hP 1 0 rfl rfl (vp_in_nI (n := 0) (by decide) (by decide)) dX6_hole_125 ?_
                  have e0 : va_rf (fH (0 : Int32).toNatClampNeg) = .ref h1 := by rw [show (0 : Int32).toNatClampNeg = 0 from by decide, hf]; rfl
                  rw [e0]
                  refine lv_astore (lv' := [(7, .ref h1), (0, .ref h0), (1, .int a1), (2, .int a2), (3, .int a3), (4, .int a4), (5, .int a5), (6, .int a6)]) hx hb dX6_hole_126 hl (by decide) rfl (fun ls hl => ?_)
                  refine lv_aload hx hb dX6_hole_128 (lv_at hl 0 rfl) ?_
                  refine lv_iload_n hx hb dX6_hole_130 rfl (lv_at hl 2 rfl) ?_
                  refine va_put (D := D) (ci := 9) (v := .int a1) (ty := .int) (C := RX3) (T := TX3) (N := 6) hx hb hts (by decide +kernel) tyX3 tyX3_ok nmX3 hown hK hP hD hS 2 rfl rfl 1 (by decide) (hts (.fieldLink RX6 79 "FairwayChancery$Hole" "par" "I") (by decide +kernel)) (fun _ h9 => h9) rfl (by decide +kernel) rfl rfl (Nat.le_of_ble_eq_true rfl) dX6_hole_131 (fun H locs hP hD hS => ?_)
                  have hP : va_P D vwCl [(h0, .inr (12, [.ref (r 0), .ref (r 1), .ref (r 2), .ref (r 3), .int 0, .int 0, .int 1, .int 110, .int 0, .int 115, .int 0, .int 0, .int 0, .int 0])), (r 0, .inl (cH, 9, .inr (.inr (.inr (.inr fH))))), (h1, .inr (9, [.ref kq, .int a1, .int 0, .int 0, .int 0, .int 0]))] H := hP
                  have hD : va_D A [(h0, .inr (12, [.ref (r 0), .ref (r 1), .ref (r 2), .ref (r 3), .int 0, .int 0, .int 1, .int 110, .int 0, .int 115, .int 0, .int 0, .int 0, .int 0])), (r 0, .inl (cH, 9, .inr (.inr (.inr (.inr fH))))), (h1, .inr (9, [.ref kq, .int a1, .int 0, .int 0, .int 0, .int 0]))] := hD
                  refine lv_aload hx hb dX6_hole_134 (lv_at hl 0 rfl) ?_
                  refine lv_iload_n hx hb dX6_hole_136 rfl (lv_at hl 3 rfl) ?_
                  refine va_put (D := D) (ci := 9) (v := .int a2) (ty := .int) (C := RX3) (T := TX3) (N := 6) hx hb hts (by decide +kernel) tyX3 tyX3_ok nmX3 hown hK hP hD hS 2 rfl rfl 2 (by decide) (hts (.fieldLink RX6 82 "FairwayChancery$Hole" "index" "I") (by decide +kernel)) (fun _ h9 => h9) rfl (by decide +kernel) rfl rfl (Nat.le_of_ble_eq_true rfl) dX6_hole_137 (fun H locs hP hD hS => ?_)
                  have hP : va_P D vwCl [(h0, .inr (12, [.ref (r 0), .ref (r 1), .ref (r 2), .ref (r 3), .int 0, .int 0, .int 1, .int 110, .int 0, .int 115, .int 0, .int 0, .int 0, .int 0])), (r 0, .inl (cH, 9, .inr (.inr (.inr (.inr fH))))), (h1, .inr (9, [.ref kq, .int a1, .int a2, .int 0, .int 0, .int 0]))] H := hP
                  have hD : va_D A [(h0, .inr (12, [.ref (r 0), .ref (r 1), .ref (r 2), .ref (r 3), .int 0, .int 0, .int 1, .int 110, .int 0, .int 115, .int 0, .int 0, .int 0, .int 0])), (r 0, .inl (cH, 9, .inr (.inr (.inr (.inr fH))))), (h1, .inr (9, [.ref kq, .int a1, .int a2, .int 0, .int 0, .int 0]))] := hD
                  refine lv_aload hx hb dX6_hole_140 (lv_at hl 0 rfl) ?_
                  refine lv_iload_n hx hb dX6_hole_142 rfl (lv_at hl 4 rfl) ?_
                  refine lv_iload hx hb dX6_hole_143 (lv_at hl 5 rfl) ?_
                  refine va_calli (va_runS (As := [.int a3, .int a4]) (rest := [.ref h1]) ⟨hx, hb, hml, hown, hts⟩ (c_X6_cellAt l H.size a3 a4) (va_cwS 2 hts gX6_hole_X6_cellAt rfl rfl rfl (by decide +kernel) ⟨Nat.le_of_ble_eq_true rfl, Nat.le_of_ble_eq_true rfl⟩) ⟨fun a U g mk q => q, fun U hU hW => ⟨rfl, congrArg Array.size hU⟩⟩ rfl rfl hl.1 rfl (lv_room (Nat.le_of_ble_eq_true rfl)) dX6_hole_145 ⟨Nat.le_of_ble_eq_true rfl, Nat.le_of_ble_eq_true rfl⟩) hS (fun q h1 h2 => absurd h1 (Nat.not_lt.mpr h2)) (fun q h => hA q (Nat.le_trans hS.1 h)) (fun r23 u t H1 locs ht hvm hw hB hz1 hk1 hS => ?_)
                  have hP := va_kept0 hP hk1
                  generalize H1 = H at hP hS ⊢
                  have hP : va_P D vwCl [(h0, .inr (12, [.ref (r 0), .ref (r 1), .ref (r 2), .ref (r 3), .int 0, .int 0, .int 1, .int 110, .int 0, .int 115, .int 0, .int 0, .int 0, .int 0])), (r 0, .inl (cH, 9, .inr (.inr (.inr (.inr fH))))), (h1, .inr (9, [.ref kq, .int a1, .int a2, .int 0, .int 0, .int 0]))] H := hP
                  obtain rfl : r23 = a4 * 30 + a3 := hw
                  refine va_put (D := D) (ci := 9) (v := .int (a4 * 30 + a3)) (ty := .int) (C := RX3) (T := TX3) (N := 6) hx hb hts (by decide +kernel) tyX3 tyX3_ok nmX3 hown hK hP hD hS 2 rfl rfl 3 (by decide) (hts (.fieldLink RX6 89 "FairwayChancery$Hole" "cup" "I") (by decide +kernel)) (fun _ h9 => h9) rfl (by decide +kernel) rfl rfl (Nat.le_of_ble_eq_true rfl) dX6_hole_148 (fun H locs hP hD hS => ?_)
                  have hP : va_P D vwCl [(h0, .inr (12, [.ref (r 0), .ref (r 1), .ref (r 2), .ref (r 3), .int 0, .int 0, .int 1, .int 110, .int 0, .int 115, .int 0, .int 0, .int 0, .int 0])), (r 0, .inl (cH, 9, .inr (.inr (.inr (.inr fH))))), (h1, .inr (9, [.ref kq, .int a1, .int a2, .int (a4 * 30 + a3), .int 0, .int 0]))] H := hP
                  have hD : va_D A [(h0, .inr (12, [.ref (r 0), .ref (r 1), .ref (r 2), .ref (r 3), .int 0, .int 0, .int 1, .int 110, .int 0, .int 115, .int 0, .int 0, .int 0, .int 0])), (r 0, .inl (cH, 9, .inr (.inr (.inr (.inr fH))))), (h1, .inr (9, [.ref kq, .int a1, .int a2, .int (a4 * 30 + a3), .int 0, .int 0]))] := hD
                  refine lv_aload hx hb dX6_hole_151 (lv_at hl 0 rfl) ?_
                  refine lv_iload hx hb dX6_hole_153 (lv_at hl 6 rfl) ?_
                  refine lv_iload hx hb dX6_hole_155 (lv_at hl 7 rfl) ?_
                  refine va_calli (va_runS (As := [.int a5, .int a6]) (rest := [.ref h1]) ⟨hx, hb, hml, hown, hts⟩ (c_X6_cellAt l H.size a5 a6) (va_cwS 2 hts gX6_hole_X6_cellAt rfl rfl rfl (by decide +kernel) ⟨Nat.le_of_ble_eq_true rfl, Nat.le_of_ble_eq_true rfl⟩) ⟨fun a U g mk q => q, fun U hU hW => ⟨rfl, congrArg Array.size hU⟩⟩ rfl rfl hl.1 rfl (lv_room (Nat.le_of_ble_eq_true rfl)) dX6_hole_157 ⟨Nat.le_of_ble_eq_true rfl, Nat.le_of_ble_eq_true rfl⟩) hS (fun q h1 h2 => absurd h1 (Nat.not_lt.mpr h2)) (fun q h => hA q (Nat.le_trans hS.1 h)) (fun r24 u t H1 locs ht hvm hw hB hz1 hk1 hS => ?_)
                  have hP := va_kept0 hP hk1
                  generalize H1 = H at hP hS ⊢
                  have hP : va_P D vwCl [(h0, .inr (12, [.ref (r 0), .ref (r 1), .ref (r 2), .ref (r 3), .int 0, .int 0, .int 1, .int 110, .int 0, .int 115, .int 0, .int 0, .int 0, .int 0])), (r 0, .inl (cH, 9, .inr (.inr (.inr (.inr fH))))), (h1, .inr (9, [.ref kq, .int a1, .int a2, .int (a4 * 30 + a3), .int 0, .int 0]))] H := hP
                  obtain rfl : r24 = a6 * 30 + a5 := hw
                  refine va_put (D := D) (ci := 9) (v := .int (a6 * 30 + a5)) (ty := .int) (C := RX3) (T := TX3) (N := 6) hx hb hts (by decide +kernel) tyX3 tyX3_ok nmX3 hown hK hP hD hS 2 rfl rfl 4 (by decide) (hts (.fieldLink RX6 92 "FairwayChancery$Hole" "tee" "I") (by decide +kernel)) (fun _ h9 => h9) rfl (by decide +kernel) rfl rfl (Nat.le_of_ble_eq_true rfl) dX6_hole_160 (fun H locs hP hD hS => ?_)
                  have hP : va_P D vwCl [(h0, .inr (12, [.ref (r 0), .ref (r 1), .ref (r 2), .ref (r 3), .int 0, .int 0, .int 1, .int 110, .int 0, .int 115, .int 0, .int 0, .int 0, .int 0])), (r 0, .inl (cH, 9, .inr (.inr (.inr (.inr fH))))), (h1, .inr (9, [.ref kq, .int a1, .int a2, .int (a4 * 30 + a3), .int (a6 * 30 + a5), .int 0]))] H := hP
                  have hD : va_D A [(h0, .inr (12, [.ref (r 0), .ref (r 1), .ref (r 2), .ref (r 3), .int 0, .int 0, .int 1, .int 110, .int 0, .int 115, .int 0, .int 0, .int 0, .int 0])), (r 0, .inl (cH, 9, .inr (.inr (.inr (.inr fH))))), (h1, .inr (9, [.ref kq, .int a1, .int a2, .int (a4 * 30 + a3), .int (a6 * 30 + a5), .int 0]))] := hD
                  refine lv_aload_n hx hb dX6_hole_163 rfl (lv_at hl 1 rfl) ?_
                  refine lv_dup hx hb dX6_hole_164 rfl ?_
                  refine va_get (D := D) (ci := 12) (v := .int 0) (C := RX6) (T := TX6) (N := 14) hx hb hts (by decide +kernel) hown hK hP 0 rfl rfl 4 (by decide) (hts (.fieldLink RX6 62 "FairwayChancery" "holeCount" "I") (by decide +kernel)) (fun _ h9 => h9) rfl dX6_hole_165 ?_
                  refine lv_iconst (v := 1) hx hb dX6_hole_168 (by decide) ?_
                  refine lv_iadd hx hb dX6_hole_169 ?_
                  refine lv_topi (fun y25 ey25 => ?_)
                  obtain rfl : y25 = 1 := ey25.trans (by decide)
                  refine va_put (D := D) (ci := 12) (v := .int 1) (ty := .int) (C := RX6) (T := TX6) (N := 14) hx hb hts (by decide +kernel) tyX6 tyX6_ok nmX6 hown hK hP hD hS 0 rfl rfl 4 (by decide) (hts (.fieldLink RX6 62 "FairwayChancery" "holeCount" "I") (by decide +kernel)) (fun _ h9 => h9) rfl (by decide +kernel) rfl rfl (Nat.le_of_ble_eq_true rfl) dX6_hole_170 (fun H locs hP hD hS => ?_)
                  have hP : va_P D vwCl [(h0, .inr (12, [.ref (r 0), .ref (r 1), .ref (r 2), .ref (r 3), .int 1, .int 0, .int 1, .int 110, .int 0, .int 115, .int 0, .int 0, .int 0, .int 0])), (r 0, .inl (cH, 9, .inr (.inr (.inr (.inr fH))))), (h1, .inr (9, [.ref kq, .int a1, .int a2, .int (a4 * 30 + a3), .int (a6 * 30 + a5), .int 0]))] H := hP
                  have hD : va_D A [(h0, .inr (12, [.ref (r 0), .ref (r 1), .ref (r 2), .ref (r 3), .int 1, .int 0, .int 1, .int 110, .int 0, .int 115, .int 0, .int 0, .int 0, .int 0])), (r 0, .inl (cH, 9, .inr (.inr (.inr (.inr fH))))), (h1, .inr (9, [.ref kq, .int a1, .int a2, .int (a4 * 30 + a3), .int (a6 * 30 + a5), .int 0]))] := hD
                  refine lv_aload_n hx hb dX6_hole_173 rfl (lv_at hl 1 rfl) ?_
                  refine va_get (D := D) (ci := 12) (v := .int 1) (C := RX6) (T := TX6) (N := 14) hx hb hts (by decide +kernel) hown hK hP 0 rfl rfl 4 (by decide) (hts (.fieldLink RX6 62 "FairwayChancery" "holeCount" "I") (by decide +kernel)) (fun _ h9 => h9) rfl dX6_hole_174 ?_
                  refine lv_iconst (v := 1) hx hb dX6_hole_177 (by decide) ?_
                  refine lv_isub hx hb dX6_hole_178 ?_
                  refine lv_topi (fun y26 ey26 => ?_)
                  obtain rfl : y26 = 0 := ey26.trans (by decide)
                  refine vx_ret ?_
                  refine W.widen (k := 1) (n := 6) (by decide) (by decide) ?_
                  exact W.iret (v := 0) hx hb hr (fun t ht hW => ⟨⟨0, (), rfl, ⟨rfl, by have h := And.intro c_1 (And.intro c_2 (And.intro c_3 (And.intro c_4 (And.intro c_6 (c_8))))); simp only [Int32.lt_iff_toInt_lt, Int32.le_iff_toInt_le, bIn_0, bCell_0, tI_0, tI_1, tI_3, tI_5, tI_6, tI_9, tI_19, tI_20, tI_29, tI_30, tI_36, tI_m1] at h; exact ⟨by omega, by omega, by omega, by omega, fun q => c_18 q.2⟩⟩, trivial⟩, hS.F ht⟩) hS.2.2 dX6_hole_179
                · skip
                  exact tx_throw (cls := "java/lang/IllegalArgumentException") (text := "the cup and the tee are the same cell") ⟨rfl, fun q => q.2.2.2.2 ⟨c_9, c_18⟩⟩ hx hb hlT hown (by decide +kernel) (by decide +kernel) (hts (.classLink RX6 49 "java/lang/IllegalArgumentException") (by decide +kernel)) (hts (.initialized "java/lang/IllegalArgumentException") (by decide +kernel)) (fun w hw => hts w (List.mem_cons_of_mem _ (List.mem_append_left _ (List.mem_append_left _ (List.mem_append_right _ hw))))) hT hS (fun q h => h) (by rw [hml]; exact hl.1) dX6_hole_63 dX6_hole_66 dX6_hole_67 dX6_hole_69 dX6_hole_72 hne (Nat.le_of_ble_eq_true rfl) (Nat.le_of_ble_eq_true rfl) (Nat.le_of_ble_eq_true rfl) (Nat.le_of_ble_eq_true rfl) hlocks (by decide) (by decide)
            · skip
              exact tx_throw (cls := "java/lang/IllegalArgumentException") (text := "a number is out of range") ⟨rfl, fun q => by have h := And.intro c_1 (And.intro c_2 (And.intro c_3 (And.intro c_4 (And.intro c_6 (c_8))))); obtain ⟨q1, q2, q3, q4, -⟩ := q; simp only [Int32.lt_iff_toInt_lt, Int32.le_iff_toInt_le, bIn_0, bCell_0, tI_0, tI_1, tI_3, tI_5, tI_6, tI_9, tI_19, tI_20, tI_29, tI_30, tI_36, tI_m1] at h; omega⟩ hx hb hlT hown (by decide +kernel) (by decide +kernel) (hts (.classLink RX6 49 "java/lang/IllegalArgumentException") (by decide +kernel)) (hts (.initialized "java/lang/IllegalArgumentException") (by decide +kernel)) (fun w hw => hts w (List.mem_cons_of_mem _ (List.mem_append_left _ (List.mem_append_left _ (List.mem_append_right _ hw))))) hT hS (fun q h => h) (by rw [hml]; exact hl.1) dX6_hole_40 dX6_hole_43 dX6_hole_44 dX6_hole_46 dX6_hole_49 hne (Nat.le_of_ble_eq_true rfl) (Nat.le_of_ble_eq_true rfl) (Nat.le_of_ble_eq_true rfl) (Nat.le_of_ble_eq_true rfl) hlocks (by decide) (by decide)
