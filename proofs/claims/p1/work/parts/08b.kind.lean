theorem dX7_thrown_0 : decode cX7_thrown 0 = .ok (.aload_n 0, 1) := by decide +kernel
theorem dX7_thrown_1 : decode cX7_thrown 1 = .ok (.getfield 79, 3) := by decide +kernel
theorem dX7_thrown_4 : decode cX7_thrown 4 = .ok (.ireturn, 1) := by decide +kernel
theorem dX7_isKind_0 : decode cX7_isKind 0 = .ok (.iconst 0, 1) := by decide +kernel
theorem dX7_isKind_1 : decode cX7_isKind 1 = .ok (.istore_n 1, 1) := by decide +kernel
theorem dX7_isKind_2 : decode cX7_isKind 2 = .ok (.bipush 9, 2) := by decide +kernel
theorem dX7_isKind_4 : decode cX7_isKind 4 = .ok (.newarray .char, 2) := by decide +kernel
theorem dX7_isKind_6 : decode cX7_isKind 6 = .ok (.dup, 1) := by decide +kernel
theorem dX7_isKind_7 : decode cX7_isKind 7 = .ok (.iconst 0, 1) := by decide +kernel
theorem dX7_isKind_8 : decode cX7_isKind 8 = .ok (.bipush 46, 2) := by decide +kernel
theorem dX7_isKind_10 : decode cX7_isKind 10 = .ok (.castore, 1) := by decide +kernel
theorem dX7_isKind_11 : decode cX7_isKind 11 = .ok (.dup, 1) := by decide +kernel
theorem dX7_isKind_12 : decode cX7_isKind 12 = .ok (.iconst 1, 1) := by decide +kernel
theorem dX7_isKind_13 : decode cX7_isKind 13 = .ok (.bipush 103, 2) := by decide +kernel
theorem dX7_isKind_15 : decode cX7_isKind 15 = .ok (.castore, 1) := by decide +kernel
theorem dX7_isKind_16 : decode cX7_isKind 16 = .ok (.dup, 1) := by decide +kernel
theorem dX7_isKind_17 : decode cX7_isKind 17 = .ok (.iconst 2, 1) := by decide +kernel
theorem dX7_isKind_18 : decode cX7_isKind 18 = .ok (.bipush 98, 2) := by decide +kernel
theorem dX7_isKind_20 : decode cX7_isKind 20 = .ok (.castore, 1) := by decide +kernel
theorem dX7_isKind_21 : decode cX7_isKind 21 = .ok (.dup, 1) := by decide +kernel
theorem dX7_isKind_22 : decode cX7_isKind 22 = .ok (.iconst 3, 1) := by decide +kernel
theorem dX7_isKind_23 : decode cX7_isKind 23 = .ok (.bipush 100, 2) := by decide +kernel
theorem dX7_isKind_25 : decode cX7_isKind 25 = .ok (.castore, 1) := by decide +kernel
theorem dX7_isKind_26 : decode cX7_isKind 26 = .ok (.dup, 1) := by decide +kernel
theorem dX7_isKind_27 : decode cX7_isKind 27 = .ok (.iconst 4, 1) := by decide +kernel
theorem dX7_isKind_28 : decode cX7_isKind 28 = .ok (.bipush 121, 2) := by decide +kernel
theorem dX7_isKind_30 : decode cX7_isKind 30 = .ok (.castore, 1) := by decide +kernel
theorem dX7_isKind_31 : decode cX7_isKind 31 = .ok (.dup, 1) := by decide +kernel
theorem dX7_isKind_32 : decode cX7_isKind 32 = .ok (.iconst 5, 1) := by decide +kernel
theorem dX7_isKind_33 : decode cX7_isKind 33 = .ok (.bipush 114, 2) := by decide +kernel
theorem dX7_isKind_35 : decode cX7_isKind 35 = .ok (.castore, 1) := by decide +kernel
theorem dX7_isKind_36 : decode cX7_isKind 36 = .ok (.dup, 1) := by decide +kernel
theorem dX7_isKind_37 : decode cX7_isKind 37 = .ok (.bipush 6, 2) := by decide +kernel
theorem dX7_isKind_39 : decode cX7_isKind 39 = .ok (.bipush 119, 2) := by decide +kernel
theorem dX7_isKind_41 : decode cX7_isKind 41 = .ok (.castore, 1) := by decide +kernel
theorem dX7_isKind_42 : decode cX7_isKind 42 = .ok (.dup, 1) := by decide +kernel
theorem dX7_isKind_43 : decode cX7_isKind 43 = .ok (.bipush 7, 2) := by decide +kernel
theorem dX7_isKind_45 : decode cX7_isKind 45 = .ok (.bipush 112, 2) := by decide +kernel
theorem dX7_isKind_47 : decode cX7_isKind 47 = .ok (.castore, 1) := by decide +kernel
theorem dX7_isKind_48 : decode cX7_isKind 48 = .ok (.dup, 1) := by decide +kernel
theorem dX7_isKind_49 : decode cX7_isKind 49 = .ok (.bipush 8, 2) := by decide +kernel
theorem dX7_isKind_51 : decode cX7_isKind 51 = .ok (.bipush 111, 2) := by decide +kernel
theorem dX7_isKind_53 : decode cX7_isKind 53 = .ok (.castore, 1) := by decide +kernel
theorem dX7_isKind_54 : decode cX7_isKind 54 = .ok (.astore_n 2, 1) := by decide +kernel
theorem dX7_isKind_55 : decode cX7_isKind 55 = .ok (.aload_n 2, 1) := by decide +kernel
theorem dX7_isKind_56 : decode cX7_isKind 56 = .ok (.arraylength, 1) := by decide +kernel
theorem dX7_isKind_57 : decode cX7_isKind 57 = .ok (.istore_n 3, 1) := by decide +kernel
theorem dX7_isKind_58 : decode cX7_isKind 58 = .ok (.iconst 0, 1) := by decide +kernel
theorem dX7_isKind_59 : decode cX7_isKind 59 = .ok (.istore 4, 2) := by decide +kernel
theorem dX7_isKind_61 : decode cX7_isKind 61 = .ok (.iload 4, 2) := by decide +kernel
theorem dX7_isKind_63 : decode cX7_isKind 63 = .ok (.iload_n 3, 1) := by decide +kernel
theorem dX7_isKind_64 : decode cX7_isKind 64 = .ok (.if_icmp .ge 29, 3) := by decide +kernel
theorem dX7_isKind_67 : decode cX7_isKind 67 = .ok (.aload_n 2, 1) := by decide +kernel
theorem dX7_isKind_68 : decode cX7_isKind 68 = .ok (.iload 4, 2) := by decide +kernel
theorem dX7_isKind_70 : decode cX7_isKind 70 = .ok (.caload, 1) := by decide +kernel
theorem dX7_isKind_71 : decode cX7_isKind 71 = .ok (.istore 5, 2) := by decide +kernel
theorem dX7_isKind_73 : decode cX7_isKind 73 = .ok (.iload_n 1, 1) := by decide +kernel
theorem dX7_isKind_74 : decode cX7_isKind 74 = .ok (.iload 5, 2) := by decide +kernel
theorem dX7_isKind_76 : decode cX7_isKind 76 = .ok (.iload_n 0, 1) := by decide +kernel
theorem dX7_isKind_77 : decode cX7_isKind 77 = .ok (.if_icmp .ne 7, 3) := by decide +kernel
theorem dX7_isKind_80 : decode cX7_isKind 80 = .ok (.iconst 1, 1) := by decide +kernel
theorem dX7_isKind_81 : decode cX7_isKind 81 = .ok (.goto 4, 3) := by decide +kernel
theorem dX7_isKind_84 : decode cX7_isKind 84 = .ok (.iconst 0, 1) := by decide +kernel
theorem dX7_isKind_85 : decode cX7_isKind 85 = .ok (.ior, 1) := by decide +kernel
theorem dX7_isKind_86 : decode cX7_isKind 86 = .ok (.istore_n 1, 1) := by decide +kernel
theorem dX7_isKind_87 : decode cX7_isKind 87 = .ok (.iinc 4 1, 3) := by decide +kernel
theorem dX7_isKind_90 : decode cX7_isKind 90 = .ok (.goto (-29), 3) := by decide +kernel
theorem dX7_isKind_93 : decode cX7_isKind 93 = .ok (.iload_n 1, 1) := by decide +kernel
theorem dX7_isKind_94 : decode cX7_isKind 94 = .ok (.ireturn, 1) := by decide +kernel
set_option maxRecDepth 20000 in
theorem ggX7_isAsked_X7_isKind : GoodIn wsX7_isAsked wsX7_isKind := goodIn_ca (goodIn_r _ [4, 5] (by decide +kernel) (by decide +kernel)) (goodIn_sub (fun _ h => List.mem_cons_of_mem _ (List.mem_append_right _ h)) (by decide +kernel))
set_option maxRecDepth 20000 in
theorem gX7_isAsked_X7_isKind : GoodIn wsX7_isAsked (va_wsS RX7 124 yX7_isKind wsX7_isKind) := goodIn_app (goodIn_of _ (by decide +kernel)) ggX7_isAsked_X7_isKind
theorem dX7_isAsked_0 : decode cX7_isAsked 0 = .ok (.iload_n 0, 1) := by decide +kernel
theorem dX7_isAsked_1 : decode cX7_isAsked 1 = .ok (.invokestatic 124, 3) := by decide +kernel
theorem dX7_isAsked_4 : decode cX7_isAsked 4 = .ok (.ifCond .ne 15, 3) := by decide +kernel
theorem dX7_isAsked_7 : decode cX7_isAsked 7 = .ok (.iload_n 0, 1) := by decide +kernel
theorem dX7_isAsked_8 : decode cX7_isAsked 8 = .ok (.bipush 99, 2) := by decide +kernel
theorem dX7_isAsked_10 : decode cX7_isAsked 10 = .ok (.if_icmp .eq 9, 3) := by decide +kernel
theorem dX7_isAsked_13 : decode cX7_isAsked 13 = .ok (.iload_n 0, 1) := by decide +kernel
theorem dX7_isAsked_14 : decode cX7_isAsked 14 = .ok (.bipush 102, 2) := by decide +kernel
theorem dX7_isAsked_16 : decode cX7_isAsked 16 = .ok (.if_icmp .ne 7, 3) := by decide +kernel
theorem dX7_isAsked_19 : decode cX7_isAsked 19 = .ok (.iconst 1, 1) := by decide +kernel
theorem dX7_isAsked_20 : decode cX7_isAsked 20 = .ok (.goto 4, 3) := by decide +kernel
theorem dX7_isAsked_23 : decode cX7_isAsked 23 = .ok (.iconst 0, 1) := by decide +kernel
theorem dX7_isAsked_24 : decode cX7_isAsked 24 = .ok (.ireturn, 1) := by decide +kernel
set_option maxHeartbeats 4000000 in
set_option maxRecDepth 100000 in
theorem isKind_loop {p : Program} {l : Launch} {e : Env} {R : Room} {s : State} {m : MethodId} {args : Array Value} {below : List Frame} {meth : Method} {c : Code} {H : Heap} {locs : List Loc} {cells slots : Nat} {Q : State → Prop} {D : va_G} {cA : ClassId} {q : Nat} {f : Nat → Int32} {a1 : Int32} (hx : p.tables.exec = Jvm.exec) (hb : c.code = cX7_isKind) (hK : va_K D vwCl [(cA, .char)] s) (hP : va_P D vwCl [(q, .inl (cA, 9, .inl f))] H)
    (kk : ∀ (is : Int32) (ls : Array Slot), (is = 0 ∨ is = 1) → lv_has ls 6 [(1, .int is)] → W p l e R s m args below meth c H locs cells slots Q (F0 m 93 ls [])) :
    ∀ (n j : Nat) (is : Int32), j + n = 9 → (is = 0 ∨ is = 1) → ∀ ls : Array Slot, lv_has ls 6 [(0, .int a1), (1, .int is), (2, .ref q), (3, .int 9), (4, .int (nI j))] → W p l e R s m args below meth c H locs cells slots Q (F0 m 61 ls []) := by
  intro n
  induction n with
  | zero =>
    intro j is hj his ls hl
    obtain rfl : j = 9 := by omega
    refine lv_iload hx hb dX7_isKind_61 (lv_at hl 4 rfl) ?_
    refine lv_iload_n hx hb dX7_isKind_63 rfl (lv_at hl 3 rfl) ?_
    refine lv_icmp_ge (tgt := 93) hx hb dX7_isKind_64 (by decide) (fun _ => ?_) (fun c => absurd (by decide) c)
    exact kk is ls his (lv_sub hl [1] rfl)
  | succ n ih =>
    intro j is hj his ls hl
    have hj9 : j < 9 := by omega
    refine lv_iload hx hb dX7_isKind_61 (lv_at hl 4 rfl) ?_
    refine lv_iload_n hx hb dX7_isKind_63 rfl (lv_at hl 3 rfl) ?_
    refine lv_icmp_ge (tgt := 93) hx hb dX7_isKind_64 (by decide) (fun c => absurd c (nI_ge hj9 (by decide))) (fun _ => ?_)
    refine lv_aload_n hx hb dX7_isKind_67 rfl (lv_at hl 2 rfl) ?_
    refine lv_iload hx hb dX7_isKind_68 (lv_at hl 4 rfl) ?_
    refine va_cald hx hb hK hP 0 0 rfl rfl (vp_in_nI hj9 (by decide)) dX7_isKind_70 ?_
    refine lv_topi (fun x5 ex5 => ?_)
    refine lv_istore (lv' := [(5, .int x5), (0, .int a1), (1, .int is), (2, .ref q), (3, .int 9), (4, .int (nI j))]) hx hb dX7_isKind_71 hl (by decide) rfl (fun ls hl => ?_)
    refine lv_iload_n hx hb dX7_isKind_73 rfl (lv_at hl 2 rfl) ?_
    refine lv_iload hx hb dX7_isKind_74 (lv_at hl 0 rfl) ?_
    refine lv_iload_n hx hb dX7_isKind_76 rfl (lv_at hl 1 rfl) ?_
    have K : ∀ b : Int32, (b = 0 ∨ b = 1) → W p l e R s m args below meth c H locs cells slots Q (F0 m 85 ls [.int b, .int is]) := by
      intro b hb1
      refine lv_ior hx hb dX7_isKind_85 ?_
      refine lv_topi (fun x1 ex1 => ?_)
      refine lv_istore_n (lv' := [(1, .int x1), (5, .int x5), (0, .int a1), (2, .ref q), (3, .int 9), (4, .int (nI j))]) hx hb dX7_isKind_86 rfl hl (by decide) rfl (fun ls hl => ?_)
      refine lv_iinc (v := nI (j + 1)) (lv' := [(4, .int (nI (j + 1))), (1, .int x1), (5, .int x5), (0, .int a1), (2, .ref q), (3, .int 9)]) hx hb dX7_isKind_87 hl (k := 5) rfl (nI_1 j) (by decide) rfl (fun ls hl => ?_)
      refine lv_goto (tgt := 61) hx hb dX7_isKind_90 (by decide) ?_
      exact ih (j + 1) x1 (by omega) (by rw [ex1]; rcases his with rfl | rfl <;> rcases hb1 with rfl | rfl <;> decide) ls (lv_sub hl [3, 1, 4, 5, 0] rfl)
    refine lv_icmp_ne (tgt := 84) hx hb dX7_isKind_77 (by decide) (fun _ => ?_) (fun _ => ?_)
    · refine lv_iconst (v := 0) hx hb dX7_isKind_84 (by decide) ?_
      exact K 0 (Or.inl rfl)
    · refine lv_iconst (v := 1) hx hb dX7_isKind_80 (by decide) ?_
      refine lv_goto (tgt := 85) hx hb dX7_isKind_81 (by decide) ?_
      exact K 1 (Or.inr rfl)
set_option maxHeartbeats 4000000 in
set_option maxRecDepth 100000 in
theorem c_X7_isKind (l : Launch) (D : va_G) (sz : Nat) (a1 : Int32) : Met l yX7_isKind wsX7_isKind ({ frames := 10, cells := 1, slots := 9, locals := 100 }) (va_Pc [.int a1] (fun U => U.heap.size = sz ∧ va_K D vwCl [] U)) (va_Qi (fun r9 (_ : Unit) => r9 = 0 ∨ r9 = 1) (fun _ _ => True) (rg0 sz)) 1 9 (rg0 sz) := by
  refine Met.ofW (cc := cX7_isKind) (maxL := 6) (ret := (some .boolean)) (by decide +kernel) rfl ?_
  intro p e s m args below meth c s₁ B hml hv
  obtain ⟨rfl, hsz, hK⟩ := hv
  have hx := B.exec
  have hb := B.bytes
  have hr := B.returns
  have hts := atoms_spec (ws := wsX7_isKind) B.pre
  have hown : s.vm.findClass RX7 = some m.cls := findClass_of_methodNamed B.named
  have hlocks := B.notSynchronized
  subst hsz
  have hA : ∀ q : Nat, s.heap.size ≤ q → rg0 s.heap.size q := fun _ h => h
  have hS : va_S (rg0 s.heap.size) s.heap s.heap [] := va_S.rf
  have hP : va_P D vwCl [] s.heap := fun k q h => by simp at h
  have hD : va_D (rg0 s.heap.size) [] := ⟨fun i j p q h => by simp at h, fun k q h => by simp at h⟩
  have hl := lv_entry ([.int a1]) (n := 6) (Nat.le_of_ble_eq_true rfl)
  rw [lg_entry_eq]
  generalize (lg_sl ([.int a1]) ++ List.replicate (6 - (lg_sl ([.int a1])).length) Slot.unset).toArray = ls at hl ⊢
  have hl : lv_has ls 6 [(0, .int a1)] := hl
  refine lv_iconst (v := 0) hx hb dX7_isKind_0 (by decide) ?_
  refine lv_istore_n (lv' := [(1, .int 0), (0, .int a1)]) hx hb dX7_isKind_1 rfl hl (by decide) rfl (fun ls hl => ?_)
  refine lv_bipush (v := 9) hx hb dX7_isKind_2 (by decide) ?_
  refine va_newa (atype := .char) (ty := .char) (a0 := (9, .inl (fun _ => 0))) hx hb (hts (.arrayClass .char) (by decide +kernel)) rfl hK hP hD hS hA (fun cA => rfl) (by decide) (N' := 9) (by decide) (by decide) (Nat.le_of_ble_eq_true rfl) (Nat.le_of_ble_eq_true rfl) dX7_isKind_4 (fun q cA H hK hP hD hS => ?_)
  have hK : va_K D vwCl [(cA, .char)] s := hK
  have hP : va_P D vwCl [(q, .inl (cA, 9, .inl (fun _ => 0)))] H := hP
  have hD : va_D (rg0 s.heap.size) [(q, .inl (cA, 9, .inl (fun _ => 0)))] := hD
  refine W.widen (k := 1) (n := 9) (by decide) (by decide) ?_
  refine lv_dup hx hb dX7_isKind_6 rfl ?_
  refine lv_iconst (v := 0) hx hb dX7_isKind_7 (by decide) ?_
  refine lv_bipush (v := 46) hx hb dX7_isKind_8 (by decide) ?_
  refine va_cast hx hb hK hP hD hS 0 0 rfl rfl (vp_in_nI (n := 0) (by decide) (by decide)) dX7_isKind_10 (fun H locs hP hD hS => ?_)
  obtain ⟨f1, ef1⟩ : ∃ z, z = upd (fun _ => 0) (0 : Int32).toNatClampNeg (vp_nar .char 46) := ⟨_, rfl⟩
  have hP : va_P D vwCl [(q, .inl (cA, 9, .inl f1))] H := by rw [ef1]; exact hP
  have hD : va_D (rg0 s.heap.size) [(q, .inl (cA, 9, .inl f1))] := by rw [ef1]; exact hD
  refine lv_dup hx hb dX7_isKind_11 rfl ?_
  refine lv_iconst (v := 1) hx hb dX7_isKind_12 (by decide) ?_
  refine lv_bipush (v := 103) hx hb dX7_isKind_13 (by decide) ?_
  refine va_cast hx hb hK hP hD hS 0 0 rfl rfl (vp_in_nI (n := 1) (by decide) (by decide)) dX7_isKind_15 (fun H locs hP hD hS => ?_)
  obtain ⟨f2, ef2⟩ : ∃ z, z = upd f1 (1 : Int32).toNatClampNeg (vp_nar .char 103) := ⟨_, rfl⟩
  have hP : va_P D vwCl [(q, .inl (cA, 9, .inl f2))] H := by rw [ef2]; exact hP
  have hD : va_D (rg0 s.heap.size) [(q, .inl (cA, 9, .inl f2))] := by rw [ef2]; exact hD
  refine lv_dup hx hb dX7_isKind_16 rfl ?_
  refine lv_iconst (v := 2) hx hb dX7_isKind_17 (by decide) ?_
  refine lv_bipush (v := 98) hx hb dX7_isKind_18 (by decide) ?_
  refine va_cast hx hb hK hP hD hS 0 0 rfl rfl (vp_in_nI (n := 2) (by decide) (by decide)) dX7_isKind_20 (fun H locs hP hD hS => ?_)
  obtain ⟨f3, ef3⟩ : ∃ z, z = upd f2 (2 : Int32).toNatClampNeg (vp_nar .char 98) := ⟨_, rfl⟩
  have hP : va_P D vwCl [(q, .inl (cA, 9, .inl f3))] H := by rw [ef3]; exact hP
  have hD : va_D (rg0 s.heap.size) [(q, .inl (cA, 9, .inl f3))] := by rw [ef3]; exact hD
  refine lv_dup hx hb dX7_isKind_21 rfl ?_
  refine lv_iconst (v := 3) hx hb dX7_isKind_22 (by decide) ?_
  refine lv_bipush (v := 100) hx hb dX7_isKind_23 (by decide) ?_
  refine va_cast hx hb hK hP hD hS 0 0 rfl rfl (vp_in_nI (n := 3) (by decide) (by decide)) dX7_isKind_25 (fun H locs hP hD hS => ?_)
  obtain ⟨f4, ef4⟩ : ∃ z, z = upd f3 (3 : Int32).toNatClampNeg (vp_nar .char 100) := ⟨_, rfl⟩
  have hP : va_P D vwCl [(q, .inl (cA, 9, .inl f4))] H := by rw [ef4]; exact hP
  have hD : va_D (rg0 s.heap.size) [(q, .inl (cA, 9, .inl f4))] := by rw [ef4]; exact hD
  refine lv_dup hx hb dX7_isKind_26 rfl ?_
  refine lv_iconst (v := 4) hx hb dX7_isKind_27 (by decide) ?_
  refine lv_bipush (v := 121) hx hb dX7_isKind_28 (by decide) ?_
  refine va_cast hx hb hK hP hD hS 0 0 rfl rfl (vp_in_nI (n := 4) (by decide) (by decide)) dX7_isKind_30 (fun H locs hP hD hS => ?_)
  obtain ⟨f5, ef5⟩ : ∃ z, z = upd f4 (4 : Int32).toNatClampNeg (vp_nar .char 121) := ⟨_, rfl⟩
  have hP : va_P D vwCl [(q, .inl (cA, 9, .inl f5))] H := by rw [ef5]; exact hP
  have hD : va_D (rg0 s.heap.size) [(q, .inl (cA, 9, .inl f5))] := by rw [ef5]; exact hD
  refine lv_dup hx hb dX7_isKind_31 rfl ?_
  refine lv_iconst (v := 5) hx hb dX7_isKind_32 (by decide) ?_
  refine lv_bipush (v := 114) hx hb dX7_isKind_33 (by decide) ?_
  refine va_cast hx hb hK hP hD hS 0 0 rfl rfl (vp_in_nI (n := 5) (by decide) (by decide)) dX7_isKind_35 (fun H locs hP hD hS => ?_)
  obtain ⟨f6, ef6⟩ : ∃ z, z = upd f5 (5 : Int32).toNatClampNeg (vp_nar .char 114) := ⟨_, rfl⟩
  have hP : va_P D vwCl [(q, .inl (cA, 9, .inl f6))] H := by rw [ef6]; exact hP
  have hD : va_D (rg0 s.heap.size) [(q, .inl (cA, 9, .inl f6))] := by rw [ef6]; exact hD
  refine lv_dup hx hb dX7_isKind_36 rfl ?_
  refine lv_bipush (v := 6) hx hb dX7_isKind_37 (by decide) ?_
  refine lv_bipush (v := 119) hx hb dX7_isKind_39 (by decide) ?_
  refine va_cast hx hb hK hP hD hS 0 0 rfl rfl (vp_in_nI (n := 6) (by decide) (by decide)) dX7_isKind_41 (fun H locs hP hD hS => ?_)
  obtain ⟨f7, ef7⟩ : ∃ z, z = upd f6 (6 : Int32).toNatClampNeg (vp_nar .char 119) := ⟨_, rfl⟩
  have hP : va_P D vwCl [(q, .inl (cA, 9, .inl f7))] H := by rw [ef7]; exact hP
  have hD : va_D (rg0 s.heap.size) [(q, .inl (cA, 9, .inl f7))] := by rw [ef7]; exact hD
  refine lv_dup hx hb dX7_isKind_42 rfl ?_
  refine lv_bipush (v := 7) hx hb dX7_isKind_43 (by decide) ?_
  refine lv_bipush (v := 112) hx hb dX7_isKind_45 (by decide) ?_
  refine va_cast hx hb hK hP hD hS 0 0 rfl rfl (vp_in_nI (n := 7) (by decide) (by decide)) dX7_isKind_47 (fun H locs hP hD hS => ?_)
  obtain ⟨f8, ef8⟩ : ∃ z, z = upd f7 (7 : Int32).toNatClampNeg (vp_nar .char 112) := ⟨_, rfl⟩
  have hP : va_P D vwCl [(q, .inl (cA, 9, .inl f8))] H := by rw [ef8]; exact hP
  have hD : va_D (rg0 s.heap.size) [(q, .inl (cA, 9, .inl f8))] := by rw [ef8]; exact hD
  refine lv_dup hx hb dX7_isKind_48 rfl ?_
  refine lv_bipush (v := 8) hx hb dX7_isKind_49 (by decide) ?_
  refine lv_bipush (v := 111) hx hb dX7_isKind_51 (by decide) ?_
  refine va_cast hx hb hK hP hD hS 0 0 rfl rfl (vp_in_nI (n := 8) (by decide) (by decide)) dX7_isKind_53 (fun H locs hP hD hS => ?_)
  obtain ⟨f9, ef9⟩ : ∃ z, z = upd f8 (8 : Int32).toNatClampNeg (vp_nar .char 111) := ⟨_, rfl⟩
  have hP : va_P D vwCl [(q, .inl (cA, 9, .inl f9))] H := by rw [ef9]; exact hP
  have hD : va_D (rg0 s.heap.size) [(q, .inl (cA, 9, .inl f9))] := by rw [ef9]; exact hD
  refine lv_astore_n (lv' := [(2, .ref q), (1, .int 0), (0, .int a1)]) hx hb dX7_isKind_54 rfl hl (by decide) rfl (fun ls hl => ?_)
  refine lv_aload_n hx hb dX7_isKind_55 rfl (lv_at hl 0 rfl) ?_
  refine va_alen hx hb hK hP 0 0 rfl rfl (v := 9) (by show Int32.ofNat 9 = 9; decide) dX7_isKind_56 ?_
  refine lv_istore_n (lv' := [(3, .int 9), (2, .ref q), (1, .int 0), (0, .int a1)]) hx hb dX7_isKind_57 rfl hl (by decide) rfl (fun ls hl => ?_)
  refine lv_iconst (v := 0) hx hb dX7_isKind_58 (by decide) ?_
  refine lv_istore (lv' := [(4, .int 0), (3, .int 9), (2, .ref q), (1, .int 0), (0, .int a1)]) hx hb dX7_isKind_59 hl (by decide) rfl (fun ls hl => ?_)
  exact isKind_loop hx hb hK hP (fun is ls his hl => by
    refine lv_iload_n hx hb dX7_isKind_93 rfl (lv_at hl 0 rfl) ?_
    exact W.zret (v := is) (ty := .boolean) hx hb hr (by rcases his with rfl | rfl <;> decide) (fun t ht hW => ⟨⟨is, (), rfl, his, trivial⟩, hS.F ht⟩) hS.2.2 dX7_isKind_94) 9 0 0 (by decide) (Or.inl rfl) ls (lv_sub hl [4, 3, 2, 1, 0] rfl)
set_option maxHeartbeats 4000000 in
set_option maxRecDepth 100000 in
theorem c_X7_isAsked (l : Launch) (D : va_G) (sz : Nat) (a1 : Int32) : Met l yX7_isAsked wsX7_isAsked ({ frames := 20, cells := 1, slots := 9, locals := 200 }) (va_Pc [.int a1] (fun U => U.heap.size = sz ∧ va_K D vwCl [] U)) (va_Qi (fun r9 (_ : Unit) => r9 = 0 ∨ r9 = 1) (fun _ _ => True) (rg0 sz)) 1 9 (rg0 sz) := by
  refine Met.ofW (cc := cX7_isAsked) (maxL := 1) (ret := (some .boolean)) (by decide +kernel) rfl ?_
  intro p e s m args below meth c s₁ B hml hv
  obtain ⟨rfl, hsz, hK⟩ := hv
  have hx := B.exec
  have hb := B.bytes
  have hr := B.returns
  have hts := atoms_spec (ws := wsX7_isAsked) B.pre
  have hown : s.vm.findClass RX7 = some m.cls := findClass_of_methodNamed B.named
  have hlocks := B.notSynchronized
  subst hsz
  have hA : ∀ q : Nat, s.heap.size ≤ q → rg0 s.heap.size q := fun _ h => h
  have hS : va_S (rg0 s.heap.size) s.heap s.heap [] := va_S.rf
  have hP : va_P D vwCl [] s.heap := fun k q h => by simp at h
  have hl := lv_entry ([.int a1]) (n := 1) (Nat.le_of_ble_eq_true rfl)
  rw [lg_entry_eq]
  generalize (lg_sl ([.int a1]) ++ List.replicate (1 - (lg_sl ([.int a1])).length) Slot.unset).toArray = ls at hl ⊢
  have hl : lv_has ls 1 [(0, .int a1)] := hl
  refine lv_iload_n hx hb dX7_isAsked_0 rfl (lv_at hl 0 rfl) ?_
  have hKc := hK.sub (tys' := []) [] rfl
  refine va_calli (va_runS (As := [.int a1]) (rest := []) ⟨hx, hb, hml, hown, hts⟩ (c_X7_isKind l D s.heap.size a1) (va_cwS 1 hts gX7_isAsked_X7_isKind rfl rfl rfl (by decide +kernel) ⟨Nat.le_of_ble_eq_true rfl, Nat.le_of_ble_eq_true rfl⟩) ⟨fun a U g mk q => ⟨q.1, q.2.1, va_K.moved (u := U) (U := U.calling g mk a) (Vm.Alike.refl U.vm) q.2.2⟩, fun U hU hW => ⟨rfl, by rw [hU], va_K.moved hW.alike hKc⟩⟩ rfl rfl hl.1 rfl (lv_room (Nat.le_of_ble_eq_true rfl)) dX7_isAsked_1 ⟨Nat.le_of_ble_eq_true rfl, Nat.le_of_ble_eq_true rfl⟩) hS (fun q h1 h2 => absurd h1 (Nat.not_lt.mpr h2)) (fun q h => hA q (Nat.le_trans hS.1 h)) (fun k1 u t H1 locs ht hvm hk1 hB hz1 hk1 hS => ?_)
  have hP := va_kept0 hP hk1
  generalize H1 = H at hP hS ⊢
  have hP : va_P D vwCl [] H := hP
  refine W.widen (k := 1) (n := 9) (by decide) (by decide) ?_
  refine lv_if_ne (tgt := 19) hx hb dX7_isAsked_4 (by decide) (fun c_2 => ?_) (fun c_2 => ?_)
  · skip
    refine lv_iconst (v := 1) hx hb dX7_isAsked_19 (by decide) ?_
    refine lv_goto (tgt := 24) hx hb dX7_isAsked_20 (by decide) ?_
    exact W.zret (v := 1) (ty := .boolean) hx hb hr (by decide) (fun t ht hW => ⟨⟨1, (), rfl, Or.inr rfl, trivial⟩, hS.F ht⟩) hS.2.2 dX7_isAsked_24
  · skip
    refine lv_iload_n hx hb dX7_isAsked_7 rfl (lv_at hl 0 rfl) ?_
    refine lv_bipush (v := 99) hx hb dX7_isAsked_8 (by decide) ?_
    refine lv_icmp_eq (tgt := 19) hx hb dX7_isAsked_10 (by decide) (fun c_3 => ?_) (fun c_3 => ?_)
    · skip
      refine lv_iconst (v := 1) hx hb dX7_isAsked_19 (by decide) ?_
      refine lv_goto (tgt := 24) hx hb dX7_isAsked_20 (by decide) ?_
      exact W.zret (v := 1) (ty := .boolean) hx hb hr (by decide) (fun t ht hW => ⟨⟨1, (), rfl, Or.inr rfl, trivial⟩, hS.F ht⟩) hS.2.2 dX7_isAsked_24
    · skip
      refine lv_iload_n hx hb dX7_isAsked_13 rfl (lv_at hl 0 rfl) ?_
      refine lv_bipush (v := 102) hx hb dX7_isAsked_14 (by decide) ?_
      refine lv_icmp_ne (tgt := 23) hx hb dX7_isAsked_16 (by decide) (fun c_4 => ?_) (fun c_4 => ?_)
      · skip
        refine lv_iconst (v := 0) hx hb dX7_isAsked_23 (by decide) ?_
        exact W.zret (v := 0) (ty := .boolean) hx hb hr (by decide) (fun t ht hW => ⟨⟨0, (), rfl, Or.inl rfl, trivial⟩, hS.F ht⟩) hS.2.2 dX7_isAsked_24
      · skip
        refine lv_iconst (v := 1) hx hb dX7_isAsked_19 (by decide) ?_
        refine lv_goto (tgt := 24) hx hb dX7_isAsked_20 (by decide) ?_
        exact W.zret (v := 1) (ty := .boolean) hx hb hr (by decide) (fun t ht hW => ⟨⟨1, (), rfl, Or.inr rfl, trivial⟩, hS.F ht⟩) hS.2.2 dX7_isAsked_24
set_option maxHeartbeats 4000000 in
set_option maxRecDepth 100000 in
theorem c_X7_thrown (l : Launch) (D : va_G) (h0 : Nat) (fs : List Value) (k : Int32) (hfs : fs[30]? = some (.int k)) (sz : Nat) : Met l yX7_thrown wsX7_thrown ({ frames := 5, cells := 0, slots := 0, locals := 50 }) (va_Pc [.ref h0] (fun U => U.heap.size = sz ∧ va_P D vwCl [(h0, .inr (13, fs))] U.heap ∧ va_K D vwCl [] U)) (va_Qi (fun r9 (_ : Unit) => r9 = k) (fun _ _ => True) (rg0 sz)) 0 0 (rg0 sz) := by
  refine Met.ofW (cc := cX7_thrown) (maxL := 1) (ret := (some .int)) (by decide +kernel) rfl ?_
  intro p e s m args below meth c s₁ B hml hv
  obtain ⟨rfl, hsz, hP, hK⟩ := hv
  have hx := B.exec
  have hb := B.bytes
  have hr := B.returns
  have hts := atoms_spec (ws := wsX7_thrown) B.pre
  have hown : s.vm.findClass RX7 = some m.cls := findClass_of_methodNamed B.named
  have hlocks := B.notSynchronized
  subst hsz
  have hS : va_S (rg0 s.heap.size) s.heap s.heap [] := va_S.rf
  have hl := lv_entry ([.ref h0]) (n := 1) (Nat.le_of_ble_eq_true rfl)
  rw [lg_entry_eq]
  generalize (lg_sl ([.ref h0]) ++ List.replicate (1 - (lg_sl ([.ref h0])).length) Slot.unset).toArray = ls at hl ⊢
  have hl : lv_has ls 1 [(0, .ref h0)] := hl
  refine lv_aload_n hx hb dX7_thrown_0 rfl (lv_at hl 0 rfl) ?_
  refine va_get (D := D) (ci := 13) (v := .int k) (C := RX7) (T := TX7) (N := 31) hx hb hts (by decide +kernel) hown hK hP 0 rfl rfl 30 (by decide) (hts (.fieldLink RX7 79 "FairwayChanceryModel" "thrown" "I") (by decide +kernel)) (fun _ h9 => h9) hfs dX7_thrown_1 ?_
  exact W.iret (v := k) hx hb hr (fun t ht hW => ⟨⟨k, (), rfl, rfl, trivial⟩, hS.F ht⟩) hS.2.2 dX7_thrown_4
