set_option maxRecDepth 20000 in
theorem ggX6_init_X3_init : GoodIn wsX6_init wsX3_init := goodIn_ca (goodIn_r _ [23, 24, 2, 3, 25, 26, 79, 80, 81, 82, 83, 84] (by decide +kernel) (by decide +kernel)) (goodIn_sub (fun _ h => List.mem_cons_of_mem _ (List.mem_append_right _ h)) (by decide +kernel))
set_option maxRecDepth 20000 in
theorem gX6_init_X3_init : GoodIn wsX6_init (wsX3_init) := ggX6_init_X3_init
set_option maxRecDepth 20000 in
theorem ggX6_init_X5_init : GoodIn wsX6_init wsX5_init := goodIn_r _ [29, 30, 2, 3, 31, 32, 33, 34, 35, 36, 37, 38, 39, 40, 41, 42, 43, 44, 45, 46, 47, 48, 49, 12, 50, 51, 52, 53, 54, 55, 56, 57, 95, 96, 97, 98, 99, 100, 101, 102, 103, 104, 105, 106, 107, 108, 109, 110, 85, 86, 87, 88, 111, 112, 113, 114, 115, 116, 117, 118, 119, 120] (by decide +kernel) (by decide +kernel)
set_option maxRecDepth 20000 in
theorem gX6_init_X5_init : GoodIn wsX6_init (wsX5_init) := ggX6_init_X5_init
set_option maxRecDepth 20000 in
theorem ggX6_init_X4_init : GoodIn wsX6_init wsX4_init := goodIn_r _ [60, 61, 2, 3, 62, 32, 33, 63, 64, 43, 44, 45, 95, 96, 97, 98, 99, 100, 101, 102, 103, 104, 105, 106, 107, 108, 109, 110, 89, 90, 91, 92, 93, 94] (by decide +kernel) (by decide +kernel)
set_option maxRecDepth 20000 in
theorem gX6_init_X4_init : GoodIn wsX6_init (wsX4_init) := ggX6_init_X4_init
theorem dX6_init_0 : decode cX6_init 0 = .ok (.aload_n 0, 1) := by decide +kernel
theorem dX6_init_1 : decode cX6_init 1 = .ok (.invokespecial 3, 3) := by decide +kernel
theorem dX6_init_4 : decode cX6_init 4 = .ok (.aload_n 0, 1) := by decide +kernel
theorem dX6_init_5 : decode cX6_init 5 = .ok (.bipush 9, 2) := by decide +kernel
theorem dX6_init_7 : decode cX6_init 7 = .ok (.anewarray 9, 3) := by decide +kernel
theorem dX6_init_10 : decode cX6_init 10 = .ok (.putfield 11, 3) := by decide +kernel
theorem dX6_init_13 : decode cX6_init 13 = .ok (.iconst 0, 1) := by decide +kernel
theorem dX6_init_14 : decode cX6_init 14 = .ok (.istore_n 1, 1) := by decide +kernel
theorem dX6_init_15 : decode cX6_init 15 = .ok (.iload_n 1, 1) := by decide +kernel
theorem dX6_init_16 : decode cX6_init 16 = .ok (.bipush 9, 2) := by decide +kernel
theorem dX6_init_18 : decode cX6_init 18 = .ok (.if_icmp .ge 22, 3) := by decide +kernel
theorem dX6_init_21 : decode cX6_init 21 = .ok (.aload_n 0, 1) := by decide +kernel
theorem dX6_init_22 : decode cX6_init 22 = .ok (.getfield 11, 3) := by decide +kernel
theorem dX6_init_25 : decode cX6_init 25 = .ok (.iload_n 1, 1) := by decide +kernel
theorem dX6_init_26 : decode cX6_init 26 = .ok (.new 9, 3) := by decide +kernel
theorem dX6_init_29 : decode cX6_init 29 = .ok (.dup, 1) := by decide +kernel
theorem dX6_init_30 : decode cX6_init 30 = .ok (.invokespecial 15, 3) := by decide +kernel
theorem dX6_init_33 : decode cX6_init 33 = .ok (.aastore, 1) := by decide +kernel
theorem dX6_init_34 : decode cX6_init 34 = .ok (.iinc 1 1, 3) := by decide +kernel
theorem dX6_init_37 : decode cX6_init 37 = .ok (.goto (-22), 3) := by decide +kernel
theorem dX6_init_40 : decode cX6_init 40 = .ok (.aload_n 0, 1) := by decide +kernel
theorem dX6_init_41 : decode cX6_init 41 = .ok (.bipush 6, 2) := by decide +kernel
theorem dX6_init_43 : decode cX6_init 43 = .ok (.anewarray 16, 3) := by decide +kernel
theorem dX6_init_46 : decode cX6_init 46 = .ok (.putfield 18, 3) := by decide +kernel
theorem dX6_init_49 : decode cX6_init 49 = .ok (.iconst 0, 1) := by decide +kernel
theorem dX6_init_50 : decode cX6_init 50 = .ok (.istore_n 1, 1) := by decide +kernel
theorem dX6_init_51 : decode cX6_init 51 = .ok (.iload_n 1, 1) := by decide +kernel
theorem dX6_init_52 : decode cX6_init 52 = .ok (.bipush 6, 2) := by decide +kernel
theorem dX6_init_54 : decode cX6_init 54 = .ok (.if_icmp .ge 22, 3) := by decide +kernel
theorem dX6_init_57 : decode cX6_init 57 = .ok (.aload_n 0, 1) := by decide +kernel
theorem dX6_init_58 : decode cX6_init 58 = .ok (.getfield 18, 3) := by decide +kernel
theorem dX6_init_61 : decode cX6_init 61 = .ok (.iload_n 1, 1) := by decide +kernel
theorem dX6_init_62 : decode cX6_init 62 = .ok (.new 16, 3) := by decide +kernel
theorem dX6_init_65 : decode cX6_init 65 = .ok (.dup, 1) := by decide +kernel
theorem dX6_init_66 : decode cX6_init 66 = .ok (.invokespecial 22, 3) := by decide +kernel
theorem dX6_init_69 : decode cX6_init 69 = .ok (.aastore, 1) := by decide +kernel
theorem dX6_init_70 : decode cX6_init 70 = .ok (.iinc 1 1, 3) := by decide +kernel
theorem dX6_init_73 : decode cX6_init 73 = .ok (.goto (-22), 3) := by decide +kernel
theorem dX6_init_76 : decode cX6_init 76 = .ok (.aload_n 0, 1) := by decide +kernel
theorem dX6_init_77 : decode cX6_init 77 = .ok (.bipush 6, 2) := by decide +kernel
theorem dX6_init_79 : decode cX6_init 79 = .ok (.newarray .int, 2) := by decide +kernel
theorem dX6_init_81 : decode cX6_init 81 = .ok (.putfield 23, 3) := by decide +kernel
theorem dX6_init_84 : decode cX6_init 84 = .ok (.aload_n 0, 1) := by decide +kernel
theorem dX6_init_85 : decode cX6_init 85 = .ok (.new 27, 3) := by decide +kernel
theorem dX6_init_88 : decode cX6_init 88 = .ok (.dup, 1) := by decide +kernel
theorem dX6_init_89 : decode cX6_init 89 = .ok (.invokespecial 29, 3) := by decide +kernel
theorem dX6_init_92 : decode cX6_init 92 = .ok (.putfield 30, 3) := by decide +kernel
theorem dX6_init_95 : decode cX6_init 95 = .ok (.aload_n 0, 1) := by decide +kernel
theorem dX6_init_96 : decode cX6_init 96 = .ok (.iconst 1, 1) := by decide +kernel
theorem dX6_init_97 : decode cX6_init 97 = .ok (.putfield 34, 3) := by decide +kernel
theorem dX6_init_100 : decode cX6_init 100 = .ok (.aload_n 0, 1) := by decide +kernel
theorem dX6_init_101 : decode cX6_init 101 = .ok (.bipush 110, 2) := by decide +kernel
theorem dX6_init_103 : decode cX6_init 103 = .ok (.putfield 38, 3) := by decide +kernel
theorem dX6_init_106 : decode cX6_init 106 = .ok (.aload_n 0, 1) := by decide +kernel
theorem dX6_init_107 : decode cX6_init 107 = .ok (.bipush 115, 2) := by decide +kernel
theorem dX6_init_109 : decode cX6_init 109 = .ok (.putfield 42, 3) := by decide +kernel
theorem dX6_init_112 : decode cX6_init 112 = .ok (.return_, 1) := by decide +kernel
set_option maxHeartbeats 4000000 in
set_option maxRecDepth 100000 in
theorem c_X6_init (l : Launch) (D : va_G) (h0 : Nat) (sz : Nat) : Met l yX6_init wsX6_init ({ frames := 40, cells := 71, slots := 5959, locals := 400 }) (va_Pc [.ref h0] (fun U => U.heap.size = sz ∧ va_P D vwCl [(h0, .inr (12, [.null, .null, .null, .null, .int 0, .int 0, .int 0, .int 0, .int 0, .int 0, .int 0, .int 0, .int 0, .int 0]))] U.heap ∧ va_K D vwCl [] U ∧ va_Nw (.methodLinkNest RX5 9 yX0_init "FairwayChancery") U ∧ va_Nw (.methodLinkNest RX4 11 yX0_init "FairwayChancery") U ∧ va_AO RX3 U ∧ va_AO RX5 U)) (va_Qv (fun u : (Nat → Nat) × Nat × Nat × ClassId × (Nat → Option Nat) => u.2.2.2.2 0 = some u.2.1) (fun u t => va_P D vwCl (WH6 h0 u.1 u.2.1 u.2.2.1 u.2.2.2.1 u.2.2.2.2) t.heap ∧ va_K D vwCl [(u.2.2.2.1, .object "FairwayChancery$Hole")] t ∧ va_D (rg1 h0 sz) (WH6 h0 u.1 u.2.1 u.2.2.1 u.2.2.2.1 u.2.2.2.2)) (rg1 h0 sz)) 71 5959 (rg1 h0 sz) := by
  refine Met.ofW (cc := cX6_init) (maxL := 2) (ret := none) (by decide +kernel) rfl ?_
  intro p e s m args below meth c s₁ B hml hv
  obtain ⟨rfl, hsz, hP, hK, hN5, hN4, hAO3, hAO5⟩ := hv
  have hx := B.exec
  have hb := B.bytes
  have hr := B.returns
  have hts := atoms_spec (ws := wsX6_init) B.pre
  have hown : s.vm.findClass RX6 = some m.cls := findClass_of_methodNamed B.named
  have hlocks := B.notSynchronized
  have hin : meth.name = "<init>" := (name_of_methodNamed B.named B.method).1
  subst hsz
  have hD : va_D (rg1 h0 s.heap.size) [(h0, .inr (12, [.null, .null, .null, .null, .int 0, .int 0, .int 0, .int 0, .int 0, .int 0, .int 0, .int 0, .int 0, .int 0]))] := rg1_D
  generalize hAe : rg1 h0 s.heap.size = A at hD ⊢
  have hA : ∀ q : Nat, s.heap.size ≤ q → A q := fun q h => by rw [← hAe]; exact Or.inr h
  have hS : va_S A s.heap s.heap [] := va_S.rf
  have hP : va_P D vwCl [(h0, .inr (12, [.null, .null, .null, .null, .int 0, .int 0, .int 0, .int 0, .int 0, .int 0, .int 0, .int 0, .int 0, .int 0]))] s.heap := hP
  have hl := lv_entry ([.ref h0]) (n := 2) (Nat.le_of_ble_eq_true rfl)
  rw [lg_entry_eq]
  generalize (lg_sl ([.ref h0]) ++ List.replicate (2 - (lg_sl ([.ref h0])).length) Slot.unset).toArray = ls at hl ⊢
  have hl : lv_has ls 2 [(0, .ref h0)] := hl
  refine lv_aload_n hx hb dX6_init_0 rfl (lv_at hl 0 rfl) ?_
  refine W.objInit hx hb hown (hts (.methodLink RX6 3 objectInit) (by decide +kernel)) (hts (.instanceMethod objectInit) (by decide +kernel)) (hts (.code objectInit ⟨#[0xb1]⟩ 1 none) (by decide +kernel)) rfl (by rw [hml]; exact hl.1) rfl dX6_init_1 (Nat.le_of_ble_eq_true rfl) (Nat.le_of_ble_eq_true rfl) ?_
  refine W.eq (g2 := F0 m 4 ls []) rfl ?_
  refine lv_aload_n hx hb dX6_init_4 rfl (lv_at hl 0 rfl) ?_
  refine lv_bipush (v := 9) hx hb dX6_init_5 (by decide) ?_
  refine va_newq hx hb hown (hts (.classLink RX6 9 RX3) (by decide +kernel)) hAO3 hK hP hD hS hA (by decide) (N' := 9) (by decide) (by decide) (Nat.le_of_ble_eq_true rfl) (Nat.le_of_ble_eq_true rfl) dX6_init_7 (fun q1 c1 H hK hP hD hS => ?_)
  have hK : va_K D vwCl [(c1, .object "FairwayChancery$Hole")] s := hK
  have hP : va_P D vwCl [(h0, .inr (12, [.null, .null, .null, .null, .int 0, .int 0, .int 0, .int 0, .int 0, .int 0, .int 0, .int 0, .int 0, .int 0])), (q1, .inl (c1, 9, .inr (.inr (.inr (.inr (fun _ => none))))))] H := hP
  have hD : va_D A [(h0, .inr (12, [.null, .null, .null, .null, .int 0, .int 0, .int 0, .int 0, .int 0, .int 0, .int 0, .int 0, .int 0, .int 0])), (q1, .inl (c1, 9, .inr (.inr (.inr (.inr (fun _ => none))))))] := hD
  refine W.widen (k := 1) (n := 9) (by decide) (by decide) ?_
  refine va_putF (D := D) (ci := 12) (v := .ref q1) (ty := (.array (.object "FairwayChancery$Hole"))) (C := RX6) (T := TX6) (N := 14) hx hb hts (by decide +kernel) tyX6 tyX6_ok nmX6 hown hK hP hD hS 0 rfl rfl 0 (by decide) (hts (.fieldLink RX6 11 "FairwayChancery" "holes" "[LFairwayChancery$Hole;") (by decide +kernel)) (fun _ h9 => h9) rfl hin rfl (by decide +kernel) rfl rfl (Nat.le_of_ble_eq_true rfl) dX6_init_10 (fun H locs hP hD hS => ?_)
  have hP : va_P D vwCl [(h0, .inr (12, [.ref q1, .null, .null, .null, .int 0, .int 0, .int 0, .int 0, .int 0, .int 0, .int 0, .int 0, .int 0, .int 0])), (q1, .inl (c1, 9, .inr (.inr (.inr (.inr (fun _ => none))))))] H := hP
  have hD : va_D A [(h0, .inr (12, [.ref q1, .null, .null, .null, .int 0, .int 0, .int 0, .int 0, .int 0, .int 0, .int 0, .int 0, .int 0, .int 0])), (q1, .inl (c1, 9, .inr (.inr (.inr (.inr (fun _ => none))))))] := hD
  refine lv_iconst (v := 0) hx hb dX6_init_13 (by decide) ?_
  refine lv_istore_n (lv' := [(1, .int 0), (0, .ref h0)]) hx hb dX6_init_14 rfl hl (by decide) rfl (fun ls hl => ?_)
  refine lv_iload_n hx hb dX6_init_15 rfl (lv_at hl 0 rfl) ?_
  refine lv_bipush (v := 9) hx hb dX6_init_16 (by decide) ?_
  refine lv_icmp_ge (tgt := 40) hx hb dX6_init_18 (by decide) (fun c => by first | exact absurd c (by decide) | exact absurd (by decide) c) (fun _ => ?_)
  refine lv_aload_n hx hb dX6_init_21 rfl (lv_at hl 1 rfl) ?_
  refine va_get (D := D) (ci := 12) (v := .ref q1) (C := RX6) (T := TX6) (N := 14) hx hb hts (by decide +kernel) hown hK hP 0 rfl rfl 0 (by decide) (hts (.fieldLink RX6 11 "FairwayChancery" "holes" "[LFairwayChancery$Hole;") (by decide +kernel)) (fun _ h9 => h9) rfl dX6_init_22 ?_
  refine lv_iload_n hx hb dX6_init_25 rfl (lv_at hl 0 rfl) ?_
  refine va_new (ci := 9) (fs := [.null, .int 0, .int 0, .int 0, .int 0, .int 0]) (C := RX3) (T := TX3) (N := 6) hx hb hts (by decide +kernel) tyX3 tyX3_ok hown (hts (.classLink RX6 9 RX3) (by decide +kernel)) (hts (.instantiable RX3 6) (by decide +kernel)) (hts (.initialized RX3) (by decide +kernel)) hK hP hD hS hA rfl (fun j hj => match j, hj with | 0, _ => rfl | 1, _ => rfl | 2, _ => rfl | 3, _ => rfl | 4, _ => rfl | 5, _ => rfl | n + 6, h => absurd h (by omega)) (Nat.le_of_ble_eq_true rfl) (Nat.le_of_ble_eq_true rfl) dX6_init_26 (fun q3 H hP hD hS => ?_)
  have hP : va_P D vwCl [(h0, .inr (12, [.ref q1, .null, .null, .null, .int 0, .int 0, .int 0, .int 0, .int 0, .int 0, .int 0, .int 0, .int 0, .int 0])), (q1, .inl (c1, 9, .inr (.inr (.inr (.inr (fun _ => none)))))), (q3, .inr (9, [.null, .int 0, .int 0, .int 0, .int 0, .int 0]))] H := hP
  have hD : va_D A [(h0, .inr (12, [.ref q1, .null, .null, .null, .int 0, .int 0, .int 0, .int 0, .int 0, .int 0, .int 0, .int 0, .int 0, .int 0])), (q1, .inl (c1, 9, .inr (.inr (.inr (.inr (fun _ => none)))))), (q3, .inr (9, [.null, .int 0, .int 0, .int 0, .int 0, .int 0]))] := hD
  refine W.widen (k := 2) (n := 15) (by decide) (by decide) ?_
  refine lv_dup hx hb dX6_init_29 rfl ?_
  have hP := hP.sub (ws' := [(q3, .inr (9, [.null, .int 0, .int 0, .int 0, .int 0, .int 0])), (h0, .inr (12, [.ref q1, .null, .null, .null, .int 0, .int 0, .int 0, .int 0, .int 0, .int 0, .int 0, .int 0, .int 0, .int 0])), (q1, .inl (c1, 9, .inr (.inr (.inr (.inr (fun _ => none))))))]) [2, 0, 1] rfl
  have hD := hD.sub (ws' := [(q3, .inr (9, [.null, .int 0, .int 0, .int 0, .int 0, .int 0])), (h0, .inr (12, [.ref q1, .null, .null, .null, .int 0, .int 0, .int 0, .int 0, .int 0, .int 0, .int 0, .int 0, .int 0, .int 0])), (q1, .inl (c1, 9, .inr (.inr (.inr (.inr (fun _ => none))))))]) [2, 0, 1] (by decide) rfl
  have hPc := hP.sub (ws' := [(q3, .inr (9, [.null, .int 0, .int 0, .int 0, .int 0, .int 0]))]) [0] rfl
  have hKc := hK.sub (tys' := []) [] rfl
  have hFc : ∀ q : Nat, rg1 q3 H.size q → A q := fun q h => h.elim (fun e => by rw [e]; exact hD.2 0 _ rfl) (fun h => hA q (Nat.le_trans hS.1 h))
  refine va_callv (va_runI (As := []) (rest := [.ref q3, .int 0, .ref q1]) ⟨hx, hb, hml, hown, hts⟩ (c_X3_init l D q3 H.size) (cwI 0 hts gX6_init_X3_init rfl rfl rfl (hts (.initialized RX3) (by decide +kernel)) (hts (.methodLink RX6 15 yX3_init) (by decide +kernel)) (hts (.instanceMethod yX3_init) (by decide +kernel)) rfl (by decide +kernel) ⟨Nat.le_of_ble_eq_true rfl, Nat.le_of_ble_eq_true rfl⟩) ⟨fun a U g mk q => ⟨q.1, q.2.1, q.2.2.1, va_K.moved (u := U) (U := U.calling g mk a) (Vm.Alike.refl U.vm) q.2.2.2⟩, fun U hU hW => ⟨rfl, congrArg Array.size hU, by rw [hU]; exact hPc, va_K.moved hW.alike hKc⟩⟩ rfl rfl hl.1 rfl (lv_room (Nat.le_of_ble_eq_true rfl)) dX6_init_30 ⟨Nat.le_of_ble_eq_true rfl, Nat.le_of_ble_eq_true rfl⟩) hS (fun q _ h => hFc q h) hFc (fun u t H1 locs ht hvm hw hB hz1 hk1 hS => ?_)
  obtain ⟨u4, eu4⟩ : ∃ z, z = u := ⟨_, rfl⟩
  rw [ht, ← eu4] at hB
  have hP := va_keep1 hP hD hB hk1
  have hD := va_keep1D (e' := .inr (9, [.ref u4, .int 0, .int 0, .int 0, .int 0, .int 0])) hD
  generalize H1 = H at hP hS ⊢
  have hP : va_P D vwCl [(q3, .inr (9, [.ref u4, .int 0, .int 0, .int 0, .int 0, .int 0])), (h0, .inr (12, [.ref q1, .null, .null, .null, .int 0, .int 0, .int 0, .int 0, .int 0, .int 0, .int 0, .int 0, .int 0, .int 0])), (q1, .inl (c1, 9, .inr (.inr (.inr (.inr (fun _ => none))))))] H := hP
  have hD : va_D A [(q3, .inr (9, [.ref u4, .int 0, .int 0, .int 0, .int 0, .int 0])), (h0, .inr (12, [.ref q1, .null, .null, .null, .int 0, .int 0, .int 0, .int 0, .int 0, .int 0, .int 0, .int 0, .int 0, .int 0])), (q1, .inl (c1, 9, .inr (.inr (.inr (.inr (fun _ => none))))))] := hD
  refine W.widen (k := 3) (n := 615) (by decide) (by decide) ?_
  refine va_astq hx hb hK hP hD hS 2 0 0 9 rfl rfl rfl rfl (vp_in_nI (n := 0) (by decide) (by decide)) dX6_init_33 (fun H locs hP hD hS => ?_)
  have hP : va_P D vwCl [(q3, .inr (9, [.ref u4, .int 0, .int 0, .int 0, .int 0, .int 0])), (h0, .inr (12, [.ref q1, .null, .null, .null, .int 0, .int 0, .int 0, .int 0, .int 0, .int 0, .int 0, .int 0, .int 0, .int 0])), (q1, .inl (c1, 9, .inr (.inr (.inr (.inr (va_up (fun _ => none) (0 : Int32).toNatClampNeg (some q3)))))))] H := hP
  have hD : va_D A [(q3, .inr (9, [.ref u4, .int 0, .int 0, .int 0, .int 0, .int 0])), (h0, .inr (12, [.ref q1, .null, .null, .null, .int 0, .int 0, .int 0, .int 0, .int 0, .int 0, .int 0, .int 0, .int 0, .int 0])), (q1, .inl (c1, 9, .inr (.inr (.inr (.inr (va_up (fun _ => none) (0 : Int32).toNatClampNeg (some q3)))))))] := hD
  have hf : va_up (fun _ => none) (0 : Int32).toNatClampNeg (some q3) 0 = some q3 := by unfold va_up; rw [if_pos (by decide)]
  generalize va_up (fun _ => none) (0 : Int32).toNatClampNeg (some q3) = f5 at hP hD hf
  have hP := hP.sub (ws' := [(h0, .inr (12, [.ref q1, .null, .null, .null, .int 0, .int 0, .int 0, .int 0, .int 0, .int 0, .int 0, .int 0, .int 0, .int 0])), (q1, .inl (c1, 9, .inr (.inr (.inr (.inr f5))))), (q3, .inr (9, [.ref u4, .int 0, .int 0, .int 0, .int 0, .int 0]))]) [1, 2, 0] rfl
  have hD := hD.sub (ws' := [(h0, .inr (12, [.ref q1, .null, .null, .null, .int 0, .int 0, .int 0, .int 0, .int 0, .int 0, .int 0, .int 0, .int 0, .int 0])), (q1, .inl (c1, 9, .inr (.inr (.inr (.inr f5))))), (q3, .inr (9, [.ref u4, .int 0, .int 0, .int 0, .int 0, .int 0]))]) [1, 2, 0] (by decide) rfl
  have hP : va_P D vwCl [(h0, .inr (12, [.ref q1, .null, .null, .null, .int 0, .int 0, .int 0, .int 0, .int 0, .int 0, .int 0, .int 0, .int 0, .int 0])), (q1, .inl (c1, 9, .inr (.inr (.inr (.inr f5))))), (q3, .inr (9, [.ref u4, .int 0, .int 0, .int 0, .int 0, .int 0]))] H := hP
  have hD : va_D A [(h0, .inr (12, [.ref q1, .null, .null, .null, .int 0, .int 0, .int 0, .int 0, .int 0, .int 0, .int 0, .int 0, .int 0, .int 0])), (q1, .inl (c1, 9, .inr (.inr (.inr (.inr f5))))), (q3, .inr (9, [.ref u4, .int 0, .int 0, .int 0, .int 0, .int 0]))] := hD
  refine lv_iinc (v := 1) (lv' := [(1, .int 1), (0, .ref h0)]) hx hb dX6_init_34 hl (k := 0) rfl (by decide) (by decide) rfl (fun ls hl => ?_)
  refine lv_goto (tgt := 15) hx hb dX6_init_37 (by decide) ?_
  refine lv_iload_n hx hb dX6_init_15 rfl (lv_at hl 0 rfl) ?_
  refine lv_bipush (v := 9) hx hb dX6_init_16 (by decide) ?_
  refine lv_icmp_ge (tgt := 40) hx hb dX6_init_18 (by decide) (fun c => by first | exact absurd c (by decide) | exact absurd (by decide) c) (fun _ => ?_)
  refine lv_aload_n hx hb dX6_init_21 rfl (lv_at hl 1 rfl) ?_
  refine va_get (D := D) (ci := 12) (v := .ref q1) (C := RX6) (T := TX6) (N := 14) hx hb hts (by decide +kernel) hown hK hP 0 rfl rfl 0 (by decide) (hts (.fieldLink RX6 11 "FairwayChancery" "holes" "[LFairwayChancery$Hole;") (by decide +kernel)) (fun _ h9 => h9) rfl dX6_init_22 ?_
  refine lv_iload_n hx hb dX6_init_25 rfl (lv_at hl 0 rfl) ?_
  refine va_new (ci := 9) (fs := [.null, .int 0, .int 0, .int 0, .int 0, .int 0]) (C := RX3) (T := TX3) (N := 6) hx hb hts (by decide +kernel) tyX3 tyX3_ok hown (hts (.classLink RX6 9 RX3) (by decide +kernel)) (hts (.instantiable RX3 6) (by decide +kernel)) (hts (.initialized RX3) (by decide +kernel)) hK hP hD hS hA rfl (fun j hj => match j, hj with | 0, _ => rfl | 1, _ => rfl | 2, _ => rfl | 3, _ => rfl | 4, _ => rfl | 5, _ => rfl | n + 6, h => absurd h (by omega)) (Nat.le_of_ble_eq_true rfl) (Nat.le_of_ble_eq_true rfl) dX6_init_26 (fun q7 H hP hD hS => ?_)
  have hP : va_P D vwCl [(h0, .inr (12, [.ref q1, .null, .null, .null, .int 0, .int 0, .int 0, .int 0, .int 0, .int 0, .int 0, .int 0, .int 0, .int 0])), (q1, .inl (c1, 9, .inr (.inr (.inr (.inr f5))))), (q3, .inr (9, [.ref u4, .int 0, .int 0, .int 0, .int 0, .int 0])), (q7, .inr (9, [.null, .int 0, .int 0, .int 0, .int 0, .int 0]))] H := hP
  have hD : va_D A [(h0, .inr (12, [.ref q1, .null, .null, .null, .int 0, .int 0, .int 0, .int 0, .int 0, .int 0, .int 0, .int 0, .int 0, .int 0])), (q1, .inl (c1, 9, .inr (.inr (.inr (.inr f5))))), (q3, .inr (9, [.ref u4, .int 0, .int 0, .int 0, .int 0, .int 0])), (q7, .inr (9, [.null, .int 0, .int 0, .int 0, .int 0, .int 0]))] := hD
  refine W.widen (k := 4) (n := 621) (by decide) (by decide) ?_
  refine lv_dup hx hb dX6_init_29 rfl ?_
  have hP := hP.sub (ws' := [(q7, .inr (9, [.null, .int 0, .int 0, .int 0, .int 0, .int 0])), (h0, .inr (12, [.ref q1, .null, .null, .null, .int 0, .int 0, .int 0, .int 0, .int 0, .int 0, .int 0, .int 0, .int 0, .int 0])), (q1, .inl (c1, 9, .inr (.inr (.inr (.inr f5))))), (q3, .inr (9, [.ref u4, .int 0, .int 0, .int 0, .int 0, .int 0]))]) [3, 0, 1, 2] rfl
  have hD := hD.sub (ws' := [(q7, .inr (9, [.null, .int 0, .int 0, .int 0, .int 0, .int 0])), (h0, .inr (12, [.ref q1, .null, .null, .null, .int 0, .int 0, .int 0, .int 0, .int 0, .int 0, .int 0, .int 0, .int 0, .int 0])), (q1, .inl (c1, 9, .inr (.inr (.inr (.inr f5))))), (q3, .inr (9, [.ref u4, .int 0, .int 0, .int 0, .int 0, .int 0]))]) [3, 0, 1, 2] (by decide) rfl
  have hPc := hP.sub (ws' := [(q7, .inr (9, [.null, .int 0, .int 0, .int 0, .int 0, .int 0]))]) [0] rfl
  have hKc := hK.sub (tys' := []) [] rfl
  have hFc : ∀ q : Nat, rg1 q7 H.size q → A q := fun q h => h.elim (fun e => by rw [e]; exact hD.2 0 _ rfl) (fun h => hA q (Nat.le_trans hS.1 h))
  refine va_callv (va_runI (As := []) (rest := [.ref q7, .int 1, .ref q1]) ⟨hx, hb, hml, hown, hts⟩ (c_X3_init l D q7 H.size) (cwI 0 hts gX6_init_X3_init rfl rfl rfl (hts (.initialized RX3) (by decide +kernel)) (hts (.methodLink RX6 15 yX3_init) (by decide +kernel)) (hts (.instanceMethod yX3_init) (by decide +kernel)) rfl (by decide +kernel) ⟨Nat.le_of_ble_eq_true rfl, Nat.le_of_ble_eq_true rfl⟩) ⟨fun a U g mk q => ⟨q.1, q.2.1, q.2.2.1, va_K.moved (u := U) (U := U.calling g mk a) (Vm.Alike.refl U.vm) q.2.2.2⟩, fun U hU hW => ⟨rfl, congrArg Array.size hU, by rw [hU]; exact hPc, va_K.moved hW.alike hKc⟩⟩ rfl rfl hl.1 rfl (lv_room (Nat.le_of_ble_eq_true rfl)) dX6_init_30 ⟨Nat.le_of_ble_eq_true rfl, Nat.le_of_ble_eq_true rfl⟩) hS (fun q _ h => hFc q h) hFc (fun u t H1 locs ht hvm hw hB hz1 hk1 hS => ?_)
  obtain ⟨u8, eu8⟩ : ∃ z, z = u := ⟨_, rfl⟩
  rw [ht, ← eu8] at hB
  have hP := va_keep1 hP hD hB hk1
  have hD := va_keep1D (e' := .inr (9, [.ref u8, .int 0, .int 0, .int 0, .int 0, .int 0])) hD
  generalize H1 = H at hP hS ⊢
  have hP : va_P D vwCl [(q7, .inr (9, [.ref u8, .int 0, .int 0, .int 0, .int 0, .int 0])), (h0, .inr (12, [.ref q1, .null, .null, .null, .int 0, .int 0, .int 0, .int 0, .int 0, .int 0, .int 0, .int 0, .int 0, .int 0])), (q1, .inl (c1, 9, .inr (.inr (.inr (.inr f5))))), (q3, .inr (9, [.ref u4, .int 0, .int 0, .int 0, .int 0, .int 0]))] H := hP
  have hD : va_D A [(q7, .inr (9, [.ref u8, .int 0, .int 0, .int 0, .int 0, .int 0])), (h0, .inr (12, [.ref q1, .null, .null, .null, .int 0, .int 0, .int 0, .int 0, .int 0, .int 0, .int 0, .int 0, .int 0, .int 0])), (q1, .inl (c1, 9, .inr (.inr (.inr (.inr f5))))), (q3, .inr (9, [.ref u4, .int 0, .int 0, .int 0, .int 0, .int 0]))] := hD
  refine W.widen (k := 5) (n := 1221) (by decide) (by decide) ?_
  refine va_astq hx hb hK hP hD hS 2 0 0 9 rfl rfl rfl rfl (vp_in_nI (n := 1) (by decide) (by decide)) dX6_init_33 (fun H locs hP hD hS => ?_)
  have hP : va_P D vwCl [(q7, .inr (9, [.ref u8, .int 0, .int 0, .int 0, .int 0, .int 0])), (h0, .inr (12, [.ref q1, .null, .null, .null, .int 0, .int 0, .int 0, .int 0, .int 0, .int 0, .int 0, .int 0, .int 0, .int 0])), (q1, .inl (c1, 9, .inr (.inr (.inr (.inr (va_up f5 (1 : Int32).toNatClampNeg (some q7))))))), (q3, .inr (9, [.ref u4, .int 0, .int 0, .int 0, .int 0, .int 0]))] H := hP
  have hD : va_D A [(q7, .inr (9, [.ref u8, .int 0, .int 0, .int 0, .int 0, .int 0])), (h0, .inr (12, [.ref q1, .null, .null, .null, .int 0, .int 0, .int 0, .int 0, .int 0, .int 0, .int 0, .int 0, .int 0, .int 0])), (q1, .inl (c1, 9, .inr (.inr (.inr (.inr (va_up f5 (1 : Int32).toNatClampNeg (some q7))))))), (q3, .inr (9, [.ref u4, .int 0, .int 0, .int 0, .int 0, .int 0]))] := hD
  have hf : va_up f5 (1 : Int32).toNatClampNeg (some q7) 0 = some q3 := by unfold va_up; rw [if_neg (by decide)]; exact hf
  generalize va_up f5 (1 : Int32).toNatClampNeg (some q7) = f9 at hP hD hf
  have hP := hP.sub (ws' := [(h0, .inr (12, [.ref q1, .null, .null, .null, .int 0, .int 0, .int 0, .int 0, .int 0, .int 0, .int 0, .int 0, .int 0, .int 0])), (q1, .inl (c1, 9, .inr (.inr (.inr (.inr f9))))), (q3, .inr (9, [.ref u4, .int 0, .int 0, .int 0, .int 0, .int 0]))]) [1, 2, 3] rfl
  have hD := hD.sub (ws' := [(h0, .inr (12, [.ref q1, .null, .null, .null, .int 0, .int 0, .int 0, .int 0, .int 0, .int 0, .int 0, .int 0, .int 0, .int 0])), (q1, .inl (c1, 9, .inr (.inr (.inr (.inr f9))))), (q3, .inr (9, [.ref u4, .int 0, .int 0, .int 0, .int 0, .int 0]))]) [1, 2, 3] (by decide) rfl
  have hP : va_P D vwCl [(h0, .inr (12, [.ref q1, .null, .null, .null, .int 0, .int 0, .int 0, .int 0, .int 0, .int 0, .int 0, .int 0, .int 0, .int 0])), (q1, .inl (c1, 9, .inr (.inr (.inr (.inr f9))))), (q3, .inr (9, [.ref u4, .int 0, .int 0, .int 0, .int 0, .int 0]))] H := hP
  have hD : va_D A [(h0, .inr (12, [.ref q1, .null, .null, .null, .int 0, .int 0, .int 0, .int 0, .int 0, .int 0, .int 0, .int 0, .int 0, .int 0])), (q1, .inl (c1, 9, .inr (.inr (.inr (.inr f9))))), (q3, .inr (9, [.ref u4, .int 0, .int 0, .int 0, .int 0, .int 0]))] := hD
  refine lv_iinc (v := 2) (lv' := [(1, .int 2), (0, .ref h0)]) hx hb dX6_init_34 hl (k := 0) rfl (by decide) (by decide) rfl (fun ls hl => ?_)
  refine lv_goto (tgt := 15) hx hb dX6_init_37 (by decide) ?_
  refine lv_iload_n hx hb dX6_init_15 rfl (lv_at hl 0 rfl) ?_
  refine lv_bipush (v := 9) hx hb dX6_init_16 (by decide) ?_
  refine lv_icmp_ge (tgt := 40) hx hb dX6_init_18 (by decide) (fun c => by first | exact absurd c (by decide) | exact absurd (by decide) c) (fun _ => ?_)
  refine lv_aload_n hx hb dX6_init_21 rfl (lv_at hl 1 rfl) ?_
  refine va_get (D := D) (ci := 12) (v := .ref q1) (C := RX6) (T := TX6) (N := 14) hx hb hts (by decide +kernel) hown hK hP 0 rfl rfl 0 (by decide) (hts (.fieldLink RX6 11 "FairwayChancery" "holes" "[LFairwayChancery$Hole;") (by decide +kernel)) (fun _ h9 => h9) rfl dX6_init_22 ?_
  refine lv_iload_n hx hb dX6_init_25 rfl (lv_at hl 0 rfl) ?_
  refine va_new (ci := 9) (fs := [.null, .int 0, .int 0, .int 0, .int 0, .int 0]) (C := RX3) (T := TX3) (N := 6) hx hb hts (by decide +kernel) tyX3 tyX3_ok hown (hts (.classLink RX6 9 RX3) (by decide +kernel)) (hts (.instantiable RX3 6) (by decide +kernel)) (hts (.initialized RX3) (by decide +kernel)) hK hP hD hS hA rfl (fun j hj => match j, hj with | 0, _ => rfl | 1, _ => rfl | 2, _ => rfl | 3, _ => rfl | 4, _ => rfl | 5, _ => rfl | n + 6, h => absurd h (by omega)) (Nat.le_of_ble_eq_true rfl) (Nat.le_of_ble_eq_true rfl) dX6_init_26 (fun q11 H hP hD hS => ?_)
  have hP : va_P D vwCl [(h0, .inr (12, [.ref q1, .null, .null, .null, .int 0, .int 0, .int 0, .int 0, .int 0, .int 0, .int 0, .int 0, .int 0, .int 0])), (q1, .inl (c1, 9, .inr (.inr (.inr (.inr f9))))), (q3, .inr (9, [.ref u4, .int 0, .int 0, .int 0, .int 0, .int 0])), (q11, .inr (9, [.null, .int 0, .int 0, .int 0, .int 0, .int 0]))] H := hP
  have hD : va_D A [(h0, .inr (12, [.ref q1, .null, .null, .null, .int 0, .int 0, .int 0, .int 0, .int 0, .int 0, .int 0, .int 0, .int 0, .int 0])), (q1, .inl (c1, 9, .inr (.inr (.inr (.inr f9))))), (q3, .inr (9, [.ref u4, .int 0, .int 0, .int 0, .int 0, .int 0])), (q11, .inr (9, [.null, .int 0, .int 0, .int 0, .int 0, .int 0]))] := hD
  refine W.widen (k := 6) (n := 1227) (by decide) (by decide) ?_
  refine lv_dup hx hb dX6_init_29 rfl ?_
  have hP := hP.sub (ws' := [(q11, .inr (9, [.null, .int 0, .int 0, .int 0, .int 0, .int 0])), (h0, .inr (12, [.ref q1, .null, .null, .null, .int 0, .int 0, .int 0, .int 0, .int 0, .int 0, .int 0, .int 0, .int 0, .int 0])), (q1, .inl (c1, 9, .inr (.inr (.inr (.inr f9))))), (q3, .inr (9, [.ref u4, .int 0, .int 0, .int 0, .int 0, .int 0]))]) [3, 0, 1, 2] rfl
  have hD := hD.sub (ws' := [(q11, .inr (9, [.null, .int 0, .int 0, .int 0, .int 0, .int 0])), (h0, .inr (12, [.ref q1, .null, .null, .null, .int 0, .int 0, .int 0, .int 0, .int 0, .int 0, .int 0, .int 0, .int 0, .int 0])), (q1, .inl (c1, 9, .inr (.inr (.inr (.inr f9))))), (q3, .inr (9, [.ref u4, .int 0, .int 0, .int 0, .int 0, .int 0]))]) [3, 0, 1, 2] (by decide) rfl
  have hPc := hP.sub (ws' := [(q11, .inr (9, [.null, .int 0, .int 0, .int 0, .int 0, .int 0]))]) [0] rfl
  have hKc := hK.sub (tys' := []) [] rfl
  have hFc : ∀ q : Nat, rg1 q11 H.size q → A q := fun q h => h.elim (fun e => by rw [e]; exact hD.2 0 _ rfl) (fun h => hA q (Nat.le_trans hS.1 h))
  refine va_callv (va_runI (As := []) (rest := [.ref q11, .int 2, .ref q1]) ⟨hx, hb, hml, hown, hts⟩ (c_X3_init l D q11 H.size) (cwI 0 hts gX6_init_X3_init rfl rfl rfl (hts (.initialized RX3) (by decide +kernel)) (hts (.methodLink RX6 15 yX3_init) (by decide +kernel)) (hts (.instanceMethod yX3_init) (by decide +kernel)) rfl (by decide +kernel) ⟨Nat.le_of_ble_eq_true rfl, Nat.le_of_ble_eq_true rfl⟩) ⟨fun a U g mk q => ⟨q.1, q.2.1, q.2.2.1, va_K.moved (u := U) (U := U.calling g mk a) (Vm.Alike.refl U.vm) q.2.2.2⟩, fun U hU hW => ⟨rfl, congrArg Array.size hU, by rw [hU]; exact hPc, va_K.moved hW.alike hKc⟩⟩ rfl rfl hl.1 rfl (lv_room (Nat.le_of_ble_eq_true rfl)) dX6_init_30 ⟨Nat.le_of_ble_eq_true rfl, Nat.le_of_ble_eq_true rfl⟩) hS (fun q _ h => hFc q h) hFc (fun u t H1 locs ht hvm hw hB hz1 hk1 hS => ?_)
  obtain ⟨u12, eu12⟩ : ∃ z, z = u := ⟨_, rfl⟩
  rw [ht, ← eu12] at hB
  have hP := va_keep1 hP hD hB hk1
  have hD := va_keep1D (e' := .inr (9, [.ref u12, .int 0, .int 0, .int 0, .int 0, .int 0])) hD
  generalize H1 = H at hP hS ⊢
  have hP : va_P D vwCl [(q11, .inr (9, [.ref u12, .int 0, .int 0, .int 0, .int 0, .int 0])), (h0, .inr (12, [.ref q1, .null, .null, .null, .int 0, .int 0, .int 0, .int 0, .int 0, .int 0, .int 0, .int 0, .int 0, .int 0])), (q1, .inl (c1, 9, .inr (.inr (.inr (.inr f9))))), (q3, .inr (9, [.ref u4, .int 0, .int 0, .int 0, .int 0, .int 0]))] H := hP
  have hD : va_D A [(q11, .inr (9, [.ref u12, .int 0, .int 0, .int 0, .int 0, .int 0])), (h0, .inr (12, [.ref q1, .null, .null, .null, .int 0, .int 0, .int 0, .int 0, .int 0, .int 0, .int 0, .int 0, .int 0, .int 0])), (q1, .inl (c1, 9, .inr (.inr (.inr (.inr f9))))), (q3, .inr (9, [.ref u4, .int 0, .int 0, .int 0, .int 0, .int 0]))] := hD
  refine W.widen (k := 7) (n := 1827) (by decide) (by decide) ?_
  refine va_astq hx hb hK hP hD hS 2 0 0 9 rfl rfl rfl rfl (vp_in_nI (n := 2) (by decide) (by decide)) dX6_init_33 (fun H locs hP hD hS => ?_)
  have hP : va_P D vwCl [(q11, .inr (9, [.ref u12, .int 0, .int 0, .int 0, .int 0, .int 0])), (h0, .inr (12, [.ref q1, .null, .null, .null, .int 0, .int 0, .int 0, .int 0, .int 0, .int 0, .int 0, .int 0, .int 0, .int 0])), (q1, .inl (c1, 9, .inr (.inr (.inr (.inr (va_up f9 (2 : Int32).toNatClampNeg (some q11))))))), (q3, .inr (9, [.ref u4, .int 0, .int 0, .int 0, .int 0, .int 0]))] H := hP
  have hD : va_D A [(q11, .inr (9, [.ref u12, .int 0, .int 0, .int 0, .int 0, .int 0])), (h0, .inr (12, [.ref q1, .null, .null, .null, .int 0, .int 0, .int 0, .int 0, .int 0, .int 0, .int 0, .int 0, .int 0, .int 0])), (q1, .inl (c1, 9, .inr (.inr (.inr (.inr (va_up f9 (2 : Int32).toNatClampNeg (some q11))))))), (q3, .inr (9, [.ref u4, .int 0, .int 0, .int 0, .int 0, .int 0]))] := hD
  have hf : va_up f9 (2 : Int32).toNatClampNeg (some q11) 0 = some q3 := by unfold va_up; rw [if_neg (by decide)]; exact hf
  generalize va_up f9 (2 : Int32).toNatClampNeg (some q11) = f13 at hP hD hf
  have hP := hP.sub (ws' := [(h0, .inr (12, [.ref q1, .null, .null, .null, .int 0, .int 0, .int 0, .int 0, .int 0, .int 0, .int 0, .int 0, .int 0, .int 0])), (q1, .inl (c1, 9, .inr (.inr (.inr (.inr f13))))), (q3, .inr (9, [.ref u4, .int 0, .int 0, .int 0, .int 0, .int 0]))]) [1, 2, 3] rfl
  have hD := hD.sub (ws' := [(h0, .inr (12, [.ref q1, .null, .null, .null, .int 0, .int 0, .int 0, .int 0, .int 0, .int 0, .int 0, .int 0, .int 0, .int 0])), (q1, .inl (c1, 9, .inr (.inr (.inr (.inr f13))))), (q3, .inr (9, [.ref u4, .int 0, .int 0, .int 0, .int 0, .int 0]))]) [1, 2, 3] (by decide) rfl
  have hP : va_P D vwCl [(h0, .inr (12, [.ref q1, .null, .null, .null, .int 0, .int 0, .int 0, .int 0, .int 0, .int 0, .int 0, .int 0, .int 0, .int 0])), (q1, .inl (c1, 9, .inr (.inr (.inr (.inr f13))))), (q3, .inr (9, [.ref u4, .int 0, .int 0, .int 0, .int 0, .int 0]))] H := hP
  have hD : va_D A [(h0, .inr (12, [.ref q1, .null, .null, .null, .int 0, .int 0, .int 0, .int 0, .int 0, .int 0, .int 0, .int 0, .int 0, .int 0])), (q1, .inl (c1, 9, .inr (.inr (.inr (.inr f13))))), (q3, .inr (9, [.ref u4, .int 0, .int 0, .int 0, .int 0, .int 0]))] := hD
  refine lv_iinc (v := 3) (lv' := [(1, .int 3), (0, .ref h0)]) hx hb dX6_init_34 hl (k := 0) rfl (by decide) (by decide) rfl (fun ls hl => ?_)
  refine lv_goto (tgt := 15) hx hb dX6_init_37 (by decide) ?_
  refine lv_iload_n hx hb dX6_init_15 rfl (lv_at hl 0 rfl) ?_
  refine lv_bipush (v := 9) hx hb dX6_init_16 (by decide) ?_
  refine lv_icmp_ge (tgt := 40) hx hb dX6_init_18 (by decide) (fun c => by first | exact absurd c (by decide) | exact absurd (by decide) c) (fun _ => ?_)
  refine lv_aload_n hx hb dX6_init_21 rfl (lv_at hl 1 rfl) ?_
  refine va_get (D := D) (ci := 12) (v := .ref q1) (C := RX6) (T := TX6) (N := 14) hx hb hts (by decide +kernel) hown hK hP 0 rfl rfl 0 (by decide) (hts (.fieldLink RX6 11 "FairwayChancery" "holes" "[LFairwayChancery$Hole;") (by decide +kernel)) (fun _ h9 => h9) rfl dX6_init_22 ?_
  refine lv_iload_n hx hb dX6_init_25 rfl (lv_at hl 0 rfl) ?_
  refine va_new (ci := 9) (fs := [.null, .int 0, .int 0, .int 0, .int 0, .int 0]) (C := RX3) (T := TX3) (N := 6) hx hb hts (by decide +kernel) tyX3 tyX3_ok hown (hts (.classLink RX6 9 RX3) (by decide +kernel)) (hts (.instantiable RX3 6) (by decide +kernel)) (hts (.initialized RX3) (by decide +kernel)) hK hP hD hS hA rfl (fun j hj => match j, hj with | 0, _ => rfl | 1, _ => rfl | 2, _ => rfl | 3, _ => rfl | 4, _ => rfl | 5, _ => rfl | n + 6, h => absurd h (by omega)) (Nat.le_of_ble_eq_true rfl) (Nat.le_of_ble_eq_true rfl) dX6_init_26 (fun q15 H hP hD hS => ?_)
  have hP : va_P D vwCl [(h0, .inr (12, [.ref q1, .null, .null, .null, .int 0, .int 0, .int 0, .int 0, .int 0, .int 0, .int 0, .int 0, .int 0, .int 0])), (q1, .inl (c1, 9, .inr (.inr (.inr (.inr f13))))), (q3, .inr (9, [.ref u4, .int 0, .int 0, .int 0, .int 0, .int 0])), (q15, .inr (9, [.null, .int 0, .int 0, .int 0, .int 0, .int 0]))] H := hP
  have hD : va_D A [(h0, .inr (12, [.ref q1, .null, .null, .null, .int 0, .int 0, .int 0, .int 0, .int 0, .int 0, .int 0, .int 0, .int 0, .int 0])), (q1, .inl (c1, 9, .inr (.inr (.inr (.inr f13))))), (q3, .inr (9, [.ref u4, .int 0, .int 0, .int 0, .int 0, .int 0])), (q15, .inr (9, [.null, .int 0, .int 0, .int 0, .int 0, .int 0]))] := hD
  refine W.widen (k := 8) (n := 1833) (by decide) (by decide) ?_
  refine lv_dup hx hb dX6_init_29 rfl ?_
  have hP := hP.sub (ws' := [(q15, .inr (9, [.null, .int 0, .int 0, .int 0, .int 0, .int 0])), (h0, .inr (12, [.ref q1, .null, .null, .null, .int 0, .int 0, .int 0, .int 0, .int 0, .int 0, .int 0, .int 0, .int 0, .int 0])), (q1, .inl (c1, 9, .inr (.inr (.inr (.inr f13))))), (q3, .inr (9, [.ref u4, .int 0, .int 0, .int 0, .int 0, .int 0]))]) [3, 0, 1, 2] rfl
  have hD := hD.sub (ws' := [(q15, .inr (9, [.null, .int 0, .int 0, .int 0, .int 0, .int 0])), (h0, .inr (12, [.ref q1, .null, .null, .null, .int 0, .int 0, .int 0, .int 0, .int 0, .int 0, .int 0, .int 0, .int 0, .int 0])), (q1, .inl (c1, 9, .inr (.inr (.inr (.inr f13))))), (q3, .inr (9, [.ref u4, .int 0, .int 0, .int 0, .int 0, .int 0]))]) [3, 0, 1, 2] (by decide) rfl
  have hPc := hP.sub (ws' := [(q15, .inr (9, [.null, .int 0, .int 0, .int 0, .int 0, .int 0]))]) [0] rfl
  have hKc := hK.sub (tys' := []) [] rfl
  have hFc : ∀ q : Nat, rg1 q15 H.size q → A q := fun q h => h.elim (fun e => by rw [e]; exact hD.2 0 _ rfl) (fun h => hA q (Nat.le_trans hS.1 h))
  refine va_callv (va_runI (As := []) (rest := [.ref q15, .int 3, .ref q1]) ⟨hx, hb, hml, hown, hts⟩ (c_X3_init l D q15 H.size) (cwI 0 hts gX6_init_X3_init rfl rfl rfl (hts (.initialized RX3) (by decide +kernel)) (hts (.methodLink RX6 15 yX3_init) (by decide +kernel)) (hts (.instanceMethod yX3_init) (by decide +kernel)) rfl (by decide +kernel) ⟨Nat.le_of_ble_eq_true rfl, Nat.le_of_ble_eq_true rfl⟩) ⟨fun a U g mk q => ⟨q.1, q.2.1, q.2.2.1, va_K.moved (u := U) (U := U.calling g mk a) (Vm.Alike.refl U.vm) q.2.2.2⟩, fun U hU hW => ⟨rfl, congrArg Array.size hU, by rw [hU]; exact hPc, va_K.moved hW.alike hKc⟩⟩ rfl rfl hl.1 rfl (lv_room (Nat.le_of_ble_eq_true rfl)) dX6_init_30 ⟨Nat.le_of_ble_eq_true rfl, Nat.le_of_ble_eq_true rfl⟩) hS (fun q _ h => hFc q h) hFc (fun u t H1 locs ht hvm hw hB hz1 hk1 hS => ?_)
  obtain ⟨u16, eu16⟩ : ∃ z, z = u := ⟨_, rfl⟩
  rw [ht, ← eu16] at hB
  have hP := va_keep1 hP hD hB hk1
  have hD := va_keep1D (e' := .inr (9, [.ref u16, .int 0, .int 0, .int 0, .int 0, .int 0])) hD
  generalize H1 = H at hP hS ⊢
  have hP : va_P D vwCl [(q15, .inr (9, [.ref u16, .int 0, .int 0, .int 0, .int 0, .int 0])), (h0, .inr (12, [.ref q1, .null, .null, .null, .int 0, .int 0, .int 0, .int 0, .int 0, .int 0, .int 0, .int 0, .int 0, .int 0])), (q1, .inl (c1, 9, .inr (.inr (.inr (.inr f13))))), (q3, .inr (9, [.ref u4, .int 0, .int 0, .int 0, .int 0, .int 0]))] H := hP
  have hD : va_D A [(q15, .inr (9, [.ref u16, .int 0, .int 0, .int 0, .int 0, .int 0])), (h0, .inr (12, [.ref q1, .null, .null, .null, .int 0, .int 0, .int 0, .int 0, .int 0, .int 0, .int 0, .int 0, .int 0, .int 0])), (q1, .inl (c1, 9, .inr (.inr (.inr (.inr f13))))), (q3, .inr (9, [.ref u4, .int 0, .int 0, .int 0, .int 0, .int 0]))] := hD
  refine W.widen (k := 9) (n := 2433) (by decide) (by decide) ?_
  refine va_astq hx hb hK hP hD hS 2 0 0 9 rfl rfl rfl rfl (vp_in_nI (n := 3) (by decide) (by decide)) dX6_init_33 (fun H locs hP hD hS => ?_)
  have hP : va_P D vwCl [(q15, .inr (9, [.ref u16, .int 0, .int 0, .int 0, .int 0, .int 0])), (h0, .inr (12, [.ref q1, .null, .null, .null, .int 0, .int 0, .int 0, .int 0, .int 0, .int 0, .int 0, .int 0, .int 0, .int 0])), (q1, .inl (c1, 9, .inr (.inr (.inr (.inr (va_up f13 (3 : Int32).toNatClampNeg (some q15))))))), (q3, .inr (9, [.ref u4, .int 0, .int 0, .int 0, .int 0, .int 0]))] H := hP
  have hD : va_D A [(q15, .inr (9, [.ref u16, .int 0, .int 0, .int 0, .int 0, .int 0])), (h0, .inr (12, [.ref q1, .null, .null, .null, .int 0, .int 0, .int 0, .int 0, .int 0, .int 0, .int 0, .int 0, .int 0, .int 0])), (q1, .inl (c1, 9, .inr (.inr (.inr (.inr (va_up f13 (3 : Int32).toNatClampNeg (some q15))))))), (q3, .inr (9, [.ref u4, .int 0, .int 0, .int 0, .int 0, .int 0]))] := hD
  have hf : va_up f13 (3 : Int32).toNatClampNeg (some q15) 0 = some q3 := by unfold va_up; rw [if_neg (by decide)]; exact hf
  generalize va_up f13 (3 : Int32).toNatClampNeg (some q15) = f17 at hP hD hf
  have hP := hP.sub (ws' := [(h0, .inr (12, [.ref q1, .null, .null, .null, .int 0, .int 0, .int 0, .int 0, .int 0, .int 0, .int 0, .int 0, .int 0, .int 0])), (q1, .inl (c1, 9, .inr (.inr (.inr (.inr f17))))), (q3, .inr (9, [.ref u4, .int 0, .int 0, .int 0, .int 0, .int 0]))]) [1, 2, 3] rfl
  have hD := hD.sub (ws' := [(h0, .inr (12, [.ref q1, .null, .null, .null, .int 0, .int 0, .int 0, .int 0, .int 0, .int 0, .int 0, .int 0, .int 0, .int 0])), (q1, .inl (c1, 9, .inr (.inr (.inr (.inr f17))))), (q3, .inr (9, [.ref u4, .int 0, .int 0, .int 0, .int 0, .int 0]))]) [1, 2, 3] (by decide) rfl
  have hP : va_P D vwCl [(h0, .inr (12, [.ref q1, .null, .null, .null, .int 0, .int 0, .int 0, .int 0, .int 0, .int 0, .int 0, .int 0, .int 0, .int 0])), (q1, .inl (c1, 9, .inr (.inr (.inr (.inr f17))))), (q3, .inr (9, [.ref u4, .int 0, .int 0, .int 0, .int 0, .int 0]))] H := hP
  have hD : va_D A [(h0, .inr (12, [.ref q1, .null, .null, .null, .int 0, .int 0, .int 0, .int 0, .int 0, .int 0, .int 0, .int 0, .int 0, .int 0])), (q1, .inl (c1, 9, .inr (.inr (.inr (.inr f17))))), (q3, .inr (9, [.ref u4, .int 0, .int 0, .int 0, .int 0, .int 0]))] := hD
  refine lv_iinc (v := 4) (lv' := [(1, .int 4), (0, .ref h0)]) hx hb dX6_init_34 hl (k := 0) rfl (by decide) (by decide) rfl (fun ls hl => ?_)
  refine lv_goto (tgt := 15) hx hb dX6_init_37 (by decide) ?_
  refine lv_iload_n hx hb dX6_init_15 rfl (lv_at hl 0 rfl) ?_
  refine lv_bipush (v := 9) hx hb dX6_init_16 (by decide) ?_
  refine lv_icmp_ge (tgt := 40) hx hb dX6_init_18 (by decide) (fun c => by first | exact absurd c (by decide) | exact absurd (by decide) c) (fun _ => ?_)
  refine lv_aload_n hx hb dX6_init_21 rfl (lv_at hl 1 rfl) ?_
  refine va_get (D := D) (ci := 12) (v := .ref q1) (C := RX6) (T := TX6) (N := 14) hx hb hts (by decide +kernel) hown hK hP 0 rfl rfl 0 (by decide) (hts (.fieldLink RX6 11 "FairwayChancery" "holes" "[LFairwayChancery$Hole;") (by decide +kernel)) (fun _ h9 => h9) rfl dX6_init_22 ?_
  refine lv_iload_n hx hb dX6_init_25 rfl (lv_at hl 0 rfl) ?_
  refine va_new (ci := 9) (fs := [.null, .int 0, .int 0, .int 0, .int 0, .int 0]) (C := RX3) (T := TX3) (N := 6) hx hb hts (by decide +kernel) tyX3 tyX3_ok hown (hts (.classLink RX6 9 RX3) (by decide +kernel)) (hts (.instantiable RX3 6) (by decide +kernel)) (hts (.initialized RX3) (by decide +kernel)) hK hP hD hS hA rfl (fun j hj => match j, hj with | 0, _ => rfl | 1, _ => rfl | 2, _ => rfl | 3, _ => rfl | 4, _ => rfl | 5, _ => rfl | n + 6, h => absurd h (by omega)) (Nat.le_of_ble_eq_true rfl) (Nat.le_of_ble_eq_true rfl) dX6_init_26 (fun q19 H hP hD hS => ?_)
  have hP : va_P D vwCl [(h0, .inr (12, [.ref q1, .null, .null, .null, .int 0, .int 0, .int 0, .int 0, .int 0, .int 0, .int 0, .int 0, .int 0, .int 0])), (q1, .inl (c1, 9, .inr (.inr (.inr (.inr f17))))), (q3, .inr (9, [.ref u4, .int 0, .int 0, .int 0, .int 0, .int 0])), (q19, .inr (9, [.null, .int 0, .int 0, .int 0, .int 0, .int 0]))] H := hP
  have hD : va_D A [(h0, .inr (12, [.ref q1, .null, .null, .null, .int 0, .int 0, .int 0, .int 0, .int 0, .int 0, .int 0, .int 0, .int 0, .int 0])), (q1, .inl (c1, 9, .inr (.inr (.inr (.inr f17))))), (q3, .inr (9, [.ref u4, .int 0, .int 0, .int 0, .int 0, .int 0])), (q19, .inr (9, [.null, .int 0, .int 0, .int 0, .int 0, .int 0]))] := hD
  refine W.widen (k := 10) (n := 2439) (by decide) (by decide) ?_
  refine lv_dup hx hb dX6_init_29 rfl ?_
  have hP := hP.sub (ws' := [(q19, .inr (9, [.null, .int 0, .int 0, .int 0, .int 0, .int 0])), (h0, .inr (12, [.ref q1, .null, .null, .null, .int 0, .int 0, .int 0, .int 0, .int 0, .int 0, .int 0, .int 0, .int 0, .int 0])), (q1, .inl (c1, 9, .inr (.inr (.inr (.inr f17))))), (q3, .inr (9, [.ref u4, .int 0, .int 0, .int 0, .int 0, .int 0]))]) [3, 0, 1, 2] rfl
  have hD := hD.sub (ws' := [(q19, .inr (9, [.null, .int 0, .int 0, .int 0, .int 0, .int 0])), (h0, .inr (12, [.ref q1, .null, .null, .null, .int 0, .int 0, .int 0, .int 0, .int 0, .int 0, .int 0, .int 0, .int 0, .int 0])), (q1, .inl (c1, 9, .inr (.inr (.inr (.inr f17))))), (q3, .inr (9, [.ref u4, .int 0, .int 0, .int 0, .int 0, .int 0]))]) [3, 0, 1, 2] (by decide) rfl
  have hPc := hP.sub (ws' := [(q19, .inr (9, [.null, .int 0, .int 0, .int 0, .int 0, .int 0]))]) [0] rfl
  have hKc := hK.sub (tys' := []) [] rfl
  have hFc : ∀ q : Nat, rg1 q19 H.size q → A q := fun q h => h.elim (fun e => by rw [e]; exact hD.2 0 _ rfl) (fun h => hA q (Nat.le_trans hS.1 h))
  refine va_callv (va_runI (As := []) (rest := [.ref q19, .int 4, .ref q1]) ⟨hx, hb, hml, hown, hts⟩ (c_X3_init l D q19 H.size) (cwI 0 hts gX6_init_X3_init rfl rfl rfl (hts (.initialized RX3) (by decide +kernel)) (hts (.methodLink RX6 15 yX3_init) (by decide +kernel)) (hts (.instanceMethod yX3_init) (by decide +kernel)) rfl (by decide +kernel) ⟨Nat.le_of_ble_eq_true rfl, Nat.le_of_ble_eq_true rfl⟩) ⟨fun a U g mk q => ⟨q.1, q.2.1, q.2.2.1, va_K.moved (u := U) (U := U.calling g mk a) (Vm.Alike.refl U.vm) q.2.2.2⟩, fun U hU hW => ⟨rfl, congrArg Array.size hU, by rw [hU]; exact hPc, va_K.moved hW.alike hKc⟩⟩ rfl rfl hl.1 rfl (lv_room (Nat.le_of_ble_eq_true rfl)) dX6_init_30 ⟨Nat.le_of_ble_eq_true rfl, Nat.le_of_ble_eq_true rfl⟩) hS (fun q _ h => hFc q h) hFc (fun u t H1 locs ht hvm hw hB hz1 hk1 hS => ?_)
  obtain ⟨u20, eu20⟩ : ∃ z, z = u := ⟨_, rfl⟩
  rw [ht, ← eu20] at hB
  have hP := va_keep1 hP hD hB hk1
  have hD := va_keep1D (e' := .inr (9, [.ref u20, .int 0, .int 0, .int 0, .int 0, .int 0])) hD
  generalize H1 = H at hP hS ⊢
  have hP : va_P D vwCl [(q19, .inr (9, [.ref u20, .int 0, .int 0, .int 0, .int 0, .int 0])), (h0, .inr (12, [.ref q1, .null, .null, .null, .int 0, .int 0, .int 0, .int 0, .int 0, .int 0, .int 0, .int 0, .int 0, .int 0])), (q1, .inl (c1, 9, .inr (.inr (.inr (.inr f17))))), (q3, .inr (9, [.ref u4, .int 0, .int 0, .int 0, .int 0, .int 0]))] H := hP
  have hD : va_D A [(q19, .inr (9, [.ref u20, .int 0, .int 0, .int 0, .int 0, .int 0])), (h0, .inr (12, [.ref q1, .null, .null, .null, .int 0, .int 0, .int 0, .int 0, .int 0, .int 0, .int 0, .int 0, .int 0, .int 0])), (q1, .inl (c1, 9, .inr (.inr (.inr (.inr f17))))), (q3, .inr (9, [.ref u4, .int 0, .int 0, .int 0, .int 0, .int 0]))] := hD
  refine W.widen (k := 11) (n := 3039) (by decide) (by decide) ?_
  refine va_astq hx hb hK hP hD hS 2 0 0 9 rfl rfl rfl rfl (vp_in_nI (n := 4) (by decide) (by decide)) dX6_init_33 (fun H locs hP hD hS => ?_)
  have hP : va_P D vwCl [(q19, .inr (9, [.ref u20, .int 0, .int 0, .int 0, .int 0, .int 0])), (h0, .inr (12, [.ref q1, .null, .null, .null, .int 0, .int 0, .int 0, .int 0, .int 0, .int 0, .int 0, .int 0, .int 0, .int 0])), (q1, .inl (c1, 9, .inr (.inr (.inr (.inr (va_up f17 (4 : Int32).toNatClampNeg (some q19))))))), (q3, .inr (9, [.ref u4, .int 0, .int 0, .int 0, .int 0, .int 0]))] H := hP
  have hD : va_D A [(q19, .inr (9, [.ref u20, .int 0, .int 0, .int 0, .int 0, .int 0])), (h0, .inr (12, [.ref q1, .null, .null, .null, .int 0, .int 0, .int 0, .int 0, .int 0, .int 0, .int 0, .int 0, .int 0, .int 0])), (q1, .inl (c1, 9, .inr (.inr (.inr (.inr (va_up f17 (4 : Int32).toNatClampNeg (some q19))))))), (q3, .inr (9, [.ref u4, .int 0, .int 0, .int 0, .int 0, .int 0]))] := hD
  have hf : va_up f17 (4 : Int32).toNatClampNeg (some q19) 0 = some q3 := by unfold va_up; rw [if_neg (by decide)]; exact hf
  generalize va_up f17 (4 : Int32).toNatClampNeg (some q19) = f21 at hP hD hf
  have hP := hP.sub (ws' := [(h0, .inr (12, [.ref q1, .null, .null, .null, .int 0, .int 0, .int 0, .int 0, .int 0, .int 0, .int 0, .int 0, .int 0, .int 0])), (q1, .inl (c1, 9, .inr (.inr (.inr (.inr f21))))), (q3, .inr (9, [.ref u4, .int 0, .int 0, .int 0, .int 0, .int 0]))]) [1, 2, 3] rfl
  have hD := hD.sub (ws' := [(h0, .inr (12, [.ref q1, .null, .null, .null, .int 0, .int 0, .int 0, .int 0, .int 0, .int 0, .int 0, .int 0, .int 0, .int 0])), (q1, .inl (c1, 9, .inr (.inr (.inr (.inr f21))))), (q3, .inr (9, [.ref u4, .int 0, .int 0, .int 0, .int 0, .int 0]))]) [1, 2, 3] (by decide) rfl
  have hP : va_P D vwCl [(h0, .inr (12, [.ref q1, .null, .null, .null, .int 0, .int 0, .int 0, .int 0, .int 0, .int 0, .int 0, .int 0, .int 0, .int 0])), (q1, .inl (c1, 9, .inr (.inr (.inr (.inr f21))))), (q3, .inr (9, [.ref u4, .int 0, .int 0, .int 0, .int 0, .int 0]))] H := hP
  have hD : va_D A [(h0, .inr (12, [.ref q1, .null, .null, .null, .int 0, .int 0, .int 0, .int 0, .int 0, .int 0, .int 0, .int 0, .int 0, .int 0])), (q1, .inl (c1, 9, .inr (.inr (.inr (.inr f21))))), (q3, .inr (9, [.ref u4, .int 0, .int 0, .int 0, .int 0, .int 0]))] := hD
  refine lv_iinc (v := 5) (lv' := [(1, .int 5), (0, .ref h0)]) hx hb dX6_init_34 hl (k := 0) rfl (by decide) (by decide) rfl (fun ls hl => ?_)
  refine lv_goto (tgt := 15) hx hb dX6_init_37 (by decide) ?_
  refine lv_iload_n hx hb dX6_init_15 rfl (lv_at hl 0 rfl) ?_
  refine lv_bipush (v := 9) hx hb dX6_init_16 (by decide) ?_
  refine lv_icmp_ge (tgt := 40) hx hb dX6_init_18 (by decide) (fun c => by first | exact absurd c (by decide) | exact absurd (by decide) c) (fun _ => ?_)
  refine lv_aload_n hx hb dX6_init_21 rfl (lv_at hl 1 rfl) ?_
  refine va_get (D := D) (ci := 12) (v := .ref q1) (C := RX6) (T := TX6) (N := 14) hx hb hts (by decide +kernel) hown hK hP 0 rfl rfl 0 (by decide) (hts (.fieldLink RX6 11 "FairwayChancery" "holes" "[LFairwayChancery$Hole;") (by decide +kernel)) (fun _ h9 => h9) rfl dX6_init_22 ?_
  refine lv_iload_n hx hb dX6_init_25 rfl (lv_at hl 0 rfl) ?_
  refine va_new (ci := 9) (fs := [.null, .int 0, .int 0, .int 0, .int 0, .int 0]) (C := RX3) (T := TX3) (N := 6) hx hb hts (by decide +kernel) tyX3 tyX3_ok hown (hts (.classLink RX6 9 RX3) (by decide +kernel)) (hts (.instantiable RX3 6) (by decide +kernel)) (hts (.initialized RX3) (by decide +kernel)) hK hP hD hS hA rfl (fun j hj => match j, hj with | 0, _ => rfl | 1, _ => rfl | 2, _ => rfl | 3, _ => rfl | 4, _ => rfl | 5, _ => rfl | n + 6, h => absurd h (by omega)) (Nat.le_of_ble_eq_true rfl) (Nat.le_of_ble_eq_true rfl) dX6_init_26 (fun q23 H hP hD hS => ?_)
  have hP : va_P D vwCl [(h0, .inr (12, [.ref q1, .null, .null, .null, .int 0, .int 0, .int 0, .int 0, .int 0, .int 0, .int 0, .int 0, .int 0, .int 0])), (q1, .inl (c1, 9, .inr (.inr (.inr (.inr f21))))), (q3, .inr (9, [.ref u4, .int 0, .int 0, .int 0, .int 0, .int 0])), (q23, .inr (9, [.null, .int 0, .int 0, .int 0, .int 0, .int 0]))] H := hP
  have hD : va_D A [(h0, .inr (12, [.ref q1, .null, .null, .null, .int 0, .int 0, .int 0, .int 0, .int 0, .int 0, .int 0, .int 0, .int 0, .int 0])), (q1, .inl (c1, 9, .inr (.inr (.inr (.inr f21))))), (q3, .inr (9, [.ref u4, .int 0, .int 0, .int 0, .int 0, .int 0])), (q23, .inr (9, [.null, .int 0, .int 0, .int 0, .int 0, .int 0]))] := hD
  refine W.widen (k := 12) (n := 3045) (by decide) (by decide) ?_
  refine lv_dup hx hb dX6_init_29 rfl ?_
  have hP := hP.sub (ws' := [(q23, .inr (9, [.null, .int 0, .int 0, .int 0, .int 0, .int 0])), (h0, .inr (12, [.ref q1, .null, .null, .null, .int 0, .int 0, .int 0, .int 0, .int 0, .int 0, .int 0, .int 0, .int 0, .int 0])), (q1, .inl (c1, 9, .inr (.inr (.inr (.inr f21))))), (q3, .inr (9, [.ref u4, .int 0, .int 0, .int 0, .int 0, .int 0]))]) [3, 0, 1, 2] rfl
  have hD := hD.sub (ws' := [(q23, .inr (9, [.null, .int 0, .int 0, .int 0, .int 0, .int 0])), (h0, .inr (12, [.ref q1, .null, .null, .null, .int 0, .int 0, .int 0, .int 0, .int 0, .int 0, .int 0, .int 0, .int 0, .int 0])), (q1, .inl (c1, 9, .inr (.inr (.inr (.inr f21))))), (q3, .inr (9, [.ref u4, .int 0, .int 0, .int 0, .int 0, .int 0]))]) [3, 0, 1, 2] (by decide) rfl
  have hPc := hP.sub (ws' := [(q23, .inr (9, [.null, .int 0, .int 0, .int 0, .int 0, .int 0]))]) [0] rfl
  have hKc := hK.sub (tys' := []) [] rfl
  have hFc : ∀ q : Nat, rg1 q23 H.size q → A q := fun q h => h.elim (fun e => by rw [e]; exact hD.2 0 _ rfl) (fun h => hA q (Nat.le_trans hS.1 h))
  refine va_callv (va_runI (As := []) (rest := [.ref q23, .int 5, .ref q1]) ⟨hx, hb, hml, hown, hts⟩ (c_X3_init l D q23 H.size) (cwI 0 hts gX6_init_X3_init rfl rfl rfl (hts (.initialized RX3) (by decide +kernel)) (hts (.methodLink RX6 15 yX3_init) (by decide +kernel)) (hts (.instanceMethod yX3_init) (by decide +kernel)) rfl (by decide +kernel) ⟨Nat.le_of_ble_eq_true rfl, Nat.le_of_ble_eq_true rfl⟩) ⟨fun a U g mk q => ⟨q.1, q.2.1, q.2.2.1, va_K.moved (u := U) (U := U.calling g mk a) (Vm.Alike.refl U.vm) q.2.2.2⟩, fun U hU hW => ⟨rfl, congrArg Array.size hU, by rw [hU]; exact hPc, va_K.moved hW.alike hKc⟩⟩ rfl rfl hl.1 rfl (lv_room (Nat.le_of_ble_eq_true rfl)) dX6_init_30 ⟨Nat.le_of_ble_eq_true rfl, Nat.le_of_ble_eq_true rfl⟩) hS (fun q _ h => hFc q h) hFc (fun u t H1 locs ht hvm hw hB hz1 hk1 hS => ?_)
  obtain ⟨u24, eu24⟩ : ∃ z, z = u := ⟨_, rfl⟩
  rw [ht, ← eu24] at hB
  have hP := va_keep1 hP hD hB hk1
  have hD := va_keep1D (e' := .inr (9, [.ref u24, .int 0, .int 0, .int 0, .int 0, .int 0])) hD
  generalize H1 = H at hP hS ⊢
  have hP : va_P D vwCl [(q23, .inr (9, [.ref u24, .int 0, .int 0, .int 0, .int 0, .int 0])), (h0, .inr (12, [.ref q1, .null, .null, .null, .int 0, .int 0, .int 0, .int 0, .int 0, .int 0, .int 0, .int 0, .int 0, .int 0])), (q1, .inl (c1, 9, .inr (.inr (.inr (.inr f21))))), (q3, .inr (9, [.ref u4, .int 0, .int 0, .int 0, .int 0, .int 0]))] H := hP
  have hD : va_D A [(q23, .inr (9, [.ref u24, .int 0, .int 0, .int 0, .int 0, .int 0])), (h0, .inr (12, [.ref q1, .null, .null, .null, .int 0, .int 0, .int 0, .int 0, .int 0, .int 0, .int 0, .int 0, .int 0, .int 0])), (q1, .inl (c1, 9, .inr (.inr (.inr (.inr f21))))), (q3, .inr (9, [.ref u4, .int 0, .int 0, .int 0, .int 0, .int 0]))] := hD
  refine W.widen (k := 13) (n := 3645) (by decide) (by decide) ?_
  refine va_astq hx hb hK hP hD hS 2 0 0 9 rfl rfl rfl rfl (vp_in_nI (n := 5) (by decide) (by decide)) dX6_init_33 (fun H locs hP hD hS => ?_)
  have hP : va_P D vwCl [(q23, .inr (9, [.ref u24, .int 0, .int 0, .int 0, .int 0, .int 0])), (h0, .inr (12, [.ref q1, .null, .null, .null, .int 0, .int 0, .int 0, .int 0, .int 0, .int 0, .int 0, .int 0, .int 0, .int 0])), (q1, .inl (c1, 9, .inr (.inr (.inr (.inr (va_up f21 (5 : Int32).toNatClampNeg (some q23))))))), (q3, .inr (9, [.ref u4, .int 0, .int 0, .int 0, .int 0, .int 0]))] H := hP
  have hD : va_D A [(q23, .inr (9, [.ref u24, .int 0, .int 0, .int 0, .int 0, .int 0])), (h0, .inr (12, [.ref q1, .null, .null, .null, .int 0, .int 0, .int 0, .int 0, .int 0, .int 0, .int 0, .int 0, .int 0, .int 0])), (q1, .inl (c1, 9, .inr (.inr (.inr (.inr (va_up f21 (5 : Int32).toNatClampNeg (some q23))))))), (q3, .inr (9, [.ref u4, .int 0, .int 0, .int 0, .int 0, .int 0]))] := hD
  have hf : va_up f21 (5 : Int32).toNatClampNeg (some q23) 0 = some q3 := by unfold va_up; rw [if_neg (by decide)]; exact hf
  generalize va_up f21 (5 : Int32).toNatClampNeg (some q23) = f25 at hP hD hf
  have hP := hP.sub (ws' := [(h0, .inr (12, [.ref q1, .null, .null, .null, .int 0, .int 0, .int 0, .int 0, .int 0, .int 0, .int 0, .int 0, .int 0, .int 0])), (q1, .inl (c1, 9, .inr (.inr (.inr (.inr f25))))), (q3, .inr (9, [.ref u4, .int 0, .int 0, .int 0, .int 0, .int 0]))]) [1, 2, 3] rfl
  have hD := hD.sub (ws' := [(h0, .inr (12, [.ref q1, .null, .null, .null, .int 0, .int 0, .int 0, .int 0, .int 0, .int 0, .int 0, .int 0, .int 0, .int 0])), (q1, .inl (c1, 9, .inr (.inr (.inr (.inr f25))))), (q3, .inr (9, [.ref u4, .int 0, .int 0, .int 0, .int 0, .int 0]))]) [1, 2, 3] (by decide) rfl
  have hP : va_P D vwCl [(h0, .inr (12, [.ref q1, .null, .null, .null, .int 0, .int 0, .int 0, .int 0, .int 0, .int 0, .int 0, .int 0, .int 0, .int 0])), (q1, .inl (c1, 9, .inr (.inr (.inr (.inr f25))))), (q3, .inr (9, [.ref u4, .int 0, .int 0, .int 0, .int 0, .int 0]))] H := hP
  have hD : va_D A [(h0, .inr (12, [.ref q1, .null, .null, .null, .int 0, .int 0, .int 0, .int 0, .int 0, .int 0, .int 0, .int 0, .int 0, .int 0])), (q1, .inl (c1, 9, .inr (.inr (.inr (.inr f25))))), (q3, .inr (9, [.ref u4, .int 0, .int 0, .int 0, .int 0, .int 0]))] := hD
  refine lv_iinc (v := 6) (lv' := [(1, .int 6), (0, .ref h0)]) hx hb dX6_init_34 hl (k := 0) rfl (by decide) (by decide) rfl (fun ls hl => ?_)
  refine lv_goto (tgt := 15) hx hb dX6_init_37 (by decide) ?_
  refine lv_iload_n hx hb dX6_init_15 rfl (lv_at hl 0 rfl) ?_
  refine lv_bipush (v := 9) hx hb dX6_init_16 (by decide) ?_
  refine lv_icmp_ge (tgt := 40) hx hb dX6_init_18 (by decide) (fun c => by first | exact absurd c (by decide) | exact absurd (by decide) c) (fun _ => ?_)
  refine lv_aload_n hx hb dX6_init_21 rfl (lv_at hl 1 rfl) ?_
  refine va_get (D := D) (ci := 12) (v := .ref q1) (C := RX6) (T := TX6) (N := 14) hx hb hts (by decide +kernel) hown hK hP 0 rfl rfl 0 (by decide) (hts (.fieldLink RX6 11 "FairwayChancery" "holes" "[LFairwayChancery$Hole;") (by decide +kernel)) (fun _ h9 => h9) rfl dX6_init_22 ?_
  refine lv_iload_n hx hb dX6_init_25 rfl (lv_at hl 0 rfl) ?_
  refine va_new (ci := 9) (fs := [.null, .int 0, .int 0, .int 0, .int 0, .int 0]) (C := RX3) (T := TX3) (N := 6) hx hb hts (by decide +kernel) tyX3 tyX3_ok hown (hts (.classLink RX6 9 RX3) (by decide +kernel)) (hts (.instantiable RX3 6) (by decide +kernel)) (hts (.initialized RX3) (by decide +kernel)) hK hP hD hS hA rfl (fun j hj => match j, hj with | 0, _ => rfl | 1, _ => rfl | 2, _ => rfl | 3, _ => rfl | 4, _ => rfl | 5, _ => rfl | n + 6, h => absurd h (by omega)) (Nat.le_of_ble_eq_true rfl) (Nat.le_of_ble_eq_true rfl) dX6_init_26 (fun q27 H hP hD hS => ?_)
  have hP : va_P D vwCl [(h0, .inr (12, [.ref q1, .null, .null, .null, .int 0, .int 0, .int 0, .int 0, .int 0, .int 0, .int 0, .int 0, .int 0, .int 0])), (q1, .inl (c1, 9, .inr (.inr (.inr (.inr f25))))), (q3, .inr (9, [.ref u4, .int 0, .int 0, .int 0, .int 0, .int 0])), (q27, .inr (9, [.null, .int 0, .int 0, .int 0, .int 0, .int 0]))] H := hP
  have hD : va_D A [(h0, .inr (12, [.ref q1, .null, .null, .null, .int 0, .int 0, .int 0, .int 0, .int 0, .int 0, .int 0, .int 0, .int 0, .int 0])), (q1, .inl (c1, 9, .inr (.inr (.inr (.inr f25))))), (q3, .inr (9, [.ref u4, .int 0, .int 0, .int 0, .int 0, .int 0])), (q27, .inr (9, [.null, .int 0, .int 0, .int 0, .int 0, .int 0]))] := hD
  refine W.widen (k := 14) (n := 3651) (by decide) (by decide) ?_
  refine lv_dup hx hb dX6_init_29 rfl ?_
  have hP := hP.sub (ws' := [(q27, .inr (9, [.null, .int 0, .int 0, .int 0, .int 0, .int 0])), (h0, .inr (12, [.ref q1, .null, .null, .null, .int 0, .int 0, .int 0, .int 0, .int 0, .int 0, .int 0, .int 0, .int 0, .int 0])), (q1, .inl (c1, 9, .inr (.inr (.inr (.inr f25))))), (q3, .inr (9, [.ref u4, .int 0, .int 0, .int 0, .int 0, .int 0]))]) [3, 0, 1, 2] rfl
  have hD := hD.sub (ws' := [(q27, .inr (9, [.null, .int 0, .int 0, .int 0, .int 0, .int 0])), (h0, .inr (12, [.ref q1, .null, .null, .null, .int 0, .int 0, .int 0, .int 0, .int 0, .int 0, .int 0, .int 0, .int 0, .int 0])), (q1, .inl (c1, 9, .inr (.inr (.inr (.inr f25))))), (q3, .inr (9, [.ref u4, .int 0, .int 0, .int 0, .int 0, .int 0]))]) [3, 0, 1, 2] (by decide) rfl
  have hPc := hP.sub (ws' := [(q27, .inr (9, [.null, .int 0, .int 0, .int 0, .int 0, .int 0]))]) [0] rfl
  have hKc := hK.sub (tys' := []) [] rfl
  have hFc : ∀ q : Nat, rg1 q27 H.size q → A q := fun q h => h.elim (fun e => by rw [e]; exact hD.2 0 _ rfl) (fun h => hA q (Nat.le_trans hS.1 h))
  refine va_callv (va_runI (As := []) (rest := [.ref q27, .int 6, .ref q1]) ⟨hx, hb, hml, hown, hts⟩ (c_X3_init l D q27 H.size) (cwI 0 hts gX6_init_X3_init rfl rfl rfl (hts (.initialized RX3) (by decide +kernel)) (hts (.methodLink RX6 15 yX3_init) (by decide +kernel)) (hts (.instanceMethod yX3_init) (by decide +kernel)) rfl (by decide +kernel) ⟨Nat.le_of_ble_eq_true rfl, Nat.le_of_ble_eq_true rfl⟩) ⟨fun a U g mk q => ⟨q.1, q.2.1, q.2.2.1, va_K.moved (u := U) (U := U.calling g mk a) (Vm.Alike.refl U.vm) q.2.2.2⟩, fun U hU hW => ⟨rfl, congrArg Array.size hU, by rw [hU]; exact hPc, va_K.moved hW.alike hKc⟩⟩ rfl rfl hl.1 rfl (lv_room (Nat.le_of_ble_eq_true rfl)) dX6_init_30 ⟨Nat.le_of_ble_eq_true rfl, Nat.le_of_ble_eq_true rfl⟩) hS (fun q _ h => hFc q h) hFc (fun u t H1 locs ht hvm hw hB hz1 hk1 hS => ?_)
  obtain ⟨u28, eu28⟩ : ∃ z, z = u := ⟨_, rfl⟩
  rw [ht, ← eu28] at hB
  have hP := va_keep1 hP hD hB hk1
  have hD := va_keep1D (e' := .inr (9, [.ref u28, .int 0, .int 0, .int 0, .int 0, .int 0])) hD
  generalize H1 = H at hP hS ⊢
  have hP : va_P D vwCl [(q27, .inr (9, [.ref u28, .int 0, .int 0, .int 0, .int 0, .int 0])), (h0, .inr (12, [.ref q1, .null, .null, .null, .int 0, .int 0, .int 0, .int 0, .int 0, .int 0, .int 0, .int 0, .int 0, .int 0])), (q1, .inl (c1, 9, .inr (.inr (.inr (.inr f25))))), (q3, .inr (9, [.ref u4, .int 0, .int 0, .int 0, .int 0, .int 0]))] H := hP
  have hD : va_D A [(q27, .inr (9, [.ref u28, .int 0, .int 0, .int 0, .int 0, .int 0])), (h0, .inr (12, [.ref q1, .null, .null, .null, .int 0, .int 0, .int 0, .int 0, .int 0, .int 0, .int 0, .int 0, .int 0, .int 0])), (q1, .inl (c1, 9, .inr (.inr (.inr (.inr f25))))), (q3, .inr (9, [.ref u4, .int 0, .int 0, .int 0, .int 0, .int 0]))] := hD
  refine W.widen (k := 15) (n := 4251) (by decide) (by decide) ?_
  refine va_astq hx hb hK hP hD hS 2 0 0 9 rfl rfl rfl rfl (vp_in_nI (n := 6) (by decide) (by decide)) dX6_init_33 (fun H locs hP hD hS => ?_)
  have hP : va_P D vwCl [(q27, .inr (9, [.ref u28, .int 0, .int 0, .int 0, .int 0, .int 0])), (h0, .inr (12, [.ref q1, .null, .null, .null, .int 0, .int 0, .int 0, .int 0, .int 0, .int 0, .int 0, .int 0, .int 0, .int 0])), (q1, .inl (c1, 9, .inr (.inr (.inr (.inr (va_up f25 (6 : Int32).toNatClampNeg (some q27))))))), (q3, .inr (9, [.ref u4, .int 0, .int 0, .int 0, .int 0, .int 0]))] H := hP
  have hD : va_D A [(q27, .inr (9, [.ref u28, .int 0, .int 0, .int 0, .int 0, .int 0])), (h0, .inr (12, [.ref q1, .null, .null, .null, .int 0, .int 0, .int 0, .int 0, .int 0, .int 0, .int 0, .int 0, .int 0, .int 0])), (q1, .inl (c1, 9, .inr (.inr (.inr (.inr (va_up f25 (6 : Int32).toNatClampNeg (some q27))))))), (q3, .inr (9, [.ref u4, .int 0, .int 0, .int 0, .int 0, .int 0]))] := hD
  have hf : va_up f25 (6 : Int32).toNatClampNeg (some q27) 0 = some q3 := by unfold va_up; rw [if_neg (by decide)]; exact hf
  generalize va_up f25 (6 : Int32).toNatClampNeg (some q27) = f29 at hP hD hf
  have hP := hP.sub (ws' := [(h0, .inr (12, [.ref q1, .null, .null, .null, .int 0, .int 0, .int 0, .int 0, .int 0, .int 0, .int 0, .int 0, .int 0, .int 0])), (q1, .inl (c1, 9, .inr (.inr (.inr (.inr f29))))), (q3, .inr (9, [.ref u4, .int 0, .int 0, .int 0, .int 0, .int 0]))]) [1, 2, 3] rfl
  have hD := hD.sub (ws' := [(h0, .inr (12, [.ref q1, .null, .null, .null, .int 0, .int 0, .int 0, .int 0, .int 0, .int 0, .int 0, .int 0, .int 0, .int 0])), (q1, .inl (c1, 9, .inr (.inr (.inr (.inr f29))))), (q3, .inr (9, [.ref u4, .int 0, .int 0, .int 0, .int 0, .int 0]))]) [1, 2, 3] (by decide) rfl
  have hP : va_P D vwCl [(h0, .inr (12, [.ref q1, .null, .null, .null, .int 0, .int 0, .int 0, .int 0, .int 0, .int 0, .int 0, .int 0, .int 0, .int 0])), (q1, .inl (c1, 9, .inr (.inr (.inr (.inr f29))))), (q3, .inr (9, [.ref u4, .int 0, .int 0, .int 0, .int 0, .int 0]))] H := hP
  have hD : va_D A [(h0, .inr (12, [.ref q1, .null, .null, .null, .int 0, .int 0, .int 0, .int 0, .int 0, .int 0, .int 0, .int 0, .int 0, .int 0])), (q1, .inl (c1, 9, .inr (.inr (.inr (.inr f29))))), (q3, .inr (9, [.ref u4, .int 0, .int 0, .int 0, .int 0, .int 0]))] := hD
  refine lv_iinc (v := 7) (lv' := [(1, .int 7), (0, .ref h0)]) hx hb dX6_init_34 hl (k := 0) rfl (by decide) (by decide) rfl (fun ls hl => ?_)
  refine lv_goto (tgt := 15) hx hb dX6_init_37 (by decide) ?_
  refine lv_iload_n hx hb dX6_init_15 rfl (lv_at hl 0 rfl) ?_
  refine lv_bipush (v := 9) hx hb dX6_init_16 (by decide) ?_
  refine lv_icmp_ge (tgt := 40) hx hb dX6_init_18 (by decide) (fun c => by first | exact absurd c (by decide) | exact absurd (by decide) c) (fun _ => ?_)
  refine lv_aload_n hx hb dX6_init_21 rfl (lv_at hl 1 rfl) ?_
  refine va_get (D := D) (ci := 12) (v := .ref q1) (C := RX6) (T := TX6) (N := 14) hx hb hts (by decide +kernel) hown hK hP 0 rfl rfl 0 (by decide) (hts (.fieldLink RX6 11 "FairwayChancery" "holes" "[LFairwayChancery$Hole;") (by decide +kernel)) (fun _ h9 => h9) rfl dX6_init_22 ?_
  refine lv_iload_n hx hb dX6_init_25 rfl (lv_at hl 0 rfl) ?_
  refine va_new (ci := 9) (fs := [.null, .int 0, .int 0, .int 0, .int 0, .int 0]) (C := RX3) (T := TX3) (N := 6) hx hb hts (by decide +kernel) tyX3 tyX3_ok hown (hts (.classLink RX6 9 RX3) (by decide +kernel)) (hts (.instantiable RX3 6) (by decide +kernel)) (hts (.initialized RX3) (by decide +kernel)) hK hP hD hS hA rfl (fun j hj => match j, hj with | 0, _ => rfl | 1, _ => rfl | 2, _ => rfl | 3, _ => rfl | 4, _ => rfl | 5, _ => rfl | n + 6, h => absurd h (by omega)) (Nat.le_of_ble_eq_true rfl) (Nat.le_of_ble_eq_true rfl) dX6_init_26 (fun q31 H hP hD hS => ?_)
  have hP : va_P D vwCl [(h0, .inr (12, [.ref q1, .null, .null, .null, .int 0, .int 0, .int 0, .int 0, .int 0, .int 0, .int 0, .int 0, .int 0, .int 0])), (q1, .inl (c1, 9, .inr (.inr (.inr (.inr f29))))), (q3, .inr (9, [.ref u4, .int 0, .int 0, .int 0, .int 0, .int 0])), (q31, .inr (9, [.null, .int 0, .int 0, .int 0, .int 0, .int 0]))] H := hP
  have hD : va_D A [(h0, .inr (12, [.ref q1, .null, .null, .null, .int 0, .int 0, .int 0, .int 0, .int 0, .int 0, .int 0, .int 0, .int 0, .int 0])), (q1, .inl (c1, 9, .inr (.inr (.inr (.inr f29))))), (q3, .inr (9, [.ref u4, .int 0, .int 0, .int 0, .int 0, .int 0])), (q31, .inr (9, [.null, .int 0, .int 0, .int 0, .int 0, .int 0]))] := hD
  refine W.widen (k := 16) (n := 4257) (by decide) (by decide) ?_
  refine lv_dup hx hb dX6_init_29 rfl ?_
  have hP := hP.sub (ws' := [(q31, .inr (9, [.null, .int 0, .int 0, .int 0, .int 0, .int 0])), (h0, .inr (12, [.ref q1, .null, .null, .null, .int 0, .int 0, .int 0, .int 0, .int 0, .int 0, .int 0, .int 0, .int 0, .int 0])), (q1, .inl (c1, 9, .inr (.inr (.inr (.inr f29))))), (q3, .inr (9, [.ref u4, .int 0, .int 0, .int 0, .int 0, .int 0]))]) [3, 0, 1, 2] rfl
  have hD := hD.sub (ws' := [(q31, .inr (9, [.null, .int 0, .int 0, .int 0, .int 0, .int 0])), (h0, .inr (12, [.ref q1, .null, .null, .null, .int 0, .int 0, .int 0, .int 0, .int 0, .int 0, .int 0, .int 0, .int 0, .int 0])), (q1, .inl (c1, 9, .inr (.inr (.inr (.inr f29))))), (q3, .inr (9, [.ref u4, .int 0, .int 0, .int 0, .int 0, .int 0]))]) [3, 0, 1, 2] (by decide) rfl
  have hPc := hP.sub (ws' := [(q31, .inr (9, [.null, .int 0, .int 0, .int 0, .int 0, .int 0]))]) [0] rfl
  have hKc := hK.sub (tys' := []) [] rfl
  have hFc : ∀ q : Nat, rg1 q31 H.size q → A q := fun q h => h.elim (fun e => by rw [e]; exact hD.2 0 _ rfl) (fun h => hA q (Nat.le_trans hS.1 h))
  refine va_callv (va_runI (As := []) (rest := [.ref q31, .int 7, .ref q1]) ⟨hx, hb, hml, hown, hts⟩ (c_X3_init l D q31 H.size) (cwI 0 hts gX6_init_X3_init rfl rfl rfl (hts (.initialized RX3) (by decide +kernel)) (hts (.methodLink RX6 15 yX3_init) (by decide +kernel)) (hts (.instanceMethod yX3_init) (by decide +kernel)) rfl (by decide +kernel) ⟨Nat.le_of_ble_eq_true rfl, Nat.le_of_ble_eq_true rfl⟩) ⟨fun a U g mk q => ⟨q.1, q.2.1, q.2.2.1, va_K.moved (u := U) (U := U.calling g mk a) (Vm.Alike.refl U.vm) q.2.2.2⟩, fun U hU hW => ⟨rfl, congrArg Array.size hU, by rw [hU]; exact hPc, va_K.moved hW.alike hKc⟩⟩ rfl rfl hl.1 rfl (lv_room (Nat.le_of_ble_eq_true rfl)) dX6_init_30 ⟨Nat.le_of_ble_eq_true rfl, Nat.le_of_ble_eq_true rfl⟩) hS (fun q _ h => hFc q h) hFc (fun u t H1 locs ht hvm hw hB hz1 hk1 hS => ?_)
  obtain ⟨u32, eu32⟩ : ∃ z, z = u := ⟨_, rfl⟩
  rw [ht, ← eu32] at hB
  have hP := va_keep1 hP hD hB hk1
  have hD := va_keep1D (e' := .inr (9, [.ref u32, .int 0, .int 0, .int 0, .int 0, .int 0])) hD
  generalize H1 = H at hP hS ⊢
  have hP : va_P D vwCl [(q31, .inr (9, [.ref u32, .int 0, .int 0, .int 0, .int 0, .int 0])), (h0, .inr (12, [.ref q1, .null, .null, .null, .int 0, .int 0, .int 0, .int 0, .int 0, .int 0, .int 0, .int 0, .int 0, .int 0])), (q1, .inl (c1, 9, .inr (.inr (.inr (.inr f29))))), (q3, .inr (9, [.ref u4, .int 0, .int 0, .int 0, .int 0, .int 0]))] H := hP
  have hD : va_D A [(q31, .inr (9, [.ref u32, .int 0, .int 0, .int 0, .int 0, .int 0])), (h0, .inr (12, [.ref q1, .null, .null, .null, .int 0, .int 0, .int 0, .int 0, .int 0, .int 0, .int 0, .int 0, .int 0, .int 0])), (q1, .inl (c1, 9, .inr (.inr (.inr (.inr f29))))), (q3, .inr (9, [.ref u4, .int 0, .int 0, .int 0, .int 0, .int 0]))] := hD
  refine W.widen (k := 17) (n := 4857) (by decide) (by decide) ?_
  refine va_astq hx hb hK hP hD hS 2 0 0 9 rfl rfl rfl rfl (vp_in_nI (n := 7) (by decide) (by decide)) dX6_init_33 (fun H locs hP hD hS => ?_)
  have hP : va_P D vwCl [(q31, .inr (9, [.ref u32, .int 0, .int 0, .int 0, .int 0, .int 0])), (h0, .inr (12, [.ref q1, .null, .null, .null, .int 0, .int 0, .int 0, .int 0, .int 0, .int 0, .int 0, .int 0, .int 0, .int 0])), (q1, .inl (c1, 9, .inr (.inr (.inr (.inr (va_up f29 (7 : Int32).toNatClampNeg (some q31))))))), (q3, .inr (9, [.ref u4, .int 0, .int 0, .int 0, .int 0, .int 0]))] H := hP
  have hD : va_D A [(q31, .inr (9, [.ref u32, .int 0, .int 0, .int 0, .int 0, .int 0])), (h0, .inr (12, [.ref q1, .null, .null, .null, .int 0, .int 0, .int 0, .int 0, .int 0, .int 0, .int 0, .int 0, .int 0, .int 0])), (q1, .inl (c1, 9, .inr (.inr (.inr (.inr (va_up f29 (7 : Int32).toNatClampNeg (some q31))))))), (q3, .inr (9, [.ref u4, .int 0, .int 0, .int 0, .int 0, .int 0]))] := hD
  have hf : va_up f29 (7 : Int32).toNatClampNeg (some q31) 0 = some q3 := by unfold va_up; rw [if_neg (by decide)]; exact hf
  generalize va_up f29 (7 : Int32).toNatClampNeg (some q31) = f33 at hP hD hf
  have hP := hP.sub (ws' := [(h0, .inr (12, [.ref q1, .null, .null, .null, .int 0, .int 0, .int 0, .int 0, .int 0, .int 0, .int 0, .int 0, .int 0, .int 0])), (q1, .inl (c1, 9, .inr (.inr (.inr (.inr f33))))), (q3, .inr (9, [.ref u4, .int 0, .int 0, .int 0, .int 0, .int 0]))]) [1, 2, 3] rfl
  have hD := hD.sub (ws' := [(h0, .inr (12, [.ref q1, .null, .null, .null, .int 0, .int 0, .int 0, .int 0, .int 0, .int 0, .int 0, .int 0, .int 0, .int 0])), (q1, .inl (c1, 9, .inr (.inr (.inr (.inr f33))))), (q3, .inr (9, [.ref u4, .int 0, .int 0, .int 0, .int 0, .int 0]))]) [1, 2, 3] (by decide) rfl
  have hP : va_P D vwCl [(h0, .inr (12, [.ref q1, .null, .null, .null, .int 0, .int 0, .int 0, .int 0, .int 0, .int 0, .int 0, .int 0, .int 0, .int 0])), (q1, .inl (c1, 9, .inr (.inr (.inr (.inr f33))))), (q3, .inr (9, [.ref u4, .int 0, .int 0, .int 0, .int 0, .int 0]))] H := hP
  have hD : va_D A [(h0, .inr (12, [.ref q1, .null, .null, .null, .int 0, .int 0, .int 0, .int 0, .int 0, .int 0, .int 0, .int 0, .int 0, .int 0])), (q1, .inl (c1, 9, .inr (.inr (.inr (.inr f33))))), (q3, .inr (9, [.ref u4, .int 0, .int 0, .int 0, .int 0, .int 0]))] := hD
  refine lv_iinc (v := 8) (lv' := [(1, .int 8), (0, .ref h0)]) hx hb dX6_init_34 hl (k := 0) rfl (by decide) (by decide) rfl (fun ls hl => ?_)
  refine lv_goto (tgt := 15) hx hb dX6_init_37 (by decide) ?_
  refine lv_iload_n hx hb dX6_init_15 rfl (lv_at hl 0 rfl) ?_
  refine lv_bipush (v := 9) hx hb dX6_init_16 (by decide) ?_
  refine lv_icmp_ge (tgt := 40) hx hb dX6_init_18 (by decide) (fun c => by first | exact absurd c (by decide) | exact absurd (by decide) c) (fun _ => ?_)
  refine lv_aload_n hx hb dX6_init_21 rfl (lv_at hl 1 rfl) ?_
  refine va_get (D := D) (ci := 12) (v := .ref q1) (C := RX6) (T := TX6) (N := 14) hx hb hts (by decide +kernel) hown hK hP 0 rfl rfl 0 (by decide) (hts (.fieldLink RX6 11 "FairwayChancery" "holes" "[LFairwayChancery$Hole;") (by decide +kernel)) (fun _ h9 => h9) rfl dX6_init_22 ?_
  refine lv_iload_n hx hb dX6_init_25 rfl (lv_at hl 0 rfl) ?_
  refine va_new (ci := 9) (fs := [.null, .int 0, .int 0, .int 0, .int 0, .int 0]) (C := RX3) (T := TX3) (N := 6) hx hb hts (by decide +kernel) tyX3 tyX3_ok hown (hts (.classLink RX6 9 RX3) (by decide +kernel)) (hts (.instantiable RX3 6) (by decide +kernel)) (hts (.initialized RX3) (by decide +kernel)) hK hP hD hS hA rfl (fun j hj => match j, hj with | 0, _ => rfl | 1, _ => rfl | 2, _ => rfl | 3, _ => rfl | 4, _ => rfl | 5, _ => rfl | n + 6, h => absurd h (by omega)) (Nat.le_of_ble_eq_true rfl) (Nat.le_of_ble_eq_true rfl) dX6_init_26 (fun q35 H hP hD hS => ?_)
  have hP : va_P D vwCl [(h0, .inr (12, [.ref q1, .null, .null, .null, .int 0, .int 0, .int 0, .int 0, .int 0, .int 0, .int 0, .int 0, .int 0, .int 0])), (q1, .inl (c1, 9, .inr (.inr (.inr (.inr f33))))), (q3, .inr (9, [.ref u4, .int 0, .int 0, .int 0, .int 0, .int 0])), (q35, .inr (9, [.null, .int 0, .int 0, .int 0, .int 0, .int 0]))] H := hP
  have hD : va_D A [(h0, .inr (12, [.ref q1, .null, .null, .null, .int 0, .int 0, .int 0, .int 0, .int 0, .int 0, .int 0, .int 0, .int 0, .int 0])), (q1, .inl (c1, 9, .inr (.inr (.inr (.inr f33))))), (q3, .inr (9, [.ref u4, .int 0, .int 0, .int 0, .int 0, .int 0])), (q35, .inr (9, [.null, .int 0, .int 0, .int 0, .int 0, .int 0]))] := hD
  refine W.widen (k := 18) (n := 4863) (by decide) (by decide) ?_
  refine lv_dup hx hb dX6_init_29 rfl ?_
  have hP := hP.sub (ws' := [(q35, .inr (9, [.null, .int 0, .int 0, .int 0, .int 0, .int 0])), (h0, .inr (12, [.ref q1, .null, .null, .null, .int 0, .int 0, .int 0, .int 0, .int 0, .int 0, .int 0, .int 0, .int 0, .int 0])), (q1, .inl (c1, 9, .inr (.inr (.inr (.inr f33))))), (q3, .inr (9, [.ref u4, .int 0, .int 0, .int 0, .int 0, .int 0]))]) [3, 0, 1, 2] rfl
  have hD := hD.sub (ws' := [(q35, .inr (9, [.null, .int 0, .int 0, .int 0, .int 0, .int 0])), (h0, .inr (12, [.ref q1, .null, .null, .null, .int 0, .int 0, .int 0, .int 0, .int 0, .int 0, .int 0, .int 0, .int 0, .int 0])), (q1, .inl (c1, 9, .inr (.inr (.inr (.inr f33))))), (q3, .inr (9, [.ref u4, .int 0, .int 0, .int 0, .int 0, .int 0]))]) [3, 0, 1, 2] (by decide) rfl
  have hPc := hP.sub (ws' := [(q35, .inr (9, [.null, .int 0, .int 0, .int 0, .int 0, .int 0]))]) [0] rfl
  have hKc := hK.sub (tys' := []) [] rfl
  have hFc : ∀ q : Nat, rg1 q35 H.size q → A q := fun q h => h.elim (fun e => by rw [e]; exact hD.2 0 _ rfl) (fun h => hA q (Nat.le_trans hS.1 h))
  refine va_callv (va_runI (As := []) (rest := [.ref q35, .int 8, .ref q1]) ⟨hx, hb, hml, hown, hts⟩ (c_X3_init l D q35 H.size) (cwI 0 hts gX6_init_X3_init rfl rfl rfl (hts (.initialized RX3) (by decide +kernel)) (hts (.methodLink RX6 15 yX3_init) (by decide +kernel)) (hts (.instanceMethod yX3_init) (by decide +kernel)) rfl (by decide +kernel) ⟨Nat.le_of_ble_eq_true rfl, Nat.le_of_ble_eq_true rfl⟩) ⟨fun a U g mk q => ⟨q.1, q.2.1, q.2.2.1, va_K.moved (u := U) (U := U.calling g mk a) (Vm.Alike.refl U.vm) q.2.2.2⟩, fun U hU hW => ⟨rfl, congrArg Array.size hU, by rw [hU]; exact hPc, va_K.moved hW.alike hKc⟩⟩ rfl rfl hl.1 rfl (lv_room (Nat.le_of_ble_eq_true rfl)) dX6_init_30 ⟨Nat.le_of_ble_eq_true rfl, Nat.le_of_ble_eq_true rfl⟩) hS (fun q _ h => hFc q h) hFc (fun u t H1 locs ht hvm hw hB hz1 hk1 hS => ?_)
  obtain ⟨u36, eu36⟩ : ∃ z, z = u := ⟨_, rfl⟩
  rw [ht, ← eu36] at hB
  have hP := va_keep1 hP hD hB hk1
  have hD := va_keep1D (e' := .inr (9, [.ref u36, .int 0, .int 0, .int 0, .int 0, .int 0])) hD
  generalize H1 = H at hP hS ⊢
  have hP : va_P D vwCl [(q35, .inr (9, [.ref u36, .int 0, .int 0, .int 0, .int 0, .int 0])), (h0, .inr (12, [.ref q1, .null, .null, .null, .int 0, .int 0, .int 0, .int 0, .int 0, .int 0, .int 0, .int 0, .int 0, .int 0])), (q1, .inl (c1, 9, .inr (.inr (.inr (.inr f33))))), (q3, .inr (9, [.ref u4, .int 0, .int 0, .int 0, .int 0, .int 0]))] H := hP
  have hD : va_D A [(q35, .inr (9, [.ref u36, .int 0, .int 0, .int 0, .int 0, .int 0])), (h0, .inr (12, [.ref q1, .null, .null, .null, .int 0, .int 0, .int 0, .int 0, .int 0, .int 0, .int 0, .int 0, .int 0, .int 0])), (q1, .inl (c1, 9, .inr (.inr (.inr (.inr f33))))), (q3, .inr (9, [.ref u4, .int 0, .int 0, .int 0, .int 0, .int 0]))] := hD
  refine W.widen (k := 19) (n := 5463) (by decide) (by decide) ?_
  refine va_astq hx hb hK hP hD hS 2 0 0 9 rfl rfl rfl rfl (vp_in_nI (n := 8) (by decide) (by decide)) dX6_init_33 (fun H locs hP hD hS => ?_)
  have hP : va_P D vwCl [(q35, .inr (9, [.ref u36, .int 0, .int 0, .int 0, .int 0, .int 0])), (h0, .inr (12, [.ref q1, .null, .null, .null, .int 0, .int 0, .int 0, .int 0, .int 0, .int 0, .int 0, .int 0, .int 0, .int 0])), (q1, .inl (c1, 9, .inr (.inr (.inr (.inr (va_up f33 (8 : Int32).toNatClampNeg (some q35))))))), (q3, .inr (9, [.ref u4, .int 0, .int 0, .int 0, .int 0, .int 0]))] H := hP
  have hD : va_D A [(q35, .inr (9, [.ref u36, .int 0, .int 0, .int 0, .int 0, .int 0])), (h0, .inr (12, [.ref q1, .null, .null, .null, .int 0, .int 0, .int 0, .int 0, .int 0, .int 0, .int 0, .int 0, .int 0, .int 0])), (q1, .inl (c1, 9, .inr (.inr (.inr (.inr (va_up f33 (8 : Int32).toNatClampNeg (some q35))))))), (q3, .inr (9, [.ref u4, .int 0, .int 0, .int 0, .int 0, .int 0]))] := hD
  have hf : va_up f33 (8 : Int32).toNatClampNeg (some q35) 0 = some q3 := by unfold va_up; rw [if_neg (by decide)]; exact hf
  generalize va_up f33 (8 : Int32).toNatClampNeg (some q35) = f37 at hP hD hf
  have hP := hP.sub (ws' := [(h0, .inr (12, [.ref q1, .null, .null, .null, .int 0, .int 0, .int 0, .int 0, .int 0, .int 0, .int 0, .int 0, .int 0, .int 0])), (q1, .inl (c1, 9, .inr (.inr (.inr (.inr f37))))), (q3, .inr (9, [.ref u4, .int 0, .int 0, .int 0, .int 0, .int 0]))]) [1, 2, 3] rfl
  have hD := hD.sub (ws' := [(h0, .inr (12, [.ref q1, .null, .null, .null, .int 0, .int 0, .int 0, .int 0, .int 0, .int 0, .int 0, .int 0, .int 0, .int 0])), (q1, .inl (c1, 9, .inr (.inr (.inr (.inr f37))))), (q3, .inr (9, [.ref u4, .int 0, .int 0, .int 0, .int 0, .int 0]))]) [1, 2, 3] (by decide) rfl
  have hP : va_P D vwCl [(h0, .inr (12, [.ref q1, .null, .null, .null, .int 0, .int 0, .int 0, .int 0, .int 0, .int 0, .int 0, .int 0, .int 0, .int 0])), (q1, .inl (c1, 9, .inr (.inr (.inr (.inr f37))))), (q3, .inr (9, [.ref u4, .int 0, .int 0, .int 0, .int 0, .int 0]))] H := hP
  have hD : va_D A [(h0, .inr (12, [.ref q1, .null, .null, .null, .int 0, .int 0, .int 0, .int 0, .int 0, .int 0, .int 0, .int 0, .int 0, .int 0])), (q1, .inl (c1, 9, .inr (.inr (.inr (.inr f37))))), (q3, .inr (9, [.ref u4, .int 0, .int 0, .int 0, .int 0, .int 0]))] := hD
  refine lv_iinc (v := 9) (lv' := [(1, .int 9), (0, .ref h0)]) hx hb dX6_init_34 hl (k := 0) rfl (by decide) (by decide) rfl (fun ls hl => ?_)
  refine lv_goto (tgt := 15) hx hb dX6_init_37 (by decide) ?_
  refine lv_iload_n hx hb dX6_init_15 rfl (lv_at hl 0 rfl) ?_
  refine lv_bipush (v := 9) hx hb dX6_init_16 (by decide) ?_
  refine lv_icmp_ge (tgt := 40) hx hb dX6_init_18 (by decide) (fun _ => ?_) (fun c => by first | exact absurd (by decide) c | exact absurd c (by decide))
  refine lv_aload_n hx hb dX6_init_40 rfl (lv_at hl 1 rfl) ?_
  refine lv_bipush (v := 6) hx hb dX6_init_41 (by decide) ?_
  refine va_newq hx hb hown (hts (.classLink RX6 16 RX5) (by decide +kernel)) hAO5 hK hP hD hS hA (by decide) (N' := 6) (by decide) (by decide) (Nat.le_of_ble_eq_true rfl) (Nat.le_of_ble_eq_true rfl) dX6_init_43 (fun q39 c39 H hK hP hD hS => ?_)
  have hK : va_K D vwCl [(c1, .object "FairwayChancery$Hole"), (c39, .object "FairwayChancery$Player")] s := hK
  have hP : va_P D vwCl [(h0, .inr (12, [.ref q1, .null, .null, .null, .int 0, .int 0, .int 0, .int 0, .int 0, .int 0, .int 0, .int 0, .int 0, .int 0])), (q1, .inl (c1, 9, .inr (.inr (.inr (.inr f37))))), (q3, .inr (9, [.ref u4, .int 0, .int 0, .int 0, .int 0, .int 0])), (q39, .inl (c39, 6, .inr (.inr (.inr (.inr (fun _ => none))))))] H := hP
  have hD : va_D A [(h0, .inr (12, [.ref q1, .null, .null, .null, .int 0, .int 0, .int 0, .int 0, .int 0, .int 0, .int 0, .int 0, .int 0, .int 0])), (q1, .inl (c1, 9, .inr (.inr (.inr (.inr f37))))), (q3, .inr (9, [.ref u4, .int 0, .int 0, .int 0, .int 0, .int 0])), (q39, .inl (c39, 6, .inr (.inr (.inr (.inr (fun _ => none))))))] := hD
  refine W.widen (k := 20) (n := 5469) (by decide) (by decide) ?_
  refine va_putF (D := D) (ci := 12) (v := .ref q39) (ty := (.array (.object "FairwayChancery$Player"))) (C := RX6) (T := TX6) (N := 14) hx hb hts (by decide +kernel) tyX6 tyX6_ok nmX6 hown hK hP hD hS 0 rfl rfl 1 (by decide) (hts (.fieldLink RX6 18 "FairwayChancery" "players" "[LFairwayChancery$Player;") (by decide +kernel)) (fun _ h9 => h9) rfl hin rfl (by decide +kernel) rfl rfl (Nat.le_of_ble_eq_true rfl) dX6_init_46 (fun H locs hP hD hS => ?_)
  have hP : va_P D vwCl [(h0, .inr (12, [.ref q1, .ref q39, .null, .null, .int 0, .int 0, .int 0, .int 0, .int 0, .int 0, .int 0, .int 0, .int 0, .int 0])), (q1, .inl (c1, 9, .inr (.inr (.inr (.inr f37))))), (q3, .inr (9, [.ref u4, .int 0, .int 0, .int 0, .int 0, .int 0])), (q39, .inl (c39, 6, .inr (.inr (.inr (.inr (fun _ => none))))))] H := hP
  have hD : va_D A [(h0, .inr (12, [.ref q1, .ref q39, .null, .null, .int 0, .int 0, .int 0, .int 0, .int 0, .int 0, .int 0, .int 0, .int 0, .int 0])), (q1, .inl (c1, 9, .inr (.inr (.inr (.inr f37))))), (q3, .inr (9, [.ref u4, .int 0, .int 0, .int 0, .int 0, .int 0])), (q39, .inl (c39, 6, .inr (.inr (.inr (.inr (fun _ => none))))))] := hD
  refine lv_iconst (v := 0) hx hb dX6_init_49 (by decide) ?_
  refine lv_istore_n (lv' := [(1, .int 0), (0, .ref h0)]) hx hb dX6_init_50 rfl hl (by decide) rfl (fun ls hl => ?_)
  refine lv_iload_n hx hb dX6_init_51 rfl (lv_at hl 0 rfl) ?_
  refine lv_bipush (v := 6) hx hb dX6_init_52 (by decide) ?_
  refine lv_icmp_ge (tgt := 76) hx hb dX6_init_54 (by decide) (fun c => by first | exact absurd c (by decide) | exact absurd (by decide) c) (fun _ => ?_)
  refine lv_aload_n hx hb dX6_init_57 rfl (lv_at hl 1 rfl) ?_
  refine va_get (D := D) (ci := 12) (v := .ref q39) (C := RX6) (T := TX6) (N := 14) hx hb hts (by decide +kernel) hown hK hP 0 rfl rfl 1 (by decide) (hts (.fieldLink RX6 18 "FairwayChancery" "players" "[LFairwayChancery$Player;") (by decide +kernel)) (fun _ h9 => h9) rfl dX6_init_58 ?_
  refine lv_iload_n hx hb dX6_init_61 rfl (lv_at hl 0 rfl) ?_
  refine va_new (ci := 11) (fs := [.null, .null, .null, .int 0]) (C := RX5) (T := TX5) (N := 4) hx hb hts (by decide +kernel) tyX5 tyX5_ok hown (hts (.classLink RX6 16 RX5) (by decide +kernel)) (hts (.instantiable RX5 4) (by decide +kernel)) (hts (.initialized RX5) (by decide +kernel)) hK hP hD hS hA rfl (fun j hj => match j, hj with | 0, _ => rfl | 1, _ => rfl | 2, _ => rfl | 3, _ => rfl | n + 4, h => absurd h (by omega)) (Nat.le_of_ble_eq_true rfl) (Nat.le_of_ble_eq_true rfl) dX6_init_62 (fun q41 H hP hD hS => ?_)
  have hP : va_P D vwCl [(h0, .inr (12, [.ref q1, .ref q39, .null, .null, .int 0, .int 0, .int 0, .int 0, .int 0, .int 0, .int 0, .int 0, .int 0, .int 0])), (q1, .inl (c1, 9, .inr (.inr (.inr (.inr f37))))), (q3, .inr (9, [.ref u4, .int 0, .int 0, .int 0, .int 0, .int 0])), (q39, .inl (c39, 6, .inr (.inr (.inr (.inr (fun _ => none)))))), (q41, .inr (11, [.null, .null, .null, .int 0]))] H := hP
  have hD : va_D A [(h0, .inr (12, [.ref q1, .ref q39, .null, .null, .int 0, .int 0, .int 0, .int 0, .int 0, .int 0, .int 0, .int 0, .int 0, .int 0])), (q1, .inl (c1, 9, .inr (.inr (.inr (.inr f37))))), (q3, .inr (9, [.ref u4, .int 0, .int 0, .int 0, .int 0, .int 0])), (q39, .inl (c39, 6, .inr (.inr (.inr (.inr (fun _ => none)))))), (q41, .inr (11, [.null, .null, .null, .int 0]))] := hD
  refine W.widen (k := 21) (n := 5473) (by decide) (by decide) ?_
  refine lv_dup hx hb dX6_init_65 rfl ?_
  have hP := hP.sub (ws' := [(q41, .inr (11, [.null, .null, .null, .int 0])), (h0, .inr (12, [.ref q1, .ref q39, .null, .null, .int 0, .int 0, .int 0, .int 0, .int 0, .int 0, .int 0, .int 0, .int 0, .int 0])), (q1, .inl (c1, 9, .inr (.inr (.inr (.inr f37))))), (q3, .inr (9, [.ref u4, .int 0, .int 0, .int 0, .int 0, .int 0])), (q39, .inl (c39, 6, .inr (.inr (.inr (.inr (fun _ => none))))))]) [4, 0, 1, 2, 3] rfl
  have hD := hD.sub (ws' := [(q41, .inr (11, [.null, .null, .null, .int 0])), (h0, .inr (12, [.ref q1, .ref q39, .null, .null, .int 0, .int 0, .int 0, .int 0, .int 0, .int 0, .int 0, .int 0, .int 0, .int 0])), (q1, .inl (c1, 9, .inr (.inr (.inr (.inr f37))))), (q3, .inr (9, [.ref u4, .int 0, .int 0, .int 0, .int 0, .int 0])), (q39, .inl (c39, 6, .inr (.inr (.inr (.inr (fun _ => none))))))]) [4, 0, 1, 2, 3] (by decide) rfl
  have hPc := hP.sub (ws' := [(q41, .inr (11, [.null, .null, .null, .int 0]))]) [0] rfl
  have hKc := hK.sub (tys' := []) [] rfl
  have hFc : ∀ q : Nat, rg1 q41 H.size q → A q := fun q h => h.elim (fun e => by rw [e]; exact hD.2 0 _ rfl) (fun h => hA q (Nat.le_trans hS.1 h))
  refine va_callv (va_runI (As := []) (rest := [.ref q41, .int 0, .ref q39]) ⟨hx, hb, hml, hown, hts⟩ (c_X5_init l D q41 H.size) (cwI 0 hts gX6_init_X5_init rfl rfl rfl (hts (.initialized RX5) (by decide +kernel)) (hts (.methodLink RX6 22 yX5_init) (by decide +kernel)) (hts (.instanceMethod yX5_init) (by decide +kernel)) rfl (by decide +kernel) ⟨Nat.le_of_ble_eq_true rfl, Nat.le_of_ble_eq_true rfl⟩) ⟨fun a U g mk q => ⟨q.1, q.2.1, q.2.2.1, va_K.moved (u := U) (U := U.calling g mk a) (Vm.Alike.refl U.vm) q.2.2.2.1, va_Nw.same (u := U) rfl rfl q.2.2.2.2⟩, fun U hU hW => ⟨rfl, congrArg Array.size hU, by rw [hU]; exact hPc, va_K.moved hW.alike hKc, va_Nw.warmM hW hN5⟩⟩ rfl rfl hl.1 rfl (lv_room (Nat.le_of_ble_eq_true rfl)) dX6_init_66 ⟨Nat.le_of_ble_eq_true rfl, Nat.le_of_ble_eq_true rfl⟩) hS (fun q _ h => hFc q h) hFc (fun u t H1 locs ht hvm hw hB hz1 hk1 hS => ?_)
  obtain ⟨u42, eu42⟩ : ∃ z, z = u := ⟨_, rfl⟩
  rw [ht, ← eu42] at hB
  have hP := va_keep1 hP hD hB hk1
  have hD := va_keep1D (e' := .inr (11, u42)) hD
  generalize H1 = H at hP hS ⊢
  have hP : va_P D vwCl [(q41, .inr (11, u42)), (h0, .inr (12, [.ref q1, .ref q39, .null, .null, .int 0, .int 0, .int 0, .int 0, .int 0, .int 0, .int 0, .int 0, .int 0, .int 0])), (q1, .inl (c1, 9, .inr (.inr (.inr (.inr f37))))), (q3, .inr (9, [.ref u4, .int 0, .int 0, .int 0, .int 0, .int 0])), (q39, .inl (c39, 6, .inr (.inr (.inr (.inr (fun _ => none))))))] H := hP
  have hD : va_D A [(q41, .inr (11, u42)), (h0, .inr (12, [.ref q1, .ref q39, .null, .null, .int 0, .int 0, .int 0, .int 0, .int 0, .int 0, .int 0, .int 0, .int 0, .int 0])), (q1, .inl (c1, 9, .inr (.inr (.inr (.inr f37))))), (q3, .inr (9, [.ref u4, .int 0, .int 0, .int 0, .int 0, .int 0])), (q39, .inl (c39, 6, .inr (.inr (.inr (.inr (fun _ => none))))))] := hD
  refine W.widen (k := 28) (n := 5546) (by decide) (by decide) ?_
  refine va_astq hx hb hK hP hD hS 4 1 0 11 rfl rfl rfl rfl (vp_in_nI (n := 0) (by decide) (by decide)) dX6_init_69 (fun H locs hP hD hS => ?_)
  have hP : va_P D vwCl [(q41, .inr (11, u42)), (h0, .inr (12, [.ref q1, .ref q39, .null, .null, .int 0, .int 0, .int 0, .int 0, .int 0, .int 0, .int 0, .int 0, .int 0, .int 0])), (q1, .inl (c1, 9, .inr (.inr (.inr (.inr f37))))), (q3, .inr (9, [.ref u4, .int 0, .int 0, .int 0, .int 0, .int 0])), (q39, .inl (c39, 6, .inr (.inr (.inr (.inr (va_up (fun _ => none) (0 : Int32).toNatClampNeg (some q41)))))))] H := hP
  have hD : va_D A [(q41, .inr (11, u42)), (h0, .inr (12, [.ref q1, .ref q39, .null, .null, .int 0, .int 0, .int 0, .int 0, .int 0, .int 0, .int 0, .int 0, .int 0, .int 0])), (q1, .inl (c1, 9, .inr (.inr (.inr (.inr f37))))), (q3, .inr (9, [.ref u4, .int 0, .int 0, .int 0, .int 0, .int 0])), (q39, .inl (c39, 6, .inr (.inr (.inr (.inr (va_up (fun _ => none) (0 : Int32).toNatClampNeg (some q41)))))))] := hD
  generalize va_up (fun _ => none) (0 : Int32).toNatClampNeg (some q41) = f43 at hP hD
  have hP := hP.sub (ws' := [(h0, .inr (12, [.ref q1, .ref q39, .null, .null, .int 0, .int 0, .int 0, .int 0, .int 0, .int 0, .int 0, .int 0, .int 0, .int 0])), (q1, .inl (c1, 9, .inr (.inr (.inr (.inr f37))))), (q39, .inl (c39, 6, .inr (.inr (.inr (.inr f43))))), (q3, .inr (9, [.ref u4, .int 0, .int 0, .int 0, .int 0, .int 0]))]) [1, 2, 4, 3] rfl
  have hD := hD.sub (ws' := [(h0, .inr (12, [.ref q1, .ref q39, .null, .null, .int 0, .int 0, .int 0, .int 0, .int 0, .int 0, .int 0, .int 0, .int 0, .int 0])), (q1, .inl (c1, 9, .inr (.inr (.inr (.inr f37))))), (q39, .inl (c39, 6, .inr (.inr (.inr (.inr f43))))), (q3, .inr (9, [.ref u4, .int 0, .int 0, .int 0, .int 0, .int 0]))]) [1, 2, 4, 3] (by decide) rfl
  have hP : va_P D vwCl [(h0, .inr (12, [.ref q1, .ref q39, .null, .null, .int 0, .int 0, .int 0, .int 0, .int 0, .int 0, .int 0, .int 0, .int 0, .int 0])), (q1, .inl (c1, 9, .inr (.inr (.inr (.inr f37))))), (q39, .inl (c39, 6, .inr (.inr (.inr (.inr f43))))), (q3, .inr (9, [.ref u4, .int 0, .int 0, .int 0, .int 0, .int 0]))] H := hP
  have hD : va_D A [(h0, .inr (12, [.ref q1, .ref q39, .null, .null, .int 0, .int 0, .int 0, .int 0, .int 0, .int 0, .int 0, .int 0, .int 0, .int 0])), (q1, .inl (c1, 9, .inr (.inr (.inr (.inr f37))))), (q39, .inl (c39, 6, .inr (.inr (.inr (.inr f43))))), (q3, .inr (9, [.ref u4, .int 0, .int 0, .int 0, .int 0, .int 0]))] := hD
  refine lv_iinc (v := 1) (lv' := [(1, .int 1), (0, .ref h0)]) hx hb dX6_init_70 hl (k := 0) rfl (by decide) (by decide) rfl (fun ls hl => ?_)
  refine lv_goto (tgt := 51) hx hb dX6_init_73 (by decide) ?_
  refine lv_iload_n hx hb dX6_init_51 rfl (lv_at hl 0 rfl) ?_
  refine lv_bipush (v := 6) hx hb dX6_init_52 (by decide) ?_
  refine lv_icmp_ge (tgt := 76) hx hb dX6_init_54 (by decide) (fun c => by first | exact absurd c (by decide) | exact absurd (by decide) c) (fun _ => ?_)
  refine lv_aload_n hx hb dX6_init_57 rfl (lv_at hl 1 rfl) ?_
  refine va_get (D := D) (ci := 12) (v := .ref q39) (C := RX6) (T := TX6) (N := 14) hx hb hts (by decide +kernel) hown hK hP 0 rfl rfl 1 (by decide) (hts (.fieldLink RX6 18 "FairwayChancery" "players" "[LFairwayChancery$Player;") (by decide +kernel)) (fun _ h9 => h9) rfl dX6_init_58 ?_
  refine lv_iload_n hx hb dX6_init_61 rfl (lv_at hl 0 rfl) ?_
  refine va_new (ci := 11) (fs := [.null, .null, .null, .int 0]) (C := RX5) (T := TX5) (N := 4) hx hb hts (by decide +kernel) tyX5 tyX5_ok hown (hts (.classLink RX6 16 RX5) (by decide +kernel)) (hts (.instantiable RX5 4) (by decide +kernel)) (hts (.initialized RX5) (by decide +kernel)) hK hP hD hS hA rfl (fun j hj => match j, hj with | 0, _ => rfl | 1, _ => rfl | 2, _ => rfl | 3, _ => rfl | n + 4, h => absurd h (by omega)) (Nat.le_of_ble_eq_true rfl) (Nat.le_of_ble_eq_true rfl) dX6_init_62 (fun q45 H hP hD hS => ?_)
  have hP : va_P D vwCl [(h0, .inr (12, [.ref q1, .ref q39, .null, .null, .int 0, .int 0, .int 0, .int 0, .int 0, .int 0, .int 0, .int 0, .int 0, .int 0])), (q1, .inl (c1, 9, .inr (.inr (.inr (.inr f37))))), (q39, .inl (c39, 6, .inr (.inr (.inr (.inr f43))))), (q3, .inr (9, [.ref u4, .int 0, .int 0, .int 0, .int 0, .int 0])), (q45, .inr (11, [.null, .null, .null, .int 0]))] H := hP
  have hD : va_D A [(h0, .inr (12, [.ref q1, .ref q39, .null, .null, .int 0, .int 0, .int 0, .int 0, .int 0, .int 0, .int 0, .int 0, .int 0, .int 0])), (q1, .inl (c1, 9, .inr (.inr (.inr (.inr f37))))), (q39, .inl (c39, 6, .inr (.inr (.inr (.inr f43))))), (q3, .inr (9, [.ref u4, .int 0, .int 0, .int 0, .int 0, .int 0])), (q45, .inr (11, [.null, .null, .null, .int 0]))] := hD
  refine W.widen (k := 29) (n := 5550) (by decide) (by decide) ?_
  refine lv_dup hx hb dX6_init_65 rfl ?_
  have hP := hP.sub (ws' := [(q45, .inr (11, [.null, .null, .null, .int 0])), (h0, .inr (12, [.ref q1, .ref q39, .null, .null, .int 0, .int 0, .int 0, .int 0, .int 0, .int 0, .int 0, .int 0, .int 0, .int 0])), (q1, .inl (c1, 9, .inr (.inr (.inr (.inr f37))))), (q39, .inl (c39, 6, .inr (.inr (.inr (.inr f43))))), (q3, .inr (9, [.ref u4, .int 0, .int 0, .int 0, .int 0, .int 0]))]) [4, 0, 1, 2, 3] rfl
  have hD := hD.sub (ws' := [(q45, .inr (11, [.null, .null, .null, .int 0])), (h0, .inr (12, [.ref q1, .ref q39, .null, .null, .int 0, .int 0, .int 0, .int 0, .int 0, .int 0, .int 0, .int 0, .int 0, .int 0])), (q1, .inl (c1, 9, .inr (.inr (.inr (.inr f37))))), (q39, .inl (c39, 6, .inr (.inr (.inr (.inr f43))))), (q3, .inr (9, [.ref u4, .int 0, .int 0, .int 0, .int 0, .int 0]))]) [4, 0, 1, 2, 3] (by decide) rfl
  have hPc := hP.sub (ws' := [(q45, .inr (11, [.null, .null, .null, .int 0]))]) [0] rfl
  have hKc := hK.sub (tys' := []) [] rfl
  have hFc : ∀ q : Nat, rg1 q45 H.size q → A q := fun q h => h.elim (fun e => by rw [e]; exact hD.2 0 _ rfl) (fun h => hA q (Nat.le_trans hS.1 h))
  refine va_callv (va_runI (As := []) (rest := [.ref q45, .int 1, .ref q39]) ⟨hx, hb, hml, hown, hts⟩ (c_X5_init l D q45 H.size) (cwI 0 hts gX6_init_X5_init rfl rfl rfl (hts (.initialized RX5) (by decide +kernel)) (hts (.methodLink RX6 22 yX5_init) (by decide +kernel)) (hts (.instanceMethod yX5_init) (by decide +kernel)) rfl (by decide +kernel) ⟨Nat.le_of_ble_eq_true rfl, Nat.le_of_ble_eq_true rfl⟩) ⟨fun a U g mk q => ⟨q.1, q.2.1, q.2.2.1, va_K.moved (u := U) (U := U.calling g mk a) (Vm.Alike.refl U.vm) q.2.2.2.1, va_Nw.same (u := U) rfl rfl q.2.2.2.2⟩, fun U hU hW => ⟨rfl, congrArg Array.size hU, by rw [hU]; exact hPc, va_K.moved hW.alike hKc, va_Nw.warmM hW hN5⟩⟩ rfl rfl hl.1 rfl (lv_room (Nat.le_of_ble_eq_true rfl)) dX6_init_66 ⟨Nat.le_of_ble_eq_true rfl, Nat.le_of_ble_eq_true rfl⟩) hS (fun q _ h => hFc q h) hFc (fun u t H1 locs ht hvm hw hB hz1 hk1 hS => ?_)
  obtain ⟨u46, eu46⟩ : ∃ z, z = u := ⟨_, rfl⟩
  rw [ht, ← eu46] at hB
  have hP := va_keep1 hP hD hB hk1
  have hD := va_keep1D (e' := .inr (11, u46)) hD
  generalize H1 = H at hP hS ⊢
  have hP : va_P D vwCl [(q45, .inr (11, u46)), (h0, .inr (12, [.ref q1, .ref q39, .null, .null, .int 0, .int 0, .int 0, .int 0, .int 0, .int 0, .int 0, .int 0, .int 0, .int 0])), (q1, .inl (c1, 9, .inr (.inr (.inr (.inr f37))))), (q39, .inl (c39, 6, .inr (.inr (.inr (.inr f43))))), (q3, .inr (9, [.ref u4, .int 0, .int 0, .int 0, .int 0, .int 0]))] H := hP
  have hD : va_D A [(q45, .inr (11, u46)), (h0, .inr (12, [.ref q1, .ref q39, .null, .null, .int 0, .int 0, .int 0, .int 0, .int 0, .int 0, .int 0, .int 0, .int 0, .int 0])), (q1, .inl (c1, 9, .inr (.inr (.inr (.inr f37))))), (q39, .inl (c39, 6, .inr (.inr (.inr (.inr f43))))), (q3, .inr (9, [.ref u4, .int 0, .int 0, .int 0, .int 0, .int 0]))] := hD
  refine W.widen (k := 36) (n := 5623) (by decide) (by decide) ?_
  refine va_astq hx hb hK hP hD hS 3 1 0 11 rfl rfl rfl rfl (vp_in_nI (n := 1) (by decide) (by decide)) dX6_init_69 (fun H locs hP hD hS => ?_)
  have hP : va_P D vwCl [(q45, .inr (11, u46)), (h0, .inr (12, [.ref q1, .ref q39, .null, .null, .int 0, .int 0, .int 0, .int 0, .int 0, .int 0, .int 0, .int 0, .int 0, .int 0])), (q1, .inl (c1, 9, .inr (.inr (.inr (.inr f37))))), (q39, .inl (c39, 6, .inr (.inr (.inr (.inr (va_up f43 (1 : Int32).toNatClampNeg (some q45))))))), (q3, .inr (9, [.ref u4, .int 0, .int 0, .int 0, .int 0, .int 0]))] H := hP
  have hD : va_D A [(q45, .inr (11, u46)), (h0, .inr (12, [.ref q1, .ref q39, .null, .null, .int 0, .int 0, .int 0, .int 0, .int 0, .int 0, .int 0, .int 0, .int 0, .int 0])), (q1, .inl (c1, 9, .inr (.inr (.inr (.inr f37))))), (q39, .inl (c39, 6, .inr (.inr (.inr (.inr (va_up f43 (1 : Int32).toNatClampNeg (some q45))))))), (q3, .inr (9, [.ref u4, .int 0, .int 0, .int 0, .int 0, .int 0]))] := hD
  generalize va_up f43 (1 : Int32).toNatClampNeg (some q45) = f47 at hP hD
  have hP := hP.sub (ws' := [(h0, .inr (12, [.ref q1, .ref q39, .null, .null, .int 0, .int 0, .int 0, .int 0, .int 0, .int 0, .int 0, .int 0, .int 0, .int 0])), (q1, .inl (c1, 9, .inr (.inr (.inr (.inr f37))))), (q39, .inl (c39, 6, .inr (.inr (.inr (.inr f47))))), (q3, .inr (9, [.ref u4, .int 0, .int 0, .int 0, .int 0, .int 0]))]) [1, 2, 3, 4] rfl
  have hD := hD.sub (ws' := [(h0, .inr (12, [.ref q1, .ref q39, .null, .null, .int 0, .int 0, .int 0, .int 0, .int 0, .int 0, .int 0, .int 0, .int 0, .int 0])), (q1, .inl (c1, 9, .inr (.inr (.inr (.inr f37))))), (q39, .inl (c39, 6, .inr (.inr (.inr (.inr f47))))), (q3, .inr (9, [.ref u4, .int 0, .int 0, .int 0, .int 0, .int 0]))]) [1, 2, 3, 4] (by decide) rfl
  have hP : va_P D vwCl [(h0, .inr (12, [.ref q1, .ref q39, .null, .null, .int 0, .int 0, .int 0, .int 0, .int 0, .int 0, .int 0, .int 0, .int 0, .int 0])), (q1, .inl (c1, 9, .inr (.inr (.inr (.inr f37))))), (q39, .inl (c39, 6, .inr (.inr (.inr (.inr f47))))), (q3, .inr (9, [.ref u4, .int 0, .int 0, .int 0, .int 0, .int 0]))] H := hP
  have hD : va_D A [(h0, .inr (12, [.ref q1, .ref q39, .null, .null, .int 0, .int 0, .int 0, .int 0, .int 0, .int 0, .int 0, .int 0, .int 0, .int 0])), (q1, .inl (c1, 9, .inr (.inr (.inr (.inr f37))))), (q39, .inl (c39, 6, .inr (.inr (.inr (.inr f47))))), (q3, .inr (9, [.ref u4, .int 0, .int 0, .int 0, .int 0, .int 0]))] := hD
  refine lv_iinc (v := 2) (lv' := [(1, .int 2), (0, .ref h0)]) hx hb dX6_init_70 hl (k := 0) rfl (by decide) (by decide) rfl (fun ls hl => ?_)
  refine lv_goto (tgt := 51) hx hb dX6_init_73 (by decide) ?_
  refine lv_iload_n hx hb dX6_init_51 rfl (lv_at hl 0 rfl) ?_
  refine lv_bipush (v := 6) hx hb dX6_init_52 (by decide) ?_
  refine lv_icmp_ge (tgt := 76) hx hb dX6_init_54 (by decide) (fun c => by first | exact absurd c (by decide) | exact absurd (by decide) c) (fun _ => ?_)
  refine lv_aload_n hx hb dX6_init_57 rfl (lv_at hl 1 rfl) ?_
  refine va_get (D := D) (ci := 12) (v := .ref q39) (C := RX6) (T := TX6) (N := 14) hx hb hts (by decide +kernel) hown hK hP 0 rfl rfl 1 (by decide) (hts (.fieldLink RX6 18 "FairwayChancery" "players" "[LFairwayChancery$Player;") (by decide +kernel)) (fun _ h9 => h9) rfl dX6_init_58 ?_
  refine lv_iload_n hx hb dX6_init_61 rfl (lv_at hl 0 rfl) ?_
  refine va_new (ci := 11) (fs := [.null, .null, .null, .int 0]) (C := RX5) (T := TX5) (N := 4) hx hb hts (by decide +kernel) tyX5 tyX5_ok hown (hts (.classLink RX6 16 RX5) (by decide +kernel)) (hts (.instantiable RX5 4) (by decide +kernel)) (hts (.initialized RX5) (by decide +kernel)) hK hP hD hS hA rfl (fun j hj => match j, hj with | 0, _ => rfl | 1, _ => rfl | 2, _ => rfl | 3, _ => rfl | n + 4, h => absurd h (by omega)) (Nat.le_of_ble_eq_true rfl) (Nat.le_of_ble_eq_true rfl) dX6_init_62 (fun q49 H hP hD hS => ?_)
  have hP : va_P D vwCl [(h0, .inr (12, [.ref q1, .ref q39, .null, .null, .int 0, .int 0, .int 0, .int 0, .int 0, .int 0, .int 0, .int 0, .int 0, .int 0])), (q1, .inl (c1, 9, .inr (.inr (.inr (.inr f37))))), (q39, .inl (c39, 6, .inr (.inr (.inr (.inr f47))))), (q3, .inr (9, [.ref u4, .int 0, .int 0, .int 0, .int 0, .int 0])), (q49, .inr (11, [.null, .null, .null, .int 0]))] H := hP
  have hD : va_D A [(h0, .inr (12, [.ref q1, .ref q39, .null, .null, .int 0, .int 0, .int 0, .int 0, .int 0, .int 0, .int 0, .int 0, .int 0, .int 0])), (q1, .inl (c1, 9, .inr (.inr (.inr (.inr f37))))), (q39, .inl (c39, 6, .inr (.inr (.inr (.inr f47))))), (q3, .inr (9, [.ref u4, .int 0, .int 0, .int 0, .int 0, .int 0])), (q49, .inr (11, [.null, .null, .null, .int 0]))] := hD
  refine W.widen (k := 37) (n := 5627) (by decide) (by decide) ?_
  refine lv_dup hx hb dX6_init_65 rfl ?_
  have hP := hP.sub (ws' := [(q49, .inr (11, [.null, .null, .null, .int 0])), (h0, .inr (12, [.ref q1, .ref q39, .null, .null, .int 0, .int 0, .int 0, .int 0, .int 0, .int 0, .int 0, .int 0, .int 0, .int 0])), (q1, .inl (c1, 9, .inr (.inr (.inr (.inr f37))))), (q39, .inl (c39, 6, .inr (.inr (.inr (.inr f47))))), (q3, .inr (9, [.ref u4, .int 0, .int 0, .int 0, .int 0, .int 0]))]) [4, 0, 1, 2, 3] rfl
  have hD := hD.sub (ws' := [(q49, .inr (11, [.null, .null, .null, .int 0])), (h0, .inr (12, [.ref q1, .ref q39, .null, .null, .int 0, .int 0, .int 0, .int 0, .int 0, .int 0, .int 0, .int 0, .int 0, .int 0])), (q1, .inl (c1, 9, .inr (.inr (.inr (.inr f37))))), (q39, .inl (c39, 6, .inr (.inr (.inr (.inr f47))))), (q3, .inr (9, [.ref u4, .int 0, .int 0, .int 0, .int 0, .int 0]))]) [4, 0, 1, 2, 3] (by decide) rfl
  have hPc := hP.sub (ws' := [(q49, .inr (11, [.null, .null, .null, .int 0]))]) [0] rfl
  have hKc := hK.sub (tys' := []) [] rfl
  have hFc : ∀ q : Nat, rg1 q49 H.size q → A q := fun q h => h.elim (fun e => by rw [e]; exact hD.2 0 _ rfl) (fun h => hA q (Nat.le_trans hS.1 h))
  refine va_callv (va_runI (As := []) (rest := [.ref q49, .int 2, .ref q39]) ⟨hx, hb, hml, hown, hts⟩ (c_X5_init l D q49 H.size) (cwI 0 hts gX6_init_X5_init rfl rfl rfl (hts (.initialized RX5) (by decide +kernel)) (hts (.methodLink RX6 22 yX5_init) (by decide +kernel)) (hts (.instanceMethod yX5_init) (by decide +kernel)) rfl (by decide +kernel) ⟨Nat.le_of_ble_eq_true rfl, Nat.le_of_ble_eq_true rfl⟩) ⟨fun a U g mk q => ⟨q.1, q.2.1, q.2.2.1, va_K.moved (u := U) (U := U.calling g mk a) (Vm.Alike.refl U.vm) q.2.2.2.1, va_Nw.same (u := U) rfl rfl q.2.2.2.2⟩, fun U hU hW => ⟨rfl, congrArg Array.size hU, by rw [hU]; exact hPc, va_K.moved hW.alike hKc, va_Nw.warmM hW hN5⟩⟩ rfl rfl hl.1 rfl (lv_room (Nat.le_of_ble_eq_true rfl)) dX6_init_66 ⟨Nat.le_of_ble_eq_true rfl, Nat.le_of_ble_eq_true rfl⟩) hS (fun q _ h => hFc q h) hFc (fun u t H1 locs ht hvm hw hB hz1 hk1 hS => ?_)
  obtain ⟨u50, eu50⟩ : ∃ z, z = u := ⟨_, rfl⟩
  rw [ht, ← eu50] at hB
  have hP := va_keep1 hP hD hB hk1
  have hD := va_keep1D (e' := .inr (11, u50)) hD
  generalize H1 = H at hP hS ⊢
  have hP : va_P D vwCl [(q49, .inr (11, u50)), (h0, .inr (12, [.ref q1, .ref q39, .null, .null, .int 0, .int 0, .int 0, .int 0, .int 0, .int 0, .int 0, .int 0, .int 0, .int 0])), (q1, .inl (c1, 9, .inr (.inr (.inr (.inr f37))))), (q39, .inl (c39, 6, .inr (.inr (.inr (.inr f47))))), (q3, .inr (9, [.ref u4, .int 0, .int 0, .int 0, .int 0, .int 0]))] H := hP
  have hD : va_D A [(q49, .inr (11, u50)), (h0, .inr (12, [.ref q1, .ref q39, .null, .null, .int 0, .int 0, .int 0, .int 0, .int 0, .int 0, .int 0, .int 0, .int 0, .int 0])), (q1, .inl (c1, 9, .inr (.inr (.inr (.inr f37))))), (q39, .inl (c39, 6, .inr (.inr (.inr (.inr f47))))), (q3, .inr (9, [.ref u4, .int 0, .int 0, .int 0, .int 0, .int 0]))] := hD
  refine W.widen (k := 44) (n := 5700) (by decide) (by decide) ?_
  refine va_astq hx hb hK hP hD hS 3 1 0 11 rfl rfl rfl rfl (vp_in_nI (n := 2) (by decide) (by decide)) dX6_init_69 (fun H locs hP hD hS => ?_)
  have hP : va_P D vwCl [(q49, .inr (11, u50)), (h0, .inr (12, [.ref q1, .ref q39, .null, .null, .int 0, .int 0, .int 0, .int 0, .int 0, .int 0, .int 0, .int 0, .int 0, .int 0])), (q1, .inl (c1, 9, .inr (.inr (.inr (.inr f37))))), (q39, .inl (c39, 6, .inr (.inr (.inr (.inr (va_up f47 (2 : Int32).toNatClampNeg (some q49))))))), (q3, .inr (9, [.ref u4, .int 0, .int 0, .int 0, .int 0, .int 0]))] H := hP
  have hD : va_D A [(q49, .inr (11, u50)), (h0, .inr (12, [.ref q1, .ref q39, .null, .null, .int 0, .int 0, .int 0, .int 0, .int 0, .int 0, .int 0, .int 0, .int 0, .int 0])), (q1, .inl (c1, 9, .inr (.inr (.inr (.inr f37))))), (q39, .inl (c39, 6, .inr (.inr (.inr (.inr (va_up f47 (2 : Int32).toNatClampNeg (some q49))))))), (q3, .inr (9, [.ref u4, .int 0, .int 0, .int 0, .int 0, .int 0]))] := hD
  generalize va_up f47 (2 : Int32).toNatClampNeg (some q49) = f51 at hP hD
  have hP := hP.sub (ws' := [(h0, .inr (12, [.ref q1, .ref q39, .null, .null, .int 0, .int 0, .int 0, .int 0, .int 0, .int 0, .int 0, .int 0, .int 0, .int 0])), (q1, .inl (c1, 9, .inr (.inr (.inr (.inr f37))))), (q39, .inl (c39, 6, .inr (.inr (.inr (.inr f51))))), (q3, .inr (9, [.ref u4, .int 0, .int 0, .int 0, .int 0, .int 0]))]) [1, 2, 3, 4] rfl
  have hD := hD.sub (ws' := [(h0, .inr (12, [.ref q1, .ref q39, .null, .null, .int 0, .int 0, .int 0, .int 0, .int 0, .int 0, .int 0, .int 0, .int 0, .int 0])), (q1, .inl (c1, 9, .inr (.inr (.inr (.inr f37))))), (q39, .inl (c39, 6, .inr (.inr (.inr (.inr f51))))), (q3, .inr (9, [.ref u4, .int 0, .int 0, .int 0, .int 0, .int 0]))]) [1, 2, 3, 4] (by decide) rfl
  have hP : va_P D vwCl [(h0, .inr (12, [.ref q1, .ref q39, .null, .null, .int 0, .int 0, .int 0, .int 0, .int 0, .int 0, .int 0, .int 0, .int 0, .int 0])), (q1, .inl (c1, 9, .inr (.inr (.inr (.inr f37))))), (q39, .inl (c39, 6, .inr (.inr (.inr (.inr f51))))), (q3, .inr (9, [.ref u4, .int 0, .int 0, .int 0, .int 0, .int 0]))] H := hP
  have hD : va_D A [(h0, .inr (12, [.ref q1, .ref q39, .null, .null, .int 0, .int 0, .int 0, .int 0, .int 0, .int 0, .int 0, .int 0, .int 0, .int 0])), (q1, .inl (c1, 9, .inr (.inr (.inr (.inr f37))))), (q39, .inl (c39, 6, .inr (.inr (.inr (.inr f51))))), (q3, .inr (9, [.ref u4, .int 0, .int 0, .int 0, .int 0, .int 0]))] := hD
  refine lv_iinc (v := 3) (lv' := [(1, .int 3), (0, .ref h0)]) hx hb dX6_init_70 hl (k := 0) rfl (by decide) (by decide) rfl (fun ls hl => ?_)
  refine lv_goto (tgt := 51) hx hb dX6_init_73 (by decide) ?_
  refine lv_iload_n hx hb dX6_init_51 rfl (lv_at hl 0 rfl) ?_
  refine lv_bipush (v := 6) hx hb dX6_init_52 (by decide) ?_
  refine lv_icmp_ge (tgt := 76) hx hb dX6_init_54 (by decide) (fun c => by first | exact absurd c (by decide) | exact absurd (by decide) c) (fun _ => ?_)
  refine lv_aload_n hx hb dX6_init_57 rfl (lv_at hl 1 rfl) ?_
  refine va_get (D := D) (ci := 12) (v := .ref q39) (C := RX6) (T := TX6) (N := 14) hx hb hts (by decide +kernel) hown hK hP 0 rfl rfl 1 (by decide) (hts (.fieldLink RX6 18 "FairwayChancery" "players" "[LFairwayChancery$Player;") (by decide +kernel)) (fun _ h9 => h9) rfl dX6_init_58 ?_
  refine lv_iload_n hx hb dX6_init_61 rfl (lv_at hl 0 rfl) ?_
  refine va_new (ci := 11) (fs := [.null, .null, .null, .int 0]) (C := RX5) (T := TX5) (N := 4) hx hb hts (by decide +kernel) tyX5 tyX5_ok hown (hts (.classLink RX6 16 RX5) (by decide +kernel)) (hts (.instantiable RX5 4) (by decide +kernel)) (hts (.initialized RX5) (by decide +kernel)) hK hP hD hS hA rfl (fun j hj => match j, hj with | 0, _ => rfl | 1, _ => rfl | 2, _ => rfl | 3, _ => rfl | n + 4, h => absurd h (by omega)) (Nat.le_of_ble_eq_true rfl) (Nat.le_of_ble_eq_true rfl) dX6_init_62 (fun q53 H hP hD hS => ?_)
  have hP : va_P D vwCl [(h0, .inr (12, [.ref q1, .ref q39, .null, .null, .int 0, .int 0, .int 0, .int 0, .int 0, .int 0, .int 0, .int 0, .int 0, .int 0])), (q1, .inl (c1, 9, .inr (.inr (.inr (.inr f37))))), (q39, .inl (c39, 6, .inr (.inr (.inr (.inr f51))))), (q3, .inr (9, [.ref u4, .int 0, .int 0, .int 0, .int 0, .int 0])), (q53, .inr (11, [.null, .null, .null, .int 0]))] H := hP
  have hD : va_D A [(h0, .inr (12, [.ref q1, .ref q39, .null, .null, .int 0, .int 0, .int 0, .int 0, .int 0, .int 0, .int 0, .int 0, .int 0, .int 0])), (q1, .inl (c1, 9, .inr (.inr (.inr (.inr f37))))), (q39, .inl (c39, 6, .inr (.inr (.inr (.inr f51))))), (q3, .inr (9, [.ref u4, .int 0, .int 0, .int 0, .int 0, .int 0])), (q53, .inr (11, [.null, .null, .null, .int 0]))] := hD
  refine W.widen (k := 45) (n := 5704) (by decide) (by decide) ?_
  refine lv_dup hx hb dX6_init_65 rfl ?_
  have hP := hP.sub (ws' := [(q53, .inr (11, [.null, .null, .null, .int 0])), (h0, .inr (12, [.ref q1, .ref q39, .null, .null, .int 0, .int 0, .int 0, .int 0, .int 0, .int 0, .int 0, .int 0, .int 0, .int 0])), (q1, .inl (c1, 9, .inr (.inr (.inr (.inr f37))))), (q39, .inl (c39, 6, .inr (.inr (.inr (.inr f51))))), (q3, .inr (9, [.ref u4, .int 0, .int 0, .int 0, .int 0, .int 0]))]) [4, 0, 1, 2, 3] rfl
  have hD := hD.sub (ws' := [(q53, .inr (11, [.null, .null, .null, .int 0])), (h0, .inr (12, [.ref q1, .ref q39, .null, .null, .int 0, .int 0, .int 0, .int 0, .int 0, .int 0, .int 0, .int 0, .int 0, .int 0])), (q1, .inl (c1, 9, .inr (.inr (.inr (.inr f37))))), (q39, .inl (c39, 6, .inr (.inr (.inr (.inr f51))))), (q3, .inr (9, [.ref u4, .int 0, .int 0, .int 0, .int 0, .int 0]))]) [4, 0, 1, 2, 3] (by decide) rfl
  have hPc := hP.sub (ws' := [(q53, .inr (11, [.null, .null, .null, .int 0]))]) [0] rfl
  have hKc := hK.sub (tys' := []) [] rfl
  have hFc : ∀ q : Nat, rg1 q53 H.size q → A q := fun q h => h.elim (fun e => by rw [e]; exact hD.2 0 _ rfl) (fun h => hA q (Nat.le_trans hS.1 h))
  refine va_callv (va_runI (As := []) (rest := [.ref q53, .int 3, .ref q39]) ⟨hx, hb, hml, hown, hts⟩ (c_X5_init l D q53 H.size) (cwI 0 hts gX6_init_X5_init rfl rfl rfl (hts (.initialized RX5) (by decide +kernel)) (hts (.methodLink RX6 22 yX5_init) (by decide +kernel)) (hts (.instanceMethod yX5_init) (by decide +kernel)) rfl (by decide +kernel) ⟨Nat.le_of_ble_eq_true rfl, Nat.le_of_ble_eq_true rfl⟩) ⟨fun a U g mk q => ⟨q.1, q.2.1, q.2.2.1, va_K.moved (u := U) (U := U.calling g mk a) (Vm.Alike.refl U.vm) q.2.2.2.1, va_Nw.same (u := U) rfl rfl q.2.2.2.2⟩, fun U hU hW => ⟨rfl, congrArg Array.size hU, by rw [hU]; exact hPc, va_K.moved hW.alike hKc, va_Nw.warmM hW hN5⟩⟩ rfl rfl hl.1 rfl (lv_room (Nat.le_of_ble_eq_true rfl)) dX6_init_66 ⟨Nat.le_of_ble_eq_true rfl, Nat.le_of_ble_eq_true rfl⟩) hS (fun q _ h => hFc q h) hFc (fun u t H1 locs ht hvm hw hB hz1 hk1 hS => ?_)
  obtain ⟨u54, eu54⟩ : ∃ z, z = u := ⟨_, rfl⟩
  rw [ht, ← eu54] at hB
  have hP := va_keep1 hP hD hB hk1
  have hD := va_keep1D (e' := .inr (11, u54)) hD
  generalize H1 = H at hP hS ⊢
  have hP : va_P D vwCl [(q53, .inr (11, u54)), (h0, .inr (12, [.ref q1, .ref q39, .null, .null, .int 0, .int 0, .int 0, .int 0, .int 0, .int 0, .int 0, .int 0, .int 0, .int 0])), (q1, .inl (c1, 9, .inr (.inr (.inr (.inr f37))))), (q39, .inl (c39, 6, .inr (.inr (.inr (.inr f51))))), (q3, .inr (9, [.ref u4, .int 0, .int 0, .int 0, .int 0, .int 0]))] H := hP
  have hD : va_D A [(q53, .inr (11, u54)), (h0, .inr (12, [.ref q1, .ref q39, .null, .null, .int 0, .int 0, .int 0, .int 0, .int 0, .int 0, .int 0, .int 0, .int 0, .int 0])), (q1, .inl (c1, 9, .inr (.inr (.inr (.inr f37))))), (q39, .inl (c39, 6, .inr (.inr (.inr (.inr f51))))), (q3, .inr (9, [.ref u4, .int 0, .int 0, .int 0, .int 0, .int 0]))] := hD
  refine W.widen (k := 52) (n := 5777) (by decide) (by decide) ?_
  refine va_astq hx hb hK hP hD hS 3 1 0 11 rfl rfl rfl rfl (vp_in_nI (n := 3) (by decide) (by decide)) dX6_init_69 (fun H locs hP hD hS => ?_)
  have hP : va_P D vwCl [(q53, .inr (11, u54)), (h0, .inr (12, [.ref q1, .ref q39, .null, .null, .int 0, .int 0, .int 0, .int 0, .int 0, .int 0, .int 0, .int 0, .int 0, .int 0])), (q1, .inl (c1, 9, .inr (.inr (.inr (.inr f37))))), (q39, .inl (c39, 6, .inr (.inr (.inr (.inr (va_up f51 (3 : Int32).toNatClampNeg (some q53))))))), (q3, .inr (9, [.ref u4, .int 0, .int 0, .int 0, .int 0, .int 0]))] H := hP
  have hD : va_D A [(q53, .inr (11, u54)), (h0, .inr (12, [.ref q1, .ref q39, .null, .null, .int 0, .int 0, .int 0, .int 0, .int 0, .int 0, .int 0, .int 0, .int 0, .int 0])), (q1, .inl (c1, 9, .inr (.inr (.inr (.inr f37))))), (q39, .inl (c39, 6, .inr (.inr (.inr (.inr (va_up f51 (3 : Int32).toNatClampNeg (some q53))))))), (q3, .inr (9, [.ref u4, .int 0, .int 0, .int 0, .int 0, .int 0]))] := hD
  generalize va_up f51 (3 : Int32).toNatClampNeg (some q53) = f55 at hP hD
  have hP := hP.sub (ws' := [(h0, .inr (12, [.ref q1, .ref q39, .null, .null, .int 0, .int 0, .int 0, .int 0, .int 0, .int 0, .int 0, .int 0, .int 0, .int 0])), (q1, .inl (c1, 9, .inr (.inr (.inr (.inr f37))))), (q39, .inl (c39, 6, .inr (.inr (.inr (.inr f55))))), (q3, .inr (9, [.ref u4, .int 0, .int 0, .int 0, .int 0, .int 0]))]) [1, 2, 3, 4] rfl
  have hD := hD.sub (ws' := [(h0, .inr (12, [.ref q1, .ref q39, .null, .null, .int 0, .int 0, .int 0, .int 0, .int 0, .int 0, .int 0, .int 0, .int 0, .int 0])), (q1, .inl (c1, 9, .inr (.inr (.inr (.inr f37))))), (q39, .inl (c39, 6, .inr (.inr (.inr (.inr f55))))), (q3, .inr (9, [.ref u4, .int 0, .int 0, .int 0, .int 0, .int 0]))]) [1, 2, 3, 4] (by decide) rfl
  have hP : va_P D vwCl [(h0, .inr (12, [.ref q1, .ref q39, .null, .null, .int 0, .int 0, .int 0, .int 0, .int 0, .int 0, .int 0, .int 0, .int 0, .int 0])), (q1, .inl (c1, 9, .inr (.inr (.inr (.inr f37))))), (q39, .inl (c39, 6, .inr (.inr (.inr (.inr f55))))), (q3, .inr (9, [.ref u4, .int 0, .int 0, .int 0, .int 0, .int 0]))] H := hP
  have hD : va_D A [(h0, .inr (12, [.ref q1, .ref q39, .null, .null, .int 0, .int 0, .int 0, .int 0, .int 0, .int 0, .int 0, .int 0, .int 0, .int 0])), (q1, .inl (c1, 9, .inr (.inr (.inr (.inr f37))))), (q39, .inl (c39, 6, .inr (.inr (.inr (.inr f55))))), (q3, .inr (9, [.ref u4, .int 0, .int 0, .int 0, .int 0, .int 0]))] := hD
  refine lv_iinc (v := 4) (lv' := [(1, .int 4), (0, .ref h0)]) hx hb dX6_init_70 hl (k := 0) rfl (by decide) (by decide) rfl (fun ls hl => ?_)
  refine lv_goto (tgt := 51) hx hb dX6_init_73 (by decide) ?_
  refine lv_iload_n hx hb dX6_init_51 rfl (lv_at hl 0 rfl) ?_
  refine lv_bipush (v := 6) hx hb dX6_init_52 (by decide) ?_
  refine lv_icmp_ge (tgt := 76) hx hb dX6_init_54 (by decide) (fun c => by first | exact absurd c (by decide) | exact absurd (by decide) c) (fun _ => ?_)
  refine lv_aload_n hx hb dX6_init_57 rfl (lv_at hl 1 rfl) ?_
  refine va_get (D := D) (ci := 12) (v := .ref q39) (C := RX6) (T := TX6) (N := 14) hx hb hts (by decide +kernel) hown hK hP 0 rfl rfl 1 (by decide) (hts (.fieldLink RX6 18 "FairwayChancery" "players" "[LFairwayChancery$Player;") (by decide +kernel)) (fun _ h9 => h9) rfl dX6_init_58 ?_
  refine lv_iload_n hx hb dX6_init_61 rfl (lv_at hl 0 rfl) ?_
  refine va_new (ci := 11) (fs := [.null, .null, .null, .int 0]) (C := RX5) (T := TX5) (N := 4) hx hb hts (by decide +kernel) tyX5 tyX5_ok hown (hts (.classLink RX6 16 RX5) (by decide +kernel)) (hts (.instantiable RX5 4) (by decide +kernel)) (hts (.initialized RX5) (by decide +kernel)) hK hP hD hS hA rfl (fun j hj => match j, hj with | 0, _ => rfl | 1, _ => rfl | 2, _ => rfl | 3, _ => rfl | n + 4, h => absurd h (by omega)) (Nat.le_of_ble_eq_true rfl) (Nat.le_of_ble_eq_true rfl) dX6_init_62 (fun q57 H hP hD hS => ?_)
  have hP : va_P D vwCl [(h0, .inr (12, [.ref q1, .ref q39, .null, .null, .int 0, .int 0, .int 0, .int 0, .int 0, .int 0, .int 0, .int 0, .int 0, .int 0])), (q1, .inl (c1, 9, .inr (.inr (.inr (.inr f37))))), (q39, .inl (c39, 6, .inr (.inr (.inr (.inr f55))))), (q3, .inr (9, [.ref u4, .int 0, .int 0, .int 0, .int 0, .int 0])), (q57, .inr (11, [.null, .null, .null, .int 0]))] H := hP
  have hD : va_D A [(h0, .inr (12, [.ref q1, .ref q39, .null, .null, .int 0, .int 0, .int 0, .int 0, .int 0, .int 0, .int 0, .int 0, .int 0, .int 0])), (q1, .inl (c1, 9, .inr (.inr (.inr (.inr f37))))), (q39, .inl (c39, 6, .inr (.inr (.inr (.inr f55))))), (q3, .inr (9, [.ref u4, .int 0, .int 0, .int 0, .int 0, .int 0])), (q57, .inr (11, [.null, .null, .null, .int 0]))] := hD
  refine W.widen (k := 53) (n := 5781) (by decide) (by decide) ?_
  refine lv_dup hx hb dX6_init_65 rfl ?_
  have hP := hP.sub (ws' := [(q57, .inr (11, [.null, .null, .null, .int 0])), (h0, .inr (12, [.ref q1, .ref q39, .null, .null, .int 0, .int 0, .int 0, .int 0, .int 0, .int 0, .int 0, .int 0, .int 0, .int 0])), (q1, .inl (c1, 9, .inr (.inr (.inr (.inr f37))))), (q39, .inl (c39, 6, .inr (.inr (.inr (.inr f55))))), (q3, .inr (9, [.ref u4, .int 0, .int 0, .int 0, .int 0, .int 0]))]) [4, 0, 1, 2, 3] rfl
  have hD := hD.sub (ws' := [(q57, .inr (11, [.null, .null, .null, .int 0])), (h0, .inr (12, [.ref q1, .ref q39, .null, .null, .int 0, .int 0, .int 0, .int 0, .int 0, .int 0, .int 0, .int 0, .int 0, .int 0])), (q1, .inl (c1, 9, .inr (.inr (.inr (.inr f37))))), (q39, .inl (c39, 6, .inr (.inr (.inr (.inr f55))))), (q3, .inr (9, [.ref u4, .int 0, .int 0, .int 0, .int 0, .int 0]))]) [4, 0, 1, 2, 3] (by decide) rfl
  have hPc := hP.sub (ws' := [(q57, .inr (11, [.null, .null, .null, .int 0]))]) [0] rfl
  have hKc := hK.sub (tys' := []) [] rfl
  have hFc : ∀ q : Nat, rg1 q57 H.size q → A q := fun q h => h.elim (fun e => by rw [e]; exact hD.2 0 _ rfl) (fun h => hA q (Nat.le_trans hS.1 h))
  refine va_callv (va_runI (As := []) (rest := [.ref q57, .int 4, .ref q39]) ⟨hx, hb, hml, hown, hts⟩ (c_X5_init l D q57 H.size) (cwI 0 hts gX6_init_X5_init rfl rfl rfl (hts (.initialized RX5) (by decide +kernel)) (hts (.methodLink RX6 22 yX5_init) (by decide +kernel)) (hts (.instanceMethod yX5_init) (by decide +kernel)) rfl (by decide +kernel) ⟨Nat.le_of_ble_eq_true rfl, Nat.le_of_ble_eq_true rfl⟩) ⟨fun a U g mk q => ⟨q.1, q.2.1, q.2.2.1, va_K.moved (u := U) (U := U.calling g mk a) (Vm.Alike.refl U.vm) q.2.2.2.1, va_Nw.same (u := U) rfl rfl q.2.2.2.2⟩, fun U hU hW => ⟨rfl, congrArg Array.size hU, by rw [hU]; exact hPc, va_K.moved hW.alike hKc, va_Nw.warmM hW hN5⟩⟩ rfl rfl hl.1 rfl (lv_room (Nat.le_of_ble_eq_true rfl)) dX6_init_66 ⟨Nat.le_of_ble_eq_true rfl, Nat.le_of_ble_eq_true rfl⟩) hS (fun q _ h => hFc q h) hFc (fun u t H1 locs ht hvm hw hB hz1 hk1 hS => ?_)
  obtain ⟨u58, eu58⟩ : ∃ z, z = u := ⟨_, rfl⟩
  rw [ht, ← eu58] at hB
  have hP := va_keep1 hP hD hB hk1
  have hD := va_keep1D (e' := .inr (11, u58)) hD
  generalize H1 = H at hP hS ⊢
  have hP : va_P D vwCl [(q57, .inr (11, u58)), (h0, .inr (12, [.ref q1, .ref q39, .null, .null, .int 0, .int 0, .int 0, .int 0, .int 0, .int 0, .int 0, .int 0, .int 0, .int 0])), (q1, .inl (c1, 9, .inr (.inr (.inr (.inr f37))))), (q39, .inl (c39, 6, .inr (.inr (.inr (.inr f55))))), (q3, .inr (9, [.ref u4, .int 0, .int 0, .int 0, .int 0, .int 0]))] H := hP
  have hD : va_D A [(q57, .inr (11, u58)), (h0, .inr (12, [.ref q1, .ref q39, .null, .null, .int 0, .int 0, .int 0, .int 0, .int 0, .int 0, .int 0, .int 0, .int 0, .int 0])), (q1, .inl (c1, 9, .inr (.inr (.inr (.inr f37))))), (q39, .inl (c39, 6, .inr (.inr (.inr (.inr f55))))), (q3, .inr (9, [.ref u4, .int 0, .int 0, .int 0, .int 0, .int 0]))] := hD
  refine W.widen (k := 60) (n := 5854) (by decide) (by decide) ?_
  refine va_astq hx hb hK hP hD hS 3 1 0 11 rfl rfl rfl rfl (vp_in_nI (n := 4) (by decide) (by decide)) dX6_init_69 (fun H locs hP hD hS => ?_)
  have hP : va_P D vwCl [(q57, .inr (11, u58)), (h0, .inr (12, [.ref q1, .ref q39, .null, .null, .int 0, .int 0, .int 0, .int 0, .int 0, .int 0, .int 0, .int 0, .int 0, .int 0])), (q1, .inl (c1, 9, .inr (.inr (.inr (.inr f37))))), (q39, .inl (c39, 6, .inr (.inr (.inr (.inr (va_up f55 (4 : Int32).toNatClampNeg (some q57))))))), (q3, .inr (9, [.ref u4, .int 0, .int 0, .int 0, .int 0, .int 0]))] H := hP
  have hD : va_D A [(q57, .inr (11, u58)), (h0, .inr (12, [.ref q1, .ref q39, .null, .null, .int 0, .int 0, .int 0, .int 0, .int 0, .int 0, .int 0, .int 0, .int 0, .int 0])), (q1, .inl (c1, 9, .inr (.inr (.inr (.inr f37))))), (q39, .inl (c39, 6, .inr (.inr (.inr (.inr (va_up f55 (4 : Int32).toNatClampNeg (some q57))))))), (q3, .inr (9, [.ref u4, .int 0, .int 0, .int 0, .int 0, .int 0]))] := hD
  generalize va_up f55 (4 : Int32).toNatClampNeg (some q57) = f59 at hP hD
  have hP := hP.sub (ws' := [(h0, .inr (12, [.ref q1, .ref q39, .null, .null, .int 0, .int 0, .int 0, .int 0, .int 0, .int 0, .int 0, .int 0, .int 0, .int 0])), (q1, .inl (c1, 9, .inr (.inr (.inr (.inr f37))))), (q39, .inl (c39, 6, .inr (.inr (.inr (.inr f59))))), (q3, .inr (9, [.ref u4, .int 0, .int 0, .int 0, .int 0, .int 0]))]) [1, 2, 3, 4] rfl
  have hD := hD.sub (ws' := [(h0, .inr (12, [.ref q1, .ref q39, .null, .null, .int 0, .int 0, .int 0, .int 0, .int 0, .int 0, .int 0, .int 0, .int 0, .int 0])), (q1, .inl (c1, 9, .inr (.inr (.inr (.inr f37))))), (q39, .inl (c39, 6, .inr (.inr (.inr (.inr f59))))), (q3, .inr (9, [.ref u4, .int 0, .int 0, .int 0, .int 0, .int 0]))]) [1, 2, 3, 4] (by decide) rfl
  have hP : va_P D vwCl [(h0, .inr (12, [.ref q1, .ref q39, .null, .null, .int 0, .int 0, .int 0, .int 0, .int 0, .int 0, .int 0, .int 0, .int 0, .int 0])), (q1, .inl (c1, 9, .inr (.inr (.inr (.inr f37))))), (q39, .inl (c39, 6, .inr (.inr (.inr (.inr f59))))), (q3, .inr (9, [.ref u4, .int 0, .int 0, .int 0, .int 0, .int 0]))] H := hP
  have hD : va_D A [(h0, .inr (12, [.ref q1, .ref q39, .null, .null, .int 0, .int 0, .int 0, .int 0, .int 0, .int 0, .int 0, .int 0, .int 0, .int 0])), (q1, .inl (c1, 9, .inr (.inr (.inr (.inr f37))))), (q39, .inl (c39, 6, .inr (.inr (.inr (.inr f59))))), (q3, .inr (9, [.ref u4, .int 0, .int 0, .int 0, .int 0, .int 0]))] := hD
  refine lv_iinc (v := 5) (lv' := [(1, .int 5), (0, .ref h0)]) hx hb dX6_init_70 hl (k := 0) rfl (by decide) (by decide) rfl (fun ls hl => ?_)
  refine lv_goto (tgt := 51) hx hb dX6_init_73 (by decide) ?_
  refine lv_iload_n hx hb dX6_init_51 rfl (lv_at hl 0 rfl) ?_
  refine lv_bipush (v := 6) hx hb dX6_init_52 (by decide) ?_
  refine lv_icmp_ge (tgt := 76) hx hb dX6_init_54 (by decide) (fun c => by first | exact absurd c (by decide) | exact absurd (by decide) c) (fun _ => ?_)
  refine lv_aload_n hx hb dX6_init_57 rfl (lv_at hl 1 rfl) ?_
  refine va_get (D := D) (ci := 12) (v := .ref q39) (C := RX6) (T := TX6) (N := 14) hx hb hts (by decide +kernel) hown hK hP 0 rfl rfl 1 (by decide) (hts (.fieldLink RX6 18 "FairwayChancery" "players" "[LFairwayChancery$Player;") (by decide +kernel)) (fun _ h9 => h9) rfl dX6_init_58 ?_
  refine lv_iload_n hx hb dX6_init_61 rfl (lv_at hl 0 rfl) ?_
  refine va_new (ci := 11) (fs := [.null, .null, .null, .int 0]) (C := RX5) (T := TX5) (N := 4) hx hb hts (by decide +kernel) tyX5 tyX5_ok hown (hts (.classLink RX6 16 RX5) (by decide +kernel)) (hts (.instantiable RX5 4) (by decide +kernel)) (hts (.initialized RX5) (by decide +kernel)) hK hP hD hS hA rfl (fun j hj => match j, hj with | 0, _ => rfl | 1, _ => rfl | 2, _ => rfl | 3, _ => rfl | n + 4, h => absurd h (by omega)) (Nat.le_of_ble_eq_true rfl) (Nat.le_of_ble_eq_true rfl) dX6_init_62 (fun q61 H hP hD hS => ?_)
  have hP : va_P D vwCl [(h0, .inr (12, [.ref q1, .ref q39, .null, .null, .int 0, .int 0, .int 0, .int 0, .int 0, .int 0, .int 0, .int 0, .int 0, .int 0])), (q1, .inl (c1, 9, .inr (.inr (.inr (.inr f37))))), (q39, .inl (c39, 6, .inr (.inr (.inr (.inr f59))))), (q3, .inr (9, [.ref u4, .int 0, .int 0, .int 0, .int 0, .int 0])), (q61, .inr (11, [.null, .null, .null, .int 0]))] H := hP
  have hD : va_D A [(h0, .inr (12, [.ref q1, .ref q39, .null, .null, .int 0, .int 0, .int 0, .int 0, .int 0, .int 0, .int 0, .int 0, .int 0, .int 0])), (q1, .inl (c1, 9, .inr (.inr (.inr (.inr f37))))), (q39, .inl (c39, 6, .inr (.inr (.inr (.inr f59))))), (q3, .inr (9, [.ref u4, .int 0, .int 0, .int 0, .int 0, .int 0])), (q61, .inr (11, [.null, .null, .null, .int 0]))] := hD
  refine W.widen (k := 61) (n := 5858) (by decide) (by decide) ?_
  refine lv_dup hx hb dX6_init_65 rfl ?_
  have hP := hP.sub (ws' := [(q61, .inr (11, [.null, .null, .null, .int 0])), (h0, .inr (12, [.ref q1, .ref q39, .null, .null, .int 0, .int 0, .int 0, .int 0, .int 0, .int 0, .int 0, .int 0, .int 0, .int 0])), (q1, .inl (c1, 9, .inr (.inr (.inr (.inr f37))))), (q39, .inl (c39, 6, .inr (.inr (.inr (.inr f59))))), (q3, .inr (9, [.ref u4, .int 0, .int 0, .int 0, .int 0, .int 0]))]) [4, 0, 1, 2, 3] rfl
  have hD := hD.sub (ws' := [(q61, .inr (11, [.null, .null, .null, .int 0])), (h0, .inr (12, [.ref q1, .ref q39, .null, .null, .int 0, .int 0, .int 0, .int 0, .int 0, .int 0, .int 0, .int 0, .int 0, .int 0])), (q1, .inl (c1, 9, .inr (.inr (.inr (.inr f37))))), (q39, .inl (c39, 6, .inr (.inr (.inr (.inr f59))))), (q3, .inr (9, [.ref u4, .int 0, .int 0, .int 0, .int 0, .int 0]))]) [4, 0, 1, 2, 3] (by decide) rfl
  have hPc := hP.sub (ws' := [(q61, .inr (11, [.null, .null, .null, .int 0]))]) [0] rfl
  have hKc := hK.sub (tys' := []) [] rfl
  have hFc : ∀ q : Nat, rg1 q61 H.size q → A q := fun q h => h.elim (fun e => by rw [e]; exact hD.2 0 _ rfl) (fun h => hA q (Nat.le_trans hS.1 h))
  refine va_callv (va_runI (As := []) (rest := [.ref q61, .int 5, .ref q39]) ⟨hx, hb, hml, hown, hts⟩ (c_X5_init l D q61 H.size) (cwI 0 hts gX6_init_X5_init rfl rfl rfl (hts (.initialized RX5) (by decide +kernel)) (hts (.methodLink RX6 22 yX5_init) (by decide +kernel)) (hts (.instanceMethod yX5_init) (by decide +kernel)) rfl (by decide +kernel) ⟨Nat.le_of_ble_eq_true rfl, Nat.le_of_ble_eq_true rfl⟩) ⟨fun a U g mk q => ⟨q.1, q.2.1, q.2.2.1, va_K.moved (u := U) (U := U.calling g mk a) (Vm.Alike.refl U.vm) q.2.2.2.1, va_Nw.same (u := U) rfl rfl q.2.2.2.2⟩, fun U hU hW => ⟨rfl, congrArg Array.size hU, by rw [hU]; exact hPc, va_K.moved hW.alike hKc, va_Nw.warmM hW hN5⟩⟩ rfl rfl hl.1 rfl (lv_room (Nat.le_of_ble_eq_true rfl)) dX6_init_66 ⟨Nat.le_of_ble_eq_true rfl, Nat.le_of_ble_eq_true rfl⟩) hS (fun q _ h => hFc q h) hFc (fun u t H1 locs ht hvm hw hB hz1 hk1 hS => ?_)
  obtain ⟨u62, eu62⟩ : ∃ z, z = u := ⟨_, rfl⟩
  rw [ht, ← eu62] at hB
  have hP := va_keep1 hP hD hB hk1
  have hD := va_keep1D (e' := .inr (11, u62)) hD
  generalize H1 = H at hP hS ⊢
  have hP : va_P D vwCl [(q61, .inr (11, u62)), (h0, .inr (12, [.ref q1, .ref q39, .null, .null, .int 0, .int 0, .int 0, .int 0, .int 0, .int 0, .int 0, .int 0, .int 0, .int 0])), (q1, .inl (c1, 9, .inr (.inr (.inr (.inr f37))))), (q39, .inl (c39, 6, .inr (.inr (.inr (.inr f59))))), (q3, .inr (9, [.ref u4, .int 0, .int 0, .int 0, .int 0, .int 0]))] H := hP
  have hD : va_D A [(q61, .inr (11, u62)), (h0, .inr (12, [.ref q1, .ref q39, .null, .null, .int 0, .int 0, .int 0, .int 0, .int 0, .int 0, .int 0, .int 0, .int 0, .int 0])), (q1, .inl (c1, 9, .inr (.inr (.inr (.inr f37))))), (q39, .inl (c39, 6, .inr (.inr (.inr (.inr f59))))), (q3, .inr (9, [.ref u4, .int 0, .int 0, .int 0, .int 0, .int 0]))] := hD
  refine W.widen (k := 68) (n := 5931) (by decide) (by decide) ?_
  refine va_astq hx hb hK hP hD hS 3 1 0 11 rfl rfl rfl rfl (vp_in_nI (n := 5) (by decide) (by decide)) dX6_init_69 (fun H locs hP hD hS => ?_)
  have hP : va_P D vwCl [(q61, .inr (11, u62)), (h0, .inr (12, [.ref q1, .ref q39, .null, .null, .int 0, .int 0, .int 0, .int 0, .int 0, .int 0, .int 0, .int 0, .int 0, .int 0])), (q1, .inl (c1, 9, .inr (.inr (.inr (.inr f37))))), (q39, .inl (c39, 6, .inr (.inr (.inr (.inr (va_up f59 (5 : Int32).toNatClampNeg (some q61))))))), (q3, .inr (9, [.ref u4, .int 0, .int 0, .int 0, .int 0, .int 0]))] H := hP
  have hD : va_D A [(q61, .inr (11, u62)), (h0, .inr (12, [.ref q1, .ref q39, .null, .null, .int 0, .int 0, .int 0, .int 0, .int 0, .int 0, .int 0, .int 0, .int 0, .int 0])), (q1, .inl (c1, 9, .inr (.inr (.inr (.inr f37))))), (q39, .inl (c39, 6, .inr (.inr (.inr (.inr (va_up f59 (5 : Int32).toNatClampNeg (some q61))))))), (q3, .inr (9, [.ref u4, .int 0, .int 0, .int 0, .int 0, .int 0]))] := hD
  generalize va_up f59 (5 : Int32).toNatClampNeg (some q61) = f63 at hP hD
  have hP := hP.sub (ws' := [(h0, .inr (12, [.ref q1, .ref q39, .null, .null, .int 0, .int 0, .int 0, .int 0, .int 0, .int 0, .int 0, .int 0, .int 0, .int 0])), (q1, .inl (c1, 9, .inr (.inr (.inr (.inr f37))))), (q39, .inl (c39, 6, .inr (.inr (.inr (.inr f63))))), (q3, .inr (9, [.ref u4, .int 0, .int 0, .int 0, .int 0, .int 0]))]) [1, 2, 3, 4] rfl
  have hD := hD.sub (ws' := [(h0, .inr (12, [.ref q1, .ref q39, .null, .null, .int 0, .int 0, .int 0, .int 0, .int 0, .int 0, .int 0, .int 0, .int 0, .int 0])), (q1, .inl (c1, 9, .inr (.inr (.inr (.inr f37))))), (q39, .inl (c39, 6, .inr (.inr (.inr (.inr f63))))), (q3, .inr (9, [.ref u4, .int 0, .int 0, .int 0, .int 0, .int 0]))]) [1, 2, 3, 4] (by decide) rfl
  have hP : va_P D vwCl [(h0, .inr (12, [.ref q1, .ref q39, .null, .null, .int 0, .int 0, .int 0, .int 0, .int 0, .int 0, .int 0, .int 0, .int 0, .int 0])), (q1, .inl (c1, 9, .inr (.inr (.inr (.inr f37))))), (q39, .inl (c39, 6, .inr (.inr (.inr (.inr f63))))), (q3, .inr (9, [.ref u4, .int 0, .int 0, .int 0, .int 0, .int 0]))] H := hP
  have hD : va_D A [(h0, .inr (12, [.ref q1, .ref q39, .null, .null, .int 0, .int 0, .int 0, .int 0, .int 0, .int 0, .int 0, .int 0, .int 0, .int 0])), (q1, .inl (c1, 9, .inr (.inr (.inr (.inr f37))))), (q39, .inl (c39, 6, .inr (.inr (.inr (.inr f63))))), (q3, .inr (9, [.ref u4, .int 0, .int 0, .int 0, .int 0, .int 0]))] := hD
  refine lv_iinc (v := 6) (lv' := [(1, .int 6), (0, .ref h0)]) hx hb dX6_init_70 hl (k := 0) rfl (by decide) (by decide) rfl (fun ls hl => ?_)
  refine lv_goto (tgt := 51) hx hb dX6_init_73 (by decide) ?_
  refine lv_iload_n hx hb dX6_init_51 rfl (lv_at hl 0 rfl) ?_
  refine lv_bipush (v := 6) hx hb dX6_init_52 (by decide) ?_
  refine lv_icmp_ge (tgt := 76) hx hb dX6_init_54 (by decide) (fun _ => ?_) (fun c => by first | exact absurd (by decide) c | exact absurd c (by decide))
  refine lv_aload_n hx hb dX6_init_76 rfl (lv_at hl 1 rfl) ?_
  refine lv_bipush (v := 6) hx hb dX6_init_77 (by decide) ?_
  refine va_newa (atype := .int) (ty := .int) (a0 := (6, .inl (fun _ => 0))) hx hb (hts (.arrayClass .int) (by decide +kernel)) rfl hK hP hD hS hA (fun cA => rfl) (by decide) (N' := 6) (by decide) (by decide) (Nat.le_of_ble_eq_true rfl) (Nat.le_of_ble_eq_true rfl) dX6_init_79 (fun q65 c65 H hK hP hD hS => ?_)
  have hK : va_K D vwCl [(c1, .object "FairwayChancery$Hole"), (c39, .object "FairwayChancery$Player"), (c65, .int)] s := hK
  have hP : va_P D vwCl [(h0, .inr (12, [.ref q1, .ref q39, .null, .null, .int 0, .int 0, .int 0, .int 0, .int 0, .int 0, .int 0, .int 0, .int 0, .int 0])), (q1, .inl (c1, 9, .inr (.inr (.inr (.inr f37))))), (q39, .inl (c39, 6, .inr (.inr (.inr (.inr f63))))), (q3, .inr (9, [.ref u4, .int 0, .int 0, .int 0, .int 0, .int 0])), (q65, .inl (c65, 6, .inl (fun _ => 0)))] H := hP
  have hD : va_D A [(h0, .inr (12, [.ref q1, .ref q39, .null, .null, .int 0, .int 0, .int 0, .int 0, .int 0, .int 0, .int 0, .int 0, .int 0, .int 0])), (q1, .inl (c1, 9, .inr (.inr (.inr (.inr f37))))), (q39, .inl (c39, 6, .inr (.inr (.inr (.inr f63))))), (q3, .inr (9, [.ref u4, .int 0, .int 0, .int 0, .int 0, .int 0])), (q65, .inl (c65, 6, .inl (fun _ => 0)))] := hD
  refine W.widen (k := 69) (n := 5937) (by decide) (by decide) ?_
  refine va_putF (D := D) (ci := 12) (v := .ref q65) (ty := (.array .int)) (C := RX6) (T := TX6) (N := 14) hx hb hts (by decide +kernel) tyX6 tyX6_ok nmX6 hown hK hP hD hS 0 rfl rfl 2 (by decide) (hts (.fieldLink RX6 23 "FairwayChancery" "honour" "[I") (by decide +kernel)) (fun _ h9 => h9) rfl hin rfl (by decide +kernel) rfl rfl (Nat.le_of_ble_eq_true rfl) dX6_init_81 (fun H locs hP hD hS => ?_)
  have hP : va_P D vwCl [(h0, .inr (12, [.ref q1, .ref q39, .ref q65, .null, .int 0, .int 0, .int 0, .int 0, .int 0, .int 0, .int 0, .int 0, .int 0, .int 0])), (q1, .inl (c1, 9, .inr (.inr (.inr (.inr f37))))), (q39, .inl (c39, 6, .inr (.inr (.inr (.inr f63))))), (q3, .inr (9, [.ref u4, .int 0, .int 0, .int 0, .int 0, .int 0])), (q65, .inl (c65, 6, .inl (fun _ => 0)))] H := hP
  have hD : va_D A [(h0, .inr (12, [.ref q1, .ref q39, .ref q65, .null, .int 0, .int 0, .int 0, .int 0, .int 0, .int 0, .int 0, .int 0, .int 0, .int 0])), (q1, .inl (c1, 9, .inr (.inr (.inr (.inr f37))))), (q39, .inl (c39, 6, .inr (.inr (.inr (.inr f63))))), (q3, .inr (9, [.ref u4, .int 0, .int 0, .int 0, .int 0, .int 0])), (q65, .inl (c65, 6, .inl (fun _ => 0)))] := hD
  have hP := hP.sub (ws' := [(h0, .inr (12, [.ref q1, .ref q39, .ref q65, .null, .int 0, .int 0, .int 0, .int 0, .int 0, .int 0, .int 0, .int 0, .int 0, .int 0])), (q1, .inl (c1, 9, .inr (.inr (.inr (.inr f37))))), (q39, .inl (c39, 6, .inr (.inr (.inr (.inr f63))))), (q3, .inr (9, [.ref u4, .int 0, .int 0, .int 0, .int 0, .int 0]))]) [0, 1, 2, 3] rfl
  have hD := hD.sub (ws' := [(h0, .inr (12, [.ref q1, .ref q39, .ref q65, .null, .int 0, .int 0, .int 0, .int 0, .int 0, .int 0, .int 0, .int 0, .int 0, .int 0])), (q1, .inl (c1, 9, .inr (.inr (.inr (.inr f37))))), (q39, .inl (c39, 6, .inr (.inr (.inr (.inr f63))))), (q3, .inr (9, [.ref u4, .int 0, .int 0, .int 0, .int 0, .int 0]))]) [0, 1, 2, 3] (by decide) rfl
  have hK := hK.sub (tys' := [(c1, .object "FairwayChancery$Hole"), (c39, .object "FairwayChancery$Player")]) [0, 1] rfl
  refine lv_aload_n hx hb dX6_init_84 rfl (lv_at hl 1 rfl) ?_
  refine va_new (ci := 10) (fs := [.null, .int 0, .int 0, .int 0, .int 0, .int 0]) (C := RX4) (T := TX4) (N := 6) hx hb hts (by decide +kernel) tyX4 tyX4_ok hown (hts (.classLink RX6 27 RX4) (by decide +kernel)) (hts (.instantiable RX4 6) (by decide +kernel)) (hts (.initialized RX4) (by decide +kernel)) hK hP hD hS hA rfl (fun j hj => match j, hj with | 0, _ => rfl | 1, _ => rfl | 2, _ => rfl | 3, _ => rfl | 4, _ => rfl | 5, _ => rfl | n + 6, h => absurd h (by omega)) (Nat.le_of_ble_eq_true rfl) (Nat.le_of_ble_eq_true rfl) dX6_init_85 (fun q66 H hP hD hS => ?_)
  have hP : va_P D vwCl [(h0, .inr (12, [.ref q1, .ref q39, .ref q65, .null, .int 0, .int 0, .int 0, .int 0, .int 0, .int 0, .int 0, .int 0, .int 0, .int 0])), (q1, .inl (c1, 9, .inr (.inr (.inr (.inr f37))))), (q39, .inl (c39, 6, .inr (.inr (.inr (.inr f63))))), (q3, .inr (9, [.ref u4, .int 0, .int 0, .int 0, .int 0, .int 0])), (q66, .inr (10, [.null, .int 0, .int 0, .int 0, .int 0, .int 0]))] H := hP
  have hD : va_D A [(h0, .inr (12, [.ref q1, .ref q39, .ref q65, .null, .int 0, .int 0, .int 0, .int 0, .int 0, .int 0, .int 0, .int 0, .int 0, .int 0])), (q1, .inl (c1, 9, .inr (.inr (.inr (.inr f37))))), (q39, .inl (c39, 6, .inr (.inr (.inr (.inr f63))))), (q3, .inr (9, [.ref u4, .int 0, .int 0, .int 0, .int 0, .int 0])), (q66, .inr (10, [.null, .int 0, .int 0, .int 0, .int 0, .int 0]))] := hD
  refine W.widen (k := 70) (n := 5943) (by decide) (by decide) ?_
  refine lv_dup hx hb dX6_init_88 rfl ?_
  have hP := hP.sub (ws' := [(q66, .inr (10, [.null, .int 0, .int 0, .int 0, .int 0, .int 0])), (h0, .inr (12, [.ref q1, .ref q39, .ref q65, .null, .int 0, .int 0, .int 0, .int 0, .int 0, .int 0, .int 0, .int 0, .int 0, .int 0])), (q1, .inl (c1, 9, .inr (.inr (.inr (.inr f37))))), (q39, .inl (c39, 6, .inr (.inr (.inr (.inr f63))))), (q3, .inr (9, [.ref u4, .int 0, .int 0, .int 0, .int 0, .int 0]))]) [4, 0, 1, 2, 3] rfl
  have hD := hD.sub (ws' := [(q66, .inr (10, [.null, .int 0, .int 0, .int 0, .int 0, .int 0])), (h0, .inr (12, [.ref q1, .ref q39, .ref q65, .null, .int 0, .int 0, .int 0, .int 0, .int 0, .int 0, .int 0, .int 0, .int 0, .int 0])), (q1, .inl (c1, 9, .inr (.inr (.inr (.inr f37))))), (q39, .inl (c39, 6, .inr (.inr (.inr (.inr f63))))), (q3, .inr (9, [.ref u4, .int 0, .int 0, .int 0, .int 0, .int 0]))]) [4, 0, 1, 2, 3] (by decide) rfl
  have hPc := hP.sub (ws' := [(q66, .inr (10, [.null, .int 0, .int 0, .int 0, .int 0, .int 0]))]) [0] rfl
  have hKc := hK.sub (tys' := []) [] rfl
  have hFc : ∀ q : Nat, rg1 q66 H.size q → A q := fun q h => h.elim (fun e => by rw [e]; exact hD.2 0 _ rfl) (fun h => hA q (Nat.le_trans hS.1 h))
  refine va_callv (va_runI (As := []) (rest := [.ref q66, .ref h0]) ⟨hx, hb, hml, hown, hts⟩ (c_X4_init l D q66 H.size) (cwI 0 hts gX6_init_X4_init rfl rfl rfl (hts (.initialized RX4) (by decide +kernel)) (hts (.methodLink RX6 29 yX4_init) (by decide +kernel)) (hts (.instanceMethod yX4_init) (by decide +kernel)) rfl (by decide +kernel) ⟨Nat.le_of_ble_eq_true rfl, Nat.le_of_ble_eq_true rfl⟩) ⟨fun a U g mk q => ⟨q.1, q.2.1, q.2.2.1, va_K.moved (u := U) (U := U.calling g mk a) (Vm.Alike.refl U.vm) q.2.2.2.1, va_Nw.same (u := U) rfl rfl q.2.2.2.2⟩, fun U hU hW => ⟨rfl, congrArg Array.size hU, by rw [hU]; exact hPc, va_K.moved hW.alike hKc, va_Nw.warmM hW hN4⟩⟩ rfl rfl hl.1 rfl (lv_room (Nat.le_of_ble_eq_true rfl)) dX6_init_89 ⟨Nat.le_of_ble_eq_true rfl, Nat.le_of_ble_eq_true rfl⟩) hS (fun q _ h => hFc q h) hFc (fun u t H1 locs ht hvm hw hB hz1 hk1 hS => ?_)
  have hP := va_keepR hP hD hk1
  have hD := hD.sub (ws' := [(h0, .inr (12, [.ref q1, .ref q39, .ref q65, .null, .int 0, .int 0, .int 0, .int 0, .int 0, .int 0, .int 0, .int 0, .int 0, .int 0])), (q1, .inl (c1, 9, .inr (.inr (.inr (.inr f37))))), (q39, .inl (c39, 6, .inr (.inr (.inr (.inr f63))))), (q3, .inr (9, [.ref u4, .int 0, .int 0, .int 0, .int 0, .int 0]))]) [1, 2, 3, 4] (by decide) rfl
  generalize H1 = H at hP hS ⊢
  have hP : va_P D vwCl [(h0, .inr (12, [.ref q1, .ref q39, .ref q65, .null, .int 0, .int 0, .int 0, .int 0, .int 0, .int 0, .int 0, .int 0, .int 0, .int 0])), (q1, .inl (c1, 9, .inr (.inr (.inr (.inr f37))))), (q39, .inl (c39, 6, .inr (.inr (.inr (.inr f63))))), (q3, .inr (9, [.ref u4, .int 0, .int 0, .int 0, .int 0, .int 0]))] H := hP
  have hD : va_D A [(h0, .inr (12, [.ref q1, .ref q39, .ref q65, .null, .int 0, .int 0, .int 0, .int 0, .int 0, .int 0, .int 0, .int 0, .int 0, .int 0])), (q1, .inl (c1, 9, .inr (.inr (.inr (.inr f37))))), (q39, .inl (c39, 6, .inr (.inr (.inr (.inr f63))))), (q3, .inr (9, [.ref u4, .int 0, .int 0, .int 0, .int 0, .int 0]))] := hD
  refine W.widen (k := 71) (n := 5959) (by decide) (by decide) ?_
  refine va_putF (D := D) (ci := 12) (v := .ref q66) (ty := (.object "FairwayChancery$Match")) (C := RX6) (T := TX6) (N := 14) hx hb hts (by decide +kernel) tyX6 tyX6_ok nmX6 hown hK hP hD hS 0 rfl rfl 3 (by decide) (hts (.fieldLink RX6 30 "FairwayChancery" "match" "LFairwayChancery$Match;") (by decide +kernel)) (fun _ h9 => h9) rfl hin rfl (by decide +kernel) rfl rfl (Nat.le_of_ble_eq_true rfl) dX6_init_92 (fun H locs hP hD hS => ?_)
  have hP : va_P D vwCl [(h0, .inr (12, [.ref q1, .ref q39, .ref q65, .ref q66, .int 0, .int 0, .int 0, .int 0, .int 0, .int 0, .int 0, .int 0, .int 0, .int 0])), (q1, .inl (c1, 9, .inr (.inr (.inr (.inr f37))))), (q39, .inl (c39, 6, .inr (.inr (.inr (.inr f63))))), (q3, .inr (9, [.ref u4, .int 0, .int 0, .int 0, .int 0, .int 0]))] H := hP
  have hD : va_D A [(h0, .inr (12, [.ref q1, .ref q39, .ref q65, .ref q66, .int 0, .int 0, .int 0, .int 0, .int 0, .int 0, .int 0, .int 0, .int 0, .int 0])), (q1, .inl (c1, 9, .inr (.inr (.inr (.inr f37))))), (q39, .inl (c39, 6, .inr (.inr (.inr (.inr f63))))), (q3, .inr (9, [.ref u4, .int 0, .int 0, .int 0, .int 0, .int 0]))] := hD
  refine lv_aload_n hx hb dX6_init_95 rfl (lv_at hl 1 rfl) ?_
  refine lv_iconst (v := 1) hx hb dX6_init_96 (by decide) ?_
  refine va_put (D := D) (ci := 12) (v := .int 1) (ty := .int) (C := RX6) (T := TX6) (N := 14) hx hb hts (by decide +kernel) tyX6 tyX6_ok nmX6 hown hK hP hD hS 0 rfl rfl 6 (by decide) (hts (.fieldLink RX6 34 "FairwayChancery" "seed" "I") (by decide +kernel)) (fun _ h9 => h9) rfl (by decide +kernel) rfl rfl (Nat.le_of_ble_eq_true rfl) dX6_init_97 (fun H locs hP hD hS => ?_)
  have hP : va_P D vwCl [(h0, .inr (12, [.ref q1, .ref q39, .ref q65, .ref q66, .int 0, .int 0, .int 1, .int 0, .int 0, .int 0, .int 0, .int 0, .int 0, .int 0])), (q1, .inl (c1, 9, .inr (.inr (.inr (.inr f37))))), (q39, .inl (c39, 6, .inr (.inr (.inr (.inr f63))))), (q3, .inr (9, [.ref u4, .int 0, .int 0, .int 0, .int 0, .int 0]))] H := hP
  have hD : va_D A [(h0, .inr (12, [.ref q1, .ref q39, .ref q65, .ref q66, .int 0, .int 0, .int 1, .int 0, .int 0, .int 0, .int 0, .int 0, .int 0, .int 0])), (q1, .inl (c1, 9, .inr (.inr (.inr (.inr f37))))), (q39, .inl (c39, 6, .inr (.inr (.inr (.inr f63))))), (q3, .inr (9, [.ref u4, .int 0, .int 0, .int 0, .int 0, .int 0]))] := hD
  refine lv_aload_n hx hb dX6_init_100 rfl (lv_at hl 1 rfl) ?_
  refine lv_bipush (v := 110) hx hb dX6_init_101 (by decide) ?_
  refine va_put (D := D) (ci := 12) (v := .int 110) (ty := .char) (C := RX6) (T := TX6) (N := 14) hx hb hts (by decide +kernel) tyX6 tyX6_ok nmX6 hown hK hP hD hS 0 rfl rfl 7 (by decide) (hts (.fieldLink RX6 38 "FairwayChancery" "law" "C") (by decide +kernel)) (fun _ h9 => h9) rfl (by decide +kernel) rfl rfl (Nat.le_of_ble_eq_true rfl) dX6_init_103 (fun H locs hP hD hS => ?_)
  have hP : va_P D vwCl [(h0, .inr (12, [.ref q1, .ref q39, .ref q65, .ref q66, .int 0, .int 0, .int 1, .int 110, .int 0, .int 0, .int 0, .int 0, .int 0, .int 0])), (q1, .inl (c1, 9, .inr (.inr (.inr (.inr f37))))), (q39, .inl (c39, 6, .inr (.inr (.inr (.inr f63))))), (q3, .inr (9, [.ref u4, .int 0, .int 0, .int 0, .int 0, .int 0]))] H := hP
  have hD : va_D A [(h0, .inr (12, [.ref q1, .ref q39, .ref q65, .ref q66, .int 0, .int 0, .int 1, .int 110, .int 0, .int 0, .int 0, .int 0, .int 0, .int 0])), (q1, .inl (c1, 9, .inr (.inr (.inr (.inr f37))))), (q39, .inl (c39, 6, .inr (.inr (.inr (.inr f63))))), (q3, .inr (9, [.ref u4, .int 0, .int 0, .int 0, .int 0, .int 0]))] := hD
  refine lv_aload_n hx hb dX6_init_106 rfl (lv_at hl 1 rfl) ?_
  refine lv_bipush (v := 115) hx hb dX6_init_107 (by decide) ?_
  refine va_put (D := D) (ci := 12) (v := .int 115) (ty := .char) (C := RX6) (T := TX6) (N := 14) hx hb hts (by decide +kernel) tyX6 tyX6_ok nmX6 hown hK hP hD hS 0 rfl rfl 9 (by decide) (hts (.fieldLink RX6 42 "FairwayChancery" "format" "C") (by decide +kernel)) (fun _ h9 => h9) rfl (by decide +kernel) rfl rfl (Nat.le_of_ble_eq_true rfl) dX6_init_109 (fun H locs hP hD hS => ?_)
  have hP : va_P D vwCl [(h0, .inr (12, [.ref q1, .ref q39, .ref q65, .ref q66, .int 0, .int 0, .int 1, .int 110, .int 0, .int 115, .int 0, .int 0, .int 0, .int 0])), (q1, .inl (c1, 9, .inr (.inr (.inr (.inr f37))))), (q39, .inl (c39, 6, .inr (.inr (.inr (.inr f63))))), (q3, .inr (9, [.ref u4, .int 0, .int 0, .int 0, .int 0, .int 0]))] H := hP
  have hD : va_D A [(h0, .inr (12, [.ref q1, .ref q39, .ref q65, .ref q66, .int 0, .int 0, .int 1, .int 110, .int 0, .int 115, .int 0, .int 0, .int 0, .int 0])), (q1, .inl (c1, 9, .inr (.inr (.inr (.inr f37))))), (q39, .inl (c39, 6, .inr (.inr (.inr (.inr f63))))), (q3, .inr (9, [.ref u4, .int 0, .int 0, .int 0, .int 0, .int 0]))] := hD
  have hP9 := hP.sub (ws' := [(h0, .inr (12, [.ref q1, .ref q39, .ref q65, .ref q66, .int 0, .int 0, .int 1, .int 110, .int 0, .int 115, .int 0, .int 0, .int 0, .int 0])), (q1, .inl (c1, 9, .inr (.inr (.inr (.inr f37))))), (q3, .inr (9, [.ref u4, .int 0, .int 0, .int 0, .int 0, .int 0]))]) [0, 1, 3] rfl
  have hD9 := hD.sub (ws' := [(h0, .inr (12, [.ref q1, .ref q39, .ref q65, .ref q66, .int 0, .int 0, .int 1, .int 110, .int 0, .int 115, .int 0, .int 0, .int 0, .int 0])), (q1, .inl (c1, 9, .inr (.inr (.inr (.inr f37))))), (q3, .inr (9, [.ref u4, .int 0, .int 0, .int 0, .int 0, .int 0]))]) [0, 1, 3] (by decide) rfl
  have hK9 := hK.sub (tys' := [(c1, .object "FairwayChancery$Hole")]) [0] rfl
  exact W.vret hx hb hr (fun t ht hW => ⟨⟨(fun i => if i = 0 then q1 else if i = 1 then q39 else if i = 2 then q65 else q66, q3, u4, c1, f37), rfl, hf, by rw [← ht] at hP9; exact hP9, va_K.moved hW.alike hK9, hD9⟩, hS.F ht⟩) hS.2.2 dX6_init_112
