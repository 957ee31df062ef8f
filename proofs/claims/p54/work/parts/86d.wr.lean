theorem dw_penaltyShare_0 : decode cL_penaltyShare 0 = .ok (.aload_n 2, 1) := by decide +kernel
theorem dw_penaltyShare_1 : decode cL_penaltyShare 1 = .ok (.iconst 0, 1) := by decide +kernel
theorem dw_penaltyShare_2 : decode cL_penaltyShare 2 = .ok (.aload_n 0, 1) := by decide +kernel
theorem dw_penaltyShare_3 : decode cL_penaltyShare 3 = .ok (.iload_n 1, 1) := by decide +kernel
theorem dw_penaltyShare_4 : decode cL_penaltyShare 4 = .ok (.invokevirtual 191, 3) := by decide +kernel
theorem dw_penaltyShare_7 : decode cL_penaltyShare 7 = .ok (.f2d, 1) := by decide +kernel
theorem dw_penaltyShare_8 : decode cL_penaltyShare 8 = .ok (.dastore, 1) := by decide +kernel
theorem dw_penaltyShare_9 : decode cL_penaltyShare 9 = .ok (.goto 9, 3) := by decide +kernel
theorem dw_penaltyShare_12 : decode cL_penaltyShare 12 = .ok (.astore_n 3, 1) := by decide +kernel
theorem dw_penaltyShare_13 : decode cL_penaltyShare 13 = .ok (.iconst 1, 1) := by decide +kernel
theorem dw_penaltyShare_14 : decode cL_penaltyShare 14 = .ok (.ireturn, 1) := by decide +kernel
theorem dw_penaltyShare_15 : decode cL_penaltyShare 15 = .ok (.astore_n 3, 1) := by decide +kernel
theorem dw_penaltyShare_16 : decode cL_penaltyShare 16 = .ok (.iconst 2, 1) := by decide +kernel
theorem dw_penaltyShare_17 : decode cL_penaltyShare 17 = .ok (.ireturn, 1) := by decide +kernel
theorem dw_penaltyShare_18 : decode cL_penaltyShare 18 = .ok (.iconst 0, 1) := by decide +kernel
theorem dw_penaltyShare_19 : decode cL_penaltyShare 19 = .ok (.ireturn, 1) := by decide +kernel
theorem gw_X6_penaltyShare : en_CV en_cw RL 191 yX6_penaltyShare RX6 cX6_penaltyShare 6 (some .float) 1 := en_gv cwl1382 cwl1383 cwl1384 cwl75 cwl1385 ⟨rfl, by decide, by decide, by decide +kernel⟩
set_option maxHeartbeats 4000000 in
set_option maxRecDepth 100000 in
theorem wr_penaltyShare {l : Launch} (hl9 : l.stackTraces = false) {PP : Int32 → Int32 → Prop} (hPP : en_P0 PP) (Ω : Nat → en_H → va_W → Prop) (D : va_G) (tys : List (ClassId × FieldType)) (cO cD : ClassId) (sh : en_H) (w : va_W) (sz qx qo : Nat) (fx : List Value) (g0 : (Nat → UInt64)) (a1 : Int32) (hTY : tys.map Prod.snd = en_TY0) (hW : en_W PP en_KT k_X6_penaltyShare_0.2.2.2.2.1 sh tys (fun _ => False) w) (hD0 : va_D (va_A w sz) w) (hΩ : en_Om en_om0 sh Ω) (hqx : sh.1[qx]? = some 0) (hwx : w[qx]? = some (sh.2 qx, .inr (12, fx))) (hqo : sh.1[qo]? = some 57) (hwo : w[qo]? = some (sh.2 qo, .inl (cD, 1, .inr (.inr (.inr (.inl g0)))))) :
    Met l yL_penaltyShare (Cond.codeWith yL_penaltyShare cL_penaltyShare 4 (some .int) [(0, 9, 12, 23), (0, 9, 15, 195)] :: en_cw) (en_rm 2 (2, 12)) (va_Pc [.ref (sh.2 qx), .int a1, .ref (sh.2 qo)] (en_B D vwCl (tys ++ [(cO, .long), (cD, .double)]) w sz)) (va_Qi (fun _ u => (en_Px tys PP en_KT k_X6_penaltyShare_0.2.2.2.2.1 ((57, 0) :: k_X6_penaltyShare_0.2.2.2.1) sh w u ∧ ∃ g, u.2[qo]? = some (sh.2 qo, .inl (cD, 1, .inr (.inr (.inr (.inl g))))))) (en_Bw D vwCl (va_A w sz)) (va_A w sz)) 2 12 (va_A w sz) := by
  refine va_MetW (cc := cL_penaltyShare) (maxL := 4) (ret := some .int) (hh := [(0, 9, 12, 23), (0, 9, 15, 195)]) (by decide +kernel) rfl ?_
  intro p e s m args below meth c s₁ B hml hv
  obtain ⟨rfl, hsz, hP, hK, hT⟩ := hv
  subst hsz
  have hx := B.exec
  have hb := B.bytes
  have hr := B.returns
  have hts0 := atoms_spec (ws := Cond.codeWith yL_penaltyShare cL_penaltyShare 4 (some .int) [(0, 9, 12, 23), (0, 9, 15, 195)] :: en_cw) B.pre
  have hts : ∀ z ∈ en_cw, z.before _ s = true := fun z hz => hts0 z (List.mem_cons_of_mem _ hz)
  have hown : s.vm.findClass RL = some m.cls := findClass_of_methodNamed B.named
  have htab := vx_table (x := yL_penaltyShare) B (hts0 _ List.mem_cons_self)
  have hA : ∀ q : Nat, s.heap.size ≤ q → va_A w s.heap.size q := fun q h => Or.inr h
  have hS : va_S (va_A w s.heap.size) s.heap s.heap [] := va_S.rf
  have hK0 : va_K D vwCl tys s := hK.pre
  have hTt : (tys ++ [(cO, .long), (cD, .double)])[8]? = some (cD, .double) := wr_ty2 hTY
  have hl := lv_entry ([.ref (sh.2 qx), .int a1, .ref (sh.2 qo)]) (n := 4) (Nat.le_of_ble_eq_true rfl)
  rw [lg_entry_eq]
  generalize (lg_sl ([.ref (sh.2 qx), .int a1, .ref (sh.2 qo)]) ++ List.replicate (4 - (lg_sl ([.ref (sh.2 qx), .int a1, .ref (sh.2 qo)])).length) Slot.unset).toArray = ls at hl ⊢
  have hl : lv_has ls 4 [(0, .ref (sh.2 qx)), (1, .int a1), (2, .ref (sh.2 qo))] := hl
  refine lv_aload_n hx hb dw_penaltyShare_0 rfl (lv_at hl 2 rfl) ?_
  refine lv_iconst (v := 0) hx hb dw_penaltyShare_1 (by decide) ?_
  refine lv_aload_n hx hb dw_penaltyShare_2 rfl (lv_at hl 0 rfl) ?_
  refine lv_iload_n hx hb dw_penaltyShare_3 rfl (lv_at hl 1 rfl) ?_
  refine en_hcV (q0 := qx) (b := sh.2 qx) (fs := fx) (co := 12) (ρp := [.ref (sh.2 qx), .int a1]) (As := [.int a1]) (rest := [.int 0, .ref (sh.2 qo)]) (lv' := 1) (ct_X6_penaltyShare_0 hl9 hPP Ω) gw_X6_penaltyShare rfl rfl hwx rfl rfl (Nat.le_of_ble_eq_true rfl) ⟨Nat.le_of_ble_eq_true rfl, Nat.le_of_ble_eq_true rfl⟩ ⟨Nat.le_of_ble_eq_true rfl, Nat.le_of_ble_eq_true rfl⟩ (Nat.le_of_ble_eq_true rfl) hx hb (hml.trans hl.1.symm) hts hown hTY hK0 hT hP hD0 hS hA hW hΩ (wr_pa (env := k_X6_penaltyShare_0.2.1.1) ⟨⟨qx, hqx, rfl⟩, ⟨a1, rfl, en_lo a1, en_hi a1⟩, trivial⟩) dw_penaltyShare_4 (fun x9 hx9 ce q9 u H1 locs1 hpx hP1 hD1 hS1 hcell hvm hcl => ?_) (fun u res H1 locs1 hrv hpo hP1 hD1 hS1 => ?_)
  · have hku := wr_keep hpx hqo (by decide +kernel) hwo
    have hpx9 := wr_same hpx ((57, 0) :: k_X6_penaltyShare_0.2.2.2.1) (fun z hz => List.mem_cons_of_mem _ hz)
    rcases List.mem_cons.mp hx9 with hx8 | hx9
    · subst hx8
      refine vx_catch (E := "java/lang/IndexOutOfBoundsException") (name := "java/lang/IndexOutOfBoundsException") hown [] ⟨0, 9, 12, 23⟩ [⟨0, 9, 15, 195⟩] (htab.trans rfl) wr_nil (by decide) (by decide) (hts (.classLink RL 23 "java/lang/IndexOutOfBoundsException") cwl619) (va_Nw.use rfl (hT.1 (Cond.castable "java/lang/IndexOutOfBoundsException" "java/lang/IndexOutOfBoundsException") (tf_cast (539, "java/lang/IndexOutOfBoundsException") (by decide +kernel)))) hcell hvm hcl ?_
      refine lv_astore_n (lv' := (3, .ref q9) :: [(0, .ref (sh.2 qx)), (1, .int a1), (2, .ref (sh.2 qo))]) hx hb dw_penaltyShare_12 rfl hl (by decide) rfl (fun ls hl => ?_)
      refine lv_iconst (v := 1) hx hb dw_penaltyShare_13 (by decide) ?_
      exact W.widen (Nat.le_of_ble_eq_true rfl) (Nat.le_of_ble_eq_true rfl) (W.iret (v := 1) hx hb hr (fun t ht hW9 => ⟨⟨1, u, rfl, ⟨hpx9, g0, hku⟩, by rw [ht]; exact hP1, hD1⟩, hS1.F ht⟩) hS1.2.2 dw_penaltyShare_14)
    have hx8 := List.mem_singleton.mp hx9
    subst hx8
    refine vx_catch (E := "java/lang/ArithmeticException") (name := "java/lang/ArithmeticException") hown [⟨0, 9, 12, 23⟩] ⟨0, 9, 15, 195⟩ [] (htab.trans rfl) (wr_cons (Or.inr ⟨by decide, "java/lang/IndexOutOfBoundsException", (hts (.classLink RL 23 "java/lang/IndexOutOfBoundsException") cwl619), hT.2.2.2.2.1 _ (by decide +kernel) _ (by decide +kernel) (by decide)⟩) wr_nil) (by decide) (by decide) (hts (.classLink RL 195 "java/lang/ArithmeticException") cwl1368) (va_Nw.use rfl (hT.1 (Cond.castable "java/lang/ArithmeticException" "java/lang/ArithmeticException") (tf_cast (561, "java/lang/ArithmeticException") (by decide +kernel)))) hcell hvm hcl ?_
    refine lv_astore_n (lv' := (3, .ref q9) :: [(0, .ref (sh.2 qx)), (1, .int a1), (2, .ref (sh.2 qo))]) hx hb dw_penaltyShare_15 rfl hl (by decide) rfl (fun ls hl => ?_)
    refine lv_iconst (v := 2) hx hb dw_penaltyShare_16 (by decide) ?_
    exact W.widen (Nat.le_of_ble_eq_true rfl) (Nat.le_of_ble_eq_true rfl) (W.iret (v := 2) hx hb hr (fun t ht hW9 => ⟨⟨2, u, rfl, ⟨hpx9, g0, hku⟩, by rw [ht]; exact hP1, hD1⟩, hS1.F ht⟩) hS1.2.2 dw_penaltyShare_17)
  · obtain ⟨hpx, hpo9⟩ := hpo
    have hku := wr_keep hpx hqo (by decide +kernel) hwo
    obtain ⟨r9, rfl⟩ := hrv
    have hn9 : vf_n32 r9 := by
      obtain ⟨o9, ho9, ρ9, hpa, -, hres⟩ := hpo9
      have ho9 := List.mem_singleton.mp ho9
      subst ho9
      obtain ⟨v9, e9, hv9⟩ := hpa.2.1 2 _ rfl
      have ev := Option.some.inj ((hres _ rfl).symm.trans e9)
      subst ev
      rcases hv9 with ⟨z, -⟩ | ⟨-, x9, hx9, hn⟩ | ⟨z, -⟩
      · cases z
      · rw [Value.float.inj hx9]; exact hn
      · cases z
    refine lv_f2d hx hb dw_penaltyShare_7 (wr_f2d hn9) ?_
    refine va_dast hx hb hK hP1 hD1 hS1 qo 8 hku hTt (vp_in_nI (n := 0) (by decide) (by decide)) dw_penaltyShare_8 (fun H2 locs2 hP2 hD2 hS2 => ?_)
    obtain ⟨g9, hg9⟩ : ∃ g9, g9 = vf_upd g0 (0 : Int32).toNatClampNeg (FP.f2d r9) := ⟨_, rfl⟩
    rw [← hg9] at hP2 hD2
    refine lv_goto (tgt := 18) hx hb dw_penaltyShare_9 (by decide) ?_
    refine lv_iconst (v := 0) hx hb dw_penaltyShare_18 (by decide) ?_
    exact W.widen (Nat.le_of_ble_eq_true rfl) (Nat.le_of_ble_eq_true rfl) (W.iret (v := 0) hx hb hr (fun t ht hW9 => ⟨⟨0, (u.1, u.2.set qo (sh.2 qo, .inl (cD, 1, .inr (.inr (.inr (.inl g9)))))), rfl, ⟨wr_set hpx hqo (by decide +kernel) (by decide +kernel) hwo ⟨rfl, rfl⟩, g9, wr_get hku⟩, by rw [ht]; exact hP2, hD2⟩, hS2.F ht⟩) hS2.2.2 dw_penaltyShare_19)
theorem dw_pickUp_0 : decode cL_pickUp 0 = .ok (.aload_n 2, 1) := by decide +kernel
theorem dw_pickUp_1 : decode cL_pickUp 1 = .ok (.iconst 0, 1) := by decide +kernel
theorem dw_pickUp_2 : decode cL_pickUp 2 = .ok (.aload_n 0, 1) := by decide +kernel
theorem dw_pickUp_3 : decode cL_pickUp 3 = .ok (.iload_n 1, 1) := by decide +kernel
theorem dw_pickUp_4 : decode cL_pickUp 4 = .ok (.invokevirtual 102, 3) := by decide +kernel
theorem dw_pickUp_7 : decode cL_pickUp 7 = .ok (.i2l, 1) := by decide +kernel
theorem dw_pickUp_8 : decode cL_pickUp 8 = .ok (.lastore, 1) := by decide +kernel
theorem dw_pickUp_9 : decode cL_pickUp 9 = .ok (.goto 12, 3) := by decide +kernel
theorem dw_pickUp_12 : decode cL_pickUp 12 = .ok (.astore_n 3, 1) := by decide +kernel
theorem dw_pickUp_13 : decode cL_pickUp 13 = .ok (.iconst 1, 1) := by decide +kernel
theorem dw_pickUp_14 : decode cL_pickUp 14 = .ok (.ireturn, 1) := by decide +kernel
theorem dw_pickUp_15 : decode cL_pickUp 15 = .ok (.astore_n 3, 1) := by decide +kernel
theorem dw_pickUp_16 : decode cL_pickUp 16 = .ok (.iconst 2, 1) := by decide +kernel
theorem dw_pickUp_17 : decode cL_pickUp 17 = .ok (.ireturn, 1) := by decide +kernel
theorem dw_pickUp_18 : decode cL_pickUp 18 = .ok (.astore_n 3, 1) := by decide +kernel
theorem dw_pickUp_19 : decode cL_pickUp 19 = .ok (.iconst 3, 1) := by decide +kernel
theorem dw_pickUp_20 : decode cL_pickUp 20 = .ok (.ireturn, 1) := by decide +kernel
theorem dw_pickUp_21 : decode cL_pickUp 21 = .ok (.iconst 0, 1) := by decide +kernel
theorem dw_pickUp_22 : decode cL_pickUp 22 = .ok (.ireturn, 1) := by decide +kernel
theorem gw_X6_pickUp : en_CV en_cw RL 102 yX6_pickUp RX6 cX6_pickUp 3 (some .int) 1 := en_gv cwl1034 cwl1035 cwl1036 cwl75 cwl1037 ⟨rfl, by decide, by decide, by decide +kernel⟩
set_option maxHeartbeats 4000000 in
set_option maxRecDepth 100000 in
theorem wr_pickUp {l : Launch} (hl9 : l.stackTraces = false) {PP : Int32 → Int32 → Prop} (hPP : en_P0 PP) (Ω : Nat → en_H → va_W → Prop) (D : va_G) (tys : List (ClassId × FieldType)) (cO cD : ClassId) (sh : en_H) (w : va_W) (sz qx qo : Nat) (fx : List Value) (g0 : (Nat → Int64)) (a1 : Int32) (hTY : tys.map Prod.snd = en_TY0) (hW : en_W PP en_KT k_X6_pickUp_0.2.2.2.2.1 sh tys (fun _ => False) w) (hD0 : va_D (va_A w sz) w) (hΩ : en_Om en_om0 sh Ω) (hqx : sh.1[qx]? = some 0) (hwx : w[qx]? = some (sh.2 qx, .inr (12, fx))) (hqo : sh.1[qo]? = some 56) (hwo : w[qo]? = some (sh.2 qo, .inl (cO, 1, .inr (.inl g0)))) :
    Met l yL_pickUp (Cond.codeWith yL_pickUp cL_pickUp 4 (some .int) [(0, 9, 12, 23), (0, 9, 15, 15), (0, 9, 18, 17)] :: en_cw) (en_rm 3 (3, 18)) (va_Pc [.ref (sh.2 qx), .int a1, .ref (sh.2 qo)] (en_B D vwCl (tys ++ [(cO, .long), (cD, .double)]) w sz)) (va_Qi (fun _ u => (en_Px tys PP en_KT k_X6_pickUp_0.2.2.2.2.1 ((56, 0) :: k_X6_pickUp_0.2.2.2.1) sh w u ∧ ∃ g, u.2[qo]? = some (sh.2 qo, .inl (cO, 1, .inr (.inl g))))) (en_Bw D vwCl (va_A w sz)) (va_A w sz)) 3 18 (va_A w sz) := by
  refine va_MetW (cc := cL_pickUp) (maxL := 4) (ret := some .int) (hh := [(0, 9, 12, 23), (0, 9, 15, 15), (0, 9, 18, 17)]) (by decide +kernel) rfl ?_
  intro p e s m args below meth c s₁ B hml hv
  obtain ⟨rfl, hsz, hP, hK, hT⟩ := hv
  subst hsz
  have hx := B.exec
  have hb := B.bytes
  have hr := B.returns
  have hts0 := atoms_spec (ws := Cond.codeWith yL_pickUp cL_pickUp 4 (some .int) [(0, 9, 12, 23), (0, 9, 15, 15), (0, 9, 18, 17)] :: en_cw) B.pre
  have hts : ∀ z ∈ en_cw, z.before _ s = true := fun z hz => hts0 z (List.mem_cons_of_mem _ hz)
  have hown : s.vm.findClass RL = some m.cls := findClass_of_methodNamed B.named
  have htab := vx_table (x := yL_pickUp) B (hts0 _ List.mem_cons_self)
  have hA : ∀ q : Nat, s.heap.size ≤ q → va_A w s.heap.size q := fun q h => Or.inr h
  have hS : va_S (va_A w s.heap.size) s.heap s.heap [] := va_S.rf
  have hK0 : va_K D vwCl tys s := hK.pre
  have hTt : (tys ++ [(cO, .long), (cD, .double)])[7]? = some (cO, .long) := wr_ty hTY
  have hl := lv_entry ([.ref (sh.2 qx), .int a1, .ref (sh.2 qo)]) (n := 4) (Nat.le_of_ble_eq_true rfl)
  rw [lg_entry_eq]
  generalize (lg_sl ([.ref (sh.2 qx), .int a1, .ref (sh.2 qo)]) ++ List.replicate (4 - (lg_sl ([.ref (sh.2 qx), .int a1, .ref (sh.2 qo)])).length) Slot.unset).toArray = ls at hl ⊢
  have hl : lv_has ls 4 [(0, .ref (sh.2 qx)), (1, .int a1), (2, .ref (sh.2 qo))] := hl
  refine lv_aload_n hx hb dw_pickUp_0 rfl (lv_at hl 2 rfl) ?_
  refine lv_iconst (v := 0) hx hb dw_pickUp_1 (by decide) ?_
  refine lv_aload_n hx hb dw_pickUp_2 rfl (lv_at hl 0 rfl) ?_
  refine lv_iload_n hx hb dw_pickUp_3 rfl (lv_at hl 1 rfl) ?_
  refine en_hcV (q0 := qx) (b := sh.2 qx) (fs := fx) (co := 12) (ρp := [.ref (sh.2 qx), .int a1]) (As := [.int a1]) (rest := [.int 0, .ref (sh.2 qo)]) (lv' := 2) (ct_X6_pickUp_0 hl9 hPP Ω) gw_X6_pickUp rfl rfl hwx rfl rfl (Nat.le_of_ble_eq_true rfl) ⟨Nat.le_of_ble_eq_true rfl, Nat.le_of_ble_eq_true rfl⟩ ⟨Nat.le_of_ble_eq_true rfl, Nat.le_of_ble_eq_true rfl⟩ (Nat.le_of_ble_eq_true rfl) hx hb (hml.trans hl.1.symm) hts hown hTY hK0 hT hP hD0 hS hA hW hΩ (wr_pa (env := k_X6_pickUp_0.2.1.1) ⟨⟨qx, hqx, rfl⟩, ⟨a1, rfl, en_lo a1, en_hi a1⟩, trivial⟩) dw_pickUp_4 (fun x9 hx9 ce q9 u H1 locs1 hpx hP1 hD1 hS1 hcell hvm hcl => ?_) (fun u res H1 locs1 hrv hpo hP1 hD1 hS1 => ?_)
  · have hku := wr_keep hpx hqo (by decide +kernel) hwo
    have hpx9 := wr_same hpx ((56, 0) :: k_X6_pickUp_0.2.2.2.1) (fun z hz => List.mem_cons_of_mem _ hz)
    rcases List.mem_cons.mp hx9 with hx8 | hx9
    · subst hx8
      refine vx_catch (E := "java/lang/IllegalStateException") (name := "java/lang/IllegalStateException") hown [⟨0, 9, 12, 23⟩] ⟨0, 9, 15, 15⟩ [⟨0, 9, 18, 17⟩] (htab.trans rfl) (wr_cons (Or.inr ⟨by decide, "java/lang/IndexOutOfBoundsException", (hts (.classLink RL 23 "java/lang/IndexOutOfBoundsException") cwl619), hT.2.2.2.2.1 _ (by decide +kernel) _ (by decide +kernel) (by decide)⟩) wr_nil) (by decide) (by decide) (hts (.classLink RL 15 "java/lang/IllegalStateException") cwl499) (va_Nw.use rfl (hT.1 (Cond.castable "java/lang/IllegalStateException" "java/lang/IllegalStateException") (tf_cast (69, "java/lang/IllegalStateException") (by decide +kernel)))) hcell hvm hcl ?_
      refine lv_astore_n (lv' := (3, .ref q9) :: [(0, .ref (sh.2 qx)), (1, .int a1), (2, .ref (sh.2 qo))]) hx hb dw_pickUp_15 rfl hl (by decide) rfl (fun ls hl => ?_)
      refine lv_iconst (v := 2) hx hb dw_pickUp_16 (by decide) ?_
      exact W.widen (Nat.le_of_ble_eq_true rfl) (Nat.le_of_ble_eq_true rfl) (W.iret (v := 2) hx hb hr (fun t ht hW9 => ⟨⟨2, u, rfl, ⟨hpx9, g0, hku⟩, by rw [ht]; exact hP1, hD1⟩, hS1.F ht⟩) hS1.2.2 dw_pickUp_17)
    rcases List.mem_cons.mp hx9 with hx8 | hx9
    · subst hx8
      refine vx_catch (E := "java/lang/UnsupportedOperationException") (name := "java/lang/UnsupportedOperationException") hown [⟨0, 9, 12, 23⟩, ⟨0, 9, 15, 15⟩] ⟨0, 9, 18, 17⟩ [] (htab.trans rfl) (wr_cons (Or.inr ⟨by decide, "java/lang/IndexOutOfBoundsException", (hts (.classLink RL 23 "java/lang/IndexOutOfBoundsException") cwl619), hT.2.2.2.2.1 _ (by decide +kernel) _ (by decide +kernel) (by decide)⟩) (wr_cons (Or.inr ⟨by decide, "java/lang/IllegalStateException", (hts (.classLink RL 15 "java/lang/IllegalStateException") cwl499), hT.2.2.2.2.1 _ (by decide +kernel) _ (by decide +kernel) (by decide)⟩) wr_nil)) (by decide) (by decide) (hts (.classLink RL 17 "java/lang/UnsupportedOperationException") cwl500) (va_Nw.use rfl (hT.1 (Cond.castable "java/lang/UnsupportedOperationException" "java/lang/UnsupportedOperationException") (tf_cast (78, "java/lang/UnsupportedOperationException") (by decide +kernel)))) hcell hvm hcl ?_
      refine lv_astore_n (lv' := (3, .ref q9) :: [(0, .ref (sh.2 qx)), (1, .int a1), (2, .ref (sh.2 qo))]) hx hb dw_pickUp_18 rfl hl (by decide) rfl (fun ls hl => ?_)
      refine lv_iconst (v := 3) hx hb dw_pickUp_19 (by decide) ?_
      exact W.widen (Nat.le_of_ble_eq_true rfl) (Nat.le_of_ble_eq_true rfl) (W.iret (v := 3) hx hb hr (fun t ht hW9 => ⟨⟨3, u, rfl, ⟨hpx9, g0, hku⟩, by rw [ht]; exact hP1, hD1⟩, hS1.F ht⟩) hS1.2.2 dw_pickUp_20)
    have hx8 := List.mem_singleton.mp hx9
    subst hx8
    refine vx_catch (E := "java/lang/IndexOutOfBoundsException") (name := "java/lang/IndexOutOfBoundsException") hown [] ⟨0, 9, 12, 23⟩ [⟨0, 9, 15, 15⟩, ⟨0, 9, 18, 17⟩] (htab.trans rfl) wr_nil (by decide) (by decide) (hts (.classLink RL 23 "java/lang/IndexOutOfBoundsException") cwl619) (va_Nw.use rfl (hT.1 (Cond.castable "java/lang/IndexOutOfBoundsException" "java/lang/IndexOutOfBoundsException") (tf_cast (539, "java/lang/IndexOutOfBoundsException") (by decide +kernel)))) hcell hvm hcl ?_
    refine lv_astore_n (lv' := (3, .ref q9) :: [(0, .ref (sh.2 qx)), (1, .int a1), (2, .ref (sh.2 qo))]) hx hb dw_pickUp_12 rfl hl (by decide) rfl (fun ls hl => ?_)
    refine lv_iconst (v := 1) hx hb dw_pickUp_13 (by decide) ?_
    exact W.widen (Nat.le_of_ble_eq_true rfl) (Nat.le_of_ble_eq_true rfl) (W.iret (v := 1) hx hb hr (fun t ht hW9 => ⟨⟨1, u, rfl, ⟨hpx9, g0, hku⟩, by rw [ht]; exact hP1, hD1⟩, hS1.F ht⟩) hS1.2.2 dw_pickUp_14)
  · obtain ⟨hpx, hpo9⟩ := hpo
    have hku := wr_keep hpx hqo (by decide +kernel) hwo
    obtain ⟨r9, rfl⟩ := hrv
    refine lv_i2l hx hb dw_pickUp_7 rfl ?_
    refine va_last hx hb hK hP1 hD1 hS1 qo 7 hku hTt (vp_in_nI (n := 0) (by decide) (by decide)) dw_pickUp_8 (fun H2 locs2 hP2 hD2 hS2 => ?_)
    obtain ⟨g9, hg9⟩ : ∃ g9, g9 = vp_updL g0 (0 : Int32).toNatClampNeg r9.toInt64 := ⟨_, rfl⟩
    rw [← hg9] at hP2 hD2
    refine lv_goto (tgt := 21) hx hb dw_pickUp_9 (by decide) ?_
    refine lv_iconst (v := 0) hx hb dw_pickUp_21 (by decide) ?_
    exact W.widen (Nat.le_of_ble_eq_true rfl) (Nat.le_of_ble_eq_true rfl) (W.iret (v := 0) hx hb hr (fun t ht hW9 => ⟨⟨0, (u.1, u.2.set qo (sh.2 qo, .inl (cO, 1, .inr (.inl g9)))), rfl, ⟨wr_set hpx hqo (by decide +kernel) (by decide +kernel) hwo ⟨rfl, rfl⟩, g9, wr_get hku⟩, by rw [ht]; exact hP2, hD2⟩, hS2.F ht⟩) hS2.2.2 dw_pickUp_22)
theorem dw_player_0 : decode cL_player 0 = .ok (.aload_n 1, 1) := by decide +kernel
theorem dw_player_1 : decode cL_player 1 = .ok (.iconst 0, 1) := by decide +kernel
theorem dw_player_2 : decode cL_player 2 = .ok (.aload_n 0, 1) := by decide +kernel
theorem dw_player_3 : decode cL_player 3 = .ok (.invokevirtual 29, 3) := by decide +kernel
theorem dw_player_6 : decode cL_player 6 = .ok (.i2l, 1) := by decide +kernel
theorem dw_player_7 : decode cL_player 7 = .ok (.lastore, 1) := by decide +kernel
theorem dw_player_8 : decode cL_player 8 = .ok (.goto 6, 3) := by decide +kernel
theorem dw_player_11 : decode cL_player 11 = .ok (.astore_n 2, 1) := by decide +kernel
theorem dw_player_12 : decode cL_player 12 = .ok (.iconst 1, 1) := by decide +kernel
theorem dw_player_13 : decode cL_player 13 = .ok (.ireturn, 1) := by decide +kernel
theorem dw_player_14 : decode cL_player 14 = .ok (.iconst 0, 1) := by decide +kernel
theorem dw_player_15 : decode cL_player 15 = .ok (.ireturn, 1) := by decide +kernel
theorem gw_X6_player : en_CV en_cw RL 29 yX6_player RX6 cX6_player 1 (some .int) 0 := en_gv cwl687 cwl688 cwl689 cwl75 cwl690 ⟨rfl, by decide, by decide, by decide +kernel⟩
set_option maxHeartbeats 4000000 in
set_option maxRecDepth 100000 in
theorem wr_player {l : Launch} (hl9 : l.stackTraces = false) {PP : Int32 → Int32 → Prop} (hPP : en_P0 PP) (Ω : Nat → en_H → va_W → Prop) (D : va_G) (tys : List (ClassId × FieldType)) (cO cD : ClassId) (sh : en_H) (w : va_W) (sz qx qo : Nat) (fx : List Value) (g0 : (Nat → Int64)) (hTY : tys.map Prod.snd = en_TY0) (hW : en_W PP en_KT k_X6_player_0.2.2.2.2.1 sh tys (fun _ => False) w) (hD0 : va_D (va_A w sz) w) (hΩ : en_Om en_om0 sh Ω) (hqx : sh.1[qx]? = some 0) (hwx : w[qx]? = some (sh.2 qx, .inr (12, fx))) (hqo : sh.1[qo]? = some 56) (hwo : w[qo]? = some (sh.2 qo, .inl (cO, 1, .inr (.inl g0)))) :
    Met l yL_player (Cond.codeWith yL_player cL_player 3 (some .int) [(0, 8, 11, 15)] :: en_cw) (en_rm 1 (1, 6)) (va_Pc [.ref (sh.2 qx), .ref (sh.2 qo)] (en_B D vwCl (tys ++ [(cO, .long), (cD, .double)]) w sz)) (va_Qi (fun _ u => (en_Px tys PP en_KT k_X6_player_0.2.2.2.2.1 ((56, 0) :: k_X6_player_0.2.2.2.1) sh w u ∧ ∃ g, u.2[qo]? = some (sh.2 qo, .inl (cO, 1, .inr (.inl g))))) (en_Bw D vwCl (va_A w sz)) (va_A w sz)) 1 6 (va_A w sz) := by
  refine va_MetW (cc := cL_player) (maxL := 3) (ret := some .int) (hh := [(0, 8, 11, 15)]) (by decide +kernel) rfl ?_
  intro p e s m args below meth c s₁ B hml hv
  obtain ⟨rfl, hsz, hP, hK, hT⟩ := hv
  subst hsz
  have hx := B.exec
  have hb := B.bytes
  have hr := B.returns
  have hts0 := atoms_spec (ws := Cond.codeWith yL_player cL_player 3 (some .int) [(0, 8, 11, 15)] :: en_cw) B.pre
  have hts : ∀ z ∈ en_cw, z.before _ s = true := fun z hz => hts0 z (List.mem_cons_of_mem _ hz)
  have hown : s.vm.findClass RL = some m.cls := findClass_of_methodNamed B.named
  have htab := vx_table (x := yL_player) B (hts0 _ List.mem_cons_self)
  have hA : ∀ q : Nat, s.heap.size ≤ q → va_A w s.heap.size q := fun q h => Or.inr h
  have hS : va_S (va_A w s.heap.size) s.heap s.heap [] := va_S.rf
  have hK0 : va_K D vwCl tys s := hK.pre
  have hTt : (tys ++ [(cO, .long), (cD, .double)])[7]? = some (cO, .long) := wr_ty hTY
  have hl := lv_entry ([.ref (sh.2 qx), .ref (sh.2 qo)]) (n := 3) (Nat.le_of_ble_eq_true rfl)
  rw [lg_entry_eq]
  generalize (lg_sl ([.ref (sh.2 qx), .ref (sh.2 qo)]) ++ List.replicate (3 - (lg_sl ([.ref (sh.2 qx), .ref (sh.2 qo)])).length) Slot.unset).toArray = ls at hl ⊢
  have hl : lv_has ls 3 [(0, .ref (sh.2 qx)), (1, .ref (sh.2 qo))] := hl
  refine lv_aload_n hx hb dw_player_0 rfl (lv_at hl 1 rfl) ?_
  refine lv_iconst (v := 0) hx hb dw_player_1 (by decide) ?_
  refine lv_aload_n hx hb dw_player_2 rfl (lv_at hl 0 rfl) ?_
  refine en_hcV (q0 := qx) (b := sh.2 qx) (fs := fx) (co := 12) (ρp := [.ref (sh.2 qx)]) (As := []) (rest := [.int 0, .ref (sh.2 qo)]) (lv' := 0) (ct_X6_player_0 hl9 hPP Ω) gw_X6_player rfl rfl hwx rfl rfl (Nat.le_of_ble_eq_true rfl) ⟨Nat.le_of_ble_eq_true rfl, Nat.le_of_ble_eq_true rfl⟩ ⟨Nat.le_of_ble_eq_true rfl, Nat.le_of_ble_eq_true rfl⟩ (Nat.le_of_ble_eq_true rfl) hx hb (hml.trans hl.1.symm) hts hown hTY hK0 hT hP hD0 hS hA hW hΩ (wr_pa (env := k_X6_player_0.2.1.1) ⟨⟨qx, hqx, rfl⟩, trivial⟩) dw_player_3 (fun x9 hx9 ce q9 u H1 locs1 hpx hP1 hD1 hS1 hcell hvm hcl => ?_) (fun u res H1 locs1 hrv hpo hP1 hD1 hS1 => ?_)
  · have hku := wr_keep hpx hqo (by decide +kernel) hwo
    have hpx9 := wr_same hpx ((56, 0) :: k_X6_player_0.2.2.2.1) (fun z hz => List.mem_cons_of_mem _ hz)
    have hx8 := List.mem_singleton.mp hx9
    subst hx8
    refine vx_catch (E := "java/lang/IllegalStateException") (name := "java/lang/IllegalStateException") hown [] ⟨0, 8, 11, 15⟩ [] (htab.trans rfl) wr_nil (by decide) (by decide) (hts (.classLink RL 15 "java/lang/IllegalStateException") cwl499) (va_Nw.use rfl (hT.1 (Cond.castable "java/lang/IllegalStateException" "java/lang/IllegalStateException") (tf_cast (69, "java/lang/IllegalStateException") (by decide +kernel)))) hcell hvm hcl ?_
    refine lv_astore_n (lv' := (2, .ref q9) :: [(0, .ref (sh.2 qx)), (1, .ref (sh.2 qo))]) hx hb dw_player_11 rfl hl (by decide) rfl (fun ls hl => ?_)
    refine lv_iconst (v := 1) hx hb dw_player_12 (by decide) ?_
    exact W.widen (Nat.le_of_ble_eq_true rfl) (Nat.le_of_ble_eq_true rfl) (W.iret (v := 1) hx hb hr (fun t ht hW9 => ⟨⟨1, u, rfl, ⟨hpx9, g0, hku⟩, by rw [ht]; exact hP1, hD1⟩, hS1.F ht⟩) hS1.2.2 dw_player_13)
  · obtain ⟨hpx, hpo9⟩ := hpo
    have hku := wr_keep hpx hqo (by decide +kernel) hwo
    obtain ⟨r9, rfl⟩ := hrv
    refine lv_i2l hx hb dw_player_6 rfl ?_
    refine va_last hx hb hK hP1 hD1 hS1 qo 7 hku hTt (vp_in_nI (n := 0) (by decide) (by decide)) dw_player_7 (fun H2 locs2 hP2 hD2 hS2 => ?_)
    obtain ⟨g9, hg9⟩ : ∃ g9, g9 = vp_updL g0 (0 : Int32).toNatClampNeg r9.toInt64 := ⟨_, rfl⟩
    rw [← hg9] at hP2 hD2
    refine lv_goto (tgt := 14) hx hb dw_player_8 (by decide) ?_
    refine lv_iconst (v := 0) hx hb dw_player_14 (by decide) ?_
    exact W.widen (Nat.le_of_ble_eq_true rfl) (Nat.le_of_ble_eq_true rfl) (W.iret (v := 0) hx hb hr (fun t ht hW9 => ⟨⟨0, (u.1, u.2.set qo (sh.2 qo, .inl (cO, 1, .inr (.inl g9)))), rfl, ⟨wr_set hpx hqo (by decide +kernel) (by decide +kernel) hwo ⟨rfl, rfl⟩, g9, wr_get hku⟩, by rw [ht]; exact hP2, hD2⟩, hS2.F ht⟩) hS2.2.2 dw_player_15)
theorem dw_point_0 : decode cL_point 0 = .ok (.aload_n 3, 1) := by decide +kernel
theorem dw_point_1 : decode cL_point 1 = .ok (.iconst 0, 1) := by decide +kernel
theorem dw_point_2 : decode cL_point 2 = .ok (.aload_n 0, 1) := by decide +kernel
theorem dw_point_3 : decode cL_point 3 = .ok (.iload_n 1, 1) := by decide +kernel
theorem dw_point_4 : decode cL_point 4 = .ok (.iload_n 2, 1) := by decide +kernel
theorem dw_point_5 : decode cL_point 5 = .ok (.invokevirtual 81, 3) := by decide +kernel
theorem dw_point_8 : decode cL_point 8 = .ok (.i2l, 1) := by decide +kernel
theorem dw_point_9 : decode cL_point 9 = .ok (.lastore, 1) := by decide +kernel
theorem dw_point_10 : decode cL_point 10 = .ok (.goto 19, 3) := by decide +kernel
theorem dw_point_13 : decode cL_point 13 = .ok (.astore 4, 2) := by decide +kernel
theorem dw_point_15 : decode cL_point 15 = .ok (.iconst 1, 1) := by decide +kernel
theorem dw_point_16 : decode cL_point 16 = .ok (.ireturn, 1) := by decide +kernel
theorem dw_point_17 : decode cL_point 17 = .ok (.astore 4, 2) := by decide +kernel
theorem dw_point_19 : decode cL_point 19 = .ok (.iconst 2, 1) := by decide +kernel
theorem dw_point_20 : decode cL_point 20 = .ok (.ireturn, 1) := by decide +kernel
theorem dw_point_21 : decode cL_point 21 = .ok (.astore 4, 2) := by decide +kernel
theorem dw_point_23 : decode cL_point 23 = .ok (.iconst 3, 1) := by decide +kernel
theorem dw_point_24 : decode cL_point 24 = .ok (.ireturn, 1) := by decide +kernel
theorem dw_point_25 : decode cL_point 25 = .ok (.astore 4, 2) := by decide +kernel
theorem dw_point_27 : decode cL_point 27 = .ok (.iconst 4, 1) := by decide +kernel
theorem dw_point_28 : decode cL_point 28 = .ok (.ireturn, 1) := by decide +kernel
theorem dw_point_29 : decode cL_point 29 = .ok (.iconst 0, 1) := by decide +kernel
theorem dw_point_30 : decode cL_point 30 = .ok (.ireturn, 1) := by decide +kernel
theorem gw_X6_point : en_CV en_cw RL 81 yX6_point RX6 cX6_point 5 (some .int) 2 := en_gv cwl973 cwl974 cwl975 cwl75 cwl976 ⟨rfl, by decide, by decide, by decide +kernel⟩
set_option maxHeartbeats 4000000 in
set_option maxRecDepth 100000 in
theorem wr_point {l : Launch} (hl9 : l.stackTraces = false) {PP : Int32 → Int32 → Prop} (hPP : en_P0 PP) (Ω : Nat → en_H → va_W → Prop) (D : va_G) (tys : List (ClassId × FieldType)) (cO cD : ClassId) (sh : en_H) (w : va_W) (sz qx qo : Nat) (fx : List Value) (g0 : (Nat → Int64)) (a1 : Int32) (a2 : Int32) (hb2 : 0 ≤ a2.toInt ∧ a2.toInt ≤ 1) (hTY : tys.map Prod.snd = en_TY0) (hW : en_W PP en_KT k_X6_point_0.2.2.2.2.1 sh tys (fun _ => False) w) (hD0 : va_D (va_A w sz) w) (hΩ : en_Om en_om0 sh Ω) (hqx : sh.1[qx]? = some 0) (hwx : w[qx]? = some (sh.2 qx, .inr (12, fx))) (hqo : sh.1[qo]? = some 56) (hwo : w[qo]? = some (sh.2 qo, .inl (cO, 1, .inr (.inl g0)))) :
    Met l yL_point (Cond.codeWith yL_point cL_point 5 (some .int) [(0, 10, 13, 23), (0, 10, 17, 15), (0, 10, 21, 17), (0, 10, 25, 54)] :: en_cw) (en_rm 5 (3, 18)) (va_Pc [.ref (sh.2 qx), .int a1, .int a2, .ref (sh.2 qo)] (en_B D vwCl (tys ++ [(cO, .long), (cD, .double)]) w sz)) (va_Qi (fun _ u => (en_Px tys PP en_KT k_X6_point_0.2.2.2.2.1 ((56, 0) :: k_X6_point_0.2.2.2.1) sh w u ∧ ∃ g, u.2[qo]? = some (sh.2 qo, .inl (cO, 1, .inr (.inl g))))) (en_Bw D vwCl (va_A w sz)) (va_A w sz)) 3 18 (va_A w sz) := by
  refine va_MetW (cc := cL_point) (maxL := 5) (ret := some .int) (hh := [(0, 10, 13, 23), (0, 10, 17, 15), (0, 10, 21, 17), (0, 10, 25, 54)]) (by decide +kernel) rfl ?_
  intro p e s m args below meth c s₁ B hml hv
  obtain ⟨rfl, hsz, hP, hK, hT⟩ := hv
  subst hsz
  have hx := B.exec
  have hb := B.bytes
  have hr := B.returns
  have hts0 := atoms_spec (ws := Cond.codeWith yL_point cL_point 5 (some .int) [(0, 10, 13, 23), (0, 10, 17, 15), (0, 10, 21, 17), (0, 10, 25, 54)] :: en_cw) B.pre
  have hts : ∀ z ∈ en_cw, z.before _ s = true := fun z hz => hts0 z (List.mem_cons_of_mem _ hz)
  have hown : s.vm.findClass RL = some m.cls := findClass_of_methodNamed B.named
  have htab := vx_table (x := yL_point) B (hts0 _ List.mem_cons_self)
  have hA : ∀ q : Nat, s.heap.size ≤ q → va_A w s.heap.size q := fun q h => Or.inr h
  have hS : va_S (va_A w s.heap.size) s.heap s.heap [] := va_S.rf
  have hK0 : va_K D vwCl tys s := hK.pre
  have hTt : (tys ++ [(cO, .long), (cD, .double)])[7]? = some (cO, .long) := wr_ty hTY
  have hl := lv_entry ([.ref (sh.2 qx), .int a1, .int a2, .ref (sh.2 qo)]) (n := 5) (Nat.le_of_ble_eq_true rfl)
  rw [lg_entry_eq]
  generalize (lg_sl ([.ref (sh.2 qx), .int a1, .int a2, .ref (sh.2 qo)]) ++ List.replicate (5 - (lg_sl ([.ref (sh.2 qx), .int a1, .int a2, .ref (sh.2 qo)])).length) Slot.unset).toArray = ls at hl ⊢
  have hl : lv_has ls 5 [(0, .ref (sh.2 qx)), (1, .int a1), (2, .int a2), (3, .ref (sh.2 qo))] := hl
  refine lv_aload_n hx hb dw_point_0 rfl (lv_at hl 3 rfl) ?_
  refine lv_iconst (v := 0) hx hb dw_point_1 (by decide) ?_
  refine lv_aload_n hx hb dw_point_2 rfl (lv_at hl 0 rfl) ?_
  refine lv_iload_n hx hb dw_point_3 rfl (lv_at hl 1 rfl) ?_
  refine lv_iload_n hx hb dw_point_4 rfl (lv_at hl 2 rfl) ?_
  refine en_hcV (q0 := qx) (b := sh.2 qx) (fs := fx) (co := 12) (ρp := [.ref (sh.2 qx), .int a1, .int a2]) (As := [.int a1, .int a2]) (rest := [.int 0, .ref (sh.2 qo)]) (lv' := 4) (ct_X6_point_0 hl9 hPP Ω) gw_X6_point rfl rfl hwx rfl rfl (Nat.le_of_ble_eq_true rfl) ⟨Nat.le_of_ble_eq_true rfl, Nat.le_of_ble_eq_true rfl⟩ ⟨Nat.le_of_ble_eq_true rfl, Nat.le_of_ble_eq_true rfl⟩ (Nat.le_of_ble_eq_true rfl) hx hb (hml.trans hl.1.symm) hts hown hTY hK0 hT hP hD0 hS hA hW hΩ (wr_pa (env := k_X6_point_0.2.1.1) ⟨⟨qx, hqx, rfl⟩, ⟨a1, rfl, en_lo a1, en_hi a1⟩, ⟨a2, rfl, hb2.1, hb2.2⟩, trivial⟩) dw_point_5 (fun x9 hx9 ce q9 u H1 locs1 hpx hP1 hD1 hS1 hcell hvm hcl => ?_) (fun u res H1 locs1 hrv hpo hP1 hD1 hS1 => ?_)
  · have hku := wr_keep hpx hqo (by decide +kernel) hwo
    have hpx9 := wr_same hpx ((56, 0) :: k_X6_point_0.2.2.2.1) (fun z hz => List.mem_cons_of_mem _ hz)
    rcases List.mem_cons.mp hx9 with hx8 | hx9
    · subst hx8
      refine vx_catch (E := "java/lang/IllegalStateException") (name := "java/lang/IllegalStateException") hown [⟨0, 10, 13, 23⟩] ⟨0, 10, 17, 15⟩ [⟨0, 10, 21, 17⟩, ⟨0, 10, 25, 54⟩] (htab.trans rfl) (wr_cons (Or.inr ⟨by decide, "java/lang/IndexOutOfBoundsException", (hts (.classLink RL 23 "java/lang/IndexOutOfBoundsException") cwl619), hT.2.2.2.2.1 _ (by decide +kernel) _ (by decide +kernel) (by decide)⟩) wr_nil) (by decide) (by decide) (hts (.classLink RL 15 "java/lang/IllegalStateException") cwl499) (va_Nw.use rfl (hT.1 (Cond.castable "java/lang/IllegalStateException" "java/lang/IllegalStateException") (tf_cast (69, "java/lang/IllegalStateException") (by decide +kernel)))) hcell hvm hcl ?_
      refine lv_astore (lv' := (4, .ref q9) :: [(0, .ref (sh.2 qx)), (1, .int a1), (2, .int a2), (3, .ref (sh.2 qo))]) hx hb dw_point_17 hl (by decide) rfl (fun ls hl => ?_)
      refine lv_iconst (v := 2) hx hb dw_point_19 (by decide) ?_
      exact W.widen (Nat.le_of_ble_eq_true rfl) (Nat.le_of_ble_eq_true rfl) (W.iret (v := 2) hx hb hr (fun t ht hW9 => ⟨⟨2, u, rfl, ⟨hpx9, g0, hku⟩, by rw [ht]; exact hP1, hD1⟩, hS1.F ht⟩) hS1.2.2 dw_point_20)
    rcases List.mem_cons.mp hx9 with hx8 | hx9
    · subst hx8
      refine vx_catch (E := "java/lang/UnsupportedOperationException") (name := "java/lang/UnsupportedOperationException") hown [⟨0, 10, 13, 23⟩, ⟨0, 10, 17, 15⟩] ⟨0, 10, 21, 17⟩ [⟨0, 10, 25, 54⟩] (htab.trans rfl) (wr_cons (Or.inr ⟨by decide, "java/lang/IndexOutOfBoundsException", (hts (.classLink RL 23 "java/lang/IndexOutOfBoundsException") cwl619), hT.2.2.2.2.1 _ (by decide +kernel) _ (by decide +kernel) (by decide)⟩) (wr_cons (Or.inr ⟨by decide, "java/lang/IllegalStateException", (hts (.classLink RL 15 "java/lang/IllegalStateException") cwl499), hT.2.2.2.2.1 _ (by decide +kernel) _ (by decide +kernel) (by decide)⟩) wr_nil)) (by decide) (by decide) (hts (.classLink RL 17 "java/lang/UnsupportedOperationException") cwl500) (va_Nw.use rfl (hT.1 (Cond.castable "java/lang/UnsupportedOperationException" "java/lang/UnsupportedOperationException") (tf_cast (78, "java/lang/UnsupportedOperationException") (by decide +kernel)))) hcell hvm hcl ?_
      refine lv_astore (lv' := (4, .ref q9) :: [(0, .ref (sh.2 qx)), (1, .int a1), (2, .int a2), (3, .ref (sh.2 qo))]) hx hb dw_point_21 hl (by decide) rfl (fun ls hl => ?_)
      refine lv_iconst (v := 3) hx hb dw_point_23 (by decide) ?_
      exact W.widen (Nat.le_of_ble_eq_true rfl) (Nat.le_of_ble_eq_true rfl) (W.iret (v := 3) hx hb hr (fun t ht hW9 => ⟨⟨3, u, rfl, ⟨hpx9, g0, hku⟩, by rw [ht]; exact hP1, hD1⟩, hS1.F ht⟩) hS1.2.2 dw_point_24)
    rcases List.mem_cons.mp hx9 with hx8 | hx9
    · subst hx8
      refine vx_catch (E := "java/lang/IndexOutOfBoundsException") (name := "java/lang/IndexOutOfBoundsException") hown [] ⟨0, 10, 13, 23⟩ [⟨0, 10, 17, 15⟩, ⟨0, 10, 21, 17⟩, ⟨0, 10, 25, 54⟩] (htab.trans rfl) wr_nil (by decide) (by decide) (hts (.classLink RL 23 "java/lang/IndexOutOfBoundsException") cwl619) (va_Nw.use rfl (hT.1 (Cond.castable "java/lang/IndexOutOfBoundsException" "java/lang/IndexOutOfBoundsException") (tf_cast (539, "java/lang/IndexOutOfBoundsException") (by decide +kernel)))) hcell hvm hcl ?_
      refine lv_astore (lv' := (4, .ref q9) :: [(0, .ref (sh.2 qx)), (1, .int a1), (2, .int a2), (3, .ref (sh.2 qo))]) hx hb dw_point_13 hl (by decide) rfl (fun ls hl => ?_)
      refine lv_iconst (v := 1) hx hb dw_point_15 (by decide) ?_
      exact W.widen (Nat.le_of_ble_eq_true rfl) (Nat.le_of_ble_eq_true rfl) (W.iret (v := 1) hx hb hr (fun t ht hW9 => ⟨⟨1, u, rfl, ⟨hpx9, g0, hku⟩, by rw [ht]; exact hP1, hD1⟩, hS1.F ht⟩) hS1.2.2 dw_point_16)
    have hx8 := List.mem_singleton.mp hx9
    subst hx8
    refine vx_catch (E := "java/util/NoSuchElementException") (name := "java/util/NoSuchElementException") hown [⟨0, 10, 13, 23⟩, ⟨0, 10, 17, 15⟩, ⟨0, 10, 21, 17⟩] ⟨0, 10, 25, 54⟩ [] (htab.trans rfl) (wr_cons (Or.inr ⟨by decide, "java/lang/IndexOutOfBoundsException", (hts (.classLink RL 23 "java/lang/IndexOutOfBoundsException") cwl619), hT.2.2.2.2.1 _ (by decide +kernel) _ (by decide +kernel) (by decide)⟩) (wr_cons (Or.inr ⟨by decide, "java/lang/IllegalStateException", (hts (.classLink RL 15 "java/lang/IllegalStateException") cwl499), hT.2.2.2.2.1 _ (by decide +kernel) _ (by decide +kernel) (by decide)⟩) (wr_cons (Or.inr ⟨by decide, "java/lang/UnsupportedOperationException", (hts (.classLink RL 17 "java/lang/UnsupportedOperationException") cwl500), hT.2.2.2.2.1 _ (by decide +kernel) _ (by decide +kernel) (by decide)⟩) wr_nil))) (by decide) (by decide) (hts (.classLink RL 54 "java/util/NoSuchElementException") cwl765) (va_Nw.use rfl (hT.1 (Cond.castable "java/util/NoSuchElementException" "java/util/NoSuchElementException") (tf_cast (181, "java/util/NoSuchElementException") (by decide +kernel)))) hcell hvm hcl ?_
    refine lv_astore (lv' := (4, .ref q9) :: [(0, .ref (sh.2 qx)), (1, .int a1), (2, .int a2), (3, .ref (sh.2 qo))]) hx hb dw_point_25 hl (by decide) rfl (fun ls hl => ?_)
    refine lv_iconst (v := 4) hx hb dw_point_27 (by decide) ?_
    exact W.widen (Nat.le_of_ble_eq_true rfl) (Nat.le_of_ble_eq_true rfl) (W.iret (v := 4) hx hb hr (fun t ht hW9 => ⟨⟨4, u, rfl, ⟨hpx9, g0, hku⟩, by rw [ht]; exact hP1, hD1⟩, hS1.F ht⟩) hS1.2.2 dw_point_28)
  · obtain ⟨hpx, hpo9⟩ := hpo
    have hku := wr_keep hpx hqo (by decide +kernel) hwo
    obtain ⟨r9, rfl⟩ := hrv
    refine lv_i2l hx hb dw_point_8 rfl ?_
    refine va_last hx hb hK hP1 hD1 hS1 qo 7 hku hTt (vp_in_nI (n := 0) (by decide) (by decide)) dw_point_9 (fun H2 locs2 hP2 hD2 hS2 => ?_)
    obtain ⟨g9, hg9⟩ : ∃ g9, g9 = vp_updL g0 (0 : Int32).toNatClampNeg r9.toInt64 := ⟨_, rfl⟩
    rw [← hg9] at hP2 hD2
    refine lv_goto (tgt := 29) hx hb dw_point_10 (by decide) ?_
    refine lv_iconst (v := 0) hx hb dw_point_29 (by decide) ?_
    exact W.widen (Nat.le_of_ble_eq_true rfl) (Nat.le_of_ble_eq_true rfl) (W.iret (v := 0) hx hb hr (fun t ht hW9 => ⟨⟨0, (u.1, u.2.set qo (sh.2 qo, .inl (cO, 1, .inr (.inl g9)))), rfl, ⟨wr_set hpx hqo (by decide +kernel) (by decide +kernel) hwo ⟨rfl, rfl⟩, g9, wr_get hku⟩, by rw [ht]; exact hP2, hD2⟩, hS2.F ht⟩) hS2.2.2 dw_point_30)
theorem dw_post_0 : decode cL_post 0 = .ok (.aload 4, 2) := by decide +kernel
theorem dw_post_2 : decode cL_post 2 = .ok (.iconst 0, 1) := by decide +kernel
theorem dw_post_3 : decode cL_post 3 = .ok (.aload_n 0, 1) := by decide +kernel
theorem dw_post_4 : decode cL_post 4 = .ok (.iload_n 1, 1) := by decide +kernel
theorem dw_post_5 : decode cL_post 5 = .ok (.iload_n 2, 1) := by decide +kernel
theorem dw_post_6 : decode cL_post 6 = .ok (.iload_n 3, 1) := by decide +kernel
theorem dw_post_7 : decode cL_post 7 = .ok (.invokevirtual 179, 3) := by decide +kernel
theorem dw_post_10 : decode cL_post 10 = .ok (.i2l, 1) := by decide +kernel
theorem dw_post_11 : decode cL_post 11 = .ok (.lastore, 1) := by decide +kernel
theorem dw_post_12 : decode cL_post 12 = .ok (.goto 15, 3) := by decide +kernel
theorem dw_post_15 : decode cL_post 15 = .ok (.astore 5, 2) := by decide +kernel
theorem dw_post_17 : decode cL_post 17 = .ok (.iconst 1, 1) := by decide +kernel
theorem dw_post_18 : decode cL_post 18 = .ok (.ireturn, 1) := by decide +kernel
theorem dw_post_19 : decode cL_post 19 = .ok (.astore 5, 2) := by decide +kernel
theorem dw_post_21 : decode cL_post 21 = .ok (.iconst 2, 1) := by decide +kernel
theorem dw_post_22 : decode cL_post 22 = .ok (.ireturn, 1) := by decide +kernel
theorem dw_post_23 : decode cL_post 23 = .ok (.astore 5, 2) := by decide +kernel
theorem dw_post_25 : decode cL_post 25 = .ok (.iconst 3, 1) := by decide +kernel
theorem dw_post_26 : decode cL_post 26 = .ok (.ireturn, 1) := by decide +kernel
theorem dw_post_27 : decode cL_post 27 = .ok (.iconst 0, 1) := by decide +kernel
theorem dw_post_28 : decode cL_post 28 = .ok (.ireturn, 1) := by decide +kernel
theorem gw_X6_post : en_CV en_cw RL 179 yX6_post RX6 cX6_post 8 (some .int) 3 := en_gv cwl1315 cwl1316 cwl1317 cwl75 cwl1318 ⟨rfl, by decide, by decide, by decide +kernel⟩
set_option maxHeartbeats 4000000 in
set_option maxRecDepth 100000 in
theorem wr_post {l : Launch} (hl9 : l.stackTraces = false) {PP : Int32 → Int32 → Prop} (hPP : en_P0 PP) (Ω : Nat → en_H → va_W → Prop) (D : va_G) (tys : List (ClassId × FieldType)) (cO cD : ClassId) (sh : en_H) (w : va_W) (sz qx qo : Nat) (fx : List Value) (g0 : (Nat → Int64)) (a1 : Int32) (a2 : Int32) (a3 : Int32) (hTY : tys.map Prod.snd = en_TY0) (hW : en_W PP en_KT k_X6_post_0.2.2.2.2.1 sh tys (fun _ => False) w) (hD0 : va_D (va_A w sz) w) (hΩ : en_Om en_om0 sh Ω) (hqx : sh.1[qx]? = some 0) (hwx : w[qx]? = some (sh.2 qx, .inr (12, fx))) (hqo : sh.1[qo]? = some 56) (hwo : w[qo]? = some (sh.2 qo, .inl (cO, 1, .inr (.inl g0)))) :
    Met l yL_post (Cond.codeWith yL_post cL_post 6 (some .int) [(0, 12, 15, 23), (0, 12, 19, 13), (0, 12, 23, 17)] :: en_cw) (en_rm 5 (2, 12)) (va_Pc [.ref (sh.2 qx), .int a1, .int a2, .int a3, .ref (sh.2 qo)] (en_B D vwCl (tys ++ [(cO, .long), (cD, .double)]) w sz)) (va_Qi (fun _ u => (en_Px tys PP en_KT k_X6_post_0.2.2.2.2.1 ((56, 0) :: k_X6_post_0.2.2.2.1) sh w u ∧ ∃ g, u.2[qo]? = some (sh.2 qo, .inl (cO, 1, .inr (.inl g))))) (en_Bw D vwCl (va_A w sz)) (va_A w sz)) 2 12 (va_A w sz) := by
  refine va_MetW (cc := cL_post) (maxL := 6) (ret := some .int) (hh := [(0, 12, 15, 23), (0, 12, 19, 13), (0, 12, 23, 17)]) (by decide +kernel) rfl ?_
  intro p e s m args below meth c s₁ B hml hv
  obtain ⟨rfl, hsz, hP, hK, hT⟩ := hv
  subst hsz
  have hx := B.exec
  have hb := B.bytes
  have hr := B.returns
  have hts0 := atoms_spec (ws := Cond.codeWith yL_post cL_post 6 (some .int) [(0, 12, 15, 23), (0, 12, 19, 13), (0, 12, 23, 17)] :: en_cw) B.pre
  have hts : ∀ z ∈ en_cw, z.before _ s = true := fun z hz => hts0 z (List.mem_cons_of_mem _ hz)
  have hown : s.vm.findClass RL = some m.cls := findClass_of_methodNamed B.named
  have htab := vx_table (x := yL_post) B (hts0 _ List.mem_cons_self)
  have hA : ∀ q : Nat, s.heap.size ≤ q → va_A w s.heap.size q := fun q h => Or.inr h
  have hS : va_S (va_A w s.heap.size) s.heap s.heap [] := va_S.rf
  have hK0 : va_K D vwCl tys s := hK.pre
  have hTt : (tys ++ [(cO, .long), (cD, .double)])[7]? = some (cO, .long) := wr_ty hTY
  have hl := lv_entry ([.ref (sh.2 qx), .int a1, .int a2, .int a3, .ref (sh.2 qo)]) (n := 6) (Nat.le_of_ble_eq_true rfl)
  rw [lg_entry_eq]
  generalize (lg_sl ([.ref (sh.2 qx), .int a1, .int a2, .int a3, .ref (sh.2 qo)]) ++ List.replicate (6 - (lg_sl ([.ref (sh.2 qx), .int a1, .int a2, .int a3, .ref (sh.2 qo)])).length) Slot.unset).toArray = ls at hl ⊢
  have hl : lv_has ls 6 [(0, .ref (sh.2 qx)), (1, .int a1), (2, .int a2), (3, .int a3), (4, .ref (sh.2 qo))] := hl
  refine lv_aload hx hb dw_post_0 (lv_at hl 4 rfl) ?_
  refine lv_iconst (v := 0) hx hb dw_post_2 (by decide) ?_
  refine lv_aload_n hx hb dw_post_3 rfl (lv_at hl 0 rfl) ?_
  refine lv_iload_n hx hb dw_post_4 rfl (lv_at hl 1 rfl) ?_
  refine lv_iload_n hx hb dw_post_5 rfl (lv_at hl 2 rfl) ?_
  refine lv_iload_n hx hb dw_post_6 rfl (lv_at hl 3 rfl) ?_
  refine en_hcV (q0 := qx) (b := sh.2 qx) (fs := fx) (co := 12) (ρp := [.ref (sh.2 qx), .int a1, .int a2, .int a3]) (As := [.int a1, .int a2, .int a3]) (rest := [.int 0, .ref (sh.2 qo)]) (lv' := 4) (ct_X6_post_0 hl9 hPP Ω) gw_X6_post rfl rfl hwx rfl rfl (Nat.le_of_ble_eq_true rfl) ⟨Nat.le_of_ble_eq_true rfl, Nat.le_of_ble_eq_true rfl⟩ ⟨Nat.le_of_ble_eq_true rfl, Nat.le_of_ble_eq_true rfl⟩ (Nat.le_of_ble_eq_true rfl) hx hb (hml.trans hl.1.symm) hts hown hTY hK0 hT hP hD0 hS hA hW hΩ (wr_pa (env := k_X6_post_0.2.1.1) ⟨⟨qx, hqx, rfl⟩, ⟨a1, rfl, en_lo a1, en_hi a1⟩, ⟨a2, rfl, en_lo a2, en_hi a2⟩, ⟨a3, rfl, en_lo a3, en_hi a3⟩, trivial⟩) dw_post_7 (fun x9 hx9 ce q9 u H1 locs1 hpx hP1 hD1 hS1 hcell hvm hcl => ?_) (fun u res H1 locs1 hrv hpo hP1 hD1 hS1 => ?_)
  · have hku := wr_keep hpx hqo (by decide +kernel) hwo
    have hpx9 := wr_same hpx ((56, 0) :: k_X6_post_0.2.2.2.1) (fun z hz => List.mem_cons_of_mem _ hz)
    rcases List.mem_cons.mp hx9 with hx8 | hx9
    · subst hx8
      refine vx_catch (E := "java/lang/IllegalArgumentException") (name := "java/lang/IllegalArgumentException") hown [⟨0, 12, 15, 23⟩] ⟨0, 12, 19, 13⟩ [⟨0, 12, 23, 17⟩] (htab.trans rfl) (wr_cons (Or.inr ⟨by decide, "java/lang/IndexOutOfBoundsException", (hts (.classLink RL 23 "java/lang/IndexOutOfBoundsException") cwl619), hT.2.2.2.2.1 _ (by decide +kernel) _ (by decide +kernel) (by decide)⟩) wr_nil) (by decide) (by decide) (hts (.classLink RL 13 "java/lang/IllegalArgumentException") cwl498) (va_Nw.use rfl (hT.1 (Cond.castable "java/lang/IllegalArgumentException" "java/lang/IllegalArgumentException") (tf_cast (53, "java/lang/IllegalArgumentException") (by decide +kernel)))) hcell hvm hcl ?_
      refine lv_astore (lv' := (5, .ref q9) :: [(0, .ref (sh.2 qx)), (1, .int a1), (2, .int a2), (3, .int a3), (4, .ref (sh.2 qo))]) hx hb dw_post_19 hl (by decide) rfl (fun ls hl => ?_)
      refine lv_iconst (v := 2) hx hb dw_post_21 (by decide) ?_
      exact W.widen (Nat.le_of_ble_eq_true rfl) (Nat.le_of_ble_eq_true rfl) (W.iret (v := 2) hx hb hr (fun t ht hW9 => ⟨⟨2, u, rfl, ⟨hpx9, g0, hku⟩, by rw [ht]; exact hP1, hD1⟩, hS1.F ht⟩) hS1.2.2 dw_post_22)
    rcases List.mem_cons.mp hx9 with hx8 | hx9
    · subst hx8
      refine vx_catch (E := "java/lang/UnsupportedOperationException") (name := "java/lang/UnsupportedOperationException") hown [⟨0, 12, 15, 23⟩, ⟨0, 12, 19, 13⟩] ⟨0, 12, 23, 17⟩ [] (htab.trans rfl) (wr_cons (Or.inr ⟨by decide, "java/lang/IndexOutOfBoundsException", (hts (.classLink RL 23 "java/lang/IndexOutOfBoundsException") cwl619), hT.2.2.2.2.1 _ (by decide +kernel) _ (by decide +kernel) (by decide)⟩) (wr_cons (Or.inr ⟨by decide, "java/lang/IllegalArgumentException", (hts (.classLink RL 13 "java/lang/IllegalArgumentException") cwl498), hT.2.2.2.2.1 _ (by decide +kernel) _ (by decide +kernel) (by decide)⟩) wr_nil)) (by decide) (by decide) (hts (.classLink RL 17 "java/lang/UnsupportedOperationException") cwl500) (va_Nw.use rfl (hT.1 (Cond.castable "java/lang/UnsupportedOperationException" "java/lang/UnsupportedOperationException") (tf_cast (78, "java/lang/UnsupportedOperationException") (by decide +kernel)))) hcell hvm hcl ?_
      refine lv_astore (lv' := (5, .ref q9) :: [(0, .ref (sh.2 qx)), (1, .int a1), (2, .int a2), (3, .int a3), (4, .ref (sh.2 qo))]) hx hb dw_post_23 hl (by decide) rfl (fun ls hl => ?_)
      refine lv_iconst (v := 3) hx hb dw_post_25 (by decide) ?_
      exact W.widen (Nat.le_of_ble_eq_true rfl) (Nat.le_of_ble_eq_true rfl) (W.iret (v := 3) hx hb hr (fun t ht hW9 => ⟨⟨3, u, rfl, ⟨hpx9, g0, hku⟩, by rw [ht]; exact hP1, hD1⟩, hS1.F ht⟩) hS1.2.2 dw_post_26)
    have hx8 := List.mem_singleton.mp hx9
    subst hx8
    refine vx_catch (E := "java/lang/IndexOutOfBoundsException") (name := "java/lang/IndexOutOfBoundsException") hown [] ⟨0, 12, 15, 23⟩ [⟨0, 12, 19, 13⟩, ⟨0, 12, 23, 17⟩] (htab.trans rfl) wr_nil (by decide) (by decide) (hts (.classLink RL 23 "java/lang/IndexOutOfBoundsException") cwl619) (va_Nw.use rfl (hT.1 (Cond.castable "java/lang/IndexOutOfBoundsException" "java/lang/IndexOutOfBoundsException") (tf_cast (539, "java/lang/IndexOutOfBoundsException") (by decide +kernel)))) hcell hvm hcl ?_
    refine lv_astore (lv' := (5, .ref q9) :: [(0, .ref (sh.2 qx)), (1, .int a1), (2, .int a2), (3, .int a3), (4, .ref (sh.2 qo))]) hx hb dw_post_15 hl (by decide) rfl (fun ls hl => ?_)
    refine lv_iconst (v := 1) hx hb dw_post_17 (by decide) ?_
    exact W.widen (Nat.le_of_ble_eq_true rfl) (Nat.le_of_ble_eq_true rfl) (W.iret (v := 1) hx hb hr (fun t ht hW9 => ⟨⟨1, u, rfl, ⟨hpx9, g0, hku⟩, by rw [ht]; exact hP1, hD1⟩, hS1.F ht⟩) hS1.2.2 dw_post_18)
  · obtain ⟨hpx, hpo9⟩ := hpo
    have hku := wr_keep hpx hqo (by decide +kernel) hwo
    obtain ⟨r9, rfl⟩ := hrv
    refine lv_i2l hx hb dw_post_10 rfl ?_
    refine va_last hx hb hK hP1 hD1 hS1 qo 7 hku hTt (vp_in_nI (n := 0) (by decide) (by decide)) dw_post_11 (fun H2 locs2 hP2 hD2 hS2 => ?_)
    obtain ⟨g9, hg9⟩ : ∃ g9, g9 = vp_updL g0 (0 : Int32).toNatClampNeg r9.toInt64 := ⟨_, rfl⟩
    rw [← hg9] at hP2 hD2
    refine lv_goto (tgt := 27) hx hb dw_post_12 (by decide) ?_
    refine lv_iconst (v := 0) hx hb dw_post_27 (by decide) ?_
    exact W.widen (Nat.le_of_ble_eq_true rfl) (Nat.le_of_ble_eq_true rfl) (W.iret (v := 0) hx hb hr (fun t ht hW9 => ⟨⟨0, (u.1, u.2.set qo (sh.2 qo, .inl (cO, 1, .inr (.inl g9)))), rfl, ⟨wr_set hpx hqo (by decide +kernel) (by decide +kernel) hwo ⟨rfl, rfl⟩, g9, wr_get hku⟩, by rw [ht]; exact hP2, hD2⟩, hS2.F ht⟩) hS2.2.2 dw_post_28)
theorem dw_provisional_0 : decode cL_provisional 0 = .ok (.aload 4, 2) := by decide +kernel
theorem dw_provisional_2 : decode cL_provisional 2 = .ok (.iconst 0, 1) := by decide +kernel
theorem dw_provisional_3 : decode cL_provisional 3 = .ok (.aload_n 0, 1) := by decide +kernel
theorem dw_provisional_4 : decode cL_provisional 4 = .ok (.iload_n 1, 1) := by decide +kernel
theorem dw_provisional_5 : decode cL_provisional 5 = .ok (.iload_n 2, 1) := by decide +kernel
theorem dw_provisional_6 : decode cL_provisional 6 = .ok (.iload_n 3, 1) := by decide +kernel
theorem dw_provisional_7 : decode cL_provisional 7 = .ok (.invokevirtual 63, 3) := by decide +kernel
theorem dw_provisional_10 : decode cL_provisional 10 = .ok (.i2l, 1) := by decide +kernel
theorem dw_provisional_11 : decode cL_provisional 11 = .ok (.lastore, 1) := by decide +kernel
theorem dw_provisional_12 : decode cL_provisional 12 = .ok (.goto 15, 3) := by decide +kernel
theorem dw_provisional_15 : decode cL_provisional 15 = .ok (.astore 5, 2) := by decide +kernel
theorem dw_provisional_17 : decode cL_provisional 17 = .ok (.iconst 1, 1) := by decide +kernel
theorem dw_provisional_18 : decode cL_provisional 18 = .ok (.ireturn, 1) := by decide +kernel
theorem dw_provisional_19 : decode cL_provisional 19 = .ok (.astore 5, 2) := by decide +kernel
theorem dw_provisional_21 : decode cL_provisional 21 = .ok (.iconst 2, 1) := by decide +kernel
theorem dw_provisional_22 : decode cL_provisional 22 = .ok (.ireturn, 1) := by decide +kernel
theorem dw_provisional_23 : decode cL_provisional 23 = .ok (.astore 5, 2) := by decide +kernel
theorem dw_provisional_25 : decode cL_provisional 25 = .ok (.iconst 3, 1) := by decide +kernel
theorem dw_provisional_26 : decode cL_provisional 26 = .ok (.ireturn, 1) := by decide +kernel
theorem dw_provisional_27 : decode cL_provisional 27 = .ok (.iconst 0, 1) := by decide +kernel
theorem dw_provisional_28 : decode cL_provisional 28 = .ok (.ireturn, 1) := by decide +kernel
theorem gw_X6_provisional : en_CV en_cw RL 63 yX6_provisional RX6 cX6_provisional 8 (some .char) 3 := en_gv cwl887 cwl888 cwl889 cwl75 cwl890 ⟨rfl, by decide, by decide, by decide +kernel⟩
set_option maxHeartbeats 4000000 in
set_option maxRecDepth 100000 in
theorem wr_provisional {l : Launch} (hl9 : l.stackTraces = false) {PP : Int32 → Int32 → Prop} (hPP : en_P0 PP) (Ω : Nat → en_H → va_W → Prop) (D : va_G) (tys : List (ClassId × FieldType)) (cO cD : ClassId) (sh : en_H) (w : va_W) (sz qx qo : Nat) (fx : List Value) (g0 : (Nat → Int64)) (a1 : Int32) (a2 : Int32) (a3 : Int32) (hTY : tys.map Prod.snd = en_TY0) (hW : en_W PP en_KT k_X6_provisional_0.2.2.2.2.1 sh tys (fun _ => False) w) (hD0 : va_D (va_A w sz) w) (hΩ : en_Om en_om0 sh Ω) (hqx : sh.1[qx]? = some 0) (hwx : w[qx]? = some (sh.2 qx, .inr (12, fx))) (hqo : sh.1[qo]? = some 56) (hwo : w[qo]? = some (sh.2 qo, .inl (cO, 1, .inr (.inl g0)))) :
    Met l yL_provisional (Cond.codeWith yL_provisional cL_provisional 6 (some .int) [(0, 12, 15, 23), (0, 12, 19, 15), (0, 12, 23, 17)] :: en_cw) (en_rm 4 (4, 24)) (va_Pc [.ref (sh.2 qx), .int a1, .int a2, .int a3, .ref (sh.2 qo)] (en_B D vwCl (tys ++ [(cO, .long), (cD, .double)]) w sz)) (va_Qi (fun _ u => (en_Px tys PP en_KT k_X6_provisional_0.2.2.2.2.1 ((56, 0) :: k_X6_provisional_0.2.2.2.1) sh w u ∧ ∃ g, u.2[qo]? = some (sh.2 qo, .inl (cO, 1, .inr (.inl g))))) (en_Bw D vwCl (va_A w sz)) (va_A w sz)) 4 24 (va_A w sz) := by
  refine va_MetW (cc := cL_provisional) (maxL := 6) (ret := some .int) (hh := [(0, 12, 15, 23), (0, 12, 19, 15), (0, 12, 23, 17)]) (by decide +kernel) rfl ?_
  intro p e s m args below meth c s₁ B hml hv
  obtain ⟨rfl, hsz, hP, hK, hT⟩ := hv
  subst hsz
  have hx := B.exec
  have hb := B.bytes
  have hr := B.returns
  have hts0 := atoms_spec (ws := Cond.codeWith yL_provisional cL_provisional 6 (some .int) [(0, 12, 15, 23), (0, 12, 19, 15), (0, 12, 23, 17)] :: en_cw) B.pre
  have hts : ∀ z ∈ en_cw, z.before _ s = true := fun z hz => hts0 z (List.mem_cons_of_mem _ hz)
  have hown : s.vm.findClass RL = some m.cls := findClass_of_methodNamed B.named
  have htab := vx_table (x := yL_provisional) B (hts0 _ List.mem_cons_self)
  have hA : ∀ q : Nat, s.heap.size ≤ q → va_A w s.heap.size q := fun q h => Or.inr h
  have hS : va_S (va_A w s.heap.size) s.heap s.heap [] := va_S.rf
  have hK0 : va_K D vwCl tys s := hK.pre
  have hTt : (tys ++ [(cO, .long), (cD, .double)])[7]? = some (cO, .long) := wr_ty hTY
  have hl := lv_entry ([.ref (sh.2 qx), .int a1, .int a2, .int a3, .ref (sh.2 qo)]) (n := 6) (Nat.le_of_ble_eq_true rfl)
  rw [lg_entry_eq]
  generalize (lg_sl ([.ref (sh.2 qx), .int a1, .int a2, .int a3, .ref (sh.2 qo)]) ++ List.replicate (6 - (lg_sl ([.ref (sh.2 qx), .int a1, .int a2, .int a3, .ref (sh.2 qo)])).length) Slot.unset).toArray = ls at hl ⊢
  have hl : lv_has ls 6 [(0, .ref (sh.2 qx)), (1, .int a1), (2, .int a2), (3, .int a3), (4, .ref (sh.2 qo))] := hl
  refine lv_aload hx hb dw_provisional_0 (lv_at hl 4 rfl) ?_
  refine lv_iconst (v := 0) hx hb dw_provisional_2 (by decide) ?_
  refine lv_aload_n hx hb dw_provisional_3 rfl (lv_at hl 0 rfl) ?_
  refine lv_iload_n hx hb dw_provisional_4 rfl (lv_at hl 1 rfl) ?_
  refine lv_iload_n hx hb dw_provisional_5 rfl (lv_at hl 2 rfl) ?_
  refine lv_iload_n hx hb dw_provisional_6 rfl (lv_at hl 3 rfl) ?_
  refine en_hcV (q0 := qx) (b := sh.2 qx) (fs := fx) (co := 12) (ρp := [.ref (sh.2 qx), .int a1, .int a2, .int a3]) (As := [.int a1, .int a2, .int a3]) (rest := [.int 0, .ref (sh.2 qo)]) (lv' := 3) (ct_X6_provisional_0 hl9 hPP Ω) gw_X6_provisional rfl rfl hwx rfl rfl (Nat.le_of_ble_eq_true rfl) ⟨Nat.le_of_ble_eq_true rfl, Nat.le_of_ble_eq_true rfl⟩ ⟨Nat.le_of_ble_eq_true rfl, Nat.le_of_ble_eq_true rfl⟩ (Nat.le_of_ble_eq_true rfl) hx hb (hml.trans hl.1.symm) hts hown hTY hK0 hT hP hD0 hS hA hW hΩ (wr_pa (env := k_X6_provisional_0.2.1.1) ⟨⟨qx, hqx, rfl⟩, ⟨a1, rfl, en_lo a1, en_hi a1⟩, ⟨a2, rfl, en_lo a2, en_hi a2⟩, ⟨a3, rfl, en_lo a3, en_hi a3⟩, trivial⟩) dw_provisional_7 (fun x9 hx9 ce q9 u H1 locs1 hpx hP1 hD1 hS1 hcell hvm hcl => ?_) (fun u res H1 locs1 hrv hpo hP1 hD1 hS1 => ?_)
  · have hku := wr_keep hpx hqo (by decide +kernel) hwo
    have hpx9 := wr_same hpx ((56, 0) :: k_X6_provisional_0.2.2.2.1) (fun z hz => List.mem_cons_of_mem _ hz)
    rcases List.mem_cons.mp hx9 with hx8 | hx9
    · subst hx8
      refine vx_catch (E := "java/lang/IllegalStateException") (name := "java/lang/IllegalStateException") hown [⟨0, 12, 15, 23⟩] ⟨0, 12, 19, 15⟩ [⟨0, 12, 23, 17⟩] (htab.trans rfl) (wr_cons (Or.inr ⟨by decide, "java/lang/IndexOutOfBoundsException", (hts (.classLink RL 23 "java/lang/IndexOutOfBoundsException") cwl619), hT.2.2.2.2.1 _ (by decide +kernel) _ (by decide +kernel) (by decide)⟩) wr_nil) (by decide) (by decide) (hts (.classLink RL 15 "java/lang/IllegalStateException") cwl499) (va_Nw.use rfl (hT.1 (Cond.castable "java/lang/IllegalStateException" "java/lang/IllegalStateException") (tf_cast (69, "java/lang/IllegalStateException") (by decide +kernel)))) hcell hvm hcl ?_
      refine lv_astore (lv' := (5, .ref q9) :: [(0, .ref (sh.2 qx)), (1, .int a1), (2, .int a2), (3, .int a3), (4, .ref (sh.2 qo))]) hx hb dw_provisional_19 hl (by decide) rfl (fun ls hl => ?_)
      refine lv_iconst (v := 2) hx hb dw_provisional_21 (by decide) ?_
      exact W.widen (Nat.le_of_ble_eq_true rfl) (Nat.le_of_ble_eq_true rfl) (W.iret (v := 2) hx hb hr (fun t ht hW9 => ⟨⟨2, u, rfl, ⟨hpx9, g0, hku⟩, by rw [ht]; exact hP1, hD1⟩, hS1.F ht⟩) hS1.2.2 dw_provisional_22)
    rcases List.mem_cons.mp hx9 with hx8 | hx9
    · subst hx8
      refine vx_catch (E := "java/lang/UnsupportedOperationException") (name := "java/lang/UnsupportedOperationException") hown [⟨0, 12, 15, 23⟩, ⟨0, 12, 19, 15⟩] ⟨0, 12, 23, 17⟩ [] (htab.trans rfl) (wr_cons (Or.inr ⟨by decide, "java/lang/IndexOutOfBoundsException", (hts (.classLink RL 23 "java/lang/IndexOutOfBoundsException") cwl619), hT.2.2.2.2.1 _ (by decide +kernel) _ (by decide +kernel) (by decide)⟩) (wr_cons (Or.inr ⟨by decide, "java/lang/IllegalStateException", (hts (.classLink RL 15 "java/lang/IllegalStateException") cwl499), hT.2.2.2.2.1 _ (by decide +kernel) _ (by decide +kernel) (by decide)⟩) wr_nil)) (by decide) (by decide) (hts (.classLink RL 17 "java/lang/UnsupportedOperationException") cwl500) (va_Nw.use rfl (hT.1 (Cond.castable "java/lang/UnsupportedOperationException" "java/lang/UnsupportedOperationException") (tf_cast (78, "java/lang/UnsupportedOperationException") (by decide +kernel)))) hcell hvm hcl ?_
      refine lv_astore (lv' := (5, .ref q9) :: [(0, .ref (sh.2 qx)), (1, .int a1), (2, .int a2), (3, .int a3), (4, .ref (sh.2 qo))]) hx hb dw_provisional_23 hl (by decide) rfl (fun ls hl => ?_)
      refine lv_iconst (v := 3) hx hb dw_provisional_25 (by decide) ?_
      exact W.widen (Nat.le_of_ble_eq_true rfl) (Nat.le_of_ble_eq_true rfl) (W.iret (v := 3) hx hb hr (fun t ht hW9 => ⟨⟨3, u, rfl, ⟨hpx9, g0, hku⟩, by rw [ht]; exact hP1, hD1⟩, hS1.F ht⟩) hS1.2.2 dw_provisional_26)
    have hx8 := List.mem_singleton.mp hx9
    subst hx8
    refine vx_catch (E := "java/lang/IndexOutOfBoundsException") (name := "java/lang/IndexOutOfBoundsException") hown [] ⟨0, 12, 15, 23⟩ [⟨0, 12, 19, 15⟩, ⟨0, 12, 23, 17⟩] (htab.trans rfl) wr_nil (by decide) (by decide) (hts (.classLink RL 23 "java/lang/IndexOutOfBoundsException") cwl619) (va_Nw.use rfl (hT.1 (Cond.castable "java/lang/IndexOutOfBoundsException" "java/lang/IndexOutOfBoundsException") (tf_cast (539, "java/lang/IndexOutOfBoundsException") (by decide +kernel)))) hcell hvm hcl ?_
    refine lv_astore (lv' := (5, .ref q9) :: [(0, .ref (sh.2 qx)), (1, .int a1), (2, .int a2), (3, .int a3), (4, .ref (sh.2 qo))]) hx hb dw_provisional_15 hl (by decide) rfl (fun ls hl => ?_)
    refine lv_iconst (v := 1) hx hb dw_provisional_17 (by decide) ?_
    exact W.widen (Nat.le_of_ble_eq_true rfl) (Nat.le_of_ble_eq_true rfl) (W.iret (v := 1) hx hb hr (fun t ht hW9 => ⟨⟨1, u, rfl, ⟨hpx9, g0, hku⟩, by rw [ht]; exact hP1, hD1⟩, hS1.F ht⟩) hS1.2.2 dw_provisional_18)
  · obtain ⟨hpx, hpo9⟩ := hpo
    have hku := wr_keep hpx hqo (by decide +kernel) hwo
    obtain ⟨r9, rfl⟩ := hrv
    refine lv_i2l hx hb dw_provisional_10 rfl ?_
    refine va_last hx hb hK hP1 hD1 hS1 qo 7 hku hTt (vp_in_nI (n := 0) (by decide) (by decide)) dw_provisional_11 (fun H2 locs2 hP2 hD2 hS2 => ?_)
    obtain ⟨g9, hg9⟩ : ∃ g9, g9 = vp_updL g0 (0 : Int32).toNatClampNeg r9.toInt64 := ⟨_, rfl⟩
    rw [← hg9] at hP2 hD2
    refine lv_goto (tgt := 27) hx hb dw_provisional_12 (by decide) ?_
    refine lv_iconst (v := 0) hx hb dw_provisional_27 (by decide) ?_
    exact W.widen (Nat.le_of_ble_eq_true rfl) (Nat.le_of_ble_eq_true rfl) (W.iret (v := 0) hx hb hr (fun t ht hW9 => ⟨⟨0, (u.1, u.2.set qo (sh.2 qo, .inl (cO, 1, .inr (.inl g9)))), rfl, ⟨wr_set hpx hqo (by decide +kernel) (by decide +kernel) hwo ⟨rfl, rfl⟩, g9, wr_get hku⟩, by rw [ht]; exact hP2, hD2⟩, hS2.F ht⟩) hS2.2.2 dw_provisional_28)
theorem dw_rank_0 : decode cL_rank 0 = .ok (.aload_n 2, 1) := by decide +kernel
theorem dw_rank_1 : decode cL_rank 1 = .ok (.iconst 0, 1) := by decide +kernel
theorem dw_rank_2 : decode cL_rank 2 = .ok (.aload_n 0, 1) := by decide +kernel
theorem dw_rank_3 : decode cL_rank 3 = .ok (.iload_n 1, 1) := by decide +kernel
theorem dw_rank_4 : decode cL_rank 4 = .ok (.invokevirtual 166, 3) := by decide +kernel
theorem dw_rank_7 : decode cL_rank 7 = .ok (.i2l, 1) := by decide +kernel
theorem dw_rank_8 : decode cL_rank 8 = .ok (.lastore, 1) := by decide +kernel
theorem dw_rank_9 : decode cL_rank 9 = .ok (.goto 9, 3) := by decide +kernel
theorem dw_rank_12 : decode cL_rank 12 = .ok (.astore_n 3, 1) := by decide +kernel
theorem dw_rank_13 : decode cL_rank 13 = .ok (.iconst 1, 1) := by decide +kernel
theorem dw_rank_14 : decode cL_rank 14 = .ok (.ireturn, 1) := by decide +kernel
theorem dw_rank_15 : decode cL_rank 15 = .ok (.astore_n 3, 1) := by decide +kernel
theorem dw_rank_16 : decode cL_rank 16 = .ok (.iconst 2, 1) := by decide +kernel
theorem dw_rank_17 : decode cL_rank 17 = .ok (.ireturn, 1) := by decide +kernel
theorem dw_rank_18 : decode cL_rank 18 = .ok (.iconst 0, 1) := by decide +kernel
theorem dw_rank_19 : decode cL_rank 19 = .ok (.ireturn, 1) := by decide +kernel
theorem gw_X6_rank : en_CV en_cw RL 166 yX6_rank RX6 cX6_rank 2 (some .int) 1 := en_gv cwl1268 cwl1269 cwl1270 cwl75 cwl1271 ⟨rfl, by decide, by decide, by decide +kernel⟩
set_option maxHeartbeats 4000000 in
set_option maxRecDepth 100000 in
theorem wr_rank {l : Launch} (hl9 : l.stackTraces = false) {PP : Int32 → Int32 → Prop} (hPP : en_P0 PP) (Ω : Nat → en_H → va_W → Prop) (D : va_G) (tys : List (ClassId × FieldType)) (cO cD : ClassId) (sh : en_H) (w : va_W) (sz qx qo : Nat) (fx : List Value) (g0 : (Nat → Int64)) (a1 : Int32) (hTY : tys.map Prod.snd = en_TY0) (hW : en_W PP en_KT k_X6_rank_0.2.2.2.2.1 sh tys (fun _ => False) w) (hD0 : va_D (va_A w sz) w) (hΩ : en_Om en_om0 sh Ω) (hqx : sh.1[qx]? = some 0) (hwx : w[qx]? = some (sh.2 qx, .inr (12, fx))) (hqo : sh.1[qo]? = some 56) (hwo : w[qo]? = some (sh.2 qo, .inl (cO, 1, .inr (.inl g0)))) :
    Met l yL_rank (Cond.codeWith yL_rank cL_rank 4 (some .int) [(0, 9, 12, 23), (0, 9, 15, 54)] :: en_cw) (en_rm 5 (2, 12)) (va_Pc [.ref (sh.2 qx), .int a1, .ref (sh.2 qo)] (en_B D vwCl (tys ++ [(cO, .long), (cD, .double)]) w sz)) (va_Qi (fun _ u => (en_Px tys PP en_KT k_X6_rank_0.2.2.2.2.1 ((56, 0) :: k_X6_rank_0.2.2.2.1) sh w u ∧ ∃ g, u.2[qo]? = some (sh.2 qo, .inl (cO, 1, .inr (.inl g))))) (en_Bw D vwCl (va_A w sz)) (va_A w sz)) 2 12 (va_A w sz) := by
  refine va_MetW (cc := cL_rank) (maxL := 4) (ret := some .int) (hh := [(0, 9, 12, 23), (0, 9, 15, 54)]) (by decide +kernel) rfl ?_
  intro p e s m args below meth c s₁ B hml hv
  obtain ⟨rfl, hsz, hP, hK, hT⟩ := hv
  subst hsz
  have hx := B.exec
  have hb := B.bytes
  have hr := B.returns
  have hts0 := atoms_spec (ws := Cond.codeWith yL_rank cL_rank 4 (some .int) [(0, 9, 12, 23), (0, 9, 15, 54)] :: en_cw) B.pre
  have hts : ∀ z ∈ en_cw, z.before _ s = true := fun z hz => hts0 z (List.mem_cons_of_mem _ hz)
  have hown : s.vm.findClass RL = some m.cls := findClass_of_methodNamed B.named
  have htab := vx_table (x := yL_rank) B (hts0 _ List.mem_cons_self)
  have hA : ∀ q : Nat, s.heap.size ≤ q → va_A w s.heap.size q := fun q h => Or.inr h
  have hS : va_S (va_A w s.heap.size) s.heap s.heap [] := va_S.rf
  have hK0 : va_K D vwCl tys s := hK.pre
  have hTt : (tys ++ [(cO, .long), (cD, .double)])[7]? = some (cO, .long) := wr_ty hTY
  have hl := lv_entry ([.ref (sh.2 qx), .int a1, .ref (sh.2 qo)]) (n := 4) (Nat.le_of_ble_eq_true rfl)
  rw [lg_entry_eq]
  generalize (lg_sl ([.ref (sh.2 qx), .int a1, .ref (sh.2 qo)]) ++ List.replicate (4 - (lg_sl ([.ref (sh.2 qx), .int a1, .ref (sh.2 qo)])).length) Slot.unset).toArray = ls at hl ⊢
  have hl : lv_has ls 4 [(0, .ref (sh.2 qx)), (1, .int a1), (2, .ref (sh.2 qo))] := hl
  refine lv_aload_n hx hb dw_rank_0 rfl (lv_at hl 2 rfl) ?_
  refine lv_iconst (v := 0) hx hb dw_rank_1 (by decide) ?_
  refine lv_aload_n hx hb dw_rank_2 rfl (lv_at hl 0 rfl) ?_
  refine lv_iload_n hx hb dw_rank_3 rfl (lv_at hl 1 rfl) ?_
  refine en_hcV (q0 := qx) (b := sh.2 qx) (fs := fx) (co := 12) (ρp := [.ref (sh.2 qx), .int a1]) (As := [.int a1]) (rest := [.int 0, .ref (sh.2 qo)]) (lv' := 4) (ct_X6_rank_0 hl9 hPP Ω) gw_X6_rank rfl rfl hwx rfl rfl (Nat.le_of_ble_eq_true rfl) ⟨Nat.le_of_ble_eq_true rfl, Nat.le_of_ble_eq_true rfl⟩ ⟨Nat.le_of_ble_eq_true rfl, Nat.le_of_ble_eq_true rfl⟩ (Nat.le_of_ble_eq_true rfl) hx hb (hml.trans hl.1.symm) hts hown hTY hK0 hT hP hD0 hS hA hW hΩ (wr_pa (env := k_X6_rank_0.2.1.1) ⟨⟨qx, hqx, rfl⟩, ⟨a1, rfl, en_lo a1, en_hi a1⟩, trivial⟩) dw_rank_4 (fun x9 hx9 ce q9 u H1 locs1 hpx hP1 hD1 hS1 hcell hvm hcl => ?_) (fun u res H1 locs1 hrv hpo hP1 hD1 hS1 => ?_)
  · have hku := wr_keep hpx hqo (by decide +kernel) hwo
    have hpx9 := wr_same hpx ((56, 0) :: k_X6_rank_0.2.2.2.1) (fun z hz => List.mem_cons_of_mem _ hz)
    rcases List.mem_cons.mp hx9 with hx8 | hx9
    · subst hx8
      refine vx_catch (E := "java/lang/IndexOutOfBoundsException") (name := "java/lang/IndexOutOfBoundsException") hown [] ⟨0, 9, 12, 23⟩ [⟨0, 9, 15, 54⟩] (htab.trans rfl) wr_nil (by decide) (by decide) (hts (.classLink RL 23 "java/lang/IndexOutOfBoundsException") cwl619) (va_Nw.use rfl (hT.1 (Cond.castable "java/lang/IndexOutOfBoundsException" "java/lang/IndexOutOfBoundsException") (tf_cast (539, "java/lang/IndexOutOfBoundsException") (by decide +kernel)))) hcell hvm hcl ?_
      refine lv_astore_n (lv' := (3, .ref q9) :: [(0, .ref (sh.2 qx)), (1, .int a1), (2, .ref (sh.2 qo))]) hx hb dw_rank_12 rfl hl (by decide) rfl (fun ls hl => ?_)
      refine lv_iconst (v := 1) hx hb dw_rank_13 (by decide) ?_
      exact W.widen (Nat.le_of_ble_eq_true rfl) (Nat.le_of_ble_eq_true rfl) (W.iret (v := 1) hx hb hr (fun t ht hW9 => ⟨⟨1, u, rfl, ⟨hpx9, g0, hku⟩, by rw [ht]; exact hP1, hD1⟩, hS1.F ht⟩) hS1.2.2 dw_rank_14)
    have hx8 := List.mem_singleton.mp hx9
    subst hx8
    refine vx_catch (E := "java/util/NoSuchElementException") (name := "java/util/NoSuchElementException") hown [⟨0, 9, 12, 23⟩] ⟨0, 9, 15, 54⟩ [] (htab.trans rfl) (wr_cons (Or.inr ⟨by decide, "java/lang/IndexOutOfBoundsException", (hts (.classLink RL 23 "java/lang/IndexOutOfBoundsException") cwl619), hT.2.2.2.2.1 _ (by decide +kernel) _ (by decide +kernel) (by decide)⟩) wr_nil) (by decide) (by decide) (hts (.classLink RL 54 "java/util/NoSuchElementException") cwl765) (va_Nw.use rfl (hT.1 (Cond.castable "java/util/NoSuchElementException" "java/util/NoSuchElementException") (tf_cast (181, "java/util/NoSuchElementException") (by decide +kernel)))) hcell hvm hcl ?_
    refine lv_astore_n (lv' := (3, .ref q9) :: [(0, .ref (sh.2 qx)), (1, .int a1), (2, .ref (sh.2 qo))]) hx hb dw_rank_15 rfl hl (by decide) rfl (fun ls hl => ?_)
    refine lv_iconst (v := 2) hx hb dw_rank_16 (by decide) ?_
    exact W.widen (Nat.le_of_ble_eq_true rfl) (Nat.le_of_ble_eq_true rfl) (W.iret (v := 2) hx hb hr (fun t ht hW9 => ⟨⟨2, u, rfl, ⟨hpx9, g0, hku⟩, by rw [ht]; exact hP1, hD1⟩, hS1.F ht⟩) hS1.2.2 dw_rank_17)
  · obtain ⟨hpx, hpo9⟩ := hpo
    have hku := wr_keep hpx hqo (by decide +kernel) hwo
    obtain ⟨r9, rfl⟩ := hrv
    refine lv_i2l hx hb dw_rank_7 rfl ?_
    refine va_last hx hb hK hP1 hD1 hS1 qo 7 hku hTt (vp_in_nI (n := 0) (by decide) (by decide)) dw_rank_8 (fun H2 locs2 hP2 hD2 hS2 => ?_)
    obtain ⟨g9, hg9⟩ : ∃ g9, g9 = vp_updL g0 (0 : Int32).toNatClampNeg r9.toInt64 := ⟨_, rfl⟩
    rw [← hg9] at hP2 hD2
    refine lv_goto (tgt := 18) hx hb dw_rank_9 (by decide) ?_
    refine lv_iconst (v := 0) hx hb dw_rank_18 (by decide) ?_
    exact W.widen (Nat.le_of_ble_eq_true rfl) (Nat.le_of_ble_eq_true rfl) (W.iret (v := 0) hx hb hr (fun t ht hW9 => ⟨⟨0, (u.1, u.2.set qo (sh.2 qo, .inl (cO, 1, .inr (.inl g9)))), rfl, ⟨wr_set hpx hqo (by decide +kernel) (by decide +kernel) hwo ⟨rfl, rfl⟩, g9, wr_get hku⟩, by rw [ht]; exact hP2, hD2⟩, hS2.F ht⟩) hS2.2.2 dw_rank_19)
theorem dw_score_0 : decode cL_score 0 = .ok (.aload_n 3, 1) := by decide +kernel
theorem dw_score_1 : decode cL_score 1 = .ok (.iconst 0, 1) := by decide +kernel
theorem dw_score_2 : decode cL_score 2 = .ok (.aload_n 0, 1) := by decide +kernel
theorem dw_score_3 : decode cL_score 3 = .ok (.iload_n 1, 1) := by decide +kernel
theorem dw_score_4 : decode cL_score 4 = .ok (.iload_n 2, 1) := by decide +kernel
theorem dw_score_5 : decode cL_score 5 = .ok (.invokevirtual 135, 3) := by decide +kernel
theorem dw_score_8 : decode cL_score 8 = .ok (.i2l, 1) := by decide +kernel
theorem dw_score_9 : decode cL_score 9 = .ok (.lastore, 1) := by decide +kernel
theorem dw_score_10 : decode cL_score 10 = .ok (.goto 11, 3) := by decide +kernel
theorem dw_score_13 : decode cL_score 13 = .ok (.astore 4, 2) := by decide +kernel
theorem dw_score_15 : decode cL_score 15 = .ok (.iconst 1, 1) := by decide +kernel
theorem dw_score_16 : decode cL_score 16 = .ok (.ireturn, 1) := by decide +kernel
theorem dw_score_17 : decode cL_score 17 = .ok (.astore 4, 2) := by decide +kernel
theorem dw_score_19 : decode cL_score 19 = .ok (.iconst 2, 1) := by decide +kernel
theorem dw_score_20 : decode cL_score 20 = .ok (.ireturn, 1) := by decide +kernel
theorem dw_score_21 : decode cL_score 21 = .ok (.iconst 0, 1) := by decide +kernel
theorem dw_score_22 : decode cL_score 22 = .ok (.ireturn, 1) := by decide +kernel
theorem gw_X6_score : en_CV en_cw RL 135 yX6_score RX6 cX6_score 4 (some .int) 2 := en_gv cwl1155 cwl1156 cwl1157 cwl75 cwl1158 ⟨rfl, by decide, by decide, by decide +kernel⟩
set_option maxHeartbeats 4000000 in
set_option maxRecDepth 100000 in
theorem wr_score {l : Launch} (hl9 : l.stackTraces = false) {PP : Int32 → Int32 → Prop} (hPP : en_P0 PP) (Ω : Nat → en_H → va_W → Prop) (D : va_G) (tys : List (ClassId × FieldType)) (cO cD : ClassId) (sh : en_H) (w : va_W) (sz qx qo : Nat) (fx : List Value) (g0 : (Nat → Int64)) (a1 : Int32) (a2 : Int32) (hTY : tys.map Prod.snd = en_TY0) (hW : en_W PP en_KT k_X6_score_0.2.2.2.2.1 sh tys (fun _ => False) w) (hD0 : va_D (va_A w sz) w) (hΩ : en_Om en_om0 sh Ω) (hqx : sh.1[qx]? = some 0) (hwx : w[qx]? = some (sh.2 qx, .inr (12, fx))) (hqo : sh.1[qo]? = some 56) (hwo : w[qo]? = some (sh.2 qo, .inl (cO, 1, .inr (.inl g0)))) :
    Met l yL_score (Cond.codeWith yL_score cL_score 5 (some .int) [(0, 10, 13, 23), (0, 10, 17, 54)] :: en_cw) (en_rm 2 (3, 18)) (va_Pc [.ref (sh.2 qx), .int a1, .int a2, .ref (sh.2 qo)] (en_B D vwCl (tys ++ [(cO, .long), (cD, .double)]) w sz)) (va_Qi (fun _ u => (en_Px tys PP en_KT k_X6_score_0.2.2.2.2.1 ((56, 0) :: k_X6_score_0.2.2.2.1) sh w u ∧ ∃ g, u.2[qo]? = some (sh.2 qo, .inl (cO, 1, .inr (.inl g))))) (en_Bw D vwCl (va_A w sz)) (va_A w sz)) 3 18 (va_A w sz) := by
  refine va_MetW (cc := cL_score) (maxL := 5) (ret := some .int) (hh := [(0, 10, 13, 23), (0, 10, 17, 54)]) (by decide +kernel) rfl ?_
  intro p e s m args below meth c s₁ B hml hv
  obtain ⟨rfl, hsz, hP, hK, hT⟩ := hv
  subst hsz
  have hx := B.exec
  have hb := B.bytes
  have hr := B.returns
  have hts0 := atoms_spec (ws := Cond.codeWith yL_score cL_score 5 (some .int) [(0, 10, 13, 23), (0, 10, 17, 54)] :: en_cw) B.pre
  have hts : ∀ z ∈ en_cw, z.before _ s = true := fun z hz => hts0 z (List.mem_cons_of_mem _ hz)
  have hown : s.vm.findClass RL = some m.cls := findClass_of_methodNamed B.named
  have htab := vx_table (x := yL_score) B (hts0 _ List.mem_cons_self)
  have hA : ∀ q : Nat, s.heap.size ≤ q → va_A w s.heap.size q := fun q h => Or.inr h
  have hS : va_S (va_A w s.heap.size) s.heap s.heap [] := va_S.rf
  have hK0 : va_K D vwCl tys s := hK.pre
  have hTt : (tys ++ [(cO, .long), (cD, .double)])[7]? = some (cO, .long) := wr_ty hTY
  have hl := lv_entry ([.ref (sh.2 qx), .int a1, .int a2, .ref (sh.2 qo)]) (n := 5) (Nat.le_of_ble_eq_true rfl)
  rw [lg_entry_eq]
  generalize (lg_sl ([.ref (sh.2 qx), .int a1, .int a2, .ref (sh.2 qo)]) ++ List.replicate (5 - (lg_sl ([.ref (sh.2 qx), .int a1, .int a2, .ref (sh.2 qo)])).length) Slot.unset).toArray = ls at hl ⊢
  have hl : lv_has ls 5 [(0, .ref (sh.2 qx)), (1, .int a1), (2, .int a2), (3, .ref (sh.2 qo))] := hl
  refine lv_aload_n hx hb dw_score_0 rfl (lv_at hl 3 rfl) ?_
  refine lv_iconst (v := 0) hx hb dw_score_1 (by decide) ?_
  refine lv_aload_n hx hb dw_score_2 rfl (lv_at hl 0 rfl) ?_
  refine lv_iload_n hx hb dw_score_3 rfl (lv_at hl 1 rfl) ?_
  refine lv_iload_n hx hb dw_score_4 rfl (lv_at hl 2 rfl) ?_
  refine en_hcV (q0 := qx) (b := sh.2 qx) (fs := fx) (co := 12) (ρp := [.ref (sh.2 qx), .int a1, .int a2]) (As := [.int a1, .int a2]) (rest := [.int 0, .ref (sh.2 qo)]) (lv' := 1) (ct_X6_score_0 hl9 hPP Ω) gw_X6_score rfl rfl hwx rfl rfl (Nat.le_of_ble_eq_true rfl) ⟨Nat.le_of_ble_eq_true rfl, Nat.le_of_ble_eq_true rfl⟩ ⟨Nat.le_of_ble_eq_true rfl, Nat.le_of_ble_eq_true rfl⟩ (Nat.le_of_ble_eq_true rfl) hx hb (hml.trans hl.1.symm) hts hown hTY hK0 hT hP hD0 hS hA hW hΩ (wr_pa (env := k_X6_score_0.2.1.1) ⟨⟨qx, hqx, rfl⟩, ⟨a1, rfl, en_lo a1, en_hi a1⟩, ⟨a2, rfl, en_lo a2, en_hi a2⟩, trivial⟩) dw_score_5 (fun x9 hx9 ce q9 u H1 locs1 hpx hP1 hD1 hS1 hcell hvm hcl => ?_) (fun u res H1 locs1 hrv hpo hP1 hD1 hS1 => ?_)
  · have hku := wr_keep hpx hqo (by decide +kernel) hwo
    have hpx9 := wr_same hpx ((56, 0) :: k_X6_score_0.2.2.2.1) (fun z hz => List.mem_cons_of_mem _ hz)
    rcases List.mem_cons.mp hx9 with hx8 | hx9
    · subst hx8
      refine vx_catch (E := "java/lang/IndexOutOfBoundsException") (name := "java/lang/IndexOutOfBoundsException") hown [] ⟨0, 10, 13, 23⟩ [⟨0, 10, 17, 54⟩] (htab.trans rfl) wr_nil (by decide) (by decide) (hts (.classLink RL 23 "java/lang/IndexOutOfBoundsException") cwl619) (va_Nw.use rfl (hT.1 (Cond.castable "java/lang/IndexOutOfBoundsException" "java/lang/IndexOutOfBoundsException") (tf_cast (539, "java/lang/IndexOutOfBoundsException") (by decide +kernel)))) hcell hvm hcl ?_
      refine lv_astore (lv' := (4, .ref q9) :: [(0, .ref (sh.2 qx)), (1, .int a1), (2, .int a2), (3, .ref (sh.2 qo))]) hx hb dw_score_13 hl (by decide) rfl (fun ls hl => ?_)
      refine lv_iconst (v := 1) hx hb dw_score_15 (by decide) ?_
      exact W.widen (Nat.le_of_ble_eq_true rfl) (Nat.le_of_ble_eq_true rfl) (W.iret (v := 1) hx hb hr (fun t ht hW9 => ⟨⟨1, u, rfl, ⟨hpx9, g0, hku⟩, by rw [ht]; exact hP1, hD1⟩, hS1.F ht⟩) hS1.2.2 dw_score_16)
    have hx8 := List.mem_singleton.mp hx9
    subst hx8
    refine vx_catch (E := "java/util/NoSuchElementException") (name := "java/util/NoSuchElementException") hown [⟨0, 10, 13, 23⟩] ⟨0, 10, 17, 54⟩ [] (htab.trans rfl) (wr_cons (Or.inr ⟨by decide, "java/lang/IndexOutOfBoundsException", (hts (.classLink RL 23 "java/lang/IndexOutOfBoundsException") cwl619), hT.2.2.2.2.1 _ (by decide +kernel) _ (by decide +kernel) (by decide)⟩) wr_nil) (by decide) (by decide) (hts (.classLink RL 54 "java/util/NoSuchElementException") cwl765) (va_Nw.use rfl (hT.1 (Cond.castable "java/util/NoSuchElementException" "java/util/NoSuchElementException") (tf_cast (181, "java/util/NoSuchElementException") (by decide +kernel)))) hcell hvm hcl ?_
    refine lv_astore (lv' := (4, .ref q9) :: [(0, .ref (sh.2 qx)), (1, .int a1), (2, .int a2), (3, .ref (sh.2 qo))]) hx hb dw_score_17 hl (by decide) rfl (fun ls hl => ?_)
    refine lv_iconst (v := 2) hx hb dw_score_19 (by decide) ?_
    exact W.widen (Nat.le_of_ble_eq_true rfl) (Nat.le_of_ble_eq_true rfl) (W.iret (v := 2) hx hb hr (fun t ht hW9 => ⟨⟨2, u, rfl, ⟨hpx9, g0, hku⟩, by rw [ht]; exact hP1, hD1⟩, hS1.F ht⟩) hS1.2.2 dw_score_20)
  · obtain ⟨hpx, hpo9⟩ := hpo
    have hku := wr_keep hpx hqo (by decide +kernel) hwo
    obtain ⟨r9, rfl⟩ := hrv
    refine lv_i2l hx hb dw_score_8 rfl ?_
    refine va_last hx hb hK hP1 hD1 hS1 qo 7 hku hTt (vp_in_nI (n := 0) (by decide) (by decide)) dw_score_9 (fun H2 locs2 hP2 hD2 hS2 => ?_)
    obtain ⟨g9, hg9⟩ : ∃ g9, g9 = vp_updL g0 (0 : Int32).toNatClampNeg r9.toInt64 := ⟨_, rfl⟩
    rw [← hg9] at hP2 hD2
    refine lv_goto (tgt := 21) hx hb dw_score_10 (by decide) ?_
    refine lv_iconst (v := 0) hx hb dw_score_21 (by decide) ?_
    exact W.widen (Nat.le_of_ble_eq_true rfl) (Nat.le_of_ble_eq_true rfl) (W.iret (v := 0) hx hb hr (fun t ht hW9 => ⟨⟨0, (u.1, u.2.set qo (sh.2 qo, .inl (cO, 1, .inr (.inl g9)))), rfl, ⟨wr_set hpx hqo (by decide +kernel) (by decide +kernel) hwo ⟨rfl, rfl⟩, g9, wr_get hku⟩, by rw [ht]; exact hP2, hD2⟩, hS2.F ht⟩) hS2.2.2 dw_score_22)
theorem dw_search_0 : decode cL_search 0 = .ok (.aload_n 2, 1) := by decide +kernel
theorem dw_search_1 : decode cL_search 1 = .ok (.iconst 0, 1) := by decide +kernel
theorem dw_search_2 : decode cL_search 2 = .ok (.aload_n 0, 1) := by decide +kernel
theorem dw_search_3 : decode cL_search 3 = .ok (.iload_n 1, 1) := by decide +kernel
theorem dw_search_4 : decode cL_search 4 = .ok (.invokevirtual 66, 3) := by decide +kernel
theorem dw_search_7 : decode cL_search 7 = .ok (.i2l, 1) := by decide +kernel
theorem dw_search_8 : decode cL_search 8 = .ok (.lastore, 1) := by decide +kernel
theorem dw_search_9 : decode cL_search 9 = .ok (.goto 12, 3) := by decide +kernel
theorem dw_search_12 : decode cL_search 12 = .ok (.astore_n 3, 1) := by decide +kernel
theorem dw_search_13 : decode cL_search 13 = .ok (.iconst 1, 1) := by decide +kernel
theorem dw_search_14 : decode cL_search 14 = .ok (.ireturn, 1) := by decide +kernel
theorem dw_search_15 : decode cL_search 15 = .ok (.astore_n 3, 1) := by decide +kernel
theorem dw_search_16 : decode cL_search 16 = .ok (.iconst 2, 1) := by decide +kernel
theorem dw_search_17 : decode cL_search 17 = .ok (.ireturn, 1) := by decide +kernel
theorem dw_search_18 : decode cL_search 18 = .ok (.astore_n 3, 1) := by decide +kernel
theorem dw_search_19 : decode cL_search 19 = .ok (.iconst 3, 1) := by decide +kernel
theorem dw_search_20 : decode cL_search 20 = .ok (.ireturn, 1) := by decide +kernel
theorem dw_search_21 : decode cL_search 21 = .ok (.iconst 0, 1) := by decide +kernel
theorem dw_search_22 : decode cL_search 22 = .ok (.ireturn, 1) := by decide +kernel
theorem gw_X6_search : en_CV en_cw RL 66 yX6_search RX6 cX6_search 3 (some .char) 1 := en_gv cwl895 cwl896 cwl897 cwl75 cwl898 ⟨rfl, by decide, by decide, by decide +kernel⟩
set_option maxHeartbeats 4000000 in
set_option maxRecDepth 100000 in
theorem wr_search {l : Launch} (hl9 : l.stackTraces = false) {PP : Int32 → Int32 → Prop} (hPP : en_P0 PP) (Ω : Nat → en_H → va_W → Prop) (D : va_G) (tys : List (ClassId × FieldType)) (cO cD : ClassId) (sh : en_H) (w : va_W) (sz qx qo : Nat) (fx : List Value) (g0 : (Nat → Int64)) (a1 : Int32) (hTY : tys.map Prod.snd = en_TY0) (hW : en_W PP en_KT k_X6_search_0.2.2.2.2.1 sh tys (fun _ => False) w) (hD0 : va_D (va_A w sz) w) (hΩ : en_Om en_om0 sh Ω) (hqx : sh.1[qx]? = some 0) (hwx : w[qx]? = some (sh.2 qx, .inr (12, fx))) (hqo : sh.1[qo]? = some 56) (hwo : w[qo]? = some (sh.2 qo, .inl (cO, 1, .inr (.inl g0)))) :
    Met l yL_search (Cond.codeWith yL_search cL_search 4 (some .int) [(0, 9, 12, 23), (0, 9, 15, 15), (0, 9, 18, 17)] :: en_cw) (en_rm 2 (3, 18)) (va_Pc [.ref (sh.2 qx), .int a1, .ref (sh.2 qo)] (en_B D vwCl (tys ++ [(cO, .long), (cD, .double)]) w sz)) (va_Qi (fun _ u => (en_Px tys PP en_KT k_X6_search_0.2.2.2.2.1 ((56, 0) :: k_X6_search_0.2.2.2.1) sh w u ∧ ∃ g, u.2[qo]? = some (sh.2 qo, .inl (cO, 1, .inr (.inl g))))) (en_Bw D vwCl (va_A w sz)) (va_A w sz)) 3 18 (va_A w sz) := by
  refine va_MetW (cc := cL_search) (maxL := 4) (ret := some .int) (hh := [(0, 9, 12, 23), (0, 9, 15, 15), (0, 9, 18, 17)]) (by decide +kernel) rfl ?_
  intro p e s m args below meth c s₁ B hml hv
  obtain ⟨rfl, hsz, hP, hK, hT⟩ := hv
  subst hsz
  have hx := B.exec
  have hb := B.bytes
  have hr := B.returns
  have hts0 := atoms_spec (ws := Cond.codeWith yL_search cL_search 4 (some .int) [(0, 9, 12, 23), (0, 9, 15, 15), (0, 9, 18, 17)] :: en_cw) B.pre
  have hts : ∀ z ∈ en_cw, z.before _ s = true := fun z hz => hts0 z (List.mem_cons_of_mem _ hz)
  have hown : s.vm.findClass RL = some m.cls := findClass_of_methodNamed B.named
  have htab := vx_table (x := yL_search) B (hts0 _ List.mem_cons_self)
  have hA : ∀ q : Nat, s.heap.size ≤ q → va_A w s.heap.size q := fun q h => Or.inr h
  have hS : va_S (va_A w s.heap.size) s.heap s.heap [] := va_S.rf
  have hK0 : va_K D vwCl tys s := hK.pre
  have hTt : (tys ++ [(cO, .long), (cD, .double)])[7]? = some (cO, .long) := wr_ty hTY
  have hl := lv_entry ([.ref (sh.2 qx), .int a1, .ref (sh.2 qo)]) (n := 4) (Nat.le_of_ble_eq_true rfl)
  rw [lg_entry_eq]
  generalize (lg_sl ([.ref (sh.2 qx), .int a1, .ref (sh.2 qo)]) ++ List.replicate (4 - (lg_sl ([.ref (sh.2 qx), .int a1, .ref (sh.2 qo)])).length) Slot.unset).toArray = ls at hl ⊢
  have hl : lv_has ls 4 [(0, .ref (sh.2 qx)), (1, .int a1), (2, .ref (sh.2 qo))] := hl
  refine lv_aload_n hx hb dw_search_0 rfl (lv_at hl 2 rfl) ?_
  refine lv_iconst (v := 0) hx hb dw_search_1 (by decide) ?_
  refine lv_aload_n hx hb dw_search_2 rfl (lv_at hl 0 rfl) ?_
  refine lv_iload_n hx hb dw_search_3 rfl (lv_at hl 1 rfl) ?_
  refine en_hcV (q0 := qx) (b := sh.2 qx) (fs := fx) (co := 12) (ρp := [.ref (sh.2 qx), .int a1]) (As := [.int a1]) (rest := [.int 0, .ref (sh.2 qo)]) (lv' := 1) (ct_X6_search_0 hl9 hPP Ω) gw_X6_search rfl rfl hwx rfl rfl (Nat.le_of_ble_eq_true rfl) ⟨Nat.le_of_ble_eq_true rfl, Nat.le_of_ble_eq_true rfl⟩ ⟨Nat.le_of_ble_eq_true rfl, Nat.le_of_ble_eq_true rfl⟩ (Nat.le_of_ble_eq_true rfl) hx hb (hml.trans hl.1.symm) hts hown hTY hK0 hT hP hD0 hS hA hW hΩ (wr_pa (env := k_X6_search_0.2.1.1) ⟨⟨qx, hqx, rfl⟩, ⟨a1, rfl, en_lo a1, en_hi a1⟩, trivial⟩) dw_search_4 (fun x9 hx9 ce q9 u H1 locs1 hpx hP1 hD1 hS1 hcell hvm hcl => ?_) (fun u res H1 locs1 hrv hpo hP1 hD1 hS1 => ?_)
  · have hku := wr_keep hpx hqo (by decide +kernel) hwo
    have hpx9 := wr_same hpx ((56, 0) :: k_X6_search_0.2.2.2.1) (fun z hz => List.mem_cons_of_mem _ hz)
    rcases List.mem_cons.mp hx9 with hx8 | hx9
    · subst hx8
      refine vx_catch (E := "java/lang/IllegalStateException") (name := "java/lang/IllegalStateException") hown [⟨0, 9, 12, 23⟩] ⟨0, 9, 15, 15⟩ [⟨0, 9, 18, 17⟩] (htab.trans rfl) (wr_cons (Or.inr ⟨by decide, "java/lang/IndexOutOfBoundsException", (hts (.classLink RL 23 "java/lang/IndexOutOfBoundsException") cwl619), hT.2.2.2.2.1 _ (by decide +kernel) _ (by decide +kernel) (by decide)⟩) wr_nil) (by decide) (by decide) (hts (.classLink RL 15 "java/lang/IllegalStateException") cwl499) (va_Nw.use rfl (hT.1 (Cond.castable "java/lang/IllegalStateException" "java/lang/IllegalStateException") (tf_cast (69, "java/lang/IllegalStateException") (by decide +kernel)))) hcell hvm hcl ?_
      refine lv_astore_n (lv' := (3, .ref q9) :: [(0, .ref (sh.2 qx)), (1, .int a1), (2, .ref (sh.2 qo))]) hx hb dw_search_15 rfl hl (by decide) rfl (fun ls hl => ?_)
      refine lv_iconst (v := 2) hx hb dw_search_16 (by decide) ?_
      exact W.widen (Nat.le_of_ble_eq_true rfl) (Nat.le_of_ble_eq_true rfl) (W.iret (v := 2) hx hb hr (fun t ht hW9 => ⟨⟨2, u, rfl, ⟨hpx9, g0, hku⟩, by rw [ht]; exact hP1, hD1⟩, hS1.F ht⟩) hS1.2.2 dw_search_17)
    rcases List.mem_cons.mp hx9 with hx8 | hx9
    · subst hx8
      refine vx_catch (E := "java/lang/UnsupportedOperationException") (name := "java/lang/UnsupportedOperationException") hown [⟨0, 9, 12, 23⟩, ⟨0, 9, 15, 15⟩] ⟨0, 9, 18, 17⟩ [] (htab.trans rfl) (wr_cons (Or.inr ⟨by decide, "java/lang/IndexOutOfBoundsException", (hts (.classLink RL 23 "java/lang/IndexOutOfBoundsException") cwl619), hT.2.2.2.2.1 _ (by decide +kernel) _ (by decide +kernel) (by decide)⟩) (wr_cons (Or.inr ⟨by decide, "java/lang/IllegalStateException", (hts (.classLink RL 15 "java/lang/IllegalStateException") cwl499), hT.2.2.2.2.1 _ (by decide +kernel) _ (by decide +kernel) (by decide)⟩) wr_nil)) (by decide) (by decide) (hts (.classLink RL 17 "java/lang/UnsupportedOperationException") cwl500) (va_Nw.use rfl (hT.1 (Cond.castable "java/lang/UnsupportedOperationException" "java/lang/UnsupportedOperationException") (tf_cast (78, "java/lang/UnsupportedOperationException") (by decide +kernel)))) hcell hvm hcl ?_
      refine lv_astore_n (lv' := (3, .ref q9) :: [(0, .ref (sh.2 qx)), (1, .int a1), (2, .ref (sh.2 qo))]) hx hb dw_search_18 rfl hl (by decide) rfl (fun ls hl => ?_)
      refine lv_iconst (v := 3) hx hb dw_search_19 (by decide) ?_
      exact W.widen (Nat.le_of_ble_eq_true rfl) (Nat.le_of_ble_eq_true rfl) (W.iret (v := 3) hx hb hr (fun t ht hW9 => ⟨⟨3, u, rfl, ⟨hpx9, g0, hku⟩, by rw [ht]; exact hP1, hD1⟩, hS1.F ht⟩) hS1.2.2 dw_search_20)
    have hx8 := List.mem_singleton.mp hx9
    subst hx8
    refine vx_catch (E := "java/lang/IndexOutOfBoundsException") (name := "java/lang/IndexOutOfBoundsException") hown [] ⟨0, 9, 12, 23⟩ [⟨0, 9, 15, 15⟩, ⟨0, 9, 18, 17⟩] (htab.trans rfl) wr_nil (by decide) (by decide) (hts (.classLink RL 23 "java/lang/IndexOutOfBoundsException") cwl619) (va_Nw.use rfl (hT.1 (Cond.castable "java/lang/IndexOutOfBoundsException" "java/lang/IndexOutOfBoundsException") (tf_cast (539, "java/lang/IndexOutOfBoundsException") (by decide +kernel)))) hcell hvm hcl ?_
    refine lv_astore_n (lv' := (3, .ref q9) :: [(0, .ref (sh.2 qx)), (1, .int a1), (2, .ref (sh.2 qo))]) hx hb dw_search_12 rfl hl (by decide) rfl (fun ls hl => ?_)
    refine lv_iconst (v := 1) hx hb dw_search_13 (by decide) ?_
    exact W.widen (Nat.le_of_ble_eq_true rfl) (Nat.le_of_ble_eq_true rfl) (W.iret (v := 1) hx hb hr (fun t ht hW9 => ⟨⟨1, u, rfl, ⟨hpx9, g0, hku⟩, by rw [ht]; exact hP1, hD1⟩, hS1.F ht⟩) hS1.2.2 dw_search_14)
  · obtain ⟨hpx, hpo9⟩ := hpo
    have hku := wr_keep hpx hqo (by decide +kernel) hwo
    obtain ⟨r9, rfl⟩ := hrv
    refine lv_i2l hx hb dw_search_7 rfl ?_
    refine va_last hx hb hK hP1 hD1 hS1 qo 7 hku hTt (vp_in_nI (n := 0) (by decide) (by decide)) dw_search_8 (fun H2 locs2 hP2 hD2 hS2 => ?_)
    obtain ⟨g9, hg9⟩ : ∃ g9, g9 = vp_updL g0 (0 : Int32).toNatClampNeg r9.toInt64 := ⟨_, rfl⟩
    rw [← hg9] at hP2 hD2
    refine lv_goto (tgt := 21) hx hb dw_search_9 (by decide) ?_
    refine lv_iconst (v := 0) hx hb dw_search_21 (by decide) ?_
    exact W.widen (Nat.le_of_ble_eq_true rfl) (Nat.le_of_ble_eq_true rfl) (W.iret (v := 0) hx hb hr (fun t ht hW9 => ⟨⟨0, (u.1, u.2.set qo (sh.2 qo, .inl (cO, 1, .inr (.inl g9)))), rfl, ⟨wr_set hpx hqo (by decide +kernel) (by decide +kernel) hwo ⟨rfl, rfl⟩, g9, wr_get hku⟩, by rw [ht]; exact hP2, hD2⟩, hS2.F ht⟩) hS2.2.2 dw_search_22)
theorem dw_setHandicap_0 : decode cL_setHandicap 0 = .ok (.aload_n 3, 1) := by decide +kernel
theorem dw_setHandicap_1 : decode cL_setHandicap 1 = .ok (.iconst 0, 1) := by decide +kernel
theorem dw_setHandicap_2 : decode cL_setHandicap 2 = .ok (.aload_n 0, 1) := by decide +kernel
theorem dw_setHandicap_3 : decode cL_setHandicap 3 = .ok (.iload_n 1, 1) := by decide +kernel
theorem dw_setHandicap_4 : decode cL_setHandicap 4 = .ok (.iload_n 2, 1) := by decide +kernel
theorem dw_setHandicap_5 : decode cL_setHandicap 5 = .ok (.invokevirtual 33, 3) := by decide +kernel
theorem dw_setHandicap_8 : decode cL_setHandicap 8 = .ok (.i2l, 1) := by decide +kernel
theorem dw_setHandicap_9 : decode cL_setHandicap 9 = .ok (.lastore, 1) := by decide +kernel
theorem dw_setHandicap_10 : decode cL_setHandicap 10 = .ok (.goto 15, 3) := by decide +kernel
theorem dw_setHandicap_13 : decode cL_setHandicap 13 = .ok (.astore 4, 2) := by decide +kernel
theorem dw_setHandicap_15 : decode cL_setHandicap 15 = .ok (.iconst 1, 1) := by decide +kernel
theorem dw_setHandicap_16 : decode cL_setHandicap 16 = .ok (.ireturn, 1) := by decide +kernel
theorem dw_setHandicap_17 : decode cL_setHandicap 17 = .ok (.astore 4, 2) := by decide +kernel
theorem dw_setHandicap_19 : decode cL_setHandicap 19 = .ok (.iconst 2, 1) := by decide +kernel
theorem dw_setHandicap_20 : decode cL_setHandicap 20 = .ok (.ireturn, 1) := by decide +kernel
theorem dw_setHandicap_21 : decode cL_setHandicap 21 = .ok (.astore 4, 2) := by decide +kernel
theorem dw_setHandicap_23 : decode cL_setHandicap 23 = .ok (.iconst 3, 1) := by decide +kernel
theorem dw_setHandicap_24 : decode cL_setHandicap 24 = .ok (.ireturn, 1) := by decide +kernel
theorem dw_setHandicap_25 : decode cL_setHandicap 25 = .ok (.iconst 0, 1) := by decide +kernel
theorem dw_setHandicap_26 : decode cL_setHandicap 26 = .ok (.ireturn, 1) := by decide +kernel
theorem gw_X6_setHandicap : en_CV en_cw RL 33 yX6_setHandicap RX6 cX6_setHandicap 4 (some .int) 2 := en_gv cwl695 cwl696 cwl697 cwl75 cwl698 ⟨rfl, by decide, by decide, by decide +kernel⟩
set_option maxHeartbeats 4000000 in
set_option maxRecDepth 100000 in
theorem wr_setHandicap {l : Launch} (hl9 : l.stackTraces = false) {PP : Int32 → Int32 → Prop} (hPP : en_P0 PP) (Ω : Nat → en_H → va_W → Prop) (D : va_G) (tys : List (ClassId × FieldType)) (cO cD : ClassId) (sh : en_H) (w : va_W) (sz qx qo : Nat) (fx : List Value) (g0 : (Nat → Int64)) (a1 : Int32) (a2 : Int32) (hTY : tys.map Prod.snd = en_TY0) (hW : en_W PP en_KT k_X6_setHandicap_0.2.2.2.2.1 sh tys (fun _ => False) w) (hD0 : va_D (va_A w sz) w) (hΩ : en_Om en_om0 sh Ω) (hqx : sh.1[qx]? = some 0) (hwx : w[qx]? = some (sh.2 qx, .inr (12, fx))) (hqo : sh.1[qo]? = some 56) (hwo : w[qo]? = some (sh.2 qo, .inl (cO, 1, .inr (.inl g0)))) :
    Met l yL_setHandicap (Cond.codeWith yL_setHandicap cL_setHandicap 5 (some .int) [(0, 10, 13, 23), (0, 10, 17, 13), (0, 10, 21, 15)] :: en_cw) (en_rm 2 (2, 12)) (va_Pc [.ref (sh.2 qx), .int a1, .int a2, .ref (sh.2 qo)] (en_B D vwCl (tys ++ [(cO, .long), (cD, .double)]) w sz)) (va_Qi (fun _ u => (en_Px tys PP en_KT k_X6_setHandicap_0.2.2.2.2.1 ((56, 0) :: k_X6_setHandicap_0.2.2.2.1) sh w u ∧ ∃ g, u.2[qo]? = some (sh.2 qo, .inl (cO, 1, .inr (.inl g))))) (en_Bw D vwCl (va_A w sz)) (va_A w sz)) 2 12 (va_A w sz) := by
  refine va_MetW (cc := cL_setHandicap) (maxL := 5) (ret := some .int) (hh := [(0, 10, 13, 23), (0, 10, 17, 13), (0, 10, 21, 15)]) (by decide +kernel) rfl ?_
  intro p e s m args below meth c s₁ B hml hv
  obtain ⟨rfl, hsz, hP, hK, hT⟩ := hv
  subst hsz
  have hx := B.exec
  have hb := B.bytes
  have hr := B.returns
  have hts0 := atoms_spec (ws := Cond.codeWith yL_setHandicap cL_setHandicap 5 (some .int) [(0, 10, 13, 23), (0, 10, 17, 13), (0, 10, 21, 15)] :: en_cw) B.pre
  have hts : ∀ z ∈ en_cw, z.before _ s = true := fun z hz => hts0 z (List.mem_cons_of_mem _ hz)
  have hown : s.vm.findClass RL = some m.cls := findClass_of_methodNamed B.named
  have htab := vx_table (x := yL_setHandicap) B (hts0 _ List.mem_cons_self)
  have hA : ∀ q : Nat, s.heap.size ≤ q → va_A w s.heap.size q := fun q h => Or.inr h
  have hS : va_S (va_A w s.heap.size) s.heap s.heap [] := va_S.rf
  have hK0 : va_K D vwCl tys s := hK.pre
  have hTt : (tys ++ [(cO, .long), (cD, .double)])[7]? = some (cO, .long) := wr_ty hTY
  have hl := lv_entry ([.ref (sh.2 qx), .int a1, .int a2, .ref (sh.2 qo)]) (n := 5) (Nat.le_of_ble_eq_true rfl)
  rw [lg_entry_eq]
  generalize (lg_sl ([.ref (sh.2 qx), .int a1, .int a2, .ref (sh.2 qo)]) ++ List.replicate (5 - (lg_sl ([.ref (sh.2 qx), .int a1, .int a2, .ref (sh.2 qo)])).length) Slot.unset).toArray = ls at hl ⊢
  have hl : lv_has ls 5 [(0, .ref (sh.2 qx)), (1, .int a1), (2, .int a2), (3, .ref (sh.2 qo))] := hl
  refine lv_aload_n hx hb dw_setHandicap_0 rfl (lv_at hl 3 rfl) ?_
  refine lv_iconst (v := 0) hx hb dw_setHandicap_1 (by decide) ?_
  refine lv_aload_n hx hb dw_setHandicap_2 rfl (lv_at hl 0 rfl) ?_
  refine lv_iload_n hx hb dw_setHandicap_3 rfl (lv_at hl 1 rfl) ?_
  refine lv_iload_n hx hb dw_setHandicap_4 rfl (lv_at hl 2 rfl) ?_
  refine en_hcV (q0 := qx) (b := sh.2 qx) (fs := fx) (co := 12) (ρp := [.ref (sh.2 qx), .int a1, .int a2]) (As := [.int a1, .int a2]) (rest := [.int 0, .ref (sh.2 qo)]) (lv' := 1) (ct_X6_setHandicap_0 hl9 hPP Ω) gw_X6_setHandicap rfl rfl hwx rfl rfl (Nat.le_of_ble_eq_true rfl) ⟨Nat.le_of_ble_eq_true rfl, Nat.le_of_ble_eq_true rfl⟩ ⟨Nat.le_of_ble_eq_true rfl, Nat.le_of_ble_eq_true rfl⟩ (Nat.le_of_ble_eq_true rfl) hx hb (hml.trans hl.1.symm) hts hown hTY hK0 hT hP hD0 hS hA hW hΩ (wr_pa (env := k_X6_setHandicap_0.2.1.1) ⟨⟨qx, hqx, rfl⟩, ⟨a1, rfl, en_lo a1, en_hi a1⟩, ⟨a2, rfl, en_lo a2, en_hi a2⟩, trivial⟩) dw_setHandicap_5 (fun x9 hx9 ce q9 u H1 locs1 hpx hP1 hD1 hS1 hcell hvm hcl => ?_) (fun u res H1 locs1 hrv hpo hP1 hD1 hS1 => ?_)
  · have hku := wr_keep hpx hqo (by decide +kernel) hwo
    have hpx9 := wr_same hpx ((56, 0) :: k_X6_setHandicap_0.2.2.2.1) (fun z hz => List.mem_cons_of_mem _ hz)
    rcases List.mem_cons.mp hx9 with hx8 | hx9
    · subst hx8
      refine vx_catch (E := "java/lang/IllegalArgumentException") (name := "java/lang/IllegalArgumentException") hown [⟨0, 10, 13, 23⟩] ⟨0, 10, 17, 13⟩ [⟨0, 10, 21, 15⟩] (htab.trans rfl) (wr_cons (Or.inr ⟨by decide, "java/lang/IndexOutOfBoundsException", (hts (.classLink RL 23 "java/lang/IndexOutOfBoundsException") cwl619), hT.2.2.2.2.1 _ (by decide +kernel) _ (by decide +kernel) (by decide)⟩) wr_nil) (by decide) (by decide) (hts (.classLink RL 13 "java/lang/IllegalArgumentException") cwl498) (va_Nw.use rfl (hT.1 (Cond.castable "java/lang/IllegalArgumentException" "java/lang/IllegalArgumentException") (tf_cast (53, "java/lang/IllegalArgumentException") (by decide +kernel)))) hcell hvm hcl ?_
      refine lv_astore (lv' := (4, .ref q9) :: [(0, .ref (sh.2 qx)), (1, .int a1), (2, .int a2), (3, .ref (sh.2 qo))]) hx hb dw_setHandicap_17 hl (by decide) rfl (fun ls hl => ?_)
      refine lv_iconst (v := 2) hx hb dw_setHandicap_19 (by decide) ?_
      exact W.widen (Nat.le_of_ble_eq_true rfl) (Nat.le_of_ble_eq_true rfl) (W.iret (v := 2) hx hb hr (fun t ht hW9 => ⟨⟨2, u, rfl, ⟨hpx9, g0, hku⟩, by rw [ht]; exact hP1, hD1⟩, hS1.F ht⟩) hS1.2.2 dw_setHandicap_20)
    rcases List.mem_cons.mp hx9 with hx8 | hx9
    · subst hx8
      refine vx_catch (E := "java/lang/IllegalStateException") (name := "java/lang/IllegalStateException") hown [⟨0, 10, 13, 23⟩, ⟨0, 10, 17, 13⟩] ⟨0, 10, 21, 15⟩ [] (htab.trans rfl) (wr_cons (Or.inr ⟨by decide, "java/lang/IndexOutOfBoundsException", (hts (.classLink RL 23 "java/lang/IndexOutOfBoundsException") cwl619), hT.2.2.2.2.1 _ (by decide +kernel) _ (by decide +kernel) (by decide)⟩) (wr_cons (Or.inr ⟨by decide, "java/lang/IllegalArgumentException", (hts (.classLink RL 13 "java/lang/IllegalArgumentException") cwl498), hT.2.2.2.2.1 _ (by decide +kernel) _ (by decide +kernel) (by decide)⟩) wr_nil)) (by decide) (by decide) (hts (.classLink RL 15 "java/lang/IllegalStateException") cwl499) (va_Nw.use rfl (hT.1 (Cond.castable "java/lang/IllegalStateException" "java/lang/IllegalStateException") (tf_cast (69, "java/lang/IllegalStateException") (by decide +kernel)))) hcell hvm hcl ?_
      refine lv_astore (lv' := (4, .ref q9) :: [(0, .ref (sh.2 qx)), (1, .int a1), (2, .int a2), (3, .ref (sh.2 qo))]) hx hb dw_setHandicap_21 hl (by decide) rfl (fun ls hl => ?_)
      refine lv_iconst (v := 3) hx hb dw_setHandicap_23 (by decide) ?_
      exact W.widen (Nat.le_of_ble_eq_true rfl) (Nat.le_of_ble_eq_true rfl) (W.iret (v := 3) hx hb hr (fun t ht hW9 => ⟨⟨3, u, rfl, ⟨hpx9, g0, hku⟩, by rw [ht]; exact hP1, hD1⟩, hS1.F ht⟩) hS1.2.2 dw_setHandicap_24)
    have hx8 := List.mem_singleton.mp hx9
    subst hx8
    refine vx_catch (E := "java/lang/IndexOutOfBoundsException") (name := "java/lang/IndexOutOfBoundsException") hown [] ⟨0, 10, 13, 23⟩ [⟨0, 10, 17, 13⟩, ⟨0, 10, 21, 15⟩] (htab.trans rfl) wr_nil (by decide) (by decide) (hts (.classLink RL 23 "java/lang/IndexOutOfBoundsException") cwl619) (va_Nw.use rfl (hT.1 (Cond.castable "java/lang/IndexOutOfBoundsException" "java/lang/IndexOutOfBoundsException") (tf_cast (539, "java/lang/IndexOutOfBoundsException") (by decide +kernel)))) hcell hvm hcl ?_
    refine lv_astore (lv' := (4, .ref q9) :: [(0, .ref (sh.2 qx)), (1, .int a1), (2, .int a2), (3, .ref (sh.2 qo))]) hx hb dw_setHandicap_13 hl (by decide) rfl (fun ls hl => ?_)
    refine lv_iconst (v := 1) hx hb dw_setHandicap_15 (by decide) ?_
    exact W.widen (Nat.le_of_ble_eq_true rfl) (Nat.le_of_ble_eq_true rfl) (W.iret (v := 1) hx hb hr (fun t ht hW9 => ⟨⟨1, u, rfl, ⟨hpx9, g0, hku⟩, by rw [ht]; exact hP1, hD1⟩, hS1.F ht⟩) hS1.2.2 dw_setHandicap_16)
  · obtain ⟨hpx, hpo9⟩ := hpo
    have hku := wr_keep hpx hqo (by decide +kernel) hwo
    obtain ⟨r9, rfl⟩ := hrv
    refine lv_i2l hx hb dw_setHandicap_8 rfl ?_
    refine va_last hx hb hK hP1 hD1 hS1 qo 7 hku hTt (vp_in_nI (n := 0) (by decide) (by decide)) dw_setHandicap_9 (fun H2 locs2 hP2 hD2 hS2 => ?_)
    obtain ⟨g9, hg9⟩ : ∃ g9, g9 = vp_updL g0 (0 : Int32).toNatClampNeg r9.toInt64 := ⟨_, rfl⟩
    rw [← hg9] at hP2 hD2
    refine lv_goto (tgt := 25) hx hb dw_setHandicap_10 (by decide) ?_
    refine lv_iconst (v := 0) hx hb dw_setHandicap_25 (by decide) ?_
    exact W.widen (Nat.le_of_ble_eq_true rfl) (Nat.le_of_ble_eq_true rfl) (W.iret (v := 0) hx hb hr (fun t ht hW9 => ⟨⟨0, (u.1, u.2.set qo (sh.2 qo, .inl (cO, 1, .inr (.inl g9)))), rfl, ⟨wr_set hpx hqo (by decide +kernel) (by decide +kernel) hwo ⟨rfl, rfl⟩, g9, wr_get hku⟩, by rw [ht]; exact hP2, hD2⟩, hS2.F ht⟩) hS2.2.2 dw_setHandicap_26)
