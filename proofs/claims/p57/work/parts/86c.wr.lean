theorem dw_kindAt_0 : decode cL_kindAt 0 = .ok (.aload 4, 2) := by decide +kernel
theorem dw_kindAt_2 : decode cL_kindAt 2 = .ok (.iconst 0, 1) := by decide +kernel
theorem dw_kindAt_3 : decode cL_kindAt 3 = .ok (.aload_n 0, 1) := by decide +kernel
theorem dw_kindAt_4 : decode cL_kindAt 4 = .ok (.iload_n 1, 1) := by decide +kernel
theorem dw_kindAt_5 : decode cL_kindAt 5 = .ok (.iload_n 2, 1) := by decide +kernel
theorem dw_kindAt_6 : decode cL_kindAt 6 = .ok (.iload_n 3, 1) := by decide +kernel
theorem dw_kindAt_7 : decode cL_kindAt 7 = .ok (.invokevirtual 25, 3) := by decide +kernel
theorem dw_kindAt_10 : decode cL_kindAt 10 = .ok (.i2l, 1) := by decide +kernel
theorem dw_kindAt_11 : decode cL_kindAt 11 = .ok (.lastore, 1) := by decide +kernel
theorem dw_kindAt_12 : decode cL_kindAt 12 = .ok (.goto 7, 3) := by decide +kernel
theorem dw_kindAt_15 : decode cL_kindAt 15 = .ok (.astore 5, 2) := by decide +kernel
theorem dw_kindAt_17 : decode cL_kindAt 17 = .ok (.iconst 1, 1) := by decide +kernel
theorem dw_kindAt_18 : decode cL_kindAt 18 = .ok (.ireturn, 1) := by decide +kernel
theorem dw_kindAt_19 : decode cL_kindAt 19 = .ok (.iconst 0, 1) := by decide +kernel
theorem dw_kindAt_20 : decode cL_kindAt 20 = .ok (.ireturn, 1) := by decide +kernel
theorem gw_X6_kindAt : en_CV en_cw RL 25 yX6_kindAt RX6 cX6_kindAt 4 (some .char) 3 := en_gv cwl676 cwl677 cwl678 cwl75 cwl679 ⟨rfl, by decide, by decide, by decide +kernel⟩
set_option maxHeartbeats 4000000 in
set_option maxRecDepth 100000 in
theorem wr_kindAt {l : Launch} (hl9 : l.stackTraces = false) {PP : Int32 → Int32 → Prop} (hPP : en_P0 PP) (Ω : Nat → en_H → va_W → Prop) (D : va_G) (tys : List (ClassId × FieldType)) (cO cD : ClassId) (sh : en_H) (w : va_W) (sz qx qo : Nat) (fx : List Value) (g0 : (Nat → Int64)) (a1 : Int32) (a2 : Int32) (a3 : Int32) (hTY : tys.map Prod.snd = en_TY0) (hW : en_W PP en_KT k_X6_kindAt_0.2.2.2.2.1 sh tys (fun _ => False) w) (hD0 : va_D (va_A w sz) w) (hΩ : en_Om en_om0 sh Ω) (hqx : sh.1[qx]? = some 0) (hwx : w[qx]? = some (sh.2 qx, .inr (12, fx))) (hqo : sh.1[qo]? = some 56) (hwo : w[qo]? = some (sh.2 qo, .inl (cO, 1, .inr (.inl g0)))) :
    Met l yL_kindAt (Cond.codeWith yL_kindAt cL_kindAt 6 (some .int) [(0, 12, 15, 23)] :: en_cw) (en_rm 3 (2, 12)) (va_Pc [.ref (sh.2 qx), .int a1, .int a2, .int a3, .ref (sh.2 qo)] (en_B D vwCl (tys ++ [(cO, .long), (cD, .double)]) w sz)) (va_Qi (fun _ u => (en_Px tys PP en_KT k_X6_kindAt_0.2.2.2.2.1 ((56, 0) :: k_X6_kindAt_0.2.2.2.1) sh w u ∧ ∃ g, u.2[qo]? = some (sh.2 qo, .inl (cO, 1, .inr (.inl g))))) (en_Bw D vwCl (va_A w sz)) (va_A w sz)) 2 12 (va_A w sz) := by
  refine va_MetW (cc := cL_kindAt) (maxL := 6) (ret := some .int) (hh := [(0, 12, 15, 23)]) (by decide +kernel) rfl ?_
  intro p e s m args below meth c s₁ B hml hv
  obtain ⟨rfl, hsz, hP, hK, hT⟩ := hv
  subst hsz
  have hx := B.exec
  have hb := B.bytes
  have hr := B.returns
  have hts0 := atoms_spec (ws := Cond.codeWith yL_kindAt cL_kindAt 6 (some .int) [(0, 12, 15, 23)] :: en_cw) B.pre
  have hts : ∀ z ∈ en_cw, z.before _ s = true := fun z hz => hts0 z (List.mem_cons_of_mem _ hz)
  have hown : s.vm.findClass RL = some m.cls := findClass_of_methodNamed B.named
  have htab := vx_table (x := yL_kindAt) B (hts0 _ List.mem_cons_self)
  have hA : ∀ q : Nat, s.heap.size ≤ q → va_A w s.heap.size q := fun q h => Or.inr h
  have hS : va_S (va_A w s.heap.size) s.heap s.heap [] := va_S.rf
  have hK0 : va_K D vwCl tys s := hK.pre
  have hTt : (tys ++ [(cO, .long), (cD, .double)])[7]? = some (cO, .long) := wr_ty hTY
  have hl := lv_entry ([.ref (sh.2 qx), .int a1, .int a2, .int a3, .ref (sh.2 qo)]) (n := 6) (Nat.le_of_ble_eq_true rfl)
  rw [lg_entry_eq]
  generalize (lg_sl ([.ref (sh.2 qx), .int a1, .int a2, .int a3, .ref (sh.2 qo)]) ++ List.replicate (6 - (lg_sl ([.ref (sh.2 qx), .int a1, .int a2, .int a3, .ref (sh.2 qo)])).length) Slot.unset).toArray = ls at hl ⊢
  have hl : lv_has ls 6 [(0, .ref (sh.2 qx)), (1, .int a1), (2, .int a2), (3, .int a3), (4, .ref (sh.2 qo))] := hl
  refine lv_aload hx hb dw_kindAt_0 (lv_at hl 4 rfl) ?_
  refine lv_iconst (v := 0) hx hb dw_kindAt_2 (by decide) ?_
  refine lv_aload_n hx hb dw_kindAt_3 rfl (lv_at hl 0 rfl) ?_
  refine lv_iload_n hx hb dw_kindAt_4 rfl (lv_at hl 1 rfl) ?_
  refine lv_iload_n hx hb dw_kindAt_5 rfl (lv_at hl 2 rfl) ?_
  refine lv_iload_n hx hb dw_kindAt_6 rfl (lv_at hl 3 rfl) ?_
  refine en_hcV (q0 := qx) (b := sh.2 qx) (fs := fx) (co := 12) (ρp := [.ref (sh.2 qx), .int a1, .int a2, .int a3]) (As := [.int a1, .int a2, .int a3]) (rest := [.int 0, .ref (sh.2 qo)]) (lv' := 2) (ct_X6_kindAt_0 hl9 hPP Ω) gw_X6_kindAt rfl rfl hwx rfl rfl (Nat.le_of_ble_eq_true rfl) ⟨Nat.le_of_ble_eq_true rfl, Nat.le_of_ble_eq_true rfl⟩ ⟨Nat.le_of_ble_eq_true rfl, Nat.le_of_ble_eq_true rfl⟩ (Nat.le_of_ble_eq_true rfl) hx hb (hml.trans hl.1.symm) hts hown hTY hK0 hT hP hD0 hS hA hW hΩ (wr_pa (env := k_X6_kindAt_0.2.1.1) ⟨⟨qx, hqx, rfl⟩, ⟨a1, rfl, en_lo a1, en_hi a1⟩, ⟨a2, rfl, en_lo a2, en_hi a2⟩, ⟨a3, rfl, en_lo a3, en_hi a3⟩, trivial⟩) dw_kindAt_7 (fun x9 hx9 ce q9 u H1 locs1 hpx hP1 hD1 hS1 hcell hvm hcl => ?_) (fun u res H1 locs1 hrv hpo hP1 hD1 hS1 => ?_)
  · have hku := wr_keep hpx hqo (by decide +kernel) hwo
    have hpx9 := wr_same hpx ((56, 0) :: k_X6_kindAt_0.2.2.2.1) (fun z hz => List.mem_cons_of_mem _ hz)
    have hx8 := List.mem_singleton.mp hx9
    subst hx8
    refine vx_catch (E := "java/lang/IndexOutOfBoundsException") (name := "java/lang/IndexOutOfBoundsException") hown [] ⟨0, 12, 15, 23⟩ [] (htab.trans rfl) wr_nil (by decide) (by decide) (hts (.classLink RL 23 "java/lang/IndexOutOfBoundsException") cwl619) (va_Nw.use rfl (hT.1 (Cond.castable "java/lang/IndexOutOfBoundsException" "java/lang/IndexOutOfBoundsException") (tf_cast (539, "java/lang/IndexOutOfBoundsException") (by decide +kernel)))) hcell hvm hcl ?_
    refine lv_astore (lv' := (5, .ref q9) :: [(0, .ref (sh.2 qx)), (1, .int a1), (2, .int a2), (3, .int a3), (4, .ref (sh.2 qo))]) hx hb dw_kindAt_15 hl (by decide) rfl (fun ls hl => ?_)
    refine lv_iconst (v := 1) hx hb dw_kindAt_17 (by decide) ?_
    exact W.widen (Nat.le_of_ble_eq_true rfl) (Nat.le_of_ble_eq_true rfl) (W.iret (v := 1) hx hb hr (fun t ht hW9 => ⟨⟨1, u, rfl, ⟨hpx9, g0, hku⟩, by rw [ht]; exact hP1, hD1⟩, hS1.F ht⟩) hS1.2.2 dw_kindAt_18)
  · obtain ⟨hpx, hpo9⟩ := hpo
    have hku := wr_keep hpx hqo (by decide +kernel) hwo
    obtain ⟨r9, rfl⟩ := hrv
    refine lv_i2l hx hb dw_kindAt_10 rfl ?_
    refine va_last hx hb hK hP1 hD1 hS1 qo 7 hku hTt (vp_in_nI (n := 0) (by decide) (by decide)) dw_kindAt_11 (fun H2 locs2 hP2 hD2 hS2 => ?_)
    obtain ⟨g9, hg9⟩ : ∃ g9, g9 = vp_updL g0 (0 : Int32).toNatClampNeg r9.toInt64 := ⟨_, rfl⟩
    rw [← hg9] at hP2 hD2
    refine lv_goto (tgt := 19) hx hb dw_kindAt_12 (by decide) ?_
    refine lv_iconst (v := 0) hx hb dw_kindAt_19 (by decide) ?_
    exact W.widen (Nat.le_of_ble_eq_true rfl) (Nat.le_of_ble_eq_true rfl) (W.iret (v := 0) hx hb hr (fun t ht hW9 => ⟨⟨0, (u.1, u.2.set qo (sh.2 qo, .inl (cO, 1, .inr (.inl g9)))), rfl, ⟨wr_set hpx hqo (by decide +kernel) (by decide +kernel) hwo ⟨rfl, rfl⟩, g9, wr_get hku⟩, by rw [ht]; exact hP2, hD2⟩, hS2.F ht⟩) hS2.2.2 dw_kindAt_20)
theorem dw_lie_0 : decode cL_lie 0 = .ok (.aload_n 3, 1) := by decide +kernel
theorem dw_lie_1 : decode cL_lie 1 = .ok (.iconst 0, 1) := by decide +kernel
theorem dw_lie_2 : decode cL_lie 2 = .ok (.aload_n 0, 1) := by decide +kernel
theorem dw_lie_3 : decode cL_lie 3 = .ok (.iload_n 1, 1) := by decide +kernel
theorem dw_lie_4 : decode cL_lie 4 = .ok (.iload_n 2, 1) := by decide +kernel
theorem dw_lie_5 : decode cL_lie 5 = .ok (.invokevirtual 123, 3) := by decide +kernel
theorem dw_lie_8 : decode cL_lie 8 = .ok (.i2l, 1) := by decide +kernel
theorem dw_lie_9 : decode cL_lie 9 = .ok (.lastore, 1) := by decide +kernel
theorem dw_lie_10 : decode cL_lie 10 = .ok (.goto 15, 3) := by decide +kernel
theorem dw_lie_13 : decode cL_lie 13 = .ok (.astore 4, 2) := by decide +kernel
theorem dw_lie_15 : decode cL_lie 15 = .ok (.iconst 1, 1) := by decide +kernel
theorem dw_lie_16 : decode cL_lie 16 = .ok (.ireturn, 1) := by decide +kernel
theorem dw_lie_17 : decode cL_lie 17 = .ok (.astore 4, 2) := by decide +kernel
theorem dw_lie_19 : decode cL_lie 19 = .ok (.iconst 2, 1) := by decide +kernel
theorem dw_lie_20 : decode cL_lie 20 = .ok (.ireturn, 1) := by decide +kernel
theorem dw_lie_21 : decode cL_lie 21 = .ok (.astore 4, 2) := by decide +kernel
theorem dw_lie_23 : decode cL_lie 23 = .ok (.iconst 3, 1) := by decide +kernel
theorem dw_lie_24 : decode cL_lie 24 = .ok (.ireturn, 1) := by decide +kernel
theorem dw_lie_25 : decode cL_lie 25 = .ok (.iconst 0, 1) := by decide +kernel
theorem dw_lie_26 : decode cL_lie 26 = .ok (.ireturn, 1) := by decide +kernel
theorem gw_X6_lie : en_CV en_cw RL 123 yX6_lie RX6 cX6_lie 4 (some .int) 2 := en_gv cwl1126 cwl1127 cwl1128 cwl75 cwl1129 ⟨rfl, by decide, by decide, by decide +kernel⟩
set_option maxHeartbeats 4000000 in
set_option maxRecDepth 100000 in
theorem wr_lie {l : Launch} (hl9 : l.stackTraces = false) {PP : Int32 → Int32 → Prop} (hPP : en_P0 PP) (Ω : Nat → en_H → va_W → Prop) (D : va_G) (tys : List (ClassId × FieldType)) (cO cD : ClassId) (sh : en_H) (w : va_W) (sz qx qo : Nat) (fx : List Value) (g0 : (Nat → Int64)) (a1 : Int32) (a2 : Int32) (hb2 : 0 ≤ a2.toInt ∧ a2.toInt ≤ 1) (hTY : tys.map Prod.snd = en_TY0) (hW : en_W PP en_KT k_X6_lie_0.2.2.2.2.1 sh tys (fun _ => False) w) (hD0 : va_D (va_A w sz) w) (hΩ : en_Om en_om0 sh Ω) (hqx : sh.1[qx]? = some 0) (hwx : w[qx]? = some (sh.2 qx, .inr (12, fx))) (hqo : sh.1[qo]? = some 56) (hwo : w[qo]? = some (sh.2 qo, .inl (cO, 1, .inr (.inl g0)))) :
    Met l yL_lie (Cond.codeWith yL_lie cL_lie 5 (some .int) [(0, 10, 13, 23), (0, 10, 17, 15), (0, 10, 21, 54)] :: en_cw) (en_rm 2 (3, 18)) (va_Pc [.ref (sh.2 qx), .int a1, .int a2, .ref (sh.2 qo)] (en_B D vwCl (tys ++ [(cO, .long), (cD, .double)]) w sz)) (va_Qi (fun _ u => (en_Px tys PP en_KT k_X6_lie_0.2.2.2.2.1 ((56, 0) :: k_X6_lie_0.2.2.2.1) sh w u ∧ ∃ g, u.2[qo]? = some (sh.2 qo, .inl (cO, 1, .inr (.inl g))))) (en_Bw D vwCl (va_A w sz)) (va_A w sz)) 3 18 (va_A w sz) := by
  refine va_MetW (cc := cL_lie) (maxL := 5) (ret := some .int) (hh := [(0, 10, 13, 23), (0, 10, 17, 15), (0, 10, 21, 54)]) (by decide +kernel) rfl ?_
  intro p e s m args below meth c s₁ B hml hv
  obtain ⟨rfl, hsz, hP, hK, hT⟩ := hv
  subst hsz
  have hx := B.exec
  have hb := B.bytes
  have hr := B.returns
  have hts0 := atoms_spec (ws := Cond.codeWith yL_lie cL_lie 5 (some .int) [(0, 10, 13, 23), (0, 10, 17, 15), (0, 10, 21, 54)] :: en_cw) B.pre
  have hts : ∀ z ∈ en_cw, z.before _ s = true := fun z hz => hts0 z (List.mem_cons_of_mem _ hz)
  have hown : s.vm.findClass RL = some m.cls := findClass_of_methodNamed B.named
  have htab := vx_table (x := yL_lie) B (hts0 _ List.mem_cons_self)
  have hA : ∀ q : Nat, s.heap.size ≤ q → va_A w s.heap.size q := fun q h => Or.inr h
  have hS : va_S (va_A w s.heap.size) s.heap s.heap [] := va_S.rf
  have hK0 : va_K D vwCl tys s := hK.pre
  have hTt : (tys ++ [(cO, .long), (cD, .double)])[7]? = some (cO, .long) := wr_ty hTY
  have hl := lv_entry ([.ref (sh.2 qx), .int a1, .int a2, .ref (sh.2 qo)]) (n := 5) (Nat.le_of_ble_eq_true rfl)
  rw [lg_entry_eq]
  generalize (lg_sl ([.ref (sh.2 qx), .int a1, .int a2, .ref (sh.2 qo)]) ++ List.replicate (5 - (lg_sl ([.ref (sh.2 qx), .int a1, .int a2, .ref (sh.2 qo)])).length) Slot.unset).toArray = ls at hl ⊢
  have hl : lv_has ls 5 [(0, .ref (sh.2 qx)), (1, .int a1), (2, .int a2), (3, .ref (sh.2 qo))] := hl
  refine lv_aload_n hx hb dw_lie_0 rfl (lv_at hl 3 rfl) ?_
  refine lv_iconst (v := 0) hx hb dw_lie_1 (by decide) ?_
  refine lv_aload_n hx hb dw_lie_2 rfl (lv_at hl 0 rfl) ?_
  refine lv_iload_n hx hb dw_lie_3 rfl (lv_at hl 1 rfl) ?_
  refine lv_iload_n hx hb dw_lie_4 rfl (lv_at hl 2 rfl) ?_
  refine en_hcV (q0 := qx) (b := sh.2 qx) (fs := fx) (co := 12) (ρp := [.ref (sh.2 qx), .int a1, .int a2]) (As := [.int a1, .int a2]) (rest := [.int 0, .ref (sh.2 qo)]) (lv' := 1) (ct_X6_lie_0 hl9 hPP Ω) gw_X6_lie rfl rfl hwx rfl rfl (Nat.le_of_ble_eq_true rfl) ⟨Nat.le_of_ble_eq_true rfl, Nat.le_of_ble_eq_true rfl⟩ ⟨Nat.le_of_ble_eq_true rfl, Nat.le_of_ble_eq_true rfl⟩ (Nat.le_of_ble_eq_true rfl) hx hb (hml.trans hl.1.symm) hts hown hTY hK0 hT hP hD0 hS hA hW hΩ (wr_pa (env := k_X6_lie_0.2.1.1) ⟨⟨qx, hqx, rfl⟩, ⟨a1, rfl, en_lo a1, en_hi a1⟩, ⟨a2, rfl, hb2.1, hb2.2⟩, trivial⟩) dw_lie_5 (fun x9 hx9 ce q9 u H1 locs1 hpx hP1 hD1 hS1 hcell hvm hcl => ?_) (fun u res H1 locs1 hrv hpo hP1 hD1 hS1 => ?_)
  · have hku := wr_keep hpx hqo (by decide +kernel) hwo
    have hpx9 := wr_same hpx ((56, 0) :: k_X6_lie_0.2.2.2.1) (fun z hz => List.mem_cons_of_mem _ hz)
    rcases List.mem_cons.mp hx9 with hx8 | hx9
    · subst hx8
      refine vx_catch (E := "java/lang/IllegalStateException") (name := "java/lang/IllegalStateException") hown [⟨0, 10, 13, 23⟩] ⟨0, 10, 17, 15⟩ [⟨0, 10, 21, 54⟩] (htab.trans rfl) (wr_cons (Or.inr ⟨by decide, "java/lang/IndexOutOfBoundsException", (hts (.classLink RL 23 "java/lang/IndexOutOfBoundsException") cwl619), hT.2.2.2.2.1 _ (by decide +kernel) _ (by decide +kernel) (by decide)⟩) wr_nil) (by decide) (by decide) (hts (.classLink RL 15 "java/lang/IllegalStateException") cwl499) (va_Nw.use rfl (hT.1 (Cond.castable "java/lang/IllegalStateException" "java/lang/IllegalStateException") (tf_cast (69, "java/lang/IllegalStateException") (by decide +kernel)))) hcell hvm hcl ?_
      refine lv_astore (lv' := (4, .ref q9) :: [(0, .ref (sh.2 qx)), (1, .int a1), (2, .int a2), (3, .ref (sh.2 qo))]) hx hb dw_lie_17 hl (by decide) rfl (fun ls hl => ?_)
      refine lv_iconst (v := 2) hx hb dw_lie_19 (by decide) ?_
      exact W.widen (Nat.le_of_ble_eq_true rfl) (Nat.le_of_ble_eq_true rfl) (W.iret (v := 2) hx hb hr (fun t ht hW9 => ⟨⟨2, u, rfl, ⟨hpx9, g0, hku⟩, by rw [ht]; exact hP1, hD1⟩, hS1.F ht⟩) hS1.2.2 dw_lie_20)
    rcases List.mem_cons.mp hx9 with hx8 | hx9
    · subst hx8
      refine vx_catch (E := "java/lang/IndexOutOfBoundsException") (name := "java/lang/IndexOutOfBoundsException") hown [] ⟨0, 10, 13, 23⟩ [⟨0, 10, 17, 15⟩, ⟨0, 10, 21, 54⟩] (htab.trans rfl) wr_nil (by decide) (by decide) (hts (.classLink RL 23 "java/lang/IndexOutOfBoundsException") cwl619) (va_Nw.use rfl (hT.1 (Cond.castable "java/lang/IndexOutOfBoundsException" "java/lang/IndexOutOfBoundsException") (tf_cast (539, "java/lang/IndexOutOfBoundsException") (by decide +kernel)))) hcell hvm hcl ?_
      refine lv_astore (lv' := (4, .ref q9) :: [(0, .ref (sh.2 qx)), (1, .int a1), (2, .int a2), (3, .ref (sh.2 qo))]) hx hb dw_lie_13 hl (by decide) rfl (fun ls hl => ?_)
      refine lv_iconst (v := 1) hx hb dw_lie_15 (by decide) ?_
      exact W.widen (Nat.le_of_ble_eq_true rfl) (Nat.le_of_ble_eq_true rfl) (W.iret (v := 1) hx hb hr (fun t ht hW9 => ⟨⟨1, u, rfl, ⟨hpx9, g0, hku⟩, by rw [ht]; exact hP1, hD1⟩, hS1.F ht⟩) hS1.2.2 dw_lie_16)
    have hx8 := List.mem_singleton.mp hx9
    subst hx8
    refine vx_catch (E := "java/util/NoSuchElementException") (name := "java/util/NoSuchElementException") hown [⟨0, 10, 13, 23⟩, ⟨0, 10, 17, 15⟩] ⟨0, 10, 21, 54⟩ [] (htab.trans rfl) (wr_cons (Or.inr ⟨by decide, "java/lang/IndexOutOfBoundsException", (hts (.classLink RL 23 "java/lang/IndexOutOfBoundsException") cwl619), hT.2.2.2.2.1 _ (by decide +kernel) _ (by decide +kernel) (by decide)⟩) (wr_cons (Or.inr ⟨by decide, "java/lang/IllegalStateException", (hts (.classLink RL 15 "java/lang/IllegalStateException") cwl499), hT.2.2.2.2.1 _ (by decide +kernel) _ (by decide +kernel) (by decide)⟩) wr_nil)) (by decide) (by decide) (hts (.classLink RL 54 "java/util/NoSuchElementException") cwl765) (va_Nw.use rfl (hT.1 (Cond.castable "java/util/NoSuchElementException" "java/util/NoSuchElementException") (tf_cast (181, "java/util/NoSuchElementException") (by decide +kernel)))) hcell hvm hcl ?_
    refine lv_astore (lv' := (4, .ref q9) :: [(0, .ref (sh.2 qx)), (1, .int a1), (2, .int a2), (3, .ref (sh.2 qo))]) hx hb dw_lie_21 hl (by decide) rfl (fun ls hl => ?_)
    refine lv_iconst (v := 3) hx hb dw_lie_23 (by decide) ?_
    exact W.widen (Nat.le_of_ble_eq_true rfl) (Nat.le_of_ble_eq_true rfl) (W.iret (v := 3) hx hb hr (fun t ht hW9 => ⟨⟨3, u, rfl, ⟨hpx9, g0, hku⟩, by rw [ht]; exact hP1, hD1⟩, hS1.F ht⟩) hS1.2.2 dw_lie_24)
  · obtain ⟨hpx, hpo9⟩ := hpo
    have hku := wr_keep hpx hqo (by decide +kernel) hwo
    obtain ⟨r9, rfl⟩ := hrv
    refine lv_i2l hx hb dw_lie_8 rfl ?_
    refine va_last hx hb hK hP1 hD1 hS1 qo 7 hku hTt (vp_in_nI (n := 0) (by decide) (by decide)) dw_lie_9 (fun H2 locs2 hP2 hD2 hS2 => ?_)
    obtain ⟨g9, hg9⟩ : ∃ g9, g9 = vp_updL g0 (0 : Int32).toNatClampNeg r9.toInt64 := ⟨_, rfl⟩
    rw [← hg9] at hP2 hD2
    refine lv_goto (tgt := 25) hx hb dw_lie_10 (by decide) ?_
    refine lv_iconst (v := 0) hx hb dw_lie_25 (by decide) ?_
    exact W.widen (Nat.le_of_ble_eq_true rfl) (Nat.le_of_ble_eq_true rfl) (W.iret (v := 0) hx hb hr (fun t ht hW9 => ⟨⟨0, (u.1, u.2.set qo (sh.2 qo, .inl (cO, 1, .inr (.inl g9)))), rfl, ⟨wr_set hpx hqo (by decide +kernel) (by decide +kernel) hwo ⟨rfl, rfl⟩, g9, wr_get hku⟩, by rw [ht]; exact hP2, hD2⟩, hS2.F ht⟩) hS2.2.2 dw_lie_26)
theorem dw_line_0 : decode cL_line 0 = .ok (.aload_n 3, 1) := by decide +kernel
theorem dw_line_1 : decode cL_line 1 = .ok (.iconst 0, 1) := by decide +kernel
theorem dw_line_2 : decode cL_line 2 = .ok (.aload_n 0, 1) := by decide +kernel
theorem dw_line_3 : decode cL_line 3 = .ok (.iload_n 1, 1) := by decide +kernel
theorem dw_line_4 : decode cL_line 4 = .ok (.iload_n 2, 1) := by decide +kernel
theorem dw_line_5 : decode cL_line 5 = .ok (.invokevirtual 74, 3) := by decide +kernel
theorem dw_line_8 : decode cL_line 8 = .ok (.i2l, 1) := by decide +kernel
theorem dw_line_9 : decode cL_line 9 = .ok (.lastore, 1) := by decide +kernel
theorem dw_line_10 : decode cL_line 10 = .ok (.goto 19, 3) := by decide +kernel
theorem dw_line_13 : decode cL_line 13 = .ok (.astore 4, 2) := by decide +kernel
theorem dw_line_15 : decode cL_line 15 = .ok (.iconst 1, 1) := by decide +kernel
theorem dw_line_16 : decode cL_line 16 = .ok (.ireturn, 1) := by decide +kernel
theorem dw_line_17 : decode cL_line 17 = .ok (.astore 4, 2) := by decide +kernel
theorem dw_line_19 : decode cL_line 19 = .ok (.iconst 2, 1) := by decide +kernel
theorem dw_line_20 : decode cL_line 20 = .ok (.ireturn, 1) := by decide +kernel
theorem dw_line_21 : decode cL_line 21 = .ok (.astore 4, 2) := by decide +kernel
theorem dw_line_23 : decode cL_line 23 = .ok (.iconst 3, 1) := by decide +kernel
theorem dw_line_24 : decode cL_line 24 = .ok (.ireturn, 1) := by decide +kernel
theorem dw_line_25 : decode cL_line 25 = .ok (.astore 4, 2) := by decide +kernel
theorem dw_line_27 : decode cL_line 27 = .ok (.iconst 4, 1) := by decide +kernel
theorem dw_line_28 : decode cL_line 28 = .ok (.ireturn, 1) := by decide +kernel
theorem dw_line_29 : decode cL_line 29 = .ok (.iconst 0, 1) := by decide +kernel
theorem dw_line_30 : decode cL_line 30 = .ok (.ireturn, 1) := by decide +kernel
theorem gw_X6_line : en_CV en_cw RL 74 yX6_line RX6 cX6_line 6 (some .int) 2 := en_gv cwl931 cwl932 cwl933 cwl75 cwl934 ⟨rfl, by decide, by decide, by decide +kernel⟩
set_option maxHeartbeats 4000000 in
set_option maxRecDepth 100000 in
theorem wr_line {l : Launch} (hl9 : l.stackTraces = false) {PP : Int32 → Int32 → Prop} (hPP : en_P0 PP) (Ω : Nat → en_H → va_W → Prop) (D : va_G) (tys : List (ClassId × FieldType)) (cO cD : ClassId) (sh : en_H) (w : va_W) (sz qx qo : Nat) (fx : List Value) (g0 : (Nat → Int64)) (a1 : Int32) (a2 : Int32) (hTY : tys.map Prod.snd = en_TY0) (hW : en_W PP en_KT k_X6_line_0.2.2.2.2.1 sh tys (fun _ => False) w) (hD0 : va_D (va_A w sz) w) (hΩ : en_Om en_om0 sh Ω) (hqx : sh.1[qx]? = some 0) (hwx : w[qx]? = some (sh.2 qx, .inr (12, fx))) (hqo : sh.1[qo]? = some 56) (hwo : w[qo]? = some (sh.2 qo, .inl (cO, 1, .inr (.inl g0)))) :
    Met l yL_line (Cond.codeWith yL_line cL_line 5 (some .int) [(0, 10, 13, 23), (0, 10, 17, 13), (0, 10, 21, 15), (0, 10, 25, 17)] :: en_cw) (en_rm 5 (3, 18)) (va_Pc [.ref (sh.2 qx), .int a1, .int a2, .ref (sh.2 qo)] (en_B D vwCl (tys ++ [(cO, .long), (cD, .double)]) w sz)) (va_Qi (fun _ u => (en_Px tys PP en_KT k_X6_line_0.2.2.2.2.1 ((56, 0) :: k_X6_line_0.2.2.2.1) sh w u ∧ ∃ g, u.2[qo]? = some (sh.2 qo, .inl (cO, 1, .inr (.inl g))))) (en_Bw D vwCl (va_A w sz)) (va_A w sz)) 3 18 (va_A w sz) := by
  refine va_MetW (cc := cL_line) (maxL := 5) (ret := some .int) (hh := [(0, 10, 13, 23), (0, 10, 17, 13), (0, 10, 21, 15), (0, 10, 25, 17)]) (by decide +kernel) rfl ?_
  intro p e s m args below meth c s₁ B hml hv
  obtain ⟨rfl, hsz, hP, hK, hT⟩ := hv
  subst hsz
  have hx := B.exec
  have hb := B.bytes
  have hr := B.returns
  have hts0 := atoms_spec (ws := Cond.codeWith yL_line cL_line 5 (some .int) [(0, 10, 13, 23), (0, 10, 17, 13), (0, 10, 21, 15), (0, 10, 25, 17)] :: en_cw) B.pre
  have hts : ∀ z ∈ en_cw, z.before _ s = true := fun z hz => hts0 z (List.mem_cons_of_mem _ hz)
  have hown : s.vm.findClass RL = some m.cls := findClass_of_methodNamed B.named
  have htab := vx_table (x := yL_line) B (hts0 _ List.mem_cons_self)
  have hA : ∀ q : Nat, s.heap.size ≤ q → va_A w s.heap.size q := fun q h => Or.inr h
  have hS : va_S (va_A w s.heap.size) s.heap s.heap [] := va_S.rf
  have hK0 : va_K D vwCl tys s := hK.pre
  have hTt : (tys ++ [(cO, .long), (cD, .double)])[7]? = some (cO, .long) := wr_ty hTY
  have hl := lv_entry ([.ref (sh.2 qx), .int a1, .int a2, .ref (sh.2 qo)]) (n := 5) (Nat.le_of_ble_eq_true rfl)
  rw [lg_entry_eq]
  generalize (lg_sl ([.ref (sh.2 qx), .int a1, .int a2, .ref (sh.2 qo)]) ++ List.replicate (5 - (lg_sl ([.ref (sh.2 qx), .int a1, .int a2, .ref (sh.2 qo)])).length) Slot.unset).toArray = ls at hl ⊢
  have hl : lv_has ls 5 [(0, .ref (sh.2 qx)), (1, .int a1), (2, .int a2), (3, .ref (sh.2 qo))] := hl
  refine lv_aload_n hx hb dw_line_0 rfl (lv_at hl 3 rfl) ?_
  refine lv_iconst (v := 0) hx hb dw_line_1 (by decide) ?_
  refine lv_aload_n hx hb dw_line_2 rfl (lv_at hl 0 rfl) ?_
  refine lv_iload_n hx hb dw_line_3 rfl (lv_at hl 1 rfl) ?_
  refine lv_iload_n hx hb dw_line_4 rfl (lv_at hl 2 rfl) ?_
  refine en_hcV (q0 := qx) (b := sh.2 qx) (fs := fx) (co := 12) (ρp := [.ref (sh.2 qx), .int a1, .int a2]) (As := [.int a1, .int a2]) (rest := [.int 0, .ref (sh.2 qo)]) (lv' := 4) (ct_X6_line_0 hl9 hPP Ω) gw_X6_line rfl rfl hwx rfl rfl (Nat.le_of_ble_eq_true rfl) ⟨Nat.le_of_ble_eq_true rfl, Nat.le_of_ble_eq_true rfl⟩ ⟨Nat.le_of_ble_eq_true rfl, Nat.le_of_ble_eq_true rfl⟩ (Nat.le_of_ble_eq_true rfl) hx hb (hml.trans hl.1.symm) hts hown hTY hK0 hT hP hD0 hS hA hW hΩ (wr_pa (env := k_X6_line_0.2.1.1) ⟨⟨qx, hqx, rfl⟩, ⟨a1, rfl, en_lo a1, en_hi a1⟩, ⟨a2, rfl, en_lo a2, en_hi a2⟩, trivial⟩) dw_line_5 (fun x9 hx9 ce q9 u H1 locs1 hpx hP1 hD1 hS1 hcell hvm hcl => ?_) (fun u res H1 locs1 hrv hpo hP1 hD1 hS1 => ?_)
  · have hku := wr_keep hpx hqo (by decide +kernel) hwo
    have hpx9 := wr_same hpx ((56, 0) :: k_X6_line_0.2.2.2.1) (fun z hz => List.mem_cons_of_mem _ hz)
    rcases List.mem_cons.mp hx9 with hx8 | hx9
    · subst hx8
      refine vx_catch (E := "java/lang/IllegalArgumentException") (name := "java/lang/IllegalArgumentException") hown [⟨0, 10, 13, 23⟩] ⟨0, 10, 17, 13⟩ [⟨0, 10, 21, 15⟩, ⟨0, 10, 25, 17⟩] (htab.trans rfl) (wr_cons (Or.inr ⟨by decide, "java/lang/IndexOutOfBoundsException", (hts (.classLink RL 23 "java/lang/IndexOutOfBoundsException") cwl619), hT.2.2.2.2.1 _ (by decide +kernel) _ (by decide +kernel) (by decide)⟩) wr_nil) (by decide) (by decide) (hts (.classLink RL 13 "java/lang/IllegalArgumentException") cwl498) (va_Nw.use rfl (hT.1 (Cond.castable "java/lang/IllegalArgumentException" "java/lang/IllegalArgumentException") (tf_cast (53, "java/lang/IllegalArgumentException") (by decide +kernel)))) hcell hvm hcl ?_
      refine lv_astore (lv' := (4, .ref q9) :: [(0, .ref (sh.2 qx)), (1, .int a1), (2, .int a2), (3, .ref (sh.2 qo))]) hx hb dw_line_17 hl (by decide) rfl (fun ls hl => ?_)
      refine lv_iconst (v := 2) hx hb dw_line_19 (by decide) ?_
      exact W.widen (Nat.le_of_ble_eq_true rfl) (Nat.le_of_ble_eq_true rfl) (W.iret (v := 2) hx hb hr (fun t ht hW9 => ⟨⟨2, u, rfl, ⟨hpx9, g0, hku⟩, by rw [ht]; exact hP1, hD1⟩, hS1.F ht⟩) hS1.2.2 dw_line_20)
    rcases List.mem_cons.mp hx9 with hx8 | hx9
    · subst hx8
      refine vx_catch (E := "java/lang/IllegalStateException") (name := "java/lang/IllegalStateException") hown [⟨0, 10, 13, 23⟩, ⟨0, 10, 17, 13⟩] ⟨0, 10, 21, 15⟩ [⟨0, 10, 25, 17⟩] (htab.trans rfl) (wr_cons (Or.inr ⟨by decide, "java/lang/IndexOutOfBoundsException", (hts (.classLink RL 23 "java/lang/IndexOutOfBoundsException") cwl619), hT.2.2.2.2.1 _ (by decide +kernel) _ (by decide +kernel) (by decide)⟩) (wr_cons (Or.inr ⟨by decide, "java/lang/IllegalArgumentException", (hts (.classLink RL 13 "java/lang/IllegalArgumentException") cwl498), hT.2.2.2.2.1 _ (by decide +kernel) _ (by decide +kernel) (by decide)⟩) wr_nil)) (by decide) (by decide) (hts (.classLink RL 15 "java/lang/IllegalStateException") cwl499) (va_Nw.use rfl (hT.1 (Cond.castable "java/lang/IllegalStateException" "java/lang/IllegalStateException") (tf_cast (69, "java/lang/IllegalStateException") (by decide +kernel)))) hcell hvm hcl ?_
      refine lv_astore (lv' := (4, .ref q9) :: [(0, .ref (sh.2 qx)), (1, .int a1), (2, .int a2), (3, .ref (sh.2 qo))]) hx hb dw_line_21 hl (by decide) rfl (fun ls hl => ?_)
      refine lv_iconst (v := 3) hx hb dw_line_23 (by decide) ?_
      exact W.widen (Nat.le_of_ble_eq_true rfl) (Nat.le_of_ble_eq_true rfl) (W.iret (v := 3) hx hb hr (fun t ht hW9 => ⟨⟨3, u, rfl, ⟨hpx9, g0, hku⟩, by rw [ht]; exact hP1, hD1⟩, hS1.F ht⟩) hS1.2.2 dw_line_24)
    rcases List.mem_cons.mp hx9 with hx8 | hx9
    · subst hx8
      refine vx_catch (E := "java/lang/UnsupportedOperationException") (name := "java/lang/UnsupportedOperationException") hown [⟨0, 10, 13, 23⟩, ⟨0, 10, 17, 13⟩, ⟨0, 10, 21, 15⟩] ⟨0, 10, 25, 17⟩ [] (htab.trans rfl) (wr_cons (Or.inr ⟨by decide, "java/lang/IndexOutOfBoundsException", (hts (.classLink RL 23 "java/lang/IndexOutOfBoundsException") cwl619), hT.2.2.2.2.1 _ (by decide +kernel) _ (by decide +kernel) (by decide)⟩) (wr_cons (Or.inr ⟨by decide, "java/lang/IllegalArgumentException", (hts (.classLink RL 13 "java/lang/IllegalArgumentException") cwl498), hT.2.2.2.2.1 _ (by decide +kernel) _ (by decide +kernel) (by decide)⟩) (wr_cons (Or.inr ⟨by decide, "java/lang/IllegalStateException", (hts (.classLink RL 15 "java/lang/IllegalStateException") cwl499), hT.2.2.2.2.1 _ (by decide +kernel) _ (by decide +kernel) (by decide)⟩) wr_nil))) (by decide) (by decide) (hts (.classLink RL 17 "java/lang/UnsupportedOperationException") cwl500) (va_Nw.use rfl (hT.1 (Cond.castable "java/lang/UnsupportedOperationException" "java/lang/UnsupportedOperationException") (tf_cast (78, "java/lang/UnsupportedOperationException") (by decide +kernel)))) hcell hvm hcl ?_
      refine lv_astore (lv' := (4, .ref q9) :: [(0, .ref (sh.2 qx)), (1, .int a1), (2, .int a2), (3, .ref (sh.2 qo))]) hx hb dw_line_25 hl (by decide) rfl (fun ls hl => ?_)
      refine lv_iconst (v := 4) hx hb dw_line_27 (by decide) ?_
      exact W.widen (Nat.le_of_ble_eq_true rfl) (Nat.le_of_ble_eq_true rfl) (W.iret (v := 4) hx hb hr (fun t ht hW9 => ⟨⟨4, u, rfl, ⟨hpx9, g0, hku⟩, by rw [ht]; exact hP1, hD1⟩, hS1.F ht⟩) hS1.2.2 dw_line_28)
    have hx8 := List.mem_singleton.mp hx9
    subst hx8
    refine vx_catch (E := "java/lang/IndexOutOfBoundsException") (name := "java/lang/IndexOutOfBoundsException") hown [] ⟨0, 10, 13, 23⟩ [⟨0, 10, 17, 13⟩, ⟨0, 10, 21, 15⟩, ⟨0, 10, 25, 17⟩] (htab.trans rfl) wr_nil (by decide) (by decide) (hts (.classLink RL 23 "java/lang/IndexOutOfBoundsException") cwl619) (va_Nw.use rfl (hT.1 (Cond.castable "java/lang/IndexOutOfBoundsException" "java/lang/IndexOutOfBoundsException") (tf_cast (539, "java/lang/IndexOutOfBoundsException") (by decide +kernel)))) hcell hvm hcl ?_
    refine lv_astore (lv' := (4, .ref q9) :: [(0, .ref (sh.2 qx)), (1, .int a1), (2, .int a2), (3, .ref (sh.2 qo))]) hx hb dw_line_13 hl (by decide) rfl (fun ls hl => ?_)
    refine lv_iconst (v := 1) hx hb dw_line_15 (by decide) ?_
    exact W.widen (Nat.le_of_ble_eq_true rfl) (Nat.le_of_ble_eq_true rfl) (W.iret (v := 1) hx hb hr (fun t ht hW9 => ⟨⟨1, u, rfl, ⟨hpx9, g0, hku⟩, by rw [ht]; exact hP1, hD1⟩, hS1.F ht⟩) hS1.2.2 dw_line_16)
  · obtain ⟨hpx, hpo9⟩ := hpo
    have hku := wr_keep hpx hqo (by decide +kernel) hwo
    obtain ⟨r9, rfl⟩ := hrv
    refine lv_i2l hx hb dw_line_8 rfl ?_
    refine va_last hx hb hK hP1 hD1 hS1 qo 7 hku hTt (vp_in_nI (n := 0) (by decide) (by decide)) dw_line_9 (fun H2 locs2 hP2 hD2 hS2 => ?_)
    obtain ⟨g9, hg9⟩ : ∃ g9, g9 = vp_updL g0 (0 : Int32).toNatClampNeg r9.toInt64 := ⟨_, rfl⟩
    rw [← hg9] at hP2 hD2
    refine lv_goto (tgt := 29) hx hb dw_line_10 (by decide) ?_
    refine lv_iconst (v := 0) hx hb dw_line_29 (by decide) ?_
    exact W.widen (Nat.le_of_ble_eq_true rfl) (Nat.le_of_ble_eq_true rfl) (W.iret (v := 0) hx hb hr (fun t ht hW9 => ⟨⟨0, (u.1, u.2.set qo (sh.2 qo, .inl (cO, 1, .inr (.inl g9)))), rfl, ⟨wr_set hpx hqo (by decide +kernel) (by decide +kernel) hwo ⟨rfl, rfl⟩, g9, wr_get hku⟩, by rw [ht]; exact hP2, hD2⟩, hS2.F ht⟩) hS2.2.2 dw_line_30)
theorem dw_lowIndex_0 : decode cL_lowIndex 0 = .ok (.aload_n 2, 1) := by decide +kernel
theorem dw_lowIndex_1 : decode cL_lowIndex 1 = .ok (.iconst 0, 1) := by decide +kernel
theorem dw_lowIndex_2 : decode cL_lowIndex 2 = .ok (.aload_n 0, 1) := by decide +kernel
theorem dw_lowIndex_3 : decode cL_lowIndex 3 = .ok (.iload_n 1, 1) := by decide +kernel
theorem dw_lowIndex_4 : decode cL_lowIndex 4 = .ok (.invokevirtual 188, 3) := by decide +kernel
theorem dw_lowIndex_7 : decode cL_lowIndex 7 = .ok (.i2l, 1) := by decide +kernel
theorem dw_lowIndex_8 : decode cL_lowIndex 8 = .ok (.lastore, 1) := by decide +kernel
theorem dw_lowIndex_9 : decode cL_lowIndex 9 = .ok (.goto 9, 3) := by decide +kernel
theorem dw_lowIndex_12 : decode cL_lowIndex 12 = .ok (.astore_n 3, 1) := by decide +kernel
theorem dw_lowIndex_13 : decode cL_lowIndex 13 = .ok (.iconst 1, 1) := by decide +kernel
theorem dw_lowIndex_14 : decode cL_lowIndex 14 = .ok (.ireturn, 1) := by decide +kernel
theorem dw_lowIndex_15 : decode cL_lowIndex 15 = .ok (.astore_n 3, 1) := by decide +kernel
theorem dw_lowIndex_16 : decode cL_lowIndex 16 = .ok (.iconst 2, 1) := by decide +kernel
theorem dw_lowIndex_17 : decode cL_lowIndex 17 = .ok (.ireturn, 1) := by decide +kernel
theorem dw_lowIndex_18 : decode cL_lowIndex 18 = .ok (.iconst 0, 1) := by decide +kernel
theorem dw_lowIndex_19 : decode cL_lowIndex 19 = .ok (.ireturn, 1) := by decide +kernel
theorem gw_X6_lowIndex : en_CV en_cw RL 188 yX6_lowIndex RX6 cX6_lowIndex 2 (some .int) 1 := en_gv cwl1361 cwl1362 cwl1363 cwl75 cwl1364 ⟨rfl, by decide, by decide, by decide +kernel⟩
set_option maxHeartbeats 4000000 in
set_option maxRecDepth 100000 in
theorem wr_lowIndex {l : Launch} (hl9 : l.stackTraces = false) {PP : Int32 → Int32 → Prop} (hPP : en_P0 PP) (Ω : Nat → en_H → va_W → Prop) (D : va_G) (tys : List (ClassId × FieldType)) (cO cD : ClassId) (sh : en_H) (w : va_W) (sz qx qo : Nat) (fx : List Value) (g0 : (Nat → Int64)) (a1 : Int32) (hTY : tys.map Prod.snd = en_TY0) (hW : en_W PP en_KT k_X6_lowIndex_0.2.2.2.2.1 sh tys (fun _ => False) w) (hD0 : va_D (va_A w sz) w) (hΩ : en_Om en_om0 sh Ω) (hqx : sh.1[qx]? = some 0) (hwx : w[qx]? = some (sh.2 qx, .inr (12, fx))) (hqo : sh.1[qo]? = some 56) (hwo : w[qo]? = some (sh.2 qo, .inl (cO, 1, .inr (.inl g0)))) :
    Met l yL_lowIndex (Cond.codeWith yL_lowIndex cL_lowIndex 4 (some .int) [(0, 9, 12, 23), (0, 9, 15, 54)] :: en_cw) (en_rm 2 (2, 12)) (va_Pc [.ref (sh.2 qx), .int a1, .ref (sh.2 qo)] (en_B D vwCl (tys ++ [(cO, .long), (cD, .double)]) w sz)) (va_Qi (fun _ u => (en_Px tys PP en_KT k_X6_lowIndex_0.2.2.2.2.1 ((56, 0) :: k_X6_lowIndex_0.2.2.2.1) sh w u ∧ ∃ g, u.2[qo]? = some (sh.2 qo, .inl (cO, 1, .inr (.inl g))))) (en_Bw D vwCl (va_A w sz)) (va_A w sz)) 2 12 (va_A w sz) := by
  refine va_MetW (cc := cL_lowIndex) (maxL := 4) (ret := some .int) (hh := [(0, 9, 12, 23), (0, 9, 15, 54)]) (by decide +kernel) rfl ?_
  intro p e s m args below meth c s₁ B hml hv
  obtain ⟨rfl, hsz, hP, hK, hT⟩ := hv
  subst hsz
  have hx := B.exec
  have hb := B.bytes
  have hr := B.returns
  have hts0 := atoms_spec (ws := Cond.codeWith yL_lowIndex cL_lowIndex 4 (some .int) [(0, 9, 12, 23), (0, 9, 15, 54)] :: en_cw) B.pre
  have hts : ∀ z ∈ en_cw, z.before _ s = true := fun z hz => hts0 z (List.mem_cons_of_mem _ hz)
  have hown : s.vm.findClass RL = some m.cls := findClass_of_methodNamed B.named
  have htab := vx_table (x := yL_lowIndex) B (hts0 _ List.mem_cons_self)
  have hA : ∀ q : Nat, s.heap.size ≤ q → va_A w s.heap.size q := fun q h => Or.inr h
  have hS : va_S (va_A w s.heap.size) s.heap s.heap [] := va_S.rf
  have hK0 : va_K D vwCl tys s := hK.pre
  have hTt : (tys ++ [(cO, .long), (cD, .double)])[7]? = some (cO, .long) := wr_ty hTY
  have hl := lv_entry ([.ref (sh.2 qx), .int a1, .ref (sh.2 qo)]) (n := 4) (Nat.le_of_ble_eq_true rfl)
  rw [lg_entry_eq]
  generalize (lg_sl ([.ref (sh.2 qx), .int a1, .ref (sh.2 qo)]) ++ List.replicate (4 - (lg_sl ([.ref (sh.2 qx), .int a1, .ref (sh.2 qo)])).length) Slot.unset).toArray = ls at hl ⊢
  have hl : lv_has ls 4 [(0, .ref (sh.2 qx)), (1, .int a1), (2, .ref (sh.2 qo))] := hl
  refine lv_aload_n hx hb dw_lowIndex_0 rfl (lv_at hl 2 rfl) ?_
  refine lv_iconst (v := 0) hx hb dw_lowIndex_1 (by decide) ?_
  refine lv_aload_n hx hb dw_lowIndex_2 rfl (lv_at hl 0 rfl) ?_
  refine lv_iload_n hx hb dw_lowIndex_3 rfl (lv_at hl 1 rfl) ?_
  refine en_hcV (q0 := qx) (b := sh.2 qx) (fs := fx) (co := 12) (ρp := [.ref (sh.2 qx), .int a1]) (As := [.int a1]) (rest := [.int 0, .ref (sh.2 qo)]) (lv' := 1) (ct_X6_lowIndex_0 hl9 hPP Ω) gw_X6_lowIndex rfl rfl hwx rfl rfl (Nat.le_of_ble_eq_true rfl) ⟨Nat.le_of_ble_eq_true rfl, Nat.le_of_ble_eq_true rfl⟩ ⟨Nat.le_of_ble_eq_true rfl, Nat.le_of_ble_eq_true rfl⟩ (Nat.le_of_ble_eq_true rfl) hx hb (hml.trans hl.1.symm) hts hown hTY hK0 hT hP hD0 hS hA hW hΩ (wr_pa (env := k_X6_lowIndex_0.2.1.1) ⟨⟨qx, hqx, rfl⟩, ⟨a1, rfl, en_lo a1, en_hi a1⟩, trivial⟩) dw_lowIndex_4 (fun x9 hx9 ce q9 u H1 locs1 hpx hP1 hD1 hS1 hcell hvm hcl => ?_) (fun u res H1 locs1 hrv hpo hP1 hD1 hS1 => ?_)
  · have hku := wr_keep hpx hqo (by decide +kernel) hwo
    have hpx9 := wr_same hpx ((56, 0) :: k_X6_lowIndex_0.2.2.2.1) (fun z hz => List.mem_cons_of_mem _ hz)
    rcases List.mem_cons.mp hx9 with hx8 | hx9
    · subst hx8
      refine vx_catch (E := "java/lang/IndexOutOfBoundsException") (name := "java/lang/IndexOutOfBoundsException") hown [] ⟨0, 9, 12, 23⟩ [⟨0, 9, 15, 54⟩] (htab.trans rfl) wr_nil (by decide) (by decide) (hts (.classLink RL 23 "java/lang/IndexOutOfBoundsException") cwl619) (va_Nw.use rfl (hT.1 (Cond.castable "java/lang/IndexOutOfBoundsException" "java/lang/IndexOutOfBoundsException") (tf_cast (539, "java/lang/IndexOutOfBoundsException") (by decide +kernel)))) hcell hvm hcl ?_
      refine lv_astore_n (lv' := (3, .ref q9) :: [(0, .ref (sh.2 qx)), (1, .int a1), (2, .ref (sh.2 qo))]) hx hb dw_lowIndex_12 rfl hl (by decide) rfl (fun ls hl => ?_)
      refine lv_iconst (v := 1) hx hb dw_lowIndex_13 (by decide) ?_
      exact W.widen (Nat.le_of_ble_eq_true rfl) (Nat.le_of_ble_eq_true rfl) (W.iret (v := 1) hx hb hr (fun t ht hW9 => ⟨⟨1, u, rfl, ⟨hpx9, g0, hku⟩, by rw [ht]; exact hP1, hD1⟩, hS1.F ht⟩) hS1.2.2 dw_lowIndex_14)
    have hx8 := List.mem_singleton.mp hx9
    subst hx8
    refine vx_catch (E := "java/util/NoSuchElementException") (name := "java/util/NoSuchElementException") hown [⟨0, 9, 12, 23⟩] ⟨0, 9, 15, 54⟩ [] (htab.trans rfl) (wr_cons (Or.inr ⟨by decide, "java/lang/IndexOutOfBoundsException", (hts (.classLink RL 23 "java/lang/IndexOutOfBoundsException") cwl619), hT.2.2.2.2.1 _ (by decide +kernel) _ (by decide +kernel) (by decide)⟩) wr_nil) (by decide) (by decide) (hts (.classLink RL 54 "java/util/NoSuchElementException") cwl765) (va_Nw.use rfl (hT.1 (Cond.castable "java/util/NoSuchElementException" "java/util/NoSuchElementException") (tf_cast (181, "java/util/NoSuchElementException") (by decide +kernel)))) hcell hvm hcl ?_
    refine lv_astore_n (lv' := (3, .ref q9) :: [(0, .ref (sh.2 qx)), (1, .int a1), (2, .ref (sh.2 qo))]) hx hb dw_lowIndex_15 rfl hl (by decide) rfl (fun ls hl => ?_)
    refine lv_iconst (v := 2) hx hb dw_lowIndex_16 (by decide) ?_
    exact W.widen (Nat.le_of_ble_eq_true rfl) (Nat.le_of_ble_eq_true rfl) (W.iret (v := 2) hx hb hr (fun t ht hW9 => ⟨⟨2, u, rfl, ⟨hpx9, g0, hku⟩, by rw [ht]; exact hP1, hD1⟩, hS1.F ht⟩) hS1.2.2 dw_lowIndex_17)
  · obtain ⟨hpx, hpo9⟩ := hpo
    have hku := wr_keep hpx hqo (by decide +kernel) hwo
    obtain ⟨r9, rfl⟩ := hrv
    refine lv_i2l hx hb dw_lowIndex_7 rfl ?_
    refine va_last hx hb hK hP1 hD1 hS1 qo 7 hku hTt (vp_in_nI (n := 0) (by decide) (by decide)) dw_lowIndex_8 (fun H2 locs2 hP2 hD2 hS2 => ?_)
    obtain ⟨g9, hg9⟩ : ∃ g9, g9 = vp_updL g0 (0 : Int32).toNatClampNeg r9.toInt64 := ⟨_, rfl⟩
    rw [← hg9] at hP2 hD2
    refine lv_goto (tgt := 18) hx hb dw_lowIndex_9 (by decide) ?_
    refine lv_iconst (v := 0) hx hb dw_lowIndex_18 (by decide) ?_
    exact W.widen (Nat.le_of_ble_eq_true rfl) (Nat.le_of_ble_eq_true rfl) (W.iret (v := 0) hx hb hr (fun t ht hW9 => ⟨⟨0, (u.1, u.2.set qo (sh.2 qo, .inl (cO, 1, .inr (.inl g9)))), rfl, ⟨wr_set hpx hqo (by decide +kernel) (by decide +kernel) hwo ⟨rfl, rfl⟩, g9, wr_get hku⟩, by rw [ht]; exact hP2, hD2⟩, hS2.F ht⟩) hS2.2.2 dw_lowIndex_19)
theorem dw_meanScore_0 : decode cL_meanScore 0 = .ok (.aload_n 2, 1) := by decide +kernel
theorem dw_meanScore_1 : decode cL_meanScore 1 = .ok (.iconst 0, 1) := by decide +kernel
theorem dw_meanScore_2 : decode cL_meanScore 2 = .ok (.aload_n 0, 1) := by decide +kernel
theorem dw_meanScore_3 : decode cL_meanScore 3 = .ok (.iload_n 1, 1) := by decide +kernel
theorem dw_meanScore_4 : decode cL_meanScore 4 = .ok (.invokevirtual 197, 3) := by decide +kernel
theorem dw_meanScore_7 : decode cL_meanScore 7 = .ok (.dastore, 1) := by decide +kernel
theorem dw_meanScore_8 : decode cL_meanScore 8 = .ok (.goto 9, 3) := by decide +kernel
theorem dw_meanScore_11 : decode cL_meanScore 11 = .ok (.astore_n 3, 1) := by decide +kernel
theorem dw_meanScore_12 : decode cL_meanScore 12 = .ok (.iconst 1, 1) := by decide +kernel
theorem dw_meanScore_13 : decode cL_meanScore 13 = .ok (.ireturn, 1) := by decide +kernel
theorem dw_meanScore_14 : decode cL_meanScore 14 = .ok (.astore_n 3, 1) := by decide +kernel
theorem dw_meanScore_15 : decode cL_meanScore 15 = .ok (.iconst 2, 1) := by decide +kernel
theorem dw_meanScore_16 : decode cL_meanScore 16 = .ok (.ireturn, 1) := by decide +kernel
theorem dw_meanScore_17 : decode cL_meanScore 17 = .ok (.iconst 0, 1) := by decide +kernel
theorem dw_meanScore_18 : decode cL_meanScore 18 = .ok (.ireturn, 1) := by decide +kernel
theorem gw_X6_meanScore : en_CV en_cw RL 197 yX6_meanScore RX6 cX6_meanScore 6 (some .double) 1 := en_gv cwl1391 cwl1392 cwl1393 cwl75 cwl1394 ⟨rfl, by decide, by decide, by decide +kernel⟩
set_option maxHeartbeats 4000000 in
set_option maxRecDepth 100000 in
theorem wr_meanScore {l : Launch} (hl9 : l.stackTraces = false) {PP : Int32 → Int32 → Prop} (hPP : en_P0 PP) (Ω : Nat → en_H → va_W → Prop) (D : va_G) (tys : List (ClassId × FieldType)) (cO cD : ClassId) (sh : en_H) (w : va_W) (sz qx qo : Nat) (fx : List Value) (g0 : (Nat → UInt64)) (a1 : Int32) (hTY : tys.map Prod.snd = en_TY0) (hW : en_W PP en_KT k_X6_meanScore_0.2.2.2.2.1 sh tys (fun _ => False) w) (hD0 : va_D (va_A w sz) w) (hΩ : en_Om en_om0 sh Ω) (hqx : sh.1[qx]? = some 0) (hwx : w[qx]? = some (sh.2 qx, .inr (12, fx))) (hqo : sh.1[qo]? = some 57) (hwo : w[qo]? = some (sh.2 qo, .inl (cD, 1, .inr (.inr (.inr (.inl g0)))))) :
    Met l yL_meanScore (Cond.codeWith yL_meanScore cL_meanScore 4 (some .int) [(0, 8, 11, 23), (0, 8, 14, 195)] :: en_cw) (en_rm 2 (2, 12)) (va_Pc [.ref (sh.2 qx), .int a1, .ref (sh.2 qo)] (en_B D vwCl (tys ++ [(cO, .long), (cD, .double)]) w sz)) (va_Qi (fun _ u => (en_Px tys PP en_KT k_X6_meanScore_0.2.2.2.2.1 ((57, 0) :: k_X6_meanScore_0.2.2.2.1) sh w u ∧ ∃ g, u.2[qo]? = some (sh.2 qo, .inl (cD, 1, .inr (.inr (.inr (.inl g))))))) (en_Bw D vwCl (va_A w sz)) (va_A w sz)) 2 12 (va_A w sz) := by
  refine va_MetW (cc := cL_meanScore) (maxL := 4) (ret := some .int) (hh := [(0, 8, 11, 23), (0, 8, 14, 195)]) (by decide +kernel) rfl ?_
  intro p e s m args below meth c s₁ B hml hv
  obtain ⟨rfl, hsz, hP, hK, hT⟩ := hv
  subst hsz
  have hx := B.exec
  have hb := B.bytes
  have hr := B.returns
  have hts0 := atoms_spec (ws := Cond.codeWith yL_meanScore cL_meanScore 4 (some .int) [(0, 8, 11, 23), (0, 8, 14, 195)] :: en_cw) B.pre
  have hts : ∀ z ∈ en_cw, z.before _ s = true := fun z hz => hts0 z (List.mem_cons_of_mem _ hz)
  have hown : s.vm.findClass RL = some m.cls := findClass_of_methodNamed B.named
  have htab := vx_table (x := yL_meanScore) B (hts0 _ List.mem_cons_self)
  have hA : ∀ q : Nat, s.heap.size ≤ q → va_A w s.heap.size q := fun q h => Or.inr h
  have hS : va_S (va_A w s.heap.size) s.heap s.heap [] := va_S.rf
  have hK0 : va_K D vwCl tys s := hK.pre
  have hTt : (tys ++ [(cO, .long), (cD, .double)])[8]? = some (cD, .double) := wr_ty2 hTY
  have hl := lv_entry ([.ref (sh.2 qx), .int a1, .ref (sh.2 qo)]) (n := 4) (Nat.le_of_ble_eq_true rfl)
  rw [lg_entry_eq]
  generalize (lg_sl ([.ref (sh.2 qx), .int a1, .ref (sh.2 qo)]) ++ List.replicate (4 - (lg_sl ([.ref (sh.2 qx), .int a1, .ref (sh.2 qo)])).length) Slot.unset).toArray = ls at hl ⊢
  have hl : lv_has ls 4 [(0, .ref (sh.2 qx)), (1, .int a1), (2, .ref (sh.2 qo))] := hl
  refine lv_aload_n hx hb dw_meanScore_0 rfl (lv_at hl 2 rfl) ?_
  refine lv_iconst (v := 0) hx hb dw_meanScore_1 (by decide) ?_
  refine lv_aload_n hx hb dw_meanScore_2 rfl (lv_at hl 0 rfl) ?_
  refine lv_iload_n hx hb dw_meanScore_3 rfl (lv_at hl 1 rfl) ?_
  refine en_hcV (q0 := qx) (b := sh.2 qx) (fs := fx) (co := 12) (ρp := [.ref (sh.2 qx), .int a1]) (As := [.int a1]) (rest := [.int 0, .ref (sh.2 qo)]) (lv' := 1) (ct_X6_meanScore_0 hl9 hPP Ω) gw_X6_meanScore rfl rfl hwx rfl rfl (Nat.le_of_ble_eq_true rfl) ⟨Nat.le_of_ble_eq_true rfl, Nat.le_of_ble_eq_true rfl⟩ ⟨Nat.le_of_ble_eq_true rfl, Nat.le_of_ble_eq_true rfl⟩ (Nat.le_of_ble_eq_true rfl) hx hb (hml.trans hl.1.symm) hts hown hTY hK0 hT hP hD0 hS hA hW hΩ (wr_pa (env := k_X6_meanScore_0.2.1.1) ⟨⟨qx, hqx, rfl⟩, ⟨a1, rfl, en_lo a1, en_hi a1⟩, trivial⟩) dw_meanScore_4 (fun x9 hx9 ce q9 u H1 locs1 hpx hP1 hD1 hS1 hcell hvm hcl => ?_) (fun u res H1 locs1 hrv hpo hP1 hD1 hS1 => ?_)
  · have hku := wr_keep hpx hqo (by decide +kernel) hwo
    have hpx9 := wr_same hpx ((57, 0) :: k_X6_meanScore_0.2.2.2.1) (fun z hz => List.mem_cons_of_mem _ hz)
    rcases List.mem_cons.mp hx9 with hx8 | hx9
    · subst hx8
      refine vx_catch (E := "java/lang/IndexOutOfBoundsException") (name := "java/lang/IndexOutOfBoundsException") hown [] ⟨0, 8, 11, 23⟩ [⟨0, 8, 14, 195⟩] (htab.trans rfl) wr_nil (by decide) (by decide) (hts (.classLink RL 23 "java/lang/IndexOutOfBoundsException") cwl619) (va_Nw.use rfl (hT.1 (Cond.castable "java/lang/IndexOutOfBoundsException" "java/lang/IndexOutOfBoundsException") (tf_cast (539, "java/lang/IndexOutOfBoundsException") (by decide +kernel)))) hcell hvm hcl ?_
      refine lv_astore_n (lv' := (3, .ref q9) :: [(0, .ref (sh.2 qx)), (1, .int a1), (2, .ref (sh.2 qo))]) hx hb dw_meanScore_11 rfl hl (by decide) rfl (fun ls hl => ?_)
      refine lv_iconst (v := 1) hx hb dw_meanScore_12 (by decide) ?_
      exact W.widen (Nat.le_of_ble_eq_true rfl) (Nat.le_of_ble_eq_true rfl) (W.iret (v := 1) hx hb hr (fun t ht hW9 => ⟨⟨1, u, rfl, ⟨hpx9, g0, hku⟩, by rw [ht]; exact hP1, hD1⟩, hS1.F ht⟩) hS1.2.2 dw_meanScore_13)
    have hx8 := List.mem_singleton.mp hx9
    subst hx8
    refine vx_catch (E := "java/lang/ArithmeticException") (name := "java/lang/ArithmeticException") hown [⟨0, 8, 11, 23⟩] ⟨0, 8, 14, 195⟩ [] (htab.trans rfl) (wr_cons (Or.inr ⟨by decide, "java/lang/IndexOutOfBoundsException", (hts (.classLink RL 23 "java/lang/IndexOutOfBoundsException") cwl619), hT.2.2.2.2.1 _ (by decide +kernel) _ (by decide +kernel) (by decide)⟩) wr_nil) (by decide) (by decide) (hts (.classLink RL 195 "java/lang/ArithmeticException") cwl1368) (va_Nw.use rfl (hT.1 (Cond.castable "java/lang/ArithmeticException" "java/lang/ArithmeticException") (tf_cast (561, "java/lang/ArithmeticException") (by decide +kernel)))) hcell hvm hcl ?_
    refine lv_astore_n (lv' := (3, .ref q9) :: [(0, .ref (sh.2 qx)), (1, .int a1), (2, .ref (sh.2 qo))]) hx hb dw_meanScore_14 rfl hl (by decide) rfl (fun ls hl => ?_)
    refine lv_iconst (v := 2) hx hb dw_meanScore_15 (by decide) ?_
    exact W.widen (Nat.le_of_ble_eq_true rfl) (Nat.le_of_ble_eq_true rfl) (W.iret (v := 2) hx hb hr (fun t ht hW9 => ⟨⟨2, u, rfl, ⟨hpx9, g0, hku⟩, by rw [ht]; exact hP1, hD1⟩, hS1.F ht⟩) hS1.2.2 dw_meanScore_16)
  · obtain ⟨hpx, hpo9⟩ := hpo
    have hku := wr_keep hpx hqo (by decide +kernel) hwo
    obtain ⟨r9, rfl⟩ := hrv
    refine va_dast hx hb hK hP1 hD1 hS1 qo 8 hku hTt (vp_in_nI (n := 0) (by decide) (by decide)) dw_meanScore_7 (fun H2 locs2 hP2 hD2 hS2 => ?_)
    obtain ⟨g9, hg9⟩ : ∃ g9, g9 = vf_upd g0 (0 : Int32).toNatClampNeg r9 := ⟨_, rfl⟩
    rw [← hg9] at hP2 hD2
    refine lv_goto (tgt := 17) hx hb dw_meanScore_8 (by decide) ?_
    refine lv_iconst (v := 0) hx hb dw_meanScore_17 (by decide) ?_
    exact W.widen (Nat.le_of_ble_eq_true rfl) (Nat.le_of_ble_eq_true rfl) (W.iret (v := 0) hx hb hr (fun t ht hW9 => ⟨⟨0, (u.1, u.2.set qo (sh.2 qo, .inl (cD, 1, .inr (.inr (.inr (.inl g9)))))), rfl, ⟨wr_set hpx hqo (by decide +kernel) (by decide +kernel) hwo ⟨rfl, rfl⟩, g9, wr_get hku⟩, by rw [ht]; exact hP2, hD2⟩, hS2.F ht⟩) hS2.2.2 dw_meanScore_18)
theorem dw_move_0 : decode cL_move 0 = .ok (.aload 5, 2) := by decide +kernel
theorem dw_move_2 : decode cL_move 2 = .ok (.iconst 0, 1) := by decide +kernel
theorem dw_move_3 : decode cL_move 3 = .ok (.aload_n 0, 1) := by decide +kernel
theorem dw_move_4 : decode cL_move 4 = .ok (.iload_n 1, 1) := by decide +kernel
theorem dw_move_5 : decode cL_move 5 = .ok (.iload_n 2, 1) := by decide +kernel
theorem dw_move_6 : decode cL_move 6 = .ok (.iload_n 3, 1) := by decide +kernel
theorem dw_move_7 : decode cL_move 7 = .ok (.iload 4, 2) := by decide +kernel
theorem dw_move_9 : decode cL_move 9 = .ok (.invokevirtual 95, 3) := by decide +kernel
theorem dw_move_12 : decode cL_move 12 = .ok (.i2l, 1) := by decide +kernel
theorem dw_move_13 : decode cL_move 13 = .ok (.lastore, 1) := by decide +kernel
theorem dw_move_14 : decode cL_move 14 = .ok (.goto 19, 3) := by decide +kernel
theorem dw_move_17 : decode cL_move 17 = .ok (.astore 6, 2) := by decide +kernel
theorem dw_move_19 : decode cL_move 19 = .ok (.iconst 1, 1) := by decide +kernel
theorem dw_move_20 : decode cL_move 20 = .ok (.ireturn, 1) := by decide +kernel
theorem dw_move_21 : decode cL_move 21 = .ok (.astore 6, 2) := by decide +kernel
theorem dw_move_23 : decode cL_move 23 = .ok (.iconst 2, 1) := by decide +kernel
theorem dw_move_24 : decode cL_move 24 = .ok (.ireturn, 1) := by decide +kernel
theorem dw_move_25 : decode cL_move 25 = .ok (.astore 6, 2) := by decide +kernel
theorem dw_move_27 : decode cL_move 27 = .ok (.iconst 3, 1) := by decide +kernel
theorem dw_move_28 : decode cL_move 28 = .ok (.ireturn, 1) := by decide +kernel
theorem dw_move_29 : decode cL_move 29 = .ok (.astore 6, 2) := by decide +kernel
theorem dw_move_31 : decode cL_move 31 = .ok (.iconst 4, 1) := by decide +kernel
theorem dw_move_32 : decode cL_move 32 = .ok (.ireturn, 1) := by decide +kernel
theorem dw_move_33 : decode cL_move 33 = .ok (.iconst 0, 1) := by decide +kernel
theorem dw_move_34 : decode cL_move 34 = .ok (.ireturn, 1) := by decide +kernel
theorem gw_X6_move : en_CV en_cw RL 95 yX6_move RX6 cX6_move 8 (some .int) 4 := en_gv cwl1017 cwl1018 cwl1019 cwl75 cwl1020 ⟨rfl, by decide, by decide, by decide +kernel⟩
set_option maxHeartbeats 4000000 in
set_option maxRecDepth 100000 in
theorem wr_move {l : Launch} (hl9 : l.stackTraces = false) {PP : Int32 → Int32 → Prop} (hPP : en_P0 PP) (Ω : Nat → en_H → va_W → Prop) (D : va_G) (tys : List (ClassId × FieldType)) (cO cD : ClassId) (sh : en_H) (w : va_W) (sz qx qo : Nat) (fx : List Value) (g0 : (Nat → Int64)) (a1 : Int32) (a2 : Int32) (a3 : Int32) (a4 : Int32) (hb2 : 0 ≤ a2.toInt ∧ a2.toInt ≤ 65535) (hTY : tys.map Prod.snd = en_TY0) (hW : en_W PP en_KT k_X6_move_0.2.2.2.2.1 sh tys (fun _ => False) w) (hD0 : va_D (va_A w sz) w) (hΩ : en_Om en_om0 sh Ω) (hqx : sh.1[qx]? = some 0) (hwx : w[qx]? = some (sh.2 qx, .inr (12, fx))) (hqo : sh.1[qo]? = some 56) (hwo : w[qo]? = some (sh.2 qo, .inl (cO, 1, .inr (.inl g0)))) :
    Met l yL_move (Cond.codeWith yL_move cL_move 7 (some .int) [(0, 14, 17, 23), (0, 14, 21, 13), (0, 14, 25, 15), (0, 14, 29, 17)] :: en_cw) (en_rm 4 (3, 18)) (va_Pc [.ref (sh.2 qx), .int a1, .int a2, .int a3, .int a4, .ref (sh.2 qo)] (en_B D vwCl (tys ++ [(cO, .long), (cD, .double)]) w sz)) (va_Qi (fun _ u => (en_Px tys PP en_KT k_X6_move_0.2.2.2.2.1 ((56, 0) :: k_X6_move_0.2.2.2.1) sh w u ∧ ∃ g, u.2[qo]? = some (sh.2 qo, .inl (cO, 1, .inr (.inl g))))) (en_Bw D vwCl (va_A w sz)) (va_A w sz)) 3 18 (va_A w sz) := by
  refine va_MetW (cc := cL_move) (maxL := 7) (ret := some .int) (hh := [(0, 14, 17, 23), (0, 14, 21, 13), (0, 14, 25, 15), (0, 14, 29, 17)]) (by decide +kernel) rfl ?_
  intro p e s m args below meth c s₁ B hml hv
  obtain ⟨rfl, hsz, hP, hK, hT⟩ := hv
  subst hsz
  have hx := B.exec
  have hb := B.bytes
  have hr := B.returns
  have hts0 := atoms_spec (ws := Cond.codeWith yL_move cL_move 7 (some .int) [(0, 14, 17, 23), (0, 14, 21, 13), (0, 14, 25, 15), (0, 14, 29, 17)] :: en_cw) B.pre
  have hts : ∀ z ∈ en_cw, z.before _ s = true := fun z hz => hts0 z (List.mem_cons_of_mem _ hz)
  have hown : s.vm.findClass RL = some m.cls := findClass_of_methodNamed B.named
  have htab := vx_table (x := yL_move) B (hts0 _ List.mem_cons_self)
  have hA : ∀ q : Nat, s.heap.size ≤ q → va_A w s.heap.size q := fun q h => Or.inr h
  have hS : va_S (va_A w s.heap.size) s.heap s.heap [] := va_S.rf
  have hK0 : va_K D vwCl tys s := hK.pre
  have hTt : (tys ++ [(cO, .long), (cD, .double)])[7]? = some (cO, .long) := wr_ty hTY
  have hl := lv_entry ([.ref (sh.2 qx), .int a1, .int a2, .int a3, .int a4, .ref (sh.2 qo)]) (n := 7) (Nat.le_of_ble_eq_true rfl)
  rw [lg_entry_eq]
  generalize (lg_sl ([.ref (sh.2 qx), .int a1, .int a2, .int a3, .int a4, .ref (sh.2 qo)]) ++ List.replicate (7 - (lg_sl ([.ref (sh.2 qx), .int a1, .int a2, .int a3, .int a4, .ref (sh.2 qo)])).length) Slot.unset).toArray = ls at hl ⊢
  have hl : lv_has ls 7 [(0, .ref (sh.2 qx)), (1, .int a1), (2, .int a2), (3, .int a3), (4, .int a4), (5, .ref (sh.2 qo))] := hl
  refine lv_aload hx hb dw_move_0 (lv_at hl 5 rfl) ?_
  refine lv_iconst (v := 0) hx hb dw_move_2 (by decide) ?_
  refine lv_aload_n hx hb dw_move_3 rfl (lv_at hl 0 rfl) ?_
  refine lv_iload_n hx hb dw_move_4 rfl (lv_at hl 1 rfl) ?_
  refine lv_iload_n hx hb dw_move_5 rfl (lv_at hl 2 rfl) ?_
  refine lv_iload_n hx hb dw_move_6 rfl (lv_at hl 3 rfl) ?_
  refine lv_iload hx hb dw_move_7 (lv_at hl 4 rfl) ?_
  refine en_hcV (q0 := qx) (b := sh.2 qx) (fs := fx) (co := 12) (ρp := [.ref (sh.2 qx), .int a1, .int a2, .int a3, .int a4]) (As := [.int a1, .int a2, .int a3, .int a4]) (rest := [.int 0, .ref (sh.2 qo)]) (lv' := 3) (ct_X6_move_0 hl9 hPP Ω) gw_X6_move rfl rfl hwx rfl rfl (Nat.le_of_ble_eq_true rfl) ⟨Nat.le_of_ble_eq_true rfl, Nat.le_of_ble_eq_true rfl⟩ ⟨Nat.le_of_ble_eq_true rfl, Nat.le_of_ble_eq_true rfl⟩ (Nat.le_of_ble_eq_true rfl) hx hb (hml.trans hl.1.symm) hts hown hTY hK0 hT hP hD0 hS hA hW hΩ (wr_pa (env := k_X6_move_0.2.1.1) ⟨⟨qx, hqx, rfl⟩, ⟨a1, rfl, en_lo a1, en_hi a1⟩, ⟨a2, rfl, hb2.1, hb2.2⟩, ⟨a3, rfl, en_lo a3, en_hi a3⟩, ⟨a4, rfl, en_lo a4, en_hi a4⟩, trivial⟩) dw_move_9 (fun x9 hx9 ce q9 u H1 locs1 hpx hP1 hD1 hS1 hcell hvm hcl => ?_) (fun u res H1 locs1 hrv hpo hP1 hD1 hS1 => ?_)
  · have hku := wr_keep hpx hqo (by decide +kernel) hwo
    have hpx9 := wr_same hpx ((56, 0) :: k_X6_move_0.2.2.2.1) (fun z hz => List.mem_cons_of_mem _ hz)
    rcases List.mem_cons.mp hx9 with hx8 | hx9
    · subst hx8
      refine vx_catch (E := "java/lang/IllegalArgumentException") (name := "java/lang/IllegalArgumentException") hown [⟨0, 14, 17, 23⟩] ⟨0, 14, 21, 13⟩ [⟨0, 14, 25, 15⟩, ⟨0, 14, 29, 17⟩] (htab.trans rfl) (wr_cons (Or.inr ⟨by decide, "java/lang/IndexOutOfBoundsException", (hts (.classLink RL 23 "java/lang/IndexOutOfBoundsException") cwl619), hT.2.2.2.2.1 _ (by decide +kernel) _ (by decide +kernel) (by decide)⟩) wr_nil) (by decide) (by decide) (hts (.classLink RL 13 "java/lang/IllegalArgumentException") cwl498) (va_Nw.use rfl (hT.1 (Cond.castable "java/lang/IllegalArgumentException" "java/lang/IllegalArgumentException") (tf_cast (53, "java/lang/IllegalArgumentException") (by decide +kernel)))) hcell hvm hcl ?_
      refine lv_astore (lv' := (6, .ref q9) :: [(0, .ref (sh.2 qx)), (1, .int a1), (2, .int a2), (3, .int a3), (4, .int a4), (5, .ref (sh.2 qo))]) hx hb dw_move_21 hl (by decide) rfl (fun ls hl => ?_)
      refine lv_iconst (v := 2) hx hb dw_move_23 (by decide) ?_
      exact W.widen (Nat.le_of_ble_eq_true rfl) (Nat.le_of_ble_eq_true rfl) (W.iret (v := 2) hx hb hr (fun t ht hW9 => ⟨⟨2, u, rfl, ⟨hpx9, g0, hku⟩, by rw [ht]; exact hP1, hD1⟩, hS1.F ht⟩) hS1.2.2 dw_move_24)
    rcases List.mem_cons.mp hx9 with hx8 | hx9
    · subst hx8
      refine vx_catch (E := "java/lang/IllegalStateException") (name := "java/lang/IllegalStateException") hown [⟨0, 14, 17, 23⟩, ⟨0, 14, 21, 13⟩] ⟨0, 14, 25, 15⟩ [⟨0, 14, 29, 17⟩] (htab.trans rfl) (wr_cons (Or.inr ⟨by decide, "java/lang/IndexOutOfBoundsException", (hts (.classLink RL 23 "java/lang/IndexOutOfBoundsException") cwl619), hT.2.2.2.2.1 _ (by decide +kernel) _ (by decide +kernel) (by decide)⟩) (wr_cons (Or.inr ⟨by decide, "java/lang/IllegalArgumentException", (hts (.classLink RL 13 "java/lang/IllegalArgumentException") cwl498), hT.2.2.2.2.1 _ (by decide +kernel) _ (by decide +kernel) (by decide)⟩) wr_nil)) (by decide) (by decide) (hts (.classLink RL 15 "java/lang/IllegalStateException") cwl499) (va_Nw.use rfl (hT.1 (Cond.castable "java/lang/IllegalStateException" "java/lang/IllegalStateException") (tf_cast (69, "java/lang/IllegalStateException") (by decide +kernel)))) hcell hvm hcl ?_
      refine lv_astore (lv' := (6, .ref q9) :: [(0, .ref (sh.2 qx)), (1, .int a1), (2, .int a2), (3, .int a3), (4, .int a4), (5, .ref (sh.2 qo))]) hx hb dw_move_25 hl (by decide) rfl (fun ls hl => ?_)
      refine lv_iconst (v := 3) hx hb dw_move_27 (by decide) ?_
      exact W.widen (Nat.le_of_ble_eq_true rfl) (Nat.le_of_ble_eq_true rfl) (W.iret (v := 3) hx hb hr (fun t ht hW9 => ⟨⟨3, u, rfl, ⟨hpx9, g0, hku⟩, by rw [ht]; exact hP1, hD1⟩, hS1.F ht⟩) hS1.2.2 dw_move_28)
    rcases List.mem_cons.mp hx9 with hx8 | hx9
    · subst hx8
      refine vx_catch (E := "java/lang/UnsupportedOperationException") (name := "java/lang/UnsupportedOperationException") hown [⟨0, 14, 17, 23⟩, ⟨0, 14, 21, 13⟩, ⟨0, 14, 25, 15⟩] ⟨0, 14, 29, 17⟩ [] (htab.trans rfl) (wr_cons (Or.inr ⟨by decide, "java/lang/IndexOutOfBoundsException", (hts (.classLink RL 23 "java/lang/IndexOutOfBoundsException") cwl619), hT.2.2.2.2.1 _ (by decide +kernel) _ (by decide +kernel) (by decide)⟩) (wr_cons (Or.inr ⟨by decide, "java/lang/IllegalArgumentException", (hts (.classLink RL 13 "java/lang/IllegalArgumentException") cwl498), hT.2.2.2.2.1 _ (by decide +kernel) _ (by decide +kernel) (by decide)⟩) (wr_cons (Or.inr ⟨by decide, "java/lang/IllegalStateException", (hts (.classLink RL 15 "java/lang/IllegalStateException") cwl499), hT.2.2.2.2.1 _ (by decide +kernel) _ (by decide +kernel) (by decide)⟩) wr_nil))) (by decide) (by decide) (hts (.classLink RL 17 "java/lang/UnsupportedOperationException") cwl500) (va_Nw.use rfl (hT.1 (Cond.castable "java/lang/UnsupportedOperationException" "java/lang/UnsupportedOperationException") (tf_cast (78, "java/lang/UnsupportedOperationException") (by decide +kernel)))) hcell hvm hcl ?_
      refine lv_astore (lv' := (6, .ref q9) :: [(0, .ref (sh.2 qx)), (1, .int a1), (2, .int a2), (3, .int a3), (4, .int a4), (5, .ref (sh.2 qo))]) hx hb dw_move_29 hl (by decide) rfl (fun ls hl => ?_)
      refine lv_iconst (v := 4) hx hb dw_move_31 (by decide) ?_
      exact W.widen (Nat.le_of_ble_eq_true rfl) (Nat.le_of_ble_eq_true rfl) (W.iret (v := 4) hx hb hr (fun t ht hW9 => ⟨⟨4, u, rfl, ⟨hpx9, g0, hku⟩, by rw [ht]; exact hP1, hD1⟩, hS1.F ht⟩) hS1.2.2 dw_move_32)
    have hx8 := List.mem_singleton.mp hx9
    subst hx8
    refine vx_catch (E := "java/lang/IndexOutOfBoundsException") (name := "java/lang/IndexOutOfBoundsException") hown [] ⟨0, 14, 17, 23⟩ [⟨0, 14, 21, 13⟩, ⟨0, 14, 25, 15⟩, ⟨0, 14, 29, 17⟩] (htab.trans rfl) wr_nil (by decide) (by decide) (hts (.classLink RL 23 "java/lang/IndexOutOfBoundsException") cwl619) (va_Nw.use rfl (hT.1 (Cond.castable "java/lang/IndexOutOfBoundsException" "java/lang/IndexOutOfBoundsException") (tf_cast (539, "java/lang/IndexOutOfBoundsException") (by decide +kernel)))) hcell hvm hcl ?_
    refine lv_astore (lv' := (6, .ref q9) :: [(0, .ref (sh.2 qx)), (1, .int a1), (2, .int a2), (3, .int a3), (4, .int a4), (5, .ref (sh.2 qo))]) hx hb dw_move_17 hl (by decide) rfl (fun ls hl => ?_)
    refine lv_iconst (v := 1) hx hb dw_move_19 (by decide) ?_
    exact W.widen (Nat.le_of_ble_eq_true rfl) (Nat.le_of_ble_eq_true rfl) (W.iret (v := 1) hx hb hr (fun t ht hW9 => ⟨⟨1, u, rfl, ⟨hpx9, g0, hku⟩, by rw [ht]; exact hP1, hD1⟩, hS1.F ht⟩) hS1.2.2 dw_move_20)
  · obtain ⟨hpx, hpo9⟩ := hpo
    have hku := wr_keep hpx hqo (by decide +kernel) hwo
    obtain ⟨r9, rfl⟩ := hrv
    refine lv_i2l hx hb dw_move_12 rfl ?_
    refine va_last hx hb hK hP1 hD1 hS1 qo 7 hku hTt (vp_in_nI (n := 0) (by decide) (by decide)) dw_move_13 (fun H2 locs2 hP2 hD2 hS2 => ?_)
    obtain ⟨g9, hg9⟩ : ∃ g9, g9 = vp_updL g0 (0 : Int32).toNatClampNeg r9.toInt64 := ⟨_, rfl⟩
    rw [← hg9] at hP2 hD2
    refine lv_goto (tgt := 33) hx hb dw_move_14 (by decide) ?_
    refine lv_iconst (v := 0) hx hb dw_move_33 (by decide) ?_
    exact W.widen (Nat.le_of_ble_eq_true rfl) (Nat.le_of_ble_eq_true rfl) (W.iret (v := 0) hx hb hr (fun t ht hW9 => ⟨⟨0, (u.1, u.2.set qo (sh.2 qo, .inl (cO, 1, .inr (.inl g9)))), rfl, ⟨wr_set hpx hqo (by decide +kernel) (by decide +kernel) hwo ⟨rfl, rfl⟩, g9, wr_get hku⟩, by rw [ht]; exact hP2, hD2⟩, hS2.F ht⟩) hS2.2.2 dw_move_34)
theorem dw_nextHole_0 : decode cL_nextHole 0 = .ok (.aload_n 1, 1) := by decide +kernel
theorem dw_nextHole_1 : decode cL_nextHole 1 = .ok (.iconst 0, 1) := by decide +kernel
theorem dw_nextHole_2 : decode cL_nextHole 2 = .ok (.aload_n 0, 1) := by decide +kernel
theorem dw_nextHole_3 : decode cL_nextHole 3 = .ok (.invokevirtual 117, 3) := by decide +kernel
theorem dw_nextHole_6 : decode cL_nextHole 6 = .ok (.i2l, 1) := by decide +kernel
theorem dw_nextHole_7 : decode cL_nextHole 7 = .ok (.lastore, 1) := by decide +kernel
theorem dw_nextHole_8 : decode cL_nextHole 8 = .ok (.goto 9, 3) := by decide +kernel
theorem dw_nextHole_11 : decode cL_nextHole 11 = .ok (.astore_n 2, 1) := by decide +kernel
theorem dw_nextHole_12 : decode cL_nextHole 12 = .ok (.iconst 1, 1) := by decide +kernel
theorem dw_nextHole_13 : decode cL_nextHole 13 = .ok (.ireturn, 1) := by decide +kernel
theorem dw_nextHole_14 : decode cL_nextHole 14 = .ok (.astore_n 2, 1) := by decide +kernel
theorem dw_nextHole_15 : decode cL_nextHole 15 = .ok (.iconst 2, 1) := by decide +kernel
theorem dw_nextHole_16 : decode cL_nextHole 16 = .ok (.ireturn, 1) := by decide +kernel
theorem dw_nextHole_17 : decode cL_nextHole 17 = .ok (.iconst 0, 1) := by decide +kernel
theorem dw_nextHole_18 : decode cL_nextHole 18 = .ok (.ireturn, 1) := by decide +kernel
theorem gw_X6_nextHole : en_CV en_cw RL 117 yX6_nextHole RX6 cX6_nextHole 2 (some .int) 0 := en_gv cwl1085 cwl1086 cwl1087 cwl75 cwl1088 ⟨rfl, by decide, by decide, by decide +kernel⟩
set_option maxHeartbeats 4000000 in
set_option maxRecDepth 100000 in
theorem wr_nextHole {l : Launch} (hl9 : l.stackTraces = false) {PP : Int32 → Int32 → Prop} (hPP : en_P0 PP) (Ω : Nat → en_H → va_W → Prop) (D : va_G) (tys : List (ClassId × FieldType)) (cO cD : ClassId) (sh : en_H) (w : va_W) (sz qx qo : Nat) (fx : List Value) (g0 : (Nat → Int64)) (hTY : tys.map Prod.snd = en_TY0) (hW : en_W PP en_KT k_X6_nextHole_0.2.2.2.2.1 sh tys (fun _ => False) w) (hD0 : va_D (va_A w sz) w) (hΩ : en_Om en_om0 sh Ω) (hqx : sh.1[qx]? = some 0) (hwx : w[qx]? = some (sh.2 qx, .inr (12, fx))) (hqo : sh.1[qo]? = some 56) (hwo : w[qo]? = some (sh.2 qo, .inl (cO, 1, .inr (.inl g0)))) :
    Met l yL_nextHole (Cond.codeWith yL_nextHole cL_nextHole 3 (some .int) [(0, 8, 11, 15), (0, 8, 14, 17)] :: en_cw) (en_rm 4 (2, 12)) (va_Pc [.ref (sh.2 qx), .ref (sh.2 qo)] (en_B D vwCl (tys ++ [(cO, .long), (cD, .double)]) w sz)) (va_Qi (fun _ u => (en_Px tys PP en_KT k_X6_nextHole_0.2.2.2.2.1 ((56, 0) :: k_X6_nextHole_0.2.2.2.1) sh w u ∧ ∃ g, u.2[qo]? = some (sh.2 qo, .inl (cO, 1, .inr (.inl g))))) (en_Bw D vwCl (va_A w sz)) (va_A w sz)) 2 12 (va_A w sz) := by
  refine va_MetW (cc := cL_nextHole) (maxL := 3) (ret := some .int) (hh := [(0, 8, 11, 15), (0, 8, 14, 17)]) (by decide +kernel) rfl ?_
  intro p e s m args below meth c s₁ B hml hv
  obtain ⟨rfl, hsz, hP, hK, hT⟩ := hv
  subst hsz
  have hx := B.exec
  have hb := B.bytes
  have hr := B.returns
  have hts0 := atoms_spec (ws := Cond.codeWith yL_nextHole cL_nextHole 3 (some .int) [(0, 8, 11, 15), (0, 8, 14, 17)] :: en_cw) B.pre
  have hts : ∀ z ∈ en_cw, z.before _ s = true := fun z hz => hts0 z (List.mem_cons_of_mem _ hz)
  have hown : s.vm.findClass RL = some m.cls := findClass_of_methodNamed B.named
  have htab := vx_table (x := yL_nextHole) B (hts0 _ List.mem_cons_self)
  have hA : ∀ q : Nat, s.heap.size ≤ q → va_A w s.heap.size q := fun q h => Or.inr h
  have hS : va_S (va_A w s.heap.size) s.heap s.heap [] := va_S.rf
  have hK0 : va_K D vwCl tys s := hK.pre
  have hTt : (tys ++ [(cO, .long), (cD, .double)])[7]? = some (cO, .long) := wr_ty hTY
  have hl := lv_entry ([.ref (sh.2 qx), .ref (sh.2 qo)]) (n := 3) (Nat.le_of_ble_eq_true rfl)
  rw [lg_entry_eq]
  generalize (lg_sl ([.ref (sh.2 qx), .ref (sh.2 qo)]) ++ List.replicate (3 - (lg_sl ([.ref (sh.2 qx), .ref (sh.2 qo)])).length) Slot.unset).toArray = ls at hl ⊢
  have hl : lv_has ls 3 [(0, .ref (sh.2 qx)), (1, .ref (sh.2 qo))] := hl
  refine lv_aload_n hx hb dw_nextHole_0 rfl (lv_at hl 1 rfl) ?_
  refine lv_iconst (v := 0) hx hb dw_nextHole_1 (by decide) ?_
  refine lv_aload_n hx hb dw_nextHole_2 rfl (lv_at hl 0 rfl) ?_
  refine en_hcV (q0 := qx) (b := sh.2 qx) (fs := fx) (co := 12) (ρp := [.ref (sh.2 qx)]) (As := []) (rest := [.int 0, .ref (sh.2 qo)]) (lv' := 3) (ct_X6_nextHole_0 hl9 hPP Ω) gw_X6_nextHole rfl rfl hwx rfl rfl (Nat.le_of_ble_eq_true rfl) ⟨Nat.le_of_ble_eq_true rfl, Nat.le_of_ble_eq_true rfl⟩ ⟨Nat.le_of_ble_eq_true rfl, Nat.le_of_ble_eq_true rfl⟩ (Nat.le_of_ble_eq_true rfl) hx hb (hml.trans hl.1.symm) hts hown hTY hK0 hT hP hD0 hS hA hW hΩ (wr_pa (env := k_X6_nextHole_0.2.1.1) ⟨⟨qx, hqx, rfl⟩, trivial⟩) dw_nextHole_3 (fun x9 hx9 ce q9 u H1 locs1 hpx hP1 hD1 hS1 hcell hvm hcl => ?_) (fun u res H1 locs1 hrv hpo hP1 hD1 hS1 => ?_)
  · have hku := wr_keep hpx hqo (by decide +kernel) hwo
    have hpx9 := wr_same hpx ((56, 0) :: k_X6_nextHole_0.2.2.2.1) (fun z hz => List.mem_cons_of_mem _ hz)
    rcases List.mem_cons.mp hx9 with hx8 | hx9
    · subst hx8
      refine vx_catch (E := "java/lang/IllegalStateException") (name := "java/lang/IllegalStateException") hown [] ⟨0, 8, 11, 15⟩ [⟨0, 8, 14, 17⟩] (htab.trans rfl) wr_nil (by decide) (by decide) (hts (.classLink RL 15 "java/lang/IllegalStateException") cwl499) (va_Nw.use rfl (hT.1 (Cond.castable "java/lang/IllegalStateException" "java/lang/IllegalStateException") (tf_cast (69, "java/lang/IllegalStateException") (by decide +kernel)))) hcell hvm hcl ?_
      refine lv_astore_n (lv' := (2, .ref q9) :: [(0, .ref (sh.2 qx)), (1, .ref (sh.2 qo))]) hx hb dw_nextHole_11 rfl hl (by decide) rfl (fun ls hl => ?_)
      refine lv_iconst (v := 1) hx hb dw_nextHole_12 (by decide) ?_
      exact W.widen (Nat.le_of_ble_eq_true rfl) (Nat.le_of_ble_eq_true rfl) (W.iret (v := 1) hx hb hr (fun t ht hW9 => ⟨⟨1, u, rfl, ⟨hpx9, g0, hku⟩, by rw [ht]; exact hP1, hD1⟩, hS1.F ht⟩) hS1.2.2 dw_nextHole_13)
    have hx8 := List.mem_singleton.mp hx9
    subst hx8
    refine vx_catch (E := "java/lang/UnsupportedOperationException") (name := "java/lang/UnsupportedOperationException") hown [⟨0, 8, 11, 15⟩] ⟨0, 8, 14, 17⟩ [] (htab.trans rfl) (wr_cons (Or.inr ⟨by decide, "java/lang/IllegalStateException", (hts (.classLink RL 15 "java/lang/IllegalStateException") cwl499), hT.2.2.2.2.1 _ (by decide +kernel) _ (by decide +kernel) (by decide)⟩) wr_nil) (by decide) (by decide) (hts (.classLink RL 17 "java/lang/UnsupportedOperationException") cwl500) (va_Nw.use rfl (hT.1 (Cond.castable "java/lang/UnsupportedOperationException" "java/lang/UnsupportedOperationException") (tf_cast (78, "java/lang/UnsupportedOperationException") (by decide +kernel)))) hcell hvm hcl ?_
    refine lv_astore_n (lv' := (2, .ref q9) :: [(0, .ref (sh.2 qx)), (1, .ref (sh.2 qo))]) hx hb dw_nextHole_14 rfl hl (by decide) rfl (fun ls hl => ?_)
    refine lv_iconst (v := 2) hx hb dw_nextHole_15 (by decide) ?_
    exact W.widen (Nat.le_of_ble_eq_true rfl) (Nat.le_of_ble_eq_true rfl) (W.iret (v := 2) hx hb hr (fun t ht hW9 => ⟨⟨2, u, rfl, ⟨hpx9, g0, hku⟩, by rw [ht]; exact hP1, hD1⟩, hS1.F ht⟩) hS1.2.2 dw_nextHole_16)
  · obtain ⟨hpx, hpo9⟩ := hpo
    have hku := wr_keep hpx hqo (by decide +kernel) hwo
    obtain ⟨r9, rfl⟩ := hrv
    refine lv_i2l hx hb dw_nextHole_6 rfl ?_
    refine va_last hx hb hK hP1 hD1 hS1 qo 7 hku hTt (vp_in_nI (n := 0) (by decide) (by decide)) dw_nextHole_7 (fun H2 locs2 hP2 hD2 hS2 => ?_)
    obtain ⟨g9, hg9⟩ : ∃ g9, g9 = vp_updL g0 (0 : Int32).toNatClampNeg r9.toInt64 := ⟨_, rfl⟩
    rw [← hg9] at hP2 hD2
    refine lv_goto (tgt := 17) hx hb dw_nextHole_8 (by decide) ?_
    refine lv_iconst (v := 0) hx hb dw_nextHole_17 (by decide) ?_
    exact W.widen (Nat.le_of_ble_eq_true rfl) (Nat.le_of_ble_eq_true rfl) (W.iret (v := 0) hx hb hr (fun t ht hW9 => ⟨⟨0, (u.1, u.2.set qo (sh.2 qo, .inl (cO, 1, .inr (.inl g9)))), rfl, ⟨wr_set hpx hqo (by decide +kernel) (by decide +kernel) hwo ⟨rfl, rfl⟩, g9, wr_get hku⟩, by rw [ht]; exact hP2, hD2⟩, hS2.F ht⟩) hS2.2.2 dw_nextHole_18)
theorem dw_odds_0 : decode cL_odds 0 = .ok (.aload 5, 2) := by decide +kernel
theorem dw_odds_2 : decode cL_odds 2 = .ok (.iconst 0, 1) := by decide +kernel
theorem dw_odds_3 : decode cL_odds 3 = .ok (.aload_n 0, 1) := by decide +kernel
theorem dw_odds_4 : decode cL_odds 4 = .ok (.iload_n 1, 1) := by decide +kernel
theorem dw_odds_5 : decode cL_odds 5 = .ok (.iload_n 2, 1) := by decide +kernel
theorem dw_odds_6 : decode cL_odds 6 = .ok (.iload_n 3, 1) := by decide +kernel
theorem dw_odds_7 : decode cL_odds 7 = .ok (.iload 4, 2) := by decide +kernel
theorem dw_odds_9 : decode cL_odds 9 = .ok (.invokevirtual 59, 3) := by decide +kernel
theorem dw_odds_12 : decode cL_odds 12 = .ok (.i2l, 1) := by decide +kernel
theorem dw_odds_13 : decode cL_odds 13 = .ok (.lastore, 1) := by decide +kernel
theorem dw_odds_14 : decode cL_odds 14 = .ok (.goto 19, 3) := by decide +kernel
theorem dw_odds_17 : decode cL_odds 17 = .ok (.astore 6, 2) := by decide +kernel
theorem dw_odds_19 : decode cL_odds 19 = .ok (.iconst 1, 1) := by decide +kernel
theorem dw_odds_20 : decode cL_odds 20 = .ok (.ireturn, 1) := by decide +kernel
theorem dw_odds_21 : decode cL_odds 21 = .ok (.astore 6, 2) := by decide +kernel
theorem dw_odds_23 : decode cL_odds 23 = .ok (.iconst 2, 1) := by decide +kernel
theorem dw_odds_24 : decode cL_odds 24 = .ok (.ireturn, 1) := by decide +kernel
theorem dw_odds_25 : decode cL_odds 25 = .ok (.astore 6, 2) := by decide +kernel
theorem dw_odds_27 : decode cL_odds 27 = .ok (.iconst 3, 1) := by decide +kernel
theorem dw_odds_28 : decode cL_odds 28 = .ok (.ireturn, 1) := by decide +kernel
theorem dw_odds_29 : decode cL_odds 29 = .ok (.astore 6, 2) := by decide +kernel
theorem dw_odds_31 : decode cL_odds 31 = .ok (.iconst 4, 1) := by decide +kernel
theorem dw_odds_32 : decode cL_odds 32 = .ok (.ireturn, 1) := by decide +kernel
theorem dw_odds_33 : decode cL_odds 33 = .ok (.iconst 0, 1) := by decide +kernel
theorem dw_odds_34 : decode cL_odds 34 = .ok (.ireturn, 1) := by decide +kernel
theorem gw_X6_odds : en_CV en_cw RL 59 yX6_odds RX6 cX6_odds 11 (some .int) 4 := en_gv cwl879 cwl880 cwl881 cwl75 cwl882 ⟨rfl, by decide, by decide, by decide +kernel⟩
set_option maxHeartbeats 4000000 in
set_option maxRecDepth 100000 in
theorem wr_odds {l : Launch} (hl9 : l.stackTraces = false) {PP : Int32 → Int32 → Prop} (hPP : en_P0 PP) (Ω : Nat → en_H → va_W → Prop) (D : va_G) (tys : List (ClassId × FieldType)) (cO cD : ClassId) (sh : en_H) (w : va_W) (sz qx qo : Nat) (fx : List Value) (g0 : (Nat → Int64)) (a1 : Int32) (a2 : Int32) (a3 : Int32) (a4 : Int32) (hb4 : 0 ≤ a4.toInt ∧ a4.toInt ≤ 65535) (hTY : tys.map Prod.snd = en_TY0) (hW : en_W PP en_KT k_X6_odds_0.2.2.2.2.1 sh tys (fun _ => False) w) (hD0 : va_D (va_A w sz) w) (hΩ : en_Om en_om0 sh Ω) (hqx : sh.1[qx]? = some 0) (hwx : w[qx]? = some (sh.2 qx, .inr (12, fx))) (hqo : sh.1[qo]? = some 56) (hwo : w[qo]? = some (sh.2 qo, .inl (cO, 1, .inr (.inl g0)))) :
    Met l yL_odds (Cond.codeWith yL_odds cL_odds 7 (some .int) [(0, 14, 17, 23), (0, 14, 21, 13), (0, 14, 25, 15), (0, 14, 29, 17)] :: en_cw) (en_rm 5 (4, 24)) (va_Pc [.ref (sh.2 qx), .int a1, .int a2, .int a3, .int a4, .ref (sh.2 qo)] (en_B D vwCl (tys ++ [(cO, .long), (cD, .double)]) w sz)) (va_Qi (fun _ u => (en_Px tys PP en_KT k_X6_odds_0.2.2.2.2.1 ((56, 0) :: k_X6_odds_0.2.2.2.1) sh w u ∧ ∃ g, u.2[qo]? = some (sh.2 qo, .inl (cO, 1, .inr (.inl g))))) (en_Bw D vwCl (va_A w sz)) (va_A w sz)) 4 24 (va_A w sz) := by
  refine va_MetW (cc := cL_odds) (maxL := 7) (ret := some .int) (hh := [(0, 14, 17, 23), (0, 14, 21, 13), (0, 14, 25, 15), (0, 14, 29, 17)]) (by decide +kernel) rfl ?_
  intro p e s m args below meth c s₁ B hml hv
  obtain ⟨rfl, hsz, hP, hK, hT⟩ := hv
  subst hsz
  have hx := B.exec
  have hb := B.bytes
  have hr := B.returns
  have hts0 := atoms_spec (ws := Cond.codeWith yL_odds cL_odds 7 (some .int) [(0, 14, 17, 23), (0, 14, 21, 13), (0, 14, 25, 15), (0, 14, 29, 17)] :: en_cw) B.pre
  have hts : ∀ z ∈ en_cw, z.before _ s = true := fun z hz => hts0 z (List.mem_cons_of_mem _ hz)
  have hown : s.vm.findClass RL = some m.cls := findClass_of_methodNamed B.named
  have htab := vx_table (x := yL_odds) B (hts0 _ List.mem_cons_self)
  have hA : ∀ q : Nat, s.heap.size ≤ q → va_A w s.heap.size q := fun q h => Or.inr h
  have hS : va_S (va_A w s.heap.size) s.heap s.heap [] := va_S.rf
  have hK0 : va_K D vwCl tys s := hK.pre
  have hTt : (tys ++ [(cO, .long), (cD, .double)])[7]? = some (cO, .long) := wr_ty hTY
  have hl := lv_entry ([.ref (sh.2 qx), .int a1, .int a2, .int a3, .int a4, .ref (sh.2 qo)]) (n := 7) (Nat.le_of_ble_eq_true rfl)
  rw [lg_entry_eq]
  generalize (lg_sl ([.ref (sh.2 qx), .int a1, .int a2, .int a3, .int a4, .ref (sh.2 qo)]) ++ List.replicate (7 - (lg_sl ([.ref (sh.2 qx), .int a1, .int a2, .int a3, .int a4, .ref (sh.2 qo)])).length) Slot.unset).toArray = ls at hl ⊢
  have hl : lv_has ls 7 [(0, .ref (sh.2 qx)), (1, .int a1), (2, .int a2), (3, .int a3), (4, .int a4), (5, .ref (sh.2 qo))] := hl
  refine lv_aload hx hb dw_odds_0 (lv_at hl 5 rfl) ?_
  refine lv_iconst (v := 0) hx hb dw_odds_2 (by decide) ?_
  refine lv_aload_n hx hb dw_odds_3 rfl (lv_at hl 0 rfl) ?_
  refine lv_iload_n hx hb dw_odds_4 rfl (lv_at hl 1 rfl) ?_
  refine lv_iload_n hx hb dw_odds_5 rfl (lv_at hl 2 rfl) ?_
  refine lv_iload_n hx hb dw_odds_6 rfl (lv_at hl 3 rfl) ?_
  refine lv_iload hx hb dw_odds_7 (lv_at hl 4 rfl) ?_
  refine en_hcV (q0 := qx) (b := sh.2 qx) (fs := fx) (co := 12) (ρp := [.ref (sh.2 qx), .int a1, .int a2, .int a3, .int a4]) (As := [.int a1, .int a2, .int a3, .int a4]) (rest := [.int 0, .ref (sh.2 qo)]) (lv' := 4) (ct_X6_odds_0 hl9 hPP Ω) gw_X6_odds rfl rfl hwx rfl rfl (Nat.le_of_ble_eq_true rfl) ⟨Nat.le_of_ble_eq_true rfl, Nat.le_of_ble_eq_true rfl⟩ ⟨Nat.le_of_ble_eq_true rfl, Nat.le_of_ble_eq_true rfl⟩ (Nat.le_of_ble_eq_true rfl) hx hb (hml.trans hl.1.symm) hts hown hTY hK0 hT hP hD0 hS hA hW hΩ (wr_pa (env := k_X6_odds_0.2.1.1) ⟨⟨qx, hqx, rfl⟩, ⟨a1, rfl, en_lo a1, en_hi a1⟩, ⟨a2, rfl, en_lo a2, en_hi a2⟩, ⟨a3, rfl, en_lo a3, en_hi a3⟩, ⟨a4, rfl, hb4.1, hb4.2⟩, trivial⟩) dw_odds_9 (fun x9 hx9 ce q9 u H1 locs1 hpx hP1 hD1 hS1 hcell hvm hcl => ?_) (fun u res H1 locs1 hrv hpo hP1 hD1 hS1 => ?_)
  · have hku := wr_keep hpx hqo (by decide +kernel) hwo
    have hpx9 := wr_same hpx ((56, 0) :: k_X6_odds_0.2.2.2.1) (fun z hz => List.mem_cons_of_mem _ hz)
    rcases List.mem_cons.mp hx9 with hx8 | hx9
    · subst hx8
      refine vx_catch (E := "java/lang/IllegalArgumentException") (name := "java/lang/IllegalArgumentException") hown [⟨0, 14, 17, 23⟩] ⟨0, 14, 21, 13⟩ [⟨0, 14, 25, 15⟩, ⟨0, 14, 29, 17⟩] (htab.trans rfl) (wr_cons (Or.inr ⟨by decide, "java/lang/IndexOutOfBoundsException", (hts (.classLink RL 23 "java/lang/IndexOutOfBoundsException") cwl619), hT.2.2.2.2.1 _ (by decide +kernel) _ (by decide +kernel) (by decide)⟩) wr_nil) (by decide) (by decide) (hts (.classLink RL 13 "java/lang/IllegalArgumentException") cwl498) (va_Nw.use rfl (hT.1 (Cond.castable "java/lang/IllegalArgumentException" "java/lang/IllegalArgumentException") (tf_cast (53, "java/lang/IllegalArgumentException") (by decide +kernel)))) hcell hvm hcl ?_
      refine lv_astore (lv' := (6, .ref q9) :: [(0, .ref (sh.2 qx)), (1, .int a1), (2, .int a2), (3, .int a3), (4, .int a4), (5, .ref (sh.2 qo))]) hx hb dw_odds_21 hl (by decide) rfl (fun ls hl => ?_)
      refine lv_iconst (v := 2) hx hb dw_odds_23 (by decide) ?_
      exact W.widen (Nat.le_of_ble_eq_true rfl) (Nat.le_of_ble_eq_true rfl) (W.iret (v := 2) hx hb hr (fun t ht hW9 => ⟨⟨2, u, rfl, ⟨hpx9, g0, hku⟩, by rw [ht]; exact hP1, hD1⟩, hS1.F ht⟩) hS1.2.2 dw_odds_24)
    rcases List.mem_cons.mp hx9 with hx8 | hx9
    · subst hx8
      refine vx_catch (E := "java/lang/IllegalStateException") (name := "java/lang/IllegalStateException") hown [⟨0, 14, 17, 23⟩, ⟨0, 14, 21, 13⟩] ⟨0, 14, 25, 15⟩ [⟨0, 14, 29, 17⟩] (htab.trans rfl) (wr_cons (Or.inr ⟨by decide, "java/lang/IndexOutOfBoundsException", (hts (.classLink RL 23 "java/lang/IndexOutOfBoundsException") cwl619), hT.2.2.2.2.1 _ (by decide +kernel) _ (by decide +kernel) (by decide)⟩) (wr_cons (Or.inr ⟨by decide, "java/lang/IllegalArgumentException", (hts (.classLink RL 13 "java/lang/IllegalArgumentException") cwl498), hT.2.2.2.2.1 _ (by decide +kernel) _ (by decide +kernel) (by decide)⟩) wr_nil)) (by decide) (by decide) (hts (.classLink RL 15 "java/lang/IllegalStateException") cwl499) (va_Nw.use rfl (hT.1 (Cond.castable "java/lang/IllegalStateException" "java/lang/IllegalStateException") (tf_cast (69, "java/lang/IllegalStateException") (by decide +kernel)))) hcell hvm hcl ?_
      refine lv_astore (lv' := (6, .ref q9) :: [(0, .ref (sh.2 qx)), (1, .int a1), (2, .int a2), (3, .int a3), (4, .int a4), (5, .ref (sh.2 qo))]) hx hb dw_odds_25 hl (by decide) rfl (fun ls hl => ?_)
      refine lv_iconst (v := 3) hx hb dw_odds_27 (by decide) ?_
      exact W.widen (Nat.le_of_ble_eq_true rfl) (Nat.le_of_ble_eq_true rfl) (W.iret (v := 3) hx hb hr (fun t ht hW9 => ⟨⟨3, u, rfl, ⟨hpx9, g0, hku⟩, by rw [ht]; exact hP1, hD1⟩, hS1.F ht⟩) hS1.2.2 dw_odds_28)
    rcases List.mem_cons.mp hx9 with hx8 | hx9
    · subst hx8
      refine vx_catch (E := "java/lang/UnsupportedOperationException") (name := "java/lang/UnsupportedOperationException") hown [⟨0, 14, 17, 23⟩, ⟨0, 14, 21, 13⟩, ⟨0, 14, 25, 15⟩] ⟨0, 14, 29, 17⟩ [] (htab.trans rfl) (wr_cons (Or.inr ⟨by decide, "java/lang/IndexOutOfBoundsException", (hts (.classLink RL 23 "java/lang/IndexOutOfBoundsException") cwl619), hT.2.2.2.2.1 _ (by decide +kernel) _ (by decide +kernel) (by decide)⟩) (wr_cons (Or.inr ⟨by decide, "java/lang/IllegalArgumentException", (hts (.classLink RL 13 "java/lang/IllegalArgumentException") cwl498), hT.2.2.2.2.1 _ (by decide +kernel) _ (by decide +kernel) (by decide)⟩) (wr_cons (Or.inr ⟨by decide, "java/lang/IllegalStateException", (hts (.classLink RL 15 "java/lang/IllegalStateException") cwl499), hT.2.2.2.2.1 _ (by decide +kernel) _ (by decide +kernel) (by decide)⟩) wr_nil))) (by decide) (by decide) (hts (.classLink RL 17 "java/lang/UnsupportedOperationException") cwl500) (va_Nw.use rfl (hT.1 (Cond.castable "java/lang/UnsupportedOperationException" "java/lang/UnsupportedOperationException") (tf_cast (78, "java/lang/UnsupportedOperationException") (by decide +kernel)))) hcell hvm hcl ?_
      refine lv_astore (lv' := (6, .ref q9) :: [(0, .ref (sh.2 qx)), (1, .int a1), (2, .int a2), (3, .int a3), (4, .int a4), (5, .ref (sh.2 qo))]) hx hb dw_odds_29 hl (by decide) rfl (fun ls hl => ?_)
      refine lv_iconst (v := 4) hx hb dw_odds_31 (by decide) ?_
      exact W.widen (Nat.le_of_ble_eq_true rfl) (Nat.le_of_ble_eq_true rfl) (W.iret (v := 4) hx hb hr (fun t ht hW9 => ⟨⟨4, u, rfl, ⟨hpx9, g0, hku⟩, by rw [ht]; exact hP1, hD1⟩, hS1.F ht⟩) hS1.2.2 dw_odds_32)
    have hx8 := List.mem_singleton.mp hx9
    subst hx8
    refine vx_catch (E := "java/lang/IndexOutOfBoundsException") (name := "java/lang/IndexOutOfBoundsException") hown [] ⟨0, 14, 17, 23⟩ [⟨0, 14, 21, 13⟩, ⟨0, 14, 25, 15⟩, ⟨0, 14, 29, 17⟩] (htab.trans rfl) wr_nil (by decide) (by decide) (hts (.classLink RL 23 "java/lang/IndexOutOfBoundsException") cwl619) (va_Nw.use rfl (hT.1 (Cond.castable "java/lang/IndexOutOfBoundsException" "java/lang/IndexOutOfBoundsException") (tf_cast (539, "java/lang/IndexOutOfBoundsException") (by decide +kernel)))) hcell hvm hcl ?_
    refine lv_astore (lv' := (6, .ref q9) :: [(0, .ref (sh.2 qx)), (1, .int a1), (2, .int a2), (3, .int a3), (4, .int a4), (5, .ref (sh.2 qo))]) hx hb dw_odds_17 hl (by decide) rfl (fun ls hl => ?_)
    refine lv_iconst (v := 1) hx hb dw_odds_19 (by decide) ?_
    exact W.widen (Nat.le_of_ble_eq_true rfl) (Nat.le_of_ble_eq_true rfl) (W.iret (v := 1) hx hb hr (fun t ht hW9 => ⟨⟨1, u, rfl, ⟨hpx9, g0, hku⟩, by rw [ht]; exact hP1, hD1⟩, hS1.F ht⟩) hS1.2.2 dw_odds_20)
  · obtain ⟨hpx, hpo9⟩ := hpo
    have hku := wr_keep hpx hqo (by decide +kernel) hwo
    obtain ⟨r9, rfl⟩ := hrv
    refine lv_i2l hx hb dw_odds_12 rfl ?_
    refine va_last hx hb hK hP1 hD1 hS1 qo 7 hku hTt (vp_in_nI (n := 0) (by decide) (by decide)) dw_odds_13 (fun H2 locs2 hP2 hD2 hS2 => ?_)
    obtain ⟨g9, hg9⟩ : ∃ g9, g9 = vp_updL g0 (0 : Int32).toNatClampNeg r9.toInt64 := ⟨_, rfl⟩
    rw [← hg9] at hP2 hD2
    refine lv_goto (tgt := 33) hx hb dw_odds_14 (by decide) ?_
    refine lv_iconst (v := 0) hx hb dw_odds_33 (by decide) ?_
    exact W.widen (Nat.le_of_ble_eq_true rfl) (Nat.le_of_ble_eq_true rfl) (W.iret (v := 0) hx hb hr (fun t ht hW9 => ⟨⟨0, (u.1, u.2.set qo (sh.2 qo, .inl (cO, 1, .inr (.inl g9)))), rfl, ⟨wr_set hpx hqo (by decide +kernel) (by decide +kernel) hwo ⟨rfl, rfl⟩, g9, wr_get hku⟩, by rw [ht]; exact hP2, hD2⟩, hS2.F ht⟩) hS2.2.2 dw_odds_34)
theorem dw_parPlay_0 : decode cL_parPlay 0 = .ok (.aload_n 2, 1) := by decide +kernel
theorem dw_parPlay_1 : decode cL_parPlay 1 = .ok (.iconst 0, 1) := by decide +kernel
theorem dw_parPlay_2 : decode cL_parPlay 2 = .ok (.aload_n 0, 1) := by decide +kernel
theorem dw_parPlay_3 : decode cL_parPlay 3 = .ok (.iload_n 1, 1) := by decide +kernel
theorem dw_parPlay_4 : decode cL_parPlay 4 = .ok (.invokevirtual 157, 3) := by decide +kernel
theorem dw_parPlay_7 : decode cL_parPlay 7 = .ok (.i2l, 1) := by decide +kernel
theorem dw_parPlay_8 : decode cL_parPlay 8 = .ok (.lastore, 1) := by decide +kernel
theorem dw_parPlay_9 : decode cL_parPlay 9 = .ok (.goto 9, 3) := by decide +kernel
theorem dw_parPlay_12 : decode cL_parPlay 12 = .ok (.astore_n 3, 1) := by decide +kernel
theorem dw_parPlay_13 : decode cL_parPlay 13 = .ok (.iconst 1, 1) := by decide +kernel
theorem dw_parPlay_14 : decode cL_parPlay 14 = .ok (.ireturn, 1) := by decide +kernel
theorem dw_parPlay_15 : decode cL_parPlay 15 = .ok (.astore_n 3, 1) := by decide +kernel
theorem dw_parPlay_16 : decode cL_parPlay 16 = .ok (.iconst 2, 1) := by decide +kernel
theorem dw_parPlay_17 : decode cL_parPlay 17 = .ok (.ireturn, 1) := by decide +kernel
theorem dw_parPlay_18 : decode cL_parPlay 18 = .ok (.iconst 0, 1) := by decide +kernel
theorem dw_parPlay_19 : decode cL_parPlay 19 = .ok (.ireturn, 1) := by decide +kernel
theorem gw_X6_parPlay : en_CV en_cw RL 157 yX6_parPlay RX6 cX6_parPlay 5 (some .int) 1 := en_gv cwl1239 cwl1240 cwl1241 cwl75 cwl1242 ⟨rfl, by decide, by decide, by decide +kernel⟩
set_option maxHeartbeats 4000000 in
set_option maxRecDepth 100000 in
theorem wr_parPlay {l : Launch} (hl9 : l.stackTraces = false) {PP : Int32 → Int32 → Prop} (hPP : en_P0 PP) (Ω : Nat → en_H → va_W → Prop) (D : va_G) (tys : List (ClassId × FieldType)) (cO cD : ClassId) (sh : en_H) (w : va_W) (sz qx qo : Nat) (fx : List Value) (g0 : (Nat → Int64)) (a1 : Int32) (hTY : tys.map Prod.snd = en_TY0) (hW : en_W PP en_KT k_X6_parPlay_0.2.2.2.2.1 sh tys (fun _ => False) w) (hD0 : va_D (va_A w sz) w) (hΩ : en_Om en_om0 sh Ω) (hqx : sh.1[qx]? = some 0) (hwx : w[qx]? = some (sh.2 qx, .inr (12, fx))) (hqo : sh.1[qo]? = some 56) (hwo : w[qo]? = some (sh.2 qo, .inl (cO, 1, .inr (.inl g0)))) :
    Met l yL_parPlay (Cond.codeWith yL_parPlay cL_parPlay 4 (some .int) [(0, 9, 12, 23), (0, 9, 15, 54)] :: en_cw) (en_rm 3 (2, 12)) (va_Pc [.ref (sh.2 qx), .int a1, .ref (sh.2 qo)] (en_B D vwCl (tys ++ [(cO, .long), (cD, .double)]) w sz)) (va_Qi (fun _ u => (en_Px tys PP en_KT k_X6_parPlay_0.2.2.2.2.1 ((56, 0) :: k_X6_parPlay_0.2.2.2.1) sh w u ∧ ∃ g, u.2[qo]? = some (sh.2 qo, .inl (cO, 1, .inr (.inl g))))) (en_Bw D vwCl (va_A w sz)) (va_A w sz)) 2 12 (va_A w sz) := by
  refine va_MetW (cc := cL_parPlay) (maxL := 4) (ret := some .int) (hh := [(0, 9, 12, 23), (0, 9, 15, 54)]) (by decide +kernel) rfl ?_
  intro p e s m args below meth c s₁ B hml hv
  obtain ⟨rfl, hsz, hP, hK, hT⟩ := hv
  subst hsz
  have hx := B.exec
  have hb := B.bytes
  have hr := B.returns
  have hts0 := atoms_spec (ws := Cond.codeWith yL_parPlay cL_parPlay 4 (some .int) [(0, 9, 12, 23), (0, 9, 15, 54)] :: en_cw) B.pre
  have hts : ∀ z ∈ en_cw, z.before _ s = true := fun z hz => hts0 z (List.mem_cons_of_mem _ hz)
  have hown : s.vm.findClass RL = some m.cls := findClass_of_methodNamed B.named
  have htab := vx_table (x := yL_parPlay) B (hts0 _ List.mem_cons_self)
  have hA : ∀ q : Nat, s.heap.size ≤ q → va_A w s.heap.size q := fun q h => Or.inr h
  have hS : va_S (va_A w s.heap.size) s.heap s.heap [] := va_S.rf
  have hK0 : va_K D vwCl tys s := hK.pre
  have hTt : (tys ++ [(cO, .long), (cD, .double)])[7]? = some (cO, .long) := wr_ty hTY
  have hl := lv_entry ([.ref (sh.2 qx), .int a1, .ref (sh.2 qo)]) (n := 4) (Nat.le_of_ble_eq_true rfl)
  rw [lg_entry_eq]
  generalize (lg_sl ([.ref (sh.2 qx), .int a1, .ref (sh.2 qo)]) ++ List.replicate (4 - (lg_sl ([.ref (sh.2 qx), .int a1, .ref (sh.2 qo)])).length) Slot.unset).toArray = ls at hl ⊢
  have hl : lv_has ls 4 [(0, .ref (sh.2 qx)), (1, .int a1), (2, .ref (sh.2 qo))] := hl
  refine lv_aload_n hx hb dw_parPlay_0 rfl (lv_at hl 2 rfl) ?_
  refine lv_iconst (v := 0) hx hb dw_parPlay_1 (by decide) ?_
  refine lv_aload_n hx hb dw_parPlay_2 rfl (lv_at hl 0 rfl) ?_
  refine lv_iload_n hx hb dw_parPlay_3 rfl (lv_at hl 1 rfl) ?_
  refine en_hcV (q0 := qx) (b := sh.2 qx) (fs := fx) (co := 12) (ρp := [.ref (sh.2 qx), .int a1]) (As := [.int a1]) (rest := [.int 0, .ref (sh.2 qo)]) (lv' := 2) (ct_X6_parPlay_0 hl9 hPP Ω) gw_X6_parPlay rfl rfl hwx rfl rfl (Nat.le_of_ble_eq_true rfl) ⟨Nat.le_of_ble_eq_true rfl, Nat.le_of_ble_eq_true rfl⟩ ⟨Nat.le_of_ble_eq_true rfl, Nat.le_of_ble_eq_true rfl⟩ (Nat.le_of_ble_eq_true rfl) hx hb (hml.trans hl.1.symm) hts hown hTY hK0 hT hP hD0 hS hA hW hΩ (wr_pa (env := k_X6_parPlay_0.2.1.1) ⟨⟨qx, hqx, rfl⟩, ⟨a1, rfl, en_lo a1, en_hi a1⟩, trivial⟩) dw_parPlay_4 (fun x9 hx9 ce q9 u H1 locs1 hpx hP1 hD1 hS1 hcell hvm hcl => ?_) (fun u res H1 locs1 hrv hpo hP1 hD1 hS1 => ?_)
  · have hku := wr_keep hpx hqo (by decide +kernel) hwo
    have hpx9 := wr_same hpx ((56, 0) :: k_X6_parPlay_0.2.2.2.1) (fun z hz => List.mem_cons_of_mem _ hz)
    rcases List.mem_cons.mp hx9 with hx8 | hx9
    · subst hx8
      refine vx_catch (E := "java/lang/IndexOutOfBoundsException") (name := "java/lang/IndexOutOfBoundsException") hown [] ⟨0, 9, 12, 23⟩ [⟨0, 9, 15, 54⟩] (htab.trans rfl) wr_nil (by decide) (by decide) (hts (.classLink RL 23 "java/lang/IndexOutOfBoundsException") cwl619) (va_Nw.use rfl (hT.1 (Cond.castable "java/lang/IndexOutOfBoundsException" "java/lang/IndexOutOfBoundsException") (tf_cast (539, "java/lang/IndexOutOfBoundsException") (by decide +kernel)))) hcell hvm hcl ?_
      refine lv_astore_n (lv' := (3, .ref q9) :: [(0, .ref (sh.2 qx)), (1, .int a1), (2, .ref (sh.2 qo))]) hx hb dw_parPlay_12 rfl hl (by decide) rfl (fun ls hl => ?_)
      refine lv_iconst (v := 1) hx hb dw_parPlay_13 (by decide) ?_
      exact W.widen (Nat.le_of_ble_eq_true rfl) (Nat.le_of_ble_eq_true rfl) (W.iret (v := 1) hx hb hr (fun t ht hW9 => ⟨⟨1, u, rfl, ⟨hpx9, g0, hku⟩, by rw [ht]; exact hP1, hD1⟩, hS1.F ht⟩) hS1.2.2 dw_parPlay_14)
    have hx8 := List.mem_singleton.mp hx9
    subst hx8
    refine vx_catch (E := "java/util/NoSuchElementException") (name := "java/util/NoSuchElementException") hown [⟨0, 9, 12, 23⟩] ⟨0, 9, 15, 54⟩ [] (htab.trans rfl) (wr_cons (Or.inr ⟨by decide, "java/lang/IndexOutOfBoundsException", (hts (.classLink RL 23 "java/lang/IndexOutOfBoundsException") cwl619), hT.2.2.2.2.1 _ (by decide +kernel) _ (by decide +kernel) (by decide)⟩) wr_nil) (by decide) (by decide) (hts (.classLink RL 54 "java/util/NoSuchElementException") cwl765) (va_Nw.use rfl (hT.1 (Cond.castable "java/util/NoSuchElementException" "java/util/NoSuchElementException") (tf_cast (181, "java/util/NoSuchElementException") (by decide +kernel)))) hcell hvm hcl ?_
    refine lv_astore_n (lv' := (3, .ref q9) :: [(0, .ref (sh.2 qx)), (1, .int a1), (2, .ref (sh.2 qo))]) hx hb dw_parPlay_15 rfl hl (by decide) rfl (fun ls hl => ?_)
    refine lv_iconst (v := 2) hx hb dw_parPlay_16 (by decide) ?_
    exact W.widen (Nat.le_of_ble_eq_true rfl) (Nat.le_of_ble_eq_true rfl) (W.iret (v := 2) hx hb hr (fun t ht hW9 => ⟨⟨2, u, rfl, ⟨hpx9, g0, hku⟩, by rw [ht]; exact hP1, hD1⟩, hS1.F ht⟩) hS1.2.2 dw_parPlay_17)
  · obtain ⟨hpx, hpo9⟩ := hpo
    have hku := wr_keep hpx hqo (by decide +kernel) hwo
    obtain ⟨r9, rfl⟩ := hrv
    refine lv_i2l hx hb dw_parPlay_7 rfl ?_
    refine va_last hx hb hK hP1 hD1 hS1 qo 7 hku hTt (vp_in_nI (n := 0) (by decide) (by decide)) dw_parPlay_8 (fun H2 locs2 hP2 hD2 hS2 => ?_)
    obtain ⟨g9, hg9⟩ : ∃ g9, g9 = vp_updL g0 (0 : Int32).toNatClampNeg r9.toInt64 := ⟨_, rfl⟩
    rw [← hg9] at hP2 hD2
    refine lv_goto (tgt := 18) hx hb dw_parPlay_9 (by decide) ?_
    refine lv_iconst (v := 0) hx hb dw_parPlay_18 (by decide) ?_
    exact W.widen (Nat.le_of_ble_eq_true rfl) (Nat.le_of_ble_eq_true rfl) (W.iret (v := 0) hx hb hr (fun t ht hW9 => ⟨⟨0, (u.1, u.2.set qo (sh.2 qo, .inl (cO, 1, .inr (.inl g9)))), rfl, ⟨wr_set hpx hqo (by decide +kernel) (by decide +kernel) hwo ⟨rfl, rfl⟩, g9, wr_get hku⟩, by rw [ht]; exact hP2, hD2⟩, hS2.F ht⟩) hS2.2.2 dw_parPlay_19)
theorem dw_penalties_0 : decode cL_penalties 0 = .ok (.aload_n 2, 1) := by decide +kernel
theorem dw_penalties_1 : decode cL_penalties 1 = .ok (.iconst 0, 1) := by decide +kernel
theorem dw_penalties_2 : decode cL_penalties 2 = .ok (.aload_n 0, 1) := by decide +kernel
theorem dw_penalties_3 : decode cL_penalties 3 = .ok (.iload_n 1, 1) := by decide +kernel
theorem dw_penalties_4 : decode cL_penalties 4 = .ok (.invokevirtual 129, 3) := by decide +kernel
theorem dw_penalties_7 : decode cL_penalties 7 = .ok (.i2l, 1) := by decide +kernel
theorem dw_penalties_8 : decode cL_penalties 8 = .ok (.lastore, 1) := by decide +kernel
theorem dw_penalties_9 : decode cL_penalties 9 = .ok (.goto 9, 3) := by decide +kernel
theorem dw_penalties_12 : decode cL_penalties 12 = .ok (.astore_n 3, 1) := by decide +kernel
theorem dw_penalties_13 : decode cL_penalties 13 = .ok (.iconst 1, 1) := by decide +kernel
theorem dw_penalties_14 : decode cL_penalties 14 = .ok (.ireturn, 1) := by decide +kernel
theorem dw_penalties_15 : decode cL_penalties 15 = .ok (.astore_n 3, 1) := by decide +kernel
theorem dw_penalties_16 : decode cL_penalties 16 = .ok (.iconst 2, 1) := by decide +kernel
theorem dw_penalties_17 : decode cL_penalties 17 = .ok (.ireturn, 1) := by decide +kernel
theorem dw_penalties_18 : decode cL_penalties 18 = .ok (.iconst 0, 1) := by decide +kernel
theorem dw_penalties_19 : decode cL_penalties 19 = .ok (.ireturn, 1) := by decide +kernel
theorem gw_X6_penalties : en_CV en_cw RL 129 yX6_penalties RX6 cX6_penalties 2 (some .int) 1 := en_gv cwl1141 cwl1142 cwl1143 cwl75 cwl1144 ⟨rfl, by decide, by decide, by decide +kernel⟩
set_option maxHeartbeats 4000000 in
set_option maxRecDepth 100000 in
theorem wr_penalties {l : Launch} (hl9 : l.stackTraces = false) {PP : Int32 → Int32 → Prop} (hPP : en_P0 PP) (Ω : Nat → en_H → va_W → Prop) (D : va_G) (tys : List (ClassId × FieldType)) (cO cD : ClassId) (sh : en_H) (w : va_W) (sz qx qo : Nat) (fx : List Value) (g0 : (Nat → Int64)) (a1 : Int32) (hTY : tys.map Prod.snd = en_TY0) (hW : en_W PP en_KT k_X6_penalties_0.2.2.2.2.1 sh tys (fun _ => False) w) (hD0 : va_D (va_A w sz) w) (hΩ : en_Om en_om0 sh Ω) (hqx : sh.1[qx]? = some 0) (hwx : w[qx]? = some (sh.2 qx, .inr (12, fx))) (hqo : sh.1[qo]? = some 56) (hwo : w[qo]? = some (sh.2 qo, .inl (cO, 1, .inr (.inl g0)))) :
    Met l yL_penalties (Cond.codeWith yL_penalties cL_penalties 4 (some .int) [(0, 9, 12, 23), (0, 9, 15, 15)] :: en_cw) (en_rm 2 (2, 12)) (va_Pc [.ref (sh.2 qx), .int a1, .ref (sh.2 qo)] (en_B D vwCl (tys ++ [(cO, .long), (cD, .double)]) w sz)) (va_Qi (fun _ u => (en_Px tys PP en_KT k_X6_penalties_0.2.2.2.2.1 ((56, 0) :: k_X6_penalties_0.2.2.2.1) sh w u ∧ ∃ g, u.2[qo]? = some (sh.2 qo, .inl (cO, 1, .inr (.inl g))))) (en_Bw D vwCl (va_A w sz)) (va_A w sz)) 2 12 (va_A w sz) := by
  refine va_MetW (cc := cL_penalties) (maxL := 4) (ret := some .int) (hh := [(0, 9, 12, 23), (0, 9, 15, 15)]) (by decide +kernel) rfl ?_
  intro p e s m args below meth c s₁ B hml hv
  obtain ⟨rfl, hsz, hP, hK, hT⟩ := hv
  subst hsz
  have hx := B.exec
  have hb := B.bytes
  have hr := B.returns
  have hts0 := atoms_spec (ws := Cond.codeWith yL_penalties cL_penalties 4 (some .int) [(0, 9, 12, 23), (0, 9, 15, 15)] :: en_cw) B.pre
  have hts : ∀ z ∈ en_cw, z.before _ s = true := fun z hz => hts0 z (List.mem_cons_of_mem _ hz)
  have hown : s.vm.findClass RL = some m.cls := findClass_of_methodNamed B.named
  have htab := vx_table (x := yL_penalties) B (hts0 _ List.mem_cons_self)
  have hA : ∀ q : Nat, s.heap.size ≤ q → va_A w s.heap.size q := fun q h => Or.inr h
  have hS : va_S (va_A w s.heap.size) s.heap s.heap [] := va_S.rf
  have hK0 : va_K D vwCl tys s := hK.pre
  have hTt : (tys ++ [(cO, .long), (cD, .double)])[7]? = some (cO, .long) := wr_ty hTY
  have hl := lv_entry ([.ref (sh.2 qx), .int a1, .ref (sh.2 qo)]) (n := 4) (Nat.le_of_ble_eq_true rfl)
  rw [lg_entry_eq]
  generalize (lg_sl ([.ref (sh.2 qx), .int a1, .ref (sh.2 qo)]) ++ List.replicate (4 - (lg_sl ([.ref (sh.2 qx), .int a1, .ref (sh.2 qo)])).length) Slot.unset).toArray = ls at hl ⊢
  have hl : lv_has ls 4 [(0, .ref (sh.2 qx)), (1, .int a1), (2, .ref (sh.2 qo))] := hl
  refine lv_aload_n hx hb dw_penalties_0 rfl (lv_at hl 2 rfl) ?_
  refine lv_iconst (v := 0) hx hb dw_penalties_1 (by decide) ?_
  refine lv_aload_n hx hb dw_penalties_2 rfl (lv_at hl 0 rfl) ?_
  refine lv_iload_n hx hb dw_penalties_3 rfl (lv_at hl 1 rfl) ?_
  refine en_hcV (q0 := qx) (b := sh.2 qx) (fs := fx) (co := 12) (ρp := [.ref (sh.2 qx), .int a1]) (As := [.int a1]) (rest := [.int 0, .ref (sh.2 qo)]) (lv' := 1) (ct_X6_penalties_0 hl9 hPP Ω) gw_X6_penalties rfl rfl hwx rfl rfl (Nat.le_of_ble_eq_true rfl) ⟨Nat.le_of_ble_eq_true rfl, Nat.le_of_ble_eq_true rfl⟩ ⟨Nat.le_of_ble_eq_true rfl, Nat.le_of_ble_eq_true rfl⟩ (Nat.le_of_ble_eq_true rfl) hx hb (hml.trans hl.1.symm) hts hown hTY hK0 hT hP hD0 hS hA hW hΩ (wr_pa (env := k_X6_penalties_0.2.1.1) ⟨⟨qx, hqx, rfl⟩, ⟨a1, rfl, en_lo a1, en_hi a1⟩, trivial⟩) dw_penalties_4 (fun x9 hx9 ce q9 u H1 locs1 hpx hP1 hD1 hS1 hcell hvm hcl => ?_) (fun u res H1 locs1 hrv hpo hP1 hD1 hS1 => ?_)
  · have hku := wr_keep hpx hqo (by decide +kernel) hwo
    have hpx9 := wr_same hpx ((56, 0) :: k_X6_penalties_0.2.2.2.1) (fun z hz => List.mem_cons_of_mem _ hz)
    rcases List.mem_cons.mp hx9 with hx8 | hx9
    · subst hx8
      refine vx_catch (E := "java/lang/IllegalStateException") (name := "java/lang/IllegalStateException") hown [⟨0, 9, 12, 23⟩] ⟨0, 9, 15, 15⟩ [] (htab.trans rfl) (wr_cons (Or.inr ⟨by decide, "java/lang/IndexOutOfBoundsException", (hts (.classLink RL 23 "java/lang/IndexOutOfBoundsException") cwl619), hT.2.2.2.2.1 _ (by decide +kernel) _ (by decide +kernel) (by decide)⟩) wr_nil) (by decide) (by decide) (hts (.classLink RL 15 "java/lang/IllegalStateException") cwl499) (va_Nw.use rfl (hT.1 (Cond.castable "java/lang/IllegalStateException" "java/lang/IllegalStateException") (tf_cast (69, "java/lang/IllegalStateException") (by decide +kernel)))) hcell hvm hcl ?_
      refine lv_astore_n (lv' := (3, .ref q9) :: [(0, .ref (sh.2 qx)), (1, .int a1), (2, .ref (sh.2 qo))]) hx hb dw_penalties_15 rfl hl (by decide) rfl (fun ls hl => ?_)
      refine lv_iconst (v := 2) hx hb dw_penalties_16 (by decide) ?_
      exact W.widen (Nat.le_of_ble_eq_true rfl) (Nat.le_of_ble_eq_true rfl) (W.iret (v := 2) hx hb hr (fun t ht hW9 => ⟨⟨2, u, rfl, ⟨hpx9, g0, hku⟩, by rw [ht]; exact hP1, hD1⟩, hS1.F ht⟩) hS1.2.2 dw_penalties_17)
    have hx8 := List.mem_singleton.mp hx9
    subst hx8
    refine vx_catch (E := "java/lang/IndexOutOfBoundsException") (name := "java/lang/IndexOutOfBoundsException") hown [] ⟨0, 9, 12, 23⟩ [⟨0, 9, 15, 15⟩] (htab.trans rfl) wr_nil (by decide) (by decide) (hts (.classLink RL 23 "java/lang/IndexOutOfBoundsException") cwl619) (va_Nw.use rfl (hT.1 (Cond.castable "java/lang/IndexOutOfBoundsException" "java/lang/IndexOutOfBoundsException") (tf_cast (539, "java/lang/IndexOutOfBoundsException") (by decide +kernel)))) hcell hvm hcl ?_
    refine lv_astore_n (lv' := (3, .ref q9) :: [(0, .ref (sh.2 qx)), (1, .int a1), (2, .ref (sh.2 qo))]) hx hb dw_penalties_12 rfl hl (by decide) rfl (fun ls hl => ?_)
    refine lv_iconst (v := 1) hx hb dw_penalties_13 (by decide) ?_
    exact W.widen (Nat.le_of_ble_eq_true rfl) (Nat.le_of_ble_eq_true rfl) (W.iret (v := 1) hx hb hr (fun t ht hW9 => ⟨⟨1, u, rfl, ⟨hpx9, g0, hku⟩, by rw [ht]; exact hP1, hD1⟩, hS1.F ht⟩) hS1.2.2 dw_penalties_14)
  · obtain ⟨hpx, hpo9⟩ := hpo
    have hku := wr_keep hpx hqo (by decide +kernel) hwo
    obtain ⟨r9, rfl⟩ := hrv
    refine lv_i2l hx hb dw_penalties_7 rfl ?_
    refine va_last hx hb hK hP1 hD1 hS1 qo 7 hku hTt (vp_in_nI (n := 0) (by decide) (by decide)) dw_penalties_8 (fun H2 locs2 hP2 hD2 hS2 => ?_)
    obtain ⟨g9, hg9⟩ : ∃ g9, g9 = vp_updL g0 (0 : Int32).toNatClampNeg r9.toInt64 := ⟨_, rfl⟩
    rw [← hg9] at hP2 hD2
    refine lv_goto (tgt := 18) hx hb dw_penalties_9 (by decide) ?_
    refine lv_iconst (v := 0) hx hb dw_penalties_18 (by decide) ?_
    exact W.widen (Nat.le_of_ble_eq_true rfl) (Nat.le_of_ble_eq_true rfl) (W.iret (v := 0) hx hb hr (fun t ht hW9 => ⟨⟨0, (u.1, u.2.set qo (sh.2 qo, .inl (cO, 1, .inr (.inl g9)))), rfl, ⟨wr_set hpx hqo (by decide +kernel) (by decide +kernel) hwo ⟨rfl, rfl⟩, g9, wr_get hku⟩, by rw [ht]; exact hP2, hD2⟩, hS2.F ht⟩) hS2.2.2 dw_penalties_19)
