theorem dw_write_0 : decode cL_write 0 = .ok (.aload 4, 2) := by decide +kernel
theorem dw_write_2 : decode cL_write 2 = .ok (.iconst 0, 1) := by decide +kernel
theorem dw_write_3 : decode cL_write 3 = .ok (.aload_n 0, 1) := by decide +kernel
theorem dw_write_4 : decode cL_write 4 = .ok (.iload_n 1, 1) := by decide +kernel
theorem dw_write_5 : decode cL_write 5 = .ok (.iload_n 2, 1) := by decide +kernel
theorem dw_write_6 : decode cL_write 6 = .ok (.iload_n 3, 1) := by decide +kernel
theorem dw_write_7 : decode cL_write 7 = .ok (.invokevirtual 145, 3) := by decide +kernel
theorem dw_write_10 : decode cL_write 10 = .ok (.i2l, 1) := by decide +kernel
theorem dw_write_11 : decode cL_write 11 = .ok (.lastore, 1) := by decide +kernel
theorem dw_write_12 : decode cL_write 12 = .ok (.goto 15, 3) := by decide +kernel
theorem dw_write_15 : decode cL_write 15 = .ok (.astore 5, 2) := by decide +kernel
theorem dw_write_17 : decode cL_write 17 = .ok (.iconst 1, 1) := by decide +kernel
theorem dw_write_18 : decode cL_write 18 = .ok (.ireturn, 1) := by decide +kernel
theorem dw_write_19 : decode cL_write 19 = .ok (.astore 5, 2) := by decide +kernel
theorem dw_write_21 : decode cL_write 21 = .ok (.iconst 2, 1) := by decide +kernel
theorem dw_write_22 : decode cL_write 22 = .ok (.ireturn, 1) := by decide +kernel
theorem dw_write_23 : decode cL_write 23 = .ok (.astore 5, 2) := by decide +kernel
theorem dw_write_25 : decode cL_write 25 = .ok (.iconst 3, 1) := by decide +kernel
theorem dw_write_26 : decode cL_write 26 = .ok (.ireturn, 1) := by decide +kernel
theorem dw_write_27 : decode cL_write 27 = .ok (.iconst 0, 1) := by decide +kernel
theorem dw_write_28 : decode cL_write 28 = .ok (.ireturn, 1) := by decide +kernel
theorem gw_X6_write : en_CV en_cw RL 145 yX6_write RX6 cX6_write 6 (some .int) 3 := en_gv cwl1185 cwl1186 cwl1187 cwl75 cwl1188 ⟨rfl, by decide, by decide, by decide +kernel⟩
set_option maxHeartbeats 4000000 in
set_option maxRecDepth 100000 in
theorem wr_write {l : Launch} (hl9 : l.stackTraces = false) {PP : Int32 → Int32 → Prop} (hPP : en_P0 PP) (Ω : Nat → en_H → va_W → Prop) (D : va_G) (tys : List (ClassId × FieldType)) (cO cD : ClassId) (sh : en_H) (w : va_W) (sz qx qo : Nat) (fx : List Value) (g0 : (Nat → Int64)) (a1 : Int32) (a2 : Int32) (a3 : Int32) (hTY : tys.map Prod.snd = en_TY0) (hW : en_W PP en_KT k_X6_write_0.2.2.2.2.1 sh tys (fun _ => False) w) (hD0 : va_D (va_A w sz) w) (hΩ : en_Om en_om0 sh Ω) (hqx : sh.1[qx]? = some 0) (hwx : w[qx]? = some (sh.2 qx, .inr (12, fx))) (hqo : sh.1[qo]? = some 56) (hwo : w[qo]? = some (sh.2 qo, .inl (cO, 1, .inr (.inl g0)))) :
    Met l yL_write (Cond.codeWith yL_write cL_write 6 (some .int) [(0, 12, 15, 23), (0, 12, 19, 13), (0, 12, 23, 17)] :: en_cw) (en_rm 2 (3, 18)) (va_Pc [.ref (sh.2 qx), .int a1, .int a2, .int a3, .ref (sh.2 qo)] (en_B D vwCl (tys ++ [(cO, .long), (cD, .double)]) w sz)) (va_Qi (fun _ u => (en_Px tys PP en_KT k_X6_write_0.2.2.2.2.1 ((56, 0) :: k_X6_write_0.2.2.2.1) sh w u ∧ ∃ g, u.2[qo]? = some (sh.2 qo, .inl (cO, 1, .inr (.inl g))))) (en_Bw D vwCl (va_A w sz)) (va_A w sz)) 3 18 (va_A w sz) := by
  refine va_MetW (cc := cL_write) (maxL := 6) (ret := some .int) (hh := [(0, 12, 15, 23), (0, 12, 19, 13), (0, 12, 23, 17)]) (by decide +kernel) rfl ?_
  intro p e s m args below meth c s₁ B hml hv
  obtain ⟨rfl, hsz, hP, hK, hT⟩ := hv
  subst hsz
  have hx := B.exec
  have hb := B.bytes
  have hr := B.returns
  have hts0 := atoms_spec (ws := Cond.codeWith yL_write cL_write 6 (some .int) [(0, 12, 15, 23), (0, 12, 19, 13), (0, 12, 23, 17)] :: en_cw) B.pre
  have hts : ∀ z ∈ en_cw, z.before _ s = true := fun z hz => hts0 z (List.mem_cons_of_mem _ hz)
  have hown : s.vm.findClass RL = some m.cls := findClass_of_methodNamed B.named
  have htab := vx_table (x := yL_write) B (hts0 _ List.mem_cons_self)
  have hA : ∀ q : Nat, s.heap.size ≤ q → va_A w s.heap.size q := fun q h => Or.inr h
  have hS : va_S (va_A w s.heap.size) s.heap s.heap [] := va_S.rf
  have hK0 : va_K D vwCl tys s := hK.pre
  have hTt : (tys ++ [(cO, .long), (cD, .double)])[7]? = some (cO, .long) := wr_ty hTY
  have hl := lv_entry ([.ref (sh.2 qx), .int a1, .int a2, .int a3, .ref (sh.2 qo)]) (n := 6) (Nat.le_of_ble_eq_true rfl)
  rw [lg_entry_eq]
  generalize (lg_sl ([.ref (sh.2 qx), .int a1, .int a2, .int a3, .ref (sh.2 qo)]) ++ List.replicate (6 - (lg_sl ([.ref (sh.2 qx), .int a1, .int a2, .int a3, .ref (sh.2 qo)])).length) Slot.unset).toArray = ls at hl ⊢
  have hl : lv_has ls 6 [(0, .ref (sh.2 qx)), (1, .int a1), (2, .int a2), (3, .int a3), (4, .ref (sh.2 qo))] := hl
  refine lv_aload hx hb dw_write_0 (lv_at hl 4 rfl) ?_
  refine lv_iconst (v := 0) hx hb dw_write_2 (by decide) ?_
  refine lv_aload_n hx hb dw_write_3 rfl (lv_at hl 0 rfl) ?_
  refine lv_iload_n hx hb dw_write_4 rfl (lv_at hl 1 rfl) ?_
  refine lv_iload_n hx hb dw_write_5 rfl (lv_at hl 2 rfl) ?_
  refine lv_iload_n hx hb dw_write_6 rfl (lv_at hl 3 rfl) ?_
  refine en_hcV (q0 := qx) (b := sh.2 qx) (fs := fx) (co := 12) (ρp := [.ref (sh.2 qx), .int a1, .int a2, .int a3]) (As := [.int a1, .int a2, .int a3]) (rest := [.int 0, .ref (sh.2 qo)]) (lv' := 1) (ct_X6_write_0 hl9 hPP Ω) gw_X6_write rfl rfl hwx rfl rfl (Nat.le_of_ble_eq_true rfl) ⟨Nat.le_of_ble_eq_true rfl, Nat.le_of_ble_eq_true rfl⟩ ⟨Nat.le_of_ble_eq_true rfl, Nat.le_of_ble_eq_true rfl⟩ (Nat.le_of_ble_eq_true rfl) hx hb (hml.trans hl.1.symm) hts hown hTY hK0 hT hP hD0 hS hA hW hΩ (wr_pa (env := k_X6_write_0.2.1.1) ⟨⟨qx, hqx, rfl⟩, ⟨a1, rfl, en_lo a1, en_hi a1⟩, ⟨a2, rfl, en_lo a2, en_hi a2⟩, ⟨a3, rfl, en_lo a3, en_hi a3⟩, trivial⟩) dw_write_7 (fun x9 hx9 ce q9 u H1 locs1 hpx hP1 hD1 hS1 hcell hvm hcl => ?_) (fun u res H1 locs1 hrv hpo hP1 hD1 hS1 => ?_)
  · have hku := wr_keep hpx hqo (by decide +kernel) hwo
    have hpx9 := wr_same hpx ((56, 0) :: k_X6_write_0.2.2.2.1) (fun z hz => List.mem_cons_of_mem _ hz)
    rcases List.mem_cons.mp hx9 with hx8 | hx9
    · subst hx8
      refine vx_catch (E := "java/lang/IllegalArgumentException") (name := "java/lang/IllegalArgumentException") hown [⟨0, 12, 15, 23⟩] ⟨0, 12, 19, 13⟩ [⟨0, 12, 23, 17⟩] (htab.trans rfl) (wr_cons (Or.inr ⟨by decide, "java/lang/IndexOutOfBoundsException", (hts (.classLink RL 23 "java/lang/IndexOutOfBoundsException") cwl619), hT.2.2.2.2.1 _ (by decide +kernel) _ (by decide +kernel) (by decide)⟩) wr_nil) (by decide) (by decide) (hts (.classLink RL 13 "java/lang/IllegalArgumentException") cwl498) (va_Nw.use rfl (hT.1 (Cond.castable "java/lang/IllegalArgumentException" "java/lang/IllegalArgumentException") (tf_cast (53, "java/lang/IllegalArgumentException") (by decide +kernel)))) hcell hvm hcl ?_
      refine lv_astore (lv' := (5, .ref q9) :: [(0, .ref (sh.2 qx)), (1, .int a1), (2, .int a2), (3, .int a3), (4, .ref (sh.2 qo))]) hx hb dw_write_19 hl (by decide) rfl (fun ls hl => ?_)
      refine lv_iconst (v := 2) hx hb dw_write_21 (by decide) ?_
      exact W.widen (Nat.le_of_ble_eq_true rfl) (Nat.le_of_ble_eq_true rfl) (W.iret (v := 2) hx hb hr (fun t ht hW9 => ⟨⟨2, u, rfl, ⟨hpx9, g0, hku⟩, by rw [ht]; exact hP1, hD1⟩, hS1.F ht⟩) hS1.2.2 dw_write_22)
    rcases List.mem_cons.mp hx9 with hx8 | hx9
    · subst hx8
      refine vx_catch (E := "java/lang/UnsupportedOperationException") (name := "java/lang/UnsupportedOperationException") hown [⟨0, 12, 15, 23⟩, ⟨0, 12, 19, 13⟩] ⟨0, 12, 23, 17⟩ [] (htab.trans rfl) (wr_cons (Or.inr ⟨by decide, "java/lang/IndexOutOfBoundsException", (hts (.classLink RL 23 "java/lang/IndexOutOfBoundsException") cwl619), hT.2.2.2.2.1 _ (by decide +kernel) _ (by decide +kernel) (by decide)⟩) (wr_cons (Or.inr ⟨by decide, "java/lang/IllegalArgumentException", (hts (.classLink RL 13 "java/lang/IllegalArgumentException") cwl498), hT.2.2.2.2.1 _ (by decide +kernel) _ (by decide +kernel) (by decide)⟩) wr_nil)) (by decide) (by decide) (hts (.classLink RL 17 "java/lang/UnsupportedOperationException") cwl500) (va_Nw.use rfl (hT.1 (Cond.castable "java/lang/UnsupportedOperationException" "java/lang/UnsupportedOperationException") (tf_cast (78, "java/lang/UnsupportedOperationException") (by decide +kernel)))) hcell hvm hcl ?_
      refine lv_astore (lv' := (5, .ref q9) :: [(0, .ref (sh.2 qx)), (1, .int a1), (2, .int a2), (3, .int a3), (4, .ref (sh.2 qo))]) hx hb dw_write_23 hl (by decide) rfl (fun ls hl => ?_)
      refine lv_iconst (v := 3) hx hb dw_write_25 (by decide) ?_
      exact W.widen (Nat.le_of_ble_eq_true rfl) (Nat.le_of_ble_eq_true rfl) (W.iret (v := 3) hx hb hr (fun t ht hW9 => ⟨⟨3, u, rfl, ⟨hpx9, g0, hku⟩, by rw [ht]; exact hP1, hD1⟩, hS1.F ht⟩) hS1.2.2 dw_write_26)
    have hx8 := List.mem_singleton.mp hx9
    subst hx8
    refine vx_catch (E := "java/lang/IndexOutOfBoundsException") (name := "java/lang/IndexOutOfBoundsException") hown [] ⟨0, 12, 15, 23⟩ [⟨0, 12, 19, 13⟩, ⟨0, 12, 23, 17⟩] (htab.trans rfl) wr_nil (by decide) (by decide) (hts (.classLink RL 23 "java/lang/IndexOutOfBoundsException") cwl619) (va_Nw.use rfl (hT.1 (Cond.castable "java/lang/IndexOutOfBoundsException" "java/lang/IndexOutOfBoundsException") (tf_cast (539, "java/lang/IndexOutOfBoundsException") (by decide +kernel)))) hcell hvm hcl ?_
    refine lv_astore (lv' := (5, .ref q9) :: [(0, .ref (sh.2 qx)), (1, .int a1), (2, .int a2), (3, .int a3), (4, .ref (sh.2 qo))]) hx hb dw_write_15 hl (by decide) rfl (fun ls hl => ?_)
    refine lv_iconst (v := 1) hx hb dw_write_17 (by decide) ?_
    exact W.widen (Nat.le_of_ble_eq_true rfl) (Nat.le_of_ble_eq_true rfl) (W.iret (v := 1) hx hb hr (fun t ht hW9 => ⟨⟨1, u, rfl, ⟨hpx9, g0, hku⟩, by rw [ht]; exact hP1, hD1⟩, hS1.F ht⟩) hS1.2.2 dw_write_18)
  · obtain ⟨hpx, hpo9⟩ := hpo
    have hku := wr_keep hpx hqo (by decide +kernel) hwo
    obtain ⟨r9, rfl⟩ := hrv
    refine lv_i2l hx hb dw_write_10 rfl ?_
    refine va_last hx hb hK hP1 hD1 hS1 qo 7 hku hTt (vp_in_nI (n := 0) (by decide) (by decide)) dw_write_11 (fun H2 locs2 hP2 hD2 hS2 => ?_)
    obtain ⟨g9, hg9⟩ : ∃ g9, g9 = vp_updL g0 (0 : Int32).toNatClampNeg r9.toInt64 := ⟨_, rfl⟩
    rw [← hg9] at hP2 hD2
    refine lv_goto (tgt := 27) hx hb dw_write_12 (by decide) ?_
    refine lv_iconst (v := 0) hx hb dw_write_27 (by decide) ?_
    exact W.widen (Nat.le_of_ble_eq_true rfl) (Nat.le_of_ble_eq_true rfl) (W.iret (v := 0) hx hb hr (fun t ht hW9 => ⟨⟨0, (u.1, u.2.set qo (sh.2 qo, .inl (cO, 1, .inr (.inl g9)))), rfl, ⟨wr_set hpx hqo (by decide +kernel) (by decide +kernel) hwo ⟨rfl, rfl⟩, g9, wr_get hku⟩, by rw [ht]; exact hP2, hD2⟩, hS2.F ht⟩) hS2.2.2 dw_write_28)
theorem dw_wrongBall_0 : decode cL_wrongBall 0 = .ok (.aload_n 3, 1) := by decide +kernel
theorem dw_wrongBall_1 : decode cL_wrongBall 1 = .ok (.iconst 0, 1) := by decide +kernel
theorem dw_wrongBall_2 : decode cL_wrongBall 2 = .ok (.aload_n 0, 1) := by decide +kernel
theorem dw_wrongBall_3 : decode cL_wrongBall 3 = .ok (.iload_n 1, 1) := by decide +kernel
theorem dw_wrongBall_4 : decode cL_wrongBall 4 = .ok (.iload_n 2, 1) := by decide +kernel
theorem dw_wrongBall_5 : decode cL_wrongBall 5 = .ok (.invokevirtual 99, 3) := by decide +kernel
theorem dw_wrongBall_8 : decode cL_wrongBall 8 = .ok (.i2l, 1) := by decide +kernel
theorem dw_wrongBall_9 : decode cL_wrongBall 9 = .ok (.lastore, 1) := by decide +kernel
theorem dw_wrongBall_10 : decode cL_wrongBall 10 = .ok (.goto 15, 3) := by decide +kernel
theorem dw_wrongBall_13 : decode cL_wrongBall 13 = .ok (.astore 4, 2) := by decide +kernel
theorem dw_wrongBall_15 : decode cL_wrongBall 15 = .ok (.iconst 1, 1) := by decide +kernel
theorem dw_wrongBall_16 : decode cL_wrongBall 16 = .ok (.ireturn, 1) := by decide +kernel
theorem dw_wrongBall_17 : decode cL_wrongBall 17 = .ok (.astore 4, 2) := by decide +kernel
theorem dw_wrongBall_19 : decode cL_wrongBall 19 = .ok (.iconst 2, 1) := by decide +kernel
theorem dw_wrongBall_20 : decode cL_wrongBall 20 = .ok (.ireturn, 1) := by decide +kernel
theorem dw_wrongBall_21 : decode cL_wrongBall 21 = .ok (.astore 4, 2) := by decide +kernel
theorem dw_wrongBall_23 : decode cL_wrongBall 23 = .ok (.iconst 3, 1) := by decide +kernel
theorem dw_wrongBall_24 : decode cL_wrongBall 24 = .ok (.ireturn, 1) := by decide +kernel
theorem dw_wrongBall_25 : decode cL_wrongBall 25 = .ok (.iconst 0, 1) := by decide +kernel
theorem dw_wrongBall_26 : decode cL_wrongBall 26 = .ok (.ireturn, 1) := by decide +kernel
theorem gw_X6_wrongBall : en_CV en_cw RL 99 yX6_wrongBall RX6 cX6_wrongBall 4 (some .int) 2 := en_gv cwl1026 cwl1027 cwl1028 cwl75 cwl1029 ⟨rfl, by decide, by decide, by decide +kernel⟩
set_option maxHeartbeats 4000000 in
set_option maxRecDepth 100000 in
theorem wr_wrongBall {l : Launch} (hl9 : l.stackTraces = false) {PP : Int32 → Int32 → Prop} (hPP : en_P0 PP) (Ω : Nat → en_H → va_W → Prop) (D : va_G) (tys : List (ClassId × FieldType)) (cO cD : ClassId) (sh : en_H) (w : va_W) (sz qx qo : Nat) (fx : List Value) (g0 : (Nat → Int64)) (a1 : Int32) (a2 : Int32) (hTY : tys.map Prod.snd = en_TY0) (hW : en_W PP en_KT k_X6_wrongBall_0.2.2.2.2.1 sh tys (fun _ => False) w) (hD0 : va_D (va_A w sz) w) (hΩ : en_Om en_om0 sh Ω) (hqx : sh.1[qx]? = some 0) (hwx : w[qx]? = some (sh.2 qx, .inr (12, fx))) (hqo : sh.1[qo]? = some 56) (hwo : w[qo]? = some (sh.2 qo, .inl (cO, 1, .inr (.inl g0)))) :
    Met l yL_wrongBall (Cond.codeWith yL_wrongBall cL_wrongBall 5 (some .int) [(0, 10, 13, 23), (0, 10, 17, 15), (0, 10, 21, 17)] :: en_cw) (en_rm 2 (4, 24)) (va_Pc [.ref (sh.2 qx), .int a1, .int a2, .ref (sh.2 qo)] (en_B D vwCl (tys ++ [(cO, .long), (cD, .double)]) w sz)) (va_Qi (fun _ u => (en_Px tys PP en_KT k_X6_wrongBall_0.2.2.2.2.1 ((56, 0) :: k_X6_wrongBall_0.2.2.2.1) sh w u ∧ ∃ g, u.2[qo]? = some (sh.2 qo, .inl (cO, 1, .inr (.inl g))))) (en_Bw D vwCl (va_A w sz)) (va_A w sz)) 4 24 (va_A w sz) := by
  refine va_MetW (cc := cL_wrongBall) (maxL := 5) (ret := some .int) (hh := [(0, 10, 13, 23), (0, 10, 17, 15), (0, 10, 21, 17)]) (by decide +kernel) rfl ?_
  intro p e s m args below meth c s₁ B hml hv
  obtain ⟨rfl, hsz, hP, hK, hT⟩ := hv
  subst hsz
  have hx := B.exec
  have hb := B.bytes
  have hr := B.returns
  have hts0 := atoms_spec (ws := Cond.codeWith yL_wrongBall cL_wrongBall 5 (some .int) [(0, 10, 13, 23), (0, 10, 17, 15), (0, 10, 21, 17)] :: en_cw) B.pre
  have hts : ∀ z ∈ en_cw, z.before _ s = true := fun z hz => hts0 z (List.mem_cons_of_mem _ hz)
  have hown : s.vm.findClass RL = some m.cls := findClass_of_methodNamed B.named
  have htab := vx_table (x := yL_wrongBall) B (hts0 _ List.mem_cons_self)
  have hA : ∀ q : Nat, s.heap.size ≤ q → va_A w s.heap.size q := fun q h => Or.inr h
  have hS : va_S (va_A w s.heap.size) s.heap s.heap [] := va_S.rf
  have hK0 : va_K D vwCl tys s := hK.pre
  have hTt : (tys ++ [(cO, .long), (cD, .double)])[7]? = some (cO, .long) := wr_ty hTY
  have hl := lv_entry ([.ref (sh.2 qx), .int a1, .int a2, .ref (sh.2 qo)]) (n := 5) (Nat.le_of_ble_eq_true rfl)
  rw [lg_entry_eq]
  generalize (lg_sl ([.ref (sh.2 qx), .int a1, .int a2, .ref (sh.2 qo)]) ++ List.replicate (5 - (lg_sl ([.ref (sh.2 qx), .int a1, .int a2, .ref (sh.2 qo)])).length) Slot.unset).toArray = ls at hl ⊢
  have hl : lv_has ls 5 [(0, .ref (sh.2 qx)), (1, .int a1), (2, .int a2), (3, .ref (sh.2 qo))] := hl
  refine lv_aload_n hx hb dw_wrongBall_0 rfl (lv_at hl 3 rfl) ?_
  refine lv_iconst (v := 0) hx hb dw_wrongBall_1 (by decide) ?_
  refine lv_aload_n hx hb dw_wrongBall_2 rfl (lv_at hl 0 rfl) ?_
  refine lv_iload_n hx hb dw_wrongBall_3 rfl (lv_at hl 1 rfl) ?_
  refine lv_iload_n hx hb dw_wrongBall_4 rfl (lv_at hl 2 rfl) ?_
  refine en_hcV (q0 := qx) (b := sh.2 qx) (fs := fx) (co := 12) (ρp := [.ref (sh.2 qx), .int a1, .int a2]) (As := [.int a1, .int a2]) (rest := [.int 0, .ref (sh.2 qo)]) (lv' := 1) (ct_X6_wrongBall_0 hl9 hPP Ω) gw_X6_wrongBall rfl rfl hwx rfl rfl (Nat.le_of_ble_eq_true rfl) ⟨Nat.le_of_ble_eq_true rfl, Nat.le_of_ble_eq_true rfl⟩ ⟨Nat.le_of_ble_eq_true rfl, Nat.le_of_ble_eq_true rfl⟩ (Nat.le_of_ble_eq_true rfl) hx hb (hml.trans hl.1.symm) hts hown hTY hK0 hT hP hD0 hS hA hW hΩ (wr_pa (env := k_X6_wrongBall_0.2.1.1) ⟨⟨qx, hqx, rfl⟩, ⟨a1, rfl, en_lo a1, en_hi a1⟩, ⟨a2, rfl, en_lo a2, en_hi a2⟩, trivial⟩) dw_wrongBall_5 (fun x9 hx9 ce q9 u H1 locs1 hpx hP1 hD1 hS1 hcell hvm hcl => ?_) (fun u res H1 locs1 hrv hpo hP1 hD1 hS1 => ?_)
  · have hku := wr_keep hpx hqo (by decide +kernel) hwo
    have hpx9 := wr_same hpx ((56, 0) :: k_X6_wrongBall_0.2.2.2.1) (fun z hz => List.mem_cons_of_mem _ hz)
    rcases List.mem_cons.mp hx9 with hx8 | hx9
    · subst hx8
      refine vx_catch (E := "java/lang/IllegalStateException") (name := "java/lang/IllegalStateException") hown [⟨0, 10, 13, 23⟩] ⟨0, 10, 17, 15⟩ [⟨0, 10, 21, 17⟩] (htab.trans rfl) (wr_cons (Or.inr ⟨by decide, "java/lang/IndexOutOfBoundsException", (hts (.classLink RL 23 "java/lang/IndexOutOfBoundsException") cwl619), hT.2.2.2.2.1 _ (by decide +kernel) _ (by decide +kernel) (by decide)⟩) wr_nil) (by decide) (by decide) (hts (.classLink RL 15 "java/lang/IllegalStateException") cwl499) (va_Nw.use rfl (hT.1 (Cond.castable "java/lang/IllegalStateException" "java/lang/IllegalStateException") (tf_cast (69, "java/lang/IllegalStateException") (by decide +kernel)))) hcell hvm hcl ?_
      refine lv_astore (lv' := (4, .ref q9) :: [(0, .ref (sh.2 qx)), (1, .int a1), (2, .int a2), (3, .ref (sh.2 qo))]) hx hb dw_wrongBall_17 hl (by decide) rfl (fun ls hl => ?_)
      refine lv_iconst (v := 2) hx hb dw_wrongBall_19 (by decide) ?_
      exact W.widen (Nat.le_of_ble_eq_true rfl) (Nat.le_of_ble_eq_true rfl) (W.iret (v := 2) hx hb hr (fun t ht hW9 => ⟨⟨2, u, rfl, ⟨hpx9, g0, hku⟩, by rw [ht]; exact hP1, hD1⟩, hS1.F ht⟩) hS1.2.2 dw_wrongBall_20)
    rcases List.mem_cons.mp hx9 with hx8 | hx9
    · subst hx8
      refine vx_catch (E := "java/lang/UnsupportedOperationException") (name := "java/lang/UnsupportedOperationException") hown [⟨0, 10, 13, 23⟩, ⟨0, 10, 17, 15⟩] ⟨0, 10, 21, 17⟩ [] (htab.trans rfl) (wr_cons (Or.inr ⟨by decide, "java/lang/IndexOutOfBoundsException", (hts (.classLink RL 23 "java/lang/IndexOutOfBoundsException") cwl619), hT.2.2.2.2.1 _ (by decide +kernel) _ (by decide +kernel) (by decide)⟩) (wr_cons (Or.inr ⟨by decide, "java/lang/IllegalStateException", (hts (.classLink RL 15 "java/lang/IllegalStateException") cwl499), hT.2.2.2.2.1 _ (by decide +kernel) _ (by decide +kernel) (by decide)⟩) wr_nil)) (by decide) (by decide) (hts (.classLink RL 17 "java/lang/UnsupportedOperationException") cwl500) (va_Nw.use rfl (hT.1 (Cond.castable "java/lang/UnsupportedOperationException" "java/lang/UnsupportedOperationException") (tf_cast (78, "java/lang/UnsupportedOperationException") (by decide +kernel)))) hcell hvm hcl ?_
      refine lv_astore (lv' := (4, .ref q9) :: [(0, .ref (sh.2 qx)), (1, .int a1), (2, .int a2), (3, .ref (sh.2 qo))]) hx hb dw_wrongBall_21 hl (by decide) rfl (fun ls hl => ?_)
      refine lv_iconst (v := 3) hx hb dw_wrongBall_23 (by decide) ?_
      exact W.widen (Nat.le_of_ble_eq_true rfl) (Nat.le_of_ble_eq_true rfl) (W.iret (v := 3) hx hb hr (fun t ht hW9 => ⟨⟨3, u, rfl, ⟨hpx9, g0, hku⟩, by rw [ht]; exact hP1, hD1⟩, hS1.F ht⟩) hS1.2.2 dw_wrongBall_24)
    have hx8 := List.mem_singleton.mp hx9
    subst hx8
    refine vx_catch (E := "java/lang/IndexOutOfBoundsException") (name := "java/lang/IndexOutOfBoundsException") hown [] ⟨0, 10, 13, 23⟩ [⟨0, 10, 17, 15⟩, ⟨0, 10, 21, 17⟩] (htab.trans rfl) wr_nil (by decide) (by decide) (hts (.classLink RL 23 "java/lang/IndexOutOfBoundsException") cwl619) (va_Nw.use rfl (hT.1 (Cond.castable "java/lang/IndexOutOfBoundsException" "java/lang/IndexOutOfBoundsException") (tf_cast (539, "java/lang/IndexOutOfBoundsException") (by decide +kernel)))) hcell hvm hcl ?_
    refine lv_astore (lv' := (4, .ref q9) :: [(0, .ref (sh.2 qx)), (1, .int a1), (2, .int a2), (3, .ref (sh.2 qo))]) hx hb dw_wrongBall_13 hl (by decide) rfl (fun ls hl => ?_)
    refine lv_iconst (v := 1) hx hb dw_wrongBall_15 (by decide) ?_
    exact W.widen (Nat.le_of_ble_eq_true rfl) (Nat.le_of_ble_eq_true rfl) (W.iret (v := 1) hx hb hr (fun t ht hW9 => ⟨⟨1, u, rfl, ⟨hpx9, g0, hku⟩, by rw [ht]; exact hP1, hD1⟩, hS1.F ht⟩) hS1.2.2 dw_wrongBall_16)
  · obtain ⟨hpx, hpo9⟩ := hpo
    have hku := wr_keep hpx hqo (by decide +kernel) hwo
    obtain ⟨r9, rfl⟩ := hrv
    refine lv_i2l hx hb dw_wrongBall_8 rfl ?_
    refine va_last hx hb hK hP1 hD1 hS1 qo 7 hku hTt (vp_in_nI (n := 0) (by decide) (by decide)) dw_wrongBall_9 (fun H2 locs2 hP2 hD2 hS2 => ?_)
    obtain ⟨g9, hg9⟩ : ∃ g9, g9 = vp_updL g0 (0 : Int32).toNatClampNeg r9.toInt64 := ⟨_, rfl⟩
    rw [← hg9] at hP2 hD2
    refine lv_goto (tgt := 25) hx hb dw_wrongBall_10 (by decide) ?_
    refine lv_iconst (v := 0) hx hb dw_wrongBall_25 (by decide) ?_
    exact W.widen (Nat.le_of_ble_eq_true rfl) (Nat.le_of_ble_eq_true rfl) (W.iret (v := 0) hx hb hr (fun t ht hW9 => ⟨⟨0, (u.1, u.2.set qo (sh.2 qo, .inl (cO, 1, .inr (.inl g9)))), rfl, ⟨wr_set hpx hqo (by decide +kernel) (by decide +kernel) hwo ⟨rfl, rfl⟩, g9, wr_get hku⟩, by rw [ht]; exact hP2, hD2⟩, hS2.F ht⟩) hS2.2.2 dw_wrongBall_26)
theorem dw_wrongPlace_0 : decode cL_wrongPlace 0 = .ok (.aload 4, 2) := by decide +kernel
theorem dw_wrongPlace_2 : decode cL_wrongPlace 2 = .ok (.iconst 0, 1) := by decide +kernel
theorem dw_wrongPlace_3 : decode cL_wrongPlace 3 = .ok (.aload_n 0, 1) := by decide +kernel
theorem dw_wrongPlace_4 : decode cL_wrongPlace 4 = .ok (.iload_n 1, 1) := by decide +kernel
theorem dw_wrongPlace_5 : decode cL_wrongPlace 5 = .ok (.iload_n 2, 1) := by decide +kernel
theorem dw_wrongPlace_6 : decode cL_wrongPlace 6 = .ok (.iload_n 3, 1) := by decide +kernel
theorem dw_wrongPlace_7 : decode cL_wrongPlace 7 = .ok (.invokevirtual 88, 3) := by decide +kernel
theorem dw_wrongPlace_10 : decode cL_wrongPlace 10 = .ok (.ifCond .eq 7, 3) := by decide +kernel
theorem dw_wrongPlace_13 : decode cL_wrongPlace 13 = .ok (.lconst 1, 1) := by decide +kernel
theorem dw_wrongPlace_14 : decode cL_wrongPlace 14 = .ok (.goto 4, 3) := by decide +kernel
theorem dw_wrongPlace_17 : decode cL_wrongPlace 17 = .ok (.lconst 0, 1) := by decide +kernel
theorem dw_wrongPlace_18 : decode cL_wrongPlace 18 = .ok (.lastore, 1) := by decide +kernel
theorem dw_wrongPlace_19 : decode cL_wrongPlace 19 = .ok (.goto 15, 3) := by decide +kernel
theorem dw_wrongPlace_22 : decode cL_wrongPlace 22 = .ok (.astore 5, 2) := by decide +kernel
theorem dw_wrongPlace_24 : decode cL_wrongPlace 24 = .ok (.iconst 1, 1) := by decide +kernel
theorem dw_wrongPlace_25 : decode cL_wrongPlace 25 = .ok (.ireturn, 1) := by decide +kernel
theorem dw_wrongPlace_26 : decode cL_wrongPlace 26 = .ok (.astore 5, 2) := by decide +kernel
theorem dw_wrongPlace_28 : decode cL_wrongPlace 28 = .ok (.iconst 2, 1) := by decide +kernel
theorem dw_wrongPlace_29 : decode cL_wrongPlace 29 = .ok (.ireturn, 1) := by decide +kernel
theorem dw_wrongPlace_30 : decode cL_wrongPlace 30 = .ok (.astore 5, 2) := by decide +kernel
theorem dw_wrongPlace_32 : decode cL_wrongPlace 32 = .ok (.iconst 3, 1) := by decide +kernel
theorem dw_wrongPlace_33 : decode cL_wrongPlace 33 = .ok (.ireturn, 1) := by decide +kernel
theorem dw_wrongPlace_34 : decode cL_wrongPlace 34 = .ok (.iconst 0, 1) := by decide +kernel
theorem dw_wrongPlace_35 : decode cL_wrongPlace 35 = .ok (.ireturn, 1) := by decide +kernel
theorem gw_X6_wrongPlace : en_CV en_cw RL 88 yX6_wrongPlace RX6 cX6_wrongPlace 7 (some .boolean) 3 := en_gv cwl992 cwl993 cwl994 cwl75 cwl995 ⟨rfl, by decide, by decide, by decide +kernel⟩
set_option maxHeartbeats 4000000 in
set_option maxRecDepth 100000 in
theorem wr_wrongPlace {l : Launch} (hl9 : l.stackTraces = false) {PP : Int32 → Int32 → Prop} (hPP : en_P0 PP) (Ω : Nat → en_H → va_W → Prop) (D : va_G) (tys : List (ClassId × FieldType)) (cO cD : ClassId) (sh : en_H) (w : va_W) (sz qx qo : Nat) (fx : List Value) (g0 : (Nat → Int64)) (a1 : Int32) (a2 : Int32) (a3 : Int32) (hTY : tys.map Prod.snd = en_TY0) (hW : en_W PP en_KT k_X6_wrongPlace_0.2.2.2.2.1 sh tys (fun _ => False) w) (hD0 : va_D (va_A w sz) w) (hΩ : en_Om en_om0 sh Ω) (hqx : sh.1[qx]? = some 0) (hwx : w[qx]? = some (sh.2 qx, .inr (12, fx))) (hqo : sh.1[qo]? = some 56) (hwo : w[qo]? = some (sh.2 qo, .inl (cO, 1, .inr (.inl g0)))) :
    Met l yL_wrongPlace (Cond.codeWith yL_wrongPlace cL_wrongPlace 6 (some .int) [(0, 19, 22, 23), (0, 19, 26, 15), (0, 19, 30, 17)] :: en_cw) (en_rm 4 (4, 24)) (va_Pc [.ref (sh.2 qx), .int a1, .int a2, .int a3, .ref (sh.2 qo)] (en_B D vwCl (tys ++ [(cO, .long), (cD, .double)]) w sz)) (va_Qi (fun _ u => (en_Px tys PP en_KT k_X6_wrongPlace_0.2.2.2.2.1 ((56, 0) :: k_X6_wrongPlace_0.2.2.2.1) sh w u ∧ ∃ g, u.2[qo]? = some (sh.2 qo, .inl (cO, 1, .inr (.inl g))))) (en_Bw D vwCl (va_A w sz)) (va_A w sz)) 4 24 (va_A w sz) := by
  refine va_MetW (cc := cL_wrongPlace) (maxL := 6) (ret := some .int) (hh := [(0, 19, 22, 23), (0, 19, 26, 15), (0, 19, 30, 17)]) (by decide +kernel) rfl ?_
  intro p e s m args below meth c s₁ B hml hv
  obtain ⟨rfl, hsz, hP, hK, hT⟩ := hv
  subst hsz
  have hx := B.exec
  have hb := B.bytes
  have hr := B.returns
  have hts0 := atoms_spec (ws := Cond.codeWith yL_wrongPlace cL_wrongPlace 6 (some .int) [(0, 19, 22, 23), (0, 19, 26, 15), (0, 19, 30, 17)] :: en_cw) B.pre
  have hts : ∀ z ∈ en_cw, z.before _ s = true := fun z hz => hts0 z (List.mem_cons_of_mem _ hz)
  have hown : s.vm.findClass RL = some m.cls := findClass_of_methodNamed B.named
  have htab := vx_table (x := yL_wrongPlace) B (hts0 _ List.mem_cons_self)
  have hA : ∀ q : Nat, s.heap.size ≤ q → va_A w s.heap.size q := fun q h => Or.inr h
  have hS : va_S (va_A w s.heap.size) s.heap s.heap [] := va_S.rf
  have hK0 : va_K D vwCl tys s := hK.pre
  have hTt : (tys ++ [(cO, .long), (cD, .double)])[7]? = some (cO, .long) := wr_ty hTY
  have hl := lv_entry ([.ref (sh.2 qx), .int a1, .int a2, .int a3, .ref (sh.2 qo)]) (n := 6) (Nat.le_of_ble_eq_true rfl)
  rw [lg_entry_eq]
  generalize (lg_sl ([.ref (sh.2 qx), .int a1, .int a2, .int a3, .ref (sh.2 qo)]) ++ List.replicate (6 - (lg_sl ([.ref (sh.2 qx), .int a1, .int a2, .int a3, .ref (sh.2 qo)])).length) Slot.unset).toArray = ls at hl ⊢
  have hl : lv_has ls 6 [(0, .ref (sh.2 qx)), (1, .int a1), (2, .int a2), (3, .int a3), (4, .ref (sh.2 qo))] := hl
  refine lv_aload hx hb dw_wrongPlace_0 (lv_at hl 4 rfl) ?_
  refine lv_iconst (v := 0) hx hb dw_wrongPlace_2 (by decide) ?_
  refine lv_aload_n hx hb dw_wrongPlace_3 rfl (lv_at hl 0 rfl) ?_
  refine lv_iload_n hx hb dw_wrongPlace_4 rfl (lv_at hl 1 rfl) ?_
  refine lv_iload_n hx hb dw_wrongPlace_5 rfl (lv_at hl 2 rfl) ?_
  refine lv_iload_n hx hb dw_wrongPlace_6 rfl (lv_at hl 3 rfl) ?_
  refine en_hcV (q0 := qx) (b := sh.2 qx) (fs := fx) (co := 12) (ρp := [.ref (sh.2 qx), .int a1, .int a2, .int a3]) (As := [.int a1, .int a2, .int a3]) (rest := [.int 0, .ref (sh.2 qo)]) (lv' := 3) (ct_X6_wrongPlace_0 hl9 hPP Ω) gw_X6_wrongPlace rfl rfl hwx rfl rfl (Nat.le_of_ble_eq_true rfl) ⟨Nat.le_of_ble_eq_true rfl, Nat.le_of_ble_eq_true rfl⟩ ⟨Nat.le_of_ble_eq_true rfl, Nat.le_of_ble_eq_true rfl⟩ (Nat.le_of_ble_eq_true rfl) hx hb (hml.trans hl.1.symm) hts hown hTY hK0 hT hP hD0 hS hA hW hΩ (wr_pa (env := k_X6_wrongPlace_0.2.1.1) ⟨⟨qx, hqx, rfl⟩, ⟨a1, rfl, en_lo a1, en_hi a1⟩, ⟨a2, rfl, en_lo a2, en_hi a2⟩, ⟨a3, rfl, en_lo a3, en_hi a3⟩, trivial⟩) dw_wrongPlace_7 (fun x9 hx9 ce q9 u H1 locs1 hpx hP1 hD1 hS1 hcell hvm hcl => ?_) (fun u res H1 locs1 hrv hpo hP1 hD1 hS1 => ?_)
  · have hku := wr_keep hpx hqo (by decide +kernel) hwo
    have hpx9 := wr_same hpx ((56, 0) :: k_X6_wrongPlace_0.2.2.2.1) (fun z hz => List.mem_cons_of_mem _ hz)
    rcases List.mem_cons.mp hx9 with hx8 | hx9
    · subst hx8
      refine vx_catch (E := "java/lang/IllegalStateException") (name := "java/lang/IllegalStateException") hown [⟨0, 19, 22, 23⟩] ⟨0, 19, 26, 15⟩ [⟨0, 19, 30, 17⟩] (htab.trans rfl) (wr_cons (Or.inr ⟨by decide, "java/lang/IndexOutOfBoundsException", (hts (.classLink RL 23 "java/lang/IndexOutOfBoundsException") cwl619), hT.2.2.2.2.1 _ (by decide +kernel) _ (by decide +kernel) (by decide)⟩) wr_nil) (by decide) (by decide) (hts (.classLink RL 15 "java/lang/IllegalStateException") cwl499) (va_Nw.use rfl (hT.1 (Cond.castable "java/lang/IllegalStateException" "java/lang/IllegalStateException") (tf_cast (69, "java/lang/IllegalStateException") (by decide +kernel)))) hcell hvm hcl ?_
      refine lv_astore (lv' := (5, .ref q9) :: [(0, .ref (sh.2 qx)), (1, .int a1), (2, .int a2), (3, .int a3), (4, .ref (sh.2 qo))]) hx hb dw_wrongPlace_26 hl (by decide) rfl (fun ls hl => ?_)
      refine lv_iconst (v := 2) hx hb dw_wrongPlace_28 (by decide) ?_
      exact W.widen (Nat.le_of_ble_eq_true rfl) (Nat.le_of_ble_eq_true rfl) (W.iret (v := 2) hx hb hr (fun t ht hW9 => ⟨⟨2, u, rfl, ⟨hpx9, g0, hku⟩, by rw [ht]; exact hP1, hD1⟩, hS1.F ht⟩) hS1.2.2 dw_wrongPlace_29)
    rcases List.mem_cons.mp hx9 with hx8 | hx9
    · subst hx8
      refine vx_catch (E := "java/lang/UnsupportedOperationException") (name := "java/lang/UnsupportedOperationException") hown [⟨0, 19, 22, 23⟩, ⟨0, 19, 26, 15⟩] ⟨0, 19, 30, 17⟩ [] (htab.trans rfl) (wr_cons (Or.inr ⟨by decide, "java/lang/IndexOutOfBoundsException", (hts (.classLink RL 23 "java/lang/IndexOutOfBoundsException") cwl619), hT.2.2.2.2.1 _ (by decide +kernel) _ (by decide +kernel) (by decide)⟩) (wr_cons (Or.inr ⟨by decide, "java/lang/IllegalStateException", (hts (.classLink RL 15 "java/lang/IllegalStateException") cwl499), hT.2.2.2.2.1 _ (by decide +kernel) _ (by decide +kernel) (by decide)⟩) wr_nil)) (by decide) (by decide) (hts (.classLink RL 17 "java/lang/UnsupportedOperationException") cwl500) (va_Nw.use rfl (hT.1 (Cond.castable "java/lang/UnsupportedOperationException" "java/lang/UnsupportedOperationException") (tf_cast (78, "java/lang/UnsupportedOperationException") (by decide +kernel)))) hcell hvm hcl ?_
      refine lv_astore (lv' := (5, .ref q9) :: [(0, .ref (sh.2 qx)), (1, .int a1), (2, .int a2), (3, .int a3), (4, .ref (sh.2 qo))]) hx hb dw_wrongPlace_30 hl (by decide) rfl (fun ls hl => ?_)
      refine lv_iconst (v := 3) hx hb dw_wrongPlace_32 (by decide) ?_
      exact W.widen (Nat.le_of_ble_eq_true rfl) (Nat.le_of_ble_eq_true rfl) (W.iret (v := 3) hx hb hr (fun t ht hW9 => ⟨⟨3, u, rfl, ⟨hpx9, g0, hku⟩, by rw [ht]; exact hP1, hD1⟩, hS1.F ht⟩) hS1.2.2 dw_wrongPlace_33)
    have hx8 := List.mem_singleton.mp hx9
    subst hx8
    refine vx_catch (E := "java/lang/IndexOutOfBoundsException") (name := "java/lang/IndexOutOfBoundsException") hown [] ⟨0, 19, 22, 23⟩ [⟨0, 19, 26, 15⟩, ⟨0, 19, 30, 17⟩] (htab.trans rfl) wr_nil (by decide) (by decide) (hts (.classLink RL 23 "java/lang/IndexOutOfBoundsException") cwl619) (va_Nw.use rfl (hT.1 (Cond.castable "java/lang/IndexOutOfBoundsException" "java/lang/IndexOutOfBoundsException") (tf_cast (539, "java/lang/IndexOutOfBoundsException") (by decide +kernel)))) hcell hvm hcl ?_
    refine lv_astore (lv' := (5, .ref q9) :: [(0, .ref (sh.2 qx)), (1, .int a1), (2, .int a2), (3, .int a3), (4, .ref (sh.2 qo))]) hx hb dw_wrongPlace_22 hl (by decide) rfl (fun ls hl => ?_)
    refine lv_iconst (v := 1) hx hb dw_wrongPlace_24 (by decide) ?_
    exact W.widen (Nat.le_of_ble_eq_true rfl) (Nat.le_of_ble_eq_true rfl) (W.iret (v := 1) hx hb hr (fun t ht hW9 => ⟨⟨1, u, rfl, ⟨hpx9, g0, hku⟩, by rw [ht]; exact hP1, hD1⟩, hS1.F ht⟩) hS1.2.2 dw_wrongPlace_25)
  · obtain ⟨hpx, hpo9⟩ := hpo
    have hku := wr_keep hpx hqo (by decide +kernel) hwo
    obtain ⟨r9, rfl⟩ := hrv
    refine lv_if_eq (tgt := 17) hx hb dw_wrongPlace_10 (by decide) (fun _ => ?_) (fun _ => ?_)
    · refine lv_lconst (v := 0) hx hb dw_wrongPlace_17 (by decide) ?_
      refine va_last hx hb hK hP1 hD1 hS1 qo 7 hku hTt (vp_in_nI (n := 0) (by decide) (by decide)) dw_wrongPlace_18 (fun H2 locs2 hP2 hD2 hS2 => ?_)
      obtain ⟨g9, hg9⟩ : ∃ g9, g9 = vp_updL g0 (0 : Int32).toNatClampNeg 0 := ⟨_, rfl⟩
      rw [← hg9] at hP2 hD2
      refine lv_goto (tgt := 34) hx hb dw_wrongPlace_19 (by decide) ?_
      refine lv_iconst (v := 0) hx hb dw_wrongPlace_34 (by decide) ?_
      exact W.widen (Nat.le_of_ble_eq_true rfl) (Nat.le_of_ble_eq_true rfl) (W.iret (v := 0) hx hb hr (fun t ht hW9 => ⟨⟨0, (u.1, u.2.set qo (sh.2 qo, .inl (cO, 1, .inr (.inl g9)))), rfl, ⟨wr_set hpx hqo (by decide +kernel) (by decide +kernel) hwo ⟨rfl, rfl⟩, g9, wr_get hku⟩, by rw [ht]; exact hP2, hD2⟩, hS2.F ht⟩) hS2.2.2 dw_wrongPlace_35)
    · refine lv_lconst (v := 1) hx hb dw_wrongPlace_13 (by decide) ?_
      refine lv_goto (tgt := 18) hx hb dw_wrongPlace_14 (by decide) ?_
      refine va_last hx hb hK hP1 hD1 hS1 qo 7 hku hTt (vp_in_nI (n := 0) (by decide) (by decide)) dw_wrongPlace_18 (fun H2 locs2 hP2 hD2 hS2 => ?_)
      obtain ⟨g9, hg9⟩ : ∃ g9, g9 = vp_updL g0 (0 : Int32).toNatClampNeg 1 := ⟨_, rfl⟩
      rw [← hg9] at hP2 hD2
      refine lv_goto (tgt := 34) hx hb dw_wrongPlace_19 (by decide) ?_
      refine lv_iconst (v := 0) hx hb dw_wrongPlace_34 (by decide) ?_
      exact W.widen (Nat.le_of_ble_eq_true rfl) (Nat.le_of_ble_eq_true rfl) (W.iret (v := 0) hx hb hr (fun t ht hW9 => ⟨⟨0, (u.1, u.2.set qo (sh.2 qo, .inl (cO, 1, .inr (.inl g9)))), rfl, ⟨wr_set hpx hqo (by decide +kernel) (by decide +kernel) hwo ⟨rfl, rfl⟩, g9, wr_get hku⟩, by rw [ht]; exact hP2, hD2⟩, hS2.F ht⟩) hS2.2.2 dw_wrongPlace_35)
