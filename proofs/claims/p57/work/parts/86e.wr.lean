theorem dw_sign_0 : decode cL_sign 0 = .ok (.aload_n 2, 1) := by decide +kernel
theorem dw_sign_1 : decode cL_sign 1 = .ok (.iconst 0, 1) := by decide +kernel
theorem dw_sign_2 : decode cL_sign 2 = .ok (.aload_n 0, 1) := by decide +kernel
theorem dw_sign_3 : decode cL_sign 3 = .ok (.iload_n 1, 1) := by decide +kernel
theorem dw_sign_4 : decode cL_sign 4 = .ok (.invokevirtual 148, 3) := by decide +kernel
theorem dw_sign_7 : decode cL_sign 7 = .ok (.ifCond .eq 7, 3) := by decide +kernel
theorem dw_sign_10 : decode cL_sign 10 = .ok (.lconst 1, 1) := by decide +kernel
theorem dw_sign_11 : decode cL_sign 11 = .ok (.goto 4, 3) := by decide +kernel
theorem dw_sign_14 : decode cL_sign 14 = .ok (.lconst 0, 1) := by decide +kernel
theorem dw_sign_15 : decode cL_sign 15 = .ok (.lastore, 1) := by decide +kernel
theorem dw_sign_16 : decode cL_sign 16 = .ok (.goto 12, 3) := by decide +kernel
theorem dw_sign_19 : decode cL_sign 19 = .ok (.astore_n 3, 1) := by decide +kernel
theorem dw_sign_20 : decode cL_sign 20 = .ok (.iconst 1, 1) := by decide +kernel
theorem dw_sign_21 : decode cL_sign 21 = .ok (.ireturn, 1) := by decide +kernel
theorem dw_sign_22 : decode cL_sign 22 = .ok (.astore_n 3, 1) := by decide +kernel
theorem dw_sign_23 : decode cL_sign 23 = .ok (.iconst 2, 1) := by decide +kernel
theorem dw_sign_24 : decode cL_sign 24 = .ok (.ireturn, 1) := by decide +kernel
theorem dw_sign_25 : decode cL_sign 25 = .ok (.astore_n 3, 1) := by decide +kernel
theorem dw_sign_26 : decode cL_sign 26 = .ok (.iconst 3, 1) := by decide +kernel
theorem dw_sign_27 : decode cL_sign 27 = .ok (.ireturn, 1) := by decide +kernel
theorem dw_sign_28 : decode cL_sign 28 = .ok (.iconst 0, 1) := by decide +kernel
theorem dw_sign_29 : decode cL_sign 29 = .ok (.ireturn, 1) := by decide +kernel
theorem gw_X6_sign : en_CV en_cw RL 148 yX6_sign RX6 cX6_sign 3 (some .boolean) 1 := en_gv cwl1194 cwl1195 cwl1196 cwl75 cwl1197 ⟨rfl, by decide, by decide, by decide +kernel⟩
set_option maxHeartbeats 4000000 in
set_option maxRecDepth 100000 in
theorem wr_sign {l : Launch} (hl9 : l.stackTraces = false) {PP : Int32 → Int32 → Prop} (hPP : en_P0 PP) (Ω : Nat → en_H → va_W → Prop) (D : va_G) (tys : List (ClassId × FieldType)) (cO cD : ClassId) (sh : en_H) (w : va_W) (sz qx qo : Nat) (fx : List Value) (g0 : (Nat → Int64)) (a1 : Int32) (hTY : tys.map Prod.snd = en_TY0) (hW : en_W PP en_KT k_X6_sign_0.2.2.2.2.1 sh tys (fun _ => False) w) (hD0 : va_D (va_A w sz) w) (hΩ : en_Om en_om0 sh Ω) (hqx : sh.1[qx]? = some 0) (hwx : w[qx]? = some (sh.2 qx, .inr (12, fx))) (hqo : sh.1[qo]? = some 56) (hwo : w[qo]? = some (sh.2 qo, .inl (cO, 1, .inr (.inl g0)))) :
    Met l yL_sign (Cond.codeWith yL_sign cL_sign 4 (some .int) [(0, 16, 19, 23), (0, 16, 22, 17), (0, 16, 25, 54)] :: en_cw) (en_rm 3 (2, 12)) (va_Pc [.ref (sh.2 qx), .int a1, .ref (sh.2 qo)] (en_B D vwCl (tys ++ [(cO, .long), (cD, .double)]) w sz)) (va_Qi (fun _ u => (en_Px tys PP en_KT k_X6_sign_0.2.2.2.2.1 ((56, 0) :: k_X6_sign_0.2.2.2.1) sh w u ∧ ∃ g, u.2[qo]? = some (sh.2 qo, .inl (cO, 1, .inr (.inl g))))) (en_Bw D vwCl (va_A w sz)) (va_A w sz)) 2 12 (va_A w sz) := by
  refine va_MetW (cc := cL_sign) (maxL := 4) (ret := some .int) (hh := [(0, 16, 19, 23), (0, 16, 22, 17), (0, 16, 25, 54)]) (by decide +kernel) rfl ?_
  intro p e s m args below meth c s₁ B hml hv
  obtain ⟨rfl, hsz, hP, hK, hT⟩ := hv
  subst hsz
  have hx := B.exec
  have hb := B.bytes
  have hr := B.returns
  have hts0 := atoms_spec (ws := Cond.codeWith yL_sign cL_sign 4 (some .int) [(0, 16, 19, 23), (0, 16, 22, 17), (0, 16, 25, 54)] :: en_cw) B.pre
  have hts : ∀ z ∈ en_cw, z.before _ s = true := fun z hz => hts0 z (List.mem_cons_of_mem _ hz)
  have hown : s.vm.findClass RL = some m.cls := findClass_of_methodNamed B.named
  have htab := vx_table (x := yL_sign) B (hts0 _ List.mem_cons_self)
  have hA : ∀ q : Nat, s.heap.size ≤ q → va_A w s.heap.size q := fun q h => Or.inr h
  have hS : va_S (va_A w s.heap.size) s.heap s.heap [] := va_S.rf
  have hK0 : va_K D vwCl tys s := hK.pre
  have hTt : (tys ++ [(cO, .long), (cD, .double)])[7]? = some (cO, .long) := wr_ty hTY
  have hl := lv_entry ([.ref (sh.2 qx), .int a1, .ref (sh.2 qo)]) (n := 4) (Nat.le_of_ble_eq_true rfl)
  rw [lg_entry_eq]
  generalize (lg_sl ([.ref (sh.2 qx), .int a1, .ref (sh.2 qo)]) ++ List.replicate (4 - (lg_sl ([.ref (sh.2 qx), .int a1, .ref (sh.2 qo)])).length) Slot.unset).toArray = ls at hl ⊢
  have hl : lv_has ls 4 [(0, .ref (sh.2 qx)), (1, .int a1), (2, .ref (sh.2 qo))] := hl
  refine lv_aload_n hx hb dw_sign_0 rfl (lv_at hl 2 rfl) ?_
  refine lv_iconst (v := 0) hx hb dw_sign_1 (by decide) ?_
  refine lv_aload_n hx hb dw_sign_2 rfl (lv_at hl 0 rfl) ?_
  refine lv_iload_n hx hb dw_sign_3 rfl (lv_at hl 1 rfl) ?_
  refine en_hcV (q0 := qx) (b := sh.2 qx) (fs := fx) (co := 12) (ρp := [.ref (sh.2 qx), .int a1]) (As := [.int a1]) (rest := [.int 0, .ref (sh.2 qo)]) (lv' := 2) (ct_X6_sign_0 hl9 hPP Ω) gw_X6_sign rfl rfl hwx rfl rfl (Nat.le_of_ble_eq_true rfl) ⟨Nat.le_of_ble_eq_true rfl, Nat.le_of_ble_eq_true rfl⟩ ⟨Nat.le_of_ble_eq_true rfl, Nat.le_of_ble_eq_true rfl⟩ (Nat.le_of_ble_eq_true rfl) hx hb (hml.trans hl.1.symm) hts hown hTY hK0 hT hP hD0 hS hA hW hΩ (wr_pa (env := k_X6_sign_0.2.1.1) ⟨⟨qx, hqx, rfl⟩, ⟨a1, rfl, en_lo a1, en_hi a1⟩, trivial⟩) dw_sign_4 (fun x9 hx9 ce q9 u H1 locs1 hpx hP1 hD1 hS1 hcell hvm hcl => ?_) (fun u res H1 locs1 hrv hpo hP1 hD1 hS1 => ?_)
  · have hku := wr_keep hpx hqo (by decide +kernel) hwo
    have hpx9 := wr_same hpx ((56, 0) :: k_X6_sign_0.2.2.2.1) (fun z hz => List.mem_cons_of_mem _ hz)
    rcases List.mem_cons.mp hx9 with hx8 | hx9
    · subst hx8
      refine vx_catch (E := "java/lang/UnsupportedOperationException") (name := "java/lang/UnsupportedOperationException") hown [⟨0, 16, 19, 23⟩] ⟨0, 16, 22, 17⟩ [⟨0, 16, 25, 54⟩] (htab.trans rfl) (wr_cons (Or.inr ⟨by decide, "java/lang/IndexOutOfBoundsException", (hts (.classLink RL 23 "java/lang/IndexOutOfBoundsException") cwl619), hT.2.2.2.2.1 _ (by decide +kernel) _ (by decide +kernel) (by decide)⟩) wr_nil) (by decide) (by decide) (hts (.classLink RL 17 "java/lang/UnsupportedOperationException") cwl500) (va_Nw.use rfl (hT.1 (Cond.castable "java/lang/UnsupportedOperationException" "java/lang/UnsupportedOperationException") (tf_cast (78, "java/lang/UnsupportedOperationException") (by decide +kernel)))) hcell hvm hcl ?_
      refine lv_astore_n (lv' := (3, .ref q9) :: [(0, .ref (sh.2 qx)), (1, .int a1), (2, .ref (sh.2 qo))]) hx hb dw_sign_22 rfl hl (by decide) rfl (fun ls hl => ?_)
      refine lv_iconst (v := 2) hx hb dw_sign_23 (by decide) ?_
      exact W.widen (Nat.le_of_ble_eq_true rfl) (Nat.le_of_ble_eq_true rfl) (W.iret (v := 2) hx hb hr (fun t ht hW9 => ⟨⟨2, u, rfl, ⟨hpx9, g0, hku⟩, by rw [ht]; exact hP1, hD1⟩, hS1.F ht⟩) hS1.2.2 dw_sign_24)
    rcases List.mem_cons.mp hx9 with hx8 | hx9
    · subst hx8
      refine vx_catch (E := "java/lang/IndexOutOfBoundsException") (name := "java/lang/IndexOutOfBoundsException") hown [] ⟨0, 16, 19, 23⟩ [⟨0, 16, 22, 17⟩, ⟨0, 16, 25, 54⟩] (htab.trans rfl) wr_nil (by decide) (by decide) (hts (.classLink RL 23 "java/lang/IndexOutOfBoundsException") cwl619) (va_Nw.use rfl (hT.1 (Cond.castable "java/lang/IndexOutOfBoundsException" "java/lang/IndexOutOfBoundsException") (tf_cast (539, "java/lang/IndexOutOfBoundsException") (by decide +kernel)))) hcell hvm hcl ?_
      refine lv_astore_n (lv' := (3, .ref q9) :: [(0, .ref (sh.2 qx)), (1, .int a1), (2, .ref (sh.2 qo))]) hx hb dw_sign_19 rfl hl (by decide) rfl (fun ls hl => ?_)
      refine lv_iconst (v := 1) hx hb dw_sign_20 (by decide) ?_
      exact W.widen (Nat.le_of_ble_eq_true rfl) (Nat.le_of_ble_eq_true rfl) (W.iret (v := 1) hx hb hr (fun t ht hW9 => ⟨⟨1, u, rfl, ⟨hpx9, g0, hku⟩, by rw [ht]; exact hP1, hD1⟩, hS1.F ht⟩) hS1.2.2 dw_sign_21)
    have hx8 := List.mem_singleton.mp hx9
    subst hx8
    refine vx_catch (E := "java/util/NoSuchElementException") (name := "java/util/NoSuchElementException") hown [⟨0, 16, 19, 23⟩, ⟨0, 16, 22, 17⟩] ⟨0, 16, 25, 54⟩ [] (htab.trans rfl) (wr_cons (Or.inr ⟨by decide, "java/lang/IndexOutOfBoundsException", (hts (.classLink RL 23 "java/lang/IndexOutOfBoundsException") cwl619), hT.2.2.2.2.1 _ (by decide +kernel) _ (by decide +kernel) (by decide)⟩) (wr_cons (Or.inr ⟨by decide, "java/lang/UnsupportedOperationException", (hts (.classLink RL 17 "java/lang/UnsupportedOperationException") cwl500), hT.2.2.2.2.1 _ (by decide +kernel) _ (by decide +kernel) (by decide)⟩) wr_nil)) (by decide) (by decide) (hts (.classLink RL 54 "java/util/NoSuchElementException") cwl765) (va_Nw.use rfl (hT.1 (Cond.castable "java/util/NoSuchElementException" "java/util/NoSuchElementException") (tf_cast (181, "java/util/NoSuchElementException") (by decide +kernel)))) hcell hvm hcl ?_
    refine lv_astore_n (lv' := (3, .ref q9) :: [(0, .ref (sh.2 qx)), (1, .int a1), (2, .ref (sh.2 qo))]) hx hb dw_sign_25 rfl hl (by decide) rfl (fun ls hl => ?_)
    refine lv_iconst (v := 3) hx hb dw_sign_26 (by decide) ?_
    exact W.widen (Nat.le_of_ble_eq_true rfl) (Nat.le_of_ble_eq_true rfl) (W.iret (v := 3) hx hb hr (fun t ht hW9 => ⟨⟨3, u, rfl, ⟨hpx9, g0, hku⟩, by rw [ht]; exact hP1, hD1⟩, hS1.F ht⟩) hS1.2.2 dw_sign_27)
  · obtain ⟨hpx, hpo9⟩ := hpo
    have hku := wr_keep hpx hqo (by decide +kernel) hwo
    obtain ⟨r9, rfl⟩ := hrv
    refine lv_if_eq (tgt := 14) hx hb dw_sign_7 (by decide) (fun _ => ?_) (fun _ => ?_)
    · refine lv_lconst (v := 0) hx hb dw_sign_14 (by decide) ?_
      refine va_last hx hb hK hP1 hD1 hS1 qo 7 hku hTt (vp_in_nI (n := 0) (by decide) (by decide)) dw_sign_15 (fun H2 locs2 hP2 hD2 hS2 => ?_)
      obtain ⟨g9, hg9⟩ : ∃ g9, g9 = vp_updL g0 (0 : Int32).toNatClampNeg 0 := ⟨_, rfl⟩
      rw [← hg9] at hP2 hD2
      refine lv_goto (tgt := 28) hx hb dw_sign_16 (by decide) ?_
      refine lv_iconst (v := 0) hx hb dw_sign_28 (by decide) ?_
      exact W.widen (Nat.le_of_ble_eq_true rfl) (Nat.le_of_ble_eq_true rfl) (W.iret (v := 0) hx hb hr (fun t ht hW9 => ⟨⟨0, (u.1, u.2.set qo (sh.2 qo, .inl (cO, 1, .inr (.inl g9)))), rfl, ⟨wr_set hpx hqo (by decide +kernel) (by decide +kernel) hwo ⟨rfl, rfl⟩, g9, wr_get hku⟩, by rw [ht]; exact hP2, hD2⟩, hS2.F ht⟩) hS2.2.2 dw_sign_29)
    · refine lv_lconst (v := 1) hx hb dw_sign_10 (by decide) ?_
      refine lv_goto (tgt := 15) hx hb dw_sign_11 (by decide) ?_
      refine va_last hx hb hK hP1 hD1 hS1 qo 7 hku hTt (vp_in_nI (n := 0) (by decide) (by decide)) dw_sign_15 (fun H2 locs2 hP2 hD2 hS2 => ?_)
      obtain ⟨g9, hg9⟩ : ∃ g9, g9 = vp_updL g0 (0 : Int32).toNatClampNeg 1 := ⟨_, rfl⟩
      rw [← hg9] at hP2 hD2
      refine lv_goto (tgt := 28) hx hb dw_sign_16 (by decide) ?_
      refine lv_iconst (v := 0) hx hb dw_sign_28 (by decide) ?_
      exact W.widen (Nat.le_of_ble_eq_true rfl) (Nat.le_of_ble_eq_true rfl) (W.iret (v := 0) hx hb hr (fun t ht hW9 => ⟨⟨0, (u.1, u.2.set qo (sh.2 qo, .inl (cO, 1, .inr (.inl g9)))), rfl, ⟨wr_set hpx hqo (by decide +kernel) (by decide +kernel) hwo ⟨rfl, rfl⟩, g9, wr_get hku⟩, by rw [ht]; exact hP2, hD2⟩, hS2.F ht⟩) hS2.2.2 dw_sign_29)
theorem dw_skins_0 : decode cL_skins 0 = .ok (.aload_n 2, 1) := by decide +kernel
theorem dw_skins_1 : decode cL_skins 1 = .ok (.iconst 0, 1) := by decide +kernel
theorem dw_skins_2 : decode cL_skins 2 = .ok (.aload_n 0, 1) := by decide +kernel
theorem dw_skins_3 : decode cL_skins 3 = .ok (.iload_n 1, 1) := by decide +kernel
theorem dw_skins_4 : decode cL_skins 4 = .ok (.invokevirtual 163, 3) := by decide +kernel
theorem dw_skins_7 : decode cL_skins 7 = .ok (.i2l, 1) := by decide +kernel
theorem dw_skins_8 : decode cL_skins 8 = .ok (.lastore, 1) := by decide +kernel
theorem dw_skins_9 : decode cL_skins 9 = .ok (.goto 9, 3) := by decide +kernel
theorem dw_skins_12 : decode cL_skins 12 = .ok (.astore_n 3, 1) := by decide +kernel
theorem dw_skins_13 : decode cL_skins 13 = .ok (.iconst 1, 1) := by decide +kernel
theorem dw_skins_14 : decode cL_skins 14 = .ok (.ireturn, 1) := by decide +kernel
theorem dw_skins_15 : decode cL_skins 15 = .ok (.astore_n 3, 1) := by decide +kernel
theorem dw_skins_16 : decode cL_skins 16 = .ok (.iconst 2, 1) := by decide +kernel
theorem dw_skins_17 : decode cL_skins 17 = .ok (.ireturn, 1) := by decide +kernel
theorem dw_skins_18 : decode cL_skins 18 = .ok (.iconst 0, 1) := by decide +kernel
theorem dw_skins_19 : decode cL_skins 19 = .ok (.ireturn, 1) := by decide +kernel
theorem gw_X6_skins : en_CV en_cw RL 163 yX6_skins RX6 cX6_skins 2 (some .int) 1 := en_gv cwl1261 cwl1262 cwl1263 cwl75 cwl1264 ⟨rfl, by decide, by decide, by decide +kernel⟩
set_option maxHeartbeats 4000000 in
set_option maxRecDepth 100000 in
theorem wr_skins {l : Launch} (hl9 : l.stackTraces = false) {PP : Int32 → Int32 → Prop} (hPP : en_P0 PP) (Ω : Nat → en_H → va_W → Prop) (D : va_G) (tys : List (ClassId × FieldType)) (cO cD : ClassId) (sh : en_H) (w : va_W) (sz qx qo : Nat) (fx : List Value) (g0 : (Nat → Int64)) (a1 : Int32) (hTY : tys.map Prod.snd = en_TY0) (hW : en_W PP en_KT k_X6_skins_0.2.2.2.2.1 sh tys (fun _ => False) w) (hD0 : va_D (va_A w sz) w) (hΩ : en_Om en_om0 sh Ω) (hqx : sh.1[qx]? = some 0) (hwx : w[qx]? = some (sh.2 qx, .inr (12, fx))) (hqo : sh.1[qo]? = some 56) (hwo : w[qo]? = some (sh.2 qo, .inl (cO, 1, .inr (.inl g0)))) :
    Met l yL_skins (Cond.codeWith yL_skins cL_skins 4 (some .int) [(0, 9, 12, 23), (0, 9, 15, 54)] :: en_cw) (en_rm 5 (2, 12)) (va_Pc [.ref (sh.2 qx), .int a1, .ref (sh.2 qo)] (en_B D vwCl (tys ++ [(cO, .long), (cD, .double)]) w sz)) (va_Qi (fun _ u => (en_Px tys PP en_KT k_X6_skins_0.2.2.2.2.1 ((56, 0) :: k_X6_skins_0.2.2.2.1) sh w u ∧ ∃ g, u.2[qo]? = some (sh.2 qo, .inl (cO, 1, .inr (.inl g))))) (en_Bw D vwCl (va_A w sz)) (va_A w sz)) 2 12 (va_A w sz) := by
  refine va_MetW (cc := cL_skins) (maxL := 4) (ret := some .int) (hh := [(0, 9, 12, 23), (0, 9, 15, 54)]) (by decide +kernel) rfl ?_
  intro p e s m args below meth c s₁ B hml hv
  obtain ⟨rfl, hsz, hP, hK, hT⟩ := hv
  subst hsz
  have hx := B.exec
  have hb := B.bytes
  have hr := B.returns
  have hts0 := atoms_spec (ws := Cond.codeWith yL_skins cL_skins 4 (some .int) [(0, 9, 12, 23), (0, 9, 15, 54)] :: en_cw) B.pre
  have hts : ∀ z ∈ en_cw, z.before _ s = true := fun z hz => hts0 z (List.mem_cons_of_mem _ hz)
  have hown : s.vm.findClass RL = some m.cls := findClass_of_methodNamed B.named
  have htab := vx_table (x := yL_skins) B (hts0 _ List.mem_cons_self)
  have hA : ∀ q : Nat, s.heap.size ≤ q → va_A w s.heap.size q := fun q h => Or.inr h
  have hS : va_S (va_A w s.heap.size) s.heap s.heap [] := va_S.rf
  have hK0 : va_K D vwCl tys s := hK.pre
  have hTt : (tys ++ [(cO, .long), (cD, .double)])[7]? = some (cO, .long) := wr_ty hTY
  have hl := lv_entry ([.ref (sh.2 qx), .int a1, .ref (sh.2 qo)]) (n := 4) (Nat.le_of_ble_eq_true rfl)
  rw [lg_entry_eq]
  generalize (lg_sl ([.ref (sh.2 qx), .int a1, .ref (sh.2 qo)]) ++ List.replicate (4 - (lg_sl ([.ref (sh.2 qx), .int a1, .ref (sh.2 qo)])).length) Slot.unset).toArray = ls at hl ⊢
  have hl : lv_has ls 4 [(0, .ref (sh.2 qx)), (1, .int a1), (2, .ref (sh.2 qo))] := hl
  refine lv_aload_n hx hb dw_skins_0 rfl (lv_at hl 2 rfl) ?_
  refine lv_iconst (v := 0) hx hb dw_skins_1 (by decide) ?_
  refine lv_aload_n hx hb dw_skins_2 rfl (lv_at hl 0 rfl) ?_
  refine lv_iload_n hx hb dw_skins_3 rfl (lv_at hl 1 rfl) ?_
  refine en_hcV (q0 := qx) (b := sh.2 qx) (fs := fx) (co := 12) (ρp := [.ref (sh.2 qx), .int a1]) (As := [.int a1]) (rest := [.int 0, .ref (sh.2 qo)]) (lv' := 4) (ct_X6_skins_0 hl9 hPP Ω) gw_X6_skins rfl rfl hwx rfl rfl (Nat.le_of_ble_eq_true rfl) ⟨Nat.le_of_ble_eq_true rfl, Nat.le_of_ble_eq_true rfl⟩ ⟨Nat.le_of_ble_eq_true rfl, Nat.le_of_ble_eq_true rfl⟩ (Nat.le_of_ble_eq_true rfl) hx hb (hml.trans hl.1.symm) hts hown hTY hK0 hT hP hD0 hS hA hW hΩ (wr_pa (env := k_X6_skins_0.2.1.1) ⟨⟨qx, hqx, rfl⟩, ⟨a1, rfl, en_lo a1, en_hi a1⟩, trivial⟩) dw_skins_4 (fun x9 hx9 ce q9 u H1 locs1 hpx hP1 hD1 hS1 hcell hvm hcl => ?_) (fun u res H1 locs1 hrv hpo hP1 hD1 hS1 => ?_)
  · have hku := wr_keep hpx hqo (by decide +kernel) hwo
    have hpx9 := wr_same hpx ((56, 0) :: k_X6_skins_0.2.2.2.1) (fun z hz => List.mem_cons_of_mem _ hz)
    rcases List.mem_cons.mp hx9 with hx8 | hx9
    · subst hx8
      refine vx_catch (E := "java/lang/IndexOutOfBoundsException") (name := "java/lang/IndexOutOfBoundsException") hown [] ⟨0, 9, 12, 23⟩ [⟨0, 9, 15, 54⟩] (htab.trans rfl) wr_nil (by decide) (by decide) (hts (.classLink RL 23 "java/lang/IndexOutOfBoundsException") cwl619) (va_Nw.use rfl (hT.1 (Cond.castable "java/lang/IndexOutOfBoundsException" "java/lang/IndexOutOfBoundsException") (tf_cast (539, "java/lang/IndexOutOfBoundsException") (by decide +kernel)))) hcell hvm hcl ?_
      refine lv_astore_n (lv' := (3, .ref q9) :: [(0, .ref (sh.2 qx)), (1, .int a1), (2, .ref (sh.2 qo))]) hx hb dw_skins_12 rfl hl (by decide) rfl (fun ls hl => ?_)
      refine lv_iconst (v := 1) hx hb dw_skins_13 (by decide) ?_
      exact W.widen (Nat.le_of_ble_eq_true rfl) (Nat.le_of_ble_eq_true rfl) (W.iret (v := 1) hx hb hr (fun t ht hW9 => ⟨⟨1, u, rfl, ⟨hpx9, g0, hku⟩, by rw [ht]; exact hP1, hD1⟩, hS1.F ht⟩) hS1.2.2 dw_skins_14)
    have hx8 := List.mem_singleton.mp hx9
    subst hx8
    refine vx_catch (E := "java/util/NoSuchElementException") (name := "java/util/NoSuchElementException") hown [⟨0, 9, 12, 23⟩] ⟨0, 9, 15, 54⟩ [] (htab.trans rfl) (wr_cons (Or.inr ⟨by decide, "java/lang/IndexOutOfBoundsException", (hts (.classLink RL 23 "java/lang/IndexOutOfBoundsException") cwl619), hT.2.2.2.2.1 _ (by decide +kernel) _ (by decide +kernel) (by decide)⟩) wr_nil) (by decide) (by decide) (hts (.classLink RL 54 "java/util/NoSuchElementException") cwl765) (va_Nw.use rfl (hT.1 (Cond.castable "java/util/NoSuchElementException" "java/util/NoSuchElementException") (tf_cast (181, "java/util/NoSuchElementException") (by decide +kernel)))) hcell hvm hcl ?_
    refine lv_astore_n (lv' := (3, .ref q9) :: [(0, .ref (sh.2 qx)), (1, .int a1), (2, .ref (sh.2 qo))]) hx hb dw_skins_15 rfl hl (by decide) rfl (fun ls hl => ?_)
    refine lv_iconst (v := 2) hx hb dw_skins_16 (by decide) ?_
    exact W.widen (Nat.le_of_ble_eq_true rfl) (Nat.le_of_ble_eq_true rfl) (W.iret (v := 2) hx hb hr (fun t ht hW9 => ⟨⟨2, u, rfl, ⟨hpx9, g0, hku⟩, by rw [ht]; exact hP1, hD1⟩, hS1.F ht⟩) hS1.2.2 dw_skins_17)
  · obtain ⟨hpx, hpo9⟩ := hpo
    have hku := wr_keep hpx hqo (by decide +kernel) hwo
    obtain ⟨r9, rfl⟩ := hrv
    refine lv_i2l hx hb dw_skins_7 rfl ?_
    refine va_last hx hb hK hP1 hD1 hS1 qo 7 hku hTt (vp_in_nI (n := 0) (by decide) (by decide)) dw_skins_8 (fun H2 locs2 hP2 hD2 hS2 => ?_)
    obtain ⟨g9, hg9⟩ : ∃ g9, g9 = vp_updL g0 (0 : Int32).toNatClampNeg r9.toInt64 := ⟨_, rfl⟩
    rw [← hg9] at hP2 hD2
    refine lv_goto (tgt := 18) hx hb dw_skins_9 (by decide) ?_
    refine lv_iconst (v := 0) hx hb dw_skins_18 (by decide) ?_
    exact W.widen (Nat.le_of_ble_eq_true rfl) (Nat.le_of_ble_eq_true rfl) (W.iret (v := 0) hx hb hr (fun t ht hW9 => ⟨⟨0, (u.1, u.2.set qo (sh.2 qo, .inl (cO, 1, .inr (.inl g9)))), rfl, ⟨wr_set hpx hqo (by decide +kernel) (by decide +kernel) hwo ⟨rfl, rfl⟩, g9, wr_get hku⟩, by rw [ht]; exact hP2, hD2⟩, hS2.F ht⟩) hS2.2.2 dw_skins_19)
theorem dw_stableford_0 : decode cL_stableford 0 = .ok (.aload_n 2, 1) := by decide +kernel
theorem dw_stableford_1 : decode cL_stableford 1 = .ok (.iconst 0, 1) := by decide +kernel
theorem dw_stableford_2 : decode cL_stableford 2 = .ok (.aload_n 0, 1) := by decide +kernel
theorem dw_stableford_3 : decode cL_stableford 3 = .ok (.iload_n 1, 1) := by decide +kernel
theorem dw_stableford_4 : decode cL_stableford 4 = .ok (.invokevirtual 154, 3) := by decide +kernel
theorem dw_stableford_7 : decode cL_stableford 7 = .ok (.i2l, 1) := by decide +kernel
theorem dw_stableford_8 : decode cL_stableford 8 = .ok (.lastore, 1) := by decide +kernel
theorem dw_stableford_9 : decode cL_stableford 9 = .ok (.goto 6, 3) := by decide +kernel
theorem dw_stableford_12 : decode cL_stableford 12 = .ok (.astore_n 3, 1) := by decide +kernel
theorem dw_stableford_13 : decode cL_stableford 13 = .ok (.iconst 1, 1) := by decide +kernel
theorem dw_stableford_14 : decode cL_stableford 14 = .ok (.ireturn, 1) := by decide +kernel
theorem dw_stableford_15 : decode cL_stableford 15 = .ok (.iconst 0, 1) := by decide +kernel
theorem dw_stableford_16 : decode cL_stableford 16 = .ok (.ireturn, 1) := by decide +kernel
theorem gw_X6_stableford : en_CV en_cw RL 154 yX6_stableford RX6 cX6_stableford 4 (some .int) 1 := en_gv cwl1229 cwl1230 cwl1231 cwl75 cwl1232 ⟨rfl, by decide, by decide, by decide +kernel⟩
set_option maxHeartbeats 4000000 in
set_option maxRecDepth 100000 in
theorem wr_stableford {l : Launch} (hl9 : l.stackTraces = false) {PP : Int32 → Int32 → Prop} (hPP : en_P0 PP) (Ω : Nat → en_H → va_W → Prop) (D : va_G) (tys : List (ClassId × FieldType)) (cO cD : ClassId) (sh : en_H) (w : va_W) (sz qx qo : Nat) (fx : List Value) (g0 : (Nat → Int64)) (a1 : Int32) (hTY : tys.map Prod.snd = en_TY0) (hW : en_W PP en_KT k_X6_stableford_0.2.2.2.2.1 sh tys (fun _ => False) w) (hD0 : va_D (va_A w sz) w) (hΩ : en_Om en_om0 sh Ω) (hqx : sh.1[qx]? = some 0) (hwx : w[qx]? = some (sh.2 qx, .inr (12, fx))) (hqo : sh.1[qo]? = some 56) (hwo : w[qo]? = some (sh.2 qo, .inl (cO, 1, .inr (.inl g0)))) :
    Met l yL_stableford (Cond.codeWith yL_stableford cL_stableford 4 (some .int) [(0, 9, 12, 23)] :: en_cw) (en_rm 3 (1, 6)) (va_Pc [.ref (sh.2 qx), .int a1, .ref (sh.2 qo)] (en_B D vwCl (tys ++ [(cO, .long), (cD, .double)]) w sz)) (va_Qi (fun _ u => (en_Px tys PP en_KT k_X6_stableford_0.2.2.2.2.1 ((56, 0) :: k_X6_stableford_0.2.2.2.1) sh w u ∧ ∃ g, u.2[qo]? = some (sh.2 qo, .inl (cO, 1, .inr (.inl g))))) (en_Bw D vwCl (va_A w sz)) (va_A w sz)) 1 6 (va_A w sz) := by
  refine va_MetW (cc := cL_stableford) (maxL := 4) (ret := some .int) (hh := [(0, 9, 12, 23)]) (by decide +kernel) rfl ?_
  intro p e s m args below meth c s₁ B hml hv
  obtain ⟨rfl, hsz, hP, hK, hT⟩ := hv
  subst hsz
  have hx := B.exec
  have hb := B.bytes
  have hr := B.returns
  have hts0 := atoms_spec (ws := Cond.codeWith yL_stableford cL_stableford 4 (some .int) [(0, 9, 12, 23)] :: en_cw) B.pre
  have hts : ∀ z ∈ en_cw, z.before _ s = true := fun z hz => hts0 z (List.mem_cons_of_mem _ hz)
  have hown : s.vm.findClass RL = some m.cls := findClass_of_methodNamed B.named
  have htab := vx_table (x := yL_stableford) B (hts0 _ List.mem_cons_self)
  have hA : ∀ q : Nat, s.heap.size ≤ q → va_A w s.heap.size q := fun q h => Or.inr h
  have hS : va_S (va_A w s.heap.size) s.heap s.heap [] := va_S.rf
  have hK0 : va_K D vwCl tys s := hK.pre
  have hTt : (tys ++ [(cO, .long), (cD, .double)])[7]? = some (cO, .long) := wr_ty hTY
  have hl := lv_entry ([.ref (sh.2 qx), .int a1, .ref (sh.2 qo)]) (n := 4) (Nat.le_of_ble_eq_true rfl)
  rw [lg_entry_eq]
  generalize (lg_sl ([.ref (sh.2 qx), .int a1, .ref (sh.2 qo)]) ++ List.replicate (4 - (lg_sl ([.ref (sh.2 qx), .int a1, .ref (sh.2 qo)])).length) Slot.unset).toArray = ls at hl ⊢
  have hl : lv_has ls 4 [(0, .ref (sh.2 qx)), (1, .int a1), (2, .ref (sh.2 qo))] := hl
  refine lv_aload_n hx hb dw_stableford_0 rfl (lv_at hl 2 rfl) ?_
  refine lv_iconst (v := 0) hx hb dw_stableford_1 (by decide) ?_
  refine lv_aload_n hx hb dw_stableford_2 rfl (lv_at hl 0 rfl) ?_
  refine lv_iload_n hx hb dw_stableford_3 rfl (lv_at hl 1 rfl) ?_
  refine en_hcV (q0 := qx) (b := sh.2 qx) (fs := fx) (co := 12) (ρp := [.ref (sh.2 qx), .int a1]) (As := [.int a1]) (rest := [.int 0, .ref (sh.2 qo)]) (lv' := 2) (ct_X6_stableford_0 hl9 hPP Ω) gw_X6_stableford rfl rfl hwx rfl rfl (Nat.le_of_ble_eq_true rfl) ⟨Nat.le_of_ble_eq_true rfl, Nat.le_of_ble_eq_true rfl⟩ ⟨Nat.le_of_ble_eq_true rfl, Nat.le_of_ble_eq_true rfl⟩ (Nat.le_of_ble_eq_true rfl) hx hb (hml.trans hl.1.symm) hts hown hTY hK0 hT hP hD0 hS hA hW hΩ (wr_pa (env := k_X6_stableford_0.2.1.1) ⟨⟨qx, hqx, rfl⟩, ⟨a1, rfl, en_lo a1, en_hi a1⟩, trivial⟩) dw_stableford_4 (fun x9 hx9 ce q9 u H1 locs1 hpx hP1 hD1 hS1 hcell hvm hcl => ?_) (fun u res H1 locs1 hrv hpo hP1 hD1 hS1 => ?_)
  · have hku := wr_keep hpx hqo (by decide +kernel) hwo
    have hpx9 := wr_same hpx ((56, 0) :: k_X6_stableford_0.2.2.2.1) (fun z hz => List.mem_cons_of_mem _ hz)
    have hx8 := List.mem_singleton.mp hx9
    subst hx8
    refine vx_catch (E := "java/lang/IndexOutOfBoundsException") (name := "java/lang/IndexOutOfBoundsException") hown [] ⟨0, 9, 12, 23⟩ [] (htab.trans rfl) wr_nil (by decide) (by decide) (hts (.classLink RL 23 "java/lang/IndexOutOfBoundsException") cwl619) (va_Nw.use rfl (hT.1 (Cond.castable "java/lang/IndexOutOfBoundsException" "java/lang/IndexOutOfBoundsException") (tf_cast (539, "java/lang/IndexOutOfBoundsException") (by decide +kernel)))) hcell hvm hcl ?_
    refine lv_astore_n (lv' := (3, .ref q9) :: [(0, .ref (sh.2 qx)), (1, .int a1), (2, .ref (sh.2 qo))]) hx hb dw_stableford_12 rfl hl (by decide) rfl (fun ls hl => ?_)
    refine lv_iconst (v := 1) hx hb dw_stableford_13 (by decide) ?_
    exact W.widen (Nat.le_of_ble_eq_true rfl) (Nat.le_of_ble_eq_true rfl) (W.iret (v := 1) hx hb hr (fun t ht hW9 => ⟨⟨1, u, rfl, ⟨hpx9, g0, hku⟩, by rw [ht]; exact hP1, hD1⟩, hS1.F ht⟩) hS1.2.2 dw_stableford_14)
  · obtain ⟨hpx, hpo9⟩ := hpo
    have hku := wr_keep hpx hqo (by decide +kernel) hwo
    obtain ⟨r9, rfl⟩ := hrv
    refine lv_i2l hx hb dw_stableford_7 rfl ?_
    refine va_last hx hb hK hP1 hD1 hS1 qo 7 hku hTt (vp_in_nI (n := 0) (by decide) (by decide)) dw_stableford_8 (fun H2 locs2 hP2 hD2 hS2 => ?_)
    obtain ⟨g9, hg9⟩ : ∃ g9, g9 = vp_updL g0 (0 : Int32).toNatClampNeg r9.toInt64 := ⟨_, rfl⟩
    rw [← hg9] at hP2 hD2
    refine lv_goto (tgt := 15) hx hb dw_stableford_9 (by decide) ?_
    refine lv_iconst (v := 0) hx hb dw_stableford_15 (by decide) ?_
    exact W.widen (Nat.le_of_ble_eq_true rfl) (Nat.le_of_ble_eq_true rfl) (W.iret (v := 0) hx hb hr (fun t ht hW9 => ⟨⟨0, (u.1, u.2.set qo (sh.2 qo, .inl (cO, 1, .inr (.inl g9)))), rfl, ⟨wr_set hpx hqo (by decide +kernel) (by decide +kernel) hwo ⟨rfl, rfl⟩, g9, wr_get hku⟩, by rw [ht]; exact hP2, hD2⟩, hS2.F ht⟩) hS2.2.2 dw_stableford_16)
theorem dw_state_0 : decode cL_state 0 = .ok (.aload_n 2, 1) := by decide +kernel
theorem dw_state_1 : decode cL_state 1 = .ok (.iconst 0, 1) := by decide +kernel
theorem dw_state_2 : decode cL_state 2 = .ok (.aload_n 0, 1) := by decide +kernel
theorem dw_state_3 : decode cL_state 3 = .ok (.iload_n 1, 1) := by decide +kernel
theorem dw_state_4 : decode cL_state 4 = .ok (.invokevirtual 120, 3) := by decide +kernel
theorem dw_state_7 : decode cL_state 7 = .ok (.i2l, 1) := by decide +kernel
theorem dw_state_8 : decode cL_state 8 = .ok (.lastore, 1) := by decide +kernel
theorem dw_state_9 : decode cL_state 9 = .ok (.goto 9, 3) := by decide +kernel
theorem dw_state_12 : decode cL_state 12 = .ok (.astore_n 3, 1) := by decide +kernel
theorem dw_state_13 : decode cL_state 13 = .ok (.iconst 1, 1) := by decide +kernel
theorem dw_state_14 : decode cL_state 14 = .ok (.ireturn, 1) := by decide +kernel
theorem dw_state_15 : decode cL_state 15 = .ok (.astore_n 3, 1) := by decide +kernel
theorem dw_state_16 : decode cL_state 16 = .ok (.iconst 2, 1) := by decide +kernel
theorem dw_state_17 : decode cL_state 17 = .ok (.ireturn, 1) := by decide +kernel
theorem dw_state_18 : decode cL_state 18 = .ok (.iconst 0, 1) := by decide +kernel
theorem dw_state_19 : decode cL_state 19 = .ok (.ireturn, 1) := by decide +kernel
theorem gw_X6_state : en_CV en_cw RL 120 yX6_state RX6 cX6_state 2 (some .char) 1 := en_gv cwl1119 cwl1120 cwl1121 cwl75 cwl1122 ⟨rfl, by decide, by decide, by decide +kernel⟩
set_option maxHeartbeats 4000000 in
set_option maxRecDepth 100000 in
theorem wr_state {l : Launch} (hl9 : l.stackTraces = false) {PP : Int32 → Int32 → Prop} (hPP : en_P0 PP) (Ω : Nat → en_H → va_W → Prop) (D : va_G) (tys : List (ClassId × FieldType)) (cO cD : ClassId) (sh : en_H) (w : va_W) (sz qx qo : Nat) (fx : List Value) (g0 : (Nat → Int64)) (a1 : Int32) (hTY : tys.map Prod.snd = en_TY0) (hW : en_W PP en_KT k_X6_state_0.2.2.2.2.1 sh tys (fun _ => False) w) (hD0 : va_D (va_A w sz) w) (hΩ : en_Om en_om0 sh Ω) (hqx : sh.1[qx]? = some 0) (hwx : w[qx]? = some (sh.2 qx, .inr (12, fx))) (hqo : sh.1[qo]? = some 56) (hwo : w[qo]? = some (sh.2 qo, .inl (cO, 1, .inr (.inl g0)))) :
    Met l yL_state (Cond.codeWith yL_state cL_state 4 (some .int) [(0, 9, 12, 23), (0, 9, 15, 15)] :: en_cw) (en_rm 2 (2, 12)) (va_Pc [.ref (sh.2 qx), .int a1, .ref (sh.2 qo)] (en_B D vwCl (tys ++ [(cO, .long), (cD, .double)]) w sz)) (va_Qi (fun _ u => (en_Px tys PP en_KT k_X6_state_0.2.2.2.2.1 ((56, 0) :: k_X6_state_0.2.2.2.1) sh w u ∧ ∃ g, u.2[qo]? = some (sh.2 qo, .inl (cO, 1, .inr (.inl g))))) (en_Bw D vwCl (va_A w sz)) (va_A w sz)) 2 12 (va_A w sz) := by
  refine va_MetW (cc := cL_state) (maxL := 4) (ret := some .int) (hh := [(0, 9, 12, 23), (0, 9, 15, 15)]) (by decide +kernel) rfl ?_
  intro p e s m args below meth c s₁ B hml hv
  obtain ⟨rfl, hsz, hP, hK, hT⟩ := hv
  subst hsz
  have hx := B.exec
  have hb := B.bytes
  have hr := B.returns
  have hts0 := atoms_spec (ws := Cond.codeWith yL_state cL_state 4 (some .int) [(0, 9, 12, 23), (0, 9, 15, 15)] :: en_cw) B.pre
  have hts : ∀ z ∈ en_cw, z.before _ s = true := fun z hz => hts0 z (List.mem_cons_of_mem _ hz)
  have hown : s.vm.findClass RL = some m.cls := findClass_of_methodNamed B.named
  have htab := vx_table (x := yL_state) B (hts0 _ List.mem_cons_self)
  have hA : ∀ q : Nat, s.heap.size ≤ q → va_A w s.heap.size q := fun q h => Or.inr h
  have hS : va_S (va_A w s.heap.size) s.heap s.heap [] := va_S.rf
  have hK0 : va_K D vwCl tys s := hK.pre
  have hTt : (tys ++ [(cO, .long), (cD, .double)])[7]? = some (cO, .long) := wr_ty hTY
  have hl := lv_entry ([.ref (sh.2 qx), .int a1, .ref (sh.2 qo)]) (n := 4) (Nat.le_of_ble_eq_true rfl)
  rw [lg_entry_eq]
  generalize (lg_sl ([.ref (sh.2 qx), .int a1, .ref (sh.2 qo)]) ++ List.replicate (4 - (lg_sl ([.ref (sh.2 qx), .int a1, .ref (sh.2 qo)])).length) Slot.unset).toArray = ls at hl ⊢
  have hl : lv_has ls 4 [(0, .ref (sh.2 qx)), (1, .int a1), (2, .ref (sh.2 qo))] := hl
  refine lv_aload_n hx hb dw_state_0 rfl (lv_at hl 2 rfl) ?_
  refine lv_iconst (v := 0) hx hb dw_state_1 (by decide) ?_
  refine lv_aload_n hx hb dw_state_2 rfl (lv_at hl 0 rfl) ?_
  refine lv_iload_n hx hb dw_state_3 rfl (lv_at hl 1 rfl) ?_
  refine en_hcV (q0 := qx) (b := sh.2 qx) (fs := fx) (co := 12) (ρp := [.ref (sh.2 qx), .int a1]) (As := [.int a1]) (rest := [.int 0, .ref (sh.2 qo)]) (lv' := 1) (ct_X6_state_0 hl9 hPP Ω) gw_X6_state rfl rfl hwx rfl rfl (Nat.le_of_ble_eq_true rfl) ⟨Nat.le_of_ble_eq_true rfl, Nat.le_of_ble_eq_true rfl⟩ ⟨Nat.le_of_ble_eq_true rfl, Nat.le_of_ble_eq_true rfl⟩ (Nat.le_of_ble_eq_true rfl) hx hb (hml.trans hl.1.symm) hts hown hTY hK0 hT hP hD0 hS hA hW hΩ (wr_pa (env := k_X6_state_0.2.1.1) ⟨⟨qx, hqx, rfl⟩, ⟨a1, rfl, en_lo a1, en_hi a1⟩, trivial⟩) dw_state_4 (fun x9 hx9 ce q9 u H1 locs1 hpx hP1 hD1 hS1 hcell hvm hcl => ?_) (fun u res H1 locs1 hrv hpo hP1 hD1 hS1 => ?_)
  · have hku := wr_keep hpx hqo (by decide +kernel) hwo
    have hpx9 := wr_same hpx ((56, 0) :: k_X6_state_0.2.2.2.1) (fun z hz => List.mem_cons_of_mem _ hz)
    rcases List.mem_cons.mp hx9 with hx8 | hx9
    · subst hx8
      refine vx_catch (E := "java/lang/IllegalStateException") (name := "java/lang/IllegalStateException") hown [⟨0, 9, 12, 23⟩] ⟨0, 9, 15, 15⟩ [] (htab.trans rfl) (wr_cons (Or.inr ⟨by decide, "java/lang/IndexOutOfBoundsException", (hts (.classLink RL 23 "java/lang/IndexOutOfBoundsException") cwl619), hT.2.2.2.2.1 _ (by decide +kernel) _ (by decide +kernel) (by decide)⟩) wr_nil) (by decide) (by decide) (hts (.classLink RL 15 "java/lang/IllegalStateException") cwl499) (va_Nw.use rfl (hT.1 (Cond.castable "java/lang/IllegalStateException" "java/lang/IllegalStateException") (tf_cast (69, "java/lang/IllegalStateException") (by decide +kernel)))) hcell hvm hcl ?_
      refine lv_astore_n (lv' := (3, .ref q9) :: [(0, .ref (sh.2 qx)), (1, .int a1), (2, .ref (sh.2 qo))]) hx hb dw_state_15 rfl hl (by decide) rfl (fun ls hl => ?_)
      refine lv_iconst (v := 2) hx hb dw_state_16 (by decide) ?_
      exact W.widen (Nat.le_of_ble_eq_true rfl) (Nat.le_of_ble_eq_true rfl) (W.iret (v := 2) hx hb hr (fun t ht hW9 => ⟨⟨2, u, rfl, ⟨hpx9, g0, hku⟩, by rw [ht]; exact hP1, hD1⟩, hS1.F ht⟩) hS1.2.2 dw_state_17)
    have hx8 := List.mem_singleton.mp hx9
    subst hx8
    refine vx_catch (E := "java/lang/IndexOutOfBoundsException") (name := "java/lang/IndexOutOfBoundsException") hown [] ⟨0, 9, 12, 23⟩ [⟨0, 9, 15, 15⟩] (htab.trans rfl) wr_nil (by decide) (by decide) (hts (.classLink RL 23 "java/lang/IndexOutOfBoundsException") cwl619) (va_Nw.use rfl (hT.1 (Cond.castable "java/lang/IndexOutOfBoundsException" "java/lang/IndexOutOfBoundsException") (tf_cast (539, "java/lang/IndexOutOfBoundsException") (by decide +kernel)))) hcell hvm hcl ?_
    refine lv_astore_n (lv' := (3, .ref q9) :: [(0, .ref (sh.2 qx)), (1, .int a1), (2, .ref (sh.2 qo))]) hx hb dw_state_12 rfl hl (by decide) rfl (fun ls hl => ?_)
    refine lv_iconst (v := 1) hx hb dw_state_13 (by decide) ?_
    exact W.widen (Nat.le_of_ble_eq_true rfl) (Nat.le_of_ble_eq_true rfl) (W.iret (v := 1) hx hb hr (fun t ht hW9 => ⟨⟨1, u, rfl, ⟨hpx9, g0, hku⟩, by rw [ht]; exact hP1, hD1⟩, hS1.F ht⟩) hS1.2.2 dw_state_14)
  · obtain ⟨hpx, hpo9⟩ := hpo
    have hku := wr_keep hpx hqo (by decide +kernel) hwo
    obtain ⟨r9, rfl⟩ := hrv
    refine lv_i2l hx hb dw_state_7 rfl ?_
    refine va_last hx hb hK hP1 hD1 hS1 qo 7 hku hTt (vp_in_nI (n := 0) (by decide) (by decide)) dw_state_8 (fun H2 locs2 hP2 hD2 hS2 => ?_)
    obtain ⟨g9, hg9⟩ : ∃ g9, g9 = vp_updL g0 (0 : Int32).toNatClampNeg r9.toInt64 := ⟨_, rfl⟩
    rw [← hg9] at hP2 hD2
    refine lv_goto (tgt := 18) hx hb dw_state_9 (by decide) ?_
    refine lv_iconst (v := 0) hx hb dw_state_18 (by decide) ?_
    exact W.widen (Nat.le_of_ble_eq_true rfl) (Nat.le_of_ble_eq_true rfl) (W.iret (v := 0) hx hb hr (fun t ht hW9 => ⟨⟨0, (u.1, u.2.set qo (sh.2 qo, .inl (cO, 1, .inr (.inl g9)))), rfl, ⟨wr_set hpx hqo (by decide +kernel) (by decide +kernel) hwo ⟨rfl, rfl⟩, g9, wr_get hku⟩, by rw [ht]; exact hP2, hD2⟩, hS2.F ht⟩) hS2.2.2 dw_state_19)
theorem dw_stroke_0 : decode cL_stroke 0 = .ok (.aload 4, 2) := by decide +kernel
theorem dw_stroke_2 : decode cL_stroke 2 = .ok (.iconst 0, 1) := by decide +kernel
theorem dw_stroke_3 : decode cL_stroke 3 = .ok (.aload_n 0, 1) := by decide +kernel
theorem dw_stroke_4 : decode cL_stroke 4 = .ok (.iload_n 1, 1) := by decide +kernel
theorem dw_stroke_5 : decode cL_stroke 5 = .ok (.iload_n 2, 1) := by decide +kernel
theorem dw_stroke_6 : decode cL_stroke 6 = .ok (.iload_n 3, 1) := by decide +kernel
theorem dw_stroke_7 : decode cL_stroke 7 = .ok (.invokevirtual 56, 3) := by decide +kernel
theorem dw_stroke_10 : decode cL_stroke 10 = .ok (.i2l, 1) := by decide +kernel
theorem dw_stroke_11 : decode cL_stroke 11 = .ok (.lastore, 1) := by decide +kernel
theorem dw_stroke_12 : decode cL_stroke 12 = .ok (.goto 15, 3) := by decide +kernel
theorem dw_stroke_15 : decode cL_stroke 15 = .ok (.astore 5, 2) := by decide +kernel
theorem dw_stroke_17 : decode cL_stroke 17 = .ok (.iconst 1, 1) := by decide +kernel
theorem dw_stroke_18 : decode cL_stroke 18 = .ok (.ireturn, 1) := by decide +kernel
theorem dw_stroke_19 : decode cL_stroke 19 = .ok (.astore 5, 2) := by decide +kernel
theorem dw_stroke_21 : decode cL_stroke 21 = .ok (.iconst 2, 1) := by decide +kernel
theorem dw_stroke_22 : decode cL_stroke 22 = .ok (.ireturn, 1) := by decide +kernel
theorem dw_stroke_23 : decode cL_stroke 23 = .ok (.astore 5, 2) := by decide +kernel
theorem dw_stroke_25 : decode cL_stroke 25 = .ok (.iconst 3, 1) := by decide +kernel
theorem dw_stroke_26 : decode cL_stroke 26 = .ok (.ireturn, 1) := by decide +kernel
theorem dw_stroke_27 : decode cL_stroke 27 = .ok (.iconst 0, 1) := by decide +kernel
theorem dw_stroke_28 : decode cL_stroke 28 = .ok (.ireturn, 1) := by decide +kernel
theorem gw_X6_stroke : en_CV en_cw RL 56 yX6_stroke RX6 cX6_stroke 8 (some .char) 3 := en_gv cwl806 cwl807 cwl808 cwl75 cwl809 ⟨rfl, by decide, by decide, by decide +kernel⟩
set_option maxHeartbeats 4000000 in
set_option maxRecDepth 100000 in
theorem wr_stroke {l : Launch} (hl9 : l.stackTraces = false) {PP : Int32 → Int32 → Prop} (hPP : en_P0 PP) (Ω : Nat → en_H → va_W → Prop) (D : va_G) (tys : List (ClassId × FieldType)) (cO cD : ClassId) (sh : en_H) (w : va_W) (sz qx qo : Nat) (fx : List Value) (g0 : (Nat → Int64)) (a1 : Int32) (a2 : Int32) (a3 : Int32) (hTY : tys.map Prod.snd = en_TY0) (hW : en_W PP en_KT k_X6_stroke_0.2.2.2.2.1 sh tys (fun _ => False) w) (hD0 : va_D (va_A w sz) w) (hΩ : en_Om en_om0 sh Ω) (hqx : sh.1[qx]? = some 0) (hwx : w[qx]? = some (sh.2 qx, .inr (12, fx))) (hqo : sh.1[qo]? = some 56) (hwo : w[qo]? = some (sh.2 qo, .inl (cO, 1, .inr (.inl g0)))) :
    Met l yL_stroke (Cond.codeWith yL_stroke cL_stroke 6 (some .int) [(0, 12, 15, 23), (0, 12, 19, 15), (0, 12, 23, 17)] :: en_cw) (en_rm 5 (4, 24)) (va_Pc [.ref (sh.2 qx), .int a1, .int a2, .int a3, .ref (sh.2 qo)] (en_B D vwCl (tys ++ [(cO, .long), (cD, .double)]) w sz)) (va_Qi (fun _ u => (en_Px tys PP en_KT k_X6_stroke_0.2.2.2.2.1 ((56, 0) :: k_X6_stroke_0.2.2.2.1) sh w u ∧ ∃ g, u.2[qo]? = some (sh.2 qo, .inl (cO, 1, .inr (.inl g))))) (en_Bw D vwCl (va_A w sz)) (va_A w sz)) 4 24 (va_A w sz) := by
  refine va_MetW (cc := cL_stroke) (maxL := 6) (ret := some .int) (hh := [(0, 12, 15, 23), (0, 12, 19, 15), (0, 12, 23, 17)]) (by decide +kernel) rfl ?_
  intro p e s m args below meth c s₁ B hml hv
  obtain ⟨rfl, hsz, hP, hK, hT⟩ := hv
  subst hsz
  have hx := B.exec
  have hb := B.bytes
  have hr := B.returns
  have hts0 := atoms_spec (ws := Cond.codeWith yL_stroke cL_stroke 6 (some .int) [(0, 12, 15, 23), (0, 12, 19, 15), (0, 12, 23, 17)] :: en_cw) B.pre
  have hts : ∀ z ∈ en_cw, z.before _ s = true := fun z hz => hts0 z (List.mem_cons_of_mem _ hz)
  have hown : s.vm.findClass RL = some m.cls := findClass_of_methodNamed B.named
  have htab := vx_table (x := yL_stroke) B (hts0 _ List.mem_cons_self)
  have hA : ∀ q : Nat, s.heap.size ≤ q → va_A w s.heap.size q := fun q h => Or.inr h
  have hS : va_S (va_A w s.heap.size) s.heap s.heap [] := va_S.rf
  have hK0 : va_K D vwCl tys s := hK.pre
  have hTt : (tys ++ [(cO, .long), (cD, .double)])[7]? = some (cO, .long) := wr_ty hTY
  have hl := lv_entry ([.ref (sh.2 qx), .int a1, .int a2, .int a3, .ref (sh.2 qo)]) (n := 6) (Nat.le_of_ble_eq_true rfl)
  rw [lg_entry_eq]
  generalize (lg_sl ([.ref (sh.2 qx), .int a1, .int a2, .int a3, .ref (sh.2 qo)]) ++ List.replicate (6 - (lg_sl ([.ref (sh.2 qx), .int a1, .int a2, .int a3, .ref (sh.2 qo)])).length) Slot.unset).toArray = ls at hl ⊢
  have hl : lv_has ls 6 [(0, .ref (sh.2 qx)), (1, .int a1), (2, .int a2), (3, .int a3), (4, .ref (sh.2 qo))] := hl
  refine lv_aload hx hb dw_stroke_0 (lv_at hl 4 rfl) ?_
  refine lv_iconst (v := 0) hx hb dw_stroke_2 (by decide) ?_
  refine lv_aload_n hx hb dw_stroke_3 rfl (lv_at hl 0 rfl) ?_
  refine lv_iload_n hx hb dw_stroke_4 rfl (lv_at hl 1 rfl) ?_
  refine lv_iload_n hx hb dw_stroke_5 rfl (lv_at hl 2 rfl) ?_
  refine lv_iload_n hx hb dw_stroke_6 rfl (lv_at hl 3 rfl) ?_
  refine en_hcV (q0 := qx) (b := sh.2 qx) (fs := fx) (co := 12) (ρp := [.ref (sh.2 qx), .int a1, .int a2, .int a3]) (As := [.int a1, .int a2, .int a3]) (rest := [.int 0, .ref (sh.2 qo)]) (lv' := 4) (ct_X6_stroke_0 hl9 hPP Ω) gw_X6_stroke rfl rfl hwx rfl rfl (Nat.le_of_ble_eq_true rfl) ⟨Nat.le_of_ble_eq_true rfl, Nat.le_of_ble_eq_true rfl⟩ ⟨Nat.le_of_ble_eq_true rfl, Nat.le_of_ble_eq_true rfl⟩ (Nat.le_of_ble_eq_true rfl) hx hb (hml.trans hl.1.symm) hts hown hTY hK0 hT hP hD0 hS hA hW hΩ (wr_pa (env := k_X6_stroke_0.2.1.1) ⟨⟨qx, hqx, rfl⟩, ⟨a1, rfl, en_lo a1, en_hi a1⟩, ⟨a2, rfl, en_lo a2, en_hi a2⟩, ⟨a3, rfl, en_lo a3, en_hi a3⟩, trivial⟩) dw_stroke_7 (fun x9 hx9 ce q9 u H1 locs1 hpx hP1 hD1 hS1 hcell hvm hcl => ?_) (fun u res H1 locs1 hrv hpo hP1 hD1 hS1 => ?_)
  · have hku := wr_keep hpx hqo (by decide +kernel) hwo
    have hpx9 := wr_same hpx ((56, 0) :: k_X6_stroke_0.2.2.2.1) (fun z hz => List.mem_cons_of_mem _ hz)
    rcases List.mem_cons.mp hx9 with hx8 | hx9
    · subst hx8
      refine vx_catch (E := "java/lang/IllegalStateException") (name := "java/lang/IllegalStateException") hown [⟨0, 12, 15, 23⟩] ⟨0, 12, 19, 15⟩ [⟨0, 12, 23, 17⟩] (htab.trans rfl) (wr_cons (Or.inr ⟨by decide, "java/lang/IndexOutOfBoundsException", (hts (.classLink RL 23 "java/lang/IndexOutOfBoundsException") cwl619), hT.2.2.2.2.1 _ (by decide +kernel) _ (by decide +kernel) (by decide)⟩) wr_nil) (by decide) (by decide) (hts (.classLink RL 15 "java/lang/IllegalStateException") cwl499) (va_Nw.use rfl (hT.1 (Cond.castable "java/lang/IllegalStateException" "java/lang/IllegalStateException") (tf_cast (69, "java/lang/IllegalStateException") (by decide +kernel)))) hcell hvm hcl ?_
      refine lv_astore (lv' := (5, .ref q9) :: [(0, .ref (sh.2 qx)), (1, .int a1), (2, .int a2), (3, .int a3), (4, .ref (sh.2 qo))]) hx hb dw_stroke_19 hl (by decide) rfl (fun ls hl => ?_)
      refine lv_iconst (v := 2) hx hb dw_stroke_21 (by decide) ?_
      exact W.widen (Nat.le_of_ble_eq_true rfl) (Nat.le_of_ble_eq_true rfl) (W.iret (v := 2) hx hb hr (fun t ht hW9 => ⟨⟨2, u, rfl, ⟨hpx9, g0, hku⟩, by rw [ht]; exact hP1, hD1⟩, hS1.F ht⟩) hS1.2.2 dw_stroke_22)
    rcases List.mem_cons.mp hx9 with hx8 | hx9
    · subst hx8
      refine vx_catch (E := "java/lang/UnsupportedOperationException") (name := "java/lang/UnsupportedOperationException") hown [⟨0, 12, 15, 23⟩, ⟨0, 12, 19, 15⟩] ⟨0, 12, 23, 17⟩ [] (htab.trans rfl) (wr_cons (Or.inr ⟨by decide, "java/lang/IndexOutOfBoundsException", (hts (.classLink RL 23 "java/lang/IndexOutOfBoundsException") cwl619), hT.2.2.2.2.1 _ (by decide +kernel) _ (by decide +kernel) (by decide)⟩) (wr_cons (Or.inr ⟨by decide, "java/lang/IllegalStateException", (hts (.classLink RL 15 "java/lang/IllegalStateException") cwl499), hT.2.2.2.2.1 _ (by decide +kernel) _ (by decide +kernel) (by decide)⟩) wr_nil)) (by decide) (by decide) (hts (.classLink RL 17 "java/lang/UnsupportedOperationException") cwl500) (va_Nw.use rfl (hT.1 (Cond.castable "java/lang/UnsupportedOperationException" "java/lang/UnsupportedOperationException") (tf_cast (78, "java/lang/UnsupportedOperationException") (by decide +kernel)))) hcell hvm hcl ?_
      refine lv_astore (lv' := (5, .ref q9) :: [(0, .ref (sh.2 qx)), (1, .int a1), (2, .int a2), (3, .int a3), (4, .ref (sh.2 qo))]) hx hb dw_stroke_23 hl (by decide) rfl (fun ls hl => ?_)
      refine lv_iconst (v := 3) hx hb dw_stroke_25 (by decide) ?_
      exact W.widen (Nat.le_of_ble_eq_true rfl) (Nat.le_of_ble_eq_true rfl) (W.iret (v := 3) hx hb hr (fun t ht hW9 => ⟨⟨3, u, rfl, ⟨hpx9, g0, hku⟩, by rw [ht]; exact hP1, hD1⟩, hS1.F ht⟩) hS1.2.2 dw_stroke_26)
    have hx8 := List.mem_singleton.mp hx9
    subst hx8
    refine vx_catch (E := "java/lang/IndexOutOfBoundsException") (name := "java/lang/IndexOutOfBoundsException") hown [] ⟨0, 12, 15, 23⟩ [⟨0, 12, 19, 15⟩, ⟨0, 12, 23, 17⟩] (htab.trans rfl) wr_nil (by decide) (by decide) (hts (.classLink RL 23 "java/lang/IndexOutOfBoundsException") cwl619) (va_Nw.use rfl (hT.1 (Cond.castable "java/lang/IndexOutOfBoundsException" "java/lang/IndexOutOfBoundsException") (tf_cast (539, "java/lang/IndexOutOfBoundsException") (by decide +kernel)))) hcell hvm hcl ?_
    refine lv_astore (lv' := (5, .ref q9) :: [(0, .ref (sh.2 qx)), (1, .int a1), (2, .int a2), (3, .int a3), (4, .ref (sh.2 qo))]) hx hb dw_stroke_15 hl (by decide) rfl (fun ls hl => ?_)
    refine lv_iconst (v := 1) hx hb dw_stroke_17 (by decide) ?_
    exact W.widen (Nat.le_of_ble_eq_true rfl) (Nat.le_of_ble_eq_true rfl) (W.iret (v := 1) hx hb hr (fun t ht hW9 => ⟨⟨1, u, rfl, ⟨hpx9, g0, hku⟩, by rw [ht]; exact hP1, hD1⟩, hS1.F ht⟩) hS1.2.2 dw_stroke_18)
  · obtain ⟨hpx, hpo9⟩ := hpo
    have hku := wr_keep hpx hqo (by decide +kernel) hwo
    obtain ⟨r9, rfl⟩ := hrv
    refine lv_i2l hx hb dw_stroke_10 rfl ?_
    refine va_last hx hb hK hP1 hD1 hS1 qo 7 hku hTt (vp_in_nI (n := 0) (by decide) (by decide)) dw_stroke_11 (fun H2 locs2 hP2 hD2 hS2 => ?_)
    obtain ⟨g9, hg9⟩ : ∃ g9, g9 = vp_updL g0 (0 : Int32).toNatClampNeg r9.toInt64 := ⟨_, rfl⟩
    rw [← hg9] at hP2 hD2
    refine lv_goto (tgt := 27) hx hb dw_stroke_12 (by decide) ?_
    refine lv_iconst (v := 0) hx hb dw_stroke_27 (by decide) ?_
    exact W.widen (Nat.le_of_ble_eq_true rfl) (Nat.le_of_ble_eq_true rfl) (W.iret (v := 0) hx hb hr (fun t ht hW9 => ⟨⟨0, (u.1, u.2.set qo (sh.2 qo, .inl (cO, 1, .inr (.inl g9)))), rfl, ⟨wr_set hpx hqo (by decide +kernel) (by decide +kernel) hwo ⟨rfl, rfl⟩, g9, wr_get hku⟩, by rw [ht]; exact hP2, hD2⟩, hS2.F ht⟩) hS2.2.2 dw_stroke_28)
theorem dw_strokes_0 : decode cL_strokes 0 = .ok (.aload_n 2, 1) := by decide +kernel
theorem dw_strokes_1 : decode cL_strokes 1 = .ok (.iconst 0, 1) := by decide +kernel
theorem dw_strokes_2 : decode cL_strokes 2 = .ok (.aload_n 0, 1) := by decide +kernel
theorem dw_strokes_3 : decode cL_strokes 3 = .ok (.iload_n 1, 1) := by decide +kernel
theorem dw_strokes_4 : decode cL_strokes 4 = .ok (.invokevirtual 126, 3) := by decide +kernel
theorem dw_strokes_7 : decode cL_strokes 7 = .ok (.i2l, 1) := by decide +kernel
theorem dw_strokes_8 : decode cL_strokes 8 = .ok (.lastore, 1) := by decide +kernel
theorem dw_strokes_9 : decode cL_strokes 9 = .ok (.goto 9, 3) := by decide +kernel
theorem dw_strokes_12 : decode cL_strokes 12 = .ok (.astore_n 3, 1) := by decide +kernel
theorem dw_strokes_13 : decode cL_strokes 13 = .ok (.iconst 1, 1) := by decide +kernel
theorem dw_strokes_14 : decode cL_strokes 14 = .ok (.ireturn, 1) := by decide +kernel
theorem dw_strokes_15 : decode cL_strokes 15 = .ok (.astore_n 3, 1) := by decide +kernel
theorem dw_strokes_16 : decode cL_strokes 16 = .ok (.iconst 2, 1) := by decide +kernel
theorem dw_strokes_17 : decode cL_strokes 17 = .ok (.ireturn, 1) := by decide +kernel
theorem dw_strokes_18 : decode cL_strokes 18 = .ok (.iconst 0, 1) := by decide +kernel
theorem dw_strokes_19 : decode cL_strokes 19 = .ok (.ireturn, 1) := by decide +kernel
theorem gw_X6_strokes : en_CV en_cw RL 126 yX6_strokes RX6 cX6_strokes 2 (some .int) 1 := en_gv cwl1134 cwl1135 cwl1136 cwl75 cwl1137 ⟨rfl, by decide, by decide, by decide +kernel⟩
set_option maxHeartbeats 4000000 in
set_option maxRecDepth 100000 in
theorem wr_strokes {l : Launch} (hl9 : l.stackTraces = false) {PP : Int32 → Int32 → Prop} (hPP : en_P0 PP) (Ω : Nat → en_H → va_W → Prop) (D : va_G) (tys : List (ClassId × FieldType)) (cO cD : ClassId) (sh : en_H) (w : va_W) (sz qx qo : Nat) (fx : List Value) (g0 : (Nat → Int64)) (a1 : Int32) (hTY : tys.map Prod.snd = en_TY0) (hW : en_W PP en_KT k_X6_strokes_0.2.2.2.2.1 sh tys (fun _ => False) w) (hD0 : va_D (va_A w sz) w) (hΩ : en_Om en_om0 sh Ω) (hqx : sh.1[qx]? = some 0) (hwx : w[qx]? = some (sh.2 qx, .inr (12, fx))) (hqo : sh.1[qo]? = some 56) (hwo : w[qo]? = some (sh.2 qo, .inl (cO, 1, .inr (.inl g0)))) :
    Met l yL_strokes (Cond.codeWith yL_strokes cL_strokes 4 (some .int) [(0, 9, 12, 23), (0, 9, 15, 15)] :: en_cw) (en_rm 2 (2, 12)) (va_Pc [.ref (sh.2 qx), .int a1, .ref (sh.2 qo)] (en_B D vwCl (tys ++ [(cO, .long), (cD, .double)]) w sz)) (va_Qi (fun _ u => (en_Px tys PP en_KT k_X6_strokes_0.2.2.2.2.1 ((56, 0) :: k_X6_strokes_0.2.2.2.1) sh w u ∧ ∃ g, u.2[qo]? = some (sh.2 qo, .inl (cO, 1, .inr (.inl g))))) (en_Bw D vwCl (va_A w sz)) (va_A w sz)) 2 12 (va_A w sz) := by
  refine va_MetW (cc := cL_strokes) (maxL := 4) (ret := some .int) (hh := [(0, 9, 12, 23), (0, 9, 15, 15)]) (by decide +kernel) rfl ?_
  intro p e s m args below meth c s₁ B hml hv
  obtain ⟨rfl, hsz, hP, hK, hT⟩ := hv
  subst hsz
  have hx := B.exec
  have hb := B.bytes
  have hr := B.returns
  have hts0 := atoms_spec (ws := Cond.codeWith yL_strokes cL_strokes 4 (some .int) [(0, 9, 12, 23), (0, 9, 15, 15)] :: en_cw) B.pre
  have hts : ∀ z ∈ en_cw, z.before _ s = true := fun z hz => hts0 z (List.mem_cons_of_mem _ hz)
  have hown : s.vm.findClass RL = some m.cls := findClass_of_methodNamed B.named
  have htab := vx_table (x := yL_strokes) B (hts0 _ List.mem_cons_self)
  have hA : ∀ q : Nat, s.heap.size ≤ q → va_A w s.heap.size q := fun q h => Or.inr h
  have hS : va_S (va_A w s.heap.size) s.heap s.heap [] := va_S.rf
  have hK0 : va_K D vwCl tys s := hK.pre
  have hTt : (tys ++ [(cO, .long), (cD, .double)])[7]? = some (cO, .long) := wr_ty hTY
  have hl := lv_entry ([.ref (sh.2 qx), .int a1, .ref (sh.2 qo)]) (n := 4) (Nat.le_of_ble_eq_true rfl)
  rw [lg_entry_eq]
  generalize (lg_sl ([.ref (sh.2 qx), .int a1, .ref (sh.2 qo)]) ++ List.replicate (4 - (lg_sl ([.ref (sh.2 qx), .int a1, .ref (sh.2 qo)])).length) Slot.unset).toArray = ls at hl ⊢
  have hl : lv_has ls 4 [(0, .ref (sh.2 qx)), (1, .int a1), (2, .ref (sh.2 qo))] := hl
  refine lv_aload_n hx hb dw_strokes_0 rfl (lv_at hl 2 rfl) ?_
  refine lv_iconst (v := 0) hx hb dw_strokes_1 (by decide) ?_
  refine lv_aload_n hx hb dw_strokes_2 rfl (lv_at hl 0 rfl) ?_
  refine lv_iload_n hx hb dw_strokes_3 rfl (lv_at hl 1 rfl) ?_
  refine en_hcV (q0 := qx) (b := sh.2 qx) (fs := fx) (co := 12) (ρp := [.ref (sh.2 qx), .int a1]) (As := [.int a1]) (rest := [.int 0, .ref (sh.2 qo)]) (lv' := 1) (ct_X6_strokes_0 hl9 hPP Ω) gw_X6_strokes rfl rfl hwx rfl rfl (Nat.le_of_ble_eq_true rfl) ⟨Nat.le_of_ble_eq_true rfl, Nat.le_of_ble_eq_true rfl⟩ ⟨Nat.le_of_ble_eq_true rfl, Nat.le_of_ble_eq_true rfl⟩ (Nat.le_of_ble_eq_true rfl) hx hb (hml.trans hl.1.symm) hts hown hTY hK0 hT hP hD0 hS hA hW hΩ (wr_pa (env := k_X6_strokes_0.2.1.1) ⟨⟨qx, hqx, rfl⟩, ⟨a1, rfl, en_lo a1, en_hi a1⟩, trivial⟩) dw_strokes_4 (fun x9 hx9 ce q9 u H1 locs1 hpx hP1 hD1 hS1 hcell hvm hcl => ?_) (fun u res H1 locs1 hrv hpo hP1 hD1 hS1 => ?_)
  · have hku := wr_keep hpx hqo (by decide +kernel) hwo
    have hpx9 := wr_same hpx ((56, 0) :: k_X6_strokes_0.2.2.2.1) (fun z hz => List.mem_cons_of_mem _ hz)
    rcases List.mem_cons.mp hx9 with hx8 | hx9
    · subst hx8
      refine vx_catch (E := "java/lang/IllegalStateException") (name := "java/lang/IllegalStateException") hown [⟨0, 9, 12, 23⟩] ⟨0, 9, 15, 15⟩ [] (htab.trans rfl) (wr_cons (Or.inr ⟨by decide, "java/lang/IndexOutOfBoundsException", (hts (.classLink RL 23 "java/lang/IndexOutOfBoundsException") cwl619), hT.2.2.2.2.1 _ (by decide +kernel) _ (by decide +kernel) (by decide)⟩) wr_nil) (by decide) (by decide) (hts (.classLink RL 15 "java/lang/IllegalStateException") cwl499) (va_Nw.use rfl (hT.1 (Cond.castable "java/lang/IllegalStateException" "java/lang/IllegalStateException") (tf_cast (69, "java/lang/IllegalStateException") (by decide +kernel)))) hcell hvm hcl ?_
      refine lv_astore_n (lv' := (3, .ref q9) :: [(0, .ref (sh.2 qx)), (1, .int a1), (2, .ref (sh.2 qo))]) hx hb dw_strokes_15 rfl hl (by decide) rfl (fun ls hl => ?_)
      refine lv_iconst (v := 2) hx hb dw_strokes_16 (by decide) ?_
      exact W.widen (Nat.le_of_ble_eq_true rfl) (Nat.le_of_ble_eq_true rfl) (W.iret (v := 2) hx hb hr (fun t ht hW9 => ⟨⟨2, u, rfl, ⟨hpx9, g0, hku⟩, by rw [ht]; exact hP1, hD1⟩, hS1.F ht⟩) hS1.2.2 dw_strokes_17)
    have hx8 := List.mem_singleton.mp hx9
    subst hx8
    refine vx_catch (E := "java/lang/IndexOutOfBoundsException") (name := "java/lang/IndexOutOfBoundsException") hown [] ⟨0, 9, 12, 23⟩ [⟨0, 9, 15, 15⟩] (htab.trans rfl) wr_nil (by decide) (by decide) (hts (.classLink RL 23 "java/lang/IndexOutOfBoundsException") cwl619) (va_Nw.use rfl (hT.1 (Cond.castable "java/lang/IndexOutOfBoundsException" "java/lang/IndexOutOfBoundsException") (tf_cast (539, "java/lang/IndexOutOfBoundsException") (by decide +kernel)))) hcell hvm hcl ?_
    refine lv_astore_n (lv' := (3, .ref q9) :: [(0, .ref (sh.2 qx)), (1, .int a1), (2, .ref (sh.2 qo))]) hx hb dw_strokes_12 rfl hl (by decide) rfl (fun ls hl => ?_)
    refine lv_iconst (v := 1) hx hb dw_strokes_13 (by decide) ?_
    exact W.widen (Nat.le_of_ble_eq_true rfl) (Nat.le_of_ble_eq_true rfl) (W.iret (v := 1) hx hb hr (fun t ht hW9 => ⟨⟨1, u, rfl, ⟨hpx9, g0, hku⟩, by rw [ht]; exact hP1, hD1⟩, hS1.F ht⟩) hS1.2.2 dw_strokes_14)
  · obtain ⟨hpx, hpo9⟩ := hpo
    have hku := wr_keep hpx hqo (by decide +kernel) hwo
    obtain ⟨r9, rfl⟩ := hrv
    refine lv_i2l hx hb dw_strokes_7 rfl ?_
    refine va_last hx hb hK hP1 hD1 hS1 qo 7 hku hTt (vp_in_nI (n := 0) (by decide) (by decide)) dw_strokes_8 (fun H2 locs2 hP2 hD2 hS2 => ?_)
    obtain ⟨g9, hg9⟩ : ∃ g9, g9 = vp_updL g0 (0 : Int32).toNatClampNeg r9.toInt64 := ⟨_, rfl⟩
    rw [← hg9] at hP2 hD2
    refine lv_goto (tgt := 18) hx hb dw_strokes_9 (by decide) ?_
    refine lv_iconst (v := 0) hx hb dw_strokes_18 (by decide) ?_
    exact W.widen (Nat.le_of_ble_eq_true rfl) (Nat.le_of_ble_eq_true rfl) (W.iret (v := 0) hx hb hr (fun t ht hW9 => ⟨⟨0, (u.1, u.2.set qo (sh.2 qo, .inl (cO, 1, .inr (.inl g9)))), rfl, ⟨wr_set hpx hqo (by decide +kernel) (by decide +kernel) hwo ⟨rfl, rfl⟩, g9, wr_get hku⟩, by rw [ht]; exact hP2, hD2⟩, hS2.F ht⟩) hS2.2.2 dw_strokes_19)
theorem dw_suspend_0 : decode cL_suspend 0 = .ok (.aload_n 2, 1) := by decide +kernel
theorem dw_suspend_1 : decode cL_suspend 1 = .ok (.iconst 0, 1) := by decide +kernel
theorem dw_suspend_2 : decode cL_suspend 2 = .ok (.aload_n 0, 1) := by decide +kernel
theorem dw_suspend_3 : decode cL_suspend 3 = .ok (.iload_n 1, 1) := by decide +kernel
theorem dw_suspend_4 : decode cL_suspend 4 = .ok (.invokevirtual 105, 3) := by decide +kernel
theorem dw_suspend_7 : decode cL_suspend 7 = .ok (.ifCond .eq 7, 3) := by decide +kernel
theorem dw_suspend_10 : decode cL_suspend 10 = .ok (.lconst 1, 1) := by decide +kernel
theorem dw_suspend_11 : decode cL_suspend 11 = .ok (.goto 4, 3) := by decide +kernel
theorem dw_suspend_14 : decode cL_suspend 14 = .ok (.lconst 0, 1) := by decide +kernel
theorem dw_suspend_15 : decode cL_suspend 15 = .ok (.lastore, 1) := by decide +kernel
theorem dw_suspend_16 : decode cL_suspend 16 = .ok (.goto 6, 3) := by decide +kernel
theorem dw_suspend_19 : decode cL_suspend 19 = .ok (.astore_n 3, 1) := by decide +kernel
theorem dw_suspend_20 : decode cL_suspend 20 = .ok (.iconst 1, 1) := by decide +kernel
theorem dw_suspend_21 : decode cL_suspend 21 = .ok (.ireturn, 1) := by decide +kernel
theorem dw_suspend_22 : decode cL_suspend 22 = .ok (.iconst 0, 1) := by decide +kernel
theorem dw_suspend_23 : decode cL_suspend 23 = .ok (.ireturn, 1) := by decide +kernel
theorem gw_X6_suspend : en_CV en_cw RL 105 yX6_suspend RX6 cX6_suspend 3 (some .boolean) 1 := en_gv cwl1046 cwl1047 cwl1048 cwl75 cwl1049 ⟨rfl, by decide, by decide, by decide +kernel⟩
set_option maxHeartbeats 4000000 in
set_option maxRecDepth 100000 in
theorem wr_suspend {l : Launch} (hl9 : l.stackTraces = false) {PP : Int32 → Int32 → Prop} (hPP : en_P0 PP) (Ω : Nat → en_H → va_W → Prop) (D : va_G) (tys : List (ClassId × FieldType)) (cO cD : ClassId) (sh : en_H) (w : va_W) (sz qx qo : Nat) (fx : List Value) (g0 : (Nat → Int64)) (a1 : Int32) (hb1 : 0 ≤ a1.toInt ∧ a1.toInt ≤ 1) (hTY : tys.map Prod.snd = en_TY0) (hW : en_W PP en_KT k_X6_suspend_0.2.2.2.2.1 sh tys (fun _ => False) w) (hD0 : va_D (va_A w sz) w) (hΩ : en_Om en_om0 sh Ω) (hqx : sh.1[qx]? = some 0) (hwx : w[qx]? = some (sh.2 qx, .inr (12, fx))) (hqo : sh.1[qo]? = some 56) (hwo : w[qo]? = some (sh.2 qo, .inl (cO, 1, .inr (.inl g0)))) :
    Met l yL_suspend (Cond.codeWith yL_suspend cL_suspend 4 (some .int) [(0, 16, 19, 15)] :: en_cw) (en_rm 2 (1, 6)) (va_Pc [.ref (sh.2 qx), .int a1, .ref (sh.2 qo)] (en_B D vwCl (tys ++ [(cO, .long), (cD, .double)]) w sz)) (va_Qi (fun _ u => (en_Px tys PP en_KT k_X6_suspend_0.2.2.2.2.1 ((56, 0) :: k_X6_suspend_0.2.2.2.1) sh w u ∧ ∃ g, u.2[qo]? = some (sh.2 qo, .inl (cO, 1, .inr (.inl g))))) (en_Bw D vwCl (va_A w sz)) (va_A w sz)) 1 6 (va_A w sz) := by
  refine va_MetW (cc := cL_suspend) (maxL := 4) (ret := some .int) (hh := [(0, 16, 19, 15)]) (by decide +kernel) rfl ?_
  intro p e s m args below meth c s₁ B hml hv
  obtain ⟨rfl, hsz, hP, hK, hT⟩ := hv
  subst hsz
  have hx := B.exec
  have hb := B.bytes
  have hr := B.returns
  have hts0 := atoms_spec (ws := Cond.codeWith yL_suspend cL_suspend 4 (some .int) [(0, 16, 19, 15)] :: en_cw) B.pre
  have hts : ∀ z ∈ en_cw, z.before _ s = true := fun z hz => hts0 z (List.mem_cons_of_mem _ hz)
  have hown : s.vm.findClass RL = some m.cls := findClass_of_methodNamed B.named
  have htab := vx_table (x := yL_suspend) B (hts0 _ List.mem_cons_self)
  have hA : ∀ q : Nat, s.heap.size ≤ q → va_A w s.heap.size q := fun q h => Or.inr h
  have hS : va_S (va_A w s.heap.size) s.heap s.heap [] := va_S.rf
  have hK0 : va_K D vwCl tys s := hK.pre
  have hTt : (tys ++ [(cO, .long), (cD, .double)])[7]? = some (cO, .long) := wr_ty hTY
  have hl := lv_entry ([.ref (sh.2 qx), .int a1, .ref (sh.2 qo)]) (n := 4) (Nat.le_of_ble_eq_true rfl)
  rw [lg_entry_eq]
  generalize (lg_sl ([.ref (sh.2 qx), .int a1, .ref (sh.2 qo)]) ++ List.replicate (4 - (lg_sl ([.ref (sh.2 qx), .int a1, .ref (sh.2 qo)])).length) Slot.unset).toArray = ls at hl ⊢
  have hl : lv_has ls 4 [(0, .ref (sh.2 qx)), (1, .int a1), (2, .ref (sh.2 qo))] := hl
  refine lv_aload_n hx hb dw_suspend_0 rfl (lv_at hl 2 rfl) ?_
  refine lv_iconst (v := 0) hx hb dw_suspend_1 (by decide) ?_
  refine lv_aload_n hx hb dw_suspend_2 rfl (lv_at hl 0 rfl) ?_
  refine lv_iload_n hx hb dw_suspend_3 rfl (lv_at hl 1 rfl) ?_
  refine en_hcV (q0 := qx) (b := sh.2 qx) (fs := fx) (co := 12) (ρp := [.ref (sh.2 qx), .int a1]) (As := [.int a1]) (rest := [.int 0, .ref (sh.2 qo)]) (lv' := 1) (ct_X6_suspend_0 hl9 hPP Ω) gw_X6_suspend rfl rfl hwx rfl rfl (Nat.le_of_ble_eq_true rfl) ⟨Nat.le_of_ble_eq_true rfl, Nat.le_of_ble_eq_true rfl⟩ ⟨Nat.le_of_ble_eq_true rfl, Nat.le_of_ble_eq_true rfl⟩ (Nat.le_of_ble_eq_true rfl) hx hb (hml.trans hl.1.symm) hts hown hTY hK0 hT hP hD0 hS hA hW hΩ (wr_pa (env := k_X6_suspend_0.2.1.1) ⟨⟨qx, hqx, rfl⟩, ⟨a1, rfl, hb1.1, hb1.2⟩, trivial⟩) dw_suspend_4 (fun x9 hx9 ce q9 u H1 locs1 hpx hP1 hD1 hS1 hcell hvm hcl => ?_) (fun u res H1 locs1 hrv hpo hP1 hD1 hS1 => ?_)
  · have hku := wr_keep hpx hqo (by decide +kernel) hwo
    have hpx9 := wr_same hpx ((56, 0) :: k_X6_suspend_0.2.2.2.1) (fun z hz => List.mem_cons_of_mem _ hz)
    have hx8 := List.mem_singleton.mp hx9
    subst hx8
    refine vx_catch (E := "java/lang/IllegalStateException") (name := "java/lang/IllegalStateException") hown [] ⟨0, 16, 19, 15⟩ [] (htab.trans rfl) wr_nil (by decide) (by decide) (hts (.classLink RL 15 "java/lang/IllegalStateException") cwl499) (va_Nw.use rfl (hT.1 (Cond.castable "java/lang/IllegalStateException" "java/lang/IllegalStateException") (tf_cast (69, "java/lang/IllegalStateException") (by decide +kernel)))) hcell hvm hcl ?_
    refine lv_astore_n (lv' := (3, .ref q9) :: [(0, .ref (sh.2 qx)), (1, .int a1), (2, .ref (sh.2 qo))]) hx hb dw_suspend_19 rfl hl (by decide) rfl (fun ls hl => ?_)
    refine lv_iconst (v := 1) hx hb dw_suspend_20 (by decide) ?_
    exact W.widen (Nat.le_of_ble_eq_true rfl) (Nat.le_of_ble_eq_true rfl) (W.iret (v := 1) hx hb hr (fun t ht hW9 => ⟨⟨1, u, rfl, ⟨hpx9, g0, hku⟩, by rw [ht]; exact hP1, hD1⟩, hS1.F ht⟩) hS1.2.2 dw_suspend_21)
  · obtain ⟨hpx, hpo9⟩ := hpo
    have hku := wr_keep hpx hqo (by decide +kernel) hwo
    obtain ⟨r9, rfl⟩ := hrv
    refine lv_if_eq (tgt := 14) hx hb dw_suspend_7 (by decide) (fun _ => ?_) (fun _ => ?_)
    · refine lv_lconst (v := 0) hx hb dw_suspend_14 (by decide) ?_
      refine va_last hx hb hK hP1 hD1 hS1 qo 7 hku hTt (vp_in_nI (n := 0) (by decide) (by decide)) dw_suspend_15 (fun H2 locs2 hP2 hD2 hS2 => ?_)
      obtain ⟨g9, hg9⟩ : ∃ g9, g9 = vp_updL g0 (0 : Int32).toNatClampNeg 0 := ⟨_, rfl⟩
      rw [← hg9] at hP2 hD2
      refine lv_goto (tgt := 22) hx hb dw_suspend_16 (by decide) ?_
      refine lv_iconst (v := 0) hx hb dw_suspend_22 (by decide) ?_
      exact W.widen (Nat.le_of_ble_eq_true rfl) (Nat.le_of_ble_eq_true rfl) (W.iret (v := 0) hx hb hr (fun t ht hW9 => ⟨⟨0, (u.1, u.2.set qo (sh.2 qo, .inl (cO, 1, .inr (.inl g9)))), rfl, ⟨wr_set hpx hqo (by decide +kernel) (by decide +kernel) hwo ⟨rfl, rfl⟩, g9, wr_get hku⟩, by rw [ht]; exact hP2, hD2⟩, hS2.F ht⟩) hS2.2.2 dw_suspend_23)
    · refine lv_lconst (v := 1) hx hb dw_suspend_10 (by decide) ?_
      refine lv_goto (tgt := 15) hx hb dw_suspend_11 (by decide) ?_
      refine va_last hx hb hK hP1 hD1 hS1 qo 7 hku hTt (vp_in_nI (n := 0) (by decide) (by decide)) dw_suspend_15 (fun H2 locs2 hP2 hD2 hS2 => ?_)
      obtain ⟨g9, hg9⟩ : ∃ g9, g9 = vp_updL g0 (0 : Int32).toNatClampNeg 1 := ⟨_, rfl⟩
      rw [← hg9] at hP2 hD2
      refine lv_goto (tgt := 22) hx hb dw_suspend_16 (by decide) ?_
      refine lv_iconst (v := 0) hx hb dw_suspend_22 (by decide) ?_
      exact W.widen (Nat.le_of_ble_eq_true rfl) (Nat.le_of_ble_eq_true rfl) (W.iret (v := 0) hx hb hr (fun t ht hW9 => ⟨⟨0, (u.1, u.2.set qo (sh.2 qo, .inl (cO, 1, .inr (.inl g9)))), rfl, ⟨wr_set hpx hqo (by decide +kernel) (by decide +kernel) hwo ⟨rfl, rfl⟩, g9, wr_get hku⟩, by rw [ht]; exact hP2, hD2⟩, hS2.F ht⟩) hS2.2.2 dw_suspend_23)
theorem dw_together_0 : decode cL_together 0 = .ok (.aload_n 3, 1) := by decide +kernel
theorem dw_together_1 : decode cL_together 1 = .ok (.iconst 0, 1) := by decide +kernel
theorem dw_together_2 : decode cL_together 2 = .ok (.aload_n 0, 1) := by decide +kernel
theorem dw_together_3 : decode cL_together 3 = .ok (.iload_n 1, 1) := by decide +kernel
theorem dw_together_4 : decode cL_together 4 = .ok (.iload_n 2, 1) := by decide +kernel
theorem dw_together_5 : decode cL_together 5 = .ok (.invokevirtual 160, 3) := by decide +kernel
theorem dw_together_8 : decode cL_together 8 = .ok (.i2l, 1) := by decide +kernel
theorem dw_together_9 : decode cL_together 9 = .ok (.lastore, 1) := by decide +kernel
theorem dw_together_10 : decode cL_together 10 = .ok (.goto 15, 3) := by decide +kernel
theorem dw_together_13 : decode cL_together 13 = .ok (.astore 4, 2) := by decide +kernel
theorem dw_together_15 : decode cL_together 15 = .ok (.iconst 1, 1) := by decide +kernel
theorem dw_together_16 : decode cL_together 16 = .ok (.ireturn, 1) := by decide +kernel
theorem dw_together_17 : decode cL_together 17 = .ok (.astore 4, 2) := by decide +kernel
theorem dw_together_19 : decode cL_together 19 = .ok (.iconst 2, 1) := by decide +kernel
theorem dw_together_20 : decode cL_together 20 = .ok (.ireturn, 1) := by decide +kernel
theorem dw_together_21 : decode cL_together 21 = .ok (.astore 4, 2) := by decide +kernel
theorem dw_together_23 : decode cL_together 23 = .ok (.iconst 3, 1) := by decide +kernel
theorem dw_together_24 : decode cL_together 24 = .ok (.ireturn, 1) := by decide +kernel
theorem dw_together_25 : decode cL_together 25 = .ok (.iconst 0, 1) := by decide +kernel
theorem dw_together_26 : decode cL_together 26 = .ok (.ireturn, 1) := by decide +kernel
theorem gw_X6_together : en_CV en_cw RL 160 yX6_together RX6 cX6_together 9 (some .int) 2 := en_gv cwl1251 cwl1252 cwl1253 cwl75 cwl1254 ⟨rfl, by decide, by decide, by decide +kernel⟩
set_option maxHeartbeats 4000000 in
set_option maxRecDepth 100000 in
theorem wr_together {l : Launch} (hl9 : l.stackTraces = false) {PP : Int32 → Int32 → Prop} (hPP : en_P0 PP) (Ω : Nat → en_H → va_W → Prop) (D : va_G) (tys : List (ClassId × FieldType)) (cO cD : ClassId) (sh : en_H) (w : va_W) (sz qx qo : Nat) (fx : List Value) (g0 : (Nat → Int64)) (a1 : Int32) (a2 : Int32) (hTY : tys.map Prod.snd = en_TY0) (hW : en_W PP en_KT k_X6_together_0.2.2.2.2.1 sh tys (fun _ => False) w) (hD0 : va_D (va_A w sz) w) (hΩ : en_Om en_om0 sh Ω) (hqx : sh.1[qx]? = some 0) (hwx : w[qx]? = some (sh.2 qx, .inr (12, fx))) (hqo : sh.1[qo]? = some 56) (hwo : w[qo]? = some (sh.2 qo, .inl (cO, 1, .inr (.inl g0)))) :
    Met l yL_together (Cond.codeWith yL_together cL_together 5 (some .int) [(0, 10, 13, 23), (0, 10, 17, 13), (0, 10, 21, 54)] :: en_cw) (en_rm 3 (3, 18)) (va_Pc [.ref (sh.2 qx), .int a1, .int a2, .ref (sh.2 qo)] (en_B D vwCl (tys ++ [(cO, .long), (cD, .double)]) w sz)) (va_Qi (fun _ u => (en_Px tys PP en_KT k_X6_together_0.2.2.2.2.1 ((56, 0) :: k_X6_together_0.2.2.2.1) sh w u ∧ ∃ g, u.2[qo]? = some (sh.2 qo, .inl (cO, 1, .inr (.inl g))))) (en_Bw D vwCl (va_A w sz)) (va_A w sz)) 3 18 (va_A w sz) := by
  refine va_MetW (cc := cL_together) (maxL := 5) (ret := some .int) (hh := [(0, 10, 13, 23), (0, 10, 17, 13), (0, 10, 21, 54)]) (by decide +kernel) rfl ?_
  intro p e s m args below meth c s₁ B hml hv
  obtain ⟨rfl, hsz, hP, hK, hT⟩ := hv
  subst hsz
  have hx := B.exec
  have hb := B.bytes
  have hr := B.returns
  have hts0 := atoms_spec (ws := Cond.codeWith yL_together cL_together 5 (some .int) [(0, 10, 13, 23), (0, 10, 17, 13), (0, 10, 21, 54)] :: en_cw) B.pre
  have hts : ∀ z ∈ en_cw, z.before _ s = true := fun z hz => hts0 z (List.mem_cons_of_mem _ hz)
  have hown : s.vm.findClass RL = some m.cls := findClass_of_methodNamed B.named
  have htab := vx_table (x := yL_together) B (hts0 _ List.mem_cons_self)
  have hA : ∀ q : Nat, s.heap.size ≤ q → va_A w s.heap.size q := fun q h => Or.inr h
  have hS : va_S (va_A w s.heap.size) s.heap s.heap [] := va_S.rf
  have hK0 : va_K D vwCl tys s := hK.pre
  have hTt : (tys ++ [(cO, .long), (cD, .double)])[7]? = some (cO, .long) := wr_ty hTY
  have hl := lv_entry ([.ref (sh.2 qx), .int a1, .int a2, .ref (sh.2 qo)]) (n := 5) (Nat.le_of_ble_eq_true rfl)
  rw [lg_entry_eq]
  generalize (lg_sl ([.ref (sh.2 qx), .int a1, .int a2, .ref (sh.2 qo)]) ++ List.replicate (5 - (lg_sl ([.ref (sh.2 qx), .int a1, .int a2, .ref (sh.2 qo)])).length) Slot.unset).toArray = ls at hl ⊢
  have hl : lv_has ls 5 [(0, .ref (sh.2 qx)), (1, .int a1), (2, .int a2), (3, .ref (sh.2 qo))] := hl
  refine lv_aload_n hx hb dw_together_0 rfl (lv_at hl 3 rfl) ?_
  refine lv_iconst (v := 0) hx hb dw_together_1 (by decide) ?_
  refine lv_aload_n hx hb dw_together_2 rfl (lv_at hl 0 rfl) ?_
  refine lv_iload_n hx hb dw_together_3 rfl (lv_at hl 1 rfl) ?_
  refine lv_iload_n hx hb dw_together_4 rfl (lv_at hl 2 rfl) ?_
  refine en_hcV (q0 := qx) (b := sh.2 qx) (fs := fx) (co := 12) (ρp := [.ref (sh.2 qx), .int a1, .int a2]) (As := [.int a1, .int a2]) (rest := [.int 0, .ref (sh.2 qo)]) (lv' := 2) (ct_X6_together_0 hl9 hPP Ω) gw_X6_together rfl rfl hwx rfl rfl (Nat.le_of_ble_eq_true rfl) ⟨Nat.le_of_ble_eq_true rfl, Nat.le_of_ble_eq_true rfl⟩ ⟨Nat.le_of_ble_eq_true rfl, Nat.le_of_ble_eq_true rfl⟩ (Nat.le_of_ble_eq_true rfl) hx hb (hml.trans hl.1.symm) hts hown hTY hK0 hT hP hD0 hS hA hW hΩ (wr_pa (env := k_X6_together_0.2.1.1) ⟨⟨qx, hqx, rfl⟩, ⟨a1, rfl, en_lo a1, en_hi a1⟩, ⟨a2, rfl, en_lo a2, en_hi a2⟩, trivial⟩) dw_together_5 (fun x9 hx9 ce q9 u H1 locs1 hpx hP1 hD1 hS1 hcell hvm hcl => ?_) (fun u res H1 locs1 hrv hpo hP1 hD1 hS1 => ?_)
  · have hku := wr_keep hpx hqo (by decide +kernel) hwo
    have hpx9 := wr_same hpx ((56, 0) :: k_X6_together_0.2.2.2.1) (fun z hz => List.mem_cons_of_mem _ hz)
    rcases List.mem_cons.mp hx9 with hx8 | hx9
    · subst hx8
      refine vx_catch (E := "java/lang/IllegalArgumentException") (name := "java/lang/IllegalArgumentException") hown [⟨0, 10, 13, 23⟩] ⟨0, 10, 17, 13⟩ [⟨0, 10, 21, 54⟩] (htab.trans rfl) (wr_cons (Or.inr ⟨by decide, "java/lang/IndexOutOfBoundsException", (hts (.classLink RL 23 "java/lang/IndexOutOfBoundsException") cwl619), hT.2.2.2.2.1 _ (by decide +kernel) _ (by decide +kernel) (by decide)⟩) wr_nil) (by decide) (by decide) (hts (.classLink RL 13 "java/lang/IllegalArgumentException") cwl498) (va_Nw.use rfl (hT.1 (Cond.castable "java/lang/IllegalArgumentException" "java/lang/IllegalArgumentException") (tf_cast (53, "java/lang/IllegalArgumentException") (by decide +kernel)))) hcell hvm hcl ?_
      refine lv_astore (lv' := (4, .ref q9) :: [(0, .ref (sh.2 qx)), (1, .int a1), (2, .int a2), (3, .ref (sh.2 qo))]) hx hb dw_together_17 hl (by decide) rfl (fun ls hl => ?_)
      refine lv_iconst (v := 2) hx hb dw_together_19 (by decide) ?_
      exact W.widen (Nat.le_of_ble_eq_true rfl) (Nat.le_of_ble_eq_true rfl) (W.iret (v := 2) hx hb hr (fun t ht hW9 => ⟨⟨2, u, rfl, ⟨hpx9, g0, hku⟩, by rw [ht]; exact hP1, hD1⟩, hS1.F ht⟩) hS1.2.2 dw_together_20)
    rcases List.mem_cons.mp hx9 with hx8 | hx9
    · subst hx8
      refine vx_catch (E := "java/lang/IndexOutOfBoundsException") (name := "java/lang/IndexOutOfBoundsException") hown [] ⟨0, 10, 13, 23⟩ [⟨0, 10, 17, 13⟩, ⟨0, 10, 21, 54⟩] (htab.trans rfl) wr_nil (by decide) (by decide) (hts (.classLink RL 23 "java/lang/IndexOutOfBoundsException") cwl619) (va_Nw.use rfl (hT.1 (Cond.castable "java/lang/IndexOutOfBoundsException" "java/lang/IndexOutOfBoundsException") (tf_cast (539, "java/lang/IndexOutOfBoundsException") (by decide +kernel)))) hcell hvm hcl ?_
      refine lv_astore (lv' := (4, .ref q9) :: [(0, .ref (sh.2 qx)), (1, .int a1), (2, .int a2), (3, .ref (sh.2 qo))]) hx hb dw_together_13 hl (by decide) rfl (fun ls hl => ?_)
      refine lv_iconst (v := 1) hx hb dw_together_15 (by decide) ?_
      exact W.widen (Nat.le_of_ble_eq_true rfl) (Nat.le_of_ble_eq_true rfl) (W.iret (v := 1) hx hb hr (fun t ht hW9 => ⟨⟨1, u, rfl, ⟨hpx9, g0, hku⟩, by rw [ht]; exact hP1, hD1⟩, hS1.F ht⟩) hS1.2.2 dw_together_16)
    have hx8 := List.mem_singleton.mp hx9
    subst hx8
    refine vx_catch (E := "java/util/NoSuchElementException") (name := "java/util/NoSuchElementException") hown [⟨0, 10, 13, 23⟩, ⟨0, 10, 17, 13⟩] ⟨0, 10, 21, 54⟩ [] (htab.trans rfl) (wr_cons (Or.inr ⟨by decide, "java/lang/IndexOutOfBoundsException", (hts (.classLink RL 23 "java/lang/IndexOutOfBoundsException") cwl619), hT.2.2.2.2.1 _ (by decide +kernel) _ (by decide +kernel) (by decide)⟩) (wr_cons (Or.inr ⟨by decide, "java/lang/IllegalArgumentException", (hts (.classLink RL 13 "java/lang/IllegalArgumentException") cwl498), hT.2.2.2.2.1 _ (by decide +kernel) _ (by decide +kernel) (by decide)⟩) wr_nil)) (by decide) (by decide) (hts (.classLink RL 54 "java/util/NoSuchElementException") cwl765) (va_Nw.use rfl (hT.1 (Cond.castable "java/util/NoSuchElementException" "java/util/NoSuchElementException") (tf_cast (181, "java/util/NoSuchElementException") (by decide +kernel)))) hcell hvm hcl ?_
    refine lv_astore (lv' := (4, .ref q9) :: [(0, .ref (sh.2 qx)), (1, .int a1), (2, .int a2), (3, .ref (sh.2 qo))]) hx hb dw_together_21 hl (by decide) rfl (fun ls hl => ?_)
    refine lv_iconst (v := 3) hx hb dw_together_23 (by decide) ?_
    exact W.widen (Nat.le_of_ble_eq_true rfl) (Nat.le_of_ble_eq_true rfl) (W.iret (v := 3) hx hb hr (fun t ht hW9 => ⟨⟨3, u, rfl, ⟨hpx9, g0, hku⟩, by rw [ht]; exact hP1, hD1⟩, hS1.F ht⟩) hS1.2.2 dw_together_24)
  · obtain ⟨hpx, hpo9⟩ := hpo
    have hku := wr_keep hpx hqo (by decide +kernel) hwo
    obtain ⟨r9, rfl⟩ := hrv
    refine lv_i2l hx hb dw_together_8 rfl ?_
    refine va_last hx hb hK hP1 hD1 hS1 qo 7 hku hTt (vp_in_nI (n := 0) (by decide) (by decide)) dw_together_9 (fun H2 locs2 hP2 hD2 hS2 => ?_)
    obtain ⟨g9, hg9⟩ : ∃ g9, g9 = vp_updL g0 (0 : Int32).toNatClampNeg r9.toInt64 := ⟨_, rfl⟩
    rw [← hg9] at hP2 hD2
    refine lv_goto (tgt := 25) hx hb dw_together_10 (by decide) ?_
    refine lv_iconst (v := 0) hx hb dw_together_25 (by decide) ?_
    exact W.widen (Nat.le_of_ble_eq_true rfl) (Nat.le_of_ble_eq_true rfl) (W.iret (v := 0) hx hb hr (fun t ht hW9 => ⟨⟨0, (u.1, u.2.set qo (sh.2 qo, .inl (cO, 1, .inr (.inl g9)))), rfl, ⟨wr_set hpx hqo (by decide +kernel) (by decide +kernel) hwo ⟨rfl, rfl⟩, g9, wr_get hku⟩, by rw [ht]; exact hP2, hD2⟩, hS2.F ht⟩) hS2.2.2 dw_together_26)
theorem dw_total_0 : decode cL_total 0 = .ok (.aload_n 2, 1) := by decide +kernel
theorem dw_total_1 : decode cL_total 1 = .ok (.iconst 0, 1) := by decide +kernel
theorem dw_total_2 : decode cL_total 2 = .ok (.aload_n 0, 1) := by decide +kernel
theorem dw_total_3 : decode cL_total 3 = .ok (.iload_n 1, 1) := by decide +kernel
theorem dw_total_4 : decode cL_total 4 = .ok (.invokevirtual 151, 3) := by decide +kernel
theorem dw_total_7 : decode cL_total 7 = .ok (.i2l, 1) := by decide +kernel
theorem dw_total_8 : decode cL_total 8 = .ok (.lastore, 1) := by decide +kernel
theorem dw_total_9 : decode cL_total 9 = .ok (.goto 9, 3) := by decide +kernel
theorem dw_total_12 : decode cL_total 12 = .ok (.astore_n 3, 1) := by decide +kernel
theorem dw_total_13 : decode cL_total 13 = .ok (.iconst 1, 1) := by decide +kernel
theorem dw_total_14 : decode cL_total 14 = .ok (.ireturn, 1) := by decide +kernel
theorem dw_total_15 : decode cL_total 15 = .ok (.astore_n 3, 1) := by decide +kernel
theorem dw_total_16 : decode cL_total 16 = .ok (.iconst 2, 1) := by decide +kernel
theorem dw_total_17 : decode cL_total 17 = .ok (.ireturn, 1) := by decide +kernel
theorem dw_total_18 : decode cL_total 18 = .ok (.iconst 0, 1) := by decide +kernel
theorem dw_total_19 : decode cL_total 19 = .ok (.ireturn, 1) := by decide +kernel
theorem gw_X6_total : en_CV en_cw RL 151 yX6_total RX6 cX6_total 3 (some .int) 1 := en_gv cwl1213 cwl1214 cwl1215 cwl75 cwl1216 ⟨rfl, by decide, by decide, by decide +kernel⟩
set_option maxHeartbeats 4000000 in
set_option maxRecDepth 100000 in
theorem wr_total {l : Launch} (hl9 : l.stackTraces = false) {PP : Int32 → Int32 → Prop} (hPP : en_P0 PP) (Ω : Nat → en_H → va_W → Prop) (D : va_G) (tys : List (ClassId × FieldType)) (cO cD : ClassId) (sh : en_H) (w : va_W) (sz qx qo : Nat) (fx : List Value) (g0 : (Nat → Int64)) (a1 : Int32) (hTY : tys.map Prod.snd = en_TY0) (hW : en_W PP en_KT k_X6_total_0.2.2.2.2.1 sh tys (fun _ => False) w) (hD0 : va_D (va_A w sz) w) (hΩ : en_Om en_om0 sh Ω) (hqx : sh.1[qx]? = some 0) (hwx : w[qx]? = some (sh.2 qx, .inr (12, fx))) (hqo : sh.1[qo]? = some 56) (hwo : w[qo]? = some (sh.2 qo, .inl (cO, 1, .inr (.inl g0)))) :
    Met l yL_total (Cond.codeWith yL_total cL_total 4 (some .int) [(0, 9, 12, 23), (0, 9, 15, 54)] :: en_cw) (en_rm 3 (2, 12)) (va_Pc [.ref (sh.2 qx), .int a1, .ref (sh.2 qo)] (en_B D vwCl (tys ++ [(cO, .long), (cD, .double)]) w sz)) (va_Qi (fun _ u => (en_Px tys PP en_KT k_X6_total_0.2.2.2.2.1 ((56, 0) :: k_X6_total_0.2.2.2.1) sh w u ∧ ∃ g, u.2[qo]? = some (sh.2 qo, .inl (cO, 1, .inr (.inl g))))) (en_Bw D vwCl (va_A w sz)) (va_A w sz)) 2 12 (va_A w sz) := by
  refine va_MetW (cc := cL_total) (maxL := 4) (ret := some .int) (hh := [(0, 9, 12, 23), (0, 9, 15, 54)]) (by decide +kernel) rfl ?_
  intro p e s m args below meth c s₁ B hml hv
  obtain ⟨rfl, hsz, hP, hK, hT⟩ := hv
  subst hsz
  have hx := B.exec
  have hb := B.bytes
  have hr := B.returns
  have hts0 := atoms_spec (ws := Cond.codeWith yL_total cL_total 4 (some .int) [(0, 9, 12, 23), (0, 9, 15, 54)] :: en_cw) B.pre
  have hts : ∀ z ∈ en_cw, z.before _ s = true := fun z hz => hts0 z (List.mem_cons_of_mem _ hz)
  have hown : s.vm.findClass RL = some m.cls := findClass_of_methodNamed B.named
  have htab := vx_table (x := yL_total) B (hts0 _ List.mem_cons_self)
  have hA : ∀ q : Nat, s.heap.size ≤ q → va_A w s.heap.size q := fun q h => Or.inr h
  have hS : va_S (va_A w s.heap.size) s.heap s.heap [] := va_S.rf
  have hK0 : va_K D vwCl tys s := hK.pre
  have hTt : (tys ++ [(cO, .long), (cD, .double)])[7]? = some (cO, .long) := wr_ty hTY
  have hl := lv_entry ([.ref (sh.2 qx), .int a1, .ref (sh.2 qo)]) (n := 4) (Nat.le_of_ble_eq_true rfl)
  rw [lg_entry_eq]
  generalize (lg_sl ([.ref (sh.2 qx), .int a1, .ref (sh.2 qo)]) ++ List.replicate (4 - (lg_sl ([.ref (sh.2 qx), .int a1, .ref (sh.2 qo)])).length) Slot.unset).toArray = ls at hl ⊢
  have hl : lv_has ls 4 [(0, .ref (sh.2 qx)), (1, .int a1), (2, .ref (sh.2 qo))] := hl
  refine lv_aload_n hx hb dw_total_0 rfl (lv_at hl 2 rfl) ?_
  refine lv_iconst (v := 0) hx hb dw_total_1 (by decide) ?_
  refine lv_aload_n hx hb dw_total_2 rfl (lv_at hl 0 rfl) ?_
  refine lv_iload_n hx hb dw_total_3 rfl (lv_at hl 1 rfl) ?_
  refine en_hcV (q0 := qx) (b := sh.2 qx) (fs := fx) (co := 12) (ρp := [.ref (sh.2 qx), .int a1]) (As := [.int a1]) (rest := [.int 0, .ref (sh.2 qo)]) (lv' := 2) (ct_X6_total_0 hl9 hPP Ω) gw_X6_total rfl rfl hwx rfl rfl (Nat.le_of_ble_eq_true rfl) ⟨Nat.le_of_ble_eq_true rfl, Nat.le_of_ble_eq_true rfl⟩ ⟨Nat.le_of_ble_eq_true rfl, Nat.le_of_ble_eq_true rfl⟩ (Nat.le_of_ble_eq_true rfl) hx hb (hml.trans hl.1.symm) hts hown hTY hK0 hT hP hD0 hS hA hW hΩ (wr_pa (env := k_X6_total_0.2.1.1) ⟨⟨qx, hqx, rfl⟩, ⟨a1, rfl, en_lo a1, en_hi a1⟩, trivial⟩) dw_total_4 (fun x9 hx9 ce q9 u H1 locs1 hpx hP1 hD1 hS1 hcell hvm hcl => ?_) (fun u res H1 locs1 hrv hpo hP1 hD1 hS1 => ?_)
  · have hku := wr_keep hpx hqo (by decide +kernel) hwo
    have hpx9 := wr_same hpx ((56, 0) :: k_X6_total_0.2.2.2.1) (fun z hz => List.mem_cons_of_mem _ hz)
    rcases List.mem_cons.mp hx9 with hx8 | hx9
    · subst hx8
      refine vx_catch (E := "java/lang/IndexOutOfBoundsException") (name := "java/lang/IndexOutOfBoundsException") hown [] ⟨0, 9, 12, 23⟩ [⟨0, 9, 15, 54⟩] (htab.trans rfl) wr_nil (by decide) (by decide) (hts (.classLink RL 23 "java/lang/IndexOutOfBoundsException") cwl619) (va_Nw.use rfl (hT.1 (Cond.castable "java/lang/IndexOutOfBoundsException" "java/lang/IndexOutOfBoundsException") (tf_cast (539, "java/lang/IndexOutOfBoundsException") (by decide +kernel)))) hcell hvm hcl ?_
      refine lv_astore_n (lv' := (3, .ref q9) :: [(0, .ref (sh.2 qx)), (1, .int a1), (2, .ref (sh.2 qo))]) hx hb dw_total_12 rfl hl (by decide) rfl (fun ls hl => ?_)
      refine lv_iconst (v := 1) hx hb dw_total_13 (by decide) ?_
      exact W.widen (Nat.le_of_ble_eq_true rfl) (Nat.le_of_ble_eq_true rfl) (W.iret (v := 1) hx hb hr (fun t ht hW9 => ⟨⟨1, u, rfl, ⟨hpx9, g0, hku⟩, by rw [ht]; exact hP1, hD1⟩, hS1.F ht⟩) hS1.2.2 dw_total_14)
    have hx8 := List.mem_singleton.mp hx9
    subst hx8
    refine vx_catch (E := "java/util/NoSuchElementException") (name := "java/util/NoSuchElementException") hown [⟨0, 9, 12, 23⟩] ⟨0, 9, 15, 54⟩ [] (htab.trans rfl) (wr_cons (Or.inr ⟨by decide, "java/lang/IndexOutOfBoundsException", (hts (.classLink RL 23 "java/lang/IndexOutOfBoundsException") cwl619), hT.2.2.2.2.1 _ (by decide +kernel) _ (by decide +kernel) (by decide)⟩) wr_nil) (by decide) (by decide) (hts (.classLink RL 54 "java/util/NoSuchElementException") cwl765) (va_Nw.use rfl (hT.1 (Cond.castable "java/util/NoSuchElementException" "java/util/NoSuchElementException") (tf_cast (181, "java/util/NoSuchElementException") (by decide +kernel)))) hcell hvm hcl ?_
    refine lv_astore_n (lv' := (3, .ref q9) :: [(0, .ref (sh.2 qx)), (1, .int a1), (2, .ref (sh.2 qo))]) hx hb dw_total_15 rfl hl (by decide) rfl (fun ls hl => ?_)
    refine lv_iconst (v := 2) hx hb dw_total_16 (by decide) ?_
    exact W.widen (Nat.le_of_ble_eq_true rfl) (Nat.le_of_ble_eq_true rfl) (W.iret (v := 2) hx hb hr (fun t ht hW9 => ⟨⟨2, u, rfl, ⟨hpx9, g0, hku⟩, by rw [ht]; exact hP1, hD1⟩, hS1.F ht⟩) hS1.2.2 dw_total_17)
  · obtain ⟨hpx, hpo9⟩ := hpo
    have hku := wr_keep hpx hqo (by decide +kernel) hwo
    obtain ⟨r9, rfl⟩ := hrv
    refine lv_i2l hx hb dw_total_7 rfl ?_
    refine va_last hx hb hK hP1 hD1 hS1 qo 7 hku hTt (vp_in_nI (n := 0) (by decide) (by decide)) dw_total_8 (fun H2 locs2 hP2 hD2 hS2 => ?_)
    obtain ⟨g9, hg9⟩ : ∃ g9, g9 = vp_updL g0 (0 : Int32).toNatClampNeg r9.toInt64 := ⟨_, rfl⟩
    rw [← hg9] at hP2 hD2
    refine lv_goto (tgt := 18) hx hb dw_total_9 (by decide) ?_
    refine lv_iconst (v := 0) hx hb dw_total_18 (by decide) ?_
    exact W.widen (Nat.le_of_ble_eq_true rfl) (Nat.le_of_ble_eq_true rfl) (W.iret (v := 0) hx hb hr (fun t ht hW9 => ⟨⟨0, (u.1, u.2.set qo (sh.2 qo, .inl (cO, 1, .inr (.inl g9)))), rfl, ⟨wr_set hpx hqo (by decide +kernel) (by decide +kernel) hwo ⟨rfl, rfl⟩, g9, wr_get hku⟩, by rw [ht]; exact hP2, hD2⟩, hS2.F ht⟩) hS2.2.2 dw_total_19)
theorem dw_up_0 : decode cL_up 0 = .ok (.aload_n 1, 1) := by decide +kernel
theorem dw_up_1 : decode cL_up 1 = .ok (.iconst 0, 1) := by decide +kernel
theorem dw_up_2 : decode cL_up 2 = .ok (.aload_n 0, 1) := by decide +kernel
theorem dw_up_3 : decode cL_up 3 = .ok (.invokevirtual 138, 3) := by decide +kernel
theorem dw_up_6 : decode cL_up 6 = .ok (.i2l, 1) := by decide +kernel
theorem dw_up_7 : decode cL_up 7 = .ok (.lastore, 1) := by decide +kernel
theorem dw_up_8 : decode cL_up 8 = .ok (.goto 6, 3) := by decide +kernel
theorem dw_up_11 : decode cL_up 11 = .ok (.astore_n 2, 1) := by decide +kernel
theorem dw_up_12 : decode cL_up 12 = .ok (.iconst 1, 1) := by decide +kernel
theorem dw_up_13 : decode cL_up 13 = .ok (.ireturn, 1) := by decide +kernel
theorem dw_up_14 : decode cL_up 14 = .ok (.iconst 0, 1) := by decide +kernel
theorem dw_up_15 : decode cL_up 15 = .ok (.ireturn, 1) := by decide +kernel
theorem gw_X6_up : en_CV en_cw RL 138 yX6_up RX6 cX6_up 1 (some .int) 0 := en_gv cwl1163 cwl1164 cwl1165 cwl75 cwl1166 ⟨rfl, by decide, by decide, by decide +kernel⟩
set_option maxHeartbeats 4000000 in
set_option maxRecDepth 100000 in
theorem wr_up {l : Launch} (hl9 : l.stackTraces = false) {PP : Int32 → Int32 → Prop} (hPP : en_P0 PP) (Ω : Nat → en_H → va_W → Prop) (D : va_G) (tys : List (ClassId × FieldType)) (cO cD : ClassId) (sh : en_H) (w : va_W) (sz qx qo : Nat) (fx : List Value) (g0 : (Nat → Int64)) (hTY : tys.map Prod.snd = en_TY0) (hW : en_W PP en_KT k_X6_up_0.2.2.2.2.1 sh tys (fun _ => False) w) (hD0 : va_D (va_A w sz) w) (hΩ : en_Om en_om0 sh Ω) (hqx : sh.1[qx]? = some 0) (hwx : w[qx]? = some (sh.2 qx, .inr (12, fx))) (hqo : sh.1[qo]? = some 56) (hwo : w[qo]? = some (sh.2 qo, .inl (cO, 1, .inr (.inl g0)))) :
    Met l yL_up (Cond.codeWith yL_up cL_up 3 (some .int) [(0, 8, 11, 17)] :: en_cw) (en_rm 3 (1, 6)) (va_Pc [.ref (sh.2 qx), .ref (sh.2 qo)] (en_B D vwCl (tys ++ [(cO, .long), (cD, .double)]) w sz)) (va_Qi (fun _ u => (en_Px tys PP en_KT k_X6_up_0.2.2.2.2.1 ((56, 0) :: k_X6_up_0.2.2.2.1) sh w u ∧ ∃ g, u.2[qo]? = some (sh.2 qo, .inl (cO, 1, .inr (.inl g))))) (en_Bw D vwCl (va_A w sz)) (va_A w sz)) 1 6 (va_A w sz) := by
  refine va_MetW (cc := cL_up) (maxL := 3) (ret := some .int) (hh := [(0, 8, 11, 17)]) (by decide +kernel) rfl ?_
  intro p e s m args below meth c s₁ B hml hv
  obtain ⟨rfl, hsz, hP, hK, hT⟩ := hv
  subst hsz
  have hx := B.exec
  have hb := B.bytes
  have hr := B.returns
  have hts0 := atoms_spec (ws := Cond.codeWith yL_up cL_up 3 (some .int) [(0, 8, 11, 17)] :: en_cw) B.pre
  have hts : ∀ z ∈ en_cw, z.before _ s = true := fun z hz => hts0 z (List.mem_cons_of_mem _ hz)
  have hown : s.vm.findClass RL = some m.cls := findClass_of_methodNamed B.named
  have htab := vx_table (x := yL_up) B (hts0 _ List.mem_cons_self)
  have hA : ∀ q : Nat, s.heap.size ≤ q → va_A w s.heap.size q := fun q h => Or.inr h
  have hS : va_S (va_A w s.heap.size) s.heap s.heap [] := va_S.rf
  have hK0 : va_K D vwCl tys s := hK.pre
  have hTt : (tys ++ [(cO, .long), (cD, .double)])[7]? = some (cO, .long) := wr_ty hTY
  have hl := lv_entry ([.ref (sh.2 qx), .ref (sh.2 qo)]) (n := 3) (Nat.le_of_ble_eq_true rfl)
  rw [lg_entry_eq]
  generalize (lg_sl ([.ref (sh.2 qx), .ref (sh.2 qo)]) ++ List.replicate (3 - (lg_sl ([.ref (sh.2 qx), .ref (sh.2 qo)])).length) Slot.unset).toArray = ls at hl ⊢
  have hl : lv_has ls 3 [(0, .ref (sh.2 qx)), (1, .ref (sh.2 qo))] := hl
  refine lv_aload_n hx hb dw_up_0 rfl (lv_at hl 1 rfl) ?_
  refine lv_iconst (v := 0) hx hb dw_up_1 (by decide) ?_
  refine lv_aload_n hx hb dw_up_2 rfl (lv_at hl 0 rfl) ?_
  refine en_hcV (q0 := qx) (b := sh.2 qx) (fs := fx) (co := 12) (ρp := [.ref (sh.2 qx)]) (As := []) (rest := [.int 0, .ref (sh.2 qo)]) (lv' := 2) (ct_X6_up_0 hl9 hPP Ω) gw_X6_up rfl rfl hwx rfl rfl (Nat.le_of_ble_eq_true rfl) ⟨Nat.le_of_ble_eq_true rfl, Nat.le_of_ble_eq_true rfl⟩ ⟨Nat.le_of_ble_eq_true rfl, Nat.le_of_ble_eq_true rfl⟩ (Nat.le_of_ble_eq_true rfl) hx hb (hml.trans hl.1.symm) hts hown hTY hK0 hT hP hD0 hS hA hW hΩ (wr_pa (env := k_X6_up_0.2.1.1) ⟨⟨qx, hqx, rfl⟩, trivial⟩) dw_up_3 (fun x9 hx9 ce q9 u H1 locs1 hpx hP1 hD1 hS1 hcell hvm hcl => ?_) (fun u res H1 locs1 hrv hpo hP1 hD1 hS1 => ?_)
  · have hku := wr_keep hpx hqo (by decide +kernel) hwo
    have hpx9 := wr_same hpx ((56, 0) :: k_X6_up_0.2.2.2.1) (fun z hz => List.mem_cons_of_mem _ hz)
    have hx8 := List.mem_singleton.mp hx9
    subst hx8
    refine vx_catch (E := "java/lang/UnsupportedOperationException") (name := "java/lang/UnsupportedOperationException") hown [] ⟨0, 8, 11, 17⟩ [] (htab.trans rfl) wr_nil (by decide) (by decide) (hts (.classLink RL 17 "java/lang/UnsupportedOperationException") cwl500) (va_Nw.use rfl (hT.1 (Cond.castable "java/lang/UnsupportedOperationException" "java/lang/UnsupportedOperationException") (tf_cast (78, "java/lang/UnsupportedOperationException") (by decide +kernel)))) hcell hvm hcl ?_
    refine lv_astore_n (lv' := (2, .ref q9) :: [(0, .ref (sh.2 qx)), (1, .ref (sh.2 qo))]) hx hb dw_up_11 rfl hl (by decide) rfl (fun ls hl => ?_)
    refine lv_iconst (v := 1) hx hb dw_up_12 (by decide) ?_
    exact W.widen (Nat.le_of_ble_eq_true rfl) (Nat.le_of_ble_eq_true rfl) (W.iret (v := 1) hx hb hr (fun t ht hW9 => ⟨⟨1, u, rfl, ⟨hpx9, g0, hku⟩, by rw [ht]; exact hP1, hD1⟩, hS1.F ht⟩) hS1.2.2 dw_up_13)
  · obtain ⟨hpx, hpo9⟩ := hpo
    have hku := wr_keep hpx hqo (by decide +kernel) hwo
    obtain ⟨r9, rfl⟩ := hrv
    refine lv_i2l hx hb dw_up_6 rfl ?_
    refine va_last hx hb hK hP1 hD1 hS1 qo 7 hku hTt (vp_in_nI (n := 0) (by decide) (by decide)) dw_up_7 (fun H2 locs2 hP2 hD2 hS2 => ?_)
    obtain ⟨g9, hg9⟩ : ∃ g9, g9 = vp_updL g0 (0 : Int32).toNatClampNeg r9.toInt64 := ⟨_, rfl⟩
    rw [← hg9] at hP2 hD2
    refine lv_goto (tgt := 14) hx hb dw_up_8 (by decide) ?_
    refine lv_iconst (v := 0) hx hb dw_up_14 (by decide) ?_
    exact W.widen (Nat.le_of_ble_eq_true rfl) (Nat.le_of_ble_eq_true rfl) (W.iret (v := 0) hx hb hr (fun t ht hW9 => ⟨⟨0, (u.1, u.2.set qo (sh.2 qo, .inl (cO, 1, .inr (.inl g9)))), rfl, ⟨wr_set hpx hqo (by decide +kernel) (by decide +kernel) hwo ⟨rfl, rfl⟩, g9, wr_get hku⟩, by rw [ht]; exact hP2, hD2⟩, hS2.F ht⟩) hS2.2.2 dw_up_15)
