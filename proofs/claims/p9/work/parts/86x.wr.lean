set_option maxHeartbeats 4000000 in
set_option maxRecDepth 100000 in
theorem wr_edition_0_110 {l : Launch} (hl9 : l.stackTraces = false) {PP : Int32 → Int32 → Prop} (hPP : en_P0 PP) (Ω : Nat → en_H → va_W → Prop) (D : va_G) (tys : List (ClassId × FieldType)) (cO cD : ClassId) (sh : en_H) (w : va_W) (sz qx qo : Nat) (fx : List Value) (g0 : (Nat → Int64)) (a1 : Int32) (hb1 : 110 ≤ a1.toInt ∧ a1.toInt ≤ 110) (hTY : tys.map Prod.snd = en_TY0) (hW : en_W PP en_KT k_X6_edition_1.2.2.2.2.1 sh tys (fun _ => False) w) (hD0 : va_D (va_A w sz) w) (hΩ : en_Om en_om0 sh Ω) (hqx : sh.1[qx]? = some 0) (hwx : w[qx]? = some (sh.2 qx, .inr (12, fx))) (hqo : sh.1[qo]? = some 56) (hwo : w[qo]? = some (sh.2 qo, .inl (cO, 1, .inr (.inl g0)))) (hf7 : fx[7]? = some (.int 110)) :
    Met l yL_edition (Cond.codeWith yL_edition cL_edition 4 (some .int) [(0, 9, 12, 13)] :: en_cw) (en_rm 1 (0, 0)) (va_Pc [.ref (sh.2 qx), .int a1, .ref (sh.2 qo)] (en_B D vwCl (tys ++ [(cO, .long), (cD, .double)]) w sz)) (va_Qi (fun r u => (en_Px tys PP en_KT k_X6_edition_1.2.2.2.2.1 ((56, 0) :: k_X6_edition_1.2.2.2.1) sh w u ∧ ∃ g, u.2[qo]? = some (sh.2 qo, .inl (cO, 1, .inr (.inl g))) ∧ g 0 = (110 : Int32).toInt64) ∧ r = 0 ∧ ∃ fx', u.2[qx]? = some (u.1.2 qx, .inr (12, fx')) ∧ fx'[7]? = some (.int a1)) (en_Bw D vwCl (va_A w sz)) (va_A w sz)) 0 0 (va_A w sz) := by
  refine va_MetW (cc := cL_edition) (maxL := 4) (ret := some .int) (hh := [(0, 9, 12, 13)]) (by decide +kernel) rfl ?_
  intro p e s m args below meth c s₁ B hml hv
  obtain ⟨rfl, hsz, hP, hK, hT⟩ := hv
  subst hsz
  have hx := B.exec
  have hb := B.bytes
  have hr := B.returns
  have hts0 := atoms_spec (ws := Cond.codeWith yL_edition cL_edition 4 (some .int) [(0, 9, 12, 13)] :: en_cw) B.pre
  have hts : ∀ z ∈ en_cw, z.before _ s = true := fun z hz => hts0 z (List.mem_cons_of_mem _ hz)
  have hown : s.vm.findClass RL = some m.cls := findClass_of_methodNamed B.named
  have htab := vx_table (x := yL_edition) B (hts0 _ List.mem_cons_self)
  have hA : ∀ q : Nat, s.heap.size ≤ q → va_A w s.heap.size q := fun q h => Or.inr h
  have hS : va_S (va_A w s.heap.size) s.heap s.heap [] := va_S.rf
  have hK0 : va_K D vwCl tys s := hK.pre
  have hTt : (tys ++ [(cO, .long), (cD, .double)])[7]? = some (cO, .long) := wr_ty hTY
  have hl := lv_entry ([.ref (sh.2 qx), .int a1, .ref (sh.2 qo)]) (n := 4) (Nat.le_of_ble_eq_true rfl)
  rw [lg_entry_eq]
  generalize (lg_sl ([.ref (sh.2 qx), .int a1, .ref (sh.2 qo)]) ++ List.replicate (4 - (lg_sl ([.ref (sh.2 qx), .int a1, .ref (sh.2 qo)])).length) Slot.unset).toArray = ls at hl ⊢
  have hl : lv_has ls 4 [(0, .ref (sh.2 qx)), (1, .int a1), (2, .ref (sh.2 qo))] := hl
  refine lv_aload_n hx hb dw_edition_0 rfl (lv_at hl 2 rfl) ?_
  refine lv_iconst (v := 0) hx hb dw_edition_1 (by decide) ?_
  refine lv_aload_n hx hb dw_edition_2 rfl (lv_at hl 0 rfl) ?_
  refine lv_iload_n hx hb dw_edition_3 rfl (lv_at hl 1 rfl) ?_
  refine en_hcV (q0 := qx) (b := sh.2 qx) (fs := fx) (co := 12) (ρp := [.ref (sh.2 qx), .int a1, .int 110]) (As := [.int a1]) (rest := [.int 0, .ref (sh.2 qo)]) (lv' := 0) (ct_X6_edition_1 hl9 hPP Ω) gw_X6_edition rfl rfl hwx rfl rfl (Nat.le_of_ble_eq_true rfl) ⟨Nat.le_of_ble_eq_true rfl, Nat.le_of_ble_eq_true rfl⟩ ⟨Nat.le_of_ble_eq_true rfl, Nat.le_of_ble_eq_true rfl⟩ (Nat.le_of_ble_eq_true rfl) hx hb (hml.trans hl.1.symm) hts hown hTY hK0 hT hP hD0 hS hA hW hΩ (wr_pf (env := k_X6_edition_1.2.1.1) (fa := k_X6_edition_1.2.1.2) ⟨⟨qx, hqx, rfl⟩, ⟨a1, rfl, hb1.1, hb1.2⟩, ⟨_, rfl, by decide, by decide⟩, trivial⟩ (en_ac ⟨qx, _, 12, fx, _, rfl, hwx, hf7, rfl⟩ en_an)) dw_edition_4 (fun x9 hx9 ce q9 u H1 locs1 hpx hP1 hD1 hS1 hcell hvm hcl => ?_) (fun u res H1 locs1 hrv hpo hP1 hD1 hS1 => ?_)
  · have hku := wr_keep hpx hqo (by decide +kernel) hwo
    have hpx9 := wr_same hpx ((56, 0) :: k_X6_edition_1.2.2.2.1) (fun z hz => List.mem_cons_of_mem _ hz)
    exact absurd hx9 List.not_mem_nil
  · obtain ⟨hpx, hpo9⟩ := hpo
    have hku := wr_keep hpx hqo (by decide +kernel) hwo
    obtain ⟨r9, rfl⟩ := hrv
    obtain ⟨o9, ho9, ρ9, hpa, hi9, hres⟩ := hpo9
    have ho9 := List.mem_singleton.mp ho9
    subst ho9
    obtain ⟨v9, e9, x9, hx9, l9, u9⟩ := hpa.2.1 2 _ rfl
    subst hx9
    have er : r9 = x9 := Value.int.inj (Option.some.inj ((hres _ rfl).symm.trans e9))
    have er9 : x9 = 110 := Int32.toInt_inj.mp (by rw [show ((110 : Int32)).toInt = 110 from rfl]; have l9 : (110 : Int) ≤ x9.toInt := l9; have u9 : x9.toInt ≤ (110 : Int) := u9; omega)
    rw [er9] at er
    obtain ⟨q9, r8, ci9, fx9, v8, c1, c2, c3, c4⟩ := hpa.2.2 (0, 0, 7, 1, 0, 0) (by decide)
    have e8 : r8 = u.1.2 qx := (Value.ref.inj (Option.some.inj (c1.symm.trans (hi9 0 (by decide))))).trans (hpx.1.at hqx).2.symm
    subst e8
    obtain ⟨e7, c5, c6⟩ := hpx.2.2 qx 0 _ hqx hwx
    have c5 : u.2[qx]? = some (u.1.2 qx, e7) := by rw [(hpx.1.at hqx).2]; exact c5
    have eq9 : q9 = qx := hD1.1 q9 qx _ _ c2 c5 rfl
    subst eq9
    have ci : ci9 = 12 := by rw [(Prod.mk.inj (Option.some.inj (c5.symm.trans c2))).2] at c6; exact c6.1
    subst ci
    have hf7u : fx9[7]? = some (.int a1) := by rw [c3, Option.some.inj (c4.symm.trans (hi9 1 (by decide)))]
    have c2u := c2
    have hqq : ¬ qo = q9 := fun e => by rw [e] at hqo; rw [hqo] at hqx; cases hqx
    refine lv_i2l hx hb dw_edition_7 rfl ?_
    refine va_last hx hb hK hP1 hD1 hS1 qo 7 hku hTt (vp_in_nI (n := 0) (by decide) (by decide)) dw_edition_8 (fun H2 locs2 hP2 hD2 hS2 => ?_)
    obtain ⟨g9, hg9⟩ : ∃ g9, g9 = vp_updL g0 (0 : Int32).toNatClampNeg r9.toInt64 := ⟨_, rfl⟩
    rw [← hg9] at hP2 hD2
    refine lv_goto (tgt := 15) hx hb dw_edition_9 (by decide) ?_
    refine lv_iconst (v := 0) hx hb dw_edition_15 (by decide) ?_
    exact W.widen (Nat.le_of_ble_eq_true rfl) (Nat.le_of_ble_eq_true rfl) (W.iret (v := 0) hx hb hr (fun t ht hW9 => ⟨⟨0, (u.1, u.2.set qo (sh.2 qo, .inl (cO, 1, .inr (.inl g9)))), rfl, ⟨⟨wr_set hpx hqo (by decide +kernel) (by decide +kernel) hwo ⟨rfl, rfl⟩, g9, wr_get hku, by rw [hg9]; unfold vp_updL; rw [if_pos (by decide), er]⟩, rfl, fx9, by rw [List.getElem?_set_ne hqq]; exact c2u, hf7u⟩, by rw [ht]; exact hP2, hD2⟩, hS2.F ht⟩) hS2.2.2 dw_edition_16)
set_option maxHeartbeats 4000000 in
set_option maxRecDepth 100000 in
theorem wr_edition_0_111 {l : Launch} (hl9 : l.stackTraces = false) {PP : Int32 → Int32 → Prop} (hPP : en_P0 PP) (Ω : Nat → en_H → va_W → Prop) (D : va_G) (tys : List (ClassId × FieldType)) (cO cD : ClassId) (sh : en_H) (w : va_W) (sz qx qo : Nat) (fx : List Value) (g0 : (Nat → Int64)) (a1 : Int32) (hb1 : 110 ≤ a1.toInt ∧ a1.toInt ≤ 110) (hTY : tys.map Prod.snd = en_TY0) (hW : en_W PP en_KT k_X6_edition_2.2.2.2.2.1 sh tys (fun _ => False) w) (hD0 : va_D (va_A w sz) w) (hΩ : en_Om en_om0 sh Ω) (hqx : sh.1[qx]? = some 0) (hwx : w[qx]? = some (sh.2 qx, .inr (12, fx))) (hqo : sh.1[qo]? = some 56) (hwo : w[qo]? = some (sh.2 qo, .inl (cO, 1, .inr (.inl g0)))) (hf7 : fx[7]? = some (.int 111)) :
    Met l yL_edition (Cond.codeWith yL_edition cL_edition 4 (some .int) [(0, 9, 12, 13)] :: en_cw) (en_rm 1 (0, 0)) (va_Pc [.ref (sh.2 qx), .int a1, .ref (sh.2 qo)] (en_B D vwCl (tys ++ [(cO, .long), (cD, .double)]) w sz)) (va_Qi (fun r u => (en_Px tys PP en_KT k_X6_edition_2.2.2.2.2.1 ((56, 0) :: k_X6_edition_2.2.2.2.1) sh w u ∧ ∃ g, u.2[qo]? = some (sh.2 qo, .inl (cO, 1, .inr (.inl g))) ∧ g 0 = (111 : Int32).toInt64) ∧ r = 0 ∧ ∃ fx', u.2[qx]? = some (u.1.2 qx, .inr (12, fx')) ∧ fx'[7]? = some (.int a1)) (en_Bw D vwCl (va_A w sz)) (va_A w sz)) 0 0 (va_A w sz) := by
  refine va_MetW (cc := cL_edition) (maxL := 4) (ret := some .int) (hh := [(0, 9, 12, 13)]) (by decide +kernel) rfl ?_
  intro p e s m args below meth c s₁ B hml hv
  obtain ⟨rfl, hsz, hP, hK, hT⟩ := hv
  subst hsz
  have hx := B.exec
  have hb := B.bytes
  have hr := B.returns
  have hts0 := atoms_spec (ws := Cond.codeWith yL_edition cL_edition 4 (some .int) [(0, 9, 12, 13)] :: en_cw) B.pre
  have hts : ∀ z ∈ en_cw, z.before _ s = true := fun z hz => hts0 z (List.mem_cons_of_mem _ hz)
  have hown : s.vm.findClass RL = some m.cls := findClass_of_methodNamed B.named
  have htab := vx_table (x := yL_edition) B (hts0 _ List.mem_cons_self)
  have hA : ∀ q : Nat, s.heap.size ≤ q → va_A w s.heap.size q := fun q h => Or.inr h
  have hS : va_S (va_A w s.heap.size) s.heap s.heap [] := va_S.rf
  have hK0 : va_K D vwCl tys s := hK.pre
  have hTt : (tys ++ [(cO, .long), (cD, .double)])[7]? = some (cO, .long) := wr_ty hTY
  have hl := lv_entry ([.ref (sh.2 qx), .int a1, .ref (sh.2 qo)]) (n := 4) (Nat.le_of_ble_eq_true rfl)
  rw [lg_entry_eq]
  generalize (lg_sl ([.ref (sh.2 qx), .int a1, .ref (sh.2 qo)]) ++ List.replicate (4 - (lg_sl ([.ref (sh.2 qx), .int a1, .ref (sh.2 qo)])).length) Slot.unset).toArray = ls at hl ⊢
  have hl : lv_has ls 4 [(0, .ref (sh.2 qx)), (1, .int a1), (2, .ref (sh.2 qo))] := hl
  refine lv_aload_n hx hb dw_edition_0 rfl (lv_at hl 2 rfl) ?_
  refine lv_iconst (v := 0) hx hb dw_edition_1 (by decide) ?_
  refine lv_aload_n hx hb dw_edition_2 rfl (lv_at hl 0 rfl) ?_
  refine lv_iload_n hx hb dw_edition_3 rfl (lv_at hl 1 rfl) ?_
  refine en_hcV (q0 := qx) (b := sh.2 qx) (fs := fx) (co := 12) (ρp := [.ref (sh.2 qx), .int a1, .int 111]) (As := [.int a1]) (rest := [.int 0, .ref (sh.2 qo)]) (lv' := 0) (ct_X6_edition_2 hl9 hPP Ω) gw_X6_edition rfl rfl hwx rfl rfl (Nat.le_of_ble_eq_true rfl) ⟨Nat.le_of_ble_eq_true rfl, Nat.le_of_ble_eq_true rfl⟩ ⟨Nat.le_of_ble_eq_true rfl, Nat.le_of_ble_eq_true rfl⟩ (Nat.le_of_ble_eq_true rfl) hx hb (hml.trans hl.1.symm) hts hown hTY hK0 hT hP hD0 hS hA hW hΩ (wr_pf (env := k_X6_edition_2.2.1.1) (fa := k_X6_edition_2.2.1.2) ⟨⟨qx, hqx, rfl⟩, ⟨a1, rfl, hb1.1, hb1.2⟩, ⟨_, rfl, by decide, by decide⟩, trivial⟩ (en_ac ⟨qx, _, 12, fx, _, rfl, hwx, hf7, rfl⟩ en_an)) dw_edition_4 (fun x9 hx9 ce q9 u H1 locs1 hpx hP1 hD1 hS1 hcell hvm hcl => ?_) (fun u res H1 locs1 hrv hpo hP1 hD1 hS1 => ?_)
  · have hku := wr_keep hpx hqo (by decide +kernel) hwo
    have hpx9 := wr_same hpx ((56, 0) :: k_X6_edition_2.2.2.2.1) (fun z hz => List.mem_cons_of_mem _ hz)
    exact absurd hx9 List.not_mem_nil
  · obtain ⟨hpx, hpo9⟩ := hpo
    have hku := wr_keep hpx hqo (by decide +kernel) hwo
    obtain ⟨r9, rfl⟩ := hrv
    obtain ⟨o9, ho9, ρ9, hpa, hi9, hres⟩ := hpo9
    have ho9 := List.mem_singleton.mp ho9
    subst ho9
    obtain ⟨v9, e9, x9, hx9, l9, u9⟩ := hpa.2.1 2 _ rfl
    subst hx9
    have er : r9 = x9 := Value.int.inj (Option.some.inj ((hres _ rfl).symm.trans e9))
    have er9 : x9 = 111 := Int32.toInt_inj.mp (by rw [show ((111 : Int32)).toInt = 111 from rfl]; have l9 : (111 : Int) ≤ x9.toInt := l9; have u9 : x9.toInt ≤ (111 : Int) := u9; omega)
    rw [er9] at er
    obtain ⟨q9, r8, ci9, fx9, v8, c1, c2, c3, c4⟩ := hpa.2.2 (0, 0, 7, 1, 0, 0) (by decide)
    have e8 : r8 = u.1.2 qx := (Value.ref.inj (Option.some.inj (c1.symm.trans (hi9 0 (by decide))))).trans (hpx.1.at hqx).2.symm
    subst e8
    obtain ⟨e7, c5, c6⟩ := hpx.2.2 qx 0 _ hqx hwx
    have c5 : u.2[qx]? = some (u.1.2 qx, e7) := by rw [(hpx.1.at hqx).2]; exact c5
    have eq9 : q9 = qx := hD1.1 q9 qx _ _ c2 c5 rfl
    subst eq9
    have ci : ci9 = 12 := by rw [(Prod.mk.inj (Option.some.inj (c5.symm.trans c2))).2] at c6; exact c6.1
    subst ci
    have hf7u : fx9[7]? = some (.int a1) := by rw [c3, Option.some.inj (c4.symm.trans (hi9 1 (by decide)))]
    have c2u := c2
    have hqq : ¬ qo = q9 := fun e => by rw [e] at hqo; rw [hqo] at hqx; cases hqx
    refine lv_i2l hx hb dw_edition_7 rfl ?_
    refine va_last hx hb hK hP1 hD1 hS1 qo 7 hku hTt (vp_in_nI (n := 0) (by decide) (by decide)) dw_edition_8 (fun H2 locs2 hP2 hD2 hS2 => ?_)
    obtain ⟨g9, hg9⟩ : ∃ g9, g9 = vp_updL g0 (0 : Int32).toNatClampNeg r9.toInt64 := ⟨_, rfl⟩
    rw [← hg9] at hP2 hD2
    refine lv_goto (tgt := 15) hx hb dw_edition_9 (by decide) ?_
    refine lv_iconst (v := 0) hx hb dw_edition_15 (by decide) ?_
    exact W.widen (Nat.le_of_ble_eq_true rfl) (Nat.le_of_ble_eq_true rfl) (W.iret (v := 0) hx hb hr (fun t ht hW9 => ⟨⟨0, (u.1, u.2.set qo (sh.2 qo, .inl (cO, 1, .inr (.inl g9)))), rfl, ⟨⟨wr_set hpx hqo (by decide +kernel) (by decide +kernel) hwo ⟨rfl, rfl⟩, g9, wr_get hku, by rw [hg9]; unfold vp_updL; rw [if_pos (by decide), er]⟩, rfl, fx9, by rw [List.getElem?_set_ne hqq]; exact c2u, hf7u⟩, by rw [ht]; exact hP2, hD2⟩, hS2.F ht⟩) hS2.2.2 dw_edition_16)
set_option maxHeartbeats 4000000 in
set_option maxRecDepth 100000 in
theorem wr_edition_1_110 {l : Launch} (hl9 : l.stackTraces = false) {PP : Int32 → Int32 → Prop} (hPP : en_P0 PP) (Ω : Nat → en_H → va_W → Prop) (D : va_G) (tys : List (ClassId × FieldType)) (cO cD : ClassId) (sh : en_H) (w : va_W) (sz qx qo : Nat) (fx : List Value) (g0 : (Nat → Int64)) (a1 : Int32) (hb1 : 111 ≤ a1.toInt ∧ a1.toInt ≤ 111) (hTY : tys.map Prod.snd = en_TY0) (hW : en_W PP en_KT k_X6_edition_3.2.2.2.2.1 sh tys (fun _ => False) w) (hD0 : va_D (va_A w sz) w) (hΩ : en_Om en_om0 sh Ω) (hqx : sh.1[qx]? = some 0) (hwx : w[qx]? = some (sh.2 qx, .inr (12, fx))) (hqo : sh.1[qo]? = some 56) (hwo : w[qo]? = some (sh.2 qo, .inl (cO, 1, .inr (.inl g0)))) (hf7 : fx[7]? = some (.int 110)) :
    Met l yL_edition (Cond.codeWith yL_edition cL_edition 4 (some .int) [(0, 9, 12, 13)] :: en_cw) (en_rm 1 (0, 0)) (va_Pc [.ref (sh.2 qx), .int a1, .ref (sh.2 qo)] (en_B D vwCl (tys ++ [(cO, .long), (cD, .double)]) w sz)) (va_Qi (fun r u => (en_Px tys PP en_KT k_X6_edition_3.2.2.2.2.1 ((56, 0) :: k_X6_edition_3.2.2.2.1) sh w u ∧ ∃ g, u.2[qo]? = some (sh.2 qo, .inl (cO, 1, .inr (.inl g))) ∧ g 0 = (110 : Int32).toInt64) ∧ r = 0 ∧ ∃ fx', u.2[qx]? = some (u.1.2 qx, .inr (12, fx')) ∧ fx'[7]? = some (.int a1)) (en_Bw D vwCl (va_A w sz)) (va_A w sz)) 0 0 (va_A w sz) := by
  refine va_MetW (cc := cL_edition) (maxL := 4) (ret := some .int) (hh := [(0, 9, 12, 13)]) (by decide +kernel) rfl ?_
  intro p e s m args below meth c s₁ B hml hv
  obtain ⟨rfl, hsz, hP, hK, hT⟩ := hv
  subst hsz
  have hx := B.exec
  have hb := B.bytes
  have hr := B.returns
  have hts0 := atoms_spec (ws := Cond.codeWith yL_edition cL_edition 4 (some .int) [(0, 9, 12, 13)] :: en_cw) B.pre
  have hts : ∀ z ∈ en_cw, z.before _ s = true := fun z hz => hts0 z (List.mem_cons_of_mem _ hz)
  have hown : s.vm.findClass RL = some m.cls := findClass_of_methodNamed B.named
  have htab := vx_table (x := yL_edition) B (hts0 _ List.mem_cons_self)
  have hA : ∀ q : Nat, s.heap.size ≤ q → va_A w s.heap.size q := fun q h => Or.inr h
  have hS : va_S (va_A w s.heap.size) s.heap s.heap [] := va_S.rf
  have hK0 : va_K D vwCl tys s := hK.pre
  have hTt : (tys ++ [(cO, .long), (cD, .double)])[7]? = some (cO, .long) := wr_ty hTY
  have hl := lv_entry ([.ref (sh.2 qx), .int a1, .ref (sh.2 qo)]) (n := 4) (Nat.le_of_ble_eq_true rfl)
  rw [lg_entry_eq]
  generalize (lg_sl ([.ref (sh.2 qx), .int a1, .ref (sh.2 qo)]) ++ List.replicate (4 - (lg_sl ([.ref (sh.2 qx), .int a1, .ref (sh.2 qo)])).length) Slot.unset).toArray = ls at hl ⊢
  have hl : lv_has ls 4 [(0, .ref (sh.2 qx)), (1, .int a1), (2, .ref (sh.2 qo))] := hl
  refine lv_aload_n hx hb dw_edition_0 rfl (lv_at hl 2 rfl) ?_
  refine lv_iconst (v := 0) hx hb dw_edition_1 (by decide) ?_
  refine lv_aload_n hx hb dw_edition_2 rfl (lv_at hl 0 rfl) ?_
  refine lv_iload_n hx hb dw_edition_3 rfl (lv_at hl 1 rfl) ?_
  refine en_hcV (q0 := qx) (b := sh.2 qx) (fs := fx) (co := 12) (ρp := [.ref (sh.2 qx), .int a1, .int 110]) (As := [.int a1]) (rest := [.int 0, .ref (sh.2 qo)]) (lv' := 0) (ct_X6_edition_3 hl9 hPP Ω) gw_X6_edition rfl rfl hwx rfl rfl (Nat.le_of_ble_eq_true rfl) ⟨Nat.le_of_ble_eq_true rfl, Nat.le_of_ble_eq_true rfl⟩ ⟨Nat.le_of_ble_eq_true rfl, Nat.le_of_ble_eq_true rfl⟩ (Nat.le_of_ble_eq_true rfl) hx hb (hml.trans hl.1.symm) hts hown hTY hK0 hT hP hD0 hS hA hW hΩ (wr_pf (env := k_X6_edition_3.2.1.1) (fa := k_X6_edition_3.2.1.2) ⟨⟨qx, hqx, rfl⟩, ⟨a1, rfl, hb1.1, hb1.2⟩, ⟨_, rfl, by decide, by decide⟩, trivial⟩ (en_ac ⟨qx, _, 12, fx, _, rfl, hwx, hf7, rfl⟩ en_an)) dw_edition_4 (fun x9 hx9 ce q9 u H1 locs1 hpx hP1 hD1 hS1 hcell hvm hcl => ?_) (fun u res H1 locs1 hrv hpo hP1 hD1 hS1 => ?_)
  · have hku := wr_keep hpx hqo (by decide +kernel) hwo
    have hpx9 := wr_same hpx ((56, 0) :: k_X6_edition_3.2.2.2.1) (fun z hz => List.mem_cons_of_mem _ hz)
    exact absurd hx9 List.not_mem_nil
  · obtain ⟨hpx, hpo9⟩ := hpo
    have hku := wr_keep hpx hqo (by decide +kernel) hwo
    obtain ⟨r9, rfl⟩ := hrv
    obtain ⟨o9, ho9, ρ9, hpa, hi9, hres⟩ := hpo9
    have ho9 := List.mem_singleton.mp ho9
    subst ho9
    obtain ⟨v9, e9, x9, hx9, l9, u9⟩ := hpa.2.1 2 _ rfl
    subst hx9
    have er : r9 = x9 := Value.int.inj (Option.some.inj ((hres _ rfl).symm.trans e9))
    have er9 : x9 = 110 := Int32.toInt_inj.mp (by rw [show ((110 : Int32)).toInt = 110 from rfl]; have l9 : (110 : Int) ≤ x9.toInt := l9; have u9 : x9.toInt ≤ (110 : Int) := u9; omega)
    rw [er9] at er
    obtain ⟨q9, r8, ci9, fx9, v8, c1, c2, c3, c4⟩ := hpa.2.2 (0, 0, 7, 1, 0, 0) (by decide)
    have e8 : r8 = u.1.2 qx := (Value.ref.inj (Option.some.inj (c1.symm.trans (hi9 0 (by decide))))).trans (hpx.1.at hqx).2.symm
    subst e8
    obtain ⟨e7, c5, c6⟩ := hpx.2.2 qx 0 _ hqx hwx
    have c5 : u.2[qx]? = some (u.1.2 qx, e7) := by rw [(hpx.1.at hqx).2]; exact c5
    have eq9 : q9 = qx := hD1.1 q9 qx _ _ c2 c5 rfl
    subst eq9
    have ci : ci9 = 12 := by rw [(Prod.mk.inj (Option.some.inj (c5.symm.trans c2))).2] at c6; exact c6.1
    subst ci
    have hf7u : fx9[7]? = some (.int a1) := by rw [c3, Option.some.inj (c4.symm.trans (hi9 1 (by decide)))]
    have c2u := c2
    have hqq : ¬ qo = q9 := fun e => by rw [e] at hqo; rw [hqo] at hqx; cases hqx
    refine lv_i2l hx hb dw_edition_7 rfl ?_
    refine va_last hx hb hK hP1 hD1 hS1 qo 7 hku hTt (vp_in_nI (n := 0) (by decide) (by decide)) dw_edition_8 (fun H2 locs2 hP2 hD2 hS2 => ?_)
    obtain ⟨g9, hg9⟩ : ∃ g9, g9 = vp_updL g0 (0 : Int32).toNatClampNeg r9.toInt64 := ⟨_, rfl⟩
    rw [← hg9] at hP2 hD2
    refine lv_goto (tgt := 15) hx hb dw_edition_9 (by decide) ?_
    refine lv_iconst (v := 0) hx hb dw_edition_15 (by decide) ?_
    exact W.widen (Nat.le_of_ble_eq_true rfl) (Nat.le_of_ble_eq_true rfl) (W.iret (v := 0) hx hb hr (fun t ht hW9 => ⟨⟨0, (u.1, u.2.set qo (sh.2 qo, .inl (cO, 1, .inr (.inl g9)))), rfl, ⟨⟨wr_set hpx hqo (by decide +kernel) (by decide +kernel) hwo ⟨rfl, rfl⟩, g9, wr_get hku, by rw [hg9]; unfold vp_updL; rw [if_pos (by decide), er]⟩, rfl, fx9, by rw [List.getElem?_set_ne hqq]; exact c2u, hf7u⟩, by rw [ht]; exact hP2, hD2⟩, hS2.F ht⟩) hS2.2.2 dw_edition_16)
set_option maxHeartbeats 4000000 in
set_option maxRecDepth 100000 in
theorem wr_edition_1_111 {l : Launch} (hl9 : l.stackTraces = false) {PP : Int32 → Int32 → Prop} (hPP : en_P0 PP) (Ω : Nat → en_H → va_W → Prop) (D : va_G) (tys : List (ClassId × FieldType)) (cO cD : ClassId) (sh : en_H) (w : va_W) (sz qx qo : Nat) (fx : List Value) (g0 : (Nat → Int64)) (a1 : Int32) (hb1 : 111 ≤ a1.toInt ∧ a1.toInt ≤ 111) (hTY : tys.map Prod.snd = en_TY0) (hW : en_W PP en_KT k_X6_edition_4.2.2.2.2.1 sh tys (fun _ => False) w) (hD0 : va_D (va_A w sz) w) (hΩ : en_Om en_om0 sh Ω) (hqx : sh.1[qx]? = some 0) (hwx : w[qx]? = some (sh.2 qx, .inr (12, fx))) (hqo : sh.1[qo]? = some 56) (hwo : w[qo]? = some (sh.2 qo, .inl (cO, 1, .inr (.inl g0)))) (hf7 : fx[7]? = some (.int 111)) :
    Met l yL_edition (Cond.codeWith yL_edition cL_edition 4 (some .int) [(0, 9, 12, 13)] :: en_cw) (en_rm 1 (0, 0)) (va_Pc [.ref (sh.2 qx), .int a1, .ref (sh.2 qo)] (en_B D vwCl (tys ++ [(cO, .long), (cD, .double)]) w sz)) (va_Qi (fun r u => (en_Px tys PP en_KT k_X6_edition_4.2.2.2.2.1 ((56, 0) :: k_X6_edition_4.2.2.2.1) sh w u ∧ ∃ g, u.2[qo]? = some (sh.2 qo, .inl (cO, 1, .inr (.inl g))) ∧ g 0 = (111 : Int32).toInt64) ∧ r = 0 ∧ ∃ fx', u.2[qx]? = some (u.1.2 qx, .inr (12, fx')) ∧ fx'[7]? = some (.int a1)) (en_Bw D vwCl (va_A w sz)) (va_A w sz)) 0 0 (va_A w sz) := by
  refine va_MetW (cc := cL_edition) (maxL := 4) (ret := some .int) (hh := [(0, 9, 12, 13)]) (by decide +kernel) rfl ?_
  intro p e s m args below meth c s₁ B hml hv
  obtain ⟨rfl, hsz, hP, hK, hT⟩ := hv
  subst hsz
  have hx := B.exec
  have hb := B.bytes
  have hr := B.returns
  have hts0 := atoms_spec (ws := Cond.codeWith yL_edition cL_edition 4 (some .int) [(0, 9, 12, 13)] :: en_cw) B.pre
  have hts : ∀ z ∈ en_cw, z.before _ s = true := fun z hz => hts0 z (List.mem_cons_of_mem _ hz)
  have hown : s.vm.findClass RL = some m.cls := findClass_of_methodNamed B.named
  have htab := vx_table (x := yL_edition) B (hts0 _ List.mem_cons_self)
  have hA : ∀ q : Nat, s.heap.size ≤ q → va_A w s.heap.size q := fun q h => Or.inr h
  have hS : va_S (va_A w s.heap.size) s.heap s.heap [] := va_S.rf
  have hK0 : va_K D vwCl tys s := hK.pre
  have hTt : (tys ++ [(cO, .long), (cD, .double)])[7]? = some (cO, .long) := wr_ty hTY
  have hl := lv_entry ([.ref (sh.2 qx), .int a1, .ref (sh.2 qo)]) (n := 4) (Nat.le_of_ble_eq_true rfl)
  rw [lg_entry_eq]
  generalize (lg_sl ([.ref (sh.2 qx), .int a1, .ref (sh.2 qo)]) ++ List.replicate (4 - (lg_sl ([.ref (sh.2 qx), .int a1, .ref (sh.2 qo)])).length) Slot.unset).toArray = ls at hl ⊢
  have hl : lv_has ls 4 [(0, .ref (sh.2 qx)), (1, .int a1), (2, .ref (sh.2 qo))] := hl
  refine lv_aload_n hx hb dw_edition_0 rfl (lv_at hl 2 rfl) ?_
  refine lv_iconst (v := 0) hx hb dw_edition_1 (by decide) ?_
  refine lv_aload_n hx hb dw_edition_2 rfl (lv_at hl 0 rfl) ?_
  refine lv_iload_n hx hb dw_edition_3 rfl (lv_at hl 1 rfl) ?_
  refine en_hcV (q0 := qx) (b := sh.2 qx) (fs := fx) (co := 12) (ρp := [.ref (sh.2 qx), .int a1, .int 111]) (As := [.int a1]) (rest := [.int 0, .ref (sh.2 qo)]) (lv' := 0) (ct_X6_edition_4 hl9 hPP Ω) gw_X6_edition rfl rfl hwx rfl rfl (Nat.le_of_ble_eq_true rfl) ⟨Nat.le_of_ble_eq_true rfl, Nat.le_of_ble_eq_true rfl⟩ ⟨Nat.le_of_ble_eq_true rfl, Nat.le_of_ble_eq_true rfl⟩ (Nat.le_of_ble_eq_true rfl) hx hb (hml.trans hl.1.symm) hts hown hTY hK0 hT hP hD0 hS hA hW hΩ (wr_pf (env := k_X6_edition_4.2.1.1) (fa := k_X6_edition_4.2.1.2) ⟨⟨qx, hqx, rfl⟩, ⟨a1, rfl, hb1.1, hb1.2⟩, ⟨_, rfl, by decide, by decide⟩, trivial⟩ (en_ac ⟨qx, _, 12, fx, _, rfl, hwx, hf7, rfl⟩ en_an)) dw_edition_4 (fun x9 hx9 ce q9 u H1 locs1 hpx hP1 hD1 hS1 hcell hvm hcl => ?_) (fun u res H1 locs1 hrv hpo hP1 hD1 hS1 => ?_)
  · have hku := wr_keep hpx hqo (by decide +kernel) hwo
    have hpx9 := wr_same hpx ((56, 0) :: k_X6_edition_4.2.2.2.1) (fun z hz => List.mem_cons_of_mem _ hz)
    exact absurd hx9 List.not_mem_nil
  · obtain ⟨hpx, hpo9⟩ := hpo
    have hku := wr_keep hpx hqo (by decide +kernel) hwo
    obtain ⟨r9, rfl⟩ := hrv
    obtain ⟨o9, ho9, ρ9, hpa, hi9, hres⟩ := hpo9
    have ho9 := List.mem_singleton.mp ho9
    subst ho9
    obtain ⟨v9, e9, x9, hx9, l9, u9⟩ := hpa.2.1 2 _ rfl
    subst hx9
    have er : r9 = x9 := Value.int.inj (Option.some.inj ((hres _ rfl).symm.trans e9))
    have er9 : x9 = 111 := Int32.toInt_inj.mp (by rw [show ((111 : Int32)).toInt = 111 from rfl]; have l9 : (111 : Int) ≤ x9.toInt := l9; have u9 : x9.toInt ≤ (111 : Int) := u9; omega)
    rw [er9] at er
    obtain ⟨q9, r8, ci9, fx9, v8, c1, c2, c3, c4⟩ := hpa.2.2 (0, 0, 7, 1, 0, 0) (by decide)
    have e8 : r8 = u.1.2 qx := (Value.ref.inj (Option.some.inj (c1.symm.trans (hi9 0 (by decide))))).trans (hpx.1.at hqx).2.symm
    subst e8
    obtain ⟨e7, c5, c6⟩ := hpx.2.2 qx 0 _ hqx hwx
    have c5 : u.2[qx]? = some (u.1.2 qx, e7) := by rw [(hpx.1.at hqx).2]; exact c5
    have eq9 : q9 = qx := hD1.1 q9 qx _ _ c2 c5 rfl
    subst eq9
    have ci : ci9 = 12 := by rw [(Prod.mk.inj (Option.some.inj (c5.symm.trans c2))).2] at c6; exact c6.1
    subst ci
    have hf7u : fx9[7]? = some (.int a1) := by rw [c3, Option.some.inj (c4.symm.trans (hi9 1 (by decide)))]
    have c2u := c2
    have hqq : ¬ qo = q9 := fun e => by rw [e] at hqo; rw [hqo] at hqx; cases hqx
    refine lv_i2l hx hb dw_edition_7 rfl ?_
    refine va_last hx hb hK hP1 hD1 hS1 qo 7 hku hTt (vp_in_nI (n := 0) (by decide) (by decide)) dw_edition_8 (fun H2 locs2 hP2 hD2 hS2 => ?_)
    obtain ⟨g9, hg9⟩ : ∃ g9, g9 = vp_updL g0 (0 : Int32).toNatClampNeg r9.toInt64 := ⟨_, rfl⟩
    rw [← hg9] at hP2 hD2
    refine lv_goto (tgt := 15) hx hb dw_edition_9 (by decide) ?_
    refine lv_iconst (v := 0) hx hb dw_edition_15 (by decide) ?_
    exact W.widen (Nat.le_of_ble_eq_true rfl) (Nat.le_of_ble_eq_true rfl) (W.iret (v := 0) hx hb hr (fun t ht hW9 => ⟨⟨0, (u.1, u.2.set qo (sh.2 qo, .inl (cO, 1, .inr (.inl g9)))), rfl, ⟨⟨wr_set hpx hqo (by decide +kernel) (by decide +kernel) hwo ⟨rfl, rfl⟩, g9, wr_get hku, by rw [hg9]; unfold vp_updL; rw [if_pos (by decide), er]⟩, rfl, fx9, by rw [List.getElem?_set_ne hqq]; exact c2u, hf7u⟩, by rw [ht]; exact hP2, hD2⟩, hS2.F ht⟩) hS2.2.2 dw_edition_16)
set_option maxHeartbeats 4000000 in
set_option maxRecDepth 100000 in
theorem wr_edition_2_110 {l : Launch} (hl9 : l.stackTraces = false) {PP : Int32 → Int32 → Prop} (hPP : en_P0 PP) (Ω : Nat → en_H → va_W → Prop) (D : va_G) (tys : List (ClassId × FieldType)) (cO cD : ClassId) (sh : en_H) (w : va_W) (sz qx qo : Nat) (fx : List Value) (g0 : (Nat → Int64)) (a1 : Int32) (hb1 : 0 ≤ a1.toInt ∧ a1.toInt ≤ 109) (hTY : tys.map Prod.snd = en_TY0) (hW : en_W PP en_KT k_X6_edition_5.2.2.2.2.1 sh tys (fun _ => False) w) (hD0 : va_D (va_A w sz) w) (hΩ : en_Om en_om0 sh Ω) (hqx : sh.1[qx]? = some 0) (hwx : w[qx]? = some (sh.2 qx, .inr (12, fx))) (hqo : sh.1[qo]? = some 56) (hwo : w[qo]? = some (sh.2 qo, .inl (cO, 1, .inr (.inl g0)))) (hf7 : fx[7]? = some (.int 110)) :
    Met l yL_edition (Cond.codeWith yL_edition cL_edition 4 (some .int) [(0, 9, 12, 13)] :: en_cw) (en_rm 1 (1, 6)) (va_Pc [.ref (sh.2 qx), .int a1, .ref (sh.2 qo)] (en_B D vwCl (tys ++ [(cO, .long), (cD, .double)]) w sz)) (va_Qi (fun r u => (en_Px tys PP en_KT k_X6_edition_5.2.2.2.2.1 ((56, 0) :: k_X6_edition_5.2.2.2.1) sh w u ∧ ∃ g, u.2[qo]? = some (sh.2 qo, .inl (cO, 1, .inr (.inl g)))) ∧ r = 1) (en_Bw D vwCl (va_A w sz)) (va_A w sz)) 1 6 (va_A w sz) := by
  refine va_MetW (cc := cL_edition) (maxL := 4) (ret := some .int) (hh := [(0, 9, 12, 13)]) (by decide +kernel) rfl ?_
  intro p e s m args below meth c s₁ B hml hv
  obtain ⟨rfl, hsz, hP, hK, hT⟩ := hv
  subst hsz
  have hx := B.exec
  have hb := B.bytes
  have hr := B.returns
  have hts0 := atoms_spec (ws := Cond.codeWith yL_edition cL_edition 4 (some .int) [(0, 9, 12, 13)] :: en_cw) B.pre
  have hts : ∀ z ∈ en_cw, z.before _ s = true := fun z hz => hts0 z (List.mem_cons_of_mem _ hz)
  have hown : s.vm.findClass RL = some m.cls := findClass_of_methodNamed B.named
  have htab := vx_table (x := yL_edition) B (hts0 _ List.mem_cons_self)
  have hA : ∀ q : Nat, s.heap.size ≤ q → va_A w s.heap.size q := fun q h => Or.inr h
  have hS : va_S (va_A w s.heap.size) s.heap s.heap [] := va_S.rf
  have hK0 : va_K D vwCl tys s := hK.pre
  have hTt : (tys ++ [(cO, .long), (cD, .double)])[7]? = some (cO, .long) := wr_ty hTY
  have hl := lv_entry ([.ref (sh.2 qx), .int a1, .ref (sh.2 qo)]) (n := 4) (Nat.le_of_ble_eq_true rfl)
  rw [lg_entry_eq]
  generalize (lg_sl ([.ref (sh.2 qx), .int a1, .ref (sh.2 qo)]) ++ List.replicate (4 - (lg_sl ([.ref (sh.2 qx), .int a1, .ref (sh.2 qo)])).length) Slot.unset).toArray = ls at hl ⊢
  have hl : lv_has ls 4 [(0, .ref (sh.2 qx)), (1, .int a1), (2, .ref (sh.2 qo))] := hl
  refine lv_aload_n hx hb dw_edition_0 rfl (lv_at hl 2 rfl) ?_
  refine lv_iconst (v := 0) hx hb dw_edition_1 (by decide) ?_
  refine lv_aload_n hx hb dw_edition_2 rfl (lv_at hl 0 rfl) ?_
  refine lv_iload_n hx hb dw_edition_3 rfl (lv_at hl 1 rfl) ?_
  refine en_hcV (q0 := qx) (b := sh.2 qx) (fs := fx) (co := 12) (ρp := [.ref (sh.2 qx), .int a1, .int 110]) (As := [.int a1]) (rest := [.int 0, .ref (sh.2 qo)]) (lv' := 0) (ct_X6_edition_5 hl9 hPP Ω) gw_X6_edition rfl rfl hwx rfl rfl (Nat.le_of_ble_eq_true rfl) ⟨Nat.le_of_ble_eq_true rfl, Nat.le_of_ble_eq_true rfl⟩ ⟨Nat.le_of_ble_eq_true rfl, Nat.le_of_ble_eq_true rfl⟩ (Nat.le_of_ble_eq_true rfl) hx hb (hml.trans hl.1.symm) hts hown hTY hK0 hT hP hD0 hS hA hW hΩ (wr_pf (env := k_X6_edition_5.2.1.1) (fa := k_X6_edition_5.2.1.2) ⟨⟨qx, hqx, rfl⟩, ⟨a1, rfl, hb1.1, hb1.2⟩, ⟨_, rfl, by decide, by decide⟩, trivial⟩ (en_ac ⟨qx, _, 12, fx, _, rfl, hwx, hf7, rfl⟩ en_an)) dw_edition_4 (fun x9 hx9 ce q9 u H1 locs1 hpx hP1 hD1 hS1 hcell hvm hcl => ?_) (fun u res H1 locs1 hrv hpo hP1 hD1 hS1 => ?_)
  · have hku := wr_keep hpx hqo (by decide +kernel) hwo
    have hpx9 := wr_same hpx ((56, 0) :: k_X6_edition_5.2.2.2.1) (fun z hz => List.mem_cons_of_mem _ hz)
    have hx8 := List.mem_singleton.mp hx9
    subst hx8
    refine vx_catch (E := "java/lang/IllegalArgumentException") (name := "java/lang/IllegalArgumentException") hown [] ⟨0, 9, 12, 13⟩ [] (htab.trans rfl) wr_nil (by decide) (by decide) (hts (.classLink RL 13 "java/lang/IllegalArgumentException") cwl498) (va_Nw.use rfl (hT.1 (Cond.castable "java/lang/IllegalArgumentException" "java/lang/IllegalArgumentException") (tf_cast (53, "java/lang/IllegalArgumentException") (by decide +kernel)))) hcell hvm hcl ?_
    refine lv_astore_n (lv' := (3, .ref q9) :: [(0, .ref (sh.2 qx)), (1, .int a1), (2, .ref (sh.2 qo))]) hx hb dw_edition_12 rfl hl (by decide) rfl (fun ls hl => ?_)
    refine lv_iconst (v := 1) hx hb dw_edition_13 (by decide) ?_
    exact W.widen (Nat.le_of_ble_eq_true rfl) (Nat.le_of_ble_eq_true rfl) (W.iret (v := 1) hx hb hr (fun t ht hW9 => ⟨⟨1, u, rfl, ⟨⟨hpx9, g0, hku⟩, rfl⟩, by rw [ht]; exact hP1, hD1⟩, hS1.F ht⟩) hS1.2.2 dw_edition_14)
  · obtain ⟨hpx, hpo9⟩ := hpo
    have hku := wr_keep hpx hqo (by decide +kernel) hwo
    obtain ⟨r9, rfl⟩ := hrv
    obtain ⟨o9, ho9, -⟩ := hpo9
    exact absurd ho9 List.not_mem_nil
set_option maxHeartbeats 4000000 in
set_option maxRecDepth 100000 in
theorem wr_edition_2_111 {l : Launch} (hl9 : l.stackTraces = false) {PP : Int32 → Int32 → Prop} (hPP : en_P0 PP) (Ω : Nat → en_H → va_W → Prop) (D : va_G) (tys : List (ClassId × FieldType)) (cO cD : ClassId) (sh : en_H) (w : va_W) (sz qx qo : Nat) (fx : List Value) (g0 : (Nat → Int64)) (a1 : Int32) (hb1 : 0 ≤ a1.toInt ∧ a1.toInt ≤ 109) (hTY : tys.map Prod.snd = en_TY0) (hW : en_W PP en_KT k_X6_edition_6.2.2.2.2.1 sh tys (fun _ => False) w) (hD0 : va_D (va_A w sz) w) (hΩ : en_Om en_om0 sh Ω) (hqx : sh.1[qx]? = some 0) (hwx : w[qx]? = some (sh.2 qx, .inr (12, fx))) (hqo : sh.1[qo]? = some 56) (hwo : w[qo]? = some (sh.2 qo, .inl (cO, 1, .inr (.inl g0)))) (hf7 : fx[7]? = some (.int 111)) :
    Met l yL_edition (Cond.codeWith yL_edition cL_edition 4 (some .int) [(0, 9, 12, 13)] :: en_cw) (en_rm 1 (1, 6)) (va_Pc [.ref (sh.2 qx), .int a1, .ref (sh.2 qo)] (en_B D vwCl (tys ++ [(cO, .long), (cD, .double)]) w sz)) (va_Qi (fun r u => (en_Px tys PP en_KT k_X6_edition_6.2.2.2.2.1 ((56, 0) :: k_X6_edition_6.2.2.2.1) sh w u ∧ ∃ g, u.2[qo]? = some (sh.2 qo, .inl (cO, 1, .inr (.inl g)))) ∧ r = 1) (en_Bw D vwCl (va_A w sz)) (va_A w sz)) 1 6 (va_A w sz) := by
  refine va_MetW (cc := cL_edition) (maxL := 4) (ret := some .int) (hh := [(0, 9, 12, 13)]) (by decide +kernel) rfl ?_
  intro p e s m args below meth c s₁ B hml hv
  obtain ⟨rfl, hsz, hP, hK, hT⟩ := hv
  subst hsz
  have hx := B.exec
  have hb := B.bytes
  have hr := B.returns
  have hts0 := atoms_spec (ws := Cond.codeWith yL_edition cL_edition 4 (some .int) [(0, 9, 12, 13)] :: en_cw) B.pre
  have hts : ∀ z ∈ en_cw, z.before _ s = true := fun z hz => hts0 z (List.mem_cons_of_mem _ hz)
  have hown : s.vm.findClass RL = some m.cls := findClass_of_methodNamed B.named
  have htab := vx_table (x := yL_edition) B (hts0 _ List.mem_cons_self)
  have hA : ∀ q : Nat, s.heap.size ≤ q → va_A w s.heap.size q := fun q h => Or.inr h
  have hS : va_S (va_A w s.heap.size) s.heap s.heap [] := va_S.rf
  have hK0 : va_K D vwCl tys s := hK.pre
  have hTt : (tys ++ [(cO, .long), (cD, .double)])[7]? = some (cO, .long) := wr_ty hTY
  have hl := lv_entry ([.ref (sh.2 qx), .int a1, .ref (sh.2 qo)]) (n := 4) (Nat.le_of_ble_eq_true rfl)
  rw [lg_entry_eq]
  generalize (lg_sl ([.ref (sh.2 qx), .int a1, .ref (sh.2 qo)]) ++ List.replicate (4 - (lg_sl ([.ref (sh.2 qx), .int a1, .ref (sh.2 qo)])).length) Slot.unset).toArray = ls at hl ⊢
  have hl : lv_has ls 4 [(0, .ref (sh.2 qx)), (1, .int a1), (2, .ref (sh.2 qo))] := hl
  refine lv_aload_n hx hb dw_edition_0 rfl (lv_at hl 2 rfl) ?_
  refine lv_iconst (v := 0) hx hb dw_edition_1 (by decide) ?_
  refine lv_aload_n hx hb dw_edition_2 rfl (lv_at hl 0 rfl) ?_
  refine lv_iload_n hx hb dw_edition_3 rfl (lv_at hl 1 rfl) ?_
  refine en_hcV (q0 := qx) (b := sh.2 qx) (fs := fx) (co := 12) (ρp := [.ref (sh.2 qx), .int a1, .int 111]) (As := [.int a1]) (rest := [.int 0, .ref (sh.2 qo)]) (lv' := 0) (ct_X6_edition_6 hl9 hPP Ω) gw_X6_edition rfl rfl hwx rfl rfl (Nat.le_of_ble_eq_true rfl) ⟨Nat.le_of_ble_eq_true rfl, Nat.le_of_ble_eq_true rfl⟩ ⟨Nat.le_of_ble_eq_true rfl, Nat.le_of_ble_eq_true rfl⟩ (Nat.le_of_ble_eq_true rfl) hx hb (hml.trans hl.1.symm) hts hown hTY hK0 hT hP hD0 hS hA hW hΩ (wr_pf (env := k_X6_edition_6.2.1.1) (fa := k_X6_edition_6.2.1.2) ⟨⟨qx, hqx, rfl⟩, ⟨a1, rfl, hb1.1, hb1.2⟩, ⟨_, rfl, by decide, by decide⟩, trivial⟩ (en_ac ⟨qx, _, 12, fx, _, rfl, hwx, hf7, rfl⟩ en_an)) dw_edition_4 (fun x9 hx9 ce q9 u H1 locs1 hpx hP1 hD1 hS1 hcell hvm hcl => ?_) (fun u res H1 locs1 hrv hpo hP1 hD1 hS1 => ?_)
  · have hku := wr_keep hpx hqo (by decide +kernel) hwo
    have hpx9 := wr_same hpx ((56, 0) :: k_X6_edition_6.2.2.2.1) (fun z hz => List.mem_cons_of_mem _ hz)
    have hx8 := List.mem_singleton.mp hx9
    subst hx8
    refine vx_catch (E := "java/lang/IllegalArgumentException") (name := "java/lang/IllegalArgumentException") hown [] ⟨0, 9, 12, 13⟩ [] (htab.trans rfl) wr_nil (by decide) (by decide) (hts (.classLink RL 13 "java/lang/IllegalArgumentException") cwl498) (va_Nw.use rfl (hT.1 (Cond.castable "java/lang/IllegalArgumentException" "java/lang/IllegalArgumentException") (tf_cast (53, "java/lang/IllegalArgumentException") (by decide +kernel)))) hcell hvm hcl ?_
    refine lv_astore_n (lv' := (3, .ref q9) :: [(0, .ref (sh.2 qx)), (1, .int a1), (2, .ref (sh.2 qo))]) hx hb dw_edition_12 rfl hl (by decide) rfl (fun ls hl => ?_)
    refine lv_iconst (v := 1) hx hb dw_edition_13 (by decide) ?_
    exact W.widen (Nat.le_of_ble_eq_true rfl) (Nat.le_of_ble_eq_true rfl) (W.iret (v := 1) hx hb hr (fun t ht hW9 => ⟨⟨1, u, rfl, ⟨⟨hpx9, g0, hku⟩, rfl⟩, by rw [ht]; exact hP1, hD1⟩, hS1.F ht⟩) hS1.2.2 dw_edition_14)
  · obtain ⟨hpx, hpo9⟩ := hpo
    have hku := wr_keep hpx hqo (by decide +kernel) hwo
    obtain ⟨r9, rfl⟩ := hrv
    obtain ⟨o9, ho9, -⟩ := hpo9
    exact absurd ho9 List.not_mem_nil
set_option maxHeartbeats 4000000 in
set_option maxRecDepth 100000 in
theorem wr_edition_3_110 {l : Launch} (hl9 : l.stackTraces = false) {PP : Int32 → Int32 → Prop} (hPP : en_P0 PP) (Ω : Nat → en_H → va_W → Prop) (D : va_G) (tys : List (ClassId × FieldType)) (cO cD : ClassId) (sh : en_H) (w : va_W) (sz qx qo : Nat) (fx : List Value) (g0 : (Nat → Int64)) (a1 : Int32) (hb1 : 112 ≤ a1.toInt ∧ a1.toInt ≤ 65535) (hTY : tys.map Prod.snd = en_TY0) (hW : en_W PP en_KT k_X6_edition_7.2.2.2.2.1 sh tys (fun _ => False) w) (hD0 : va_D (va_A w sz) w) (hΩ : en_Om en_om0 sh Ω) (hqx : sh.1[qx]? = some 0) (hwx : w[qx]? = some (sh.2 qx, .inr (12, fx))) (hqo : sh.1[qo]? = some 56) (hwo : w[qo]? = some (sh.2 qo, .inl (cO, 1, .inr (.inl g0)))) (hf7 : fx[7]? = some (.int 110)) :
    Met l yL_edition (Cond.codeWith yL_edition cL_edition 4 (some .int) [(0, 9, 12, 13)] :: en_cw) (en_rm 1 (1, 6)) (va_Pc [.ref (sh.2 qx), .int a1, .ref (sh.2 qo)] (en_B D vwCl (tys ++ [(cO, .long), (cD, .double)]) w sz)) (va_Qi (fun r u => (en_Px tys PP en_KT k_X6_edition_7.2.2.2.2.1 ((56, 0) :: k_X6_edition_7.2.2.2.1) sh w u ∧ ∃ g, u.2[qo]? = some (sh.2 qo, .inl (cO, 1, .inr (.inl g)))) ∧ r = 1) (en_Bw D vwCl (va_A w sz)) (va_A w sz)) 1 6 (va_A w sz) := by
  refine va_MetW (cc := cL_edition) (maxL := 4) (ret := some .int) (hh := [(0, 9, 12, 13)]) (by decide +kernel) rfl ?_
  intro p e s m args below meth c s₁ B hml hv
  obtain ⟨rfl, hsz, hP, hK, hT⟩ := hv
  subst hsz
  have hx := B.exec
  have hb := B.bytes
  have hr := B.returns
  have hts0 := atoms_spec (ws := Cond.codeWith yL_edition cL_edition 4 (some .int) [(0, 9, 12, 13)] :: en_cw) B.pre
  have hts : ∀ z ∈ en_cw, z.before _ s = true := fun z hz => hts0 z (List.mem_cons_of_mem _ hz)
  have hown : s.vm.findClass RL = some m.cls := findClass_of_methodNamed B.named
  have htab := vx_table (x := yL_edition) B (hts0 _ List.mem_cons_self)
  have hA : ∀ q : Nat, s.heap.size ≤ q → va_A w s.heap.size q := fun q h => Or.inr h
  have hS : va_S (va_A w s.heap.size) s.heap s.heap [] := va_S.rf
  have hK0 : va_K D vwCl tys s := hK.pre
  have hTt : (tys ++ [(cO, .long), (cD, .double)])[7]? = some (cO, .long) := wr_ty hTY
  have hl := lv_entry ([.ref (sh.2 qx), .int a1, .ref (sh.2 qo)]) (n := 4) (Nat.le_of_ble_eq_true rfl)
  rw [lg_entry_eq]
  generalize (lg_sl ([.ref (sh.2 qx), .int a1, .ref (sh.2 qo)]) ++ List.replicate (4 - (lg_sl ([.ref (sh.2 qx), .int a1, .ref (sh.2 qo)])).length) Slot.unset).toArray = ls at hl ⊢
  have hl : lv_has ls 4 [(0, .ref (sh.2 qx)), (1, .int a1), (2, .ref (sh.2 qo))] := hl
  refine lv_aload_n hx hb dw_edition_0 rfl (lv_at hl 2 rfl) ?_
  refine lv_iconst (v := 0) hx hb dw_edition_1 (by decide) ?_
  refine lv_aload_n hx hb dw_edition_2 rfl (lv_at hl 0 rfl) ?_
  refine lv_iload_n hx hb dw_edition_3 rfl (lv_at hl 1 rfl) ?_
  refine en_hcV (q0 := qx) (b := sh.2 qx) (fs := fx) (co := 12) (ρp := [.ref (sh.2 qx), .int a1, .int 110]) (As := [.int a1]) (rest := [.int 0, .ref (sh.2 qo)]) (lv' := 0) (ct_X6_edition_7 hl9 hPP Ω) gw_X6_edition rfl rfl hwx rfl rfl (Nat.le_of_ble_eq_true rfl) ⟨Nat.le_of_ble_eq_true rfl, Nat.le_of_ble_eq_true rfl⟩ ⟨Nat.le_of_ble_eq_true rfl, Nat.le_of_ble_eq_true rfl⟩ (Nat.le_of_ble_eq_true rfl) hx hb (hml.trans hl.1.symm) hts hown hTY hK0 hT hP hD0 hS hA hW hΩ (wr_pf (env := k_X6_edition_7.2.1.1) (fa := k_X6_edition_7.2.1.2) ⟨⟨qx, hqx, rfl⟩, ⟨a1, rfl, hb1.1, hb1.2⟩, ⟨_, rfl, by decide, by decide⟩, trivial⟩ (en_ac ⟨qx, _, 12, fx, _, rfl, hwx, hf7, rfl⟩ en_an)) dw_edition_4 (fun x9 hx9 ce q9 u H1 locs1 hpx hP1 hD1 hS1 hcell hvm hcl => ?_) (fun u res H1 locs1 hrv hpo hP1 hD1 hS1 => ?_)
  · have hku := wr_keep hpx hqo (by decide +kernel) hwo
    have hpx9 := wr_same hpx ((56, 0) :: k_X6_edition_7.2.2.2.1) (fun z hz => List.mem_cons_of_mem _ hz)
    have hx8 := List.mem_singleton.mp hx9
    subst hx8
    refine vx_catch (E := "java/lang/IllegalArgumentException") (name := "java/lang/IllegalArgumentException") hown [] ⟨0, 9, 12, 13⟩ [] (htab.trans rfl) wr_nil (by decide) (by decide) (hts (.classLink RL 13 "java/lang/IllegalArgumentException") cwl498) (va_Nw.use rfl (hT.1 (Cond.castable "java/lang/IllegalArgumentException" "java/lang/IllegalArgumentException") (tf_cast (53, "java/lang/IllegalArgumentException") (by decide +kernel)))) hcell hvm hcl ?_
    refine lv_astore_n (lv' := (3, .ref q9) :: [(0, .ref (sh.2 qx)), (1, .int a1), (2, .ref (sh.2 qo))]) hx hb dw_edition_12 rfl hl (by decide) rfl (fun ls hl => ?_)
    refine lv_iconst (v := 1) hx hb dw_edition_13 (by decide) ?_
    exact W.widen (Nat.le_of_ble_eq_true rfl) (Nat.le_of_ble_eq_true rfl) (W.iret (v := 1) hx hb hr (fun t ht hW9 => ⟨⟨1, u, rfl, ⟨⟨hpx9, g0, hku⟩, rfl⟩, by rw [ht]; exact hP1, hD1⟩, hS1.F ht⟩) hS1.2.2 dw_edition_14)
  · obtain ⟨hpx, hpo9⟩ := hpo
    have hku := wr_keep hpx hqo (by decide +kernel) hwo
    obtain ⟨r9, rfl⟩ := hrv
    obtain ⟨o9, ho9, -⟩ := hpo9
    exact absurd ho9 List.not_mem_nil
set_option maxHeartbeats 4000000 in
set_option maxRecDepth 100000 in
theorem wr_edition_3_111 {l : Launch} (hl9 : l.stackTraces = false) {PP : Int32 → Int32 → Prop} (hPP : en_P0 PP) (Ω : Nat → en_H → va_W → Prop) (D : va_G) (tys : List (ClassId × FieldType)) (cO cD : ClassId) (sh : en_H) (w : va_W) (sz qx qo : Nat) (fx : List Value) (g0 : (Nat → Int64)) (a1 : Int32) (hb1 : 112 ≤ a1.toInt ∧ a1.toInt ≤ 65535) (hTY : tys.map Prod.snd = en_TY0) (hW : en_W PP en_KT k_X6_edition_8.2.2.2.2.1 sh tys (fun _ => False) w) (hD0 : va_D (va_A w sz) w) (hΩ : en_Om en_om0 sh Ω) (hqx : sh.1[qx]? = some 0) (hwx : w[qx]? = some (sh.2 qx, .inr (12, fx))) (hqo : sh.1[qo]? = some 56) (hwo : w[qo]? = some (sh.2 qo, .inl (cO, 1, .inr (.inl g0)))) (hf7 : fx[7]? = some (.int 111)) :
    Met l yL_edition (Cond.codeWith yL_edition cL_edition 4 (some .int) [(0, 9, 12, 13)] :: en_cw) (en_rm 1 (1, 6)) (va_Pc [.ref (sh.2 qx), .int a1, .ref (sh.2 qo)] (en_B D vwCl (tys ++ [(cO, .long), (cD, .double)]) w sz)) (va_Qi (fun r u => (en_Px tys PP en_KT k_X6_edition_8.2.2.2.2.1 ((56, 0) :: k_X6_edition_8.2.2.2.1) sh w u ∧ ∃ g, u.2[qo]? = some (sh.2 qo, .inl (cO, 1, .inr (.inl g)))) ∧ r = 1) (en_Bw D vwCl (va_A w sz)) (va_A w sz)) 1 6 (va_A w sz) := by
  refine va_MetW (cc := cL_edition) (maxL := 4) (ret := some .int) (hh := [(0, 9, 12, 13)]) (by decide +kernel) rfl ?_
  intro p e s m args below meth c s₁ B hml hv
  obtain ⟨rfl, hsz, hP, hK, hT⟩ := hv
  subst hsz
  have hx := B.exec
  have hb := B.bytes
  have hr := B.returns
  have hts0 := atoms_spec (ws := Cond.codeWith yL_edition cL_edition 4 (some .int) [(0, 9, 12, 13)] :: en_cw) B.pre
  have hts : ∀ z ∈ en_cw, z.before _ s = true := fun z hz => hts0 z (List.mem_cons_of_mem _ hz)
  have hown : s.vm.findClass RL = some m.cls := findClass_of_methodNamed B.named
  have htab := vx_table (x := yL_edition) B (hts0 _ List.mem_cons_self)
  have hA : ∀ q : Nat, s.heap.size ≤ q → va_A w s.heap.size q := fun q h => Or.inr h
  have hS : va_S (va_A w s.heap.size) s.heap s.heap [] := va_S.rf
  have hK0 : va_K D vwCl tys s := hK.pre
  have hTt : (tys ++ [(cO, .long), (cD, .double)])[7]? = some (cO, .long) := wr_ty hTY
  have hl := lv_entry ([.ref (sh.2 qx), .int a1, .ref (sh.2 qo)]) (n := 4) (Nat.le_of_ble_eq_true rfl)
  rw [lg_entry_eq]
  generalize (lg_sl ([.ref (sh.2 qx), .int a1, .ref (sh.2 qo)]) ++ List.replicate (4 - (lg_sl ([.ref (sh.2 qx), .int a1, .ref (sh.2 qo)])).length) Slot.unset).toArray = ls at hl ⊢
  have hl : lv_has ls 4 [(0, .ref (sh.2 qx)), (1, .int a1), (2, .ref (sh.2 qo))] := hl
  refine lv_aload_n hx hb dw_edition_0 rfl (lv_at hl 2 rfl) ?_
  refine lv_iconst (v := 0) hx hb dw_edition_1 (by decide) ?_
  refine lv_aload_n hx hb dw_edition_2 rfl (lv_at hl 0 rfl) ?_
  refine lv_iload_n hx hb dw_edition_3 rfl (lv_at hl 1 rfl) ?_
  refine en_hcV (q0 := qx) (b := sh.2 qx) (fs := fx) (co := 12) (ρp := [.ref (sh.2 qx), .int a1, .int 111]) (As := [.int a1]) (rest := [.int 0, .ref (sh.2 qo)]) (lv' := 0) (ct_X6_edition_8 hl9 hPP Ω) gw_X6_edition rfl rfl hwx rfl rfl (Nat.le_of_ble_eq_true rfl) ⟨Nat.le_of_ble_eq_true rfl, Nat.le_of_ble_eq_true rfl⟩ ⟨Nat.le_of_ble_eq_true rfl, Nat.le_of_ble_eq_true rfl⟩ (Nat.le_of_ble_eq_true rfl) hx hb (hml.trans hl.1.symm) hts hown hTY hK0 hT hP hD0 hS hA hW hΩ (wr_pf (env := k_X6_edition_8.2.1.1) (fa := k_X6_edition_8.2.1.2) ⟨⟨qx, hqx, rfl⟩, ⟨a1, rfl, hb1.1, hb1.2⟩, ⟨_, rfl, by decide, by decide⟩, trivial⟩ (en_ac ⟨qx, _, 12, fx, _, rfl, hwx, hf7, rfl⟩ en_an)) dw_edition_4 (fun x9 hx9 ce q9 u H1 locs1 hpx hP1 hD1 hS1 hcell hvm hcl => ?_) (fun u res H1 locs1 hrv hpo hP1 hD1 hS1 => ?_)
  · have hku := wr_keep hpx hqo (by decide +kernel) hwo
    have hpx9 := wr_same hpx ((56, 0) :: k_X6_edition_8.2.2.2.1) (fun z hz => List.mem_cons_of_mem _ hz)
    have hx8 := List.mem_singleton.mp hx9
    subst hx8
    refine vx_catch (E := "java/lang/IllegalArgumentException") (name := "java/lang/IllegalArgumentException") hown [] ⟨0, 9, 12, 13⟩ [] (htab.trans rfl) wr_nil (by decide) (by decide) (hts (.classLink RL 13 "java/lang/IllegalArgumentException") cwl498) (va_Nw.use rfl (hT.1 (Cond.castable "java/lang/IllegalArgumentException" "java/lang/IllegalArgumentException") (tf_cast (53, "java/lang/IllegalArgumentException") (by decide +kernel)))) hcell hvm hcl ?_
    refine lv_astore_n (lv' := (3, .ref q9) :: [(0, .ref (sh.2 qx)), (1, .int a1), (2, .ref (sh.2 qo))]) hx hb dw_edition_12 rfl hl (by decide) rfl (fun ls hl => ?_)
    refine lv_iconst (v := 1) hx hb dw_edition_13 (by decide) ?_
    exact W.widen (Nat.le_of_ble_eq_true rfl) (Nat.le_of_ble_eq_true rfl) (W.iret (v := 1) hx hb hr (fun t ht hW9 => ⟨⟨1, u, rfl, ⟨⟨hpx9, g0, hku⟩, rfl⟩, by rw [ht]; exact hP1, hD1⟩, hS1.F ht⟩) hS1.2.2 dw_edition_14)
  · obtain ⟨hpx, hpo9⟩ := hpo
    have hku := wr_keep hpx hqo (by decide +kernel) hwo
    obtain ⟨r9, rfl⟩ := hrv
    obtain ⟨o9, ho9, -⟩ := hpo9
    exact absurd ho9 List.not_mem_nil
