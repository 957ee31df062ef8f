set_option maxHeartbeats 4000000 in
set_option maxRecDepth 100000 in
theorem wr_conditions_0_m1 {l : Launch} (hl9 : l.stackTraces = false) {PP : Int32 → Int32 → Prop} (hPP : en_P0 PP) (Ω : Nat → en_H → va_W → Prop) (D : va_G) (tys : List (ClassId × FieldType)) (cO cD : ClassId) (sh : en_H) (w : va_W) (sz qx qo : Nat) (fx : List Value) (g0 : (Nat → Int64)) (a1 : Int32) (hb1 : -1 ≤ a1.toInt ∧ a1.toInt ≤ -1) (hTY : tys.map Prod.snd = en_TY0) (hW : en_W PP en_KT k_X6_conditions_1.2.2.2.2.1 sh tys (fun _ => False) w) (hD0 : va_D (va_A w sz) w) (hΩ : en_Om en_om0 sh Ω) (hqx : sh.1[qx]? = some 0) (hwx : w[qx]? = some (sh.2 qx, .inr (12, fx))) (hqo : sh.1[qo]? = some 56) (hwo : w[qo]? = some (sh.2 qo, .inl (cO, 1, .inr (.inl g0)))) (hf7 : fx[8]? = some (.int (-1))) :
    Met l yL_conditions (Cond.codeWith yL_conditions cL_conditions 4 (some .int) [(0, 9, 12, 13)] :: en_cw) (en_rm 1 (0, 0)) (va_Pc [.ref (sh.2 qx), .int a1, .ref (sh.2 qo)] (en_B D vwCl (tys ++ [(cO, .long), (cD, .double)]) w sz)) (va_Qi (fun r u => (en_Px tys PP en_KT k_X6_conditions_1.2.2.2.2.1 ((56, 0) :: k_X6_conditions_1.2.2.2.1) sh w u ∧ ∃ g, u.2[qo]? = some (sh.2 qo, .inl (cO, 1, .inr (.inl g))) ∧ g 0 = ((-1) : Int32).toInt64) ∧ r = 0 ∧ ∃ fx', u.2[qx]? = some (u.1.2 qx, .inr (12, fx')) ∧ fx'[8]? = some (.int a1)) (en_Bw D vwCl (va_A w sz)) (va_A w sz)) 0 0 (va_A w sz) := by
  refine va_MetW (cc := cL_conditions) (maxL := 4) (ret := some .int) (hh := [(0, 9, 12, 13)]) (by decide +kernel) rfl ?_
  intro p e s m args below meth c s₁ B hml hv
  obtain ⟨rfl, hsz, hP, hK, hT⟩ := hv
  subst hsz
  have hx := B.exec
  have hb := B.bytes
  have hr := B.returns
  have hts0 := atoms_spec (ws := Cond.codeWith yL_conditions cL_conditions 4 (some .int) [(0, 9, 12, 13)] :: en_cw) B.pre
  have hts : ∀ z ∈ en_cw, z.before _ s = true := fun z hz => hts0 z (List.mem_cons_of_mem _ hz)
  have hown : s.vm.findClass RL = some m.cls := findClass_of_methodNamed B.named
  have htab := vx_table (x := yL_conditions) B (hts0 _ List.mem_cons_self)
  have hA : ∀ q : Nat, s.heap.size ≤ q → va_A w s.heap.size q := fun q h => Or.inr h
  have hS : va_S (va_A w s.heap.size) s.heap s.heap [] := va_S.rf
  have hK0 : va_K D vwCl tys s := hK.pre
  have hTt : (tys ++ [(cO, .long), (cD, .double)])[7]? = some (cO, .long) := wr_ty hTY
  have hl := lv_entry ([.ref (sh.2 qx), .int a1, .ref (sh.2 qo)]) (n := 4) (Nat.le_of_ble_eq_true rfl)
  rw [lg_entry_eq]
  generalize (lg_sl ([.ref (sh.2 qx), .int a1, .ref (sh.2 qo)]) ++ List.replicate (4 - (lg_sl ([.ref (sh.2 qx), .int a1, .ref (sh.2 qo)])).length) Slot.unset).toArray = ls at hl ⊢
  have hl : lv_has ls 4 [(0, .ref (sh.2 qx)), (1, .int a1), (2, .ref (sh.2 qo))] := hl
  refine lv_aload_n hx hb dw_conditions_0 rfl (lv_at hl 2 rfl) ?_
  refine lv_iconst (v := 0) hx hb dw_conditions_1 (by decide) ?_
  refine lv_aload_n hx hb dw_conditions_2 rfl (lv_at hl 0 rfl) ?_
  refine lv_iload_n hx hb dw_conditions_3 rfl (lv_at hl 1 rfl) ?_
  refine en_hcV (q0 := qx) (b := sh.2 qx) (fs := fx) (co := 12) (ρp := [.ref (sh.2 qx), .int a1, .int (-1)]) (As := [.int a1]) (rest := [.int 0, .ref (sh.2 qo)]) (lv' := 0) (ct_X6_conditions_1 hl9 hPP Ω) gw_X6_conditions rfl rfl hwx rfl rfl (Nat.le_of_ble_eq_true rfl) ⟨Nat.le_of_ble_eq_true rfl, Nat.le_of_ble_eq_true rfl⟩ ⟨Nat.le_of_ble_eq_true rfl, Nat.le_of_ble_eq_true rfl⟩ (Nat.le_of_ble_eq_true rfl) hx hb (hml.trans hl.1.symm) hts hown hTY hK0 hT hP hD0 hS hA hW hΩ (wr_pf (env := k_X6_conditions_1.2.1.1) (fa := k_X6_conditions_1.2.1.2) ⟨⟨qx, hqx, rfl⟩, ⟨a1, rfl, hb1.1, hb1.2⟩, ⟨_, rfl, by decide, by decide⟩, trivial⟩ (en_ac ⟨qx, _, 12, fx, _, rfl, hwx, hf7, rfl⟩ en_an)) dw_conditions_4 (fun x9 hx9 ce q9 u H1 locs1 hpx hP1 hD1 hS1 hcell hvm hcl => ?_) (fun u res H1 locs1 hrv hpo hP1 hD1 hS1 => ?_)
  · have hku := wr_keep hpx hqo (by decide +kernel) hwo
    have hpx9 := wr_same hpx ((56, 0) :: k_X6_conditions_1.2.2.2.1) (fun z hz => List.mem_cons_of_mem _ hz)
    exact absurd hx9 List.not_mem_nil
  · obtain ⟨hpx, hpo9⟩ := hpo
    have hku := wr_keep hpx hqo (by decide +kernel) hwo
    obtain ⟨r9, rfl⟩ := hrv
    obtain ⟨o9, ho9, ρ9, hpa, hi9, hres⟩ := hpo9
    have ho9 := List.mem_singleton.mp ho9
    subst ho9
    obtain ⟨v9, e9, x9, hx9, l9, u9⟩ := hpa.2.1 2 _ rfl
    subst hx9
    have er : r9 = x9 := Value.int.inj (Option.some.inj ((hres _ rfl).symm.trans e9))
    have er9 : x9 = (-1) := Int32.toInt_inj.mp (by rw [show (((-1) : Int32)).toInt = (-1) from rfl]; have l9 : ((-1) : Int) ≤ x9.toInt := l9; have u9 : x9.toInt ≤ ((-1) : Int) := u9; omega)
    rw [er9] at er
    obtain ⟨q9, r8, ci9, fx9, v8, c1, c2, c3, c4⟩ := hpa.2.2 (0, 0, 8, 1, 0, 0) (by decide)
    have e8 : r8 = u.1.2 qx := (Value.ref.inj (Option.some.inj (c1.symm.trans (hi9 0 (by decide))))).trans (hpx.1.at hqx).2.symm
    subst e8
    obtain ⟨e7, c5, c6⟩ := hpx.2.2 qx 0 _ hqx hwx
    have c5 : u.2[qx]? = some (u.1.2 qx, e7) := by rw [(hpx.1.at hqx).2]; exact c5
    have eq9 : q9 = qx := hD1.1 q9 qx _ _ c2 c5 rfl
    subst eq9
    have ci : ci9 = 12 := by rw [(Prod.mk.inj (Option.some.inj (c5.symm.trans c2))).2] at c6; exact c6.1
    subst ci
    have hf7u : fx9[8]? = some (.int a1) := by rw [c3, Option.some.inj (c4.symm.trans (hi9 1 (by decide)))]
    have c2u := c2
    have hqq : ¬ qo = q9 := fun e => by rw [e] at hqo; rw [hqo] at hqx; cases hqx
    refine lv_i2l hx hb dw_conditions_7 rfl ?_
    refine va_last hx hb hK hP1 hD1 hS1 qo 7 hku hTt (vp_in_nI (n := 0) (by decide) (by decide)) dw_conditions_8 (fun H2 locs2 hP2 hD2 hS2 => ?_)
    obtain ⟨g9, hg9⟩ : ∃ g9, g9 = vp_updL g0 (0 : Int32).toNatClampNeg r9.toInt64 := ⟨_, rfl⟩
    rw [← hg9] at hP2 hD2
    refine lv_goto (tgt := 15) hx hb dw_conditions_9 (by decide) ?_
    refine lv_iconst (v := 0) hx hb dw_conditions_15 (by decide) ?_
    exact W.widen (Nat.le_of_ble_eq_true rfl) (Nat.le_of_ble_eq_true rfl) (W.iret (v := 0) hx hb hr (fun t ht hW9 => ⟨⟨0, (u.1, u.2.set qo (sh.2 qo, .inl (cO, 1, .inr (.inl g9)))), rfl, ⟨⟨wr_set hpx hqo (by decide +kernel) (by decide +kernel) hwo ⟨rfl, rfl⟩, g9, wr_get hku, by rw [hg9]; unfold vp_updL; rw [if_pos (by decide), er]⟩, rfl, fx9, by rw [List.getElem?_set_ne hqq]; exact c2u, hf7u⟩, by rw [ht]; exact hP2, hD2⟩, hS2.F ht⟩) hS2.2.2 dw_conditions_16)
set_option maxHeartbeats 4000000 in
set_option maxRecDepth 100000 in
theorem wr_conditions_0_0 {l : Launch} (hl9 : l.stackTraces = false) {PP : Int32 → Int32 → Prop} (hPP : en_P0 PP) (Ω : Nat → en_H → va_W → Prop) (D : va_G) (tys : List (ClassId × FieldType)) (cO cD : ClassId) (sh : en_H) (w : va_W) (sz qx qo : Nat) (fx : List Value) (g0 : (Nat → Int64)) (a1 : Int32) (hb1 : -1 ≤ a1.toInt ∧ a1.toInt ≤ -1) (hTY : tys.map Prod.snd = en_TY0) (hW : en_W PP en_KT k_X6_conditions_2.2.2.2.2.1 sh tys (fun _ => False) w) (hD0 : va_D (va_A w sz) w) (hΩ : en_Om en_om0 sh Ω) (hqx : sh.1[qx]? = some 0) (hwx : w[qx]? = some (sh.2 qx, .inr (12, fx))) (hqo : sh.1[qo]? = some 56) (hwo : w[qo]? = some (sh.2 qo, .inl (cO, 1, .inr (.inl g0)))) (hf7 : fx[8]? = some (.int 0)) :
    Met l yL_conditions (Cond.codeWith yL_conditions cL_conditions 4 (some .int) [(0, 9, 12, 13)] :: en_cw) (en_rm 1 (0, 0)) (va_Pc [.ref (sh.2 qx), .int a1, .ref (sh.2 qo)] (en_B D vwCl (tys ++ [(cO, .long), (cD, .double)]) w sz)) (va_Qi (fun r u => (en_Px tys PP en_KT k_X6_conditions_2.2.2.2.2.1 ((56, 0) :: k_X6_conditions_2.2.2.2.1) sh w u ∧ ∃ g, u.2[qo]? = some (sh.2 qo, .inl (cO, 1, .inr (.inl g))) ∧ g 0 = (0 : Int32).toInt64) ∧ r = 0 ∧ ∃ fx', u.2[qx]? = some (u.1.2 qx, .inr (12, fx')) ∧ fx'[8]? = some (.int a1)) (en_Bw D vwCl (va_A w sz)) (va_A w sz)) 0 0 (va_A w sz) := by
  refine va_MetW (cc := cL_conditions) (maxL := 4) (ret := some .int) (hh := [(0, 9, 12, 13)]) (by decide +kernel) rfl ?_
  intro p e s m args below meth c s₁ B hml hv
  obtain ⟨rfl, hsz, hP, hK, hT⟩ := hv
  subst hsz
  have hx := B.exec
  have hb := B.bytes
  have hr := B.returns
  have hts0 := atoms_spec (ws := Cond.codeWith yL_conditions cL_conditions 4 (some .int) [(0, 9, 12, 13)] :: en_cw) B.pre
  have hts : ∀ z ∈ en_cw, z.before _ s = true := fun z hz => hts0 z (List.mem_cons_of_mem _ hz)
  have hown : s.vm.findClass RL = some m.cls := findClass_of_methodNamed B.named
  have htab := vx_table (x := yL_conditions) B (hts0 _ List.mem_cons_self)
  have hA : ∀ q : Nat, s.heap.size ≤ q → va_A w s.heap.size q := fun q h => Or.inr h
  have hS : va_S (va_A w s.heap.size) s.heap s.heap [] := va_S.rf
  have hK0 : va_K D vwCl tys s := hK.pre
  have hTt : (tys ++ [(cO, .long), (cD, .double)])[7]? = some (cO, .long) := wr_ty hTY
  have hl := lv_entry ([.ref (sh.2 qx), .int a1, .ref (sh.2 qo)]) (n := 4) (Nat.le_of_ble_eq_true rfl)
  rw [lg_entry_eq]
  generalize (lg_sl ([.ref (sh.2 qx), .int a1, .ref (sh.2 qo)]) ++ List.replicate (4 - (lg_sl ([.ref (sh.2 qx), .int a1, .ref (sh.2 qo)])).length) Slot.unset).toArray = ls at hl ⊢
  have hl : lv_has ls 4 [(0, .ref (sh.2 qx)), (1, .int a1), (2, .ref (sh.2 qo))] := hl
  refine lv_aload_n hx hb dw_conditions_0 rfl (lv_at hl 2 rfl) ?_
  refine lv_iconst (v := 0) hx hb dw_conditions_1 (by decide) ?_
  refine lv_aload_n hx hb dw_conditions_2 rfl (lv_at hl 0 rfl) ?_
  refine lv_iload_n hx hb dw_conditions_3 rfl (lv_at hl 1 rfl) ?_
  refine en_hcV (q0 := qx) (b := sh.2 qx) (fs := fx) (co := 12) (ρp := [.ref (sh.2 qx), .int a1, .int 0]) (As := [.int a1]) (rest := [.int 0, .ref (sh.2 qo)]) (lv' := 0) (ct_X6_conditions_2 hl9 hPP Ω) gw_X6_conditions rfl rfl hwx rfl rfl (Nat.le_of_ble_eq_true rfl) ⟨Nat.le_of_ble_eq_true rfl, Nat.le_of_ble_eq_true rfl⟩ ⟨Nat.le_of_ble_eq_true rfl, Nat.le_of_ble_eq_true rfl⟩ (Nat.le_of_ble_eq_true rfl) hx hb (hml.trans hl.1.symm) hts hown hTY hK0 hT hP hD0 hS hA hW hΩ (wr_pf (env := k_X6_conditions_2.2.1.1) (fa := k_X6_conditions_2.2.1.2) ⟨⟨qx, hqx, rfl⟩, ⟨a1, rfl, hb1.1, hb1.2⟩, ⟨_, rfl, by decide, by decide⟩, trivial⟩ (en_ac ⟨qx, _, 12, fx, _, rfl, hwx, hf7, rfl⟩ en_an)) dw_conditions_4 (fun x9 hx9 ce q9 u H1 locs1 hpx hP1 hD1 hS1 hcell hvm hcl => ?_) (fun u res H1 locs1 hrv hpo hP1 hD1 hS1 => ?_)
  · have hku := wr_keep hpx hqo (by decide +kernel) hwo
    have hpx9 := wr_same hpx ((56, 0) :: k_X6_conditions_2.2.2.2.1) (fun z hz => List.mem_cons_of_mem _ hz)
    exact absurd hx9 List.not_mem_nil
  · obtain ⟨hpx, hpo9⟩ := hpo
    have hku := wr_keep hpx hqo (by decide +kernel) hwo
    obtain ⟨r9, rfl⟩ := hrv
    obtain ⟨o9, ho9, ρ9, hpa, hi9, hres⟩ := hpo9
    have ho9 := List.mem_singleton.mp ho9
    subst ho9
    obtain ⟨v9, e9, x9, hx9, l9, u9⟩ := hpa.2.1 2 _ rfl
    subst hx9
    have er : r9 = x9 := Value.int.inj (Option.some.inj ((hres _ rfl).symm.trans e9))
    have er9 : x9 = 0 := Int32.toInt_inj.mp (by rw [show ((0 : Int32)).toInt = 0 from rfl]; have l9 : (0 : Int) ≤ x9.toInt := l9; have u9 : x9.toInt ≤ (0 : Int) := u9; omega)
    rw [er9] at er
    obtain ⟨q9, r8, ci9, fx9, v8, c1, c2, c3, c4⟩ := hpa.2.2 (0, 0, 8, 1, 0, 0) (by decide)
    have e8 : r8 = u.1.2 qx := (Value.ref.inj (Option.some.inj (c1.symm.trans (hi9 0 (by decide))))).trans (hpx.1.at hqx).2.symm
    subst e8
    obtain ⟨e7, c5, c6⟩ := hpx.2.2 qx 0 _ hqx hwx
    have c5 : u.2[qx]? = some (u.1.2 qx, e7) := by rw [(hpx.1.at hqx).2]; exact c5
    have eq9 : q9 = qx := hD1.1 q9 qx _ _ c2 c5 rfl
    subst eq9
    have ci : ci9 = 12 := by rw [(Prod.mk.inj (Option.some.inj (c5.symm.trans c2))).2] at c6; exact c6.1
    subst ci
    have hf7u : fx9[8]? = some (.int a1) := by rw [c3, Option.some.inj (c4.symm.trans (hi9 1 (by decide)))]
    have c2u := c2
    have hqq : ¬ qo = q9 := fun e => by rw [e] at hqo; rw [hqo] at hqx; cases hqx
    refine lv_i2l hx hb dw_conditions_7 rfl ?_
    refine va_last hx hb hK hP1 hD1 hS1 qo 7 hku hTt (vp_in_nI (n := 0) (by decide) (by decide)) dw_conditions_8 (fun H2 locs2 hP2 hD2 hS2 => ?_)
    obtain ⟨g9, hg9⟩ : ∃ g9, g9 = vp_updL g0 (0 : Int32).toNatClampNeg r9.toInt64 := ⟨_, rfl⟩
    rw [← hg9] at hP2 hD2
    refine lv_goto (tgt := 15) hx hb dw_conditions_9 (by decide) ?_
    refine lv_iconst (v := 0) hx hb dw_conditions_15 (by decide) ?_
    exact W.widen (Nat.le_of_ble_eq_true rfl) (Nat.le_of_ble_eq_true rfl) (W.iret (v := 0) hx hb hr (fun t ht hW9 => ⟨⟨0, (u.1, u.2.set qo (sh.2 qo, .inl (cO, 1, .inr (.inl g9)))), rfl, ⟨⟨wr_set hpx hqo (by decide +kernel) (by decide +kernel) hwo ⟨rfl, rfl⟩, g9, wr_get hku, by rw [hg9]; unfold vp_updL; rw [if_pos (by decide), er]⟩, rfl, fx9, by rw [List.getElem?_set_ne hqq]; exact c2u, hf7u⟩, by rw [ht]; exact hP2, hD2⟩, hS2.F ht⟩) hS2.2.2 dw_conditions_16)
set_option maxHeartbeats 4000000 in
set_option maxRecDepth 100000 in
theorem wr_conditions_0_1 {l : Launch} (hl9 : l.stackTraces = false) {PP : Int32 → Int32 → Prop} (hPP : en_P0 PP) (Ω : Nat → en_H → va_W → Prop) (D : va_G) (tys : List (ClassId × FieldType)) (cO cD : ClassId) (sh : en_H) (w : va_W) (sz qx qo : Nat) (fx : List Value) (g0 : (Nat → Int64)) (a1 : Int32) (hb1 : -1 ≤ a1.toInt ∧ a1.toInt ≤ -1) (hTY : tys.map Prod.snd = en_TY0) (hW : en_W PP en_KT k_X6_conditions_3.2.2.2.2.1 sh tys (fun _ => False) w) (hD0 : va_D (va_A w sz) w) (hΩ : en_Om en_om0 sh Ω) (hqx : sh.1[qx]? = some 0) (hwx : w[qx]? = some (sh.2 qx, .inr (12, fx))) (hqo : sh.1[qo]? = some 56) (hwo : w[qo]? = some (sh.2 qo, .inl (cO, 1, .inr (.inl g0)))) (hf7 : fx[8]? = some (.int 1)) :
    Met l yL_conditions (Cond.codeWith yL_conditions cL_conditions 4 (some .int) [(0, 9, 12, 13)] :: en_cw) (en_rm 1 (0, 0)) (va_Pc [.ref (sh.2 qx), .int a1, .ref (sh.2 qo)] (en_B D vwCl (tys ++ [(cO, .long), (cD, .double)]) w sz)) (va_Qi (fun r u => (en_Px tys PP en_KT k_X6_conditions_3.2.2.2.2.1 ((56, 0) :: k_X6_conditions_3.2.2.2.1) sh w u ∧ ∃ g, u.2[qo]? = some (sh.2 qo, .inl (cO, 1, .inr (.inl g))) ∧ g 0 = (1 : Int32).toInt64) ∧ r = 0 ∧ ∃ fx', u.2[qx]? = some (u.1.2 qx, .inr (12, fx')) ∧ fx'[8]? = some (.int a1)) (en_Bw D vwCl (va_A w sz)) (va_A w sz)) 0 0 (va_A w sz) := by
  refine va_MetW (cc := cL_conditions) (maxL := 4) (ret := some .int) (hh := [(0, 9, 12, 13)]) (by decide +kernel) rfl ?_
  intro p e s m args below meth c s₁ B hml hv
  obtain ⟨rfl, hsz, hP, hK, hT⟩ := hv
  subst hsz
  have hx := B.exec
  have hb := B.bytes
  have hr := B.returns
  have hts0 := atoms_spec (ws := Cond.codeWith yL_conditions cL_conditions 4 (some .int) [(0, 9, 12, 13)] :: en_cw) B.pre
  have hts : ∀ z ∈ en_cw, z.before _ s = true := fun z hz => hts0 z (List.mem_cons_of_mem _ hz)
  have hown : s.vm.findClass RL = some m.cls := findClass_of_methodNamed B.named
  have htab := vx_table (x := yL_conditions) B (hts0 _ List.mem_cons_self)
  have hA : ∀ q : Nat, s.heap.size ≤ q → va_A w s.heap.size q := fun q h => Or.inr h
  have hS : va_S (va_A w s.heap.size) s.heap s.heap [] := va_S.rf
  have hK0 : va_K D vwCl tys s := hK.pre
  have hTt : (tys ++ [(cO, .long), (cD, .double)])[7]? = some (cO, .long) := wr_ty hTY
  have hl := lv_entry ([.ref (sh.2 qx), .int a1, .ref (sh.2 qo)]) (n := 4) (Nat.le_of_ble_eq_true rfl)
  rw [lg_entry_eq]
  generalize (lg_sl ([.ref (sh.2 qx), .int a1, .ref (sh.2 qo)]) ++ List.replicate (4 - (lg_sl ([.ref (sh.2 qx), .int a1, .ref (sh.2 qo)])).length) Slot.unset).toArray = ls at hl ⊢
  have hl : lv_has ls 4 [(0, .ref (sh.2 qx)), (1, .int a1), (2, .ref (sh.2 qo))] := hl
  refine lv_aload_n hx hb dw_conditions_0 rfl (lv_at hl 2 rfl) ?_
  refine lv_iconst (v := 0) hx hb dw_conditions_1 (by decide) ?_
  refine lv_aload_n hx hb dw_conditions_2 rfl (lv_at hl 0 rfl) ?_
  refine lv_iload_n hx hb dw_conditions_3 rfl (lv_at hl 1 rfl) ?_
  refine en_hcV (q0 := qx) (b := sh.2 qx) (fs := fx) (co := 12) (ρp := [.ref (sh.2 qx), .int a1, .int 1]) (As := [.int a1]) (rest := [.int 0, .ref (sh.2 qo)]) (lv' := 0) (ct_X6_conditions_3 hl9 hPP Ω) gw_X6_conditions rfl rfl hwx rfl rfl (Nat.le_of_ble_eq_true rfl) ⟨Nat.le_of_ble_eq_true rfl, Nat.le_of_ble_eq_true rfl⟩ ⟨Nat.le_of_ble_eq_true rfl, Nat.le_of_ble_eq_true rfl⟩ (Nat.le_of_ble_eq_true rfl) hx hb (hml.trans hl.1.symm) hts hown hTY hK0 hT hP hD0 hS hA hW hΩ (wr_pf (env := k_X6_conditions_3.2.1.1) (fa := k_X6_conditions_3.2.1.2) ⟨⟨qx, hqx, rfl⟩, ⟨a1, rfl, hb1.1, hb1.2⟩, ⟨_, rfl, by decide, by decide⟩, trivial⟩ (en_ac ⟨qx, _, 12, fx, _, rfl, hwx, hf7, rfl⟩ en_an)) dw_conditions_4 (fun x9 hx9 ce q9 u H1 locs1 hpx hP1 hD1 hS1 hcell hvm hcl => ?_) (fun u res H1 locs1 hrv hpo hP1 hD1 hS1 => ?_)
  · have hku := wr_keep hpx hqo (by decide +kernel) hwo
    have hpx9 := wr_same hpx ((56, 0) :: k_X6_conditions_3.2.2.2.1) (fun z hz => List.mem_cons_of_mem _ hz)
    exact absurd hx9 List.not_mem_nil
  · obtain ⟨hpx, hpo9⟩ := hpo
    have hku := wr_keep hpx hqo (by decide +kernel) hwo
    obtain ⟨r9, rfl⟩ := hrv
    obtain ⟨o9, ho9, ρ9, hpa, hi9, hres⟩ := hpo9
    have ho9 := List.mem_singleton.mp ho9
    subst ho9
    obtain ⟨v9, e9, x9, hx9, l9, u9⟩ := hpa.2.1 2 _ rfl
    subst hx9
    have er : r9 = x9 := Value.int.inj (Option.some.inj ((hres _ rfl).symm.trans e9))
    have er9 : x9 = 1 := Int32.toInt_inj.mp (by rw [show ((1 : Int32)).toInt = 1 from rfl]; have l9 : (1 : Int) ≤ x9.toInt := l9; have u9 : x9.toInt ≤ (1 : Int) := u9; omega)
    rw [er9] at er
    obtain ⟨q9, r8, ci9, fx9, v8, c1, c2, c3, c4⟩ := hpa.2.2 (0, 0, 8, 1, 0, 0) (by decide)
    have e8 : r8 = u.1.2 qx := (Value.ref.inj (Option.some.inj (c1.symm.trans (hi9 0 (by decide))))).trans (hpx.1.at hqx).2.symm
    subst e8
    obtain ⟨e7, c5, c6⟩ := hpx.2.2 qx 0 _ hqx hwx
    have c5 : u.2[qx]? = some (u.1.2 qx, e7) := by rw [(hpx.1.at hqx).2]; exact c5
    have eq9 : q9 = qx := hD1.1 q9 qx _ _ c2 c5 rfl
    subst eq9
    have ci : ci9 = 12 := by rw [(Prod.mk.inj (Option.some.inj (c5.symm.trans c2))).2] at c6; exact c6.1
    subst ci
    have hf7u : fx9[8]? = some (.int a1) := by rw [c3, Option.some.inj (c4.symm.trans (hi9 1 (by decide)))]
    have c2u := c2
    have hqq : ¬ qo = q9 := fun e => by rw [e] at hqo; rw [hqo] at hqx; cases hqx
    refine lv_i2l hx hb dw_conditions_7 rfl ?_
    refine va_last hx hb hK hP1 hD1 hS1 qo 7 hku hTt (vp_in_nI (n := 0) (by decide) (by decide)) dw_conditions_8 (fun H2 locs2 hP2 hD2 hS2 => ?_)
    obtain ⟨g9, hg9⟩ : ∃ g9, g9 = vp_updL g0 (0 : Int32).toNatClampNeg r9.toInt64 := ⟨_, rfl⟩
    rw [← hg9] at hP2 hD2
    refine lv_goto (tgt := 15) hx hb dw_conditions_9 (by decide) ?_
    refine lv_iconst (v := 0) hx hb dw_conditions_15 (by decide) ?_
    exact W.widen (Nat.le_of_ble_eq_true rfl) (Nat.le_of_ble_eq_true rfl) (W.iret (v := 0) hx hb hr (fun t ht hW9 => ⟨⟨0, (u.1, u.2.set qo (sh.2 qo, .inl (cO, 1, .inr (.inl g9)))), rfl, ⟨⟨wr_set hpx hqo (by decide +kernel) (by decide +kernel) hwo ⟨rfl, rfl⟩, g9, wr_get hku, by rw [hg9]; unfold vp_updL; rw [if_pos (by decide), er]⟩, rfl, fx9, by rw [List.getElem?_set_ne hqq]; exact c2u, hf7u⟩, by rw [ht]; exact hP2, hD2⟩, hS2.F ht⟩) hS2.2.2 dw_conditions_16)
set_option maxHeartbeats 4000000 in
set_option maxRecDepth 100000 in
theorem wr_conditions_0_2 {l : Launch} (hl9 : l.stackTraces = false) {PP : Int32 → Int32 → Prop} (hPP : en_P0 PP) (Ω : Nat → en_H → va_W → Prop) (D : va_G) (tys : List (ClassId × FieldType)) (cO cD : ClassId) (sh : en_H) (w : va_W) (sz qx qo : Nat) (fx : List Value) (g0 : (Nat → Int64)) (a1 : Int32) (hb1 : -1 ≤ a1.toInt ∧ a1.toInt ≤ -1) (hTY : tys.map Prod.snd = en_TY0) (hW : en_W PP en_KT k_X6_conditions_4.2.2.2.2.1 sh tys (fun _ => False) w) (hD0 : va_D (va_A w sz) w) (hΩ : en_Om en_om0 sh Ω) (hqx : sh.1[qx]? = some 0) (hwx : w[qx]? = some (sh.2 qx, .inr (12, fx))) (hqo : sh.1[qo]? = some 56) (hwo : w[qo]? = some (sh.2 qo, .inl (cO, 1, .inr (.inl g0)))) (hf7 : fx[8]? = some (.int 2)) :
    Met l yL_conditions (Cond.codeWith yL_conditions cL_conditions 4 (some .int) [(0, 9, 12, 13)] :: en_cw) (en_rm 1 (0, 0)) (va_Pc [.ref (sh.2 qx), .int a1, .ref (sh.2 qo)] (en_B D vwCl (tys ++ [(cO, .long), (cD, .double)]) w sz)) (va_Qi (fun r u => (en_Px tys PP en_KT k_X6_conditions_4.2.2.2.2.1 ((56, 0) :: k_X6_conditions_4.2.2.2.1) sh w u ∧ ∃ g, u.2[qo]? = some (sh.2 qo, .inl (cO, 1, .inr (.inl g))) ∧ g 0 = (2 : Int32).toInt64) ∧ r = 0 ∧ ∃ fx', u.2[qx]? = some (u.1.2 qx, .inr (12, fx')) ∧ fx'[8]? = some (.int a1)) (en_Bw D vwCl (va_A w sz)) (va_A w sz)) 0 0 (va_A w sz) := by
  refine va_MetW (cc := cL_conditions) (maxL := 4) (ret := some .int) (hh := [(0, 9, 12, 13)]) (by decide +kernel) rfl ?_
  intro p e s m args below meth c s₁ B hml hv
  obtain ⟨rfl, hsz, hP, hK, hT⟩ := hv
  subst hsz
  have hx := B.exec
  have hb := B.bytes
  have hr := B.returns
  have hts0 := atoms_spec (ws := Cond.codeWith yL_conditions cL_conditions 4 (some .int) [(0, 9, 12, 13)] :: en_cw) B.pre
  have hts : ∀ z ∈ en_cw, z.before _ s = true := fun z hz => hts0 z (List.mem_cons_of_mem _ hz)
  have hown : s.vm.findClass RL = some m.cls := findClass_of_methodNamed B.named
  have htab := vx_table (x := yL_conditions) B (hts0 _ List.mem_cons_self)
  have hA : ∀ q : Nat, s.heap.size ≤ q → va_A w s.heap.size q := fun q h => Or.inr h
  have hS : va_S (va_A w s.heap.size) s.heap s.heap [] := va_S.rf
  have hK0 : va_K D vwCl tys s := hK.pre
  have hTt : (tys ++ [(cO, .long), (cD, .double)])[7]? = some (cO, .long) := wr_ty hTY
  have hl := lv_entry ([.ref (sh.2 qx), .int a1, .ref (sh.2 qo)]) (n := 4) (Nat.le_of_ble_eq_true rfl)
  rw [lg_entry_eq]
  generalize (lg_sl ([.ref (sh.2 qx), .int a1, .ref (sh.2 qo)]) ++ List.replicate (4 - (lg_sl ([.ref (sh.2 qx), .int a1, .ref (sh.2 qo)])).length) Slot.unset).toArray = ls at hl ⊢
  have hl : lv_has ls 4 [(0, .ref (sh.2 qx)), (1, .int a1), (2, .ref (sh.2 qo))] := hl
  refine lv_aload_n hx hb dw_conditions_0 rfl (lv_at hl 2 rfl) ?_
  refine lv_iconst (v := 0) hx hb dw_conditions_1 (by decide) ?_
  refine lv_aload_n hx hb dw_conditions_2 rfl (lv_at hl 0 rfl) ?_
  refine lv_iload_n hx hb dw_conditions_3 rfl (lv_at hl 1 rfl) ?_
  refine en_hcV (q0 := qx) (b := sh.2 qx) (fs := fx) (co := 12) (ρp := [.ref (sh.2 qx), .int a1, .int 2]) (As := [.int a1]) (rest := [.int 0, .ref (sh.2 qo)]) (lv' := 0) (ct_X6_conditions_4 hl9 hPP Ω) gw_X6_conditions rfl rfl hwx rfl rfl (Nat.le_of_ble_eq_true rfl) ⟨Nat.le_of_ble_eq_true rfl, Nat.le_of_ble_eq_true rfl⟩ ⟨Nat.le_of_ble_eq_true rfl, Nat.le_of_ble_eq_true rfl⟩ (Nat.le_of_ble_eq_true rfl) hx hb (hml.trans hl.1.symm) hts hown hTY hK0 hT hP hD0 hS hA hW hΩ (wr_pf (env := k_X6_conditions_4.2.1.1) (fa := k_X6_conditions_4.2.1.2) ⟨⟨qx, hqx, rfl⟩, ⟨a1, rfl, hb1.1, hb1.2⟩, ⟨_, rfl, by decide, by decide⟩, trivial⟩ (en_ac ⟨qx, _, 12, fx, _, rfl, hwx, hf7, rfl⟩ en_an)) dw_conditions_4 (fun x9 hx9 ce q9 u H1 locs1 hpx hP1 hD1 hS1 hcell hvm hcl => ?_) (fun u res H1 locs1 hrv hpo hP1 hD1 hS1 => ?_)
  · have hku := wr_keep hpx hqo (by decide +kernel) hwo
    have hpx9 := wr_same hpx ((56, 0) :: k_X6_conditions_4.2.2.2.1) (fun z hz => List.mem_cons_of_mem _ hz)
    exact absurd hx9 List.not_mem_nil
  · obtain ⟨hpx, hpo9⟩ := hpo
    have hku := wr_keep hpx hqo (by decide +kernel) hwo
    obtain ⟨r9, rfl⟩ := hrv
    obtain ⟨o9, ho9, ρ9, hpa, hi9, hres⟩ := hpo9
    have ho9 := List.mem_singleton.mp ho9
    subst ho9
    obtain ⟨v9, e9, x9, hx9, l9, u9⟩ := hpa.2.1 2 _ rfl
    subst hx9
    have er : r9 = x9 := Value.int.inj (Option.some.inj ((hres _ rfl).symm.trans e9))
    have er9 : x9 = 2 := Int32.toInt_inj.mp (by rw [show ((2 : Int32)).toInt = 2 from rfl]; have l9 : (2 : Int) ≤ x9.toInt := l9; have u9 : x9.toInt ≤ (2 : Int) := u9; omega)
    rw [er9] at er
    obtain ⟨q9, r8, ci9, fx9, v8, c1, c2, c3, c4⟩ := hpa.2.2 (0, 0, 8, 1, 0, 0) (by decide)
    have e8 : r8 = u.1.2 qx := (Value.ref.inj (Option.some.inj (c1.symm.trans (hi9 0 (by decide))))).trans (hpx.1.at hqx).2.symm
    subst e8
    obtain ⟨e7, c5, c6⟩ := hpx.2.2 qx 0 _ hqx hwx
    have c5 : u.2[qx]? = some (u.1.2 qx, e7) := by rw [(hpx.1.at hqx).2]; exact c5
    have eq9 : q9 = qx := hD1.1 q9 qx _ _ c2 c5 rfl
    subst eq9
    have ci : ci9 = 12 := by rw [(Prod.mk.inj (Option.some.inj (c5.symm.trans c2))).2] at c6; exact c6.1
    subst ci
    have hf7u : fx9[8]? = some (.int a1) := by rw [c3, Option.some.inj (c4.symm.trans (hi9 1 (by decide)))]
    have c2u := c2
    have hqq : ¬ qo = q9 := fun e => by rw [e] at hqo; rw [hqo] at hqx; cases hqx
    refine lv_i2l hx hb dw_conditions_7 rfl ?_
    refine va_last hx hb hK hP1 hD1 hS1 qo 7 hku hTt (vp_in_nI (n := 0) (by decide) (by decide)) dw_conditions_8 (fun H2 locs2 hP2 hD2 hS2 => ?_)
    obtain ⟨g9, hg9⟩ : ∃ g9, g9 = vp_updL g0 (0 : Int32).toNatClampNeg r9.toInt64 := ⟨_, rfl⟩
    rw [← hg9] at hP2 hD2
    refine lv_goto (tgt := 15) hx hb dw_conditions_9 (by decide) ?_
    refine lv_iconst (v := 0) hx hb dw_conditions_15 (by decide) ?_
    exact W.widen (Nat.le_of_ble_eq_true rfl) (Nat.le_of_ble_eq_true rfl) (W.iret (v := 0) hx hb hr (fun t ht hW9 => ⟨⟨0, (u.1, u.2.set qo (sh.2 qo, .inl (cO, 1, .inr (.inl g9)))), rfl, ⟨⟨wr_set hpx hqo (by decide +kernel) (by decide +kernel) hwo ⟨rfl, rfl⟩, g9, wr_get hku, by rw [hg9]; unfold vp_updL; rw [if_pos (by decide), er]⟩, rfl, fx9, by rw [List.getElem?_set_ne hqq]; exact c2u, hf7u⟩, by rw [ht]; exact hP2, hD2⟩, hS2.F ht⟩) hS2.2.2 dw_conditions_16)
set_option maxHeartbeats 4000000 in
set_option maxRecDepth 100000 in
theorem wr_conditions_0_3 {l : Launch} (hl9 : l.stackTraces = false) {PP : Int32 → Int32 → Prop} (hPP : en_P0 PP) (Ω : Nat → en_H → va_W → Prop) (D : va_G) (tys : List (ClassId × FieldType)) (cO cD : ClassId) (sh : en_H) (w : va_W) (sz qx qo : Nat) (fx : List Value) (g0 : (Nat → Int64)) (a1 : Int32) (hb1 : -1 ≤ a1.toInt ∧ a1.toInt ≤ -1) (hTY : tys.map Prod.snd = en_TY0) (hW : en_W PP en_KT k_X6_conditions_5.2.2.2.2.1 sh tys (fun _ => False) w) (hD0 : va_D (va_A w sz) w) (hΩ : en_Om en_om0 sh Ω) (hqx : sh.1[qx]? = some 0) (hwx : w[qx]? = some (sh.2 qx, .inr (12, fx))) (hqo : sh.1[qo]? = some 56) (hwo : w[qo]? = some (sh.2 qo, .inl (cO, 1, .inr (.inl g0)))) (hf7 : fx[8]? = some (.int 3)) :
    Met l yL_conditions (Cond.codeWith yL_conditions cL_conditions 4 (some .int) [(0, 9, 12, 13)] :: en_cw) (en_rm 1 (0, 0)) (va_Pc [.ref (sh.2 qx), .int a1, .ref (sh.2 qo)] (en_B D vwCl (tys ++ [(cO, .long), (cD, .double)]) w sz)) (va_Qi (fun r u => (en_Px tys PP en_KT k_X6_conditions_5.2.2.2.2.1 ((56, 0) :: k_X6_conditions_5.2.2.2.1) sh w u ∧ ∃ g, u.2[qo]? = some (sh.2 qo, .inl (cO, 1, .inr (.inl g))) ∧ g 0 = (3 : Int32).toInt64) ∧ r = 0 ∧ ∃ fx', u.2[qx]? = some (u.1.2 qx, .inr (12, fx')) ∧ fx'[8]? = some (.int a1)) (en_Bw D vwCl (va_A w sz)) (va_A w sz)) 0 0 (va_A w sz) := by
  refine va_MetW (cc := cL_conditions) (maxL := 4) (ret := some .int) (hh := [(0, 9, 12, 13)]) (by decide +kernel) rfl ?_
  intro p e s m args below meth c s₁ B hml hv
  obtain ⟨rfl, hsz, hP, hK, hT⟩ := hv
  subst hsz
  have hx := B.exec
  have hb := B.bytes
  have hr := B.returns
  have hts0 := atoms_spec (ws := Cond.codeWith yL_conditions cL_conditions 4 (some .int) [(0, 9, 12, 13)] :: en_cw) B.pre
  have hts : ∀ z ∈ en_cw, z.before _ s = true := fun z hz => hts0 z (List.mem_cons_of_mem _ hz)
  have hown : s.vm.findClass RL = some m.cls := findClass_of_methodNamed B.named
  have htab := vx_table (x := yL_conditions) B (hts0 _ List.mem_cons_self)
  have hA : ∀ q : Nat, s.heap.size ≤ q → va_A w s.heap.size q := fun q h => Or.inr h
  have hS : va_S (va_A w s.heap.size) s.heap s.heap [] := va_S.rf
  have hK0 : va_K D vwCl tys s := hK.pre
  have hTt : (tys ++ [(cO, .long), (cD, .double)])[7]? = some (cO, .long) := wr_ty hTY
  have hl := lv_entry ([.ref (sh.2 qx), .int a1, .ref (sh.2 qo)]) (n := 4) (Nat.le_of_ble_eq_true rfl)
  rw [lg_entry_eq]
  generalize (lg_sl ([.ref (sh.2 qx), .int a1, .ref (sh.2 qo)]) ++ List.replicate (4 - (lg_sl ([.ref (sh.2 qx), .int a1, .ref (sh.2 qo)])).length) Slot.unset).toArray = ls at hl ⊢
  have hl : lv_has ls 4 [(0, .ref (sh.2 qx)), (1, .int a1), (2, .ref (sh.2 qo))] := hl
  refine lv_aload_n hx hb dw_conditions_0 rfl (lv_at hl 2 rfl) ?_
  refine lv_iconst (v := 0) hx hb dw_conditions_1 (by decide) ?_
  refine lv_aload_n hx hb dw_conditions_2 rfl (lv_at hl 0 rfl) ?_
  refine lv_iload_n hx hb dw_conditions_3 rfl (lv_at hl 1 rfl) ?_
  refine en_hcV (q0 := qx) (b := sh.2 qx) (fs := fx) (co := 12) (ρp := [.ref (sh.2 qx), .int a1, .int 3]) (As := [.int a1]) (rest := [.int 0, .ref (sh.2 qo)]) (lv' := 0) (ct_X6_conditions_5 hl9 hPP Ω) gw_X6_conditions rfl rfl hwx rfl rfl (Nat.le_of_ble_eq_true rfl) ⟨Nat.le_of_ble_eq_true rfl, Nat.le_of_ble_eq_true rfl⟩ ⟨Nat.le_of_ble_eq_true rfl, Nat.le_of_ble_eq_true rfl⟩ (Nat.le_of_ble_eq_true rfl) hx hb (hml.trans hl.1.symm) hts hown hTY hK0 hT hP hD0 hS hA hW hΩ (wr_pf (env := k_X6_conditions_5.2.1.1) (fa := k_X6_conditions_5.2.1.2) ⟨⟨qx, hqx, rfl⟩, ⟨a1, rfl, hb1.1, hb1.2⟩, ⟨_, rfl, by decide, by decide⟩, trivial⟩ (en_ac ⟨qx, _, 12, fx, _, rfl, hwx, hf7, rfl⟩ en_an)) dw_conditions_4 (fun x9 hx9 ce q9 u H1 locs1 hpx hP1 hD1 hS1 hcell hvm hcl => ?_) (fun u res H1 locs1 hrv hpo hP1 hD1 hS1 => ?_)
  · have hku := wr_keep hpx hqo (by decide +kernel) hwo
    have hpx9 := wr_same hpx ((56, 0) :: k_X6_conditions_5.2.2.2.1) (fun z hz => List.mem_cons_of_mem _ hz)
    exact absurd hx9 List.not_mem_nil
  · obtain ⟨hpx, hpo9⟩ := hpo
    have hku := wr_keep hpx hqo (by decide +kernel) hwo
    obtain ⟨r9, rfl⟩ := hrv
    obtain ⟨o9, ho9, ρ9, hpa, hi9, hres⟩ := hpo9
    have ho9 := List.mem_singleton.mp ho9
    subst ho9
    obtain ⟨v9, e9, x9, hx9, l9, u9⟩ := hpa.2.1 2 _ rfl
    subst hx9
    have er : r9 = x9 := Value.int.inj (Option.some.inj ((hres _ rfl).symm.trans e9))
    have er9 : x9 = 3 := Int32.toInt_inj.mp (by rw [show ((3 : Int32)).toInt = 3 from rfl]; have l9 : (3 : Int) ≤ x9.toInt := l9; have u9 : x9.toInt ≤ (3 : Int) := u9; omega)
    rw [er9] at er
    obtain ⟨q9, r8, ci9, fx9, v8, c1, c2, c3, c4⟩ := hpa.2.2 (0, 0, 8, 1, 0, 0) (by decide)
    have e8 : r8 = u.1.2 qx := (Value.ref.inj (Option.some.inj (c1.symm.trans (hi9 0 (by decide))))).trans (hpx.1.at hqx).2.symm
    subst e8
    obtain ⟨e7, c5, c6⟩ := hpx.2.2 qx 0 _ hqx hwx
    have c5 : u.2[qx]? = some (u.1.2 qx, e7) := by rw [(hpx.1.at hqx).2]; exact c5
    have eq9 : q9 = qx := hD1.1 q9 qx _ _ c2 c5 rfl
    subst eq9
    have ci : ci9 = 12 := by rw [(Prod.mk.inj (Option.some.inj (c5.symm.trans c2))).2] at c6; exact c6.1
    subst ci
    have hf7u : fx9[8]? = some (.int a1) := by rw [c3, Option.some.inj (c4.symm.trans (hi9 1 (by decide)))]
    have c2u := c2
    have hqq : ¬ qo = q9 := fun e => by rw [e] at hqo; rw [hqo] at hqx; cases hqx
    refine lv_i2l hx hb dw_conditions_7 rfl ?_
    refine va_last hx hb hK hP1 hD1 hS1 qo 7 hku hTt (vp_in_nI (n := 0) (by decide) (by decide)) dw_conditions_8 (fun H2 locs2 hP2 hD2 hS2 => ?_)
    obtain ⟨g9, hg9⟩ : ∃ g9, g9 = vp_updL g0 (0 : Int32).toNatClampNeg r9.toInt64 := ⟨_, rfl⟩
    rw [← hg9] at hP2 hD2
    refine lv_goto (tgt := 15) hx hb dw_conditions_9 (by decide) ?_
    refine lv_iconst (v := 0) hx hb dw_conditions_15 (by decide) ?_
    exact W.widen (Nat.le_of_ble_eq_true rfl) (Nat.le_of_ble_eq_true rfl) (W.iret (v := 0) hx hb hr (fun t ht hW9 => ⟨⟨0, (u.1, u.2.set qo (sh.2 qo, .inl (cO, 1, .inr (.inl g9)))), rfl, ⟨⟨wr_set hpx hqo (by decide +kernel) (by decide +kernel) hwo ⟨rfl, rfl⟩, g9, wr_get hku, by rw [hg9]; unfold vp_updL; rw [if_pos (by decide), er]⟩, rfl, fx9, by rw [List.getElem?_set_ne hqq]; exact c2u, hf7u⟩, by rw [ht]; exact hP2, hD2⟩, hS2.F ht⟩) hS2.2.2 dw_conditions_16)
set_option maxHeartbeats 4000000 in
set_option maxRecDepth 100000 in
theorem wr_conditions_1_m1 {l : Launch} (hl9 : l.stackTraces = false) {PP : Int32 → Int32 → Prop} (hPP : en_P0 PP) (Ω : Nat → en_H → va_W → Prop) (D : va_G) (tys : List (ClassId × FieldType)) (cO cD : ClassId) (sh : en_H) (w : va_W) (sz qx qo : Nat) (fx : List Value) (g0 : (Nat → Int64)) (a1 : Int32) (hb1 : 0 ≤ a1.toInt ∧ a1.toInt ≤ 0) (hTY : tys.map Prod.snd = en_TY0) (hW : en_W PP en_KT k_X6_conditions_6.2.2.2.2.1 sh tys (fun _ => False) w) (hD0 : va_D (va_A w sz) w) (hΩ : en_Om en_om0 sh Ω) (hqx : sh.1[qx]? = some 0) (hwx : w[qx]? = some (sh.2 qx, .inr (12, fx))) (hqo : sh.1[qo]? = some 56) (hwo : w[qo]? = some (sh.2 qo, .inl (cO, 1, .inr (.inl g0)))) (hf7 : fx[8]? = some (.int (-1))) :
    Met l yL_conditions (Cond.codeWith yL_conditions cL_conditions 4 (some .int) [(0, 9, 12, 13)] :: en_cw) (en_rm 1 (0, 0)) (va_Pc [.ref (sh.2 qx), .int a1, .ref (sh.2 qo)] (en_B D vwCl (tys ++ [(cO, .long), (cD, .double)]) w sz)) (va_Qi (fun r u => (en_Px tys PP en_KT k_X6_conditions_6.2.2.2.2.1 ((56, 0) :: k_X6_conditions_6.2.2.2.1) sh w u ∧ ∃ g, u.2[qo]? = some (sh.2 qo, .inl (cO, 1, .inr (.inl g))) ∧ g 0 = ((-1) : Int32).toInt64) ∧ r = 0 ∧ ∃ fx', u.2[qx]? = some (u.1.2 qx, .inr (12, fx')) ∧ fx'[8]? = some (.int a1)) (en_Bw D vwCl (va_A w sz)) (va_A w sz)) 0 0 (va_A w sz) := by
  refine va_MetW (cc := cL_conditions) (maxL := 4) (ret := some .int) (hh := [(0, 9, 12, 13)]) (by decide +kernel) rfl ?_
  intro p e s m args below meth c s₁ B hml hv
  obtain ⟨rfl, hsz, hP, hK, hT⟩ := hv
  subst hsz
  have hx := B.exec
  have hb := B.bytes
  have hr := B.returns
  have hts0 := atoms_spec (ws := Cond.codeWith yL_conditions cL_conditions 4 (some .int) [(0, 9, 12, 13)] :: en_cw) B.pre
  have hts : ∀ z ∈ en_cw, z.before _ s = true := fun z hz => hts0 z (List.mem_cons_of_mem _ hz)
  have hown : s.vm.findClass RL = some m.cls := findClass_of_methodNamed B.named
  have htab := vx_table (x := yL_conditions) B (hts0 _ List.mem_cons_self)
  have hA : ∀ q : Nat, s.heap.size ≤ q → va_A w s.heap.size q := fun q h => Or.inr h
  have hS : va_S (va_A w s.heap.size) s.heap s.heap [] := va_S.rf
  have hK0 : va_K D vwCl tys s := hK.pre
  have hTt : (tys ++ [(cO, .long), (cD, .double)])[7]? = some (cO, .long) := wr_ty hTY
  have hl := lv_entry ([.ref (sh.2 qx), .int a1, .ref (sh.2 qo)]) (n := 4) (Nat.le_of_ble_eq_true rfl)
  rw [lg_entry_eq]
  generalize (lg_sl ([.ref (sh.2 qx), .int a1, .ref (sh.2 qo)]) ++ List.replicate (4 - (lg_sl ([.ref (sh.2 qx), .int a1, .ref (sh.2 qo)])).length) Slot.unset).toArray = ls at hl ⊢
  have hl : lv_has ls 4 [(0, .ref (sh.2 qx)), (1, .int a1), (2, .ref (sh.2 qo))] := hl
  refine lv_aload_n hx hb dw_conditions_0 rfl (lv_at hl 2 rfl) ?_
  refine lv_iconst (v := 0) hx hb dw_conditions_1 (by decide) ?_
  refine lv_aload_n hx hb dw_conditions_2 rfl (lv_at hl 0 rfl) ?_
  refine lv_iload_n hx hb dw_conditions_3 rfl (lv_at hl 1 rfl) ?_
  refine en_hcV (q0 := qx) (b := sh.2 qx) (fs := fx) (co := 12) (ρp := [.ref (sh.2 qx), .int a1, .int (-1)]) (As := [.int a1]) (rest := [.int 0, .ref (sh.2 qo)]) (lv' := 0) (ct_X6_conditions_6 hl9 hPP Ω) gw_X6_conditions rfl rfl hwx rfl rfl (Nat.le_of_ble_eq_true rfl) ⟨Nat.le_of_ble_eq_true rfl, Nat.le_of_ble_eq_true rfl⟩ ⟨Nat.le_of_ble_eq_true rfl, Nat.le_of_ble_eq_true rfl⟩ (Nat.le_of_ble_eq_true rfl) hx hb (hml.trans hl.1.symm) hts hown hTY hK0 hT hP hD0 hS hA hW hΩ (wr_pf (env := k_X6_conditions_6.2.1.1) (fa := k_X6_conditions_6.2.1.2) ⟨⟨qx, hqx, rfl⟩, ⟨a1, rfl, hb1.1, hb1.2⟩, ⟨_, rfl, by decide, by decide⟩, trivial⟩ (en_ac ⟨qx, _, 12, fx, _, rfl, hwx, hf7, rfl⟩ en_an)) dw_conditions_4 (fun x9 hx9 ce q9 u H1 locs1 hpx hP1 hD1 hS1 hcell hvm hcl => ?_) (fun u res H1 locs1 hrv hpo hP1 hD1 hS1 => ?_)
  · have hku := wr_keep hpx hqo (by decide +kernel) hwo
    have hpx9 := wr_same hpx ((56, 0) :: k_X6_conditions_6.2.2.2.1) (fun z hz => List.mem_cons_of_mem _ hz)
    exact absurd hx9 List.not_mem_nil
  · obtain ⟨hpx, hpo9⟩ := hpo
    have hku := wr_keep hpx hqo (by decide +kernel) hwo
    obtain ⟨r9, rfl⟩ := hrv
    obtain ⟨o9, ho9, ρ9, hpa, hi9, hres⟩ := hpo9
    have ho9 := List.mem_singleton.mp ho9
    subst ho9
    obtain ⟨v9, e9, x9, hx9, l9, u9⟩ := hpa.2.1 2 _ rfl
    subst hx9
    have er : r9 = x9 := Value.int.inj (Option.some.inj ((hres _ rfl).symm.trans e9))
    have er9 : x9 = (-1) := Int32.toInt_inj.mp (by rw [show (((-1) : Int32)).toInt = (-1) from rfl]; have l9 : ((-1) : Int) ≤ x9.toInt := l9; have u9 : x9.toInt ≤ ((-1) : Int) := u9; omega)
    rw [er9] at er
    obtain ⟨q9, r8, ci9, fx9, v8, c1, c2, c3, c4⟩ := hpa.2.2 (0, 0, 8, 1, 0, 0) (by decide)
    have e8 : r8 = u.1.2 qx := (Value.ref.inj (Option.some.inj (c1.symm.trans (hi9 0 (by decide))))).trans (hpx.1.at hqx).2.symm
    subst e8
    obtain ⟨e7, c5, c6⟩ := hpx.2.2 qx 0 _ hqx hwx
    have c5 : u.2[qx]? = some (u.1.2 qx, e7) := by rw [(hpx.1.at hqx).2]; exact c5
    have eq9 : q9 = qx := hD1.1 q9 qx _ _ c2 c5 rfl
    subst eq9
    have ci : ci9 = 12 := by rw [(Prod.mk.inj (Option.some.inj (c5.symm.trans c2))).2] at c6; exact c6.1
    subst ci
    have hf7u : fx9[8]? = some (.int a1) := by rw [c3, Option.some.inj (c4.symm.trans (hi9 1 (by decide)))]
    have c2u := c2
    have hqq : ¬ qo = q9 := fun e => by rw [e] at hqo; rw [hqo] at hqx; cases hqx
    refine lv_i2l hx hb dw_conditions_7 rfl ?_
    refine va_last hx hb hK hP1 hD1 hS1 qo 7 hku hTt (vp_in_nI (n := 0) (by decide) (by decide)) dw_conditions_8 (fun H2 locs2 hP2 hD2 hS2 => ?_)
    obtain ⟨g9, hg9⟩ : ∃ g9, g9 = vp_updL g0 (0 : Int32).toNatClampNeg r9.toInt64 := ⟨_, rfl⟩
    rw [← hg9] at hP2 hD2
    refine lv_goto (tgt := 15) hx hb dw_conditions_9 (by decide) ?_
    refine lv_iconst (v := 0) hx hb dw_conditions_15 (by decide) ?_
    exact W.widen (Nat.le_of_ble_eq_true rfl) (Nat.le_of_ble_eq_true rfl) (W.iret (v := 0) hx hb hr (fun t ht hW9 => ⟨⟨0, (u.1, u.2.set qo (sh.2 qo, .inl (cO, 1, .inr (.inl g9)))), rfl, ⟨⟨wr_set hpx hqo (by decide +kernel) (by decide +kernel) hwo ⟨rfl, rfl⟩, g9, wr_get hku, by rw [hg9]; unfold vp_updL; rw [if_pos (by decide), er]⟩, rfl, fx9, by rw [List.getElem?_set_ne hqq]; exact c2u, hf7u⟩, by rw [ht]; exact hP2, hD2⟩, hS2.F ht⟩) hS2.2.2 dw_conditions_16)
set_option maxHeartbeats 4000000 in
set_option maxRecDepth 100000 in
theorem wr_conditions_1_0 {l : Launch} (hl9 : l.stackTraces = false) {PP : Int32 → Int32 → Prop} (hPP : en_P0 PP) (Ω : Nat → en_H → va_W → Prop) (D : va_G) (tys : List (ClassId × FieldType)) (cO cD : ClassId) (sh : en_H) (w : va_W) (sz qx qo : Nat) (fx : List Value) (g0 : (Nat → Int64)) (a1 : Int32) (hb1 : 0 ≤ a1.toInt ∧ a1.toInt ≤ 0) (hTY : tys.map Prod.snd = en_TY0) (hW : en_W PP en_KT k_X6_conditions_7.2.2.2.2.1 sh tys (fun _ => False) w) (hD0 : va_D (va_A w sz) w) (hΩ : en_Om en_om0 sh Ω) (hqx : sh.1[qx]? = some 0) (hwx : w[qx]? = some (sh.2 qx, .inr (12, fx))) (hqo : sh.1[qo]? = some 56) (hwo : w[qo]? = some (sh.2 qo, .inl (cO, 1, .inr (.inl g0)))) (hf7 : fx[8]? = some (.int 0)) :
    Met l yL_conditions (Cond.codeWith yL_conditions cL_conditions 4 (some .int) [(0, 9, 12, 13)] :: en_cw) (en_rm 1 (0, 0)) (va_Pc [.ref (sh.2 qx), .int a1, .ref (sh.2 qo)] (en_B D vwCl (tys ++ [(cO, .long), (cD, .double)]) w sz)) (va_Qi (fun r u => (en_Px tys PP en_KT k_X6_conditions_7.2.2.2.2.1 ((56, 0) :: k_X6_conditions_7.2.2.2.1) sh w u ∧ ∃ g, u.2[qo]? = some (sh.2 qo, .inl (cO, 1, .inr (.inl g))) ∧ g 0 = (0 : Int32).toInt64) ∧ r = 0 ∧ ∃ fx', u.2[qx]? = some (u.1.2 qx, .inr (12, fx')) ∧ fx'[8]? = some (.int a1)) (en_Bw D vwCl (va_A w sz)) (va_A w sz)) 0 0 (va_A w sz) := by
  refine va_MetW (cc := cL_conditions) (maxL := 4) (ret := some .int) (hh := [(0, 9, 12, 13)]) (by decide +kernel) rfl ?_
  intro p e s m args below meth c s₁ B hml hv
  obtain ⟨rfl, hsz, hP, hK, hT⟩ := hv
  subst hsz
  have hx := B.exec
  have hb := B.bytes
  have hr := B.returns
  have hts0 := atoms_spec (ws := Cond.codeWith yL_conditions cL_conditions 4 (some .int) [(0, 9, 12, 13)] :: en_cw) B.pre
  have hts : ∀ z ∈ en_cw, z.before _ s = true := fun z hz => hts0 z (List.mem_cons_of_mem _ hz)
  have hown : s.vm.findClass RL = some m.cls := findClass_of_methodNamed B.named
  have htab := vx_table (x := yL_conditions) B (hts0 _ List.mem_cons_self)
  have hA : ∀ q : Nat, s.heap.size ≤ q → va_A w s.heap.size q := fun q h => Or.inr h
  have hS : va_S (va_A w s.heap.size) s.heap s.heap [] := va_S.rf
  have hK0 : va_K D vwCl tys s := hK.pre
  have hTt : (tys ++ [(cO, .long), (cD, .double)])[7]? = some (cO, .long) := wr_ty hTY
  have hl := lv_entry ([.ref (sh.2 qx), .int a1, .ref (sh.2 qo)]) (n := 4) (Nat.le_of_ble_eq_true rfl)
  rw [lg_entry_eq]
  generalize (lg_sl ([.ref (sh.2 qx), .int a1, .ref (sh.2 qo)]) ++ List.replicate (4 - (lg_sl ([.ref (sh.2 qx), .int a1, .ref (sh.2 qo)])).length) Slot.unset).toArray = ls at hl ⊢
  have hl : lv_has ls 4 [(0, .ref (sh.2 qx)), (1, .int a1), (2, .ref (sh.2 qo))] := hl
  refine lv_aload_n hx hb dw_conditions_0 rfl (lv_at hl 2 rfl) ?_
  refine lv_iconst (v := 0) hx hb dw_conditions_1 (by decide) ?_
  refine lv_aload_n hx hb dw_conditions_2 rfl (lv_at hl 0 rfl) ?_
  refine lv_iload_n hx hb dw_conditions_3 rfl (lv_at hl 1 rfl) ?_
  refine en_hcV (q0 := qx) (b := sh.2 qx) (fs := fx) (co := 12) (ρp := [.ref (sh.2 qx), .int a1, .int 0]) (As := [.int a1]) (rest := [.int 0, .ref (sh.2 qo)]) (lv' := 0) (ct_X6_conditions_7 hl9 hPP Ω) gw_X6_conditions rfl rfl hwx rfl rfl (Nat.le_of_ble_eq_true rfl) ⟨Nat.le_of_ble_eq_true rfl, Nat.le_of_ble_eq_true rfl⟩ ⟨Nat.le_of_ble_eq_true rfl, Nat.le_of_ble_eq_true rfl⟩ (Nat.le_of_ble_eq_true rfl) hx hb (hml.trans hl.1.symm) hts hown hTY hK0 hT hP hD0 hS hA hW hΩ (wr_pf (env := k_X6_conditions_7.2.1.1) (fa := k_X6_conditions_7.2.1.2) ⟨⟨qx, hqx, rfl⟩, ⟨a1, rfl, hb1.1, hb1.2⟩, ⟨_, rfl, by decide, by decide⟩, trivial⟩ (en_ac ⟨qx, _, 12, fx, _, rfl, hwx, hf7, rfl⟩ en_an)) dw_conditions_4 (fun x9 hx9 ce q9 u H1 locs1 hpx hP1 hD1 hS1 hcell hvm hcl => ?_) (fun u res H1 locs1 hrv hpo hP1 hD1 hS1 => ?_)
  · have hku := wr_keep hpx hqo (by decide +kernel) hwo
    have hpx9 := wr_same hpx ((56, 0) :: k_X6_conditions_7.2.2.2.1) (fun z hz => List.mem_cons_of_mem _ hz)
    exact absurd hx9 List.not_mem_nil
  · obtain ⟨hpx, hpo9⟩ := hpo
    have hku := wr_keep hpx hqo (by decide +kernel) hwo
    obtain ⟨r9, rfl⟩ := hrv
    obtain ⟨o9, ho9, ρ9, hpa, hi9, hres⟩ := hpo9
    have ho9 := List.mem_singleton.mp ho9
    subst ho9
    obtain ⟨v9, e9, x9, hx9, l9, u9⟩ := hpa.2.1 2 _ rfl
    subst hx9
    have er : r9 = x9 := Value.int.inj (Option.some.inj ((hres _ rfl).symm.trans e9))
    have er9 : x9 = 0 := Int32.toInt_inj.mp (by rw [show ((0 : Int32)).toInt = 0 from rfl]; have l9 : (0 : Int) ≤ x9.toInt := l9; have u9 : x9.toInt ≤ (0 : Int) := u9; omega)
    rw [er9] at er
    obtain ⟨q9, r8, ci9, fx9, v8, c1, c2, c3, c4⟩ := hpa.2.2 (0, 0, 8, 1, 0, 0) (by decide)
    have e8 : r8 = u.1.2 qx := (Value.ref.inj (Option.some.inj (c1.symm.trans (hi9 0 (by decide))))).trans (hpx.1.at hqx).2.symm
    subst e8
    obtain ⟨e7, c5, c6⟩ := hpx.2.2 qx 0 _ hqx hwx
    have c5 : u.2[qx]? = some (u.1.2 qx, e7) := by rw [(hpx.1.at hqx).2]; exact c5
    have eq9 : q9 = qx := hD1.1 q9 qx _ _ c2 c5 rfl
    subst eq9
    have ci : ci9 = 12 := by rw [(Prod.mk.inj (Option.some.inj (c5.symm.trans c2))).2] at c6; exact c6.1
    subst ci
    have hf7u : fx9[8]? = some (.int a1) := by rw [c3, Option.some.inj (c4.symm.trans (hi9 1 (by decide)))]
    have c2u := c2
    have hqq : ¬ qo = q9 := fun e => by rw [e] at hqo; rw [hqo] at hqx; cases hqx
    refine lv_i2l hx hb dw_conditions_7 rfl ?_
    refine va_last hx hb hK hP1 hD1 hS1 qo 7 hku hTt (vp_in_nI (n := 0) (by decide) (by decide)) dw_conditions_8 (fun H2 locs2 hP2 hD2 hS2 => ?_)
    obtain ⟨g9, hg9⟩ : ∃ g9, g9 = vp_updL g0 (0 : Int32).toNatClampNeg r9.toInt64 := ⟨_, rfl⟩
    rw [← hg9] at hP2 hD2
    refine lv_goto (tgt := 15) hx hb dw_conditions_9 (by decide) ?_
    refine lv_iconst (v := 0) hx hb dw_conditions_15 (by decide) ?_
    exact W.widen (Nat.le_of_ble_eq_true rfl) (Nat.le_of_ble_eq_true rfl) (W.iret (v := 0) hx hb hr (fun t ht hW9 => ⟨⟨0, (u.1, u.2.set qo (sh.2 qo, .inl (cO, 1, .inr (.inl g9)))), rfl, ⟨⟨wr_set hpx hqo (by decide +kernel) (by decide +kernel) hwo ⟨rfl, rfl⟩, g9, wr_get hku, by rw [hg9]; unfold vp_updL; rw [if_pos (by decide), er]⟩, rfl, fx9, by rw [List.getElem?_set_ne hqq]; exact c2u, hf7u⟩, by rw [ht]; exact hP2, hD2⟩, hS2.F ht⟩) hS2.2.2 dw_conditions_16)
set_option maxHeartbeats 4000000 in
set_option maxRecDepth 100000 in
theorem wr_conditions_1_1 {l : Launch} (hl9 : l.stackTraces = false) {PP : Int32 → Int32 → Prop} (hPP : en_P0 PP) (Ω : Nat → en_H → va_W → Prop) (D : va_G) (tys : List (ClassId × FieldType)) (cO cD : ClassId) (sh : en_H) (w : va_W) (sz qx qo : Nat) (fx : List Value) (g0 : (Nat → Int64)) (a1 : Int32) (hb1 : 0 ≤ a1.toInt ∧ a1.toInt ≤ 0) (hTY : tys.map Prod.snd = en_TY0) (hW : en_W PP en_KT k_X6_conditions_8.2.2.2.2.1 sh tys (fun _ => False) w) (hD0 : va_D (va_A w sz) w) (hΩ : en_Om en_om0 sh Ω) (hqx : sh.1[qx]? = some 0) (hwx : w[qx]? = some (sh.2 qx, .inr (12, fx))) (hqo : sh.1[qo]? = some 56) (hwo : w[qo]? = some (sh.2 qo, .inl (cO, 1, .inr (.inl g0)))) (hf7 : fx[8]? = some (.int 1)) :
    Met l yL_conditions (Cond.codeWith yL_conditions cL_conditions 4 (some .int) [(0, 9, 12, 13)] :: en_cw) (en_rm 1 (0, 0)) (va_Pc [.ref (sh.2 qx), .int a1, .ref (sh.2 qo)] (en_B D vwCl (tys ++ [(cO, .long), (cD, .double)]) w sz)) (va_Qi (fun r u => (en_Px tys PP en_KT k_X6_conditions_8.2.2.2.2.1 ((56, 0) :: k_X6_conditions_8.2.2.2.1) sh w u ∧ ∃ g, u.2[qo]? = some (sh.2 qo, .inl (cO, 1, .inr (.inl g))) ∧ g 0 = (1 : Int32).toInt64) ∧ r = 0 ∧ ∃ fx', u.2[qx]? = some (u.1.2 qx, .inr (12, fx')) ∧ fx'[8]? = some (.int a1)) (en_Bw D vwCl (va_A w sz)) (va_A w sz)) 0 0 (va_A w sz) := by
  refine va_MetW (cc := cL_conditions) (maxL := 4) (ret := some .int) (hh := [(0, 9, 12, 13)]) (by decide +kernel) rfl ?_
  intro p e s m args below meth c s₁ B hml hv
  obtain ⟨rfl, hsz, hP, hK, hT⟩ := hv
  subst hsz
  have hx := B.exec
  have hb := B.bytes
  have hr := B.returns
  have hts0 := atoms_spec (ws := Cond.codeWith yL_conditions cL_conditions 4 (some .int) [(0, 9, 12, 13)] :: en_cw) B.pre
  have hts : ∀ z ∈ en_cw, z.before _ s = true := fun z hz => hts0 z (List.mem_cons_of_mem _ hz)
  have hown : s.vm.findClass RL = some m.cls := findClass_of_methodNamed B.named
  have htab := vx_table (x := yL_conditions) B (hts0 _ List.mem_cons_self)
  have hA : ∀ q : Nat, s.heap.size ≤ q → va_A w s.heap.size q := fun q h => Or.inr h
  have hS : va_S (va_A w s.heap.size) s.heap s.heap [] := va_S.rf
  have hK0 : va_K D vwCl tys s := hK.pre
  have hTt : (tys ++ [(cO, .long), (cD, .double)])[7]? = some (cO, .long) := wr_ty hTY
  have hl := lv_entry ([.ref (sh.2 qx), .int a1, .ref (sh.2 qo)]) (n := 4) (Nat.le_of_ble_eq_true rfl)
  rw [lg_entry_eq]
  generalize (lg_sl ([.ref (sh.2 qx), .int a1, .ref (sh.2 qo)]) ++ List.replicate (4 - (lg_sl ([.ref (sh.2 qx), .int a1, .ref (sh.2 qo)])).length) Slot.unset).toArray = ls at hl ⊢
  have hl : lv_has ls 4 [(0, .ref (sh.2 qx)), (1, .int a1), (2, .ref (sh.2 qo))] := hl
  refine lv_aload_n hx hb dw_conditions_0 rfl (lv_at hl 2 rfl) ?_
  refine lv_iconst (v := 0) hx hb dw_conditions_1 (by decide) ?_
  refine lv_aload_n hx hb dw_conditions_2 rfl (lv_at hl 0 rfl) ?_
  refine lv_iload_n hx hb dw_conditions_3 rfl (lv_at hl 1 rfl) ?_
  refine en_hcV (q0 := qx) (b := sh.2 qx) (fs := fx) (co := 12) (ρp := [.ref (sh.2 qx), .int a1, .int 1]) (As := [.int a1]) (rest := [.int 0, .ref (sh.2 qo)]) (lv' := 0) (ct_X6_conditions_8 hl9 hPP Ω) gw_X6_conditions rfl rfl hwx rfl rfl (Nat.le_of_ble_eq_true rfl) ⟨Nat.le_of_ble_eq_true rfl, Nat.le_of_ble_eq_true rfl⟩ ⟨Nat.le_of_ble_eq_true rfl, Nat.le_of_ble_eq_true rfl⟩ (Nat.le_of_ble_eq_true rfl) hx hb (hml.trans hl.1.symm) hts hown hTY hK0 hT hP hD0 hS hA hW hΩ (wr_pf (env := k_X6_conditions_8.2.1.1) (fa := k_X6_conditions_8.2.1.2) ⟨⟨qx, hqx, rfl⟩, ⟨a1, rfl, hb1.1, hb1.2⟩, ⟨_, rfl, by decide, by decide⟩, trivial⟩ (en_ac ⟨qx, _, 12, fx, _, rfl, hwx, hf7, rfl⟩ en_an)) dw_conditions_4 (fun x9 hx9 ce q9 u H1 locs1 hpx hP1 hD1 hS1 hcell hvm hcl => ?_) (fun u res H1 locs1 hrv hpo hP1 hD1 hS1 => ?_)
  · have hku := wr_keep hpx hqo (by decide +kernel) hwo
    have hpx9 := wr_same hpx ((56, 0) :: k_X6_conditions_8.2.2.2.1) (fun z hz => List.mem_cons_of_mem _ hz)
    exact absurd hx9 List.not_mem_nil
  · obtain ⟨hpx, hpo9⟩ := hpo
    have hku := wr_keep hpx hqo (by decide +kernel) hwo
    obtain ⟨r9, rfl⟩ := hrv
    obtain ⟨o9, ho9, ρ9, hpa, hi9, hres⟩ := hpo9
    have ho9 := List.mem_singleton.mp ho9
    subst ho9
    obtain ⟨v9, e9, x9, hx9, l9, u9⟩ := hpa.2.1 2 _ rfl
    subst hx9
    have er : r9 = x9 := Value.int.inj (Option.some.inj ((hres _ rfl).symm.trans e9))
    have er9 : x9 = 1 := Int32.toInt_inj.mp (by rw [show ((1 : Int32)).toInt = 1 from rfl]; have l9 : (1 : Int) ≤ x9.toInt := l9; have u9 : x9.toInt ≤ (1 : Int) := u9; omega)
    rw [er9] at er
    obtain ⟨q9, r8, ci9, fx9, v8, c1, c2, c3, c4⟩ := hpa.2.2 (0, 0, 8, 1, 0, 0) (by decide)
    have e8 : r8 = u.1.2 qx := (Value.ref.inj (Option.some.inj (c1.symm.trans (hi9 0 (by decide))))).trans (hpx.1.at hqx).2.symm
    subst e8
    obtain ⟨e7, c5, c6⟩ := hpx.2.2 qx 0 _ hqx hwx
    have c5 : u.2[qx]? = some (u.1.2 qx, e7) := by rw [(hpx.1.at hqx).2]; exact c5
    have eq9 : q9 = qx := hD1.1 q9 qx _ _ c2 c5 rfl
    subst eq9
    have ci : ci9 = 12 := by rw [(Prod.mk.inj (Option.some.inj (c5.symm.trans c2))).2] at c6; exact c6.1
    subst ci
    have hf7u : fx9[8]? = some (.int a1) := by rw [c3, Option.some.inj (c4.symm.trans (hi9 1 (by decide)))]
    have c2u := c2
    have hqq : ¬ qo = q9 := fun e => by rw [e] at hqo; rw [hqo] at hqx; cases hqx
    refine lv_i2l hx hb dw_conditions_7 rfl ?_
    refine va_last hx hb hK hP1 hD1 hS1 qo 7 hku hTt (vp_in_nI (n := 0) (by decide) (by decide)) dw_conditions_8 (fun H2 locs2 hP2 hD2 hS2 => ?_)
    obtain ⟨g9, hg9⟩ : ∃ g9, g9 = vp_updL g0 (0 : Int32).toNatClampNeg r9.toInt64 := ⟨_, rfl⟩
    rw [← hg9] at hP2 hD2
    refine lv_goto (tgt := 15) hx hb dw_conditions_9 (by decide) ?_
    refine lv_iconst (v := 0) hx hb dw_conditions_15 (by decide) ?_
    exact W.widen (Nat.le_of_ble_eq_true rfl) (Nat.le_of_ble_eq_true rfl) (W.iret (v := 0) hx hb hr (fun t ht hW9 => ⟨⟨0, (u.1, u.2.set qo (sh.2 qo, .inl (cO, 1, .inr (.inl g9)))), rfl, ⟨⟨wr_set hpx hqo (by decide +kernel) (by decide +kernel) hwo ⟨rfl, rfl⟩, g9, wr_get hku, by rw [hg9]; unfold vp_updL; rw [if_pos (by decide), er]⟩, rfl, fx9, by rw [List.getElem?_set_ne hqq]; exact c2u, hf7u⟩, by rw [ht]; exact hP2, hD2⟩, hS2.F ht⟩) hS2.2.2 dw_conditions_16)
set_option maxHeartbeats 4000000 in
set_option maxRecDepth 100000 in
theorem wr_conditions_1_2 {l : Launch} (hl9 : l.stackTraces = false) {PP : Int32 → Int32 → Prop} (hPP : en_P0 PP) (Ω : Nat → en_H → va_W → Prop) (D : va_G) (tys : List (ClassId × FieldType)) (cO cD : ClassId) (sh : en_H) (w : va_W) (sz qx qo : Nat) (fx : List Value) (g0 : (Nat → Int64)) (a1 : Int32) (hb1 : 0 ≤ a1.toInt ∧ a1.toInt ≤ 0) (hTY : tys.map Prod.snd = en_TY0) (hW : en_W PP en_KT k_X6_conditions_9.2.2.2.2.1 sh tys (fun _ => False) w) (hD0 : va_D (va_A w sz) w) (hΩ : en_Om en_om0 sh Ω) (hqx : sh.1[qx]? = some 0) (hwx : w[qx]? = some (sh.2 qx, .inr (12, fx))) (hqo : sh.1[qo]? = some 56) (hwo : w[qo]? = some (sh.2 qo, .inl (cO, 1, .inr (.inl g0)))) (hf7 : fx[8]? = some (.int 2)) :
    Met l yL_conditions (Cond.codeWith yL_conditions cL_conditions 4 (some .int) [(0, 9, 12, 13)] :: en_cw) (en_rm 1 (0, 0)) (va_Pc [.ref (sh.2 qx), .int a1, .ref (sh.2 qo)] (en_B D vwCl (tys ++ [(cO, .long), (cD, .double)]) w sz)) (va_Qi (fun r u => (en_Px tys PP en_KT k_X6_conditions_9.2.2.2.2.1 ((56, 0) :: k_X6_conditions_9.2.2.2.1) sh w u ∧ ∃ g, u.2[qo]? = some (sh.2 qo, .inl (cO, 1, .inr (.inl g))) ∧ g 0 = (2 : Int32).toInt64) ∧ r = 0 ∧ ∃ fx', u.2[qx]? = some (u.1.2 qx, .inr (12, fx')) ∧ fx'[8]? = some (.int a1)) (en_Bw D vwCl (va_A w sz)) (va_A w sz)) 0 0 (va_A w sz) := by
  refine va_MetW (cc := cL_conditions) (maxL := 4) (ret := some .int) (hh := [(0, 9, 12, 13)]) (by decide +kernel) rfl ?_
  intro p e s m args below meth c s₁ B hml hv
  obtain ⟨rfl, hsz, hP, hK, hT⟩ := hv
  subst hsz
  have hx := B.exec
  have hb := B.bytes
  have hr := B.returns
  have hts0 := atoms_spec (ws := Cond.codeWith yL_conditions cL_conditions 4 (some .int) [(0, 9, 12, 13)] :: en_cw) B.pre
  have hts : ∀ z ∈ en_cw, z.before _ s = true := fun z hz => hts0 z (List.mem_cons_of_mem _ hz)
  have hown : s.vm.findClass RL = some m.cls := findClass_of_methodNamed B.named
  have htab := vx_table (x := yL_conditions) B (hts0 _ List.mem_cons_self)
  have hA : ∀ q : Nat, s.heap.size ≤ q → va_A w s.heap.size q := fun q h => Or.inr h
  have hS : va_S (va_A w s.heap.size) s.heap s.heap [] := va_S.rf
  have hK0 : va_K D vwCl tys s := hK.pre
  have hTt : (tys ++ [(cO, .long), (cD, .double)])[7]? = some (cO, .long) := wr_ty hTY
  have hl := lv_entry ([.ref (sh.2 qx), .int a1, .ref (sh.2 qo)]) (n := 4) (Nat.le_of_ble_eq_true rfl)
  rw [lg_entry_eq]
  generalize (lg_sl ([.ref (sh.2 qx), .int a1, .ref (sh.2 qo)]) ++ List.replicate (4 - (lg_sl ([.ref (sh.2 qx), .int a1, .ref (sh.2 qo)])).length) Slot.unset).toArray = ls at hl ⊢
  have hl : lv_has ls 4 [(0, .ref (sh.2 qx)), (1, .int a1), (2, .ref (sh.2 qo))] := hl
  refine lv_aload_n hx hb dw_conditions_0 rfl (lv_at hl 2 rfl) ?_
  refine lv_iconst (v := 0) hx hb dw_conditions_1 (by decide) ?_
  refine lv_aload_n hx hb dw_conditions_2 rfl (lv_at hl 0 rfl) ?_
  refine lv_iload_n hx hb dw_conditions_3 rfl (lv_at hl 1 rfl) ?_
  refine en_hcV (q0 := qx) (b := sh.2 qx) (fs := fx) (co := 12) (ρp := [.ref (sh.2 qx), .int a1, .int 2]) (As := [.int a1]) (rest := [.int 0, .ref (sh.2 qo)]) (lv' := 0) (ct_X6_conditions_9 hl9 hPP Ω) gw_X6_conditions rfl rfl hwx rfl rfl (Nat.le_of_ble_eq_true rfl) ⟨Nat.le_of_ble_eq_true rfl, Nat.le_of_ble_eq_true rfl⟩ ⟨Nat.le_of_ble_eq_true rfl, Nat.le_of_ble_eq_true rfl⟩ (Nat.le_of_ble_eq_true rfl) hx hb (hml.trans hl.1.symm) hts hown hTY hK0 hT hP hD0 hS hA hW hΩ (wr_pf (env := k_X6_conditions_9.2.1.1) (fa := k_X6_conditions_9.2.1.2) ⟨⟨qx, hqx, rfl⟩, ⟨a1, rfl, hb1.1, hb1.2⟩, ⟨_, rfl, by decide, by decide⟩, trivial⟩ (en_ac ⟨qx, _, 12, fx, _, rfl, hwx, hf7, rfl⟩ en_an)) dw_conditions_4 (fun x9 hx9 ce q9 u H1 locs1 hpx hP1 hD1 hS1 hcell hvm hcl => ?_) (fun u res H1 locs1 hrv hpo hP1 hD1 hS1 => ?_)
  · have hku := wr_keep hpx hqo (by decide +kernel) hwo
    have hpx9 := wr_same hpx ((56, 0) :: k_X6_conditions_9.2.2.2.1) (fun z hz => List.mem_cons_of_mem _ hz)
    exact absurd hx9 List.not_mem_nil
  · obtain ⟨hpx, hpo9⟩ := hpo
    have hku := wr_keep hpx hqo (by decide +kernel) hwo
    obtain ⟨r9, rfl⟩ := hrv
    obtain ⟨o9, ho9, ρ9, hpa, hi9, hres⟩ := hpo9
    have ho9 := List.mem_singleton.mp ho9
    subst ho9
    obtain ⟨v9, e9, x9, hx9, l9, u9⟩ := hpa.2.1 2 _ rfl
    subst hx9
    have er : r9 = x9 := Value.int.inj (Option.some.inj ((hres _ rfl).symm.trans e9))
    have er9 : x9 = 2 := Int32.toInt_inj.mp (by rw [show ((2 : Int32)).toInt = 2 from rfl]; have l9 : (2 : Int) ≤ x9.toInt := l9; have u9 : x9.toInt ≤ (2 : Int) := u9; omega)
    rw [er9] at er
    obtain ⟨q9, r8, ci9, fx9, v8, c1, c2, c3, c4⟩ := hpa.2.2 (0, 0, 8, 1, 0, 0) (by decide)
    have e8 : r8 = u.1.2 qx := (Value.ref.inj (Option.some.inj (c1.symm.trans (hi9 0 (by decide))))).trans (hpx.1.at hqx).2.symm
    subst e8
    obtain ⟨e7, c5, c6⟩ := hpx.2.2 qx 0 _ hqx hwx
    have c5 : u.2[qx]? = some (u.1.2 qx, e7) := by rw [(hpx.1.at hqx).2]; exact c5
    have eq9 : q9 = qx := hD1.1 q9 qx _ _ c2 c5 rfl
    subst eq9
    have ci : ci9 = 12 := by rw [(Prod.mk.inj (Option.some.inj (c5.symm.trans c2))).2] at c6; exact c6.1
    subst ci
    have hf7u : fx9[8]? = some (.int a1) := by rw [c3, Option.some.inj (c4.symm.trans (hi9 1 (by decide)))]
    have c2u := c2
    have hqq : ¬ qo = q9 := fun e => by rw [e] at hqo; rw [hqo] at hqx; cases hqx
    refine lv_i2l hx hb dw_conditions_7 rfl ?_
    refine va_last hx hb hK hP1 hD1 hS1 qo 7 hku hTt (vp_in_nI (n := 0) (by decide) (by decide)) dw_conditions_8 (fun H2 locs2 hP2 hD2 hS2 => ?_)
    obtain ⟨g9, hg9⟩ : ∃ g9, g9 = vp_updL g0 (0 : Int32).toNatClampNeg r9.toInt64 := ⟨_, rfl⟩
    rw [← hg9] at hP2 hD2
    refine lv_goto (tgt := 15) hx hb dw_conditions_9 (by decide) ?_
    refine lv_iconst (v := 0) hx hb dw_conditions_15 (by decide) ?_
    exact W.widen (Nat.le_of_ble_eq_true rfl) (Nat.le_of_ble_eq_true rfl) (W.iret (v := 0) hx hb hr (fun t ht hW9 => ⟨⟨0, (u.1, u.2.set qo (sh.2 qo, .inl (cO, 1, .inr (.inl g9)))), rfl, ⟨⟨wr_set hpx hqo (by decide +kernel) (by decide +kernel) hwo ⟨rfl, rfl⟩, g9, wr_get hku, by rw [hg9]; unfold vp_updL; rw [if_pos (by decide), er]⟩, rfl, fx9, by rw [List.getElem?_set_ne hqq]; exact c2u, hf7u⟩, by rw [ht]; exact hP2, hD2⟩, hS2.F ht⟩) hS2.2.2 dw_conditions_16)
set_option maxHeartbeats 4000000 in
set_option maxRecDepth 100000 in
theorem wr_conditions_1_3 {l : Launch} (hl9 : l.stackTraces = false) {PP : Int32 → Int32 → Prop} (hPP : en_P0 PP) (Ω : Nat → en_H → va_W → Prop) (D : va_G) (tys : List (ClassId × FieldType)) (cO cD : ClassId) (sh : en_H) (w : va_W) (sz qx qo : Nat) (fx : List Value) (g0 : (Nat → Int64)) (a1 : Int32) (hb1 : 0 ≤ a1.toInt ∧ a1.toInt ≤ 0) (hTY : tys.map Prod.snd = en_TY0) (hW : en_W PP en_KT k_X6_conditions_10.2.2.2.2.1 sh tys (fun _ => False) w) (hD0 : va_D (va_A w sz) w) (hΩ : en_Om en_om0 sh Ω) (hqx : sh.1[qx]? = some 0) (hwx : w[qx]? = some (sh.2 qx, .inr (12, fx))) (hqo : sh.1[qo]? = some 56) (hwo : w[qo]? = some (sh.2 qo, .inl (cO, 1, .inr (.inl g0)))) (hf7 : fx[8]? = some (.int 3)) :
    Met l yL_conditions (Cond.codeWith yL_conditions cL_conditions 4 (some .int) [(0, 9, 12, 13)] :: en_cw) (en_rm 1 (0, 0)) (va_Pc [.ref (sh.2 qx), .int a1, .ref (sh.2 qo)] (en_B D vwCl (tys ++ [(cO, .long), (cD, .double)]) w sz)) (va_Qi (fun r u => (en_Px tys PP en_KT k_X6_conditions_10.2.2.2.2.1 ((56, 0) :: k_X6_conditions_10.2.2.2.1) sh w u ∧ ∃ g, u.2[qo]? = some (sh.2 qo, .inl (cO, 1, .inr (.inl g))) ∧ g 0 = (3 : Int32).toInt64) ∧ r = 0 ∧ ∃ fx', u.2[qx]? = some (u.1.2 qx, .inr (12, fx')) ∧ fx'[8]? = some (.int a1)) (en_Bw D vwCl (va_A w sz)) (va_A w sz)) 0 0 (va_A w sz) := by
  refine va_MetW (cc := cL_conditions) (maxL := 4) (ret := some .int) (hh := [(0, 9, 12, 13)]) (by decide +kernel) rfl ?_
  intro p e s m args below meth c s₁ B hml hv
  obtain ⟨rfl, hsz, hP, hK, hT⟩ := hv
  subst hsz
  have hx := B.exec
  have hb := B.bytes
  have hr := B.returns
  have hts0 := atoms_spec (ws := Cond.codeWith yL_conditions cL_conditions 4 (some .int) [(0, 9, 12, 13)] :: en_cw) B.pre
  have hts : ∀ z ∈ en_cw, z.before _ s = true := fun z hz => hts0 z (List.mem_cons_of_mem _ hz)
  have hown : s.vm.findClass RL = some m.cls := findClass_of_methodNamed B.named
  have htab := vx_table (x := yL_conditions) B (hts0 _ List.mem_cons_self)
  have hA : ∀ q : Nat, s.heap.size ≤ q → va_A w s.heap.size q := fun q h => Or.inr h
  have hS : va_S (va_A w s.heap.size) s.heap s.heap [] := va_S.rf
  have hK0 : va_K D vwCl tys s := hK.pre
  have hTt : (tys ++ [(cO, .long), (cD, .double)])[7]? = some (cO, .long) := wr_ty hTY
  have hl := lv_entry ([.ref (sh.2 qx), .int a1, .ref (sh.2 qo)]) (n := 4) (Nat.le_of_ble_eq_true rfl)
  rw [lg_entry_eq]
  generalize (lg_sl ([.ref (sh.2 qx), .int a1, .ref (sh.2 qo)]) ++ List.replicate (4 - (lg_sl ([.ref (sh.2 qx), .int a1, .ref (sh.2 qo)])).length) Slot.unset).toArray = ls at hl ⊢
  have hl : lv_has ls 4 [(0, .ref (sh.2 qx)), (1, .int a1), (2, .ref (sh.2 qo))] := hl
  refine lv_aload_n hx hb dw_conditions_0 rfl (lv_at hl 2 rfl) ?_
  refine lv_iconst (v := 0) hx hb dw_conditions_1 (by decide) ?_
  refine lv_aload_n hx hb dw_conditions_2 rfl (lv_at hl 0 rfl) ?_
  refine lv_iload_n hx hb dw_conditions_3 rfl (lv_at hl 1 rfl) ?_
  refine en_hcV (q0 := qx) (b := sh.2 qx) (fs := fx) (co := 12) (ρp := [.ref (sh.2 qx), .int a1, .int 3]) (As := [.int a1]) (rest := [.int 0, .ref (sh.2 qo)]) (lv' := 0) (ct_X6_conditions_10 hl9 hPP Ω) gw_X6_conditions rfl rfl hwx rfl rfl (Nat.le_of_ble_eq_true rfl) ⟨Nat.le_of_ble_eq_true rfl, Nat.le_of_ble_eq_true rfl⟩ ⟨Nat.le_of_ble_eq_true rfl, Nat.le_of_ble_eq_true rfl⟩ (Nat.le_of_ble_eq_true rfl) hx hb (hml.trans hl.1.symm) hts hown hTY hK0 hT hP hD0 hS hA hW hΩ (wr_pf (env := k_X6_conditions_10.2.1.1) (fa := k_X6_conditions_10.2.1.2) ⟨⟨qx, hqx, rfl⟩, ⟨a1, rfl, hb1.1, hb1.2⟩, ⟨_, rfl, by decide, by decide⟩, trivial⟩ (en_ac ⟨qx, _, 12, fx, _, rfl, hwx, hf7, rfl⟩ en_an)) dw_conditions_4 (fun x9 hx9 ce q9 u H1 locs1 hpx hP1 hD1 hS1 hcell hvm hcl => ?_) (fun u res H1 locs1 hrv hpo hP1 hD1 hS1 => ?_)
  · have hku := wr_keep hpx hqo (by decide +kernel) hwo
    have hpx9 := wr_same hpx ((56, 0) :: k_X6_conditions_10.2.2.2.1) (fun z hz => List.mem_cons_of_mem _ hz)
    exact absurd hx9 List.not_mem_nil
  · obtain ⟨hpx, hpo9⟩ := hpo
    have hku := wr_keep hpx hqo (by decide +kernel) hwo
    obtain ⟨r9, rfl⟩ := hrv
    obtain ⟨o9, ho9, ρ9, hpa, hi9, hres⟩ := hpo9
    have ho9 := List.mem_singleton.mp ho9
    subst ho9
    obtain ⟨v9, e9, x9, hx9, l9, u9⟩ := hpa.2.1 2 _ rfl
    subst hx9
    have er : r9 = x9 := Value.int.inj (Option.some.inj ((hres _ rfl).symm.trans e9))
    have er9 : x9 = 3 := Int32.toInt_inj.mp (by rw [show ((3 : Int32)).toInt = 3 from rfl]; have l9 : (3 : Int) ≤ x9.toInt := l9; have u9 : x9.toInt ≤ (3 : Int) := u9; omega)
    rw [er9] at er
    obtain ⟨q9, r8, ci9, fx9, v8, c1, c2, c3, c4⟩ := hpa.2.2 (0, 0, 8, 1, 0, 0) (by decide)
    have e8 : r8 = u.1.2 qx := (Value.ref.inj (Option.some.inj (c1.symm.trans (hi9 0 (by decide))))).trans (hpx.1.at hqx).2.symm
    subst e8
    obtain ⟨e7, c5, c6⟩ := hpx.2.2 qx 0 _ hqx hwx
    have c5 : u.2[qx]? = some (u.1.2 qx, e7) := by rw [(hpx.1.at hqx).2]; exact c5
    have eq9 : q9 = qx := hD1.1 q9 qx _ _ c2 c5 rfl
    subst eq9
    have ci : ci9 = 12 := by rw [(Prod.mk.inj (Option.some.inj (c5.symm.trans c2))).2] at c6; exact c6.1
    subst ci
    have hf7u : fx9[8]? = some (.int a1) := by rw [c3, Option.some.inj (c4.symm.trans (hi9 1 (by decide)))]
    have c2u := c2
    have hqq : ¬ qo = q9 := fun e => by rw [e] at hqo; rw [hqo] at hqx; cases hqx
    refine lv_i2l hx hb dw_conditions_7 rfl ?_
    refine va_last hx hb hK hP1 hD1 hS1 qo 7 hku hTt (vp_in_nI (n := 0) (by decide) (by decide)) dw_conditions_8 (fun H2 locs2 hP2 hD2 hS2 => ?_)
    obtain ⟨g9, hg9⟩ : ∃ g9, g9 = vp_updL g0 (0 : Int32).toNatClampNeg r9.toInt64 := ⟨_, rfl⟩
    rw [← hg9] at hP2 hD2
    refine lv_goto (tgt := 15) hx hb dw_conditions_9 (by decide) ?_
    refine lv_iconst (v := 0) hx hb dw_conditions_15 (by decide) ?_
    exact W.widen (Nat.le_of_ble_eq_true rfl) (Nat.le_of_ble_eq_true rfl) (W.iret (v := 0) hx hb hr (fun t ht hW9 => ⟨⟨0, (u.1, u.2.set qo (sh.2 qo, .inl (cO, 1, .inr (.inl g9)))), rfl, ⟨⟨wr_set hpx hqo (by decide +kernel) (by decide +kernel) hwo ⟨rfl, rfl⟩, g9, wr_get hku, by rw [hg9]; unfold vp_updL; rw [if_pos (by decide), er]⟩, rfl, fx9, by rw [List.getElem?_set_ne hqq]; exact c2u, hf7u⟩, by rw [ht]; exact hP2, hD2⟩, hS2.F ht⟩) hS2.2.2 dw_conditions_16)
set_option maxHeartbeats 4000000 in
set_option maxRecDepth 100000 in
theorem wr_conditions_2_m1 {l : Launch} (hl9 : l.stackTraces = false) {PP : Int32 → Int32 → Prop} (hPP : en_P0 PP) (Ω : Nat → en_H → va_W → Prop) (D : va_G) (tys : List (ClassId × FieldType)) (cO cD : ClassId) (sh : en_H) (w : va_W) (sz qx qo : Nat) (fx : List Value) (g0 : (Nat → Int64)) (a1 : Int32) (hb1 : 1 ≤ a1.toInt ∧ a1.toInt ≤ 1) (hTY : tys.map Prod.snd = en_TY0) (hW : en_W PP en_KT k_X6_conditions_11.2.2.2.2.1 sh tys (fun _ => False) w) (hD0 : va_D (va_A w sz) w) (hΩ : en_Om en_om0 sh Ω) (hqx : sh.1[qx]? = some 0) (hwx : w[qx]? = some (sh.2 qx, .inr (12, fx))) (hqo : sh.1[qo]? = some 56) (hwo : w[qo]? = some (sh.2 qo, .inl (cO, 1, .inr (.inl g0)))) (hf7 : fx[8]? = some (.int (-1))) :
    Met l yL_conditions (Cond.codeWith yL_conditions cL_conditions 4 (some .int) [(0, 9, 12, 13)] :: en_cw) (en_rm 1 (0, 0)) (va_Pc [.ref (sh.2 qx), .int a1, .ref (sh.2 qo)] (en_B D vwCl (tys ++ [(cO, .long), (cD, .double)]) w sz)) (va_Qi (fun r u => (en_Px tys PP en_KT k_X6_conditions_11.2.2.2.2.1 ((56, 0) :: k_X6_conditions_11.2.2.2.1) sh w u ∧ ∃ g, u.2[qo]? = some (sh.2 qo, .inl (cO, 1, .inr (.inl g))) ∧ g 0 = ((-1) : Int32).toInt64) ∧ r = 0 ∧ ∃ fx', u.2[qx]? = some (u.1.2 qx, .inr (12, fx')) ∧ fx'[8]? = some (.int a1)) (en_Bw D vwCl (va_A w sz)) (va_A w sz)) 0 0 (va_A w sz) := by
  refine va_MetW (cc := cL_conditions) (maxL := 4) (ret := some .int) (hh := [(0, 9, 12, 13)]) (by decide +kernel) rfl ?_
  intro p e s m args below meth c s₁ B hml hv
  obtain ⟨rfl, hsz, hP, hK, hT⟩ := hv
  subst hsz
  have hx := B.exec
  have hb := B.bytes
  have hr := B.returns
  have hts0 := atoms_spec (ws := Cond.codeWith yL_conditions cL_conditions 4 (some .int) [(0, 9, 12, 13)] :: en_cw) B.pre
  have hts : ∀ z ∈ en_cw, z.before _ s = true := fun z hz => hts0 z (List.mem_cons_of_mem _ hz)
  have hown : s.vm.findClass RL = some m.cls := findClass_of_methodNamed B.named
  have htab := vx_table (x := yL_conditions) B (hts0 _ List.mem_cons_self)
  have hA : ∀ q : Nat, s.heap.size ≤ q → va_A w s.heap.size q := fun q h => Or.inr h
  have hS : va_S (va_A w s.heap.size) s.heap s.heap [] := va_S.rf
  have hK0 : va_K D vwCl tys s := hK.pre
  have hTt : (tys ++ [(cO, .long), (cD, .double)])[7]? = some (cO, .long) := wr_ty hTY
  have hl := lv_entry ([.ref (sh.2 qx), .int a1, .ref (sh.2 qo)]) (n := 4) (Nat.le_of_ble_eq_true rfl)
  rw [lg_entry_eq]
  generalize (lg_sl ([.ref (sh.2 qx), .int a1, .ref (sh.2 qo)]) ++ List.replicate (4 - (lg_sl ([.ref (sh.2 qx), .int a1, .ref (sh.2 qo)])).length) Slot.unset).toArray = ls at hl ⊢
  have hl : lv_has ls 4 [(0, .ref (sh.2 qx)), (1, .int a1), (2, .ref (sh.2 qo))] := hl
  refine lv_aload_n hx hb dw_conditions_0 rfl (lv_at hl 2 rfl) ?_
  refine lv_iconst (v := 0) hx hb dw_conditions_1 (by decide) ?_
  refine lv_aload_n hx hb dw_conditions_2 rfl (lv_at hl 0 rfl) ?_
  refine lv_iload_n hx hb dw_conditions_3 rfl (lv_at hl 1 rfl) ?_
  refine en_hcV (q0 := qx) (b := sh.2 qx) (fs := fx) (co := 12) (ρp := [.ref (sh.2 qx), .int a1, .int (-1)]) (As := [.int a1]) (rest := [.int 0, .ref (sh.2 qo)]) (lv' := 0) (ct_X6_conditions_11 hl9 hPP Ω) gw_X6_conditions rfl rfl hwx rfl rfl (Nat.le_of_ble_eq_true rfl) ⟨Nat.le_of_ble_eq_true rfl, Nat.le_of_ble_eq_true rfl⟩ ⟨Nat.le_of_ble_eq_true rfl, Nat.le_of_ble_eq_true rfl⟩ (Nat.le_of_ble_eq_true rfl) hx hb (hml.trans hl.1.symm) hts hown hTY hK0 hT hP hD0 hS hA hW hΩ (wr_pf (env := k_X6_conditions_11.2.1.1) (fa := k_X6_conditions_11.2.1.2) ⟨⟨qx, hqx, rfl⟩, ⟨a1, rfl, hb1.1, hb1.2⟩, ⟨_, rfl, by decide, by decide⟩, trivial⟩ (en_ac ⟨qx, _, 12, fx, _, rfl, hwx, hf7, rfl⟩ en_an)) dw_conditions_4 (fun x9 hx9 ce q9 u H1 locs1 hpx hP1 hD1 hS1 hcell hvm hcl => ?_) (fun u res H1 locs1 hrv hpo hP1 hD1 hS1 => ?_)
  · have hku := wr_keep hpx hqo (by decide +kernel) hwo
    have hpx9 := wr_same hpx ((56, 0) :: k_X6_conditions_11.2.2.2.1) (fun z hz => List.mem_cons_of_mem _ hz)
    exact absurd hx9 List.not_mem_nil
  · obtain ⟨hpx, hpo9⟩ := hpo
    have hku := wr_keep hpx hqo (by decide +kernel) hwo
    obtain ⟨r9, rfl⟩ := hrv
    obtain ⟨o9, ho9, ρ9, hpa, hi9, hres⟩ := hpo9
    have ho9 := List.mem_singleton.mp ho9
    subst ho9
    obtain ⟨v9, e9, x9, hx9, l9, u9⟩ := hpa.2.1 2 _ rfl
    subst hx9
    have er : r9 = x9 := Value.int.inj (Option.some.inj ((hres _ rfl).symm.trans e9))
    have er9 : x9 = (-1) := Int32.toInt_inj.mp (by rw [show (((-1) : Int32)).toInt = (-1) from rfl]; have l9 : ((-1) : Int) ≤ x9.toInt := l9; have u9 : x9.toInt ≤ ((-1) : Int) := u9; omega)
    rw [er9] at er
    obtain ⟨q9, r8, ci9, fx9, v8, c1, c2, c3, c4⟩ := hpa.2.2 (0, 0, 8, 1, 0, 0) (by decide)
    have e8 : r8 = u.1.2 qx := (Value.ref.inj (Option.some.inj (c1.symm.trans (hi9 0 (by decide))))).trans (hpx.1.at hqx).2.symm
    subst e8
    obtain ⟨e7, c5, c6⟩ := hpx.2.2 qx 0 _ hqx hwx
    have c5 : u.2[qx]? = some (u.1.2 qx, e7) := by rw [(hpx.1.at hqx).2]; exact c5
    have eq9 : q9 = qx := hD1.1 q9 qx _ _ c2 c5 rfl
    subst eq9
    have ci : ci9 = 12 := by rw [(Prod.mk.inj (Option.some.inj (c5.symm.trans c2))).2] at c6; exact c6.1
    subst ci
    have hf7u : fx9[8]? = some (.int a1) := by rw [c3, Option.some.inj (c4.symm.trans (hi9 1 (by decide)))]
    have c2u := c2
    have hqq : ¬ qo = q9 := fun e => by rw [e] at hqo; rw [hqo] at hqx; cases hqx
    refine lv_i2l hx hb dw_conditions_7 rfl ?_
    refine va_last hx hb hK hP1 hD1 hS1 qo 7 hku hTt (vp_in_nI (n := 0) (by decide) (by decide)) dw_conditions_8 (fun H2 locs2 hP2 hD2 hS2 => ?_)
    obtain ⟨g9, hg9⟩ : ∃ g9, g9 = vp_updL g0 (0 : Int32).toNatClampNeg r9.toInt64 := ⟨_, rfl⟩
    rw [← hg9] at hP2 hD2
    refine lv_goto (tgt := 15) hx hb dw_conditions_9 (by decide) ?_
    refine lv_iconst (v := 0) hx hb dw_conditions_15 (by decide) ?_
    exact W.widen (Nat.le_of_ble_eq_true rfl) (Nat.le_of_ble_eq_true rfl) (W.iret (v := 0) hx hb hr (fun t ht hW9 => ⟨⟨0, (u.1, u.2.set qo (sh.2 qo, .inl (cO, 1, .inr (.inl g9)))), rfl, ⟨⟨wr_set hpx hqo (by decide +kernel) (by decide +kernel) hwo ⟨rfl, rfl⟩, g9, wr_get hku, by rw [hg9]; unfold vp_updL; rw [if_pos (by decide), er]⟩, rfl, fx9, by rw [List.getElem?_set_ne hqq]; exact c2u, hf7u⟩, by rw [ht]; exact hP2, hD2⟩, hS2.F ht⟩) hS2.2.2 dw_conditions_16)
set_option maxHeartbeats 4000000 in
set_option maxRecDepth 100000 in
theorem wr_conditions_2_0 {l : Launch} (hl9 : l.stackTraces = false) {PP : Int32 → Int32 → Prop} (hPP : en_P0 PP) (Ω : Nat → en_H → va_W → Prop) (D : va_G) (tys : List (ClassId × FieldType)) (cO cD : ClassId) (sh : en_H) (w : va_W) (sz qx qo : Nat) (fx : List Value) (g0 : (Nat → Int64)) (a1 : Int32) (hb1 : 1 ≤ a1.toInt ∧ a1.toInt ≤ 1) (hTY : tys.map Prod.snd = en_TY0) (hW : en_W PP en_KT k_X6_conditions_12.2.2.2.2.1 sh tys (fun _ => False) w) (hD0 : va_D (va_A w sz) w) (hΩ : en_Om en_om0 sh Ω) (hqx : sh.1[qx]? = some 0) (hwx : w[qx]? = some (sh.2 qx, .inr (12, fx))) (hqo : sh.1[qo]? = some 56) (hwo : w[qo]? = some (sh.2 qo, .inl (cO, 1, .inr (.inl g0)))) (hf7 : fx[8]? = some (.int 0)) :
    Met l yL_conditions (Cond.codeWith yL_conditions cL_conditions 4 (some .int) [(0, 9, 12, 13)] :: en_cw) (en_rm 1 (0, 0)) (va_Pc [.ref (sh.2 qx), .int a1, .ref (sh.2 qo)] (en_B D vwCl (tys ++ [(cO, .long), (cD, .double)]) w sz)) (va_Qi (fun r u => (en_Px tys PP en_KT k_X6_conditions_12.2.2.2.2.1 ((56, 0) :: k_X6_conditions_12.2.2.2.1) sh w u ∧ ∃ g, u.2[qo]? = some (sh.2 qo, .inl (cO, 1, .inr (.inl g))) ∧ g 0 = (0 : Int32).toInt64) ∧ r = 0 ∧ ∃ fx', u.2[qx]? = some (u.1.2 qx, .inr (12, fx')) ∧ fx'[8]? = some (.int a1)) (en_Bw D vwCl (va_A w sz)) (va_A w sz)) 0 0 (va_A w sz) := by
  refine va_MetW (cc := cL_conditions) (maxL := 4) (ret := some .int) (hh := [(0, 9, 12, 13)]) (by decide +kernel) rfl ?_
  intro p e s m args below meth c s₁ B hml hv
  obtain ⟨rfl, hsz, hP, hK, hT⟩ := hv
  subst hsz
  have hx := B.exec
  have hb := B.bytes
  have hr := B.returns
  have hts0 := atoms_spec (ws := Cond.codeWith yL_conditions cL_conditions 4 (some .int) [(0, 9, 12, 13)] :: en_cw) B.pre
  have hts : ∀ z ∈ en_cw, z.before _ s = true := fun z hz => hts0 z (List.mem_cons_of_mem _ hz)
  have hown : s.vm.findClass RL = some m.cls := findClass_of_methodNamed B.named
  have htab := vx_table (x := yL_conditions) B (hts0 _ List.mem_cons_self)
  have hA : ∀ q : Nat, s.heap.size ≤ q → va_A w s.heap.size q := fun q h => Or.inr h
  have hS : va_S (va_A w s.heap.size) s.heap s.heap [] := va_S.rf
  have hK0 : va_K D vwCl tys s := hK.pre
  have hTt : (tys ++ [(cO, .long), (cD, .double)])[7]? = some (cO, .long) := wr_ty hTY
  have hl := lv_entry ([.ref (sh.2 qx), .int a1, .ref (sh.2 qo)]) (n := 4) (Nat.le_of_ble_eq_true rfl)
  rw [lg_entry_eq]
  generalize (lg_sl ([.ref (sh.2 qx), .int a1, .ref (sh.2 qo)]) ++ List.replicate (4 - (lg_sl ([.ref (sh.2 qx), .int a1, .ref (sh.2 qo)])).length) Slot.unset).toArray = ls at hl ⊢
  have hl : lv_has ls 4 [(0, .ref (sh.2 qx)), (1, .int a1), (2, .ref (sh.2 qo))] := hl
  refine lv_aload_n hx hb dw_conditions_0 rfl (lv_at hl 2 rfl) ?_
  refine lv_iconst (v := 0) hx hb dw_conditions_1 (by decide) ?_
  refine lv_aload_n hx hb dw_conditions_2 rfl (lv_at hl 0 rfl) ?_
  refine lv_iload_n hx hb dw_conditions_3 rfl (lv_at hl 1 rfl) ?_
  refine en_hcV (q0 := qx) (b := sh.2 qx) (fs := fx) (co := 12) (ρp := [.ref (sh.2 qx), .int a1, .int 0]) (As := [.int a1]) (rest := [.int 0, .ref (sh.2 qo)]) (lv' := 0) (ct_X6_conditions_12 hl9 hPP Ω) gw_X6_conditions rfl rfl hwx rfl rfl (Nat.le_of_ble_eq_true rfl) ⟨Nat.le_of_ble_eq_true rfl, Nat.le_of_ble_eq_true rfl⟩ ⟨Nat.le_of_ble_eq_true rfl, Nat.le_of_ble_eq_true rfl⟩ (Nat.le_of_ble_eq_true rfl) hx hb (hml.trans hl.1.symm) hts hown hTY hK0 hT hP hD0 hS hA hW hΩ (wr_pf (env := k_X6_conditions_12.2.1.1) (fa := k_X6_conditions_12.2.1.2) ⟨⟨qx, hqx, rfl⟩, ⟨a1, rfl, hb1.1, hb1.2⟩, ⟨_, rfl, by decide, by decide⟩, trivial⟩ (en_ac ⟨qx, _, 12, fx, _, rfl, hwx, hf7, rfl⟩ en_an)) dw_conditions_4 (fun x9 hx9 ce q9 u H1 locs1 hpx hP1 hD1 hS1 hcell hvm hcl => ?_) (fun u res H1 locs1 hrv hpo hP1 hD1 hS1 => ?_)
  · have hku := wr_keep hpx hqo (by decide +kernel) hwo
    have hpx9 := wr_same hpx ((56, 0) :: k_X6_conditions_12.2.2.2.1) (fun z hz => List.mem_cons_of_mem _ hz)
    exact absurd hx9 List.not_mem_nil
  · obtain ⟨hpx, hpo9⟩ := hpo
    have hku := wr_keep hpx hqo (by decide +kernel) hwo
    obtain ⟨r9, rfl⟩ := hrv
    obtain ⟨o9, ho9, ρ9, hpa, hi9, hres⟩ := hpo9
    have ho9 := List.mem_singleton.mp ho9
    subst ho9
    obtain ⟨v9, e9, x9, hx9, l9, u9⟩ := hpa.2.1 2 _ rfl
    subst hx9
    have er : r9 = x9 := Value.int.inj (Option.some.inj ((hres _ rfl).symm.trans e9))
    have er9 : x9 = 0 := Int32.toInt_inj.mp (by rw [show ((0 : Int32)).toInt = 0 from rfl]; have l9 : (0 : Int) ≤ x9.toInt := l9; have u9 : x9.toInt ≤ (0 : Int) := u9; omega)
    rw [er9] at er
    obtain ⟨q9, r8, ci9, fx9, v8, c1, c2, c3, c4⟩ := hpa.2.2 (0, 0, 8, 1, 0, 0) (by decide)
    have e8 : r8 = u.1.2 qx := (Value.ref.inj (Option.some.inj (c1.symm.trans (hi9 0 (by decide))))).trans (hpx.1.at hqx).2.symm
    subst e8
    obtain ⟨e7, c5, c6⟩ := hpx.2.2 qx 0 _ hqx hwx
    have c5 : u.2[qx]? = some (u.1.2 qx, e7) := by rw [(hpx.1.at hqx).2]; exact c5
    have eq9 : q9 = qx := hD1.1 q9 qx _ _ c2 c5 rfl
    subst eq9
    have ci : ci9 = 12 := by rw [(Prod.mk.inj (Option.some.inj (c5.symm.trans c2))).2] at c6; exact c6.1
    subst ci
    have hf7u : fx9[8]? = some (.int a1) := by rw [c3, Option.some.inj (c4.symm.trans (hi9 1 (by decide)))]
    have c2u := c2
    have hqq : ¬ qo = q9 := fun e => by rw [e] at hqo; rw [hqo] at hqx; cases hqx
    refine lv_i2l hx hb dw_conditions_7 rfl ?_
    refine va_last hx hb hK hP1 hD1 hS1 qo 7 hku hTt (vp_in_nI (n := 0) (by decide) (by decide)) dw_conditions_8 (fun H2 locs2 hP2 hD2 hS2 => ?_)
    obtain ⟨g9, hg9⟩ : ∃ g9, g9 = vp_updL g0 (0 : Int32).toNatClampNeg r9.toInt64 := ⟨_, rfl⟩
    rw [← hg9] at hP2 hD2
    refine lv_goto (tgt := 15) hx hb dw_conditions_9 (by decide) ?_
    refine lv_iconst (v := 0) hx hb dw_conditions_15 (by decide) ?_
    exact W.widen (Nat.le_of_ble_eq_true rfl) (Nat.le_of_ble_eq_true rfl) (W.iret (v := 0) hx hb hr (fun t ht hW9 => ⟨⟨0, (u.1, u.2.set qo (sh.2 qo, .inl (cO, 1, .inr (.inl g9)))), rfl, ⟨⟨wr_set hpx hqo (by decide +kernel) (by decide +kernel) hwo ⟨rfl, rfl⟩, g9, wr_get hku, by rw [hg9]; unfold vp_updL; rw [if_pos (by decide), er]⟩, rfl, fx9, by rw [List.getElem?_set_ne hqq]; exact c2u, hf7u⟩, by rw [ht]; exact hP2, hD2⟩, hS2.F ht⟩) hS2.2.2 dw_conditions_16)
set_option maxHeartbeats 4000000 in
set_option maxRecDepth 100000 in
theorem wr_conditions_2_1 {l : Launch} (hl9 : l.stackTraces = false) {PP : Int32 → Int32 → Prop} (hPP : en_P0 PP) (Ω : Nat → en_H → va_W → Prop) (D : va_G) (tys : List (ClassId × FieldType)) (cO cD : ClassId) (sh : en_H) (w : va_W) (sz qx qo : Nat) (fx : List Value) (g0 : (Nat → Int64)) (a1 : Int32) (hb1 : 1 ≤ a1.toInt ∧ a1.toInt ≤ 1) (hTY : tys.map Prod.snd = en_TY0) (hW : en_W PP en_KT k_X6_conditions_13.2.2.2.2.1 sh tys (fun _ => False) w) (hD0 : va_D (va_A w sz) w) (hΩ : en_Om en_om0 sh Ω) (hqx : sh.1[qx]? = some 0) (hwx : w[qx]? = some (sh.2 qx, .inr (12, fx))) (hqo : sh.1[qo]? = some 56) (hwo : w[qo]? = some (sh.2 qo, .inl (cO, 1, .inr (.inl g0)))) (hf7 : fx[8]? = some (.int 1)) :
    Met l yL_conditions (Cond.codeWith yL_conditions cL_conditions 4 (some .int) [(0, 9, 12, 13)] :: en_cw) (en_rm 1 (0, 0)) (va_Pc [.ref (sh.2 qx), .int a1, .ref (sh.2 qo)] (en_B D vwCl (tys ++ [(cO, .long), (cD, .double)]) w sz)) (va_Qi (fun r u => (en_Px tys PP en_KT k_X6_conditions_13.2.2.2.2.1 ((56, 0) :: k_X6_conditions_13.2.2.2.1) sh w u ∧ ∃ g, u.2[qo]? = some (sh.2 qo, .inl (cO, 1, .inr (.inl g))) ∧ g 0 = (1 : Int32).toInt64) ∧ r = 0 ∧ ∃ fx', u.2[qx]? = some (u.1.2 qx, .inr (12, fx')) ∧ fx'[8]? = some (.int a1)) (en_Bw D vwCl (va_A w sz)) (va_A w sz)) 0 0 (va_A w sz) := by
  refine va_MetW (cc := cL_conditions) (maxL := 4) (ret := some .int) (hh := [(0, 9, 12, 13)]) (by decide +kernel) rfl ?_
  intro p e s m args below meth c s₁ B hml hv
  obtain ⟨rfl, hsz, hP, hK, hT⟩ := hv
  subst hsz
  have hx := B.exec
  have hb := B.bytes
  have hr := B.returns
  have hts0 := atoms_spec (ws := Cond.codeWith yL_conditions cL_conditions 4 (some .int) [(0, 9, 12, 13)] :: en_cw) B.pre
  have hts : ∀ z ∈ en_cw, z.before _ s = true := fun z hz => hts0 z (List.mem_cons_of_mem _ hz)
  have hown : s.vm.findClass RL = some m.cls := findClass_of_methodNamed B.named
  have htab := vx_table (x := yL_conditions) B (hts0 _ List.mem_cons_self)
  have hA : ∀ q : Nat, s.heap.size ≤ q → va_A w s.heap.size q := fun q h => Or.inr h
  have hS : va_S (va_A w s.heap.size) s.heap s.heap [] := va_S.rf
  have hK0 : va_K D vwCl tys s := hK.pre
  have hTt : (tys ++ [(cO, .long), (cD, .double)])[7]? = some (cO, .long) := wr_ty hTY
  have hl := lv_entry ([.ref (sh.2 qx), .int a1, .ref (sh.2 qo)]) (n := 4) (Nat.le_of_ble_eq_true rfl)
  rw [lg_entry_eq]
  generalize (lg_sl ([.ref (sh.2 qx), .int a1, .ref (sh.2 qo)]) ++ List.replicate (4 - (lg_sl ([.ref (sh.2 qx), .int a1, .ref (sh.2 qo)])).length) Slot.unset).toArray = ls at hl ⊢
  have hl : lv_has ls 4 [(0, .ref (sh.2 qx)), (1, .int a1), (2, .ref (sh.2 qo))] := hl
  refine lv_aload_n hx hb dw_conditions_0 rfl (lv_at hl 2 rfl) ?_
  refine lv_iconst (v := 0) hx hb dw_conditions_1 (by decide) ?_
  refine lv_aload_n hx hb dw_conditions_2 rfl (lv_at hl 0 rfl) ?_
  refine lv_iload_n hx hb dw_conditions_3 rfl (lv_at hl 1 rfl) ?_
  refine en_hcV (q0 := qx) (b := sh.2 qx) (fs := fx) (co := 12) (ρp := [.ref (sh.2 qx), .int a1, .int 1]) (As := [.int a1]) (rest := [.int 0, .ref (sh.2 qo)]) (lv' := 0) (ct_X6_conditions_13 hl9 hPP Ω) gw_X6_conditions rfl rfl hwx rfl rfl (Nat.le_of_ble_eq_true rfl) ⟨Nat.le_of_ble_eq_true rfl, Nat.le_of_ble_eq_true rfl⟩ ⟨Nat.le_of_ble_eq_true rfl, Nat.le_of_ble_eq_true rfl⟩ (Nat.le_of_ble_eq_true rfl) hx hb (hml.trans hl.1.symm) hts hown hTY hK0 hT hP hD0 hS hA hW hΩ (wr_pf (env := k_X6_conditions_13.2.1.1) (fa := k_X6_conditions_13.2.1.2) ⟨⟨qx, hqx, rfl⟩, ⟨a1, rfl, hb1.1, hb1.2⟩, ⟨_, rfl, by decide, by decide⟩, trivial⟩ (en_ac ⟨qx, _, 12, fx, _, rfl, hwx, hf7, rfl⟩ en_an)) dw_conditions_4 (fun x9 hx9 ce q9 u H1 locs1 hpx hP1 hD1 hS1 hcell hvm hcl => ?_) (fun u res H1 locs1 hrv hpo hP1 hD1 hS1 => ?_)
  · have hku := wr_keep hpx hqo (by decide +kernel) hwo
    have hpx9 := wr_same hpx ((56, 0) :: k_X6_conditions_13.2.2.2.1) (fun z hz => List.mem_cons_of_mem _ hz)
    exact absurd hx9 List.not_mem_nil
  · obtain ⟨hpx, hpo9⟩ := hpo
    have hku := wr_keep hpx hqo (by decide +kernel) hwo
    obtain ⟨r9, rfl⟩ := hrv
    obtain ⟨o9, ho9, ρ9, hpa, hi9, hres⟩ := hpo9
    have ho9 := List.mem_singleton.mp ho9
    subst ho9
    obtain ⟨v9, e9, x9, hx9, l9, u9⟩ := hpa.2.1 2 _ rfl
    subst hx9
    have er : r9 = x9 := Value.int.inj (Option.some.inj ((hres _ rfl).symm.trans e9))
    have er9 : x9 = 1 := Int32.toInt_inj.mp (by rw [show ((1 : Int32)).toInt = 1 from rfl]; have l9 : (1 : Int) ≤ x9.toInt := l9; have u9 : x9.toInt ≤ (1 : Int) := u9; omega)
    rw [er9] at er
    obtain ⟨q9, r8, ci9, fx9, v8, c1, c2, c3, c4⟩ := hpa.2.2 (0, 0, 8, 1, 0, 0) (by decide)
    have e8 : r8 = u.1.2 qx := (Value.ref.inj (Option.some.inj (c1.symm.trans (hi9 0 (by decide))))).trans (hpx.1.at hqx).2.symm
    subst e8
    obtain ⟨e7, c5, c6⟩ := hpx.2.2 qx 0 _ hqx hwx
    have c5 : u.2[qx]? = some (u.1.2 qx, e7) := by rw [(hpx.1.at hqx).2]; exact c5
    have eq9 : q9 = qx := hD1.1 q9 qx _ _ c2 c5 rfl
    subst eq9
    have ci : ci9 = 12 := by rw [(Prod.mk.inj (Option.some.inj (c5.symm.trans c2))).2] at c6; exact c6.1
    subst ci
    have hf7u : fx9[8]? = some (.int a1) := by rw [c3, Option.some.inj (c4.symm.trans (hi9 1 (by decide)))]
    have c2u := c2
    have hqq : ¬ qo = q9 := fun e => by rw [e] at hqo; rw [hqo] at hqx; cases hqx
    refine lv_i2l hx hb dw_conditions_7 rfl ?_
    refine va_last hx hb hK hP1 hD1 hS1 qo 7 hku hTt (vp_in_nI (n := 0) (by decide) (by decide)) dw_conditions_8 (fun H2 locs2 hP2 hD2 hS2 => ?_)
    obtain ⟨g9, hg9⟩ : ∃ g9, g9 = vp_updL g0 (0 : Int32).toNatClampNeg r9.toInt64 := ⟨_, rfl⟩
    rw [← hg9] at hP2 hD2
    refine lv_goto (tgt := 15) hx hb dw_conditions_9 (by decide) ?_
    refine lv_iconst (v := 0) hx hb dw_conditions_15 (by decide) ?_
    exact W.widen (Nat.le_of_ble_eq_true rfl) (Nat.le_of_ble_eq_true rfl) (W.iret (v := 0) hx hb hr (fun t ht hW9 => ⟨⟨0, (u.1, u.2.set qo (sh.2 qo, .inl (cO, 1, .inr (.inl g9)))), rfl, ⟨⟨wr_set hpx hqo (by decide +kernel) (by decide +kernel) hwo ⟨rfl, rfl⟩, g9, wr_get hku, by rw [hg9]; unfold vp_updL; rw [if_pos (by decide), er]⟩, rfl, fx9, by rw [List.getElem?_set_ne hqq]; exact c2u, hf7u⟩, by rw [ht]; exact hP2, hD2⟩, hS2.F ht⟩) hS2.2.2 dw_conditions_16)
set_option maxHeartbeats 4000000 in
set_option maxRecDepth 100000 in
theorem wr_conditions_2_2 {l : Launch} (hl9 : l.stackTraces = false) {PP : Int32 → Int32 → Prop} (hPP : en_P0 PP) (Ω : Nat → en_H → va_W → Prop) (D : va_G) (tys : List (ClassId × FieldType)) (cO cD : ClassId) (sh : en_H) (w : va_W) (sz qx qo : Nat) (fx : List Value) (g0 : (Nat → Int64)) (a1 : Int32) (hb1 : 1 ≤ a1.toInt ∧ a1.toInt ≤ 1) (hTY : tys.map Prod.snd = en_TY0) (hW : en_W PP en_KT k_X6_conditions_14.2.2.2.2.1 sh tys (fun _ => False) w) (hD0 : va_D (va_A w sz) w) (hΩ : en_Om en_om0 sh Ω) (hqx : sh.1[qx]? = some 0) (hwx : w[qx]? = some (sh.2 qx, .inr (12, fx))) (hqo : sh.1[qo]? = some 56) (hwo : w[qo]? = some (sh.2 qo, .inl (cO, 1, .inr (.inl g0)))) (hf7 : fx[8]? = some (.int 2)) :
    Met l yL_conditions (Cond.codeWith yL_conditions cL_conditions 4 (some .int) [(0, 9, 12, 13)] :: en_cw) (en_rm 1 (0, 0)) (va_Pc [.ref (sh.2 qx), .int a1, .ref (sh.2 qo)] (en_B D vwCl (tys ++ [(cO, .long), (cD, .double)]) w sz)) (va_Qi (fun r u => (en_Px tys PP en_KT k_X6_conditions_14.2.2.2.2.1 ((56, 0) :: k_X6_conditions_14.2.2.2.1) sh w u ∧ ∃ g, u.2[qo]? = some (sh.2 qo, .inl (cO, 1, .inr (.inl g))) ∧ g 0 = (2 : Int32).toInt64) ∧ r = 0 ∧ ∃ fx', u.2[qx]? = some (u.1.2 qx, .inr (12, fx')) ∧ fx'[8]? = some (.int a1)) (en_Bw D vwCl (va_A w sz)) (va_A w sz)) 0 0 (va_A w sz) := by
  refine va_MetW (cc := cL_conditions) (maxL := 4) (ret := some .int) (hh := [(0, 9, 12, 13)]) (by decide +kernel) rfl ?_
  intro p e s m args below meth c s₁ B hml hv
  obtain ⟨rfl, hsz, hP, hK, hT⟩ := hv
  subst hsz
  have hx := B.exec
  have hb := B.bytes
  have hr := B.returns
  have hts0 := atoms_spec (ws := Cond.codeWith yL_conditions cL_conditions 4 (some .int) [(0, 9, 12, 13)] :: en_cw) B.pre
  have hts : ∀ z ∈ en_cw, z.before _ s = true := fun z hz => hts0 z (List.mem_cons_of_mem _ hz)
  have hown : s.vm.findClass RL = some m.cls := findClass_of_methodNamed B.named
  have htab := vx_table (x := yL_conditions) B (hts0 _ List.mem_cons_self)
  have hA : ∀ q : Nat, s.heap.size ≤ q → va_A w s.heap.size q := fun q h => Or.inr h
  have hS : va_S (va_A w s.heap.size) s.heap s.heap [] := va_S.rf
  have hK0 : va_K D vwCl tys s := hK.pre
  have hTt : (tys ++ [(cO, .long), (cD, .double)])[7]? = some (cO, .long) := wr_ty hTY
  have hl := lv_entry ([.ref (sh.2 qx), .int a1, .ref (sh.2 qo)]) (n := 4) (Nat.le_of_ble_eq_true rfl)
  rw [lg_entry_eq]
  generalize (lg_sl ([.ref (sh.2 qx), .int a1, .ref (sh.2 qo)]) ++ List.replicate (4 - (lg_sl ([.ref (sh.2 qx), .int a1, .ref (sh.2 qo)])).length) Slot.unset).toArray = ls at hl ⊢
  have hl : lv_has ls 4 [(0, .ref (sh.2 qx)), (1, .int a1), (2, .ref (sh.2 qo))] := hl
  refine lv_aload_n hx hb dw_conditions_0 rfl (lv_at hl 2 rfl) ?_
  refine lv_iconst (v := 0) hx hb dw_conditions_1 (by decide) ?_
  refine lv_aload_n hx hb dw_conditions_2 rfl (lv_at hl 0 rfl) ?_
  refine lv_iload_n hx hb dw_conditions_3 rfl (lv_at hl 1 rfl) ?_
  refine en_hcV (q0 := qx) (b := sh.2 qx) (fs := fx) (co := 12) (ρp := [.ref (sh.2 qx), .int a1, .int 2]) (As := [.int a1]) (rest := [.int 0, .ref (sh.2 qo)]) (lv' := 0) (ct_X6_conditions_14 hl9 hPP Ω) gw_X6_conditions rfl rfl hwx rfl rfl (Nat.le_of_ble_eq_true rfl) ⟨Nat.le_of_ble_eq_true rfl, Nat.le_of_ble_eq_true rfl⟩ ⟨Nat.le_of_ble_eq_true rfl, Nat.le_of_ble_eq_true rfl⟩ (Nat.le_of_ble_eq_true rfl) hx hb (hml.trans hl.1.symm) hts hown hTY hK0 hT hP hD0 hS hA hW hΩ (wr_pf (env := k_X6_conditions_14.2.1.1) (fa := k_X6_conditions_14.2.1.2) ⟨⟨qx, hqx, rfl⟩, ⟨a1, rfl, hb1.1, hb1.2⟩, ⟨_, rfl, by decide, by decide⟩, trivial⟩ (en_ac ⟨qx, _, 12, fx, _, rfl, hwx, hf7, rfl⟩ en_an)) dw_conditions_4 (fun x9 hx9 ce q9 u H1 locs1 hpx hP1 hD1 hS1 hcell hvm hcl => ?_) (fun u res H1 locs1 hrv hpo hP1 hD1 hS1 => ?_)
  · have hku := wr_keep hpx hqo (by decide +kernel) hwo
    have hpx9 := wr_same hpx ((56, 0) :: k_X6_conditions_14.2.2.2.1) (fun z hz => List.mem_cons_of_mem _ hz)
    exact absurd hx9 List.not_mem_nil
  · obtain ⟨hpx, hpo9⟩ := hpo
    have hku := wr_keep hpx hqo (by decide +kernel) hwo
    obtain ⟨r9, rfl⟩ := hrv
    obtain ⟨o9, ho9, ρ9, hpa, hi9, hres⟩ := hpo9
    have ho9 := List.mem_singleton.mp ho9
    subst ho9
    obtain ⟨v9, e9, x9, hx9, l9, u9⟩ := hpa.2.1 2 _ rfl
    subst hx9
    have er : r9 = x9 := Value.int.inj (Option.some.inj ((hres _ rfl).symm.trans e9))
    have er9 : x9 = 2 := Int32.toInt_inj.mp (by rw [show ((2 : Int32)).toInt = 2 from rfl]; have l9 : (2 : Int) ≤ x9.toInt := l9; have u9 : x9.toInt ≤ (2 : Int) := u9; omega)
    rw [er9] at er
    obtain ⟨q9, r8, ci9, fx9, v8, c1, c2, c3, c4⟩ := hpa.2.2 (0, 0, 8, 1, 0, 0) (by decide)
    have e8 : r8 = u.1.2 qx := (Value.ref.inj (Option.some.inj (c1.symm.trans (hi9 0 (by decide))))).trans (hpx.1.at hqx).2.symm
    subst e8
    obtain ⟨e7, c5, c6⟩ := hpx.2.2 qx 0 _ hqx hwx
    have c5 : u.2[qx]? = some (u.1.2 qx, e7) := by rw [(hpx.1.at hqx).2]; exact c5
    have eq9 : q9 = qx := hD1.1 q9 qx _ _ c2 c5 rfl
    subst eq9
    have ci : ci9 = 12 := by rw [(Prod.mk.inj (Option.some.inj (c5.symm.trans c2))).2] at c6; exact c6.1
    subst ci
    have hf7u : fx9[8]? = some (.int a1) := by rw [c3, Option.some.inj (c4.symm.trans (hi9 1 (by decide)))]
    have c2u := c2
    have hqq : ¬ qo = q9 := fun e => by rw [e] at hqo; rw [hqo] at hqx; cases hqx
    refine lv_i2l hx hb dw_conditions_7 rfl ?_
    refine va_last hx hb hK hP1 hD1 hS1 qo 7 hku hTt (vp_in_nI (n := 0) (by decide) (by decide)) dw_conditions_8 (fun H2 locs2 hP2 hD2 hS2 => ?_)
    obtain ⟨g9, hg9⟩ : ∃ g9, g9 = vp_updL g0 (0 : Int32).toNatClampNeg r9.toInt64 := ⟨_, rfl⟩
    rw [← hg9] at hP2 hD2
    refine lv_goto (tgt := 15) hx hb dw_conditions_9 (by decide) ?_
    refine lv_iconst (v := 0) hx hb dw_conditions_15 (by decide) ?_
    exact W.widen (Nat.le_of_ble_eq_true rfl) (Nat.le_of_ble_eq_true rfl) (W.iret (v := 0) hx hb hr (fun t ht hW9 => ⟨⟨0, (u.1, u.2.set qo (sh.2 qo, .inl (cO, 1, .inr (.inl g9)))), rfl, ⟨⟨wr_set hpx hqo (by decide +kernel) (by decide +kernel) hwo ⟨rfl, rfl⟩, g9, wr_get hku, by rw [hg9]; unfold vp_updL; rw [if_pos (by decide), er]⟩, rfl, fx9, by rw [List.getElem?_set_ne hqq]; exact c2u, hf7u⟩, by rw [ht]; exact hP2, hD2⟩, hS2.F ht⟩) hS2.2.2 dw_conditions_16)
set_option maxHeartbeats 4000000 in
set_option maxRecDepth 100000 in
theorem wr_conditions_2_3 {l : Launch} (hl9 : l.stackTraces = false) {PP : Int32 → Int32 → Prop} (hPP : en_P0 PP) (Ω : Nat → en_H → va_W → Prop) (D : va_G) (tys : List (ClassId × FieldType)) (cO cD : ClassId) (sh : en_H) (w : va_W) (sz qx qo : Nat) (fx : List Value) (g0 : (Nat → Int64)) (a1 : Int32) (hb1 : 1 ≤ a1.toInt ∧ a1.toInt ≤ 1) (hTY : tys.map Prod.snd = en_TY0) (hW : en_W PP en_KT k_X6_conditions_15.2.2.2.2.1 sh tys (fun _ => False) w) (hD0 : va_D (va_A w sz) w) (hΩ : en_Om en_om0 sh Ω) (hqx : sh.1[qx]? = some 0) (hwx : w[qx]? = some (sh.2 qx, .inr (12, fx))) (hqo : sh.1[qo]? = some 56) (hwo : w[qo]? = some (sh.2 qo, .inl (cO, 1, .inr (.inl g0)))) (hf7 : fx[8]? = some (.int 3)) :
    Met l yL_conditions (Cond.codeWith yL_conditions cL_conditions 4 (some .int) [(0, 9, 12, 13)] :: en_cw) (en_rm 1 (0, 0)) (va_Pc [.ref (sh.2 qx), .int a1, .ref (sh.2 qo)] (en_B D vwCl (tys ++ [(cO, .long), (cD, .double)]) w sz)) (va_Qi (fun r u => (en_Px tys PP en_KT k_X6_conditions_15.2.2.2.2.1 ((56, 0) :: k_X6_conditions_15.2.2.2.1) sh w u ∧ ∃ g, u.2[qo]? = some (sh.2 qo, .inl (cO, 1, .inr (.inl g))) ∧ g 0 = (3 : Int32).toInt64) ∧ r = 0 ∧ ∃ fx', u.2[qx]? = some (u.1.2 qx, .inr (12, fx')) ∧ fx'[8]? = some (.int a1)) (en_Bw D vwCl (va_A w sz)) (va_A w sz)) 0 0 (va_A w sz) := by
  refine va_MetW (cc := cL_conditions) (maxL := 4) (ret := some .int) (hh := [(0, 9, 12, 13)]) (by decide +kernel) rfl ?_
  intro p e s m args below meth c s₁ B hml hv
  obtain ⟨rfl, hsz, hP, hK, hT⟩ := hv
  subst hsz
  have hx := B.exec
  have hb := B.bytes
  have hr := B.returns
  have hts0 := atoms_spec (ws := Cond.codeWith yL_conditions cL_conditions 4 (some .int) [(0, 9, 12, 13)] :: en_cw) B.pre
  have hts : ∀ z ∈ en_cw, z.before _ s = true := fun z hz => hts0 z (List.mem_cons_of_mem _ hz)
  have hown : s.vm.findClass RL = some m.cls := findClass_of_methodNamed B.named
  have htab := vx_table (x := yL_conditions) B (hts0 _ List.mem_cons_self)
  have hA : ∀ q : Nat, s.heap.size ≤ q → va_A w s.heap.size q := fun q h => Or.inr h
  have hS : va_S (va_A w s.heap.size) s.heap s.heap [] := va_S.rf
  have hK0 : va_K D vwCl tys s := hK.pre
  have hTt : (tys ++ [(cO, .long), (cD, .double)])[7]? = some (cO, .long) := wr_ty hTY
  have hl := lv_entry ([.ref (sh.2 qx), .int a1, .ref (sh.2 qo)]) (n := 4) (Nat.le_of_ble_eq_true rfl)
  rw [lg_entry_eq]
  generalize (lg_sl ([.ref (sh.2 qx), .int a1, .ref (sh.2 qo)]) ++ List.replicate (4 - (lg_sl ([.ref (sh.2 qx), .int a1, .ref (sh.2 qo)])).length) Slot.unset).toArray = ls at hl ⊢
  have hl : lv_has ls 4 [(0, .ref (sh.2 qx)), (1, .int a1), (2, .ref (sh.2 qo))] := hl
  refine lv_aload_n hx hb dw_conditions_0 rfl (lv_at hl 2 rfl) ?_
  refine lv_iconst (v := 0) hx hb dw_conditions_1 (by decide) ?_
  refine lv_aload_n hx hb dw_conditions_2 rfl (lv_at hl 0 rfl) ?_
  refine lv_iload_n hx hb dw_conditions_3 rfl (lv_at hl 1 rfl) ?_
  refine en_hcV (q0 := qx) (b := sh.2 qx) (fs := fx) (co := 12) (ρp := [.ref (sh.2 qx), .int a1, .int 3]) (As := [.int a1]) (rest := [.int 0, .ref (sh.2 qo)]) (lv' := 0) (ct_X6_conditions_15 hl9 hPP Ω) gw_X6_conditions rfl rfl hwx rfl rfl (Nat.le_of_ble_eq_true rfl) ⟨Nat.le_of_ble_eq_true rfl, Nat.le_of_ble_eq_true rfl⟩ ⟨Nat.le_of_ble_eq_true rfl, Nat.le_of_ble_eq_true rfl⟩ (Nat.le_of_ble_eq_true rfl) hx hb (hml.trans hl.1.symm) hts hown hTY hK0 hT hP hD0 hS hA hW hΩ (wr_pf (env := k_X6_conditions_15.2.1.1) (fa := k_X6_conditions_15.2.1.2) ⟨⟨qx, hqx, rfl⟩, ⟨a1, rfl, hb1.1, hb1.2⟩, ⟨_, rfl, by decide, by decide⟩, trivial⟩ (en_ac ⟨qx, _, 12, fx, _, rfl, hwx, hf7, rfl⟩ en_an)) dw_conditions_4 (fun x9 hx9 ce q9 u H1 locs1 hpx hP1 hD1 hS1 hcell hvm hcl => ?_) (fun u res H1 locs1 hrv hpo hP1 hD1 hS1 => ?_)
  · have hku := wr_keep hpx hqo (by decide +kernel) hwo
    have hpx9 := wr_same hpx ((56, 0) :: k_X6_conditions_15.2.2.2.1) (fun z hz => List.mem_cons_of_mem _ hz)
    exact absurd hx9 List.not_mem_nil
  · obtain ⟨hpx, hpo9⟩ := hpo
    have hku := wr_keep hpx hqo (by decide +kernel) hwo
    obtain ⟨r9, rfl⟩ := hrv
    obtain ⟨o9, ho9, ρ9, hpa, hi9, hres⟩ := hpo9
    have ho9 := List.mem_singleton.mp ho9
    subst ho9
    obtain ⟨v9, e9, x9, hx9, l9, u9⟩ := hpa.2.1 2 _ rfl
    subst hx9
    have er : r9 = x9 := Value.int.inj (Option.some.inj ((hres _ rfl).symm.trans e9))
    have er9 : x9 = 3 := Int32.toInt_inj.mp (by rw [show ((3 : Int32)).toInt = 3 from rfl]; have l9 : (3 : Int) ≤ x9.toInt := l9; have u9 : x9.toInt ≤ (3 : Int) := u9; omega)
    rw [er9] at er
    obtain ⟨q9, r8, ci9, fx9, v8, c1, c2, c3, c4⟩ := hpa.2.2 (0, 0, 8, 1, 0, 0) (by decide)
    have e8 : r8 = u.1.2 qx := (Value.ref.inj (Option.some.inj (c1.symm.trans (hi9 0 (by decide))))).trans (hpx.1.at hqx).2.symm
    subst e8
    obtain ⟨e7, c5, c6⟩ := hpx.2.2 qx 0 _ hqx hwx
    have c5 : u.2[qx]? = some (u.1.2 qx, e7) := by rw [(hpx.1.at hqx).2]; exact c5
    have eq9 : q9 = qx := hD1.1 q9 qx _ _ c2 c5 rfl
    subst eq9
    have ci : ci9 = 12 := by rw [(Prod.mk.inj (Option.some.inj (c5.symm.trans c2))).2] at c6; exact c6.1
    subst ci
    have hf7u : fx9[8]? = some (.int a1) := by rw [c3, Option.some.inj (c4.symm.trans (hi9 1 (by decide)))]
    have c2u := c2
    have hqq : ¬ qo = q9 := fun e => by rw [e] at hqo; rw [hqo] at hqx; cases hqx
    refine lv_i2l hx hb dw_conditions_7 rfl ?_
    refine va_last hx hb hK hP1 hD1 hS1 qo 7 hku hTt (vp_in_nI (n := 0) (by decide) (by decide)) dw_conditions_8 (fun H2 locs2 hP2 hD2 hS2 => ?_)
    obtain ⟨g9, hg9⟩ : ∃ g9, g9 = vp_updL g0 (0 : Int32).toNatClampNeg r9.toInt64 := ⟨_, rfl⟩
    rw [← hg9] at hP2 hD2
    refine lv_goto (tgt := 15) hx hb dw_conditions_9 (by decide) ?_
    refine lv_iconst (v := 0) hx hb dw_conditions_15 (by decide) ?_
    exact W.widen (Nat.le_of_ble_eq_true rfl) (Nat.le_of_ble_eq_true rfl) (W.iret (v := 0) hx hb hr (fun t ht hW9 => ⟨⟨0, (u.1, u.2.set qo (sh.2 qo, .inl (cO, 1, .inr (.inl g9)))), rfl, ⟨⟨wr_set hpx hqo (by decide +kernel) (by decide +kernel) hwo ⟨rfl, rfl⟩, g9, wr_get hku, by rw [hg9]; unfold vp_updL; rw [if_pos (by decide), er]⟩, rfl, fx9, by rw [List.getElem?_set_ne hqq]; exact c2u, hf7u⟩, by rw [ht]; exact hP2, hD2⟩, hS2.F ht⟩) hS2.2.2 dw_conditions_16)
set_option maxHeartbeats 4000000 in
set_option maxRecDepth 100000 in
theorem wr_conditions_3_m1 {l : Launch} (hl9 : l.stackTraces = false) {PP : Int32 → Int32 → Prop} (hPP : en_P0 PP) (Ω : Nat → en_H → va_W → Prop) (D : va_G) (tys : List (ClassId × FieldType)) (cO cD : ClassId) (sh : en_H) (w : va_W) (sz qx qo : Nat) (fx : List Value) (g0 : (Nat → Int64)) (a1 : Int32) (hb1 : 2 ≤ a1.toInt ∧ a1.toInt ≤ 2) (hTY : tys.map Prod.snd = en_TY0) (hW : en_W PP en_KT k_X6_conditions_16.2.2.2.2.1 sh tys (fun _ => False) w) (hD0 : va_D (va_A w sz) w) (hΩ : en_Om en_om0 sh Ω) (hqx : sh.1[qx]? = some 0) (hwx : w[qx]? = some (sh.2 qx, .inr (12, fx))) (hqo : sh.1[qo]? = some 56) (hwo : w[qo]? = some (sh.2 qo, .inl (cO, 1, .inr (.inl g0)))) (hf7 : fx[8]? = some (.int (-1))) :
    Met l yL_conditions (Cond.codeWith yL_conditions cL_conditions 4 (some .int) [(0, 9, 12, 13)] :: en_cw) (en_rm 1 (0, 0)) (va_Pc [.ref (sh.2 qx), .int a1, .ref (sh.2 qo)] (en_B D vwCl (tys ++ [(cO, .long), (cD, .double)]) w sz)) (va_Qi (fun r u => (en_Px tys PP en_KT k_X6_conditions_16.2.2.2.2.1 ((56, 0) :: k_X6_conditions_16.2.2.2.1) sh w u ∧ ∃ g, u.2[qo]? = some (sh.2 qo, .inl (cO, 1, .inr (.inl g))) ∧ g 0 = ((-1) : Int32).toInt64) ∧ r = 0 ∧ ∃ fx', u.2[qx]? = some (u.1.2 qx, .inr (12, fx')) ∧ fx'[8]? = some (.int a1)) (en_Bw D vwCl (va_A w sz)) (va_A w sz)) 0 0 (va_A w sz) := by
  refine va_MetW (cc := cL_conditions) (maxL := 4) (ret := some .int) (hh := [(0, 9, 12, 13)]) (by decide +kernel) rfl ?_
  intro p e s m args below meth c s₁ B hml hv
  obtain ⟨rfl, hsz, hP, hK, hT⟩ := hv
  subst hsz
  have hx := B.exec
  have hb := B.bytes
  have hr := B.returns
  have hts0 := atoms_spec (ws := Cond.codeWith yL_conditions cL_conditions 4 (some .int) [(0, 9, 12, 13)] :: en_cw) B.pre
  have hts : ∀ z ∈ en_cw, z.before _ s = true := fun z hz => hts0 z (List.mem_cons_of_mem _ hz)
  have hown : s.vm.findClass RL = some m.cls := findClass_of_methodNamed B.named
  have htab := vx_table (x := yL_conditions) B (hts0 _ List.mem_cons_self)
  have hA : ∀ q : Nat, s.heap.size ≤ q → va_A w s.heap.size q := fun q h => Or.inr h
  have hS : va_S (va_A w s.heap.size) s.heap s.heap [] := va_S.rf
  have hK0 : va_K D vwCl tys s := hK.pre
  have hTt : (tys ++ [(cO, .long), (cD, .double)])[7]? = some (cO, .long) := wr_ty hTY
  have hl := lv_entry ([.ref (sh.2 qx), .int a1, .ref (sh.2 qo)]) (n := 4) (Nat.le_of_ble_eq_true rfl)
  rw [lg_entry_eq]
  generalize (lg_sl ([.ref (sh.2 qx), .int a1, .ref (sh.2 qo)]) ++ List.replicate (4 - (lg_sl ([.ref (sh.2 qx), .int a1, .ref (sh.2 qo)])).length) Slot.unset).toArray = ls at hl ⊢
  have hl : lv_has ls 4 [(0, .ref (sh.2 qx)), (1, .int a1), (2, .ref (sh.2 qo))] := hl
  refine lv_aload_n hx hb dw_conditions_0 rfl (lv_at hl 2 rfl) ?_
  refine lv_iconst (v := 0) hx hb dw_conditions_1 (by decide) ?_
  refine lv_aload_n hx hb dw_conditions_2 rfl (lv_at hl 0 rfl) ?_
  refine lv_iload_n hx hb dw_conditions_3 rfl (lv_at hl 1 rfl) ?_
  refine en_hcV (q0 := qx) (b := sh.2 qx) (fs := fx) (co := 12) (ρp := [.ref (sh.2 qx), .int a1, .int (-1)]) (As := [.int a1]) (rest := [.int 0, .ref (sh.2 qo)]) (lv' := 0) (ct_X6_conditions_16 hl9 hPP Ω) gw_X6_conditions rfl rfl hwx rfl rfl (Nat.le_of_ble_eq_true rfl) ⟨Nat.le_of_ble_eq_true rfl, Nat.le_of_ble_eq_true rfl⟩ ⟨Nat.le_of_ble_eq_true rfl, Nat.le_of_ble_eq_true rfl⟩ (Nat.le_of_ble_eq_true rfl) hx hb (hml.trans hl.1.symm) hts hown hTY hK0 hT hP hD0 hS hA hW hΩ (wr_pf (env := k_X6_conditions_16.2.1.1) (fa := k_X6_conditions_16.2.1.2) ⟨⟨qx, hqx, rfl⟩, ⟨a1, rfl, hb1.1, hb1.2⟩, ⟨_, rfl, by decide, by decide⟩, trivial⟩ (en_ac ⟨qx, _, 12, fx, _, rfl, hwx, hf7, rfl⟩ en_an)) dw_conditions_4 (fun x9 hx9 ce q9 u H1 locs1 hpx hP1 hD1 hS1 hcell hvm hcl => ?_) (fun u res H1 locs1 hrv hpo hP1 hD1 hS1 => ?_)
  · have hku := wr_keep hpx hqo (by decide +kernel) hwo
    have hpx9 := wr_same hpx ((56, 0) :: k_X6_conditions_16.2.2.2.1) (fun z hz => List.mem_cons_of_mem _ hz)
    exact absurd hx9 List.not_mem_nil
  · obtain ⟨hpx, hpo9⟩ := hpo
    have hku := wr_keep hpx hqo (by decide +kernel) hwo
    obtain ⟨r9, rfl⟩ := hrv
    obtain ⟨o9, ho9, ρ9, hpa, hi9, hres⟩ := hpo9
    have ho9 := List.mem_singleton.mp ho9
    subst ho9
    obtain ⟨v9, e9, x9, hx9, l9, u9⟩ := hpa.2.1 2 _ rfl
    subst hx9
    have er : r9 = x9 := Value.int.inj (Option.some.inj ((hres _ rfl).symm.trans e9))
    have er9 : x9 = (-1) := Int32.toInt_inj.mp (by rw [show (((-1) : Int32)).toInt = (-1) from rfl]; have l9 : ((-1) : Int) ≤ x9.toInt := l9; have u9 : x9.toInt ≤ ((-1) : Int) := u9; omega)
    rw [er9] at er
    obtain ⟨q9, r8, ci9, fx9, v8, c1, c2, c3, c4⟩ := hpa.2.2 (0, 0, 8, 1, 0, 0) (by decide)
    have e8 : r8 = u.1.2 qx := (Value.ref.inj (Option.some.inj (c1.symm.trans (hi9 0 (by decide))))).trans (hpx.1.at hqx).2.symm
    subst e8
    obtain ⟨e7, c5, c6⟩ := hpx.2.2 qx 0 _ hqx hwx
    have c5 : u.2[qx]? = some (u.1.2 qx, e7) := by rw [(hpx.1.at hqx).2]; exact c5
    have eq9 : q9 = qx := hD1.1 q9 qx _ _ c2 c5 rfl
    subst eq9
    have ci : ci9 = 12 := by rw [(Prod.mk.inj (Option.some.inj (c5.symm.trans c2))).2] at c6; exact c6.1
    subst ci
    have hf7u : fx9[8]? = some (.int a1) := by rw [c3, Option.some.inj (c4.symm.trans (hi9 1 (by decide)))]
    have c2u := c2
    have hqq : ¬ qo = q9 := fun e => by rw [e] at hqo; rw [hqo] at hqx; cases hqx
    refine lv_i2l hx hb dw_conditions_7 rfl ?_
    refine va_last hx hb hK hP1 hD1 hS1 qo 7 hku hTt (vp_in_nI (n := 0) (by decide) (by decide)) dw_conditions_8 (fun H2 locs2 hP2 hD2 hS2 => ?_)
    obtain ⟨g9, hg9⟩ : ∃ g9, g9 = vp_updL g0 (0 : Int32).toNatClampNeg r9.toInt64 := ⟨_, rfl⟩
    rw [← hg9] at hP2 hD2
    refine lv_goto (tgt := 15) hx hb dw_conditions_9 (by decide) ?_
    refine lv_iconst (v := 0) hx hb dw_conditions_15 (by decide) ?_
    exact W.widen (Nat.le_of_ble_eq_true rfl) (Nat.le_of_ble_eq_true rfl) (W.iret (v := 0) hx hb hr (fun t ht hW9 => ⟨⟨0, (u.1, u.2.set qo (sh.2 qo, .inl (cO, 1, .inr (.inl g9)))), rfl, ⟨⟨wr_set hpx hqo (by decide +kernel) (by decide +kernel) hwo ⟨rfl, rfl⟩, g9, wr_get hku, by rw [hg9]; unfold vp_updL; rw [if_pos (by decide), er]⟩, rfl, fx9, by rw [List.getElem?_set_ne hqq]; exact c2u, hf7u⟩, by rw [ht]; exact hP2, hD2⟩, hS2.F ht⟩) hS2.2.2 dw_conditions_16)
set_option maxHeartbeats 4000000 in
set_option maxRecDepth 100000 in
theorem wr_conditions_3_0 {l : Launch} (hl9 : l.stackTraces = false) {PP : Int32 → Int32 → Prop} (hPP : en_P0 PP) (Ω : Nat → en_H → va_W → Prop) (D : va_G) (tys : List (ClassId × FieldType)) (cO cD : ClassId) (sh : en_H) (w : va_W) (sz qx qo : Nat) (fx : List Value) (g0 : (Nat → Int64)) (a1 : Int32) (hb1 : 2 ≤ a1.toInt ∧ a1.toInt ≤ 2) (hTY : tys.map Prod.snd = en_TY0) (hW : en_W PP en_KT k_X6_conditions_17.2.2.2.2.1 sh tys (fun _ => False) w) (hD0 : va_D (va_A w sz) w) (hΩ : en_Om en_om0 sh Ω) (hqx : sh.1[qx]? = some 0) (hwx : w[qx]? = some (sh.2 qx, .inr (12, fx))) (hqo : sh.1[qo]? = some 56) (hwo : w[qo]? = some (sh.2 qo, .inl (cO, 1, .inr (.inl g0)))) (hf7 : fx[8]? = some (.int 0)) :
    Met l yL_conditions (Cond.codeWith yL_conditions cL_conditions 4 (some .int) [(0, 9, 12, 13)] :: en_cw) (en_rm 1 (0, 0)) (va_Pc [.ref (sh.2 qx), .int a1, .ref (sh.2 qo)] (en_B D vwCl (tys ++ [(cO, .long), (cD, .double)]) w sz)) (va_Qi (fun r u => (en_Px tys PP en_KT k_X6_conditions_17.2.2.2.2.1 ((56, 0) :: k_X6_conditions_17.2.2.2.1) sh w u ∧ ∃ g, u.2[qo]? = some (sh.2 qo, .inl (cO, 1, .inr (.inl g))) ∧ g 0 = (0 : Int32).toInt64) ∧ r = 0 ∧ ∃ fx', u.2[qx]? = some (u.1.2 qx, .inr (12, fx')) ∧ fx'[8]? = some (.int a1)) (en_Bw D vwCl (va_A w sz)) (va_A w sz)) 0 0 (va_A w sz) := by
  refine va_MetW (cc := cL_conditions) (maxL := 4) (ret := some .int) (hh := [(0, 9, 12, 13)]) (by decide +kernel) rfl ?_
  intro p e s m args below meth c s₁ B hml hv
  obtain ⟨rfl, hsz, hP, hK, hT⟩ := hv
  subst hsz
  have hx := B.exec
  have hb := B.bytes
  have hr := B.returns
  have hts0 := atoms_spec (ws := Cond.codeWith yL_conditions cL_conditions 4 (some .int) [(0, 9, 12, 13)] :: en_cw) B.pre
  have hts : ∀ z ∈ en_cw, z.before _ s = true := fun z hz => hts0 z (List.mem_cons_of_mem _ hz)
  have hown : s.vm.findClass RL = some m.cls := findClass_of_methodNamed B.named
  have htab := vx_table (x := yL_conditions) B (hts0 _ List.mem_cons_self)
  have hA : ∀ q : Nat, s.heap.size ≤ q → va_A w s.heap.size q := fun q h => Or.inr h
  have hS : va_S (va_A w s.heap.size) s.heap s.heap [] := va_S.rf
  have hK0 : va_K D vwCl tys s := hK.pre
  have hTt : (tys ++ [(cO, .long), (cD, .double)])[7]? = some (cO, .long) := wr_ty hTY
  have hl := lv_entry ([.ref (sh.2 qx), .int a1, .ref (sh.2 qo)]) (n := 4) (Nat.le_of_ble_eq_true rfl)
  rw [lg_entry_eq]
  generalize (lg_sl ([.ref (sh.2 qx), .int a1, .ref (sh.2 qo)]) ++ List.replicate (4 - (lg_sl ([.ref (sh.2 qx), .int a1, .ref (sh.2 qo)])).length) Slot.unset).toArray = ls at hl ⊢
  have hl : lv_has ls 4 [(0, .ref (sh.2 qx)), (1, .int a1), (2, .ref (sh.2 qo))] := hl
  refine lv_aload_n hx hb dw_conditions_0 rfl (lv_at hl 2 rfl) ?_
  refine lv_iconst (v := 0) hx hb dw_conditions_1 (by decide) ?_
  refine lv_aload_n hx hb dw_conditions_2 rfl (lv_at hl 0 rfl) ?_
  refine lv_iload_n hx hb dw_conditions_3 rfl (lv_at hl 1 rfl) ?_
  refine en_hcV (q0 := qx) (b := sh.2 qx) (fs := fx) (co := 12) (ρp := [.ref (sh.2 qx), .int a1, .int 0]) (As := [.int a1]) (rest := [.int 0, .ref (sh.2 qo)]) (lv' := 0) (ct_X6_conditions_17 hl9 hPP Ω) gw_X6_conditions rfl rfl hwx rfl rfl (Nat.le_of_ble_eq_true rfl) ⟨Nat.le_of_ble_eq_true rfl, Nat.le_of_ble_eq_true rfl⟩ ⟨Nat.le_of_ble_eq_true rfl, Nat.le_of_ble_eq_true rfl⟩ (Nat.le_of_ble_eq_true rfl) hx hb (hml.trans hl.1.symm) hts hown hTY hK0 hT hP hD0 hS hA hW hΩ (wr_pf (env := k_X6_conditions_17.2.1.1) (fa := k_X6_conditions_17.2.1.2) ⟨⟨qx, hqx, rfl⟩, ⟨a1, rfl, hb1.1, hb1.2⟩, ⟨_, rfl, by decide, by decide⟩, trivial⟩ (en_ac ⟨qx, _, 12, fx, _, rfl, hwx, hf7, rfl⟩ en_an)) dw_conditions_4 (fun x9 hx9 ce q9 u H1 locs1 hpx hP1 hD1 hS1 hcell hvm hcl => ?_) (fun u res H1 locs1 hrv hpo hP1 hD1 hS1 => ?_)
  · have hku := wr_keep hpx hqo (by decide +kernel) hwo
    have hpx9 := wr_same hpx ((56, 0) :: k_X6_conditions_17.2.2.2.1) (fun z hz => List.mem_cons_of_mem _ hz)
    exact absurd hx9 List.not_mem_nil
  · obtain ⟨hpx, hpo9⟩ := hpo
    have hku := wr_keep hpx hqo (by decide +kernel) hwo
    obtain ⟨r9, rfl⟩ := hrv
    obtain ⟨o9, ho9, ρ9, hpa, hi9, hres⟩ := hpo9
    have ho9 := List.mem_singleton.mp ho9
    subst ho9
    obtain ⟨v9, e9, x9, hx9, l9, u9⟩ := hpa.2.1 2 _ rfl
    subst hx9
    have er : r9 = x9 := Value.int.inj (Option.some.inj ((hres _ rfl).symm.trans e9))
    have er9 : x9 = 0 := Int32.toInt_inj.mp (by rw [show ((0 : Int32)).toInt = 0 from rfl]; have l9 : (0 : Int) ≤ x9.toInt := l9; have u9 : x9.toInt ≤ (0 : Int) := u9; omega)
    rw [er9] at er
    obtain ⟨q9, r8, ci9, fx9, v8, c1, c2, c3, c4⟩ := hpa.2.2 (0, 0, 8, 1, 0, 0) (by decide)
    have e8 : r8 = u.1.2 qx := (Value.ref.inj (Option.some.inj (c1.symm.trans (hi9 0 (by decide))))).trans (hpx.1.at hqx).2.symm
    subst e8
    obtain ⟨e7, c5, c6⟩ := hpx.2.2 qx 0 _ hqx hwx
    have c5 : u.2[qx]? = some (u.1.2 qx, e7) := by rw [(hpx.1.at hqx).2]; exact c5
    have eq9 : q9 = qx := hD1.1 q9 qx _ _ c2 c5 rfl
    subst eq9
    have ci : ci9 = 12 := by rw [(Prod.mk.inj (Option.some.inj (c5.symm.trans c2))).2] at c6; exact c6.1
    subst ci
    have hf7u : fx9[8]? = some (.int a1) := by rw [c3, Option.some.inj (c4.symm.trans (hi9 1 (by decide)))]
    have c2u := c2
    have hqq : ¬ qo = q9 := fun e => by rw [e] at hqo; rw [hqo] at hqx; cases hqx
    refine lv_i2l hx hb dw_conditions_7 rfl ?_
    refine va_last hx hb hK hP1 hD1 hS1 qo 7 hku hTt (vp_in_nI (n := 0) (by decide) (by decide)) dw_conditions_8 (fun H2 locs2 hP2 hD2 hS2 => ?_)
    obtain ⟨g9, hg9⟩ : ∃ g9, g9 = vp_updL g0 (0 : Int32).toNatClampNeg r9.toInt64 := ⟨_, rfl⟩
    rw [← hg9] at hP2 hD2
    refine lv_goto (tgt := 15) hx hb dw_conditions_9 (by decide) ?_
    refine lv_iconst (v := 0) hx hb dw_conditions_15 (by decide) ?_
    exact W.widen (Nat.le_of_ble_eq_true rfl) (Nat.le_of_ble_eq_true rfl) (W.iret (v := 0) hx hb hr (fun t ht hW9 => ⟨⟨0, (u.1, u.2.set qo (sh.2 qo, .inl (cO, 1, .inr (.inl g9)))), rfl, ⟨⟨wr_set hpx hqo (by decide +kernel) (by decide +kernel) hwo ⟨rfl, rfl⟩, g9, wr_get hku, by rw [hg9]; unfold vp_updL; rw [if_pos (by decide), er]⟩, rfl, fx9, by rw [List.getElem?_set_ne hqq]; exact c2u, hf7u⟩, by rw [ht]; exact hP2, hD2⟩, hS2.F ht⟩) hS2.2.2 dw_conditions_16)
set_option maxHeartbeats 4000000 in
set_option maxRecDepth 100000 in
theorem wr_conditions_3_1 {l : Launch} (hl9 : l.stackTraces = false) {PP : Int32 → Int32 → Prop} (hPP : en_P0 PP) (Ω : Nat → en_H → va_W → Prop) (D : va_G) (tys : List (ClassId × FieldType)) (cO cD : ClassId) (sh : en_H) (w : va_W) (sz qx qo : Nat) (fx : List Value) (g0 : (Nat → Int64)) (a1 : Int32) (hb1 : 2 ≤ a1.toInt ∧ a1.toInt ≤ 2) (hTY : tys.map Prod.snd = en_TY0) (hW : en_W PP en_KT k_X6_conditions_18.2.2.2.2.1 sh tys (fun _ => False) w) (hD0 : va_D (va_A w sz) w) (hΩ : en_Om en_om0 sh Ω) (hqx : sh.1[qx]? = some 0) (hwx : w[qx]? = some (sh.2 qx, .inr (12, fx))) (hqo : sh.1[qo]? = some 56) (hwo : w[qo]? = some (sh.2 qo, .inl (cO, 1, .inr (.inl g0)))) (hf7 : fx[8]? = some (.int 1)) :
    Met l yL_conditions (Cond.codeWith yL_conditions cL_conditions 4 (some .int) [(0, 9, 12, 13)] :: en_cw) (en_rm 1 (0, 0)) (va_Pc [.ref (sh.2 qx), .int a1, .ref (sh.2 qo)] (en_B D vwCl (tys ++ [(cO, .long), (cD, .double)]) w sz)) (va_Qi (fun r u => (en_Px tys PP en_KT k_X6_conditions_18.2.2.2.2.1 ((56, 0) :: k_X6_conditions_18.2.2.2.1) sh w u ∧ ∃ g, u.2[qo]? = some (sh.2 qo, .inl (cO, 1, .inr (.inl g))) ∧ g 0 = (1 : Int32).toInt64) ∧ r = 0 ∧ ∃ fx', u.2[qx]? = some (u.1.2 qx, .inr (12, fx')) ∧ fx'[8]? = some (.int a1)) (en_Bw D vwCl (va_A w sz)) (va_A w sz)) 0 0 (va_A w sz) := by
  refine va_MetW (cc := cL_conditions) (maxL := 4) (ret := some .int) (hh := [(0, 9, 12, 13)]) (by decide +kernel) rfl ?_
  intro p e s m args below meth c s₁ B hml hv
  obtain ⟨rfl, hsz, hP, hK, hT⟩ := hv
  subst hsz
  have hx := B.exec
  have hb := B.bytes
  have hr := B.returns
  have hts0 := atoms_spec (ws := Cond.codeWith yL_conditions cL_conditions 4 (some .int) [(0, 9, 12, 13)] :: en_cw) B.pre
  have hts : ∀ z ∈ en_cw, z.before _ s = true := fun z hz => hts0 z (List.mem_cons_of_mem _ hz)
  have hown : s.vm.findClass RL = some m.cls := findClass_of_methodNamed B.named
  have htab := vx_table (x := yL_conditions) B (hts0 _ List.mem_cons_self)
  have hA : ∀ q : Nat, s.heap.size ≤ q → va_A w s.heap.size q := fun q h => Or.inr h
  have hS : va_S (va_A w s.heap.size) s.heap s.heap [] := va_S.rf
  have hK0 : va_K D vwCl tys s := hK.pre
  have hTt : (tys ++ [(cO, .long), (cD, .double)])[7]? = some (cO, .long) := wr_ty hTY
  have hl := lv_entry ([.ref (sh.2 qx), .int a1, .ref (sh.2 qo)]) (n := 4) (Nat.le_of_ble_eq_true rfl)
  rw [lg_entry_eq]
  generalize (lg_sl ([.ref (sh.2 qx), .int a1, .ref (sh.2 qo)]) ++ List.replicate (4 - (lg_sl ([.ref (sh.2 qx), .int a1, .ref (sh.2 qo)])).length) Slot.unset).toArray = ls at hl ⊢
  have hl : lv_has ls 4 [(0, .ref (sh.2 qx)), (1, .int a1), (2, .ref (sh.2 qo))] := hl
  refine lv_aload_n hx hb dw_conditions_0 rfl (lv_at hl 2 rfl) ?_
  refine lv_iconst (v := 0) hx hb dw_conditions_1 (by decide) ?_
  refine lv_aload_n hx hb dw_conditions_2 rfl (lv_at hl 0 rfl) ?_
  refine lv_iload_n hx hb dw_conditions_3 rfl (lv_at hl 1 rfl) ?_
  refine en_hcV (q0 := qx) (b := sh.2 qx) (fs := fx) (co := 12) (ρp := [.ref (sh.2 qx), .int a1, .int 1]) (As := [.int a1]) (rest := [.int 0, .ref (sh.2 qo)]) (lv' := 0) (ct_X6_conditions_18 hl9 hPP Ω) gw_X6_conditions rfl rfl hwx rfl rfl (Nat.le_of_ble_eq_true rfl) ⟨Nat.le_of_ble_eq_true rfl, Nat.le_of_ble_eq_true rfl⟩ ⟨Nat.le_of_ble_eq_true rfl, Nat.le_of_ble_eq_true rfl⟩ (Nat.le_of_ble_eq_true rfl) hx hb (hml.trans hl.1.symm) hts hown hTY hK0 hT hP hD0 hS hA hW hΩ (wr_pf (env := k_X6_conditions_18.2.1.1) (fa := k_X6_conditions_18.2.1.2) ⟨⟨qx, hqx, rfl⟩, ⟨a1, rfl, hb1.1, hb1.2⟩, ⟨_, rfl, by decide, by decide⟩, trivial⟩ (en_ac ⟨qx, _, 12, fx, _, rfl, hwx, hf7, rfl⟩ en_an)) dw_conditions_4 (fun x9 hx9 ce q9 u H1 locs1 hpx hP1 hD1 hS1 hcell hvm hcl => ?_) (fun u res H1 locs1 hrv hpo hP1 hD1 hS1 => ?_)
  · have hku := wr_keep hpx hqo (by decide +kernel) hwo
    have hpx9 := wr_same hpx ((56, 0) :: k_X6_conditions_18.2.2.2.1) (fun z hz => List.mem_cons_of_mem _ hz)
    exact absurd hx9 List.not_mem_nil
  · obtain ⟨hpx, hpo9⟩ := hpo
    have hku := wr_keep hpx hqo (by decide +kernel) hwo
    obtain ⟨r9, rfl⟩ := hrv
    obtain ⟨o9, ho9, ρ9, hpa, hi9, hres⟩ := hpo9
    have ho9 := List.mem_singleton.mp ho9
    subst ho9
    obtain ⟨v9, e9, x9, hx9, l9, u9⟩ := hpa.2.1 2 _ rfl
    subst hx9
    have er : r9 = x9 := Value.int.inj (Option.some.inj ((hres _ rfl).symm.trans e9))
    have er9 : x9 = 1 := Int32.toInt_inj.mp (by rw [show ((1 : Int32)).toInt = 1 from rfl]; have l9 : (1 : Int) ≤ x9.toInt := l9; have u9 : x9.toInt ≤ (1 : Int) := u9; omega)
    rw [er9] at er
    obtain ⟨q9, r8, ci9, fx9, v8, c1, c2, c3, c4⟩ := hpa.2.2 (0, 0, 8, 1, 0, 0) (by decide)
    have e8 : r8 = u.1.2 qx := (Value.ref.inj (Option.some.inj (c1.symm.trans (hi9 0 (by decide))))).trans (hpx.1.at hqx).2.symm
    subst e8
    obtain ⟨e7, c5, c6⟩ := hpx.2.2 qx 0 _ hqx hwx
    have c5 : u.2[qx]? = some (u.1.2 qx, e7) := by rw [(hpx.1.at hqx).2]; exact c5
    have eq9 : q9 = qx := hD1.1 q9 qx _ _ c2 c5 rfl
    subst eq9
    have ci : ci9 = 12 := by rw [(Prod.mk.inj (Option.some.inj (c5.symm.trans c2))).2] at c6; exact c6.1
    subst ci
    have hf7u : fx9[8]? = some (.int a1) := by rw [c3, Option.some.inj (c4.symm.trans (hi9 1 (by decide)))]
    have c2u := c2
    have hqq : ¬ qo = q9 := fun e => by rw [e] at hqo; rw [hqo] at hqx; cases hqx
    refine lv_i2l hx hb dw_conditions_7 rfl ?_
    refine va_last hx hb hK hP1 hD1 hS1 qo 7 hku hTt (vp_in_nI (n := 0) (by decide) (by decide)) dw_conditions_8 (fun H2 locs2 hP2 hD2 hS2 => ?_)
    obtain ⟨g9, hg9⟩ : ∃ g9, g9 = vp_updL g0 (0 : Int32).toNatClampNeg r9.toInt64 := ⟨_, rfl⟩
    rw [← hg9] at hP2 hD2
    refine lv_goto (tgt := 15) hx hb dw_conditions_9 (by decide) ?_
    refine lv_iconst (v := 0) hx hb dw_conditions_15 (by decide) ?_
    exact W.widen (Nat.le_of_ble_eq_true rfl) (Nat.le_of_ble_eq_true rfl) (W.iret (v := 0) hx hb hr (fun t ht hW9 => ⟨⟨0, (u.1, u.2.set qo (sh.2 qo, .inl (cO, 1, .inr (.inl g9)))), rfl, ⟨⟨wr_set hpx hqo (by decide +kernel) (by decide +kernel) hwo ⟨rfl, rfl⟩, g9, wr_get hku, by rw [hg9]; unfold vp_updL; rw [if_pos (by decide), er]⟩, rfl, fx9, by rw [List.getElem?_set_ne hqq]; exact c2u, hf7u⟩, by rw [ht]; exact hP2, hD2⟩, hS2.F ht⟩) hS2.2.2 dw_conditions_16)
set_option maxHeartbeats 4000000 in
set_option maxRecDepth 100000 in
theorem wr_conditions_3_2 {l : Launch} (hl9 : l.stackTraces = false) {PP : Int32 → Int32 → Prop} (hPP : en_P0 PP) (Ω : Nat → en_H → va_W → Prop) (D : va_G) (tys : List (ClassId × FieldType)) (cO cD : ClassId) (sh : en_H) (w : va_W) (sz qx qo : Nat) (fx : List Value) (g0 : (Nat → Int64)) (a1 : Int32) (hb1 : 2 ≤ a1.toInt ∧ a1.toInt ≤ 2) (hTY : tys.map Prod.snd = en_TY0) (hW : en_W PP en_KT k_X6_conditions_19.2.2.2.2.1 sh tys (fun _ => False) w) (hD0 : va_D (va_A w sz) w) (hΩ : en_Om en_om0 sh Ω) (hqx : sh.1[qx]? = some 0) (hwx : w[qx]? = some (sh.2 qx, .inr (12, fx))) (hqo : sh.1[qo]? = some 56) (hwo : w[qo]? = some (sh.2 qo, .inl (cO, 1, .inr (.inl g0)))) (hf7 : fx[8]? = some (.int 2)) :
    Met l yL_conditions (Cond.codeWith yL_conditions cL_conditions 4 (some .int) [(0, 9, 12, 13)] :: en_cw) (en_rm 1 (0, 0)) (va_Pc [.ref (sh.2 qx), .int a1, .ref (sh.2 qo)] (en_B D vwCl (tys ++ [(cO, .long), (cD, .double)]) w sz)) (va_Qi (fun r u => (en_Px tys PP en_KT k_X6_conditions_19.2.2.2.2.1 ((56, 0) :: k_X6_conditions_19.2.2.2.1) sh w u ∧ ∃ g, u.2[qo]? = some (sh.2 qo, .inl (cO, 1, .inr (.inl g))) ∧ g 0 = (2 : Int32).toInt64) ∧ r = 0 ∧ ∃ fx', u.2[qx]? = some (u.1.2 qx, .inr (12, fx')) ∧ fx'[8]? = some (.int a1)) (en_Bw D vwCl (va_A w sz)) (va_A w sz)) 0 0 (va_A w sz) := by
  refine va_MetW (cc := cL_conditions) (maxL := 4) (ret := some .int) (hh := [(0, 9, 12, 13)]) (by decide +kernel) rfl ?_
  intro p e s m args below meth c s₁ B hml hv
  obtain ⟨rfl, hsz, hP, hK, hT⟩ := hv
  subst hsz
  have hx := B.exec
  have hb := B.bytes
  have hr := B.returns
  have hts0 := atoms_spec (ws := Cond.codeWith yL_conditions cL_conditions 4 (some .int) [(0, 9, 12, 13)] :: en_cw) B.pre
  have hts : ∀ z ∈ en_cw, z.before _ s = true := fun z hz => hts0 z (List.mem_cons_of_mem _ hz)
  have hown : s.vm.findClass RL = some m.cls := findClass_of_methodNamed B.named
  have htab := vx_table (x := yL_conditions) B (hts0 _ List.mem_cons_self)
  have hA : ∀ q : Nat, s.heap.size ≤ q → va_A w s.heap.size q := fun q h => Or.inr h
  have hS : va_S (va_A w s.heap.size) s.heap s.heap [] := va_S.rf
  have hK0 : va_K D vwCl tys s := hK.pre
  have hTt : (tys ++ [(cO, .long), (cD, .double)])[7]? = some (cO, .long) := wr_ty hTY
  have hl := lv_entry ([.ref (sh.2 qx), .int a1, .ref (sh.2 qo)]) (n := 4) (Nat.le_of_ble_eq_true rfl)
  rw [lg_entry_eq]
  generalize (lg_sl ([.ref (sh.2 qx), .int a1, .ref (sh.2 qo)]) ++ List.replicate (4 - (lg_sl ([.ref (sh.2 qx), .int a1, .ref (sh.2 qo)])).length) Slot.unset).toArray = ls at hl ⊢
  have hl : lv_has ls 4 [(0, .ref (sh.2 qx)), (1, .int a1), (2, .ref (sh.2 qo))] := hl
  refine lv_aload_n hx hb dw_conditions_0 rfl (lv_at hl 2 rfl) ?_
  refine lv_iconst (v := 0) hx hb dw_conditions_1 (by decide) ?_
  refine lv_aload_n hx hb dw_conditions_2 rfl (lv_at hl 0 rfl) ?_
  refine lv_iload_n hx hb dw_conditions_3 rfl (lv_at hl 1 rfl) ?_
  refine en_hcV (q0 := qx) (b := sh.2 qx) (fs := fx) (co := 12) (ρp := [.ref (sh.2 qx), .int a1, .int 2]) (As := [.int a1]) (rest := [.int 0, .ref (sh.2 qo)]) (lv' := 0) (ct_X6_conditions_19 hl9 hPP Ω) gw_X6_conditions rfl rfl hwx rfl rfl (Nat.le_of_ble_eq_true rfl) ⟨Nat.le_of_ble_eq_true rfl, Nat.le_of_ble_eq_true rfl⟩ ⟨Nat.le_of_ble_eq_true rfl, Nat.le_of_ble_eq_true rfl⟩ (Nat.le_of_ble_eq_true rfl) hx hb (hml.trans hl.1.symm) hts hown hTY hK0 hT hP hD0 hS hA hW hΩ (wr_pf (env := k_X6_conditions_19.2.1.1) (fa := k_X6_conditions_19.2.1.2) ⟨⟨qx, hqx, rfl⟩, ⟨a1, rfl, hb1.1, hb1.2⟩, ⟨_, rfl, by decide, by decide⟩, trivial⟩ (en_ac ⟨qx, _, 12, fx, _, rfl, hwx, hf7, rfl⟩ en_an)) dw_conditions_4 (fun x9 hx9 ce q9 u H1 locs1 hpx hP1 hD1 hS1 hcell hvm hcl => ?_) (fun u res H1 locs1 hrv hpo hP1 hD1 hS1 => ?_)
  · have hku := wr_keep hpx hqo (by decide +kernel) hwo
    have hpx9 := wr_same hpx ((56, 0) :: k_X6_conditions_19.2.2.2.1) (fun z hz => List.mem_cons_of_mem _ hz)
    exact absurd hx9 List.not_mem_nil
  · obtain ⟨hpx, hpo9⟩ := hpo
    have hku := wr_keep hpx hqo (by decide +kernel) hwo
    obtain ⟨r9, rfl⟩ := hrv
    obtain ⟨o9, ho9, ρ9, hpa, hi9, hres⟩ := hpo9
    have ho9 := List.mem_singleton.mp ho9
    subst ho9
    obtain ⟨v9, e9, x9, hx9, l9, u9⟩ := hpa.2.1 2 _ rfl
    subst hx9
    have er : r9 = x9 := Value.int.inj (Option.some.inj ((hres _ rfl).symm.trans e9))
    have er9 : x9 = 2 := Int32.toInt_inj.mp (by rw [show ((2 : Int32)).toInt = 2 from rfl]; have l9 : (2 : Int) ≤ x9.toInt := l9; have u9 : x9.toInt ≤ (2 : Int) := u9; omega)
    rw [er9] at er
    obtain ⟨q9, r8, ci9, fx9, v8, c1, c2, c3, c4⟩ := hpa.2.2 (0, 0, 8, 1, 0, 0) (by decide)
    have e8 : r8 = u.1.2 qx := (Value.ref.inj (Option.some.inj (c1.symm.trans (hi9 0 (by decide))))).trans (hpx.1.at hqx).2.symm
    subst e8
    obtain ⟨e7, c5, c6⟩ := hpx.2.2 qx 0 _ hqx hwx
    have c5 : u.2[qx]? = some (u.1.2 qx, e7) := by rw [(hpx.1.at hqx).2]; exact c5
    have eq9 : q9 = qx := hD1.1 q9 qx _ _ c2 c5 rfl
    subst eq9
    have ci : ci9 = 12 := by rw [(Prod.mk.inj (Option.some.inj (c5.symm.trans c2))).2] at c6; exact c6.1
    subst ci
    have hf7u : fx9[8]? = some (.int a1) := by rw [c3, Option.some.inj (c4.symm.trans (hi9 1 (by decide)))]
    have c2u := c2
    have hqq : ¬ qo = q9 := fun e => by rw [e] at hqo; rw [hqo] at hqx; cases hqx
    refine lv_i2l hx hb dw_conditions_7 rfl ?_
    refine va_last hx hb hK hP1 hD1 hS1 qo 7 hku hTt (vp_in_nI (n := 0) (by decide) (by decide)) dw_conditions_8 (fun H2 locs2 hP2 hD2 hS2 => ?_)
    obtain ⟨g9, hg9⟩ : ∃ g9, g9 = vp_updL g0 (0 : Int32).toNatClampNeg r9.toInt64 := ⟨_, rfl⟩
    rw [← hg9] at hP2 hD2
    refine lv_goto (tgt := 15) hx hb dw_conditions_9 (by decide) ?_
    refine lv_iconst (v := 0) hx hb dw_conditions_15 (by decide) ?_
    exact W.widen (Nat.le_of_ble_eq_true rfl) (Nat.le_of_ble_eq_true rfl) (W.iret (v := 0) hx hb hr (fun t ht hW9 => ⟨⟨0, (u.1, u.2.set qo (sh.2 qo, .inl (cO, 1, .inr (.inl g9)))), rfl, ⟨⟨wr_set hpx hqo (by decide +kernel) (by decide +kernel) hwo ⟨rfl, rfl⟩, g9, wr_get hku, by rw [hg9]; unfold vp_updL; rw [if_pos (by decide), er]⟩, rfl, fx9, by rw [List.getElem?_set_ne hqq]; exact c2u, hf7u⟩, by rw [ht]; exact hP2, hD2⟩, hS2.F ht⟩) hS2.2.2 dw_conditions_16)
set_option maxHeartbeats 4000000 in
set_option maxRecDepth 100000 in
theorem wr_conditions_3_3 {l : Launch} (hl9 : l.stackTraces = false) {PP : Int32 → Int32 → Prop} (hPP : en_P0 PP) (Ω : Nat → en_H → va_W → Prop) (D : va_G) (tys : List (ClassId × FieldType)) (cO cD : ClassId) (sh : en_H) (w : va_W) (sz qx qo : Nat) (fx : List Value) (g0 : (Nat → Int64)) (a1 : Int32) (hb1 : 2 ≤ a1.toInt ∧ a1.toInt ≤ 2) (hTY : tys.map Prod.snd = en_TY0) (hW : en_W PP en_KT k_X6_conditions_20.2.2.2.2.1 sh tys (fun _ => False) w) (hD0 : va_D (va_A w sz) w) (hΩ : en_Om en_om0 sh Ω) (hqx : sh.1[qx]? = some 0) (hwx : w[qx]? = some (sh.2 qx, .inr (12, fx))) (hqo : sh.1[qo]? = some 56) (hwo : w[qo]? = some (sh.2 qo, .inl (cO, 1, .inr (.inl g0)))) (hf7 : fx[8]? = some (.int 3)) :
    Met l yL_conditions (Cond.codeWith yL_conditions cL_conditions 4 (some .int) [(0, 9, 12, 13)] :: en_cw) (en_rm 1 (0, 0)) (va_Pc [.ref (sh.2 qx), .int a1, .ref (sh.2 qo)] (en_B D vwCl (tys ++ [(cO, .long), (cD, .double)]) w sz)) (va_Qi (fun r u => (en_Px tys PP en_KT k_X6_conditions_20.2.2.2.2.1 ((56, 0) :: k_X6_conditions_20.2.2.2.1) sh w u ∧ ∃ g, u.2[qo]? = some (sh.2 qo, .inl (cO, 1, .inr (.inl g))) ∧ g 0 = (3 : Int32).toInt64) ∧ r = 0 ∧ ∃ fx', u.2[qx]? = some (u.1.2 qx, .inr (12, fx')) ∧ fx'[8]? = some (.int a1)) (en_Bw D vwCl (va_A w sz)) (va_A w sz)) 0 0 (va_A w sz) := by
  refine va_MetW (cc := cL_conditions) (maxL := 4) (ret := some .int) (hh := [(0, 9, 12, 13)]) (by decide +kernel) rfl ?_
  intro p e s m args below meth c s₁ B hml hv
  obtain ⟨rfl, hsz, hP, hK, hT⟩ := hv
  subst hsz
  have hx := B.exec
  have hb := B.bytes
  have hr := B.returns
  have hts0 := atoms_spec (ws := Cond.codeWith yL_conditions cL_conditions 4 (some .int) [(0, 9, 12, 13)] :: en_cw) B.pre
  have hts : ∀ z ∈ en_cw, z.before _ s = true := fun z hz => hts0 z (List.mem_cons_of_mem _ hz)
  have hown : s.vm.findClass RL = some m.cls := findClass_of_methodNamed B.named
  have htab := vx_table (x := yL_conditions) B (hts0 _ List.mem_cons_self)
  have hA : ∀ q : Nat, s.heap.size ≤ q → va_A w s.heap.size q := fun q h => Or.inr h
  have hS : va_S (va_A w s.heap.size) s.heap s.heap [] := va_S.rf
  have hK0 : va_K D vwCl tys s := hK.pre
  have hTt : (tys ++ [(cO, .long), (cD, .double)])[7]? = some (cO, .long) := wr_ty hTY
  have hl := lv_entry ([.ref (sh.2 qx), .int a1, .ref (sh.2 qo)]) (n := 4) (Nat.le_of_ble_eq_true rfl)
  rw [lg_entry_eq]
  generalize (lg_sl ([.ref (sh.2 qx), .int a1, .ref (sh.2 qo)]) ++ List.replicate (4 - (lg_sl ([.ref (sh.2 qx), .int a1, .ref (sh.2 qo)])).length) Slot.unset).toArray = ls at hl ⊢
  have hl : lv_has ls 4 [(0, .ref (sh.2 qx)), (1, .int a1), (2, .ref (sh.2 qo))] := hl
  refine lv_aload_n hx hb dw_conditions_0 rfl (lv_at hl 2 rfl) ?_
  refine lv_iconst (v := 0) hx hb dw_conditions_1 (by decide) ?_
  refine lv_aload_n hx hb dw_conditions_2 rfl (lv_at hl 0 rfl) ?_
  refine lv_iload_n hx hb dw_conditions_3 rfl (lv_at hl 1 rfl) ?_
  refine en_hcV (q0 := qx) (b := sh.2 qx) (fs := fx) (co := 12) (ρp := [.ref (sh.2 qx), .int a1, .int 3]) (As := [.int a1]) (rest := [.int 0, .ref (sh.2 qo)]) (lv' := 0) (ct_X6_conditions_20 hl9 hPP Ω) gw_X6_conditions rfl rfl hwx rfl rfl (Nat.le_of_ble_eq_true rfl) ⟨Nat.le_of_ble_eq_true rfl, Nat.le_of_ble_eq_true rfl⟩ ⟨Nat.le_of_ble_eq_true rfl, Nat.le_of_ble_eq_true rfl⟩ (Nat.le_of_ble_eq_true rfl) hx hb (hml.trans hl.1.symm) hts hown hTY hK0 hT hP hD0 hS hA hW hΩ (wr_pf (env := k_X6_conditions_20.2.1.1) (fa := k_X6_conditions_20.2.1.2) ⟨⟨qx, hqx, rfl⟩, ⟨a1, rfl, hb1.1, hb1.2⟩, ⟨_, rfl, by decide, by decide⟩, trivial⟩ (en_ac ⟨qx, _, 12, fx, _, rfl, hwx, hf7, rfl⟩ en_an)) dw_conditions_4 (fun x9 hx9 ce q9 u H1 locs1 hpx hP1 hD1 hS1 hcell hvm hcl => ?_) (fun u res H1 locs1 hrv hpo hP1 hD1 hS1 => ?_)
  · have hku := wr_keep hpx hqo (by decide +kernel) hwo
    have hpx9 := wr_same hpx ((56, 0) :: k_X6_conditions_20.2.2.2.1) (fun z hz => List.mem_cons_of_mem _ hz)
    exact absurd hx9 List.not_mem_nil
  · obtain ⟨hpx, hpo9⟩ := hpo
    have hku := wr_keep hpx hqo (by decide +kernel) hwo
    obtain ⟨r9, rfl⟩ := hrv
    obtain ⟨o9, ho9, ρ9, hpa, hi9, hres⟩ := hpo9
    have ho9 := List.mem_singleton.mp ho9
    subst ho9
    obtain ⟨v9, e9, x9, hx9, l9, u9⟩ := hpa.2.1 2 _ rfl
    subst hx9
    have er : r9 = x9 := Value.int.inj (Option.some.inj ((hres _ rfl).symm.trans e9))
    have er9 : x9 = 3 := Int32.toInt_inj.mp (by rw [show ((3 : Int32)).toInt = 3 from rfl]; have l9 : (3 : Int) ≤ x9.toInt := l9; have u9 : x9.toInt ≤ (3 : Int) := u9; omega)
    rw [er9] at er
    obtain ⟨q9, r8, ci9, fx9, v8, c1, c2, c3, c4⟩ := hpa.2.2 (0, 0, 8, 1, 0, 0) (by decide)
    have e8 : r8 = u.1.2 qx := (Value.ref.inj (Option.some.inj (c1.symm.trans (hi9 0 (by decide))))).trans (hpx.1.at hqx).2.symm
    subst e8
    obtain ⟨e7, c5, c6⟩ := hpx.2.2 qx 0 _ hqx hwx
    have c5 : u.2[qx]? = some (u.1.2 qx, e7) := by rw [(hpx.1.at hqx).2]; exact c5
    have eq9 : q9 = qx := hD1.1 q9 qx _ _ c2 c5 rfl
    subst eq9
    have ci : ci9 = 12 := by rw [(Prod.mk.inj (Option.some.inj (c5.symm.trans c2))).2] at c6; exact c6.1
    subst ci
    have hf7u : fx9[8]? = some (.int a1) := by rw [c3, Option.some.inj (c4.symm.trans (hi9 1 (by decide)))]
    have c2u := c2
    have hqq : ¬ qo = q9 := fun e => by rw [e] at hqo; rw [hqo] at hqx; cases hqx
    refine lv_i2l hx hb dw_conditions_7 rfl ?_
    refine va_last hx hb hK hP1 hD1 hS1 qo 7 hku hTt (vp_in_nI (n := 0) (by decide) (by decide)) dw_conditions_8 (fun H2 locs2 hP2 hD2 hS2 => ?_)
    obtain ⟨g9, hg9⟩ : ∃ g9, g9 = vp_updL g0 (0 : Int32).toNatClampNeg r9.toInt64 := ⟨_, rfl⟩
    rw [← hg9] at hP2 hD2
    refine lv_goto (tgt := 15) hx hb dw_conditions_9 (by decide) ?_
    refine lv_iconst (v := 0) hx hb dw_conditions_15 (by decide) ?_
    exact W.widen (Nat.le_of_ble_eq_true rfl) (Nat.le_of_ble_eq_true rfl) (W.iret (v := 0) hx hb hr (fun t ht hW9 => ⟨⟨0, (u.1, u.2.set qo (sh.2 qo, .inl (cO, 1, .inr (.inl g9)))), rfl, ⟨⟨wr_set hpx hqo (by decide +kernel) (by decide +kernel) hwo ⟨rfl, rfl⟩, g9, wr_get hku, by rw [hg9]; unfold vp_updL; rw [if_pos (by decide), er]⟩, rfl, fx9, by rw [List.getElem?_set_ne hqq]; exact c2u, hf7u⟩, by rw [ht]; exact hP2, hD2⟩, hS2.F ht⟩) hS2.2.2 dw_conditions_16)
set_option maxHeartbeats 4000000 in
set_option maxRecDepth 100000 in
theorem wr_conditions_4_m1 {l : Launch} (hl9 : l.stackTraces = false) {PP : Int32 → Int32 → Prop} (hPP : en_P0 PP) (Ω : Nat → en_H → va_W → Prop) (D : va_G) (tys : List (ClassId × FieldType)) (cO cD : ClassId) (sh : en_H) (w : va_W) (sz qx qo : Nat) (fx : List Value) (g0 : (Nat → Int64)) (a1 : Int32) (hb1 : 3 ≤ a1.toInt ∧ a1.toInt ≤ 3) (hTY : tys.map Prod.snd = en_TY0) (hW : en_W PP en_KT k_X6_conditions_21.2.2.2.2.1 sh tys (fun _ => False) w) (hD0 : va_D (va_A w sz) w) (hΩ : en_Om en_om0 sh Ω) (hqx : sh.1[qx]? = some 0) (hwx : w[qx]? = some (sh.2 qx, .inr (12, fx))) (hqo : sh.1[qo]? = some 56) (hwo : w[qo]? = some (sh.2 qo, .inl (cO, 1, .inr (.inl g0)))) (hf7 : fx[8]? = some (.int (-1))) :
    Met l yL_conditions (Cond.codeWith yL_conditions cL_conditions 4 (some .int) [(0, 9, 12, 13)] :: en_cw) (en_rm 1 (0, 0)) (va_Pc [.ref (sh.2 qx), .int a1, .ref (sh.2 qo)] (en_B D vwCl (tys ++ [(cO, .long), (cD, .double)]) w sz)) (va_Qi (fun r u => (en_Px tys PP en_KT k_X6_conditions_21.2.2.2.2.1 ((56, 0) :: k_X6_conditions_21.2.2.2.1) sh w u ∧ ∃ g, u.2[qo]? = some (sh.2 qo, .inl (cO, 1, .inr (.inl g))) ∧ g 0 = ((-1) : Int32).toInt64) ∧ r = 0 ∧ ∃ fx', u.2[qx]? = some (u.1.2 qx, .inr (12, fx')) ∧ fx'[8]? = some (.int a1)) (en_Bw D vwCl (va_A w sz)) (va_A w sz)) 0 0 (va_A w sz) := by
  refine va_MetW (cc := cL_conditions) (maxL := 4) (ret := some .int) (hh := [(0, 9, 12, 13)]) (by decide +kernel) rfl ?_
  intro p e s m args below meth c s₁ B hml hv
  obtain ⟨rfl, hsz, hP, hK, hT⟩ := hv
  subst hsz
  have hx := B.exec
  have hb := B.bytes
  have hr := B.returns
  have hts0 := atoms_spec (ws := Cond.codeWith yL_conditions cL_conditions 4 (some .int) [(0, 9, 12, 13)] :: en_cw) B.pre
  have hts : ∀ z ∈ en_cw, z.before _ s = true := fun z hz => hts0 z (List.mem_cons_of_mem _ hz)
  have hown : s.vm.findClass RL = some m.cls := findClass_of_methodNamed B.named
  have htab := vx_table (x := yL_conditions) B (hts0 _ List.mem_cons_self)
  have hA : ∀ q : Nat, s.heap.size ≤ q → va_A w s.heap.size q := fun q h => Or.inr h
  have hS : va_S (va_A w s.heap.size) s.heap s.heap [] := va_S.rf
  have hK0 : va_K D vwCl tys s := hK.pre
  have hTt : (tys ++ [(cO, .long), (cD, .double)])[7]? = some (cO, .long) := wr_ty hTY
  have hl := lv_entry ([.ref (sh.2 qx), .int a1, .ref (sh.2 qo)]) (n := 4) (Nat.le_of_ble_eq_true rfl)
  rw [lg_entry_eq]
  generalize (lg_sl ([.ref (sh.2 qx), .int a1, .ref (sh.2 qo)]) ++ List.replicate (4 - (lg_sl ([.ref (sh.2 qx), .int a1, .ref (sh.2 qo)])).length) Slot.unset).toArray = ls at hl ⊢
  have hl : lv_has ls 4 [(0, .ref (sh.2 qx)), (1, .int a1), (2, .ref (sh.2 qo))] := hl
  refine lv_aload_n hx hb dw_conditions_0 rfl (lv_at hl 2 rfl) ?_
  refine lv_iconst (v := 0) hx hb dw_conditions_1 (by decide) ?_
  refine lv_aload_n hx hb dw_conditions_2 rfl (lv_at hl 0 rfl) ?_
  refine lv_iload_n hx hb dw_conditions_3 rfl (lv_at hl 1 rfl) ?_
  refine en_hcV (q0 := qx) (b := sh.2 qx) (fs := fx) (co := 12) (ρp := [.ref (sh.2 qx), .int a1, .int (-1)]) (As := [.int a1]) (rest := [.int 0, .ref (sh.2 qo)]) (lv' := 0) (ct_X6_conditions_21 hl9 hPP Ω) gw_X6_conditions rfl rfl hwx rfl rfl (Nat.le_of_ble_eq_true rfl) ⟨Nat.le_of_ble_eq_true rfl, Nat.le_of_ble_eq_true rfl⟩ ⟨Nat.le_of_ble_eq_true rfl, Nat.le_of_ble_eq_true rfl⟩ (Nat.le_of_ble_eq_true rfl) hx hb (hml.trans hl.1.symm) hts hown hTY hK0 hT hP hD0 hS hA hW hΩ (wr_pf (env := k_X6_conditions_21.2.1.1) (fa := k_X6_conditions_21.2.1.2) ⟨⟨qx, hqx, rfl⟩, ⟨a1, rfl, hb1.1, hb1.2⟩, ⟨_, rfl, by decide, by decide⟩, trivial⟩ (en_ac ⟨qx, _, 12, fx, _, rfl, hwx, hf7, rfl⟩ en_an)) dw_conditions_4 (fun x9 hx9 ce q9 u H1 locs1 hpx hP1 hD1 hS1 hcell hvm hcl => ?_) (fun u res H1 locs1 hrv hpo hP1 hD1 hS1 => ?_)
  · have hku := wr_keep hpx hqo (by decide +kernel) hwo
    have hpx9 := wr_same hpx ((56, 0) :: k_X6_conditions_21.2.2.2.1) (fun z hz => List.mem_cons_of_mem _ hz)
    exact absurd hx9 List.not_mem_nil
  · obtain ⟨hpx, hpo9⟩ := hpo
    have hku := wr_keep hpx hqo (by decide +kernel) hwo
    obtain ⟨r9, rfl⟩ := hrv
    obtain ⟨o9, ho9, ρ9, hpa, hi9, hres⟩ := hpo9
    have ho9 := List.mem_singleton.mp ho9
    subst ho9
    obtain ⟨v9, e9, x9, hx9, l9, u9⟩ := hpa.2.1 2 _ rfl
    subst hx9
    have er : r9 = x9 := Value.int.inj (Option.some.inj ((hres _ rfl).symm.trans e9))
    have er9 : x9 = (-1) := Int32.toInt_inj.mp (by rw [show (((-1) : Int32)).toInt = (-1) from rfl]; have l9 : ((-1) : Int) ≤ x9.toInt := l9; have u9 : x9.toInt ≤ ((-1) : Int) := u9; omega)
    rw [er9] at er
    obtain ⟨q9, r8, ci9, fx9, v8, c1, c2, c3, c4⟩ := hpa.2.2 (0, 0, 8, 1, 0, 0) (by decide)
    have e8 : r8 = u.1.2 qx := (Value.ref.inj (Option.some.inj (c1.symm.trans (hi9 0 (by decide))))).trans (hpx.1.at hqx).2.symm
    subst e8
    obtain ⟨e7, c5, c6⟩ := hpx.2.2 qx 0 _ hqx hwx
    have c5 : u.2[qx]? = some (u.1.2 qx, e7) := by rw [(hpx.1.at hqx).2]; exact c5
    have eq9 : q9 = qx := hD1.1 q9 qx _ _ c2 c5 rfl
    subst eq9
    have ci : ci9 = 12 := by rw [(Prod.mk.inj (Option.some.inj (c5.symm.trans c2))).2] at c6; exact c6.1
    subst ci
    have hf7u : fx9[8]? = some (.int a1) := by rw [c3, Option.some.inj (c4.symm.trans (hi9 1 (by decide)))]
    have c2u := c2
    have hqq : ¬ qo = q9 := fun e => by rw [e] at hqo; rw [hqo] at hqx; cases hqx
    refine lv_i2l hx hb dw_conditions_7 rfl ?_
    refine va_last hx hb hK hP1 hD1 hS1 qo 7 hku hTt (vp_in_nI (n := 0) (by decide) (by decide)) dw_conditions_8 (fun H2 locs2 hP2 hD2 hS2 => ?_)
    obtain ⟨g9, hg9⟩ : ∃ g9, g9 = vp_updL g0 (0 : Int32).toNatClampNeg r9.toInt64 := ⟨_, rfl⟩
    rw [← hg9] at hP2 hD2
    refine lv_goto (tgt := 15) hx hb dw_conditions_9 (by decide) ?_
    refine lv_iconst (v := 0) hx hb dw_conditions_15 (by decide) ?_
    exact W.widen (Nat.le_of_ble_eq_true rfl) (Nat.le_of_ble_eq_true rfl) (W.iret (v := 0) hx hb hr (fun t ht hW9 => ⟨⟨0, (u.1, u.2.set qo (sh.2 qo, .inl (cO, 1, .inr (.inl g9)))), rfl, ⟨⟨wr_set hpx hqo (by decide +kernel) (by decide +kernel) hwo ⟨rfl, rfl⟩, g9, wr_get hku, by rw [hg9]; unfold vp_updL; rw [if_pos (by decide), er]⟩, rfl, fx9, by rw [List.getElem?_set_ne hqq]; exact c2u, hf7u⟩, by rw [ht]; exact hP2, hD2⟩, hS2.F ht⟩) hS2.2.2 dw_conditions_16)
set_option maxHeartbeats 4000000 in
set_option maxRecDepth 100000 in
theorem wr_conditions_4_0 {l : Launch} (hl9 : l.stackTraces = false) {PP : Int32 → Int32 → Prop} (hPP : en_P0 PP) (Ω : Nat → en_H → va_W → Prop) (D : va_G) (tys : List (ClassId × FieldType)) (cO cD : ClassId) (sh : en_H) (w : va_W) (sz qx qo : Nat) (fx : List Value) (g0 : (Nat → Int64)) (a1 : Int32) (hb1 : 3 ≤ a1.toInt ∧ a1.toInt ≤ 3) (hTY : tys.map Prod.snd = en_TY0) (hW : en_W PP en_KT k_X6_conditions_22.2.2.2.2.1 sh tys (fun _ => False) w) (hD0 : va_D (va_A w sz) w) (hΩ : en_Om en_om0 sh Ω) (hqx : sh.1[qx]? = some 0) (hwx : w[qx]? = some (sh.2 qx, .inr (12, fx))) (hqo : sh.1[qo]? = some 56) (hwo : w[qo]? = some (sh.2 qo, .inl (cO, 1, .inr (.inl g0)))) (hf7 : fx[8]? = some (.int 0)) :
    Met l yL_conditions (Cond.codeWith yL_conditions cL_conditions 4 (some .int) [(0, 9, 12, 13)] :: en_cw) (en_rm 1 (0, 0)) (va_Pc [.ref (sh.2 qx), .int a1, .ref (sh.2 qo)] (en_B D vwCl (tys ++ [(cO, .long), (cD, .double)]) w sz)) (va_Qi (fun r u => (en_Px tys PP en_KT k_X6_conditions_22.2.2.2.2.1 ((56, 0) :: k_X6_conditions_22.2.2.2.1) sh w u ∧ ∃ g, u.2[qo]? = some (sh.2 qo, .inl (cO, 1, .inr (.inl g))) ∧ g 0 = (0 : Int32).toInt64) ∧ r = 0 ∧ ∃ fx', u.2[qx]? = some (u.1.2 qx, .inr (12, fx')) ∧ fx'[8]? = some (.int a1)) (en_Bw D vwCl (va_A w sz)) (va_A w sz)) 0 0 (va_A w sz) := by
  refine va_MetW (cc := cL_conditions) (maxL := 4) (ret := some .int) (hh := [(0, 9, 12, 13)]) (by decide +kernel) rfl ?_
  intro p e s m args below meth c s₁ B hml hv
  obtain ⟨rfl, hsz, hP, hK, hT⟩ := hv
  subst hsz
  have hx := B.exec
  have hb := B.bytes
  have hr := B.returns
  have hts0 := atoms_spec (ws := Cond.codeWith yL_conditions cL_conditions 4 (some .int) [(0, 9, 12, 13)] :: en_cw) B.pre
  have hts : ∀ z ∈ en_cw, z.before _ s = true := fun z hz => hts0 z (List.mem_cons_of_mem _ hz)
  have hown : s.vm.findClass RL = some m.cls := findClass_of_methodNamed B.named
  have htab := vx_table (x := yL_conditions) B (hts0 _ List.mem_cons_self)
  have hA : ∀ q : Nat, s.heap.size ≤ q → va_A w s.heap.size q := fun q h => Or.inr h
  have hS : va_S (va_A w s.heap.size) s.heap s.heap [] := va_S.rf
  have hK0 : va_K D vwCl tys s := hK.pre
  have hTt : (tys ++ [(cO, .long), (cD, .double)])[7]? = some (cO, .long) := wr_ty hTY
  have hl := lv_entry ([.ref (sh.2 qx), .int a1, .ref (sh.2 qo)]) (n := 4) (Nat.le_of_ble_eq_true rfl)
  rw [lg_entry_eq]
  generalize (lg_sl ([.ref (sh.2 qx), .int a1, .ref (sh.2 qo)]) ++ List.replicate (4 - (lg_sl ([.ref (sh.2 qx), .int a1, .ref (sh.2 qo)])).length) Slot.unset).toArray = ls at hl ⊢
  have hl : lv_has ls 4 [(0, .ref (sh.2 qx)), (1, .int a1), (2, .ref (sh.2 qo))] := hl
  refine lv_aload_n hx hb dw_conditions_0 rfl (lv_at hl 2 rfl) ?_
  refine lv_iconst (v := 0) hx hb dw_conditions_1 (by decide) ?_
  refine lv_aload_n hx hb dw_conditions_2 rfl (lv_at hl 0 rfl) ?_
  refine lv_iload_n hx hb dw_conditions_3 rfl (lv_at hl 1 rfl) ?_
  refine en_hcV (q0 := qx) (b := sh.2 qx) (fs := fx) (co := 12) (ρp := [.ref (sh.2 qx), .int a1, .int 0]) (As := [.int a1]) (rest := [.int 0, .ref (sh.2 qo)]) (lv' := 0) (ct_X6_conditions_22 hl9 hPP Ω) gw_X6_conditions rfl rfl hwx rfl rfl (Nat.le_of_ble_eq_true rfl) ⟨Nat.le_of_ble_eq_true rfl, Nat.le_of_ble_eq_true rfl⟩ ⟨Nat.le_of_ble_eq_true rfl, Nat.le_of_ble_eq_true rfl⟩ (Nat.le_of_ble_eq_true rfl) hx hb (hml.trans hl.1.symm) hts hown hTY hK0 hT hP hD0 hS hA hW hΩ (wr_pf (env := k_X6_conditions_22.2.1.1) (fa := k_X6_conditions_22.2.1.2) ⟨⟨qx, hqx, rfl⟩, ⟨a1, rfl, hb1.1, hb1.2⟩, ⟨_, rfl, by decide, by decide⟩, trivial⟩ (en_ac ⟨qx, _, 12, fx, _, rfl, hwx, hf7, rfl⟩ en_an)) dw_conditions_4 (fun x9 hx9 ce q9 u H1 locs1 hpx hP1 hD1 hS1 hcell hvm hcl => ?_) (fun u res H1 locs1 hrv hpo hP1 hD1 hS1 => ?_)
  · have hku := wr_keep hpx hqo (by decide +kernel) hwo
    have hpx9 := wr_same hpx ((56, 0) :: k_X6_conditions_22.2.2.2.1) (fun z hz => List.mem_cons_of_mem _ hz)
    exact absurd hx9 List.not_mem_nil
  · obtain ⟨hpx, hpo9⟩ := hpo
    have hku := wr_keep hpx hqo (by decide +kernel) hwo
    obtain ⟨r9, rfl⟩ := hrv
    obtain ⟨o9, ho9, ρ9, hpa, hi9, hres⟩ := hpo9
    have ho9 := List.mem_singleton.mp ho9
    subst ho9
    obtain ⟨v9, e9, x9, hx9, l9, u9⟩ := hpa.2.1 2 _ rfl
    subst hx9
    have er : r9 = x9 := Value.int.inj (Option.some.inj ((hres _ rfl).symm.trans e9))
    have er9 : x9 = 0 := Int32.toInt_inj.mp (by rw [show ((0 : Int32)).toInt = 0 from rfl]; have l9 : (0 : Int) ≤ x9.toInt := l9; have u9 : x9.toInt ≤ (0 : Int) := u9; omega)
    rw [er9] at er
    obtain ⟨q9, r8, ci9, fx9, v8, c1, c2, c3, c4⟩ := hpa.2.2 (0, 0, 8, 1, 0, 0) (by decide)
    have e8 : r8 = u.1.2 qx := (Value.ref.inj (Option.some.inj (c1.symm.trans (hi9 0 (by decide))))).trans (hpx.1.at hqx).2.symm
    subst e8
    obtain ⟨e7, c5, c6⟩ := hpx.2.2 qx 0 _ hqx hwx
    have c5 : u.2[qx]? = some (u.1.2 qx, e7) := by rw [(hpx.1.at hqx).2]; exact c5
    have eq9 : q9 = qx := hD1.1 q9 qx _ _ c2 c5 rfl
    subst eq9
    have ci : ci9 = 12 := by rw [(Prod.mk.inj (Option.some.inj (c5.symm.trans c2))).2] at c6; exact c6.1
    subst ci
    have hf7u : fx9[8]? = some (.int a1) := by rw [c3, Option.some.inj (c4.symm.trans (hi9 1 (by decide)))]
    have c2u := c2
    have hqq : ¬ qo = q9 := fun e => by rw [e] at hqo; rw [hqo] at hqx; cases hqx
    refine lv_i2l hx hb dw_conditions_7 rfl ?_
    refine va_last hx hb hK hP1 hD1 hS1 qo 7 hku hTt (vp_in_nI (n := 0) (by decide) (by decide)) dw_conditions_8 (fun H2 locs2 hP2 hD2 hS2 => ?_)
    obtain ⟨g9, hg9⟩ : ∃ g9, g9 = vp_updL g0 (0 : Int32).toNatClampNeg r9.toInt64 := ⟨_, rfl⟩
    rw [← hg9] at hP2 hD2
    refine lv_goto (tgt := 15) hx hb dw_conditions_9 (by decide) ?_
    refine lv_iconst (v := 0) hx hb dw_conditions_15 (by decide) ?_
    exact W.widen (Nat.le_of_ble_eq_true rfl) (Nat.le_of_ble_eq_true rfl) (W.iret (v := 0) hx hb hr (fun t ht hW9 => ⟨⟨0, (u.1, u.2.set qo (sh.2 qo, .inl (cO, 1, .inr (.inl g9)))), rfl, ⟨⟨wr_set hpx hqo (by decide +kernel) (by decide +kernel) hwo ⟨rfl, rfl⟩, g9, wr_get hku, by rw [hg9]; unfold vp_updL; rw [if_pos (by decide), er]⟩, rfl, fx9, by rw [List.getElem?_set_ne hqq]; exact c2u, hf7u⟩, by rw [ht]; exact hP2, hD2⟩, hS2.F ht⟩) hS2.2.2 dw_conditions_16)
set_option maxHeartbeats 4000000 in
set_option maxRecDepth 100000 in
theorem wr_conditions_4_1 {l : Launch} (hl9 : l.stackTraces = false) {PP : Int32 → Int32 → Prop} (hPP : en_P0 PP) (Ω : Nat → en_H → va_W → Prop) (D : va_G) (tys : List (ClassId × FieldType)) (cO cD : ClassId) (sh : en_H) (w : va_W) (sz qx qo : Nat) (fx : List Value) (g0 : (Nat → Int64)) (a1 : Int32) (hb1 : 3 ≤ a1.toInt ∧ a1.toInt ≤ 3) (hTY : tys.map Prod.snd = en_TY0) (hW : en_W PP en_KT k_X6_conditions_23.2.2.2.2.1 sh tys (fun _ => False) w) (hD0 : va_D (va_A w sz) w) (hΩ : en_Om en_om0 sh Ω) (hqx : sh.1[qx]? = some 0) (hwx : w[qx]? = some (sh.2 qx, .inr (12, fx))) (hqo : sh.1[qo]? = some 56) (hwo : w[qo]? = some (sh.2 qo, .inl (cO, 1, .inr (.inl g0)))) (hf7 : fx[8]? = some (.int 1)) :
    Met l yL_conditions (Cond.codeWith yL_conditions cL_conditions 4 (some .int) [(0, 9, 12, 13)] :: en_cw) (en_rm 1 (0, 0)) (va_Pc [.ref (sh.2 qx), .int a1, .ref (sh.2 qo)] (en_B D vwCl (tys ++ [(cO, .long), (cD, .double)]) w sz)) (va_Qi (fun r u => (en_Px tys PP en_KT k_X6_conditions_23.2.2.2.2.1 ((56, 0) :: k_X6_conditions_23.2.2.2.1) sh w u ∧ ∃ g, u.2[qo]? = some (sh.2 qo, .inl (cO, 1, .inr (.inl g))) ∧ g 0 = (1 : Int32).toInt64) ∧ r = 0 ∧ ∃ fx', u.2[qx]? = some (u.1.2 qx, .inr (12, fx')) ∧ fx'[8]? = some (.int a1)) (en_Bw D vwCl (va_A w sz)) (va_A w sz)) 0 0 (va_A w sz) := by
  refine va_MetW (cc := cL_conditions) (maxL := 4) (ret := some .int) (hh := [(0, 9, 12, 13)]) (by decide +kernel) rfl ?_
  intro p e s m args below meth c s₁ B hml hv
  obtain ⟨rfl, hsz, hP, hK, hT⟩ := hv
  subst hsz
  have hx := B.exec
  have hb := B.bytes
  have hr := B.returns
  have hts0 := atoms_spec (ws := Cond.codeWith yL_conditions cL_conditions 4 (some .int) [(0, 9, 12, 13)] :: en_cw) B.pre
  have hts : ∀ z ∈ en_cw, z.before _ s = true := fun z hz => hts0 z (List.mem_cons_of_mem _ hz)
  have hown : s.vm.findClass RL = some m.cls := findClass_of_methodNamed B.named
  have htab := vx_table (x := yL_conditions) B (hts0 _ List.mem_cons_self)
  have hA : ∀ q : Nat, s.heap.size ≤ q → va_A w s.heap.size q := fun q h => Or.inr h
  have hS : va_S (va_A w s.heap.size) s.heap s.heap [] := va_S.rf
  have hK0 : va_K D vwCl tys s := hK.pre
  have hTt : (tys ++ [(cO, .long), (cD, .double)])[7]? = some (cO, .long) := wr_ty hTY
  have hl := lv_entry ([.ref (sh.2 qx), .int a1, .ref (sh.2 qo)]) (n := 4) (Nat.le_of_ble_eq_true rfl)
  rw [lg_entry_eq]
  generalize (lg_sl ([.ref (sh.2 qx), .int a1, .ref (sh.2 qo)]) ++ List.replicate (4 - (lg_sl ([.ref (sh.2 qx), .int a1, .ref (sh.2 qo)])).length) Slot.unset).toArray = ls at hl ⊢
  have hl : lv_has ls 4 [(0, .ref (sh.2 qx)), (1, .int a1), (2, .ref (sh.2 qo))] := hl
  refine lv_aload_n hx hb dw_conditions_0 rfl (lv_at hl 2 rfl) ?_
  refine lv_iconst (v := 0) hx hb dw_conditions_1 (by decide) ?_
  refine lv_aload_n hx hb dw_conditions_2 rfl (lv_at hl 0 rfl) ?_
  refine lv_iload_n hx hb dw_conditions_3 rfl (lv_at hl 1 rfl) ?_
  refine en_hcV (q0 := qx) (b := sh.2 qx) (fs := fx) (co := 12) (ρp := [.ref (sh.2 qx), .int a1, .int 1]) (As := [.int a1]) (rest := [.int 0, .ref (sh.2 qo)]) (lv' := 0) (ct_X6_conditions_23 hl9 hPP Ω) gw_X6_conditions rfl rfl hwx rfl rfl (Nat.le_of_ble_eq_true rfl) ⟨Nat.le_of_ble_eq_true rfl, Nat.le_of_ble_eq_true rfl⟩ ⟨Nat.le_of_ble_eq_true rfl, Nat.le_of_ble_eq_true rfl⟩ (Nat.le_of_ble_eq_true rfl) hx hb (hml.trans hl.1.symm) hts hown hTY hK0 hT hP hD0 hS hA hW hΩ (wr_pf (env := k_X6_conditions_23.2.1.1) (fa := k_X6_conditions_23.2.1.2) ⟨⟨qx, hqx, rfl⟩, ⟨a1, rfl, hb1.1, hb1.2⟩, ⟨_, rfl, by decide, by decide⟩, trivial⟩ (en_ac ⟨qx, _, 12, fx, _, rfl, hwx, hf7, rfl⟩ en_an)) dw_conditions_4 (fun x9 hx9 ce q9 u H1 locs1 hpx hP1 hD1 hS1 hcell hvm hcl => ?_) (fun u res H1 locs1 hrv hpo hP1 hD1 hS1 => ?_)
  · have hku := wr_keep hpx hqo (by decide +kernel) hwo
    have hpx9 := wr_same hpx ((56, 0) :: k_X6_conditions_23.2.2.2.1) (fun z hz => List.mem_cons_of_mem _ hz)
    exact absurd hx9 List.not_mem_nil
  · obtain ⟨hpx, hpo9⟩ := hpo
    have hku := wr_keep hpx hqo (by decide +kernel) hwo
    obtain ⟨r9, rfl⟩ := hrv
    obtain ⟨o9, ho9, ρ9, hpa, hi9, hres⟩ := hpo9
    have ho9 := List.mem_singleton.mp ho9
    subst ho9
    obtain ⟨v9, e9, x9, hx9, l9, u9⟩ := hpa.2.1 2 _ rfl
    subst hx9
    have er : r9 = x9 := Value.int.inj (Option.some.inj ((hres _ rfl).symm.trans e9))
    have er9 : x9 = 1 := Int32.toInt_inj.mp (by rw [show ((1 : Int32)).toInt = 1 from rfl]; have l9 : (1 : Int) ≤ x9.toInt := l9; have u9 : x9.toInt ≤ (1 : Int) := u9; omega)
    rw [er9] at er
    obtain ⟨q9, r8, ci9, fx9, v8, c1, c2, c3, c4⟩ := hpa.2.2 (0, 0, 8, 1, 0, 0) (by decide)
    have e8 : r8 = u.1.2 qx := (Value.ref.inj (Option.some.inj (c1.symm.trans (hi9 0 (by decide))))).trans (hpx.1.at hqx).2.symm
    subst e8
    obtain ⟨e7, c5, c6⟩ := hpx.2.2 qx 0 _ hqx hwx
    have c5 : u.2[qx]? = some (u.1.2 qx, e7) := by rw [(hpx.1.at hqx).2]; exact c5
    have eq9 : q9 = qx := hD1.1 q9 qx _ _ c2 c5 rfl
    subst eq9
    have ci : ci9 = 12 := by rw [(Prod.mk.inj (Option.some.inj (c5.symm.trans c2))).2] at c6; exact c6.1
    subst ci
    have hf7u : fx9[8]? = some (.int a1) := by rw [c3, Option.some.inj (c4.symm.trans (hi9 1 (by decide)))]
    have c2u := c2
    have hqq : ¬ qo = q9 := fun e => by rw [e] at hqo; rw [hqo] at hqx; cases hqx
    refine lv_i2l hx hb dw_conditions_7 rfl ?_
    refine va_last hx hb hK hP1 hD1 hS1 qo 7 hku hTt (vp_in_nI (n := 0) (by decide) (by decide)) dw_conditions_8 (fun H2 locs2 hP2 hD2 hS2 => ?_)
    obtain ⟨g9, hg9⟩ : ∃ g9, g9 = vp_updL g0 (0 : Int32).toNatClampNeg r9.toInt64 := ⟨_, rfl⟩
    rw [← hg9] at hP2 hD2
    refine lv_goto (tgt := 15) hx hb dw_conditions_9 (by decide) ?_
    refine lv_iconst (v := 0) hx hb dw_conditions_15 (by decide) ?_
    exact W.widen (Nat.le_of_ble_eq_true rfl) (Nat.le_of_ble_eq_true rfl) (W.iret (v := 0) hx hb hr (fun t ht hW9 => ⟨⟨0, (u.1, u.2.set qo (sh.2 qo, .inl (cO, 1, .inr (.inl g9)))), rfl, ⟨⟨wr_set hpx hqo (by decide +kernel) (by decide +kernel) hwo ⟨rfl, rfl⟩, g9, wr_get hku, by rw [hg9]; unfold vp_updL; rw [if_pos (by decide), er]⟩, rfl, fx9, by rw [List.getElem?_set_ne hqq]; exact c2u, hf7u⟩, by rw [ht]; exact hP2, hD2⟩, hS2.F ht⟩) hS2.2.2 dw_conditions_16)
set_option maxHeartbeats 4000000 in
set_option maxRecDepth 100000 in
theorem wr_conditions_4_2 {l : Launch} (hl9 : l.stackTraces = false) {PP : Int32 → Int32 → Prop} (hPP : en_P0 PP) (Ω : Nat → en_H → va_W → Prop) (D : va_G) (tys : List (ClassId × FieldType)) (cO cD : ClassId) (sh : en_H) (w : va_W) (sz qx qo : Nat) (fx : List Value) (g0 : (Nat → Int64)) (a1 : Int32) (hb1 : 3 ≤ a1.toInt ∧ a1.toInt ≤ 3) (hTY : tys.map Prod.snd = en_TY0) (hW : en_W PP en_KT k_X6_conditions_24.2.2.2.2.1 sh tys (fun _ => False) w) (hD0 : va_D (va_A w sz) w) (hΩ : en_Om en_om0 sh Ω) (hqx : sh.1[qx]? = some 0) (hwx : w[qx]? = some (sh.2 qx, .inr (12, fx))) (hqo : sh.1[qo]? = some 56) (hwo : w[qo]? = some (sh.2 qo, .inl (cO, 1, .inr (.inl g0)))) (hf7 : fx[8]? = some (.int 2)) :
    Met l yL_conditions (Cond.codeWith yL_conditions cL_conditions 4 (some .int) [(0, 9, 12, 13)] :: en_cw) (en_rm 1 (0, 0)) (va_Pc [.ref (sh.2 qx), .int a1, .ref (sh.2 qo)] (en_B D vwCl (tys ++ [(cO, .long), (cD, .double)]) w sz)) (va_Qi (fun r u => (en_Px tys PP en_KT k_X6_conditions_24.2.2.2.2.1 ((56, 0) :: k_X6_conditions_24.2.2.2.1) sh w u ∧ ∃ g, u.2[qo]? = some (sh.2 qo, .inl (cO, 1, .inr (.inl g))) ∧ g 0 = (2 : Int32).toInt64) ∧ r = 0 ∧ ∃ fx', u.2[qx]? = some (u.1.2 qx, .inr (12, fx')) ∧ fx'[8]? = some (.int a1)) (en_Bw D vwCl (va_A w sz)) (va_A w sz)) 0 0 (va_A w sz) := by
  refine va_MetW (cc := cL_conditions) (maxL := 4) (ret := some .int) (hh := [(0, 9, 12, 13)]) (by decide +kernel) rfl ?_
  intro p e s m args below meth c s₁ B hml hv
  obtain ⟨rfl, hsz, hP, hK, hT⟩ := hv
  subst hsz
  have hx := B.exec
  have hb := B.bytes
  have hr := B.returns
  have hts0 := atoms_spec (ws := Cond.codeWith yL_conditions cL_conditions 4 (some .int) [(0, 9, 12, 13)] :: en_cw) B.pre
  have hts : ∀ z ∈ en_cw, z.before _ s = true := fun z hz => hts0 z (List.mem_cons_of_mem _ hz)
  have hown : s.vm.findClass RL = some m.cls := findClass_of_methodNamed B.named
  have htab := vx_table (x := yL_conditions) B (hts0 _ List.mem_cons_self)
  have hA : ∀ q : Nat, s.heap.size ≤ q → va_A w s.heap.size q := fun q h => Or.inr h
  have hS : va_S (va_A w s.heap.size) s.heap s.heap [] := va_S.rf
  have hK0 : va_K D vwCl tys s := hK.pre
  have hTt : (tys ++ [(cO, .long), (cD, .double)])[7]? = some (cO, .long) := wr_ty hTY
  have hl := lv_entry ([.ref (sh.2 qx), .int a1, .ref (sh.2 qo)]) (n := 4) (Nat.le_of_ble_eq_true rfl)
  rw [lg_entry_eq]
  generalize (lg_sl ([.ref (sh.2 qx), .int a1, .ref (sh.2 qo)]) ++ List.replicate (4 - (lg_sl ([.ref (sh.2 qx), .int a1, .ref (sh.2 qo)])).length) Slot.unset).toArray = ls at hl ⊢
  have hl : lv_has ls 4 [(0, .ref (sh.2 qx)), (1, .int a1), (2, .ref (sh.2 qo))] := hl
  refine lv_aload_n hx hb dw_conditions_0 rfl (lv_at hl 2 rfl) ?_
  refine lv_iconst (v := 0) hx hb dw_conditions_1 (by decide) ?_
  refine lv_aload_n hx hb dw_conditions_2 rfl (lv_at hl 0 rfl) ?_
  refine lv_iload_n hx hb dw_conditions_3 rfl (lv_at hl 1 rfl) ?_
  refine en_hcV (q0 := qx) (b := sh.2 qx) (fs := fx) (co := 12) (ρp := [.ref (sh.2 qx), .int a1, .int 2]) (As := [.int a1]) (rest := [.int 0, .ref (sh.2 qo)]) (lv' := 0) (ct_X6_conditions_24 hl9 hPP Ω) gw_X6_conditions rfl rfl hwx rfl rfl (Nat.le_of_ble_eq_true rfl) ⟨Nat.le_of_ble_eq_true rfl, Nat.le_of_ble_eq_true rfl⟩ ⟨Nat.le_of_ble_eq_true rfl, Nat.le_of_ble_eq_true rfl⟩ (Nat.le_of_ble_eq_true rfl) hx hb (hml.trans hl.1.symm) hts hown hTY hK0 hT hP hD0 hS hA hW hΩ (wr_pf (env := k_X6_conditions_24.2.1.1) (fa := k_X6_conditions_24.2.1.2) ⟨⟨qx, hqx, rfl⟩, ⟨a1, rfl, hb1.1, hb1.2⟩, ⟨_, rfl, by decide, by decide⟩, trivial⟩ (en_ac ⟨qx, _, 12, fx, _, rfl, hwx, hf7, rfl⟩ en_an)) dw_conditions_4 (fun x9 hx9 ce q9 u H1 locs1 hpx hP1 hD1 hS1 hcell hvm hcl => ?_) (fun u res H1 locs1 hrv hpo hP1 hD1 hS1 => ?_)
  · have hku := wr_keep hpx hqo (by decide +kernel) hwo
    have hpx9 := wr_same hpx ((56, 0) :: k_X6_conditions_24.2.2.2.1) (fun z hz => List.mem_cons_of_mem _ hz)
    exact absurd hx9 List.not_mem_nil
  · obtain ⟨hpx, hpo9⟩ := hpo
    have hku := wr_keep hpx hqo (by decide +kernel) hwo
    obtain ⟨r9, rfl⟩ := hrv
    obtain ⟨o9, ho9, ρ9, hpa, hi9, hres⟩ := hpo9
    have ho9 := List.mem_singleton.mp ho9
    subst ho9
    obtain ⟨v9, e9, x9, hx9, l9, u9⟩ := hpa.2.1 2 _ rfl
    subst hx9
    have er : r9 = x9 := Value.int.inj (Option.some.inj ((hres _ rfl).symm.trans e9))
    have er9 : x9 = 2 := Int32.toInt_inj.mp (by rw [show ((2 : Int32)).toInt = 2 from rfl]; have l9 : (2 : Int) ≤ x9.toInt := l9; have u9 : x9.toInt ≤ (2 : Int) := u9; omega)
    rw [er9] at er
    obtain ⟨q9, r8, ci9, fx9, v8, c1, c2, c3, c4⟩ := hpa.2.2 (0, 0, 8, 1, 0, 0) (by decide)
    have e8 : r8 = u.1.2 qx := (Value.ref.inj (Option.some.inj (c1.symm.trans (hi9 0 (by decide))))).trans (hpx.1.at hqx).2.symm
    subst e8
    obtain ⟨e7, c5, c6⟩ := hpx.2.2 qx 0 _ hqx hwx
    have c5 : u.2[qx]? = some (u.1.2 qx, e7) := by rw [(hpx.1.at hqx).2]; exact c5
    have eq9 : q9 = qx := hD1.1 q9 qx _ _ c2 c5 rfl
    subst eq9
    have ci : ci9 = 12 := by rw [(Prod.mk.inj (Option.some.inj (c5.symm.trans c2))).2] at c6; exact c6.1
    subst ci
    have hf7u : fx9[8]? = some (.int a1) := by rw [c3, Option.some.inj (c4.symm.trans (hi9 1 (by decide)))]
    have c2u := c2
    have hqq : ¬ qo = q9 := fun e => by rw [e] at hqo; rw [hqo] at hqx; cases hqx
    refine lv_i2l hx hb dw_conditions_7 rfl ?_
    refine va_last hx hb hK hP1 hD1 hS1 qo 7 hku hTt (vp_in_nI (n := 0) (by decide) (by decide)) dw_conditions_8 (fun H2 locs2 hP2 hD2 hS2 => ?_)
    obtain ⟨g9, hg9⟩ : ∃ g9, g9 = vp_updL g0 (0 : Int32).toNatClampNeg r9.toInt64 := ⟨_, rfl⟩
    rw [← hg9] at hP2 hD2
    refine lv_goto (tgt := 15) hx hb dw_conditions_9 (by decide) ?_
    refine lv_iconst (v := 0) hx hb dw_conditions_15 (by decide) ?_
    exact W.widen (Nat.le_of_ble_eq_true rfl) (Nat.le_of_ble_eq_true rfl) (W.iret (v := 0) hx hb hr (fun t ht hW9 => ⟨⟨0, (u.1, u.2.set qo (sh.2 qo, .inl (cO, 1, .inr (.inl g9)))), rfl, ⟨⟨wr_set hpx hqo (by decide +kernel) (by decide +kernel) hwo ⟨rfl, rfl⟩, g9, wr_get hku, by rw [hg9]; unfold vp_updL; rw [if_pos (by decide), er]⟩, rfl, fx9, by rw [List.getElem?_set_ne hqq]; exact c2u, hf7u⟩, by rw [ht]; exact hP2, hD2⟩, hS2.F ht⟩) hS2.2.2 dw_conditions_16)
set_option maxHeartbeats 4000000 in
set_option maxRecDepth 100000 in
theorem wr_conditions_4_3 {l : Launch} (hl9 : l.stackTraces = false) {PP : Int32 → Int32 → Prop} (hPP : en_P0 PP) (Ω : Nat → en_H → va_W → Prop) (D : va_G) (tys : List (ClassId × FieldType)) (cO cD : ClassId) (sh : en_H) (w : va_W) (sz qx qo : Nat) (fx : List Value) (g0 : (Nat → Int64)) (a1 : Int32) (hb1 : 3 ≤ a1.toInt ∧ a1.toInt ≤ 3) (hTY : tys.map Prod.snd = en_TY0) (hW : en_W PP en_KT k_X6_conditions_25.2.2.2.2.1 sh tys (fun _ => False) w) (hD0 : va_D (va_A w sz) w) (hΩ : en_Om en_om0 sh Ω) (hqx : sh.1[qx]? = some 0) (hwx : w[qx]? = some (sh.2 qx, .inr (12, fx))) (hqo : sh.1[qo]? = some 56) (hwo : w[qo]? = some (sh.2 qo, .inl (cO, 1, .inr (.inl g0)))) (hf7 : fx[8]? = some (.int 3)) :
    Met l yL_conditions (Cond.codeWith yL_conditions cL_conditions 4 (some .int) [(0, 9, 12, 13)] :: en_cw) (en_rm 1 (0, 0)) (va_Pc [.ref (sh.2 qx), .int a1, .ref (sh.2 qo)] (en_B D vwCl (tys ++ [(cO, .long), (cD, .double)]) w sz)) (va_Qi (fun r u => (en_Px tys PP en_KT k_X6_conditions_25.2.2.2.2.1 ((56, 0) :: k_X6_conditions_25.2.2.2.1) sh w u ∧ ∃ g, u.2[qo]? = some (sh.2 qo, .inl (cO, 1, .inr (.inl g))) ∧ g 0 = (3 : Int32).toInt64) ∧ r = 0 ∧ ∃ fx', u.2[qx]? = some (u.1.2 qx, .inr (12, fx')) ∧ fx'[8]? = some (.int a1)) (en_Bw D vwCl (va_A w sz)) (va_A w sz)) 0 0 (va_A w sz) := by
  refine va_MetW (cc := cL_conditions) (maxL := 4) (ret := some .int) (hh := [(0, 9, 12, 13)]) (by decide +kernel) rfl ?_
  intro p e s m args below meth c s₁ B hml hv
  obtain ⟨rfl, hsz, hP, hK, hT⟩ := hv
  subst hsz
  have hx := B.exec
  have hb := B.bytes
  have hr := B.returns
  have hts0 := atoms_spec (ws := Cond.codeWith yL_conditions cL_conditions 4 (some .int) [(0, 9, 12, 13)] :: en_cw) B.pre
  have hts : ∀ z ∈ en_cw, z.before _ s = true := fun z hz => hts0 z (List.mem_cons_of_mem _ hz)
  have hown : s.vm.findClass RL = some m.cls := findClass_of_methodNamed B.named
  have htab := vx_table (x := yL_conditions) B (hts0 _ List.mem_cons_self)
  have hA : ∀ q : Nat, s.heap.size ≤ q → va_A w s.heap.size q := fun q h => Or.inr h
  have hS : va_S (va_A w s.heap.size) s.heap s.heap [] := va_S.rf
  have hK0 : va_K D vwCl tys s := hK.pre
  have hTt : (tys ++ [(cO, .long), (cD, .double)])[7]? = some (cO, .long) := wr_ty hTY
  have hl := lv_entry ([.ref (sh.2 qx), .int a1, .ref (sh.2 qo)]) (n := 4) (Nat.le_of_ble_eq_true rfl)
  rw [lg_entry_eq]
  generalize (lg_sl ([.ref (sh.2 qx), .int a1, .ref (sh.2 qo)]) ++ List.replicate (4 - (lg_sl ([.ref (sh.2 qx), .int a1, .ref (sh.2 qo)])).length) Slot.unset).toArray = ls at hl ⊢
  have hl : lv_has ls 4 [(0, .ref (sh.2 qx)), (1, .int a1), (2, .ref (sh.2 qo))] := hl
  refine lv_aload_n hx hb dw_conditions_0 rfl (lv_at hl 2 rfl) ?_
  refine lv_iconst (v := 0) hx hb dw_conditions_1 (by decide) ?_
  refine lv_aload_n hx hb dw_conditions_2 rfl (lv_at hl 0 rfl) ?_
  refine lv_iload_n hx hb dw_conditions_3 rfl (lv_at hl 1 rfl) ?_
  refine en_hcV (q0 := qx) (b := sh.2 qx) (fs := fx) (co := 12) (ρp := [.ref (sh.2 qx), .int a1, .int 3]) (As := [.int a1]) (rest := [.int 0, .ref (sh.2 qo)]) (lv' := 0) (ct_X6_conditions_25 hl9 hPP Ω) gw_X6_conditions rfl rfl hwx rfl rfl (Nat.le_of_ble_eq_true rfl) ⟨Nat.le_of_ble_eq_true rfl, Nat.le_of_ble_eq_true rfl⟩ ⟨Nat.le_of_ble_eq_true rfl, Nat.le_of_ble_eq_true rfl⟩ (Nat.le_of_ble_eq_true rfl) hx hb (hml.trans hl.1.symm) hts hown hTY hK0 hT hP hD0 hS hA hW hΩ (wr_pf (env := k_X6_conditions_25.2.1.1) (fa := k_X6_conditions_25.2.1.2) ⟨⟨qx, hqx, rfl⟩, ⟨a1, rfl, hb1.1, hb1.2⟩, ⟨_, rfl, by decide, by decide⟩, trivial⟩ (en_ac ⟨qx, _, 12, fx, _, rfl, hwx, hf7, rfl⟩ en_an)) dw_conditions_4 (fun x9 hx9 ce q9 u H1 locs1 hpx hP1 hD1 hS1 hcell hvm hcl => ?_) (fun u res H1 locs1 hrv hpo hP1 hD1 hS1 => ?_)
  · have hku := wr_keep hpx hqo (by decide +kernel) hwo
    have hpx9 := wr_same hpx ((56, 0) :: k_X6_conditions_25.2.2.2.1) (fun z hz => List.mem_cons_of_mem _ hz)
    exact absurd hx9 List.not_mem_nil
  · obtain ⟨hpx, hpo9⟩ := hpo
    have hku := wr_keep hpx hqo (by decide +kernel) hwo
    obtain ⟨r9, rfl⟩ := hrv
    obtain ⟨o9, ho9, ρ9, hpa, hi9, hres⟩ := hpo9
    have ho9 := List.mem_singleton.mp ho9
    subst ho9
    obtain ⟨v9, e9, x9, hx9, l9, u9⟩ := hpa.2.1 2 _ rfl
    subst hx9
    have er : r9 = x9 := Value.int.inj (Option.some.inj ((hres _ rfl).symm.trans e9))
    have er9 : x9 = 3 := Int32.toInt_inj.mp (by rw [show ((3 : Int32)).toInt = 3 from rfl]; have l9 : (3 : Int) ≤ x9.toInt := l9; have u9 : x9.toInt ≤ (3 : Int) := u9; omega)
    rw [er9] at er
    obtain ⟨q9, r8, ci9, fx9, v8, c1, c2, c3, c4⟩ := hpa.2.2 (0, 0, 8, 1, 0, 0) (by decide)
    have e8 : r8 = u.1.2 qx := (Value.ref.inj (Option.some.inj (c1.symm.trans (hi9 0 (by decide))))).trans (hpx.1.at hqx).2.symm
    subst e8
    obtain ⟨e7, c5, c6⟩ := hpx.2.2 qx 0 _ hqx hwx
    have c5 : u.2[qx]? = some (u.1.2 qx, e7) := by rw [(hpx.1.at hqx).2]; exact c5
    have eq9 : q9 = qx := hD1.1 q9 qx _ _ c2 c5 rfl
    subst eq9
    have ci : ci9 = 12 := by rw [(Prod.mk.inj (Option.some.inj (c5.symm.trans c2))).2] at c6; exact c6.1
    subst ci
    have hf7u : fx9[8]? = some (.int a1) := by rw [c3, Option.some.inj (c4.symm.trans (hi9 1 (by decide)))]
    have c2u := c2
    have hqq : ¬ qo = q9 := fun e => by rw [e] at hqo; rw [hqo] at hqx; cases hqx
    refine lv_i2l hx hb dw_conditions_7 rfl ?_
    refine va_last hx hb hK hP1 hD1 hS1 qo 7 hku hTt (vp_in_nI (n := 0) (by decide) (by decide)) dw_conditions_8 (fun H2 locs2 hP2 hD2 hS2 => ?_)
    obtain ⟨g9, hg9⟩ : ∃ g9, g9 = vp_updL g0 (0 : Int32).toNatClampNeg r9.toInt64 := ⟨_, rfl⟩
    rw [← hg9] at hP2 hD2
    refine lv_goto (tgt := 15) hx hb dw_conditions_9 (by decide) ?_
    refine lv_iconst (v := 0) hx hb dw_conditions_15 (by decide) ?_
    exact W.widen (Nat.le_of_ble_eq_true rfl) (Nat.le_of_ble_eq_true rfl) (W.iret (v := 0) hx hb hr (fun t ht hW9 => ⟨⟨0, (u.1, u.2.set qo (sh.2 qo, .inl (cO, 1, .inr (.inl g9)))), rfl, ⟨⟨wr_set hpx hqo (by decide +kernel) (by decide +kernel) hwo ⟨rfl, rfl⟩, g9, wr_get hku, by rw [hg9]; unfold vp_updL; rw [if_pos (by decide), er]⟩, rfl, fx9, by rw [List.getElem?_set_ne hqq]; exact c2u, hf7u⟩, by rw [ht]; exact hP2, hD2⟩, hS2.F ht⟩) hS2.2.2 dw_conditions_16)
set_option maxHeartbeats 4000000 in
set_option maxRecDepth 100000 in
theorem wr_conditions_5_m1 {l : Launch} (hl9 : l.stackTraces = false) {PP : Int32 → Int32 → Prop} (hPP : en_P0 PP) (Ω : Nat → en_H → va_W → Prop) (D : va_G) (tys : List (ClassId × FieldType)) (cO cD : ClassId) (sh : en_H) (w : va_W) (sz qx qo : Nat) (fx : List Value) (g0 : (Nat → Int64)) (a1 : Int32) (hb1 : -2147483648 ≤ a1.toInt ∧ a1.toInt ≤ -2) (hTY : tys.map Prod.snd = en_TY0) (hW : en_W PP en_KT k_X6_conditions_26.2.2.2.2.1 sh tys (fun _ => False) w) (hD0 : va_D (va_A w sz) w) (hΩ : en_Om en_om0 sh Ω) (hqx : sh.1[qx]? = some 0) (hwx : w[qx]? = some (sh.2 qx, .inr (12, fx))) (hqo : sh.1[qo]? = some 56) (hwo : w[qo]? = some (sh.2 qo, .inl (cO, 1, .inr (.inl g0)))) (hf7 : fx[8]? = some (.int (-1))) :
    Met l yL_conditions (Cond.codeWith yL_conditions cL_conditions 4 (some .int) [(0, 9, 12, 13)] :: en_cw) (en_rm 1 (1, 6)) (va_Pc [.ref (sh.2 qx), .int a1, .ref (sh.2 qo)] (en_B D vwCl (tys ++ [(cO, .long), (cD, .double)]) w sz)) (va_Qi (fun r u => (en_Px tys PP en_KT k_X6_conditions_26.2.2.2.2.1 ((56, 0) :: k_X6_conditions_26.2.2.2.1) sh w u ∧ ∃ g, u.2[qo]? = some (sh.2 qo, .inl (cO, 1, .inr (.inl g)))) ∧ r = 1) (en_Bw D vwCl (va_A w sz)) (va_A w sz)) 1 6 (va_A w sz) := by
  refine va_MetW (cc := cL_conditions) (maxL := 4) (ret := some .int) (hh := [(0, 9, 12, 13)]) (by decide +kernel) rfl ?_
  intro p e s m args below meth c s₁ B hml hv
  obtain ⟨rfl, hsz, hP, hK, hT⟩ := hv
  subst hsz
  have hx := B.exec
  have hb := B.bytes
  have hr := B.returns
  have hts0 := atoms_spec (ws := Cond.codeWith yL_conditions cL_conditions 4 (some .int) [(0, 9, 12, 13)] :: en_cw) B.pre
  have hts : ∀ z ∈ en_cw, z.before _ s = true := fun z hz => hts0 z (List.mem_cons_of_mem _ hz)
  have hown : s.vm.findClass RL = some m.cls := findClass_of_methodNamed B.named
  have htab := vx_table (x := yL_conditions) B (hts0 _ List.mem_cons_self)
  have hA : ∀ q : Nat, s.heap.size ≤ q → va_A w s.heap.size q := fun q h => Or.inr h
  have hS : va_S (va_A w s.heap.size) s.heap s.heap [] := va_S.rf
  have hK0 : va_K D vwCl tys s := hK.pre
  have hTt : (tys ++ [(cO, .long), (cD, .double)])[7]? = some (cO, .long) := wr_ty hTY
  have hl := lv_entry ([.ref (sh.2 qx), .int a1, .ref (sh.2 qo)]) (n := 4) (Nat.le_of_ble_eq_true rfl)
  rw [lg_entry_eq]
  generalize (lg_sl ([.ref (sh.2 qx), .int a1, .ref (sh.2 qo)]) ++ List.replicate (4 - (lg_sl ([.ref (sh.2 qx), .int a1, .ref (sh.2 qo)])).length) Slot.unset).toArray = ls at hl ⊢
  have hl : lv_has ls 4 [(0, .ref (sh.2 qx)), (1, .int a1), (2, .ref (sh.2 qo))] := hl
  refine lv_aload_n hx hb dw_conditions_0 rfl (lv_at hl 2 rfl) ?_
  refine lv_iconst (v := 0) hx hb dw_conditions_1 (by decide) ?_
  refine lv_aload_n hx hb dw_conditions_2 rfl (lv_at hl 0 rfl) ?_
  refine lv_iload_n hx hb dw_conditions_3 rfl (lv_at hl 1 rfl) ?_
  refine en_hcV (q0 := qx) (b := sh.2 qx) (fs := fx) (co := 12) (ρp := [.ref (sh.2 qx), .int a1, .int (-1)]) (As := [.int a1]) (rest := [.int 0, .ref (sh.2 qo)]) (lv' := 0) (ct_X6_conditions_26 hl9 hPP Ω) gw_X6_conditions rfl rfl hwx rfl rfl (Nat.le_of_ble_eq_true rfl) ⟨Nat.le_of_ble_eq_true rfl, Nat.le_of_ble_eq_true rfl⟩ ⟨Nat.le_of_ble_eq_true rfl, Nat.le_of_ble_eq_true rfl⟩ (Nat.le_of_ble_eq_true rfl) hx hb (hml.trans hl.1.symm) hts hown hTY hK0 hT hP hD0 hS hA hW hΩ (wr_pf (env := k_X6_conditions_26.2.1.1) (fa := k_X6_conditions_26.2.1.2) ⟨⟨qx, hqx, rfl⟩, ⟨a1, rfl, hb1.1, hb1.2⟩, ⟨_, rfl, by decide, by decide⟩, trivial⟩ (en_ac ⟨qx, _, 12, fx, _, rfl, hwx, hf7, rfl⟩ en_an)) dw_conditions_4 (fun x9 hx9 ce q9 u H1 locs1 hpx hP1 hD1 hS1 hcell hvm hcl => ?_) (fun u res H1 locs1 hrv hpo hP1 hD1 hS1 => ?_)
  · have hku := wr_keep hpx hqo (by decide +kernel) hwo
    have hpx9 := wr_same hpx ((56, 0) :: k_X6_conditions_26.2.2.2.1) (fun z hz => List.mem_cons_of_mem _ hz)
    have hx8 := List.mem_singleton.mp hx9
    subst hx8
    refine vx_catch (E := "java/lang/IllegalArgumentException") (name := "java/lang/IllegalArgumentException") hown [] ⟨0, 9, 12, 13⟩ [] (htab.trans rfl) wr_nil (by decide) (by decide) (hts (.classLink RL 13 "java/lang/IllegalArgumentException") cwl498) (va_Nw.use rfl (hT.1 (Cond.castable "java/lang/IllegalArgumentException" "java/lang/IllegalArgumentException") (tf_cast (53, "java/lang/IllegalArgumentException") (by decide +kernel)))) hcell hvm hcl ?_
    refine lv_astore_n (lv' := (3, .ref q9) :: [(0, .ref (sh.2 qx)), (1, .int a1), (2, .ref (sh.2 qo))]) hx hb dw_conditions_12 rfl hl (by decide) rfl (fun ls hl => ?_)
    refine lv_iconst (v := 1) hx hb dw_conditions_13 (by decide) ?_
    exact W.widen (Nat.le_of_ble_eq_true rfl) (Nat.le_of_ble_eq_true rfl) (W.iret (v := 1) hx hb hr (fun t ht hW9 => ⟨⟨1, u, rfl, ⟨⟨hpx9, g0, hku⟩, rfl⟩, by rw [ht]; exact hP1, hD1⟩, hS1.F ht⟩) hS1.2.2 dw_conditions_14)
  · obtain ⟨hpx, hpo9⟩ := hpo
    have hku := wr_keep hpx hqo (by decide +kernel) hwo
    obtain ⟨r9, rfl⟩ := hrv
    obtain ⟨o9, ho9, -⟩ := hpo9
    exact absurd ho9 List.not_mem_nil
set_option maxHeartbeats 4000000 in
set_option maxRecDepth 100000 in
theorem wr_conditions_5_0 {l : Launch} (hl9 : l.stackTraces = false) {PP : Int32 → Int32 → Prop} (hPP : en_P0 PP) (Ω : Nat → en_H → va_W → Prop) (D : va_G) (tys : List (ClassId × FieldType)) (cO cD : ClassId) (sh : en_H) (w : va_W) (sz qx qo : Nat) (fx : List Value) (g0 : (Nat → Int64)) (a1 : Int32) (hb1 : -2147483648 ≤ a1.toInt ∧ a1.toInt ≤ -2) (hTY : tys.map Prod.snd = en_TY0) (hW : en_W PP en_KT k_X6_conditions_27.2.2.2.2.1 sh tys (fun _ => False) w) (hD0 : va_D (va_A w sz) w) (hΩ : en_Om en_om0 sh Ω) (hqx : sh.1[qx]? = some 0) (hwx : w[qx]? = some (sh.2 qx, .inr (12, fx))) (hqo : sh.1[qo]? = some 56) (hwo : w[qo]? = some (sh.2 qo, .inl (cO, 1, .inr (.inl g0)))) (hf7 : fx[8]? = some (.int 0)) :
    Met l yL_conditions (Cond.codeWith yL_conditions cL_conditions 4 (some .int) [(0, 9, 12, 13)] :: en_cw) (en_rm 1 (1, 6)) (va_Pc [.ref (sh.2 qx), .int a1, .ref (sh.2 qo)] (en_B D vwCl (tys ++ [(cO, .long), (cD, .double)]) w sz)) (va_Qi (fun r u => (en_Px tys PP en_KT k_X6_conditions_27.2.2.2.2.1 ((56, 0) :: k_X6_conditions_27.2.2.2.1) sh w u ∧ ∃ g, u.2[qo]? = some (sh.2 qo, .inl (cO, 1, .inr (.inl g)))) ∧ r = 1) (en_Bw D vwCl (va_A w sz)) (va_A w sz)) 1 6 (va_A w sz) := by
  refine va_MetW (cc := cL_conditions) (maxL := 4) (ret := some .int) (hh := [(0, 9, 12, 13)]) (by decide +kernel) rfl ?_
  intro p e s m args below meth c s₁ B hml hv
  obtain ⟨rfl, hsz, hP, hK, hT⟩ := hv
  subst hsz
  have hx := B.exec
  have hb := B.bytes
  have hr := B.returns
  have hts0 := atoms_spec (ws := Cond.codeWith yL_conditions cL_conditions 4 (some .int) [(0, 9, 12, 13)] :: en_cw) B.pre
  have hts : ∀ z ∈ en_cw, z.before _ s = true := fun z hz => hts0 z (List.mem_cons_of_mem _ hz)
  have hown : s.vm.findClass RL = some m.cls := findClass_of_methodNamed B.named
  have htab := vx_table (x := yL_conditions) B (hts0 _ List.mem_cons_self)
  have hA : ∀ q : Nat, s.heap.size ≤ q → va_A w s.heap.size q := fun q h => Or.inr h
  have hS : va_S (va_A w s.heap.size) s.heap s.heap [] := va_S.rf
  have hK0 : va_K D vwCl tys s := hK.pre
  have hTt : (tys ++ [(cO, .long), (cD, .double)])[7]? = some (cO, .long) := wr_ty hTY
  have hl := lv_entry ([.ref (sh.2 qx), .int a1, .ref (sh.2 qo)]) (n := 4) (Nat.le_of_ble_eq_true rfl)
  rw [lg_entry_eq]
  generalize (lg_sl ([.ref (sh.2 qx), .int a1, .ref (sh.2 qo)]) ++ List.replicate (4 - (lg_sl ([.ref (sh.2 qx), .int a1, .ref (sh.2 qo)])).length) Slot.unset).toArray = ls at hl ⊢
  have hl : lv_has ls 4 [(0, .ref (sh.2 qx)), (1, .int a1), (2, .ref (sh.2 qo))] := hl
  refine lv_aload_n hx hb dw_conditions_0 rfl (lv_at hl 2 rfl) ?_
  refine lv_iconst (v := 0) hx hb dw_conditions_1 (by decide) ?_
  refine lv_aload_n hx hb dw_conditions_2 rfl (lv_at hl 0 rfl) ?_
  refine lv_iload_n hx hb dw_conditions_3 rfl (lv_at hl 1 rfl) ?_
  refine en_hcV (q0 := qx) (b := sh.2 qx) (fs := fx) (co := 12) (ρp := [.ref (sh.2 qx), .int a1, .int 0]) (As := [.int a1]) (rest := [.int 0, .ref (sh.2 qo)]) (lv' := 0) (ct_X6_conditions_27 hl9 hPP Ω) gw_X6_conditions rfl rfl hwx rfl rfl (Nat.le_of_ble_eq_true rfl) ⟨Nat.le_of_ble_eq_true rfl, Nat.le_of_ble_eq_true rfl⟩ ⟨Nat.le_of_ble_eq_true rfl, Nat.le_of_ble_eq_true rfl⟩ (Nat.le_of_ble_eq_true rfl) hx hb (hml.trans hl.1.symm) hts hown hTY hK0 hT hP hD0 hS hA hW hΩ (wr_pf (env := k_X6_conditions_27.2.1.1) (fa := k_X6_conditions_27.2.1.2) ⟨⟨qx, hqx, rfl⟩, ⟨a1, rfl, hb1.1, hb1.2⟩, ⟨_, rfl, by decide, by decide⟩, trivial⟩ (en_ac ⟨qx, _, 12, fx, _, rfl, hwx, hf7, rfl⟩ en_an)) dw_conditions_4 (fun x9 hx9 ce q9 u H1 locs1 hpx hP1 hD1 hS1 hcell hvm hcl => ?_) (fun u res H1 locs1 hrv hpo hP1 hD1 hS1 => ?_)
  · have hku := wr_keep hpx hqo (by decide +kernel) hwo
    have hpx9 := wr_same hpx ((56, 0) :: k_X6_conditions_27.2.2.2.1) (fun z hz => List.mem_cons_of_mem _ hz)
    have hx8 := List.mem_singleton.mp hx9
    subst hx8
    refine vx_catch (E := "java/lang/IllegalArgumentException") (name := "java/lang/IllegalArgumentException") hown [] ⟨0, 9, 12, 13⟩ [] (htab.trans rfl) wr_nil (by decide) (by decide) (hts (.classLink RL 13 "java/lang/IllegalArgumentException") cwl498) (va_Nw.use rfl (hT.1 (Cond.castable "java/lang/IllegalArgumentException" "java/lang/IllegalArgumentException") (tf_cast (53, "java/lang/IllegalArgumentException") (by decide +kernel)))) hcell hvm hcl ?_
    refine lv_astore_n (lv' := (3, .ref q9) :: [(0, .ref (sh.2 qx)), (1, .int a1), (2, .ref (sh.2 qo))]) hx hb dw_conditions_12 rfl hl (by decide) rfl (fun ls hl => ?_)
    refine lv_iconst (v := 1) hx hb dw_conditions_13 (by decide) ?_
    exact W.widen (Nat.le_of_ble_eq_true rfl) (Nat.le_of_ble_eq_true rfl) (W.iret (v := 1) hx hb hr (fun t ht hW9 => ⟨⟨1, u, rfl, ⟨⟨hpx9, g0, hku⟩, rfl⟩, by rw [ht]; exact hP1, hD1⟩, hS1.F ht⟩) hS1.2.2 dw_conditions_14)
  · obtain ⟨hpx, hpo9⟩ := hpo
    have hku := wr_keep hpx hqo (by decide +kernel) hwo
    obtain ⟨r9, rfl⟩ := hrv
    obtain ⟨o9, ho9, -⟩ := hpo9
    exact absurd ho9 List.not_mem_nil
set_option maxHeartbeats 4000000 in
set_option maxRecDepth 100000 in
theorem wr_conditions_5_1 {l : Launch} (hl9 : l.stackTraces = false) {PP : Int32 → Int32 → Prop} (hPP : en_P0 PP) (Ω : Nat → en_H → va_W → Prop) (D : va_G) (tys : List (ClassId × FieldType)) (cO cD : ClassId) (sh : en_H) (w : va_W) (sz qx qo : Nat) (fx : List Value) (g0 : (Nat → Int64)) (a1 : Int32) (hb1 : -2147483648 ≤ a1.toInt ∧ a1.toInt ≤ -2) (hTY : tys.map Prod.snd = en_TY0) (hW : en_W PP en_KT k_X6_conditions_28.2.2.2.2.1 sh tys (fun _ => False) w) (hD0 : va_D (va_A w sz) w) (hΩ : en_Om en_om0 sh Ω) (hqx : sh.1[qx]? = some 0) (hwx : w[qx]? = some (sh.2 qx, .inr (12, fx))) (hqo : sh.1[qo]? = some 56) (hwo : w[qo]? = some (sh.2 qo, .inl (cO, 1, .inr (.inl g0)))) (hf7 : fx[8]? = some (.int 1)) :
    Met l yL_conditions (Cond.codeWith yL_conditions cL_conditions 4 (some .int) [(0, 9, 12, 13)] :: en_cw) (en_rm 1 (1, 6)) (va_Pc [.ref (sh.2 qx), .int a1, .ref (sh.2 qo)] (en_B D vwCl (tys ++ [(cO, .long), (cD, .double)]) w sz)) (va_Qi (fun r u => (en_Px tys PP en_KT k_X6_conditions_28.2.2.2.2.1 ((56, 0) :: k_X6_conditions_28.2.2.2.1) sh w u ∧ ∃ g, u.2[qo]? = some (sh.2 qo, .inl (cO, 1, .inr (.inl g)))) ∧ r = 1) (en_Bw D vwCl (va_A w sz)) (va_A w sz)) 1 6 (va_A w sz) := by
  refine va_MetW (cc := cL_conditions) (maxL := 4) (ret := some .int) (hh := [(0, 9, 12, 13)]) (by decide +kernel) rfl ?_
  intro p e s m args below meth c s₁ B hml hv
  obtain ⟨rfl, hsz, hP, hK, hT⟩ := hv
  subst hsz
  have hx := B.exec
  have hb := B.bytes
  have hr := B.returns
  have hts0 := atoms_spec (ws := Cond.codeWith yL_conditions cL_conditions 4 (some .int) [(0, 9, 12, 13)] :: en_cw) B.pre
  have hts : ∀ z ∈ en_cw, z.before _ s = true := fun z hz => hts0 z (List.mem_cons_of_mem _ hz)
  have hown : s.vm.findClass RL = some m.cls := findClass_of_methodNamed B.named
  have htab := vx_table (x := yL_conditions) B (hts0 _ List.mem_cons_self)
  have hA : ∀ q : Nat, s.heap.size ≤ q → va_A w s.heap.size q := fun q h => Or.inr h
  have hS : va_S (va_A w s.heap.size) s.heap s.heap [] := va_S.rf
  have hK0 : va_K D vwCl tys s := hK.pre
  have hTt : (tys ++ [(cO, .long), (cD, .double)])[7]? = some (cO, .long) := wr_ty hTY
  have hl := lv_entry ([.ref (sh.2 qx), .int a1, .ref (sh.2 qo)]) (n := 4) (Nat.le_of_ble_eq_true rfl)
  rw [lg_entry_eq]
  generalize (lg_sl ([.ref (sh.2 qx), .int a1, .ref (sh.2 qo)]) ++ List.replicate (4 - (lg_sl ([.ref (sh.2 qx), .int a1, .ref (sh.2 qo)])).length) Slot.unset).toArray = ls at hl ⊢
  have hl : lv_has ls 4 [(0, .ref (sh.2 qx)), (1, .int a1), (2, .ref (sh.2 qo))] := hl
  refine lv_aload_n hx hb dw_conditions_0 rfl (lv_at hl 2 rfl) ?_
  refine lv_iconst (v := 0) hx hb dw_conditions_1 (by decide) ?_
  refine lv_aload_n hx hb dw_conditions_2 rfl (lv_at hl 0 rfl) ?_
  refine lv_iload_n hx hb dw_conditions_3 rfl (lv_at hl 1 rfl) ?_
  refine en_hcV (q0 := qx) (b := sh.2 qx) (fs := fx) (co := 12) (ρp := [.ref (sh.2 qx), .int a1, .int 1]) (As := [.int a1]) (rest := [.int 0, .ref (sh.2 qo)]) (lv' := 0) (ct_X6_conditions_28 hl9 hPP Ω) gw_X6_conditions rfl rfl hwx rfl rfl (Nat.le_of_ble_eq_true rfl) ⟨Nat.le_of_ble_eq_true rfl, Nat.le_of_ble_eq_true rfl⟩ ⟨Nat.le_of_ble_eq_true rfl, Nat.le_of_ble_eq_true rfl⟩ (Nat.le_of_ble_eq_true rfl) hx hb (hml.trans hl.1.symm) hts hown hTY hK0 hT hP hD0 hS hA hW hΩ (wr_pf (env := k_X6_conditions_28.2.1.1) (fa := k_X6_conditions_28.2.1.2) ⟨⟨qx, hqx, rfl⟩, ⟨a1, rfl, hb1.1, hb1.2⟩, ⟨_, rfl, by decide, by decide⟩, trivial⟩ (en_ac ⟨qx, _, 12, fx, _, rfl, hwx, hf7, rfl⟩ en_an)) dw_conditions_4 (fun x9 hx9 ce q9 u H1 locs1 hpx hP1 hD1 hS1 hcell hvm hcl => ?_) (fun u res H1 locs1 hrv hpo hP1 hD1 hS1 => ?_)
  · have hku := wr_keep hpx hqo (by decide +kernel) hwo
    have hpx9 := wr_same hpx ((56, 0) :: k_X6_conditions_28.2.2.2.1) (fun z hz => List.mem_cons_of_mem _ hz)
    have hx8 := List.mem_singleton.mp hx9
    subst hx8
    refine vx_catch (E := "java/lang/IllegalArgumentException") (name := "java/lang/IllegalArgumentException") hown [] ⟨0, 9, 12, 13⟩ [] (htab.trans rfl) wr_nil (by decide) (by decide) (hts (.classLink RL 13 "java/lang/IllegalArgumentException") cwl498) (va_Nw.use rfl (hT.1 (Cond.castable "java/lang/IllegalArgumentException" "java/lang/IllegalArgumentException") (tf_cast (53, "java/lang/IllegalArgumentException") (by decide +kernel)))) hcell hvm hcl ?_
    refine lv_astore_n (lv' := (3, .ref q9) :: [(0, .ref (sh.2 qx)), (1, .int a1), (2, .ref (sh.2 qo))]) hx hb dw_conditions_12 rfl hl (by decide) rfl (fun ls hl => ?_)
    refine lv_iconst (v := 1) hx hb dw_conditions_13 (by decide) ?_
    exact W.widen (Nat.le_of_ble_eq_true rfl) (Nat.le_of_ble_eq_true rfl) (W.iret (v := 1) hx hb hr (fun t ht hW9 => ⟨⟨1, u, rfl, ⟨⟨hpx9, g0, hku⟩, rfl⟩, by rw [ht]; exact hP1, hD1⟩, hS1.F ht⟩) hS1.2.2 dw_conditions_14)
  · obtain ⟨hpx, hpo9⟩ := hpo
    have hku := wr_keep hpx hqo (by decide +kernel) hwo
    obtain ⟨r9, rfl⟩ := hrv
    obtain ⟨o9, ho9, -⟩ := hpo9
    exact absurd ho9 List.not_mem_nil
set_option maxHeartbeats 4000000 in
set_option maxRecDepth 100000 in
theorem wr_conditions_5_2 {l : Launch} (hl9 : l.stackTraces = false) {PP : Int32 → Int32 → Prop} (hPP : en_P0 PP) (Ω : Nat → en_H → va_W → Prop) (D : va_G) (tys : List (ClassId × FieldType)) (cO cD : ClassId) (sh : en_H) (w : va_W) (sz qx qo : Nat) (fx : List Value) (g0 : (Nat → Int64)) (a1 : Int32) (hb1 : -2147483648 ≤ a1.toInt ∧ a1.toInt ≤ -2) (hTY : tys.map Prod.snd = en_TY0) (hW : en_W PP en_KT k_X6_conditions_29.2.2.2.2.1 sh tys (fun _ => False) w) (hD0 : va_D (va_A w sz) w) (hΩ : en_Om en_om0 sh Ω) (hqx : sh.1[qx]? = some 0) (hwx : w[qx]? = some (sh.2 qx, .inr (12, fx))) (hqo : sh.1[qo]? = some 56) (hwo : w[qo]? = some (sh.2 qo, .inl (cO, 1, .inr (.inl g0)))) (hf7 : fx[8]? = some (.int 2)) :
    Met l yL_conditions (Cond.codeWith yL_conditions cL_conditions 4 (some .int) [(0, 9, 12, 13)] :: en_cw) (en_rm 1 (1, 6)) (va_Pc [.ref (sh.2 qx), .int a1, .ref (sh.2 qo)] (en_B D vwCl (tys ++ [(cO, .long), (cD, .double)]) w sz)) (va_Qi (fun r u => (en_Px tys PP en_KT k_X6_conditions_29.2.2.2.2.1 ((56, 0) :: k_X6_conditions_29.2.2.2.1) sh w u ∧ ∃ g, u.2[qo]? = some (sh.2 qo, .inl (cO, 1, .inr (.inl g)))) ∧ r = 1) (en_Bw D vwCl (va_A w sz)) (va_A w sz)) 1 6 (va_A w sz) := by
  refine va_MetW (cc := cL_conditions) (maxL := 4) (ret := some .int) (hh := [(0, 9, 12, 13)]) (by decide +kernel) rfl ?_
  intro p e s m args below meth c s₁ B hml hv
  obtain ⟨rfl, hsz, hP, hK, hT⟩ := hv
  subst hsz
  have hx := B.exec
  have hb := B.bytes
  have hr := B.returns
  have hts0 := atoms_spec (ws := Cond.codeWith yL_conditions cL_conditions 4 (some .int) [(0, 9, 12, 13)] :: en_cw) B.pre
  have hts : ∀ z ∈ en_cw, z.before _ s = true := fun z hz => hts0 z (List.mem_cons_of_mem _ hz)
  have hown : s.vm.findClass RL = some m.cls := findClass_of_methodNamed B.named
  have htab := vx_table (x := yL_conditions) B (hts0 _ List.mem_cons_self)
  have hA : ∀ q : Nat, s.heap.size ≤ q → va_A w s.heap.size q := fun q h => Or.inr h
  have hS : va_S (va_A w s.heap.size) s.heap s.heap [] := va_S.rf
  have hK0 : va_K D vwCl tys s := hK.pre
  have hTt : (tys ++ [(cO, .long), (cD, .double)])[7]? = some (cO, .long) := wr_ty hTY
  have hl := lv_entry ([.ref (sh.2 qx), .int a1, .ref (sh.2 qo)]) (n := 4) (Nat.le_of_ble_eq_true rfl)
  rw [lg_entry_eq]
  generalize (lg_sl ([.ref (sh.2 qx), .int a1, .ref (sh.2 qo)]) ++ List.replicate (4 - (lg_sl ([.ref (sh.2 qx), .int a1, .ref (sh.2 qo)])).length) Slot.unset).toArray = ls at hl ⊢
  have hl : lv_has ls 4 [(0, .ref (sh.2 qx)), (1, .int a1), (2, .ref (sh.2 qo))] := hl
  refine lv_aload_n hx hb dw_conditions_0 rfl (lv_at hl 2 rfl) ?_
  refine lv_iconst (v := 0) hx hb dw_conditions_1 (by decide) ?_
  refine lv_aload_n hx hb dw_conditions_2 rfl (lv_at hl 0 rfl) ?_
  refine lv_iload_n hx hb dw_conditions_3 rfl (lv_at hl 1 rfl) ?_
  refine en_hcV (q0 := qx) (b := sh.2 qx) (fs := fx) (co := 12) (ρp := [.ref (sh.2 qx), .int a1, .int 2]) (As := [.int a1]) (rest := [.int 0, .ref (sh.2 qo)]) (lv' := 0) (ct_X6_conditions_29 hl9 hPP Ω) gw_X6_conditions rfl rfl hwx rfl rfl (Nat.le_of_ble_eq_true rfl) ⟨Nat.le_of_ble_eq_true rfl, Nat.le_of_ble_eq_true rfl⟩ ⟨Nat.le_of_ble_eq_true rfl, Nat.le_of_ble_eq_true rfl⟩ (Nat.le_of_ble_eq_true rfl) hx hb (hml.trans hl.1.symm) hts hown hTY hK0 hT hP hD0 hS hA hW hΩ (wr_pf (env := k_X6_conditions_29.2.1.1) (fa := k_X6_conditions_29.2.1.2) ⟨⟨qx, hqx, rfl⟩, ⟨a1, rfl, hb1.1, hb1.2⟩, ⟨_, rfl, by decide, by decide⟩, trivial⟩ (en_ac ⟨qx, _, 12, fx, _, rfl, hwx, hf7, rfl⟩ en_an)) dw_conditions_4 (fun x9 hx9 ce q9 u H1 locs1 hpx hP1 hD1 hS1 hcell hvm hcl => ?_) (fun u res H1 locs1 hrv hpo hP1 hD1 hS1 => ?_)
  · have hku := wr_keep hpx hqo (by decide +kernel) hwo
    have hpx9 := wr_same hpx ((56, 0) :: k_X6_conditions_29.2.2.2.1) (fun z hz => List.mem_cons_of_mem _ hz)
    have hx8 := List.mem_singleton.mp hx9
    subst hx8
    refine vx_catch (E := "java/lang/IllegalArgumentException") (name := "java/lang/IllegalArgumentException") hown [] ⟨0, 9, 12, 13⟩ [] (htab.trans rfl) wr_nil (by decide) (by decide) (hts (.classLink RL 13 "java/lang/IllegalArgumentException") cwl498) (va_Nw.use rfl (hT.1 (Cond.castable "java/lang/IllegalArgumentException" "java/lang/IllegalArgumentException") (tf_cast (53, "java/lang/IllegalArgumentException") (by decide +kernel)))) hcell hvm hcl ?_
    refine lv_astore_n (lv' := (3, .ref q9) :: [(0, .ref (sh.2 qx)), (1, .int a1), (2, .ref (sh.2 qo))]) hx hb dw_conditions_12 rfl hl (by decide) rfl (fun ls hl => ?_)
    refine lv_iconst (v := 1) hx hb dw_conditions_13 (by decide) ?_
    exact W.widen (Nat.le_of_ble_eq_true rfl) (Nat.le_of_ble_eq_true rfl) (W.iret (v := 1) hx hb hr (fun t ht hW9 => ⟨⟨1, u, rfl, ⟨⟨hpx9, g0, hku⟩, rfl⟩, by rw [ht]; exact hP1, hD1⟩, hS1.F ht⟩) hS1.2.2 dw_conditions_14)
  · obtain ⟨hpx, hpo9⟩ := hpo
    have hku := wr_keep hpx hqo (by decide +kernel) hwo
    obtain ⟨r9, rfl⟩ := hrv
    obtain ⟨o9, ho9, -⟩ := hpo9
    exact absurd ho9 List.not_mem_nil
set_option maxHeartbeats 4000000 in
set_option maxRecDepth 100000 in
theorem wr_conditions_5_3 {l : Launch} (hl9 : l.stackTraces = false) {PP : Int32 → Int32 → Prop} (hPP : en_P0 PP) (Ω : Nat → en_H → va_W → Prop) (D : va_G) (tys : List (ClassId × FieldType)) (cO cD : ClassId) (sh : en_H) (w : va_W) (sz qx qo : Nat) (fx : List Value) (g0 : (Nat → Int64)) (a1 : Int32) (hb1 : -2147483648 ≤ a1.toInt ∧ a1.toInt ≤ -2) (hTY : tys.map Prod.snd = en_TY0) (hW : en_W PP en_KT k_X6_conditions_30.2.2.2.2.1 sh tys (fun _ => False) w) (hD0 : va_D (va_A w sz) w) (hΩ : en_Om en_om0 sh Ω) (hqx : sh.1[qx]? = some 0) (hwx : w[qx]? = some (sh.2 qx, .inr (12, fx))) (hqo : sh.1[qo]? = some 56) (hwo : w[qo]? = some (sh.2 qo, .inl (cO, 1, .inr (.inl g0)))) (hf7 : fx[8]? = some (.int 3)) :
    Met l yL_conditions (Cond.codeWith yL_conditions cL_conditions 4 (some .int) [(0, 9, 12, 13)] :: en_cw) (en_rm 1 (1, 6)) (va_Pc [.ref (sh.2 qx), .int a1, .ref (sh.2 qo)] (en_B D vwCl (tys ++ [(cO, .long), (cD, .double)]) w sz)) (va_Qi (fun r u => (en_Px tys PP en_KT k_X6_conditions_30.2.2.2.2.1 ((56, 0) :: k_X6_conditions_30.2.2.2.1) sh w u ∧ ∃ g, u.2[qo]? = some (sh.2 qo, .inl (cO, 1, .inr (.inl g)))) ∧ r = 1) (en_Bw D vwCl (va_A w sz)) (va_A w sz)) 1 6 (va_A w sz) := by
  refine va_MetW (cc := cL_conditions) (maxL := 4) (ret := some .int) (hh := [(0, 9, 12, 13)]) (by decide +kernel) rfl ?_
  intro p e s m args below meth c s₁ B hml hv
  obtain ⟨rfl, hsz, hP, hK, hT⟩ := hv
  subst hsz
  have hx := B.exec
  have hb := B.bytes
  have hr := B.returns
  have hts0 := atoms_spec (ws := Cond.codeWith yL_conditions cL_conditions 4 (some .int) [(0, 9, 12, 13)] :: en_cw) B.pre
  have hts : ∀ z ∈ en_cw, z.before _ s = true := fun z hz => hts0 z (List.mem_cons_of_mem _ hz)
  have hown : s.vm.findClass RL = some m.cls := findClass_of_methodNamed B.named
  have htab := vx_table (x := yL_conditions) B (hts0 _ List.mem_cons_self)
  have hA : ∀ q : Nat, s.heap.size ≤ q → va_A w s.heap.size q := fun q h => Or.inr h
  have hS : va_S (va_A w s.heap.size) s.heap s.heap [] := va_S.rf
  have hK0 : va_K D vwCl tys s := hK.pre
  have hTt : (tys ++ [(cO, .long), (cD, .double)])[7]? = some (cO, .long) := wr_ty hTY
  have hl := lv_entry ([.ref (sh.2 qx), .int a1, .ref (sh.2 qo)]) (n := 4) (Nat.le_of_ble_eq_true rfl)
  rw [lg_entry_eq]
  generalize (lg_sl ([.ref (sh.2 qx), .int a1, .ref (sh.2 qo)]) ++ List.replicate (4 - (lg_sl ([.ref (sh.2 qx), .int a1, .ref (sh.2 qo)])).length) Slot.unset).toArray = ls at hl ⊢
  have hl : lv_has ls 4 [(0, .ref (sh.2 qx)), (1, .int a1), (2, .ref (sh.2 qo))] := hl
  refine lv_aload_n hx hb dw_conditions_0 rfl (lv_at hl 2 rfl) ?_
  refine lv_iconst (v := 0) hx hb dw_conditions_1 (by decide) ?_
  refine lv_aload_n hx hb dw_conditions_2 rfl (lv_at hl 0 rfl) ?_
  refine lv_iload_n hx hb dw_conditions_3 rfl (lv_at hl 1 rfl) ?_
  refine en_hcV (q0 := qx) (b := sh.2 qx) (fs := fx) (co := 12) (ρp := [.ref (sh.2 qx), .int a1, .int 3]) (As := [.int a1]) (rest := [.int 0, .ref (sh.2 qo)]) (lv' := 0) (ct_X6_conditions_30 hl9 hPP Ω) gw_X6_conditions rfl rfl hwx rfl rfl (Nat.le_of_ble_eq_true rfl) ⟨Nat.le_of_ble_eq_true rfl, Nat.le_of_ble_eq_true rfl⟩ ⟨Nat.le_of_ble_eq_true rfl, Nat.le_of_ble_eq_true rfl⟩ (Nat.le_of_ble_eq_true rfl) hx hb (hml.trans hl.1.symm) hts hown hTY hK0 hT hP hD0 hS hA hW hΩ (wr_pf (env := k_X6_conditions_30.2.1.1) (fa := k_X6_conditions_30.2.1.2) ⟨⟨qx, hqx, rfl⟩, ⟨a1, rfl, hb1.1, hb1.2⟩, ⟨_, rfl, by decide, by decide⟩, trivial⟩ (en_ac ⟨qx, _, 12, fx, _, rfl, hwx, hf7, rfl⟩ en_an)) dw_conditions_4 (fun x9 hx9 ce q9 u H1 locs1 hpx hP1 hD1 hS1 hcell hvm hcl => ?_) (fun u res H1 locs1 hrv hpo hP1 hD1 hS1 => ?_)
  · have hku := wr_keep hpx hqo (by decide +kernel) hwo
    have hpx9 := wr_same hpx ((56, 0) :: k_X6_conditions_30.2.2.2.1) (fun z hz => List.mem_cons_of_mem _ hz)
    have hx8 := List.mem_singleton.mp hx9
    subst hx8
    refine vx_catch (E := "java/lang/IllegalArgumentException") (name := "java/lang/IllegalArgumentException") hown [] ⟨0, 9, 12, 13⟩ [] (htab.trans rfl) wr_nil (by decide) (by decide) (hts (.classLink RL 13 "java/lang/IllegalArgumentException") cwl498) (va_Nw.use rfl (hT.1 (Cond.castable "java/lang/IllegalArgumentException" "java/lang/IllegalArgumentException") (tf_cast (53, "java/lang/IllegalArgumentException") (by decide +kernel)))) hcell hvm hcl ?_
    refine lv_astore_n (lv' := (3, .ref q9) :: [(0, .ref (sh.2 qx)), (1, .int a1), (2, .ref (sh.2 qo))]) hx hb dw_conditions_12 rfl hl (by decide) rfl (fun ls hl => ?_)
    refine lv_iconst (v := 1) hx hb dw_conditions_13 (by decide) ?_
    exact W.widen (Nat.le_of_ble_eq_true rfl) (Nat.le_of_ble_eq_true rfl) (W.iret (v := 1) hx hb hr (fun t ht hW9 => ⟨⟨1, u, rfl, ⟨⟨hpx9, g0, hku⟩, rfl⟩, by rw [ht]; exact hP1, hD1⟩, hS1.F ht⟩) hS1.2.2 dw_conditions_14)
  · obtain ⟨hpx, hpo9⟩ := hpo
    have hku := wr_keep hpx hqo (by decide +kernel) hwo
    obtain ⟨r9, rfl⟩ := hrv
    obtain ⟨o9, ho9, -⟩ := hpo9
    exact absurd ho9 List.not_mem_nil
set_option maxHeartbeats 4000000 in
set_option maxRecDepth 100000 in
theorem wr_conditions_6_m1 {l : Launch} (hl9 : l.stackTraces = false) {PP : Int32 → Int32 → Prop} (hPP : en_P0 PP) (Ω : Nat → en_H → va_W → Prop) (D : va_G) (tys : List (ClassId × FieldType)) (cO cD : ClassId) (sh : en_H) (w : va_W) (sz qx qo : Nat) (fx : List Value) (g0 : (Nat → Int64)) (a1 : Int32) (hb1 : 4 ≤ a1.toInt ∧ a1.toInt ≤ 2147483647) (hTY : tys.map Prod.snd = en_TY0) (hW : en_W PP en_KT k_X6_conditions_31.2.2.2.2.1 sh tys (fun _ => False) w) (hD0 : va_D (va_A w sz) w) (hΩ : en_Om en_om0 sh Ω) (hqx : sh.1[qx]? = some 0) (hwx : w[qx]? = some (sh.2 qx, .inr (12, fx))) (hqo : sh.1[qo]? = some 56) (hwo : w[qo]? = some (sh.2 qo, .inl (cO, 1, .inr (.inl g0)))) (hf7 : fx[8]? = some (.int (-1))) :
    Met l yL_conditions (Cond.codeWith yL_conditions cL_conditions 4 (some .int) [(0, 9, 12, 13)] :: en_cw) (en_rm 1 (1, 6)) (va_Pc [.ref (sh.2 qx), .int a1, .ref (sh.2 qo)] (en_B D vwCl (tys ++ [(cO, .long), (cD, .double)]) w sz)) (va_Qi (fun r u => (en_Px tys PP en_KT k_X6_conditions_31.2.2.2.2.1 ((56, 0) :: k_X6_conditions_31.2.2.2.1) sh w u ∧ ∃ g, u.2[qo]? = some (sh.2 qo, .inl (cO, 1, .inr (.inl g)))) ∧ r = 1) (en_Bw D vwCl (va_A w sz)) (va_A w sz)) 1 6 (va_A w sz) := by
  refine va_MetW (cc := cL_conditions) (maxL := 4) (ret := some .int) (hh := [(0, 9, 12, 13)]) (by decide +kernel) rfl ?_
  intro p e s m args below meth c s₁ B hml hv
  obtain ⟨rfl, hsz, hP, hK, hT⟩ := hv
  subst hsz
  have hx := B.exec
  have hb := B.bytes
  have hr := B.returns
  have hts0 := atoms_spec (ws := Cond.codeWith yL_conditions cL_conditions 4 (some .int) [(0, 9, 12, 13)] :: en_cw) B.pre
  have hts : ∀ z ∈ en_cw, z.before _ s = true := fun z hz => hts0 z (List.mem_cons_of_mem _ hz)
  have hown : s.vm.findClass RL = some m.cls := findClass_of_methodNamed B.named
  have htab := vx_table (x := yL_conditions) B (hts0 _ List.mem_cons_self)
  have hA : ∀ q : Nat, s.heap.size ≤ q → va_A w s.heap.size q := fun q h => Or.inr h
  have hS : va_S (va_A w s.heap.size) s.heap s.heap [] := va_S.rf
  have hK0 : va_K D vwCl tys s := hK.pre
  have hTt : (tys ++ [(cO, .long), (cD, .double)])[7]? = some (cO, .long) := wr_ty hTY
  have hl := lv_entry ([.ref (sh.2 qx), .int a1, .ref (sh.2 qo)]) (n := 4) (Nat.le_of_ble_eq_true rfl)
  rw [lg_entry_eq]
  generalize (lg_sl ([.ref (sh.2 qx), .int a1, .ref (sh.2 qo)]) ++ List.replicate (4 - (lg_sl ([.ref (sh.2 qx), .int a1, .ref (sh.2 qo)])).length) Slot.unset).toArray = ls at hl ⊢
  have hl : lv_has ls 4 [(0, .ref (sh.2 qx)), (1, .int a1), (2, .ref (sh.2 qo))] := hl
  refine lv_aload_n hx hb dw_conditions_0 rfl (lv_at hl 2 rfl) ?_
  refine lv_iconst (v := 0) hx hb dw_conditions_1 (by decide) ?_
  refine lv_aload_n hx hb dw_conditions_2 rfl (lv_at hl 0 rfl) ?_
  refine lv_iload_n hx hb dw_conditions_3 rfl (lv_at hl 1 rfl) ?_
  refine en_hcV (q0 := qx) (b := sh.2 qx) (fs := fx) (co := 12) (ρp := [.ref (sh.2 qx), .int a1, .int (-1)]) (As := [.int a1]) (rest := [.int 0, .ref (sh.2 qo)]) (lv' := 0) (ct_X6_conditions_31 hl9 hPP Ω) gw_X6_conditions rfl rfl hwx rfl rfl (Nat.le_of_ble_eq_true rfl) ⟨Nat.le_of_ble_eq_true rfl, Nat.le_of_ble_eq_true rfl⟩ ⟨Nat.le_of_ble_eq_true rfl, Nat.le_of_ble_eq_true rfl⟩ (Nat.le_of_ble_eq_true rfl) hx hb (hml.trans hl.1.symm) hts hown hTY hK0 hT hP hD0 hS hA hW hΩ (wr_pf (env := k_X6_conditions_31.2.1.1) (fa := k_X6_conditions_31.2.1.2) ⟨⟨qx, hqx, rfl⟩, ⟨a1, rfl, hb1.1, hb1.2⟩, ⟨_, rfl, by decide, by decide⟩, trivial⟩ (en_ac ⟨qx, _, 12, fx, _, rfl, hwx, hf7, rfl⟩ en_an)) dw_conditions_4 (fun x9 hx9 ce q9 u H1 locs1 hpx hP1 hD1 hS1 hcell hvm hcl => ?_) (fun u res H1 locs1 hrv hpo hP1 hD1 hS1 => ?_)
  · have hku := wr_keep hpx hqo (by decide +kernel) hwo
    have hpx9 := wr_same hpx ((56, 0) :: k_X6_conditions_31.2.2.2.1) (fun z hz => List.mem_cons_of_mem _ hz)
    have hx8 := List.mem_singleton.mp hx9
    subst hx8
    refine vx_catch (E := "java/lang/IllegalArgumentException") (name := "java/lang/IllegalArgumentException") hown [] ⟨0, 9, 12, 13⟩ [] (htab.trans rfl) wr_nil (by decide) (by decide) (hts (.classLink RL 13 "java/lang/IllegalArgumentException") cwl498) (va_Nw.use rfl (hT.1 (Cond.castable "java/lang/IllegalArgumentException" "java/lang/IllegalArgumentException") (tf_cast (53, "java/lang/IllegalArgumentException") (by decide +kernel)))) hcell hvm hcl ?_
    refine lv_astore_n (lv' := (3, .ref q9) :: [(0, .ref (sh.2 qx)), (1, .int a1), (2, .ref (sh.2 qo))]) hx hb dw_conditions_12 rfl hl (by decide) rfl (fun ls hl => ?_)
    refine lv_iconst (v := 1) hx hb dw_conditions_13 (by decide) ?_
    exact W.widen (Nat.le_of_ble_eq_true rfl) (Nat.le_of_ble_eq_true rfl) (W.iret (v := 1) hx hb hr (fun t ht hW9 => ⟨⟨1, u, rfl, ⟨⟨hpx9, g0, hku⟩, rfl⟩, by rw [ht]; exact hP1, hD1⟩, hS1.F ht⟩) hS1.2.2 dw_conditions_14)
  · obtain ⟨hpx, hpo9⟩ := hpo
    have hku := wr_keep hpx hqo (by decide +kernel) hwo
    obtain ⟨r9, rfl⟩ := hrv
    obtain ⟨o9, ho9, -⟩ := hpo9
    exact absurd ho9 List.not_mem_nil
set_option maxHeartbeats 4000000 in
set_option maxRecDepth 100000 in
theorem wr_conditions_6_0 {l : Launch} (hl9 : l.stackTraces = false) {PP : Int32 → Int32 → Prop} (hPP : en_P0 PP) (Ω : Nat → en_H → va_W → Prop) (D : va_G) (tys : List (ClassId × FieldType)) (cO cD : ClassId) (sh : en_H) (w : va_W) (sz qx qo : Nat) (fx : List Value) (g0 : (Nat → Int64)) (a1 : Int32) (hb1 : 4 ≤ a1.toInt ∧ a1.toInt ≤ 2147483647) (hTY : tys.map Prod.snd = en_TY0) (hW : en_W PP en_KT k_X6_conditions_32.2.2.2.2.1 sh tys (fun _ => False) w) (hD0 : va_D (va_A w sz) w) (hΩ : en_Om en_om0 sh Ω) (hqx : sh.1[qx]? = some 0) (hwx : w[qx]? = some (sh.2 qx, .inr (12, fx))) (hqo : sh.1[qo]? = some 56) (hwo : w[qo]? = some (sh.2 qo, .inl (cO, 1, .inr (.inl g0)))) (hf7 : fx[8]? = some (.int 0)) :
    Met l yL_conditions (Cond.codeWith yL_conditions cL_conditions 4 (some .int) [(0, 9, 12, 13)] :: en_cw) (en_rm 1 (1, 6)) (va_Pc [.ref (sh.2 qx), .int a1, .ref (sh.2 qo)] (en_B D vwCl (tys ++ [(cO, .long), (cD, .double)]) w sz)) (va_Qi (fun r u => (en_Px tys PP en_KT k_X6_conditions_32.2.2.2.2.1 ((56, 0) :: k_X6_conditions_32.2.2.2.1) sh w u ∧ ∃ g, u.2[qo]? = some (sh.2 qo, .inl (cO, 1, .inr (.inl g)))) ∧ r = 1) (en_Bw D vwCl (va_A w sz)) (va_A w sz)) 1 6 (va_A w sz) := by
  refine va_MetW (cc := cL_conditions) (maxL := 4) (ret := some .int) (hh := [(0, 9, 12, 13)]) (by decide +kernel) rfl ?_
  intro p e s m args below meth c s₁ B hml hv
  obtain ⟨rfl, hsz, hP, hK, hT⟩ := hv
  subst hsz
  have hx := B.exec
  have hb := B.bytes
  have hr := B.returns
  have hts0 := atoms_spec (ws := Cond.codeWith yL_conditions cL_conditions 4 (some .int) [(0, 9, 12, 13)] :: en_cw) B.pre
  have hts : ∀ z ∈ en_cw, z.before _ s = true := fun z hz => hts0 z (List.mem_cons_of_mem _ hz)
  have hown : s.vm.findClass RL = some m.cls := findClass_of_methodNamed B.named
  have htab := vx_table (x := yL_conditions) B (hts0 _ List.mem_cons_self)
  have hA : ∀ q : Nat, s.heap.size ≤ q → va_A w s.heap.size q := fun q h => Or.inr h
  have hS : va_S (va_A w s.heap.size) s.heap s.heap [] := va_S.rf
  have hK0 : va_K D vwCl tys s := hK.pre
  have hTt : (tys ++ [(cO, .long), (cD, .double)])[7]? = some (cO, .long) := wr_ty hTY
  have hl := lv_entry ([.ref (sh.2 qx), .int a1, .ref (sh.2 qo)]) (n := 4) (Nat.le_of_ble_eq_true rfl)
  rw [lg_entry_eq]
  generalize (lg_sl ([.ref (sh.2 qx), .int a1, .ref (sh.2 qo)]) ++ List.replicate (4 - (lg_sl ([.ref (sh.2 qx), .int a1, .ref (sh.2 qo)])).length) Slot.unset).toArray = ls at hl ⊢
  have hl : lv_has ls 4 [(0, .ref (sh.2 qx)), (1, .int a1), (2, .ref (sh.2 qo))] := hl
  refine lv_aload_n hx hb dw_conditions_0 rfl (lv_at hl 2 rfl) ?_
  refine lv_iconst (v := 0) hx hb dw_conditions_1 (by decide) ?_
  refine lv_aload_n hx hb dw_conditions_2 rfl (lv_at hl 0 rfl) ?_
  refine lv_iload_n hx hb dw_conditions_3 rfl (lv_at hl 1 rfl) ?_
  refine en_hcV (q0 := qx) (b := sh.2 qx) (fs := fx) (co := 12) (ρp := [.ref (sh.2 qx), .int a1, .int 0]) (As := [.int a1]) (rest := [.int 0, .ref (sh.2 qo)]) (lv' := 0) (ct_X6_conditions_32 hl9 hPP Ω) gw_X6_conditions rfl rfl hwx rfl rfl (Nat.le_of_ble_eq_true rfl) ⟨Nat.le_of_ble_eq_true rfl, Nat.le_of_ble_eq_true rfl⟩ ⟨Nat.le_of_ble_eq_true rfl, Nat.le_of_ble_eq_true rfl⟩ (Nat.le_of_ble_eq_true rfl) hx hb (hml.trans hl.1.symm) hts hown hTY hK0 hT hP hD0 hS hA hW hΩ (wr_pf (env := k_X6_conditions_32.2.1.1) (fa := k_X6_conditions_32.2.1.2) ⟨⟨qx, hqx, rfl⟩, ⟨a1, rfl, hb1.1, hb1.2⟩, ⟨_, rfl, by decide, by decide⟩, trivial⟩ (en_ac ⟨qx, _, 12, fx, _, rfl, hwx, hf7, rfl⟩ en_an)) dw_conditions_4 (fun x9 hx9 ce q9 u H1 locs1 hpx hP1 hD1 hS1 hcell hvm hcl => ?_) (fun u res H1 locs1 hrv hpo hP1 hD1 hS1 => ?_)
  · have hku := wr_keep hpx hqo (by decide +kernel) hwo
    have hpx9 := wr_same hpx ((56, 0) :: k_X6_conditions_32.2.2.2.1) (fun z hz => List.mem_cons_of_mem _ hz)
    have hx8 := List.mem_singleton.mp hx9
    subst hx8
    refine vx_catch (E := "java/lang/IllegalArgumentException") (name := "java/lang/IllegalArgumentException") hown [] ⟨0, 9, 12, 13⟩ [] (htab.trans rfl) wr_nil (by decide) (by decide) (hts (.classLink RL 13 "java/lang/IllegalArgumentException") cwl498) (va_Nw.use rfl (hT.1 (Cond.castable "java/lang/IllegalArgumentException" "java/lang/IllegalArgumentException") (tf_cast (53, "java/lang/IllegalArgumentException") (by decide +kernel)))) hcell hvm hcl ?_
    refine lv_astore_n (lv' := (3, .ref q9) :: [(0, .ref (sh.2 qx)), (1, .int a1), (2, .ref (sh.2 qo))]) hx hb dw_conditions_12 rfl hl (by decide) rfl (fun ls hl => ?_)
    refine lv_iconst (v := 1) hx hb dw_conditions_13 (by decide) ?_
    exact W.widen (Nat.le_of_ble_eq_true rfl) (Nat.le_of_ble_eq_true rfl) (W.iret (v := 1) hx hb hr (fun t ht hW9 => ⟨⟨1, u, rfl, ⟨⟨hpx9, g0, hku⟩, rfl⟩, by rw [ht]; exact hP1, hD1⟩, hS1.F ht⟩) hS1.2.2 dw_conditions_14)
  · obtain ⟨hpx, hpo9⟩ := hpo
    have hku := wr_keep hpx hqo (by decide +kernel) hwo
    obtain ⟨r9, rfl⟩ := hrv
    obtain ⟨o9, ho9, -⟩ := hpo9
    exact absurd ho9 List.not_mem_nil
set_option maxHeartbeats 4000000 in
set_option maxRecDepth 100000 in
theorem wr_conditions_6_1 {l : Launch} (hl9 : l.stackTraces = false) {PP : Int32 → Int32 → Prop} (hPP : en_P0 PP) (Ω : Nat → en_H → va_W → Prop) (D : va_G) (tys : List (ClassId × FieldType)) (cO cD : ClassId) (sh : en_H) (w : va_W) (sz qx qo : Nat) (fx : List Value) (g0 : (Nat → Int64)) (a1 : Int32) (hb1 : 4 ≤ a1.toInt ∧ a1.toInt ≤ 2147483647) (hTY : tys.map Prod.snd = en_TY0) (hW : en_W PP en_KT k_X6_conditions_33.2.2.2.2.1 sh tys (fun _ => False) w) (hD0 : va_D (va_A w sz) w) (hΩ : en_Om en_om0 sh Ω) (hqx : sh.1[qx]? = some 0) (hwx : w[qx]? = some (sh.2 qx, .inr (12, fx))) (hqo : sh.1[qo]? = some 56) (hwo : w[qo]? = some (sh.2 qo, .inl (cO, 1, .inr (.inl g0)))) (hf7 : fx[8]? = some (.int 1)) :
    Met l yL_conditions (Cond.codeWith yL_conditions cL_conditions 4 (some .int) [(0, 9, 12, 13)] :: en_cw) (en_rm 1 (1, 6)) (va_Pc [.ref (sh.2 qx), .int a1, .ref (sh.2 qo)] (en_B D vwCl (tys ++ [(cO, .long), (cD, .double)]) w sz)) (va_Qi (fun r u => (en_Px tys PP en_KT k_X6_conditions_33.2.2.2.2.1 ((56, 0) :: k_X6_conditions_33.2.2.2.1) sh w u ∧ ∃ g, u.2[qo]? = some (sh.2 qo, .inl (cO, 1, .inr (.inl g)))) ∧ r = 1) (en_Bw D vwCl (va_A w sz)) (va_A w sz)) 1 6 (va_A w sz) := by
  refine va_MetW (cc := cL_conditions) (maxL := 4) (ret := some .int) (hh := [(0, 9, 12, 13)]) (by decide +kernel) rfl ?_
  intro p e s m args below meth c s₁ B hml hv
  obtain ⟨rfl, hsz, hP, hK, hT⟩ := hv
  subst hsz
  have hx := B.exec
  have hb := B.bytes
  have hr := B.returns
  have hts0 := atoms_spec (ws := Cond.codeWith yL_conditions cL_conditions 4 (some .int) [(0, 9, 12, 13)] :: en_cw) B.pre
  have hts : ∀ z ∈ en_cw, z.before _ s = true := fun z hz => hts0 z (List.mem_cons_of_mem _ hz)
  have hown : s.vm.findClass RL = some m.cls := findClass_of_methodNamed B.named
  have htab := vx_table (x := yL_conditions) B (hts0 _ List.mem_cons_self)
  have hA : ∀ q : Nat, s.heap.size ≤ q → va_A w s.heap.size q := fun q h => Or.inr h
  have hS : va_S (va_A w s.heap.size) s.heap s.heap [] := va_S.rf
  have hK0 : va_K D vwCl tys s := hK.pre
  have hTt : (tys ++ [(cO, .long), (cD, .double)])[7]? = some (cO, .long) := wr_ty hTY
  have hl := lv_entry ([.ref (sh.2 qx), .int a1, .ref (sh.2 qo)]) (n := 4) (Nat.le_of_ble_eq_true rfl)
  rw [lg_entry_eq]
  generalize (lg_sl ([.ref (sh.2 qx), .int a1, .ref (sh.2 qo)]) ++ List.replicate (4 - (lg_sl ([.ref (sh.2 qx), .int a1, .ref (sh.2 qo)])).length) Slot.unset).toArray = ls at hl ⊢
  have hl : lv_has ls 4 [(0, .ref (sh.2 qx)), (1, .int a1), (2, .ref (sh.2 qo))] := hl
  refine lv_aload_n hx hb dw_conditions_0 rfl (lv_at hl 2 rfl) ?_
  refine lv_iconst (v := 0) hx hb dw_conditions_1 (by decide) ?_
  refine lv_aload_n hx hb dw_conditions_2 rfl (lv_at hl 0 rfl) ?_
  refine lv_iload_n hx hb dw_conditions_3 rfl (lv_at hl 1 rfl) ?_
  refine en_hcV (q0 := qx) (b := sh.2 qx) (fs := fx) (co := 12) (ρp := [.ref (sh.2 qx), .int a1, .int 1]) (As := [.int a1]) (rest := [.int 0, .ref (sh.2 qo)]) (lv' := 0) (ct_X6_conditions_33 hl9 hPP Ω) gw_X6_conditions rfl rfl hwx rfl rfl (Nat.le_of_ble_eq_true rfl) ⟨Nat.le_of_ble_eq_true rfl, Nat.le_of_ble_eq_true rfl⟩ ⟨Nat.le_of_ble_eq_true rfl, Nat.le_of_ble_eq_true rfl⟩ (Nat.le_of_ble_eq_true rfl) hx hb (hml.trans hl.1.symm) hts hown hTY hK0 hT hP hD0 hS hA hW hΩ (wr_pf (env := k_X6_conditions_33.2.1.1) (fa := k_X6_conditions_33.2.1.2) ⟨⟨qx, hqx, rfl⟩, ⟨a1, rfl, hb1.1, hb1.2⟩, ⟨_, rfl, by decide, by decide⟩, trivial⟩ (en_ac ⟨qx, _, 12, fx, _, rfl, hwx, hf7, rfl⟩ en_an)) dw_conditions_4 (fun x9 hx9 ce q9 u H1 locs1 hpx hP1 hD1 hS1 hcell hvm hcl => ?_) (fun u res H1 locs1 hrv hpo hP1 hD1 hS1 => ?_)
  · have hku := wr_keep hpx hqo (by decide +kernel) hwo
    have hpx9 := wr_same hpx ((56, 0) :: k_X6_conditions_33.2.2.2.1) (fun z hz => List.mem_cons_of_mem _ hz)
    have hx8 := List.mem_singleton.mp hx9
    subst hx8
    refine vx_catch (E := "java/lang/IllegalArgumentException") (name := "java/lang/IllegalArgumentException") hown [] ⟨0, 9, 12, 13⟩ [] (htab.trans rfl) wr_nil (by decide) (by decide) (hts (.classLink RL 13 "java/lang/IllegalArgumentException") cwl498) (va_Nw.use rfl (hT.1 (Cond.castable "java/lang/IllegalArgumentException" "java/lang/IllegalArgumentException") (tf_cast (53, "java/lang/IllegalArgumentException") (by decide +kernel)))) hcell hvm hcl ?_
    refine lv_astore_n (lv' := (3, .ref q9) :: [(0, .ref (sh.2 qx)), (1, .int a1), (2, .ref (sh.2 qo))]) hx hb dw_conditions_12 rfl hl (by decide) rfl (fun ls hl => ?_)
    refine lv_iconst (v := 1) hx hb dw_conditions_13 (by decide) ?_
    exact W.widen (Nat.le_of_ble_eq_true rfl) (Nat.le_of_ble_eq_true rfl) (W.iret (v := 1) hx hb hr (fun t ht hW9 => ⟨⟨1, u, rfl, ⟨⟨hpx9, g0, hku⟩, rfl⟩, by rw [ht]; exact hP1, hD1⟩, hS1.F ht⟩) hS1.2.2 dw_conditions_14)
  · obtain ⟨hpx, hpo9⟩ := hpo
    have hku := wr_keep hpx hqo (by decide +kernel) hwo
    obtain ⟨r9, rfl⟩ := hrv
    obtain ⟨o9, ho9, -⟩ := hpo9
    exact absurd ho9 List.not_mem_nil
set_option maxHeartbeats 4000000 in
set_option maxRecDepth 100000 in
theorem wr_conditions_6_2 {l : Launch} (hl9 : l.stackTraces = false) {PP : Int32 → Int32 → Prop} (hPP : en_P0 PP) (Ω : Nat → en_H → va_W → Prop) (D : va_G) (tys : List (ClassId × FieldType)) (cO cD : ClassId) (sh : en_H) (w : va_W) (sz qx qo : Nat) (fx : List Value) (g0 : (Nat → Int64)) (a1 : Int32) (hb1 : 4 ≤ a1.toInt ∧ a1.toInt ≤ 2147483647) (hTY : tys.map Prod.snd = en_TY0) (hW : en_W PP en_KT k_X6_conditions_34.2.2.2.2.1 sh tys (fun _ => False) w) (hD0 : va_D (va_A w sz) w) (hΩ : en_Om en_om0 sh Ω) (hqx : sh.1[qx]? = some 0) (hwx : w[qx]? = some (sh.2 qx, .inr (12, fx))) (hqo : sh.1[qo]? = some 56) (hwo : w[qo]? = some (sh.2 qo, .inl (cO, 1, .inr (.inl g0)))) (hf7 : fx[8]? = some (.int 2)) :
    Met l yL_conditions (Cond.codeWith yL_conditions cL_conditions 4 (some .int) [(0, 9, 12, 13)] :: en_cw) (en_rm 1 (1, 6)) (va_Pc [.ref (sh.2 qx), .int a1, .ref (sh.2 qo)] (en_B D vwCl (tys ++ [(cO, .long), (cD, .double)]) w sz)) (va_Qi (fun r u => (en_Px tys PP en_KT k_X6_conditions_34.2.2.2.2.1 ((56, 0) :: k_X6_conditions_34.2.2.2.1) sh w u ∧ ∃ g, u.2[qo]? = some (sh.2 qo, .inl (cO, 1, .inr (.inl g)))) ∧ r = 1) (en_Bw D vwCl (va_A w sz)) (va_A w sz)) 1 6 (va_A w sz) := by
  refine va_MetW (cc := cL_conditions) (maxL := 4) (ret := some .int) (hh := [(0, 9, 12, 13)]) (by decide +kernel) rfl ?_
  intro p e s m args below meth c s₁ B hml hv
  obtain ⟨rfl, hsz, hP, hK, hT⟩ := hv
  subst hsz
  have hx := B.exec
  have hb := B.bytes
  have hr := B.returns
  have hts0 := atoms_spec (ws := Cond.codeWith yL_conditions cL_conditions 4 (some .int) [(0, 9, 12, 13)] :: en_cw) B.pre
  have hts : ∀ z ∈ en_cw, z.before _ s = true := fun z hz => hts0 z (List.mem_cons_of_mem _ hz)
  have hown : s.vm.findClass RL = some m.cls := findClass_of_methodNamed B.named
  have htab := vx_table (x := yL_conditions) B (hts0 _ List.mem_cons_self)
  have hA : ∀ q : Nat, s.heap.size ≤ q → va_A w s.heap.size q := fun q h => Or.inr h
  have hS : va_S (va_A w s.heap.size) s.heap s.heap [] := va_S.rf
  have hK0 : va_K D vwCl tys s := hK.pre
  have hTt : (tys ++ [(cO, .long), (cD, .double)])[7]? = some (cO, .long) := wr_ty hTY
  have hl := lv_entry ([.ref (sh.2 qx), .int a1, .ref (sh.2 qo)]) (n := 4) (Nat.le_of_ble_eq_true rfl)
  rw [lg_entry_eq]
  generalize (lg_sl ([.ref (sh.2 qx), .int a1, .ref (sh.2 qo)]) ++ List.replicate (4 - (lg_sl ([.ref (sh.2 qx), .int a1, .ref (sh.2 qo)])).length) Slot.unset).toArray = ls at hl ⊢
  have hl : lv_has ls 4 [(0, .ref (sh.2 qx)), (1, .int a1), (2, .ref (sh.2 qo))] := hl
  refine lv_aload_n hx hb dw_conditions_0 rfl (lv_at hl 2 rfl) ?_
  refine lv_iconst (v := 0) hx hb dw_conditions_1 (by decide) ?_
  refine lv_aload_n hx hb dw_conditions_2 rfl (lv_at hl 0 rfl) ?_
  refine lv_iload_n hx hb dw_conditions_3 rfl (lv_at hl 1 rfl) ?_
  refine en_hcV (q0 := qx) (b := sh.2 qx) (fs := fx) (co := 12) (ρp := [.ref (sh.2 qx), .int a1, .int 2]) (As := [.int a1]) (rest := [.int 0, .ref (sh.2 qo)]) (lv' := 0) (ct_X6_conditions_34 hl9 hPP Ω) gw_X6_conditions rfl rfl hwx rfl rfl (Nat.le_of_ble_eq_true rfl) ⟨Nat.le_of_ble_eq_true rfl, Nat.le_of_ble_eq_true rfl⟩ ⟨Nat.le_of_ble_eq_true rfl, Nat.le_of_ble_eq_true rfl⟩ (Nat.le_of_ble_eq_true rfl) hx hb (hml.trans hl.1.symm) hts hown hTY hK0 hT hP hD0 hS hA hW hΩ (wr_pf (env := k_X6_conditions_34.2.1.1) (fa := k_X6_conditions_34.2.1.2) ⟨⟨qx, hqx, rfl⟩, ⟨a1, rfl, hb1.1, hb1.2⟩, ⟨_, rfl, by decide, by decide⟩, trivial⟩ (en_ac ⟨qx, _, 12, fx, _, rfl, hwx, hf7, rfl⟩ en_an)) dw_conditions_4 (fun x9 hx9 ce q9 u H1 locs1 hpx hP1 hD1 hS1 hcell hvm hcl => ?_) (fun u res H1 locs1 hrv hpo hP1 hD1 hS1 => ?_)
  · have hku := wr_keep hpx hqo (by decide +kernel) hwo
    have hpx9 := wr_same hpx ((56, 0) :: k_X6_conditions_34.2.2.2.1) (fun z hz => List.mem_cons_of_mem _ hz)
    have hx8 := List.mem_singleton.mp hx9
    subst hx8
    refine vx_catch (E := "java/lang/IllegalArgumentException") (name := "java/lang/IllegalArgumentException") hown [] ⟨0, 9, 12, 13⟩ [] (htab.trans rfl) wr_nil (by decide) (by decide) (hts (.classLink RL 13 "java/lang/IllegalArgumentException") cwl498) (va_Nw.use rfl (hT.1 (Cond.castable "java/lang/IllegalArgumentException" "java/lang/IllegalArgumentException") (tf_cast (53, "java/lang/IllegalArgumentException") (by decide +kernel)))) hcell hvm hcl ?_
    refine lv_astore_n (lv' := (3, .ref q9) :: [(0, .ref (sh.2 qx)), (1, .int a1), (2, .ref (sh.2 qo))]) hx hb dw_conditions_12 rfl hl (by decide) rfl (fun ls hl => ?_)
    refine lv_iconst (v := 1) hx hb dw_conditions_13 (by decide) ?_
    exact W.widen (Nat.le_of_ble_eq_true rfl) (Nat.le_of_ble_eq_true rfl) (W.iret (v := 1) hx hb hr (fun t ht hW9 => ⟨⟨1, u, rfl, ⟨⟨hpx9, g0, hku⟩, rfl⟩, by rw [ht]; exact hP1, hD1⟩, hS1.F ht⟩) hS1.2.2 dw_conditions_14)
  · obtain ⟨hpx, hpo9⟩ := hpo
    have hku := wr_keep hpx hqo (by decide +kernel) hwo
    obtain ⟨r9, rfl⟩ := hrv
    obtain ⟨o9, ho9, -⟩ := hpo9
    exact absurd ho9 List.not_mem_nil
set_option maxHeartbeats 4000000 in
set_option maxRecDepth 100000 in
theorem wr_conditions_6_3 {l : Launch} (hl9 : l.stackTraces = false) {PP : Int32 → Int32 → Prop} (hPP : en_P0 PP) (Ω : Nat → en_H → va_W → Prop) (D : va_G) (tys : List (ClassId × FieldType)) (cO cD : ClassId) (sh : en_H) (w : va_W) (sz qx qo : Nat) (fx : List Value) (g0 : (Nat → Int64)) (a1 : Int32) (hb1 : 4 ≤ a1.toInt ∧ a1.toInt ≤ 2147483647) (hTY : tys.map Prod.snd = en_TY0) (hW : en_W PP en_KT k_X6_conditions_35.2.2.2.2.1 sh tys (fun _ => False) w) (hD0 : va_D (va_A w sz) w) (hΩ : en_Om en_om0 sh Ω) (hqx : sh.1[qx]? = some 0) (hwx : w[qx]? = some (sh.2 qx, .inr (12, fx))) (hqo : sh.1[qo]? = some 56) (hwo : w[qo]? = some (sh.2 qo, .inl (cO, 1, .inr (.inl g0)))) (hf7 : fx[8]? = some (.int 3)) :
    Met l yL_conditions (Cond.codeWith yL_conditions cL_conditions 4 (some .int) [(0, 9, 12, 13)] :: en_cw) (en_rm 1 (1, 6)) (va_Pc [.ref (sh.2 qx), .int a1, .ref (sh.2 qo)] (en_B D vwCl (tys ++ [(cO, .long), (cD, .double)]) w sz)) (va_Qi (fun r u => (en_Px tys PP en_KT k_X6_conditions_35.2.2.2.2.1 ((56, 0) :: k_X6_conditions_35.2.2.2.1) sh w u ∧ ∃ g, u.2[qo]? = some (sh.2 qo, .inl (cO, 1, .inr (.inl g)))) ∧ r = 1) (en_Bw D vwCl (va_A w sz)) (va_A w sz)) 1 6 (va_A w sz) := by
  refine va_MetW (cc := cL_conditions) (maxL := 4) (ret := some .int) (hh := [(0, 9, 12, 13)]) (by decide +kernel) rfl ?_
  intro p e s m args below meth c s₁ B hml hv
  obtain ⟨rfl, hsz, hP, hK, hT⟩ := hv
  subst hsz
  have hx := B.exec
  have hb := B.bytes
  have hr := B.returns
  have hts0 := atoms_spec (ws := Cond.codeWith yL_conditions cL_conditions 4 (some .int) [(0, 9, 12, 13)] :: en_cw) B.pre
  have hts : ∀ z ∈ en_cw, z.before _ s = true := fun z hz => hts0 z (List.mem_cons_of_mem _ hz)
  have hown : s.vm.findClass RL = some m.cls := findClass_of_methodNamed B.named
  have htab := vx_table (x := yL_conditions) B (hts0 _ List.mem_cons_self)
  have hA : ∀ q : Nat, s.heap.size ≤ q → va_A w s.heap.size q := fun q h => Or.inr h
  have hS : va_S (va_A w s.heap.size) s.heap s.heap [] := va_S.rf
  have hK0 : va_K D vwCl tys s := hK.pre
  have hTt : (tys ++ [(cO, .long), (cD, .double)])[7]? = some (cO, .long) := wr_ty hTY
  have hl := lv_entry ([.ref (sh.2 qx), .int a1, .ref (sh.2 qo)]) (n := 4) (Nat.le_of_ble_eq_true rfl)
  rw [lg_entry_eq]
  generalize (lg_sl ([.ref (sh.2 qx), .int a1, .ref (sh.2 qo)]) ++ List.replicate (4 - (lg_sl ([.ref (sh.2 qx), .int a1, .ref (sh.2 qo)])).length) Slot.unset).toArray = ls at hl ⊢
  have hl : lv_has ls 4 [(0, .ref (sh.2 qx)), (1, .int a1), (2, .ref (sh.2 qo))] := hl
  refine lv_aload_n hx hb dw_conditions_0 rfl (lv_at hl 2 rfl) ?_
  refine lv_iconst (v := 0) hx hb dw_conditions_1 (by decide) ?_
  refine lv_aload_n hx hb dw_conditions_2 rfl (lv_at hl 0 rfl) ?_
  refine lv_iload_n hx hb dw_conditions_3 rfl (lv_at hl 1 rfl) ?_
  refine en_hcV (q0 := qx) (b := sh.2 qx) (fs := fx) (co := 12) (ρp := [.ref (sh.2 qx), .int a1, .int 3]) (As := [.int a1]) (rest := [.int 0, .ref (sh.2 qo)]) (lv' := 0) (ct_X6_conditions_35 hl9 hPP Ω) gw_X6_conditions rfl rfl hwx rfl rfl (Nat.le_of_ble_eq_true rfl) ⟨Nat.le_of_ble_eq_true rfl, Nat.le_of_ble_eq_true rfl⟩ ⟨Nat.le_of_ble_eq_true rfl, Nat.le_of_ble_eq_true rfl⟩ (Nat.le_of_ble_eq_true rfl) hx hb (hml.trans hl.1.symm) hts hown hTY hK0 hT hP hD0 hS hA hW hΩ (wr_pf (env := k_X6_conditions_35.2.1.1) (fa := k_X6_conditions_35.2.1.2) ⟨⟨qx, hqx, rfl⟩, ⟨a1, rfl, hb1.1, hb1.2⟩, ⟨_, rfl, by decide, by decide⟩, trivial⟩ (en_ac ⟨qx, _, 12, fx, _, rfl, hwx, hf7, rfl⟩ en_an)) dw_conditions_4 (fun x9 hx9 ce q9 u H1 locs1 hpx hP1 hD1 hS1 hcell hvm hcl => ?_) (fun u res H1 locs1 hrv hpo hP1 hD1 hS1 => ?_)
  · have hku := wr_keep hpx hqo (by decide +kernel) hwo
    have hpx9 := wr_same hpx ((56, 0) :: k_X6_conditions_35.2.2.2.1) (fun z hz => List.mem_cons_of_mem _ hz)
    have hx8 := List.mem_singleton.mp hx9
    subst hx8
    refine vx_catch (E := "java/lang/IllegalArgumentException") (name := "java/lang/IllegalArgumentException") hown [] ⟨0, 9, 12, 13⟩ [] (htab.trans rfl) wr_nil (by decide) (by decide) (hts (.classLink RL 13 "java/lang/IllegalArgumentException") cwl498) (va_Nw.use rfl (hT.1 (Cond.castable "java/lang/IllegalArgumentException" "java/lang/IllegalArgumentException") (tf_cast (53, "java/lang/IllegalArgumentException") (by decide +kernel)))) hcell hvm hcl ?_
    refine lv_astore_n (lv' := (3, .ref q9) :: [(0, .ref (sh.2 qx)), (1, .int a1), (2, .ref (sh.2 qo))]) hx hb dw_conditions_12 rfl hl (by decide) rfl (fun ls hl => ?_)
    refine lv_iconst (v := 1) hx hb dw_conditions_13 (by decide) ?_
    exact W.widen (Nat.le_of_ble_eq_true rfl) (Nat.le_of_ble_eq_true rfl) (W.iret (v := 1) hx hb hr (fun t ht hW9 => ⟨⟨1, u, rfl, ⟨⟨hpx9, g0, hku⟩, rfl⟩, by rw [ht]; exact hP1, hD1⟩, hS1.F ht⟩) hS1.2.2 dw_conditions_14)
  · obtain ⟨hpx, hpo9⟩ := hpo
    have hku := wr_keep hpx hqo (by decide +kernel) hwo
    obtain ⟨r9, rfl⟩ := hrv
    obtain ⟨o9, ho9, -⟩ := hpo9
    exact absurd ho9 List.not_mem_nil
