set_option maxHeartbeats 4000000 in
set_option maxRecDepth 100000 in
theorem wr_begin_pm {l : Launch} (hl9 : l.stackTraces = false) {PP : Int32 → Int32 → Prop} (hPP : en_P0 PP) (Ω : Nat → en_H → va_W → Prop) (D : va_G) (tys : List (ClassId × FieldType)) (cO cD : ClassId) (sh : en_H) (w : va_W) (sz qx qo : Nat) (fx : List Value) (g0 : (Nat → Int64)) (a1 : Int32) (hb1 : 109 ≤ a1.toInt ∧ a1.toInt ≤ 109) (hTY : tys.map Prod.snd = en_TY0) (hW : en_W PP en_KT k_X6_begin_8.2.2.2.2.1 sh tys (fun _ => False) w) (hD0 : va_D (va_A w sz) w) (hΩ : en_Om en_om0 sh Ω) (hqx : sh.1[qx]? = some 0) (hwx : w[qx]? = some (sh.2 qx, .inr (12, fx))) (hqo : sh.1[qo]? = some 56) (hwo : w[qo]? = some (sh.2 qo, .inl (cO, 1, .inr (.inl g0)))) {x5 : Int32} (hf5 : fx[5]? = some (.int x5)) (hl5 : 0 ≤ x5.toInt ∧ x5.toInt ≤ 0) :
    Met l yL_begin (Cond.codeWith yL_begin cL_begin 4 (some .int) [(0, 9, 12, 13), (0, 9, 15, 17)] :: en_cw) (en_rm 1 (1, 6)) (va_Pc [.ref (sh.2 qx), .int a1, .ref (sh.2 qo)] (en_B D vwCl (tys ++ [(cO, .long), (cD, .double)]) w sz)) (va_Qi (fun _ u => (en_Px tys PP en_KT k_X6_begin_8.2.2.2.2.1 ((56, 0) :: k_X6_begin_8.2.2.2.1) sh w u ∧ ∃ g, u.2[qo]? = some (sh.2 qo, .inl (cO, 1, .inr (.inl g))))) (en_Bw D vwCl (va_A w sz)) (va_A w sz)) 1 6 (va_A w sz) := by
  refine va_MetW (cc := cL_begin) (maxL := 4) (ret := some .int) (hh := [(0, 9, 12, 13), (0, 9, 15, 17)]) (by decide +kernel) rfl ?_
  intro p e s m args below meth c s₁ B hml hv
  obtain ⟨rfl, hsz, hP, hK, hT⟩ := hv
  subst hsz
  have hx := B.exec
  have hb := B.bytes
  have hr := B.returns
  have hts0 := atoms_spec (ws := Cond.codeWith yL_begin cL_begin 4 (some .int) [(0, 9, 12, 13), (0, 9, 15, 17)] :: en_cw) B.pre
  have hts : ∀ z ∈ en_cw, z.before _ s = true := fun z hz => hts0 z (List.mem_cons_of_mem _ hz)
  have hown : s.vm.findClass RL = some m.cls := findClass_of_methodNamed B.named
  have htab := vx_table (x := yL_begin) B (hts0 _ List.mem_cons_self)
  have hA : ∀ q : Nat, s.heap.size ≤ q → va_A w s.heap.size q := fun q h => Or.inr h
  have hS : va_S (va_A w s.heap.size) s.heap s.heap [] := va_S.rf
  have hK0 : va_K D vwCl tys s := hK.pre
  have hTt : (tys ++ [(cO, .long), (cD, .double)])[7]? = some (cO, .long) := wr_ty hTY
  have hl := lv_entry ([.ref (sh.2 qx), .int a1, .ref (sh.2 qo)]) (n := 4) (Nat.le_of_ble_eq_true rfl)
  rw [lg_entry_eq]
  generalize (lg_sl ([.ref (sh.2 qx), .int a1, .ref (sh.2 qo)]) ++ List.replicate (4 - (lg_sl ([.ref (sh.2 qx), .int a1, .ref (sh.2 qo)])).length) Slot.unset).toArray = ls at hl ⊢
  have hl : lv_has ls 4 [(0, .ref (sh.2 qx)), (1, .int a1), (2, .ref (sh.2 qo))] := hl
  refine lv_aload_n hx hb dw_begin_0 rfl (lv_at hl 2 rfl) ?_
  refine lv_iconst (v := 0) hx hb dw_begin_1 (by decide) ?_
  refine lv_aload_n hx hb dw_begin_2 rfl (lv_at hl 0 rfl) ?_
  refine lv_iload_n hx hb dw_begin_3 rfl (lv_at hl 1 rfl) ?_
  refine en_hcV (q0 := qx) (b := sh.2 qx) (fs := fx) (co := 12) (ρp := [.ref (sh.2 qx), .int a1, .int x5]) (As := [.int a1]) (rest := [.int 0, .ref (sh.2 qo)]) (lv' := 0) (ct_X6_begin_8 hl9 hPP Ω) gw_X6_begin rfl rfl hwx rfl rfl (Nat.le_of_ble_eq_true rfl) ⟨Nat.le_of_ble_eq_true rfl, Nat.le_of_ble_eq_true rfl⟩ ⟨Nat.le_of_ble_eq_true rfl, Nat.le_of_ble_eq_true rfl⟩ (Nat.le_of_ble_eq_true rfl) hx hb (hml.trans hl.1.symm) hts hown hTY hK0 hT hP hD0 hS hA hW hΩ (wr_pf (env := k_X6_begin_8.2.1.1) (fa := k_X6_begin_8.2.1.2) ⟨⟨qx, hqx, rfl⟩, ⟨a1, rfl, hb1.1, hb1.2⟩, ⟨x5, rfl, hl5.1, hl5.2⟩, trivial⟩ (en_ac ⟨qx, _, 12, fx, _, rfl, hwx, hf5, rfl⟩ en_an)) dw_begin_4 (fun x9 hx9 ce q9 u H1 locs1 hpx hP1 hD1 hS1 hcell hvm hcl => ?_) (fun u res H1 locs1 hrv hpo hP1 hD1 hS1 => ?_)
  · have hku := wr_keep hpx hqo (by decide +kernel) hwo
    have hpx9 := wr_same hpx ((56, 0) :: k_X6_begin_8.2.2.2.1) (fun z hz => List.mem_cons_of_mem _ hz)
    have hx8 := List.mem_singleton.mp hx9
    subst hx8
    refine vx_catch (E := "java/lang/UnsupportedOperationException") (name := "java/lang/UnsupportedOperationException") hown [⟨0, 9, 12, 13⟩] ⟨0, 9, 15, 17⟩ [] (htab.trans rfl) (wr_cons (Or.inr ⟨by decide, "java/lang/IllegalArgumentException", (hts (.classLink RL 13 "java/lang/IllegalArgumentException") cwl498), hT.2.2.2.2.1 _ (by decide +kernel) _ (by decide +kernel) (by decide)⟩) wr_nil) (by decide) (by decide) (hts (.classLink RL 17 "java/lang/UnsupportedOperationException") cwl500) (va_Nw.use rfl (hT.1 (Cond.castable "java/lang/UnsupportedOperationException" "java/lang/UnsupportedOperationException") (tf_cast (78, "java/lang/UnsupportedOperationException") (by decide +kernel)))) hcell hvm hcl ?_
    refine lv_astore_n (lv' := (3, .ref q9) :: [(0, .ref (sh.2 qx)), (1, .int a1), (2, .ref (sh.2 qo))]) hx hb dw_begin_15 rfl hl (by decide) rfl (fun ls hl => ?_)
    refine lv_iconst (v := 2) hx hb dw_begin_16 (by decide) ?_
    exact W.widen (Nat.le_of_ble_eq_true rfl) (Nat.le_of_ble_eq_true rfl) (W.iret (v := 2) hx hb hr (fun t ht hW9 => ⟨⟨2, u, rfl, ⟨hpx9, g0, hku⟩, by rw [ht]; exact hP1, hD1⟩, hS1.F ht⟩) hS1.2.2 dw_begin_17)
  · obtain ⟨hpx, hpo9⟩ := hpo
    have hku := wr_keep hpx hqo (by decide +kernel) hwo
    obtain ⟨r9, rfl⟩ := hrv
    obtain ⟨o9, ho9, -⟩ := hpo9
    exact absurd ho9 List.not_mem_nil
set_option maxHeartbeats 4000000 in
set_option maxRecDepth 100000 in
theorem wr_begin_om {l : Launch} (hl9 : l.stackTraces = false) {PP : Int32 → Int32 → Prop} (hPP : en_P0 PP) (Ω : Nat → en_H → va_W → Prop) (D : va_G) (tys : List (ClassId × FieldType)) (cO cD : ClassId) (sh : en_H) (w : va_W) (sz qx qo : Nat) (fx : List Value) (g0 : (Nat → Int64)) (a1 : Int32) (hb1 : 109 ≤ a1.toInt ∧ a1.toInt ≤ 109) (hTY : tys.map Prod.snd = en_TY0) (hW : en_W PP en_KT k_X6_begin_9.2.2.2.2.1 sh tys (fun _ => False) w) (hD0 : va_D (va_A w sz) w) (hΩ : en_Om en_om0 sh Ω) (hqx : sh.1[qx]? = some 0) (hwx : w[qx]? = some (sh.2 qx, .inr (12, fx))) (hqo : sh.1[qo]? = some 56) (hwo : w[qo]? = some (sh.2 qo, .inl (cO, 1, .inr (.inl g0)))) {x11 : Int32} (hf11 : fx[11]? = some (.int x11)) (hl11 : 1 ≤ x11.toInt ∧ x11.toInt ≤ 1) :
    Met l yL_begin (Cond.codeWith yL_begin cL_begin 4 (some .int) [(0, 9, 12, 13), (0, 9, 15, 17)] :: en_cw) (en_rm 1 (1, 6)) (va_Pc [.ref (sh.2 qx), .int a1, .ref (sh.2 qo)] (en_B D vwCl (tys ++ [(cO, .long), (cD, .double)]) w sz)) (va_Qi (fun _ u => (en_Px tys PP en_KT k_X6_begin_9.2.2.2.2.1 ((56, 0) :: k_X6_begin_9.2.2.2.1) sh w u ∧ ∃ g, u.2[qo]? = some (sh.2 qo, .inl (cO, 1, .inr (.inl g))))) (en_Bw D vwCl (va_A w sz)) (va_A w sz)) 1 6 (va_A w sz) := by
  refine va_MetW (cc := cL_begin) (maxL := 4) (ret := some .int) (hh := [(0, 9, 12, 13), (0, 9, 15, 17)]) (by decide +kernel) rfl ?_
  intro p e s m args below meth c s₁ B hml hv
  obtain ⟨rfl, hsz, hP, hK, hT⟩ := hv
  subst hsz
  have hx := B.exec
  have hb := B.bytes
  have hr := B.returns
  have hts0 := atoms_spec (ws := Cond.codeWith yL_begin cL_begin 4 (some .int) [(0, 9, 12, 13), (0, 9, 15, 17)] :: en_cw) B.pre
  have hts : ∀ z ∈ en_cw, z.before _ s = true := fun z hz => hts0 z (List.mem_cons_of_mem _ hz)
  have hown : s.vm.findClass RL = some m.cls := findClass_of_methodNamed B.named
  have htab := vx_table (x := yL_begin) B (hts0 _ List.mem_cons_self)
  have hA : ∀ q : Nat, s.heap.size ≤ q → va_A w s.heap.size q := fun q h => Or.inr h
  have hS : va_S (va_A w s.heap.size) s.heap s.heap [] := va_S.rf
  have hK0 : va_K D vwCl tys s := hK.pre
  have hTt : (tys ++ [(cO, .long), (cD, .double)])[7]? = some (cO, .long) := wr_ty hTY
  have hl := lv_entry ([.ref (sh.2 qx), .int a1, .ref (sh.2 qo)]) (n := 4) (Nat.le_of_ble_eq_true rfl)
  rw [lg_entry_eq]
  generalize (lg_sl ([.ref (sh.2 qx), .int a1, .ref (sh.2 qo)]) ++ List.replicate (4 - (lg_sl ([.ref (sh.2 qx), .int a1, .ref (sh.2 qo)])).length) Slot.unset).toArray = ls at hl ⊢
  have hl : lv_has ls 4 [(0, .ref (sh.2 qx)), (1, .int a1), (2, .ref (sh.2 qo))] := hl
  refine lv_aload_n hx hb dw_begin_0 rfl (lv_at hl 2 rfl) ?_
  refine lv_iconst (v := 0) hx hb dw_begin_1 (by decide) ?_
  refine lv_aload_n hx hb dw_begin_2 rfl (lv_at hl 0 rfl) ?_
  refine lv_iload_n hx hb dw_begin_3 rfl (lv_at hl 1 rfl) ?_
  refine en_hcV (q0 := qx) (b := sh.2 qx) (fs := fx) (co := 12) (ρp := [.ref (sh.2 qx), .int a1, .int x11]) (As := [.int a1]) (rest := [.int 0, .ref (sh.2 qo)]) (lv' := 0) (ct_X6_begin_9 hl9 hPP Ω) gw_X6_begin rfl rfl hwx rfl rfl (Nat.le_of_ble_eq_true rfl) ⟨Nat.le_of_ble_eq_true rfl, Nat.le_of_ble_eq_true rfl⟩ ⟨Nat.le_of_ble_eq_true rfl, Nat.le_of_ble_eq_true rfl⟩ (Nat.le_of_ble_eq_true rfl) hx hb (hml.trans hl.1.symm) hts hown hTY hK0 hT hP hD0 hS hA hW hΩ (wr_pf (env := k_X6_begin_9.2.1.1) (fa := k_X6_begin_9.2.1.2) ⟨⟨qx, hqx, rfl⟩, ⟨a1, rfl, hb1.1, hb1.2⟩, ⟨x11, rfl, hl11.1, hl11.2⟩, trivial⟩ (en_ac ⟨qx, _, 12, fx, _, rfl, hwx, hf11, rfl⟩ en_an)) dw_begin_4 (fun x9 hx9 ce q9 u H1 locs1 hpx hP1 hD1 hS1 hcell hvm hcl => ?_) (fun u res H1 locs1 hrv hpo hP1 hD1 hS1 => ?_)
  · have hku := wr_keep hpx hqo (by decide +kernel) hwo
    have hpx9 := wr_same hpx ((56, 0) :: k_X6_begin_9.2.2.2.1) (fun z hz => List.mem_cons_of_mem _ hz)
    have hx8 := List.mem_singleton.mp hx9
    subst hx8
    refine vx_catch (E := "java/lang/UnsupportedOperationException") (name := "java/lang/UnsupportedOperationException") hown [⟨0, 9, 12, 13⟩] ⟨0, 9, 15, 17⟩ [] (htab.trans rfl) (wr_cons (Or.inr ⟨by decide, "java/lang/IllegalArgumentException", (hts (.classLink RL 13 "java/lang/IllegalArgumentException") cwl498), hT.2.2.2.2.1 _ (by decide +kernel) _ (by decide +kernel) (by decide)⟩) wr_nil) (by decide) (by decide) (hts (.classLink RL 17 "java/lang/UnsupportedOperationException") cwl500) (va_Nw.use rfl (hT.1 (Cond.castable "java/lang/UnsupportedOperationException" "java/lang/UnsupportedOperationException") (tf_cast (78, "java/lang/UnsupportedOperationException") (by decide +kernel)))) hcell hvm hcl ?_
    refine lv_astore_n (lv' := (3, .ref q9) :: [(0, .ref (sh.2 qx)), (1, .int a1), (2, .ref (sh.2 qo))]) hx hb dw_begin_15 rfl hl (by decide) rfl (fun ls hl => ?_)
    refine lv_iconst (v := 2) hx hb dw_begin_16 (by decide) ?_
    exact W.widen (Nat.le_of_ble_eq_true rfl) (Nat.le_of_ble_eq_true rfl) (W.iret (v := 2) hx hb hr (fun t ht hW9 => ⟨⟨2, u, rfl, ⟨hpx9, g0, hku⟩, by rw [ht]; exact hP1, hD1⟩, hS1.F ht⟩) hS1.2.2 dw_begin_17)
  · obtain ⟨hpx, hpo9⟩ := hpo
    have hku := wr_keep hpx hqo (by decide +kernel) hwo
    obtain ⟨r9, rfl⟩ := hrv
    obtain ⟨o9, ho9, -⟩ := hpo9
    exact absurd ho9 List.not_mem_nil
set_option maxHeartbeats 4000000 in
set_option maxRecDepth 100000 in
theorem wr_begin_q1m {l : Launch} (hl9 : l.stackTraces = false) {PP : Int32 → Int32 → Prop} (hPP : en_P0 PP) (Ω : Nat → en_H → va_W → Prop) (D : va_G) (tys : List (ClassId × FieldType)) (cO cD : ClassId) (sh : en_H) (w : va_W) (sz qx qo : Nat) (fx : List Value) (g0 : (Nat → Int64)) (a1 : Int32) (hb1 : 109 ≤ a1.toInt ∧ a1.toInt ≤ 109) (hTY : tys.map Prod.snd = en_TY0) (hW : en_W PP en_KT k_X6_begin_10.2.2.2.2.1 sh tys (fun _ => False) w) (hD0 : va_D (va_A w sz) w) (hΩ : en_Om en_om0 sh Ω) (hqx : sh.1[qx]? = some 0) (hwx : w[qx]? = some (sh.2 qx, .inr (12, fx))) (hqo : sh.1[qo]? = some 56) (hwo : w[qo]? = some (sh.2 qo, .inl (cO, 1, .inr (.inl g0)))) {x5 : Int32} (hf5 : fx[5]? = some (.int x5)) (hl5 : 1 ≤ x5.toInt ∧ x5.toInt ≤ 1) :
    Met l yL_begin (Cond.codeWith yL_begin cL_begin 4 (some .int) [(0, 9, 12, 13), (0, 9, 15, 17)] :: en_cw) (en_rm 1 (1, 6)) (va_Pc [.ref (sh.2 qx), .int a1, .ref (sh.2 qo)] (en_B D vwCl (tys ++ [(cO, .long), (cD, .double)]) w sz)) (va_Qi (fun _ u => (en_Px tys PP en_KT k_X6_begin_10.2.2.2.2.1 ((56, 0) :: k_X6_begin_10.2.2.2.1) sh w u ∧ ∃ g, u.2[qo]? = some (sh.2 qo, .inl (cO, 1, .inr (.inl g))))) (en_Bw D vwCl (va_A w sz)) (va_A w sz)) 1 6 (va_A w sz) := by
  refine va_MetW (cc := cL_begin) (maxL := 4) (ret := some .int) (hh := [(0, 9, 12, 13), (0, 9, 15, 17)]) (by decide +kernel) rfl ?_
  intro p e s m args below meth c s₁ B hml hv
  obtain ⟨rfl, hsz, hP, hK, hT⟩ := hv
  subst hsz
  have hx := B.exec
  have hb := B.bytes
  have hr := B.returns
  have hts0 := atoms_spec (ws := Cond.codeWith yL_begin cL_begin 4 (some .int) [(0, 9, 12, 13), (0, 9, 15, 17)] :: en_cw) B.pre
  have hts : ∀ z ∈ en_cw, z.before _ s = true := fun z hz => hts0 z (List.mem_cons_of_mem _ hz)
  have hown : s.vm.findClass RL = some m.cls := findClass_of_methodNamed B.named
  have htab := vx_table (x := yL_begin) B (hts0 _ List.mem_cons_self)
  have hA : ∀ q : Nat, s.heap.size ≤ q → va_A w s.heap.size q := fun q h => Or.inr h
  have hS : va_S (va_A w s.heap.size) s.heap s.heap [] := va_S.rf
  have hK0 : va_K D vwCl tys s := hK.pre
  have hTt : (tys ++ [(cO, .long), (cD, .double)])[7]? = some (cO, .long) := wr_ty hTY
  have hl := lv_entry ([.ref (sh.2 qx), .int a1, .ref (sh.2 qo)]) (n := 4) (Nat.le_of_ble_eq_true rfl)
  rw [lg_entry_eq]
  generalize (lg_sl ([.ref (sh.2 qx), .int a1, .ref (sh.2 qo)]) ++ List.replicate (4 - (lg_sl ([.ref (sh.2 qx), .int a1, .ref (sh.2 qo)])).length) Slot.unset).toArray = ls at hl ⊢
  have hl : lv_has ls 4 [(0, .ref (sh.2 qx)), (1, .int a1), (2, .ref (sh.2 qo))] := hl
  refine lv_aload_n hx hb dw_begin_0 rfl (lv_at hl 2 rfl) ?_
  refine lv_iconst (v := 0) hx hb dw_begin_1 (by decide) ?_
  refine lv_aload_n hx hb dw_begin_2 rfl (lv_at hl 0 rfl) ?_
  refine lv_iload_n hx hb dw_begin_3 rfl (lv_at hl 1 rfl) ?_
  refine en_hcV (q0 := qx) (b := sh.2 qx) (fs := fx) (co := 12) (ρp := [.ref (sh.2 qx), .int a1, .int x5]) (As := [.int a1]) (rest := [.int 0, .ref (sh.2 qo)]) (lv' := 0) (ct_X6_begin_10 hl9 hPP Ω) gw_X6_begin rfl rfl hwx rfl rfl (Nat.le_of_ble_eq_true rfl) ⟨Nat.le_of_ble_eq_true rfl, Nat.le_of_ble_eq_true rfl⟩ ⟨Nat.le_of_ble_eq_true rfl, Nat.le_of_ble_eq_true rfl⟩ (Nat.le_of_ble_eq_true rfl) hx hb (hml.trans hl.1.symm) hts hown hTY hK0 hT hP hD0 hS hA hW hΩ (wr_pf (env := k_X6_begin_10.2.1.1) (fa := k_X6_begin_10.2.1.2) ⟨⟨qx, hqx, rfl⟩, ⟨a1, rfl, hb1.1, hb1.2⟩, ⟨x5, rfl, hl5.1, hl5.2⟩, trivial⟩ (en_ac ⟨qx, _, 12, fx, _, rfl, hwx, hf5, rfl⟩ en_an)) dw_begin_4 (fun x9 hx9 ce q9 u H1 locs1 hpx hP1 hD1 hS1 hcell hvm hcl => ?_) (fun u res H1 locs1 hrv hpo hP1 hD1 hS1 => ?_)
  · have hku := wr_keep hpx hqo (by decide +kernel) hwo
    have hpx9 := wr_same hpx ((56, 0) :: k_X6_begin_10.2.2.2.1) (fun z hz => List.mem_cons_of_mem _ hz)
    have hx8 := List.mem_singleton.mp hx9
    subst hx8
    refine vx_catch (E := "java/lang/UnsupportedOperationException") (name := "java/lang/UnsupportedOperationException") hown [⟨0, 9, 12, 13⟩] ⟨0, 9, 15, 17⟩ [] (htab.trans rfl) (wr_cons (Or.inr ⟨by decide, "java/lang/IllegalArgumentException", (hts (.classLink RL 13 "java/lang/IllegalArgumentException") cwl498), hT.2.2.2.2.1 _ (by decide +kernel) _ (by decide +kernel) (by decide)⟩) wr_nil) (by decide) (by decide) (hts (.classLink RL 17 "java/lang/UnsupportedOperationException") cwl500) (va_Nw.use rfl (hT.1 (Cond.castable "java/lang/UnsupportedOperationException" "java/lang/UnsupportedOperationException") (tf_cast (78, "java/lang/UnsupportedOperationException") (by decide +kernel)))) hcell hvm hcl ?_
    refine lv_astore_n (lv' := (3, .ref q9) :: [(0, .ref (sh.2 qx)), (1, .int a1), (2, .ref (sh.2 qo))]) hx hb dw_begin_15 rfl hl (by decide) rfl (fun ls hl => ?_)
    refine lv_iconst (v := 2) hx hb dw_begin_16 (by decide) ?_
    exact W.widen (Nat.le_of_ble_eq_true rfl) (Nat.le_of_ble_eq_true rfl) (W.iret (v := 2) hx hb hr (fun t ht hW9 => ⟨⟨2, u, rfl, ⟨hpx9, g0, hku⟩, by rw [ht]; exact hP1, hD1⟩, hS1.F ht⟩) hS1.2.2 dw_begin_17)
  · obtain ⟨hpx, hpo9⟩ := hpo
    have hku := wr_keep hpx hqo (by decide +kernel) hwo
    obtain ⟨r9, rfl⟩ := hrv
    obtain ⟨o9, ho9, -⟩ := hpo9
    exact absurd ho9 List.not_mem_nil
set_option maxHeartbeats 4000000 in
set_option maxRecDepth 100000 in
theorem wr_begin_q3m {l : Launch} (hl9 : l.stackTraces = false) {PP : Int32 → Int32 → Prop} (hPP : en_P0 PP) (Ω : Nat → en_H → va_W → Prop) (D : va_G) (tys : List (ClassId × FieldType)) (cO cD : ClassId) (sh : en_H) (w : va_W) (sz qx qo : Nat) (fx : List Value) (g0 : (Nat → Int64)) (a1 : Int32) (hb1 : 109 ≤ a1.toInt ∧ a1.toInt ≤ 109) (hTY : tys.map Prod.snd = en_TY0) (hW : en_W PP en_KT k_X6_begin_11.2.2.2.2.1 sh tys (fun _ => False) w) (hD0 : va_D (va_A w sz) w) (hΩ : en_Om en_om0 sh Ω) (hqx : sh.1[qx]? = some 0) (hwx : w[qx]? = some (sh.2 qx, .inr (12, fx))) (hqo : sh.1[qo]? = some 56) (hwo : w[qo]? = some (sh.2 qo, .inl (cO, 1, .inr (.inl g0)))) {x5 : Int32} (hf5 : fx[5]? = some (.int x5)) (hl5 : 3 ≤ x5.toInt ∧ x5.toInt ≤ 6) :
    Met l yL_begin (Cond.codeWith yL_begin cL_begin 4 (some .int) [(0, 9, 12, 13), (0, 9, 15, 17)] :: en_cw) (en_rm 1 (1, 6)) (va_Pc [.ref (sh.2 qx), .int a1, .ref (sh.2 qo)] (en_B D vwCl (tys ++ [(cO, .long), (cD, .double)]) w sz)) (va_Qi (fun _ u => (en_Px tys PP en_KT k_X6_begin_11.2.2.2.2.1 ((56, 0) :: k_X6_begin_11.2.2.2.1) sh w u ∧ ∃ g, u.2[qo]? = some (sh.2 qo, .inl (cO, 1, .inr (.inl g))))) (en_Bw D vwCl (va_A w sz)) (va_A w sz)) 1 6 (va_A w sz) := by
  refine va_MetW (cc := cL_begin) (maxL := 4) (ret := some .int) (hh := [(0, 9, 12, 13), (0, 9, 15, 17)]) (by decide +kernel) rfl ?_
  intro p e s m args below meth c s₁ B hml hv
  obtain ⟨rfl, hsz, hP, hK, hT⟩ := hv
  subst hsz
  have hx := B.exec
  have hb := B.bytes
  have hr := B.returns
  have hts0 := atoms_spec (ws := Cond.codeWith yL_begin cL_begin 4 (some .int) [(0, 9, 12, 13), (0, 9, 15, 17)] :: en_cw) B.pre
  have hts : ∀ z ∈ en_cw, z.before _ s = true := fun z hz => hts0 z (List.mem_cons_of_mem _ hz)
  have hown : s.vm.findClass RL = some m.cls := findClass_of_methodNamed B.named
  have htab := vx_table (x := yL_begin) B (hts0 _ List.mem_cons_self)
  have hA : ∀ q : Nat, s.heap.size ≤ q → va_A w s.heap.size q := fun q h => Or.inr h
  have hS : va_S (va_A w s.heap.size) s.heap s.heap [] := va_S.rf
  have hK0 : va_K D vwCl tys s := hK.pre
  have hTt : (tys ++ [(cO, .long), (cD, .double)])[7]? = some (cO, .long) := wr_ty hTY
  have hl := lv_entry ([.ref (sh.2 qx), .int a1, .ref (sh.2 qo)]) (n := 4) (Nat.le_of_ble_eq_true rfl)
  rw [lg_entry_eq]
  generalize (lg_sl ([.ref (sh.2 qx), .int a1, .ref (sh.2 qo)]) ++ List.replicate (4 - (lg_sl ([.ref (sh.2 qx), .int a1, .ref (sh.2 qo)])).length) Slot.unset).toArray = ls at hl ⊢
  have hl : lv_has ls 4 [(0, .ref (sh.2 qx)), (1, .int a1), (2, .ref (sh.2 qo))] := hl
  refine lv_aload_n hx hb dw_begin_0 rfl (lv_at hl 2 rfl) ?_
  refine lv_iconst (v := 0) hx hb dw_begin_1 (by decide) ?_
  refine lv_aload_n hx hb dw_begin_2 rfl (lv_at hl 0 rfl) ?_
  refine lv_iload_n hx hb dw_begin_3 rfl (lv_at hl 1 rfl) ?_
  refine en_hcV (q0 := qx) (b := sh.2 qx) (fs := fx) (co := 12) (ρp := [.ref (sh.2 qx), .int a1, .int x5]) (As := [.int a1]) (rest := [.int 0, .ref (sh.2 qo)]) (lv' := 0) (ct_X6_begin_11 hl9 hPP Ω) gw_X6_begin rfl rfl hwx rfl rfl (Nat.le_of_ble_eq_true rfl) ⟨Nat.le_of_ble_eq_true rfl, Nat.le_of_ble_eq_true rfl⟩ ⟨Nat.le_of_ble_eq_true rfl, Nat.le_of_ble_eq_true rfl⟩ (Nat.le_of_ble_eq_true rfl) hx hb (hml.trans hl.1.symm) hts hown hTY hK0 hT hP hD0 hS hA hW hΩ (wr_pf (env := k_X6_begin_11.2.1.1) (fa := k_X6_begin_11.2.1.2) ⟨⟨qx, hqx, rfl⟩, ⟨a1, rfl, hb1.1, hb1.2⟩, ⟨x5, rfl, hl5.1, hl5.2⟩, trivial⟩ (en_ac ⟨qx, _, 12, fx, _, rfl, hwx, hf5, rfl⟩ en_an)) dw_begin_4 (fun x9 hx9 ce q9 u H1 locs1 hpx hP1 hD1 hS1 hcell hvm hcl => ?_) (fun u res H1 locs1 hrv hpo hP1 hD1 hS1 => ?_)
  · have hku := wr_keep hpx hqo (by decide +kernel) hwo
    have hpx9 := wr_same hpx ((56, 0) :: k_X6_begin_11.2.2.2.1) (fun z hz => List.mem_cons_of_mem _ hz)
    have hx8 := List.mem_singleton.mp hx9
    subst hx8
    refine vx_catch (E := "java/lang/UnsupportedOperationException") (name := "java/lang/UnsupportedOperationException") hown [⟨0, 9, 12, 13⟩] ⟨0, 9, 15, 17⟩ [] (htab.trans rfl) (wr_cons (Or.inr ⟨by decide, "java/lang/IllegalArgumentException", (hts (.classLink RL 13 "java/lang/IllegalArgumentException") cwl498), hT.2.2.2.2.1 _ (by decide +kernel) _ (by decide +kernel) (by decide)⟩) wr_nil) (by decide) (by decide) (hts (.classLink RL 17 "java/lang/UnsupportedOperationException") cwl500) (va_Nw.use rfl (hT.1 (Cond.castable "java/lang/UnsupportedOperationException" "java/lang/UnsupportedOperationException") (tf_cast (78, "java/lang/UnsupportedOperationException") (by decide +kernel)))) hcell hvm hcl ?_
    refine lv_astore_n (lv' := (3, .ref q9) :: [(0, .ref (sh.2 qx)), (1, .int a1), (2, .ref (sh.2 qo))]) hx hb dw_begin_15 rfl hl (by decide) rfl (fun ls hl => ?_)
    refine lv_iconst (v := 2) hx hb dw_begin_16 (by decide) ?_
    exact W.widen (Nat.le_of_ble_eq_true rfl) (Nat.le_of_ble_eq_true rfl) (W.iret (v := 2) hx hb hr (fun t ht hW9 => ⟨⟨2, u, rfl, ⟨hpx9, g0, hku⟩, by rw [ht]; exact hP1, hD1⟩, hS1.F ht⟩) hS1.2.2 dw_begin_17)
  · obtain ⟨hpx, hpo9⟩ := hpo
    have hku := wr_keep hpx hqo (by decide +kernel) hwo
    obtain ⟨r9, rfl⟩ := hrv
    obtain ⟨o9, ho9, -⟩ := hpo9
    exact absurd ho9 List.not_mem_nil
set_option maxHeartbeats 4000000 in
set_option maxRecDepth 100000 in
theorem wr_begin_ks {l : Launch} (hl9 : l.stackTraces = false) {PP : Int32 → Int32 → Prop} (hPP : en_P0 PP) (Ω : Nat → en_H → va_W → Prop) (D : va_G) (tys : List (ClassId × FieldType)) (cO cD : ClassId) (sh : en_H) (w : va_W) (sz qx qo : Nat) (fx : List Value) (g0 : (Nat → Int64)) (a1 : Int32) (hb1 : 115 ≤ a1.toInt ∧ a1.toInt ≤ 115) (hTY : tys.map Prod.snd = en_TY0) (hW : en_W PP en_KT k_X6_begin_12.2.2.2.2.1 sh tys (fun _ => False) w) (hD0 : va_D (va_A w sz) w) (hΩ : en_Om en_om0 sh Ω) (hqx : sh.1[qx]? = some 0) (hwx : w[qx]? = some (sh.2 qx, .inr (12, fx))) (hqo : sh.1[qo]? = some 56) (hwo : w[qo]? = some (sh.2 qo, .inl (cO, 1, .inr (.inl g0)))) {x4 : Int32} (hf4 : fx[4]? = some (.int x4)) (hl4 : 1 ≤ x4.toInt ∧ x4.toInt ≤ 9) {x5 : Int32} (hf5 : fx[5]? = some (.int x5)) (hl5 : 1 ≤ x5.toInt ∧ x5.toInt ≤ 6) {x11 : Int32} (hf11 : fx[11]? = some (.int x11)) (hl11 : 0 ≤ x11.toInt ∧ x11.toInt ≤ 0) :
    Met l yL_begin (Cond.codeWith yL_begin cL_begin 4 (some .int) [(0, 9, 12, 13), (0, 9, 15, 17)] :: en_cw) (en_rm 3 (0, 0)) (va_Pc [.ref (sh.2 qx), .int a1, .ref (sh.2 qo)] (en_B D vwCl (tys ++ [(cO, .long), (cD, .double)]) w sz)) (va_Qi (fun _ u => (en_Px tys PP en_KT k_X6_begin_12.2.2.2.2.1 ((56, 0) :: k_X6_begin_12.2.2.2.1) sh w u ∧ ∃ g, u.2[qo]? = some (sh.2 qo, .inl (cO, 1, .inr (.inl g)))) ∧ ∃ fx', u.2[qx]? = some (u.1.2 qx, .inr (12, fx')) ∧ fx'[10]? = some (.int 1)) (en_Bw D vwCl (va_A w sz)) (va_A w sz)) 0 0 (va_A w sz) := by
  refine va_MetW (cc := cL_begin) (maxL := 4) (ret := some .int) (hh := [(0, 9, 12, 13), (0, 9, 15, 17)]) (by decide +kernel) rfl ?_
  intro p e s m args below meth c s₁ B hml hv
  obtain ⟨rfl, hsz, hP, hK, hT⟩ := hv
  subst hsz
  have hx := B.exec
  have hb := B.bytes
  have hr := B.returns
  have hts0 := atoms_spec (ws := Cond.codeWith yL_begin cL_begin 4 (some .int) [(0, 9, 12, 13), (0, 9, 15, 17)] :: en_cw) B.pre
  have hts : ∀ z ∈ en_cw, z.before _ s = true := fun z hz => hts0 z (List.mem_cons_of_mem _ hz)
  have hown : s.vm.findClass RL = some m.cls := findClass_of_methodNamed B.named
  have htab := vx_table (x := yL_begin) B (hts0 _ List.mem_cons_self)
  have hA : ∀ q : Nat, s.heap.size ≤ q → va_A w s.heap.size q := fun q h => Or.inr h
  have hS : va_S (va_A w s.heap.size) s.heap s.heap [] := va_S.rf
  have hK0 : va_K D vwCl tys s := hK.pre
  have hTt : (tys ++ [(cO, .long), (cD, .double)])[7]? = some (cO, .long) := wr_ty hTY
  have hl := lv_entry ([.ref (sh.2 qx), .int a1, .ref (sh.2 qo)]) (n := 4) (Nat.le_of_ble_eq_true rfl)
  rw [lg_entry_eq]
  generalize (lg_sl ([.ref (sh.2 qx), .int a1, .ref (sh.2 qo)]) ++ List.replicate (4 - (lg_sl ([.ref (sh.2 qx), .int a1, .ref (sh.2 qo)])).length) Slot.unset).toArray = ls at hl ⊢
  have hl : lv_has ls 4 [(0, .ref (sh.2 qx)), (1, .int a1), (2, .ref (sh.2 qo))] := hl
  refine lv_aload_n hx hb dw_begin_0 rfl (lv_at hl 2 rfl) ?_
  refine lv_iconst (v := 0) hx hb dw_begin_1 (by decide) ?_
  refine lv_aload_n hx hb dw_begin_2 rfl (lv_at hl 0 rfl) ?_
  refine lv_iload_n hx hb dw_begin_3 rfl (lv_at hl 1 rfl) ?_
  refine en_hcV (q0 := qx) (b := sh.2 qx) (fs := fx) (co := 12) (ρp := [.ref (sh.2 qx), .int a1, .int x4, .int x5, .int x11]) (As := [.int a1]) (rest := [.int 0, .ref (sh.2 qo)]) (lv' := 2) (ct_X6_begin_12 hl9 hPP Ω) gw_X6_begin rfl rfl hwx rfl rfl (Nat.le_of_ble_eq_true rfl) ⟨Nat.le_of_ble_eq_true rfl, Nat.le_of_ble_eq_true rfl⟩ ⟨Nat.le_of_ble_eq_true rfl, Nat.le_of_ble_eq_true rfl⟩ (Nat.le_of_ble_eq_true rfl) hx hb (hml.trans hl.1.symm) hts hown hTY hK0 hT hP hD0 hS hA hW hΩ (wr_pf (env := k_X6_begin_12.2.1.1) (fa := k_X6_begin_12.2.1.2) ⟨⟨qx, hqx, rfl⟩, ⟨a1, rfl, hb1.1, hb1.2⟩, ⟨x4, rfl, hl4.1, hl4.2⟩, ⟨x5, rfl, hl5.1, hl5.2⟩, ⟨x11, rfl, hl11.1, hl11.2⟩, trivial⟩ (en_ac ⟨qx, _, 12, fx, _, rfl, hwx, hf4, rfl⟩ (en_ac ⟨qx, _, 12, fx, _, rfl, hwx, hf5, rfl⟩ (en_ac ⟨qx, _, 12, fx, _, rfl, hwx, hf11, rfl⟩ en_an)))) dw_begin_4 (fun x9 hx9 ce q9 u H1 locs1 hpx hP1 hD1 hS1 hcell hvm hcl => ?_) (fun u res H1 locs1 hrv hpo hP1 hD1 hS1 => ?_)
  · have hku := wr_keep hpx hqo (by decide +kernel) hwo
    have hpx9 := wr_same hpx ((56, 0) :: k_X6_begin_12.2.2.2.1) (fun z hz => List.mem_cons_of_mem _ hz)
    exact absurd hx9 List.not_mem_nil
  · obtain ⟨hpx, hpo9⟩ := hpo
    have hku := wr_keep hpx hqo (by decide +kernel) hwo
    obtain ⟨r9, rfl⟩ := hrv
    obtain ⟨o9, ho9, ρ9, hpa, hi9, hres⟩ := hpo9
    have ho9 := List.mem_singleton.mp ho9
    subst ho9
    obtain ⟨v9, e9, x9, hx9, l9, u9⟩ := hpa.2.1 3 _ rfl
    subst hx9
    have er9 : x9 = 1 := Int32.toInt_inj.mp (by rw [show ((1 : Int32)).toInt = 1 from rfl]; have l9 : (1 : Int) ≤ x9.toInt := l9; have u9 : x9.toInt ≤ (1 : Int) := u9; omega)
    obtain ⟨q9, r8, ci9, fx9, v8, c1, c2, c3, c4⟩ := hpa.2.2 (0, 0, 10, 3, 0, 0) (by decide)
    have e8 : r8 = u.1.2 qx := (Value.ref.inj (Option.some.inj (c1.symm.trans (hi9 0 (by decide))))).trans (hpx.1.at hqx).2.symm
    subst e8
    obtain ⟨e7, c5, c6⟩ := hpx.2.2 qx 0 _ hqx hwx
    have c5 : u.2[qx]? = some (u.1.2 qx, e7) := by rw [(hpx.1.at hqx).2]; exact c5
    have eq9 : q9 = qx := hD1.1 q9 qx _ _ c2 c5 rfl
    subst eq9
    have ci : ci9 = 12 := by rw [(Prod.mk.inj (Option.some.inj (c5.symm.trans c2))).2] at c6; exact c6.1
    subst ci
    have hf10 : fx9[10]? = some (.int 1) := by rw [c3, Option.some.inj (c4.symm.trans e9), er9]
    have c2u := c2
    have hqq : ¬ qo = q9 := fun e => by rw [e] at hqo; rw [hqo] at hqx; cases hqx
    refine lv_i2l hx hb dw_begin_7 rfl ?_
    refine va_last hx hb hK hP1 hD1 hS1 qo 7 hku hTt (vp_in_nI (n := 0) (by decide) (by decide)) dw_begin_8 (fun H2 locs2 hP2 hD2 hS2 => ?_)
    obtain ⟨g9, hg9⟩ : ∃ g9, g9 = vp_updL g0 (0 : Int32).toNatClampNeg r9.toInt64 := ⟨_, rfl⟩
    rw [← hg9] at hP2 hD2
    refine lv_goto (tgt := 18) hx hb dw_begin_9 (by decide) ?_
    refine lv_iconst (v := 0) hx hb dw_begin_18 (by decide) ?_
    exact W.widen (Nat.le_of_ble_eq_true rfl) (Nat.le_of_ble_eq_true rfl) (W.iret (v := 0) hx hb hr (fun t ht hW9 => ⟨⟨0, (u.1, u.2.set qo (sh.2 qo, .inl (cO, 1, .inr (.inl g9)))), rfl, ⟨⟨wr_set hpx hqo (by decide +kernel) (by decide +kernel) hwo ⟨rfl, rfl⟩, g9, wr_get hku⟩, fx9, by rw [List.getElem?_set_ne hqq]; exact c2u, hf10⟩, by rw [ht]; exact hP2, hD2⟩, hS2.F ht⟩) hS2.2.2 dw_begin_19)
set_option maxHeartbeats 4000000 in
set_option maxRecDepth 100000 in
theorem wr_begin_km {l : Launch} (hl9 : l.stackTraces = false) {PP : Int32 → Int32 → Prop} (hPP : en_P0 PP) (Ω : Nat → en_H → va_W → Prop) (D : va_G) (tys : List (ClassId × FieldType)) (cO cD : ClassId) (sh : en_H) (w : va_W) (sz qx qo : Nat) (fx : List Value) (g0 : (Nat → Int64)) (a1 : Int32) (hb1 : 109 ≤ a1.toInt ∧ a1.toInt ≤ 109) (hTY : tys.map Prod.snd = en_TY0) (hW : en_W PP en_KT k_X6_begin_13.2.2.2.2.1 sh tys (fun _ => False) w) (hD0 : va_D (va_A w sz) w) (hΩ : en_Om en_om0 sh Ω) (hqx : sh.1[qx]? = some 0) (hwx : w[qx]? = some (sh.2 qx, .inr (12, fx))) (hqo : sh.1[qo]? = some 56) (hwo : w[qo]? = some (sh.2 qo, .inl (cO, 1, .inr (.inl g0)))) {x4 : Int32} (hf4 : fx[4]? = some (.int x4)) (hl4 : 1 ≤ x4.toInt ∧ x4.toInt ≤ 9) {x5 : Int32} (hf5 : fx[5]? = some (.int x5)) (hl5 : 2 ≤ x5.toInt ∧ x5.toInt ≤ 2) {x11 : Int32} (hf11 : fx[11]? = some (.int x11)) (hl11 : 0 ≤ x11.toInt ∧ x11.toInt ≤ 0) :
    Met l yL_begin (Cond.codeWith yL_begin cL_begin 4 (some .int) [(0, 9, 12, 13), (0, 9, 15, 17)] :: en_cw) (en_rm 3 (0, 0)) (va_Pc [.ref (sh.2 qx), .int a1, .ref (sh.2 qo)] (en_B D vwCl (tys ++ [(cO, .long), (cD, .double)]) w sz)) (va_Qi (fun _ u => (en_Px tys PP en_KT k_X6_begin_13.2.2.2.2.1 ((56, 0) :: k_X6_begin_13.2.2.2.1) sh w u ∧ ∃ g, u.2[qo]? = some (sh.2 qo, .inl (cO, 1, .inr (.inl g)))) ∧ ∃ fx', u.2[qx]? = some (u.1.2 qx, .inr (12, fx')) ∧ fx'[10]? = some (.int 1)) (en_Bw D vwCl (va_A w sz)) (va_A w sz)) 0 0 (va_A w sz) := by
  refine va_MetW (cc := cL_begin) (maxL := 4) (ret := some .int) (hh := [(0, 9, 12, 13), (0, 9, 15, 17)]) (by decide +kernel) rfl ?_
  intro p e s m args below meth c s₁ B hml hv
  obtain ⟨rfl, hsz, hP, hK, hT⟩ := hv
  subst hsz
  have hx := B.exec
  have hb := B.bytes
  have hr := B.returns
  have hts0 := atoms_spec (ws := Cond.codeWith yL_begin cL_begin 4 (some .int) [(0, 9, 12, 13), (0, 9, 15, 17)] :: en_cw) B.pre
  have hts : ∀ z ∈ en_cw, z.before _ s = true := fun z hz => hts0 z (List.mem_cons_of_mem _ hz)
  have hown : s.vm.findClass RL = some m.cls := findClass_of_methodNamed B.named
  have htab := vx_table (x := yL_begin) B (hts0 _ List.mem_cons_self)
  have hA : ∀ q : Nat, s.heap.size ≤ q → va_A w s.heap.size q := fun q h => Or.inr h
  have hS : va_S (va_A w s.heap.size) s.heap s.heap [] := va_S.rf
  have hK0 : va_K D vwCl tys s := hK.pre
  have hTt : (tys ++ [(cO, .long), (cD, .double)])[7]? = some (cO, .long) := wr_ty hTY
  have hl := lv_entry ([.ref (sh.2 qx), .int a1, .ref (sh.2 qo)]) (n := 4) (Nat.le_of_ble_eq_true rfl)
  rw [lg_entry_eq]
  generalize (lg_sl ([.ref (sh.2 qx), .int a1, .ref (sh.2 qo)]) ++ List.replicate (4 - (lg_sl ([.ref (sh.2 qx), .int a1, .ref (sh.2 qo)])).length) Slot.unset).toArray = ls at hl ⊢
  have hl : lv_has ls 4 [(0, .ref (sh.2 qx)), (1, .int a1), (2, .ref (sh.2 qo))] := hl
  refine lv_aload_n hx hb dw_begin_0 rfl (lv_at hl 2 rfl) ?_
  refine lv_iconst (v := 0) hx hb dw_begin_1 (by decide) ?_
  refine lv_aload_n hx hb dw_begin_2 rfl (lv_at hl 0 rfl) ?_
  refine lv_iload_n hx hb dw_begin_3 rfl (lv_at hl 1 rfl) ?_
  refine en_hcV (q0 := qx) (b := sh.2 qx) (fs := fx) (co := 12) (ρp := [.ref (sh.2 qx), .int a1, .int x4, .int x5, .int x11]) (As := [.int a1]) (rest := [.int 0, .ref (sh.2 qo)]) (lv' := 2) (ct_X6_begin_13 hl9 hPP Ω) gw_X6_begin rfl rfl hwx rfl rfl (Nat.le_of_ble_eq_true rfl) ⟨Nat.le_of_ble_eq_true rfl, Nat.le_of_ble_eq_true rfl⟩ ⟨Nat.le_of_ble_eq_true rfl, Nat.le_of_ble_eq_true rfl⟩ (Nat.le_of_ble_eq_true rfl) hx hb (hml.trans hl.1.symm) hts hown hTY hK0 hT hP hD0 hS hA hW hΩ (wr_pf (env := k_X6_begin_13.2.1.1) (fa := k_X6_begin_13.2.1.2) ⟨⟨qx, hqx, rfl⟩, ⟨a1, rfl, hb1.1, hb1.2⟩, ⟨x4, rfl, hl4.1, hl4.2⟩, ⟨x5, rfl, hl5.1, hl5.2⟩, ⟨x11, rfl, hl11.1, hl11.2⟩, trivial⟩ (en_ac ⟨qx, _, 12, fx, _, rfl, hwx, hf4, rfl⟩ (en_ac ⟨qx, _, 12, fx, _, rfl, hwx, hf5, rfl⟩ (en_ac ⟨qx, _, 12, fx, _, rfl, hwx, hf11, rfl⟩ en_an)))) dw_begin_4 (fun x9 hx9 ce q9 u H1 locs1 hpx hP1 hD1 hS1 hcell hvm hcl => ?_) (fun u res H1 locs1 hrv hpo hP1 hD1 hS1 => ?_)
  · have hku := wr_keep hpx hqo (by decide +kernel) hwo
    have hpx9 := wr_same hpx ((56, 0) :: k_X6_begin_13.2.2.2.1) (fun z hz => List.mem_cons_of_mem _ hz)
    exact absurd hx9 List.not_mem_nil
  · obtain ⟨hpx, hpo9⟩ := hpo
    have hku := wr_keep hpx hqo (by decide +kernel) hwo
    obtain ⟨r9, rfl⟩ := hrv
    obtain ⟨o9, ho9, ρ9, hpa, hi9, hres⟩ := hpo9
    have ho9 := List.mem_singleton.mp ho9
    subst ho9
    obtain ⟨v9, e9, x9, hx9, l9, u9⟩ := hpa.2.1 3 _ rfl
    subst hx9
    have er9 : x9 = 1 := Int32.toInt_inj.mp (by rw [show ((1 : Int32)).toInt = 1 from rfl]; have l9 : (1 : Int) ≤ x9.toInt := l9; have u9 : x9.toInt ≤ (1 : Int) := u9; omega)
    obtain ⟨q9, r8, ci9, fx9, v8, c1, c2, c3, c4⟩ := hpa.2.2 (0, 0, 10, 3, 0, 0) (by decide)
    have e8 : r8 = u.1.2 qx := (Value.ref.inj (Option.some.inj (c1.symm.trans (hi9 0 (by decide))))).trans (hpx.1.at hqx).2.symm
    subst e8
    obtain ⟨e7, c5, c6⟩ := hpx.2.2 qx 0 _ hqx hwx
    have c5 : u.2[qx]? = some (u.1.2 qx, e7) := by rw [(hpx.1.at hqx).2]; exact c5
    have eq9 : q9 = qx := hD1.1 q9 qx _ _ c2 c5 rfl
    subst eq9
    have ci : ci9 = 12 := by rw [(Prod.mk.inj (Option.some.inj (c5.symm.trans c2))).2] at c6; exact c6.1
    subst ci
    have hf10 : fx9[10]? = some (.int 1) := by rw [c3, Option.some.inj (c4.symm.trans e9), er9]
    have c2u := c2
    have hqq : ¬ qo = q9 := fun e => by rw [e] at hqo; rw [hqo] at hqx; cases hqx
    refine lv_i2l hx hb dw_begin_7 rfl ?_
    refine va_last hx hb hK hP1 hD1 hS1 qo 7 hku hTt (vp_in_nI (n := 0) (by decide) (by decide)) dw_begin_8 (fun H2 locs2 hP2 hD2 hS2 => ?_)
    obtain ⟨g9, hg9⟩ : ∃ g9, g9 = vp_updL g0 (0 : Int32).toNatClampNeg r9.toInt64 := ⟨_, rfl⟩
    rw [← hg9] at hP2 hD2
    refine lv_goto (tgt := 18) hx hb dw_begin_9 (by decide) ?_
    refine lv_iconst (v := 0) hx hb dw_begin_18 (by decide) ?_
    exact W.widen (Nat.le_of_ble_eq_true rfl) (Nat.le_of_ble_eq_true rfl) (W.iret (v := 0) hx hb hr (fun t ht hW9 => ⟨⟨0, (u.1, u.2.set qo (sh.2 qo, .inl (cO, 1, .inr (.inl g9)))), rfl, ⟨⟨wr_set hpx hqo (by decide +kernel) (by decide +kernel) hwo ⟨rfl, rfl⟩, g9, wr_get hku⟩, fx9, by rw [List.getElem?_set_ne hqq]; exact c2u, hf10⟩, by rw [ht]; exact hP2, hD2⟩, hS2.F ht⟩) hS2.2.2 dw_begin_19)
set_option maxHeartbeats 4000000 in
set_option maxRecDepth 100000 in
theorem wr_nextHole_z {l : Launch} (hl9 : l.stackTraces = false) {PP : Int32 → Int32 → Prop} (hPP : en_P0 PP) (Ω : Nat → en_H → va_W → Prop) (D : va_G) (tys : List (ClassId × FieldType)) (cO cD : ClassId) (sh : en_H) (w : va_W) (sz qx qo : Nat) (fx : List Value) (g0 : (Nat → Int64)) (hTY : tys.map Prod.snd = en_TY0) (hW : en_W PP en_KT k_X6_nextHole_1.2.2.2.2.1 sh tys (fun _ => False) w) (hD0 : va_D (va_A w sz) w) (hΩ : en_Om en_om0 sh Ω) (hqx : sh.1[qx]? = some 0) (hwx : w[qx]? = some (sh.2 qx, .inr (12, fx))) (hqo : sh.1[qo]? = some 56) (hwo : w[qo]? = some (sh.2 qo, .inl (cO, 1, .inr (.inl g0)))) {x11 : Int32} (hf11 : fx[11]? = some (.int x11)) (hl11 : 0 ≤ x11.toInt ∧ x11.toInt ≤ 0) :
    Met l yL_nextHole (Cond.codeWith yL_nextHole cL_nextHole 3 (some .int) [(0, 8, 11, 15), (0, 8, 14, 17)] :: en_cw) (en_rm 2 (1, 6)) (va_Pc [.ref (sh.2 qx), .ref (sh.2 qo)] (en_B D vwCl (tys ++ [(cO, .long), (cD, .double)]) w sz)) (va_Qi (fun _ u => (en_Px tys PP en_KT k_X6_nextHole_1.2.2.2.2.1 ((56, 0) :: k_X6_nextHole_1.2.2.2.1) sh w u ∧ ∃ g, u.2[qo]? = some (sh.2 qo, .inl (cO, 1, .inr (.inl g))))) (en_Bw D vwCl (va_A w sz)) (va_A w sz)) 1 6 (va_A w sz) := by
  refine va_MetW (cc := cL_nextHole) (maxL := 3) (ret := some .int) (hh := [(0, 8, 11, 15), (0, 8, 14, 17)]) (by decide +kernel) rfl ?_
  intro p e s m args below meth c s₁ B hml hv
  obtain ⟨rfl, hsz, hP, hK, hT⟩ := hv
  subst hsz
  have hx := B.exec
  have hb := B.bytes
  have hr := B.returns
  have hts0 := atoms_spec (ws := Cond.codeWith yL_nextHole cL_nextHole 3 (some .int) [(0, 8, 11, 15), (0, 8, 14, 17)] :: en_cw) B.pre
  have hts : ∀ z ∈ en_cw, z.before _ s = true := fun z hz => hts0 z (List.mem_cons_of_mem _ hz)
  have hown : s.vm.findClass RL = some m.cls := findClass_of_methodNamed B.named
  have htab := vx_table (x := yL_nextHole) B (hts0 _ List.mem_cons_self)
  have hA : ∀ q : Nat, s.heap.size ≤ q → va_A w s.heap.size q := fun q h => Or.inr h
  have hS : va_S (va_A w s.heap.size) s.heap s.heap [] := va_S.rf
  have hK0 : va_K D vwCl tys s := hK.pre
  have hTt : (tys ++ [(cO, .long), (cD, .double)])[7]? = some (cO, .long) := wr_ty hTY
  have hl := lv_entry ([.ref (sh.2 qx), .ref (sh.2 qo)]) (n := 3) (Nat.le_of_ble_eq_true rfl)
  rw [lg_entry_eq]
  generalize (lg_sl ([.ref (sh.2 qx), .ref (sh.2 qo)]) ++ List.replicate (3 - (lg_sl ([.ref (sh.2 qx), .ref (sh.2 qo)])).length) Slot.unset).toArray = ls at hl ⊢
  have hl : lv_has ls 3 [(0, .ref (sh.2 qx)), (1, .ref (sh.2 qo))] := hl
  refine lv_aload_n hx hb dw_nextHole_0 rfl (lv_at hl 1 rfl) ?_
  refine lv_iconst (v := 0) hx hb dw_nextHole_1 (by decide) ?_
  refine lv_aload_n hx hb dw_nextHole_2 rfl (lv_at hl 0 rfl) ?_
  refine en_hcV (q0 := qx) (b := sh.2 qx) (fs := fx) (co := 12) (ρp := [.ref (sh.2 qx), .int x11]) (As := []) (rest := [.int 0, .ref (sh.2 qo)]) (lv' := 1) (ct_X6_nextHole_1 hl9 hPP Ω) gw_X6_nextHole rfl rfl hwx rfl rfl (Nat.le_of_ble_eq_true rfl) ⟨Nat.le_of_ble_eq_true rfl, Nat.le_of_ble_eq_true rfl⟩ ⟨Nat.le_of_ble_eq_true rfl, Nat.le_of_ble_eq_true rfl⟩ (Nat.le_of_ble_eq_true rfl) hx hb (hml.trans hl.1.symm) hts hown hTY hK0 hT hP hD0 hS hA hW hΩ (wr_pf (env := k_X6_nextHole_1.2.1.1) (fa := k_X6_nextHole_1.2.1.2) ⟨⟨qx, hqx, rfl⟩, ⟨x11, rfl, hl11.1, hl11.2⟩, trivial⟩ (en_ac ⟨qx, _, 12, fx, _, rfl, hwx, hf11, rfl⟩ en_an)) dw_nextHole_3 (fun x9 hx9 ce q9 u H1 locs1 hpx hP1 hD1 hS1 hcell hvm hcl => ?_) (fun u res H1 locs1 hrv hpo hP1 hD1 hS1 => ?_)
  · have hku := wr_keep hpx hqo (by decide +kernel) hwo
    have hpx9 := wr_same hpx ((56, 0) :: k_X6_nextHole_1.2.2.2.1) (fun z hz => List.mem_cons_of_mem _ hz)
    have hx8 := List.mem_singleton.mp hx9
    subst hx8
    refine vx_catch (E := "java/lang/IllegalStateException") (name := "java/lang/IllegalStateException") hown [] ⟨0, 8, 11, 15⟩ [⟨0, 8, 14, 17⟩] (htab.trans rfl) wr_nil (by decide) (by decide) (hts (.classLink RL 15 "java/lang/IllegalStateException") cwl499) (va_Nw.use rfl (hT.1 (Cond.castable "java/lang/IllegalStateException" "java/lang/IllegalStateException") (tf_cast (69, "java/lang/IllegalStateException") (by decide +kernel)))) hcell hvm hcl ?_
    refine lv_astore_n (lv' := (2, .ref q9) :: [(0, .ref (sh.2 qx)), (1, .ref (sh.2 qo))]) hx hb dw_nextHole_11 rfl hl (by decide) rfl (fun ls hl => ?_)
    refine lv_iconst (v := 1) hx hb dw_nextHole_12 (by decide) ?_
    exact W.widen (Nat.le_of_ble_eq_true rfl) (Nat.le_of_ble_eq_true rfl) (W.iret (v := 1) hx hb hr (fun t ht hW9 => ⟨⟨1, u, rfl, ⟨hpx9, g0, hku⟩, by rw [ht]; exact hP1, hD1⟩, hS1.F ht⟩) hS1.2.2 dw_nextHole_13)
  · obtain ⟨hpx, hpo9⟩ := hpo
    have hku := wr_keep hpx hqo (by decide +kernel) hwo
    obtain ⟨r9, rfl⟩ := hrv
    obtain ⟨o9, ho9, -⟩ := hpo9
    exact absurd ho9 List.not_mem_nil
