set_option maxHeartbeats 4000000 in
set_option maxRecDepth 100000 in
theorem wr_begin_a {l : Launch} (hl9 : l.stackTraces = false) {PP : Int32 → Int32 → Prop} (hPP : en_P0 PP) (Ω : Nat → en_H → va_W → Prop) (D : va_G) (tys : List (ClassId × FieldType)) (cO cD : ClassId) (sh : en_H) (w : va_W) (sz qx qo : Nat) (fx : List Value) (g0 : (Nat → Int64)) (a1 : Int32) (hb1 : 0 ≤ a1.toInt ∧ a1.toInt ≤ 108) (hTY : tys.map Prod.snd = en_TY0) (hW : en_W PP en_KT k_X6_begin_1.2.2.2.2.1 sh tys (fun _ => False) w) (hD0 : va_D (va_A w sz) w) (hΩ : en_Om en_om0 sh Ω) (hqx : sh.1[qx]? = some 0) (hwx : w[qx]? = some (sh.2 qx, .inr (12, fx))) (hqo : sh.1[qo]? = some 56) (hwo : w[qo]? = some (sh.2 qo, .inl (cO, 1, .inr (.inl g0)))) :
    Met l yL_begin (Cond.codeWith yL_begin cL_begin 4 (some .int) [(0, 9, 12, 13), (0, 9, 15, 17)] :: en_cw) (en_rm 1 (1, 6)) (va_Pc [.ref (sh.2 qx), .int a1, .ref (sh.2 qo)] (en_B D vwCl (tys ++ [(cO, .long), (cD, .double)]) w sz)) (va_Qi (fun _ u => (en_Px tys PP en_KT k_X6_begin_1.2.2.2.2.1 ((56, 0) :: k_X6_begin_1.2.2.2.1) sh w u ∧ ∃ g, u.2[qo]? = some (sh.2 qo, .inl (cO, 1, .inr (.inl g))))) (en_Bw D vwCl (va_A w sz)) (va_A w sz)) 1 6 (va_A w sz) := by
  refine va_MetW (cc := cL_begin) (maxL := 4) (ret := some .int) (hh := [(0, 9, 12, 13), (0, 9, 15, 17)]) (by decide +kernel) rfl ?_
  intro p e s m args below meth c s₁ B hml hv
  obtain ⟨rfl, hsz, hP, hK, hT⟩ := hv
  subst hsz
  have hx := B.exec
  have hb := B.bytes
  have hr := B.returns
  have hts0 := atoms_spec (ws := Cond.codeWith yL_begin cL_begin 4 (some .int) [(0, 9, 12, 13), (0, 9, 15, 17)] :: en_cw) B.pre
  have hts : ∀ z ∈ en_cw, z.before _ s = true := fun z hz => hts0 z (List.mem_cons_of_mem _ hz)
  have hown : s.vm.findClass RL = some m.cls := findClass_of_methodNamed B.named
  have htab := vx_table (x := yL_begin) B (hts0 _ List.mem_cons_self)
  have hA : ∀ q : Nat, s.heap.size ≤ q → va_A w s.heap.size q := fun q h => Or.inr h
  have hS : va_S (va_A w s.heap.size) s.heap s.heap [] := va_S.rf
  have hK0 : va_K D vwCl tys s := hK.pre
  have hTt : (tys ++ [(cO, .long), (cD, .double)])[7]? = some (cO, .long) := wr_ty hTY
  have hl := lv_entry ([.ref (sh.2 qx), .int a1, .ref (sh.2 qo)]) (n := 4) (Nat.le_of_ble_eq_true rfl)
  rw [lg_entry_eq]
  generalize (lg_sl ([.ref (sh.2 qx), .int a1, .ref (sh.2 qo)]) ++ List.replicate (4 - (lg_sl ([.ref (sh.2 qx), .int a1, .ref (sh.2 qo)])).length) Slot.unset).toArray = ls at hl ⊢
  have hl : lv_has ls 4 [(0, .ref (sh.2 qx)), (1, .int a1), (2, .ref (sh.2 qo))] := hl
  refine lv_aload_n hx hb dw_begin_0 rfl (lv_at hl 2 rfl) ?_
  refine lv_iconst (v := 0) hx hb dw_begin_1 (by decide) ?_
  refine lv_aload_n hx hb dw_begin_2 rfl (lv_at hl 0 rfl) ?_
  refine lv_iload_n hx hb dw_begin_3 rfl (lv_at hl 1 rfl) ?_
  refine en_hcV (q0 := qx) (b := sh.2 qx) (fs := fx) (co := 12) (ρp := [.ref (sh.2 qx), .int a1]) (As := [.int a1]) (rest := [.int 0, .ref (sh.2 qo)]) (lv' := 0) (ct_X6_begin_1 hl9 hPP Ω) gw_X6_begin rfl rfl hwx rfl rfl (Nat.le_of_ble_eq_true rfl) ⟨Nat.le_of_ble_eq_true rfl, Nat.le_of_ble_eq_true rfl⟩ ⟨Nat.le_of_ble_eq_true rfl, Nat.le_of_ble_eq_true rfl⟩ (Nat.le_of_ble_eq_true rfl) hx hb (hml.trans hl.1.symm) hts hown hTY hK0 hT hP hD0 hS hA hW hΩ (wr_pa (env := k_X6_begin_1.2.1.1) ⟨⟨qx, hqx, rfl⟩, ⟨a1, rfl, hb1.1, hb1.2⟩, trivial⟩) dw_begin_4 (fun x9 hx9 ce q9 u H1 locs1 hpx hP1 hD1 hS1 hcell hvm hcl => ?_) (fun u res H1 locs1 hrv hpo hP1 hD1 hS1 => ?_)
  · have hku := wr_keep hpx hqo (by decide +kernel) hwo
    have hpx9 := wr_same hpx ((56, 0) :: k_X6_begin_1.2.2.2.1) (fun z hz => List.mem_cons_of_mem _ hz)
    have hx8 := List.mem_singleton.mp hx9
    subst hx8
    refine vx_catch (E := "java/lang/IllegalArgumentException") (name := "java/lang/IllegalArgumentException") hown [] ⟨0, 9, 12, 13⟩ [⟨0, 9, 15, 17⟩] (htab.trans rfl) wr_nil (by decide) (by decide) (hts (.classLink RL 13 "java/lang/IllegalArgumentException") cwl498) (va_Nw.use rfl (hT.1 (Cond.castable "java/lang/IllegalArgumentException" "java/lang/IllegalArgumentException") (tf_cast (53, "java/lang/IllegalArgumentException") (by decide +kernel)))) hcell hvm hcl ?_
    refine lv_astore_n (lv' := (3, .ref q9) :: [(0, .ref (sh.2 qx)), (1, .int a1), (2, .ref (sh.2 qo))]) hx hb dw_begin_12 rfl hl (by decide) rfl (fun ls hl => ?_)
    refine lv_iconst (v := 1) hx hb dw_begin_13 (by decide) ?_
    exact W.widen (Nat.le_of_ble_eq_true rfl) (Nat.le_of_ble_eq_true rfl) (W.iret (v := 1) hx hb hr (fun t ht hW9 => ⟨⟨1, u, rfl, ⟨hpx9, g0, hku⟩, by rw [ht]; exact hP1, hD1⟩, hS1.F ht⟩) hS1.2.2 dw_begin_14)
  · obtain ⟨hpx, hpo9⟩ := hpo
    have hku := wr_keep hpx hqo (by decide +kernel) hwo
    obtain ⟨r9, rfl⟩ := hrv
    obtain ⟨o9, ho9, -⟩ := hpo9
    exact absurd ho9 List.not_mem_nil
set_option maxHeartbeats 4000000 in
set_option maxRecDepth 100000 in
theorem wr_begin_b {l : Launch} (hl9 : l.stackTraces = false) {PP : Int32 → Int32 → Prop} (hPP : en_P0 PP) (Ω : Nat → en_H → va_W → Prop) (D : va_G) (tys : List (ClassId × FieldType)) (cO cD : ClassId) (sh : en_H) (w : va_W) (sz qx qo : Nat) (fx : List Value) (g0 : (Nat → Int64)) (a1 : Int32) (hb1 : 110 ≤ a1.toInt ∧ a1.toInt ≤ 114) (hTY : tys.map Prod.snd = en_TY0) (hW : en_W PP en_KT k_X6_begin_2.2.2.2.2.1 sh tys (fun _ => False) w) (hD0 : va_D (va_A w sz) w) (hΩ : en_Om en_om0 sh Ω) (hqx : sh.1[qx]? = some 0) (hwx : w[qx]? = some (sh.2 qx, .inr (12, fx))) (hqo : sh.1[qo]? = some 56) (hwo : w[qo]? = some (sh.2 qo, .inl (cO, 1, .inr (.inl g0)))) :
    Met l yL_begin (Cond.codeWith yL_begin cL_begin 4 (some .int) [(0, 9, 12, 13), (0, 9, 15, 17)] :: en_cw) (en_rm 1 (1, 6)) (va_Pc [.ref (sh.2 qx), .int a1, .ref (sh.2 qo)] (en_B D vwCl (tys ++ [(cO, .long), (cD, .double)]) w sz)) (va_Qi (fun _ u => (en_Px tys PP en_KT k_X6_begin_2.2.2.2.2.1 ((56, 0) :: k_X6_begin_2.2.2.2.1) sh w u ∧ ∃ g, u.2[qo]? = some (sh.2 qo, .inl (cO, 1, .inr (.inl g))))) (en_Bw D vwCl (va_A w sz)) (va_A w sz)) 1 6 (va_A w sz) := by
  refine va_MetW (cc := cL_begin) (maxL := 4) (ret := some .int) (hh := [(0, 9, 12, 13), (0, 9, 15, 17)]) (by decide +kernel) rfl ?_
  intro p e s m args below meth c s₁ B hml hv
  obtain ⟨rfl, hsz, hP, hK, hT⟩ := hv
  subst hsz
  have hx := B.exec
  have hb := B.bytes
  have hr := B.returns
  have hts0 := atoms_spec (ws := Cond.codeWith yL_begin cL_begin 4 (some .int) [(0, 9, 12, 13), (0, 9, 15, 17)] :: en_cw) B.pre
  have hts : ∀ z ∈ en_cw, z.before _ s = true := fun z hz => hts0 z (List.mem_cons_of_mem _ hz)
  have hown : s.vm.findClass RL = some m.cls := findClass_of_methodNamed B.named
  have htab := vx_table (x := yL_begin) B (hts0 _ List.mem_cons_self)
  have hA : ∀ q : Nat, s.heap.size ≤ q → va_A w s.heap.size q := fun q h => Or.inr h
  have hS : va_S (va_A w s.heap.size) s.heap s.heap [] := va_S.rf
  have hK0 : va_K D vwCl tys s := hK.pre
  have hTt : (tys ++ [(cO, .long), (cD, .double)])[7]? = some (cO, .long) := wr_ty hTY
  have hl := lv_entry ([.ref (sh.2 qx), .int a1, .ref (sh.2 qo)]) (n := 4) (Nat.le_of_ble_eq_true rfl)
  rw [lg_entry_eq]
  generalize (lg_sl ([.ref (sh.2 qx), .int a1, .ref (sh.2 qo)]) ++ List.replicate (4 - (lg_sl ([.ref (sh.2 qx), .int a1, .ref (sh.2 qo)])).length) Slot.unset).toArray = ls at hl ⊢
  have hl : lv_has ls 4 [(0, .ref (sh.2 qx)), (1, .int a1), (2, .ref (sh.2 qo))] := hl
  refine lv_aload_n hx hb dw_begin_0 rfl (lv_at hl 2 rfl) ?_
  refine lv_iconst (v := 0) hx hb dw_begin_1 (by decide) ?_
  refine lv_aload_n hx hb dw_begin_2 rfl (lv_at hl 0 rfl) ?_
  refine lv_iload_n hx hb dw_begin_3 rfl (lv_at hl 1 rfl) ?_
  refine en_hcV (q0 := qx) (b := sh.2 qx) (fs := fx) (co := 12) (ρp := [.ref (sh.2 qx), .int a1]) (As := [.int a1]) (rest := [.int 0, .ref (sh.2 qo)]) (lv' := 0) (ct_X6_begin_2 hl9 hPP Ω) gw_X6_begin rfl rfl hwx rfl rfl (Nat.le_of_ble_eq_true rfl) ⟨Nat.le_of_ble_eq_true rfl, Nat.le_of_ble_eq_true rfl⟩ ⟨Nat.le_of_ble_eq_true rfl, Nat.le_of_ble_eq_true rfl⟩ (Nat.le_of_ble_eq_true rfl) hx hb (hml.trans hl.1.symm) hts hown hTY hK0 hT hP hD0 hS hA hW hΩ (wr_pa (env := k_X6_begin_2.2.1.1) ⟨⟨qx, hqx, rfl⟩, ⟨a1, rfl, hb1.1, hb1.2⟩, trivial⟩) dw_begin_4 (fun x9 hx9 ce q9 u H1 locs1 hpx hP1 hD1 hS1 hcell hvm hcl => ?_) (fun u res H1 locs1 hrv hpo hP1 hD1 hS1 => ?_)
  · have hku := wr_keep hpx hqo (by decide +kernel) hwo
    have hpx9 := wr_same hpx ((56, 0) :: k_X6_begin_2.2.2.2.1) (fun z hz => List.mem_cons_of_mem _ hz)
    have hx8 := List.mem_singleton.mp hx9
    subst hx8
    refine vx_catch (E := "java/lang/IllegalArgumentException") (name := "java/lang/IllegalArgumentException") hown [] ⟨0, 9, 12, 13⟩ [⟨0, 9, 15, 17⟩] (htab.trans rfl) wr_nil (by decide) (by decide) (hts (.classLink RL 13 "java/lang/IllegalArgumentException") cwl498) (va_Nw.use rfl (hT.1 (Cond.castable "java/lang/IllegalArgumentException" "java/lang/IllegalArgumentException") (tf_cast (53, "java/lang/IllegalArgumentException") (by decide +kernel)))) hcell hvm hcl ?_
    refine lv_astore_n (lv' := (3, .ref q9) :: [(0, .ref (sh.2 qx)), (1, .int a1), (2, .ref (sh.2 qo))]) hx hb dw_begin_12 rfl hl (by decide) rfl (fun ls hl => ?_)
    refine lv_iconst (v := 1) hx hb dw_begin_13 (by decide) ?_
    exact W.widen (Nat.le_of_ble_eq_true rfl) (Nat.le_of_ble_eq_true rfl) (W.iret (v := 1) hx hb hr (fun t ht hW9 => ⟨⟨1, u, rfl, ⟨hpx9, g0, hku⟩, by rw [ht]; exact hP1, hD1⟩, hS1.F ht⟩) hS1.2.2 dw_begin_14)
  · obtain ⟨hpx, hpo9⟩ := hpo
    have hku := wr_keep hpx hqo (by decide +kernel) hwo
    obtain ⟨r9, rfl⟩ := hrv
    obtain ⟨o9, ho9, -⟩ := hpo9
    exact absurd ho9 List.not_mem_nil
set_option maxHeartbeats 4000000 in
set_option maxRecDepth 100000 in
theorem wr_begin_c {l : Launch} (hl9 : l.stackTraces = false) {PP : Int32 → Int32 → Prop} (hPP : en_P0 PP) (Ω : Nat → en_H → va_W → Prop) (D : va_G) (tys : List (ClassId × FieldType)) (cO cD : ClassId) (sh : en_H) (w : va_W) (sz qx qo : Nat) (fx : List Value) (g0 : (Nat → Int64)) (a1 : Int32) (hb1 : 116 ≤ a1.toInt ∧ a1.toInt ≤ 65535) (hTY : tys.map Prod.snd = en_TY0) (hW : en_W PP en_KT k_X6_begin_3.2.2.2.2.1 sh tys (fun _ => False) w) (hD0 : va_D (va_A w sz) w) (hΩ : en_Om en_om0 sh Ω) (hqx : sh.1[qx]? = some 0) (hwx : w[qx]? = some (sh.2 qx, .inr (12, fx))) (hqo : sh.1[qo]? = some 56) (hwo : w[qo]? = some (sh.2 qo, .inl (cO, 1, .inr (.inl g0)))) :
    Met l yL_begin (Cond.codeWith yL_begin cL_begin 4 (some .int) [(0, 9, 12, 13), (0, 9, 15, 17)] :: en_cw) (en_rm 1 (1, 6)) (va_Pc [.ref (sh.2 qx), .int a1, .ref (sh.2 qo)] (en_B D vwCl (tys ++ [(cO, .long), (cD, .double)]) w sz)) (va_Qi (fun _ u => (en_Px tys PP en_KT k_X6_begin_3.2.2.2.2.1 ((56, 0) :: k_X6_begin_3.2.2.2.1) sh w u ∧ ∃ g, u.2[qo]? = some (sh.2 qo, .inl (cO, 1, .inr (.inl g))))) (en_Bw D vwCl (va_A w sz)) (va_A w sz)) 1 6 (va_A w sz) := by
  refine va_MetW (cc := cL_begin) (maxL := 4) (ret := some .int) (hh := [(0, 9, 12, 13), (0, 9, 15, 17)]) (by decide +kernel) rfl ?_
  intro p e s m args below meth c s₁ B hml hv
  obtain ⟨rfl, hsz, hP, hK, hT⟩ := hv
  subst hsz
  have hx := B.exec
  have hb := B.bytes
  have hr := B.returns
  have hts0 := atoms_spec (ws := Cond.codeWith yL_begin cL_begin 4 (some .int) [(0, 9, 12, 13), (0, 9, 15, 17)] :: en_cw) B.pre
  have hts : ∀ z ∈ en_cw, z.before _ s = true := fun z hz => hts0 z (List.mem_cons_of_mem _ hz)
  have hown : s.vm.findClass RL = some m.cls := findClass_of_methodNamed B.named
  have htab := vx_table (x := yL_begin) B (hts0 _ List.mem_cons_self)
  have hA : ∀ q : Nat, s.heap.size ≤ q → va_A w s.heap.size q := fun q h => Or.inr h
  have hS : va_S (va_A w s.heap.size) s.heap s.heap [] := va_S.rf
  have hK0 : va_K D vwCl tys s := hK.pre
  have hTt : (tys ++ [(cO, .long), (cD, .double)])[7]? = some (cO, .long) := wr_ty hTY
  have hl := lv_entry ([.ref (sh.2 qx), .int a1, .ref (sh.2 qo)]) (n := 4) (Nat.le_of_ble_eq_true rfl)
  rw [lg_entry_eq]
  generalize (lg_sl ([.ref (sh.2 qx), .int a1, .ref (sh.2 qo)]) ++ List.replicate (4 - (lg_sl ([.ref (sh.2 qx), .int a1, .ref (sh.2 qo)])).length) Slot.unset).toArray = ls at hl ⊢
  have hl : lv_has ls 4 [(0, .ref (sh.2 qx)), (1, .int a1), (2, .ref (sh.2 qo))] := hl
  refine lv_aload_n hx hb dw_begin_0 rfl (lv_at hl 2 rfl) ?_
  refine lv_iconst (v := 0) hx hb dw_begin_1 (by decide) ?_
  refine lv_aload_n hx hb dw_begin_2 rfl (lv_at hl 0 rfl) ?_
  refine lv_iload_n hx hb dw_begin_3 rfl (lv_at hl 1 rfl) ?_
  refine en_hcV (q0 := qx) (b := sh.2 qx) (fs := fx) (co := 12) (ρp := [.ref (sh.2 qx), .int a1]) (As := [.int a1]) (rest := [.int 0, .ref (sh.2 qo)]) (lv' := 0) (ct_X6_begin_3 hl9 hPP Ω) gw_X6_begin rfl rfl hwx rfl rfl (Nat.le_of_ble_eq_true rfl) ⟨Nat.le_of_ble_eq_true rfl, Nat.le_of_ble_eq_true rfl⟩ ⟨Nat.le_of_ble_eq_true rfl, Nat.le_of_ble_eq_true rfl⟩ (Nat.le_of_ble_eq_true rfl) hx hb (hml.trans hl.1.symm) hts hown hTY hK0 hT hP hD0 hS hA hW hΩ (wr_pa (env := k_X6_begin_3.2.1.1) ⟨⟨qx, hqx, rfl⟩, ⟨a1, rfl, hb1.1, hb1.2⟩, trivial⟩) dw_begin_4 (fun x9 hx9 ce q9 u H1 locs1 hpx hP1 hD1 hS1 hcell hvm hcl => ?_) (fun u res H1 locs1 hrv hpo hP1 hD1 hS1 => ?_)
  · have hku := wr_keep hpx hqo (by decide +kernel) hwo
    have hpx9 := wr_same hpx ((56, 0) :: k_X6_begin_3.2.2.2.1) (fun z hz => List.mem_cons_of_mem _ hz)
    have hx8 := List.mem_singleton.mp hx9
    subst hx8
    refine vx_catch (E := "java/lang/IllegalArgumentException") (name := "java/lang/IllegalArgumentException") hown [] ⟨0, 9, 12, 13⟩ [⟨0, 9, 15, 17⟩] (htab.trans rfl) wr_nil (by decide) (by decide) (hts (.classLink RL 13 "java/lang/IllegalArgumentException") cwl498) (va_Nw.use rfl (hT.1 (Cond.castable "java/lang/IllegalArgumentException" "java/lang/IllegalArgumentException") (tf_cast (53, "java/lang/IllegalArgumentException") (by decide +kernel)))) hcell hvm hcl ?_
    refine lv_astore_n (lv' := (3, .ref q9) :: [(0, .ref (sh.2 qx)), (1, .int a1), (2, .ref (sh.2 qo))]) hx hb dw_begin_12 rfl hl (by decide) rfl (fun ls hl => ?_)
    refine lv_iconst (v := 1) hx hb dw_begin_13 (by decide) ?_
    exact W.widen (Nat.le_of_ble_eq_true rfl) (Nat.le_of_ble_eq_true rfl) (W.iret (v := 1) hx hb hr (fun t ht hW9 => ⟨⟨1, u, rfl, ⟨hpx9, g0, hku⟩, by rw [ht]; exact hP1, hD1⟩, hS1.F ht⟩) hS1.2.2 dw_begin_14)
  · obtain ⟨hpx, hpo9⟩ := hpo
    have hku := wr_keep hpx hqo (by decide +kernel) hwo
    obtain ⟨r9, rfl⟩ := hrv
    obtain ⟨o9, ho9, -⟩ := hpo9
    exact absurd ho9 List.not_mem_nil
set_option maxHeartbeats 4000000 in
set_option maxRecDepth 100000 in
theorem wr_begin_hs {l : Launch} (hl9 : l.stackTraces = false) {PP : Int32 → Int32 → Prop} (hPP : en_P0 PP) (Ω : Nat → en_H → va_W → Prop) (D : va_G) (tys : List (ClassId × FieldType)) (cO cD : ClassId) (sh : en_H) (w : va_W) (sz qx qo : Nat) (fx : List Value) (g0 : (Nat → Int64)) (a1 : Int32) (hb1 : 115 ≤ a1.toInt ∧ a1.toInt ≤ 115) (hTY : tys.map Prod.snd = en_TY0) (hW : en_W PP en_KT k_X6_begin_4.2.2.2.2.1 sh tys (fun _ => False) w) (hD0 : va_D (va_A w sz) w) (hΩ : en_Om en_om0 sh Ω) (hqx : sh.1[qx]? = some 0) (hwx : w[qx]? = some (sh.2 qx, .inr (12, fx))) (hqo : sh.1[qo]? = some 56) (hwo : w[qo]? = some (sh.2 qo, .inl (cO, 1, .inr (.inl g0)))) {x4 : Int32} (hf4 : fx[4]? = some (.int x4)) (hl4 : 0 ≤ x4.toInt ∧ x4.toInt ≤ 0) :
    Met l yL_begin (Cond.codeWith yL_begin cL_begin 4 (some .int) [(0, 9, 12, 13), (0, 9, 15, 17)] :: en_cw) (en_rm 1 (1, 6)) (va_Pc [.ref (sh.2 qx), .int a1, .ref (sh.2 qo)] (en_B D vwCl (tys ++ [(cO, .long), (cD, .double)]) w sz)) (va_Qi (fun _ u => (en_Px tys PP en_KT k_X6_begin_4.2.2.2.2.1 ((56, 0) :: k_X6_begin_4.2.2.2.1) sh w u ∧ ∃ g, u.2[qo]? = some (sh.2 qo, .inl (cO, 1, .inr (.inl g))))) (en_Bw D vwCl (va_A w sz)) (va_A w sz)) 1 6 (va_A w sz) := by
  refine va_MetW (cc := cL_begin) (maxL := 4) (ret := some .int) (hh := [(0, 9, 12, 13), (0, 9, 15, 17)]) (by decide +kernel) rfl ?_
  intro p e s m args below meth c s₁ B hml hv
  obtain ⟨rfl, hsz, hP, hK, hT⟩ := hv
  subst hsz
  have hx := B.exec
  have hb := B.bytes
  have hr := B.returns
  have hts0 := atoms_spec (ws := Cond.codeWith yL_begin cL_begin 4 (some .int) [(0, 9, 12, 13), (0, 9, 15, 17)] :: en_cw) B.pre
  have hts : ∀ z ∈ en_cw, z.before _ s = true := fun z hz => hts0 z (List.mem_cons_of_mem _ hz)
  have hown : s.vm.findClass RL = some m.cls := findClass_of_methodNamed B.named
  have htab := vx_table (x := yL_begin) B (hts0 _ List.mem_cons_self)
  have hA : ∀ q : Nat, s.heap.size ≤ q → va_A w s.heap.size q := fun q h => Or.inr h
  have hS : va_S (va_A w s.heap.size) s.heap s.heap [] := va_S.rf
  have hK0 : va_K D vwCl tys s := hK.pre
  have hTt : (tys ++ [(cO, .long), (cD, .double)])[7]? = some (cO, .long) := wr_ty hTY
  have hl := lv_entry ([.ref (sh.2 qx), .int a1, .ref (sh.2 qo)]) (n := 4) (Nat.le_of_ble_eq_true rfl)
  rw [lg_entry_eq]
  generalize (lg_sl ([.ref (sh.2 qx), .int a1, .ref (sh.2 qo)]) ++ List.replicate (4 - (lg_sl ([.ref (sh.2 qx), .int a1, .ref (sh.2 qo)])).length) Slot.unset).toArray = ls at hl ⊢
  have hl : lv_has ls 4 [(0, .ref (sh.2 qx)), (1, .int a1), (2, .ref (sh.2 qo))] := hl
  refine lv_aload_n hx hb dw_begin_0 rfl (lv_at hl 2 rfl) ?_
  refine lv_iconst (v := 0) hx hb dw_begin_1 (by decide) ?_
  refine lv_aload_n hx hb dw_begin_2 rfl (lv_at hl 0 rfl) ?_
  refine lv_iload_n hx hb dw_begin_3 rfl (lv_at hl 1 rfl) ?_
  refine en_hcV (q0 := qx) (b := sh.2 qx) (fs := fx) (co := 12) (ρp := [.ref (sh.2 qx), .int a1, .int x4]) (As := [.int a1]) (rest := [.int 0, .ref (sh.2 qo)]) (lv' := 0) (ct_X6_begin_4 hl9 hPP Ω) gw_X6_begin rfl rfl hwx rfl rfl (Nat.le_of_ble_eq_true rfl) ⟨Nat.le_of_ble_eq_true rfl, Nat.le_of_ble_eq_true rfl⟩ ⟨Nat.le_of_ble_eq_true rfl, Nat.le_of_ble_eq_true rfl⟩ (Nat.le_of_ble_eq_true rfl) hx hb (hml.trans hl.1.symm) hts hown hTY hK0 hT hP hD0 hS hA hW hΩ (wr_pf (env := k_X6_begin_4.2.1.1) (fa := k_X6_begin_4.2.1.2) ⟨⟨qx, hqx, rfl⟩, ⟨a1, rfl, hb1.1, hb1.2⟩, ⟨x4, rfl, hl4.1, hl4.2⟩, trivial⟩ (en_ac ⟨qx, _, 12, fx, _, rfl, hwx, hf4, rfl⟩ en_an)) dw_begin_4 (fun x9 hx9 ce q9 u H1 locs1 hpx hP1 hD1 hS1 hcell hvm hcl => ?_) (fun u res H1 locs1 hrv hpo hP1 hD1 hS1 => ?_)
  · have hku := wr_keep hpx hqo (by decide +kernel) hwo
    have hpx9 := wr_same hpx ((56, 0) :: k_X6_begin_4.2.2.2.1) (fun z hz => List.mem_cons_of_mem _ hz)
    have hx8 := List.mem_singleton.mp hx9
    subst hx8
    refine vx_catch (E := "java/lang/UnsupportedOperationException") (name := "java/lang/UnsupportedOperationException") hown [⟨0, 9, 12, 13⟩] ⟨0, 9, 15, 17⟩ [] (htab.trans rfl) (wr_cons (Or.inr ⟨by decide, "java/lang/IllegalArgumentException", (hts (.classLink RL 13 "java/lang/IllegalArgumentException") cwl498), hT.2.2.2.2.1 _ (by decide +kernel) _ (by decide +kernel) (by decide)⟩) wr_nil) (by decide) (by decide) (hts (.classLink RL 17 "java/lang/UnsupportedOperationException") cwl500) (va_Nw.use rfl (hT.1 (Cond.castable "java/lang/UnsupportedOperationException" "java/lang/UnsupportedOperationException") (tf_cast (78, "java/lang/UnsupportedOperationException") (by decide +kernel)))) hcell hvm hcl ?_
    refine lv_astore_n (lv' := (3, .ref q9) :: [(0, .ref (sh.2 qx)), (1, .int a1), (2, .ref (sh.2 qo))]) hx hb dw_begin_15 rfl hl (by decide) rfl (fun ls hl => ?_)
    refine lv_iconst (v := 2) hx hb dw_begin_16 (by decide) ?_
    exact W.widen (Nat.le_of_ble_eq_true rfl) (Nat.le_of_ble_eq_true rfl) (W.iret (v := 2) hx hb hr (fun t ht hW9 => ⟨⟨2, u, rfl, ⟨hpx9, g0, hku⟩, by rw [ht]; exact hP1, hD1⟩, hS1.F ht⟩) hS1.2.2 dw_begin_17)
  · obtain ⟨hpx, hpo9⟩ := hpo
    have hku := wr_keep hpx hqo (by decide +kernel) hwo
    obtain ⟨r9, rfl⟩ := hrv
    obtain ⟨o9, ho9, -⟩ := hpo9
    exact absurd ho9 List.not_mem_nil
set_option maxHeartbeats 4000000 in
set_option maxRecDepth 100000 in
theorem wr_begin_ps {l : Launch} (hl9 : l.stackTraces = false) {PP : Int32 → Int32 → Prop} (hPP : en_P0 PP) (Ω : Nat → en_H → va_W → Prop) (D : va_G) (tys : List (ClassId × FieldType)) (cO cD : ClassId) (sh : en_H) (w : va_W) (sz qx qo : Nat) (fx : List Value) (g0 : (Nat → Int64)) (a1 : Int32) (hb1 : 115 ≤ a1.toInt ∧ a1.toInt ≤ 115) (hTY : tys.map Prod.snd = en_TY0) (hW : en_W PP en_KT k_X6_begin_5.2.2.2.2.1 sh tys (fun _ => False) w) (hD0 : va_D (va_A w sz) w) (hΩ : en_Om en_om0 sh Ω) (hqx : sh.1[qx]? = some 0) (hwx : w[qx]? = some (sh.2 qx, .inr (12, fx))) (hqo : sh.1[qo]? = some 56) (hwo : w[qo]? = some (sh.2 qo, .inl (cO, 1, .inr (.inl g0)))) {x5 : Int32} (hf5 : fx[5]? = some (.int x5)) (hl5 : 0 ≤ x5.toInt ∧ x5.toInt ≤ 0) :
    Met l yL_begin (Cond.codeWith yL_begin cL_begin 4 (some .int) [(0, 9, 12, 13), (0, 9, 15, 17)] :: en_cw) (en_rm 1 (1, 6)) (va_Pc [.ref (sh.2 qx), .int a1, .ref (sh.2 qo)] (en_B D vwCl (tys ++ [(cO, .long), (cD, .double)]) w sz)) (va_Qi (fun _ u => (en_Px tys PP en_KT k_X6_begin_5.2.2.2.2.1 ((56, 0) :: k_X6_begin_5.2.2.2.1) sh w u ∧ ∃ g, u.2[qo]? = some (sh.2 qo, .inl (cO, 1, .inr (.inl g))))) (en_Bw D vwCl (va_A w sz)) (va_A w sz)) 1 6 (va_A w sz) := by
  refine va_MetW (cc := cL_begin) (maxL := 4) (ret := some .int) (hh := [(0, 9, 12, 13), (0, 9, 15, 17)]) (by decide +kernel) rfl ?_
  intro p e s m args below meth c s₁ B hml hv
  obtain ⟨rfl, hsz, hP, hK, hT⟩ := hv
  subst hsz
  have hx := B.exec
  have hb := B.bytes
  have hr := B.returns
  have hts0 := atoms_spec (ws := Cond.codeWith yL_begin cL_begin 4 (some .int) [(0, 9, 12, 13), (0, 9, 15, 17)] :: en_cw) B.pre
  have hts : ∀ z ∈ en_cw, z.before _ s = true := fun z hz => hts0 z (List.mem_cons_of_mem _ hz)
  have hown : s.vm.findClass RL = some m.cls := findClass_of_methodNamed B.named
  have htab := vx_table (x := yL_begin) B (hts0 _ List.mem_cons_self)
  have hA : ∀ q : Nat, s.heap.size ≤ q → va_A w s.heap.size q := fun q h => Or.inr h
  have hS : va_S (va_A w s.heap.size) s.heap s.heap [] := va_S.rf
  have hK0 : va_K D vwCl tys s := hK.pre
  have hTt : (tys ++ [(cO, .long), (cD, .double)])[7]? = some (cO, .long) := wr_ty hTY
  have hl := lv_entry ([.ref (sh.2 qx), .int a1, .ref (sh.2 qo)]) (n := 4) (Nat.le_of_ble_eq_true rfl)
  rw [lg_entry_eq]
  generalize (lg_sl ([.ref (sh.2 qx), .int a1, .ref (sh.2 qo)]) ++ List.replicate (4 - (lg_sl ([.ref (sh.2 qx), .int a1, .ref (sh.2 qo)])).length) Slot.unset).toArray = ls at hl ⊢
  have hl : lv_has ls 4 [(0, .ref (sh.2 qx)), (1, .int a1), (2, .ref (sh.2 qo))] := hl
  refine lv_aload_n hx hb dw_begin_0 rfl (lv_at hl 2 rfl) ?_
  refine lv_iconst (v := 0) hx hb dw_begin_1 (by decide) ?_
  refine lv_aload_n hx hb dw_begin_2 rfl (lv_at hl 0 rfl) ?_
  refine lv_iload_n hx hb dw_begin_3 rfl (lv_at hl 1 rfl) ?_
  refine en_hcV (q0 := qx) (b := sh.2 qx) (fs := fx) (co := 12) (ρp := [.ref (sh.2 qx), .int a1, .int x5]) (As := [.int a1]) (rest := [.int 0, .ref (sh.2 qo)]) (lv' := 0) (ct_X6_begin_5 hl9 hPP Ω) gw_X6_begin rfl rfl hwx rfl rfl (Nat.le_of_ble_eq_true rfl) ⟨Nat.le_of_ble_eq_true rfl, Nat.le_of_ble_eq_true rfl⟩ ⟨Nat.le_of_ble_eq_true rfl, Nat.le_of_ble_eq_true rfl⟩ (Nat.le_of_ble_eq_true rfl) hx hb (hml.trans hl.1.symm) hts hown hTY hK0 hT hP hD0 hS hA hW hΩ (wr_pf (env := k_X6_begin_5.2.1.1) (fa := k_X6_begin_5.2.1.2) ⟨⟨qx, hqx, rfl⟩, ⟨a1, rfl, hb1.1, hb1.2⟩, ⟨x5, rfl, hl5.1, hl5.2⟩, trivial⟩ (en_ac ⟨qx, _, 12, fx, _, rfl, hwx, hf5, rfl⟩ en_an)) dw_begin_4 (fun x9 hx9 ce q9 u H1 locs1 hpx hP1 hD1 hS1 hcell hvm hcl => ?_) (fun u res H1 locs1 hrv hpo hP1 hD1 hS1 => ?_)
  · have hku := wr_keep hpx hqo (by decide +kernel) hwo
    have hpx9 := wr_same hpx ((56, 0) :: k_X6_begin_5.2.2.2.1) (fun z hz => List.mem_cons_of_mem _ hz)
    have hx8 := List.mem_singleton.mp hx9
    subst hx8
    refine vx_catch (E := "java/lang/UnsupportedOperationException") (name := "java/lang/UnsupportedOperationException") hown [⟨0, 9, 12, 13⟩] ⟨0, 9, 15, 17⟩ [] (htab.trans rfl) (wr_cons (Or.inr ⟨by decide, "java/lang/IllegalArgumentException", (hts (.classLink RL 13 "java/lang/IllegalArgumentException") cwl498), hT.2.2.2.2.1 _ (by decide +kernel) _ (by decide +kernel) (by decide)⟩) wr_nil) (by decide) (by decide) (hts (.classLink RL 17 "java/lang/UnsupportedOperationException") cwl500) (va_Nw.use rfl (hT.1 (Cond.castable "java/lang/UnsupportedOperationException" "java/lang/UnsupportedOperationException") (tf_cast (78, "java/lang/UnsupportedOperationException") (by decide +kernel)))) hcell hvm hcl ?_
    refine lv_astore_n (lv' := (3, .ref q9) :: [(0, .ref (sh.2 qx)), (1, .int a1), (2, .ref (sh.2 qo))]) hx hb dw_begin_15 rfl hl (by decide) rfl (fun ls hl => ?_)
    refine lv_iconst (v := 2) hx hb dw_begin_16 (by decide) ?_
    exact W.widen (Nat.le_of_ble_eq_true rfl) (Nat.le_of_ble_eq_true rfl) (W.iret (v := 2) hx hb hr (fun t ht hW9 => ⟨⟨2, u, rfl, ⟨hpx9, g0, hku⟩, by rw [ht]; exact hP1, hD1⟩, hS1.F ht⟩) hS1.2.2 dw_begin_17)
  · obtain ⟨hpx, hpo9⟩ := hpo
    have hku := wr_keep hpx hqo (by decide +kernel) hwo
    obtain ⟨r9, rfl⟩ := hrv
    obtain ⟨o9, ho9, -⟩ := hpo9
    exact absurd ho9 List.not_mem_nil
set_option maxHeartbeats 4000000 in
set_option maxRecDepth 100000 in
theorem wr_begin_os {l : Launch} (hl9 : l.stackTraces = false) {PP : Int32 → Int32 → Prop} (hPP : en_P0 PP) (Ω : Nat → en_H → va_W → Prop) (D : va_G) (tys : List (ClassId × FieldType)) (cO cD : ClassId) (sh : en_H) (w : va_W) (sz qx qo : Nat) (fx : List Value) (g0 : (Nat → Int64)) (a1 : Int32) (hb1 : 115 ≤ a1.toInt ∧ a1.toInt ≤ 115) (hTY : tys.map Prod.snd = en_TY0) (hW : en_W PP en_KT k_X6_begin_6.2.2.2.2.1 sh tys (fun _ => False) w) (hD0 : va_D (va_A w sz) w) (hΩ : en_Om en_om0 sh Ω) (hqx : sh.1[qx]? = some 0) (hwx : w[qx]? = some (sh.2 qx, .inr (12, fx))) (hqo : sh.1[qo]? = some 56) (hwo : w[qo]? = some (sh.2 qo, .inl (cO, 1, .inr (.inl g0)))) {x11 : Int32} (hf11 : fx[11]? = some (.int x11)) (hl11 : 1 ≤ x11.toInt ∧ x11.toInt ≤ 1) :
    Met l yL_begin (Cond.codeWith yL_begin cL_begin 4 (some .int) [(0, 9, 12, 13), (0, 9, 15, 17)] :: en_cw) (en_rm 1 (1, 6)) (va_Pc [.ref (sh.2 qx), .int a1, .ref (sh.2 qo)] (en_B D vwCl (tys ++ [(cO, .long), (cD, .double)]) w sz)) (va_Qi (fun _ u => (en_Px tys PP en_KT k_X6_begin_6.2.2.2.2.1 ((56, 0) :: k_X6_begin_6.2.2.2.1) sh w u ∧ ∃ g, u.2[qo]? = some (sh.2 qo, .inl (cO, 1, .inr (.inl g))))) (en_Bw D vwCl (va_A w sz)) (va_A w sz)) 1 6 (va_A w sz) := by
  refine va_MetW (cc := cL_begin) (maxL := 4) (ret := some .int) (hh := [(0, 9, 12, 13), (0, 9, 15, 17)]) (by decide +kernel) rfl ?_
  intro p e s m args below meth c s₁ B hml hv
  obtain ⟨rfl, hsz, hP, hK, hT⟩ := hv
  subst hsz
  have hx := B.exec
  have hb := B.bytes
  have hr := B.returns
  have hts0 := atoms_spec (ws := Cond.codeWith yL_begin cL_begin 4 (some .int) [(0, 9, 12, 13), (0, 9, 15, 17)] :: en_cw) B.pre
  have hts : ∀ z ∈ en_cw, z.before _ s = true := fun z hz => hts0 z (List.mem_cons_of_mem _ hz)
  have hown : s.vm.findClass RL = some m.cls := findClass_of_methodNamed B.named
  have htab := vx_table (x := yL_begin) B (hts0 _ List.mem_cons_self)
  have hA : ∀ q : Nat, s.heap.size ≤ q → va_A w s.heap.size q := fun q h => Or.inr h
  have hS : va_S (va_A w s.heap.size) s.heap s.heap [] := va_S.rf
  have hK0 : va_K D vwCl tys s := hK.pre
  have hTt : (tys ++ [(cO, .long), (cD, .double)])[7]? = some (cO, .long) := wr_ty hTY
  have hl := lv_entry ([.ref (sh.2 qx), .int a1, .ref (sh.2 qo)]) (n := 4) (Nat.le_of_ble_eq_true rfl)
  rw [lg_entry_eq]
  generalize (lg_sl ([.ref (sh.2 qx), .int a1, .ref (sh.2 qo)]) ++ List.replicate (4 - (lg_sl ([.ref (sh.2 qx), .int a1, .ref (sh.2 qo)])).length) Slot.unset).toArray = ls at hl ⊢
  have hl : lv_has ls 4 [(0, .ref (sh.2 qx)), (1, .int a1), (2, .ref (sh.2 qo))] := hl
  refine lv_aload_n hx hb dw_begin_0 rfl (lv_at hl 2 rfl) ?_
  refine lv_iconst (v := 0) hx hb dw_begin_1 (by decide) ?_
  refine lv_aload_n hx hb dw_begin_2 rfl (lv_at hl 0 rfl) ?_
  refine lv_iload_n hx hb dw_begin_3 rfl (lv_at hl 1 rfl) ?_
  refine en_hcV (q0 := qx) (b := sh.2 qx) (fs := fx) (co := 12) (ρp := [.ref (sh.2 qx), .int a1, .int x11]) (As := [.int a1]) (rest := [.int 0, .ref (sh.2 qo)]) (lv' := 0) (ct_X6_begin_6 hl9 hPP Ω) gw_X6_begin rfl rfl hwx rfl rfl (Nat.le_of_ble_eq_true rfl) ⟨Nat.le_of_ble_eq_true rfl, Nat.le_of_ble_eq_true rfl⟩ ⟨Nat.le_of_ble_eq_true rfl, Nat.le_of_ble_eq_true rfl⟩ (Nat.le_of_ble_eq_true rfl) hx hb (hml.trans hl.1.symm) hts hown hTY hK0 hT hP hD0 hS hA hW hΩ (wr_pf (env := k_X6_begin_6.2.1.1) (fa := k_X6_begin_6.2.1.2) ⟨⟨qx, hqx, rfl⟩, ⟨a1, rfl, hb1.1, hb1.2⟩, ⟨x11, rfl, hl11.1, hl11.2⟩, trivial⟩ (en_ac ⟨qx, _, 12, fx, _, rfl, hwx, hf11, rfl⟩ en_an)) dw_begin_4 (fun x9 hx9 ce q9 u H1 locs1 hpx hP1 hD1 hS1 hcell hvm hcl => ?_) (fun u res H1 locs1 hrv hpo hP1 hD1 hS1 => ?_)
  · have hku := wr_keep hpx hqo (by decide +kernel) hwo
    have hpx9 := wr_same hpx ((56, 0) :: k_X6_begin_6.2.2.2.1) (fun z hz => List.mem_cons_of_mem _ hz)
    have hx8 := List.mem_singleton.mp hx9
    subst hx8
    refine vx_catch (E := "java/lang/UnsupportedOperationException") (name := "java/lang/UnsupportedOperationException") hown [⟨0, 9, 12, 13⟩] ⟨0, 9, 15, 17⟩ [] (htab.trans rfl) (wr_cons (Or.inr ⟨by decide, "java/lang/IllegalArgumentException", (hts (.classLink RL 13 "java/lang/IllegalArgumentException") cwl498), hT.2.2.2.2.1 _ (by decide +kernel) _ (by decide +kernel) (by decide)⟩) wr_nil) (by decide) (by decide) (hts (.classLink RL 17 "java/lang/UnsupportedOperationException") cwl500) (va_Nw.use rfl (hT.1 (Cond.castable "java/lang/UnsupportedOperationException" "java/lang/UnsupportedOperationException") (tf_cast (78, "java/lang/UnsupportedOperationException") (by decide +kernel)))) hcell hvm hcl ?_
    refine lv_astore_n (lv' := (3, .ref q9) :: [(0, .ref (sh.2 qx)), (1, .int a1), (2, .ref (sh.2 qo))]) hx hb dw_begin_15 rfl hl (by decide) rfl (fun ls hl => ?_)
    refine lv_iconst (v := 2) hx hb dw_begin_16 (by decide) ?_
    exact W.widen (Nat.le_of_ble_eq_true rfl) (Nat.le_of_ble_eq_true rfl) (W.iret (v := 2) hx hb hr (fun t ht hW9 => ⟨⟨2, u, rfl, ⟨hpx9, g0, hku⟩, by rw [ht]; exact hP1, hD1⟩, hS1.F ht⟩) hS1.2.2 dw_begin_17)
  · obtain ⟨hpx, hpo9⟩ := hpo
    have hku := wr_keep hpx hqo (by decide +kernel) hwo
    obtain ⟨r9, rfl⟩ := hrv
    obtain ⟨o9, ho9, -⟩ := hpo9
    exact absurd ho9 List.not_mem_nil
set_option maxHeartbeats 4000000 in
set_option maxRecDepth 100000 in
theorem wr_begin_hm {l : Launch} (hl9 : l.stackTraces = false) {PP : Int32 → Int32 → Prop} (hPP : en_P0 PP) (Ω : Nat → en_H → va_W → Prop) (D : va_G) (tys : List (ClassId × FieldType)) (cO cD : ClassId) (sh : en_H) (w : va_W) (sz qx qo : Nat) (fx : List Value) (g0 : (Nat → Int64)) (a1 : Int32) (hb1 : 109 ≤ a1.toInt ∧ a1.toInt ≤ 109) (hTY : tys.map Prod.snd = en_TY0) (hW : en_W PP en_KT k_X6_begin_7.2.2.2.2.1 sh tys (fun _ => False) w) (hD0 : va_D (va_A w sz) w) (hΩ : en_Om en_om0 sh Ω) (hqx : sh.1[qx]? = some 0) (hwx : w[qx]? = some (sh.2 qx, .inr (12, fx))) (hqo : sh.1[qo]? = some 56) (hwo : w[qo]? = some (sh.2 qo, .inl (cO, 1, .inr (.inl g0)))) {x4 : Int32} (hf4 : fx[4]? = some (.int x4)) (hl4 : 0 ≤ x4.toInt ∧ x4.toInt ≤ 0) :
    Met l yL_begin (Cond.codeWith yL_begin cL_begin 4 (some .int) [(0, 9, 12, 13), (0, 9, 15, 17)] :: en_cw) (en_rm 1 (1, 6)) (va_Pc [.ref (sh.2 qx), .int a1, .ref (sh.2 qo)] (en_B D vwCl (tys ++ [(cO, .long), (cD, .double)]) w sz)) (va_Qi (fun _ u => (en_Px tys PP en_KT k_X6_begin_7.2.2.2.2.1 ((56, 0) :: k_X6_begin_7.2.2.2.1) sh w u ∧ ∃ g, u.2[qo]? = some (sh.2 qo, .inl (cO, 1, .inr (.inl g))))) (en_Bw D vwCl (va_A w sz)) (va_A w sz)) 1 6 (va_A w sz) := by
  refine va_MetW (cc := cL_begin) (maxL := 4) (ret := some .int) (hh := [(0, 9, 12, 13), (0, 9, 15, 17)]) (by decide +kernel) rfl ?_
  intro p e s m args below meth c s₁ B hml hv
  obtain ⟨rfl, hsz, hP, hK, hT⟩ := hv
  subst hsz
  have hx := B.exec
  have hb := B.bytes
  have hr := B.returns
  have hts0 := atoms_spec (ws := Cond.codeWith yL_begin cL_begin 4 (some .int) [(0, 9, 12, 13), (0, 9, 15, 17)] :: en_cw) B.pre
  have hts : ∀ z ∈ en_cw, z.before _ s = true := fun z hz => hts0 z (List.mem_cons_of_mem _ hz)
  have hown : s.vm.findClass RL = some m.cls := findClass_of_methodNamed B.named
  have htab := vx_table (x := yL_begin) B (hts0 _ List.mem_cons_self)
  have hA : ∀ q : Nat, s.heap.size ≤ q → va_A w s.heap.size q := fun q h => Or.inr h
  have hS : va_S (va_A w s.heap.size) s.heap s.heap [] := va_S.rf
  have hK0 : va_K D vwCl tys s := hK.pre
  have hTt : (tys ++ [(cO, .long), (cD, .double)])[7]? = some (cO, .long) := wr_ty hTY
  have hl := lv_entry ([.ref (sh.2 qx), .int a1, .ref (sh.2 qo)]) (n := 4) (Nat.le_of_ble_eq_true rfl)
  rw [lg_entry_eq]
  generalize (lg_sl ([.ref (sh.2 qx), .int a1, .ref (sh.2 qo)]) ++ List.replicate (4 - (lg_sl ([.ref (sh.2 qx), .int a1, .ref (sh.2 qo)])).length) Slot.unset).toArray = ls at hl ⊢
  have hl : lv_has ls 4 [(0, .ref (sh.2 qx)), (1, .int a1), (2, .ref (sh.2 qo))] := hl
  refine lv_aload_n hx hb dw_begin_0 rfl (lv_at hl 2 rfl) ?_
  refine lv_iconst (v := 0) hx hb dw_begin_1 (by decide) ?_
  refine lv_aload_n hx hb dw_begin_2 rfl (lv_at hl 0 rfl) ?_
  refine lv_iload_n hx hb dw_begin_3 rfl (lv_at hl 1 rfl) ?_
  refine en_hcV (q0 := qx) (b := sh.2 qx) (fs := fx) (co := 12) (ρp := [.ref (sh.2 qx), .int a1, .int x4]) (As := [.int a1]) (rest := [.int 0, .ref (sh.2 qo)]) (lv' := 0) (ct_X6_begin_7 hl9 hPP Ω) gw_X6_begin rfl rfl hwx rfl rfl (Nat.le_of_ble_eq_true rfl) ⟨Nat.le_of_ble_eq_true rfl, Nat.le_of_ble_eq_true rfl⟩ ⟨Nat.le_of_ble_eq_true rfl, Nat.le_of_ble_eq_true rfl⟩ (Nat.le_of_ble_eq_true rfl) hx hb (hml.trans hl.1.symm) hts hown hTY hK0 hT hP hD0 hS hA hW hΩ (wr_pf (env := k_X6_begin_7.2.1.1) (fa := k_X6_begin_7.2.1.2) ⟨⟨qx, hqx, rfl⟩, ⟨a1, rfl, hb1.1, hb1.2⟩, ⟨x4, rfl, hl4.1, hl4.2⟩, trivial⟩ (en_ac ⟨qx, _, 12, fx, _, rfl, hwx, hf4, rfl⟩ en_an)) dw_begin_4 (fun x9 hx9 ce q9 u H1 locs1 hpx hP1 hD1 hS1 hcell hvm hcl => ?_) (fun u res H1 locs1 hrv hpo hP1 hD1 hS1 => ?_)
  · have hku := wr_keep hpx hqo (by decide +kernel) hwo
    have hpx9 := wr_same hpx ((56, 0) :: k_X6_begin_7.2.2.2.1) (fun z hz => List.mem_cons_of_mem _ hz)
    have hx8 := List.mem_singleton.mp hx9
    subst hx8
    refine vx_catch (E := "java/lang/UnsupportedOperationException") (name := "java/lang/UnsupportedOperationException") hown [⟨0, 9, 12, 13⟩] ⟨0, 9, 15, 17⟩ [] (htab.trans rfl) (wr_cons (Or.inr ⟨by decide, "java/lang/IllegalArgumentException", (hts (.classLink RL 13 "java/lang/IllegalArgumentException") cwl498), hT.2.2.2.2.1 _ (by decide +kernel) _ (by decide +kernel) (by decide)⟩) wr_nil) (by decide) (by decide) (hts (.classLink RL 17 "java/lang/UnsupportedOperationException") cwl500) (va_Nw.use rfl (hT.1 (Cond.castable "java/lang/UnsupportedOperationException" "java/lang/UnsupportedOperationException") (tf_cast (78, "java/lang/UnsupportedOperationException") (by decide +kernel)))) hcell hvm hcl ?_
    refine lv_astore_n (lv' := (3, .ref q9) :: [(0, .ref (sh.2 qx)), (1, .int a1), (2, .ref (sh.2 qo))]) hx hb dw_begin_15 rfl hl (by decide) rfl (fun ls hl => ?_)
    refine lv_iconst (v := 2) hx hb dw_begin_16 (by decide) ?_
    exact W.widen (Nat.le_of_ble_eq_true rfl) (Nat.le_of_ble_eq_true rfl) (W.iret (v := 2) hx hb hr (fun t ht hW9 => ⟨⟨2, u, rfl, ⟨hpx9, g0, hku⟩, by rw [ht]; exact hP1, hD1⟩, hS1.F ht⟩) hS1.2.2 dw_begin_17)
  · obtain ⟨hpx, hpo9⟩ := hpo
    have hku := wr_keep hpx hqo (by decide +kernel) hwo
    obtain ⟨r9, rfl⟩ := hrv
    obtain ⟨o9, ho9, -⟩ := hpo9
    exact absurd ho9 List.not_mem_nil
