set_option maxHeartbeats 4000000 in
theorem li_Jxd2413_init_da8c8 (l : Launch) (D : va_G) (tys : List (ClassId × FieldType)) (w : va_W) (sz e0 ca : Nat) (ad : li_ad) (hD0 : va_D (va_A w sz) w) (y : Nat) : li_C l yJxd2413_init_da8c8 cJxd2413_init_da8c8 1 none 0 0 0 2 [.ref y] D tys w sz e0 ca ad (fun res w1 => w1 = w) := by
  refine Met.ofW (cc := cJxd2413_init_da8c8) (maxL := 1) (ret := none) (by decide +kernel) rfl ?_
  intro p e s m args below meth c s₁ B9 hml hv
  obtain ⟨rfl, ⟨hsz, hP, hK, hT⟩, hL⟩ := hv
  subst hsz
  have hx := B9.exec
  have hb := B9.bytes
  have hr := B9.returns
  have hlocks := B9.notSynchronized
  have hts0 := atoms_spec (ws := Cond.code yJxd2413_init_da8c8 cJxd2413_init_da8c8 1 none :: en_cw) B9.pre
  have hts : ∀ z ∈ en_cw, z.before _ s = true := fun z hz => hts0 z (List.mem_cons_of_mem _ hz)
  have hown : s.vm.findClass RJxd2413 = some m.cls := findClass_of_methodNamed B9.named
  have hA : ∀ q : Nat, s.heap.size ≤ q → va_A w s.heap.size q := fun q h => Or.inr h
  have hS : va_S (va_A w s.heap.size) s.heap s.heap [] := va_S.rf
  have hD : va_D (va_A w s.heap.size) w := ⟨hD0.1, fun j z hz => Or.inl ⟨j, z.2, hz⟩⟩
  have hR9 : li_R w w [] := li_R.rf
  have hl := lv_entry ([.ref y]) (n := 1) (Nat.le_of_ble_eq_true rfl)
  rw [lg_entry_eq]
  generalize (lg_sl ([.ref y]) ++ List.replicate (1 - (lg_sl ([.ref y])).length) Slot.unset).toArray = ls at hl ⊢
  have hl : lv_has ls 1 [(0, .ref y)] := hl
  have hin : meth.name = "<init>" := (name_of_methodNamed B9.named B9.method).1
  refine lv_aload_n hx hb dj_Jxd2413_init_da8c8_0 rfl (lv_at hl 0 rfl) ?_
  refine W.objInit hx hb hown (hts _ cwj1985) (hts _ cwj117) (hts _ cwj118) rfl (by rw [hml]; exact hl.1) rfl dj_Jxd2413_init_da8c8_1 (Nat.le_of_ble_eq_true rfl) (Nat.le_of_ble_eq_true rfl) ?_
  refine W.eq (g2 := F0 m 4 ls []) rfl ?_
  exact W.vret hx hb hr (fun t ht hW9 => ⟨⟨w, rfl, rfl, ⟨by rw [ht]; exact hP, hD⟩⟩, hS.F ht⟩) hS.2.2 dj_Jxd2413_init_da8c8_4
set_option maxHeartbeats 4000000 in
theorem li_J6_init_d00df (l : Launch) (D : va_G) (tys : List (ClassId × FieldType)) (w : va_W) (sz e0 ca : Nat) (ad : li_ad) (hD0 : va_D (va_A w sz) w) (qb y : Nat) (x v : Int32) (hq : w[qb]? = some (y, .inr (2, [.int x]))) : li_C l yJ6_init_d00df cJ6_init_d00df 2 none 1 0 0 2 [.ref y, .int v] D tys w sz e0 ca ad (fun res w1 => w1[qb]? = some (y, .inr (2, [.int v])) ∧ w1.length = w.length ∧ li_R w w1 [qb]) := by
  refine Met.ofW (cc := cJ6_init_d00df) (maxL := 2) (ret := none) (by decide +kernel) rfl ?_
  intro p e s m args below meth c s₁ B9 hml hv
  obtain ⟨rfl, ⟨hsz, hP, hK, hT⟩, hL⟩ := hv
  subst hsz
  have hx := B9.exec
  have hb := B9.bytes
  have hr := B9.returns
  have hlocks := B9.notSynchronized
  have hts0 := atoms_spec (ws := Cond.code yJ6_init_d00df cJ6_init_d00df 2 none :: en_cw) B9.pre
  have hts : ∀ z ∈ en_cw, z.before _ s = true := fun z hz => hts0 z (List.mem_cons_of_mem _ hz)
  have hown : s.vm.findClass RJ6 = some m.cls := findClass_of_methodNamed B9.named
  have hA : ∀ q : Nat, s.heap.size ≤ q → va_A w s.heap.size q := fun q h => Or.inr h
  have hS : va_S (va_A w s.heap.size) s.heap s.heap [] := va_S.rf
  have hD : va_D (va_A w s.heap.size) w := ⟨hD0.1, fun j z hz => Or.inl ⟨j, z.2, hz⟩⟩
  have hR9 : li_R w w [qb] := li_R.rf
  have hl := lv_entry ([.ref y, .int v]) (n := 2) (Nat.le_of_ble_eq_true rfl)
  rw [lg_entry_eq]
  generalize (lg_sl ([.ref y, .int v]) ++ List.replicate (2 - (lg_sl ([.ref y, .int v])).length) Slot.unset).toArray = ls at hl ⊢
  have hl : lv_has ls 2 [(0, .ref y), (1, .int v)] := hl
  have hin : meth.name = "<init>" := (name_of_methodNamed B9.named B9.method).1
  refine lv_aload_n hx hb dj_J6_init_d00df_0 rfl (lv_at hl 0 rfl) ?_
  refine li_cI (As := []) (rest := []) (li_Jxd2413_init_da8c8 l D tys w _ e0 ca ad (⟨hD.1, fun j z hz => Or.inl ⟨j, z.2, hz⟩⟩ : va_D (va_A w s.heap.size) w) y) gj_J6_202 rfl ⟨Nat.le_of_ble_eq_true rfl, Nat.le_of_ble_eq_true rfl⟩ ⟨Nat.le_of_ble_eq_true rfl, Nat.le_of_ble_eq_true rfl⟩ (Nat.le_of_ble_eq_true rfl) hx hb (hml.trans hl.1.symm) hts hown hK hT hL hP hD hS hA dj_J6_init_d00df_1 (fun res w9 H locs hrv hqq hP hD hS => ?_)
  have hq9 : w = w9 := Eq.symm hqq
  subst hq9
  obtain rfl := (show res = none from hrv)
  refine lv_aload_n hx hb dj_J6_init_d00df_4 rfl (lv_at hl 0 rfl) ?_
  refine lv_iload_n hx hb dj_J6_init_d00df_5 rfl (lv_at hl 1 rfl) ?_
  refine va_putF (D := D) (ci := 2) (v := .int v) (ty := .int) (C := RJ6) (T := TJ6) (N := 1) hx hb hts uwj_J6 tyJ6 tyJ6_ok nmJ6 hown hK hP hD hS qb hq rfl 0 (by decide) (hts _ cwj1986) (fun _ h9 => h9) rfl hin rfl (by decide +kernel) rfl rfl (Nat.le_of_ble_eq_true rfl) dj_J6_init_d00df_6 (fun H locs hP hD hS => ?_)
  obtain ⟨w1, ew1, g1, gl1, gn1⟩ := li_set hq (.inr (2, [.int v]))
  have hP : va_P D vwCl w1 H := by rw [ew1]; exact hP
  have hD : va_D (va_A w s.heap.size) w1 := by rw [ew1]; exact hD
  have hR9 : li_R w w1 [qb] := hR9.tr (li_R.st hq (by simp) g1 gl1 gn1 ⟨rfl, rfl⟩)
  exact W.vret hx hb hr (fun t ht hW9 => ⟨⟨w1, rfl, ⟨g1, by omega, hR9⟩, ⟨by rw [ht]; exact hP, hD⟩⟩, hS.F ht⟩) hS.2.2 dj_J6_init_d00df_9
set_option maxHeartbeats 4000000 in
theorem li_J6_valueOf_2dffe (l : Launch) (D : va_G) (tys : List (ClassId × FieldType)) (w : va_W) (sz e0 ca : Nat) (ad : li_ad) (hD0 : va_D (va_A w sz) w) (v : Int32) (hkw : ad.2 w.length) : li_C l yJ6_valueOf_2dffe cJ6_valueOf_2dffe 1 (some (.object "java/lang/Integer")) 2 1 1 1 [.int v] D tys w sz e0 ca ad (fun res w1 => ∃ y : Nat, res = some (.ref y) ∧ li_x w1 ad y ∧ w1.length ≤ w.length + 1 ∧ li_R w w1 []) := by
  refine Met.ofW (cc := cJ6_valueOf_2dffe) (maxL := 1) (ret := (some (.object "java/lang/Integer"))) (by decide +kernel) rfl ?_
  intro p e s m args below meth c s₁ B9 hml hv
  obtain ⟨rfl, ⟨hsz, hP, hK, hT⟩, hL⟩ := hv
  subst hsz
  have hx := B9.exec
  have hb := B9.bytes
  have hr := B9.returns
  have hlocks := B9.notSynchronized
  have hts0 := atoms_spec (ws := Cond.code yJ6_valueOf_2dffe cJ6_valueOf_2dffe 1 (some (.object "java/lang/Integer")) :: en_cw) B9.pre
  have hts : ∀ z ∈ en_cw, z.before _ s = true := fun z hz => hts0 z (List.mem_cons_of_mem _ hz)
  have hown : s.vm.findClass RJ6 = some m.cls := findClass_of_methodNamed B9.named
  have hA : ∀ q : Nat, s.heap.size ≤ q → va_A w s.heap.size q := fun q h => Or.inr h
  have hS : va_S (va_A w s.heap.size) s.heap s.heap [] := va_S.rf
  have hD : va_D (va_A w s.heap.size) w := ⟨hD0.1, fun j z hz => Or.inl ⟨j, z.2, hz⟩⟩
  have hR9 : li_R w w [] := li_R.rf
  have hl := lv_entry ([.int v]) (n := 1) (Nat.le_of_ble_eq_true rfl)
  rw [lg_entry_eq]
  generalize (lg_sl ([.int v]) ++ List.replicate (1 - (lg_sl ([.int v])).length) Slot.unset).toArray = ls at hl ⊢
  have hl : lv_has ls 1 [(0, .int v)] := hl
  refine lv_iload_n hx hb dj_J6_valueOf_2dffe_0 rfl (lv_at hl 0 rfl) ?_
  refine lv_bipush (v := (-128)) hx hb dj_J6_valueOf_2dffe_1 (by decide) ?_
  by_cases h1 : v < -128
  · refine lv_icmp_lt (tgt := 23) hx hb dj_J6_valueOf_2dffe_3 (by decide) (fun _ => ?_) (fun c9 => absurd h1 c9)
    refine va_new (ci := 2) (fs := [.int 0]) (C := RJ6) (T := TJ6) (N := 1) hx hb hts uwj_J6 tyJ6 tyJ6_ok hown (hts _ cwj1977) (hts _ cwj1978) (hts _ cwj101) hK hP hD hS hA rfl (fun j hj => match j, hj with | 0, _ => rfl | n + 1, h => absurd h (by omega)) (Nat.le_of_ble_eq_true rfl) (Nat.le_of_ble_eq_true rfl) dj_J6_valueOf_2dffe_23 (fun y H hP hD hS => ?_)
    obtain ⟨w2, ew2, g2, gl2, gn2⟩ := li_app w (y, .inr (2, [.int 0]))
    rw [← ew2] at hP hD
    refine lv_dup hx hb dj_J6_valueOf_2dffe_26 rfl ?_
    refine lv_iload_n hx hb dj_J6_valueOf_2dffe_27 rfl (lv_at hl 0 rfl) ?_
    refine li_cI (As := [.int v]) (rest := [.ref y]) (li_J6_init_d00df l D tys w2 _ e0 ca ad (⟨hD.1, fun j z hz => Or.inl ⟨j, z.2, hz⟩⟩ : va_D (va_A w2 H.size) w2) w.length y 0 v g2) gj_J6_199 rfl ⟨Nat.le_of_ble_eq_true rfl, Nat.le_of_ble_eq_true rfl⟩ ⟨Nat.le_of_ble_eq_true rfl, Nat.le_of_ble_eq_true rfl⟩ (Nat.le_of_ble_eq_true rfl) hx hb (hml.trans hl.1.symm) hts hown hK hT hL hP hD hS hA dj_J6_valueOf_2dffe_28 (fun res w9 H locs hrv hqq hP hD hS => ?_)
    obtain ⟨g8, hlen, hR8⟩ := hqq
    obtain rfl := (show res = none from hrv)
    exact W.aret (v := .ref y) hx hb hr (Or.inl ⟨_, rfl⟩) (Or.inr ⟨_, rfl⟩) (fun t ht hW9 => ⟨⟨w9, _, rfl, trivial, ⟨_, rfl, Or.inl ⟨_, _, hkw, g8⟩, by omega, li_R.sm (li_R.ap gl2 gn2) hR8⟩, by rw [ht]; exact hP, hD⟩, hS.F ht⟩) hS.2.2 dj_J6_valueOf_2dffe_31
  · refine lv_icmp_lt (tgt := 23) hx hb dj_J6_valueOf_2dffe_3 (by decide) (fun c9 => absurd c9 h1) (fun _ => ?_)
    refine lv_iload_n hx hb dj_J6_valueOf_2dffe_6 rfl (lv_at hl 0 rfl) ?_
    refine va_gets hx hb hL.2.2.1 hS hown (hts _ cwj1973) (fun _ h9 => h9) dj_J6_valueOf_2dffe_7 ?_
    by_cases h2 : 127 < v
    · refine lv_icmp_gt (tgt := 23) hx hb dj_J6_valueOf_2dffe_10 (by decide) (fun _ => ?_) (fun c9 => absurd h2 c9)
      refine va_new (ci := 2) (fs := [.int 0]) (C := RJ6) (T := TJ6) (N := 1) hx hb hts uwj_J6 tyJ6 tyJ6_ok hown (hts _ cwj1977) (hts _ cwj1978) (hts _ cwj101) hK hP hD hS hA rfl (fun j hj => match j, hj with | 0, _ => rfl | n + 1, h => absurd h (by omega)) (Nat.le_of_ble_eq_true rfl) (Nat.le_of_ble_eq_true rfl) dj_J6_valueOf_2dffe_23 (fun y H hP hD hS => ?_)
      obtain ⟨w2, ew2, g2, gl2, gn2⟩ := li_app w (y, .inr (2, [.int 0]))
      rw [← ew2] at hP hD
      refine lv_dup hx hb dj_J6_valueOf_2dffe_26 rfl ?_
      refine lv_iload_n hx hb dj_J6_valueOf_2dffe_27 rfl (lv_at hl 0 rfl) ?_
      refine li_cI (As := [.int v]) (rest := [.ref y]) (li_J6_init_d00df l D tys w2 _ e0 ca ad (⟨hD.1, fun j z hz => Or.inl ⟨j, z.2, hz⟩⟩ : va_D (va_A w2 H.size) w2) w.length y 0 v g2) gj_J6_199 rfl ⟨Nat.le_of_ble_eq_true rfl, Nat.le_of_ble_eq_true rfl⟩ ⟨Nat.le_of_ble_eq_true rfl, Nat.le_of_ble_eq_true rfl⟩ (Nat.le_of_ble_eq_true rfl) hx hb (hml.trans hl.1.symm) hts hown hK hT hL hP hD hS hA dj_J6_valueOf_2dffe_28 (fun res w9 H locs hrv hqq hP hD hS => ?_)
      obtain ⟨g8, hlen, hR8⟩ := hqq
      obtain rfl := (show res = none from hrv)
      exact W.aret (v := .ref y) hx hb hr (Or.inl ⟨_, rfl⟩) (Or.inr ⟨_, rfl⟩) (fun t ht hW9 => ⟨⟨w9, _, rfl, trivial, ⟨_, rfl, Or.inl ⟨_, _, hkw, g8⟩, by omega, li_R.sm (li_R.ap gl2 gn2) hR8⟩, by rw [ht]; exact hP, hD⟩, hS.F ht⟩) hS.2.2 dj_J6_valueOf_2dffe_31
    · refine lv_icmp_gt (tgt := 23) hx hb dj_J6_valueOf_2dffe_10 (by decide) (fun c9 => absurd c9 h2) (fun _ => ?_)
      obtain ⟨cb, hZ9, hT9⟩ := hL.2.2.2.1
      refine va_gets hx hb hZ9 hS hown (hts _ cwj1975) (fun _ h9 => h9) dj_J6_valueOf_2dffe_13 ?_
      refine lv_iload_n hx hb dj_J6_valueOf_2dffe_16 rfl (lv_at hl 0 rfl) ?_
      refine lv_sipush (v := 128) hx hb dj_J6_valueOf_2dffe_17 (by decide) ?_
      refine lv_iadd hx hb dj_J6_valueOf_2dffe_20 ?_
      obtain ⟨j9, hj9, ej9⟩ := li_cix h1 h2
      rw [ej9]
      refine vb_tq hx hb hT9 hS (vp_in_nI hj9 (by decide)) (v := .ref (ad.1 j9)) (by rw [nI_clamp (by omega)]) dj_J6_valueOf_2dffe_21 ?_
      refine W.widen (k := 1) (n := 1) (by decide) (by decide) ?_
      exact W.aret (v := .ref (ad.1 j9)) hx hb hr (Or.inl ⟨_, rfl⟩) (Or.inr ⟨_, rfl⟩) (fun t ht hW9 => ⟨⟨w, _, rfl, trivial, ⟨_, rfl, Or.inr ⟨j9, hj9, rfl⟩, by omega, li_R.rf⟩, by rw [ht]; exact hP, hD⟩, hS.F ht⟩) hS.2.2 dj_J6_valueOf_2dffe_22
set_option maxHeartbeats 4000000 in
theorem li_intValue_w (l : Launch) (D : va_G) (tys : List (ClassId × FieldType)) (w : va_W) (sz e0 ca : Nat) (ad : li_ad) (hD0 : va_D (va_A w sz) w) (qb y : Nat) (x : Int32) (hq : w[qb]? = some (y, .inr (2, [.int x]))) : li_C l yJ6_intValue_8abf5 cJ6_intValue_8abf5 1 (some .int) 0 0 0 0 [.ref y] D tys w sz e0 ca ad (fun res w1 => w1 = w) := by
  refine Met.ofW (cc := cJ6_intValue_8abf5) (maxL := 1) (ret := (some .int)) (by decide +kernel) rfl ?_
  intro p e s m args below meth c s₁ B9 hml hv
  obtain ⟨rfl, ⟨hsz, hP, hK, hT⟩, hL⟩ := hv
  subst hsz
  have hx := B9.exec
  have hb := B9.bytes
  have hr := B9.returns
  have hlocks := B9.notSynchronized
  have hts0 := atoms_spec (ws := Cond.code yJ6_intValue_8abf5 cJ6_intValue_8abf5 1 (some .int) :: en_cw) B9.pre
  have hts : ∀ z ∈ en_cw, z.before _ s = true := fun z hz => hts0 z (List.mem_cons_of_mem _ hz)
  have hown : s.vm.findClass RJ6 = some m.cls := findClass_of_methodNamed B9.named
  have hA : ∀ q : Nat, s.heap.size ≤ q → va_A w s.heap.size q := fun q h => Or.inr h
  have hS : va_S (va_A w s.heap.size) s.heap s.heap [] := va_S.rf
  have hD : va_D (va_A w s.heap.size) w := ⟨hD0.1, fun j z hz => Or.inl ⟨j, z.2, hz⟩⟩
  have hR9 : li_R w w [] := li_R.rf
  have hl := lv_entry ([.ref y]) (n := 1) (Nat.le_of_ble_eq_true rfl)
  rw [lg_entry_eq]
  generalize (lg_sl ([.ref y]) ++ List.replicate (1 - (lg_sl ([.ref y])).length) Slot.unset).toArray = ls at hl ⊢
  have hl : lv_has ls 1 [(0, .ref y)] := hl
  refine lv_aload_n hx hb dj_J6_intValue_8abf5_0 rfl (lv_at hl 0 rfl) ?_
  refine va_get (D := D) (ci := 2) (v := .int x) (C := RJ6) (T := TJ6) (N := 1) hx hb hts uwj_J6 hown hK hP qb hq rfl 0 (by decide) (hts _ cwj1986) (fun _ h9 => h9) rfl dj_J6_intValue_8abf5_1 ?_
  exact W.iret (v := x) hx hb hr (fun t ht hW9 => ⟨⟨x, w, rfl, rfl, ⟨by rw [ht]; exact hP, hD⟩⟩, hS.F ht⟩) hS.2.2 dj_J6_intValue_8abf5_4
set_option maxHeartbeats 4000000 in
theorem li_intValue_c (l : Launch) (D : va_G) (tys : List (ClassId × FieldType)) (w : va_W) (sz e0 ca : Nat) (ad : li_ad) (hD0 : va_D (va_A w sz) w) (k : Nat) (hk : k < 256) : li_C l yJ6_intValue_8abf5 cJ6_intValue_8abf5 1 (some .int) 0 0 0 0 [.ref (ad.1 k)] D tys w sz e0 ca ad (fun res w1 => w1 = w) := by
  refine Met.ofW (cc := cJ6_intValue_8abf5) (maxL := 1) (ret := (some .int)) (by decide +kernel) rfl ?_
  intro p e s m args below meth c s₁ B9 hml hv
  obtain ⟨rfl, ⟨hsz, hP, hK, hT⟩, hL⟩ := hv
  subst hsz
  have hx := B9.exec
  have hb := B9.bytes
  have hr := B9.returns
  have hlocks := B9.notSynchronized
  have hts0 := atoms_spec (ws := Cond.code yJ6_intValue_8abf5 cJ6_intValue_8abf5 1 (some .int) :: en_cw) B9.pre
  have hts : ∀ z ∈ en_cw, z.before _ s = true := fun z hz => hts0 z (List.mem_cons_of_mem _ hz)
  have hown : s.vm.findClass RJ6 = some m.cls := findClass_of_methodNamed B9.named
  have hA : ∀ q : Nat, s.heap.size ≤ q → va_A w s.heap.size q := fun q h => Or.inr h
  have hS : va_S (va_A w s.heap.size) s.heap s.heap [] := va_S.rf
  have hD : va_D (va_A w s.heap.size) w := ⟨hD0.1, fun j z hz => Or.inl ⟨j, z.2, hz⟩⟩
  have hR9 : li_R w w [] := li_R.rf
  have hl := lv_entry ([.ref (ad.1 k)]) (n := 1) (Nat.le_of_ble_eq_true rfl)
  rw [lg_entry_eq]
  generalize (lg_sl ([.ref (ad.1 k)]) ++ List.replicate (1 - (lg_sl ([.ref (ad.1 k)])).length) Slot.unset).toArray = ls at hl ⊢
  have hl : lv_has ls 1 [(0, .ref (ad.1 k))] := hl
  refine lv_aload_n hx hb dj_J6_intValue_8abf5_0 rfl (lv_at hl 0 rfl) ?_
  refine va_getX hx hb hL.2.2.2.2.1.2 hk hS hown (hts _ cwj1986) (fun _ h9 => h9) dj_J6_intValue_8abf5_1 ?_
  exact W.iret (v := (vb_c k)) hx hb hr (fun t ht hW9 => ⟨⟨(vb_c k), w, rfl, rfl, ⟨by rw [ht]; exact hP, hD⟩⟩, hS.F ht⟩) hS.2.2 dj_J6_intValue_8abf5_4
set_option maxHeartbeats 4000000 in
theorem li_Jxa1e45_init_da8c8 (l : Launch) (D : va_G) (tys : List (ClassId × FieldType)) (w : va_W) (sz e0 ca : Nat) (ad : li_ad) (hD0 : va_D (va_A w sz) w) (la : Nat) : li_C l yJxa1e45_init_da8c8 cJxa1e45_init_da8c8 1 none 0 0 0 2 [.ref la] D tys w sz e0 ca ad (fun res w1 => w1 = w) := by
  refine Met.ofW (cc := cJxa1e45_init_da8c8) (maxL := 1) (ret := none) (by decide +kernel) rfl ?_
  intro p e s m args below meth c s₁ B9 hml hv
  obtain ⟨rfl, ⟨hsz, hP, hK, hT⟩, hL⟩ := hv
  subst hsz
  have hx := B9.exec
  have hb := B9.bytes
  have hr := B9.returns
  have hlocks := B9.notSynchronized
  have hts0 := atoms_spec (ws := Cond.code yJxa1e45_init_da8c8 cJxa1e45_init_da8c8 1 none :: en_cw) B9.pre
  have hts : ∀ z ∈ en_cw, z.before _ s = true := fun z hz => hts0 z (List.mem_cons_of_mem _ hz)
  have hown : s.vm.findClass RJxa1e45 = some m.cls := findClass_of_methodNamed B9.named
  have hA : ∀ q : Nat, s.heap.size ≤ q → va_A w s.heap.size q := fun q h => Or.inr h
  have hS : va_S (va_A w s.heap.size) s.heap s.heap [] := va_S.rf
  have hD : va_D (va_A w s.heap.size) w := ⟨hD0.1, fun j z hz => Or.inl ⟨j, z.2, hz⟩⟩
  have hR9 : li_R w w [] := li_R.rf
  have hl := lv_entry ([.ref la]) (n := 1) (Nat.le_of_ble_eq_true rfl)
  rw [lg_entry_eq]
  generalize (lg_sl ([.ref la]) ++ List.replicate (1 - (lg_sl ([.ref la])).length) Slot.unset).toArray = ls at hl ⊢
  have hl : lv_has ls 1 [(0, .ref la)] := hl
  have hin : meth.name = "<init>" := (name_of_methodNamed B9.named B9.method).1
  refine lv_aload_n hx hb dj_Jxa1e45_init_da8c8_0 rfl (lv_at hl 0 rfl) ?_
  refine W.objInit hx hb hown (hts _ cwj1416) (hts _ cwj117) (hts _ cwj118) rfl (by rw [hml]; exact hl.1) rfl dj_Jxa1e45_init_da8c8_1 (Nat.le_of_ble_eq_true rfl) (Nat.le_of_ble_eq_true rfl) ?_
  refine W.eq (g2 := F0 m 4 ls []) rfl ?_
  exact W.vret hx hb hr (fun t ht hW9 => ⟨⟨w, rfl, rfl, ⟨by rw [ht]; exact hP, hD⟩⟩, hS.F ht⟩) hS.2.2 dj_Jxa1e45_init_da8c8_4
set_option maxHeartbeats 4000000 in
theorem li_Jxc12de_init_da8c8 (l : Launch) (D : va_G) (tys : List (ClassId × FieldType)) (w : va_W) (sz e0 ca : Nat) (ad : li_ad) (hD0 : va_D (va_A w sz) w) (q la : Nat) (hq : w[q]? = some (la, .inr (5, [.int 0, .null, .int 0]))) : li_C l yJxc12de_init_da8c8 cJxc12de_init_da8c8 1 none 1 0 0 2 [.ref la] D tys w sz e0 ca ad (fun res w1 => w1[q]? = some (la, .inr (5, [.int 0, .null, .int 0])) ∧ w1.length = w.length ∧ li_R w w1 [q]) := by
  refine Met.ofW (cc := cJxc12de_init_da8c8) (maxL := 1) (ret := none) (by decide +kernel) rfl ?_
  intro p e s m args below meth c s₁ B9 hml hv
  obtain ⟨rfl, ⟨hsz, hP, hK, hT⟩, hL⟩ := hv
  subst hsz
  have hx := B9.exec
  have hb := B9.bytes
  have hr := B9.returns
  have hlocks := B9.notSynchronized
  have hts0 := atoms_spec (ws := Cond.code yJxc12de_init_da8c8 cJxc12de_init_da8c8 1 none :: en_cw) B9.pre
  have hts : ∀ z ∈ en_cw, z.before _ s = true := fun z hz => hts0 z (List.mem_cons_of_mem _ hz)
  have hown : s.vm.findClass RJxc12de = some m.cls := findClass_of_methodNamed B9.named
  have hA : ∀ q : Nat, s.heap.size ≤ q → va_A w s.heap.size q := fun q h => Or.inr h
  have hS : va_S (va_A w s.heap.size) s.heap s.heap [] := va_S.rf
  have hD : va_D (va_A w s.heap.size) w := ⟨hD0.1, fun j z hz => Or.inl ⟨j, z.2, hz⟩⟩
  have hR9 : li_R w w [q] := li_R.rf
  have hl := lv_entry ([.ref la]) (n := 1) (Nat.le_of_ble_eq_true rfl)
  rw [lg_entry_eq]
  generalize (lg_sl ([.ref la]) ++ List.replicate (1 - (lg_sl ([.ref la])).length) Slot.unset).toArray = ls at hl ⊢
  have hl : lv_has ls 1 [(0, .ref la)] := hl
  have hin : meth.name = "<init>" := (name_of_methodNamed B9.named B9.method).1
  refine lv_aload_n hx hb dj_Jxc12de_init_da8c8_0 rfl (lv_at hl 0 rfl) ?_
  refine li_cI (As := []) (rest := []) (li_Jxa1e45_init_da8c8 l D tys w _ e0 ca ad (⟨hD.1, fun j z hz => Or.inl ⟨j, z.2, hz⟩⟩ : va_D (va_A w s.heap.size) w) la) gj_Jxc12de_1 rfl ⟨Nat.le_of_ble_eq_true rfl, Nat.le_of_ble_eq_true rfl⟩ ⟨Nat.le_of_ble_eq_true rfl, Nat.le_of_ble_eq_true rfl⟩ (Nat.le_of_ble_eq_true rfl) hx hb (hml.trans hl.1.symm) hts hown hK hT hL hP hD hS hA dj_Jxc12de_init_da8c8_1 (fun res w9 H locs hrv hqq hP hD hS => ?_)
  have hq9 : w = w9 := Eq.symm hqq
  subst hq9
  obtain rfl := (show res = none from hrv)
  refine lv_aload_n hx hb dj_Jxc12de_init_da8c8_4 rfl (lv_at hl 0 rfl) ?_
  refine lv_iconst (v := 0) hx hb dj_Jxc12de_init_da8c8_5 (by decide) ?_
  refine va_put (D := D) (ci := 5) (v := .int 0) (ty := .int) (C := RJx4a65c) (T := TJx4a65c) (N := 3) hx hb hts uwj_Jx4a65c tyJx4a65c tyJx4a65c_ok nmJx4a65c hown hK hP hD hS q hq rfl 0 (by decide) (hts _ cwj1423) (fun _ h9 => h9) rfl (by decide +kernel) rfl rfl (Nat.le_of_ble_eq_true rfl) dj_Jxc12de_init_da8c8_6 (fun H locs hP hD hS => ?_)
  obtain ⟨w1, ew1, g1, gl1, gn1⟩ := li_set hq (.inr (5, [.int 0, .null, .int 0]))
  have hP : va_P D vwCl w1 H := by rw [ew1]; exact hP
  have hD : va_D (va_A w s.heap.size) w1 := by rw [ew1]; exact hD
  have hR9 : li_R w w1 [q] := hR9.tr (li_R.st hq (by simp) g1 gl1 gn1 ⟨rfl, rfl⟩)
  exact W.vret hx hb hr (fun t ht hW9 => ⟨⟨w1, rfl, ⟨g1, by omega, hR9⟩, ⟨by rw [ht]; exact hP, hD⟩⟩, hS.F ht⟩) hS.2.2 dj_Jxc12de_init_da8c8_9
set_option maxHeartbeats 4000000 in
theorem li_Jx4a65c_init_da8c8 (l : Launch) (D : va_G) (tys : List (ClassId × FieldType)) (w : va_W) (sz e0 ca : Nat) (ad : li_ad) (hD0 : va_D (va_A w sz) w) (q la : Nat) (hq : w[q]? = some (la, .inr (5, [.int 0, .null, .int 0]))) : li_C l yJx4a65c_init_da8c8 cJx4a65c_init_da8c8 1 none 2 0 0 2 [.ref la] D tys w sz e0 ca ad (fun res w1 => w1[q]? = some (la, .inr (5, [.int 0, .ref e0, .int 0])) ∧ w1.length = w.length ∧ li_R w w1 [q]) := by
  refine Met.ofW (cc := cJx4a65c_init_da8c8) (maxL := 1) (ret := none) (by decide +kernel) rfl ?_
  intro p e s m args below meth c s₁ B9 hml hv
  obtain ⟨rfl, ⟨hsz, hP, hK, hT⟩, hL⟩ := hv
  subst hsz
  have hx := B9.exec
  have hb := B9.bytes
  have hr := B9.returns
  have hlocks := B9.notSynchronized
  have hts0 := atoms_spec (ws := Cond.code yJx4a65c_init_da8c8 cJx4a65c_init_da8c8 1 none :: en_cw) B9.pre
  have hts : ∀ z ∈ en_cw, z.before _ s = true := fun z hz => hts0 z (List.mem_cons_of_mem _ hz)
  have hown : s.vm.findClass RJx4a65c = some m.cls := findClass_of_methodNamed B9.named
  have hA : ∀ q : Nat, s.heap.size ≤ q → va_A w s.heap.size q := fun q h => Or.inr h
  have hS : va_S (va_A w s.heap.size) s.heap s.heap [] := va_S.rf
  have hD : va_D (va_A w s.heap.size) w := ⟨hD0.1, fun j z hz => Or.inl ⟨j, z.2, hz⟩⟩
  have hR9 : li_R w w [q] := li_R.rf
  have hl := lv_entry ([.ref la]) (n := 1) (Nat.le_of_ble_eq_true rfl)
  rw [lg_entry_eq]
  generalize (lg_sl ([.ref la]) ++ List.replicate (1 - (lg_sl ([.ref la])).length) Slot.unset).toArray = ls at hl ⊢
  have hl : lv_has ls 1 [(0, .ref la)] := hl
  have hin : meth.name = "<init>" := (name_of_methodNamed B9.named B9.method).1
  refine lv_aload_n hx hb dj_Jx4a65c_init_da8c8_0 rfl (lv_at hl 0 rfl) ?_
  refine li_cI (As := []) (rest := []) (li_Jxc12de_init_da8c8 l D tys w _ e0 ca ad (⟨hD.1, fun j z hz => Or.inl ⟨j, z.2, hz⟩⟩ : va_D (va_A w s.heap.size) w) q la hq) gj_Jx4a65c_1 rfl ⟨Nat.le_of_ble_eq_true rfl, Nat.le_of_ble_eq_true rfl⟩ ⟨Nat.le_of_ble_eq_true rfl, Nat.le_of_ble_eq_true rfl⟩ (Nat.le_of_ble_eq_true rfl) hx hb (hml.trans hl.1.symm) hts hown hK hT hL hP hD hS hA dj_Jx4a65c_init_da8c8_1 (fun res w9 H locs hrv hqq hP hD hS => ?_)
  obtain ⟨g8, hlen, hR9⟩ := hqq
  obtain rfl := (show res = none from hrv)
  refine lv_aload_n hx hb dj_Jx4a65c_init_da8c8_4 rfl (lv_at hl 0 rfl) ?_
  refine va_gets hx hb hL.1 hS hown (hts _ cwj1417) (fun _ h9 => h9) dj_Jx4a65c_init_da8c8_5 ?_
  refine va_put (D := D) (ci := 5) (v := .ref e0) (ty := (.array (.object "java/lang/Object"))) (C := RJx4a65c) (T := TJx4a65c) (N := 3) hx hb hts uwj_Jx4a65c tyJx4a65c tyJx4a65c_ok nmJx4a65c hown hK hP hD hS q g8 rfl 1 (by decide) (hts _ cwj1419) (fun _ h9 => h9) rfl (by decide +kernel) rfl rfl (Nat.le_of_ble_eq_true rfl) dj_Jx4a65c_init_da8c8_8 (fun H locs hP hD hS => ?_)
  obtain ⟨w1, ew1, g1, gl1, gn1⟩ := li_set g8 (.inr (5, [.int 0, .ref e0, .int 0]))
  have hP : va_P D vwCl w1 H := by rw [ew1]; exact hP
  have hD : va_D (va_A w s.heap.size) w1 := by rw [ew1]; exact hD
  have hR9 : li_R w w1 [q] := hR9.tr (li_R.st g8 (by simp) g1 gl1 gn1 ⟨rfl, rfl⟩)
  exact W.vret hx hb hr (fun t ht hW9 => ⟨⟨w1, rfl, ⟨g1, by omega, hR9⟩, ⟨by rw [ht]; exact hP, hD⟩⟩, hS.F ht⟩) hS.2.2 dj_Jx4a65c_init_da8c8_11
set_option maxHeartbeats 4000000 in
theorem li_Jx35411_init_45d68 (l : Launch) (D : va_G) (tys : List (ClassId × FieldType)) (w : va_W) (sz e0 ca : Nat) (ad : li_ad) (hD0 : va_D (va_A w sz) w) (qi ia q la ra n : Nat) (mc : Int32) (hi : w[qi]? = some (ia, .inr (4, [.int 0, .int 0, .int 0, .null]))) (hq : w[q]? = some (la, .inr (5, [.int mc, .ref ra, .int (nI n)]))) : li_C l yJx35411_init_45d68 cJx35411_init_45d68 2 none 0 0 0 2 [.ref ia, .ref la] D tys w sz e0 ca ad (fun res w1 => w1[qi]? = some (ia, .inr (4, [.int 0, .int (-1), .int mc, .ref la])) ∧ w1.length = w.length ∧ li_R w w1 [qi]) := by
  refine Met.ofW (cc := cJx35411_init_45d68) (maxL := 2) (ret := none) (by decide +kernel) rfl ?_
  intro p e s m args below meth c s₁ B9 hml hv
  obtain ⟨rfl, ⟨hsz, hP, hK, hT⟩, hL⟩ := hv
  subst hsz
  have hx := B9.exec
  have hb := B9.bytes
  have hr := B9.returns
  have hlocks := B9.notSynchronized
  have hts0 := atoms_spec (ws := Cond.code yJx35411_init_45d68 cJx35411_init_45d68 2 none :: en_cw) B9.pre
  have hts : ∀ z ∈ en_cw, z.before _ s = true := fun z hz => hts0 z (List.mem_cons_of_mem _ hz)
  have hown : s.vm.findClass RJx35411 = some m.cls := findClass_of_methodNamed B9.named
  have hA : ∀ q : Nat, s.heap.size ≤ q → va_A w s.heap.size q := fun q h => Or.inr h
  have hS : va_S (va_A w s.heap.size) s.heap s.heap [] := va_S.rf
  have hD : va_D (va_A w s.heap.size) w := ⟨hD0.1, fun j z hz => Or.inl ⟨j, z.2, hz⟩⟩
  have hR9 : li_R w w [qi] := li_R.rf
  have hl := lv_entry ([.ref ia, .ref la]) (n := 2) (Nat.le_of_ble_eq_true rfl)
  rw [lg_entry_eq]
  generalize (lg_sl ([.ref ia, .ref la]) ++ List.replicate (2 - (lg_sl ([.ref ia, .ref la])).length) Slot.unset).toArray = ls at hl ⊢
  have hl : lv_has ls 2 [(0, .ref ia), (1, .ref la)] := hl
  have hin : meth.name = "<init>" := (name_of_methodNamed B9.named B9.method).1
  have hne : q ≠ qi := fun e9 => by rw [e9] at hq; rw [hq] at hi; cases hi
  refine lv_aload_n hx hb dj_Jx35411_init_45d68_0 rfl (lv_at hl 0 rfl) ?_
  refine lv_aload_n hx hb dj_Jx35411_init_45d68_1 rfl (lv_at hl 1 rfl) ?_
  refine va_putF (D := D) (ci := 4) (v := .ref la) (ty := (.object "java/util/ArrayList")) (C := RJx35411) (T := TJx35411) (N := 4) hx hb hts uwj_Jx35411 tyJx35411 tyJx35411_ok nmJx35411 hown hK hP hD hS qi hi rfl 3 (by decide) (hts _ cwj2028) (fun _ h9 => h9) rfl hin rfl (by decide +kernel) rfl rfl (Nat.le_of_ble_eq_true rfl) dj_Jx35411_init_45d68_2 (fun H locs hP hD hS => ?_)
  obtain ⟨w1, ew1, g1, gl1, gn1⟩ := li_set hi (.inr (4, [.int 0, .int 0, .int 0, .ref la]))
  have hP : va_P D vwCl w1 H := by rw [ew1]; exact hP
  have hD : va_D (va_A w s.heap.size) w1 := by rw [ew1]; exact hD
  have hR9 : li_R w w1 [qi] := hR9.tr (li_R.st hi (by simp) g1 gl1 gn1 ⟨rfl, rfl⟩)
  have g1L := (gn1 q hne).trans hq
  refine lv_aload_n hx hb dj_Jx35411_init_45d68_5 rfl (lv_at hl 0 rfl) ?_
  refine W.objInit hx hb hown (hts _ cwj2024) (hts _ cwj117) (hts _ cwj118) rfl (by rw [hml]; exact hl.1) rfl dj_Jx35411_init_45d68_6 (Nat.le_of_ble_eq_true rfl) (Nat.le_of_ble_eq_true rfl) ?_
  refine W.eq (g2 := F0 m 9 ls []) rfl ?_
  refine lv_aload_n hx hb dj_Jx35411_init_45d68_9 rfl (lv_at hl 0 rfl) ?_
  refine lv_iconst (v := (-1)) hx hb dj_Jx35411_init_45d68_10 (by decide) ?_
  refine va_put (D := D) (ci := 4) (v := .int (-1)) (ty := .int) (C := RJx35411) (T := TJx35411) (N := 4) hx hb hts uwj_Jx35411 tyJx35411 tyJx35411_ok nmJx35411 hown hK hP hD hS qi g1 rfl 1 (by decide) (hts _ cwj2026) (fun _ h9 => h9) rfl (by decide +kernel) rfl rfl (Nat.le_of_ble_eq_true rfl) dj_Jx35411_init_45d68_11 (fun H locs hP hD hS => ?_)
  obtain ⟨w2, ew2, g2, gl2, gn2⟩ := li_set g1 (.inr (4, [.int 0, .int (-1), .int 0, .ref la]))
  have hP : va_P D vwCl w2 H := by rw [ew2]; exact hP
  have hD : va_D (va_A w s.heap.size) w2 := by rw [ew2]; exact hD
  have hR9 : li_R w w2 [qi] := hR9.tr (li_R.st g1 (by simp) g2 gl2 gn2 ⟨rfl, rfl⟩)
  have g2L := (gn2 q hne).trans g1L
  refine lv_aload_n hx hb dj_Jx35411_init_45d68_14 rfl (lv_at hl 0 rfl) ?_
  refine lv_aload_n hx hb dj_Jx35411_init_45d68_15 rfl (lv_at hl 0 rfl) ?_
  refine va_get (D := D) (ci := 4) (v := .ref la) (C := RJx35411) (T := TJx35411) (N := 4) hx hb hts uwj_Jx35411 hown hK hP qi g2 rfl 3 (by decide) (hts _ cwj2028) (fun _ h9 => h9) rfl dj_Jx35411_init_45d68_16 ?_
  refine va_get (D := D) (ci := 5) (v := .int mc) (C := RJx4a65c) (T := TJx4a65c) (N := 3) hx hb hts uwj_Jx4a65c hown hK hP q g2L rfl 0 (by decide) (hts _ cwj1424) (fun x9 h9 => u_same (hts (.sameField "java/util/ArrayList" "java/util/AbstractList" "modCount" "I") cwj1425) x9 h9) rfl dj_Jx35411_init_45d68_19 ?_
  refine va_put (D := D) (ci := 4) (v := .int mc) (ty := .int) (C := RJx35411) (T := TJx35411) (N := 4) hx hb hts uwj_Jx35411 tyJx35411 tyJx35411_ok nmJx35411 hown hK hP hD hS qi g2 rfl 2 (by decide) (hts _ cwj2027) (fun _ h9 => h9) rfl (by decide +kernel) rfl rfl (Nat.le_of_ble_eq_true rfl) dj_Jx35411_init_45d68_22 (fun H locs hP hD hS => ?_)
  obtain ⟨w3, ew3, g3, gl3, gn3⟩ := li_set g2 (.inr (4, [.int 0, .int (-1), .int mc, .ref la]))
  have hP : va_P D vwCl w3 H := by rw [ew3]; exact hP
  have hD : va_D (va_A w s.heap.size) w3 := by rw [ew3]; exact hD
  have hR9 : li_R w w3 [qi] := hR9.tr (li_R.st g2 (by simp) g3 gl3 gn3 ⟨rfl, rfl⟩)
  have g3L := (gn3 q hne).trans g2L
  exact W.vret hx hb hr (fun t ht hW9 => ⟨⟨w3, rfl, ⟨g3, by omega, hR9⟩, ⟨by rw [ht]; exact hP, hD⟩⟩, hS.F ht⟩) hS.2.2 dj_Jx35411_init_45d68_25
set_option maxHeartbeats 4000000 in
theorem li_Jx4a65c_iterator_32c93 (l : Launch) (D : va_G) (tys : List (ClassId × FieldType)) (w : va_W) (sz e0 ca : Nat) (ad : li_ad) (hD0 : va_D (va_A w sz) w) (q la ra n : Nat) (mc : Int32) (hq : w[q]? = some (la, .inr (5, [.int mc, .ref ra, .int (nI n)]))) : li_C l yJx4a65c_iterator_32c93 cJx4a65c_iterator_32c93 1 (some (.object "java/util/Iterator")) 1 1 4 1 [.ref la] D tys w sz e0 ca ad (fun res w1 => ∃ ia : Nat, res = some (.ref ia) ∧ w1[w.length]? = some (ia, .inr (4, [.int 0, .int (-1), .int mc, .ref la])) ∧ w1.length = w.length + 1 ∧ li_R w w1 []) := by
  refine Met.ofW (cc := cJx4a65c_iterator_32c93) (maxL := 1) (ret := (some (.object "java/util/Iterator"))) (by decide +kernel) rfl ?_
  intro p e s m args below meth c s₁ B9 hml hv
  obtain ⟨rfl, ⟨hsz, hP, hK, hT⟩, hL⟩ := hv
  subst hsz
  have hx := B9.exec
  have hb := B9.bytes
  have hr := B9.returns
  have hlocks := B9.notSynchronized
  have hts0 := atoms_spec (ws := Cond.code yJx4a65c_iterator_32c93 cJx4a65c_iterator_32c93 1 (some (.object "java/util/Iterator")) :: en_cw) B9.pre
  have hts : ∀ z ∈ en_cw, z.before _ s = true := fun z hz => hts0 z (List.mem_cons_of_mem _ hz)
  have hown : s.vm.findClass RJx4a65c = some m.cls := findClass_of_methodNamed B9.named
  have hA : ∀ q : Nat, s.heap.size ≤ q → va_A w s.heap.size q := fun q h => Or.inr h
  have hS : va_S (va_A w s.heap.size) s.heap s.heap [] := va_S.rf
  have hD : va_D (va_A w s.heap.size) w := ⟨hD0.1, fun j z hz => Or.inl ⟨j, z.2, hz⟩⟩
  have hR9 : li_R w w [] := li_R.rf
  have hl := lv_entry ([.ref la]) (n := 1) (Nat.le_of_ble_eq_true rfl)
  rw [lg_entry_eq]
  generalize (lg_sl ([.ref la]) ++ List.replicate (1 - (lg_sl ([.ref la])).length) Slot.unset).toArray = ls at hl ⊢
  have hl : lv_has ls 1 [(0, .ref la)] := hl
  refine va_new (ci := 4) (fs := [.int 0, .int 0, .int 0, .null]) (C := RJx35411) (T := TJx35411) (N := 4) hx hb hts uwj_Jx35411 tyJx35411 tyJx35411_ok hown (hts _ cwj2019) (hts _ cwj2020) (hts _ cwj105) hK hP hD hS hA rfl (fun j hj => match j, hj with | 0, _ => rfl | 1, _ => rfl | 2, _ => rfl | 3, _ => rfl | n + 4, h => absurd h (by omega)) (Nat.le_of_ble_eq_true rfl) (Nat.le_of_ble_eq_true rfl) dj_Jx4a65c_iterator_32c93_0 (fun ia H hP hD hS => ?_)
  obtain ⟨w2, ew2, g2, gl2, gn2⟩ := li_app w (ia, .inr (4, [.int 0, .int 0, .int 0, .null]))
  rw [← ew2] at hP hD
  have hq2 := (gn2 q (List.getElem?_eq_some_iff.mp hq).1).trans hq
  refine lv_dup hx hb dj_Jx4a65c_iterator_32c93_3 rfl ?_
  refine lv_aload_n hx hb dj_Jx4a65c_iterator_32c93_4 rfl (lv_at hl 0 rfl) ?_
  refine li_cI (As := [.ref la]) (rest := [.ref ia]) (li_Jx35411_init_45d68 l D tys w2 _ e0 ca ad (⟨hD.1, fun j z hz => Or.inl ⟨j, z.2, hz⟩⟩ : va_D (va_A w2 H.size) w2) w.length ia q la ra n mc g2 hq2) gj_Jx4a65c_269 rfl ⟨Nat.le_of_ble_eq_true rfl, Nat.le_of_ble_eq_true rfl⟩ ⟨Nat.le_of_ble_eq_true rfl, Nat.le_of_ble_eq_true rfl⟩ (Nat.le_of_ble_eq_true rfl) hx hb (hml.trans hl.1.symm) hts hown hK hT hL hP hD hS hA dj_Jx4a65c_iterator_32c93_5 (fun res w9 H locs hrv hqq hP hD hS => ?_)
  obtain ⟨g8, hlen, hR8⟩ := hqq
  obtain rfl := (show res = none from hrv)
  exact W.aret (v := .ref ia) hx hb hr (Or.inl ⟨_, rfl⟩) (Or.inr ⟨_, rfl⟩) (fun t ht hW9 => ⟨⟨w9, _, rfl, trivial, ⟨_, rfl, g8, by omega, li_R.sm (li_R.ap gl2 gn2) hR8⟩, by rw [ht]; exact hP, hD⟩, hS.F ht⟩) hS.2.2 dj_Jx4a65c_iterator_32c93_8
set_option maxHeartbeats 4000000 in
theorem li_Jx35411_hasNext_aae02 (l : Launch) (D : va_G) (tys : List (ClassId × FieldType)) (w : va_W) (sz e0 ca : Nat) (ad : li_ad) (hD0 : va_D (va_A w sz) w) (qi ia q la ra n i : Nat) (mc lr : Int32) (hi : w[qi]? = some (ia, .inr (4, [.int (nI i), .int lr, .int mc, .ref la]))) (hq : w[q]? = some (la, .inr (5, [.int mc, .ref ra, .int (nI n)]))) (hi9 : i ≤ n) (hN : n < 1000) : li_C l yJx35411_hasNext_aae02 cJx35411_hasNext_aae02 1 (some .boolean) 0 0 0 0 [.ref ia] D tys w sz e0 ca ad (fun res w1 => res = some (.int (if i = n then 0 else 1)) ∧ w1 = w) := by
  refine Met.ofW (cc := cJx35411_hasNext_aae02) (maxL := 1) (ret := (some .boolean)) (by decide +kernel) rfl ?_
  intro p e s m args below meth c s₁ B9 hml hv
  obtain ⟨rfl, ⟨hsz, hP, hK, hT⟩, hL⟩ := hv
  subst hsz
  have hx := B9.exec
  have hb := B9.bytes
  have hr := B9.returns
  have hlocks := B9.notSynchronized
  have hts0 := atoms_spec (ws := Cond.code yJx35411_hasNext_aae02 cJx35411_hasNext_aae02 1 (some .boolean) :: en_cw) B9.pre
  have hts : ∀ z ∈ en_cw, z.before _ s = true := fun z hz => hts0 z (List.mem_cons_of_mem _ hz)
  have hown : s.vm.findClass RJx35411 = some m.cls := findClass_of_methodNamed B9.named
  have hA : ∀ q : Nat, s.heap.size ≤ q → va_A w s.heap.size q := fun q h => Or.inr h
  have hS : va_S (va_A w s.heap.size) s.heap s.heap [] := va_S.rf
  have hD : va_D (va_A w s.heap.size) w := ⟨hD0.1, fun j z hz => Or.inl ⟨j, z.2, hz⟩⟩
  have hR9 : li_R w w [] := li_R.rf
  have hl := lv_entry ([.ref ia]) (n := 1) (Nat.le_of_ble_eq_true rfl)
  rw [lg_entry_eq]
  generalize (lg_sl ([.ref ia]) ++ List.replicate (1 - (lg_sl ([.ref ia])).length) Slot.unset).toArray = ls at hl ⊢
  have hl : lv_has ls 1 [(0, .ref ia)] := hl
  refine lv_aload_n hx hb dj_Jx35411_hasNext_aae02_0 rfl (lv_at hl 0 rfl) ?_
  refine va_get (D := D) (ci := 4) (v := .int (nI i)) (C := RJx35411) (T := TJx35411) (N := 4) hx hb hts uwj_Jx35411 hown hK hP qi hi rfl 0 (by decide) (hts _ cwj2025) (fun _ h9 => h9) rfl dj_Jx35411_hasNext_aae02_1 ?_
  refine lv_aload_n hx hb dj_Jx35411_hasNext_aae02_4 rfl (lv_at hl 0 rfl) ?_
  refine va_get (D := D) (ci := 4) (v := .ref la) (C := RJx35411) (T := TJx35411) (N := 4) hx hb hts uwj_Jx35411 hown hK hP qi hi rfl 3 (by decide) (hts _ cwj2028) (fun _ h9 => h9) rfl dj_Jx35411_hasNext_aae02_5 ?_
  refine va_getN (D := D) (ci := 5) (v := .int (nI n)) (C := RJx4a65c) (T := TJx4a65c) (N := 3) hx hb hts uwj_Jx4a65c hown hK hP q hq rfl 2 (by decide) (va_Nw.use rfl hL.2.2.2.2.2.2.2.2.2.2.2.1) (fun _ h9 => h9) rfl dj_Jx35411_hasNext_aae02_8 ?_
  by_cases h1 : i = n
  · refine lv_icmp_eq (tgt := 18) hx hb dj_Jx35411_hasNext_aae02_11 (by decide) (fun _ => ?_) (fun c9 => absurd (by rw [h1]) c9)
    refine lv_iconst (v := 0) hx hb dj_Jx35411_hasNext_aae02_18 (by decide) ?_
    exact W.zret (v := 0) (ty := .boolean) hx hb hr (by decide) (fun t ht hW9 => ⟨⟨0, w, rfl, ⟨by rw [if_pos h1], rfl⟩, ⟨by rw [ht]; exact hP, hD⟩⟩, hS.F ht⟩) hS.2.2 dj_Jx35411_hasNext_aae02_19
  · refine lv_icmp_eq (tgt := 18) hx hb dj_Jx35411_hasNext_aae02_11 (by decide) (fun c9 => absurd ((nI_eq (show i < 2 ^ 31 by omega) (show n < 2 ^ 31 by omega)).mp c9) h1) (fun _ => ?_)
    refine lv_iconst (v := 1) hx hb dj_Jx35411_hasNext_aae02_14 (by decide) ?_
    refine lv_goto (tgt := 19) hx hb dj_Jx35411_hasNext_aae02_15 (by decide) ?_
    exact W.zret (v := 1) (ty := .boolean) hx hb hr (by decide) (fun t ht hW9 => ⟨⟨1, w, rfl, ⟨by rw [if_neg h1], rfl⟩, ⟨by rw [ht]; exact hP, hD⟩⟩, hS.F ht⟩) hS.2.2 dj_Jx35411_hasNext_aae02_19
set_option maxHeartbeats 4000000 in
theorem li_Jx35411_checkForComodification_da8c8 (l : Launch) (D : va_G) (tys : List (ClassId × FieldType)) (w : va_W) (sz e0 ca : Nat) (ad : li_ad) (hD0 : va_D (va_A w sz) w) (qi ia q la ra n i : Nat) (mc lr : Int32) (hi : w[qi]? = some (ia, .inr (4, [.int (nI i), .int lr, .int mc, .ref la]))) (hq : w[q]? = some (la, .inr (5, [.int mc, .ref ra, .int (nI n)]))) : li_C l yJx35411_checkForComodification_da8c8 cJx35411_checkForComodification_da8c8 1 none 0 0 0 2 [.ref ia] D tys w sz e0 ca ad (fun res w1 => w1 = w) := by
  refine Met.ofW (cc := cJx35411_checkForComodification_da8c8) (maxL := 1) (ret := none) (by decide +kernel) rfl ?_
  intro p e s m args below meth c s₁ B9 hml hv
  obtain ⟨rfl, ⟨hsz, hP, hK, hT⟩, hL⟩ := hv
  subst hsz
  have hx := B9.exec
  have hb := B9.bytes
  have hr := B9.returns
  have hlocks := B9.notSynchronized
  have hts0 := atoms_spec (ws := Cond.code yJx35411_checkForComodification_da8c8 cJx35411_checkForComodification_da8c8 1 none :: en_cw) B9.pre
  have hts : ∀ z ∈ en_cw, z.before _ s = true := fun z hz => hts0 z (List.mem_cons_of_mem _ hz)
  have hown : s.vm.findClass RJx35411 = some m.cls := findClass_of_methodNamed B9.named
  have hA : ∀ q : Nat, s.heap.size ≤ q → va_A w s.heap.size q := fun q h => Or.inr h
  have hS : va_S (va_A w s.heap.size) s.heap s.heap [] := va_S.rf
  have hD : va_D (va_A w s.heap.size) w := ⟨hD0.1, fun j z hz => Or.inl ⟨j, z.2, hz⟩⟩
  have hR9 : li_R w w [] := li_R.rf
  have hl := lv_entry ([.ref ia]) (n := 1) (Nat.le_of_ble_eq_true rfl)
  rw [lg_entry_eq]
  generalize (lg_sl ([.ref ia]) ++ List.replicate (1 - (lg_sl ([.ref ia])).length) Slot.unset).toArray = ls at hl ⊢
  have hl : lv_has ls 1 [(0, .ref ia)] := hl
  refine lv_aload_n hx hb dj_Jx35411_checkForComodification_da8c8_0 rfl (lv_at hl 0 rfl) ?_
  refine va_get (D := D) (ci := 4) (v := .ref la) (C := RJx35411) (T := TJx35411) (N := 4) hx hb hts uwj_Jx35411 hown hK hP qi hi rfl 3 (by decide) (hts _ cwj2028) (fun _ h9 => h9) rfl dj_Jx35411_checkForComodification_da8c8_1 ?_
  refine va_get (D := D) (ci := 5) (v := .int mc) (C := RJx4a65c) (T := TJx4a65c) (N := 3) hx hb hts uwj_Jx4a65c hown hK hP q hq rfl 0 (by decide) (hts _ cwj1424) (fun x9 h9 => u_same (hts (.sameField "java/util/ArrayList" "java/util/AbstractList" "modCount" "I") cwj1425) x9 h9) rfl dj_Jx35411_checkForComodification_da8c8_4 ?_
  refine lv_aload_n hx hb dj_Jx35411_checkForComodification_da8c8_7 rfl (lv_at hl 0 rfl) ?_
  refine va_get (D := D) (ci := 4) (v := .int mc) (C := RJx35411) (T := TJx35411) (N := 4) hx hb hts uwj_Jx35411 hown hK hP qi hi rfl 2 (by decide) (hts _ cwj2027) (fun _ h9 => h9) rfl dj_Jx35411_checkForComodification_da8c8_8 ?_
  refine lv_icmp_eq (tgt := 22) hx hb dj_Jx35411_checkForComodification_da8c8_11 (by decide) (fun _ => ?_) (fun c9 => absurd rfl c9)
  exact W.vret hx hb hr (fun t ht hW9 => ⟨⟨w, rfl, rfl, ⟨by rw [ht]; exact hP, hD⟩⟩, hS.F ht⟩) hS.2.2 dj_Jx35411_checkForComodification_da8c8_22
set_option maxHeartbeats 4000000 in
theorem li_Jx35411_next_0502b (l : Launch) (D : va_G) (tys : List (ClassId × FieldType)) (w : va_W) (sz e0 ca : Nat) (ad : li_ad) (hD0 : va_D (va_A w sz) w) (qi ia q qa la ra n N i y : Nat) (mc lr : Int32) (f : Nat → Option Nat) (cL : ClassId) (t9 : Nat) (hi : w[qi]? = some (ia, .inr (4, [.int (nI i), .int lr, .int mc, .ref la]))) (hq : w[q]? = some (la, .inr (5, [.int mc, .ref ra, .int (nI n)]))) (ha : w[qa]? = some (ra, .inl (cL, N, .inr (.inr (.inr (.inr f)))))) (ht9 : tys[t9]? = some (cL, .object "java/lang/Object")) (hi9 : i < n) (hn : n ≤ N) (hN : N < 1000) (hf : f i = some y) : li_C l yJx35411_next_0502b cJx35411_next_0502b 3 (some (.object "java/lang/Object")) 1 0 0 1 [.ref ia] D tys w sz e0 ca ad (fun res w1 => res = some (.ref y) ∧ w1[qi]? = some (ia, .inr (4, [.int (nI (i + 1)), .int (nI i), .int mc, .ref la])) ∧ w1.length = w.length ∧ li_R w w1 [qi]) := by
  refine Met.ofW (cc := cJx35411_next_0502b) (maxL := 3) (ret := (some (.object "java/lang/Object"))) (by decide +kernel) rfl ?_
  intro p e s m args below meth c s₁ B9 hml hv
  obtain ⟨rfl, ⟨hsz, hP, hK, hT⟩, hL⟩ := hv
  subst hsz
  have hx := B9.exec
  have hb := B9.bytes
  have hr := B9.returns
  have hlocks := B9.notSynchronized
  have hts0 := atoms_spec (ws := Cond.code yJx35411_next_0502b cJx35411_next_0502b 3 (some (.object "java/lang/Object")) :: en_cw) B9.pre
  have hts : ∀ z ∈ en_cw, z.before _ s = true := fun z hz => hts0 z (List.mem_cons_of_mem _ hz)
  have hown : s.vm.findClass RJx35411 = some m.cls := findClass_of_methodNamed B9.named
  have hA : ∀ q : Nat, s.heap.size ≤ q → va_A w s.heap.size q := fun q h => Or.inr h
  have hS : va_S (va_A w s.heap.size) s.heap s.heap [] := va_S.rf
  have hD : va_D (va_A w s.heap.size) w := ⟨hD0.1, fun j z hz => Or.inl ⟨j, z.2, hz⟩⟩
  have hR9 : li_R w w [qi] := li_R.rf
  have hl := lv_entry ([.ref ia]) (n := 3) (Nat.le_of_ble_eq_true rfl)
  rw [lg_entry_eq]
  generalize (lg_sl ([.ref ia]) ++ List.replicate (3 - (lg_sl ([.ref ia])).length) Slot.unset).toArray = ls at hl ⊢
  have hl : lv_has ls 3 [(0, .ref ia)] := hl
  have hne : q ≠ qi := fun e9 => by rw [e9] at hq; rw [hq] at hi; cases hi
  have hne2 : qa ≠ qi := fun e9 => by rw [e9] at ha; rw [ha] at hi; cases hi
  refine lv_aload_n hx hb dj_Jx35411_next_0502b_0 rfl (lv_at hl 0 rfl) ?_
  refine li_cV (As := []) (rest := []) (li_Jx35411_checkForComodification_da8c8 l D tys w _ e0 ca ad (⟨hD.1, fun j z hz => Or.inl ⟨j, z.2, hz⟩⟩ : va_D (va_A w s.heap.size) w) qi ia q la ra n i mc lr hi hq) gj_Jx35411_31 (va_recv hK hP (ci := 4) (q0 := qi) rfl hi) rfl ⟨Nat.le_of_ble_eq_true rfl, Nat.le_of_ble_eq_true rfl⟩ ⟨Nat.le_of_ble_eq_true rfl, Nat.le_of_ble_eq_true rfl⟩ (Nat.le_of_ble_eq_true rfl) hx hb (hml.trans hl.1.symm) hts hown hK hT hL hP hD hS hA dj_Jx35411_next_0502b_1 (fun res w9 H locs hrv hqq hP hD hS => ?_)
  have hq9 : w = w9 := Eq.symm hqq
  subst hq9
  obtain rfl := (show res = none from hrv)
  refine lv_aload_n hx hb dj_Jx35411_next_0502b_4 rfl (lv_at hl 0 rfl) ?_
  refine va_get (D := D) (ci := 4) (v := .int (nI i)) (C := RJx35411) (T := TJx35411) (N := 4) hx hb hts uwj_Jx35411 hown hK hP qi hi rfl 0 (by decide) (hts _ cwj2025) (fun _ h9 => h9) rfl dj_Jx35411_next_0502b_5 ?_
  refine lv_istore_n (lv' := [(1, .int (nI i)), (0, .ref ia)]) hx hb dj_Jx35411_next_0502b_8 rfl hl (by decide) rfl (fun ls hl => ?_)
  refine lv_iload_n hx hb dj_Jx35411_next_0502b_9 rfl (lv_at hl 0 rfl) ?_
  refine lv_aload_n hx hb dj_Jx35411_next_0502b_10 rfl (lv_at hl 1 rfl) ?_
  refine va_get (D := D) (ci := 4) (v := .ref la) (C := RJx35411) (T := TJx35411) (N := 4) hx hb hts uwj_Jx35411 hown hK hP qi hi rfl 3 (by decide) (hts _ cwj2028) (fun _ h9 => h9) rfl dj_Jx35411_next_0502b_11 ?_
  refine va_getN (D := D) (ci := 5) (v := .int (nI n)) (C := RJx4a65c) (T := TJx4a65c) (N := 3) hx hb hts uwj_Jx4a65c hown hK hP q hq rfl 2 (by decide) (va_Nw.use rfl hL.2.2.2.2.2.2.2.2.2.2.2.1) (fun _ h9 => h9) rfl dj_Jx35411_next_0502b_14 ?_
  refine lv_icmp_lt (tgt := 28) hx hb dj_Jx35411_next_0502b_17 (by decide) (fun _ => ?_) (fun c9 => absurd (nI_lt hi9 (by omega)) c9)
  refine lv_aload_n hx hb dj_Jx35411_next_0502b_28 rfl (lv_at hl 1 rfl) ?_
  refine va_get (D := D) (ci := 4) (v := .ref la) (C := RJx35411) (T := TJx35411) (N := 4) hx hb hts uwj_Jx35411 hown hK hP qi hi rfl 3 (by decide) (hts _ cwj2028) (fun _ h9 => h9) rfl dj_Jx35411_next_0502b_29 ?_
  refine va_get (D := D) (ci := 5) (v := .ref ra) (C := RJx4a65c) (T := TJx4a65c) (N := 3) hx hb hts uwj_Jx4a65c hown hK hP q hq rfl 1 (by decide) (hts _ cwj1420) (fun _ h9 => h9) rfl dj_Jx35411_next_0502b_32 ?_
  refine lv_astore_n (lv' := [(2, .ref ra), (1, .int (nI i)), (0, .ref ia)]) hx hb dj_Jx35411_next_0502b_35 rfl hl (by decide) rfl (fun ls hl => ?_)
  refine lv_iload_n hx hb dj_Jx35411_next_0502b_36 rfl (lv_at hl 1 rfl) ?_
  refine lv_aload_n hx hb dj_Jx35411_next_0502b_37 rfl (lv_at hl 0 rfl) ?_
  refine va_alen hx hb hK hP qa t9 ha ht9 (v := (nI N)) rfl dj_Jx35411_next_0502b_38 ?_
  refine lv_icmp_lt (tgt := 50) hx hb dj_Jx35411_next_0502b_39 (by decide) (fun _ => ?_) (fun c9 => absurd (nI_lt (show i < N by omega) (by omega)) c9)
  refine lv_aload_n hx hb dj_Jx35411_next_0502b_50 rfl (lv_at hl 2 rfl) ?_
  refine lv_iload_n hx hb dj_Jx35411_next_0502b_51 rfl (lv_at hl 1 rfl) ?_
  refine lv_iconst (v := 1) hx hb dj_Jx35411_next_0502b_52 (by decide) ?_
  refine lv_iadd hx hb dj_Jx35411_next_0502b_53 ?_
  rw [← nI_succ]
  refine va_put (D := D) (ci := 4) (v := .int (nI (i + 1))) (ty := .int) (C := RJx35411) (T := TJx35411) (N := 4) hx hb hts uwj_Jx35411 tyJx35411 tyJx35411_ok nmJx35411 hown hK hP hD hS qi hi rfl 0 (by decide) (hts _ cwj2025) (fun _ h9 => h9) rfl (by decide +kernel) rfl rfl (Nat.le_of_ble_eq_true rfl) dj_Jx35411_next_0502b_54 (fun H locs hP hD hS => ?_)
  obtain ⟨w1, ew1, g1, gl1, gn1⟩ := li_set hi (.inr (4, [.int (nI (i + 1)), .int lr, .int mc, .ref la]))
  have hP : va_P D vwCl w1 H := by rw [ew1]; exact hP
  have hD : va_D (va_A w s.heap.size) w1 := by rw [ew1]; exact hD
  have hR9 : li_R w w1 [qi] := hR9.tr (li_R.st hi (by simp) g1 gl1 gn1 ⟨rfl, rfl⟩)
  have g1L := (gn1 q hne).trans hq
  have g1A := (gn1 qa hne2).trans ha
  refine lv_aload_n hx hb dj_Jx35411_next_0502b_57 rfl (lv_at hl 0 rfl) ?_
  refine lv_aload_n hx hb dj_Jx35411_next_0502b_58 rfl (lv_at hl 2 rfl) ?_
  refine lv_iload_n hx hb dj_Jx35411_next_0502b_59 rfl (lv_at hl 1 rfl) ?_
  refine lv_dup_x1 hx hb dj_Jx35411_next_0502b_60 rfl rfl ?_
  refine va_put (D := D) (ci := 4) (v := .int (nI i)) (ty := .int) (C := RJx35411) (T := TJx35411) (N := 4) hx hb hts uwj_Jx35411 tyJx35411 tyJx35411_ok nmJx35411 hown hK hP hD hS qi g1 rfl 1 (by decide) (hts _ cwj2026) (fun _ h9 => h9) rfl (by decide +kernel) rfl rfl (Nat.le_of_ble_eq_true rfl) dj_Jx35411_next_0502b_61 (fun H locs hP hD hS => ?_)
  obtain ⟨w2, ew2, g2, gl2, gn2⟩ := li_set g1 (.inr (4, [.int (nI (i + 1)), .int (nI i), .int mc, .ref la]))
  have hP : va_P D vwCl w2 H := by rw [ew2]; exact hP
  have hD : va_D (va_A w s.heap.size) w2 := by rw [ew2]; exact hD
  have hR9 : li_R w w2 [qi] := hR9.tr (li_R.st g1 (by simp) g2 gl2 gn2 ⟨rfl, rfl⟩)
  have g2L := (gn2 q hne).trans g1L
  have g2A := (gn2 qa hne2).trans g1A
  refine va_aldq hx hb hK hP qa t9 g2A ht9 (vp_in_nI (show i < N by omega) (by omega)) dj_Jx35411_next_0502b_64 ?_
  rw [nI_clamp (show i < 2 ^ 31 by omega), hf]
  exact W.aret (v := .ref y) hx hb hr (Or.inl ⟨_, rfl⟩) (Or.inr ⟨_, rfl⟩) (fun t ht hW9 => ⟨⟨w2, _, rfl, trivial, ⟨rfl, g2, by omega, hR9⟩, by rw [ht]; exact hP, hD⟩, hS.F ht⟩) hS.2.2 dj_Jx35411_next_0502b_65
