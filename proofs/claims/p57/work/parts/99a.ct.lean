set_option maxHeartbeats 4000000 in
theorem li_X0_init (l : Launch) (D : va_G) (tys : List (ClassId × FieldType)) (w : va_W) (sz e0 ca : Nat) (ad : li_ad) (hD0 : va_D (va_A w sz) w) (y : Nat) : li_C l yX0_init cX0_init 1 none 0 0 0 2 [.ref y] D tys w sz e0 ca ad (fun res w1 => w1 = w) := by
  refine Met.ofW (cc := cX0_init) (maxL := 1) (ret := none) (by decide +kernel) rfl ?_
  intro p e s m args below meth c s₁ B9 hml hv
  obtain ⟨rfl, ⟨hsz, hP, hK, hT⟩, hL⟩ := hv
  subst hsz
  have hx := B9.exec
  have hb := B9.bytes
  have hr := B9.returns
  have hlocks := B9.notSynchronized
  have hts0 := atoms_spec (ws := Cond.code yX0_init cX0_init 1 none :: en_cw) B9.pre
  have hts : ∀ z ∈ en_cw, z.before _ s = true := fun z hz => hts0 z (List.mem_cons_of_mem _ hz)
  have hown : s.vm.findClass RX0 = some m.cls := findClass_of_methodNamed B9.named
  have hA : ∀ q : Nat, s.heap.size ≤ q → va_A w s.heap.size q := fun q h => Or.inr h
  have hS : va_S (va_A w s.heap.size) s.heap s.heap [] := va_S.rf
  have hD : va_D (va_A w s.heap.size) w := ⟨hD0.1, fun j z hz => Or.inl ⟨j, z.2, hz⟩⟩
  have hR9 : li_R w w [] := li_R.rf
  have hl := lv_entry ([.ref y]) (n := 1) (Nat.le_of_ble_eq_true rfl)
  rw [lg_entry_eq]
  generalize (lg_sl ([.ref y]) ++ List.replicate (1 - (lg_sl ([.ref y])).length) Slot.unset).toArray = ls at hl ⊢
  have hl : lv_has ls 1 [(0, .ref y)] := hl
  have hin : meth.name = "<init>" := (name_of_methodNamed B9.named B9.method).1
  refine lv_aload_n hx hb dj_X0_init_0 rfl (lv_at hl 0 rfl) ?_
  refine W.objInit hx hb hown (hts _ cwj160) (hts _ cwj117) (hts _ cwj118) rfl (by rw [hml]; exact hl.1) rfl dj_X0_init_1 (Nat.le_of_ble_eq_true rfl) (Nat.le_of_ble_eq_true rfl) ?_
  refine W.eq (g2 := F0 m 4 ls []) rfl ?_
  exact W.vret hx hb hr (fun t ht hW9 => ⟨⟨w, rfl, rfl, ⟨by rw [ht]; exact hP, hD⟩⟩, hS.F ht⟩) hS.2.2 dj_X0_init_4
set_option maxHeartbeats 4000000 in
theorem li_X1_init (l : Launch) (D : va_G) (tys : List (ClassId × FieldType)) (w : va_W) (sz e0 ca : Nat) (ad : li_ad) (hD0 : va_D (va_A w sz) w) (q y : Nat) (cI cX cZ cH cPl cII cCC cL : ClassId) (hTT : ct_T tys cI cX cZ cH cPl cII cCC cL) (hq : w[q]? = some (y, .inr (7, [.null, .null, .null, .int 0, .int 0, .int 0]))) : li_C l yX1_init cX1_init 1 none 1 3 27 2 [.ref y] D tys w sz e0 ca ad (fun res w1 => ct_1 cI w1 q y w.length ∧ w1.length = w.length + 3 ∧ li_R w w1 [q]) := by
  refine Met.ofW (cc := cX1_init) (maxL := 1) (ret := none) (by decide +kernel) rfl ?_
  intro p e s m args below meth c s₁ B9 hml hv
  obtain ⟨rfl, ⟨hsz, hP, hK, hT⟩, hL⟩ := hv
  subst hsz
  have hx := B9.exec
  have hb := B9.bytes
  have hr := B9.returns
  have hlocks := B9.notSynchronized
  have hts0 := atoms_spec (ws := Cond.code yX1_init cX1_init 1 none :: en_cw) B9.pre
  have hts : ∀ z ∈ en_cw, z.before _ s = true := fun z hz => hts0 z (List.mem_cons_of_mem _ hz)
  have hown : s.vm.findClass RX1 = some m.cls := findClass_of_methodNamed B9.named
  have hA : ∀ q : Nat, s.heap.size ≤ q → va_A w s.heap.size q := fun q h => Or.inr h
  have hS : va_S (va_A w s.heap.size) s.heap s.heap [] := va_S.rf
  have hD : va_D (va_A w s.heap.size) w := ⟨hD0.1, fun j z hz => Or.inl ⟨j, z.2, hz⟩⟩
  have hR9 : li_R w w [q] := li_R.rf
  have hl := lv_entry ([.ref y]) (n := 1) (Nat.le_of_ble_eq_true rfl)
  rw [lg_entry_eq]
  generalize (lg_sl ([.ref y]) ++ List.replicate (1 - (lg_sl ([.ref y])).length) Slot.unset).toArray = ls at hl ⊢
  have hl : lv_has ls 1 [(0, .ref y)] := hl
  have hin : meth.name = "<init>" := (name_of_methodNamed B9.named B9.method).1
  have hn0 : w.length = w.length + 0 := rfl
  obtain ⟨⟨ht0, ht1, ht2, ht3, ht4⟩, ht5, ht6, ht9⟩ := hTT
  have hLc := hL.2.2.2.2.2.2.2.2.2.2.2.2
  have ltY : q < w.length := (List.getElem?_eq_some_iff.mp hq).1
  refine lv_aload_n hx hb dj_X1_init_0 rfl (lv_at hl 0 rfl) ?_
  refine W.objInit hx hb hown (hts _ cwj230) (hts _ cwj117) (hts _ cwj118) rfl (by rw [hml]; exact hl.1) rfl dj_X1_init_1 (Nat.le_of_ble_eq_true rfl) (Nat.le_of_ble_eq_true rfl) ?_
  refine W.eq (g2 := F0 m 4 ls []) rfl ?_
  refine lv_aload_n hx hb dj_X1_init_4 rfl (lv_at hl 0 rfl) ?_
  refine lv_bipush (v := 9) hx hb dj_X1_init_5 (by decide) ?_
  refine va_newa (atype := .int) (ty := .int) (a0 := (9, .inl (fun _ => 0))) hx hb (hts _ cwj256) rfl hK hP hD hS hA (fun cA => rfl) (by decide) (N' := 9) (by decide) (by decide) (Nat.le_of_ble_eq_true rfl) (Nat.le_of_ble_eq_true rfl) dj_X1_init_7 (fun a1 cA1 H hK9 hP hD hS => ?_)
  have ec1 : cA1 = cI := li_cT hK hK9 ht0
  rw [ec1] at hP hD
  clear hK9
  obtain ⟨w2, ew2, g2, gl2, gn2⟩ := li_app w (a1, .inl (cI, 9, .inl (fun _ => 0)))
  rw [← ew2] at hP hD
  have hn2 : w2.length = w.length + 1 := by omega
  have g2Y := (gn2 q (by omega)).trans hq
  have g2A1 : w2[w.length]? = some (a1, .inl (cI, 9, .inl (fun _ => 0))) := by have e9 := g2; rw [show w.length = w.length from hn0] at e9; exact e9
  have hR2 : li_R w w2 [q] := hR9.tr (li_R.ap gl2 gn2)
  refine va_putF (D := D) (ci := 7) (v := .ref a1) (ty := (.array .int)) (C := RX1) (T := TX1) (N := 6) hx hb hts uwj_X1 tyX1 tyX1_ok nmX1 hown hK hP hD hS q g2Y rfl 0 (by decide) (hts _ cwj231) (fun _ h9 => h9) rfl hin rfl (by decide +kernel) rfl rfl (Nat.le_of_ble_eq_true rfl) dj_X1_init_9 (fun H locs hP hD hS => ?_)
  obtain ⟨w3, ew3, g3, gl3, gn3⟩ := li_set g2Y (.inr (7, [.ref a1, .null, .null, .int 0, .int 0, .int 0]))
  have hP : va_P D vwCl w3 H := by rw [ew3]; exact hP
  have hD : va_D (va_A w s.heap.size) w3 := by rw [ew3]; exact hD
  have hn3 : w3.length = w.length + 1 := by omega
  have g3A1 := (gn3 w.length (by omega)).trans g2A1
  have hR3 : li_R w w3 [q] := hR2.tr (li_R.st g2Y (by simp) g3 gl3 gn3 ⟨rfl, rfl⟩)
  refine lv_aload_n hx hb dj_X1_init_12 rfl (lv_at hl 0 rfl) ?_
  refine lv_bipush (v := 9) hx hb dj_X1_init_13 (by decide) ?_
  refine va_newa (atype := .int) (ty := .int) (a0 := (9, .inl (fun _ => 0))) hx hb (hts _ cwj256) rfl hK hP hD hS hA (fun cA => rfl) (by decide) (N' := 9) (by decide) (by decide) (Nat.le_of_ble_eq_true rfl) (Nat.le_of_ble_eq_true rfl) dj_X1_init_15 (fun a4 cA4 H hK9 hP hD hS => ?_)
  have ec4 : cA4 = cI := li_cT hK hK9 ht0
  rw [ec4] at hP hD
  clear hK9
  obtain ⟨w5, ew5, g5, gl5, gn5⟩ := li_app w3 (a4, .inl (cI, 9, .inl (fun _ => 0)))
  rw [← ew5] at hP hD
  have hn5 : w5.length = w.length + 2 := by omega
  have g5Y := (gn5 q (by omega)).trans g3
  have g5A1 := (gn5 w.length (by omega)).trans g3A1
  have g5A4 : w5[(w.length + 1)]? = some (a4, .inl (cI, 9, .inl (fun _ => 0))) := by have e9 := g5; rw [show w3.length = (w.length + 1) from hn3] at e9; exact e9
  have hR5 : li_R w w5 [q] := hR3.tr (li_R.ap gl5 gn5)
  refine va_putF (D := D) (ci := 7) (v := .ref a4) (ty := (.array .int)) (C := RX1) (T := TX1) (N := 6) hx hb hts uwj_X1 tyX1 tyX1_ok nmX1 hown hK hP hD hS q g5Y rfl 1 (by decide) (hts _ cwj233) (fun _ h9 => h9) rfl hin rfl (by decide +kernel) rfl rfl (Nat.le_of_ble_eq_true rfl) dj_X1_init_17 (fun H locs hP hD hS => ?_)
  obtain ⟨w6, ew6, g6, gl6, gn6⟩ := li_set g5Y (.inr (7, [.ref a1, .ref a4, .null, .int 0, .int 0, .int 0]))
  have hP : va_P D vwCl w6 H := by rw [ew6]; exact hP
  have hD : va_D (va_A w s.heap.size) w6 := by rw [ew6]; exact hD
  have hn6 : w6.length = w.length + 2 := by omega
  have g6A1 := (gn6 w.length (by omega)).trans g5A1
  have g6A4 := (gn6 (w.length + 1) (by omega)).trans g5A4
  have hR6 : li_R w w6 [q] := hR5.tr (li_R.st g5Y (by simp) g6 gl6 gn6 ⟨rfl, rfl⟩)
  refine lv_aload_n hx hb dj_X1_init_20 rfl (lv_at hl 0 rfl) ?_
  refine lv_bipush (v := 9) hx hb dj_X1_init_21 (by decide) ?_
  refine va_newa (atype := .int) (ty := .int) (a0 := (9, .inl (fun _ => 0))) hx hb (hts _ cwj256) rfl hK hP hD hS hA (fun cA => rfl) (by decide) (N' := 9) (by decide) (by decide) (Nat.le_of_ble_eq_true rfl) (Nat.le_of_ble_eq_true rfl) dj_X1_init_23 (fun a7 cA7 H hK9 hP hD hS => ?_)
  have ec7 : cA7 = cI := li_cT hK hK9 ht0
  rw [ec7] at hP hD
  clear hK9
  obtain ⟨w8, ew8, g8, gl8, gn8⟩ := li_app w6 (a7, .inl (cI, 9, .inl (fun _ => 0)))
  rw [← ew8] at hP hD
  have hn8 : w8.length = w.length + 3 := by omega
  have g8Y := (gn8 q (by omega)).trans g6
  have g8A1 := (gn8 w.length (by omega)).trans g6A1
  have g8A4 := (gn8 (w.length + 1) (by omega)).trans g6A4
  have g8A7 : w8[(w.length + 2)]? = some (a7, .inl (cI, 9, .inl (fun _ => 0))) := by have e9 := g8; rw [show w6.length = (w.length + 2) from hn6] at e9; exact e9
  have hR8 : li_R w w8 [q] := hR6.tr (li_R.ap gl8 gn8)
  refine va_putF (D := D) (ci := 7) (v := .ref a7) (ty := (.array .int)) (C := RX1) (T := TX1) (N := 6) hx hb hts uwj_X1 tyX1 tyX1_ok nmX1 hown hK hP hD hS q g8Y rfl 2 (by decide) (hts _ cwj235) (fun _ h9 => h9) rfl hin rfl (by decide +kernel) rfl rfl (Nat.le_of_ble_eq_true rfl) dj_X1_init_25 (fun H locs hP hD hS => ?_)
  obtain ⟨w9, ew9, g9, gl9, gn9⟩ := li_set g8Y (.inr (7, [.ref a1, .ref a4, .ref a7, .int 0, .int 0, .int 0]))
  have hP : va_P D vwCl w9 H := by rw [ew9]; exact hP
  have hD : va_D (va_A w s.heap.size) w9 := by rw [ew9]; exact hD
  have hn9 : w9.length = w.length + 3 := by omega
  have g9A1 := (gn9 w.length (by omega)).trans g8A1
  have g9A4 := (gn9 (w.length + 1) (by omega)).trans g8A4
  have g9A7 := (gn9 (w.length + 2) (by omega)).trans g8A7
  have hR9 : li_R w w9 [q] := hR8.tr (li_R.st g8Y (by simp) g9 gl9 gn9 ⟨rfl, rfl⟩)
  exact W.vret hx hb hr (fun t ht hW9 => ⟨⟨w9, rfl, ⟨⟨_, _, _, g9, g9A1, g9A4, g9A7⟩, hn9, hR9⟩, ⟨by rw [ht]; exact hP, hD⟩⟩, hS.F ht⟩) hS.2.2 dj_X1_init_28
set_option maxHeartbeats 4000000 in
theorem li_X2_init (l : Launch) (D : va_G) (tys : List (ClassId × FieldType)) (w : va_W) (sz e0 ca : Nat) (ad : li_ad) (hD0 : va_D (va_A w sz) w) (q y : Nat) (cI cX cZ cH cPl cII cCC cL : ClassId) (hTT : ct_T tys cI cX cZ cH cPl cII cCC cL) (hq : w[q]? = some (y, .inr (8, [.null, .int 0, .int 0, .int 0]))) : li_C l yX2_init cX2_init 1 none 1 1 20 2 [.ref y] D tys w sz e0 ca ad (fun res w1 => ct_2 cI w1 q y w.length ∧ w1.length = w.length + 1 ∧ li_R w w1 [q]) := by
  refine Met.ofW (cc := cX2_init) (maxL := 1) (ret := none) (by decide +kernel) rfl ?_
  intro p e s m args below meth c s₁ B9 hml hv
  obtain ⟨rfl, ⟨hsz, hP, hK, hT⟩, hL⟩ := hv
  subst hsz
  have hx := B9.exec
  have hb := B9.bytes
  have hr := B9.returns
  have hlocks := B9.notSynchronized
  have hts0 := atoms_spec (ws := Cond.code yX2_init cX2_init 1 none :: en_cw) B9.pre
  have hts : ∀ z ∈ en_cw, z.before _ s = true := fun z hz => hts0 z (List.mem_cons_of_mem _ hz)
  have hown : s.vm.findClass RX2 = some m.cls := findClass_of_methodNamed B9.named
  have hA : ∀ q : Nat, s.heap.size ≤ q → va_A w s.heap.size q := fun q h => Or.inr h
  have hS : va_S (va_A w s.heap.size) s.heap s.heap [] := va_S.rf
  have hD : va_D (va_A w s.heap.size) w := ⟨hD0.1, fun j z hz => Or.inl ⟨j, z.2, hz⟩⟩
  have hR9 : li_R w w [q] := li_R.rf
  have hl := lv_entry ([.ref y]) (n := 1) (Nat.le_of_ble_eq_true rfl)
  rw [lg_entry_eq]
  generalize (lg_sl ([.ref y]) ++ List.replicate (1 - (lg_sl ([.ref y])).length) Slot.unset).toArray = ls at hl ⊢
  have hl : lv_has ls 1 [(0, .ref y)] := hl
  have hin : meth.name = "<init>" := (name_of_methodNamed B9.named B9.method).1
  have hn0 : w.length = w.length + 0 := rfl
  obtain ⟨⟨ht0, ht1, ht2, ht3, ht4⟩, ht5, ht6, ht9⟩ := hTT
  have hLc := hL.2.2.2.2.2.2.2.2.2.2.2.2
  have ltY : q < w.length := (List.getElem?_eq_some_iff.mp hq).1
  refine lv_aload_n hx hb dj_X2_init_0 rfl (lv_at hl 0 rfl) ?_
  refine W.objInit hx hb hown (hts _ cwj262) (hts _ cwj117) (hts _ cwj118) rfl (by rw [hml]; exact hl.1) rfl dj_X2_init_1 (Nat.le_of_ble_eq_true rfl) (Nat.le_of_ble_eq_true rfl) ?_
  refine W.eq (g2 := F0 m 4 ls []) rfl ?_
  refine lv_aload_n hx hb dj_X2_init_4 rfl (lv_at hl 0 rfl) ?_
  refine lv_bipush (v := 20) hx hb dj_X2_init_5 (by decide) ?_
  refine va_newa (atype := .int) (ty := .int) (a0 := (20, .inl (fun _ => 0))) hx hb (hts _ cwj256) rfl hK hP hD hS hA (fun cA => rfl) (by decide) (N' := 20) (by decide) (by decide) (Nat.le_of_ble_eq_true rfl) (Nat.le_of_ble_eq_true rfl) dj_X2_init_7 (fun a1 cA1 H hK9 hP hD hS => ?_)
  have ec1 : cA1 = cI := li_cT hK hK9 ht0
  rw [ec1] at hP hD
  clear hK9
  obtain ⟨w2, ew2, g2, gl2, gn2⟩ := li_app w (a1, .inl (cI, 20, .inl (fun _ => 0)))
  rw [← ew2] at hP hD
  have hn2 : w2.length = w.length + 1 := by omega
  have g2Y := (gn2 q (by omega)).trans hq
  have g2A1 : w2[w.length]? = some (a1, .inl (cI, 20, .inl (fun _ => 0))) := by have e9 := g2; rw [show w.length = w.length from hn0] at e9; exact e9
  have hR2 : li_R w w2 [q] := hR9.tr (li_R.ap gl2 gn2)
  refine va_putF (D := D) (ci := 8) (v := .ref a1) (ty := (.array .int)) (C := RX2) (T := TX2) (N := 4) hx hb hts uwj_X2 tyX2 tyX2_ok nmX2 hown hK hP hD hS q g2Y rfl 0 (by decide) (hts _ cwj263) (fun _ h9 => h9) rfl hin rfl (by decide +kernel) rfl rfl (Nat.le_of_ble_eq_true rfl) dj_X2_init_9 (fun H locs hP hD hS => ?_)
  obtain ⟨w3, ew3, g3, gl3, gn3⟩ := li_set g2Y (.inr (8, [.ref a1, .int 0, .int 0, .int 0]))
  have hP : va_P D vwCl w3 H := by rw [ew3]; exact hP
  have hD : va_D (va_A w s.heap.size) w3 := by rw [ew3]; exact hD
  have hn3 : w3.length = w.length + 1 := by omega
  have g3A1 := (gn3 w.length (by omega)).trans g2A1
  have hR3 : li_R w w3 [q] := hR2.tr (li_R.st g2Y (by simp) g3 gl3 gn3 ⟨rfl, rfl⟩)
  exact W.vret hx hb hr (fun t ht hW9 => ⟨⟨w3, rfl, ⟨⟨_, g3, g3A1⟩, hn3, hR3⟩, ⟨by rw [ht]; exact hP, hD⟩⟩, hS.F ht⟩) hS.2.2 dj_X2_init_12
set_option maxHeartbeats 4000000 in
theorem li_X3_init (l : Launch) (D : va_G) (tys : List (ClassId × FieldType)) (w : va_W) (sz e0 ca : Nat) (ad : li_ad) (hD0 : va_D (va_A w sz) w) (q y : Nat) (cI cX cZ cH cPl cII cCC cL : ClassId) (hTT : ct_T tys cI cX cZ cH cPl cII cCC cL) (hq : w[q]? = some (y, .inr (9, [.null, .int 0, .int 0, .int 0, .int 0, .int 0]))) : li_C l yX3_init cX3_init 2 none 1 1 600 2 [.ref y] D tys w sz e0 ca ad (fun res w1 => ct_3 cX w1 q y w.length ∧ w1.length = w.length + 1 ∧ li_R w w1 [q]) := by
  refine Met.ofW (cc := cX3_init) (maxL := 2) (ret := none) (by decide +kernel) rfl ?_
  intro p e s m args below meth c s₁ B9 hml hv
  obtain ⟨rfl, ⟨hsz, hP, hK, hT⟩, hL⟩ := hv
  subst hsz
  have hx := B9.exec
  have hb := B9.bytes
  have hr := B9.returns
  have hlocks := B9.notSynchronized
  have hts0 := atoms_spec (ws := Cond.code yX3_init cX3_init 2 none :: en_cw) B9.pre
  have hts : ∀ z ∈ en_cw, z.before _ s = true := fun z hz => hts0 z (List.mem_cons_of_mem _ hz)
  have hown : s.vm.findClass RX3 = some m.cls := findClass_of_methodNamed B9.named
  have hA : ∀ q : Nat, s.heap.size ≤ q → va_A w s.heap.size q := fun q h => Or.inr h
  have hS : va_S (va_A w s.heap.size) s.heap s.heap [] := va_S.rf
  have hD : va_D (va_A w s.heap.size) w := ⟨hD0.1, fun j z hz => Or.inl ⟨j, z.2, hz⟩⟩
  have hR9 : li_R w w [q] := li_R.rf
  have hl := lv_entry ([.ref y]) (n := 2) (Nat.le_of_ble_eq_true rfl)
  rw [lg_entry_eq]
  generalize (lg_sl ([.ref y]) ++ List.replicate (2 - (lg_sl ([.ref y])).length) Slot.unset).toArray = ls at hl ⊢
  have hl : lv_has ls 2 [(0, .ref y)] := hl
  have hin : meth.name = "<init>" := (name_of_methodNamed B9.named B9.method).1
  have hn0 : w.length = w.length + 0 := rfl
  obtain ⟨⟨ht0, ht1, ht2, ht3, ht4⟩, ht5, ht6, ht9⟩ := hTT
  have hLc := hL.2.2.2.2.2.2.2.2.2.2.2.2
  have ltY : q < w.length := (List.getElem?_eq_some_iff.mp hq).1
  refine lv_aload_n hx hb dj_X3_init_0 rfl (lv_at hl 0 rfl) ?_
  refine W.objInit hx hb hown (hts _ cwj125) (hts _ cwj117) (hts _ cwj118) rfl (by rw [hml]; exact hl.1) rfl dj_X3_init_1 (Nat.le_of_ble_eq_true rfl) (Nat.le_of_ble_eq_true rfl) ?_
  refine W.eq (g2 := F0 m 4 ls []) rfl ?_
  refine lv_aload_n hx hb dj_X3_init_4 rfl (lv_at hl 0 rfl) ?_
  refine lv_sipush (v := 600) hx hb dj_X3_init_5 (by decide) ?_
  refine va_newa (atype := .char) (ty := .char) (a0 := (600, .inl (fun _ => 0))) hx hb (hts _ cwj147) rfl hK hP hD hS hA (fun cA => rfl) (by decide) (N' := 600) (by decide) (by decide) (Nat.le_of_ble_eq_true rfl) (Nat.le_of_ble_eq_true rfl) dj_X3_init_8 (fun a1 cA1 H hK9 hP hD hS => ?_)
  have ec1 : cA1 = cX := li_cT hK hK9 ht1
  rw [ec1] at hP hD
  clear hK9
  obtain ⟨w2, ew2, g2, gl2, gn2⟩ := li_app w (a1, .inl (cX, 600, .inl (fun _ => 0)))
  rw [← ew2] at hP hD
  have hn2 : w2.length = w.length + 1 := by omega
  have g2Y := (gn2 q (by omega)).trans hq
  have g2A1 : w2[w.length]? = some (a1, .inl (cX, 600, .inl (fun _ => 0))) := by have e9 := g2; rw [show w.length = w.length from hn0] at e9; exact e9
  have hR2 : li_R w w2 [q] := hR9.tr (li_R.ap gl2 gn2)
  refine va_putF (D := D) (ci := 9) (v := .ref a1) (ty := (.array .char)) (C := RX3) (T := TX3) (N := 6) hx hb hts uwj_X3 tyX3 tyX3_ok nmX3 hown hK hP hD hS q g2Y rfl 0 (by decide) (hts _ cwj126) (fun _ h9 => h9) rfl hin rfl (by decide +kernel) rfl rfl (Nat.le_of_ble_eq_true rfl) dj_X3_init_10 (fun H locs hP hD hS => ?_)
  obtain ⟨w3, ew3, g3, gl3, gn3⟩ := li_set g2Y (.inr (9, [.ref a1, .int 0, .int 0, .int 0, .int 0, .int 0]))
  have hP : va_P D vwCl w3 H := by rw [ew3]; exact hP
  have hD : va_D (va_A w s.heap.size) w3 := by rw [ew3]; exact hD
  have hn3 : w3.length = w.length + 1 := by omega
  have g3A1 := (gn3 w.length (by omega)).trans g2A1
  have hR3 : li_R w w3 [q] := hR2.tr (li_R.st g2Y (by simp) g3 gl3 gn3 ⟨rfl, rfl⟩)
  refine lv_iconst (v := 0) hx hb dj_X3_init_13 (by decide) ?_
  refine lv_istore_n (lv' := [(1, .int 0), (0, .ref y)]) hx hb dj_X3_init_14 rfl hl (by decide) rfl (fun ls hl => ?_)
  have loop : ∀ (d k : Nat), k + d = 600 → ∀ (wk : va_W) (H : Heap) (locs : List Loc) (ls : Array Slot) (f : Nat → Int32), wk.length = w.length + 1 → wk[q]? = some (y, .inr (9, [.ref a1, .int 0, .int 0, .int 0, .int 0, .int 0])) → wk[w.length]? = some (a1, .inl (cX, 600, .inl f)) → (∀ j, 0 ≤ (f j).toInt ∧ (f j).toInt ≤ 65535) → (∀ j, j < k → f j = 46) → li_R w wk [q] → va_P D vwCl wk H → va_D (va_A w s.heap.size) wk → va_S (va_A w s.heap.size) s.heap H locs → lv_has ls 2 [(1, .int (nI k)), (0, .ref y)] → W p l e (headSpec (Cond.code yX3_init cX3_init 2 none :: en_cw) (en_rm 1 (1, 600))).room s m #[.ref y] below meth c H locs 1 600 (MQ below (li_Q 2 D (fun res w1 => ct_3 cX w1 q y w.length ∧ w1.length = w.length + 1 ∧ li_R w w1 [q]) (va_A w s.heap.size)) #[.ref y] s 1 600 (va_A w s.heap.size)) (F0 m 15 ls []) := by
    intro d
    induction d with
    | zero =>
      intro k hk wk H locs ls f hn hY hA9 hf h46 hR hP hD hS hl
      refine lv_iload_n hx hb dj_X3_init_15 rfl (lv_at hl 0 rfl) ?_
      refine lv_sipush (v := 600) hx hb dj_X3_init_16 (by decide) ?_
      have e9 : k = 600 := by omega
      subst e9
      refine lv_icmp_ge (tgt := 36) hx hb dj_X3_init_19 (by decide) (fun _ => ?_) (fun c9 => absurd (nI_le (a := 600) (b := 600) (by omega) (by omega)) c9)
      exact W.vret hx hb hr (fun t ht hW9 => ⟨⟨wk, rfl, ⟨⟨_, f, hY, hA9, hf, h46⟩, hn, hR⟩, ⟨by rw [ht]; exact hP, hD⟩⟩, hS.F ht⟩) hS.2.2 dj_X3_init_36
    | succ d ih =>
      intro k hk wk H locs ls f hn hY hA9 hf h46 hR hP hD hS hl
      refine lv_iload_n hx hb dj_X3_init_15 rfl (lv_at hl 0 rfl) ?_
      refine lv_sipush (v := 600) hx hb dj_X3_init_16 (by decide) ?_
      refine lv_icmp_ge (tgt := 36) hx hb dj_X3_init_19 (by decide) (fun c9 => absurd c9 (nI_ge (a := k) (b := 600) (by omega) (by omega))) (fun _ => ?_)
      refine lv_aload_n hx hb dj_X3_init_22 rfl (lv_at hl 1 rfl) ?_
      refine va_get (D := D) (ci := 9) (v := .ref a1) (C := RX3) (T := TX3) (N := 6) hx hb hts uwj_X3 hown hK hP q hY rfl 0 (by decide) (hts _ cwj126) (fun _ h9 => h9) rfl dj_X3_init_23 ?_
      refine lv_iload_n hx hb dj_X3_init_26 rfl (lv_at hl 0 rfl) ?_
      refine lv_bipush (v := 46) hx hb dj_X3_init_27 (by decide) ?_
      refine va_cast hx hb hK hP hD hS w.length 1 hA9 ht1 (vp_in_nI (show k < 600 by omega) (by decide)) dj_X3_init_29 (fun H locs hP hD hS => ?_)
      obtain ⟨w4, ew4, g4, gl4, gn4⟩ := li_set hA9 (.inl (cX, 600, .inl (va_up f (nI k).toNatClampNeg (vp_nar .char 46))))
      have hP : va_P D vwCl w4 H := by rw [ew4]; exact hP
      have hD : va_D (va_A w s.heap.size) w4 := by rw [ew4]; exact hD
      have hn4 : w4.length = w.length + 1 := by omega
      have g4Y := (gn4 q (by omega)).trans hY
      have hR4 : li_R w w4 [q] := hR.sn hA9 (by omega) g4 gl4 gn4
      refine lv_iinc (v := nI (k + 1)) (lv' := [(1, .int (nI (k + 1))), (0, .ref y)]) hx hb dj_X3_init_30 hl (k := 0) rfl (nI_1 k) (by decide) rfl (fun ls hl => ?_)
      refine lv_goto (tgt := 15) hx hb dj_X3_init_33 (by decide) ?_
      exact ih (k + 1) (by omega) w4 H locs ls _ hn4 g4Y g4 (ct_up hf) (ct_u46 (by omega) h46) hR4 hP hD hS hl
  exact loop 600 0 (by decide) w3 H locs ls _ hn3 g3 g3A1 (fun _ => ⟨by decide, by decide⟩) (fun j hj => absurd hj (Nat.not_lt_zero j)) hR3 hP hD hS hl
set_option maxHeartbeats 4000000 in
theorem li_X4_init (l : Launch) (D : va_G) (tys : List (ClassId × FieldType)) (w : va_W) (sz e0 ca : Nat) (ad : li_ad) (hD0 : va_D (va_A w sz) w) (q y : Nat) (cI cX cZ cH cPl cII cCC cL : ClassId) (hTT : ct_T tys cI cX cZ cH cPl cII cCC cL) (hq : w[q]? = some (y, .inr (10, [.null, .int 0, .int 0, .int 0, .int 0, .int 0]))) : li_C l yX4_init cX4_init 1 none 1 1 16 2 [.ref y] D tys w sz e0 ca ad (fun res w1 => ct_4 w1 q y w.length ∧ w1.length = w.length + 1 ∧ li_R w w1 [q]) := by
  refine Met.ofW (cc := cX4_init) (maxL := 1) (ret := none) (by decide +kernel) rfl ?_
  intro p e s m args below meth c s₁ B9 hml hv
  obtain ⟨rfl, ⟨hsz, hP, hK, hT⟩, hL⟩ := hv
  subst hsz
  have hx := B9.exec
  have hb := B9.bytes
  have hr := B9.returns
  have hlocks := B9.notSynchronized
  have hts0 := atoms_spec (ws := Cond.code yX4_init cX4_init 1 none :: en_cw) B9.pre
  have hts : ∀ z ∈ en_cw, z.before _ s = true := fun z hz => hts0 z (List.mem_cons_of_mem _ hz)
  have hown : s.vm.findClass RX4 = some m.cls := findClass_of_methodNamed B9.named
  have hA : ∀ q : Nat, s.heap.size ≤ q → va_A w s.heap.size q := fun q h => Or.inr h
  have hS : va_S (va_A w s.heap.size) s.heap s.heap [] := va_S.rf
  have hD : va_D (va_A w s.heap.size) w := ⟨hD0.1, fun j z hz => Or.inl ⟨j, z.2, hz⟩⟩
  have hR9 : li_R w w [q] := li_R.rf
  have hl := lv_entry ([.ref y]) (n := 1) (Nat.le_of_ble_eq_true rfl)
  rw [lg_entry_eq]
  generalize (lg_sl ([.ref y]) ++ List.replicate (1 - (lg_sl ([.ref y])).length) Slot.unset).toArray = ls at hl ⊢
  have hl : lv_has ls 1 [(0, .ref y)] := hl
  have hin : meth.name = "<init>" := (name_of_methodNamed B9.named B9.method).1
  have hn0 : w.length = w.length + 0 := rfl
  obtain ⟨⟨ht0, ht1, ht2, ht3, ht4⟩, ht5, ht6, ht9⟩ := hTT
  have hLc := hL.2.2.2.2.2.2.2.2.2.2.2.2
  have ltY : q < w.length := (List.getElem?_eq_some_iff.mp hq).1
  refine lv_aload_n hx hb dj_X4_init_0 rfl (lv_at hl 0 rfl) ?_
  refine W.objInit hx hb hown (hts _ cwj300) (hts _ cwj117) (hts _ cwj118) rfl (by rw [hml]; exact hl.1) rfl dj_X4_init_1 (Nat.le_of_ble_eq_true rfl) (Nat.le_of_ble_eq_true rfl) ?_
  refine W.eq (g2 := F0 m 4 ls []) rfl ?_
  refine lv_aload_n hx hb dj_X4_init_4 rfl (lv_at hl 0 rfl) ?_
  refine va_new (ci := 6) (fs := [.int 0, .int 0, .int 0, .int 0, .int 0, .int 0, .int 0, .int 0, .int 0, .int 0, .int 0, .int 0, .int 0, .int 0, .int 0, .int 0]) (C := RX0) (T := TX0) (N := 16) hx hb hts uwj_X0 tyX0 tyX0_ok hown (hts _ cwj301) (hts _ cwj156) (hts _ cwj78) hK hP hD hS hA rfl (fun j hj => match j, hj with | 0, _ => rfl | 1, _ => rfl | 2, _ => rfl | 3, _ => rfl | 4, _ => rfl | 5, _ => rfl | 6, _ => rfl | 7, _ => rfl | 8, _ => rfl | 9, _ => rfl | 10, _ => rfl | 11, _ => rfl | 12, _ => rfl | 13, _ => rfl | 14, _ => rfl | 15, _ => rfl | n + 16, h => absurd h (by omega)) (Nat.le_of_ble_eq_true rfl) (Nat.le_of_ble_eq_true rfl) dj_X4_init_5 (fun a1 H hP hD hS => ?_)
  obtain ⟨w2, ew2, g2, gl2, gn2⟩ := li_app w (a1, .inr (6, [.int 0, .int 0, .int 0, .int 0, .int 0, .int 0, .int 0, .int 0, .int 0, .int 0, .int 0, .int 0, .int 0, .int 0, .int 0, .int 0]))
  rw [← ew2] at hP hD
  have hn2 : w2.length = w.length + 1 := by omega
  have g2Y := (gn2 q (by omega)).trans hq
  have g2O1 : w2[w.length]? = some (a1, .inr (6, [.int 0, .int 0, .int 0, .int 0, .int 0, .int 0, .int 0, .int 0, .int 0, .int 0, .int 0, .int 0, .int 0, .int 0, .int 0, .int 0])) := by have e9 := g2; rw [show w.length = w.length from hn0] at e9; exact e9
  have hR2 : li_R w w2 [q] := hR9.tr (li_R.ap gl2 gn2)
  refine lv_dup hx hb dj_X4_init_8 rfl ?_
  refine li_cIN (As := []) (rest := [.ref a1, .ref y]) (li_X0_init l D tys w2 _ e0 ca ad (⟨hD.1, fun j z hz => Or.inl ⟨j, z.2, hz⟩⟩ : va_D (va_A w2 H.size) w2) a1) gjn_X0_init hLc.2.2.2.2.2.2 rfl ⟨Nat.le_of_ble_eq_true rfl, Nat.le_of_ble_eq_true rfl⟩ ⟨Nat.le_of_ble_eq_true rfl, Nat.le_of_ble_eq_true rfl⟩ (Nat.le_of_ble_eq_true rfl) hx hb (hml.trans hl.1.symm) hts hown hK hT hL hP hD hS hA dj_X4_init_9 (fun res w3 H locs hrv hqq hP hD hS => ?_)
  obtain rfl := (show res = none from hrv)
  have hqq : w3 = w2 := hqq
  rw [hqq] at hP hD
  refine va_putF (D := D) (ci := 10) (v := .ref a1) (ty := (.object "FairwayChancery$Ball")) (C := RX4) (T := TX4) (N := 6) hx hb hts uwj_X4 tyX4 tyX4_ok nmX4 hown hK hP hD hS q g2Y rfl 0 (by decide) (hts _ cwj303) (fun _ h9 => h9) rfl hin rfl (by decide +kernel) rfl rfl (Nat.le_of_ble_eq_true rfl) dj_X4_init_12 (fun H locs hP hD hS => ?_)
  obtain ⟨w4, ew4, g4, gl4, gn4⟩ := li_set g2Y (.inr (10, [.ref a1, .int 0, .int 0, .int 0, .int 0, .int 0]))
  have hP : va_P D vwCl w4 H := by rw [ew4]; exact hP
  have hD : va_D (va_A w s.heap.size) w4 := by rw [ew4]; exact hD
  have hn4 : w4.length = w.length + 1 := by omega
  have g4O1 := (gn4 w.length (by omega)).trans g2O1
  have hR4 : li_R w w4 [q] := hR2.tr (li_R.st g2Y (by simp) g4 gl4 gn4 ⟨rfl, rfl⟩)
  refine lv_aload_n hx hb dj_X4_init_15 rfl (lv_at hl 0 rfl) ?_
  refine lv_iconst (v := (-1)) hx hb dj_X4_init_16 (by decide) ?_
  refine va_put (D := D) (ci := 10) (v := .int (-1)) (ty := .int) (C := RX4) (T := TX4) (N := 6) hx hb hts uwj_X4 tyX4 tyX4_ok nmX4 hown hK hP hD hS q g4 rfl 1 (by decide) (hts _ cwj305) (fun _ h9 => h9) rfl (by decide +kernel) rfl rfl (Nat.le_of_ble_eq_true rfl) dj_X4_init_17 (fun H locs hP hD hS => ?_)
  obtain ⟨w5, ew5, g5, gl5, gn5⟩ := li_set g4 (.inr (10, [.ref a1, .int (-1), .int 0, .int 0, .int 0, .int 0]))
  have hP : va_P D vwCl w5 H := by rw [ew5]; exact hP
  have hD : va_D (va_A w s.heap.size) w5 := by rw [ew5]; exact hD
  have hn5 : w5.length = w.length + 1 := by omega
  have g5O1 := (gn5 w.length (by omega)).trans g4O1
  have hR5 : li_R w w5 [q] := hR4.tr (li_R.st g4 (by simp) g5 gl5 gn5 ⟨rfl, rfl⟩)
  exact W.vret hx hb hr (fun t ht hW9 => ⟨⟨w5, rfl, ⟨⟨_, g5, g5O1⟩, hn5, hR5⟩, ⟨by rw [ht]; exact hP, hD⟩⟩, hS.F ht⟩) hS.2.2 dj_X4_init_20
set_option maxHeartbeats 4000000 in
theorem li_X5_init (l : Launch) (D : va_G) (tys : List (ClassId × FieldType)) (w : va_W) (sz e0 ca : Nat) (ad : li_ad) (hD0 : va_D (va_A w sz) w) (q y : Nat) (cI cX cZ cH cPl cII cCC cL : ClassId) (hTT : ct_T tys cI cX cZ cH cPl cII cCC cL) (hq : w[q]? = some (y, .inr (11, [.null, .null, .null, .int 0]))) : li_C l yX5_init cX5_init 1 none 3 7 73 2 [.ref y] D tys w sz e0 ca ad (fun res w1 => ct_5 cI w1 q y w.length ∧ w1.length = w.length + 7 ∧ li_R w w1 [q]) := by
  have hTT9 := hTT
  refine Met.ofW (cc := cX5_init) (maxL := 1) (ret := none) (by decide +kernel) rfl ?_
  intro p e s m args below meth c s₁ B9 hml hv
  obtain ⟨rfl, ⟨hsz, hP, hK, hT⟩, hL⟩ := hv
  subst hsz
  have hx := B9.exec
  have hb := B9.bytes
  have hr := B9.returns
  have hlocks := B9.notSynchronized
  have hts0 := atoms_spec (ws := Cond.code yX5_init cX5_init 1 none :: en_cw) B9.pre
  have hts : ∀ z ∈ en_cw, z.before _ s = true := fun z hz => hts0 z (List.mem_cons_of_mem _ hz)
  have hown : s.vm.findClass RX5 = some m.cls := findClass_of_methodNamed B9.named
  have hA : ∀ q : Nat, s.heap.size ≤ q → va_A w s.heap.size q := fun q h => Or.inr h
  have hS : va_S (va_A w s.heap.size) s.heap s.heap [] := va_S.rf
  have hD : va_D (va_A w s.heap.size) w := ⟨hD0.1, fun j z hz => Or.inl ⟨j, z.2, hz⟩⟩
  have hR9 : li_R w w [q] := li_R.rf
  have hl := lv_entry ([.ref y]) (n := 1) (Nat.le_of_ble_eq_true rfl)
  rw [lg_entry_eq]
  generalize (lg_sl ([.ref y]) ++ List.replicate (1 - (lg_sl ([.ref y])).length) Slot.unset).toArray = ls at hl ⊢
  have hl : lv_has ls 1 [(0, .ref y)] := hl
  have hin : meth.name = "<init>" := (name_of_methodNamed B9.named B9.method).1
  have hn0 : w.length = w.length + 0 := rfl
  obtain ⟨⟨ht0, ht1, ht2, ht3, ht4⟩, ht5, ht6, ht9⟩ := hTT
  have hLc := hL.2.2.2.2.2.2.2.2.2.2.2.2
  have ltY : q < w.length := (List.getElem?_eq_some_iff.mp hq).1
  refine lv_aload_n hx hb dj_X5_init_0 rfl (lv_at hl 0 rfl) ?_
  refine W.objInit hx hb hown (hts _ cwj154) (hts _ cwj117) (hts _ cwj118) rfl (by rw [hml]; exact hl.1) rfl dj_X5_init_1 (Nat.le_of_ble_eq_true rfl) (Nat.le_of_ble_eq_true rfl) ?_
  refine W.eq (g2 := F0 m 4 ls []) rfl ?_
  refine lv_aload_n hx hb dj_X5_init_4 rfl (lv_at hl 0 rfl) ?_
  refine va_new (ci := 6) (fs := [.int 0, .int 0, .int 0, .int 0, .int 0, .int 0, .int 0, .int 0, .int 0, .int 0, .int 0, .int 0, .int 0, .int 0, .int 0, .int 0]) (C := RX0) (T := TX0) (N := 16) hx hb hts uwj_X0 tyX0 tyX0_ok hown (hts _ cwj155) (hts _ cwj156) (hts _ cwj78) hK hP hD hS hA rfl (fun j hj => match j, hj with | 0, _ => rfl | 1, _ => rfl | 2, _ => rfl | 3, _ => rfl | 4, _ => rfl | 5, _ => rfl | 6, _ => rfl | 7, _ => rfl | 8, _ => rfl | 9, _ => rfl | 10, _ => rfl | 11, _ => rfl | 12, _ => rfl | 13, _ => rfl | 14, _ => rfl | 15, _ => rfl | n + 16, h => absurd h (by omega)) (Nat.le_of_ble_eq_true rfl) (Nat.le_of_ble_eq_true rfl) dj_X5_init_5 (fun a1 H hP hD hS => ?_)
  obtain ⟨w2, ew2, g2, gl2, gn2⟩ := li_app w (a1, .inr (6, [.int 0, .int 0, .int 0, .int 0, .int 0, .int 0, .int 0, .int 0, .int 0, .int 0, .int 0, .int 0, .int 0, .int 0, .int 0, .int 0]))
  rw [← ew2] at hP hD
  have hn2 : w2.length = w.length + 1 := by omega
  have g2Y := (gn2 q (by omega)).trans hq
  have g2O1 : w2[w.length]? = some (a1, .inr (6, [.int 0, .int 0, .int 0, .int 0, .int 0, .int 0, .int 0, .int 0, .int 0, .int 0, .int 0, .int 0, .int 0, .int 0, .int 0, .int 0])) := by have e9 := g2; rw [show w.length = w.length from hn0] at e9; exact e9
  have hR2 : li_R w w2 [q] := hR9.tr (li_R.ap gl2 gn2)
  refine lv_dup hx hb dj_X5_init_8 rfl ?_
  refine li_cIN (As := []) (rest := [.ref a1, .ref y]) (li_X0_init l D tys w2 _ e0 ca ad (⟨hD.1, fun j z hz => Or.inl ⟨j, z.2, hz⟩⟩ : va_D (va_A w2 H.size) w2) a1) gjn_X0_init hLc.2.2.2.2.2.1 rfl ⟨Nat.le_of_ble_eq_true rfl, Nat.le_of_ble_eq_true rfl⟩ ⟨Nat.le_of_ble_eq_true rfl, Nat.le_of_ble_eq_true rfl⟩ (Nat.le_of_ble_eq_true rfl) hx hb (hml.trans hl.1.symm) hts hown hK hT hL hP hD hS hA dj_X5_init_9 (fun res w3 H locs hrv hqq hP hD hS => ?_)
  obtain rfl := (show res = none from hrv)
  have hqq : w3 = w2 := hqq
  rw [hqq] at hP hD
  refine va_putF (D := D) (ci := 11) (v := .ref a1) (ty := (.object "FairwayChancery$Ball")) (C := RX5) (T := TX5) (N := 4) hx hb hts uwj_X5 tyX5 tyX5_ok nmX5 hown hK hP hD hS q g2Y rfl 0 (by decide) (hts _ cwj279) (fun _ h9 => h9) rfl hin rfl (by decide +kernel) rfl rfl (Nat.le_of_ble_eq_true rfl) dj_X5_init_12 (fun H locs hP hD hS => ?_)
  obtain ⟨w4, ew4, g4, gl4, gn4⟩ := li_set g2Y (.inr (11, [.ref a1, .null, .null, .int 0]))
  have hP : va_P D vwCl w4 H := by rw [ew4]; exact hP
  have hD : va_D (va_A w s.heap.size) w4 := by rw [ew4]; exact hD
  have hn4 : w4.length = w.length + 1 := by omega
  have g4O1 := (gn4 w.length (by omega)).trans g2O1
  have hR4 : li_R w w4 [q] := hR2.tr (li_R.st g2Y (by simp) g4 gl4 gn4 ⟨rfl, rfl⟩)
  refine lv_aload_n hx hb dj_X5_init_15 rfl (lv_at hl 0 rfl) ?_
  refine va_new (ci := 7) (fs := [.null, .null, .null, .int 0, .int 0, .int 0]) (C := RX1) (T := TX1) (N := 6) hx hb hts uwj_X1 tyX1 tyX1_ok hown (hts _ cwj225) (hts _ cwj226) (hts _ cwj79) hK hP hD hS hA rfl (fun j hj => match j, hj with | 0, _ => rfl | 1, _ => rfl | 2, _ => rfl | 3, _ => rfl | 4, _ => rfl | 5, _ => rfl | n + 6, h => absurd h (by omega)) (Nat.le_of_ble_eq_true rfl) (Nat.le_of_ble_eq_true rfl) dj_X5_init_16 (fun a5 H hP hD hS => ?_)
  obtain ⟨w6, ew6, g6, gl6, gn6⟩ := li_app w4 (a5, .inr (7, [.null, .null, .null, .int 0, .int 0, .int 0]))
  rw [← ew6] at hP hD
  have hn6 : w6.length = w.length + 2 := by omega
  have g6Y := (gn6 q (by omega)).trans g4
  have g6O1 := (gn6 w.length (by omega)).trans g4O1
  have g6O5 : w6[(w.length + 1)]? = some (a5, .inr (7, [.null, .null, .null, .int 0, .int 0, .int 0])) := by have e9 := g6; rw [show w4.length = (w.length + 1) from hn4] at e9; exact e9
  have hR6 : li_R w w6 [q] := hR4.tr (li_R.ap gl6 gn6)
  refine lv_dup hx hb dj_X5_init_19 rfl ?_
  refine li_cI (As := []) (rest := [.ref a5, .ref y]) (li_X1_init l D tys w6 _ e0 ca ad (⟨hD.1, fun j z hz => Or.inl ⟨j, z.2, hz⟩⟩ : va_D (va_A w6 H.size) w6) (w.length + 1) a5 cI cX cZ cH cPl cII cCC cL hTT9 g6O5) gj_X5_18 rfl ⟨Nat.le_of_ble_eq_true rfl, Nat.le_of_ble_eq_true rfl⟩ ⟨Nat.le_of_ble_eq_true rfl, Nat.le_of_ble_eq_true rfl⟩ (Nat.le_of_ble_eq_true rfl) hx hb (hml.trans hl.1.symm) hts hown hK hT hL hP hD hS hA dj_X5_init_20 (fun res w7 H locs hrv hqq hP hD hS => ?_)
  obtain rfl := (show res = none from hrv)
  obtain ⟨gc7, hl7, hRc7⟩ := hqq
  have hn7 : w7.length = w.length + 5 := by omega
  have g7Y := hRc7.at g6Y (by simp <;> omega)
  have g7O1 := hRc7.at g6O1 (by simp <;> omega)
  have gq7 : ct_1 cI w7 (w.length + 1) a5 (w.length + 2) := by have e9 := gc7; rw [show w6.length = (w.length + 2) from hn6] at e9; exact e9
  have hR7 : li_R w w7 [q] := hR6.nx hRc7 (by omega)
  refine va_putF (D := D) (ci := 11) (v := .ref a5) (ty := (.object "FairwayChancery$Card")) (C := RX5) (T := TX5) (N := 4) hx hb hts uwj_X5 tyX5 tyX5_ok nmX5 hown hK hP hD hS q g7Y rfl 1 (by decide) (hts _ cwj281) (fun _ h9 => h9) rfl hin rfl (by decide +kernel) rfl rfl (Nat.le_of_ble_eq_true rfl) dj_X5_init_23 (fun H locs hP hD hS => ?_)
  obtain ⟨w8, ew8, g8, gl8, gn8⟩ := li_set g7Y (.inr (11, [.ref a1, .ref a5, .null, .int 0]))
  have hP : va_P D vwCl w8 H := by rw [ew8]; exact hP
  have hD : va_D (va_A w s.heap.size) w8 := by rw [ew8]; exact hD
  have hn8 : w8.length = w.length + 5 := by omega
  have p8O5 := gq7.st (li_R.st (qs := [q]) g7Y (by simp) g8 gl8 gn8 ⟨rfl, rfl⟩) (fun z hz => by simp <;> omega)
  have g8O1 := (gn8 w.length (by omega)).trans g7O1
  have hR8 : li_R w w8 [q] := hR7.tr (li_R.st g7Y (by simp) g8 gl8 gn8 ⟨rfl, rfl⟩)
  refine lv_aload_n hx hb dj_X5_init_26 rfl (lv_at hl 0 rfl) ?_
  refine va_new (ci := 8) (fs := [.null, .int 0, .int 0, .int 0]) (C := RX2) (T := TX2) (N := 4) hx hb hts uwj_X2 tyX2 tyX2_ok hown (hts _ cwj257) (hts _ cwj258) (hts _ cwj80) hK hP hD hS hA rfl (fun j hj => match j, hj with | 0, _ => rfl | 1, _ => rfl | 2, _ => rfl | 3, _ => rfl | n + 4, h => absurd h (by omega)) (Nat.le_of_ble_eq_true rfl) (Nat.le_of_ble_eq_true rfl) dj_X5_init_27 (fun a9 H hP hD hS => ?_)
  obtain ⟨w10, ew10, g10, gl10, gn10⟩ := li_app w8 (a9, .inr (8, [.null, .int 0, .int 0, .int 0]))
  rw [← ew10] at hP hD
  have hn10 : w10.length = w.length + 6 := by omega
  have g10Y := (gn10 q (by omega)).trans g8
  have g10O1 := (gn10 w.length (by omega)).trans g8O1
  have p10O5 := p8O5.st (li_R.ap (qs := []) gl10 gn10) (fun z hz => by simp <;> omega)
  have g10O9 : w10[(w.length + 5)]? = some (a9, .inr (8, [.null, .int 0, .int 0, .int 0])) := by have e9 := g10; rw [show w8.length = (w.length + 5) from hn8] at e9; exact e9
  have hR10 : li_R w w10 [q] := hR8.tr (li_R.ap gl10 gn10)
  refine lv_dup hx hb dj_X5_init_30 rfl ?_
  refine li_cI (As := []) (rest := [.ref a9, .ref y]) (li_X2_init l D tys w10 _ e0 ca ad (⟨hD.1, fun j z hz => Or.inl ⟨j, z.2, hz⟩⟩ : va_D (va_A w10 H.size) w10) (w.length + 5) a9 cI cX cZ cH cPl cII cCC cL hTT9 g10O9) gj_X5_25 rfl ⟨Nat.le_of_ble_eq_true rfl, Nat.le_of_ble_eq_true rfl⟩ ⟨Nat.le_of_ble_eq_true rfl, Nat.le_of_ble_eq_true rfl⟩ (Nat.le_of_ble_eq_true rfl) hx hb (hml.trans hl.1.symm) hts hown hK hT hL hP hD hS hA dj_X5_init_31 (fun res w11 H locs hrv hqq hP hD hS => ?_)
  obtain rfl := (show res = none from hrv)
  obtain ⟨gc11, hl11, hRc11⟩ := hqq
  have hn11 : w11.length = w.length + 7 := by omega
  have g11Y := hRc11.at g10Y (by simp <;> omega)
  have g11O1 := hRc11.at g10O1 (by simp <;> omega)
  have p11O5 := p10O5.st hRc11 (fun z hz => by simp <;> omega)
  have gq11 : ct_2 cI w11 (w.length + 5) a9 (w.length + 6) := by have e9 := gc11; rw [show w10.length = (w.length + 6) from hn10] at e9; exact e9
  have hR11 : li_R w w11 [q] := hR10.nx hRc11 (by omega)
  refine va_putF (D := D) (ci := 11) (v := .ref a9) (ty := (.object "FairwayChancery$Form")) (C := RX5) (T := TX5) (N := 4) hx hb hts uwj_X5 tyX5 tyX5_ok nmX5 hown hK hP hD hS q g11Y rfl 2 (by decide) (hts _ cwj283) (fun _ h9 => h9) rfl hin rfl (by decide +kernel) rfl rfl (Nat.le_of_ble_eq_true rfl) dj_X5_init_34 (fun H locs hP hD hS => ?_)
  obtain ⟨w12, ew12, g12, gl12, gn12⟩ := li_set g11Y (.inr (11, [.ref a1, .ref a5, .ref a9, .int 0]))
  have hP : va_P D vwCl w12 H := by rw [ew12]; exact hP
  have hD : va_D (va_A w s.heap.size) w12 := by rw [ew12]; exact hD
  have hn12 : w12.length = w.length + 7 := by omega
  have p12O5 := p11O5.st (li_R.st (qs := [q]) g11Y (by simp) g12 gl12 gn12 ⟨rfl, rfl⟩) (fun z hz => by simp <;> omega)
  have p12O9 := gq11.st (li_R.st (qs := [q]) g11Y (by simp) g12 gl12 gn12 ⟨rfl, rfl⟩) (fun z hz => by simp <;> omega)
  have g12O1 := (gn12 w.length (by omega)).trans g11O1
  have hR12 : li_R w w12 [q] := hR11.tr (li_R.st g11Y (by simp) g12 gl12 gn12 ⟨rfl, rfl⟩)
  exact W.vret hx hb hr (fun t ht hW9 => ⟨⟨w12, rfl, ⟨⟨_, _, _, g12, g12O1, p12O5, p12O9⟩, hn12, hR12⟩, ⟨by rw [ht]; exact hP, hD⟩⟩, hS.F ht⟩) hS.2.2 dj_X5_init_37
set_option maxHeartbeats 4000000 in
theorem li_X6_init (l : Launch) (D : va_G) (tys : List (ClassId × FieldType)) (w : va_W) (sz e0 ca : Nat) (ad : li_ad) (hD0 : va_D (va_A w sz) w) (q y : Nat) (cI cX cZ cH cPl cII cCC cL : ClassId) (hTT : ct_T tys cI cX cZ cH cPl cII cCC cL) (hq : w[q]? = some (y, .inr (12, [.null, .null, .null, .null, .int 0, .int 0, .int 0, .int 0, .int 0, .int 0, .int 0, .int 0, .int 0, .int 0]))) : li_C l yX6_init cX6_init 2 none 5 71 5959 2 [.ref y] D tys w sz e0 ca ad (fun res w1 => ct_6 cI cX cH cPl w1 q y w.length ∧ w1.length = w.length + 71 ∧ li_R w w1 [q]) := by
  have hTT9 := hTT
  refine Met.ofW (cc := cX6_init) (maxL := 2) (ret := none) (by decide +kernel) rfl ?_
  intro p e s m args below meth c s₁ B9 hml hv
  obtain ⟨rfl, ⟨hsz, hP, hK, hT⟩, hL⟩ := hv
  subst hsz
  have hx := B9.exec
  have hb := B9.bytes
  have hr := B9.returns
  have hlocks := B9.notSynchronized
  have hts0 := atoms_spec (ws := Cond.code yX6_init cX6_init 2 none :: en_cw) B9.pre
  have hts : ∀ z ∈ en_cw, z.before _ s = true := fun z hz => hts0 z (List.mem_cons_of_mem _ hz)
  have hown : s.vm.findClass RX6 = some m.cls := findClass_of_methodNamed B9.named
  have hA : ∀ q : Nat, s.heap.size ≤ q → va_A w s.heap.size q := fun q h => Or.inr h
  have hS : va_S (va_A w s.heap.size) s.heap s.heap [] := va_S.rf
  have hD : va_D (va_A w s.heap.size) w := ⟨hD0.1, fun j z hz => Or.inl ⟨j, z.2, hz⟩⟩
  have hR9 : li_R w w [q] := li_R.rf
  have hl := lv_entry ([.ref y]) (n := 2) (Nat.le_of_ble_eq_true rfl)
  rw [lg_entry_eq]
  generalize (lg_sl ([.ref y]) ++ List.replicate (2 - (lg_sl ([.ref y])).length) Slot.unset).toArray = ls at hl ⊢
  have hl : lv_has ls 2 [(0, .ref y)] := hl
  have hin : meth.name = "<init>" := (name_of_methodNamed B9.named B9.method).1
  have hn0 : w.length = w.length + 0 := rfl
  obtain ⟨⟨ht0, ht1, ht2, ht3, ht4⟩, ht5, ht6, ht9⟩ := hTT
  have hLc := hL.2.2.2.2.2.2.2.2.2.2.2.2
  have ltY : q < w.length := (List.getElem?_eq_some_iff.mp hq).1
  refine lv_aload_n hx hb dj_X6_init_0 rfl (lv_at hl 0 rfl) ?_
  refine W.objInit hx hb hown (hts _ cwj116) (hts _ cwj117) (hts _ cwj118) rfl (by rw [hml]; exact hl.1) rfl dj_X6_init_1 (Nat.le_of_ble_eq_true rfl) (Nat.le_of_ble_eq_true rfl) ?_
  refine W.eq (g2 := F0 m 4 ls []) rfl ?_
  refine lv_aload_n hx hb dj_X6_init_4 rfl (lv_at hl 0 rfl) ?_
  refine lv_bipush (v := 9) hx hb dj_X6_init_5 (by decide) ?_
  refine va_newq hx hb hown (hts _ cwj119) hLc.1 hK hP hD hS hA (by decide) (N' := 9) (by decide) (by decide) (by show _ ≤ 71; omega) (by show _ ≤ 5959; omega) dj_X6_init_7 (fun a1 cA1 H hK9 hP hD hS => ?_)
  have ec1 : cA1 = cH := li_cT hK hK9 ht3
  rw [ec1] at hP hD
  clear hK9
  obtain ⟨w2, ew2, g2, gl2, gn2⟩ := li_app w (a1, .inl (cH, 9, .inr (.inr (.inr (.inr (fun _ => none))))))
  rw [← ew2] at hP hD
  have hn2 : w2.length = w.length + 1 := by omega
  have g2Y := (gn2 q (by omega)).trans hq
  have g2A1 : w2[w.length]? = some (a1, .inl (cH, 9, .inr (.inr (.inr (.inr (fun _ => none)))))) := by have e9 := g2; rw [show w.length = w.length from hn0] at e9; exact e9
  have hR2 : li_R w w2 [q] := hR9.tr (li_R.ap gl2 gn2)
  refine va_putF (D := D) (ci := 12) (v := .ref a1) (ty := (.array (.object "FairwayChancery$Hole"))) (C := RX6) (T := TX6) (N := 14) hx hb hts uwj_X6 tyX6 tyX6_ok nmX6 hown hK hP hD hS q g2Y rfl 0 (by decide) (hts _ cwj328) (fun _ h9 => h9) rfl hin rfl (by decide +kernel) rfl rfl (Nat.le_of_ble_eq_true rfl) dj_X6_init_10 (fun H locs hP hD hS => ?_)
  obtain ⟨w3, ew3, g3, gl3, gn3⟩ := li_set g2Y (.inr (12, [.ref a1, .null, .null, .null, .int 0, .int 0, .int 0, .int 0, .int 0, .int 0, .int 0, .int 0, .int 0, .int 0]))
  have hP : va_P D vwCl w3 H := by rw [ew3]; exact hP
  have hD : va_D (va_A w s.heap.size) w3 := by rw [ew3]; exact hD
  have hn3 : w3.length = w.length + 1 := by omega
  have g3A1 := (gn3 w.length (by omega)).trans g2A1
  have hR3 : li_R w w3 [q] := hR2.tr (li_R.st g2Y (by simp) g3 gl3 gn3 ⟨rfl, rfl⟩)
  refine lv_iconst (v := 0) hx hb dj_X6_init_13 (by decide) ?_
  refine lv_istore_n (lv' := [(1, .int 0), (0, .ref y)]) hx hb dj_X6_init_14 rfl hl (by decide) rfl (fun ls hl => ?_)
  have loop15 : ∀ (d k : Nat), k + d = 9 → ∀ (wk : va_W) (H : Heap) (locs : List Loc) (ls : Array Slot) (f15 : Nat → Option Nat), wk.length = w.length + (1 + 2 * k) → wk[q]? = some (y, .inr (12, [.ref a1, .null, .null, .null, .int 0, .int 0, .int 0, .int 0, .int 0, .int 0, .int 0, .int 0, .int 0, .int 0])) → wk[w.length]? = some (a1, .inl (cH, 9, .inr (.inr (.inr (.inr f15))))) → (∀ j, j < k → ∃ a, f15 j = some a ∧ ct_3 cX wk (w.length + (1 + 2 * j)) a (w.length + (1 + 2 * j + 1))) → li_R w wk [q] → va_P D vwCl wk H → va_D (va_A w s.heap.size) wk → va_S (va_A w s.heap.size) s.heap H locs → lv_has ls 2 [(1, .int (nI k)), (0, .ref y)] → W p l e (headSpec (Cond.code yX6_init cX6_init 2 none :: en_cw) (en_rm 5 (71, 5959))).room s m #[.ref y] below meth c H locs (1 + 2 * k) (9 + 606 * k) (MQ below (li_Q 2 D (fun res w1 => ct_6 cI cX cH cPl w1 q y w.length ∧ w1.length = w.length + 71 ∧ li_R w w1 [q]) (va_A w s.heap.size)) #[.ref y] s 71 5959 (va_A w s.heap.size)) (F0 m 15 ls []) := by
    intro d
    induction d with
    | zero =>
      intro k hk wk H locs ls f15 hn hY hA9 hf hR hP hD hS hl
      refine lv_iload_n hx hb dj_X6_init_15 rfl (lv_at hl 0 rfl) ?_
      refine lv_bipush (v := 9) hx hb dj_X6_init_16 (by decide) ?_
      have e9 : k = 9 := by omega
      subst e9
      refine lv_icmp_ge (tgt := 40) hx hb dj_X6_init_18 (by decide) (fun _ => ?_) (fun c9 => absurd (nI_le (a := 9) (b := 9) (by omega) (by omega)) c9)
      refine lv_aload_n hx hb dj_X6_init_40 rfl (lv_at hl 1 rfl) ?_
      refine lv_bipush (v := 6) hx hb dj_X6_init_41 (by decide) ?_
      refine va_newq hx hb hown (hts _ cwj148) hLc.2.1 hK hP hD hS hA (by decide) (N' := 6) (by decide) (by decide) (by show _ ≤ 71; omega) (by show _ ≤ 5959; omega) dj_X6_init_43 (fun a4 cA4 H hK9 hP hD hS => ?_)
      have ec4 : cA4 = cPl := li_cT hK hK9 ht4
      rw [ec4] at hP hD
      clear hK9
      obtain ⟨w5, ew5, g5, gl5, gn5⟩ := li_app wk (a4, .inl (cPl, 6, .inr (.inr (.inr (.inr (fun _ => none))))))
      rw [← ew5] at hP hD
      have hn5 : w5.length = w.length + 20 := by omega
      have g5Y := (gn5 q (by omega)).trans hY
      have g5A1 := (gn5 w.length (by omega)).trans hA9
      have p5F15 := ct_all hf (fun j a hj u2 => u2.st (li_R.ap (qs := []) gl5 gn5) (fun z hz => by simp <;> omega))
      have g5A4 : w5[(w.length + 19)]? = some (a4, .inl (cPl, 6, .inr (.inr (.inr (.inr (fun _ => none)))))) := by have e9 := g5; rw [show wk.length = (w.length + 19) from hn] at e9; exact e9
      have hR5 : li_R w w5 [q] := hR.tr (li_R.ap gl5 gn5)
      refine va_putF (D := D) (ci := 12) (v := .ref a4) (ty := (.array (.object "FairwayChancery$Player"))) (C := RX6) (T := TX6) (N := 14) hx hb hts uwj_X6 tyX6 tyX6_ok nmX6 hown hK hP hD hS q g5Y rfl 1 (by decide) (hts _ cwj329) (fun _ h9 => h9) rfl hin rfl (by decide +kernel) rfl rfl (Nat.le_of_ble_eq_true rfl) dj_X6_init_46 (fun H locs hP hD hS => ?_)
      obtain ⟨w6, ew6, g6, gl6, gn6⟩ := li_set g5Y (.inr (12, [.ref a1, .ref a4, .null, .null, .int 0, .int 0, .int 0, .int 0, .int 0, .int 0, .int 0, .int 0, .int 0, .int 0]))
      have hP : va_P D vwCl w6 H := by rw [ew6]; exact hP
      have hD : va_D (va_A w s.heap.size) w6 := by rw [ew6]; exact hD
      have hn6 : w6.length = w.length + 20 := by omega
      have p6F15 := ct_all p5F15 (fun j a hj u2 => u2.st (li_R.st (qs := [q]) g5Y (by simp) g6 gl6 gn6 ⟨rfl, rfl⟩) (fun z hz => by simp <;> omega))
      have g6A1 := (gn6 w.length (by omega)).trans g5A1
      have g6A4 := (gn6 (w.length + 19) (by omega)).trans g5A4
      have hR6 : li_R w w6 [q] := hR5.tr (li_R.st g5Y (by simp) g6 gl6 gn6 ⟨rfl, rfl⟩)
      refine lv_iconst (v := 0) hx hb dj_X6_init_49 (by decide) ?_
      refine lv_istore_n (lv' := [(1, .int 0), (0, .ref y)]) hx hb dj_X6_init_50 rfl hl (by decide) rfl (fun ls hl => ?_)
      have loop51 : ∀ (d k : Nat), k + d = 6 → ∀ (wk : va_W) (H : Heap) (locs : List Loc) (ls : Array Slot) (f51 : Nat → Option Nat), wk.length = w.length + (20 + 8 * k) → wk[q]? = some (y, .inr (12, [.ref a1, .ref a4, .null, .null, .int 0, .int 0, .int 0, .int 0, .int 0, .int 0, .int 0, .int 0, .int 0, .int 0])) → wk[(w.length + 19)]? = some (a4, .inl (cPl, 6, .inr (.inr (.inr (.inr f51))))) → (∀ j, j < k → ∃ a, f51 j = some a ∧ ct_5 cI wk (w.length + (20 + 8 * j)) a (w.length + (20 + 8 * j + 1))) → (∀ j, j < 9 → ∃ a, f15 j = some a ∧ ct_3 cX wk (w.length + (1 + 2 * j)) a (w.length + (1 + 2 * j + 1))) → wk[w.length]? = some (a1, .inl (cH, 9, .inr (.inr (.inr (.inr f15))))) → li_R w wk [q] → va_P D vwCl wk H → va_D (va_A w s.heap.size) wk → va_S (va_A w s.heap.size) s.heap H locs → lv_has ls 2 [(1, .int (nI k)), (0, .ref y)] → W p l e (headSpec (Cond.code yX6_init cX6_init 2 none :: en_cw) (en_rm 5 (71, 5959))).room s m #[.ref y] below meth c H locs (20 + 8 * k) (5469 + 77 * k) (MQ below (li_Q 2 D (fun res w1 => ct_6 cI cX cH cPl w1 q y w.length ∧ w1.length = w.length + 71 ∧ li_R w w1 [q]) (va_A w s.heap.size)) #[.ref y] s 71 5959 (va_A w s.heap.size)) (F0 m 51 ls []) := by
        intro d
        induction d with
        | zero =>
          intro k hk wk H locs ls f51 hn hY hA9 hf hpF15 hcA1 hR hP hD hS hl
          refine lv_iload_n hx hb dj_X6_init_51 rfl (lv_at hl 0 rfl) ?_
          refine lv_bipush (v := 6) hx hb dj_X6_init_52 (by decide) ?_
          have e9 : k = 6 := by omega
          subst e9
          refine lv_icmp_ge (tgt := 76) hx hb dj_X6_init_54 (by decide) (fun _ => ?_) (fun c9 => absurd (nI_le (a := 6) (b := 6) (by omega) (by omega)) c9)
          refine lv_aload_n hx hb dj_X6_init_76 rfl (lv_at hl 1 rfl) ?_
          refine lv_bipush (v := 6) hx hb dj_X6_init_77 (by decide) ?_
          refine va_newa (atype := .int) (ty := .int) (a0 := (6, .inl (fun _ => 0))) hx hb (hts _ cwj256) rfl hK hP hD hS hA (fun cA => rfl) (by decide) (N' := 6) (by decide) (by decide) (by show _ ≤ 71; omega) (by show _ ≤ 5959; omega) dj_X6_init_79 (fun a7 cA7 H hK9 hP hD hS => ?_)
          have ec7 : cA7 = cI := li_cT hK hK9 ht0
          rw [ec7] at hP hD
          clear hK9
          obtain ⟨w8, ew8, g8, gl8, gn8⟩ := li_app wk (a7, .inl (cI, 6, .inl (fun _ => 0)))
          rw [← ew8] at hP hD
          have hn8 : w8.length = w.length + 69 := by omega
          have g8Y := (gn8 q (by omega)).trans hY
          have g8A4 := (gn8 (w.length + 19) (by omega)).trans hA9
          have g8A1 := (gn8 w.length (by omega)).trans hcA1
          have p8F15 := ct_all hpF15 (fun j a hj u2 => u2.st (li_R.ap (qs := []) gl8 gn8) (fun z hz => by simp <;> omega))
          have p8F51 := ct_all hf (fun j a hj u2 => u2.st (li_R.ap (qs := []) gl8 gn8) (fun z hz => by simp <;> omega))
          have g8A7 : w8[(w.length + 68)]? = some (a7, .inl (cI, 6, .inl (fun _ => 0))) := by have e9 := g8; rw [show wk.length = (w.length + 68) from hn] at e9; exact e9
          have hR8 : li_R w w8 [q] := hR.tr (li_R.ap gl8 gn8)
          refine va_putF (D := D) (ci := 12) (v := .ref a7) (ty := (.array .int)) (C := RX6) (T := TX6) (N := 14) hx hb hts uwj_X6 tyX6 tyX6_ok nmX6 hown hK hP hD hS q g8Y rfl 2 (by decide) (hts _ cwj330) (fun _ h9 => h9) rfl hin rfl (by decide +kernel) rfl rfl (Nat.le_of_ble_eq_true rfl) dj_X6_init_81 (fun H locs hP hD hS => ?_)
          obtain ⟨w9, ew9, g9, gl9, gn9⟩ := li_set g8Y (.inr (12, [.ref a1, .ref a4, .ref a7, .null, .int 0, .int 0, .int 0, .int 0, .int 0, .int 0, .int 0, .int 0, .int 0, .int 0]))
          have hP : va_P D vwCl w9 H := by rw [ew9]; exact hP
          have hD : va_D (va_A w s.heap.size) w9 := by rw [ew9]; exact hD
          have hn9 : w9.length = w.length + 69 := by omega
          have p9F15 := ct_all p8F15 (fun j a hj u2 => u2.st (li_R.st (qs := [q]) g8Y (by simp) g9 gl9 gn9 ⟨rfl, rfl⟩) (fun z hz => by simp <;> omega))
          have p9F51 := ct_all p8F51 (fun j a hj u2 => u2.st (li_R.st (qs := [q]) g8Y (by simp) g9 gl9 gn9 ⟨rfl, rfl⟩) (fun z hz => by simp <;> omega))
          have g9A4 := (gn9 (w.length + 19) (by omega)).trans g8A4
          have g9A1 := (gn9 w.length (by omega)).trans g8A1
          have g9A7 := (gn9 (w.length + 68) (by omega)).trans g8A7
          have hR9 : li_R w w9 [q] := hR8.tr (li_R.st g8Y (by simp) g9 gl9 gn9 ⟨rfl, rfl⟩)
          refine lv_aload_n hx hb dj_X6_init_84 rfl (lv_at hl 1 rfl) ?_
          refine va_new (ci := 10) (fs := [.null, .int 0, .int 0, .int 0, .int 0, .int 0]) (C := RX4) (T := TX4) (N := 6) hx hb hts uwj_X4 tyX4 tyX4_ok hown (hts _ cwj295) (hts _ cwj296) (hts _ cwj81) hK hP hD hS hA rfl (fun j hj => match j, hj with | 0, _ => rfl | 1, _ => rfl | 2, _ => rfl | 3, _ => rfl | 4, _ => rfl | 5, _ => rfl | n + 6, h => absurd h (by omega)) (by show _ ≤ 71; omega) (by show _ ≤ 5959; omega) dj_X6_init_85 (fun a10 H hP hD hS => ?_)
          obtain ⟨w11, ew11, g11, gl11, gn11⟩ := li_app w9 (a10, .inr (10, [.null, .int 0, .int 0, .int 0, .int 0, .int 0]))
          rw [← ew11] at hP hD
          have hn11 : w11.length = w.length + 70 := by omega
          have g11Y := (gn11 q (by omega)).trans g9
          have g11A4 := (gn11 (w.length + 19) (by omega)).trans g9A4
          have g11A1 := (gn11 w.length (by omega)).trans g9A1
          have g11A7 := (gn11 (w.length + 68) (by omega)).trans g9A7
          have p11F15 := ct_all p9F15 (fun j a hj u2 => u2.st (li_R.ap (qs := []) gl11 gn11) (fun z hz => by simp <;> omega))
          have p11F51 := ct_all p9F51 (fun j a hj u2 => u2.st (li_R.ap (qs := []) gl11 gn11) (fun z hz => by simp <;> omega))
          have g11O10 : w11[(w.length + 69)]? = some (a10, .inr (10, [.null, .int 0, .int 0, .int 0, .int 0, .int 0])) := by have e9 := g11; rw [show w9.length = (w.length + 69) from hn9] at e9; exact e9
          have hR11 : li_R w w11 [q] := hR9.tr (li_R.ap gl11 gn11)
          refine lv_dup hx hb dj_X6_init_88 rfl ?_
          refine li_cI (As := []) (rest := [.ref a10, .ref y]) (li_X4_init l D tys w11 _ e0 ca ad (⟨hD.1, fun j z hz => Or.inl ⟨j, z.2, hz⟩⟩ : va_D (va_A w11 H.size) w11) (w.length + 69) a10 cI cX cZ cH cPl cII cCC cL hTT9 g11O10) gj_X6_29 rfl ⟨Nat.le_of_ble_eq_true rfl, Nat.le_of_ble_eq_true rfl⟩ ⟨by show _ ≤ 71; omega, by show _ ≤ 5959; omega⟩ (Nat.le_of_ble_eq_true rfl) hx hb (hml.trans hl.1.symm) hts hown hK hT hL hP hD hS hA dj_X6_init_89 (fun res w12 H locs hrv hqq hP hD hS => ?_)
          obtain rfl := (show res = none from hrv)
          obtain ⟨gc12, hl12, hRc12⟩ := hqq
          have hn12 : w12.length = w.length + 71 := by omega
          have g12Y := hRc12.at g11Y (by simp <;> omega)
          have g12A4 := hRc12.at g11A4 (by simp <;> omega)
          have g12A1 := hRc12.at g11A1 (by simp <;> omega)
          have g12A7 := hRc12.at g11A7 (by simp <;> omega)
          have p12F15 := ct_all p11F15 (fun j a hj u2 => u2.st hRc12 (fun z hz => by simp <;> omega))
          have p12F51 := ct_all p11F51 (fun j a hj u2 => u2.st hRc12 (fun z hz => by simp <;> omega))
          have gq12 : ct_4 w12 (w.length + 69) a10 (w.length + 70) := by have e9 := gc12; rw [show w11.length = (w.length + 70) from hn11] at e9; exact e9
          have hR12 : li_R w w12 [q] := hR11.nx hRc12 (by omega)
          refine va_putF (D := D) (ci := 12) (v := .ref a10) (ty := (.object "FairwayChancery$Match")) (C := RX6) (T := TX6) (N := 14) hx hb hts uwj_X6 tyX6 tyX6_ok nmX6 hown hK hP hD hS q g12Y rfl 3 (by decide) (hts _ cwj331) (fun _ h9 => h9) rfl hin rfl (by decide +kernel) rfl rfl (Nat.le_of_ble_eq_true rfl) dj_X6_init_92 (fun H locs hP hD hS => ?_)
          obtain ⟨w13, ew13, g13, gl13, gn13⟩ := li_set g12Y (.inr (12, [.ref a1, .ref a4, .ref a7, .ref a10, .int 0, .int 0, .int 0, .int 0, .int 0, .int 0, .int 0, .int 0, .int 0, .int 0]))
          have hP : va_P D vwCl w13 H := by rw [ew13]; exact hP
          have hD : va_D (va_A w s.heap.size) w13 := by rw [ew13]; exact hD
          have hn13 : w13.length = w.length + 71 := by omega
          have p13F15 := ct_all p12F15 (fun j a hj u2 => u2.st (li_R.st (qs := [q]) g12Y (by simp) g13 gl13 gn13 ⟨rfl, rfl⟩) (fun z hz => by simp <;> omega))
          have p13F51 := ct_all p12F51 (fun j a hj u2 => u2.st (li_R.st (qs := [q]) g12Y (by simp) g13 gl13 gn13 ⟨rfl, rfl⟩) (fun z hz => by simp <;> omega))
          have p13O10 := gq12.st (li_R.st (qs := [q]) g12Y (by simp) g13 gl13 gn13 ⟨rfl, rfl⟩) (fun z hz => by simp <;> omega)
          have g13A4 := (gn13 (w.length + 19) (by omega)).trans g12A4
          have g13A1 := (gn13 w.length (by omega)).trans g12A1
          have g13A7 := (gn13 (w.length + 68) (by omega)).trans g12A7
          have hR13 : li_R w w13 [q] := hR12.tr (li_R.st g12Y (by simp) g13 gl13 gn13 ⟨rfl, rfl⟩)
          refine lv_aload_n hx hb dj_X6_init_95 rfl (lv_at hl 1 rfl) ?_
          refine lv_iconst (v := 1) hx hb dj_X6_init_96 (by decide) ?_
          refine va_put (D := D) (ci := 12) (v := .int 1) (ty := .int) (C := RX6) (T := TX6) (N := 14) hx hb hts uwj_X6 tyX6 tyX6_ok nmX6 hown hK hP hD hS q g13 rfl 6 (by decide) (hts _ cwj334) (fun _ h9 => h9) rfl (by decide +kernel) rfl rfl (Nat.le_of_ble_eq_true rfl) dj_X6_init_97 (fun H locs hP hD hS => ?_)
          obtain ⟨w14, ew14, g14, gl14, gn14⟩ := li_set g13 (.inr (12, [.ref a1, .ref a4, .ref a7, .ref a10, .int 0, .int 0, .int 1, .int 0, .int 0, .int 0, .int 0, .int 0, .int 0, .int 0]))
          have hP : va_P D vwCl w14 H := by rw [ew14]; exact hP
          have hD : va_D (va_A w s.heap.size) w14 := by rw [ew14]; exact hD
          have hn14 : w14.length = w.length + 71 := by omega
          have p14F15 := ct_all p13F15 (fun j a hj u2 => u2.st (li_R.st (qs := [q]) g13 (by simp) g14 gl14 gn14 ⟨rfl, rfl⟩) (fun z hz => by simp <;> omega))
          have p14F51 := ct_all p13F51 (fun j a hj u2 => u2.st (li_R.st (qs := [q]) g13 (by simp) g14 gl14 gn14 ⟨rfl, rfl⟩) (fun z hz => by simp <;> omega))
          have p14O10 := p13O10.st (li_R.st (qs := [q]) g13 (by simp) g14 gl14 gn14 ⟨rfl, rfl⟩) (fun z hz => by simp <;> omega)
          have g14A4 := (gn14 (w.length + 19) (by omega)).trans g13A4
          have g14A1 := (gn14 w.length (by omega)).trans g13A1
          have g14A7 := (gn14 (w.length + 68) (by omega)).trans g13A7
          have hR14 : li_R w w14 [q] := hR13.tr (li_R.st g13 (by simp) g14 gl14 gn14 ⟨rfl, rfl⟩)
          refine lv_aload_n hx hb dj_X6_init_100 rfl (lv_at hl 1 rfl) ?_
          refine lv_bipush (v := 110) hx hb dj_X6_init_101 (by decide) ?_
          refine va_put (D := D) (ci := 12) (v := .int 110) (ty := .char) (C := RX6) (T := TX6) (N := 14) hx hb hts uwj_X6 tyX6 tyX6_ok nmX6 hown hK hP hD hS q g14 rfl 7 (by decide) (hts _ cwj335) (fun _ h9 => h9) rfl (by decide +kernel) rfl rfl (Nat.le_of_ble_eq_true rfl) dj_X6_init_103 (fun H locs hP hD hS => ?_)
          obtain ⟨w15, ew15, g15, gl15, gn15⟩ := li_set g14 (.inr (12, [.ref a1, .ref a4, .ref a7, .ref a10, .int 0, .int 0, .int 1, .int 110, .int 0, .int 0, .int 0, .int 0, .int 0, .int 0]))
          have hP : va_P D vwCl w15 H := by rw [ew15]; exact hP
          have hD : va_D (va_A w s.heap.size) w15 := by rw [ew15]; exact hD
          have hn15 : w15.length = w.length + 71 := by omega
          have p15F15 := ct_all p14F15 (fun j a hj u2 => u2.st (li_R.st (qs := [q]) g14 (by simp) g15 gl15 gn15 ⟨rfl, rfl⟩) (fun z hz => by simp <;> omega))
          have p15F51 := ct_all p14F51 (fun j a hj u2 => u2.st (li_R.st (qs := [q]) g14 (by simp) g15 gl15 gn15 ⟨rfl, rfl⟩) (fun z hz => by simp <;> omega))
          have p15O10 := p14O10.st (li_R.st (qs := [q]) g14 (by simp) g15 gl15 gn15 ⟨rfl, rfl⟩) (fun z hz => by simp <;> omega)
          have g15A4 := (gn15 (w.length + 19) (by omega)).trans g14A4
          have g15A1 := (gn15 w.length (by omega)).trans g14A1
          have g15A7 := (gn15 (w.length + 68) (by omega)).trans g14A7
          have hR15 : li_R w w15 [q] := hR14.tr (li_R.st g14 (by simp) g15 gl15 gn15 ⟨rfl, rfl⟩)
          refine lv_aload_n hx hb dj_X6_init_106 rfl (lv_at hl 1 rfl) ?_
          refine lv_bipush (v := 115) hx hb dj_X6_init_107 (by decide) ?_
          refine va_put (D := D) (ci := 12) (v := .int 115) (ty := .char) (C := RX6) (T := TX6) (N := 14) hx hb hts uwj_X6 tyX6 tyX6_ok nmX6 hown hK hP hD hS q g15 rfl 9 (by decide) (hts _ cwj337) (fun _ h9 => h9) rfl (by decide +kernel) rfl rfl (Nat.le_of_ble_eq_true rfl) dj_X6_init_109 (fun H locs hP hD hS => ?_)
          obtain ⟨w16, ew16, g16, gl16, gn16⟩ := li_set g15 (.inr (12, [.ref a1, .ref a4, .ref a7, .ref a10, .int 0, .int 0, .int 1, .int 110, .int 0, .int 115, .int 0, .int 0, .int 0, .int 0]))
          have hP : va_P D vwCl w16 H := by rw [ew16]; exact hP
          have hD : va_D (va_A w s.heap.size) w16 := by rw [ew16]; exact hD
          have hn16 : w16.length = w.length + 71 := by omega
          have p16F15 := ct_all p15F15 (fun j a hj u2 => u2.st (li_R.st (qs := [q]) g15 (by simp) g16 gl16 gn16 ⟨rfl, rfl⟩) (fun z hz => by simp <;> omega))
          have p16F51 := ct_all p15F51 (fun j a hj u2 => u2.st (li_R.st (qs := [q]) g15 (by simp) g16 gl16 gn16 ⟨rfl, rfl⟩) (fun z hz => by simp <;> omega))
          have p16O10 := p15O10.st (li_R.st (qs := [q]) g15 (by simp) g16 gl16 gn16 ⟨rfl, rfl⟩) (fun z hz => by simp <;> omega)
          have g16A4 := (gn16 (w.length + 19) (by omega)).trans g15A4
          have g16A1 := (gn16 w.length (by omega)).trans g15A1
          have g16A7 := (gn16 (w.length + 68) (by omega)).trans g15A7
          have hR16 : li_R w w16 [q] := hR15.tr (li_R.st g15 (by simp) g16 gl16 gn16 ⟨rfl, rfl⟩)
          refine W.widen (k := 71) (n := 5959) (by decide) (by decide) ?_
          exact W.vret hx hb hr (fun t ht hW9 => ⟨⟨w16, rfl, ⟨⟨_, _, _, _, _, _, g16, g16A1, p16F15, g16A4, p16F51, g16A7, p16O10⟩, hn16, hR16⟩, ⟨by rw [ht]; exact hP, hD⟩⟩, hS.F ht⟩) hS.2.2 dj_X6_init_112
        | succ d ih =>
          intro k hk wk H locs ls f51 hn hY hA9 hf hpF15 hcA1 hR hP hD hS hl
          refine lv_iload_n hx hb dj_X6_init_51 rfl (lv_at hl 0 rfl) ?_
          refine lv_bipush (v := 6) hx hb dj_X6_init_52 (by decide) ?_
          refine lv_icmp_ge (tgt := 76) hx hb dj_X6_init_54 (by decide) (fun c9 => absurd c9 (nI_ge (a := k) (b := 6) (by omega) (by omega))) (fun _ => ?_)
          refine lv_aload_n hx hb dj_X6_init_57 rfl (lv_at hl 1 rfl) ?_
          refine va_get (D := D) (ci := 12) (v := .ref a4) (C := RX6) (T := TX6) (N := 14) hx hb hts uwj_X6 hown hK hP q hY rfl 1 (by decide) (hts _ cwj329) (fun _ h9 => h9) rfl dj_X6_init_58 ?_
          refine lv_iload_n hx hb dj_X6_init_61 rfl (lv_at hl 0 rfl) ?_
          refine va_new (ci := 11) (fs := [.null, .null, .null, .int 0]) (C := RX5) (T := TX5) (N := 4) hx hb hts uwj_X5 tyX5 tyX5_ok hown (hts _ cwj148) (hts _ cwj150) (hts _ cwj77) hK hP hD hS hA rfl (fun j hj => match j, hj with | 0, _ => rfl | 1, _ => rfl | 2, _ => rfl | 3, _ => rfl | n + 4, h => absurd h (by omega)) (by show _ ≤ 71; omega) (by show _ ≤ 5959; omega) dj_X6_init_62 (fun a17 H hP hD hS => ?_)
          obtain ⟨w18, ew18, g18, gl18, gn18⟩ := li_app wk (a17, .inr (11, [.null, .null, .null, .int 0]))
          rw [← ew18] at hP hD
          have hn18 : w18.length = w.length + (20 + 8 * k + 1) := by omega
          have g18Y := (gn18 q (by omega)).trans hY
          have g18A4 := (gn18 (w.length + 19) (by omega)).trans hA9
          have g18A1 := (gn18 w.length (by omega)).trans hcA1
          have p18F15 := ct_all hpF15 (fun j a hj u2 => u2.st (li_R.ap (qs := []) gl18 gn18) (fun z hz => by simp <;> omega))
          have p18F := ct_all hf (fun j a hj u2 => u2.st (li_R.ap (qs := []) gl18 gn18) (fun z hz => by simp <;> omega))
          have g18O17 : w18[(w.length + (20 + 8 * k))]? = some (a17, .inr (11, [.null, .null, .null, .int 0])) := by have e9 := g18; rw [show wk.length = (w.length + (20 + 8 * k)) from hn] at e9; exact e9
          have hR18 : li_R w w18 [q] := hR.tr (li_R.ap gl18 gn18)
          refine lv_dup hx hb dj_X6_init_65 rfl ?_
          refine li_cI (As := []) (rest := [.ref a17, .int (nI k), .ref a4]) (li_X5_init l D tys w18 _ e0 ca ad (⟨hD.1, fun j z hz => Or.inl ⟨j, z.2, hz⟩⟩ : va_D (va_A w18 H.size) w18) (w.length + (20 + 8 * k)) a17 cI cX cZ cH cPl cII cCC cL hTT9 g18O17) gj_X6_22 rfl ⟨Nat.le_of_ble_eq_true rfl, Nat.le_of_ble_eq_true rfl⟩ ⟨by show _ ≤ 71; omega, by show _ ≤ 5959; omega⟩ (Nat.le_of_ble_eq_true rfl) hx hb (hml.trans hl.1.symm) hts hown hK hT hL hP hD hS hA dj_X6_init_66 (fun res w19 H locs hrv hqq hP hD hS => ?_)
          obtain rfl := (show res = none from hrv)
          obtain ⟨gc19, hl19, hRc19⟩ := hqq
          have hn19 : w19.length = w.length + (20 + 8 * k + 8) := by omega
          have g19Y := hRc19.at g18Y (by simp <;> omega)
          have g19A4 := hRc19.at g18A4 (by simp <;> omega)
          have g19A1 := hRc19.at g18A1 (by simp <;> omega)
          have p19F15 := ct_all p18F15 (fun j a hj u2 => u2.st hRc19 (fun z hz => by simp <;> omega))
          have p19F := ct_all p18F (fun j a hj u2 => u2.st hRc19 (fun z hz => by simp <;> omega))
          have gq19 : ct_5 cI w19 (w.length + (20 + 8 * k)) a17 (w.length + (20 + 8 * k + 1)) := by have e9 := gc19; rw [show w18.length = (w.length + (20 + 8 * k + 1)) from hn18] at e9; exact e9
          have hR19 : li_R w w19 [q] := hR18.nx hRc19 (by omega)
          obtain ⟨a8, b8, c8, hyo, -⟩ := id gq19
          refine va_astq hx hb hK hP hD hS (w.length + 19) 4 (w.length + (20 + 8 * k)) 11 g19A4 ht4 hyo rfl (vp_in_nI (show k < 6 by omega) (by decide)) dj_X6_init_69 (fun H locs hP hD hS => ?_)
          obtain ⟨w20, ew20, g20, gl20, gn20⟩ := li_set g19A4 (.inl (cPl, 6, .inr (.inr (.inr (.inr (va_up f51 (nI k).toNatClampNeg (some a17)))))))
          have hP : va_P D vwCl w20 H := by rw [ew20]; exact hP
          have hD : va_D (va_A w s.heap.size) w20 := by rw [ew20]; exact hD
          have hn20 : w20.length = w.length + (20 + 8 * k + 8) := by omega
          have p20F15 := ct_all p19F15 (fun j a hj u2 => u2.st (li_R.st (qs := [(w.length + 19)]) g19A4 (by simp) g20 gl20 gn20 ⟨rfl, rfl⟩) (fun z hz => by simp <;> omega))
          have p20F := ct_all p19F (fun j a hj u2 => u2.st (li_R.st (qs := [(w.length + 19)]) g19A4 (by simp) g20 gl20 gn20 ⟨rfl, rfl⟩) (fun z hz => by simp <;> omega))
          have p20O17 := gq19.st (li_R.st (qs := [(w.length + 19)]) g19A4 (by simp) g20 gl20 gn20 ⟨rfl, rfl⟩) (fun z hz => by simp <;> omega)
          have g20Y := (gn20 q (by omega)).trans g19Y
          have g20A1 := (gn20 w.length (by omega)).trans g19A1
          have hR20 : li_R w w20 [q] := hR19.sn g19A4 (by omega) g20 gl20 gn20
          refine lv_iinc (v := nI (k + 1)) (lv' := [(1, .int (nI (k + 1))), (0, .ref y)]) hx hb dj_X6_init_70 hl (k := 0) rfl (nI_1 k) (by decide) rfl (fun ls hl => ?_)
          refine lv_goto (tgt := 51) hx hb dj_X6_init_73 (by decide) ?_
          refine W.widen (k := 20 + 8 * (k + 1)) (n := 5469 + 77 * (k + 1)) (by omega) (by omega) ?_
          exact ih (k + 1) (by omega) w20 H locs ls _ (by omega) g20Y g20 (ct_ext (by omega) p20F p20O17) p20F15 g20A1 hR20 hP hD hS hl
      refine W.widen (k := 20 + 8 * 0) (n := 5469 + 77 * 0) (by omega) (by omega) ?_
      exact loop51 6 0 (by decide) w6 H locs ls _ (by omega) g6 g6A4 (fun j hj => absurd hj (Nat.not_lt_zero j)) p6F15 g6A1 hR6 hP hD hS hl
    | succ d ih =>
      intro k hk wk H locs ls f15 hn hY hA9 hf hR hP hD hS hl
      refine lv_iload_n hx hb dj_X6_init_15 rfl (lv_at hl 0 rfl) ?_
      refine lv_bipush (v := 9) hx hb dj_X6_init_16 (by decide) ?_
      refine lv_icmp_ge (tgt := 40) hx hb dj_X6_init_18 (by decide) (fun c9 => absurd c9 (nI_ge (a := k) (b := 9) (by omega) (by omega))) (fun _ => ?_)
      refine lv_aload_n hx hb dj_X6_init_21 rfl (lv_at hl 1 rfl) ?_
      refine va_get (D := D) (ci := 12) (v := .ref a1) (C := RX6) (T := TX6) (N := 14) hx hb hts uwj_X6 hown hK hP q hY rfl 0 (by decide) (hts _ cwj328) (fun _ h9 => h9) rfl dj_X6_init_22 ?_
      refine lv_iload_n hx hb dj_X6_init_25 rfl (lv_at hl 0 rfl) ?_
      refine va_new (ci := 9) (fs := [.null, .int 0, .int 0, .int 0, .int 0, .int 0]) (C := RX3) (T := TX3) (N := 6) hx hb hts uwj_X3 tyX3 tyX3_ok hown (hts _ cwj119) (hts _ cwj121) (hts _ cwj76) hK hP hD hS hA rfl (fun j hj => match j, hj with | 0, _ => rfl | 1, _ => rfl | 2, _ => rfl | 3, _ => rfl | 4, _ => rfl | 5, _ => rfl | n + 6, h => absurd h (by omega)) (by show _ ≤ 71; omega) (by show _ ≤ 5959; omega) dj_X6_init_26 (fun a21 H hP hD hS => ?_)
      obtain ⟨w22, ew22, g22, gl22, gn22⟩ := li_app wk (a21, .inr (9, [.null, .int 0, .int 0, .int 0, .int 0, .int 0]))
      rw [← ew22] at hP hD
      have hn22 : w22.length = w.length + (1 + 2 * k + 1) := by omega
      have g22Y := (gn22 q (by omega)).trans hY
      have g22A1 := (gn22 w.length (by omega)).trans hA9
      have p22F := ct_all hf (fun j a hj u2 => u2.st (li_R.ap (qs := []) gl22 gn22) (fun z hz => by simp <;> omega))
      have g22O21 : w22[(w.length + (1 + 2 * k))]? = some (a21, .inr (9, [.null, .int 0, .int 0, .int 0, .int 0, .int 0])) := by have e9 := g22; rw [show wk.length = (w.length + (1 + 2 * k)) from hn] at e9; exact e9
      have hR22 : li_R w w22 [q] := hR.tr (li_R.ap gl22 gn22)
      refine lv_dup hx hb dj_X6_init_29 rfl ?_
      refine li_cI (As := []) (rest := [.ref a21, .int (nI k), .ref a1]) (li_X3_init l D tys w22 _ e0 ca ad (⟨hD.1, fun j z hz => Or.inl ⟨j, z.2, hz⟩⟩ : va_D (va_A w22 H.size) w22) (w.length + (1 + 2 * k)) a21 cI cX cZ cH cPl cII cCC cL hTT9 g22O21) gj_X6_15 rfl ⟨Nat.le_of_ble_eq_true rfl, Nat.le_of_ble_eq_true rfl⟩ ⟨by show _ ≤ 71; omega, by show _ ≤ 5959; omega⟩ (Nat.le_of_ble_eq_true rfl) hx hb (hml.trans hl.1.symm) hts hown hK hT hL hP hD hS hA dj_X6_init_30 (fun res w23 H locs hrv hqq hP hD hS => ?_)
      obtain rfl := (show res = none from hrv)
      obtain ⟨gc23, hl23, hRc23⟩ := hqq
      have hn23 : w23.length = w.length + (1 + 2 * k + 2) := by omega
      have g23Y := hRc23.at g22Y (by simp <;> omega)
      have g23A1 := hRc23.at g22A1 (by simp <;> omega)
      have p23F := ct_all p22F (fun j a hj u2 => u2.st hRc23 (fun z hz => by simp <;> omega))
      have gq23 : ct_3 cX w23 (w.length + (1 + 2 * k)) a21 (w.length + (1 + 2 * k + 1)) := by have e9 := gc23; rw [show w22.length = (w.length + (1 + 2 * k + 1)) from hn22] at e9; exact e9
      have hR23 : li_R w w23 [q] := hR22.nx hRc23 (by omega)
      obtain ⟨a8, f8, hyo, -, -⟩ := id gq23
      refine va_astq hx hb hK hP hD hS w.length 3 (w.length + (1 + 2 * k)) 9 g23A1 ht3 hyo rfl (vp_in_nI (show k < 9 by omega) (by decide)) dj_X6_init_33 (fun H locs hP hD hS => ?_)
      obtain ⟨w24, ew24, g24, gl24, gn24⟩ := li_set g23A1 (.inl (cH, 9, .inr (.inr (.inr (.inr (va_up f15 (nI k).toNatClampNeg (some a21)))))))
      have hP : va_P D vwCl w24 H := by rw [ew24]; exact hP
      have hD : va_D (va_A w s.heap.size) w24 := by rw [ew24]; exact hD
      have hn24 : w24.length = w.length + (1 + 2 * k + 2) := by omega
      have p24F := ct_all p23F (fun j a hj u2 => u2.st (li_R.st (qs := [w.length]) g23A1 (by simp) g24 gl24 gn24 ⟨rfl, rfl⟩) (fun z hz => by simp <;> omega))
      have p24O21 := gq23.st (li_R.st (qs := [w.length]) g23A1 (by simp) g24 gl24 gn24 ⟨rfl, rfl⟩) (fun z hz => by simp <;> omega)
      have g24Y := (gn24 q (by omega)).trans g23Y
      have hR24 : li_R w w24 [q] := hR23.sn g23A1 (by omega) g24 gl24 gn24
      refine lv_iinc (v := nI (k + 1)) (lv' := [(1, .int (nI (k + 1))), (0, .ref y)]) hx hb dj_X6_init_34 hl (k := 0) rfl (nI_1 k) (by decide) rfl (fun ls hl => ?_)
      refine lv_goto (tgt := 15) hx hb dj_X6_init_37 (by decide) ?_
      refine W.widen (k := 1 + 2 * (k + 1)) (n := 9 + 606 * (k + 1)) (by omega) (by omega) ?_
      exact ih (k + 1) (by omega) w24 H locs ls _ (by omega) g24Y g24 (ct_ext (by omega) p24F p24O21) hR24 hP hD hS hl
  refine W.widen (k := 1 + 2 * 0) (n := 9 + 606 * 0) (by omega) (by omega) ?_
  exact loop15 9 0 (by decide) w3 H locs ls _ (by omega) g3 g3A1 (fun j hj => absurd hj (Nat.not_lt_zero j)) hR3 hP hD hS hl
