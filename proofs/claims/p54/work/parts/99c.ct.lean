set_option maxHeartbeats 4000000 in
theorem li_X7_init (l : Launch) (D : va_G) (tys : List (ClassId × FieldType)) (w : va_W) (sz e0 ca : Nat) (ad : li_ad) (hD0 : va_D (va_A w sz) w) (q y : Nat) (cI cX cZ cH cPl cII cCC cL : ClassId) (hTT : ct_T tys cI cX cZ cH cPl cII cCC cL) (hq : w[q]? = some (y, .inr (13, [.null, .null, .null, .null, .null, .null, .null, .null, .null, .null, .null, .null, .null, .null, .null, .null, .int 0, .int 0, .int 0, .int 0, .int 0, .int 0, .int 0, .int 0, .int 0, .int 0, .int 0, .int 0, .int 0, .int 0, .int 0]))) : li_C l yX7_init cX7_init 2 none 8 72 6200 2 [.ref y] D tys w sz e0 ca ad (fun res w1 => ct_7 cI cX cZ cII cCC cL e0 w1 q y w.length ∧ w1.length = w.length + 65 ∧ li_R w w1 [q]) := by
  have hTT9 := hTT
  refine Met.ofW (cc := cX7_init) (maxL := 2) (ret := none) (by decide +kernel) rfl ?_
  intro p e s m args below meth c s₁ B9 hml hv
  obtain ⟨rfl, ⟨hsz, hP, hK, hT⟩, hL⟩ := hv
  subst hsz
  have hx := B9.exec
  have hb := B9.bytes
  have hr := B9.returns
  have hlocks := B9.notSynchronized
  have hts0 := atoms_spec (ws := Cond.code yX7_init cX7_init 2 none :: en_cw) B9.pre
  have hts : ∀ z ∈ en_cw, z.before _ s = true := fun z hz => hts0 z (List.mem_cons_of_mem _ hz)
  have hown : s.vm.findClass RX7 = some m.cls := findClass_of_methodNamed B9.named
  have hA : ∀ q : Nat, s.heap.size ≤ q → va_A w s.heap.size q := fun q h => Or.inr h
  have hS : va_S (va_A w s.heap.size) s.heap s.heap [] := va_S.rf
  have hD : va_D (va_A w s.heap.size) w := ⟨hD0.1, fun j z hz => Or.inl ⟨j, z.2, hz⟩⟩
  have hR9 : li_R w w [q] := li_R.rf
  have hl := lv_entry ([.ref y]) (n := 2) (Nat.le_of_ble_eq_true rfl)
  rw [lg_entry_eq]
  generalize (lg_sl ([.ref y]) ++ List.replicate (2 - (lg_sl ([.ref y])).length) Slot.unset).toArray = ls at hl ⊢
  have hl : lv_has ls 2 [(0, .ref y)] := hl
  have hin : meth.name = "<init>" := (name_of_methodNamed B9.named B9.method).1
  have hn0 : w.length = w.length + 0 := rfl
  obtain ⟨⟨ht0, ht1, ht2, ht3, ht4⟩, ht5, ht6, ht9⟩ := hTT
  have hLc := hL.2.2.2.2.2.2.2.2.2.2.2.2
  have ltY : q < w.length := (List.getElem?_eq_some_iff.mp hq).1
  refine lv_aload_n hx hb dj_X7_init_0 rfl (lv_at hl 0 rfl) ?_
  refine W.objInit hx hb hown (hts _ cwj1400) (hts _ cwj117) (hts _ cwj118) rfl (by rw [hml]; exact hl.1) rfl dj_X7_init_1 (Nat.le_of_ble_eq_true rfl) (Nat.le_of_ble_eq_true rfl) ?_
  refine W.eq (g2 := F0 m 4 ls []) rfl ?_
  refine lv_aload_n hx hb dj_X7_init_4 rfl (lv_at hl 0 rfl) ?_
  refine lv_bipush (v := 9) hx hb dj_X7_init_5 (by decide) ?_
  refine lv_bipush (v := 7) hx hb dj_X7_init_7 (by decide) ?_
  refine ct_mna (N' := 9) (K' := 7) (ty := .int) (z := (7, .inl (fun _ => 0))) hx hb hown (by rw [show "[" ++ (FieldType.array .int).toString = "[[I" from by decide +kernel]; exact hts _ cwj1401) hLc.2.2.1 (hts _ cwj256) (va_RA_fc (hK.2 0 _ ht0).2) hK hP hD hS hA (by decide) (by decide) (by decide) (by decide) (by decide) (by decide) (by decide) rfl rfl (by show _ ≤ 72; omega) (by show _ ≤ 6200; omega) (fun c9 => arrV_new c9 7 (.int 0)) dj_X7_init_9 (fun a1 cA1 H w1 hK9 hl1 gn1 gr1 hP hD hS => ?_)
  have ec1 : cA1 = cII := li_cT hK hK9 ht5
  rw [ec1] at gr1
  clear hK9
  have gr1 : ct_rows cII cI w1 w.length a1 9 (7, .inl (fun _ => 0)) := by rw [show w.length = w.length from hn0] at gr1; exact gr1
  have g1Y := (gn1 q (by omega)).trans hq
  have hR1 : li_R w w1 [q] := hR9.tr (li_R.aps hl1 gn1)
  have hn1 : w1.length = w.length + 10 := by omega
  refine va_putF (D := D) (ci := 13) (v := .ref a1) (ty := (.array (.array .int))) (C := RX7) (T := TX7) (N := 31) hx hb hts uwj_X7 tyX7 tyX7_ok nmX7 hown hK hP hD hS q g1Y rfl 0 (by decide) (hts _ cwj1498) (fun _ h9 => h9) rfl hin rfl (by decide +kernel) rfl rfl (Nat.le_of_ble_eq_true rfl) dj_X7_init_13 (fun H locs hP hD hS => ?_)
  obtain ⟨w2, ew2, g2, gl2, gn2⟩ := li_set g1Y (.inr (13, [.ref a1, .null, .null, .null, .null, .null, .null, .null, .null, .null, .null, .null, .null, .null, .null, .null, .int 0, .int 0, .int 0, .int 0, .int 0, .int 0, .int 0, .int 0, .int 0, .int 0, .int 0, .int 0, .int 0, .int 0, .int 0]))
  have hP : va_P D vwCl w2 H := by rw [ew2]; exact hP
  have hD : va_D (va_A w s.heap.size) w2 := by rw [ew2]; exact hD
  have hn2 : w2.length = w.length + 10 := by omega
  have p2R1 := gr1.st (li_R.st (qs := [q]) g1Y (by simp) g2 gl2 gn2 ⟨rfl, rfl⟩) (fun z hz => by simp <;> omega)
  have hR2 : li_R w w2 [q] := hR1.tr (li_R.st g1Y (by simp) g2 gl2 gn2 ⟨rfl, rfl⟩)
  refine lv_aload_n hx hb dj_X7_init_16 rfl (lv_at hl 0 rfl) ?_
  refine lv_bipush (v := 9) hx hb dj_X7_init_17 (by decide) ?_
  refine lv_sipush (v := 600) hx hb dj_X7_init_19 (by decide) ?_
  refine ct_mna (N' := 9) (K' := 600) (ty := .char) (z := (600, .inl (fun _ => 0))) hx hb hown (by rw [show "[" ++ (FieldType.array .char).toString = "[[C" from by decide +kernel]; exact hts _ cwj1403) hLc.2.2.2.1 (hts _ cwj147) (va_RA_fc (hK.2 1 _ ht1).2) hK hP hD hS hA (by decide) (by decide) (by decide) (by decide) (by decide) (by decide) (by decide) rfl rfl (by show _ ≤ 72; omega) (by show _ ≤ 6200; omega) (fun c9 => arrV_new c9 600 (.int 0)) dj_X7_init_22 (fun a3 cA3 H w3 hK9 hl3 gn3 gr3 hP hD hS => ?_)
  have ec3 : cA3 = cCC := li_cT hK hK9 ht6
  rw [ec3] at gr3
  clear hK9
  have gr3 : ct_rows cCC cX w3 (w.length + 10) a3 9 (600, .inl (fun _ => 0)) := by rw [show w2.length = (w.length + 10) from hn2] at gr3; exact gr3
  have g3Y := (gn3 q (by omega)).trans g2
  have p3R1 := p2R1.st (li_R.aps (qs := []) hl3 gn3) (fun z hz => by simp <;> omega)
  have hR3 : li_R w w3 [q] := hR2.tr (li_R.aps hl3 gn3)
  have hn3 : w3.length = w.length + 20 := by omega
  refine va_putF (D := D) (ci := 13) (v := .ref a3) (ty := (.array (.array .char))) (C := RX7) (T := TX7) (N := 31) hx hb hts uwj_X7 tyX7 tyX7_ok nmX7 hown hK hP hD hS q g3Y rfl 1 (by decide) (hts _ cwj1499) (fun _ h9 => h9) rfl hin rfl (by decide +kernel) rfl rfl (Nat.le_of_ble_eq_true rfl) dj_X7_init_26 (fun H locs hP hD hS => ?_)
  obtain ⟨w4, ew4, g4, gl4, gn4⟩ := li_set g3Y (.inr (13, [.ref a1, .ref a3, .null, .null, .null, .null, .null, .null, .null, .null, .null, .null, .null, .null, .null, .null, .int 0, .int 0, .int 0, .int 0, .int 0, .int 0, .int 0, .int 0, .int 0, .int 0, .int 0, .int 0, .int 0, .int 0, .int 0]))
  have hP : va_P D vwCl w4 H := by rw [ew4]; exact hP
  have hD : va_D (va_A w s.heap.size) w4 := by rw [ew4]; exact hD
  have hn4 : w4.length = w.length + 20 := by omega
  have p4R1 := p3R1.st (li_R.st (qs := [q]) g3Y (by simp) g4 gl4 gn4 ⟨rfl, rfl⟩) (fun z hz => by simp <;> omega)
  have p4R3 := gr3.st (li_R.st (qs := [q]) g3Y (by simp) g4 gl4 gn4 ⟨rfl, rfl⟩) (fun z hz => by simp <;> omega)
  have hR4 : li_R w w4 [q] := hR3.tr (li_R.st g3Y (by simp) g4 gl4 gn4 ⟨rfl, rfl⟩)
  refine lv_aload_n hx hb dj_X7_init_29 rfl (lv_at hl 0 rfl) ?_
  refine lv_bipush (v := 6) hx hb dj_X7_init_30 (by decide) ?_
  refine va_newa (atype := .int) (ty := .int) (a0 := (6, .inl (fun _ => 0))) hx hb (hts _ cwj256) rfl hK hP hD hS hA (fun cA => rfl) (by decide) (N' := 6) (by decide) (by decide) (by show _ ≤ 72; omega) (by show _ ≤ 6200; omega) dj_X7_init_32 (fun a5 cA5 H hK9 hP hD hS => ?_)
  have ec5 : cA5 = cI := li_cT hK hK9 ht0
  rw [ec5] at hP hD
  clear hK9
  obtain ⟨w6, ew6, g6, gl6, gn6⟩ := li_app w4 (a5, .inl (cI, 6, .inl (fun _ => 0)))
  rw [← ew6] at hP hD
  have hn6 : w6.length = w.length + 21 := by omega
  have g6Y := (gn6 q (by omega)).trans g4
  have p6R1 := p4R1.st (li_R.ap (qs := []) gl6 gn6) (fun z hz => by simp <;> omega)
  have p6R3 := p4R3.st (li_R.ap (qs := []) gl6 gn6) (fun z hz => by simp <;> omega)
  have g6A5 : w6[(w.length + 20)]? = some (a5, .inl (cI, 6, .inl (fun _ => 0))) := by have e9 := g6; rw [show w4.length = (w.length + 20) from hn4] at e9; exact e9
  have hR6 : li_R w w6 [q] := hR4.tr (li_R.ap gl6 gn6)
  refine va_putF (D := D) (ci := 13) (v := .ref a5) (ty := (.array .int)) (C := RX7) (T := TX7) (N := 31) hx hb hts uwj_X7 tyX7 tyX7_ok nmX7 hown hK hP hD hS q g6Y rfl 2 (by decide) (hts _ cwj1500) (fun _ h9 => h9) rfl hin rfl (by decide +kernel) rfl rfl (Nat.le_of_ble_eq_true rfl) dj_X7_init_34 (fun H locs hP hD hS => ?_)
  obtain ⟨w7, ew7, g7, gl7, gn7⟩ := li_set g6Y (.inr (13, [.ref a1, .ref a3, .ref a5, .null, .null, .null, .null, .null, .null, .null, .null, .null, .null, .null, .null, .null, .int 0, .int 0, .int 0, .int 0, .int 0, .int 0, .int 0, .int 0, .int 0, .int 0, .int 0, .int 0, .int 0, .int 0, .int 0]))
  have hP : va_P D vwCl w7 H := by rw [ew7]; exact hP
  have hD : va_D (va_A w s.heap.size) w7 := by rw [ew7]; exact hD
  have hn7 : w7.length = w.length + 21 := by omega
  have p7R1 := p6R1.st (li_R.st (qs := [q]) g6Y (by simp) g7 gl7 gn7 ⟨rfl, rfl⟩) (fun z hz => by simp <;> omega)
  have p7R3 := p6R3.st (li_R.st (qs := [q]) g6Y (by simp) g7 gl7 gn7 ⟨rfl, rfl⟩) (fun z hz => by simp <;> omega)
  have g7A5 := (gn7 (w.length + 20) (by omega)).trans g6A5
  have hR7 : li_R w w7 [q] := hR6.tr (li_R.st g6Y (by simp) g7 gl7 gn7 ⟨rfl, rfl⟩)
  refine lv_aload_n hx hb dj_X7_init_37 rfl (lv_at hl 0 rfl) ?_
  refine lv_bipush (v := 6) hx hb dj_X7_init_38 (by decide) ?_
  refine lv_bipush (v := 24) hx hb dj_X7_init_40 (by decide) ?_
  refine ct_mna (N' := 6) (K' := 24) (ty := .int) (z := (24, .inl (fun _ => 0))) hx hb hown (by rw [show "[" ++ (FieldType.array .int).toString = "[[I" from by decide +kernel]; exact hts _ cwj1401) hLc.2.2.1 (hts _ cwj256) (va_RA_fc (hK.2 0 _ ht0).2) hK hP hD hS hA (by decide) (by decide) (by decide) (by decide) (by decide) (by decide) (by decide) rfl rfl (by show _ ≤ 72; omega) (by show _ ≤ 6200; omega) (fun c9 => arrV_new c9 24 (.int 0)) dj_X7_init_42 (fun a8 cA8 H w8 hK9 hl8 gn8 gr8 hP hD hS => ?_)
  have ec8 : cA8 = cII := li_cT hK hK9 ht5
  rw [ec8] at gr8
  clear hK9
  have gr8 : ct_rows cII cI w8 (w.length + 21) a8 6 (24, .inl (fun _ => 0)) := by rw [show w7.length = (w.length + 21) from hn7] at gr8; exact gr8
  have g8Y := (gn8 q (by omega)).trans g7
  have g8A5 := (gn8 (w.length + 20) (by omega)).trans g7A5
  have p8R1 := p7R1.st (li_R.aps (qs := []) hl8 gn8) (fun z hz => by simp <;> omega)
  have p8R3 := p7R3.st (li_R.aps (qs := []) hl8 gn8) (fun z hz => by simp <;> omega)
  have hR8 : li_R w w8 [q] := hR7.tr (li_R.aps hl8 gn8)
  have hn8 : w8.length = w.length + 28 := by omega
  refine va_putF (D := D) (ci := 13) (v := .ref a8) (ty := (.array (.array .int))) (C := RX7) (T := TX7) (N := 31) hx hb hts uwj_X7 tyX7 tyX7_ok nmX7 hown hK hP hD hS q g8Y rfl 3 (by decide) (hts _ cwj1501) (fun _ h9 => h9) rfl hin rfl (by decide +kernel) rfl rfl (Nat.le_of_ble_eq_true rfl) dj_X7_init_46 (fun H locs hP hD hS => ?_)
  obtain ⟨w9, ew9, g9, gl9, gn9⟩ := li_set g8Y (.inr (13, [.ref a1, .ref a3, .ref a5, .ref a8, .null, .null, .null, .null, .null, .null, .null, .null, .null, .null, .null, .null, .int 0, .int 0, .int 0, .int 0, .int 0, .int 0, .int 0, .int 0, .int 0, .int 0, .int 0, .int 0, .int 0, .int 0, .int 0]))
  have hP : va_P D vwCl w9 H := by rw [ew9]; exact hP
  have hD : va_D (va_A w s.heap.size) w9 := by rw [ew9]; exact hD
  have hn9 : w9.length = w.length + 28 := by omega
  have p9R1 := p8R1.st (li_R.st (qs := [q]) g8Y (by simp) g9 gl9 gn9 ⟨rfl, rfl⟩) (fun z hz => by simp <;> omega)
  have p9R3 := p8R3.st (li_R.st (qs := [q]) g8Y (by simp) g9 gl9 gn9 ⟨rfl, rfl⟩) (fun z hz => by simp <;> omega)
  have p9R8 := gr8.st (li_R.st (qs := [q]) g8Y (by simp) g9 gl9 gn9 ⟨rfl, rfl⟩) (fun z hz => by simp <;> omega)
  have g9A5 := (gn9 (w.length + 20) (by omega)).trans g8A5
  have hR9 : li_R w w9 [q] := hR8.tr (li_R.st g8Y (by simp) g9 gl9 gn9 ⟨rfl, rfl⟩)
  refine lv_aload_n hx hb dj_X7_init_49 rfl (lv_at hl 0 rfl) ?_
  refine lv_bipush (v := 24) hx hb dj_X7_init_50 (by decide) ?_
  refine va_newa (atype := .int) (ty := .int) (a0 := (24, .inl (fun _ => 0))) hx hb (hts _ cwj256) rfl hK hP hD hS hA (fun cA => rfl) (by decide) (N' := 24) (by decide) (by decide) (by show _ ≤ 72; omega) (by show _ ≤ 6200; omega) dj_X7_init_52 (fun a10 cA10 H hK9 hP hD hS => ?_)
  have ec10 : cA10 = cI := li_cT hK hK9 ht0
  rw [ec10] at hP hD
  clear hK9
  obtain ⟨w11, ew11, g11, gl11, gn11⟩ := li_app w9 (a10, .inl (cI, 24, .inl (fun _ => 0)))
  rw [← ew11] at hP hD
  have hn11 : w11.length = w.length + 29 := by omega
  have g11Y := (gn11 q (by omega)).trans g9
  have g11A5 := (gn11 (w.length + 20) (by omega)).trans g9A5
  have p11R1 := p9R1.st (li_R.ap (qs := []) gl11 gn11) (fun z hz => by simp <;> omega)
  have p11R3 := p9R3.st (li_R.ap (qs := []) gl11 gn11) (fun z hz => by simp <;> omega)
  have p11R8 := p9R8.st (li_R.ap (qs := []) gl11 gn11) (fun z hz => by simp <;> omega)
  have g11A10 : w11[(w.length + 28)]? = some (a10, .inl (cI, 24, .inl (fun _ => 0))) := by have e9 := g11; rw [show w9.length = (w.length + 28) from hn9] at e9; exact e9
  have hR11 : li_R w w11 [q] := hR9.tr (li_R.ap gl11 gn11)
  refine va_putF (D := D) (ci := 13) (v := .ref a10) (ty := (.array .int)) (C := RX7) (T := TX7) (N := 31) hx hb hts uwj_X7 tyX7 tyX7_ok nmX7 hown hK hP hD hS q g11Y rfl 4 (by decide) (hts _ cwj1502) (fun _ h9 => h9) rfl hin rfl (by decide +kernel) rfl rfl (Nat.le_of_ble_eq_true rfl) dj_X7_init_54 (fun H locs hP hD hS => ?_)
  obtain ⟨w12, ew12, g12, gl12, gn12⟩ := li_set g11Y (.inr (13, [.ref a1, .ref a3, .ref a5, .ref a8, .ref a10, .null, .null, .null, .null, .null, .null, .null, .null, .null, .null, .null, .int 0, .int 0, .int 0, .int 0, .int 0, .int 0, .int 0, .int 0, .int 0, .int 0, .int 0, .int 0, .int 0, .int 0, .int 0]))
  have hP : va_P D vwCl w12 H := by rw [ew12]; exact hP
  have hD : va_D (va_A w s.heap.size) w12 := by rw [ew12]; exact hD
  have hn12 : w12.length = w.length + 29 := by omega
  have p12R1 := p11R1.st (li_R.st (qs := [q]) g11Y (by simp) g12 gl12 gn12 ⟨rfl, rfl⟩) (fun z hz => by simp <;> omega)
  have p12R3 := p11R3.st (li_R.st (qs := [q]) g11Y (by simp) g12 gl12 gn12 ⟨rfl, rfl⟩) (fun z hz => by simp <;> omega)
  have p12R8 := p11R8.st (li_R.st (qs := [q]) g11Y (by simp) g12 gl12 gn12 ⟨rfl, rfl⟩) (fun z hz => by simp <;> omega)
  have g12A5 := (gn12 (w.length + 20) (by omega)).trans g11A5
  have g12A10 := (gn12 (w.length + 28) (by omega)).trans g11A10
  have hR12 : li_R w w12 [q] := hR11.tr (li_R.st g11Y (by simp) g12 gl12 gn12 ⟨rfl, rfl⟩)
  refine lv_aload_n hx hb dj_X7_init_57 rfl (lv_at hl 0 rfl) ?_
  refine lv_bipush (v := 6) hx hb dj_X7_init_58 (by decide) ?_
  refine lv_bipush (v := 9) hx hb dj_X7_init_60 (by decide) ?_
  refine ct_mna (N' := 6) (K' := 9) (ty := .int) (z := (9, .inl (fun _ => 0))) hx hb hown (by rw [show "[" ++ (FieldType.array .int).toString = "[[I" from by decide +kernel]; exact hts _ cwj1401) hLc.2.2.1 (hts _ cwj256) (va_RA_fc (hK.2 0 _ ht0).2) hK hP hD hS hA (by decide) (by decide) (by decide) (by decide) (by decide) (by decide) (by decide) rfl rfl (by show _ ≤ 72; omega) (by show _ ≤ 6200; omega) (fun c9 => arrV_new c9 9 (.int 0)) dj_X7_init_62 (fun a13 cA13 H w13 hK9 hl13 gn13 gr13 hP hD hS => ?_)
  have ec13 : cA13 = cII := li_cT hK hK9 ht5
  rw [ec13] at gr13
  clear hK9
  have gr13 : ct_rows cII cI w13 (w.length + 29) a13 6 (9, .inl (fun _ => 0)) := by rw [show w12.length = (w.length + 29) from hn12] at gr13; exact gr13
  have g13Y := (gn13 q (by omega)).trans g12
  have g13A5 := (gn13 (w.length + 20) (by omega)).trans g12A5
  have g13A10 := (gn13 (w.length + 28) (by omega)).trans g12A10
  have p13R1 := p12R1.st (li_R.aps (qs := []) hl13 gn13) (fun z hz => by simp <;> omega)
  have p13R3 := p12R3.st (li_R.aps (qs := []) hl13 gn13) (fun z hz => by simp <;> omega)
  have p13R8 := p12R8.st (li_R.aps (qs := []) hl13 gn13) (fun z hz => by simp <;> omega)
  have hR13 : li_R w w13 [q] := hR12.tr (li_R.aps hl13 gn13)
  have hn13 : w13.length = w.length + 36 := by omega
  refine va_putF (D := D) (ci := 13) (v := .ref a13) (ty := (.array (.array .int))) (C := RX7) (T := TX7) (N := 31) hx hb hts uwj_X7 tyX7 tyX7_ok nmX7 hown hK hP hD hS q g13Y rfl 5 (by decide) (hts _ cwj1503) (fun _ h9 => h9) rfl hin rfl (by decide +kernel) rfl rfl (Nat.le_of_ble_eq_true rfl) dj_X7_init_66 (fun H locs hP hD hS => ?_)
  obtain ⟨w14, ew14, g14, gl14, gn14⟩ := li_set g13Y (.inr (13, [.ref a1, .ref a3, .ref a5, .ref a8, .ref a10, .ref a13, .null, .null, .null, .null, .null, .null, .null, .null, .null, .null, .int 0, .int 0, .int 0, .int 0, .int 0, .int 0, .int 0, .int 0, .int 0, .int 0, .int 0, .int 0, .int 0, .int 0, .int 0]))
  have hP : va_P D vwCl w14 H := by rw [ew14]; exact hP
  have hD : va_D (va_A w s.heap.size) w14 := by rw [ew14]; exact hD
  have hn14 : w14.length = w.length + 36 := by omega
  have p14R1 := p13R1.st (li_R.st (qs := [q]) g13Y (by simp) g14 gl14 gn14 ⟨rfl, rfl⟩) (fun z hz => by simp <;> omega)
  have p14R3 := p13R3.st (li_R.st (qs := [q]) g13Y (by simp) g14 gl14 gn14 ⟨rfl, rfl⟩) (fun z hz => by simp <;> omega)
  have p14R8 := p13R8.st (li_R.st (qs := [q]) g13Y (by simp) g14 gl14 gn14 ⟨rfl, rfl⟩) (fun z hz => by simp <;> omega)
  have p14R13 := gr13.st (li_R.st (qs := [q]) g13Y (by simp) g14 gl14 gn14 ⟨rfl, rfl⟩) (fun z hz => by simp <;> omega)
  have g14A5 := (gn14 (w.length + 20) (by omega)).trans g13A5
  have g14A10 := (gn14 (w.length + 28) (by omega)).trans g13A10
  have hR14 : li_R w w14 [q] := hR13.tr (li_R.st g13Y (by simp) g14 gl14 gn14 ⟨rfl, rfl⟩)
  refine lv_aload_n hx hb dj_X7_init_69 rfl (lv_at hl 0 rfl) ?_
  refine lv_bipush (v := 6) hx hb dj_X7_init_70 (by decide) ?_
  refine lv_bipush (v := 9) hx hb dj_X7_init_72 (by decide) ?_
  refine ct_mna (N' := 6) (K' := 9) (ty := .int) (z := (9, .inl (fun _ => 0))) hx hb hown (by rw [show "[" ++ (FieldType.array .int).toString = "[[I" from by decide +kernel]; exact hts _ cwj1401) hLc.2.2.1 (hts _ cwj256) (va_RA_fc (hK.2 0 _ ht0).2) hK hP hD hS hA (by decide) (by decide) (by decide) (by decide) (by decide) (by decide) (by decide) rfl rfl (by show _ ≤ 72; omega) (by show _ ≤ 6200; omega) (fun c9 => arrV_new c9 9 (.int 0)) dj_X7_init_74 (fun a15 cA15 H w15 hK9 hl15 gn15 gr15 hP hD hS => ?_)
  have ec15 : cA15 = cII := li_cT hK hK9 ht5
  rw [ec15] at gr15
  clear hK9
  have gr15 : ct_rows cII cI w15 (w.length + 36) a15 6 (9, .inl (fun _ => 0)) := by rw [show w14.length = (w.length + 36) from hn14] at gr15; exact gr15
  have g15Y := (gn15 q (by omega)).trans g14
  have g15A5 := (gn15 (w.length + 20) (by omega)).trans g14A5
  have g15A10 := (gn15 (w.length + 28) (by omega)).trans g14A10
  have p15R1 := p14R1.st (li_R.aps (qs := []) hl15 gn15) (fun z hz => by simp <;> omega)
  have p15R3 := p14R3.st (li_R.aps (qs := []) hl15 gn15) (fun z hz => by simp <;> omega)
  have p15R8 := p14R8.st (li_R.aps (qs := []) hl15 gn15) (fun z hz => by simp <;> omega)
  have p15R13 := p14R13.st (li_R.aps (qs := []) hl15 gn15) (fun z hz => by simp <;> omega)
  have hR15 : li_R w w15 [q] := hR14.tr (li_R.aps hl15 gn15)
  have hn15 : w15.length = w.length + 43 := by omega
  refine va_putF (D := D) (ci := 13) (v := .ref a15) (ty := (.array (.array .int))) (C := RX7) (T := TX7) (N := 31) hx hb hts uwj_X7 tyX7 tyX7_ok nmX7 hown hK hP hD hS q g15Y rfl 6 (by decide) (hts _ cwj1504) (fun _ h9 => h9) rfl hin rfl (by decide +kernel) rfl rfl (Nat.le_of_ble_eq_true rfl) dj_X7_init_78 (fun H locs hP hD hS => ?_)
  obtain ⟨w16, ew16, g16, gl16, gn16⟩ := li_set g15Y (.inr (13, [.ref a1, .ref a3, .ref a5, .ref a8, .ref a10, .ref a13, .ref a15, .null, .null, .null, .null, .null, .null, .null, .null, .null, .int 0, .int 0, .int 0, .int 0, .int 0, .int 0, .int 0, .int 0, .int 0, .int 0, .int 0, .int 0, .int 0, .int 0, .int 0]))
  have hP : va_P D vwCl w16 H := by rw [ew16]; exact hP
  have hD : va_D (va_A w s.heap.size) w16 := by rw [ew16]; exact hD
  have hn16 : w16.length = w.length + 43 := by omega
  have p16R1 := p15R1.st (li_R.st (qs := [q]) g15Y (by simp) g16 gl16 gn16 ⟨rfl, rfl⟩) (fun z hz => by simp <;> omega)
  have p16R3 := p15R3.st (li_R.st (qs := [q]) g15Y (by simp) g16 gl16 gn16 ⟨rfl, rfl⟩) (fun z hz => by simp <;> omega)
  have p16R8 := p15R8.st (li_R.st (qs := [q]) g15Y (by simp) g16 gl16 gn16 ⟨rfl, rfl⟩) (fun z hz => by simp <;> omega)
  have p16R13 := p15R13.st (li_R.st (qs := [q]) g15Y (by simp) g16 gl16 gn16 ⟨rfl, rfl⟩) (fun z hz => by simp <;> omega)
  have p16R15 := gr15.st (li_R.st (qs := [q]) g15Y (by simp) g16 gl16 gn16 ⟨rfl, rfl⟩) (fun z hz => by simp <;> omega)
  have g16A5 := (gn16 (w.length + 20) (by omega)).trans g15A5
  have g16A10 := (gn16 (w.length + 28) (by omega)).trans g15A10
  have hR16 : li_R w w16 [q] := hR15.tr (li_R.st g15Y (by simp) g16 gl16 gn16 ⟨rfl, rfl⟩)
  refine lv_aload_n hx hb dj_X7_init_81 rfl (lv_at hl 0 rfl) ?_
  refine lv_bipush (v := 6) hx hb dj_X7_init_82 (by decide) ?_
  refine lv_bipush (v := 9) hx hb dj_X7_init_84 (by decide) ?_
  refine ct_mna (N' := 6) (K' := 9) (ty := .int) (z := (9, .inl (fun _ => 0))) hx hb hown (by rw [show "[" ++ (FieldType.array .int).toString = "[[I" from by decide +kernel]; exact hts _ cwj1401) hLc.2.2.1 (hts _ cwj256) (va_RA_fc (hK.2 0 _ ht0).2) hK hP hD hS hA (by decide) (by decide) (by decide) (by decide) (by decide) (by decide) (by decide) rfl rfl (by show _ ≤ 72; omega) (by show _ ≤ 6200; omega) (fun c9 => arrV_new c9 9 (.int 0)) dj_X7_init_86 (fun a17 cA17 H w17 hK9 hl17 gn17 gr17 hP hD hS => ?_)
  have ec17 : cA17 = cII := li_cT hK hK9 ht5
  rw [ec17] at gr17
  clear hK9
  have gr17 : ct_rows cII cI w17 (w.length + 43) a17 6 (9, .inl (fun _ => 0)) := by rw [show w16.length = (w.length + 43) from hn16] at gr17; exact gr17
  have g17Y := (gn17 q (by omega)).trans g16
  have g17A5 := (gn17 (w.length + 20) (by omega)).trans g16A5
  have g17A10 := (gn17 (w.length + 28) (by omega)).trans g16A10
  have p17R1 := p16R1.st (li_R.aps (qs := []) hl17 gn17) (fun z hz => by simp <;> omega)
  have p17R3 := p16R3.st (li_R.aps (qs := []) hl17 gn17) (fun z hz => by simp <;> omega)
  have p17R8 := p16R8.st (li_R.aps (qs := []) hl17 gn17) (fun z hz => by simp <;> omega)
  have p17R13 := p16R13.st (li_R.aps (qs := []) hl17 gn17) (fun z hz => by simp <;> omega)
  have p17R15 := p16R15.st (li_R.aps (qs := []) hl17 gn17) (fun z hz => by simp <;> omega)
  have hR17 : li_R w w17 [q] := hR16.tr (li_R.aps hl17 gn17)
  have hn17 : w17.length = w.length + 50 := by omega
  refine va_putF (D := D) (ci := 13) (v := .ref a17) (ty := (.array (.array .int))) (C := RX7) (T := TX7) (N := 31) hx hb hts uwj_X7 tyX7 tyX7_ok nmX7 hown hK hP hD hS q g17Y rfl 7 (by decide) (hts _ cwj1505) (fun _ h9 => h9) rfl hin rfl (by decide +kernel) rfl rfl (Nat.le_of_ble_eq_true rfl) dj_X7_init_90 (fun H locs hP hD hS => ?_)
  obtain ⟨w18, ew18, g18, gl18, gn18⟩ := li_set g17Y (.inr (13, [.ref a1, .ref a3, .ref a5, .ref a8, .ref a10, .ref a13, .ref a15, .ref a17, .null, .null, .null, .null, .null, .null, .null, .null, .int 0, .int 0, .int 0, .int 0, .int 0, .int 0, .int 0, .int 0, .int 0, .int 0, .int 0, .int 0, .int 0, .int 0, .int 0]))
  have hP : va_P D vwCl w18 H := by rw [ew18]; exact hP
  have hD : va_D (va_A w s.heap.size) w18 := by rw [ew18]; exact hD
  have hn18 : w18.length = w.length + 50 := by omega
  have p18R1 := p17R1.st (li_R.st (qs := [q]) g17Y (by simp) g18 gl18 gn18 ⟨rfl, rfl⟩) (fun z hz => by simp <;> omega)
  have p18R3 := p17R3.st (li_R.st (qs := [q]) g17Y (by simp) g18 gl18 gn18 ⟨rfl, rfl⟩) (fun z hz => by simp <;> omega)
  have p18R8 := p17R8.st (li_R.st (qs := [q]) g17Y (by simp) g18 gl18 gn18 ⟨rfl, rfl⟩) (fun z hz => by simp <;> omega)
  have p18R13 := p17R13.st (li_R.st (qs := [q]) g17Y (by simp) g18 gl18 gn18 ⟨rfl, rfl⟩) (fun z hz => by simp <;> omega)
  have p18R15 := p17R15.st (li_R.st (qs := [q]) g17Y (by simp) g18 gl18 gn18 ⟨rfl, rfl⟩) (fun z hz => by simp <;> omega)
  have p18R17 := gr17.st (li_R.st (qs := [q]) g17Y (by simp) g18 gl18 gn18 ⟨rfl, rfl⟩) (fun z hz => by simp <;> omega)
  have g18A5 := (gn18 (w.length + 20) (by omega)).trans g17A5
  have g18A10 := (gn18 (w.length + 28) (by omega)).trans g17A10
  have hR18 : li_R w w18 [q] := hR17.tr (li_R.st g17Y (by simp) g18 gl18 gn18 ⟨rfl, rfl⟩)
  refine lv_aload_n hx hb dj_X7_init_93 rfl (lv_at hl 0 rfl) ?_
  refine lv_bipush (v := 6) hx hb dj_X7_init_94 (by decide) ?_
  refine va_newa (atype := .boolean) (ty := .boolean) (a0 := (6, .inl (fun _ => 0))) hx hb (hts _ cwj1434) rfl hK hP hD hS hA (fun cA => rfl) (by decide) (N' := 6) (by decide) (by decide) (by show _ ≤ 72; omega) (by show _ ≤ 6200; omega) dj_X7_init_96 (fun a19 cA19 H hK9 hP hD hS => ?_)
  have ec19 : cA19 = cZ := li_cT hK hK9 ht2
  rw [ec19] at hP hD
  clear hK9
  obtain ⟨w20, ew20, g20, gl20, gn20⟩ := li_app w18 (a19, .inl (cZ, 6, .inl (fun _ => 0)))
  rw [← ew20] at hP hD
  have hn20 : w20.length = w.length + 51 := by omega
  have g20Y := (gn20 q (by omega)).trans g18
  have g20A5 := (gn20 (w.length + 20) (by omega)).trans g18A5
  have g20A10 := (gn20 (w.length + 28) (by omega)).trans g18A10
  have p20R1 := p18R1.st (li_R.ap (qs := []) gl20 gn20) (fun z hz => by simp <;> omega)
  have p20R3 := p18R3.st (li_R.ap (qs := []) gl20 gn20) (fun z hz => by simp <;> omega)
  have p20R8 := p18R8.st (li_R.ap (qs := []) gl20 gn20) (fun z hz => by simp <;> omega)
  have p20R13 := p18R13.st (li_R.ap (qs := []) gl20 gn20) (fun z hz => by simp <;> omega)
  have p20R15 := p18R15.st (li_R.ap (qs := []) gl20 gn20) (fun z hz => by simp <;> omega)
  have p20R17 := p18R17.st (li_R.ap (qs := []) gl20 gn20) (fun z hz => by simp <;> omega)
  have g20A19 : w20[(w.length + 50)]? = some (a19, .inl (cZ, 6, .inl (fun _ => 0))) := by have e9 := g20; rw [show w18.length = (w.length + 50) from hn18] at e9; exact e9
  have hR20 : li_R w w20 [q] := hR18.tr (li_R.ap gl20 gn20)
  refine va_putF (D := D) (ci := 13) (v := .ref a19) (ty := (.array .boolean)) (C := RX7) (T := TX7) (N := 31) hx hb hts uwj_X7 tyX7 tyX7_ok nmX7 hown hK hP hD hS q g20Y rfl 8 (by decide) (hts _ cwj1506) (fun _ h9 => h9) rfl hin rfl (by decide +kernel) rfl rfl (Nat.le_of_ble_eq_true rfl) dj_X7_init_98 (fun H locs hP hD hS => ?_)
  obtain ⟨w21, ew21, g21, gl21, gn21⟩ := li_set g20Y (.inr (13, [.ref a1, .ref a3, .ref a5, .ref a8, .ref a10, .ref a13, .ref a15, .ref a17, .ref a19, .null, .null, .null, .null, .null, .null, .null, .int 0, .int 0, .int 0, .int 0, .int 0, .int 0, .int 0, .int 0, .int 0, .int 0, .int 0, .int 0, .int 0, .int 0, .int 0]))
  have hP : va_P D vwCl w21 H := by rw [ew21]; exact hP
  have hD : va_D (va_A w s.heap.size) w21 := by rw [ew21]; exact hD
  have hn21 : w21.length = w.length + 51 := by omega
  have p21R1 := p20R1.st (li_R.st (qs := [q]) g20Y (by simp) g21 gl21 gn21 ⟨rfl, rfl⟩) (fun z hz => by simp <;> omega)
  have p21R3 := p20R3.st (li_R.st (qs := [q]) g20Y (by simp) g21 gl21 gn21 ⟨rfl, rfl⟩) (fun z hz => by simp <;> omega)
  have p21R8 := p20R8.st (li_R.st (qs := [q]) g20Y (by simp) g21 gl21 gn21 ⟨rfl, rfl⟩) (fun z hz => by simp <;> omega)
  have p21R13 := p20R13.st (li_R.st (qs := [q]) g20Y (by simp) g21 gl21 gn21 ⟨rfl, rfl⟩) (fun z hz => by simp <;> omega)
  have p21R15 := p20R15.st (li_R.st (qs := [q]) g20Y (by simp) g21 gl21 gn21 ⟨rfl, rfl⟩) (fun z hz => by simp <;> omega)
  have p21R17 := p20R17.st (li_R.st (qs := [q]) g20Y (by simp) g21 gl21 gn21 ⟨rfl, rfl⟩) (fun z hz => by simp <;> omega)
  have g21A5 := (gn21 (w.length + 20) (by omega)).trans g20A5
  have g21A10 := (gn21 (w.length + 28) (by omega)).trans g20A10
  have g21A19 := (gn21 (w.length + 50) (by omega)).trans g20A19
  have hR21 : li_R w w21 [q] := hR20.tr (li_R.st g20Y (by simp) g21 gl21 gn21 ⟨rfl, rfl⟩)
  refine lv_aload_n hx hb dj_X7_init_101 rfl (lv_at hl 0 rfl) ?_
  refine lv_bipush (v := 6) hx hb dj_X7_init_102 (by decide) ?_
  refine va_newa (atype := .boolean) (ty := .boolean) (a0 := (6, .inl (fun _ => 0))) hx hb (hts _ cwj1434) rfl hK hP hD hS hA (fun cA => rfl) (by decide) (N' := 6) (by decide) (by decide) (by show _ ≤ 72; omega) (by show _ ≤ 6200; omega) dj_X7_init_104 (fun a22 cA22 H hK9 hP hD hS => ?_)
  have ec22 : cA22 = cZ := li_cT hK hK9 ht2
  rw [ec22] at hP hD
  clear hK9
  obtain ⟨w23, ew23, g23, gl23, gn23⟩ := li_app w21 (a22, .inl (cZ, 6, .inl (fun _ => 0)))
  rw [← ew23] at hP hD
  have hn23 : w23.length = w.length + 52 := by omega
  have g23Y := (gn23 q (by omega)).trans g21
  have g23A5 := (gn23 (w.length + 20) (by omega)).trans g21A5
  have g23A10 := (gn23 (w.length + 28) (by omega)).trans g21A10
  have g23A19 := (gn23 (w.length + 50) (by omega)).trans g21A19
  have p23R1 := p21R1.st (li_R.ap (qs := []) gl23 gn23) (fun z hz => by simp <;> omega)
  have p23R3 := p21R3.st (li_R.ap (qs := []) gl23 gn23) (fun z hz => by simp <;> omega)
  have p23R8 := p21R8.st (li_R.ap (qs := []) gl23 gn23) (fun z hz => by simp <;> omega)
  have p23R13 := p21R13.st (li_R.ap (qs := []) gl23 gn23) (fun z hz => by simp <;> omega)
  have p23R15 := p21R15.st (li_R.ap (qs := []) gl23 gn23) (fun z hz => by simp <;> omega)
  have p23R17 := p21R17.st (li_R.ap (qs := []) gl23 gn23) (fun z hz => by simp <;> omega)
  have g23A22 : w23[(w.length + 51)]? = some (a22, .inl (cZ, 6, .inl (fun _ => 0))) := by have e9 := g23; rw [show w21.length = (w.length + 51) from hn21] at e9; exact e9
  have hR23 : li_R w w23 [q] := hR21.tr (li_R.ap gl23 gn23)
  refine va_putF (D := D) (ci := 13) (v := .ref a22) (ty := (.array .boolean)) (C := RX7) (T := TX7) (N := 31) hx hb hts uwj_X7 tyX7 tyX7_ok nmX7 hown hK hP hD hS q g23Y rfl 9 (by decide) (hts _ cwj1507) (fun _ h9 => h9) rfl hin rfl (by decide +kernel) rfl rfl (Nat.le_of_ble_eq_true rfl) dj_X7_init_106 (fun H locs hP hD hS => ?_)
  obtain ⟨w24, ew24, g24, gl24, gn24⟩ := li_set g23Y (.inr (13, [.ref a1, .ref a3, .ref a5, .ref a8, .ref a10, .ref a13, .ref a15, .ref a17, .ref a19, .ref a22, .null, .null, .null, .null, .null, .null, .int 0, .int 0, .int 0, .int 0, .int 0, .int 0, .int 0, .int 0, .int 0, .int 0, .int 0, .int 0, .int 0, .int 0, .int 0]))
  have hP : va_P D vwCl w24 H := by rw [ew24]; exact hP
  have hD : va_D (va_A w s.heap.size) w24 := by rw [ew24]; exact hD
  have hn24 : w24.length = w.length + 52 := by omega
  have p24R1 := p23R1.st (li_R.st (qs := [q]) g23Y (by simp) g24 gl24 gn24 ⟨rfl, rfl⟩) (fun z hz => by simp <;> omega)
  have p24R3 := p23R3.st (li_R.st (qs := [q]) g23Y (by simp) g24 gl24 gn24 ⟨rfl, rfl⟩) (fun z hz => by simp <;> omega)
  have p24R8 := p23R8.st (li_R.st (qs := [q]) g23Y (by simp) g24 gl24 gn24 ⟨rfl, rfl⟩) (fun z hz => by simp <;> omega)
  have p24R13 := p23R13.st (li_R.st (qs := [q]) g23Y (by simp) g24 gl24 gn24 ⟨rfl, rfl⟩) (fun z hz => by simp <;> omega)
  have p24R15 := p23R15.st (li_R.st (qs := [q]) g23Y (by simp) g24 gl24 gn24 ⟨rfl, rfl⟩) (fun z hz => by simp <;> omega)
  have p24R17 := p23R17.st (li_R.st (qs := [q]) g23Y (by simp) g24 gl24 gn24 ⟨rfl, rfl⟩) (fun z hz => by simp <;> omega)
  have g24A5 := (gn24 (w.length + 20) (by omega)).trans g23A5
  have g24A10 := (gn24 (w.length + 28) (by omega)).trans g23A10
  have g24A19 := (gn24 (w.length + 50) (by omega)).trans g23A19
  have g24A22 := (gn24 (w.length + 51) (by omega)).trans g23A22
  have hR24 : li_R w w24 [q] := hR23.tr (li_R.st g23Y (by simp) g24 gl24 gn24 ⟨rfl, rfl⟩)
  refine lv_aload_n hx hb dj_X7_init_109 rfl (lv_at hl 0 rfl) ?_
  refine lv_bipush (v := 6) hx hb dj_X7_init_110 (by decide) ?_
  refine va_newa (atype := .boolean) (ty := .boolean) (a0 := (6, .inl (fun _ => 0))) hx hb (hts _ cwj1434) rfl hK hP hD hS hA (fun cA => rfl) (by decide) (N' := 6) (by decide) (by decide) (by show _ ≤ 72; omega) (by show _ ≤ 6200; omega) dj_X7_init_112 (fun a25 cA25 H hK9 hP hD hS => ?_)
  have ec25 : cA25 = cZ := li_cT hK hK9 ht2
  rw [ec25] at hP hD
  clear hK9
  obtain ⟨w26, ew26, g26, gl26, gn26⟩ := li_app w24 (a25, .inl (cZ, 6, .inl (fun _ => 0)))
  rw [← ew26] at hP hD
  have hn26 : w26.length = w.length + 53 := by omega
  have g26Y := (gn26 q (by omega)).trans g24
  have g26A5 := (gn26 (w.length + 20) (by omega)).trans g24A5
  have g26A10 := (gn26 (w.length + 28) (by omega)).trans g24A10
  have g26A19 := (gn26 (w.length + 50) (by omega)).trans g24A19
  have g26A22 := (gn26 (w.length + 51) (by omega)).trans g24A22
  have p26R1 := p24R1.st (li_R.ap (qs := []) gl26 gn26) (fun z hz => by simp <;> omega)
  have p26R3 := p24R3.st (li_R.ap (qs := []) gl26 gn26) (fun z hz => by simp <;> omega)
  have p26R8 := p24R8.st (li_R.ap (qs := []) gl26 gn26) (fun z hz => by simp <;> omega)
  have p26R13 := p24R13.st (li_R.ap (qs := []) gl26 gn26) (fun z hz => by simp <;> omega)
  have p26R15 := p24R15.st (li_R.ap (qs := []) gl26 gn26) (fun z hz => by simp <;> omega)
  have p26R17 := p24R17.st (li_R.ap (qs := []) gl26 gn26) (fun z hz => by simp <;> omega)
  have g26A25 : w26[(w.length + 52)]? = some (a25, .inl (cZ, 6, .inl (fun _ => 0))) := by have e9 := g26; rw [show w24.length = (w.length + 52) from hn24] at e9; exact e9
  have hR26 : li_R w w26 [q] := hR24.tr (li_R.ap gl26 gn26)
  refine va_putF (D := D) (ci := 13) (v := .ref a25) (ty := (.array .boolean)) (C := RX7) (T := TX7) (N := 31) hx hb hts uwj_X7 tyX7 tyX7_ok nmX7 hown hK hP hD hS q g26Y rfl 10 (by decide) (hts _ cwj1508) (fun _ h9 => h9) rfl hin rfl (by decide +kernel) rfl rfl (Nat.le_of_ble_eq_true rfl) dj_X7_init_114 (fun H locs hP hD hS => ?_)
  obtain ⟨w27, ew27, g27, gl27, gn27⟩ := li_set g26Y (.inr (13, [.ref a1, .ref a3, .ref a5, .ref a8, .ref a10, .ref a13, .ref a15, .ref a17, .ref a19, .ref a22, .ref a25, .null, .null, .null, .null, .null, .int 0, .int 0, .int 0, .int 0, .int 0, .int 0, .int 0, .int 0, .int 0, .int 0, .int 0, .int 0, .int 0, .int 0, .int 0]))
  have hP : va_P D vwCl w27 H := by rw [ew27]; exact hP
  have hD : va_D (va_A w s.heap.size) w27 := by rw [ew27]; exact hD
  have hn27 : w27.length = w.length + 53 := by omega
  have p27R1 := p26R1.st (li_R.st (qs := [q]) g26Y (by simp) g27 gl27 gn27 ⟨rfl, rfl⟩) (fun z hz => by simp <;> omega)
  have p27R3 := p26R3.st (li_R.st (qs := [q]) g26Y (by simp) g27 gl27 gn27 ⟨rfl, rfl⟩) (fun z hz => by simp <;> omega)
  have p27R8 := p26R8.st (li_R.st (qs := [q]) g26Y (by simp) g27 gl27 gn27 ⟨rfl, rfl⟩) (fun z hz => by simp <;> omega)
  have p27R13 := p26R13.st (li_R.st (qs := [q]) g26Y (by simp) g27 gl27 gn27 ⟨rfl, rfl⟩) (fun z hz => by simp <;> omega)
  have p27R15 := p26R15.st (li_R.st (qs := [q]) g26Y (by simp) g27 gl27 gn27 ⟨rfl, rfl⟩) (fun z hz => by simp <;> omega)
  have p27R17 := p26R17.st (li_R.st (qs := [q]) g26Y (by simp) g27 gl27 gn27 ⟨rfl, rfl⟩) (fun z hz => by simp <;> omega)
  have g27A5 := (gn27 (w.length + 20) (by omega)).trans g26A5
  have g27A10 := (gn27 (w.length + 28) (by omega)).trans g26A10
  have g27A19 := (gn27 (w.length + 50) (by omega)).trans g26A19
  have g27A22 := (gn27 (w.length + 51) (by omega)).trans g26A22
  have g27A25 := (gn27 (w.length + 52) (by omega)).trans g26A25
  have hR27 : li_R w w27 [q] := hR26.tr (li_R.st g26Y (by simp) g27 gl27 gn27 ⟨rfl, rfl⟩)
  refine lv_aload_n hx hb dj_X7_init_117 rfl (lv_at hl 0 rfl) ?_
  refine lv_bipush (v := 6) hx hb dj_X7_init_118 (by decide) ?_
  refine va_newa (atype := .int) (ty := .int) (a0 := (6, .inl (fun _ => 0))) hx hb (hts _ cwj256) rfl hK hP hD hS hA (fun cA => rfl) (by decide) (N' := 6) (by decide) (by decide) (by show _ ≤ 72; omega) (by show _ ≤ 6200; omega) dj_X7_init_120 (fun a28 cA28 H hK9 hP hD hS => ?_)
  have ec28 : cA28 = cI := li_cT hK hK9 ht0
  rw [ec28] at hP hD
  clear hK9
  obtain ⟨w29, ew29, g29, gl29, gn29⟩ := li_app w27 (a28, .inl (cI, 6, .inl (fun _ => 0)))
  rw [← ew29] at hP hD
  have hn29 : w29.length = w.length + 54 := by omega
  have g29Y := (gn29 q (by omega)).trans g27
  have g29A5 := (gn29 (w.length + 20) (by omega)).trans g27A5
  have g29A10 := (gn29 (w.length + 28) (by omega)).trans g27A10
  have g29A19 := (gn29 (w.length + 50) (by omega)).trans g27A19
  have g29A22 := (gn29 (w.length + 51) (by omega)).trans g27A22
  have g29A25 := (gn29 (w.length + 52) (by omega)).trans g27A25
  have p29R1 := p27R1.st (li_R.ap (qs := []) gl29 gn29) (fun z hz => by simp <;> omega)
  have p29R3 := p27R3.st (li_R.ap (qs := []) gl29 gn29) (fun z hz => by simp <;> omega)
  have p29R8 := p27R8.st (li_R.ap (qs := []) gl29 gn29) (fun z hz => by simp <;> omega)
  have p29R13 := p27R13.st (li_R.ap (qs := []) gl29 gn29) (fun z hz => by simp <;> omega)
  have p29R15 := p27R15.st (li_R.ap (qs := []) gl29 gn29) (fun z hz => by simp <;> omega)
  have p29R17 := p27R17.st (li_R.ap (qs := []) gl29 gn29) (fun z hz => by simp <;> omega)
  have g29A28 : w29[(w.length + 53)]? = some (a28, .inl (cI, 6, .inl (fun _ => 0))) := by have e9 := g29; rw [show w27.length = (w.length + 53) from hn27] at e9; exact e9
  have hR29 : li_R w w29 [q] := hR27.tr (li_R.ap gl29 gn29)
  refine va_putF (D := D) (ci := 13) (v := .ref a28) (ty := (.array .int)) (C := RX7) (T := TX7) (N := 31) hx hb hts uwj_X7 tyX7 tyX7_ok nmX7 hown hK hP hD hS q g29Y rfl 11 (by decide) (hts _ cwj1509) (fun _ h9 => h9) rfl hin rfl (by decide +kernel) rfl rfl (Nat.le_of_ble_eq_true rfl) dj_X7_init_122 (fun H locs hP hD hS => ?_)
  obtain ⟨w30, ew30, g30, gl30, gn30⟩ := li_set g29Y (.inr (13, [.ref a1, .ref a3, .ref a5, .ref a8, .ref a10, .ref a13, .ref a15, .ref a17, .ref a19, .ref a22, .ref a25, .ref a28, .null, .null, .null, .null, .int 0, .int 0, .int 0, .int 0, .int 0, .int 0, .int 0, .int 0, .int 0, .int 0, .int 0, .int 0, .int 0, .int 0, .int 0]))
  have hP : va_P D vwCl w30 H := by rw [ew30]; exact hP
  have hD : va_D (va_A w s.heap.size) w30 := by rw [ew30]; exact hD
  have hn30 : w30.length = w.length + 54 := by omega
  have p30R1 := p29R1.st (li_R.st (qs := [q]) g29Y (by simp) g30 gl30 gn30 ⟨rfl, rfl⟩) (fun z hz => by simp <;> omega)
  have p30R3 := p29R3.st (li_R.st (qs := [q]) g29Y (by simp) g30 gl30 gn30 ⟨rfl, rfl⟩) (fun z hz => by simp <;> omega)
  have p30R8 := p29R8.st (li_R.st (qs := [q]) g29Y (by simp) g30 gl30 gn30 ⟨rfl, rfl⟩) (fun z hz => by simp <;> omega)
  have p30R13 := p29R13.st (li_R.st (qs := [q]) g29Y (by simp) g30 gl30 gn30 ⟨rfl, rfl⟩) (fun z hz => by simp <;> omega)
  have p30R15 := p29R15.st (li_R.st (qs := [q]) g29Y (by simp) g30 gl30 gn30 ⟨rfl, rfl⟩) (fun z hz => by simp <;> omega)
  have p30R17 := p29R17.st (li_R.st (qs := [q]) g29Y (by simp) g30 gl30 gn30 ⟨rfl, rfl⟩) (fun z hz => by simp <;> omega)
  have g30A5 := (gn30 (w.length + 20) (by omega)).trans g29A5
  have g30A10 := (gn30 (w.length + 28) (by omega)).trans g29A10
  have g30A19 := (gn30 (w.length + 50) (by omega)).trans g29A19
  have g30A22 := (gn30 (w.length + 51) (by omega)).trans g29A22
  have g30A25 := (gn30 (w.length + 52) (by omega)).trans g29A25
  have g30A28 := (gn30 (w.length + 53) (by omega)).trans g29A28
  have hR30 : li_R w w30 [q] := hR29.tr (li_R.st g29Y (by simp) g30 gl30 gn30 ⟨rfl, rfl⟩)
  refine lv_aload_n hx hb dj_X7_init_125 rfl (lv_at hl 0 rfl) ?_
  refine va_new (ci := 5) (fs := [.int 0, .null, .int 0]) (C := RJx4a65c) (T := TJx4a65c) (N := 3) hx hb hts uwj_Jx4a65c tyJx4a65c tyJx4a65c_ok hown (hts _ cwj1405) (hts _ cwj1406) (hts _ cwj85) hK hP hD hS hA rfl (fun j hj => match j, hj with | 0, _ => rfl | 1, _ => rfl | 2, _ => rfl | n + 3, h => absurd h (by omega)) (by show _ ≤ 72; omega) (by show _ ≤ 6200; omega) dj_X7_init_126 (fun a31 H hP hD hS => ?_)
  obtain ⟨w32, ew32, g32, gl32, gn32⟩ := li_app w30 (a31, .inr (5, [.int 0, .null, .int 0]))
  rw [← ew32] at hP hD
  have hn32 : w32.length = w.length + 55 := by omega
  have g32Y := (gn32 q (by omega)).trans g30
  have g32A5 := (gn32 (w.length + 20) (by omega)).trans g30A5
  have g32A10 := (gn32 (w.length + 28) (by omega)).trans g30A10
  have g32A19 := (gn32 (w.length + 50) (by omega)).trans g30A19
  have g32A22 := (gn32 (w.length + 51) (by omega)).trans g30A22
  have g32A25 := (gn32 (w.length + 52) (by omega)).trans g30A25
  have g32A28 := (gn32 (w.length + 53) (by omega)).trans g30A28
  have p32R1 := p30R1.st (li_R.ap (qs := []) gl32 gn32) (fun z hz => by simp <;> omega)
  have p32R3 := p30R3.st (li_R.ap (qs := []) gl32 gn32) (fun z hz => by simp <;> omega)
  have p32R8 := p30R8.st (li_R.ap (qs := []) gl32 gn32) (fun z hz => by simp <;> omega)
  have p32R13 := p30R13.st (li_R.ap (qs := []) gl32 gn32) (fun z hz => by simp <;> omega)
  have p32R15 := p30R15.st (li_R.ap (qs := []) gl32 gn32) (fun z hz => by simp <;> omega)
  have p32R17 := p30R17.st (li_R.ap (qs := []) gl32 gn32) (fun z hz => by simp <;> omega)
  have g32O31 : w32[(w.length + 54)]? = some (a31, .inr (5, [.int 0, .null, .int 0])) := by have e9 := g32; rw [show w30.length = (w.length + 54) from hn30] at e9; exact e9
  have hR32 : li_R w w32 [q] := hR30.tr (li_R.ap gl32 gn32)
  refine lv_dup hx hb dj_X7_init_129 rfl ?_
  refine li_cI (As := []) (rest := [.ref a31, .ref y]) (li_Jx4a65c_init_da8c8 l D tys w32 _ e0 ca ad (⟨hD.1, fun j z hz => Or.inl ⟨j, z.2, hz⟩⟩ : va_D (va_A w32 H.size) w32) (w.length + 54) a31 g32O31) gj_X7_53 rfl ⟨Nat.le_of_ble_eq_true rfl, Nat.le_of_ble_eq_true rfl⟩ ⟨by show _ ≤ 72; omega, by show _ ≤ 6200; omega⟩ (Nat.le_of_ble_eq_true rfl) hx hb (hml.trans hl.1.symm) hts hown hK hT hL hP hD hS hA dj_X7_init_130 (fun res w33 H locs hrv hqq hP hD hS => ?_)
  obtain rfl := (show res = none from hrv)
  obtain ⟨gc33, hl33, hRc33⟩ := hqq
  have hn33 : w33.length = w.length + 55 := by omega
  have g33Y := hRc33.at g32Y (by simp <;> omega)
  have g33A5 := hRc33.at g32A5 (by simp <;> omega)
  have g33A10 := hRc33.at g32A10 (by simp <;> omega)
  have g33A19 := hRc33.at g32A19 (by simp <;> omega)
  have g33A22 := hRc33.at g32A22 (by simp <;> omega)
  have g33A25 := hRc33.at g32A25 (by simp <;> omega)
  have g33A28 := hRc33.at g32A28 (by simp <;> omega)
  have p33R1 := p32R1.st hRc33 (fun z hz => by simp <;> omega)
  have p33R3 := p32R3.st hRc33 (fun z hz => by simp <;> omega)
  have p33R8 := p32R8.st hRc33 (fun z hz => by simp <;> omega)
  have p33R13 := p32R13.st hRc33 (fun z hz => by simp <;> omega)
  have p33R15 := p32R15.st hRc33 (fun z hz => by simp <;> omega)
  have p33R17 := p32R17.st hRc33 (fun z hz => by simp <;> omega)
  have gq33 : w33[(w.length + 54)]? = some (a31, .inr (5, [.int 0, .ref e0, .int 0])) := gc33
  have hR33 : li_R w w33 [q] := hR32.nx hRc33 (by omega)
  refine va_putF (D := D) (ci := 13) (v := .ref a31) (ty := (.object "java/util/ArrayList")) (C := RX7) (T := TX7) (N := 31) hx hb hts uwj_X7 tyX7 tyX7_ok nmX7 hown hK hP hD hS q g33Y rfl 12 (by decide) (hts _ cwj1510) (fun _ h9 => h9) rfl hin rfl (by decide +kernel) rfl rfl (Nat.le_of_ble_eq_true rfl) dj_X7_init_133 (fun H locs hP hD hS => ?_)
  obtain ⟨w34, ew34, g34, gl34, gn34⟩ := li_set g33Y (.inr (13, [.ref a1, .ref a3, .ref a5, .ref a8, .ref a10, .ref a13, .ref a15, .ref a17, .ref a19, .ref a22, .ref a25, .ref a28, .ref a31, .null, .null, .null, .int 0, .int 0, .int 0, .int 0, .int 0, .int 0, .int 0, .int 0, .int 0, .int 0, .int 0, .int 0, .int 0, .int 0, .int 0]))
  have hP : va_P D vwCl w34 H := by rw [ew34]; exact hP
  have hD : va_D (va_A w s.heap.size) w34 := by rw [ew34]; exact hD
  have hn34 : w34.length = w.length + 55 := by omega
  have p34R1 := p33R1.st (li_R.st (qs := [q]) g33Y (by simp) g34 gl34 gn34 ⟨rfl, rfl⟩) (fun z hz => by simp <;> omega)
  have p34R3 := p33R3.st (li_R.st (qs := [q]) g33Y (by simp) g34 gl34 gn34 ⟨rfl, rfl⟩) (fun z hz => by simp <;> omega)
  have p34R8 := p33R8.st (li_R.st (qs := [q]) g33Y (by simp) g34 gl34 gn34 ⟨rfl, rfl⟩) (fun z hz => by simp <;> omega)
  have p34R13 := p33R13.st (li_R.st (qs := [q]) g33Y (by simp) g34 gl34 gn34 ⟨rfl, rfl⟩) (fun z hz => by simp <;> omega)
  have p34R15 := p33R15.st (li_R.st (qs := [q]) g33Y (by simp) g34 gl34 gn34 ⟨rfl, rfl⟩) (fun z hz => by simp <;> omega)
  have p34R17 := p33R17.st (li_R.st (qs := [q]) g33Y (by simp) g34 gl34 gn34 ⟨rfl, rfl⟩) (fun z hz => by simp <;> omega)
  have g34A5 := (gn34 (w.length + 20) (by omega)).trans g33A5
  have g34A10 := (gn34 (w.length + 28) (by omega)).trans g33A10
  have g34A19 := (gn34 (w.length + 50) (by omega)).trans g33A19
  have g34A22 := (gn34 (w.length + 51) (by omega)).trans g33A22
  have g34A25 := (gn34 (w.length + 52) (by omega)).trans g33A25
  have g34A28 := (gn34 (w.length + 53) (by omega)).trans g33A28
  have g34O31 := (gn34 (w.length + 54) (by omega)).trans gq33
  have hR34 : li_R w w34 [q] := hR33.tr (li_R.st g33Y (by simp) g34 gl34 gn34 ⟨rfl, rfl⟩)
  refine lv_aload_n hx hb dj_X7_init_136 rfl (lv_at hl 0 rfl) ?_
  refine lv_bipush (v := 6) hx hb dj_X7_init_137 (by decide) ?_
  refine va_newa (atype := .int) (ty := .int) (a0 := (6, .inl (fun _ => 0))) hx hb (hts _ cwj256) rfl hK hP hD hS hA (fun cA => rfl) (by decide) (N' := 6) (by decide) (by decide) (by show _ ≤ 72; omega) (by show _ ≤ 6200; omega) dj_X7_init_139 (fun a35 cA35 H hK9 hP hD hS => ?_)
  have ec35 : cA35 = cI := li_cT hK hK9 ht0
  rw [ec35] at hP hD
  clear hK9
  obtain ⟨w36, ew36, g36, gl36, gn36⟩ := li_app w34 (a35, .inl (cI, 6, .inl (fun _ => 0)))
  rw [← ew36] at hP hD
  have hn36 : w36.length = w.length + 56 := by omega
  have g36Y := (gn36 q (by omega)).trans g34
  have g36A5 := (gn36 (w.length + 20) (by omega)).trans g34A5
  have g36A10 := (gn36 (w.length + 28) (by omega)).trans g34A10
  have g36A19 := (gn36 (w.length + 50) (by omega)).trans g34A19
  have g36A22 := (gn36 (w.length + 51) (by omega)).trans g34A22
  have g36A25 := (gn36 (w.length + 52) (by omega)).trans g34A25
  have g36A28 := (gn36 (w.length + 53) (by omega)).trans g34A28
  have g36O31 := (gn36 (w.length + 54) (by omega)).trans g34O31
  have p36R1 := p34R1.st (li_R.ap (qs := []) gl36 gn36) (fun z hz => by simp <;> omega)
  have p36R3 := p34R3.st (li_R.ap (qs := []) gl36 gn36) (fun z hz => by simp <;> omega)
  have p36R8 := p34R8.st (li_R.ap (qs := []) gl36 gn36) (fun z hz => by simp <;> omega)
  have p36R13 := p34R13.st (li_R.ap (qs := []) gl36 gn36) (fun z hz => by simp <;> omega)
  have p36R15 := p34R15.st (li_R.ap (qs := []) gl36 gn36) (fun z hz => by simp <;> omega)
  have p36R17 := p34R17.st (li_R.ap (qs := []) gl36 gn36) (fun z hz => by simp <;> omega)
  have g36A35 : w36[(w.length + 55)]? = some (a35, .inl (cI, 6, .inl (fun _ => 0))) := by have e9 := g36; rw [show w34.length = (w.length + 55) from hn34] at e9; exact e9
  have hR36 : li_R w w36 [q] := hR34.tr (li_R.ap gl36 gn36)
  refine va_putF (D := D) (ci := 13) (v := .ref a35) (ty := (.array .int)) (C := RX7) (T := TX7) (N := 31) hx hb hts uwj_X7 tyX7 tyX7_ok nmX7 hown hK hP hD hS q g36Y rfl 13 (by decide) (hts _ cwj1511) (fun _ h9 => h9) rfl hin rfl (by decide +kernel) rfl rfl (Nat.le_of_ble_eq_true rfl) dj_X7_init_141 (fun H locs hP hD hS => ?_)
  obtain ⟨w37, ew37, g37, gl37, gn37⟩ := li_set g36Y (.inr (13, [.ref a1, .ref a3, .ref a5, .ref a8, .ref a10, .ref a13, .ref a15, .ref a17, .ref a19, .ref a22, .ref a25, .ref a28, .ref a31, .ref a35, .null, .null, .int 0, .int 0, .int 0, .int 0, .int 0, .int 0, .int 0, .int 0, .int 0, .int 0, .int 0, .int 0, .int 0, .int 0, .int 0]))
  have hP : va_P D vwCl w37 H := by rw [ew37]; exact hP
  have hD : va_D (va_A w s.heap.size) w37 := by rw [ew37]; exact hD
  have hn37 : w37.length = w.length + 56 := by omega
  have p37R1 := p36R1.st (li_R.st (qs := [q]) g36Y (by simp) g37 gl37 gn37 ⟨rfl, rfl⟩) (fun z hz => by simp <;> omega)
  have p37R3 := p36R3.st (li_R.st (qs := [q]) g36Y (by simp) g37 gl37 gn37 ⟨rfl, rfl⟩) (fun z hz => by simp <;> omega)
  have p37R8 := p36R8.st (li_R.st (qs := [q]) g36Y (by simp) g37 gl37 gn37 ⟨rfl, rfl⟩) (fun z hz => by simp <;> omega)
  have p37R13 := p36R13.st (li_R.st (qs := [q]) g36Y (by simp) g37 gl37 gn37 ⟨rfl, rfl⟩) (fun z hz => by simp <;> omega)
  have p37R15 := p36R15.st (li_R.st (qs := [q]) g36Y (by simp) g37 gl37 gn37 ⟨rfl, rfl⟩) (fun z hz => by simp <;> omega)
  have p37R17 := p36R17.st (li_R.st (qs := [q]) g36Y (by simp) g37 gl37 gn37 ⟨rfl, rfl⟩) (fun z hz => by simp <;> omega)
  have g37A5 := (gn37 (w.length + 20) (by omega)).trans g36A5
  have g37A10 := (gn37 (w.length + 28) (by omega)).trans g36A10
  have g37A19 := (gn37 (w.length + 50) (by omega)).trans g36A19
  have g37A22 := (gn37 (w.length + 51) (by omega)).trans g36A22
  have g37A25 := (gn37 (w.length + 52) (by omega)).trans g36A25
  have g37A28 := (gn37 (w.length + 53) (by omega)).trans g36A28
  have g37O31 := (gn37 (w.length + 54) (by omega)).trans g36O31
  have g37A35 := (gn37 (w.length + 55) (by omega)).trans g36A35
  have hR37 : li_R w w37 [q] := hR36.tr (li_R.st g36Y (by simp) g37 gl37 gn37 ⟨rfl, rfl⟩)
  refine lv_aload_n hx hb dj_X7_init_144 rfl (lv_at hl 0 rfl) ?_
  refine lv_bipush (v := 6) hx hb dj_X7_init_145 (by decide) ?_
  refine va_newa (atype := .int) (ty := .int) (a0 := (6, .inl (fun _ => 0))) hx hb (hts _ cwj256) rfl hK hP hD hS hA (fun cA => rfl) (by decide) (N' := 6) (by decide) (by decide) (by show _ ≤ 72; omega) (by show _ ≤ 6200; omega) dj_X7_init_147 (fun a38 cA38 H hK9 hP hD hS => ?_)
  have ec38 : cA38 = cI := li_cT hK hK9 ht0
  rw [ec38] at hP hD
  clear hK9
  obtain ⟨w39, ew39, g39, gl39, gn39⟩ := li_app w37 (a38, .inl (cI, 6, .inl (fun _ => 0)))
  rw [← ew39] at hP hD
  have hn39 : w39.length = w.length + 57 := by omega
  have g39Y := (gn39 q (by omega)).trans g37
  have g39A5 := (gn39 (w.length + 20) (by omega)).trans g37A5
  have g39A10 := (gn39 (w.length + 28) (by omega)).trans g37A10
  have g39A19 := (gn39 (w.length + 50) (by omega)).trans g37A19
  have g39A22 := (gn39 (w.length + 51) (by omega)).trans g37A22
  have g39A25 := (gn39 (w.length + 52) (by omega)).trans g37A25
  have g39A28 := (gn39 (w.length + 53) (by omega)).trans g37A28
  have g39O31 := (gn39 (w.length + 54) (by omega)).trans g37O31
  have g39A35 := (gn39 (w.length + 55) (by omega)).trans g37A35
  have p39R1 := p37R1.st (li_R.ap (qs := []) gl39 gn39) (fun z hz => by simp <;> omega)
  have p39R3 := p37R3.st (li_R.ap (qs := []) gl39 gn39) (fun z hz => by simp <;> omega)
  have p39R8 := p37R8.st (li_R.ap (qs := []) gl39 gn39) (fun z hz => by simp <;> omega)
  have p39R13 := p37R13.st (li_R.ap (qs := []) gl39 gn39) (fun z hz => by simp <;> omega)
  have p39R15 := p37R15.st (li_R.ap (qs := []) gl39 gn39) (fun z hz => by simp <;> omega)
  have p39R17 := p37R17.st (li_R.ap (qs := []) gl39 gn39) (fun z hz => by simp <;> omega)
  have g39A38 : w39[(w.length + 56)]? = some (a38, .inl (cI, 6, .inl (fun _ => 0))) := by have e9 := g39; rw [show w37.length = (w.length + 56) from hn37] at e9; exact e9
  have hR39 : li_R w w39 [q] := hR37.tr (li_R.ap gl39 gn39)
  refine va_putF (D := D) (ci := 13) (v := .ref a38) (ty := (.array .int)) (C := RX7) (T := TX7) (N := 31) hx hb hts uwj_X7 tyX7 tyX7_ok nmX7 hown hK hP hD hS q g39Y rfl 14 (by decide) (hts _ cwj1512) (fun _ h9 => h9) rfl hin rfl (by decide +kernel) rfl rfl (Nat.le_of_ble_eq_true rfl) dj_X7_init_149 (fun H locs hP hD hS => ?_)
  obtain ⟨w40, ew40, g40, gl40, gn40⟩ := li_set g39Y (.inr (13, [.ref a1, .ref a3, .ref a5, .ref a8, .ref a10, .ref a13, .ref a15, .ref a17, .ref a19, .ref a22, .ref a25, .ref a28, .ref a31, .ref a35, .ref a38, .null, .int 0, .int 0, .int 0, .int 0, .int 0, .int 0, .int 0, .int 0, .int 0, .int 0, .int 0, .int 0, .int 0, .int 0, .int 0]))
  have hP : va_P D vwCl w40 H := by rw [ew40]; exact hP
  have hD : va_D (va_A w s.heap.size) w40 := by rw [ew40]; exact hD
  have hn40 : w40.length = w.length + 57 := by omega
  have p40R1 := p39R1.st (li_R.st (qs := [q]) g39Y (by simp) g40 gl40 gn40 ⟨rfl, rfl⟩) (fun z hz => by simp <;> omega)
  have p40R3 := p39R3.st (li_R.st (qs := [q]) g39Y (by simp) g40 gl40 gn40 ⟨rfl, rfl⟩) (fun z hz => by simp <;> omega)
  have p40R8 := p39R8.st (li_R.st (qs := [q]) g39Y (by simp) g40 gl40 gn40 ⟨rfl, rfl⟩) (fun z hz => by simp <;> omega)
  have p40R13 := p39R13.st (li_R.st (qs := [q]) g39Y (by simp) g40 gl40 gn40 ⟨rfl, rfl⟩) (fun z hz => by simp <;> omega)
  have p40R15 := p39R15.st (li_R.st (qs := [q]) g39Y (by simp) g40 gl40 gn40 ⟨rfl, rfl⟩) (fun z hz => by simp <;> omega)
  have p40R17 := p39R17.st (li_R.st (qs := [q]) g39Y (by simp) g40 gl40 gn40 ⟨rfl, rfl⟩) (fun z hz => by simp <;> omega)
  have g40A5 := (gn40 (w.length + 20) (by omega)).trans g39A5
  have g40A10 := (gn40 (w.length + 28) (by omega)).trans g39A10
  have g40A19 := (gn40 (w.length + 50) (by omega)).trans g39A19
  have g40A22 := (gn40 (w.length + 51) (by omega)).trans g39A22
  have g40A25 := (gn40 (w.length + 52) (by omega)).trans g39A25
  have g40A28 := (gn40 (w.length + 53) (by omega)).trans g39A28
  have g40O31 := (gn40 (w.length + 54) (by omega)).trans g39O31
  have g40A35 := (gn40 (w.length + 55) (by omega)).trans g39A35
  have g40A38 := (gn40 (w.length + 56) (by omega)).trans g39A38
  have hR40 : li_R w w40 [q] := hR39.tr (li_R.st g39Y (by simp) g40 gl40 gn40 ⟨rfl, rfl⟩)
  refine lv_aload_n hx hb dj_X7_init_152 rfl (lv_at hl 0 rfl) ?_
  refine lv_bipush (v := 9) hx hb dj_X7_init_153 (by decide) ?_
  refine va_newa (atype := .int) (ty := .int) (a0 := (9, .inl (fun _ => 0))) hx hb (hts _ cwj256) rfl hK hP hD hS hA (fun cA => rfl) (by decide) (N' := 9) (by decide) (by decide) (by show _ ≤ 72; omega) (by show _ ≤ 6200; omega) dj_X7_init_155 (fun a41 cA41 H hK9 hP hD hS => ?_)
  have ec41 : cA41 = cI := li_cT hK hK9 ht0
  rw [ec41] at hP hD
  clear hK9
  obtain ⟨w42, ew42, g42, gl42, gn42⟩ := li_app w40 (a41, .inl (cI, 9, .inl (fun _ => 0)))
  rw [← ew42] at hP hD
  have hn42 : w42.length = w.length + 58 := by omega
  have g42Y := (gn42 q (by omega)).trans g40
  have g42A5 := (gn42 (w.length + 20) (by omega)).trans g40A5
  have g42A10 := (gn42 (w.length + 28) (by omega)).trans g40A10
  have g42A19 := (gn42 (w.length + 50) (by omega)).trans g40A19
  have g42A22 := (gn42 (w.length + 51) (by omega)).trans g40A22
  have g42A25 := (gn42 (w.length + 52) (by omega)).trans g40A25
  have g42A28 := (gn42 (w.length + 53) (by omega)).trans g40A28
  have g42O31 := (gn42 (w.length + 54) (by omega)).trans g40O31
  have g42A35 := (gn42 (w.length + 55) (by omega)).trans g40A35
  have g42A38 := (gn42 (w.length + 56) (by omega)).trans g40A38
  have p42R1 := p40R1.st (li_R.ap (qs := []) gl42 gn42) (fun z hz => by simp <;> omega)
  have p42R3 := p40R3.st (li_R.ap (qs := []) gl42 gn42) (fun z hz => by simp <;> omega)
  have p42R8 := p40R8.st (li_R.ap (qs := []) gl42 gn42) (fun z hz => by simp <;> omega)
  have p42R13 := p40R13.st (li_R.ap (qs := []) gl42 gn42) (fun z hz => by simp <;> omega)
  have p42R15 := p40R15.st (li_R.ap (qs := []) gl42 gn42) (fun z hz => by simp <;> omega)
  have p42R17 := p40R17.st (li_R.ap (qs := []) gl42 gn42) (fun z hz => by simp <;> omega)
  have g42A41 : w42[(w.length + 57)]? = some (a41, .inl (cI, 9, .inl (fun _ => 0))) := by have e9 := g42; rw [show w40.length = (w.length + 57) from hn40] at e9; exact e9
  have hR42 : li_R w w42 [q] := hR40.tr (li_R.ap gl42 gn42)
  refine va_putF (D := D) (ci := 13) (v := .ref a41) (ty := (.array .int)) (C := RX7) (T := TX7) (N := 31) hx hb hts uwj_X7 tyX7 tyX7_ok nmX7 hown hK hP hD hS q g42Y rfl 15 (by decide) (hts _ cwj1513) (fun _ h9 => h9) rfl hin rfl (by decide +kernel) rfl rfl (Nat.le_of_ble_eq_true rfl) dj_X7_init_157 (fun H locs hP hD hS => ?_)
  obtain ⟨w43, ew43, g43, gl43, gn43⟩ := li_set g42Y (.inr (13, [.ref a1, .ref a3, .ref a5, .ref a8, .ref a10, .ref a13, .ref a15, .ref a17, .ref a19, .ref a22, .ref a25, .ref a28, .ref a31, .ref a35, .ref a38, .ref a41, .int 0, .int 0, .int 0, .int 0, .int 0, .int 0, .int 0, .int 0, .int 0, .int 0, .int 0, .int 0, .int 0, .int 0, .int 0]))
  have hP : va_P D vwCl w43 H := by rw [ew43]; exact hP
  have hD : va_D (va_A w s.heap.size) w43 := by rw [ew43]; exact hD
  have hn43 : w43.length = w.length + 58 := by omega
  have p43R1 := p42R1.st (li_R.st (qs := [q]) g42Y (by simp) g43 gl43 gn43 ⟨rfl, rfl⟩) (fun z hz => by simp <;> omega)
  have p43R3 := p42R3.st (li_R.st (qs := [q]) g42Y (by simp) g43 gl43 gn43 ⟨rfl, rfl⟩) (fun z hz => by simp <;> omega)
  have p43R8 := p42R8.st (li_R.st (qs := [q]) g42Y (by simp) g43 gl43 gn43 ⟨rfl, rfl⟩) (fun z hz => by simp <;> omega)
  have p43R13 := p42R13.st (li_R.st (qs := [q]) g42Y (by simp) g43 gl43 gn43 ⟨rfl, rfl⟩) (fun z hz => by simp <;> omega)
  have p43R15 := p42R15.st (li_R.st (qs := [q]) g42Y (by simp) g43 gl43 gn43 ⟨rfl, rfl⟩) (fun z hz => by simp <;> omega)
  have p43R17 := p42R17.st (li_R.st (qs := [q]) g42Y (by simp) g43 gl43 gn43 ⟨rfl, rfl⟩) (fun z hz => by simp <;> omega)
  have g43A5 := (gn43 (w.length + 20) (by omega)).trans g42A5
  have g43A10 := (gn43 (w.length + 28) (by omega)).trans g42A10
  have g43A19 := (gn43 (w.length + 50) (by omega)).trans g42A19
  have g43A22 := (gn43 (w.length + 51) (by omega)).trans g42A22
  have g43A25 := (gn43 (w.length + 52) (by omega)).trans g42A25
  have g43A28 := (gn43 (w.length + 53) (by omega)).trans g42A28
  have g43O31 := (gn43 (w.length + 54) (by omega)).trans g42O31
  have g43A35 := (gn43 (w.length + 55) (by omega)).trans g42A35
  have g43A38 := (gn43 (w.length + 56) (by omega)).trans g42A38
  have g43A41 := (gn43 (w.length + 57) (by omega)).trans g42A41
  have hR43 : li_R w w43 [q] := hR42.tr (li_R.st g42Y (by simp) g43 gl43 gn43 ⟨rfl, rfl⟩)
  refine lv_aload_n hx hb dj_X7_init_160 rfl (lv_at hl 0 rfl) ?_
  refine lv_iconst (v := 1) hx hb dj_X7_init_161 (by decide) ?_
  refine va_put (D := D) (ci := 13) (v := .int 1) (ty := .int) (C := RX7) (T := TX7) (N := 31) hx hb hts uwj_X7 tyX7 tyX7_ok nmX7 hown hK hP hD hS q g43 rfl 18 (by decide) (hts _ cwj1516) (fun _ h9 => h9) rfl (by decide +kernel) rfl rfl (Nat.le_of_ble_eq_true rfl) dj_X7_init_162 (fun H locs hP hD hS => ?_)
  obtain ⟨w44, ew44, g44, gl44, gn44⟩ := li_set g43 (.inr (13, [.ref a1, .ref a3, .ref a5, .ref a8, .ref a10, .ref a13, .ref a15, .ref a17, .ref a19, .ref a22, .ref a25, .ref a28, .ref a31, .ref a35, .ref a38, .ref a41, .int 0, .int 0, .int 1, .int 0, .int 0, .int 0, .int 0, .int 0, .int 0, .int 0, .int 0, .int 0, .int 0, .int 0, .int 0]))
  have hP : va_P D vwCl w44 H := by rw [ew44]; exact hP
  have hD : va_D (va_A w s.heap.size) w44 := by rw [ew44]; exact hD
  have hn44 : w44.length = w.length + 58 := by omega
  have p44R1 := p43R1.st (li_R.st (qs := [q]) g43 (by simp) g44 gl44 gn44 ⟨rfl, rfl⟩) (fun z hz => by simp <;> omega)
  have p44R3 := p43R3.st (li_R.st (qs := [q]) g43 (by simp) g44 gl44 gn44 ⟨rfl, rfl⟩) (fun z hz => by simp <;> omega)
  have p44R8 := p43R8.st (li_R.st (qs := [q]) g43 (by simp) g44 gl44 gn44 ⟨rfl, rfl⟩) (fun z hz => by simp <;> omega)
  have p44R13 := p43R13.st (li_R.st (qs := [q]) g43 (by simp) g44 gl44 gn44 ⟨rfl, rfl⟩) (fun z hz => by simp <;> omega)
  have p44R15 := p43R15.st (li_R.st (qs := [q]) g43 (by simp) g44 gl44 gn44 ⟨rfl, rfl⟩) (fun z hz => by simp <;> omega)
  have p44R17 := p43R17.st (li_R.st (qs := [q]) g43 (by simp) g44 gl44 gn44 ⟨rfl, rfl⟩) (fun z hz => by simp <;> omega)
  have g44A5 := (gn44 (w.length + 20) (by omega)).trans g43A5
  have g44A10 := (gn44 (w.length + 28) (by omega)).trans g43A10
  have g44A19 := (gn44 (w.length + 50) (by omega)).trans g43A19
  have g44A22 := (gn44 (w.length + 51) (by omega)).trans g43A22
  have g44A25 := (gn44 (w.length + 52) (by omega)).trans g43A25
  have g44A28 := (gn44 (w.length + 53) (by omega)).trans g43A28
  have g44O31 := (gn44 (w.length + 54) (by omega)).trans g43O31
  have g44A35 := (gn44 (w.length + 55) (by omega)).trans g43A35
  have g44A38 := (gn44 (w.length + 56) (by omega)).trans g43A38
  have g44A41 := (gn44 (w.length + 57) (by omega)).trans g43A41
  have hR44 : li_R w w44 [q] := hR43.tr (li_R.st g43 (by simp) g44 gl44 gn44 ⟨rfl, rfl⟩)
  refine lv_aload_n hx hb dj_X7_init_165 rfl (lv_at hl 0 rfl) ?_
  refine lv_bipush (v := 110) hx hb dj_X7_init_166 (by decide) ?_
  refine va_put (D := D) (ci := 13) (v := .int 110) (ty := .char) (C := RX7) (T := TX7) (N := 31) hx hb hts uwj_X7 tyX7 tyX7_ok nmX7 hown hK hP hD hS q g44 rfl 19 (by decide) (hts _ cwj1517) (fun _ h9 => h9) rfl (by decide +kernel) rfl rfl (Nat.le_of_ble_eq_true rfl) dj_X7_init_168 (fun H locs hP hD hS => ?_)
  obtain ⟨w45, ew45, g45, gl45, gn45⟩ := li_set g44 (.inr (13, [.ref a1, .ref a3, .ref a5, .ref a8, .ref a10, .ref a13, .ref a15, .ref a17, .ref a19, .ref a22, .ref a25, .ref a28, .ref a31, .ref a35, .ref a38, .ref a41, .int 0, .int 0, .int 1, .int 110, .int 0, .int 0, .int 0, .int 0, .int 0, .int 0, .int 0, .int 0, .int 0, .int 0, .int 0]))
  have hP : va_P D vwCl w45 H := by rw [ew45]; exact hP
  have hD : va_D (va_A w s.heap.size) w45 := by rw [ew45]; exact hD
  have hn45 : w45.length = w.length + 58 := by omega
  have p45R1 := p44R1.st (li_R.st (qs := [q]) g44 (by simp) g45 gl45 gn45 ⟨rfl, rfl⟩) (fun z hz => by simp <;> omega)
  have p45R3 := p44R3.st (li_R.st (qs := [q]) g44 (by simp) g45 gl45 gn45 ⟨rfl, rfl⟩) (fun z hz => by simp <;> omega)
  have p45R8 := p44R8.st (li_R.st (qs := [q]) g44 (by simp) g45 gl45 gn45 ⟨rfl, rfl⟩) (fun z hz => by simp <;> omega)
  have p45R13 := p44R13.st (li_R.st (qs := [q]) g44 (by simp) g45 gl45 gn45 ⟨rfl, rfl⟩) (fun z hz => by simp <;> omega)
  have p45R15 := p44R15.st (li_R.st (qs := [q]) g44 (by simp) g45 gl45 gn45 ⟨rfl, rfl⟩) (fun z hz => by simp <;> omega)
  have p45R17 := p44R17.st (li_R.st (qs := [q]) g44 (by simp) g45 gl45 gn45 ⟨rfl, rfl⟩) (fun z hz => by simp <;> omega)
  have g45A5 := (gn45 (w.length + 20) (by omega)).trans g44A5
  have g45A10 := (gn45 (w.length + 28) (by omega)).trans g44A10
  have g45A19 := (gn45 (w.length + 50) (by omega)).trans g44A19
  have g45A22 := (gn45 (w.length + 51) (by omega)).trans g44A22
  have g45A25 := (gn45 (w.length + 52) (by omega)).trans g44A25
  have g45A28 := (gn45 (w.length + 53) (by omega)).trans g44A28
  have g45O31 := (gn45 (w.length + 54) (by omega)).trans g44O31
  have g45A35 := (gn45 (w.length + 55) (by omega)).trans g44A35
  have g45A38 := (gn45 (w.length + 56) (by omega)).trans g44A38
  have g45A41 := (gn45 (w.length + 57) (by omega)).trans g44A41
  have hR45 : li_R w w45 [q] := hR44.tr (li_R.st g44 (by simp) g45 gl45 gn45 ⟨rfl, rfl⟩)
  refine lv_iconst (v := 0) hx hb dj_X7_init_171 (by decide) ?_
  refine lv_istore_n (lv' := [(1, .int 0), (0, .ref y)]) hx hb dj_X7_init_172 rfl hl (by decide) rfl (fun ls hl => ?_)
  refine lv_iload_n hx hb dj_X7_init_173 rfl (lv_at hl 0 rfl) ?_
  refine lv_bipush (v := 6) hx hb dj_X7_init_174 (by decide) ?_
  refine lv_icmp_ge (tgt := 200) hx hb dj_X7_init_176 (by decide) (fun c9 => absurd c9 (by decide)) (fun _ => ?_)
  refine lv_aload_n hx hb dj_X7_init_179 rfl (lv_at hl 1 rfl) ?_
  refine va_get (D := D) (ci := 13) (v := .ref a31) (C := RX7) (T := TX7) (N := 31) hx hb hts uwj_X7 hown hK hP q g45 rfl 12 (by decide) (hts _ cwj1510) (fun _ h9 => h9) rfl dj_X7_init_180 ?_
  refine va_new (ci := 5) (fs := [.int 0, .null, .int 0]) (C := RJx4a65c) (T := TJx4a65c) (N := 3) hx hb hts uwj_Jx4a65c tyJx4a65c tyJx4a65c_ok hown (hts _ cwj1405) (hts _ cwj1406) (hts _ cwj85) hK hP hD hS hA rfl (fun j hj => match j, hj with | 0, _ => rfl | 1, _ => rfl | 2, _ => rfl | n + 3, h => absurd h (by omega)) (by show _ ≤ 72; omega) (by show _ ≤ 6200; omega) dj_X7_init_183 (fun a46 H hP hD hS => ?_)
  obtain ⟨w47, ew47, g47, gl47, gn47⟩ := li_app w45 (a46, .inr (5, [.int 0, .null, .int 0]))
  rw [← ew47] at hP hD
  have hn47 : w47.length = w.length + 59 := by omega
  have g47Y := (gn47 q (by omega)).trans g45
  have g47A5 := (gn47 (w.length + 20) (by omega)).trans g45A5
  have g47A10 := (gn47 (w.length + 28) (by omega)).trans g45A10
  have g47A19 := (gn47 (w.length + 50) (by omega)).trans g45A19
  have g47A22 := (gn47 (w.length + 51) (by omega)).trans g45A22
  have g47A25 := (gn47 (w.length + 52) (by omega)).trans g45A25
  have g47A28 := (gn47 (w.length + 53) (by omega)).trans g45A28
  have g47O31 := (gn47 (w.length + 54) (by omega)).trans g45O31
  have g47A35 := (gn47 (w.length + 55) (by omega)).trans g45A35
  have g47A38 := (gn47 (w.length + 56) (by omega)).trans g45A38
  have g47A41 := (gn47 (w.length + 57) (by omega)).trans g45A41
  have p47R1 := p45R1.st (li_R.ap (qs := []) gl47 gn47) (fun z hz => by simp <;> omega)
  have p47R3 := p45R3.st (li_R.ap (qs := []) gl47 gn47) (fun z hz => by simp <;> omega)
  have p47R8 := p45R8.st (li_R.ap (qs := []) gl47 gn47) (fun z hz => by simp <;> omega)
  have p47R13 := p45R13.st (li_R.ap (qs := []) gl47 gn47) (fun z hz => by simp <;> omega)
  have p47R15 := p45R15.st (li_R.ap (qs := []) gl47 gn47) (fun z hz => by simp <;> omega)
  have p47R17 := p45R17.st (li_R.ap (qs := []) gl47 gn47) (fun z hz => by simp <;> omega)
  have g47O46 : w47[(w.length + 58)]? = some (a46, .inr (5, [.int 0, .null, .int 0])) := by have e9 := g47; rw [show w45.length = (w.length + 58) from hn45] at e9; exact e9
  have hR47 : li_R w w47 [q] := hR45.tr (li_R.ap gl47 gn47)
  refine lv_dup hx hb dj_X7_init_186 rfl ?_
  refine li_cI (As := []) (rest := [.ref a46, .ref a31]) (li_Jx4a65c_init_da8c8 l D tys w47 _ e0 ca ad (⟨hD.1, fun j z hz => Or.inl ⟨j, z.2, hz⟩⟩ : va_D (va_A w47 H.size) w47) (w.length + 58) a46 g47O46) gj_X7_53 rfl ⟨Nat.le_of_ble_eq_true rfl, Nat.le_of_ble_eq_true rfl⟩ ⟨by show _ ≤ 72; omega, by show _ ≤ 6200; omega⟩ (Nat.le_of_ble_eq_true rfl) hx hb (hml.trans hl.1.symm) hts hown hK hT hL hP hD hS hA dj_X7_init_187 (fun res w48 H locs hrv hqq hP hD hS => ?_)
  obtain rfl := (show res = none from hrv)
  obtain ⟨gc48, hl48, hRc48⟩ := hqq
  have hn48 : w48.length = w.length + 59 := by omega
  have g48Y := hRc48.at g47Y (by simp <;> omega)
  have g48A5 := hRc48.at g47A5 (by simp <;> omega)
  have g48A10 := hRc48.at g47A10 (by simp <;> omega)
  have g48A19 := hRc48.at g47A19 (by simp <;> omega)
  have g48A22 := hRc48.at g47A22 (by simp <;> omega)
  have g48A25 := hRc48.at g47A25 (by simp <;> omega)
  have g48A28 := hRc48.at g47A28 (by simp <;> omega)
  have g48O31 := hRc48.at g47O31 (by simp <;> omega)
  have g48A35 := hRc48.at g47A35 (by simp <;> omega)
  have g48A38 := hRc48.at g47A38 (by simp <;> omega)
  have g48A41 := hRc48.at g47A41 (by simp <;> omega)
  have p48R1 := p47R1.st hRc48 (fun z hz => by simp <;> omega)
  have p48R3 := p47R3.st hRc48 (fun z hz => by simp <;> omega)
  have p48R8 := p47R8.st hRc48 (fun z hz => by simp <;> omega)
  have p48R13 := p47R13.st hRc48 (fun z hz => by simp <;> omega)
  have p48R15 := p47R15.st hRc48 (fun z hz => by simp <;> omega)
  have p48R17 := p47R17.st hRc48 (fun z hz => by simp <;> omega)
  have gq48 : w48[(w.length + 58)]? = some (a46, .inr (5, [.int 0, .ref e0, .int 0])) := gc48
  have hR48 : li_R w w48 [q] := hR47.nx hRc48 (by omega)
  refine li_cV (As := [.ref a46]) (rest := []) (li_addL_0 l D tys w48 _ e0 ca ad (⟨hD.1, fun j z hz => Or.inl ⟨j, z.2, hz⟩⟩ : va_D (va_A w48 H.size) w48) (w.length + 54) (w.length + 54) a31 0 (fun _ => none) cL 9 a46 g48O31 ht9 ⟨_, _, gq48⟩) gj_X7_75 (va_recv hK hP (ci := 5) (q0 := (w.length + 54)) rfl g48O31) rfl ⟨Nat.le_of_ble_eq_true rfl, Nat.le_of_ble_eq_true rfl⟩ ⟨by show _ ≤ 72; omega, by show _ ≤ 6200; omega⟩ (Nat.le_of_ble_eq_true rfl) hx hb (hml.trans hl.1.symm) hts hown hK hT hL hP hD hS hA dj_X7_init_190 (fun res w49 H locs hrv hqq hP hD hS => ?_)
  obtain ⟨r49, g49D, g49A, hl49, hRc49⟩ := hqq
  obtain ⟨rv49, rfl⟩ := (show ∃ r, res = some (.int r) from hrv)
  have hn49 : w49.length = w.length + 60 := by omega
  have g49Y := hRc49.at g48Y (by simp <;> omega)
  have g49A5 := hRc49.at g48A5 (by simp <;> omega)
  have g49A10 := hRc49.at g48A10 (by simp <;> omega)
  have g49A19 := hRc49.at g48A19 (by simp <;> omega)
  have g49A22 := hRc49.at g48A22 (by simp <;> omega)
  have g49A25 := hRc49.at g48A25 (by simp <;> omega)
  have g49A28 := hRc49.at g48A28 (by simp <;> omega)
  have g49A35 := hRc49.at g48A35 (by simp <;> omega)
  have g49A38 := hRc49.at g48A38 (by simp <;> omega)
  have g49A41 := hRc49.at g48A41 (by simp <;> omega)
  have g49O46 := hRc49.at gq48 (by simp <;> omega)
  have p49R1 := p48R1.st hRc49 (fun z hz => by simp <;> omega)
  have p49R3 := p48R3.st hRc49 (fun z hz => by simp <;> omega)
  have p49R8 := p48R8.st hRc49 (fun z hz => by simp <;> omega)
  have p49R13 := p48R13.st hRc49 (fun z hz => by simp <;> omega)
  have p49R15 := p48R15.st hRc49 (fun z hz => by simp <;> omega)
  have p49R17 := p48R17.st hRc49 (fun z hz => by simp <;> omega)
  have g49A : w49[(w.length + 59)]? = some (r49, .inl (cL, 10, .inr (.inr (.inr (.inr (va_up (fun _ => none) 0 (some a46))))))) := by rw [show w48.length = (w.length + 59) from hn48] at g49A; exact g49A
  have hR49 : li_R w w49 [q] := hR48.nx hRc49 (by omega)
  refine lv_pop hx hb dj_X7_init_193 rfl ?_
  refine lv_iinc (v := 1) (lv' := [(1, .int 1), (0, .ref y)]) hx hb dj_X7_init_194 hl (k := 0) rfl (by decide) (by decide) rfl (fun ls hl => ?_)
  refine lv_goto (tgt := 173) hx hb dj_X7_init_197 (by decide) ?_
  refine lv_iload_n hx hb dj_X7_init_173 rfl (lv_at hl 0 rfl) ?_
  refine lv_bipush (v := 6) hx hb dj_X7_init_174 (by decide) ?_
  refine lv_icmp_ge (tgt := 200) hx hb dj_X7_init_176 (by decide) (fun c9 => absurd c9 (by decide)) (fun _ => ?_)
  refine lv_aload_n hx hb dj_X7_init_179 rfl (lv_at hl 1 rfl) ?_
  refine va_get (D := D) (ci := 13) (v := .ref a31) (C := RX7) (T := TX7) (N := 31) hx hb hts uwj_X7 hown hK hP q g49Y rfl 12 (by decide) (hts _ cwj1510) (fun _ h9 => h9) rfl dj_X7_init_180 ?_
  refine va_new (ci := 5) (fs := [.int 0, .null, .int 0]) (C := RJx4a65c) (T := TJx4a65c) (N := 3) hx hb hts uwj_Jx4a65c tyJx4a65c tyJx4a65c_ok hown (hts _ cwj1405) (hts _ cwj1406) (hts _ cwj85) hK hP hD hS hA rfl (fun j hj => match j, hj with | 0, _ => rfl | 1, _ => rfl | 2, _ => rfl | n + 3, h => absurd h (by omega)) (by show _ ≤ 72; omega) (by show _ ≤ 6200; omega) dj_X7_init_183 (fun a50 H hP hD hS => ?_)
  obtain ⟨w51, ew51, g51, gl51, gn51⟩ := li_app w49 (a50, .inr (5, [.int 0, .null, .int 0]))
  rw [← ew51] at hP hD
  have hn51 : w51.length = w.length + 61 := by omega
  have g51Y := (gn51 q (by omega)).trans g49Y
  have g51A5 := (gn51 (w.length + 20) (by omega)).trans g49A5
  have g51A10 := (gn51 (w.length + 28) (by omega)).trans g49A10
  have g51A19 := (gn51 (w.length + 50) (by omega)).trans g49A19
  have g51A22 := (gn51 (w.length + 51) (by omega)).trans g49A22
  have g51A25 := (gn51 (w.length + 52) (by omega)).trans g49A25
  have g51A28 := (gn51 (w.length + 53) (by omega)).trans g49A28
  have g51O31 := (gn51 (w.length + 54) (by omega)).trans g49D
  have g51A35 := (gn51 (w.length + 55) (by omega)).trans g49A35
  have g51A38 := (gn51 (w.length + 56) (by omega)).trans g49A38
  have g51A41 := (gn51 (w.length + 57) (by omega)).trans g49A41
  have g51O46 := (gn51 (w.length + 58) (by omega)).trans g49O46
  have g51OA := (gn51 (w.length + 59) (by omega)).trans g49A
  have p51R1 := p49R1.st (li_R.ap (qs := []) gl51 gn51) (fun z hz => by simp <;> omega)
  have p51R3 := p49R3.st (li_R.ap (qs := []) gl51 gn51) (fun z hz => by simp <;> omega)
  have p51R8 := p49R8.st (li_R.ap (qs := []) gl51 gn51) (fun z hz => by simp <;> omega)
  have p51R13 := p49R13.st (li_R.ap (qs := []) gl51 gn51) (fun z hz => by simp <;> omega)
  have p51R15 := p49R15.st (li_R.ap (qs := []) gl51 gn51) (fun z hz => by simp <;> omega)
  have p51R17 := p49R17.st (li_R.ap (qs := []) gl51 gn51) (fun z hz => by simp <;> omega)
  have g51O50 : w51[(w.length + 60)]? = some (a50, .inr (5, [.int 0, .null, .int 0])) := by have e9 := g51; rw [show w49.length = (w.length + 60) from hn49] at e9; exact e9
  have hR51 : li_R w w51 [q] := hR49.tr (li_R.ap gl51 gn51)
  refine lv_dup hx hb dj_X7_init_186 rfl ?_
  refine li_cI (As := []) (rest := [.ref a50, .ref a31]) (li_Jx4a65c_init_da8c8 l D tys w51 _ e0 ca ad (⟨hD.1, fun j z hz => Or.inl ⟨j, z.2, hz⟩⟩ : va_D (va_A w51 H.size) w51) (w.length + 60) a50 g51O50) gj_X7_53 rfl ⟨Nat.le_of_ble_eq_true rfl, Nat.le_of_ble_eq_true rfl⟩ ⟨by show _ ≤ 72; omega, by show _ ≤ 6200; omega⟩ (Nat.le_of_ble_eq_true rfl) hx hb (hml.trans hl.1.symm) hts hown hK hT hL hP hD hS hA dj_X7_init_187 (fun res w52 H locs hrv hqq hP hD hS => ?_)
  obtain rfl := (show res = none from hrv)
  obtain ⟨gc52, hl52, hRc52⟩ := hqq
  have hn52 : w52.length = w.length + 61 := by omega
  have g52Y := hRc52.at g51Y (by simp <;> omega)
  have g52A5 := hRc52.at g51A5 (by simp <;> omega)
  have g52A10 := hRc52.at g51A10 (by simp <;> omega)
  have g52A19 := hRc52.at g51A19 (by simp <;> omega)
  have g52A22 := hRc52.at g51A22 (by simp <;> omega)
  have g52A25 := hRc52.at g51A25 (by simp <;> omega)
  have g52A28 := hRc52.at g51A28 (by simp <;> omega)
  have g52O31 := hRc52.at g51O31 (by simp <;> omega)
  have g52A35 := hRc52.at g51A35 (by simp <;> omega)
  have g52A38 := hRc52.at g51A38 (by simp <;> omega)
  have g52A41 := hRc52.at g51A41 (by simp <;> omega)
  have g52O46 := hRc52.at g51O46 (by simp <;> omega)
  have g52OA := hRc52.at g51OA (by simp <;> omega)
  have p52R1 := p51R1.st hRc52 (fun z hz => by simp <;> omega)
  have p52R3 := p51R3.st hRc52 (fun z hz => by simp <;> omega)
  have p52R8 := p51R8.st hRc52 (fun z hz => by simp <;> omega)
  have p52R13 := p51R13.st hRc52 (fun z hz => by simp <;> omega)
  have p52R15 := p51R15.st hRc52 (fun z hz => by simp <;> omega)
  have p52R17 := p51R17.st hRc52 (fun z hz => by simp <;> omega)
  have gq52 : w52[(w.length + 60)]? = some (a50, .inr (5, [.int 0, .ref e0, .int 0])) := gc52
  have hR52 : li_R w w52 [q] := hR51.nx hRc52 (by omega)
  refine li_cV (As := [.ref a50]) (rest := []) (li_addL_r l D tys w52 _ e0 ca ad (⟨hD.1, fun j z hz => Or.inl ⟨j, z.2, hz⟩⟩ : va_D (va_A w52 H.size) w52) (w.length + 54) (w.length + 59) a31 r49 1 10 (0 + 1) (va_up (fun _ => none) 0 (some a46)) cL 9 a50 g52O31 g52OA ht9 (by decide) (by decide) (by decide) ⟨_, _, gq52⟩) gj_X7_75 (va_recv hK hP (ci := 5) (q0 := (w.length + 54)) rfl g52O31) rfl ⟨Nat.le_of_ble_eq_true rfl, Nat.le_of_ble_eq_true rfl⟩ ⟨by show _ ≤ 72; omega, by show _ ≤ 6200; omega⟩ (Nat.le_of_ble_eq_true rfl) hx hb (hml.trans hl.1.symm) hts hown hK hT hL hP hD hS hA dj_X7_init_190 (fun res w53 H locs hrv hqq hP hD hS => ?_)
  obtain ⟨g53D, g53A, hl53, hRc53⟩ := hqq
  obtain ⟨rv53, rfl⟩ := (show ∃ r, res = some (.int r) from hrv)
  have hn53 : w53.length = w.length + 61 := by omega
  have g53Y := hRc53.at g52Y (by simp <;> omega)
  have g53A5 := hRc53.at g52A5 (by simp <;> omega)
  have g53A10 := hRc53.at g52A10 (by simp <;> omega)
  have g53A19 := hRc53.at g52A19 (by simp <;> omega)
  have g53A22 := hRc53.at g52A22 (by simp <;> omega)
  have g53A25 := hRc53.at g52A25 (by simp <;> omega)
  have g53A28 := hRc53.at g52A28 (by simp <;> omega)
  have g53A35 := hRc53.at g52A35 (by simp <;> omega)
  have g53A38 := hRc53.at g52A38 (by simp <;> omega)
  have g53A41 := hRc53.at g52A41 (by simp <;> omega)
  have g53O46 := hRc53.at g52O46 (by simp <;> omega)
  have g53O50 := hRc53.at gq52 (by simp <;> omega)
  have p53R1 := p52R1.st hRc53 (fun z hz => by simp <;> omega)
  have p53R3 := p52R3.st hRc53 (fun z hz => by simp <;> omega)
  have p53R8 := p52R8.st hRc53 (fun z hz => by simp <;> omega)
  have p53R13 := p52R13.st hRc53 (fun z hz => by simp <;> omega)
  have p53R15 := p52R15.st hRc53 (fun z hz => by simp <;> omega)
  have p53R17 := p52R17.st hRc53 (fun z hz => by simp <;> omega)
  have hR53 : li_R w w53 [q] := hR52.nx2 hRc53 (by omega) (by omega)
  refine lv_pop hx hb dj_X7_init_193 rfl ?_
  refine lv_iinc (v := 2) (lv' := [(1, .int 2), (0, .ref y)]) hx hb dj_X7_init_194 hl (k := 0) rfl (by decide) (by decide) rfl (fun ls hl => ?_)
  refine lv_goto (tgt := 173) hx hb dj_X7_init_197 (by decide) ?_
  refine lv_iload_n hx hb dj_X7_init_173 rfl (lv_at hl 0 rfl) ?_
  refine lv_bipush (v := 6) hx hb dj_X7_init_174 (by decide) ?_
  refine lv_icmp_ge (tgt := 200) hx hb dj_X7_init_176 (by decide) (fun c9 => absurd c9 (by decide)) (fun _ => ?_)
  refine lv_aload_n hx hb dj_X7_init_179 rfl (lv_at hl 1 rfl) ?_
  refine va_get (D := D) (ci := 13) (v := .ref a31) (C := RX7) (T := TX7) (N := 31) hx hb hts uwj_X7 hown hK hP q g53Y rfl 12 (by decide) (hts _ cwj1510) (fun _ h9 => h9) rfl dj_X7_init_180 ?_
  refine va_new (ci := 5) (fs := [.int 0, .null, .int 0]) (C := RJx4a65c) (T := TJx4a65c) (N := 3) hx hb hts uwj_Jx4a65c tyJx4a65c tyJx4a65c_ok hown (hts _ cwj1405) (hts _ cwj1406) (hts _ cwj85) hK hP hD hS hA rfl (fun j hj => match j, hj with | 0, _ => rfl | 1, _ => rfl | 2, _ => rfl | n + 3, h => absurd h (by omega)) (by show _ ≤ 72; omega) (by show _ ≤ 6200; omega) dj_X7_init_183 (fun a54 H hP hD hS => ?_)
  obtain ⟨w55, ew55, g55, gl55, gn55⟩ := li_app w53 (a54, .inr (5, [.int 0, .null, .int 0]))
  rw [← ew55] at hP hD
  have hn55 : w55.length = w.length + 62 := by omega
  have g55Y := (gn55 q (by omega)).trans g53Y
  have g55A5 := (gn55 (w.length + 20) (by omega)).trans g53A5
  have g55A10 := (gn55 (w.length + 28) (by omega)).trans g53A10
  have g55A19 := (gn55 (w.length + 50) (by omega)).trans g53A19
  have g55A22 := (gn55 (w.length + 51) (by omega)).trans g53A22
  have g55A25 := (gn55 (w.length + 52) (by omega)).trans g53A25
  have g55A28 := (gn55 (w.length + 53) (by omega)).trans g53A28
  have g55O31 := (gn55 (w.length + 54) (by omega)).trans g53D
  have g55A35 := (gn55 (w.length + 55) (by omega)).trans g53A35
  have g55A38 := (gn55 (w.length + 56) (by omega)).trans g53A38
  have g55A41 := (gn55 (w.length + 57) (by omega)).trans g53A41
  have g55O46 := (gn55 (w.length + 58) (by omega)).trans g53O46
  have g55OA := (gn55 (w.length + 59) (by omega)).trans g53A
  have g55O50 := (gn55 (w.length + 60) (by omega)).trans g53O50
  have p55R1 := p53R1.st (li_R.ap (qs := []) gl55 gn55) (fun z hz => by simp <;> omega)
  have p55R3 := p53R3.st (li_R.ap (qs := []) gl55 gn55) (fun z hz => by simp <;> omega)
  have p55R8 := p53R8.st (li_R.ap (qs := []) gl55 gn55) (fun z hz => by simp <;> omega)
  have p55R13 := p53R13.st (li_R.ap (qs := []) gl55 gn55) (fun z hz => by simp <;> omega)
  have p55R15 := p53R15.st (li_R.ap (qs := []) gl55 gn55) (fun z hz => by simp <;> omega)
  have p55R17 := p53R17.st (li_R.ap (qs := []) gl55 gn55) (fun z hz => by simp <;> omega)
  have g55O54 : w55[(w.length + 61)]? = some (a54, .inr (5, [.int 0, .null, .int 0])) := by have e9 := g55; rw [show w53.length = (w.length + 61) from hn53] at e9; exact e9
  have hR55 : li_R w w55 [q] := hR53.tr (li_R.ap gl55 gn55)
  refine lv_dup hx hb dj_X7_init_186 rfl ?_
  refine li_cI (As := []) (rest := [.ref a54, .ref a31]) (li_Jx4a65c_init_da8c8 l D tys w55 _ e0 ca ad (⟨hD.1, fun j z hz => Or.inl ⟨j, z.2, hz⟩⟩ : va_D (va_A w55 H.size) w55) (w.length + 61) a54 g55O54) gj_X7_53 rfl ⟨Nat.le_of_ble_eq_true rfl, Nat.le_of_ble_eq_true rfl⟩ ⟨by show _ ≤ 72; omega, by show _ ≤ 6200; omega⟩ (Nat.le_of_ble_eq_true rfl) hx hb (hml.trans hl.1.symm) hts hown hK hT hL hP hD hS hA dj_X7_init_187 (fun res w56 H locs hrv hqq hP hD hS => ?_)
  obtain rfl := (show res = none from hrv)
  obtain ⟨gc56, hl56, hRc56⟩ := hqq
  have hn56 : w56.length = w.length + 62 := by omega
  have g56Y := hRc56.at g55Y (by simp <;> omega)
  have g56A5 := hRc56.at g55A5 (by simp <;> omega)
  have g56A10 := hRc56.at g55A10 (by simp <;> omega)
  have g56A19 := hRc56.at g55A19 (by simp <;> omega)
  have g56A22 := hRc56.at g55A22 (by simp <;> omega)
  have g56A25 := hRc56.at g55A25 (by simp <;> omega)
  have g56A28 := hRc56.at g55A28 (by simp <;> omega)
  have g56O31 := hRc56.at g55O31 (by simp <;> omega)
  have g56A35 := hRc56.at g55A35 (by simp <;> omega)
  have g56A38 := hRc56.at g55A38 (by simp <;> omega)
  have g56A41 := hRc56.at g55A41 (by simp <;> omega)
  have g56O46 := hRc56.at g55O46 (by simp <;> omega)
  have g56OA := hRc56.at g55OA (by simp <;> omega)
  have g56O50 := hRc56.at g55O50 (by simp <;> omega)
  have p56R1 := p55R1.st hRc56 (fun z hz => by simp <;> omega)
  have p56R3 := p55R3.st hRc56 (fun z hz => by simp <;> omega)
  have p56R8 := p55R8.st hRc56 (fun z hz => by simp <;> omega)
  have p56R13 := p55R13.st hRc56 (fun z hz => by simp <;> omega)
  have p56R15 := p55R15.st hRc56 (fun z hz => by simp <;> omega)
  have p56R17 := p55R17.st hRc56 (fun z hz => by simp <;> omega)
  have gq56 : w56[(w.length + 61)]? = some (a54, .inr (5, [.int 0, .ref e0, .int 0])) := gc56
  have hR56 : li_R w w56 [q] := hR55.nx hRc56 (by omega)
  refine li_cV (As := [.ref a54]) (rest := []) (li_addL_r l D tys w56 _ e0 ca ad (⟨hD.1, fun j z hz => Or.inl ⟨j, z.2, hz⟩⟩ : va_D (va_A w56 H.size) w56) (w.length + 54) (w.length + 59) a31 r49 2 10 ((0 + 1) + 1) (va_up (va_up (fun _ => none) 0 (some a46)) 1 (some a50)) cL 9 a54 g56O31 g56OA ht9 (by decide) (by decide) (by decide) ⟨_, _, gq56⟩) gj_X7_75 (va_recv hK hP (ci := 5) (q0 := (w.length + 54)) rfl g56O31) rfl ⟨Nat.le_of_ble_eq_true rfl, Nat.le_of_ble_eq_true rfl⟩ ⟨by show _ ≤ 72; omega, by show _ ≤ 6200; omega⟩ (Nat.le_of_ble_eq_true rfl) hx hb (hml.trans hl.1.symm) hts hown hK hT hL hP hD hS hA dj_X7_init_190 (fun res w57 H locs hrv hqq hP hD hS => ?_)
  obtain ⟨g57D, g57A, hl57, hRc57⟩ := hqq
  obtain ⟨rv57, rfl⟩ := (show ∃ r, res = some (.int r) from hrv)
  have hn57 : w57.length = w.length + 62 := by omega
  have g57Y := hRc57.at g56Y (by simp <;> omega)
  have g57A5 := hRc57.at g56A5 (by simp <;> omega)
  have g57A10 := hRc57.at g56A10 (by simp <;> omega)
  have g57A19 := hRc57.at g56A19 (by simp <;> omega)
  have g57A22 := hRc57.at g56A22 (by simp <;> omega)
  have g57A25 := hRc57.at g56A25 (by simp <;> omega)
  have g57A28 := hRc57.at g56A28 (by simp <;> omega)
  have g57A35 := hRc57.at g56A35 (by simp <;> omega)
  have g57A38 := hRc57.at g56A38 (by simp <;> omega)
  have g57A41 := hRc57.at g56A41 (by simp <;> omega)
  have g57O46 := hRc57.at g56O46 (by simp <;> omega)
  have g57O50 := hRc57.at g56O50 (by simp <;> omega)
  have g57O54 := hRc57.at gq56 (by simp <;> omega)
  have p57R1 := p56R1.st hRc57 (fun z hz => by simp <;> omega)
  have p57R3 := p56R3.st hRc57 (fun z hz => by simp <;> omega)
  have p57R8 := p56R8.st hRc57 (fun z hz => by simp <;> omega)
  have p57R13 := p56R13.st hRc57 (fun z hz => by simp <;> omega)
  have p57R15 := p56R15.st hRc57 (fun z hz => by simp <;> omega)
  have p57R17 := p56R17.st hRc57 (fun z hz => by simp <;> omega)
  have hR57 : li_R w w57 [q] := hR56.nx2 hRc57 (by omega) (by omega)
  refine lv_pop hx hb dj_X7_init_193 rfl ?_
  refine lv_iinc (v := 3) (lv' := [(1, .int 3), (0, .ref y)]) hx hb dj_X7_init_194 hl (k := 0) rfl (by decide) (by decide) rfl (fun ls hl => ?_)
  refine lv_goto (tgt := 173) hx hb dj_X7_init_197 (by decide) ?_
  refine lv_iload_n hx hb dj_X7_init_173 rfl (lv_at hl 0 rfl) ?_
  refine lv_bipush (v := 6) hx hb dj_X7_init_174 (by decide) ?_
  refine lv_icmp_ge (tgt := 200) hx hb dj_X7_init_176 (by decide) (fun c9 => absurd c9 (by decide)) (fun _ => ?_)
  refine lv_aload_n hx hb dj_X7_init_179 rfl (lv_at hl 1 rfl) ?_
  refine va_get (D := D) (ci := 13) (v := .ref a31) (C := RX7) (T := TX7) (N := 31) hx hb hts uwj_X7 hown hK hP q g57Y rfl 12 (by decide) (hts _ cwj1510) (fun _ h9 => h9) rfl dj_X7_init_180 ?_
  refine va_new (ci := 5) (fs := [.int 0, .null, .int 0]) (C := RJx4a65c) (T := TJx4a65c) (N := 3) hx hb hts uwj_Jx4a65c tyJx4a65c tyJx4a65c_ok hown (hts _ cwj1405) (hts _ cwj1406) (hts _ cwj85) hK hP hD hS hA rfl (fun j hj => match j, hj with | 0, _ => rfl | 1, _ => rfl | 2, _ => rfl | n + 3, h => absurd h (by omega)) (by show _ ≤ 72; omega) (by show _ ≤ 6200; omega) dj_X7_init_183 (fun a58 H hP hD hS => ?_)
  obtain ⟨w59, ew59, g59, gl59, gn59⟩ := li_app w57 (a58, .inr (5, [.int 0, .null, .int 0]))
  rw [← ew59] at hP hD
  have hn59 : w59.length = w.length + 63 := by omega
  have g59Y := (gn59 q (by omega)).trans g57Y
  have g59A5 := (gn59 (w.length + 20) (by omega)).trans g57A5
  have g59A10 := (gn59 (w.length + 28) (by omega)).trans g57A10
  have g59A19 := (gn59 (w.length + 50) (by omega)).trans g57A19
  have g59A22 := (gn59 (w.length + 51) (by omega)).trans g57A22
  have g59A25 := (gn59 (w.length + 52) (by omega)).trans g57A25
  have g59A28 := (gn59 (w.length + 53) (by omega)).trans g57A28
  have g59O31 := (gn59 (w.length + 54) (by omega)).trans g57D
  have g59A35 := (gn59 (w.length + 55) (by omega)).trans g57A35
  have g59A38 := (gn59 (w.length + 56) (by omega)).trans g57A38
  have g59A41 := (gn59 (w.length + 57) (by omega)).trans g57A41
  have g59O46 := (gn59 (w.length + 58) (by omega)).trans g57O46
  have g59OA := (gn59 (w.length + 59) (by omega)).trans g57A
  have g59O50 := (gn59 (w.length + 60) (by omega)).trans g57O50
  have g59O54 := (gn59 (w.length + 61) (by omega)).trans g57O54
  have p59R1 := p57R1.st (li_R.ap (qs := []) gl59 gn59) (fun z hz => by simp <;> omega)
  have p59R3 := p57R3.st (li_R.ap (qs := []) gl59 gn59) (fun z hz => by simp <;> omega)
  have p59R8 := p57R8.st (li_R.ap (qs := []) gl59 gn59) (fun z hz => by simp <;> omega)
  have p59R13 := p57R13.st (li_R.ap (qs := []) gl59 gn59) (fun z hz => by simp <;> omega)
  have p59R15 := p57R15.st (li_R.ap (qs := []) gl59 gn59) (fun z hz => by simp <;> omega)
  have p59R17 := p57R17.st (li_R.ap (qs := []) gl59 gn59) (fun z hz => by simp <;> omega)
  have g59O58 : w59[(w.length + 62)]? = some (a58, .inr (5, [.int 0, .null, .int 0])) := by have e9 := g59; rw [show w57.length = (w.length + 62) from hn57] at e9; exact e9
  have hR59 : li_R w w59 [q] := hR57.tr (li_R.ap gl59 gn59)
  refine lv_dup hx hb dj_X7_init_186 rfl ?_
  refine li_cI (As := []) (rest := [.ref a58, .ref a31]) (li_Jx4a65c_init_da8c8 l D tys w59 _ e0 ca ad (⟨hD.1, fun j z hz => Or.inl ⟨j, z.2, hz⟩⟩ : va_D (va_A w59 H.size) w59) (w.length + 62) a58 g59O58) gj_X7_53 rfl ⟨Nat.le_of_ble_eq_true rfl, Nat.le_of_ble_eq_true rfl⟩ ⟨by show _ ≤ 72; omega, by show _ ≤ 6200; omega⟩ (Nat.le_of_ble_eq_true rfl) hx hb (hml.trans hl.1.symm) hts hown hK hT hL hP hD hS hA dj_X7_init_187 (fun res w60 H locs hrv hqq hP hD hS => ?_)
  obtain rfl := (show res = none from hrv)
  obtain ⟨gc60, hl60, hRc60⟩ := hqq
  have hn60 : w60.length = w.length + 63 := by omega
  have g60Y := hRc60.at g59Y (by simp <;> omega)
  have g60A5 := hRc60.at g59A5 (by simp <;> omega)
  have g60A10 := hRc60.at g59A10 (by simp <;> omega)
  have g60A19 := hRc60.at g59A19 (by simp <;> omega)
  have g60A22 := hRc60.at g59A22 (by simp <;> omega)
  have g60A25 := hRc60.at g59A25 (by simp <;> omega)
  have g60A28 := hRc60.at g59A28 (by simp <;> omega)
  have g60O31 := hRc60.at g59O31 (by simp <;> omega)
  have g60A35 := hRc60.at g59A35 (by simp <;> omega)
  have g60A38 := hRc60.at g59A38 (by simp <;> omega)
  have g60A41 := hRc60.at g59A41 (by simp <;> omega)
  have g60O46 := hRc60.at g59O46 (by simp <;> omega)
  have g60OA := hRc60.at g59OA (by simp <;> omega)
  have g60O50 := hRc60.at g59O50 (by simp <;> omega)
  have g60O54 := hRc60.at g59O54 (by simp <;> omega)
  have p60R1 := p59R1.st hRc60 (fun z hz => by simp <;> omega)
  have p60R3 := p59R3.st hRc60 (fun z hz => by simp <;> omega)
  have p60R8 := p59R8.st hRc60 (fun z hz => by simp <;> omega)
  have p60R13 := p59R13.st hRc60 (fun z hz => by simp <;> omega)
  have p60R15 := p59R15.st hRc60 (fun z hz => by simp <;> omega)
  have p60R17 := p59R17.st hRc60 (fun z hz => by simp <;> omega)
  have gq60 : w60[(w.length + 62)]? = some (a58, .inr (5, [.int 0, .ref e0, .int 0])) := gc60
  have hR60 : li_R w w60 [q] := hR59.nx hRc60 (by omega)
  refine li_cV (As := [.ref a58]) (rest := []) (li_addL_r l D tys w60 _ e0 ca ad (⟨hD.1, fun j z hz => Or.inl ⟨j, z.2, hz⟩⟩ : va_D (va_A w60 H.size) w60) (w.length + 54) (w.length + 59) a31 r49 3 10 (((0 + 1) + 1) + 1) (va_up (va_up (va_up (fun _ => none) 0 (some a46)) 1 (some a50)) 2 (some a54)) cL 9 a58 g60O31 g60OA ht9 (by decide) (by decide) (by decide) ⟨_, _, gq60⟩) gj_X7_75 (va_recv hK hP (ci := 5) (q0 := (w.length + 54)) rfl g60O31) rfl ⟨Nat.le_of_ble_eq_true rfl, Nat.le_of_ble_eq_true rfl⟩ ⟨by show _ ≤ 72; omega, by show _ ≤ 6200; omega⟩ (Nat.le_of_ble_eq_true rfl) hx hb (hml.trans hl.1.symm) hts hown hK hT hL hP hD hS hA dj_X7_init_190 (fun res w61 H locs hrv hqq hP hD hS => ?_)
  obtain ⟨g61D, g61A, hl61, hRc61⟩ := hqq
  obtain ⟨rv61, rfl⟩ := (show ∃ r, res = some (.int r) from hrv)
  have hn61 : w61.length = w.length + 63 := by omega
  have g61Y := hRc61.at g60Y (by simp <;> omega)
  have g61A5 := hRc61.at g60A5 (by simp <;> omega)
  have g61A10 := hRc61.at g60A10 (by simp <;> omega)
  have g61A19 := hRc61.at g60A19 (by simp <;> omega)
  have g61A22 := hRc61.at g60A22 (by simp <;> omega)
  have g61A25 := hRc61.at g60A25 (by simp <;> omega)
  have g61A28 := hRc61.at g60A28 (by simp <;> omega)
  have g61A35 := hRc61.at g60A35 (by simp <;> omega)
  have g61A38 := hRc61.at g60A38 (by simp <;> omega)
  have g61A41 := hRc61.at g60A41 (by simp <;> omega)
  have g61O46 := hRc61.at g60O46 (by simp <;> omega)
  have g61O50 := hRc61.at g60O50 (by simp <;> omega)
  have g61O54 := hRc61.at g60O54 (by simp <;> omega)
  have g61O58 := hRc61.at gq60 (by simp <;> omega)
  have p61R1 := p60R1.st hRc61 (fun z hz => by simp <;> omega)
  have p61R3 := p60R3.st hRc61 (fun z hz => by simp <;> omega)
  have p61R8 := p60R8.st hRc61 (fun z hz => by simp <;> omega)
  have p61R13 := p60R13.st hRc61 (fun z hz => by simp <;> omega)
  have p61R15 := p60R15.st hRc61 (fun z hz => by simp <;> omega)
  have p61R17 := p60R17.st hRc61 (fun z hz => by simp <;> omega)
  have hR61 : li_R w w61 [q] := hR60.nx2 hRc61 (by omega) (by omega)
  refine lv_pop hx hb dj_X7_init_193 rfl ?_
  refine lv_iinc (v := 4) (lv' := [(1, .int 4), (0, .ref y)]) hx hb dj_X7_init_194 hl (k := 0) rfl (by decide) (by decide) rfl (fun ls hl => ?_)
  refine lv_goto (tgt := 173) hx hb dj_X7_init_197 (by decide) ?_
  refine lv_iload_n hx hb dj_X7_init_173 rfl (lv_at hl 0 rfl) ?_
  refine lv_bipush (v := 6) hx hb dj_X7_init_174 (by decide) ?_
  refine lv_icmp_ge (tgt := 200) hx hb dj_X7_init_176 (by decide) (fun c9 => absurd c9 (by decide)) (fun _ => ?_)
  refine lv_aload_n hx hb dj_X7_init_179 rfl (lv_at hl 1 rfl) ?_
  refine va_get (D := D) (ci := 13) (v := .ref a31) (C := RX7) (T := TX7) (N := 31) hx hb hts uwj_X7 hown hK hP q g61Y rfl 12 (by decide) (hts _ cwj1510) (fun _ h9 => h9) rfl dj_X7_init_180 ?_
  refine va_new (ci := 5) (fs := [.int 0, .null, .int 0]) (C := RJx4a65c) (T := TJx4a65c) (N := 3) hx hb hts uwj_Jx4a65c tyJx4a65c tyJx4a65c_ok hown (hts _ cwj1405) (hts _ cwj1406) (hts _ cwj85) hK hP hD hS hA rfl (fun j hj => match j, hj with | 0, _ => rfl | 1, _ => rfl | 2, _ => rfl | n + 3, h => absurd h (by omega)) (by show _ ≤ 72; omega) (by show _ ≤ 6200; omega) dj_X7_init_183 (fun a62 H hP hD hS => ?_)
  obtain ⟨w63, ew63, g63, gl63, gn63⟩ := li_app w61 (a62, .inr (5, [.int 0, .null, .int 0]))
  rw [← ew63] at hP hD
  have hn63 : w63.length = w.length + 64 := by omega
  have g63Y := (gn63 q (by omega)).trans g61Y
  have g63A5 := (gn63 (w.length + 20) (by omega)).trans g61A5
  have g63A10 := (gn63 (w.length + 28) (by omega)).trans g61A10
  have g63A19 := (gn63 (w.length + 50) (by omega)).trans g61A19
  have g63A22 := (gn63 (w.length + 51) (by omega)).trans g61A22
  have g63A25 := (gn63 (w.length + 52) (by omega)).trans g61A25
  have g63A28 := (gn63 (w.length + 53) (by omega)).trans g61A28
  have g63O31 := (gn63 (w.length + 54) (by omega)).trans g61D
  have g63A35 := (gn63 (w.length + 55) (by omega)).trans g61A35
  have g63A38 := (gn63 (w.length + 56) (by omega)).trans g61A38
  have g63A41 := (gn63 (w.length + 57) (by omega)).trans g61A41
  have g63O46 := (gn63 (w.length + 58) (by omega)).trans g61O46
  have g63OA := (gn63 (w.length + 59) (by omega)).trans g61A
  have g63O50 := (gn63 (w.length + 60) (by omega)).trans g61O50
  have g63O54 := (gn63 (w.length + 61) (by omega)).trans g61O54
  have g63O58 := (gn63 (w.length + 62) (by omega)).trans g61O58
  have p63R1 := p61R1.st (li_R.ap (qs := []) gl63 gn63) (fun z hz => by simp <;> omega)
  have p63R3 := p61R3.st (li_R.ap (qs := []) gl63 gn63) (fun z hz => by simp <;> omega)
  have p63R8 := p61R8.st (li_R.ap (qs := []) gl63 gn63) (fun z hz => by simp <;> omega)
  have p63R13 := p61R13.st (li_R.ap (qs := []) gl63 gn63) (fun z hz => by simp <;> omega)
  have p63R15 := p61R15.st (li_R.ap (qs := []) gl63 gn63) (fun z hz => by simp <;> omega)
  have p63R17 := p61R17.st (li_R.ap (qs := []) gl63 gn63) (fun z hz => by simp <;> omega)
  have g63O62 : w63[(w.length + 63)]? = some (a62, .inr (5, [.int 0, .null, .int 0])) := by have e9 := g63; rw [show w61.length = (w.length + 63) from hn61] at e9; exact e9
  have hR63 : li_R w w63 [q] := hR61.tr (li_R.ap gl63 gn63)
  refine lv_dup hx hb dj_X7_init_186 rfl ?_
  refine li_cI (As := []) (rest := [.ref a62, .ref a31]) (li_Jx4a65c_init_da8c8 l D tys w63 _ e0 ca ad (⟨hD.1, fun j z hz => Or.inl ⟨j, z.2, hz⟩⟩ : va_D (va_A w63 H.size) w63) (w.length + 63) a62 g63O62) gj_X7_53 rfl ⟨Nat.le_of_ble_eq_true rfl, Nat.le_of_ble_eq_true rfl⟩ ⟨by show _ ≤ 72; omega, by show _ ≤ 6200; omega⟩ (Nat.le_of_ble_eq_true rfl) hx hb (hml.trans hl.1.symm) hts hown hK hT hL hP hD hS hA dj_X7_init_187 (fun res w64 H locs hrv hqq hP hD hS => ?_)
  obtain rfl := (show res = none from hrv)
  obtain ⟨gc64, hl64, hRc64⟩ := hqq
  have hn64 : w64.length = w.length + 64 := by omega
  have g64Y := hRc64.at g63Y (by simp <;> omega)
  have g64A5 := hRc64.at g63A5 (by simp <;> omega)
  have g64A10 := hRc64.at g63A10 (by simp <;> omega)
  have g64A19 := hRc64.at g63A19 (by simp <;> omega)
  have g64A22 := hRc64.at g63A22 (by simp <;> omega)
  have g64A25 := hRc64.at g63A25 (by simp <;> omega)
  have g64A28 := hRc64.at g63A28 (by simp <;> omega)
  have g64O31 := hRc64.at g63O31 (by simp <;> omega)
  have g64A35 := hRc64.at g63A35 (by simp <;> omega)
  have g64A38 := hRc64.at g63A38 (by simp <;> omega)
  have g64A41 := hRc64.at g63A41 (by simp <;> omega)
  have g64O46 := hRc64.at g63O46 (by simp <;> omega)
  have g64OA := hRc64.at g63OA (by simp <;> omega)
  have g64O50 := hRc64.at g63O50 (by simp <;> omega)
  have g64O54 := hRc64.at g63O54 (by simp <;> omega)
  have g64O58 := hRc64.at g63O58 (by simp <;> omega)
  have p64R1 := p63R1.st hRc64 (fun z hz => by simp <;> omega)
  have p64R3 := p63R3.st hRc64 (fun z hz => by simp <;> omega)
  have p64R8 := p63R8.st hRc64 (fun z hz => by simp <;> omega)
  have p64R13 := p63R13.st hRc64 (fun z hz => by simp <;> omega)
  have p64R15 := p63R15.st hRc64 (fun z hz => by simp <;> omega)
  have p64R17 := p63R17.st hRc64 (fun z hz => by simp <;> omega)
  have gq64 : w64[(w.length + 63)]? = some (a62, .inr (5, [.int 0, .ref e0, .int 0])) := gc64
  have hR64 : li_R w w64 [q] := hR63.nx hRc64 (by omega)
  refine li_cV (As := [.ref a62]) (rest := []) (li_addL_r l D tys w64 _ e0 ca ad (⟨hD.1, fun j z hz => Or.inl ⟨j, z.2, hz⟩⟩ : va_D (va_A w64 H.size) w64) (w.length + 54) (w.length + 59) a31 r49 4 10 ((((0 + 1) + 1) + 1) + 1) (va_up (va_up (va_up (va_up (fun _ => none) 0 (some a46)) 1 (some a50)) 2 (some a54)) 3 (some a58)) cL 9 a62 g64O31 g64OA ht9 (by decide) (by decide) (by decide) ⟨_, _, gq64⟩) gj_X7_75 (va_recv hK hP (ci := 5) (q0 := (w.length + 54)) rfl g64O31) rfl ⟨Nat.le_of_ble_eq_true rfl, Nat.le_of_ble_eq_true rfl⟩ ⟨by show _ ≤ 72; omega, by show _ ≤ 6200; omega⟩ (Nat.le_of_ble_eq_true rfl) hx hb (hml.trans hl.1.symm) hts hown hK hT hL hP hD hS hA dj_X7_init_190 (fun res w65 H locs hrv hqq hP hD hS => ?_)
  obtain ⟨g65D, g65A, hl65, hRc65⟩ := hqq
  obtain ⟨rv65, rfl⟩ := (show ∃ r, res = some (.int r) from hrv)
  have hn65 : w65.length = w.length + 64 := by omega
  have g65Y := hRc65.at g64Y (by simp <;> omega)
  have g65A5 := hRc65.at g64A5 (by simp <;> omega)
  have g65A10 := hRc65.at g64A10 (by simp <;> omega)
  have g65A19 := hRc65.at g64A19 (by simp <;> omega)
  have g65A22 := hRc65.at g64A22 (by simp <;> omega)
  have g65A25 := hRc65.at g64A25 (by simp <;> omega)
  have g65A28 := hRc65.at g64A28 (by simp <;> omega)
  have g65A35 := hRc65.at g64A35 (by simp <;> omega)
  have g65A38 := hRc65.at g64A38 (by simp <;> omega)
  have g65A41 := hRc65.at g64A41 (by simp <;> omega)
  have g65O46 := hRc65.at g64O46 (by simp <;> omega)
  have g65O50 := hRc65.at g64O50 (by simp <;> omega)
  have g65O54 := hRc65.at g64O54 (by simp <;> omega)
  have g65O58 := hRc65.at g64O58 (by simp <;> omega)
  have g65O62 := hRc65.at gq64 (by simp <;> omega)
  have p65R1 := p64R1.st hRc65 (fun z hz => by simp <;> omega)
  have p65R3 := p64R3.st hRc65 (fun z hz => by simp <;> omega)
  have p65R8 := p64R8.st hRc65 (fun z hz => by simp <;> omega)
  have p65R13 := p64R13.st hRc65 (fun z hz => by simp <;> omega)
  have p65R15 := p64R15.st hRc65 (fun z hz => by simp <;> omega)
  have p65R17 := p64R17.st hRc65 (fun z hz => by simp <;> omega)
  have hR65 : li_R w w65 [q] := hR64.nx2 hRc65 (by omega) (by omega)
  refine lv_pop hx hb dj_X7_init_193 rfl ?_
  refine lv_iinc (v := 5) (lv' := [(1, .int 5), (0, .ref y)]) hx hb dj_X7_init_194 hl (k := 0) rfl (by decide) (by decide) rfl (fun ls hl => ?_)
  refine lv_goto (tgt := 173) hx hb dj_X7_init_197 (by decide) ?_
  refine lv_iload_n hx hb dj_X7_init_173 rfl (lv_at hl 0 rfl) ?_
  refine lv_bipush (v := 6) hx hb dj_X7_init_174 (by decide) ?_
  refine lv_icmp_ge (tgt := 200) hx hb dj_X7_init_176 (by decide) (fun c9 => absurd c9 (by decide)) (fun _ => ?_)
  refine lv_aload_n hx hb dj_X7_init_179 rfl (lv_at hl 1 rfl) ?_
  refine va_get (D := D) (ci := 13) (v := .ref a31) (C := RX7) (T := TX7) (N := 31) hx hb hts uwj_X7 hown hK hP q g65Y rfl 12 (by decide) (hts _ cwj1510) (fun _ h9 => h9) rfl dj_X7_init_180 ?_
  refine va_new (ci := 5) (fs := [.int 0, .null, .int 0]) (C := RJx4a65c) (T := TJx4a65c) (N := 3) hx hb hts uwj_Jx4a65c tyJx4a65c tyJx4a65c_ok hown (hts _ cwj1405) (hts _ cwj1406) (hts _ cwj85) hK hP hD hS hA rfl (fun j hj => match j, hj with | 0, _ => rfl | 1, _ => rfl | 2, _ => rfl | n + 3, h => absurd h (by omega)) (by show _ ≤ 72; omega) (by show _ ≤ 6200; omega) dj_X7_init_183 (fun a66 H hP hD hS => ?_)
  obtain ⟨w67, ew67, g67, gl67, gn67⟩ := li_app w65 (a66, .inr (5, [.int 0, .null, .int 0]))
  rw [← ew67] at hP hD
  have hn67 : w67.length = w.length + 65 := by omega
  have g67Y := (gn67 q (by omega)).trans g65Y
  have g67A5 := (gn67 (w.length + 20) (by omega)).trans g65A5
  have g67A10 := (gn67 (w.length + 28) (by omega)).trans g65A10
  have g67A19 := (gn67 (w.length + 50) (by omega)).trans g65A19
  have g67A22 := (gn67 (w.length + 51) (by omega)).trans g65A22
  have g67A25 := (gn67 (w.length + 52) (by omega)).trans g65A25
  have g67A28 := (gn67 (w.length + 53) (by omega)).trans g65A28
  have g67O31 := (gn67 (w.length + 54) (by omega)).trans g65D
  have g67A35 := (gn67 (w.length + 55) (by omega)).trans g65A35
  have g67A38 := (gn67 (w.length + 56) (by omega)).trans g65A38
  have g67A41 := (gn67 (w.length + 57) (by omega)).trans g65A41
  have g67O46 := (gn67 (w.length + 58) (by omega)).trans g65O46
  have g67OA := (gn67 (w.length + 59) (by omega)).trans g65A
  have g67O50 := (gn67 (w.length + 60) (by omega)).trans g65O50
  have g67O54 := (gn67 (w.length + 61) (by omega)).trans g65O54
  have g67O58 := (gn67 (w.length + 62) (by omega)).trans g65O58
  have g67O62 := (gn67 (w.length + 63) (by omega)).trans g65O62
  have p67R1 := p65R1.st (li_R.ap (qs := []) gl67 gn67) (fun z hz => by simp <;> omega)
  have p67R3 := p65R3.st (li_R.ap (qs := []) gl67 gn67) (fun z hz => by simp <;> omega)
  have p67R8 := p65R8.st (li_R.ap (qs := []) gl67 gn67) (fun z hz => by simp <;> omega)
  have p67R13 := p65R13.st (li_R.ap (qs := []) gl67 gn67) (fun z hz => by simp <;> omega)
  have p67R15 := p65R15.st (li_R.ap (qs := []) gl67 gn67) (fun z hz => by simp <;> omega)
  have p67R17 := p65R17.st (li_R.ap (qs := []) gl67 gn67) (fun z hz => by simp <;> omega)
  have g67O66 : w67[(w.length + 64)]? = some (a66, .inr (5, [.int 0, .null, .int 0])) := by have e9 := g67; rw [show w65.length = (w.length + 64) from hn65] at e9; exact e9
  have hR67 : li_R w w67 [q] := hR65.tr (li_R.ap gl67 gn67)
  refine lv_dup hx hb dj_X7_init_186 rfl ?_
  refine li_cI (As := []) (rest := [.ref a66, .ref a31]) (li_Jx4a65c_init_da8c8 l D tys w67 _ e0 ca ad (⟨hD.1, fun j z hz => Or.inl ⟨j, z.2, hz⟩⟩ : va_D (va_A w67 H.size) w67) (w.length + 64) a66 g67O66) gj_X7_53 rfl ⟨Nat.le_of_ble_eq_true rfl, Nat.le_of_ble_eq_true rfl⟩ ⟨by show _ ≤ 72; omega, by show _ ≤ 6200; omega⟩ (Nat.le_of_ble_eq_true rfl) hx hb (hml.trans hl.1.symm) hts hown hK hT hL hP hD hS hA dj_X7_init_187 (fun res w68 H locs hrv hqq hP hD hS => ?_)
  obtain rfl := (show res = none from hrv)
  obtain ⟨gc68, hl68, hRc68⟩ := hqq
  have hn68 : w68.length = w.length + 65 := by omega
  have g68Y := hRc68.at g67Y (by simp <;> omega)
  have g68A5 := hRc68.at g67A5 (by simp <;> omega)
  have g68A10 := hRc68.at g67A10 (by simp <;> omega)
  have g68A19 := hRc68.at g67A19 (by simp <;> omega)
  have g68A22 := hRc68.at g67A22 (by simp <;> omega)
  have g68A25 := hRc68.at g67A25 (by simp <;> omega)
  have g68A28 := hRc68.at g67A28 (by simp <;> omega)
  have g68O31 := hRc68.at g67O31 (by simp <;> omega)
  have g68A35 := hRc68.at g67A35 (by simp <;> omega)
  have g68A38 := hRc68.at g67A38 (by simp <;> omega)
  have g68A41 := hRc68.at g67A41 (by simp <;> omega)
  have g68O46 := hRc68.at g67O46 (by simp <;> omega)
  have g68OA := hRc68.at g67OA (by simp <;> omega)
  have g68O50 := hRc68.at g67O50 (by simp <;> omega)
  have g68O54 := hRc68.at g67O54 (by simp <;> omega)
  have g68O58 := hRc68.at g67O58 (by simp <;> omega)
  have g68O62 := hRc68.at g67O62 (by simp <;> omega)
  have p68R1 := p67R1.st hRc68 (fun z hz => by simp <;> omega)
  have p68R3 := p67R3.st hRc68 (fun z hz => by simp <;> omega)
  have p68R8 := p67R8.st hRc68 (fun z hz => by simp <;> omega)
  have p68R13 := p67R13.st hRc68 (fun z hz => by simp <;> omega)
  have p68R15 := p67R15.st hRc68 (fun z hz => by simp <;> omega)
  have p68R17 := p67R17.st hRc68 (fun z hz => by simp <;> omega)
  have gq68 : w68[(w.length + 64)]? = some (a66, .inr (5, [.int 0, .ref e0, .int 0])) := gc68
  have hR68 : li_R w w68 [q] := hR67.nx hRc68 (by omega)
  refine li_cV (As := [.ref a66]) (rest := []) (li_addL_r l D tys w68 _ e0 ca ad (⟨hD.1, fun j z hz => Or.inl ⟨j, z.2, hz⟩⟩ : va_D (va_A w68 H.size) w68) (w.length + 54) (w.length + 59) a31 r49 5 10 (((((0 + 1) + 1) + 1) + 1) + 1) (va_up (va_up (va_up (va_up (va_up (fun _ => none) 0 (some a46)) 1 (some a50)) 2 (some a54)) 3 (some a58)) 4 (some a62)) cL 9 a66 g68O31 g68OA ht9 (by decide) (by decide) (by decide) ⟨_, _, gq68⟩) gj_X7_75 (va_recv hK hP (ci := 5) (q0 := (w.length + 54)) rfl g68O31) rfl ⟨Nat.le_of_ble_eq_true rfl, Nat.le_of_ble_eq_true rfl⟩ ⟨by show _ ≤ 72; omega, by show _ ≤ 6200; omega⟩ (Nat.le_of_ble_eq_true rfl) hx hb (hml.trans hl.1.symm) hts hown hK hT hL hP hD hS hA dj_X7_init_190 (fun res w69 H locs hrv hqq hP hD hS => ?_)
  obtain ⟨g69D, g69A, hl69, hRc69⟩ := hqq
  obtain ⟨rv69, rfl⟩ := (show ∃ r, res = some (.int r) from hrv)
  have hn69 : w69.length = w.length + 65 := by omega
  have g69Y := hRc69.at g68Y (by simp <;> omega)
  have g69A5 := hRc69.at g68A5 (by simp <;> omega)
  have g69A10 := hRc69.at g68A10 (by simp <;> omega)
  have g69A19 := hRc69.at g68A19 (by simp <;> omega)
  have g69A22 := hRc69.at g68A22 (by simp <;> omega)
  have g69A25 := hRc69.at g68A25 (by simp <;> omega)
  have g69A28 := hRc69.at g68A28 (by simp <;> omega)
  have g69A35 := hRc69.at g68A35 (by simp <;> omega)
  have g69A38 := hRc69.at g68A38 (by simp <;> omega)
  have g69A41 := hRc69.at g68A41 (by simp <;> omega)
  have g69O46 := hRc69.at g68O46 (by simp <;> omega)
  have g69O50 := hRc69.at g68O50 (by simp <;> omega)
  have g69O54 := hRc69.at g68O54 (by simp <;> omega)
  have g69O58 := hRc69.at g68O58 (by simp <;> omega)
  have g69O62 := hRc69.at g68O62 (by simp <;> omega)
  have g69O66 := hRc69.at gq68 (by simp <;> omega)
  have p69R1 := p68R1.st hRc69 (fun z hz => by simp <;> omega)
  have p69R3 := p68R3.st hRc69 (fun z hz => by simp <;> omega)
  have p69R8 := p68R8.st hRc69 (fun z hz => by simp <;> omega)
  have p69R13 := p68R13.st hRc69 (fun z hz => by simp <;> omega)
  have p69R15 := p68R15.st hRc69 (fun z hz => by simp <;> omega)
  have p69R17 := p68R17.st hRc69 (fun z hz => by simp <;> omega)
  have hR69 : li_R w w69 [q] := hR68.nx2 hRc69 (by omega) (by omega)
  refine lv_pop hx hb dj_X7_init_193 rfl ?_
  refine lv_iinc (v := 6) (lv' := [(1, .int 6), (0, .ref y)]) hx hb dj_X7_init_194 hl (k := 0) rfl (by decide) (by decide) rfl (fun ls hl => ?_)
  refine lv_goto (tgt := 173) hx hb dj_X7_init_197 (by decide) ?_
  refine lv_iload_n hx hb dj_X7_init_173 rfl (lv_at hl 0 rfl) ?_
  refine lv_bipush (v := 6) hx hb dj_X7_init_174 (by decide) ?_
  refine lv_icmp_ge (tgt := 200) hx hb dj_X7_init_176 (by decide) (fun _ => ?_) (fun c9 => absurd (by decide) c9)
  refine W.widen (k := 72) (n := 6200) (by decide) (by decide) ?_
  exact W.vret hx hb hr (fun t ht hW9 => ⟨⟨w69, rfl, ⟨⟨_, _, _, _, _, _, _, _, _, _, _, _, _, _, _, _, _, _, _, _, _, _, _, _, _, g69Y, ⟨p69R1, p69R3, g69A5, p69R8, g69A10, p69R13, p69R15, p69R17⟩, ⟨g69A19, g69A22, g69A25, g69A28, g69D, g69A35, g69A38, g69A41⟩, g69A, ⟨rfl, rfl, rfl, rfl, rfl, rfl⟩, g69O46, g69O50, g69O54, g69O58, g69O62, g69O66⟩, hn69, hR69⟩, ⟨by rw [ht]; exact hP, hD⟩⟩, hS.F ht⟩) hS.2.2 dj_X7_init_200
