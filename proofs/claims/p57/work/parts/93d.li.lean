set_option maxHeartbeats 4000000 in
theorem li_X7_counted (l : Launch) (D : va_G) (tys : List (ClassId × FieldType)) (w : va_W) (sz e0 ca : Nat) (ad : li_ad) (hD0 : va_D (va_A w sz) w) (n : Nat) (hn1 : 1 ≤ n) (hn2 : n ≤ 20) : li_C l yX7_counted cX7_counted 3 (some .int) 0 1 8 0 [.int (nI n)] D tys w sz e0 ca ad (fun res w1 => ∃ k : Nat, res = some (.int (nI k)) ∧ 1 ≤ k ∧ k ≤ n ∧ li_R w w1 []) := by
  refine Met.ofW (cc := cX7_counted) (maxL := 3) (ret := (some .int)) (by decide +kernel) rfl ?_
  intro p e s m args below meth c s₁ B9 hml hv
  obtain ⟨rfl, ⟨hsz, hP, hK, hT⟩, hL⟩ := hv
  subst hsz
  have hx := B9.exec
  have hb := B9.bytes
  have hr := B9.returns
  have hlocks := B9.notSynchronized
  have hts0 := atoms_spec (ws := Cond.code yX7_counted cX7_counted 3 (some .int) :: en_cw) B9.pre
  have hts : ∀ z ∈ en_cw, z.before _ s = true := fun z hz => hts0 z (List.mem_cons_of_mem _ hz)
  have hown : s.vm.findClass RX7 = some m.cls := findClass_of_methodNamed B9.named
  have hA : ∀ q : Nat, s.heap.size ≤ q → va_A w s.heap.size q := fun q h => Or.inr h
  have hS : va_S (va_A w s.heap.size) s.heap s.heap [] := va_S.rf
  have hD : va_D (va_A w s.heap.size) w := ⟨hD0.1, fun j z hz => Or.inl ⟨j, z.2, hz⟩⟩
  have hR9 : li_R w w [] := li_R.rf
  have hl := lv_entry ([.int (nI n)]) (n := 3) (Nat.le_of_ble_eq_true rfl)
  rw [lg_entry_eq]
  generalize (lg_sl ([.int (nI n)]) ++ List.replicate (3 - (lg_sl ([.int (nI n)])).length) Slot.unset).toArray = ls at hl ⊢
  have hl : lv_has ls 3 [(0, .int (nI n))] := hl
  refine lv_bipush (v := 8) hx hb dj_X7_counted_0 (by decide) ?_
  refine va_newa (atype := .int) (ty := .int) (a0 := (8, .inl (fun _ => 0))) hx hb (hts _ cwj256) rfl hK hP hD hS hA (fun cA => rfl) (by decide) (N' := 8) (by decide) (by decide) (Nat.le_of_ble_eq_true rfl) (Nat.le_of_ble_eq_true rfl) dj_X7_counted_2 (fun rc cI H hK9 hP hD hS => ?_)
  obtain ⟨w2, ew2, g2, gl2, gn2⟩ := li_app w (rc, .inl (cI, 8, .inl (fun _ => 0)))
  have hP : va_P D vwCl w2 H := by rw [ew2]; exact hP
  have hD : va_D (va_A w s.heap.size) w2 := by rw [ew2]; exact hD
  have hR9 : li_R w w2 [] := li_R.ap gl2 gn2
  have htI : (tys ++ [(cI, FieldType.int)])[tys.length]? = some (cI, .int) := by simp
  refine lv_dup hx hb dj_X7_counted_4 rfl ?_
  refine lv_iconst (v := 0) hx hb dj_X7_counted_5 (by decide) ?_
  refine lv_iconst (v := 5) hx hb dj_X7_counted_6 (by decide) ?_
  refine va_iast hx hb hK9 hP hD hS w.length tys.length g2 htI (vp_in_nI (n := 0) (by decide) (by decide)) dj_X7_counted_7 (fun H locs hP hD hS => ?_)
  obtain ⟨w11, ew11, g11, gl11, gn11⟩ := li_set g2 (.inl (cI, 8, .inl (va_up (fun _ => 0) 0 5)))
  have hP : va_P D vwCl w11 H := by rw [ew11]; exact hP
  have hD : va_D (va_A w s.heap.size) w11 := by rw [ew11]; exact hD
  have hR9 : li_R w w11 [] := hR9.sn g2 (by omega) g11 gl11 gn11
  refine lv_dup hx hb dj_X7_counted_8 rfl ?_
  refine lv_iconst (v := 1) hx hb dj_X7_counted_9 (by decide) ?_
  refine lv_bipush (v := 8) hx hb dj_X7_counted_10 (by decide) ?_
  refine va_iast hx hb hK9 hP hD hS w.length tys.length g11 htI (vp_in_nI (n := 1) (by decide) (by decide)) dj_X7_counted_12 (fun H locs hP hD hS => ?_)
  obtain ⟨w12, ew12, g12, gl12, gn12⟩ := li_set g11 (.inl (cI, 8, .inl (va_up (va_up (fun _ => 0) 0 5) 1 8)))
  have hP : va_P D vwCl w12 H := by rw [ew12]; exact hP
  have hD : va_D (va_A w s.heap.size) w12 := by rw [ew12]; exact hD
  have hR9 : li_R w w12 [] := hR9.sn g11 (by omega) g12 gl12 gn12
  refine lv_dup hx hb dj_X7_counted_13 rfl ?_
  refine lv_iconst (v := 2) hx hb dj_X7_counted_14 (by decide) ?_
  refine lv_bipush (v := 11) hx hb dj_X7_counted_15 (by decide) ?_
  refine va_iast hx hb hK9 hP hD hS w.length tys.length g12 htI (vp_in_nI (n := 2) (by decide) (by decide)) dj_X7_counted_17 (fun H locs hP hD hS => ?_)
  obtain ⟨w13, ew13, g13, gl13, gn13⟩ := li_set g12 (.inl (cI, 8, .inl (va_up (va_up (va_up (fun _ => 0) 0 5) 1 8) 2 11)))
  have hP : va_P D vwCl w13 H := by rw [ew13]; exact hP
  have hD : va_D (va_A w s.heap.size) w13 := by rw [ew13]; exact hD
  have hR9 : li_R w w13 [] := hR9.sn g12 (by omega) g13 gl13 gn13
  refine lv_dup hx hb dj_X7_counted_18 rfl ?_
  refine lv_iconst (v := 3) hx hb dj_X7_counted_19 (by decide) ?_
  refine lv_bipush (v := 14) hx hb dj_X7_counted_20 (by decide) ?_
  refine va_iast hx hb hK9 hP hD hS w.length tys.length g13 htI (vp_in_nI (n := 3) (by decide) (by decide)) dj_X7_counted_22 (fun H locs hP hD hS => ?_)
  obtain ⟨w14, ew14, g14, gl14, gn14⟩ := li_set g13 (.inl (cI, 8, .inl (va_up (va_up (va_up (va_up (fun _ => 0) 0 5) 1 8) 2 11) 3 14)))
  have hP : va_P D vwCl w14 H := by rw [ew14]; exact hP
  have hD : va_D (va_A w s.heap.size) w14 := by rw [ew14]; exact hD
  have hR9 : li_R w w14 [] := hR9.sn g13 (by omega) g14 gl14 gn14
  refine lv_dup hx hb dj_X7_counted_23 rfl ?_
  refine lv_iconst (v := 4) hx hb dj_X7_counted_24 (by decide) ?_
  refine lv_bipush (v := 16) hx hb dj_X7_counted_25 (by decide) ?_
  refine va_iast hx hb hK9 hP hD hS w.length tys.length g14 htI (vp_in_nI (n := 4) (by decide) (by decide)) dj_X7_counted_27 (fun H locs hP hD hS => ?_)
  obtain ⟨w15, ew15, g15, gl15, gn15⟩ := li_set g14 (.inl (cI, 8, .inl (va_up (va_up (va_up (va_up (va_up (fun _ => 0) 0 5) 1 8) 2 11) 3 14) 4 16)))
  have hP : va_P D vwCl w15 H := by rw [ew15]; exact hP
  have hD : va_D (va_A w s.heap.size) w15 := by rw [ew15]; exact hD
  have hR9 : li_R w w15 [] := hR9.sn g14 (by omega) g15 gl15 gn15
  refine lv_dup hx hb dj_X7_counted_28 rfl ?_
  refine lv_iconst (v := 5) hx hb dj_X7_counted_29 (by decide) ?_
  refine lv_bipush (v := 18) hx hb dj_X7_counted_30 (by decide) ?_
  refine va_iast hx hb hK9 hP hD hS w.length tys.length g15 htI (vp_in_nI (n := 5) (by decide) (by decide)) dj_X7_counted_32 (fun H locs hP hD hS => ?_)
  obtain ⟨w16, ew16, g16, gl16, gn16⟩ := li_set g15 (.inl (cI, 8, .inl (va_up (va_up (va_up (va_up (va_up (va_up (fun _ => 0) 0 5) 1 8) 2 11) 3 14) 4 16) 5 18)))
  have hP : va_P D vwCl w16 H := by rw [ew16]; exact hP
  have hD : va_D (va_A w s.heap.size) w16 := by rw [ew16]; exact hD
  have hR9 : li_R w w16 [] := hR9.sn g15 (by omega) g16 gl16 gn16
  refine lv_dup hx hb dj_X7_counted_33 rfl ?_
  refine lv_bipush (v := 6) hx hb dj_X7_counted_34 (by decide) ?_
  refine lv_bipush (v := 19) hx hb dj_X7_counted_36 (by decide) ?_
  refine va_iast hx hb hK9 hP hD hS w.length tys.length g16 htI (vp_in_nI (n := 6) (by decide) (by decide)) dj_X7_counted_38 (fun H locs hP hD hS => ?_)
  obtain ⟨w17, ew17, g17, gl17, gn17⟩ := li_set g16 (.inl (cI, 8, .inl (va_up (va_up (va_up (va_up (va_up (va_up (va_up (fun _ => 0) 0 5) 1 8) 2 11) 3 14) 4 16) 5 18) 6 19)))
  have hP : va_P D vwCl w17 H := by rw [ew17]; exact hP
  have hD : va_D (va_A w s.heap.size) w17 := by rw [ew17]; exact hD
  have hR9 : li_R w w17 [] := hR9.sn g16 (by omega) g17 gl17 gn17
  refine lv_dup hx hb dj_X7_counted_39 rfl ?_
  refine lv_bipush (v := 7) hx hb dj_X7_counted_40 (by decide) ?_
  refine lv_bipush (v := 20) hx hb dj_X7_counted_42 (by decide) ?_
  refine va_iast hx hb hK9 hP hD hS w.length tys.length g17 htI (vp_in_nI (n := 7) (by decide) (by decide)) dj_X7_counted_44 (fun H locs hP hD hS => ?_)
  obtain ⟨w18, ew18, g18, gl18, gn18⟩ := li_set g17 (.inl (cI, 8, .inl (va_up (va_up (va_up (va_up (va_up (va_up (va_up (va_up (fun _ => 0) 0 5) 1 8) 2 11) 3 14) 4 16) 5 18) 6 19) 7 20)))
  have hP : va_P D vwCl w18 H := by rw [ew18]; exact hP
  have hD : va_D (va_A w s.heap.size) w18 := by rw [ew18]; exact hD
  have hR9 : li_R w w18 [] := hR9.sn g17 (by omega) g18 gl18 gn18
  refine lv_astore_n (lv' := [(1, .ref rc), (0, .int (nI n))]) hx hb dj_X7_counted_45 rfl hl (by decide) rfl (fun ls hl => ?_)
  refine lv_iconst (v := 1) hx hb dj_X7_counted_46 (by decide) ?_
  refine lv_istore_n (lv' := [(2, .int 1), (1, .ref rc), (0, .int (nI n))]) hx hb dj_X7_counted_47 rfl hl (by decide) rfl (fun ls hl => ?_)
  refine lv_iload_n hx hb dj_X7_counted_48 rfl (lv_at hl 2 rfl) ?_
  refine lv_aload_n hx hb dj_X7_counted_49 rfl (lv_at hl 1 rfl) ?_
  refine lv_iload_n hx hb dj_X7_counted_50 rfl (lv_at hl 0 rfl) ?_
  refine lv_iconst (v := 1) hx hb dj_X7_counted_51 (by decide) ?_
  refine lv_isub hx hb dj_X7_counted_52 ?_
  refine lv_topi (fun y9 ey9 => ?_)
  obtain rfl : y9 = 0 := ey9.trans (by decide)
  refine va_iald hx hb hK9 hP w.length tys.length g18 htI (vp_in_nI (n := 0) (by decide) (by decide)) dj_X7_counted_53 ?_
  refine lv_topi (fun y10 ey10 => ?_)
  obtain rfl : y10 = 5 := ey10.trans rfl
  refine lv_icmp_le (tgt := 63) hx hb dj_X7_counted_54 (by decide) (fun c9 => ?_) (fun c21 => ?_)
  · skip
    refine lv_iload_n hx hb dj_X7_counted_63 rfl (lv_at hl 0 rfl) ?_
    exact W.iret (v := 1) hx hb hr (fun t ht hW9 => ⟨⟨1, w18, rfl, ⟨1, rfl, by decide, by omega, hR9⟩, ⟨by rw [ht]; exact hP, hD⟩⟩, hS.F ht⟩) hS.2.2 dj_X7_counted_64
  have hk1 : 5 < n := Nat.lt_of_not_le fun h => c21 (nI_le (b := 5) h (by decide))
  refine lv_iinc (v := 2) (lv' := [(2, .int 2), (1, .ref rc), (0, .int (nI n))]) hx hb dj_X7_counted_57 hl (k := 0) rfl (by decide) (by decide) rfl (fun ls hl => ?_)
  refine lv_goto (tgt := 48) hx hb dj_X7_counted_60 (by decide) ?_
  refine lv_iload_n hx hb dj_X7_counted_48 rfl (lv_at hl 2 rfl) ?_
  refine lv_aload_n hx hb dj_X7_counted_49 rfl (lv_at hl 1 rfl) ?_
  refine lv_iload_n hx hb dj_X7_counted_50 rfl (lv_at hl 0 rfl) ?_
  refine lv_iconst (v := 1) hx hb dj_X7_counted_51 (by decide) ?_
  refine lv_isub hx hb dj_X7_counted_52 ?_
  refine lv_topi (fun y11 ey11 => ?_)
  obtain rfl : y11 = 1 := ey11.trans (by decide)
  refine va_iald hx hb hK9 hP w.length tys.length g18 htI (vp_in_nI (n := 1) (by decide) (by decide)) dj_X7_counted_53 ?_
  refine lv_topi (fun y12 ey12 => ?_)
  obtain rfl : y12 = 8 := ey12.trans rfl
  refine lv_icmp_le (tgt := 63) hx hb dj_X7_counted_54 (by decide) (fun c9 => ?_) (fun c22 => ?_)
  · skip
    refine lv_iload_n hx hb dj_X7_counted_63 rfl (lv_at hl 0 rfl) ?_
    exact W.iret (v := 2) hx hb hr (fun t ht hW9 => ⟨⟨2, w18, rfl, ⟨2, rfl, by decide, by omega, hR9⟩, ⟨by rw [ht]; exact hP, hD⟩⟩, hS.F ht⟩) hS.2.2 dj_X7_counted_64
  have hk2 : 8 < n := Nat.lt_of_not_le fun h => c22 (nI_le (b := 8) h (by decide))
  refine lv_iinc (v := 3) (lv' := [(2, .int 3), (1, .ref rc), (0, .int (nI n))]) hx hb dj_X7_counted_57 hl (k := 0) rfl (by decide) (by decide) rfl (fun ls hl => ?_)
  refine lv_goto (tgt := 48) hx hb dj_X7_counted_60 (by decide) ?_
  refine lv_iload_n hx hb dj_X7_counted_48 rfl (lv_at hl 2 rfl) ?_
  refine lv_aload_n hx hb dj_X7_counted_49 rfl (lv_at hl 1 rfl) ?_
  refine lv_iload_n hx hb dj_X7_counted_50 rfl (lv_at hl 0 rfl) ?_
  refine lv_iconst (v := 1) hx hb dj_X7_counted_51 (by decide) ?_
  refine lv_isub hx hb dj_X7_counted_52 ?_
  refine lv_topi (fun y13 ey13 => ?_)
  obtain rfl : y13 = 2 := ey13.trans (by decide)
  refine va_iald hx hb hK9 hP w.length tys.length g18 htI (vp_in_nI (n := 2) (by decide) (by decide)) dj_X7_counted_53 ?_
  refine lv_topi (fun y14 ey14 => ?_)
  obtain rfl : y14 = 11 := ey14.trans rfl
  refine lv_icmp_le (tgt := 63) hx hb dj_X7_counted_54 (by decide) (fun c9 => ?_) (fun c23 => ?_)
  · skip
    refine lv_iload_n hx hb dj_X7_counted_63 rfl (lv_at hl 0 rfl) ?_
    exact W.iret (v := 3) hx hb hr (fun t ht hW9 => ⟨⟨3, w18, rfl, ⟨3, rfl, by decide, by omega, hR9⟩, ⟨by rw [ht]; exact hP, hD⟩⟩, hS.F ht⟩) hS.2.2 dj_X7_counted_64
  have hk3 : 11 < n := Nat.lt_of_not_le fun h => c23 (nI_le (b := 11) h (by decide))
  refine lv_iinc (v := 4) (lv' := [(2, .int 4), (1, .ref rc), (0, .int (nI n))]) hx hb dj_X7_counted_57 hl (k := 0) rfl (by decide) (by decide) rfl (fun ls hl => ?_)
  refine lv_goto (tgt := 48) hx hb dj_X7_counted_60 (by decide) ?_
  refine lv_iload_n hx hb dj_X7_counted_48 rfl (lv_at hl 2 rfl) ?_
  refine lv_aload_n hx hb dj_X7_counted_49 rfl (lv_at hl 1 rfl) ?_
  refine lv_iload_n hx hb dj_X7_counted_50 rfl (lv_at hl 0 rfl) ?_
  refine lv_iconst (v := 1) hx hb dj_X7_counted_51 (by decide) ?_
  refine lv_isub hx hb dj_X7_counted_52 ?_
  refine lv_topi (fun y15 ey15 => ?_)
  obtain rfl : y15 = 3 := ey15.trans (by decide)
  refine va_iald hx hb hK9 hP w.length tys.length g18 htI (vp_in_nI (n := 3) (by decide) (by decide)) dj_X7_counted_53 ?_
  refine lv_topi (fun y16 ey16 => ?_)
  obtain rfl : y16 = 14 := ey16.trans rfl
  refine lv_icmp_le (tgt := 63) hx hb dj_X7_counted_54 (by decide) (fun c9 => ?_) (fun c24 => ?_)
  · skip
    refine lv_iload_n hx hb dj_X7_counted_63 rfl (lv_at hl 0 rfl) ?_
    exact W.iret (v := 4) hx hb hr (fun t ht hW9 => ⟨⟨4, w18, rfl, ⟨4, rfl, by decide, by omega, hR9⟩, ⟨by rw [ht]; exact hP, hD⟩⟩, hS.F ht⟩) hS.2.2 dj_X7_counted_64
  have hk4 : 14 < n := Nat.lt_of_not_le fun h => c24 (nI_le (b := 14) h (by decide))
  refine lv_iinc (v := 5) (lv' := [(2, .int 5), (1, .ref rc), (0, .int (nI n))]) hx hb dj_X7_counted_57 hl (k := 0) rfl (by decide) (by decide) rfl (fun ls hl => ?_)
  refine lv_goto (tgt := 48) hx hb dj_X7_counted_60 (by decide) ?_
  refine lv_iload_n hx hb dj_X7_counted_48 rfl (lv_at hl 2 rfl) ?_
  refine lv_aload_n hx hb dj_X7_counted_49 rfl (lv_at hl 1 rfl) ?_
  refine lv_iload_n hx hb dj_X7_counted_50 rfl (lv_at hl 0 rfl) ?_
  refine lv_iconst (v := 1) hx hb dj_X7_counted_51 (by decide) ?_
  refine lv_isub hx hb dj_X7_counted_52 ?_
  refine lv_topi (fun y17 ey17 => ?_)
  obtain rfl : y17 = 4 := ey17.trans (by decide)
  refine va_iald hx hb hK9 hP w.length tys.length g18 htI (vp_in_nI (n := 4) (by decide) (by decide)) dj_X7_counted_53 ?_
  refine lv_topi (fun y18 ey18 => ?_)
  obtain rfl : y18 = 16 := ey18.trans rfl
  refine lv_icmp_le (tgt := 63) hx hb dj_X7_counted_54 (by decide) (fun c9 => ?_) (fun c25 => ?_)
  · skip
    refine lv_iload_n hx hb dj_X7_counted_63 rfl (lv_at hl 0 rfl) ?_
    exact W.iret (v := 5) hx hb hr (fun t ht hW9 => ⟨⟨5, w18, rfl, ⟨5, rfl, by decide, by omega, hR9⟩, ⟨by rw [ht]; exact hP, hD⟩⟩, hS.F ht⟩) hS.2.2 dj_X7_counted_64
  have hk5 : 16 < n := Nat.lt_of_not_le fun h => c25 (nI_le (b := 16) h (by decide))
  refine lv_iinc (v := 6) (lv' := [(2, .int 6), (1, .ref rc), (0, .int (nI n))]) hx hb dj_X7_counted_57 hl (k := 0) rfl (by decide) (by decide) rfl (fun ls hl => ?_)
  refine lv_goto (tgt := 48) hx hb dj_X7_counted_60 (by decide) ?_
  refine lv_iload_n hx hb dj_X7_counted_48 rfl (lv_at hl 2 rfl) ?_
  refine lv_aload_n hx hb dj_X7_counted_49 rfl (lv_at hl 1 rfl) ?_
  refine lv_iload_n hx hb dj_X7_counted_50 rfl (lv_at hl 0 rfl) ?_
  refine lv_iconst (v := 1) hx hb dj_X7_counted_51 (by decide) ?_
  refine lv_isub hx hb dj_X7_counted_52 ?_
  refine lv_topi (fun y19 ey19 => ?_)
  obtain rfl : y19 = 5 := ey19.trans (by decide)
  refine va_iald hx hb hK9 hP w.length tys.length g18 htI (vp_in_nI (n := 5) (by decide) (by decide)) dj_X7_counted_53 ?_
  refine lv_topi (fun y20 ey20 => ?_)
  obtain rfl : y20 = 18 := ey20.trans rfl
  refine lv_icmp_le (tgt := 63) hx hb dj_X7_counted_54 (by decide) (fun c9 => ?_) (fun c26 => ?_)
  · skip
    refine lv_iload_n hx hb dj_X7_counted_63 rfl (lv_at hl 0 rfl) ?_
    exact W.iret (v := 6) hx hb hr (fun t ht hW9 => ⟨⟨6, w18, rfl, ⟨6, rfl, by decide, by omega, hR9⟩, ⟨by rw [ht]; exact hP, hD⟩⟩, hS.F ht⟩) hS.2.2 dj_X7_counted_64
  have hk6 : 18 < n := Nat.lt_of_not_le fun h => c26 (nI_le (b := 18) h (by decide))
  refine lv_iinc (v := 7) (lv' := [(2, .int 7), (1, .ref rc), (0, .int (nI n))]) hx hb dj_X7_counted_57 hl (k := 0) rfl (by decide) (by decide) rfl (fun ls hl => ?_)
  refine lv_goto (tgt := 48) hx hb dj_X7_counted_60 (by decide) ?_
  refine lv_iload_n hx hb dj_X7_counted_48 rfl (lv_at hl 2 rfl) ?_
  refine lv_aload_n hx hb dj_X7_counted_49 rfl (lv_at hl 1 rfl) ?_
  refine lv_iload_n hx hb dj_X7_counted_50 rfl (lv_at hl 0 rfl) ?_
  refine lv_iconst (v := 1) hx hb dj_X7_counted_51 (by decide) ?_
  refine lv_isub hx hb dj_X7_counted_52 ?_
  refine lv_topi (fun y21 ey21 => ?_)
  obtain rfl : y21 = 6 := ey21.trans (by decide)
  refine va_iald hx hb hK9 hP w.length tys.length g18 htI (vp_in_nI (n := 6) (by decide) (by decide)) dj_X7_counted_53 ?_
  refine lv_topi (fun y22 ey22 => ?_)
  obtain rfl : y22 = 19 := ey22.trans rfl
  refine lv_icmp_le (tgt := 63) hx hb dj_X7_counted_54 (by decide) (fun c9 => ?_) (fun c27 => ?_)
  · skip
    refine lv_iload_n hx hb dj_X7_counted_63 rfl (lv_at hl 0 rfl) ?_
    exact W.iret (v := 7) hx hb hr (fun t ht hW9 => ⟨⟨7, w18, rfl, ⟨7, rfl, by decide, by omega, hR9⟩, ⟨by rw [ht]; exact hP, hD⟩⟩, hS.F ht⟩) hS.2.2 dj_X7_counted_64
  have hk7 : 19 < n := Nat.lt_of_not_le fun h => c27 (nI_le (b := 19) h (by decide))
  refine lv_iinc (v := 8) (lv' := [(2, .int 8), (1, .ref rc), (0, .int (nI n))]) hx hb dj_X7_counted_57 hl (k := 0) rfl (by decide) (by decide) rfl (fun ls hl => ?_)
  refine lv_goto (tgt := 48) hx hb dj_X7_counted_60 (by decide) ?_
  refine lv_iload_n hx hb dj_X7_counted_48 rfl (lv_at hl 2 rfl) ?_
  refine lv_aload_n hx hb dj_X7_counted_49 rfl (lv_at hl 1 rfl) ?_
  refine lv_iload_n hx hb dj_X7_counted_50 rfl (lv_at hl 0 rfl) ?_
  refine lv_iconst (v := 1) hx hb dj_X7_counted_51 (by decide) ?_
  refine lv_isub hx hb dj_X7_counted_52 ?_
  refine lv_topi (fun y23 ey23 => ?_)
  obtain rfl : y23 = 7 := ey23.trans (by decide)
  refine va_iald hx hb hK9 hP w.length tys.length g18 htI (vp_in_nI (n := 7) (by decide) (by decide)) dj_X7_counted_53 ?_
  refine lv_topi (fun y24 ey24 => ?_)
  obtain rfl : y24 = 20 := ey24.trans rfl
  refine lv_icmp_le (tgt := 63) hx hb dj_X7_counted_54 (by decide) (fun c9 => ?_) (fun c9 => absurd (nI_le (b := 20) hn2 (by decide)) c9)
  refine lv_iload_n hx hb dj_X7_counted_63 rfl (lv_at hl 0 rfl) ?_
  exact W.iret (v := 8) hx hb hr (fun t ht hW9 => ⟨⟨8, w18, rfl, ⟨8, rfl, by decide, by omega, hR9⟩, ⟨by rw [ht]; exact hP, hD⟩⟩, hS.F ht⟩) hS.2.2 dj_X7_counted_64
set_option maxHeartbeats 4000000 in
theorem li_J9_floorDiv_7cf53 (l : Launch) (D : va_G) (tys : List (ClassId × FieldType)) (w : va_W) (sz e0 ca : Nat) (ad : li_ad) (hD0 : va_D (va_A w sz) w) (x y : Int32) (hy : ¬ y = 0) : li_C l yJ9_floorDiv_7cf53 cJ9_floorDiv_7cf53 3 (some .int) 0 0 0 0 [.int x, .int y] D tys w sz e0 ca ad (fun res w1 => w1 = w) := by
  refine li_ofF (cc := cJ9_floorDiv_7cf53) (maxL := 3) (ret := (some .int)) (Jvm.Free.JP.mathPlain rfl (by decide +kernel)) rfl ?_
  intro p e s m args below meth c s₁ B9 hml hv
  obtain ⟨rfl, ⟨hsz, hP, hK, hT⟩, hL⟩ := hv
  subst hsz
  have hx := B9.exec
  have hb := B9.bytes
  have hr := B9.returns
  have hlocks := B9.notSynchronized
  have hts0 := atoms_spec (ws := Cond.code yJ9_floorDiv_7cf53 cJ9_floorDiv_7cf53 3 (some .int) :: en_cw) B9.pre
  have hts : ∀ z ∈ en_cw, z.before _ s = true := fun z hz => hts0 z (List.mem_cons_of_mem _ hz)
  have hown : s.vm.findClass RJ9 = some m.cls := findClass_of_methodNamed B9.named
  have hA : ∀ q : Nat, s.heap.size ≤ q → va_A w s.heap.size q := fun q h => Or.inr h
  have hS : va_S (va_A w s.heap.size) s.heap s.heap [] := va_S.rf
  have hD : va_D (va_A w s.heap.size) w := ⟨hD0.1, fun j z hz => Or.inl ⟨j, z.2, hz⟩⟩
  have hR9 : li_R w w [] := li_R.rf
  have hl := lv_entry ([.int x, .int y]) (n := 3) (Nat.le_of_ble_eq_true rfl)
  rw [lg_entry_eq]
  generalize (lg_sl ([.int x, .int y]) ++ List.replicate (3 - (lg_sl ([.int x, .int y])).length) Slot.unset).toArray = ls at hl ⊢
  have hl : lv_has ls 3 [(0, .int x), (1, .int y)] := hl
  refine lv_iload_n hx hb dj_J9_floorDiv_7cf53_0 rfl (lv_at hl 0 rfl) ?_
  refine lv_iload_n hx hb dj_J9_floorDiv_7cf53_1 rfl (lv_at hl 1 rfl) ?_
  refine lv_idiv hx hb dj_J9_floorDiv_7cf53_2 hy ?_
  refine lv_istore_n (lv' := [(2, .int (x / y)), (0, .int x), (1, .int y)]) hx hb dj_J9_floorDiv_7cf53_3 rfl hl (by decide) rfl (fun ls hl => ?_)
  refine lv_iload_n hx hb dj_J9_floorDiv_7cf53_4 rfl (lv_at hl 1 rfl) ?_
  refine lv_iload_n hx hb dj_J9_floorDiv_7cf53_5 rfl (lv_at hl 2 rfl) ?_
  refine lv_ixor hx hb dj_J9_floorDiv_7cf53_6 ?_
  refine lv_if_ge (tgt := 21) hx hb dj_J9_floorDiv_7cf53_7 (by decide) (fun c9 => ?_) (fun c9 => ?_)
  · skip
    refine lv_iload_n hx hb dj_J9_floorDiv_7cf53_21 rfl (lv_at hl 0 rfl) ?_
    exact W.iret (v := (x / y)) hx hb hr (fun t ht hW9 => ⟨⟨(x / y), w, rfl, rfl, ⟨by rw [ht]; exact hP, hD⟩⟩, hS.F ht⟩) hS.2.2 dj_J9_floorDiv_7cf53_22
  · skip
    refine lv_iload_n hx hb dj_J9_floorDiv_7cf53_10 rfl (lv_at hl 0 rfl) ?_
    refine lv_iload_n hx hb dj_J9_floorDiv_7cf53_11 rfl (lv_at hl 2 rfl) ?_
    refine lv_imul hx hb dj_J9_floorDiv_7cf53_12 ?_
    refine lv_iload_n hx hb dj_J9_floorDiv_7cf53_13 rfl (lv_at hl 1 rfl) ?_
    refine lv_icmp_eq (tgt := 21) hx hb dj_J9_floorDiv_7cf53_14 (by decide) (fun c9 => ?_) (fun c9 => ?_)
    · skip
      refine lv_iload_n hx hb dj_J9_floorDiv_7cf53_21 rfl (lv_at hl 0 rfl) ?_
      exact W.iret (v := (x / y)) hx hb hr (fun t ht hW9 => ⟨⟨(x / y), w, rfl, rfl, ⟨by rw [ht]; exact hP, hD⟩⟩, hS.F ht⟩) hS.2.2 dj_J9_floorDiv_7cf53_22
    · skip
      refine lv_iload_n hx hb dj_J9_floorDiv_7cf53_17 rfl (lv_at hl 0 rfl) ?_
      refine lv_iconst (v := 1) hx hb dj_J9_floorDiv_7cf53_18 (by decide) ?_
      refine lv_isub hx hb dj_J9_floorDiv_7cf53_19 ?_
      exact W.iret (v := ((x / y) - 1)) hx hb hr (fun t ht hW9 => ⟨⟨((x / y) - 1), w, rfl, rfl, ⟨by rw [ht]; exact hP, hD⟩⟩, hS.F ht⟩) hS.2.2 dj_J9_floorDiv_7cf53_20
