theorem li_ixn {n : Nat} {a : Int32} (hn : n ≤ 20) (h1 : (0 : Int) ≤ a.toInt) (h2 : a.toInt ≤ (nI n - 1).toInt) : ∃ i, i < n ∧ a = nI i := by
  match n, hn, h2 with
  | 0, _, h2 => exact absurd (Int.le_trans h1 h2) (by decide)
  | k + 1, hn, h2 =>
    rw [nI_pred, nI_toInt (show k < 2 ^ 31 by omega)] at h2
    exact vp_in_of (vp_in_iff.mpr ⟨h1, by show a.toInt < ((k + 1 : Nat) : Int); omega⟩ : vp_in a (k + 1)) (by omega)
set_option maxHeartbeats 4000000 in
theorem li_X7_difference (l : Launch) (D : va_G) (tys : List (ClassId × FieldType)) (w : va_W) (sz e0 ca : Nat) (ad : li_ad) (hD0 : va_D (va_A w sz) w) (am : Nat) (fs : List Value) (a1 a2 : Int32) (B : List Nat) (cL cI cZ cR : ClassId) (nh : Nat) (xp x29 : Int32) (aC aHc aWr aS aO aP aIx aLo aD pHc pWr pS pO pP pIx pLo : Nat) (la qa nn : Nat → Nat) (t9 : Nat) (hm : w[0]? = some (am, .inr (13, fs))) (ht0 : tys[0]? = some (cI, .int)) (ht9 : tys[t9]? = some (cL, .object "java/lang/Object")) (hf : po_fs fs nh xp x29 aC aHc aWr aS aO aP aIx aLo aD) (hc : po_c w w.length B cL cI cZ cR nh aC aHc aWr aS aO aP aIx aLo aD pHc pWr pS pO pP pIx pLo la) (hxp : 0 ≤ xp.toInt ∧ xp.toInt ≤ 6) (hB : po_B w.length B pHc pWr pS pO) (hBB : ∀ z ∈ [0, pIx, pLo, pP], z ∈ B ∧ z < w.length) (hd1 : pIx ≠ pLo ∧ pIx ≠ pP ∧ pLo ≠ pP ∧ pIx ≠ 0 ∧ pLo ≠ 0 ∧ pP ≠ 0) (hLs : po_L w B e0 cL ad la qa nn) : li_C l yX7_difference cX7_difference 3 (some .int) 3 80 900 0 [.ref am, .int a1, .int a2] D tys w sz e0 ca ad (fun res w1 => po_Q w am fs pIx pLo pP e0 cL ad la qa (fun w1 => po_c w1 w.length B cL cI cZ cR nh aC aHc aWr aS aO aP aIx aLo aD pHc pWr pS pO pP pIx pLo la) w1) := by
  refine Met.ofW (cc := cX7_difference) (maxL := 3) (ret := (some .int)) (by decide +kernel) rfl ?_
  intro p e s m args below meth c s₁ B9 hml hv
  obtain ⟨rfl, ⟨hsz, hP, hK, hT⟩, hL⟩ := hv
  subst hsz
  have hx := B9.exec
  have hb := B9.bytes
  have hr := B9.returns
  have hlocks := B9.notSynchronized
  have hts0 := atoms_spec (ws := Cond.code yX7_difference cX7_difference 3 (some .int) :: en_cw) B9.pre
  have hts : ∀ z ∈ en_cw, z.before _ s = true := fun z hz => hts0 z (List.mem_cons_of_mem _ hz)
  have hown : s.vm.findClass RX7 = some m.cls := findClass_of_methodNamed B9.named
  have hA : ∀ q : Nat, s.heap.size ≤ q → va_A w s.heap.size q := fun q h => Or.inr h
  have hS : va_S (va_A w s.heap.size) s.heap s.heap [] := va_S.rf
  have hD : va_D (va_A w s.heap.size) w := ⟨hD0.1, fun j z hz => Or.inl ⟨j, z.2, hz⟩⟩
  have hR9 : li_R w w [] := li_R.rf
  have hl := lv_entry ([.ref am, .int a1, .int a2]) (n := 3) (Nat.le_of_ble_eq_true rfl)
  rw [lg_entry_eq]
  generalize (lg_sl ([.ref am, .int a1, .int a2]) ++ List.replicate (3 - (lg_sl ([.ref am, .int a1, .int a2])).length) Slot.unset).toArray = ls at hl ⊢
  have hl : lv_has ls 3 [(0, .ref am), (1, .int a1), (2, .int a2)] := hl
  have h30 : 30 < fs.length := by rw [hf.1]; decide
  have hB0 : ∀ p, po_ok w.length B p → p ∉ [0] := fun p h h0 => h.2 (by rw [List.mem_singleton.mp h0]; exact (hBB 0 (by simp)).1)
  have hI0 : pP ∉ [0] ∧ pIx ∉ [0] ∧ pLo ∉ [0] := by simp; exact ⟨hd1.2.2.2.2.2, hd1.2.2.2.1, hd1.2.2.2.2.1⟩
  refine lv_aload_n hx hb dj_X7_difference_0 rfl (lv_at hl 0 rfl) ?_
  refine lv_aload_n hx hb dj_X7_difference_1 rfl (lv_at hl 0 rfl) ?_
  refine lv_iload_n hx hb dj_X7_difference_2 rfl (lv_at hl 1 rfl) ?_
  refine li_cV (As := [.int a1]) (rest := [.ref am]) (li_X7_isNoPlayer l D tys w _ e0 ca ad (⟨hD.1, fun j z hz => Or.inl ⟨j, z.2, hz⟩⟩ : va_D (va_A w s.heap.size) w) am fs a1 xp hm hf.2.1.2.1 hxp) gj_X7_132 (va_recv hK hP (ci := 13) (q0 := 0) rfl hm) rfl ⟨Nat.le_of_ble_eq_true rfl, Nat.le_of_ble_eq_true rfl⟩ ⟨by show _ ≤ 80; omega, by show _ ≤ 900; omega⟩ (Nat.le_of_ble_eq_true rfl) hx hb (hml.trans hl.1.symm) hts hown hK hT hL hP hD hS hA dj_X7_difference_3 (fun res w9 H locs hrv hqq hP hD hS => ?_)
  obtain ⟨ew, hq⟩ := hqq
  have ew := Eq.symm ew
  subst ew
  rcases hq with ⟨er, h1, h2⟩ | er
  · subst er
    refine lv_if_ne (tgt := 33) hx hb dj_X7_difference_6 (by decide) (fun c9 => absurd rfl c9) (fun _ => ?_)
    obtain ⟨j, hj, ej⟩ := vp_in_of (vp_in_iff.mpr ⟨h1, by show a1.toInt < ((6 : Nat) : Int); omega⟩ : vp_in a1 6) (by decide)
    subst ej
    have hcM := hc
    obtain ⟨hlen, ⟨f16, f17, f29⟩, f0, f2, f7, f8, f9, f10, f13, f14, f12⟩ := id hf
    obtain ⟨⟨gC, hC, hrC⟩, ⟨gW, hW, hrW⟩, ⟨gHc, hHc, -⟩, ⟨gS, hS9, hS8⟩, ⟨gO, hO9, -⟩, ⟨gP, hP9, hP8⟩, ⟨gIx, hIx, -⟩, ⟨gLo, hLo, -⟩, mcD, aD2, gD, hD19, hD20, hlaD⟩ := id hcM
    have hLj : li_L w (21 + j) (qa j) (la j) e0 cL ad (nn j) := (hLs j hj).1
    refine lv_iload_n hx hb dj_X7_difference_9 rfl (lv_at hl 2 rfl) ?_
    refine lv_iconst (v := 0) hx hb dj_X7_difference_10 (by decide) ?_
    refine lv_aload_n hx hb dj_X7_difference_11 rfl (lv_at hl 0 rfl) ?_
    refine va_get (D := D) (ci := 13) (v := .ref aD) (C := RX7) (T := TX7) (N := 31) hx hb hts uwj_X7 hown hK hP 0 hm rfl 12 (by decide) (hts _ cwj1510) (fun _ h9 => h9) f12 dj_X7_difference_12 ?_
    refine lv_iload_n hx hb dj_X7_difference_15 rfl (lv_at hl 1 rfl) ?_
    refine li_cV (As := [.int (nI j)]) (rest := [.int 0, .int a2, .ref am]) (li_Jx4a65c_get_915e3 l D tys w _ e0 ca ad (⟨hD.1, fun j z hz => Or.inl ⟨j, z.2, hz⟩⟩ : va_D (va_A w H.size) w) 19 20 aD aD2 6 10 mcD gD cL t9 j (la j) hD19 hD20 ht9 (by decide) (by decide) hj (hlaD j hj)) gj_X7_300 (va_recv hK hP (ci := 5) (q0 := 19) rfl hD19) rfl ⟨Nat.le_of_ble_eq_true rfl, Nat.le_of_ble_eq_true rfl⟩ ⟨by show _ ≤ 80; omega, by show _ ≤ 900; omega⟩ (Nat.le_of_ble_eq_true rfl) hx hb (hml.trans hl.1.symm) hts hown hK hT hL hP hD hS hA dj_X7_difference_16 (fun res w9 H locs hrv hqq hP hD hS => ?_)
    obtain ⟨er, ew⟩ := hqq
    have ew := Eq.symm ew
    subst er
    subst ew
    refine va_castS hx hb hown (hts _ cwj1405) (hK.1 5 _ rfl).2 (lk_rv hLj hK hP) dj_X7_difference_19 ?_
    refine li_cV (As := []) (rest := [.int 0, .int a2, .ref am]) (lk_size (⟨hD.1, fun j z hz => Or.inl ⟨j, z.2, hz⟩⟩ : va_D (va_A w H.size) w) hLj) gj_X7_297 (lk_rv hLj hK hP) rfl ⟨Nat.le_of_ble_eq_true rfl, Nat.le_of_ble_eq_true rfl⟩ ⟨by show _ ≤ 80; omega, by show _ ≤ 900; omega⟩ (Nat.le_of_ble_eq_true rfl) hx hb (hml.trans hl.1.symm) hts hown hK hT hL hP hD hS hA dj_X7_difference_22 (fun res w9 H locs hrv hqq hP hD hS => ?_)
    obtain ⟨er, ew⟩ := hqq
    have ew := Eq.symm ew
    subst er
    subst ew
    refine lv_iconst (v := 1) hx hb dj_X7_difference_25 (by decide) ?_
    refine lv_isub hx hb dj_X7_difference_26 ?_
    refine lv_topi (fun vu1 evu1 => ?_)
    refine li_cS (As := [.int a2, .int 0, .int vu1]) (rest := [.ref am]) (li_X7_isIn l D tys w _ e0 ca ad (⟨hD.1, fun j z hz => Or.inl ⟨j, z.2, hz⟩⟩ : va_D (va_A w H.size) w) a2 0 vu1) gj_X7_82 rfl ⟨Nat.le_of_ble_eq_true rfl, Nat.le_of_ble_eq_true rfl⟩ ⟨by show _ ≤ 80; omega, by show _ ≤ 900; omega⟩ (Nat.le_of_ble_eq_true rfl) hx hb (hml.trans hl.1.symm) hts hown hK hT hL hP hD hS hA dj_X7_difference_27 (fun res w9 H locs hrv hqq hP hD hS => ?_)
    obtain ⟨ew, hq⟩ := hqq
    have ew := Eq.symm ew
    subst ew
    rcases hq with ⟨er, k1, k2⟩ | er
    · subst er
      refine lv_if_ne (tgt := 37) hx hb dj_X7_difference_30 (by decide) (fun _ => ?_) (fun c9 => absurd c9 (by decide))
      refine lv_iconst (v := 0) hx hb dj_X7_difference_37 (by decide) ?_
      subst evu1
      obtain ⟨i, hi, ei⟩ := li_ixn (hLs j hj).2.1 k1 k2
      subst ei
      refine lv_iconst (v := 1) hx hb dj_X7_difference_38 (by decide) ?_
      refine li_cV (As := [.int 0, .int 1]) (rest := []) (li_X7_isThrown l D tys w _ e0 ca ad (⟨hD.1, fun j z hz => Or.inl ⟨j, z.2, hz⟩⟩ : va_D (va_A w H.size) w) am fs 0 1 hm h30 (by simp)) gj_X7_110 (va_recv hK hP (ci := 13) (q0 := 0) rfl hm) rfl ⟨Nat.le_of_ble_eq_true rfl, Nat.le_of_ble_eq_true rfl⟩ ⟨by show _ ≤ 80; omega, by show _ ≤ 900; omega⟩ (Nat.le_of_ble_eq_true rfl) hx hb (hml.trans hl.1.symm) hts hown hK hT hL hP hD hS hA dj_X7_difference_39 (fun res w61 H locs hrv hqq hP hD hS => ?_)
      obtain ⟨er, ⟨fs61, hm61, hf61, hfl61, ht61⟩, hlen61, hRt61⟩ := hqq
      subst er
      have hR61 : li_R w w61 [0] := hRt61
      have hF61 : ∀ j, j ≠ 30 → fs61[j]? = fs[j]? := hf61
      have hG61 : fs61.length = fs.length := hfl61
      have hfs61 := hf.st hF61 hG61
      have h3061 : 30 < fs61.length := by rw [hfs61.1]; decide
      refine lv_if_eq (tgt := 49) hx hb dj_X7_difference_42 (by decide) (fun _ => ?_) (fun c9 => absurd rfl c9)
      have hcM := hc.st hB hR61 hB0 hI0
      obtain ⟨hlen, ⟨f16, f17, f29⟩, f0, f2, f7, f8, f9, f10, f13, f14, f12⟩ := id hfs61
      obtain ⟨⟨gC, hC, hrC⟩, ⟨gW, hW, hrW⟩, ⟨gHc, hHc, -⟩, ⟨gS, hS9, hS8⟩, ⟨gO, hO9, -⟩, ⟨gP, hP9, hP8⟩, ⟨gIx, hIx, -⟩, ⟨gLo, hLo, -⟩, mcD, aD2, gD, hD19, hD20, hlaD⟩ := id hcM
      have hLj : li_L w61 (21 + j) (qa j) (la j) e0 cL ad (nn j) := (hLs j hj).1.st hR61 (po_nb0 hm) (by simp) (by simp; exact (hLs j hj).2.2.2.2)
      refine lv_aload_n hx hb dj_X7_difference_49 rfl (lv_at hl 0 rfl) ?_
      refine va_get (D := D) (ci := 13) (v := .ref aD) (C := RX7) (T := TX7) (N := 31) hx hb hts uwj_X7 hown hK hP 0 hm61 rfl 12 (by decide) (hts _ cwj1510) (fun _ h9 => h9) f12 dj_X7_difference_50 ?_
      refine lv_iload_n hx hb dj_X7_difference_53 rfl (lv_at hl 1 rfl) ?_
      refine li_cV (As := [.int (nI j)]) (rest := []) (li_Jx4a65c_get_915e3 l D tys w61 _ e0 ca ad (⟨hD.1, fun j z hz => Or.inl ⟨j, z.2, hz⟩⟩ : va_D (va_A w61 H.size) w61) 19 20 aD aD2 6 10 mcD gD cL t9 j (la j) hD19 hD20 ht9 (by decide) (by decide) hj (hlaD j hj)) gj_X7_300 (va_recv hK hP (ci := 5) (q0 := 19) rfl hD19) rfl ⟨Nat.le_of_ble_eq_true rfl, Nat.le_of_ble_eq_true rfl⟩ ⟨by show _ ≤ 80; omega, by show _ ≤ 900; omega⟩ (Nat.le_of_ble_eq_true rfl) hx hb (hml.trans hl.1.symm) hts hown hK hT hL hP hD hS hA dj_X7_difference_54 (fun res w9 H locs hrv hqq hP hD hS => ?_)
      obtain ⟨er, ew⟩ := hqq
      have ew := Eq.symm ew
      subst er
      subst ew
      refine va_castS hx hb hown (hts _ cwj1405) (hK.1 5 _ rfl).2 (lk_rv hLj hK hP) dj_X7_difference_57 ?_
      refine lv_iload_n hx hb dj_X7_difference_60 rfl (lv_at hl 2 rfl) ?_
      refine li_cV (As := [.int (nI i)]) (rest := []) (lk_get (⟨hD.1, fun j z hz => Or.inl ⟨j, z.2, hz⟩⟩ : va_D (va_A w61 H.size) w61) ht9 hLj (i := i) hi) gj_X7_300 (lk_rv hLj hK hP) rfl ⟨Nat.le_of_ble_eq_true rfl, Nat.le_of_ble_eq_true rfl⟩ ⟨by show _ ≤ 80; omega, by show _ ≤ 900; omega⟩ (Nat.le_of_ble_eq_true rfl) hx hb (hml.trans hl.1.symm) hts hown hK hT hL hP hD hS hA dj_X7_difference_61 (fun res w9 H locs hrv hqq hP hD hS => ?_)
      obtain ⟨y, er, hy, ew⟩ := hqq
      have ew := Eq.symm ew
      subst er
      subst ew
      refine va_castS hx hb hown (hts _ cwj2003) (hK.1 2 _ rfl).2 (li_xr (hy) hK hL hP hS) dj_X7_difference_64 ?_
      refine li_cV (As := []) (rest := []) (lk_intValue (⟨hD.1, fun j z hz => Or.inl ⟨j, z.2, hz⟩⟩ : va_D (va_A w61 H.size) w61) (hy)) gj_X7_294 (li_xr (hy) hK hL hP hS) rfl ⟨Nat.le_of_ble_eq_true rfl, Nat.le_of_ble_eq_true rfl⟩ ⟨by show _ ≤ 80; omega, by show _ ≤ 900; omega⟩ (Nat.le_of_ble_eq_true rfl) hx hb (hml.trans hl.1.symm) hts hown hK hT hL hP hD hS hA dj_X7_difference_67 (fun res w9 H locs hrv hqq hP hD hS => ?_)
      obtain ⟨rv1, rfl⟩ := hrv
      have ew := Eq.symm hqq
      subst ew
      refine W.widen (k := 80) (n := 900) (by decide) (by decide) ?_
      exact W.iret (v := rv1) hx hb hr (fun t ht hW9 => ⟨⟨rv1, w61, rfl, po_ret hm hLs hR61 hm61 hF61 hG61 ht61 (hc.st hB hR61 hB0 hI0), ⟨by rw [ht]; exact hP, hD⟩⟩, hS.F ht⟩) hS.2.2 dj_X7_difference_70
    · subst er
      refine lv_if_ne (tgt := 37) hx hb dj_X7_difference_30 (by decide) (fun c9 => absurd rfl c9) (fun _ => ?_)
      refine lv_iconst (v := 1) hx hb dj_X7_difference_33 (by decide) ?_
      refine lv_goto (tgt := 38) hx hb dj_X7_difference_34 (by decide) ?_
      refine lv_iconst (v := 1) hx hb dj_X7_difference_38 (by decide) ?_
      refine li_cV (As := [.int 1, .int 1]) (rest := []) (li_X7_isThrown l D tys w _ e0 ca ad (⟨hD.1, fun j z hz => Or.inl ⟨j, z.2, hz⟩⟩ : va_D (va_A w H.size) w) am fs 1 1 hm h30 (by simp)) gj_X7_110 (va_recv hK hP (ci := 13) (q0 := 0) rfl hm) rfl ⟨Nat.le_of_ble_eq_true rfl, Nat.le_of_ble_eq_true rfl⟩ ⟨by show _ ≤ 80; omega, by show _ ≤ 900; omega⟩ (Nat.le_of_ble_eq_true rfl) hx hb (hml.trans hl.1.symm) hts hown hK hT hL hP hD hS hA dj_X7_difference_39 (fun res w62 H locs hrv hqq hP hD hS => ?_)
      obtain ⟨er, ⟨fs62, hm62, hf62, hfl62, ht62⟩, hlen62, hRt62⟩ := hqq
      subst er
      have hR62 : li_R w w62 [0] := hRt62
      have hF62 : ∀ j, j ≠ 30 → fs62[j]? = fs[j]? := hf62
      have hG62 : fs62.length = fs.length := hfl62
      have hfs62 := hf.st hF62 hG62
      have h3062 : 30 < fs62.length := by rw [hfs62.1]; decide
      refine lv_if_eq (tgt := 49) hx hb dj_X7_difference_42 (by decide) (fun c9 => absurd c9 (by decide)) (fun _ => ?_)
      refine lv_iconst (v := 0) hx hb dj_X7_difference_45 (by decide) ?_
      refine lv_goto (tgt := 70) hx hb dj_X7_difference_46 (by decide) ?_
      refine W.widen (k := 80) (n := 900) (by decide) (by decide) ?_
      exact W.iret (v := 0) hx hb hr (fun t ht hW9 => ⟨⟨0, w62, rfl, po_ret hm hLs hR62 hm62 hF62 hG62 ht62 (hc.st hB hR62 hB0 hI0), ⟨by rw [ht]; exact hP, hD⟩⟩, hS.F ht⟩) hS.2.2 dj_X7_difference_70
  · subst er
    refine lv_if_ne (tgt := 33) hx hb dj_X7_difference_6 (by decide) (fun _ => ?_) (fun c9 => absurd c9 (by decide))
    refine lv_iconst (v := 1) hx hb dj_X7_difference_33 (by decide) ?_
    refine lv_goto (tgt := 38) hx hb dj_X7_difference_34 (by decide) ?_
    refine lv_iconst (v := 1) hx hb dj_X7_difference_38 (by decide) ?_
    refine li_cV (As := [.int 1, .int 1]) (rest := []) (li_X7_isThrown l D tys w _ e0 ca ad (⟨hD.1, fun j z hz => Or.inl ⟨j, z.2, hz⟩⟩ : va_D (va_A w H.size) w) am fs 1 1 hm h30 (by simp)) gj_X7_110 (va_recv hK hP (ci := 13) (q0 := 0) rfl hm) rfl ⟨Nat.le_of_ble_eq_true rfl, Nat.le_of_ble_eq_true rfl⟩ ⟨by show _ ≤ 80; omega, by show _ ≤ 900; omega⟩ (Nat.le_of_ble_eq_true rfl) hx hb (hml.trans hl.1.symm) hts hown hK hT hL hP hD hS hA dj_X7_difference_39 (fun res w63 H locs hrv hqq hP hD hS => ?_)
    obtain ⟨er, ⟨fs63, hm63, hf63, hfl63, ht63⟩, hlen63, hRt63⟩ := hqq
    subst er
    have hR63 : li_R w w63 [0] := hRt63
    have hF63 : ∀ j, j ≠ 30 → fs63[j]? = fs[j]? := hf63
    have hG63 : fs63.length = fs.length := hfl63
    have hfs63 := hf.st hF63 hG63
    have h3063 : 30 < fs63.length := by rw [hfs63.1]; decide
    refine lv_if_eq (tgt := 49) hx hb dj_X7_difference_42 (by decide) (fun c9 => absurd c9 (by decide)) (fun _ => ?_)
    refine lv_iconst (v := 0) hx hb dj_X7_difference_45 (by decide) ?_
    refine lv_goto (tgt := 70) hx hb dj_X7_difference_46 (by decide) ?_
    refine W.widen (k := 80) (n := 900) (by decide) (by decide) ?_
    exact W.iret (v := 0) hx hb hr (fun t ht hW9 => ⟨⟨0, w63, rfl, po_ret hm hLs hR63 hm63 hF63 hG63 ht63 (hc.st hB hR63 hB0 hI0), ⟨by rw [ht]; exact hP, hD⟩⟩, hS.F ht⟩) hS.2.2 dj_X7_difference_70
set_option maxHeartbeats 4000000 in
theorem li_X7_index (l : Launch) (D : va_G) (tys : List (ClassId × FieldType)) (w : va_W) (sz e0 ca : Nat) (ad : li_ad) (hD0 : va_D (va_A w sz) w) (am : Nat) (fs : List Value) (a1 : Int32) (B : List Nat) (cL cI cZ cR : ClassId) (nh : Nat) (xp x29 : Int32) (aC aHc aWr aS aO aP aIx aLo aD pHc pWr pS pO pP pIx pLo : Nat) (la qa nn : Nat → Nat) (t9 : Nat) (hm : w[0]? = some (am, .inr (13, fs))) (ht0 : tys[0]? = some (cI, .int)) (ht9 : tys[t9]? = some (cL, .object "java/lang/Object")) (hf : po_fs fs nh xp x29 aC aHc aWr aS aO aP aIx aLo aD) (hc : po_c w w.length B cL cI cZ cR nh aC aHc aWr aS aO aP aIx aLo aD pHc pWr pS pO pP pIx pLo la) (hxp : 0 ≤ xp.toInt ∧ xp.toInt ≤ 6) (hB : po_B w.length B pHc pWr pS pO) (hBB : ∀ z ∈ [0, pIx, pLo, pP], z ∈ B ∧ z < w.length) (hd1 : pIx ≠ pLo ∧ pIx ≠ pP ∧ pLo ≠ pP ∧ pIx ≠ 0 ∧ pLo ≠ 0 ∧ pP ≠ 0) (hLs : po_L w B e0 cL ad la qa nn) : li_C l yX7_index cX7_index 2 (some .int) 3 80 900 0 [.ref am, .int a1] D tys w sz e0 ca ad (fun res w1 => po_Q w am fs pIx pLo pP e0 cL ad la qa (fun w1 => po_c w1 w.length B cL cI cZ cR nh aC aHc aWr aS aO aP aIx aLo aD pHc pWr pS pO pP pIx pLo la) w1) := by
  refine Met.ofW (cc := cX7_index) (maxL := 2) (ret := (some .int)) (by decide +kernel) rfl ?_
  intro p e s m args below meth c s₁ B9 hml hv
  obtain ⟨rfl, ⟨hsz, hP, hK, hT⟩, hL⟩ := hv
  subst hsz
  have hx := B9.exec
  have hb := B9.bytes
  have hr := B9.returns
  have hlocks := B9.notSynchronized
  have hts0 := atoms_spec (ws := Cond.code yX7_index cX7_index 2 (some .int) :: en_cw) B9.pre
  have hts : ∀ z ∈ en_cw, z.before _ s = true := fun z hz => hts0 z (List.mem_cons_of_mem _ hz)
  have hown : s.vm.findClass RX7 = some m.cls := findClass_of_methodNamed B9.named
  have hA : ∀ q : Nat, s.heap.size ≤ q → va_A w s.heap.size q := fun q h => Or.inr h
  have hS : va_S (va_A w s.heap.size) s.heap s.heap [] := va_S.rf
  have hD : va_D (va_A w s.heap.size) w := ⟨hD0.1, fun j z hz => Or.inl ⟨j, z.2, hz⟩⟩
  have hR9 : li_R w w [] := li_R.rf
  have hl := lv_entry ([.ref am, .int a1]) (n := 2) (Nat.le_of_ble_eq_true rfl)
  rw [lg_entry_eq]
  generalize (lg_sl ([.ref am, .int a1]) ++ List.replicate (2 - (lg_sl ([.ref am, .int a1])).length) Slot.unset).toArray = ls at hl ⊢
  have hl : lv_has ls 2 [(0, .ref am), (1, .int a1)] := hl
  have h30 : 30 < fs.length := by rw [hf.1]; decide
  have hB0 : ∀ p, po_ok w.length B p → p ∉ [0] := fun p h h0 => h.2 (by rw [List.mem_singleton.mp h0]; exact (hBB 0 (by simp)).1)
  have hI0 : pP ∉ [0] ∧ pIx ∉ [0] ∧ pLo ∉ [0] := by simp; exact ⟨hd1.2.2.2.2.2, hd1.2.2.2.1, hd1.2.2.2.2.1⟩
  refine lv_aload_n hx hb dj_X7_index_0 rfl (lv_at hl 0 rfl) ?_
  refine lv_aload_n hx hb dj_X7_index_1 rfl (lv_at hl 0 rfl) ?_
  refine lv_iload_n hx hb dj_X7_index_2 rfl (lv_at hl 1 rfl) ?_
  refine li_cV (As := [.int a1]) (rest := [.ref am]) (li_X7_isNoPlayer l D tys w _ e0 ca ad (⟨hD.1, fun j z hz => Or.inl ⟨j, z.2, hz⟩⟩ : va_D (va_A w s.heap.size) w) am fs a1 xp hm hf.2.1.2.1 hxp) gj_X7_132 (va_recv hK hP (ci := 13) (q0 := 0) rfl hm) rfl ⟨Nat.le_of_ble_eq_true rfl, Nat.le_of_ble_eq_true rfl⟩ ⟨by show _ ≤ 80; omega, by show _ ≤ 900; omega⟩ (Nat.le_of_ble_eq_true rfl) hx hb (hml.trans hl.1.symm) hts hown hK hT hL hP hD hS hA dj_X7_index_3 (fun res w9 H locs hrv hqq hP hD hS => ?_)
  obtain ⟨ew, hq⟩ := hqq
  have ew := Eq.symm ew
  subst ew
  rcases hq with ⟨er, h1, h2⟩ | er
  · subst er
    refine lv_iconst (v := 1) hx hb dj_X7_index_6 (by decide) ?_
    refine li_cV (As := [.int 0, .int 1]) (rest := []) (li_X7_isThrown l D tys w _ e0 ca ad (⟨hD.1, fun j z hz => Or.inl ⟨j, z.2, hz⟩⟩ : va_D (va_A w H.size) w) am fs 0 1 hm h30 (by simp)) gj_X7_110 (va_recv hK hP (ci := 13) (q0 := 0) rfl hm) rfl ⟨Nat.le_of_ble_eq_true rfl, Nat.le_of_ble_eq_true rfl⟩ ⟨by show _ ≤ 80; omega, by show _ ≤ 900; omega⟩ (Nat.le_of_ble_eq_true rfl) hx hb (hml.trans hl.1.symm) hts hown hK hT hL hP hD hS hA dj_X7_index_7 (fun res w61 H locs hrv hqq hP hD hS => ?_)
    obtain ⟨er, ⟨fs61, hm61, hf61, hfl61, ht61⟩, hlen61, hRt61⟩ := hqq
    subst er
    have hR61 : li_R w w61 [0] := hRt61
    have hF61 : ∀ j, j ≠ 30 → fs61[j]? = fs[j]? := hf61
    have hG61 : fs61.length = fs.length := hfl61
    have hfs61 := hf.st hF61 hG61
    have h3061 : 30 < fs61.length := by rw [hfs61.1]; decide
    refine lv_if_ne (tgt := 35) hx hb dj_X7_index_10 (by decide) (fun c9 => absurd rfl c9) (fun _ => ?_)
    obtain ⟨j, hj, ej⟩ := vp_in_of (vp_in_iff.mpr ⟨h1, by show a1.toInt < ((6 : Nat) : Int); omega⟩ : vp_in a1 6) (by decide)
    subst ej
    have hcM := hc.st hB hR61 hB0 hI0
    obtain ⟨hlen, ⟨f16, f17, f29⟩, f0, f2, f7, f8, f9, f10, f13, f14, f12⟩ := id hfs61
    obtain ⟨⟨gC, hC, hrC⟩, ⟨gW, hW, hrW⟩, ⟨gHc, hHc, -⟩, ⟨gS, hS9, hS8⟩, ⟨gO, hO9, -⟩, ⟨gP, hP9, hP8⟩, ⟨gIx, hIx, -⟩, ⟨gLo, hLo, -⟩, mcD, aD2, gD, hD19, hD20, hlaD⟩ := id hcM
    have hLj : li_L w61 (21 + j) (qa j) (la j) e0 cL ad (nn j) := (hLs j hj).1.st hR61 (po_nb0 hm) (by simp) (by simp; exact (hLs j hj).2.2.2.2)
    refine lv_aload_n hx hb dj_X7_index_13 rfl (lv_at hl 0 rfl) ?_
    refine lv_aload_n hx hb dj_X7_index_14 rfl (lv_at hl 0 rfl) ?_
    refine va_get (D := D) (ci := 13) (v := .ref aD) (C := RX7) (T := TX7) (N := 31) hx hb hts uwj_X7 hown hK hP 0 hm61 rfl 12 (by decide) (hts _ cwj1510) (fun _ h9 => h9) f12 dj_X7_index_15 ?_
    refine lv_iload_n hx hb dj_X7_index_18 rfl (lv_at hl 1 rfl) ?_
    refine li_cV (As := [.int (nI j)]) (rest := [.ref am]) (li_Jx4a65c_get_915e3 l D tys w61 _ e0 ca ad (⟨hD.1, fun j z hz => Or.inl ⟨j, z.2, hz⟩⟩ : va_D (va_A w61 H.size) w61) 19 20 aD aD2 6 10 mcD gD cL t9 j (la j) hD19 hD20 ht9 (by decide) (by decide) hj (hlaD j hj)) gj_X7_300 (va_recv hK hP (ci := 5) (q0 := 19) rfl hD19) rfl ⟨Nat.le_of_ble_eq_true rfl, Nat.le_of_ble_eq_true rfl⟩ ⟨by show _ ≤ 80; omega, by show _ ≤ 900; omega⟩ (Nat.le_of_ble_eq_true rfl) hx hb (hml.trans hl.1.symm) hts hown hK hT hL hP hD hS hA dj_X7_index_19 (fun res w9 H locs hrv hqq hP hD hS => ?_)
    obtain ⟨er, ew⟩ := hqq
    have ew := Eq.symm ew
    subst er
    subst ew
    refine va_castS hx hb hown (hts _ cwj1405) (hK.1 5 _ rfl).2 (lk_rv hLj hK hP) dj_X7_index_22 ?_
    refine li_cV (As := []) (rest := [.ref am]) (lk_isEmpty (⟨hD.1, fun j z hz => Or.inl ⟨j, z.2, hz⟩⟩ : va_D (va_A w61 H.size) w61) hLj (by have := (hLs j hj).2.1; omega)) gj_X7_317 (lk_rv hLj hK hP) rfl ⟨Nat.le_of_ble_eq_true rfl, Nat.le_of_ble_eq_true rfl⟩ ⟨by show _ ≤ 80; omega, by show _ ≤ 900; omega⟩ (Nat.le_of_ble_eq_true rfl) hx hb (hml.trans hl.1.symm) hts hown hK hT hL hP hD hS hA dj_X7_index_25 (fun res w9 H locs hrv hqq hP hD hS => ?_)
    obtain ⟨er, ew⟩ := hqq
    have ew := Eq.symm ew
    subst er
    subst ew
    by_cases he : nn j = 0
    · skip
      rw [show (if nn j = 0 then (1 : Int32) else 0) = 1 from if_pos he]
      refine lv_iconst (v := 2) hx hb dj_X7_index_28 (by decide) ?_
      refine li_cV (As := [.int 1, .int 2]) (rest := []) (li_X7_isThrown l D tys w61 _ e0 ca ad (⟨hD.1, fun j z hz => Or.inl ⟨j, z.2, hz⟩⟩ : va_D (va_A w61 H.size) w61) am fs61 1 2 hm61 h3061 (by simp)) gj_X7_110 (va_recv hK hP (ci := 13) (q0 := 0) rfl hm61) rfl ⟨Nat.le_of_ble_eq_true rfl, Nat.le_of_ble_eq_true rfl⟩ ⟨by show _ ≤ 80; omega, by show _ ≤ 900; omega⟩ (Nat.le_of_ble_eq_true rfl) hx hb (hml.trans hl.1.symm) hts hown hK hT hL hP hD hS hA dj_X7_index_29 (fun res w62 H locs hrv hqq hP hD hS => ?_)
      obtain ⟨er, ⟨fs62, hm62, hf62, hfl62, ht62⟩, hlen62, hRt62⟩ := hqq
      subst er
      have hR62 : li_R w w62 [0] := hR61.tr hRt62
      have hF62 : ∀ j, j ≠ 30 → fs62[j]? = fs[j]? := fun j hj => (hf62 j hj).trans (hF61 j hj)
      have hG62 : fs62.length = fs.length := hfl62.trans hG61
      have hfs62 := hf.st hF62 hG62
      have h3062 : 30 < fs62.length := by rw [hfs62.1]; decide
      refine lv_if_eq (tgt := 39) hx hb dj_X7_index_32 (by decide) (fun c9 => absurd c9 (by decide)) (fun _ => ?_)
      refine lv_iconst (v := 0) hx hb dj_X7_index_35 (by decide) ?_
      refine lv_goto (tgt := 45) hx hb dj_X7_index_36 (by decide) ?_
      refine W.widen (k := 80) (n := 900) (by decide) (by decide) ?_
      exact W.iret (v := 0) hx hb hr (fun t ht hW9 => ⟨⟨0, w62, rfl, po_ret hm hLs hR62 hm62 hF62 hG62 ht62 (hc.st hB hR62 hB0 hI0), ⟨by rw [ht]; exact hP, hD⟩⟩, hS.F ht⟩) hS.2.2 dj_X7_index_45
    · skip
      rw [show (if nn j = 0 then (1 : Int32) else 0) = 0 from if_neg he]
      refine lv_iconst (v := 2) hx hb dj_X7_index_28 (by decide) ?_
      refine li_cV (As := [.int 0, .int 2]) (rest := []) (li_X7_isThrown l D tys w61 _ e0 ca ad (⟨hD.1, fun j z hz => Or.inl ⟨j, z.2, hz⟩⟩ : va_D (va_A w61 H.size) w61) am fs61 0 2 hm61 h3061 (by simp)) gj_X7_110 (va_recv hK hP (ci := 13) (q0 := 0) rfl hm61) rfl ⟨Nat.le_of_ble_eq_true rfl, Nat.le_of_ble_eq_true rfl⟩ ⟨by show _ ≤ 80; omega, by show _ ≤ 900; omega⟩ (Nat.le_of_ble_eq_true rfl) hx hb (hml.trans hl.1.symm) hts hown hK hT hL hP hD hS hA dj_X7_index_29 (fun res w63 H locs hrv hqq hP hD hS => ?_)
      obtain ⟨er, ⟨fs63, hm63, hf63, hfl63, ht63⟩, hlen63, hRt63⟩ := hqq
      subst er
      have hR63 : li_R w w63 [0] := hR61.tr hRt63
      have hF63 : ∀ j, j ≠ 30 → fs63[j]? = fs[j]? := fun j hj => (hf63 j hj).trans (hF61 j hj)
      have hG63 : fs63.length = fs.length := hfl63.trans hG61
      have hfs63 := hf.st hF63 hG63
      have h3063 : 30 < fs63.length := by rw [hfs63.1]; decide
      refine lv_if_eq (tgt := 39) hx hb dj_X7_index_32 (by decide) (fun _ => ?_) (fun c9 => absurd rfl c9)
      have hcM := hc.st hB hR63 hB0 hI0
      obtain ⟨hlen, ⟨f16, f17, f29⟩, f0, f2, f7, f8, f9, f10, f13, f14, f12⟩ := id hfs63
      obtain ⟨⟨gC, hC, hrC⟩, ⟨gW, hW, hrW⟩, ⟨gHc, hHc, -⟩, ⟨gS, hS9, hS8⟩, ⟨gO, hO9, -⟩, ⟨gP, hP9, hP8⟩, ⟨gIx, hIx, -⟩, ⟨gLo, hLo, -⟩, mcD, aD2, gD, hD19, hD20, hlaD⟩ := id hcM
      have hLj : li_L w63 (21 + j) (qa j) (la j) e0 cL ad (nn j) := (hLs j hj).1.st hR63 (po_nb0 hm) (by simp) (by simp; exact (hLs j hj).2.2.2.2)
      refine lv_aload_n hx hb dj_X7_index_39 rfl (lv_at hl 0 rfl) ?_
      refine va_get (D := D) (ci := 13) (v := .ref aIx) (C := RX7) (T := TX7) (N := 31) hx hb hts uwj_X7 hown hK hP 0 hm63 rfl 13 (by decide) (hts _ cwj1511) (fun _ h9 => h9) f13 dj_X7_index_40 ?_
      refine lv_iload_n hx hb dj_X7_index_43 rfl (lv_at hl 1 rfl) ?_
      refine va_iald hx hb hK hP pIx 0 hIx ht0 (vp_in_nI hj (by decide)) dj_X7_index_44 ?_
      refine lv_topi (fun vi1 evi1 => ?_)
      refine W.widen (k := 80) (n := 900) (by decide) (by decide) ?_
      exact W.iret (v := vi1) hx hb hr (fun t ht hW9 => ⟨⟨vi1, w63, rfl, po_ret hm hLs hR63 hm63 hF63 hG63 ht63 (hc.st hB hR63 hB0 hI0), ⟨by rw [ht]; exact hP, hD⟩⟩, hS.F ht⟩) hS.2.2 dj_X7_index_45
  · subst er
    refine lv_iconst (v := 1) hx hb dj_X7_index_6 (by decide) ?_
    refine li_cV (As := [.int 1, .int 1]) (rest := []) (li_X7_isThrown l D tys w _ e0 ca ad (⟨hD.1, fun j z hz => Or.inl ⟨j, z.2, hz⟩⟩ : va_D (va_A w H.size) w) am fs 1 1 hm h30 (by simp)) gj_X7_110 (va_recv hK hP (ci := 13) (q0 := 0) rfl hm) rfl ⟨Nat.le_of_ble_eq_true rfl, Nat.le_of_ble_eq_true rfl⟩ ⟨by show _ ≤ 80; omega, by show _ ≤ 900; omega⟩ (Nat.le_of_ble_eq_true rfl) hx hb (hml.trans hl.1.symm) hts hown hK hT hL hP hD hS hA dj_X7_index_7 (fun res w64 H locs hrv hqq hP hD hS => ?_)
    obtain ⟨er, ⟨fs64, hm64, hf64, hfl64, ht64⟩, hlen64, hRt64⟩ := hqq
    subst er
    have hR64 : li_R w w64 [0] := hRt64
    have hF64 : ∀ j, j ≠ 30 → fs64[j]? = fs[j]? := hf64
    have hG64 : fs64.length = fs.length := hfl64
    have hfs64 := hf.st hF64 hG64
    have h3064 : 30 < fs64.length := by rw [hfs64.1]; decide
    refine lv_if_ne (tgt := 35) hx hb dj_X7_index_10 (by decide) (fun _ => ?_) (fun c9 => absurd c9 (by decide))
    refine lv_iconst (v := 0) hx hb dj_X7_index_35 (by decide) ?_
    refine lv_goto (tgt := 45) hx hb dj_X7_index_36 (by decide) ?_
    refine W.widen (k := 80) (n := 900) (by decide) (by decide) ?_
    exact W.iret (v := 0) hx hb hr (fun t ht hW9 => ⟨⟨0, w64, rfl, po_ret hm hLs hR64 hm64 hF64 hG64 ht64 (hc.st hB hR64 hB0 hI0), ⟨by rw [ht]; exact hP, hD⟩⟩, hS.F ht⟩) hS.2.2 dj_X7_index_45
set_option maxHeartbeats 4000000 in
theorem li_X7_lowIndex (l : Launch) (D : va_G) (tys : List (ClassId × FieldType)) (w : va_W) (sz e0 ca : Nat) (ad : li_ad) (hD0 : va_D (va_A w sz) w) (am : Nat) (fs : List Value) (a1 : Int32) (B : List Nat) (cL cI cZ cR : ClassId) (nh : Nat) (xp x29 : Int32) (aC aHc aWr aS aO aP aIx aLo aD pHc pWr pS pO pP pIx pLo : Nat) (la qa nn : Nat → Nat) (t9 : Nat) (hm : w[0]? = some (am, .inr (13, fs))) (ht0 : tys[0]? = some (cI, .int)) (ht9 : tys[t9]? = some (cL, .object "java/lang/Object")) (hf : po_fs fs nh xp x29 aC aHc aWr aS aO aP aIx aLo aD) (hc : po_c w w.length B cL cI cZ cR nh aC aHc aWr aS aO aP aIx aLo aD pHc pWr pS pO pP pIx pLo la) (hxp : 0 ≤ xp.toInt ∧ xp.toInt ≤ 6) (hB : po_B w.length B pHc pWr pS pO) (hBB : ∀ z ∈ [0, pIx, pLo, pP], z ∈ B ∧ z < w.length) (hd1 : pIx ≠ pLo ∧ pIx ≠ pP ∧ pLo ≠ pP ∧ pIx ≠ 0 ∧ pLo ≠ 0 ∧ pP ≠ 0) (hLs : po_L w B e0 cL ad la qa nn) : li_C l yX7_lowIndex cX7_lowIndex 2 (some .int) 3 80 900 0 [.ref am, .int a1] D tys w sz e0 ca ad (fun res w1 => po_Q w am fs pIx pLo pP e0 cL ad la qa (fun w1 => po_c w1 w.length B cL cI cZ cR nh aC aHc aWr aS aO aP aIx aLo aD pHc pWr pS pO pP pIx pLo la) w1) := by
  refine Met.ofW (cc := cX7_lowIndex) (maxL := 2) (ret := (some .int)) (by decide +kernel) rfl ?_
  intro p e s m args below meth c s₁ B9 hml hv
  obtain ⟨rfl, ⟨hsz, hP, hK, hT⟩, hL⟩ := hv
  subst hsz
  have hx := B9.exec
  have hb := B9.bytes
  have hr := B9.returns
  have hlocks := B9.notSynchronized
  have hts0 := atoms_spec (ws := Cond.code yX7_lowIndex cX7_lowIndex 2 (some .int) :: en_cw) B9.pre
  have hts : ∀ z ∈ en_cw, z.before _ s = true := fun z hz => hts0 z (List.mem_cons_of_mem _ hz)
  have hown : s.vm.findClass RX7 = some m.cls := findClass_of_methodNamed B9.named
  have hA : ∀ q : Nat, s.heap.size ≤ q → va_A w s.heap.size q := fun q h => Or.inr h
  have hS : va_S (va_A w s.heap.size) s.heap s.heap [] := va_S.rf
  have hD : va_D (va_A w s.heap.size) w := ⟨hD0.1, fun j z hz => Or.inl ⟨j, z.2, hz⟩⟩
  have hR9 : li_R w w [] := li_R.rf
  have hl := lv_entry ([.ref am, .int a1]) (n := 2) (Nat.le_of_ble_eq_true rfl)
  rw [lg_entry_eq]
  generalize (lg_sl ([.ref am, .int a1]) ++ List.replicate (2 - (lg_sl ([.ref am, .int a1])).length) Slot.unset).toArray = ls at hl ⊢
  have hl : lv_has ls 2 [(0, .ref am), (1, .int a1)] := hl
  have h30 : 30 < fs.length := by rw [hf.1]; decide
  have hB0 : ∀ p, po_ok w.length B p → p ∉ [0] := fun p h h0 => h.2 (by rw [List.mem_singleton.mp h0]; exact (hBB 0 (by simp)).1)
  have hI0 : pP ∉ [0] ∧ pIx ∉ [0] ∧ pLo ∉ [0] := by simp; exact ⟨hd1.2.2.2.2.2, hd1.2.2.2.1, hd1.2.2.2.2.1⟩
  refine lv_aload_n hx hb dj_X7_lowIndex_0 rfl (lv_at hl 0 rfl) ?_
  refine lv_aload_n hx hb dj_X7_lowIndex_1 rfl (lv_at hl 0 rfl) ?_
  refine lv_iload_n hx hb dj_X7_lowIndex_2 rfl (lv_at hl 1 rfl) ?_
  refine li_cV (As := [.int a1]) (rest := [.ref am]) (li_X7_isNoPlayer l D tys w _ e0 ca ad (⟨hD.1, fun j z hz => Or.inl ⟨j, z.2, hz⟩⟩ : va_D (va_A w s.heap.size) w) am fs a1 xp hm hf.2.1.2.1 hxp) gj_X7_132 (va_recv hK hP (ci := 13) (q0 := 0) rfl hm) rfl ⟨Nat.le_of_ble_eq_true rfl, Nat.le_of_ble_eq_true rfl⟩ ⟨by show _ ≤ 80; omega, by show _ ≤ 900; omega⟩ (Nat.le_of_ble_eq_true rfl) hx hb (hml.trans hl.1.symm) hts hown hK hT hL hP hD hS hA dj_X7_lowIndex_3 (fun res w9 H locs hrv hqq hP hD hS => ?_)
  obtain ⟨ew, hq⟩ := hqq
  have ew := Eq.symm ew
  subst ew
  rcases hq with ⟨er, h1, h2⟩ | er
  · subst er
    refine lv_iconst (v := 1) hx hb dj_X7_lowIndex_6 (by decide) ?_
    refine li_cV (As := [.int 0, .int 1]) (rest := []) (li_X7_isThrown l D tys w _ e0 ca ad (⟨hD.1, fun j z hz => Or.inl ⟨j, z.2, hz⟩⟩ : va_D (va_A w H.size) w) am fs 0 1 hm h30 (by simp)) gj_X7_110 (va_recv hK hP (ci := 13) (q0 := 0) rfl hm) rfl ⟨Nat.le_of_ble_eq_true rfl, Nat.le_of_ble_eq_true rfl⟩ ⟨by show _ ≤ 80; omega, by show _ ≤ 900; omega⟩ (Nat.le_of_ble_eq_true rfl) hx hb (hml.trans hl.1.symm) hts hown hK hT hL hP hD hS hA dj_X7_lowIndex_7 (fun res w61 H locs hrv hqq hP hD hS => ?_)
    obtain ⟨er, ⟨fs61, hm61, hf61, hfl61, ht61⟩, hlen61, hRt61⟩ := hqq
    subst er
    have hR61 : li_R w w61 [0] := hRt61
    have hF61 : ∀ j, j ≠ 30 → fs61[j]? = fs[j]? := hf61
    have hG61 : fs61.length = fs.length := hfl61
    have hfs61 := hf.st hF61 hG61
    have h3061 : 30 < fs61.length := by rw [hfs61.1]; decide
    refine lv_if_ne (tgt := 35) hx hb dj_X7_lowIndex_10 (by decide) (fun c9 => absurd rfl c9) (fun _ => ?_)
    obtain ⟨j, hj, ej⟩ := vp_in_of (vp_in_iff.mpr ⟨h1, by show a1.toInt < ((6 : Nat) : Int); omega⟩ : vp_in a1 6) (by decide)
    subst ej
    have hcM := hc.st hB hR61 hB0 hI0
    obtain ⟨hlen, ⟨f16, f17, f29⟩, f0, f2, f7, f8, f9, f10, f13, f14, f12⟩ := id hfs61
    obtain ⟨⟨gC, hC, hrC⟩, ⟨gW, hW, hrW⟩, ⟨gHc, hHc, -⟩, ⟨gS, hS9, hS8⟩, ⟨gO, hO9, -⟩, ⟨gP, hP9, hP8⟩, ⟨gIx, hIx, -⟩, ⟨gLo, hLo, -⟩, mcD, aD2, gD, hD19, hD20, hlaD⟩ := id hcM
    have hLj : li_L w61 (21 + j) (qa j) (la j) e0 cL ad (nn j) := (hLs j hj).1.st hR61 (po_nb0 hm) (by simp) (by simp; exact (hLs j hj).2.2.2.2)
    refine lv_aload_n hx hb dj_X7_lowIndex_13 rfl (lv_at hl 0 rfl) ?_
    refine lv_aload_n hx hb dj_X7_lowIndex_14 rfl (lv_at hl 0 rfl) ?_
    refine va_get (D := D) (ci := 13) (v := .ref aD) (C := RX7) (T := TX7) (N := 31) hx hb hts uwj_X7 hown hK hP 0 hm61 rfl 12 (by decide) (hts _ cwj1510) (fun _ h9 => h9) f12 dj_X7_lowIndex_15 ?_
    refine lv_iload_n hx hb dj_X7_lowIndex_18 rfl (lv_at hl 1 rfl) ?_
    refine li_cV (As := [.int (nI j)]) (rest := [.ref am]) (li_Jx4a65c_get_915e3 l D tys w61 _ e0 ca ad (⟨hD.1, fun j z hz => Or.inl ⟨j, z.2, hz⟩⟩ : va_D (va_A w61 H.size) w61) 19 20 aD aD2 6 10 mcD gD cL t9 j (la j) hD19 hD20 ht9 (by decide) (by decide) hj (hlaD j hj)) gj_X7_300 (va_recv hK hP (ci := 5) (q0 := 19) rfl hD19) rfl ⟨Nat.le_of_ble_eq_true rfl, Nat.le_of_ble_eq_true rfl⟩ ⟨by show _ ≤ 80; omega, by show _ ≤ 900; omega⟩ (Nat.le_of_ble_eq_true rfl) hx hb (hml.trans hl.1.symm) hts hown hK hT hL hP hD hS hA dj_X7_lowIndex_19 (fun res w9 H locs hrv hqq hP hD hS => ?_)
    obtain ⟨er, ew⟩ := hqq
    have ew := Eq.symm ew
    subst er
    subst ew
    refine va_castS hx hb hown (hts _ cwj1405) (hK.1 5 _ rfl).2 (lk_rv hLj hK hP) dj_X7_lowIndex_22 ?_
    refine li_cV (As := []) (rest := [.ref am]) (lk_isEmpty (⟨hD.1, fun j z hz => Or.inl ⟨j, z.2, hz⟩⟩ : va_D (va_A w61 H.size) w61) hLj (by have := (hLs j hj).2.1; omega)) gj_X7_317 (lk_rv hLj hK hP) rfl ⟨Nat.le_of_ble_eq_true rfl, Nat.le_of_ble_eq_true rfl⟩ ⟨by show _ ≤ 80; omega, by show _ ≤ 900; omega⟩ (Nat.le_of_ble_eq_true rfl) hx hb (hml.trans hl.1.symm) hts hown hK hT hL hP hD hS hA dj_X7_lowIndex_25 (fun res w9 H locs hrv hqq hP hD hS => ?_)
    obtain ⟨er, ew⟩ := hqq
    have ew := Eq.symm ew
    subst er
    subst ew
    by_cases he : nn j = 0
    · skip
      rw [show (if nn j = 0 then (1 : Int32) else 0) = 1 from if_pos he]
      refine lv_iconst (v := 2) hx hb dj_X7_lowIndex_28 (by decide) ?_
      refine li_cV (As := [.int 1, .int 2]) (rest := []) (li_X7_isThrown l D tys w61 _ e0 ca ad (⟨hD.1, fun j z hz => Or.inl ⟨j, z.2, hz⟩⟩ : va_D (va_A w61 H.size) w61) am fs61 1 2 hm61 h3061 (by simp)) gj_X7_110 (va_recv hK hP (ci := 13) (q0 := 0) rfl hm61) rfl ⟨Nat.le_of_ble_eq_true rfl, Nat.le_of_ble_eq_true rfl⟩ ⟨by show _ ≤ 80; omega, by show _ ≤ 900; omega⟩ (Nat.le_of_ble_eq_true rfl) hx hb (hml.trans hl.1.symm) hts hown hK hT hL hP hD hS hA dj_X7_lowIndex_29 (fun res w62 H locs hrv hqq hP hD hS => ?_)
      obtain ⟨er, ⟨fs62, hm62, hf62, hfl62, ht62⟩, hlen62, hRt62⟩ := hqq
      subst er
      have hR62 : li_R w w62 [0] := hR61.tr hRt62
      have hF62 : ∀ j, j ≠ 30 → fs62[j]? = fs[j]? := fun j hj => (hf62 j hj).trans (hF61 j hj)
      have hG62 : fs62.length = fs.length := hfl62.trans hG61
      have hfs62 := hf.st hF62 hG62
      have h3062 : 30 < fs62.length := by rw [hfs62.1]; decide
      refine lv_if_eq (tgt := 39) hx hb dj_X7_lowIndex_32 (by decide) (fun c9 => absurd c9 (by decide)) (fun _ => ?_)
      refine lv_iconst (v := 0) hx hb dj_X7_lowIndex_35 (by decide) ?_
      refine lv_goto (tgt := 45) hx hb dj_X7_lowIndex_36 (by decide) ?_
      refine W.widen (k := 80) (n := 900) (by decide) (by decide) ?_
      exact W.iret (v := 0) hx hb hr (fun t ht hW9 => ⟨⟨0, w62, rfl, po_ret hm hLs hR62 hm62 hF62 hG62 ht62 (hc.st hB hR62 hB0 hI0), ⟨by rw [ht]; exact hP, hD⟩⟩, hS.F ht⟩) hS.2.2 dj_X7_lowIndex_45
    · skip
      rw [show (if nn j = 0 then (1 : Int32) else 0) = 0 from if_neg he]
      refine lv_iconst (v := 2) hx hb dj_X7_lowIndex_28 (by decide) ?_
      refine li_cV (As := [.int 0, .int 2]) (rest := []) (li_X7_isThrown l D tys w61 _ e0 ca ad (⟨hD.1, fun j z hz => Or.inl ⟨j, z.2, hz⟩⟩ : va_D (va_A w61 H.size) w61) am fs61 0 2 hm61 h3061 (by simp)) gj_X7_110 (va_recv hK hP (ci := 13) (q0 := 0) rfl hm61) rfl ⟨Nat.le_of_ble_eq_true rfl, Nat.le_of_ble_eq_true rfl⟩ ⟨by show _ ≤ 80; omega, by show _ ≤ 900; omega⟩ (Nat.le_of_ble_eq_true rfl) hx hb (hml.trans hl.1.symm) hts hown hK hT hL hP hD hS hA dj_X7_lowIndex_29 (fun res w63 H locs hrv hqq hP hD hS => ?_)
      obtain ⟨er, ⟨fs63, hm63, hf63, hfl63, ht63⟩, hlen63, hRt63⟩ := hqq
      subst er
      have hR63 : li_R w w63 [0] := hR61.tr hRt63
      have hF63 : ∀ j, j ≠ 30 → fs63[j]? = fs[j]? := fun j hj => (hf63 j hj).trans (hF61 j hj)
      have hG63 : fs63.length = fs.length := hfl63.trans hG61
      have hfs63 := hf.st hF63 hG63
      have h3063 : 30 < fs63.length := by rw [hfs63.1]; decide
      refine lv_if_eq (tgt := 39) hx hb dj_X7_lowIndex_32 (by decide) (fun _ => ?_) (fun c9 => absurd rfl c9)
      have hcM := hc.st hB hR63 hB0 hI0
      obtain ⟨hlen, ⟨f16, f17, f29⟩, f0, f2, f7, f8, f9, f10, f13, f14, f12⟩ := id hfs63
      obtain ⟨⟨gC, hC, hrC⟩, ⟨gW, hW, hrW⟩, ⟨gHc, hHc, -⟩, ⟨gS, hS9, hS8⟩, ⟨gO, hO9, -⟩, ⟨gP, hP9, hP8⟩, ⟨gIx, hIx, -⟩, ⟨gLo, hLo, -⟩, mcD, aD2, gD, hD19, hD20, hlaD⟩ := id hcM
      have hLj : li_L w63 (21 + j) (qa j) (la j) e0 cL ad (nn j) := (hLs j hj).1.st hR63 (po_nb0 hm) (by simp) (by simp; exact (hLs j hj).2.2.2.2)
      refine lv_aload_n hx hb dj_X7_lowIndex_39 rfl (lv_at hl 0 rfl) ?_
      refine va_get (D := D) (ci := 13) (v := .ref aLo) (C := RX7) (T := TX7) (N := 31) hx hb hts uwj_X7 hown hK hP 0 hm63 rfl 14 (by decide) (hts _ cwj1512) (fun _ h9 => h9) f14 dj_X7_lowIndex_40 ?_
      refine lv_iload_n hx hb dj_X7_lowIndex_43 rfl (lv_at hl 1 rfl) ?_
      refine va_iald hx hb hK hP pLo 0 hLo ht0 (vp_in_nI hj (by decide)) dj_X7_lowIndex_44 ?_
      refine lv_topi (fun vi1 evi1 => ?_)
      refine W.widen (k := 80) (n := 900) (by decide) (by decide) ?_
      exact W.iret (v := vi1) hx hb hr (fun t ht hW9 => ⟨⟨vi1, w63, rfl, po_ret hm hLs hR63 hm63 hF63 hG63 ht63 (hc.st hB hR63 hB0 hI0), ⟨by rw [ht]; exact hP, hD⟩⟩, hS.F ht⟩) hS.2.2 dj_X7_lowIndex_45
  · subst er
    refine lv_iconst (v := 1) hx hb dj_X7_lowIndex_6 (by decide) ?_
    refine li_cV (As := [.int 1, .int 1]) (rest := []) (li_X7_isThrown l D tys w _ e0 ca ad (⟨hD.1, fun j z hz => Or.inl ⟨j, z.2, hz⟩⟩ : va_D (va_A w H.size) w) am fs 1 1 hm h30 (by simp)) gj_X7_110 (va_recv hK hP (ci := 13) (q0 := 0) rfl hm) rfl ⟨Nat.le_of_ble_eq_true rfl, Nat.le_of_ble_eq_true rfl⟩ ⟨by show _ ≤ 80; omega, by show _ ≤ 900; omega⟩ (Nat.le_of_ble_eq_true rfl) hx hb (hml.trans hl.1.symm) hts hown hK hT hL hP hD hS hA dj_X7_lowIndex_7 (fun res w64 H locs hrv hqq hP hD hS => ?_)
    obtain ⟨er, ⟨fs64, hm64, hf64, hfl64, ht64⟩, hlen64, hRt64⟩ := hqq
    subst er
    have hR64 : li_R w w64 [0] := hRt64
    have hF64 : ∀ j, j ≠ 30 → fs64[j]? = fs[j]? := hf64
    have hG64 : fs64.length = fs.length := hfl64
    have hfs64 := hf.st hF64 hG64
    have h3064 : 30 < fs64.length := by rw [hfs64.1]; decide
    refine lv_if_ne (tgt := 35) hx hb dj_X7_lowIndex_10 (by decide) (fun _ => ?_) (fun c9 => absurd c9 (by decide))
    refine lv_iconst (v := 0) hx hb dj_X7_lowIndex_35 (by decide) ?_
    refine lv_goto (tgt := 45) hx hb dj_X7_lowIndex_36 (by decide) ?_
    refine W.widen (k := 80) (n := 900) (by decide) (by decide) ?_
    exact W.iret (v := 0) hx hb hr (fun t ht hW9 => ⟨⟨0, w64, rfl, po_ret hm hLs hR64 hm64 hF64 hG64 ht64 (hc.st hB hR64 hB0 hI0), ⟨by rw [ht]; exact hP, hD⟩⟩, hS.F ht⟩) hS.2.2 dj_X7_lowIndex_45
