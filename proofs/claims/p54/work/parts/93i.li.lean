set_option maxHeartbeats 4000000 in
theorem po_sum {p : Program} {l : Launch} {e : Env} {s : State} {m : MethodId} {args : Array Value} {below : List Frame} {meth : Method} {c : Code} {Q : State → Prop} {D : va_G} {tys : List (ClassId × FieldType)} {A : Nat → Prop} {e0 ca t9 cells slots : Nat} {ad : li_ad} {cL : ClassId} {L : Nat} {B : List Nat} {cI cZ cR : ClassId} {nh : Nat} {xp x29 : Int32} {aC aHc aWr aS aO aP aIx aLo aD pHc pWr pS pO pP pIx pLo am : Nat} {la : Nat → Nat} {fs : List Value} (F : mo_F p (en_rm 9 (80, 900)) s m args c cX7_post 11 D tys A e0 ca ad) (ht0 : tys[0]? = some (cI, .int)) (ht2 : tys[2]? = some (cZ, .boolean)) (ht5 : tys[5]? = some (cR, .array .int)) (ht9 : tys[t9]? = some (cL, .object "java/lang/Object")) (hf : po_fs fs nh xp x29 aC aHc aWr aS aO aP aIx aLo aD) {w : va_W} {j : Nat} {x2 x3 : Int32} (hm : w[0]? = some (am, .inr (13, fs))) (hc : po_c w L B cL cI cZ cR nh aC aHc aWr aS aO aP aIx aLo aD pHc pWr pS pO pP pIx pLo la) (hj : j < 6) (hn1 : 1 ≤ nh) (hn9 : nh ≤ 9) (hD : va_D A w) (hcs : cells ≤ 80 ∧ slots ≤ 900)
    (kk : ∀ (H : Heap) (locs : List Loc) (ls : Array Slot) (x4 : Int32), va_P D vwCl w H → va_S A s.heap H locs → lv_has ls 11 [(4, .int x4), (0, .ref am), (1, .int (nI j)), (2, .int x2), (3, .int x3)] → W p l e (en_rm 9 (80, 900)) s m args below meth c H locs cells slots Q (F0 m 144 ls [])) :
    ∀ (d h : Nat), h + d = nh → ∀ (H : Heap) (locs : List Loc) (ls : Array Slot) (x4 : Int32), va_P D vwCl w H → va_S A s.heap H locs → lv_has ls 11 [(4, .int x4), (5, .int (nI h)), (0, .ref am), (1, .int (nI j)), (2, .int x2), (3, .int x3)] → W p l e (en_rm 9 (80, 900)) s m args below meth c H locs cells slots Q (F0 m 88 ls []) := by
  obtain ⟨hx, hb, hml, hts, hown, hK, hT, hL, hA, hRm⟩ := F
  obtain ⟨hlen, ⟨f16, f17, f29⟩, f0, f2, f7, f8, f9, f10, f13, f14, f12⟩ := hf
  obtain ⟨⟨gC, hC, hrC⟩, ⟨gW, hW, hrW⟩, ⟨gHc, hHc, -⟩, ⟨gS, hS9, hS8⟩, ⟨gO, hO9, -⟩, ⟨gP, hP9, hP8⟩, ⟨gIx, hIx, -⟩, ⟨gLo, hLo, -⟩, mcD, aD2, gD, hD19, hD20, hlaD⟩ := id hc
  intro d
  induction d with
  | zero =>
    intro h hi H locs ls x4 hP hS hl
    refine lv_iload hx hb dj_X7_post_88 (lv_at hl 1 rfl) ?_
    refine lv_aload_n hx hb dj_X7_post_90 rfl (lv_at hl 2 rfl) ?_
    refine va_get (D := D) (ci := 13) (v := .int (nI nh)) (C := RX7) (T := TX7) (N := 31) hx hb hts uwj_X7 hown hK hP 0 hm rfl 16 (by decide) (hts _ cwj1514) (fun _ h9 => h9) f16 dj_X7_post_91 ?_
    refine lv_icmp_ge (tgt := 144) hx hb dj_X7_post_94 (by decide) (fun _ => ?_) (fun c9 => absurd (nI_le (a := nh) (b := h) (by omega) (by omega)) c9)
    exact kk H locs ls x4 hP hS (lv_sub hl [0, 2, 3, 4, 5] rfl)
  | succ d ih =>
    intro h hi H locs ls x4 hP hS hl
    refine lv_iload hx hb dj_X7_post_88 (lv_at hl 1 rfl) ?_
    refine lv_aload_n hx hb dj_X7_post_90 rfl (lv_at hl 2 rfl) ?_
    refine va_get (D := D) (ci := 13) (v := .int (nI nh)) (C := RX7) (T := TX7) (N := 31) hx hb hts uwj_X7 hown hK hP 0 hm rfl 16 (by decide) (hts _ cwj1514) (fun _ h9 => h9) f16 dj_X7_post_91 ?_
    refine lv_icmp_ge (tgt := 144) hx hb dj_X7_post_94 (by decide) (fun c9 => absurd c9 (nI_ge (a := h) (b := nh) (by omega) (by omega))) (fun _ => ?_)
    refine lv_iload hx hb dj_X7_post_97 (lv_at hl 0 rfl) ?_
    refine lv_aload_n hx hb dj_X7_post_99 rfl (lv_at hl 2 rfl) ?_
    refine va_get (D := D) (ci := 13) (v := .ref aWr) (C := RX7) (T := TX7) (N := 31) hx hb hts uwj_X7 hown hK hP 0 hm rfl 7 (by decide) (hts _ cwj1505) (fun _ h9 => h9) f7 dj_X7_post_100 ?_
    refine lv_iload_n hx hb dj_X7_post_103 rfl (lv_at hl 3 rfl) ?_
    obtain ⟨rwa, qa, ga, ea, hra, -⟩ := hrW j hj
    refine va_aldqA hx hb hK hP pWr 5 hW ht5 (vp_in_nI hj (by decide)) dj_X7_post_104 ?_
    rw [nI_clamp (show j < 2 ^ 31 by omega), ea]
    refine lv_iload hx hb dj_X7_post_105 (lv_at hl 1 rfl) ?_
    refine va_iald hx hb hK hP qa 0 hra ht0 (vp_in_nI (show h < 9 by omega) (by decide)) dj_X7_post_107 ?_
    refine lv_topi (fun vb9 evb9 => ?_)
    refine lv_aload_n hx hb dj_X7_post_108 rfl (lv_at hl 2 rfl) ?_
    refine va_get (D := D) (ci := 13) (v := .ref aC) (C := RX7) (T := TX7) (N := 31) hx hb hts uwj_X7 hown hK hP 0 hm rfl 0 (by decide) (hts _ cwj1498) (fun _ h9 => h9) f0 dj_X7_post_109 ?_
    refine lv_iload hx hb dj_X7_post_112 (lv_at hl 1 rfl) ?_
    obtain ⟨rwd, qd, gd, ed, hrd, -⟩ := hrC h (by omega)
    refine va_aldqA hx hb hK hP 1 5 hC ht5 (vp_in_nI (show h < 9 by omega) (by decide)) dj_X7_post_114 ?_
    rw [nI_clamp (show h < 2 ^ 31 by omega), ed]
    refine lv_iconst (v := 0) hx hb dj_X7_post_115 (by decide) ?_
    refine va_iald hx hb hK hP qd 0 hrd ht0 (vp_in_nI (n := 0) (by decide) (by decide)) dj_X7_post_116 ?_
    refine lv_topi (fun ve eve => ?_)
    refine lv_iconst (v := 2) hx hb dj_X7_post_117 (by decide) ?_
    refine lv_iadd hx hb dj_X7_post_118 ?_
    refine lv_topi (fun vf evf => ?_)
    refine lv_aload_n hx hb dj_X7_post_119 rfl (lv_at hl 2 rfl) ?_
    refine lv_aload_n hx hb dj_X7_post_120 rfl (lv_at hl 2 rfl) ?_
    refine va_get (D := D) (ci := 13) (v := .ref aHc) (C := RX7) (T := TX7) (N := 31) hx hb hts uwj_X7 hown hK hP 0 hm rfl 2 (by decide) (hts _ cwj1500) (fun _ h9 => h9) f2 dj_X7_post_121 ?_
    refine lv_iload_n hx hb dj_X7_post_124 rfl (lv_at hl 3 rfl) ?_
    refine va_iald hx hb hK hP pHc 0 hHc ht0 (vp_in_nI hj (by decide)) dj_X7_post_125 ?_
    refine lv_topi (fun vc evc => ?_)
    refine lv_iload hx hb dj_X7_post_126 (lv_at hl 1 rfl) ?_
    refine li_cV (As := [.int vc, .int (nI h)]) (rest := [.int vf, .int vb9, .int x4]) (li_X7_strokesFor l D tys w _ e0 ca ad (⟨hD.1, fun j z hz => Or.inl ⟨j, z.2, hz⟩⟩ : va_D (va_A w H.size) w) am fs nh aC cR cI gC h vc hm f16 f0 hC (fun i hi => by obtain ⟨a, b, c, d, e, -⟩ := hrC i hi; exact ⟨a, b, c, d, e⟩) ht5 ht0 hn1 hn9 (by omega)) gj_X7_138 (va_recv hK hP (ci := 13) (q0 := 0) rfl hm) rfl ⟨Nat.le_of_ble_eq_true rfl, Nat.le_of_ble_eq_true rfl⟩ ⟨by show _ ≤ 80; omega, by show _ ≤ 900; omega⟩ (Nat.le_of_ble_eq_true rfl) hx hb (hml.trans hl.1.symm) hts hown hK hT hL hP hD hS hA dj_X7_post_128 (fun res w9 H locs hrv hqq hP hD hS => ?_)
    have ew := Eq.symm hqq
    subst ew
    obtain ⟨rs9, rfl⟩ := hrv
    refine lv_iadd hx hb dj_X7_post_131 ?_
    refine lv_topi (fun vg evg => ?_)
    refine va_mmin hx hb (by rw [hml]; exact hl.1.symm) hown (hts _ cwj1918) (hts _ cwj420) (hts _ cwj87) (hts _ cwj421) (Nat.le_of_ble_eq_true rfl) (Nat.le_of_ble_eq_true rfl) (by show _ ≤ 80; omega) (by show _ ≤ 900; omega) dj_X7_post_132 ?_
    refine lv_topi (fun vm evm => ?_)
    refine lv_iadd hx hb dj_X7_post_135 ?_
    refine lv_topi (fun vn evn => ?_)
    refine lv_istore (lv' := [(4, .int vn), (5, .int (nI h)), (0, .ref am), (1, .int (nI j)), (2, .int x2), (3, .int x3)]) hx hb dj_X7_post_136 hl (by decide) rfl (fun ls hl => ?_)
    refine lv_iinc (v := nI (h + 1)) (lv' := [(5, .int (nI (h + 1))), (4, .int vn), (0, .ref am), (1, .int (nI j)), (2, .int x2), (3, .int x3)]) hx hb dj_X7_post_138 hl (k := 1) rfl (nI_1 h) (by decide) rfl (fun ls hl => ?_)
    refine lv_goto (tgt := 88) hx hb dj_X7_post_141 (by decide) ?_
    exact ih (h + 1) (by omega) H locs ls _ hP hS (lv_sub hl [1, 0, 2, 3, 4, 5] rfl)
set_option maxHeartbeats 4000000 in
theorem po_set {p : Program} {l : Launch} {e : Env} {s : State} {m : MethodId} {args : Array Value} {below : List Frame} {meth : Method} {c : Code} {Q : State → Prop} {D : va_G} {tys : List (ClassId × FieldType)} {A : Nat → Prop} {e0 ca t9 cells slots : Nat} {ad : li_ad} {cL : ClassId} {cI cZ cR : ClassId} {nh : Nat} {xp x29 : Int32} {aC aHc aWr aS aO aP aIx aLo aD am : Nat} {fs : List Value} (F : mo_F p (en_rm 9 (80, 900)) s m args c cX7_post 11 D tys A e0 ca ad) (ht0 : tys[0]? = some (cI, .int)) (ht2 : tys[2]? = some (cZ, .boolean)) (ht5 : tys[5]? = some (cR, .array .int)) (ht9 : tys[t9]? = some (cL, .object "java/lang/Object")) (hf : po_fs fs nh xp x29 aC aHc aWr aS aO aP aIx aLo aD) {ws : va_W} {q qb la1 mm j : Nat} {x5 x7 x8 : Int32} (hmm : mm ≤ 20) (hkd : ∀ z, ws.length ≤ z → ad.2 z) (hcs : cells + mm ≤ 80 ∧ slots + mm ≤ 900)
    (kk : ∀ (w : va_W) (H : Heap) (locs : List Loc) (ls : Array Slot), li_R ws w [q, qb] → li_L w q qb la1 e0 cL ad mm → va_P D vwCl w H → va_D A w → va_S A s.heap H locs → lv_has ls 11 [(0, .ref am), (1, .int (nI j)), (5, .int x5), (6, .ref la1), (7, .int x7), (8, .int x8)] → W p l e (en_rm 9 (80, 900)) s m args below meth c H locs (cells + mm) (slots + mm) Q (F0 m 326 ls [])) :
    ∀ (d k : Nat), k + d = mm → ∀ (w : va_W) (H : Heap) (locs : List Loc) (ls : Array Slot), li_R ws w [q, qb] → li_L w q qb la1 e0 cL ad mm → va_P D vwCl w H → va_D A w → va_S A s.heap H locs → lv_has ls 11 [(9, .int (nI k)), (0, .ref am), (1, .int (nI j)), (5, .int x5), (6, .ref la1), (7, .int x7), (8, .int x8)] → W p l e (en_rm 9 (80, 900)) s m args below meth c H locs (cells + k) (slots + k) Q (F0 m 276 ls []) := by
  obtain ⟨hx, hb, hml, hts, hown, hK, hT, hL, hA, hRm⟩ := F
  intro d
  induction d with
  | zero =>
    intro k hi w H locs ls hR0 hw hP hD hS hl
    refine lv_iload hx hb dj_X7_post_276 (lv_at hl 0 rfl) ?_
    refine lv_aload hx hb dj_X7_post_278 (lv_at hl 4 rfl) ?_
    refine li_cV (As := []) (rest := [.int (nI k)]) (lk_size (⟨hD.1, fun j z hz => Or.inl ⟨j, z.2, hz⟩⟩ : va_D (va_A w H.size) w) hw) gj_X7_297 (lk_rv hw hK hP) rfl ⟨Nat.le_of_ble_eq_true rfl, Nat.le_of_ble_eq_true rfl⟩ ⟨by show _ ≤ 80; omega, by show _ ≤ 900; omega⟩ (Nat.le_of_ble_eq_true rfl) hx hb (hml.trans hl.1.symm) hts hown hK hT hL hP hD hS hA dj_X7_post_280 (fun res w9 H locs hrv hqq hP hD hS => ?_)
    obtain ⟨er, ew⟩ := hqq
    have ew := Eq.symm ew
    subst er
    subst ew
    have e9 : k = mm := by omega
    subst e9
    refine lv_icmp_ge (tgt := 326) hx hb dj_X7_post_283 (by decide) (fun _ => ?_) (fun c9 => absurd (nI_le (a := k) (b := k) (by omega) (by omega)) c9)
    exact kk w H locs ls hR0 hw hP hD hS (lv_sub hl [1, 2, 3, 4, 5, 6] rfl)
  | succ d ih =>
    intro k hi w H locs ls hR0 hw hP hD hS hl
    refine lv_iload hx hb dj_X7_post_276 (lv_at hl 0 rfl) ?_
    refine lv_aload hx hb dj_X7_post_278 (lv_at hl 4 rfl) ?_
    refine li_cV (As := []) (rest := [.int (nI k)]) (lk_size (⟨hD.1, fun j z hz => Or.inl ⟨j, z.2, hz⟩⟩ : va_D (va_A w H.size) w) hw) gj_X7_297 (lk_rv hw hK hP) rfl ⟨Nat.le_of_ble_eq_true rfl, Nat.le_of_ble_eq_true rfl⟩ ⟨by show _ ≤ 80; omega, by show _ ≤ 900; omega⟩ (Nat.le_of_ble_eq_true rfl) hx hb (hml.trans hl.1.symm) hts hown hK hT hL hP hD hS hA dj_X7_post_280 (fun res w9 H locs hrv hqq hP hD hS => ?_)
    obtain ⟨er, ew⟩ := hqq
    have ew := Eq.symm ew
    subst er
    subst ew
    refine lv_icmp_ge (tgt := 326) hx hb dj_X7_post_283 (by decide) (fun c9 => absurd c9 (nI_ge (a := k) (b := mm) (by omega) (by omega))) (fun _ => ?_)
    refine lv_aload hx hb dj_X7_post_286 (lv_at hl 4 rfl) ?_
    refine lv_iload hx hb dj_X7_post_288 (lv_at hl 0 rfl) ?_
    refine lv_aload hx hb dj_X7_post_290 (lv_at hl 4 rfl) ?_
    refine lv_iload hx hb dj_X7_post_292 (lv_at hl 0 rfl) ?_
    refine li_cV (As := [.int (nI k)]) (rest := [.int (nI k), .ref la1]) (lk_get (⟨hD.1, fun j z hz => Or.inl ⟨j, z.2, hz⟩⟩ : va_D (va_A w H.size) w) ht9 hw (i := k) (by omega)) gj_X7_300 (lk_rv hw hK hP) rfl ⟨Nat.le_of_ble_eq_true rfl, Nat.le_of_ble_eq_true rfl⟩ ⟨by show _ ≤ 80; omega, by show _ ≤ 900; omega⟩ (Nat.le_of_ble_eq_true rfl) hx hb (hml.trans hl.1.symm) hts hown hK hT hL hP hD hS hA dj_X7_post_294 (fun res w9 H locs hrv hqq hP hD hS => ?_)
    obtain ⟨y, er, hy, ew⟩ := hqq
    have ew := Eq.symm ew
    subst er
    subst ew
    refine va_castS hx hb hown (hts _ cwj2003) (hK.1 2 _ rfl).2 (li_xr (hy) hK hL hP hS) dj_X7_post_297 ?_
    refine li_cV (As := []) (rest := [.int (nI k), .ref la1]) (lk_intValue (⟨hD.1, fun j z hz => Or.inl ⟨j, z.2, hz⟩⟩ : va_D (va_A w H.size) w) (hy)) gj_X7_294 (li_xr (hy) hK hL hP hS) rfl ⟨Nat.le_of_ble_eq_true rfl, Nat.le_of_ble_eq_true rfl⟩ ⟨by show _ ≤ 80; omega, by show _ ≤ 900; omega⟩ (Nat.le_of_ble_eq_true rfl) hx hb (hml.trans hl.1.symm) hts hown hK hT hL hP hD hS hA dj_X7_post_300 (fun res w9 H locs hrv hqq hP hD hS => ?_)
    obtain ⟨rv1, rfl⟩ := hrv
    have ew := Eq.symm hqq
    subst ew
    refine lv_iload hx hb dj_X7_post_303 (lv_at hl 6 rfl) ?_
    refine lv_isub hx hb dj_X7_post_305 ?_
    refine lv_topi (fun vf evf => ?_)
    refine li_cS (As := [.int vf]) (rest := [.int (nI k), .ref la1]) (li_J6_valueOf_2dffe l D tys w _ e0 ca ad (⟨hD.1, fun j z hz => Or.inl ⟨j, z.2, hz⟩⟩ : va_D (va_A w H.size) w) vf (hkd _ hR0.1)) gj_X7_304 rfl ⟨Nat.le_of_ble_eq_true rfl, Nat.le_of_ble_eq_true rfl⟩ ⟨by show _ ≤ 80; omega, by show _ ≤ 900; omega⟩ (Nat.le_of_ble_eq_true rfl) hx hb (hml.trans hl.1.symm) hts hown hK hT hL hP hD hS hA dj_X7_post_306 (fun res w10 H locs hrv hqq hP hD hS => ?_)
    obtain ⟨y2, er, hyy, hlen3, hR4⟩ := hqq
    subst er
    have hw3 := hw.st hR4 (by simp) (by simp) (by simp)
    refine li_cV (As := [.int (nI k), .ref y2]) (rest := []) (lk_set (⟨hD.1, fun j z hz => Or.inl ⟨j, z.2, hz⟩⟩ : va_D (va_A w10 H.size) w10) ht9 hw3 (i := k) (by omega) hyy) gj_X7_323 (lk_rv hw3 hK hP) rfl ⟨Nat.le_of_ble_eq_true rfl, Nat.le_of_ble_eq_true rfl⟩ ⟨by show _ ≤ 80; omega, by show _ ≤ 900; omega⟩ (Nat.le_of_ble_eq_true rfl) hx hb (hml.trans hl.1.symm) hts hown hK hT hL hP hD hS hA dj_X7_post_309 (fun res w11 H locs hrv hqq hP hD hS => ?_)
    obtain ⟨y3, er, hy3, hw4, hR5, hlen4⟩ := hqq
    subst er
    refine va_castS hx hb hown (hts _ cwj2003) (hK.1 2 _ rfl).2 (li_xr (hy3) hK hL hP hS) dj_X7_post_312 ?_
    refine li_cV (As := []) (rest := []) (lk_intValue (⟨hD.1, fun j z hz => Or.inl ⟨j, z.2, hz⟩⟩ : va_D (va_A w11 H.size) w11) (hy3)) gj_X7_294 (li_xr (hy3) hK hL hP hS) rfl ⟨Nat.le_of_ble_eq_true rfl, Nat.le_of_ble_eq_true rfl⟩ ⟨by show _ ≤ 80; omega, by show _ ≤ 900; omega⟩ (Nat.le_of_ble_eq_true rfl) hx hb (hml.trans hl.1.symm) hts hown hK hT hL hP hD hS hA dj_X7_post_315 (fun res w9 H locs hrv hqq hP hD hS => ?_)
    obtain ⟨rv2, rfl⟩ := hrv
    have ew := Eq.symm hqq
    subst ew
    refine lv_istore (lv' := [(10, .int rv2), (9, .int (nI k)), (0, .ref am), (1, .int (nI j)), (5, .int x5), (6, .ref la1), (7, .int x7), (8, .int x8)]) hx hb dj_X7_post_318 hl (by decide) rfl (fun ls hl => ?_)
    refine lv_iinc (v := nI (k + 1)) (lv' := [(9, .int (nI (k + 1))), (10, .int rv2), (0, .ref am), (1, .int (nI j)), (5, .int x5), (6, .ref la1), (7, .int x7), (8, .int x8)]) hx hb dj_X7_post_320 hl (k := 1) rfl (nI_1 k) (by decide) rfl (fun ls hl => ?_)
    refine lv_goto (tgt := 276) hx hb dj_X7_post_323 (by decide) ?_
    refine W.widen (k := cells + (k + 1)) (n := slots + (k + 1)) (by omega) (by omega) ?_
    exact ih (k + 1) (by omega) w11 H locs ls ((hR0.tr (hR4.mono (by simp))).tr hR5) hw4 hP hD hS (lv_sub hl [0, 2, 3, 4, 5, 6, 7] rfl)
set_option maxHeartbeats 4000000 in
theorem po_end2 {p : Program} {l : Launch} {e : Env} {s : State} {m : MethodId} {args : Array Value} {below : List Frame} {meth : Method} {c : Code} {Q : State → Prop} {D : va_G} {tys : List (ClassId × FieldType)} {A : Nat → Prop} {e0 ca t9 cells slots : Nat} {ad : li_ad} {cL : ClassId} {L : Nat} {B : List Nat} {cI cZ cR : ClassId} {nh : Nat} {xp x29 : Int32} {aC aHc aWr aS aO aP aIx aLo aD pHc pWr pS pO pP pIx pLo am : Nat} {la : Nat → Nat} {fs : List Value} (F : mo_F p (en_rm 9 (80, 900)) s m args c cX7_post 11 D tys A e0 ca ad) (ht0 : tys[0]? = some (cI, .int)) (ht2 : tys[2]? = some (cZ, .boolean)) (ht5 : tys[5]? = some (cR, .array .int)) (ht9 : tys[t9]? = some (cL, .object "java/lang/Object")) (hf : po_fs fs nh xp x29 aC aHc aWr aS aO aP aIx aLo aD) {w : va_W} {j : Nat} {x5 x7 x9 : Int32} (hm : w[0]? = some (am, .inr (13, fs))) (hc : po_c w L B cL cI cZ cR nh aC aHc aWr aS aO aP aIx aLo aD pHc pWr pS pO pP pIx pLo la) (hB : po_B L B pHc pWr pS pO) (hBB : ∀ z ∈ [0, pIx, pLo, pP], z ∈ B) (hd1 : pIx ≠ pLo ∧ pIx ≠ pP ∧ pLo ≠ pP ∧ pIx ≠ 0 ∧ pLo ≠ 0 ∧ pP ≠ 0) (hj : j < 6) (hcs : cells ≤ 80 ∧ slots ≤ 900) {w0 : va_W} (hR0 : li_R w0 w [pIx, pLo, pP]) {x : Int32} {H : Heap} {locs : List Loc} {ls : Array Slot} (hP : va_P D vwCl w H) (hD : va_D A w) (hS : va_S A s.heap H locs) (hl : lv_has ls 11 [(0, .ref am), (1, .int (nI j)), (5, .int x5), (7, .int x7), (9, .int x9)])
    (kk : ∀ (w1 : va_W) (H : Heap) (locs : List Loc) (ls : Array Slot), li_R w0 w1 [pIx, pLo, pP] → w1[0]? = some (am, .inr (13, fs)) → po_c w1 L B cL cI cZ cR nh aC aHc aWr aS aO aP aIx aLo aD pHc pWr pS pO pP pIx pLo la → va_P D vwCl w1 H → va_D A w1 → va_S A s.heap H locs → ls.size = 11 → W p l e (en_rm 9 (80, 900)) s m args below meth c H locs cells slots Q (F0 m 433 ls [.int x5])) :
    W p l e (en_rm 9 (80, 900)) s m args below meth c H locs cells slots Q (F0 m 423 ls [.int x, .int (nI j), .ref aLo]) := by
  obtain ⟨hx, hb, hml, hts, hown, hK, hT, hL, hA, hRm⟩ := F
  obtain ⟨hlen, ⟨f16, f17, f29⟩, f0, f2, f7, f8, f9, f10, f13, f14, f12⟩ := hf
  obtain ⟨⟨gC, hC, hrC⟩, ⟨gW, hW, hrW⟩, ⟨gHc, hHc, -⟩, ⟨gS, hS9, hS8⟩, ⟨gO, hO9, -⟩, ⟨gP, hP9, hP8⟩, ⟨gIx, hIx, -⟩, ⟨gLo, hLo, -⟩, mcD, aD2, gD, hD19, hD20, hlaD⟩ := id hc
  have hbn : ∀ p, po_ok L B p → p ∉ [pIx, pLo, pP] := fun p h hm9 => h.2 (hBB p (by simp only [List.mem_cons, List.not_mem_nil, or_false] at hm9 ⊢; omega))
  refine va_iast hx hb hK hP hD hS pLo 0 hLo ht0 (vp_in_nI hj (by decide)) dj_X7_post_423 (fun H locs hP hD hS => ?_)
  rw [nI_clamp (show j < 2 ^ 31 by omega)] at hP hD
  obtain ⟨w51, ew51, g51, gl51, gn51⟩ := li_set hLo (.inl (cI, 6, .inl (va_up gLo j x)))
  have hP : va_P D vwCl w51 H := by rw [ew51]; exact hP
  have hD : va_D A w51 := by rw [ew51]; exact hD
  have hm1 : w51[0]? = some (am, .inr (13, fs)) := (gn51 0 (Ne.symm hd1.2.2.2.2.1)).trans hm
  have hP91 := (gn51 pP (Ne.symm hd1.2.2.1)).trans hP9
  refine lv_aload_n hx hb dj_X7_post_424 rfl (lv_at hl 0 rfl) ?_
  refine va_get (D := D) (ci := 13) (v := .ref aP) (C := RX7) (T := TX7) (N := 31) hx hb hts uwj_X7 hown hK hP 0 hm1 rfl 10 (by decide) (hts _ cwj1508) (fun _ h9 => h9) f10 dj_X7_post_425 ?_
  refine lv_iload_n hx hb dj_X7_post_428 rfl (lv_at hl 1 rfl) ?_
  refine lv_iconst (v := 1) hx hb dj_X7_post_429 (by decide) ?_
  refine va_zast hx hb hK hP hD hS pP 2 hP91 ht2 (vp_in_nI hj (by decide)) dj_X7_post_430 (fun H locs hP hD hS => ?_)
  rw [nI_clamp (show j < 2 ^ 31 by omega)] at hP hD
  obtain ⟨w52, ew52, g52, gl52, gn52⟩ := li_set hP91 (.inl (cZ, 6, .inl (va_up gP j 1)))
  have hP : va_P D vwCl w52 H := by rw [ew52]; exact hP
  have hD : va_D A w52 := by rw [ew52]; exact hD
  refine lv_iload hx hb dj_X7_post_431 (lv_at hl 2 rfl) ?_
  have hR1 : li_R w w52 [pIx, pLo, pP] := (li_R.st hLo (by simp) g51 gl51 gn51 ⟨rfl, rfl⟩).tr (li_R.st hP91 (by simp) g52 gl52 gn52 ⟨rfl, rfl⟩)
  refine kk w52 H locs ls (hR0.tr hR1) ((gn52 0 (Ne.symm hd1.2.2.2.2.2)).trans hm1) ?_ hP hD hS hl.1
  obtain ⟨c1, c2, c3, c4, c5, -, -, -, mc, aD2, gD, d1, d2, d3⟩ := hc
  exact ⟨c1.st hR1 hbn (hB 1 (by simp)), c2.st hR1 hbn (hB pWr (by simp)), c3.st hR1 (hbn _ (hB pHc (by simp))), c4.st hR1 (hbn _ (hB pS (by simp))), c5.st hR1 (hbn _ (hB pO (by simp))), ⟨_, g52, fun i hi => by by_cases e9 : i = j; subst e9; rw [va_up_self]; exact ⟨by decide, by decide⟩; rw [va_up_ne _ _ e9]; exact hP8 i hi⟩, ⟨gIx, (gn52 pIx hd1.2.1).trans ((gn51 pIx hd1.1).trans hIx), trivial⟩, ⟨_, (gn52 pLo hd1.2.2.1).trans g51, trivial⟩, mc, aD2, gD, hR1.at d1 (hbn _ (hB 19 (by simp))), hR1.at d2 (hbn _ (hB 20 (by simp))), d3⟩
set_option maxHeartbeats 4000000 in
theorem po_end {p : Program} {l : Launch} {e : Env} {s : State} {m : MethodId} {args : Array Value} {below : List Frame} {meth : Method} {c : Code} {Q : State → Prop} {D : va_G} {tys : List (ClassId × FieldType)} {A : Nat → Prop} {e0 ca t9 cells slots : Nat} {ad : li_ad} {cL : ClassId} {L : Nat} {B : List Nat} {cI cZ cR : ClassId} {nh : Nat} {xp x29 : Int32} {aC aHc aWr aS aO aP aIx aLo aD pHc pWr pS pO pP pIx pLo am : Nat} {la : Nat → Nat} {fs : List Value} (F : mo_F p (en_rm 9 (80, 900)) s m args c cX7_post 11 D tys A e0 ca ad) (ht0 : tys[0]? = some (cI, .int)) (ht2 : tys[2]? = some (cZ, .boolean)) (ht5 : tys[5]? = some (cR, .array .int)) (ht9 : tys[t9]? = some (cL, .object "java/lang/Object")) (hf : po_fs fs nh xp x29 aC aHc aWr aS aO aP aIx aLo aD) {w : va_W} {j : Nat} {x5 x7 x9 : Int32} (hm : w[0]? = some (am, .inr (13, fs))) (hc : po_c w L B cL cI cZ cR nh aC aHc aWr aS aO aP aIx aLo aD pHc pWr pS pO pP pIx pLo la) (hB : po_B L B pHc pWr pS pO) (hBB : ∀ z ∈ [0, pIx, pLo, pP], z ∈ B) (hd1 : pIx ≠ pLo ∧ pIx ≠ pP ∧ pLo ≠ pP ∧ pIx ≠ 0 ∧ pLo ≠ 0 ∧ pP ≠ 0) (hj : j < 6) (hcs : cells ≤ 80 ∧ slots ≤ 900) {H : Heap} {locs : List Loc} {ls : Array Slot} (hP : va_P D vwCl w H) (hD : va_D A w) (hS : va_S A s.heap H locs) (hl : lv_has ls 11 [(0, .ref am), (1, .int (nI j)), (5, .int x5), (7, .int x7), (9, .int x9)])
    (kk : ∀ (w1 : va_W) (H : Heap) (locs : List Loc) (ls : Array Slot), li_R w w1 [pIx, pLo, pP] → w1[0]? = some (am, .inr (13, fs)) → po_c w1 L B cL cI cZ cR nh aC aHc aWr aS aO aP aIx aLo aD pHc pWr pS pO pP pIx pLo la → va_P D vwCl w1 H → va_D A w1 → va_S A s.heap H locs → ls.size = 11 → W p l e (en_rm 9 (80, 900)) s m args below meth c H locs cells slots Q (F0 m 433 ls [.int x5])) :
    W p l e (en_rm 9 (80, 900)) s m args below meth c H locs cells slots Q (F0 m 389 ls []) := by
  have F9 := F
  have hf9 := hf
  obtain ⟨hx, hb, hml, hts, hown, hK, hT, hL, hA, hRm⟩ := F
  obtain ⟨hlen, ⟨f16, f17, f29⟩, f0, f2, f7, f8, f9, f10, f13, f14, f12⟩ := hf
  obtain ⟨⟨gC, hC, hrC⟩, ⟨gW, hW, hrW⟩, ⟨gHc, hHc, -⟩, ⟨gS, hS9, hS8⟩, ⟨gO, hO9, -⟩, ⟨gP, hP9, hP8⟩, ⟨gIx, hIx, -⟩, ⟨gLo, hLo, -⟩, mcD, aD2, gD, hD19, hD20, hlaD⟩ := id hc
  have hbn : ∀ p, po_ok L B p → p ∉ [pIx, pLo, pP] := fun p h hm9 => h.2 (hBB p (by simp only [List.mem_cons, List.not_mem_nil, or_false] at hm9 ⊢; omega))
  refine lv_aload_n hx hb dj_X7_post_389 rfl (lv_at hl 0 rfl) ?_
  refine va_get (D := D) (ci := 13) (v := .ref aIx) (C := RX7) (T := TX7) (N := 31) hx hb hts uwj_X7 hown hK hP 0 hm rfl 13 (by decide) (hts _ cwj1511) (fun _ h9 => h9) f13 dj_X7_post_390 ?_
  refine lv_iload_n hx hb dj_X7_post_393 rfl (lv_at hl 1 rfl) ?_
  refine lv_iload hx hb dj_X7_post_394 (lv_at hl 4 rfl) ?_
  refine va_iast hx hb hK hP hD hS pIx 0 hIx ht0 (vp_in_nI hj (by decide)) dj_X7_post_396 (fun H locs hP hD hS => ?_)
  rw [nI_clamp (show j < 2 ^ 31 by omega)] at hP hD
  obtain ⟨w50, ew50, g50, gl50, gn50⟩ := li_set hIx (.inl (cI, 6, .inl (va_up gIx j x9)))
  have hP : va_P D vwCl w50 H := by rw [ew50]; exact hP
  have hD : va_D A w50 := by rw [ew50]; exact hD
  have hm0 : w50[0]? = some (am, .inr (13, fs)) := (gn50 0 (Ne.symm hd1.2.2.2.1)).trans hm
  have hLo1 := (gn50 pLo (Ne.symm hd1.1)).trans hLo
  have hR1 : li_R w w50 [pIx, pLo, pP] := li_R.st hIx (by simp) g50 gl50 gn50 ⟨rfl, rfl⟩
  have hc1 : po_c w50 L B cL cI cZ cR nh aC aHc aWr aS aO aP aIx aLo aD pHc pWr pS pO pP pIx pLo la := by obtain ⟨c1, c2, c3, c4, c5, -, -, -, mc, aD2, gD, d1, d2, d3⟩ := hc; exact ⟨c1.st hR1 hbn (hB 1 (by simp)), c2.st hR1 hbn (hB pWr (by simp)), c3.st hR1 (hbn _ (hB pHc (by simp))), c4.st hR1 (hbn _ (hB pS (by simp))), c5.st hR1 (hbn _ (hB pO (by simp))), ⟨gP, (gn50 pP (Ne.symm hd1.2.1)).trans hP9, hP8⟩, ⟨_, g50, trivial⟩, ⟨gLo, hLo1, trivial⟩, mc, aD2, gD, hR1.at d1 (hbn _ (hB 19 (by simp))), hR1.at d2 (hbn _ (hB 20 (by simp))), d3⟩
  refine lv_aload_n hx hb dj_X7_post_397 rfl (lv_at hl 0 rfl) ?_
  refine va_get (D := D) (ci := 13) (v := .ref aLo) (C := RX7) (T := TX7) (N := 31) hx hb hts uwj_X7 hown hK hP 0 hm0 rfl 14 (by decide) (hts _ cwj1512) (fun _ h9 => h9) f14 dj_X7_post_398 ?_
  refine lv_iload_n hx hb dj_X7_post_401 rfl (lv_at hl 1 rfl) ?_
  refine lv_iload hx hb dj_X7_post_402 (lv_at hl 3 rfl) ?_
  refine lv_if_eq (tgt := 412) hx hb dj_X7_post_404 (by decide) (fun c9 => ?_) (fun c9 => ?_)
  · skip
    refine lv_aload_n hx hb dj_X7_post_412 rfl (lv_at hl 0 rfl) ?_
    refine va_get (D := D) (ci := 13) (v := .ref aLo) (C := RX7) (T := TX7) (N := 31) hx hb hts uwj_X7 hown hK hP 0 hm0 rfl 14 (by decide) (hts _ cwj1512) (fun _ h9 => h9) f14 dj_X7_post_413 ?_
    refine lv_iload_n hx hb dj_X7_post_416 rfl (lv_at hl 1 rfl) ?_
    refine va_iald hx hb hK hP pLo 0 hLo1 ht0 (vp_in_nI hj (by decide)) dj_X7_post_417 ?_
    refine lv_topi (fun vl evl => ?_)
    refine lv_iload hx hb dj_X7_post_418 (lv_at hl 4 rfl) ?_
    refine va_mmin hx hb (by rw [hml]; exact hl.1.symm) hown (hts _ cwj1918) (hts _ cwj420) (hts _ cwj87) (hts _ cwj421) (Nat.le_of_ble_eq_true rfl) (Nat.le_of_ble_eq_true rfl) (by show _ ≤ 80; omega) (by show _ ≤ 900; omega) dj_X7_post_420 ?_
    refine lv_topi (fun vm evm => ?_)
    exact po_end2 F9 ht0 ht2 ht5 ht9 hf9 hm0 hc1 hB hBB hd1 hj hcs hR1 hP hD hS (lv_sub hl [0, 1, 2, 3, 4] rfl) kk
  · skip
    refine lv_iload hx hb dj_X7_post_407 (lv_at hl 4 rfl) ?_
    refine lv_goto (tgt := 423) hx hb dj_X7_post_409 (by decide) ?_
    exact po_end2 F9 ht0 ht2 ht5 ht9 hf9 hm0 hc1 hB hBB hd1 hj hcs hR1 hP hD hS (lv_sub hl [0, 1, 2, 3, 4] rfl) kk
