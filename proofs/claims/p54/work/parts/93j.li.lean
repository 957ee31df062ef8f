set_option maxHeartbeats 4000000 in
theorem po_mid {p : Program} {l : Launch} {e : Env} {s : State} {m : MethodId} {args : Array Value} {below : List Frame} {meth : Method} {c : Code} {Q : State → Prop} {D : va_G} {tys : List (ClassId × FieldType)} {A : Nat → Prop} {e0 ca t9 cells slots : Nat} {ad : li_ad} {cL : ClassId} {L : Nat} {B : List Nat} {cI cZ cR : ClassId} {nh : Nat} {xp x29 : Int32} {aC aHc aWr aS aO aP aIx aLo aD pHc pWr pS pO pP pIx pLo am : Nat} {la : Nat → Nat} {fs : List Value} (F : mo_F p (en_rm 9 (80, 900)) s m args c cX7_post 11 D tys A e0 ca ad) (ht0 : tys[0]? = some (cI, .int)) (ht2 : tys[2]? = some (cZ, .boolean)) (ht5 : tys[5]? = some (cR, .array .int)) (ht9 : tys[t9]? = some (cL, .object "java/lang/Object")) (hf : po_fs fs nh xp x29 aC aHc aWr aS aO aP aIx aLo aD) {w : va_W} {q qb la1 mm j : Nat} {x5 x7 x8 : Int32} (hm : w[0]? = some (am, .inr (13, fs))) (hc : po_c w L B cL cI cZ cR nh aC aHc aWr aS aO aP aIx aLo aD pHc pWr pS pO pP pIx pLo la) (hB : po_B L B pHc pWr pS pO) (hBB : ∀ z ∈ [0, pIx, pLo, pP], z ∈ B) (hd1 : pIx ≠ pLo ∧ pIx ≠ pP ∧ pLo ≠ pP ∧ pIx ≠ 0 ∧ pLo ≠ 0 ∧ pP ≠ 0) (hj : j < 6) (hw : li_L w q qb la1 e0 cL ad mm) (hm1 : 1 ≤ mm) (hm2 : mm ≤ 20) (hkd : ∀ z, w.length ≤ z → ad.2 z) (hcs : cells + 50 ≤ 80 ∧ slots + 500 ≤ 900) {H : Heap} {locs : List Loc} {ls : Array Slot} (hP : va_P D vwCl w H) (hD : va_D A w) (hS : va_S A s.heap H locs) (hl : lv_has ls 11 [(0, .ref am), (1, .int (nI j)), (5, .int x5), (6, .ref la1), (7, .int x7), (8, .int x8)])
    (kk : ∀ (w1 : va_W) (H : Heap) (locs : List Loc) (ls : Array Slot), li_R w w1 [pIx, pLo, pP] → w1[0]? = some (am, .inr (13, fs)) → po_c w1 L B cL cI cZ cR nh aC aHc aWr aS aO aP aIx aLo aD pHc pWr pS pO pP pIx pLo la → va_P D vwCl w1 H → va_D A w1 → va_S A s.heap H locs → ls.size = 11 → W p l e (en_rm 9 (80, 900)) s m args below meth c H locs (cells + 50) (slots + 500) Q (F0 m 433 ls [.int x5])) :
    W p l e (en_rm 9 (80, 900)) s m args below meth c H locs cells slots Q (F0 m 326 ls []) := by
  have F9 := F
  have hf9 := hf
  obtain ⟨hx, hb, hml, hts, hown, hK, hT, hL, hA, hRm⟩ := F
  obtain ⟨hlen, ⟨f16, f17, f29⟩, f0, f2, f7, f8, f9, f10, f13, f14, f12⟩ := hf
  refine lv_aload hx hb dj_X7_post_326 (lv_at hl 3 rfl) ?_
  refine li_cS (As := [.ref la1]) (rest := []) (li_X7_meanOf l D tys w _ e0 ca ad (⟨hD.1, fun j z hz => Or.inl ⟨j, z.2, hz⟩⟩ : va_D (va_A w H.size) w) q qb la1 mm cL t9 hw ht9 hm1 hm2 hkd) gj_X7_327 rfl ⟨Nat.le_of_ble_eq_true rfl, Nat.le_of_ble_eq_true rfl⟩ ⟨by show _ ≤ 80; omega, by show _ ≤ 900; omega⟩ (Nat.le_of_ble_eq_true rfl) hx hb (hml.trans hl.1.symm) hts hown hK hT hL hP hD hS hA dj_X7_post_328 (fun res w9 H locs hrv hqq hP hD hS => ?_)
  have hR1 : li_R w w9 [] := hqq
  obtain ⟨r9, rfl⟩ := hrv
  have hmA := hR1.at hm (by simp)
  have hcA := hc.st hB hR1 (by simp) (by simp)
  refine lv_istore (lv' := [(9, .int r9), (0, .ref am), (1, .int (nI j)), (5, .int x5), (6, .ref la1), (7, .int x7), (8, .int x8)]) hx hb dj_X7_post_331 hl (by decide) rfl (fun ls hl => ?_)
  refine lv_iload hx hb dj_X7_post_333 (lv_at hl 5 rfl) ?_
  obtain ⟨⟨gC, hC, hrC⟩, ⟨gW, hW, hrW⟩, ⟨gHc, hHc, -⟩, ⟨gS, hS9, hS8⟩, ⟨gO, hO9, -⟩, ⟨gP, hP9, hP8⟩, ⟨gIx, hIx, -⟩, ⟨gLo, hLo, -⟩, mcD, aD2, gD, hD19, hD20, hlaD⟩ := id hcA
  refine lv_if_ne (tgt := 389) hx hb dj_X7_post_335 (by decide) (fun c9 => ?_) (fun c9 => ?_)
  · skip
    exact po_end (cells := cells + 50) (slots := slots + 500) F9 ht0 ht2 ht5 ht9 hf9 hmA hcA hB hBB hd1 hj ⟨by omega, by omega⟩ hP hD hS (lv_sub hl [1, 2, 3, 5, 0] rfl) (fun w1 H locs ls hR2 hm2 hc2 hP hD hS hl2 => kk w1 H locs ls ((hR1.mono (by simp)).tr hR2) hm2 hc2 hP hD hS hl2)
  · skip
    refine lv_aload_n hx hb dj_X7_post_338 rfl (lv_at hl 1 rfl) ?_
    refine va_get (D := D) (ci := 13) (v := .ref aLo) (C := RX7) (T := TX7) (N := 31) hx hb hts uwj_X7 hown hK hP 0 hmA rfl 14 (by decide) (hts _ cwj1512) (fun _ h9 => h9) f14 dj_X7_post_339 ?_
    refine lv_iload_n hx hb dj_X7_post_342 rfl (lv_at hl 2 rfl) ?_
    refine va_iald hx hb hK hP pLo 0 hLo ht0 (vp_in_nI hj (by decide)) dj_X7_post_343 ?_
    refine lv_topi (fun vl1 evl1 => ?_)
    refine lv_bipush (v := 30) hx hb dj_X7_post_344 (by decide) ?_
    refine lv_iadd hx hb dj_X7_post_346 ?_
    refine lv_topi (fun vm1 evm1 => ?_)
    refine lv_istore (lv' := [(10, .int vm1), (9, .int r9), (0, .ref am), (1, .int (nI j)), (5, .int x5), (6, .ref la1), (7, .int x7), (8, .int x8)]) hx hb dj_X7_post_347 hl (by decide) rfl (fun ls hl => ?_)
    refine lv_iload hx hb dj_X7_post_349 (lv_at hl 1 rfl) ?_
    refine lv_iload hx hb dj_X7_post_351 (lv_at hl 0 rfl) ?_
    refine lv_icmp_le (tgt := 369) hx hb dj_X7_post_353 (by decide) (fun c9 => ?_) (fun c9 => ?_)
    · skip
      refine lv_iload hx hb dj_X7_post_369 (lv_at hl 1 rfl) ?_
      refine lv_istore (lv' := [(9, .int r9), (10, .int vm1), (0, .ref am), (1, .int (nI j)), (5, .int x5), (6, .ref la1), (7, .int x7), (8, .int x8)]) hx hb dj_X7_post_371 hl (by decide) rfl (fun ls hl => ?_)
      refine lv_iload hx hb dj_X7_post_373 (lv_at hl 0 rfl) ?_
      refine lv_aload_n hx hb dj_X7_post_375 rfl (lv_at hl 2 rfl) ?_
      refine va_get (D := D) (ci := 13) (v := .ref aLo) (C := RX7) (T := TX7) (N := 31) hx hb hts uwj_X7 hown hK hP 0 hmA rfl 14 (by decide) (hts _ cwj1512) (fun _ h9 => h9) f14 dj_X7_post_376 ?_
      refine lv_iload_n hx hb dj_X7_post_379 rfl (lv_at hl 3 rfl) ?_
      refine va_iald hx hb hK hP pLo 0 hLo ht0 (vp_in_nI hj (by decide)) dj_X7_post_380 ?_
      refine lv_topi (fun vl2 evl2 => ?_)
      refine lv_bipush (v := 50) hx hb dj_X7_post_381 (by decide) ?_
      refine lv_iadd hx hb dj_X7_post_383 ?_
      refine lv_topi (fun vm2 evm2 => ?_)
      refine va_mmin hx hb (by rw [hml]; exact hl.1.symm) hown (hts _ cwj1918) (hts _ cwj420) (hts _ cwj87) (hts _ cwj421) (Nat.le_of_ble_eq_true rfl) (Nat.le_of_ble_eq_true rfl) (by show _ ≤ 80; omega) (by show _ ≤ 900; omega) dj_X7_post_384 ?_
      refine lv_topi (fun vm3 evm3 => ?_)
      refine lv_istore (lv' := [(9, .int vm3), (10, .int vm1), (0, .ref am), (1, .int (nI j)), (5, .int x5), (6, .ref la1), (7, .int x7), (8, .int x8)]) hx hb dj_X7_post_387 hl (by decide) rfl (fun ls hl => ?_)
      exact po_end (cells := cells + 50) (slots := slots + 500) F9 ht0 ht2 ht5 ht9 hf9 hmA hcA hB hBB hd1 hj ⟨by omega, by omega⟩ hP hD hS (lv_sub hl [2, 3, 4, 6, 0] rfl) (fun w1 H locs ls hR2 hm2 hc2 hP hD hS hl2 => kk w1 H locs ls ((hR1.mono (by simp)).tr hR2) hm2 hc2 hP hD hS hl2)
    · skip
      refine lv_iload hx hb dj_X7_post_356 (lv_at hl 0 rfl) ?_
      refine lv_iload hx hb dj_X7_post_358 (lv_at hl 1 rfl) ?_
      refine lv_iload hx hb dj_X7_post_360 (lv_at hl 0 rfl) ?_
      refine lv_isub hx hb dj_X7_post_362 ?_
      refine lv_topi (fun vs1 evs1 => ?_)
      refine lv_iconst (v := 2) hx hb dj_X7_post_363 (by decide) ?_
      refine lv_idiv hx hb dj_X7_post_364 (by decide) ?_
      refine lv_topi (fun vs2 evs2 => ?_)
      refine lv_iadd hx hb dj_X7_post_365 ?_
      refine lv_topi (fun vs3 evs3 => ?_)
      refine lv_goto (tgt := 371) hx hb dj_X7_post_366 (by decide) ?_
      refine lv_istore (lv' := [(9, .int vs3), (10, .int vm1), (0, .ref am), (1, .int (nI j)), (5, .int x5), (6, .ref la1), (7, .int x7), (8, .int x8)]) hx hb dj_X7_post_371 hl (by decide) rfl (fun ls hl => ?_)
      refine lv_iload hx hb dj_X7_post_373 (lv_at hl 0 rfl) ?_
      refine lv_aload_n hx hb dj_X7_post_375 rfl (lv_at hl 2 rfl) ?_
      refine va_get (D := D) (ci := 13) (v := .ref aLo) (C := RX7) (T := TX7) (N := 31) hx hb hts uwj_X7 hown hK hP 0 hmA rfl 14 (by decide) (hts _ cwj1512) (fun _ h9 => h9) f14 dj_X7_post_376 ?_
      refine lv_iload_n hx hb dj_X7_post_379 rfl (lv_at hl 3 rfl) ?_
      refine va_iald hx hb hK hP pLo 0 hLo ht0 (vp_in_nI hj (by decide)) dj_X7_post_380 ?_
      refine lv_topi (fun vl2 evl2 => ?_)
      refine lv_bipush (v := 50) hx hb dj_X7_post_381 (by decide) ?_
      refine lv_iadd hx hb dj_X7_post_383 ?_
      refine lv_topi (fun vm2 evm2 => ?_)
      refine va_mmin hx hb (by rw [hml]; exact hl.1.symm) hown (hts _ cwj1918) (hts _ cwj420) (hts _ cwj87) (hts _ cwj421) (Nat.le_of_ble_eq_true rfl) (Nat.le_of_ble_eq_true rfl) (by show _ ≤ 80; omega) (by show _ ≤ 900; omega) dj_X7_post_384 ?_
      refine lv_topi (fun vm3 evm3 => ?_)
      refine lv_istore (lv' := [(9, .int vm3), (10, .int vm1), (0, .ref am), (1, .int (nI j)), (5, .int x5), (6, .ref la1), (7, .int x7), (8, .int x8)]) hx hb dj_X7_post_387 hl (by decide) rfl (fun ls hl => ?_)
      exact po_end (cells := cells + 50) (slots := slots + 500) F9 ht0 ht2 ht5 ht9 hf9 hmA hcA hB hBB hd1 hj ⟨by omega, by omega⟩ hP hD hS (lv_sub hl [2, 3, 4, 6, 0] rfl) (fun w1 H locs ls hR2 hm2 hc2 hP hD hS hl2 => kk w1 H locs ls ((hR1.mono (by simp)).tr hR2) hm2 hc2 hP hD hS hl2)
set_option maxHeartbeats 4000000 in
theorem po_t2 {p : Program} {l : Launch} {e : Env} {s : State} {m : MethodId} {args : Array Value} {below : List Frame} {meth : Method} {c : Code} {Q : State → Prop} {D : va_G} {tys : List (ClassId × FieldType)} {A : Nat → Prop} {e0 ca t9 : Nat} {ad : li_ad} {cL : ClassId} {L : Nat} {B : List Nat} {cI cZ cR : ClassId} {nh : Nat} {xp x29 : Int32} {aC aHc aWr aS aO aP aIx aLo aD pHc pWr pS pO pP pIx pLo am : Nat} {la : Nat → Nat} {fs : List Value} (F : mo_F p (en_rm 9 (80, 900)) s m args c cX7_post 11 D tys A e0 ca ad) (ht0 : tys[0]? = some (cI, .int)) (ht2 : tys[2]? = some (cZ, .boolean)) (ht5 : tys[5]? = some (cR, .array .int)) (ht9 : tys[t9]? = some (cL, .object "java/lang/Object")) (hf : po_fs fs nh xp x29 aC aHc aWr aS aO aP aIx aLo aD) {w w2 : va_W} {q qa1 qb la1 mm j : Nat} {x5 x7 x8 : Int32} (hm : w[0]? = some (am, .inr (13, fs))) (hc : po_c w L B cL cI cZ cR nh aC aHc aWr aS aO aP aIx aLo aD pHc pWr pS pO pP pIx pLo la) (hB : po_B L B pHc pWr pS pO) (hBB : ∀ z ∈ [0, pIx, pLo, pP], z ∈ B) (hd1 : pIx ≠ pLo ∧ pIx ≠ pP ∧ pLo ≠ pP ∧ pIx ≠ 0 ∧ pLo ≠ 0 ∧ pP ≠ 0) (hj : j < 6) (hq1 : ∀ p, po_ok L B p → p ∉ [q, qa1]) (hq2 : ∀ z ∈ [0, pIx, pLo, pP], z ∉ [q, qa1]) (hqa : qa1 < w.length) (hLw : L ≤ w.length) (hIl : ∀ z ∈ [0, pIx, pLo, pP], z < w.length) (hR0 : li_R w w2 [q, qa1]) (hqb : qb = qa1 ∨ w.length ≤ qb) (hw : li_L w2 q qb la1 e0 cL ad mm) (hm1 : 1 ≤ mm) (hm2 : mm ≤ 20) (hkd : ∀ z, w.length ≤ z → ad.2 z) {H : Heap} {locs : List Loc} {ls : Array Slot} (hP : va_P D vwCl w2 H) (hD : va_D A w2) (hS : va_S A s.heap H locs) (hl : lv_has ls 11 [(0, .ref am), (1, .int (nI j)), (5, .int x5), (6, .ref la1), (7, .int x7), (8, .int x8)])
    (kk : ∀ (w1 : va_W) (H : Heap) (locs : List Loc) (ls : Array Slot) (qb m1 : Nat), li_R w w1 [pIx, pLo, pP, q, qa1] → w1[0]? = some (am, .inr (13, fs)) → po_c w1 L B cL cI cZ cR nh aC aHc aWr aS aO aP aIx aLo aD pHc pWr pS pO pP pIx pLo la → li_L w1 q qb la1 e0 cL ad m1 → m1 ≤ 20 → (qb = qa1 ∨ w.length ≤ qb) → va_P D vwCl w1 H → va_D A w1 → va_S A s.heap H locs → ls.size = 11 → W p l e (en_rm 9 (80, 900)) s m args below meth c H locs 80 900 Q (F0 m 433 ls [.int x5])) :
    W p l e (en_rm 9 (80, 900)) s m args below meth c H locs 2 23 Q (F0 m 273 ls []) := by
  have F9 := F
  have hf9 := hf
  obtain ⟨hx, hb, hml, hts, hown, hK, hT, hL, hA, hRm⟩ := F
  obtain ⟨hlen, ⟨f16, f17, f29⟩, f0, f2, f7, f8, f9, f10, f13, f14, f12⟩ := hf
  refine lv_iconst (v := 0) hx hb dj_X7_post_273 (by decide) ?_
  refine lv_istore (lv' := [(9, .int 0), (0, .ref am), (1, .int (nI j)), (5, .int x5), (6, .ref la1), (7, .int x7), (8, .int x8)]) hx hb dj_X7_post_274 hl (by decide) rfl (fun ls hl => ?_)
  have hkd2 : ∀ z, w2.length ≤ z → ad.2 z := fun z hz => hkd z (Nat.le_trans hR0.1 hz)
  refine po_set (cells := 2) (slots := 23) F9 ht0 ht2 ht5 ht9 hf9 hm2 hkd2 ⟨by omega, by omega⟩ (fun w3 H locs ls hR1 hw3 hP hD hS hl => ?_) mm 0 (by omega) w2 H locs ls li_R.rf hw hP hD hS (lv_sub hl [0, 1, 2, 3, 4, 5, 6] rfl)
  have hR3 : li_R w w3 [q, qa1] := hR0.qb hR1 hqb
  have hI2 : pP ∉ [q, qa1] ∧ pIx ∉ [q, qa1] ∧ pLo ∉ [q, qa1] := ⟨hq2 _ (by simp), hq2 _ (by simp), hq2 _ (by simp)⟩
  have hm3 := hR3.at hm (hq2 0 (by simp))
  have hc3 := hc.st hB hR3 hq1 hI2
  refine W.widen (k := 22) (n := 43) (by omega) (by omega) ?_
  refine po_mid (cells := 22) (slots := 43) F9 ht0 ht2 ht5 ht9 hf9 hm3 hc3 hB hBB hd1 hj hw3 hm1 hm2 (fun z hz => hkd z (Nat.le_trans hR3.1 hz)) ⟨by omega, by omega⟩ hP hD hS hl (fun w4 H locs ls hR4 hm4 hc4 hP hD hS hl4 => ?_)
  refine W.widen (k := 80) (n := 900) (by omega) (by omega) ?_
  have hqq3 : q ∉ [pIx, pLo, pP] ∧ qb ∉ [pIx, pLo, pP] := by
    have a1 := hq2 pIx (by simp); have a2 := hq2 pLo (by simp); have a3 := hq2 pP (by simp)
    have b1 := hIl pIx (by simp); have b2 := hIl pLo (by simp); have b3 := hIl pP (by simp)
    simp only [List.mem_cons, List.not_mem_nil, or_false, not_or] at a1 a2 a3 ⊢
    omega
  have hnb3 : ∀ z ∈ [pIx, pLo, pP], li_nb w3 z := by
    obtain ⟨-, -, -, -, -, ⟨g6, h6, -⟩, ⟨g7, h7, -⟩, ⟨g8, h8, -⟩, -⟩ := hc3
    intro z hz
    simp only [List.mem_cons, List.not_mem_nil, or_false] at hz
    rcases hz with rfl | rfl | rfl
    · exact li_nba h7
    · exact li_nba h8
    · exact li_nba h6
  exact kk w4 H locs ls qb mm ((hR3.mono (by simp)).tr (hR4.mono (by simp))) hm4 hc4 (hw3.st hR4 hnb3 hqq3.1 hqq3.2) hm2 hqb hP hD hS hl4
set_option maxHeartbeats 4000000 in
theorem po_tail {p : Program} {l : Launch} {e : Env} {s : State} {m : MethodId} {args : Array Value} {below : List Frame} {meth : Method} {c : Code} {Q : State → Prop} {D : va_G} {tys : List (ClassId × FieldType)} {A : Nat → Prop} {e0 ca t9 : Nat} {ad : li_ad} {cL : ClassId} {L : Nat} {B : List Nat} {cI cZ cR : ClassId} {nh : Nat} {xp x29 : Int32} {aC aHc aWr aS aO aP aIx aLo aD pHc pWr pS pO pP pIx pLo am : Nat} {la : Nat → Nat} {fs : List Value} (F : mo_F p (en_rm 9 (80, 900)) s m args c cX7_post 11 D tys A e0 ca ad) (ht0 : tys[0]? = some (cI, .int)) (ht2 : tys[2]? = some (cZ, .boolean)) (ht5 : tys[5]? = some (cR, .array .int)) (ht9 : tys[t9]? = some (cL, .object "java/lang/Object")) (hf : po_fs fs nh xp x29 aC aHc aWr aS aO aP aIx aLo aD) {w : va_W} {q qa1 la1 n j : Nat} {x5 x7 x8 : Int32} (hm : w[0]? = some (am, .inr (13, fs))) (hc : po_c w L B cL cI cZ cR nh aC aHc aWr aS aO aP aIx aLo aD pHc pWr pS pO pP pIx pLo la) (hB : po_B L B pHc pWr pS pO) (hBB : ∀ z ∈ [0, pIx, pLo, pP], z ∈ B) (hd1 : pIx ≠ pLo ∧ pIx ≠ pP ∧ pLo ≠ pP ∧ pIx ≠ 0 ∧ pLo ≠ 0 ∧ pP ≠ 0) (hj : j < 6) (hq1 : ∀ p, po_ok L B p → p ∉ [q, qa1]) (hq2 : ∀ z ∈ [0, pIx, pLo, pP], z ∉ [q, qa1]) (hqa : qa1 < w.length) (hLw : L ≤ w.length) (hIl : ∀ z ∈ [0, pIx, pLo, pP], z < w.length) (hw : li_L w q qa1 la1 e0 cL ad n) (hnq : li_nb w qa1) (hn : n ≤ 20) (hkd : ∀ z, w.length ≤ z → ad.2 z) {H : Heap} {locs : List Loc} {ls : Array Slot} (hP : va_P D vwCl w H) (hD : va_D A w) (hS : va_S A s.heap H locs) (hl : lv_has ls 11 [(0, .ref am), (1, .int (nI j)), (5, .int x5), (6, .ref la1), (7, .int x7)])
    (kk : ∀ (w1 : va_W) (H : Heap) (locs : List Loc) (ls : Array Slot) (qb m1 : Nat), li_R w w1 [pIx, pLo, pP, q, qa1] → w1[0]? = some (am, .inr (13, fs)) → po_c w1 L B cL cI cZ cR nh aC aHc aWr aS aO aP aIx aLo aD pHc pWr pS pO pP pIx pLo la → li_L w1 q qb la1 e0 cL ad m1 → m1 ≤ 20 → (qb = qa1 ∨ w.length ≤ qb) → va_P D vwCl w1 H → va_D A w1 → va_S A s.heap H locs → ls.size = 11 → W p l e (en_rm 9 (80, 900)) s m args below meth c H locs 80 900 Q (F0 m 433 ls [.int x5])) :
    W p l e (en_rm 9 (80, 900)) s m args below meth c H locs 0 0 Q (F0 m 236 ls [.int x8]) := by
  have F9 := F
  have hf9 := hf
  obtain ⟨hx, hb, hml, hts, hown, hK, hT, hL, hA, hRm⟩ := F
  obtain ⟨hlen, ⟨f16, f17, f29⟩, f0, f2, f7, f8, f9, f10, f13, f14, f12⟩ := hf
  refine lv_istore (lv' := [(8, .int x8), (0, .ref am), (1, .int (nI j)), (5, .int x5), (6, .ref la1), (7, .int x7)]) hx hb dj_X7_post_236 hl (by decide) rfl (fun ls hl => ?_)
  refine lv_aload hx hb dj_X7_post_238 (lv_at hl 4 rfl) ?_
  refine lv_iload hx hb dj_X7_post_240 (lv_at hl 3 rfl) ?_
  refine li_cS (As := [.int x5]) (rest := [.ref la1]) (li_J6_valueOf_2dffe l D tys w _ e0 ca ad (⟨hD.1, fun j z hz => Or.inl ⟨j, z.2, hz⟩⟩ : va_D (va_A w H.size) w) x5 (hkd _ (Nat.le_refl _))) gj_X7_304 rfl ⟨Nat.le_of_ble_eq_true rfl, Nat.le_of_ble_eq_true rfl⟩ ⟨by show _ ≤ 80; omega, by show _ ≤ 900; omega⟩ (Nat.le_of_ble_eq_true rfl) hx hb (hml.trans hl.1.symm) hts hown hK hT hL hP hD hS hA dj_X7_post_242 (fun res w10 H locs hrv hqq hP hD hS => ?_)
  obtain ⟨y2, er, hyy, hlen3, hR1⟩ := hqq
  subst er
  have hw1 := hw.st hR1 (by simp) (by simp) (by simp)
  have hnq1 := li_nbs hnq hR1 hqa (by simp)
  refine li_cV (As := [.ref y2]) (rest := []) (lk_add (⟨hD.1, fun j z hz => Or.inl ⟨j, z.2, hz⟩⟩ : va_D (va_A w10 H.size) w10) ht9 hw1 hnq1 hn hyy) gj_X7_75 (lk_rv hw1 hK hP) rfl ⟨Nat.le_of_ble_eq_true rfl, Nat.le_of_ble_eq_true rfl⟩ ⟨by show _ ≤ 80; omega, by show _ ≤ 900; omega⟩ (Nat.le_of_ble_eq_true rfl) hx hb (hml.trans hl.1.symm) hts hown hK hT hL hP hD hS hA dj_X7_post_245 (fun res w11 H locs hrv hqq hP hD hS => ?_)
  obtain ⟨qb, hw2, hqb2, hlen2, hR2⟩ := hqq
  obtain ⟨rb, rfl⟩ := hrv
  have hR3 : li_R w w11 [q, qa1] := (hR1.mono (by simp)).tr hR2
  have hqb : qb = qa1 ∨ w.length ≤ qb := by have := hR1.1; rcases hqb2 with h | h; exact Or.inl h; exact Or.inr (by omega)
  refine lv_pop hx hb dj_X7_post_248 rfl ?_
  refine lv_aload hx hb dj_X7_post_249 (lv_at hl 4 rfl) ?_
  refine li_cV (As := []) (rest := []) (lk_size (⟨hD.1, fun j z hz => Or.inl ⟨j, z.2, hz⟩⟩ : va_D (va_A w11 H.size) w11) hw2) gj_X7_297 (lk_rv hw2 hK hP) rfl ⟨Nat.le_of_ble_eq_true rfl, Nat.le_of_ble_eq_true rfl⟩ ⟨by show _ ≤ 80; omega, by show _ ≤ 900; omega⟩ (Nat.le_of_ble_eq_true rfl) hx hb (hml.trans hl.1.symm) hts hown hK hT hL hP hD hS hA dj_X7_post_251 (fun res w9 H locs hrv hqq hP hD hS => ?_)
  obtain ⟨er, ew⟩ := hqq
  have ew := Eq.symm ew
  subst er
  subst ew
  refine lv_bipush (v := 20) hx hb dj_X7_post_254 (by decide) ?_
  by_cases h20 : n + 1 ≤ 20
  · refine lv_icmp_le (tgt := 273) hx hb dj_X7_post_256 (by decide) (fun _ => ?_) (fun c9 => absurd (nI_le (b := 20) h20 (by decide)) c9)
    refine W.widen (k := 2) (n := 23) (by omega) (by omega) ?_
    exact po_t2 F9 ht0 ht2 ht5 ht9 hf9 hm hc hB hBB hd1 hj hq1 hq2 hqa hLw hIl hR3 hqb hw2 (by omega) (by omega) hkd hP hD hS (lv_sub hl [1, 2, 3, 4, 5, 0] rfl) kk
  · have e20 : n = 20 := by omega
    subst e20
    refine lv_icmp_le (tgt := 273) hx hb dj_X7_post_256 (by decide) (fun c9 => absurd c9 (by decide)) (fun _ => ?_)
    refine lv_aload hx hb dj_X7_post_259 (lv_at hl 4 rfl) ?_
    refine lv_iconst (v := 0) hx hb dj_X7_post_261 (by decide) ?_
    refine li_cV (As := [.int 0]) (rest := []) (lk_remove (⟨hD.1, fun j z hz => Or.inl ⟨j, z.2, hz⟩⟩ : va_D (va_A w11 H.size) w11) ht9 hw2) gj_X7_320 (lk_rv hw2 hK hP) rfl ⟨Nat.le_of_ble_eq_true rfl, Nat.le_of_ble_eq_true rfl⟩ ⟨by show _ ≤ 80; omega, by show _ ≤ 900; omega⟩ (Nat.le_of_ble_eq_true rfl) hx hb (hml.trans hl.1.symm) hts hown hK hT hL hP hD hS hA dj_X7_post_262 (fun res w12 H locs hrv hqq hP hD hS => ?_)
    obtain ⟨y3, er, hy3, hw4, hR4, hlen4⟩ := hqq
    subst er
    refine va_castS hx hb hown (hts _ cwj2003) (hK.1 2 _ rfl).2 (li_xr (hy3) hK hL hP hS) dj_X7_post_265 ?_
    refine li_cV (As := []) (rest := []) (lk_intValue (⟨hD.1, fun j z hz => Or.inl ⟨j, z.2, hz⟩⟩ : va_D (va_A w12 H.size) w12) (hy3)) gj_X7_294 (li_xr (hy3) hK hL hP hS) rfl ⟨Nat.le_of_ble_eq_true rfl, Nat.le_of_ble_eq_true rfl⟩ ⟨by show _ ≤ 80; omega, by show _ ≤ 900; omega⟩ (Nat.le_of_ble_eq_true rfl) hx hb (hml.trans hl.1.symm) hts hown hK hT hL hP hD hS hA dj_X7_post_268 (fun res w9 H locs hrv hqq hP hD hS => ?_)
    obtain ⟨rv3, rfl⟩ := hrv
    have ew := Eq.symm hqq
    subst ew
    refine lv_istore (lv' := [(9, .int rv3), (8, .int x8), (0, .ref am), (1, .int (nI j)), (5, .int x5), (6, .ref la1), (7, .int x7)]) hx hb dj_X7_post_271 hl (by decide) rfl (fun ls hl => ?_)
    refine W.widen (k := 2) (n := 23) (by omega) (by omega) ?_
    exact po_t2 F9 ht0 ht2 ht5 ht9 hf9 hm hc hB hBB hd1 hj hq1 hq2 hqa hLw hIl (hR3.qb hR4 hqb) hqb hw4 (by omega) (by omega) hkd hP hD hS (lv_sub hl [2, 3, 4, 5, 6, 1] rfl) kk
