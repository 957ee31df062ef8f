theorem kx_lcmp {x : Int64} : lg_cmp x x = 0 := by
  unfold lg_cmp
  have h : ¬ x > x := fun h => by
    have h9 : x.toInt < x.toInt := Int64.lt_iff_toInt_lt.mp h
    omega
  rw [if_neg h, if_pos rfl]
section
variable {p : Program} {l : Launch} {e : Env} {R : Room} {s : State} {m : MethodId} {args : Array Value} {below : List Frame} {meth : Method} {c : Code} {Q : State → Prop}
variable {D : va_G} {tys : List (ClassId × FieldType)} {cO cD : ClassId} {A : Nat → Prop} {sh : en_H} {w : va_W} {H : Heap} {locs : List Loc} {ls : Array Slot} {cells slots qx qo qd : Nat} {cL : ClassId} {e0 ca : Nat} {af : Nat → Nat} {am ax ao ad b Ln i st : Nat} {xs : Nat → Int32} {cx cy : Int32} {fs : List Value}
set_option maxHeartbeats 4000000 in
theorem lc_0 (hl9 : l.stackTraces = false) (F : lw_Fm p R s m args c D tys cO cD A) (X : lw_X b Ln xs s A i) (L : lw_H D A s w H locs) (I : lw_I lw_E (lw_LA (lw_LR tys cL e0 af qx qo qd) am ax ao ad qx qo qd) tys cO cD qx qo qd sh w st cx cy fs) (hl : lv_has ls 9 (lw_lv b ax am ao ad i)) (hcs : cells + 100 ≤ R.cells ∧ slots + 1000 ≤ R.slots)
    (k : ∀ (u : en_H × va_W) (H1 : Heap) (locs1 : List Loc) (ls1 : Array Slot) (st' : Nat) (cx' cy' : Int32) (fs' : List Value), lw_I lw_E (lw_LA (lw_LR tys cL e0 af qx qo qd) am ax ao ad qx qo qd) tys cO cD qx qo qd u.1 u.2 st' cx' cy' fs' → lw_H D A s u.2 H1 locs1 → lv_has ls1 9 (lw_lv b ax am ao ad i) → W p l e R s m args below meth c H1 locs1 (cells + 100) (slots + 1000) Q (F0 m 2330 ls1 [])) :
    W p l e R s m args below meth c H locs cells slots Q (F0 m 284 ls []) := by
  have hx := F.hx
  have hb := F.hb
  have h0 : ls[0]? = some (.val (.ref b)) := lv_at hl 0 rfl
  have h5 : ls[5]? = some (.val (.int (nI i))) := lv_at hl 5 rfl
  refine lv_aload_n hx hb (show decode cL_law 284 = .ok (.aload_n 1, 1) from by decide +kernel) rfl (lv_at hl 1 rfl) ?_
  refine lw_ld (k := 1) (n := 1) hx hb X L.hS (by decide) h0 h5 (by decide) (by decide +kernel) ?_
  generalize ea1 : xs (i + 1) = a1
  refine lw_ld (k := 2) (n := 2) hx hb X L.hS (by decide) h0 h5 (by decide) (by decide +kernel) ?_
  generalize ea2 : xs (i + 2) = a2
  refine lw_ld (k := 3) (n := 3) hx hb X L.hS (by decide) h0 h5 (by decide) (by decide +kernel) ?_
  generalize ea3 : xs (i + 3) = a3
  refine lw_ld (k := 4) (n := 4) hx hb X L.hS (by decide) h0 h5 (by decide) (by decide +kernel) ?_
  generalize ea4 : xs (i + 4) = a4
  refine lw_ld (k := 5) (n := 5) hx hb X L.hS (by decide) h0 h5 (by decide) (by decide +kernel) ?_
  generalize ea5 : xs (i + 5) = a5
  refine lw_ldb (k := 6) (n := 6) hx hb X L.hS (by decide) h0 h5 (by decide) (by decide +kernel) ?_
  generalize ea6 : xs (i + 6) = a6
  refine lv_aload_n hx hb (show decode cL_law 322 = .ok (.aload_n 3, 1) from by decide +kernel) rfl (lv_at hl 3 rfl) ?_
  obtain ⟨⟨hLL, hR, e66, e138, e139⟩, hlen, em, ex, eo, ed⟩ := I.hl
  subst e66
  subst e138
  subst e139
  obtain ⟨hs, fx, fs9, hc, pc, bg, ix, ar, ck, rr, mk, hX, hM, hlk, hon⟩ := hR
  have efs : fs9 = fs := (Prod.mk.inj (Sum.inr.inj (Prod.mk.inj (Option.some.inj (hM.1.1.symm.trans I.hs.2.1))).2)).2
  subst efs
  have I0 := I.lp (LP' := lw_LA (lw_LL cL e0 af) am ax ao ad 66 138 139) ⟨hLL, hlen, em, ex, eo, ed⟩
  have hst0 : lw_stw [] (lw_LA (lw_LL cL e0 af) am ax ao ad 66 138 139) := lw_LA_st lw_LL_st
  rw [← ex, ← eo]
  refine kc_hole hl9 a1 a2 a3 a4 a5 a6 hst0 F L I0 hs hX hl.1 ⟨by omega, by omega⟩ (fun w1 r H1 locs1 fx1 hc1 pc1 ix1 ar1 ck1 g9 I1 L1 hX1 h66 e11 hg9 hO => ?_)
  refine lv_istore (lv' := [(6, .int r), (0, .ref b), (1, .ref ax), (2, .ref am), (3, .ref ao), (4, .ref ad), (5, .int (nI i))]) hx hb (show decode cL_law 326 = .ok (.istore 6, 2) from by decide +kernel) hl (by decide) rfl (fun ls hl => ?_)
  have h0 : ls[0]? = some (.val (.ref b)) := lv_at hl 1 rfl
  have h5 : ls[5]? = some (.val (.int (nI i))) := lv_at hl 6 rfl
  refine lv_aload_n hx hb (show decode cL_law 328 = .ok (.aload_n 2, 1) from by decide +kernel) rfl (lv_at hl 3 rfl) ?_
  refine lw_ld (k := 1) (n := 1) hx hb X L1.hS (by decide) h0 h5 (by decide) (by decide +kernel) ?_
  rw [ea1]
  refine lw_ld (k := 2) (n := 2) hx hb X L1.hS (by decide) h0 h5 (by decide) (by decide +kernel) ?_
  rw [ea2]
  refine lw_ld (k := 3) (n := 3) hx hb X L1.hS (by decide) h0 h5 (by decide) (by decide +kernel) ?_
  rw [ea3]
  refine lw_ld (k := 4) (n := 4) hx hb X L1.hS (by decide) h0 h5 (by decide) (by decide +kernel) ?_
  rw [ea4]
  refine lw_ld (k := 5) (n := 5) hx hb X L1.hS (by decide) h0 h5 (by decide) (by decide +kernel) ?_
  rw [ea5]
  refine lw_ldb (k := 6) (n := 6) hx hb X L1.hS (by decide) h0 h5 (by decide) (by decide +kernel) ?_
  rw [ea6]
  obtain ⟨-, -, em1, -, -, -⟩ := I1.hl
  rw [← em1]
  refine km_hole hl9 a1 a2 a3 a4 a5 a6 hst0 F L1 I1 hs hX1 (hM.of fun j hj => h66 j (by omega)) hg9 hl.1 ⟨by omega, by omega⟩ (fun sh2 w2 v t H2 locs2 fs2 hc2 pc2 rr2 mk2 I2 L2 hs2 hX2 hM2 f30 hg2 hO2 => ?_)
  obtain ⟨ert, eov, ehc, epc, hlk2⟩ := kx_two_hole hlk hO hO2 hX.1.2.2.2.2.2.2.1
  subst ehc
  subst epc
  subst ert
  refine lv_istore (lv' := [(7, .int v), (6, .int r), (0, .ref b), (1, .ref ax), (2, .ref am), (3, .ref ao), (4, .ref ad), (5, .int (nI i))]) hx hb (show decode cL_law 369 = .ok (.istore 7, 2) from by decide +kernel) hl (by decide) rfl (fun ls hl => ?_)
  have h0 : ls[0]? = some (.val (.ref b)) := lv_at hl 2 rfl
  have h5 : ls[5]? = some (.val (.int (nI i))) := lv_at hl 7 rfl
  have hR2 : kx_R tys sh2 w2 := ⟨hs2, fx1, fs2, hc1, pc1, bg, ix1, ar1, ck1, rr2, mk2, hX2, hM2, hlk2, fun hb9 => e11.trans (hon hb9)⟩
  have I3 := I2.lp (LP' := lw_LA (lw_LR tys cL e0 af 66 138 139) am ax ao ad 66 138 139) ⟨⟨I2.hl.1, hR2, rfl, rfl, rfl⟩, I2.hl.2⟩
  refine lv_goto (tgt := 2330) hx hb (show decode cL_law 371 = .ok (.goto 1959, 3) from by decide +kernel) (by decide) ?_
  refine W.widen (k := cells + 100) (n := slots + 1000) (by omega) (by omega) ?_
  exact k (sh2, w2) _ _ _ _ _ _ _ I3 L2 (lv_sub hl [2, 3, 4, 5, 6, 7] rfl)
set_option maxHeartbeats 4000000 in
theorem lc_1 (hl9 : l.stackTraces = false) (F : lw_Fm p R s m args c D tys cO cD A) (X : lw_X b Ln xs s A i) (L : lw_H D A s w H locs) (I : lw_I lw_E (lw_LA (lw_LR tys cL e0 af qx qo qd) am ax ao ad qx qo qd) tys cO cD qx qo qd sh w st cx cy fs) (hl : lv_has ls 9 (lw_lv b ax am ao ad i)) (hcs : cells + 100 ≤ R.cells ∧ slots + 1000 ≤ R.slots)
    (k : ∀ (u : en_H × va_W) (H1 : Heap) (locs1 : List Loc) (ls1 : Array Slot) (st' : Nat) (cx' cy' : Int32) (fs' : List Value), lw_I lw_E (lw_LA (lw_LR tys cL e0 af qx qo qd) am ax ao ad qx qo qd) tys cO cD qx qo qd u.1 u.2 st' cx' cy' fs' → lw_H D A s u.2 H1 locs1 → lv_has ls1 9 (lw_lv b ax am ao ad i) → W p l e R s m args below meth c H1 locs1 (cells + 100) (slots + 1000) Q (F0 m 2330 ls1 [])) :
    W p l e R s m args below meth c H locs cells slots Q (F0 m 374 ls []) := by
  have hx := F.hx
  have hb := F.hb
  have h0 : ls[0]? = some (.val (.ref b)) := lv_at hl 0 rfl
  have h5 : ls[5]? = some (.val (.int (nI i))) := lv_at hl 5 rfl
  refine lv_aload_n hx hb (show decode cL_law 374 = .ok (.aload_n 1, 1) from by decide +kernel) rfl (lv_at hl 1 rfl) ?_
  refine lw_ld (k := 1) (n := 1) hx hb X L.hS (by decide) h0 h5 (by decide) (by decide +kernel) ?_
  generalize ea1 : xs (i + 1) = a1
  refine lw_ld (k := 2) (n := 2) hx hb X L.hS (by decide) h0 h5 (by decide) (by decide +kernel) ?_
  refine lv_i2c hx hb (show decode cL_law 387 = .ok (.i2c, 1) from by decide +kernel) rfl ?_
  have hb2 := lw_c16 (xs (i + 2))
  generalize ea2 : ((xs (i + 2)).toUInt32 % 65536).toInt32 = a2 at hb2 ⊢
  refine lw_ld (k := 3) (n := 3) hx hb X L.hS (by decide) h0 h5 (by decide) (by decide +kernel) ?_
  generalize ea3 : xs (i + 3) = a3
  refine lw_ld (k := 4) (n := 4) hx hb X L.hS (by decide) h0 h5 (by decide) (by decide +kernel) ?_
  generalize ea4 : xs (i + 4) = a4
  refine lw_ld (k := 5) (n := 5) hx hb X L.hS (by decide) h0 h5 (by decide) (by decide +kernel) ?_
  generalize ea5 : xs (i + 5) = a5
  refine lw_ldb (k := 6) (n := 6) hx hb X L.hS (by decide) h0 h5 (by decide) (by decide +kernel) ?_
  generalize ea6 : xs (i + 6) = a6
  refine lv_aload_n hx hb (show decode cL_law 413 = .ok (.aload_n 3, 1) from by decide +kernel) rfl (lv_at hl 3 rfl) ?_
  obtain ⟨⟨hLL, hR, e66, e138, e139⟩, hlen, em, ex, eo, ed⟩ := I.hl
  subst e66
  subst e138
  subst e139
  obtain ⟨hs, fx, fs9, hc, pc, bg, ix, ar, ck, rr, mk, hX, hM, hlk, hon⟩ := hR
  have efs : fs9 = fs := (Prod.mk.inj (Sum.inr.inj (Prod.mk.inj (Option.some.inj (hM.1.1.symm.trans I.hs.2.1))).2)).2
  subst efs
  have I0 := I.lp (LP' := lw_LA (lw_LL cL e0 af) am ax ao ad 66 138 139) ⟨hLL, hlen, em, ex, eo, ed⟩
  have hst0 : lw_stw [] (lw_LA (lw_LL cL e0 af) am ax ao ad 66 138 139) := lw_LA_st lw_LL_st
  rw [← ex, ← eo]
  refine kc_area hl9 a1 a2 a3 a4 a5 a6 hb2 hst0 F L I0 hs hX hl.1 ⟨by omega, by omega⟩ (fun w1 r H1 locs1 fx1 hc1 pc1 ix1 ar1 ck1 g9 I1 L1 hX1 h66 e11 hg9 hO => ?_)
  refine lv_istore (lv' := [(6, .int r), (0, .ref b), (1, .ref ax), (2, .ref am), (3, .ref ao), (4, .ref ad), (5, .int (nI i))]) hx hb (show decode cL_law 417 = .ok (.istore 6, 2) from by decide +kernel) hl (by decide) rfl (fun ls hl => ?_)
  have h0 : ls[0]? = some (.val (.ref b)) := lv_at hl 1 rfl
  have h5 : ls[5]? = some (.val (.int (nI i))) := lv_at hl 6 rfl
  refine lv_aload_n hx hb (show decode cL_law 419 = .ok (.aload_n 2, 1) from by decide +kernel) rfl (lv_at hl 3 rfl) ?_
  refine lw_ld (k := 1) (n := 1) hx hb X L1.hS (by decide) h0 h5 (by decide) (by decide +kernel) ?_
  rw [ea1]
  refine lw_ld (k := 2) (n := 2) hx hb X L1.hS (by decide) h0 h5 (by decide) (by decide +kernel) ?_
  refine lv_i2c hx hb (show decode cL_law 432 = .ok (.i2c, 1) from by decide +kernel) rfl ?_
  rw [ea2]
  refine lw_ld (k := 3) (n := 3) hx hb X L1.hS (by decide) h0 h5 (by decide) (by decide +kernel) ?_
  rw [ea3]
  refine lw_ld (k := 4) (n := 4) hx hb X L1.hS (by decide) h0 h5 (by decide) (by decide +kernel) ?_
  rw [ea4]
  refine lw_ld (k := 5) (n := 5) hx hb X L1.hS (by decide) h0 h5 (by decide) (by decide +kernel) ?_
  rw [ea5]
  refine lw_ldb (k := 6) (n := 6) hx hb X L1.hS (by decide) h0 h5 (by decide) (by decide +kernel) ?_
  rw [ea6]
  obtain ⟨-, -, em1, -, -, -⟩ := I1.hl
  rw [← em1]
  refine km_area hl9 a1 a2 a3 a4 a5 a6 hb2 hst0 F L1 I1 hs hX1 (hM.of fun j hj => h66 j (by omega)) hg9 hl.1 ⟨by omega, by omega⟩ (fun sh2 w2 v t H2 locs2 fs2 hc2 pc2 rr2 mk2 I2 L2 hs2 hX2 hM2 f30 hg2 hO2 => ?_)
  obtain ⟨ert, eov, ehc, epc, hlk2⟩ := kx_two_area hlk hO hO2 hX.1.2.2.2.2.2.2.1
  subst ehc
  subst epc
  subst ert
  refine lv_istore (lv' := [(7, .int v), (6, .int r), (0, .ref b), (1, .ref ax), (2, .ref am), (3, .ref ao), (4, .ref ad), (5, .int (nI i))]) hx hb (show decode cL_law 461 = .ok (.istore 7, 2) from by decide +kernel) hl (by decide) rfl (fun ls hl => ?_)
  have h0 : ls[0]? = some (.val (.ref b)) := lv_at hl 2 rfl
  have h5 : ls[5]? = some (.val (.int (nI i))) := lv_at hl 7 rfl
  have hR2 : kx_R tys sh2 w2 := ⟨hs2, fx1, fs2, hc1, pc1, bg, ix1, ar1, ck1, rr2, mk2, hX2, hM2, hlk2, fun hb9 => e11.trans (hon hb9)⟩
  have I3 := I2.lp (LP' := lw_LA (lw_LR tys cL e0 af 66 138 139) am ax ao ad 66 138 139) ⟨⟨I2.hl.1, hR2, rfl, rfl, rfl⟩, I2.hl.2⟩
  refine lv_goto (tgt := 2330) hx hb (show decode cL_law 463 = .ok (.goto 1867, 3) from by decide +kernel) (by decide) ?_
  refine W.widen (k := cells + 100) (n := slots + 1000) (by omega) (by omega) ?_
  exact k (sh2, w2) _ _ _ _ _ _ _ I3 L2 (lv_sub hl [2, 3, 4, 5, 6, 7] rfl)
set_option maxHeartbeats 4000000 in
theorem lc_3 (hl9 : l.stackTraces = false) (F : lw_Fm p R s m args c D tys cO cD A) (X : lw_X b Ln xs s A i) (L : lw_H D A s w H locs) (I : lw_I lw_E (lw_LA (lw_LR tys cL e0 af qx qo qd) am ax ao ad qx qo qd) tys cO cD qx qo qd sh w st cx cy fs) (hl : lv_has ls 9 (lw_lv b ax am ao ad i)) (hcs : cells + 100 ≤ R.cells ∧ slots + 1000 ≤ R.slots)
    (k : ∀ (u : en_H × va_W) (H1 : Heap) (locs1 : List Loc) (ls1 : Array Slot) (st' : Nat) (cx' cy' : Int32) (fs' : List Value), lw_I lw_E (lw_LA (lw_LR tys cL e0 af qx qo qd) am ax ao ad qx qo qd) tys cO cD qx qo qd u.1 u.2 st' cx' cy' fs' → lw_H D A s u.2 H1 locs1 → lv_has ls1 9 (lw_lv b ax am ao ad i) → W p l e R s m args below meth c H1 locs1 (cells + 100) (slots + 1000) Q (F0 m 2330 ls1 [])) :
    W p l e R s m args below meth c H locs cells slots Q (F0 m 518 ls []) := by
  have hx := F.hx
  have hb := F.hb
  have h0 : ls[0]? = some (.val (.ref b)) := lv_at hl 0 rfl
  have h5 : ls[5]? = some (.val (.int (nI i))) := lv_at hl 5 rfl
  refine lv_aload_n hx hb (show decode cL_law 518 = .ok (.aload_n 1, 1) from by decide +kernel) rfl (lv_at hl 1 rfl) ?_
  refine lv_aload_n hx hb (show decode cL_law 519 = .ok (.aload_n 3, 1) from by decide +kernel) rfl (lv_at hl 3 rfl) ?_
  obtain ⟨⟨hLL, hR, e66, e138, e139⟩, hlen, em, ex, eo, ed⟩ := I.hl
  subst e66
  subst e138
  subst e139
  obtain ⟨hs, fx, fs9, hc, pc, bg, ix, ar, ck, rr, mk, hX, hM, hlk, hon⟩ := hR
  have efs : fs9 = fs := (Prod.mk.inj (Sum.inr.inj (Prod.mk.inj (Option.some.inj (hM.1.1.symm.trans I.hs.2.1))).2)).2
  subst efs
  have I0 := I.lp (LP' := lw_LA (lw_LL cL e0 af) am ax ao ad 66 138 139) ⟨hLL, hlen, em, ex, eo, ed⟩
  have hst0 : lw_stw [] (lw_LA (lw_LL cL e0 af) am ax ao ad 66 138 139) := lw_LA_st lw_LL_st
  rw [← ex, ← eo]
  refine kc_player hl9 hst0 F L I0 hs hX hl.1 ⟨by omega, by omega⟩ (fun w1 r H1 locs1 fx1 hc1 pc1 ix1 ar1 ck1 g9 I1 L1 hX1 h66 e11 hg9 hO => ?_)
  refine lv_istore (lv' := [(6, .int r), (0, .ref b), (1, .ref ax), (2, .ref am), (3, .ref ao), (4, .ref ad), (5, .int (nI i))]) hx hb (show decode cL_law 523 = .ok (.istore 6, 2) from by decide +kernel) hl (by decide) rfl (fun ls hl => ?_)
  have h0 : ls[0]? = some (.val (.ref b)) := lv_at hl 1 rfl
  have h5 : ls[5]? = some (.val (.int (nI i))) := lv_at hl 6 rfl
  refine lv_aload_n hx hb (show decode cL_law 525 = .ok (.aload_n 2, 1) from by decide +kernel) rfl (lv_at hl 3 rfl) ?_
  obtain ⟨-, -, em1, -, -, -⟩ := I1.hl
  rw [← em1]
  refine km_player hl9 hst0 F L1 I1 hs hX1 (hM.of fun j hj => h66 j (by omega)) hg9 hl.1 ⟨by omega, by omega⟩ (fun sh2 w2 v t H2 locs2 fs2 hc2 pc2 rr2 mk2 I2 L2 hs2 hX2 hM2 f30 hg2 hO2 => ?_)
  obtain ⟨ert, eov, ehc, epc, hlk2⟩ := kx_two_player hlk hO hO2 hX.1.2.2.2.2.2.2.1
  subst ehc
  subst epc
  subst ert
  refine lv_istore (lv' := [(7, .int v), (6, .int r), (0, .ref b), (1, .ref ax), (2, .ref am), (3, .ref ao), (4, .ref ad), (5, .int (nI i))]) hx hb (show decode cL_law 529 = .ok (.istore 7, 2) from by decide +kernel) hl (by decide) rfl (fun ls hl => ?_)
  have h0 : ls[0]? = some (.val (.ref b)) := lv_at hl 2 rfl
  have h5 : ls[5]? = some (.val (.int (nI i))) := lv_at hl 7 rfl
  have hR2 : kx_R tys sh2 w2 := ⟨hs2, fx1, fs2, hc1, pc1, bg, ix1, ar1, ck1, rr2, mk2, hX2, hM2, hlk2, fun hb9 => e11.trans (hon hb9)⟩
  have I3 := I2.lp (LP' := lw_LA (lw_LR tys cL e0 af 66 138 139) am ax ao ad 66 138 139) ⟨⟨I2.hl.1, hR2, rfl, rfl, rfl⟩, I2.hl.2⟩
  refine lv_goto (tgt := 2330) hx hb (show decode cL_law 531 = .ok (.goto 1799, 3) from by decide +kernel) (by decide) ?_
  refine W.widen (k := cells + 100) (n := slots + 1000) (by omega) (by omega) ?_
  exact k (sh2, w2) _ _ _ _ _ _ _ I3 L2 (lv_sub hl [2, 3, 4, 5, 6, 7] rfl)
set_option maxHeartbeats 4000000 in
theorem lc_8 (hl9 : l.stackTraces = false) (F : lw_Fm p R s m args c D tys cO cD A) (X : lw_X b Ln xs s A i) (L : lw_H D A s w H locs) (I : lw_I lw_E (lw_LA (lw_LR tys cL e0 af qx qo qd) am ax ao ad qx qo qd) tys cO cD qx qo qd sh w st cx cy fs) (hl : lv_has ls 9 (lw_lv b ax am ao ad i)) (hcs : cells + 100 ≤ R.cells ∧ slots + 1000 ≤ R.slots)
    (k : ∀ (u : en_H × va_W) (H1 : Heap) (locs1 : List Loc) (ls1 : Array Slot) (st' : Nat) (cx' cy' : Int32) (fs' : List Value), lw_I lw_E (lw_LA (lw_LR tys cL e0 af qx qo qd) am ax ao ad qx qo qd) tys cO cD qx qo qd u.1 u.2 st' cx' cy' fs' → lw_H D A s u.2 H1 locs1 → lv_has ls1 9 (lw_lv b ax am ao ad i) → W p l e R s m args below meth c H1 locs1 (cells + 100) (slots + 1000) Q (F0 m 2330 ls1 [])) :
    W p l e R s m args below meth c H locs cells slots Q (F0 m 669 ls []) := by
  have hx := F.hx
  have hb := F.hb
  have h0 : ls[0]? = some (.val (.ref b)) := lv_at hl 0 rfl
  have h5 : ls[5]? = some (.val (.int (nI i))) := lv_at hl 5 rfl
  refine lv_aload_n hx hb (show decode cL_law 669 = .ok (.aload_n 1, 1) from by decide +kernel) rfl (lv_at hl 1 rfl) ?_
  refine lw_ld (k := 1) (n := 1) hx hb X L.hS (by decide) h0 h5 (by decide) (by decide +kernel) ?_
  refine lv_i2c hx hb (show decode cL_law 676 = .ok (.i2c, 1) from by decide +kernel) rfl ?_
  have hb1 := lw_c16 (xs (i + 1))
  generalize ea1 : ((xs (i + 1)).toUInt32 % 65536).toInt32 = a1 at hb1 ⊢
  refine lv_aload_n hx hb (show decode cL_law 677 = .ok (.aload_n 3, 1) from by decide +kernel) rfl (lv_at hl 3 rfl) ?_
  obtain ⟨⟨hLL, hR, e66, e138, e139⟩, hlen, em, ex, eo, ed⟩ := I.hl
  subst e66
  subst e138
  subst e139
  obtain ⟨hs, fx, fs9, hc, pc, bg, ix, ar, ck, rr, mk, hX, hM, hlk, hon⟩ := hR
  have efs : fs9 = fs := (Prod.mk.inj (Sum.inr.inj (Prod.mk.inj (Option.some.inj (hM.1.1.symm.trans I.hs.2.1))).2)).2
  subst efs
  have I0 := I.lp (LP' := lw_LA (lw_LL cL e0 af) am ax ao ad 66 138 139) ⟨hLL, hlen, em, ex, eo, ed⟩
  have hst0 : lw_stw [] (lw_LA (lw_LL cL e0 af) am ax ao ad 66 138 139) := lw_LA_st lw_LL_st
  rw [← ex, ← eo]
  refine kc_begin hl9 a1 hb1 hst0 F L I0 hs hX hM hl.1 ⟨by omega, by omega⟩ (fun u1 r H1 locs1 fs1 fx1 b1 n9 I1 L1 hs1 hX1 hM1 f11 e11 hO => ?_)
  refine lv_istore (lv' := [(6, .int r), (0, .ref b), (1, .ref ax), (2, .ref am), (3, .ref ao), (4, .ref ad), (5, .int (nI i))]) hx hb (show decode cL_law 681 = .ok (.istore 6, 2) from by decide +kernel) hl (by decide) rfl (fun ls hl => ?_)
  have h0 : ls[0]? = some (.val (.ref b)) := lv_at hl 1 rfl
  have h5 : ls[5]? = some (.val (.int (nI i))) := lv_at hl 6 rfl
  refine lv_aload_n hx hb (show decode cL_law 683 = .ok (.aload_n 2, 1) from by decide +kernel) rfl (lv_at hl 3 rfl) ?_
  refine lw_ld (k := 1) (n := 1) hx hb X L1.hS (by decide) h0 h5 (by decide) (by decide +kernel) ?_
  refine lv_i2c hx hb (show decode cL_law 690 = .ok (.i2c, 1) from by decide +kernel) rfl ?_
  rw [ea1]
  obtain ⟨-, -, em1, -, -, -⟩ := I1.hl
  rw [← em1]
  refine km_begin hl9 a1 hb1 hst0 F L1 I1 hs1 hX1 hM1 hl.1 ⟨by omega, by omega⟩ (fun u2 res2 H2 locs2 st2 cx2 cy2 fs2 fx2 b2 hr2 I2 L2 hs2 hX2 e12 hM2 hO2 => ?_)
  obtain ⟨v, rfl⟩ := hr2
  show W _ _ _ _ _ _ _ _ _ _ _ _ _ _ _ (F0 m 694 ls [.int v])
  have eb := kx_two_begin hO hO2 fun hb9 => Value.int.inj (Option.some.inj (f11.symm.trans (hon hb9)))
  subst eb
  have hon9 : b1 = 0 → fx[11]? = some (.int 0) := fun hb9 => by
    rcases hO with ⟨g1, -⟩ | ⟨g1, -⟩
    · exact hon (g1.symm.trans hb9)
    · rw [g1] at hb9
      exact absurd hb9 (by decide)
  refine lv_istore (lv' := [(7, .int v), (6, .int r), (0, .ref b), (1, .ref ax), (2, .ref am), (3, .ref ao), (4, .ref ad), (5, .int (nI i))]) hx hb (show decode cL_law 694 = .ok (.istore 7, 2) from by decide +kernel) hl (by decide) rfl (fun ls hl => ?_)
  have h0 : ls[0]? = some (.val (.ref b)) := lv_at hl 2 rfl
  have h5 : ls[5]? = some (.val (.int (nI i))) := lv_at hl 7 rfl
  have hR2 : kx_R tys u2.1 u2.2 := ⟨hs2, fx2, fs2, hc, pc, b1, ix, ar, ck, rr, mk, hX2, hM2, hlk, fun hb9 => e12.trans ((e11 hb9).trans (hon9 hb9))⟩
  have I3 := I2.lp (LP' := lw_LA (lw_LR tys cL e0 af 66 138 139) am ax ao ad 66 138 139) ⟨⟨I2.hl.1, hR2, rfl, rfl, rfl⟩, I2.hl.2⟩
  refine lv_goto (tgt := 2330) hx hb (show decode cL_law 696 = .ok (.goto 1634, 3) from by decide +kernel) (by decide) ?_
  refine W.widen (k := cells + 100) (n := slots + 1000) (by omega) (by omega) ?_
  exact k u2 _ _ _ _ _ _ _ I3 L2 (lv_sub hl [2, 3, 4, 5, 6, 7] rfl)
set_option maxHeartbeats 4000000 in
theorem lc_28 (hl9 : l.stackTraces = false) (F : lw_Fm p R s m args c D tys cO cD A) (X : lw_X b Ln xs s A i) (L : lw_H D A s w H locs) (I : lw_I lw_E (lw_LA (lw_LR tys cL e0 af qx qo qd) am ax ao ad qx qo qd) tys cO cD qx qo qd sh w st cx cy fs) (hl : lv_has ls 9 (lw_lv b ax am ao ad i)) (hcs : cells + 100 ≤ R.cells ∧ slots + 1000 ≤ R.slots)
    (k : ∀ (u : en_H × va_W) (H1 : Heap) (locs1 : List Loc) (ls1 : Array Slot) (st' : Nat) (cx' cy' : Int32) (fs' : List Value), lw_I lw_E (lw_LA (lw_LR tys cL e0 af qx qo qd) am ax ao ad qx qo qd) tys cO cD qx qo qd u.1 u.2 st' cx' cy' fs' → lw_H D A s u.2 H1 locs1 → lv_has ls1 9 (lw_lv b ax am ao ad i) → W p l e R s m args below meth c H1 locs1 (cells + 100) (slots + 1000) Q (F0 m 2330 ls1 [])) :
    W p l e R s m args below meth c H locs cells slots Q (F0 m 1485 ls []) := by
  have hx := F.hx
  have hb := F.hb
  have h0 : ls[0]? = some (.val (.ref b)) := lv_at hl 0 rfl
  have h5 : ls[5]? = some (.val (.int (nI i))) := lv_at hl 5 rfl
  refine lv_aload_n hx hb (show decode cL_law 1485 = .ok (.aload_n 1, 1) from by decide +kernel) rfl (lv_at hl 1 rfl) ?_
  refine lv_aload_n hx hb (show decode cL_law 1486 = .ok (.aload_n 3, 1) from by decide +kernel) rfl (lv_at hl 3 rfl) ?_
  obtain ⟨-, -, em, ex, eo, ed⟩ := I.hl
  rw [← ex, ← eo]
  refine lx_nextHole hl9 F L I hl.1 ⟨by omega, by omega⟩ (fun u1 r1 H1 locs1 fs1 I1 L1 => ?_)
  refine lv_istore (lv' := [(6, .int r1), (0, .ref b), (1, .ref ax), (2, .ref am), (3, .ref ao), (4, .ref ad), (5, .int (nI i))]) hx hb (show decode cL_law 1490 = .ok (.istore 6, 2) from by decide +kernel) hl (by decide) rfl (fun ls hl => ?_)
  have h0 : ls[0]? = some (.val (.ref b)) := lv_at hl 1 rfl
  have h5 : ls[5]? = some (.val (.int (nI i))) := lv_at hl 6 rfl
  refine lv_aload_n hx hb (show decode cL_law 1492 = .ok (.aload_n 2, 1) from by decide +kernel) rfl (lv_at hl 3 rfl) ?_
  obtain ⟨-, -, em, ex, eo, ed⟩ := I1.hl
  rw [← em]
  refine lm_X7_nextHole hl9 (lw_LA_st lw_LR_st) F L1 I1 hl.1 ⟨by omega, by omega⟩ (fun u2 res2 H2 locs2 st2 cx2 cy2 fs2 hr2 I2 L2 => ?_)
  obtain ⟨v2, rfl⟩ := hr2
  show W _ _ _ _ _ _ _ _ _ _ _ _ _ _ _ (F0 m 1496 ls [.int v2])
  refine lv_istore (lv' := [(7, .int v2), (6, .int r1), (0, .ref b), (1, .ref ax), (2, .ref am), (3, .ref ao), (4, .ref ad), (5, .int (nI i))]) hx hb (show decode cL_law 1496 = .ok (.istore 7, 2) from by decide +kernel) hl (by decide) rfl (fun ls hl => ?_)
  have h0 : ls[0]? = some (.val (.ref b)) := lv_at hl 2 rfl
  have h5 : ls[5]? = some (.val (.int (nI i))) := lv_at hl 7 rfl
  refine lv_goto (tgt := 2330) hx hb (show decode cL_law 1498 = .ok (.goto 832, 3) from by decide +kernel) (by decide) ?_
  refine W.widen (k := cells + 100) (n := slots + 1000) (by omega) (by omega) ?_
  exact k _ _ _ _ _ _ _ _ I2 L2 (lv_sub hl [2, 3, 4, 5, 6, 7] rfl)
set_option maxHeartbeats 4000000 in
theorem lc_52 (hl9 : l.stackTraces = false) (F : lw_Fm p R s m args c D tys cO cD A) (X : lw_X b Ln xs s A i) (L : lw_H D A s w H locs) (I : lw_I lw_E (lw_LA (lw_LR tys cL e0 af qx qo qd) am ax ao ad qx qo qd) tys cO cD qx qo qd sh w st cx cy fs) (hl : lv_has ls 9 (lw_lv b ax am ao ad i)) (hcs : cells + 100 ≤ R.cells ∧ slots + 1000 ≤ R.slots)
    (k : ∀ (u : en_H × va_W) (H1 : Heap) (locs1 : List Loc) (ls1 : Array Slot) (st' : Nat) (cx' cy' : Int32) (fs' : List Value), lw_I lw_E (lw_LA (lw_LR tys cL e0 af qx qo qd) am ax ao ad qx qo qd) tys cO cD qx qo qd u.1 u.2 st' cx' cy' fs' → lw_H D A s u.2 H1 locs1 → lv_has ls1 9 (lw_lv b ax am ao ad i) → W p l e R s m args below meth c H1 locs1 (cells + 100) (slots + 1000) Q (F0 m 2330 ls1 [])) :
    W p l e R s m args below meth c H locs cells slots Q (F0 m 2245 ls []) := by
  have hx := F.hx
  have hb := F.hb
  have hls := hl.1
  have hcs0 := hcs
  refine lv_aload_n hx hb (show decode cL_law 2245 = .ok (.aload_n 1, 1) from by decide +kernel) rfl (lv_at hl 1 rfl) ?_
  obtain ⟨⟨hLL, hR, e66, e138, e139⟩, hlen, em, ex, eo, ed⟩ := I.hl
  subst e66
  subst e138
  subst e139
  obtain ⟨hs, fx, fs9, hc, pc, bg, ix, ar, ck, rr, mk, hX, hM, hlk, hon⟩ := hR
  have efs : fs9 = fs := (Prod.mk.inj (Sum.inr.inj (Prod.mk.inj (Option.some.inj (hM.1.1.symm.trans I.hs.2.1))).2)).2
  subst efs
  have I0 := I.lp (LP' := lw_LA (lw_LL cL e0 af) am ax ao ad 66 138 139) ⟨hLL, hlen, em, ex, eo, ed⟩
  have hst0 : lw_stw [] (lw_LA (lw_LL cL e0 af) am ax ao ad 66 138 139) := lw_LA_st lw_LL_st
  rw [← ex]
  have G : kx_G p s m args c cL_law RL D tys A := ⟨F.hx, F.hb, F.hts, F.hown, F.hK.pre, F.hT, F.hA⟩
  have hc9 : hc ≤ 9 := hX.1.2.2.2.2.2.2.1
  have hcs : cells + 8 ≤ R.cells ∧ slots + 64 ≤ R.slots := ⟨by omega, by omega⟩
  refine kx_cV (As := []) (rest := []) (q := 66) (ci := 12) G L (kx_X6_checksum hl9 D (kx_D1 L) hX (kx_ckb I0 hs hX)) gm_X6_checksum hX.1.1 rfl rfl rfl (F.hml.trans hls.symm) ⟨by have := F.hR.1; omega, by have := F.hR.2; omega⟩ ⟨Nat.le_trans (Nat.add_le_add_left (Nat.le_of_ble_eq_true rfl) _) hcs.1, Nat.le_trans (Nat.add_le_add_left (Nat.le_of_ble_eq_true rfl) _) hcs.2⟩ (Nat.le_of_ble_eq_true rfl) dlw_2246 (fun _ _ _ _ _ h9 => h9.elim) (fun res w1 H1 locs1 hrv hq L1 => ?_)
  obtain ⟨ew1, er1⟩ := hq
  subst er1
  rw [ew1] at L1
  refine W.widen (k := cells + 8) (n := slots + 64) (Nat.add_le_add_left (Nat.le_of_ble_eq_true rfl) _) (Nat.add_le_add_left (Nat.le_of_ble_eq_true rfl) _) ?_
  show W _ _ _ _ _ _ _ _ _ _ _ _ _ _ _ (F0 m 2249 ls [.long (kx_co ck hc)])
  refine lv_aload_n hx hb (show decode cL_law 2249 = .ok (.aload_n 2, 1) from by decide +kernel) rfl (lv_at hl 2 rfl) ?_
  rw [← em]
  have hcs : (cells + 8) + 8 ≤ R.cells ∧ (slots + 64) + 64 ≤ R.slots := ⟨by omega, by omega⟩
  refine kx_cV (As := []) (rest := [.long (kx_co ck hc)]) (q := 0) (ci := 13) G L1 (kx_X7_checksum hl9 D (kx_D1 L1) hM) gm_X7_checksum hM.1.1 rfl rfl rfl (F.hml.trans hls.symm) ⟨by have := F.hR.1; omega, by have := F.hR.2; omega⟩ ⟨Nat.le_trans (Nat.add_le_add_left (Nat.le_of_ble_eq_true rfl) _) hcs.1, Nat.le_trans (Nat.add_le_add_left (Nat.le_of_ble_eq_true rfl) _) hcs.2⟩ (Nat.le_of_ble_eq_true rfl) dlw_2250 (fun _ _ _ _ _ h9 => h9.elim) (fun res w2 H2 locs2 hrv2 hq2 L2 => ?_)
  obtain ⟨er2, fs1, hT⟩ := hq2
  subst er2
  show W _ _ _ _ _ _ _ _ _ _ _ _ _ _ _ (F0 m 2253 ls [.long (kx_co mk hc), .long (kx_co ck hc)])
  have I2 := kx_tI hst0 I0 hT
  have hX2 := hX.of (w1 := w2) fun j a b => hT.2.2.2.2.2 j (by omega)
  have hM2 := hM.t hT
  have hR2 : kx_R tys sh w2 := ⟨hs, fx, fs1, hc, pc, bg, ix, ar, ck, rr, mk, hX2, hM2, hlk, hon⟩
  have I3 := I2.lp (LP' := lw_LA (lw_LR tys cL e0 af 66 138 139) am ax ao ad 66 138 139) ⟨⟨I2.hl.1, hR2, rfl, rfl, rfl⟩, I2.hl.2⟩
  refine W.lcmp hx hb (show decode cL_law 2253 = .ok (.lcmp, 1) from by decide +kernel) ?_
  rw [kx_co_e hc fun j hj i hi => (hlk.2.1 j hj).2.2 i hi, kx_lcmp]
  refine lv_if_eq (tgt := 2330) hx hb (show decode cL_law 2254 = .ok (.ifCond .eq 76, 3) from by decide +kernel) (by decide) (fun _ => ?_) (fun h => absurd rfl h)
  refine W.widen (k := cells + 100) (n := slots + 1000) (by omega) (by omega) ?_
  exact k (sh, w2) _ _ _ _ _ _ _ I3 L2 (lv_sub hl [0, 1, 2, 3, 4, 5] rfl)
end
