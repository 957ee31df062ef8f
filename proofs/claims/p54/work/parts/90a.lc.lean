section
variable {p : Program} {l : Launch} {e : Env} {R : Room} {s : State} {m : MethodId} {args : Array Value} {below : List Frame} {meth : Method} {c : Code} {Q : State → Prop}
variable {D : va_G} {tys : List (ClassId × FieldType)} {cO cD : ClassId} {A : Nat → Prop} {sh : en_H} {w : va_W} {H : Heap} {locs : List Loc} {ls : Array Slot} {cells slots qx qo qd : Nat} {LP : en_H → va_W → Prop} {am ax ao ad b Ln i st : Nat} {xs : Nat → Int32} {cx cy : Int32} {fs : List Value}
set_option maxHeartbeats 4000000 in
theorem lc_2 (hl9 : l.stackTraces = false) (hLP : lw_st LP) (F : lw_Fm p R s m args c D tys cO cD A) (X : lw_X b Ln xs s A i) (L : lw_H D A s w H locs) (I : lw_I lw_E (lw_LA LP am ax ao ad qx qo qd) tys cO cD qx qo qd sh w st cx cy fs) (hl : lv_has ls 9 (lw_lv b ax am ao ad i)) (hcs : cells + 100 ≤ R.cells ∧ slots + 1000 ≤ R.slots)
    (k : ∀ (u : en_H × va_W) (H1 : Heap) (locs1 : List Loc) (ls1 : Array Slot) (st' : Nat) (cx' cy' : Int32) (fs' : List Value), lw_I lw_E (lw_LA LP am ax ao ad qx qo qd) tys cO cD qx qo qd u.1 u.2 st' cx' cy' fs' → lw_H D A s u.2 H1 locs1 → lv_has ls1 9 (lw_lv b ax am ao ad i) → W p l e R s m args below meth c H1 locs1 (cells + 100) (slots + 1000) Q (F0 m 2330 ls1 [])) :
    W p l e R s m args below meth c H locs cells slots Q (F0 m 466 ls []) := by
  have hx := F.hx
  have hb := F.hb
  have h0 : ls[0]? = some (.val (.ref b)) := lv_at hl 0 rfl
  have h5 : ls[5]? = some (.val (.int (nI i))) := lv_at hl 5 rfl
  refine lv_aload_n hx hb (show decode cL_law 466 = .ok (.aload_n 1, 1) from by decide +kernel) rfl (lv_at hl 1 rfl) ?_
  refine lw_ld (k := 1) (n := 1) hx hb X L.hS (by decide) h0 h5 (by decide) (by decide +kernel) ?_
  refine lw_ld (k := 2) (n := 2) hx hb X L.hS (by decide) h0 h5 (by decide) (by decide +kernel) ?_
  refine lw_ld (k := 3) (n := 3) hx hb X L.hS (by decide) h0 h5 (by decide) (by decide +kernel) ?_
  refine lv_aload_n hx hb (show decode cL_law 485 = .ok (.aload_n 3, 1) from by decide +kernel) rfl (lv_at hl 3 rfl) ?_
  obtain ⟨-, -, em, ex, eo, ed⟩ := I.hl
  rw [← ex, ← eo]
  refine lx_kindAt hl9 (xs (i + 1)) (xs (i + 2)) (xs (i + 3)) (lw_LA_st hLP) F L I hl.1 ⟨by omega, by omega⟩ (fun u1 r1 H1 locs1 fs1 I1 L1 => ?_)
  refine lv_istore (lv' := [(6, .int r1), (0, .ref b), (1, .ref ax), (2, .ref am), (3, .ref ao), (4, .ref ad), (5, .int (nI i))]) hx hb (show decode cL_law 489 = .ok (.istore 6, 2) from by decide +kernel) hl (by decide) rfl (fun ls hl => ?_)
  have h0 : ls[0]? = some (.val (.ref b)) := lv_at hl 1 rfl
  have h5 : ls[5]? = some (.val (.int (nI i))) := lv_at hl 6 rfl
  refine lv_aload_n hx hb (show decode cL_law 491 = .ok (.aload_n 2, 1) from by decide +kernel) rfl (lv_at hl 3 rfl) ?_
  refine lw_ld (k := 1) (n := 1) hx hb X L1.hS (by decide) h0 h5 (by decide) (by decide +kernel) ?_
  refine lw_ld (k := 2) (n := 2) hx hb X L1.hS (by decide) h0 h5 (by decide) (by decide +kernel) ?_
  refine lw_ld (k := 3) (n := 3) hx hb X L1.hS (by decide) h0 h5 (by decide) (by decide +kernel) ?_
  obtain ⟨-, -, em, ex, eo, ed⟩ := I1.hl
  rw [← em]
  refine lm_X7_kindAt hl9 (xs (i + 1)) (xs (i + 2)) (xs (i + 3)) (lw_LA_st hLP) F L1 I1 hl.1 ⟨by omega, by omega⟩ (fun u2 res2 H2 locs2 st2 cx2 cy2 fs2 hr2 I2 L2 => ?_)
  obtain ⟨v2, rfl⟩ := hr2
  show W _ _ _ _ _ _ _ _ _ _ _ _ _ _ _ (F0 m 513 ls [.int v2])
  refine lv_istore (lv' := [(7, .int v2), (6, .int r1), (0, .ref b), (1, .ref ax), (2, .ref am), (3, .ref ao), (4, .ref ad), (5, .int (nI i))]) hx hb (show decode cL_law 513 = .ok (.istore 7, 2) from by decide +kernel) hl (by decide) rfl (fun ls hl => ?_)
  have h0 : ls[0]? = some (.val (.ref b)) := lv_at hl 2 rfl
  have h5 : ls[5]? = some (.val (.int (nI i))) := lv_at hl 7 rfl
  refine lv_goto (tgt := 2330) hx hb (show decode cL_law 515 = .ok (.goto 1815, 3) from by decide +kernel) (by decide) ?_
  refine W.widen (k := cells + 100) (n := slots + 1000) (by omega) (by omega) ?_
  exact k _ _ _ _ _ _ _ _ I2 L2 (lv_sub hl [2, 3, 4, 5, 6, 7] rfl)
set_option maxHeartbeats 4000000 in
theorem lc_4 (hl9 : l.stackTraces = false) (hLP : lw_st LP) (F : lw_Fm p R s m args c D tys cO cD A) (X : lw_X b Ln xs s A i) (L : lw_H D A s w H locs) (I : lw_I lw_E (lw_LA LP am ax ao ad qx qo qd) tys cO cD qx qo qd sh w st cx cy fs) (hl : lv_has ls 9 (lw_lv b ax am ao ad i)) (hcs : cells + 100 ≤ R.cells ∧ slots + 1000 ≤ R.slots)
    (k : ∀ (u : en_H × va_W) (H1 : Heap) (locs1 : List Loc) (ls1 : Array Slot) (st' : Nat) (cx' cy' : Int32) (fs' : List Value), lw_I lw_E (lw_LA LP am ax ao ad qx qo qd) tys cO cD qx qo qd u.1 u.2 st' cx' cy' fs' → lw_H D A s u.2 H1 locs1 → lv_has ls1 9 (lw_lv b ax am ao ad i) → W p l e R s m args below meth c H1 locs1 (cells + 100) (slots + 1000) Q (F0 m 2330 ls1 [])) :
    W p l e R s m args below meth c H locs cells slots Q (F0 m 534 ls []) := by
  have hx := F.hx
  have hb := F.hb
  have h0 : ls[0]? = some (.val (.ref b)) := lv_at hl 0 rfl
  have h5 : ls[5]? = some (.val (.int (nI i))) := lv_at hl 5 rfl
  refine lv_aload_n hx hb (show decode cL_law 534 = .ok (.aload_n 1, 1) from by decide +kernel) rfl (lv_at hl 1 rfl) ?_
  refine lw_ld (k := 1) (n := 1) hx hb X L.hS (by decide) h0 h5 (by decide) (by decide +kernel) ?_
  refine lw_ld (k := 2) (n := 2) hx hb X L.hS (by decide) h0 h5 (by decide) (by decide +kernel) ?_
  refine lv_aload_n hx hb (show decode cL_law 547 = .ok (.aload_n 3, 1) from by decide +kernel) rfl (lv_at hl 3 rfl) ?_
  obtain ⟨-, -, em, ex, eo, ed⟩ := I.hl
  rw [← ex, ← eo]
  refine lx_setHandicap hl9 (xs (i + 1)) (xs (i + 2)) (lw_LA_st hLP) F L I hl.1 ⟨by omega, by omega⟩ (fun u1 r1 H1 locs1 fs1 I1 L1 => ?_)
  refine lv_istore (lv' := [(6, .int r1), (0, .ref b), (1, .ref ax), (2, .ref am), (3, .ref ao), (4, .ref ad), (5, .int (nI i))]) hx hb (show decode cL_law 551 = .ok (.istore 6, 2) from by decide +kernel) hl (by decide) rfl (fun ls hl => ?_)
  have h0 : ls[0]? = some (.val (.ref b)) := lv_at hl 1 rfl
  have h5 : ls[5]? = some (.val (.int (nI i))) := lv_at hl 6 rfl
  refine lv_aload_n hx hb (show decode cL_law 553 = .ok (.aload_n 2, 1) from by decide +kernel) rfl (lv_at hl 3 rfl) ?_
  refine lw_ld (k := 1) (n := 1) hx hb X L1.hS (by decide) h0 h5 (by decide) (by decide +kernel) ?_
  refine lw_ld (k := 2) (n := 2) hx hb X L1.hS (by decide) h0 h5 (by decide) (by decide +kernel) ?_
  obtain ⟨-, -, em, ex, eo, ed⟩ := I1.hl
  rw [← em]
  refine lm_X7_setHandicap hl9 (xs (i + 1)) (xs (i + 2)) (lw_LA_st hLP) F L1 I1 hl.1 ⟨by omega, by omega⟩ (fun u2 res2 H2 locs2 st2 cx2 cy2 fs2 hr2 I2 L2 => ?_)
  obtain ⟨v2, rfl⟩ := hr2
  show W _ _ _ _ _ _ _ _ _ _ _ _ _ _ _ (F0 m 569 ls [.int v2])
  refine lv_istore (lv' := [(7, .int v2), (6, .int r1), (0, .ref b), (1, .ref ax), (2, .ref am), (3, .ref ao), (4, .ref ad), (5, .int (nI i))]) hx hb (show decode cL_law 569 = .ok (.istore 7, 2) from by decide +kernel) hl (by decide) rfl (fun ls hl => ?_)
  have h0 : ls[0]? = some (.val (.ref b)) := lv_at hl 2 rfl
  have h5 : ls[5]? = some (.val (.int (nI i))) := lv_at hl 7 rfl
  refine lv_goto (tgt := 2330) hx hb (show decode cL_law 571 = .ok (.goto 1759, 3) from by decide +kernel) (by decide) ?_
  refine W.widen (k := cells + 100) (n := slots + 1000) (by omega) (by omega) ?_
  exact k _ _ _ _ _ _ _ _ I2 L2 (lv_sub hl [2, 3, 4, 5, 6, 7] rfl)
set_option maxHeartbeats 4000000 in
theorem lc_5 (hl9 : l.stackTraces = false) (hLP : lw_st LP) (F : lw_Fm p R s m args c D tys cO cD A) (X : lw_X b Ln xs s A i) (L : lw_H D A s w H locs) (I : lw_I lw_E (lw_LA LP am ax ao ad qx qo qd) tys cO cD qx qo qd sh w st cx cy fs) (hl : lv_has ls 9 (lw_lv b ax am ao ad i)) (hcs : cells + 100 ≤ R.cells ∧ slots + 1000 ≤ R.slots)
    (k : ∀ (u : en_H × va_W) (H1 : Heap) (locs1 : List Loc) (ls1 : Array Slot) (st' : Nat) (cx' cy' : Int32) (fs' : List Value), lw_I lw_E (lw_LA LP am ax ao ad qx qo qd) tys cO cD qx qo qd u.1 u.2 st' cx' cy' fs' → lw_H D A s u.2 H1 locs1 → lv_has ls1 9 (lw_lv b ax am ao ad i) → W p l e R s m args below meth c H1 locs1 (cells + 100) (slots + 1000) Q (F0 m 2330 ls1 [])) :
    W p l e R s m args below meth c H locs cells slots Q (F0 m 574 ls []) := by
  have hx := F.hx
  have hb := F.hb
  have h0 : ls[0]? = some (.val (.ref b)) := lv_at hl 0 rfl
  have h5 : ls[5]? = some (.val (.int (nI i))) := lv_at hl 5 rfl
  refine lv_aload_n hx hb (show decode cL_law 574 = .ok (.aload_n 1, 1) from by decide +kernel) rfl (lv_at hl 1 rfl) ?_
  refine lw_ld (k := 1) (n := 1) hx hb X L.hS (by decide) h0 h5 (by decide) (by decide +kernel) ?_
  refine lw_ld (k := 2) (n := 2) hx hb X L.hS (by decide) h0 h5 (by decide) (by decide +kernel) ?_
  refine lv_aload_n hx hb (show decode cL_law 587 = .ok (.aload_n 3, 1) from by decide +kernel) rfl (lv_at hl 3 rfl) ?_
  obtain ⟨-, -, em, ex, eo, ed⟩ := I.hl
  rw [← ex, ← eo]
  refine lx_gets hl9 (xs (i + 1)) (xs (i + 2)) (lw_LA_st hLP) F L I hl.1 ⟨by omega, by omega⟩ (fun u1 r1 H1 locs1 fs1 I1 L1 => ?_)
  refine lv_istore (lv' := [(6, .int r1), (0, .ref b), (1, .ref ax), (2, .ref am), (3, .ref ao), (4, .ref ad), (5, .int (nI i))]) hx hb (show decode cL_law 591 = .ok (.istore 6, 2) from by decide +kernel) hl (by decide) rfl (fun ls hl => ?_)
  have h0 : ls[0]? = some (.val (.ref b)) := lv_at hl 1 rfl
  have h5 : ls[5]? = some (.val (.int (nI i))) := lv_at hl 6 rfl
  refine lv_aload_n hx hb (show decode cL_law 593 = .ok (.aload_n 2, 1) from by decide +kernel) rfl (lv_at hl 3 rfl) ?_
  refine lw_ld (k := 1) (n := 1) hx hb X L1.hS (by decide) h0 h5 (by decide) (by decide +kernel) ?_
  refine lw_ld (k := 2) (n := 2) hx hb X L1.hS (by decide) h0 h5 (by decide) (by decide +kernel) ?_
  obtain ⟨-, -, em, ex, eo, ed⟩ := I1.hl
  rw [← em]
  refine lm_X7_gets hl9 (xs (i + 1)) (xs (i + 2)) (lw_LA_st hLP) F L1 I1 hl.1 ⟨by omega, by omega⟩ (fun u2 res2 H2 locs2 st2 cx2 cy2 fs2 hr2 I2 L2 => ?_)
  obtain ⟨v2, rfl⟩ := hr2
  show W _ _ _ _ _ _ _ _ _ _ _ _ _ _ _ (F0 m 609 ls [.int v2])
  refine lv_istore (lv' := [(7, .int v2), (6, .int r1), (0, .ref b), (1, .ref ax), (2, .ref am), (3, .ref ao), (4, .ref ad), (5, .int (nI i))]) hx hb (show decode cL_law 609 = .ok (.istore 7, 2) from by decide +kernel) hl (by decide) rfl (fun ls hl => ?_)
  have h0 : ls[0]? = some (.val (.ref b)) := lv_at hl 2 rfl
  have h5 : ls[5]? = some (.val (.int (nI i))) := lv_at hl 7 rfl
  refine lv_goto (tgt := 2330) hx hb (show decode cL_law 611 = .ok (.goto 1719, 3) from by decide +kernel) (by decide) ?_
  refine W.widen (k := cells + 100) (n := slots + 1000) (by omega) (by omega) ?_
  exact k _ _ _ _ _ _ _ _ I2 L2 (lv_sub hl [2, 3, 4, 5, 6, 7] rfl)
set_option maxHeartbeats 4000000 in
theorem lc_6 (hl9 : l.stackTraces = false) (hLP : lw_st LP) (F : lw_Fm p R s m args c D tys cO cD A) (X : lw_X b Ln xs s A i) (L : lw_H D A s w H locs) (I : lw_I lw_E (lw_LA LP am ax ao ad qx qo qd) tys cO cD qx qo qd sh w st cx cy fs) (hl : lv_has ls 9 (lw_lv b ax am ao ad i)) (hcs : cells + 100 ≤ R.cells ∧ slots + 1000 ≤ R.slots)
    (k : ∀ (u : en_H × va_W) (H1 : Heap) (locs1 : List Loc) (ls1 : Array Slot) (st' : Nat) (cx' cy' : Int32) (fs' : List Value), lw_I lw_E (lw_LA LP am ax ao ad qx qo qd) tys cO cD qx qo qd u.1 u.2 st' cx' cy' fs' → lw_H D A s u.2 H1 locs1 → lv_has ls1 9 (lw_lv b ax am ao ad i) → W p l e R s m args below meth c H1 locs1 (cells + 100) (slots + 1000) Q (F0 m 2330 ls1 [])) :
    W p l e R s m args below meth c H locs cells slots Q (F0 m 614 ls []) := by
  have hx := F.hx
  have hb := F.hb
  have h0 : ls[0]? = some (.val (.ref b)) := lv_at hl 0 rfl
  have h5 : ls[5]? = some (.val (.int (nI i))) := lv_at hl 5 rfl
  refine lv_aload_n hx hb (show decode cL_law 614 = .ok (.aload_n 1, 1) from by decide +kernel) rfl (lv_at hl 1 rfl) ?_
  refine lw_ld (k := 1) (n := 1) hx hb X L.hS (by decide) h0 h5 (by decide) (by decide +kernel) ?_
  obtain ⟨-, -, em, ex, eo, ed⟩ := I.hl
  rw [← ex]
  refine lx_setSeed hl9 (xs (i + 1)) (lw_LA_st hLP) F L I hl.1 ⟨by omega, by omega⟩ (fun u1 res1 H1 locs1 fs1 hr1 I1 L1 => ?_)
  obtain ⟨v1, rfl⟩ := hr1
  show W _ _ _ _ _ _ _ _ _ _ _ _ _ _ _ (F0 m 624 ls [.int v1])
  refine lv_pop hx hb (show decode cL_law 624 = .ok (.pop, 1) from by decide +kernel) rfl ?_
  refine lv_aload_n hx hb (show decode cL_law 625 = .ok (.aload_n 2, 1) from by decide +kernel) rfl (lv_at hl 2 rfl) ?_
  refine lw_ld (k := 1) (n := 1) hx hb X L1.hS (by decide) h0 h5 (by decide) (by decide +kernel) ?_
  obtain ⟨-, -, em, ex, eo, ed⟩ := I1.hl
  rw [← em]
  refine lm_X7_setSeed hl9 (xs (i + 1)) (lw_LA_st hLP) F L1 I1 hl.1 ⟨by omega, by omega⟩ (fun u2 res2 H2 locs2 st2 cx2 cy2 fs2 hr2 I2 L2 => ?_)
  obtain ⟨v2, rfl⟩ := hr2
  show W _ _ _ _ _ _ _ _ _ _ _ _ _ _ _ (F0 m 635 ls [.int v2])
  refine lv_pop hx hb (show decode cL_law 635 = .ok (.pop, 1) from by decide +kernel) rfl ?_
  refine lv_goto (tgt := 2330) hx hb (show decode cL_law 636 = .ok (.goto 1694, 3) from by decide +kernel) (by decide) ?_
  refine W.widen (k := cells + 100) (n := slots + 1000) (by omega) (by omega) ?_
  exact k _ _ _ _ _ _ _ _ I2 L2 (lv_sub hl [0, 1, 2, 3, 4, 5] rfl)
set_option maxHeartbeats 4000000 in
theorem lc_7 (hl9 : l.stackTraces = false) (hLP : lw_st LP) (F : lw_Fm p R s m args c D tys cO cD A) (X : lw_X b Ln xs s A i) (L : lw_H D A s w H locs) (I : lw_I lw_E (lw_LA LP am ax ao ad qx qo qd) tys cO cD qx qo qd sh w st cx cy fs) (hl : lv_has ls 9 (lw_lv b ax am ao ad i)) (hcs : cells + 100 ≤ R.cells ∧ slots + 1000 ≤ R.slots)
    (k : ∀ (u : en_H × va_W) (H1 : Heap) (locs1 : List Loc) (ls1 : Array Slot) (st' : Nat) (cx' cy' : Int32) (fs' : List Value), lw_I lw_E (lw_LA LP am ax ao ad qx qo qd) tys cO cD qx qo qd u.1 u.2 st' cx' cy' fs' → lw_H D A s u.2 H1 locs1 → lv_has ls1 9 (lw_lv b ax am ao ad i) → W p l e R s m args below meth c H1 locs1 (cells + 100) (slots + 1000) Q (F0 m 2330 ls1 [])) :
    W p l e R s m args below meth c H locs cells slots Q (F0 m 639 ls []) := by
  have hx := F.hx
  have hb := F.hb
  have h0 : ls[0]? = some (.val (.ref b)) := lv_at hl 0 rfl
  have h5 : ls[5]? = some (.val (.int (nI i))) := lv_at hl 5 rfl
  refine lv_aload_n hx hb (show decode cL_law 639 = .ok (.aload_n 1, 1) from by decide +kernel) rfl (lv_at hl 1 rfl) ?_
  refine lw_ld (k := 1) (n := 1) hx hb X L.hS (by decide) h0 h5 (by decide) (by decide +kernel) ?_
  refine lv_i2c hx hb (show decode cL_law 646 = .ok (.i2c, 1) from by decide +kernel) rfl ?_
  refine lv_aload_n hx hb (show decode cL_law 647 = .ok (.aload_n 3, 1) from by decide +kernel) rfl (lv_at hl 3 rfl) ?_
  obtain ⟨-, -, em, ex, eo, ed⟩ := I.hl
  rw [← ex, ← eo]
  refine lx_edition hl9 (((xs (i + 1))).toUInt32 % 65536).toInt32 (lw_c16 _) (lw_LA_st hLP) F L I hl.1 ⟨by omega, by omega⟩ (fun u1 r1 H1 locs1 fs1 I1 L1 => ?_)
  refine lv_istore (lv' := [(6, .int r1), (0, .ref b), (1, .ref ax), (2, .ref am), (3, .ref ao), (4, .ref ad), (5, .int (nI i))]) hx hb (show decode cL_law 651 = .ok (.istore 6, 2) from by decide +kernel) hl (by decide) rfl (fun ls hl => ?_)
  have h0 : ls[0]? = some (.val (.ref b)) := lv_at hl 1 rfl
  have h5 : ls[5]? = some (.val (.int (nI i))) := lv_at hl 6 rfl
  refine lv_aload_n hx hb (show decode cL_law 653 = .ok (.aload_n 2, 1) from by decide +kernel) rfl (lv_at hl 3 rfl) ?_
  refine lw_ld (k := 1) (n := 1) hx hb X L1.hS (by decide) h0 h5 (by decide) (by decide +kernel) ?_
  refine lv_i2c hx hb (show decode cL_law 660 = .ok (.i2c, 1) from by decide +kernel) rfl ?_
  obtain ⟨-, -, em, ex, eo, ed⟩ := I1.hl
  rw [← em]
  refine lm_X7_edition hl9 (((xs (i + 1))).toUInt32 % 65536).toInt32 (lw_c16 _) (lw_LA_st hLP) F L1 I1 hl.1 ⟨by omega, by omega⟩ (fun u2 res2 H2 locs2 st2 cx2 cy2 fs2 hr2 I2 L2 => ?_)
  obtain ⟨v2, rfl⟩ := hr2
  show W _ _ _ _ _ _ _ _ _ _ _ _ _ _ _ (F0 m 664 ls [.int v2])
  refine lv_istore (lv' := [(7, .int v2), (6, .int r1), (0, .ref b), (1, .ref ax), (2, .ref am), (3, .ref ao), (4, .ref ad), (5, .int (nI i))]) hx hb (show decode cL_law 664 = .ok (.istore 7, 2) from by decide +kernel) hl (by decide) rfl (fun ls hl => ?_)
  have h0 : ls[0]? = some (.val (.ref b)) := lv_at hl 2 rfl
  have h5 : ls[5]? = some (.val (.int (nI i))) := lv_at hl 7 rfl
  refine lv_goto (tgt := 2330) hx hb (show decode cL_law 666 = .ok (.goto 1664, 3) from by decide +kernel) (by decide) ?_
  refine W.widen (k := cells + 100) (n := slots + 1000) (by omega) (by omega) ?_
  exact k _ _ _ _ _ _ _ _ I2 L2 (lv_sub hl [2, 3, 4, 5, 6, 7] rfl)
set_option maxHeartbeats 4000000 in
theorem lc_9 (hl9 : l.stackTraces = false) (hLP : lw_st LP) (F : lw_Fm p R s m args c D tys cO cD A) (X : lw_X b Ln xs s A i) (L : lw_H D A s w H locs) (I : lw_I lw_E (lw_LA LP am ax ao ad qx qo qd) tys cO cD qx qo qd sh w st cx cy fs) (hl : lv_has ls 9 (lw_lv b ax am ao ad i)) (hcs : cells + 100 ≤ R.cells ∧ slots + 1000 ≤ R.slots)
    (k : ∀ (u : en_H × va_W) (H1 : Heap) (locs1 : List Loc) (ls1 : Array Slot) (st' : Nat) (cx' cy' : Int32) (fs' : List Value), lw_I lw_E (lw_LA LP am ax ao ad qx qo qd) tys cO cD qx qo qd u.1 u.2 st' cx' cy' fs' → lw_H D A s u.2 H1 locs1 → lv_has ls1 9 (lw_lv b ax am ao ad i) → W p l e R s m args below meth c H1 locs1 (cells + 100) (slots + 1000) Q (F0 m 2330 ls1 [])) :
    W p l e R s m args below meth c H locs cells slots Q (F0 m 699 ls []) := by
  have hx := F.hx
  have hb := F.hb
  have h0 : ls[0]? = some (.val (.ref b)) := lv_at hl 0 rfl
  have h5 : ls[5]? = some (.val (.int (nI i))) := lv_at hl 5 rfl
  refine lv_aload_n hx hb (show decode cL_law 699 = .ok (.aload_n 1, 1) from by decide +kernel) rfl (lv_at hl 1 rfl) ?_
  refine lv_aload_n hx hb (show decode cL_law 700 = .ok (.aload_n 3, 1) from by decide +kernel) rfl (lv_at hl 3 rfl) ?_
  obtain ⟨-, -, em, ex, eo, ed⟩ := I.hl
  rw [← ex, ← eo]
  refine lx_holeOn hl9 (lw_LA_st hLP) F L I hl.1 ⟨by omega, by omega⟩ (fun u1 r1 H1 locs1 fs1 I1 L1 => ?_)
  refine lv_istore (lv' := [(6, .int r1), (0, .ref b), (1, .ref ax), (2, .ref am), (3, .ref ao), (4, .ref ad), (5, .int (nI i))]) hx hb (show decode cL_law 704 = .ok (.istore 6, 2) from by decide +kernel) hl (by decide) rfl (fun ls hl => ?_)
  have h0 : ls[0]? = some (.val (.ref b)) := lv_at hl 1 rfl
  have h5 : ls[5]? = some (.val (.int (nI i))) := lv_at hl 6 rfl
  refine lv_aload_n hx hb (show decode cL_law 706 = .ok (.aload_n 2, 1) from by decide +kernel) rfl (lv_at hl 3 rfl) ?_
  obtain ⟨-, -, em, ex, eo, ed⟩ := I1.hl
  rw [← em]
  refine lm_X7_holeOn hl9 (lw_LA_st hLP) F L1 I1 hl.1 ⟨by omega, by omega⟩ (fun u2 res2 H2 locs2 st2 cx2 cy2 fs2 hr2 I2 L2 => ?_)
  obtain ⟨v2, rfl⟩ := hr2
  show W _ _ _ _ _ _ _ _ _ _ _ _ _ _ _ (F0 m 710 ls [.int v2])
  refine lv_istore (lv' := [(7, .int v2), (6, .int r1), (0, .ref b), (1, .ref ax), (2, .ref am), (3, .ref ao), (4, .ref ad), (5, .int (nI i))]) hx hb (show decode cL_law 710 = .ok (.istore 7, 2) from by decide +kernel) hl (by decide) rfl (fun ls hl => ?_)
  have h0 : ls[0]? = some (.val (.ref b)) := lv_at hl 2 rfl
  have h5 : ls[5]? = some (.val (.int (nI i))) := lv_at hl 7 rfl
  refine lv_goto (tgt := 2330) hx hb (show decode cL_law 712 = .ok (.goto 1618, 3) from by decide +kernel) (by decide) ?_
  refine W.widen (k := cells + 100) (n := slots + 1000) (by omega) (by omega) ?_
  exact k _ _ _ _ _ _ _ _ I2 L2 (lv_sub hl [2, 3, 4, 5, 6, 7] rfl)
set_option maxHeartbeats 4000000 in
theorem lc_10 (hl9 : l.stackTraces = false) (hLP : lw_st LP) (F : lw_Fm p R s m args c D tys cO cD A) (X : lw_X b Ln xs s A i) (L : lw_H D A s w H locs) (I : lw_I lw_E (lw_LA LP am ax ao ad qx qo qd) tys cO cD qx qo qd sh w st cx cy fs) (hl : lv_has ls 9 (lw_lv b ax am ao ad i)) (hcs : cells + 100 ≤ R.cells ∧ slots + 1000 ≤ R.slots)
    (k : ∀ (u : en_H × va_W) (H1 : Heap) (locs1 : List Loc) (ls1 : Array Slot) (st' : Nat) (cx' cy' : Int32) (fs' : List Value), lw_I lw_E (lw_LA LP am ax ao ad qx qo qd) tys cO cD qx qo qd u.1 u.2 st' cx' cy' fs' → lw_H D A s u.2 H1 locs1 → lv_has ls1 9 (lw_lv b ax am ao ad i) → W p l e R s m args below meth c H1 locs1 (cells + 100) (slots + 1000) Q (F0 m 2330 ls1 [])) :
    W p l e R s m args below meth c H locs cells slots Q (F0 m 715 ls []) := by
  have hx := F.hx
  have hb := F.hb
  have h0 : ls[0]? = some (.val (.ref b)) := lv_at hl 0 rfl
  have h5 : ls[5]? = some (.val (.int (nI i))) := lv_at hl 5 rfl
  refine lv_aload_n hx hb (show decode cL_law 715 = .ok (.aload_n 1, 1) from by decide +kernel) rfl (lv_at hl 1 rfl) ?_
  refine lv_aload_n hx hb (show decode cL_law 716 = .ok (.aload_n 3, 1) from by decide +kernel) rfl (lv_at hl 3 rfl) ?_
  obtain ⟨-, -, em, ex, eo, ed⟩ := I.hl
  rw [← ex, ← eo]
  refine lx_away hl9 (lw_LA_st hLP) F L I hl.1 ⟨by omega, by omega⟩ (fun u1 r1 H1 locs1 fs1 I1 L1 => ?_)
  refine lv_istore (lv' := [(6, .int r1), (0, .ref b), (1, .ref ax), (2, .ref am), (3, .ref ao), (4, .ref ad), (5, .int (nI i))]) hx hb (show decode cL_law 720 = .ok (.istore 6, 2) from by decide +kernel) hl (by decide) rfl (fun ls hl => ?_)
  have h0 : ls[0]? = some (.val (.ref b)) := lv_at hl 1 rfl
  have h5 : ls[5]? = some (.val (.int (nI i))) := lv_at hl 6 rfl
  refine lv_aload_n hx hb (show decode cL_law 722 = .ok (.aload_n 2, 1) from by decide +kernel) rfl (lv_at hl 3 rfl) ?_
  obtain ⟨-, -, em, ex, eo, ed⟩ := I1.hl
  rw [← em]
  refine lm_X7_away hl9 (lw_LA_st hLP) F L1 I1 hl.1 ⟨by omega, by omega⟩ (fun u2 res2 H2 locs2 st2 cx2 cy2 fs2 hr2 I2 L2 => ?_)
  obtain ⟨v2, rfl⟩ := hr2
  show W _ _ _ _ _ _ _ _ _ _ _ _ _ _ _ (F0 m 726 ls [.int v2])
  refine lv_istore (lv' := [(7, .int v2), (6, .int r1), (0, .ref b), (1, .ref ax), (2, .ref am), (3, .ref ao), (4, .ref ad), (5, .int (nI i))]) hx hb (show decode cL_law 726 = .ok (.istore 7, 2) from by decide +kernel) hl (by decide) rfl (fun ls hl => ?_)
  have h0 : ls[0]? = some (.val (.ref b)) := lv_at hl 2 rfl
  have h5 : ls[5]? = some (.val (.int (nI i))) := lv_at hl 7 rfl
  refine lv_goto (tgt := 2330) hx hb (show decode cL_law 728 = .ok (.goto 1602, 3) from by decide +kernel) (by decide) ?_
  refine W.widen (k := cells + 100) (n := slots + 1000) (by omega) (by omega) ?_
  exact k _ _ _ _ _ _ _ _ I2 L2 (lv_sub hl [2, 3, 4, 5, 6, 7] rfl)
set_option maxHeartbeats 4000000 in
theorem lc_11 (hl9 : l.stackTraces = false) (hLP : lw_st LP) (F : lw_Fm p R s m args c D tys cO cD A) (X : lw_X b Ln xs s A i) (L : lw_H D A s w H locs) (I : lw_I lw_E (lw_LA LP am ax ao ad qx qo qd) tys cO cD qx qo qd sh w st cx cy fs) (hl : lv_has ls 9 (lw_lv b ax am ao ad i)) (hcs : cells + 100 ≤ R.cells ∧ slots + 1000 ≤ R.slots)
    (k : ∀ (u : en_H × va_W) (H1 : Heap) (locs1 : List Loc) (ls1 : Array Slot) (st' : Nat) (cx' cy' : Int32) (fs' : List Value), lw_I lw_E (lw_LA LP am ax ao ad qx qo qd) tys cO cD qx qo qd u.1 u.2 st' cx' cy' fs' → lw_H D A s u.2 H1 locs1 → lv_has ls1 9 (lw_lv b ax am ao ad i) → W p l e R s m args below meth c H1 locs1 (cells + 100) (slots + 1000) Q (F0 m 2330 ls1 [])) :
    W p l e R s m args below meth c H locs cells slots Q (F0 m 731 ls []) := by
  have hx := F.hx
  have hb := F.hb
  have h0 : ls[0]? = some (.val (.ref b)) := lv_at hl 0 rfl
  have h5 : ls[5]? = some (.val (.int (nI i))) := lv_at hl 5 rfl
  refine lv_aload_n hx hb (show decode cL_law 731 = .ok (.aload_n 1, 1) from by decide +kernel) rfl (lv_at hl 1 rfl) ?_
  refine lw_ld (k := 1) (n := 1) hx hb X L.hS (by decide) h0 h5 (by decide) (by decide +kernel) ?_
  refine lw_ld (k := 2) (n := 2) hx hb X L.hS (by decide) h0 h5 (by decide) (by decide +kernel) ?_
  refine lw_ld (k := 3) (n := 3) hx hb X L.hS (by decide) h0 h5 (by decide) (by decide +kernel) ?_
  refine lv_aload_n hx hb (show decode cL_law 750 = .ok (.aload_n 3, 1) from by decide +kernel) rfl (lv_at hl 3 rfl) ?_
  obtain ⟨-, -, em, ex, eo, ed⟩ := I.hl
  rw [← ex, ← eo]
  refine lx_stroke hl9 (xs (i + 1)) (xs (i + 2)) (xs (i + 3)) (lw_LA_st hLP) F L I hl.1 ⟨by omega, by omega⟩ (fun u1 r1 H1 locs1 fs1 I1 L1 => ?_)
  refine lv_istore (lv' := [(6, .int r1), (0, .ref b), (1, .ref ax), (2, .ref am), (3, .ref ao), (4, .ref ad), (5, .int (nI i))]) hx hb (show decode cL_law 754 = .ok (.istore 6, 2) from by decide +kernel) hl (by decide) rfl (fun ls hl => ?_)
  have h0 : ls[0]? = some (.val (.ref b)) := lv_at hl 1 rfl
  have h5 : ls[5]? = some (.val (.int (nI i))) := lv_at hl 6 rfl
  refine lv_aload_n hx hb (show decode cL_law 756 = .ok (.aload_n 2, 1) from by decide +kernel) rfl (lv_at hl 3 rfl) ?_
  refine lw_ld (k := 1) (n := 1) hx hb X L1.hS (by decide) h0 h5 (by decide) (by decide +kernel) ?_
  refine lw_ld (k := 2) (n := 2) hx hb X L1.hS (by decide) h0 h5 (by decide) (by decide +kernel) ?_
  refine lw_ld (k := 3) (n := 3) hx hb X L1.hS (by decide) h0 h5 (by decide) (by decide +kernel) ?_
  obtain ⟨-, -, em, ex, eo, ed⟩ := I1.hl
  rw [← em]
  refine lm_X7_stroke hl9 (xs (i + 1)) (xs (i + 2)) (xs (i + 3)) (lw_LA_st hLP) F L1 I1 hl.1 ⟨by omega, by omega⟩ (fun u2 res2 H2 locs2 st2 cx2 cy2 fs2 hr2 I2 L2 => ?_)
  obtain ⟨v2, rfl⟩ := hr2
  show W _ _ _ _ _ _ _ _ _ _ _ _ _ _ _ (F0 m 778 ls [.int v2])
  refine lv_istore (lv' := [(7, .int v2), (6, .int r1), (0, .ref b), (1, .ref ax), (2, .ref am), (3, .ref ao), (4, .ref ad), (5, .int (nI i))]) hx hb (show decode cL_law 778 = .ok (.istore 7, 2) from by decide +kernel) hl (by decide) rfl (fun ls hl => ?_)
  have h0 : ls[0]? = some (.val (.ref b)) := lv_at hl 2 rfl
  have h5 : ls[5]? = some (.val (.int (nI i))) := lv_at hl 7 rfl
  refine lv_goto (tgt := 2330) hx hb (show decode cL_law 780 = .ok (.goto 1550, 3) from by decide +kernel) (by decide) ?_
  refine W.widen (k := cells + 100) (n := slots + 1000) (by omega) (by omega) ?_
  exact k _ _ _ _ _ _ _ _ I2 L2 (lv_sub hl [2, 3, 4, 5, 6, 7] rfl)
set_option maxHeartbeats 4000000 in
theorem lc_12 (hl9 : l.stackTraces = false) (hLP : lw_st LP) (F : lw_Fm p R s m args c D tys cO cD A) (X : lw_X b Ln xs s A i) (L : lw_H D A s w H locs) (I : lw_I lw_E (lw_LA LP am ax ao ad qx qo qd) tys cO cD qx qo qd sh w st cx cy fs) (hl : lv_has ls 9 (lw_lv b ax am ao ad i)) (hcs : cells + 100 ≤ R.cells ∧ slots + 1000 ≤ R.slots)
    (k : ∀ (u : en_H × va_W) (H1 : Heap) (locs1 : List Loc) (ls1 : Array Slot) (st' : Nat) (cx' cy' : Int32) (fs' : List Value), lw_I lw_E (lw_LA LP am ax ao ad qx qo qd) tys cO cD qx qo qd u.1 u.2 st' cx' cy' fs' → lw_H D A s u.2 H1 locs1 → lv_has ls1 9 (lw_lv b ax am ao ad i) → W p l e R s m args below meth c H1 locs1 (cells + 100) (slots + 1000) Q (F0 m 2330 ls1 [])) :
    W p l e R s m args below meth c H locs cells slots Q (F0 m 783 ls []) := by
  have hx := F.hx
  have hb := F.hb
  have h0 : ls[0]? = some (.val (.ref b)) := lv_at hl 0 rfl
  have h5 : ls[5]? = some (.val (.int (nI i))) := lv_at hl 5 rfl
  refine lv_aload_n hx hb (show decode cL_law 783 = .ok (.aload_n 1, 1) from by decide +kernel) rfl (lv_at hl 1 rfl) ?_
  refine lw_ld (k := 1) (n := 1) hx hb X L.hS (by decide) h0 h5 (by decide) (by decide +kernel) ?_
  refine lw_ld (k := 2) (n := 2) hx hb X L.hS (by decide) h0 h5 (by decide) (by decide +kernel) ?_
  refine lw_ld (k := 3) (n := 3) hx hb X L.hS (by decide) h0 h5 (by decide) (by decide +kernel) ?_
  refine lw_ld (k := 4) (n := 4) hx hb X L.hS (by decide) h0 h5 (by decide) (by decide +kernel) ?_
  refine lv_i2c hx hb (show decode cL_law 808 = .ok (.i2c, 1) from by decide +kernel) rfl ?_
  refine lv_aload_n hx hb (show decode cL_law 809 = .ok (.aload_n 3, 1) from by decide +kernel) rfl (lv_at hl 3 rfl) ?_
  obtain ⟨-, -, em, ex, eo, ed⟩ := I.hl
  rw [← ex, ← eo]
  refine lx_odds hl9 (xs (i + 1)) (xs (i + 2)) (xs (i + 3)) (((xs (i + 4))).toUInt32 % 65536).toInt32 (lw_c16 _) (lw_LA_st hLP) F L I hl.1 ⟨by omega, by omega⟩ (fun u1 r1 H1 locs1 fs1 I1 L1 => ?_)
  refine lv_istore (lv' := [(6, .int r1), (0, .ref b), (1, .ref ax), (2, .ref am), (3, .ref ao), (4, .ref ad), (5, .int (nI i))]) hx hb (show decode cL_law 813 = .ok (.istore 6, 2) from by decide +kernel) hl (by decide) rfl (fun ls hl => ?_)
  have h0 : ls[0]? = some (.val (.ref b)) := lv_at hl 1 rfl
  have h5 : ls[5]? = some (.val (.int (nI i))) := lv_at hl 6 rfl
  refine lv_aload_n hx hb (show decode cL_law 815 = .ok (.aload_n 2, 1) from by decide +kernel) rfl (lv_at hl 3 rfl) ?_
  refine lw_ld (k := 1) (n := 1) hx hb X L1.hS (by decide) h0 h5 (by decide) (by decide +kernel) ?_
  refine lw_ld (k := 2) (n := 2) hx hb X L1.hS (by decide) h0 h5 (by decide) (by decide +kernel) ?_
  refine lw_ld (k := 3) (n := 3) hx hb X L1.hS (by decide) h0 h5 (by decide) (by decide +kernel) ?_
  refine lw_ld (k := 4) (n := 4) hx hb X L1.hS (by decide) h0 h5 (by decide) (by decide +kernel) ?_
  refine lv_i2c hx hb (show decode cL_law 840 = .ok (.i2c, 1) from by decide +kernel) rfl ?_
  obtain ⟨-, -, em, ex, eo, ed⟩ := I1.hl
  rw [← em]
  refine lm_X7_odds hl9 (xs (i + 1)) (xs (i + 2)) (xs (i + 3)) (((xs (i + 4))).toUInt32 % 65536).toInt32 (lw_c16 _) (lw_LA_st hLP) F L1 I1 hl.1 ⟨by omega, by omega⟩ (fun u2 res2 H2 locs2 st2 cx2 cy2 fs2 hr2 I2 L2 => ?_)
  obtain ⟨v2, rfl⟩ := hr2
  show W _ _ _ _ _ _ _ _ _ _ _ _ _ _ _ (F0 m 844 ls [.int v2])
  refine lv_istore (lv' := [(7, .int v2), (6, .int r1), (0, .ref b), (1, .ref ax), (2, .ref am), (3, .ref ao), (4, .ref ad), (5, .int (nI i))]) hx hb (show decode cL_law 844 = .ok (.istore 7, 2) from by decide +kernel) hl (by decide) rfl (fun ls hl => ?_)
  have h0 : ls[0]? = some (.val (.ref b)) := lv_at hl 2 rfl
  have h5 : ls[5]? = some (.val (.int (nI i))) := lv_at hl 7 rfl
  refine lv_goto (tgt := 2330) hx hb (show decode cL_law 846 = .ok (.goto 1484, 3) from by decide +kernel) (by decide) ?_
  refine W.widen (k := cells + 100) (n := slots + 1000) (by omega) (by omega) ?_
  exact k _ _ _ _ _ _ _ _ I2 L2 (lv_sub hl [2, 3, 4, 5, 6, 7] rfl)
set_option maxHeartbeats 4000000 in
theorem lc_13 (hl9 : l.stackTraces = false) (hLP : lw_st LP) (F : lw_Fm p R s m args c D tys cO cD A) (X : lw_X b Ln xs s A i) (L : lw_H D A s w H locs) (I : lw_I lw_E (lw_LA LP am ax ao ad qx qo qd) tys cO cD qx qo qd sh w st cx cy fs) (hl : lv_has ls 9 (lw_lv b ax am ao ad i)) (hcs : cells + 100 ≤ R.cells ∧ slots + 1000 ≤ R.slots)
    (k : ∀ (u : en_H × va_W) (H1 : Heap) (locs1 : List Loc) (ls1 : Array Slot) (st' : Nat) (cx' cy' : Int32) (fs' : List Value), lw_I lw_E (lw_LA LP am ax ao ad qx qo qd) tys cO cD qx qo qd u.1 u.2 st' cx' cy' fs' → lw_H D A s u.2 H1 locs1 → lv_has ls1 9 (lw_lv b ax am ao ad i) → W p l e R s m args below meth c H1 locs1 (cells + 100) (slots + 1000) Q (F0 m 2330 ls1 [])) :
    W p l e R s m args below meth c H locs cells slots Q (F0 m 849 ls []) := by
  have hx := F.hx
  have hb := F.hb
  have h0 : ls[0]? = some (.val (.ref b)) := lv_at hl 0 rfl
  have h5 : ls[5]? = some (.val (.int (nI i))) := lv_at hl 5 rfl
  refine lv_aload_n hx hb (show decode cL_law 849 = .ok (.aload_n 1, 1) from by decide +kernel) rfl (lv_at hl 1 rfl) ?_
  refine lw_ld (k := 1) (n := 1) hx hb X L.hS (by decide) h0 h5 (by decide) (by decide +kernel) ?_
  refine lw_ld (k := 2) (n := 2) hx hb X L.hS (by decide) h0 h5 (by decide) (by decide +kernel) ?_
  refine lw_ld (k := 3) (n := 3) hx hb X L.hS (by decide) h0 h5 (by decide) (by decide +kernel) ?_
  refine lv_aload_n hx hb (show decode cL_law 868 = .ok (.aload_n 3, 1) from by decide +kernel) rfl (lv_at hl 3 rfl) ?_
  obtain ⟨-, -, em, ex, eo, ed⟩ := I.hl
  rw [← ex, ← eo]
  refine lx_provisional hl9 (xs (i + 1)) (xs (i + 2)) (xs (i + 3)) (lw_LA_st hLP) F L I hl.1 ⟨by omega, by omega⟩ (fun u1 r1 H1 locs1 fs1 I1 L1 => ?_)
  refine lv_istore (lv' := [(6, .int r1), (0, .ref b), (1, .ref ax), (2, .ref am), (3, .ref ao), (4, .ref ad), (5, .int (nI i))]) hx hb (show decode cL_law 872 = .ok (.istore 6, 2) from by decide +kernel) hl (by decide) rfl (fun ls hl => ?_)
  have h0 : ls[0]? = some (.val (.ref b)) := lv_at hl 1 rfl
  have h5 : ls[5]? = some (.val (.int (nI i))) := lv_at hl 6 rfl
  refine lv_aload_n hx hb (show decode cL_law 874 = .ok (.aload_n 2, 1) from by decide +kernel) rfl (lv_at hl 3 rfl) ?_
  refine lw_ld (k := 1) (n := 1) hx hb X L1.hS (by decide) h0 h5 (by decide) (by decide +kernel) ?_
  refine lw_ld (k := 2) (n := 2) hx hb X L1.hS (by decide) h0 h5 (by decide) (by decide +kernel) ?_
  refine lw_ld (k := 3) (n := 3) hx hb X L1.hS (by decide) h0 h5 (by decide) (by decide +kernel) ?_
  obtain ⟨-, -, em, ex, eo, ed⟩ := I1.hl
  rw [← em]
  refine lm_X7_provisional hl9 (xs (i + 1)) (xs (i + 2)) (xs (i + 3)) (lw_LA_st hLP) F L1 I1 hl.1 ⟨by omega, by omega⟩ (fun u2 res2 H2 locs2 st2 cx2 cy2 fs2 hr2 I2 L2 => ?_)
  obtain ⟨v2, rfl⟩ := hr2
  show W _ _ _ _ _ _ _ _ _ _ _ _ _ _ _ (F0 m 896 ls [.int v2])
  refine lv_istore (lv' := [(7, .int v2), (6, .int r1), (0, .ref b), (1, .ref ax), (2, .ref am), (3, .ref ao), (4, .ref ad), (5, .int (nI i))]) hx hb (show decode cL_law 896 = .ok (.istore 7, 2) from by decide +kernel) hl (by decide) rfl (fun ls hl => ?_)
  have h0 : ls[0]? = some (.val (.ref b)) := lv_at hl 2 rfl
  have h5 : ls[5]? = some (.val (.int (nI i))) := lv_at hl 7 rfl
  refine lv_goto (tgt := 2330) hx hb (show decode cL_law 898 = .ok (.goto 1432, 3) from by decide +kernel) (by decide) ?_
  refine W.widen (k := cells + 100) (n := slots + 1000) (by omega) (by omega) ?_
  exact k _ _ _ _ _ _ _ _ I2 L2 (lv_sub hl [2, 3, 4, 5, 6, 7] rfl)
set_option maxHeartbeats 4000000 in
theorem lc_14 (hl9 : l.stackTraces = false) (hLP : lw_st LP) (F : lw_Fm p R s m args c D tys cO cD A) (X : lw_X b Ln xs s A i) (L : lw_H D A s w H locs) (I : lw_I lw_E (lw_LA LP am ax ao ad qx qo qd) tys cO cD qx qo qd sh w st cx cy fs) (hl : lv_has ls 9 (lw_lv b ax am ao ad i)) (hcs : cells + 100 ≤ R.cells ∧ slots + 1000 ≤ R.slots)
    (k : ∀ (u : en_H × va_W) (H1 : Heap) (locs1 : List Loc) (ls1 : Array Slot) (st' : Nat) (cx' cy' : Int32) (fs' : List Value), lw_I lw_E (lw_LA LP am ax ao ad qx qo qd) tys cO cD qx qo qd u.1 u.2 st' cx' cy' fs' → lw_H D A s u.2 H1 locs1 → lv_has ls1 9 (lw_lv b ax am ao ad i) → W p l e R s m args below meth c H1 locs1 (cells + 100) (slots + 1000) Q (F0 m 2330 ls1 [])) :
    W p l e R s m args below meth c H locs cells slots Q (F0 m 901 ls []) := by
  have hx := F.hx
  have hb := F.hb
  have h0 : ls[0]? = some (.val (.ref b)) := lv_at hl 0 rfl
  have h5 : ls[5]? = some (.val (.int (nI i))) := lv_at hl 5 rfl
  refine lv_aload_n hx hb (show decode cL_law 901 = .ok (.aload_n 1, 1) from by decide +kernel) rfl (lv_at hl 1 rfl) ?_
  refine lw_ld (k := 1) (n := 1) hx hb X L.hS (by decide) h0 h5 (by decide) (by decide +kernel) ?_
  refine lv_aload_n hx hb (show decode cL_law 908 = .ok (.aload_n 3, 1) from by decide +kernel) rfl (lv_at hl 3 rfl) ?_
  obtain ⟨-, -, em, ex, eo, ed⟩ := I.hl
  rw [← ex, ← eo]
  refine lx_search hl9 (xs (i + 1)) (lw_LA_st hLP) F L I hl.1 ⟨by omega, by omega⟩ (fun u1 r1 H1 locs1 fs1 I1 L1 => ?_)
  refine lv_istore (lv' := [(6, .int r1), (0, .ref b), (1, .ref ax), (2, .ref am), (3, .ref ao), (4, .ref ad), (5, .int (nI i))]) hx hb (show decode cL_law 912 = .ok (.istore 6, 2) from by decide +kernel) hl (by decide) rfl (fun ls hl => ?_)
  have h0 : ls[0]? = some (.val (.ref b)) := lv_at hl 1 rfl
  have h5 : ls[5]? = some (.val (.int (nI i))) := lv_at hl 6 rfl
  refine lv_aload_n hx hb (show decode cL_law 914 = .ok (.aload_n 2, 1) from by decide +kernel) rfl (lv_at hl 3 rfl) ?_
  refine lw_ld (k := 1) (n := 1) hx hb X L1.hS (by decide) h0 h5 (by decide) (by decide +kernel) ?_
  obtain ⟨-, -, em, ex, eo, ed⟩ := I1.hl
  rw [← em]
  refine lm_X7_search hl9 (xs (i + 1)) (lw_LA_st hLP) F L1 I1 hl.1 ⟨by omega, by omega⟩ (fun u2 res2 H2 locs2 st2 cx2 cy2 fs2 hr2 I2 L2 => ?_)
  obtain ⟨v2, rfl⟩ := hr2
  show W _ _ _ _ _ _ _ _ _ _ _ _ _ _ _ (F0 m 924 ls [.int v2])
  refine lv_istore (lv' := [(7, .int v2), (6, .int r1), (0, .ref b), (1, .ref ax), (2, .ref am), (3, .ref ao), (4, .ref ad), (5, .int (nI i))]) hx hb (show decode cL_law 924 = .ok (.istore 7, 2) from by decide +kernel) hl (by decide) rfl (fun ls hl => ?_)
  have h0 : ls[0]? = some (.val (.ref b)) := lv_at hl 2 rfl
  have h5 : ls[5]? = some (.val (.int (nI i))) := lv_at hl 7 rfl
  refine lv_goto (tgt := 2330) hx hb (show decode cL_law 926 = .ok (.goto 1404, 3) from by decide +kernel) (by decide) ?_
  refine W.widen (k := cells + 100) (n := slots + 1000) (by omega) (by omega) ?_
  exact k _ _ _ _ _ _ _ _ I2 L2 (lv_sub hl [2, 3, 4, 5, 6, 7] rfl)
set_option maxHeartbeats 4000000 in
theorem lc_15 (hl9 : l.stackTraces = false) (hLP : lw_st LP) (F : lw_Fm p R s m args c D tys cO cD A) (X : lw_X b Ln xs s A i) (L : lw_H D A s w H locs) (I : lw_I lw_E (lw_LA LP am ax ao ad qx qo qd) tys cO cD qx qo qd sh w st cx cy fs) (hl : lv_has ls 9 (lw_lv b ax am ao ad i)) (hcs : cells + 100 ≤ R.cells ∧ slots + 1000 ≤ R.slots)
    (k : ∀ (u : en_H × va_W) (H1 : Heap) (locs1 : List Loc) (ls1 : Array Slot) (st' : Nat) (cx' cy' : Int32) (fs' : List Value), lw_I lw_E (lw_LA LP am ax ao ad qx qo qd) tys cO cD qx qo qd u.1 u.2 st' cx' cy' fs' → lw_H D A s u.2 H1 locs1 → lv_has ls1 9 (lw_lv b ax am ao ad i) → W p l e R s m args below meth c H1 locs1 (cells + 100) (slots + 1000) Q (F0 m 2330 ls1 [])) :
    W p l e R s m args below meth c H locs cells slots Q (F0 m 929 ls []) := by
  have hx := F.hx
  have hb := F.hb
  have h0 : ls[0]? = some (.val (.ref b)) := lv_at hl 0 rfl
  have h5 : ls[5]? = some (.val (.int (nI i))) := lv_at hl 5 rfl
  refine lv_aload_n hx hb (show decode cL_law 929 = .ok (.aload_n 1, 1) from by decide +kernel) rfl (lv_at hl 1 rfl) ?_
  refine lw_ld (k := 1) (n := 1) hx hb X L.hS (by decide) h0 h5 (by decide) (by decide +kernel) ?_
  refine lv_aload_n hx hb (show decode cL_law 936 = .ok (.aload_n 3, 1) from by decide +kernel) rfl (lv_at hl 3 rfl) ?_
  obtain ⟨-, -, em, ex, eo, ed⟩ := I.hl
  rw [← ex, ← eo]
  refine lx_again hl9 (xs (i + 1)) (lw_LA_st hLP) F L I hl.1 ⟨by omega, by omega⟩ (fun u1 r1 H1 locs1 fs1 I1 L1 => ?_)
  refine lv_istore (lv' := [(6, .int r1), (0, .ref b), (1, .ref ax), (2, .ref am), (3, .ref ao), (4, .ref ad), (5, .int (nI i))]) hx hb (show decode cL_law 940 = .ok (.istore 6, 2) from by decide +kernel) hl (by decide) rfl (fun ls hl => ?_)
  have h0 : ls[0]? = some (.val (.ref b)) := lv_at hl 1 rfl
  have h5 : ls[5]? = some (.val (.int (nI i))) := lv_at hl 6 rfl
  refine lv_aload_n hx hb (show decode cL_law 942 = .ok (.aload_n 2, 1) from by decide +kernel) rfl (lv_at hl 3 rfl) ?_
  refine lw_ld (k := 1) (n := 1) hx hb X L1.hS (by decide) h0 h5 (by decide) (by decide +kernel) ?_
  obtain ⟨-, -, em, ex, eo, ed⟩ := I1.hl
  rw [← em]
  refine lm_X7_again hl9 (xs (i + 1)) (lw_LA_st hLP) F L1 I1 hl.1 ⟨by omega, by omega⟩ (fun u2 res2 H2 locs2 st2 cx2 cy2 fs2 hr2 I2 L2 => ?_)
  obtain ⟨v2, rfl⟩ := hr2
  show W _ _ _ _ _ _ _ _ _ _ _ _ _ _ _ (F0 m 952 ls [.int v2])
  refine lv_istore (lv' := [(7, .int v2), (6, .int r1), (0, .ref b), (1, .ref ax), (2, .ref am), (3, .ref ao), (4, .ref ad), (5, .int (nI i))]) hx hb (show decode cL_law 952 = .ok (.istore 7, 2) from by decide +kernel) hl (by decide) rfl (fun ls hl => ?_)
  have h0 : ls[0]? = some (.val (.ref b)) := lv_at hl 2 rfl
  have h5 : ls[5]? = some (.val (.int (nI i))) := lv_at hl 7 rfl
  refine lv_goto (tgt := 2330) hx hb (show decode cL_law 954 = .ok (.goto 1376, 3) from by decide +kernel) (by decide) ?_
  refine W.widen (k := cells + 100) (n := slots + 1000) (by omega) (by omega) ?_
  exact k _ _ _ _ _ _ _ _ I2 L2 (lv_sub hl [2, 3, 4, 5, 6, 7] rfl)
set_option maxHeartbeats 4000000 in
theorem lc_16 (hl9 : l.stackTraces = false) (hLP : lw_st LP) (F : lw_Fm p R s m args c D tys cO cD A) (X : lw_X b Ln xs s A i) (L : lw_H D A s w H locs) (I : lw_I lw_E (lw_LA LP am ax ao ad qx qo qd) tys cO cD qx qo qd sh w st cx cy fs) (hl : lv_has ls 9 (lw_lv b ax am ao ad i)) (hcs : cells + 100 ≤ R.cells ∧ slots + 1000 ≤ R.slots)
    (k : ∀ (u : en_H × va_W) (H1 : Heap) (locs1 : List Loc) (ls1 : Array Slot) (st' : Nat) (cx' cy' : Int32) (fs' : List Value), lw_I lw_E (lw_LA LP am ax ao ad qx qo qd) tys cO cD qx qo qd u.1 u.2 st' cx' cy' fs' → lw_H D A s u.2 H1 locs1 → lv_has ls1 9 (lw_lv b ax am ao ad i) → W p l e R s m args below meth c H1 locs1 (cells + 100) (slots + 1000) Q (F0 m 2330 ls1 [])) :
    W p l e R s m args below meth c H locs cells slots Q (F0 m 957 ls []) := by
  have hx := F.hx
  have hb := F.hb
  have h0 : ls[0]? = some (.val (.ref b)) := lv_at hl 0 rfl
  have h5 : ls[5]? = some (.val (.int (nI i))) := lv_at hl 5 rfl
  refine lv_aload_n hx hb (show decode cL_law 957 = .ok (.aload_n 1, 1) from by decide +kernel) rfl (lv_at hl 1 rfl) ?_
  refine lw_ld (k := 1) (n := 1) hx hb X L.hS (by decide) h0 h5 (by decide) (by decide +kernel) ?_
  refine lw_ld (k := 2) (n := 2) hx hb X L.hS (by decide) h0 h5 (by decide) (by decide +kernel) ?_
  refine lv_aload_n hx hb (show decode cL_law 970 = .ok (.aload_n 3, 1) from by decide +kernel) rfl (lv_at hl 3 rfl) ?_
  obtain ⟨-, -, em, ex, eo, ed⟩ := I.hl
  rw [← ex, ← eo]
  refine lx_line hl9 (xs (i + 1)) (xs (i + 2)) (lw_LA_st hLP) F L I hl.1 ⟨by omega, by omega⟩ (fun u1 r1 H1 locs1 fs1 I1 L1 => ?_)
  refine lv_istore (lv' := [(6, .int r1), (0, .ref b), (1, .ref ax), (2, .ref am), (3, .ref ao), (4, .ref ad), (5, .int (nI i))]) hx hb (show decode cL_law 974 = .ok (.istore 6, 2) from by decide +kernel) hl (by decide) rfl (fun ls hl => ?_)
  have h0 : ls[0]? = some (.val (.ref b)) := lv_at hl 1 rfl
  have h5 : ls[5]? = some (.val (.int (nI i))) := lv_at hl 6 rfl
  refine lv_aload_n hx hb (show decode cL_law 976 = .ok (.aload_n 2, 1) from by decide +kernel) rfl (lv_at hl 3 rfl) ?_
  refine lw_ld (k := 1) (n := 1) hx hb X L1.hS (by decide) h0 h5 (by decide) (by decide +kernel) ?_
  refine lw_ld (k := 2) (n := 2) hx hb X L1.hS (by decide) h0 h5 (by decide) (by decide +kernel) ?_
  obtain ⟨-, -, em, ex, eo, ed⟩ := I1.hl
  rw [← em]
  refine lm_X7_line hl9 (xs (i + 1)) (xs (i + 2)) (lw_LA_st hLP) F L1 I1 hl.1 ⟨by omega, by omega⟩ (fun u2 res2 H2 locs2 st2 cx2 cy2 fs2 hr2 I2 L2 => ?_)
  obtain ⟨v2, rfl⟩ := hr2
  show W _ _ _ _ _ _ _ _ _ _ _ _ _ _ _ (F0 m 992 ls [.int v2])
  refine lv_istore (lv' := [(7, .int v2), (6, .int r1), (0, .ref b), (1, .ref ax), (2, .ref am), (3, .ref ao), (4, .ref ad), (5, .int (nI i))]) hx hb (show decode cL_law 992 = .ok (.istore 7, 2) from by decide +kernel) hl (by decide) rfl (fun ls hl => ?_)
  have h0 : ls[0]? = some (.val (.ref b)) := lv_at hl 2 rfl
  have h5 : ls[5]? = some (.val (.int (nI i))) := lv_at hl 7 rfl
  refine lv_goto (tgt := 2330) hx hb (show decode cL_law 994 = .ok (.goto 1336, 3) from by decide +kernel) (by decide) ?_
  refine W.widen (k := cells + 100) (n := slots + 1000) (by omega) (by omega) ?_
  exact k _ _ _ _ _ _ _ _ I2 L2 (lv_sub hl [2, 3, 4, 5, 6, 7] rfl)
set_option maxHeartbeats 4000000 in
theorem lc_17 (hl9 : l.stackTraces = false) (hLP : lw_st LP) (F : lw_Fm p R s m args c D tys cO cD A) (X : lw_X b Ln xs s A i) (L : lw_H D A s w H locs) (I : lw_I lw_E (lw_LA LP am ax ao ad qx qo qd) tys cO cD qx qo qd sh w st cx cy fs) (hl : lv_has ls 9 (lw_lv b ax am ao ad i)) (hcs : cells + 100 ≤ R.cells ∧ slots + 1000 ≤ R.slots)
    (k : ∀ (u : en_H × va_W) (H1 : Heap) (locs1 : List Loc) (ls1 : Array Slot) (st' : Nat) (cx' cy' : Int32) (fs' : List Value), lw_I lw_E (lw_LA LP am ax ao ad qx qo qd) tys cO cD qx qo qd u.1 u.2 st' cx' cy' fs' → lw_H D A s u.2 H1 locs1 → lv_has ls1 9 (lw_lv b ax am ao ad i) → W p l e R s m args below meth c H1 locs1 (cells + 100) (slots + 1000) Q (F0 m 2330 ls1 [])) :
    W p l e R s m args below meth c H locs cells slots Q (F0 m 997 ls []) := by
  have hx := F.hx
  have hb := F.hb
  have h0 : ls[0]? = some (.val (.ref b)) := lv_at hl 0 rfl
  have h5 : ls[5]? = some (.val (.int (nI i))) := lv_at hl 5 rfl
  refine lv_aload_n hx hb (show decode cL_law 997 = .ok (.aload_n 1, 1) from by decide +kernel) rfl (lv_at hl 1 rfl) ?_
  refine lw_ld (k := 1) (n := 1) hx hb X L.hS (by decide) h0 h5 (by decide) (by decide +kernel) ?_
  refine lw_ld (k := 2) (n := 2) hx hb X L.hS (by decide) h0 h5 (by decide) (by decide +kernel) ?_
  refine lw_ld (k := 3) (n := 3) hx hb X L.hS (by decide) h0 h5 (by decide) (by decide +kernel) ?_
  refine lv_aload_n hx hb (show decode cL_law 1016 = .ok (.aload_n 3, 1) from by decide +kernel) rfl (lv_at hl 3 rfl) ?_
  obtain ⟨-, -, em, ex, eo, ed⟩ := I.hl
  rw [← ex, ← eo]
  refine lx_aside hl9 (xs (i + 1)) (xs (i + 2)) (xs (i + 3)) (lw_LA_st hLP) F L I hl.1 ⟨by omega, by omega⟩ (fun u1 r1 H1 locs1 fs1 I1 L1 => ?_)
  refine lv_istore (lv' := [(6, .int r1), (0, .ref b), (1, .ref ax), (2, .ref am), (3, .ref ao), (4, .ref ad), (5, .int (nI i))]) hx hb (show decode cL_law 1020 = .ok (.istore 6, 2) from by decide +kernel) hl (by decide) rfl (fun ls hl => ?_)
  have h0 : ls[0]? = some (.val (.ref b)) := lv_at hl 1 rfl
  have h5 : ls[5]? = some (.val (.int (nI i))) := lv_at hl 6 rfl
  refine lv_aload_n hx hb (show decode cL_law 1022 = .ok (.aload_n 2, 1) from by decide +kernel) rfl (lv_at hl 3 rfl) ?_
  refine lw_ld (k := 1) (n := 1) hx hb X L1.hS (by decide) h0 h5 (by decide) (by decide +kernel) ?_
  refine lw_ld (k := 2) (n := 2) hx hb X L1.hS (by decide) h0 h5 (by decide) (by decide +kernel) ?_
  refine lw_ld (k := 3) (n := 3) hx hb X L1.hS (by decide) h0 h5 (by decide) (by decide +kernel) ?_
  obtain ⟨-, -, em, ex, eo, ed⟩ := I1.hl
  rw [← em]
  refine lm_X7_aside hl9 (xs (i + 1)) (xs (i + 2)) (xs (i + 3)) (lw_LA_st hLP) F L1 I1 hl.1 ⟨by omega, by omega⟩ (fun u2 res2 H2 locs2 st2 cx2 cy2 fs2 hr2 I2 L2 => ?_)
  obtain ⟨v2, rfl⟩ := hr2
  show W _ _ _ _ _ _ _ _ _ _ _ _ _ _ _ (F0 m 1044 ls [.int v2])
  refine lv_istore (lv' := [(7, .int v2), (6, .int r1), (0, .ref b), (1, .ref ax), (2, .ref am), (3, .ref ao), (4, .ref ad), (5, .int (nI i))]) hx hb (show decode cL_law 1044 = .ok (.istore 7, 2) from by decide +kernel) hl (by decide) rfl (fun ls hl => ?_)
  have h0 : ls[0]? = some (.val (.ref b)) := lv_at hl 2 rfl
  have h5 : ls[5]? = some (.val (.int (nI i))) := lv_at hl 7 rfl
  refine lv_goto (tgt := 2330) hx hb (show decode cL_law 1046 = .ok (.goto 1284, 3) from by decide +kernel) (by decide) ?_
  refine W.widen (k := cells + 100) (n := slots + 1000) (by omega) (by omega) ?_
  exact k _ _ _ _ _ _ _ _ I2 L2 (lv_sub hl [2, 3, 4, 5, 6, 7] rfl)
end
