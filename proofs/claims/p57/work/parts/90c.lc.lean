section
variable {p : Program} {l : Launch} {e : Env} {R : Room} {s : State} {m : MethodId} {args : Array Value} {below : List Frame} {meth : Method} {c : Code} {Q : State → Prop}
variable {D : va_G} {tys : List (ClassId × FieldType)} {cO cD : ClassId} {A : Nat → Prop} {sh : en_H} {w : va_W} {H : Heap} {locs : List Loc} {ls : Array Slot} {cells slots qx qo qd : Nat} {LP : en_H → va_W → Prop} {am ax ao ad b Ln i st : Nat} {xs : Nat → Int32} {cx cy : Int32} {fs : List Value}
set_option maxHeartbeats 4000000 in
theorem lc_28 (hl9 : l.stackTraces = false) (hLP : lw_st LP) (F : lw_Fm p R s m args c D tys cO cD A) (X : lw_X b Ln xs s A i) (L : lw_H D A s w H locs) (I : lw_I lw_E (lw_LA LP am ax ao ad qx qo qd) tys cO cD qx qo qd sh w st cx cy fs) (hl : lv_has ls 9 (lw_lv b ax am ao ad i)) (hcs : cells + 100 ≤ R.cells ∧ slots + 1000 ≤ R.slots)
    (k : ∀ (u : en_H × va_W) (H1 : Heap) (locs1 : List Loc) (ls1 : Array Slot) (st' : Nat) (cx' cy' : Int32) (fs' : List Value), lw_I lw_E (lw_LA LP am ax ao ad qx qo qd) tys cO cD qx qo qd u.1 u.2 st' cx' cy' fs' → lw_H D A s u.2 H1 locs1 → lv_has ls1 9 (lw_lv b ax am ao ad i) → W p l e R s m args below meth c H1 locs1 (cells + 100) (slots + 1000) Q (F0 m 2329 ls1 [])) :
    W p l e R s m args below meth c H locs cells slots Q (F0 m 1485 ls []) := by
  have hx := F.hx
  have hb := F.hb
  have h0 : ls[0]? = some (.val (.ref b)) := lv_at hl 0 rfl
  have h5 : ls[5]? = some (.val (.int (nI i))) := lv_at hl 5 rfl
  refine lv_aload_n hx hb (show decode cL_law 1485 = .ok (.aload_n 1, 1) from by decide +kernel) rfl (lv_at hl 1 rfl) ?_
  refine lv_aload_n hx hb (show decode cL_law 1486 = .ok (.aload_n 3, 1) from by decide +kernel) rfl (lv_at hl 3 rfl) ?_
  obtain ⟨-, -, em, ex, eo, ed⟩ := I.hl
  rw [← ex, ← eo]
  refine lx_nextHole hl9 (lw_LA_st hLP) F L I hl.1 ⟨by omega, by omega⟩ (fun u1 r1 H1 locs1 fs1 I1 L1 => ?_)
  refine lv_istore (lv' := [(6, .int r1), (0, .ref b), (1, .ref ax), (2, .ref am), (3, .ref ao), (4, .ref ad), (5, .int (nI i))]) hx hb (show decode cL_law 1490 = .ok (.istore 6, 2) from by decide +kernel) hl (by decide) rfl (fun ls hl => ?_)
  have h0 : ls[0]? = some (.val (.ref b)) := lv_at hl 1 rfl
  have h5 : ls[5]? = some (.val (.int (nI i))) := lv_at hl 6 rfl
  refine lv_aload_n hx hb (show decode cL_law 1492 = .ok (.aload_n 2, 1) from by decide +kernel) rfl (lv_at hl 3 rfl) ?_
  obtain ⟨-, -, em, ex, eo, ed⟩ := I1.hl
  rw [← em]
  refine lm_X7_nextHole hl9 (lw_LA_st hLP) F L1 I1 hl.1 ⟨by omega, by omega⟩ (fun u2 res2 H2 locs2 st2 cx2 cy2 fs2 hr2 I2 L2 => ?_)
  obtain ⟨v2, rfl⟩ := hr2
  show W _ _ _ _ _ _ _ _ _ _ _ _ _ _ _ (F0 m 1496 ls [.int v2])
  refine lv_istore (lv' := [(7, .int v2), (6, .int r1), (0, .ref b), (1, .ref ax), (2, .ref am), (3, .ref ao), (4, .ref ad), (5, .int (nI i))]) hx hb (show decode cL_law 1496 = .ok (.istore 7, 2) from by decide +kernel) hl (by decide) rfl (fun ls hl => ?_)
  have h0 : ls[0]? = some (.val (.ref b)) := lv_at hl 2 rfl
  have h5 : ls[5]? = some (.val (.int (nI i))) := lv_at hl 7 rfl
  refine lv_goto (tgt := 2329) hx hb (show decode cL_law 1498 = .ok (.goto 831, 3) from by decide +kernel) (by decide) ?_
  refine W.widen (k := cells + 100) (n := slots + 1000) (by omega) (by omega) ?_
  exact k _ _ _ _ _ _ _ _ I2 L2 (lv_sub hl [2, 3, 4, 5, 6, 7] rfl)
set_option maxHeartbeats 4000000 in
theorem lc_29 (hl9 : l.stackTraces = false) (hLP : lw_st LP) (F : lw_Fm p R s m args c D tys cO cD A) (X : lw_X b Ln xs s A i) (L : lw_H D A s w H locs) (I : lw_I lw_E (lw_LA LP am ax ao ad qx qo qd) tys cO cD qx qo qd sh w st cx cy fs) (hl : lv_has ls 9 (lw_lv b ax am ao ad i)) (hcs : cells + 100 ≤ R.cells ∧ slots + 1000 ≤ R.slots)
    (k : ∀ (u : en_H × va_W) (H1 : Heap) (locs1 : List Loc) (ls1 : Array Slot) (st' : Nat) (cx' cy' : Int32) (fs' : List Value), lw_I lw_E (lw_LA LP am ax ao ad qx qo qd) tys cO cD qx qo qd u.1 u.2 st' cx' cy' fs' → lw_H D A s u.2 H1 locs1 → lv_has ls1 9 (lw_lv b ax am ao ad i) → W p l e R s m args below meth c H1 locs1 (cells + 100) (slots + 1000) Q (F0 m 2329 ls1 [])) :
    W p l e R s m args below meth c H locs cells slots Q (F0 m 1501 ls []) := by
  have hx := F.hx
  have hb := F.hb
  have h0 : ls[0]? = some (.val (.ref b)) := lv_at hl 0 rfl
  have h5 : ls[5]? = some (.val (.int (nI i))) := lv_at hl 5 rfl
  refine lv_aload_n hx hb (show decode cL_law 1501 = .ok (.aload_n 1, 1) from by decide +kernel) rfl (lv_at hl 1 rfl) ?_
  refine lw_ld (k := 1) (n := 1) hx hb X L.hS (by decide) h0 h5 (by decide) (by decide +kernel) ?_
  refine lv_aload_n hx hb (show decode cL_law 1508 = .ok (.aload_n 3, 1) from by decide +kernel) rfl (lv_at hl 3 rfl) ?_
  obtain ⟨-, -, em, ex, eo, ed⟩ := I.hl
  rw [← ex, ← eo]
  refine lx_state hl9 (xs (i + 1)) (lw_LA_st hLP) F L I hl.1 ⟨by omega, by omega⟩ (fun u1 r1 H1 locs1 fs1 I1 L1 => ?_)
  refine lv_istore (lv' := [(6, .int r1), (0, .ref b), (1, .ref ax), (2, .ref am), (3, .ref ao), (4, .ref ad), (5, .int (nI i))]) hx hb (show decode cL_law 1512 = .ok (.istore 6, 2) from by decide +kernel) hl (by decide) rfl (fun ls hl => ?_)
  have h0 : ls[0]? = some (.val (.ref b)) := lv_at hl 1 rfl
  have h5 : ls[5]? = some (.val (.int (nI i))) := lv_at hl 6 rfl
  refine lv_aload_n hx hb (show decode cL_law 1514 = .ok (.aload_n 2, 1) from by decide +kernel) rfl (lv_at hl 3 rfl) ?_
  refine lw_ld (k := 1) (n := 1) hx hb X L1.hS (by decide) h0 h5 (by decide) (by decide +kernel) ?_
  obtain ⟨-, -, em, ex, eo, ed⟩ := I1.hl
  rw [← em]
  refine lm_X7_state hl9 (xs (i + 1)) (lw_LA_st hLP) F L1 I1 hl.1 ⟨by omega, by omega⟩ (fun u2 res2 H2 locs2 st2 cx2 cy2 fs2 hr2 I2 L2 => ?_)
  obtain ⟨v2, rfl⟩ := hr2
  show W _ _ _ _ _ _ _ _ _ _ _ _ _ _ _ (F0 m 1524 ls [.int v2])
  refine lv_istore (lv' := [(7, .int v2), (6, .int r1), (0, .ref b), (1, .ref ax), (2, .ref am), (3, .ref ao), (4, .ref ad), (5, .int (nI i))]) hx hb (show decode cL_law 1524 = .ok (.istore 7, 2) from by decide +kernel) hl (by decide) rfl (fun ls hl => ?_)
  have h0 : ls[0]? = some (.val (.ref b)) := lv_at hl 2 rfl
  have h5 : ls[5]? = some (.val (.int (nI i))) := lv_at hl 7 rfl
  refine lv_goto (tgt := 2329) hx hb (show decode cL_law 1526 = .ok (.goto 803, 3) from by decide +kernel) (by decide) ?_
  refine W.widen (k := cells + 100) (n := slots + 1000) (by omega) (by omega) ?_
  exact k _ _ _ _ _ _ _ _ I2 L2 (lv_sub hl [2, 3, 4, 5, 6, 7] rfl)
set_option maxHeartbeats 4000000 in
theorem lc_30 (hl9 : l.stackTraces = false) (hLP : lw_st LP) (F : lw_Fm p R s m args c D tys cO cD A) (X : lw_X b Ln xs s A i) (L : lw_H D A s w H locs) (I : lw_I lw_E (lw_LA LP am ax ao ad qx qo qd) tys cO cD qx qo qd sh w st cx cy fs) (hl : lv_has ls 9 (lw_lv b ax am ao ad i)) (hcs : cells + 100 ≤ R.cells ∧ slots + 1000 ≤ R.slots)
    (k : ∀ (u : en_H × va_W) (H1 : Heap) (locs1 : List Loc) (ls1 : Array Slot) (st' : Nat) (cx' cy' : Int32) (fs' : List Value), lw_I lw_E (lw_LA LP am ax ao ad qx qo qd) tys cO cD qx qo qd u.1 u.2 st' cx' cy' fs' → lw_H D A s u.2 H1 locs1 → lv_has ls1 9 (lw_lv b ax am ao ad i) → W p l e R s m args below meth c H1 locs1 (cells + 100) (slots + 1000) Q (F0 m 2329 ls1 [])) :
    W p l e R s m args below meth c H locs cells slots Q (F0 m 1529 ls []) := by
  have hx := F.hx
  have hb := F.hb
  have h0 : ls[0]? = some (.val (.ref b)) := lv_at hl 0 rfl
  have h5 : ls[5]? = some (.val (.int (nI i))) := lv_at hl 5 rfl
  refine lv_aload_n hx hb (show decode cL_law 1529 = .ok (.aload_n 1, 1) from by decide +kernel) rfl (lv_at hl 1 rfl) ?_
  refine lw_ld (k := 1) (n := 1) hx hb X L.hS (by decide) h0 h5 (by decide) (by decide +kernel) ?_
  refine lw_ld (k := 2) (n := 2) hx hb X L.hS (by decide) h0 h5 (by decide) (by decide +kernel) ?_
  refine lw_tv hx hb (by decide +kernel) ?_
  refine lv_aload_n hx hb (show decode cL_law 1550 = .ok (.aload_n 3, 1) from by decide +kernel) rfl (lv_at hl 3 rfl) ?_
  obtain ⟨-, -, em, ex, eo, ed⟩ := I.hl
  rw [← ex, ← eo]
  refine lx_lie hl9 (xs (i + 1)) (lw_bv (xs (i + 2))) (lw_bv_b _) (lw_LA_st hLP) F L I hl.1 ⟨by omega, by omega⟩ (fun u1 r1 H1 locs1 fs1 I1 L1 => ?_)
  refine lv_istore (lv' := [(6, .int r1), (0, .ref b), (1, .ref ax), (2, .ref am), (3, .ref ao), (4, .ref ad), (5, .int (nI i))]) hx hb (show decode cL_law 1554 = .ok (.istore 6, 2) from by decide +kernel) hl (by decide) rfl (fun ls hl => ?_)
  have h0 : ls[0]? = some (.val (.ref b)) := lv_at hl 1 rfl
  have h5 : ls[5]? = some (.val (.int (nI i))) := lv_at hl 6 rfl
  refine lv_aload_n hx hb (show decode cL_law 1556 = .ok (.aload_n 2, 1) from by decide +kernel) rfl (lv_at hl 3 rfl) ?_
  refine lw_ld (k := 1) (n := 1) hx hb X L1.hS (by decide) h0 h5 (by decide) (by decide +kernel) ?_
  refine lw_ld (k := 2) (n := 2) hx hb X L1.hS (by decide) h0 h5 (by decide) (by decide +kernel) ?_
  refine lw_tv hx hb (by decide +kernel) ?_
  obtain ⟨-, -, em, ex, eo, ed⟩ := I1.hl
  rw [← em]
  refine lm_X7_lie hl9 (xs (i + 1)) (lw_bv (xs (i + 2))) (lw_bv_b _) (lw_LA_st hLP) F L1 I1 hl.1 ⟨by omega, by omega⟩ (fun u2 res2 H2 locs2 st2 cx2 cy2 fs2 hr2 I2 L2 => ?_)
  obtain ⟨v2, rfl⟩ := hr2
  show W _ _ _ _ _ _ _ _ _ _ _ _ _ _ _ (F0 m 1580 ls [.int v2])
  refine lv_istore (lv' := [(7, .int v2), (6, .int r1), (0, .ref b), (1, .ref ax), (2, .ref am), (3, .ref ao), (4, .ref ad), (5, .int (nI i))]) hx hb (show decode cL_law 1580 = .ok (.istore 7, 2) from by decide +kernel) hl (by decide) rfl (fun ls hl => ?_)
  have h0 : ls[0]? = some (.val (.ref b)) := lv_at hl 2 rfl
  have h5 : ls[5]? = some (.val (.int (nI i))) := lv_at hl 7 rfl
  refine lv_goto (tgt := 2329) hx hb (show decode cL_law 1582 = .ok (.goto 747, 3) from by decide +kernel) (by decide) ?_
  refine W.widen (k := cells + 100) (n := slots + 1000) (by omega) (by omega) ?_
  exact k _ _ _ _ _ _ _ _ I2 L2 (lv_sub hl [2, 3, 4, 5, 6, 7] rfl)
set_option maxHeartbeats 4000000 in
theorem lc_31 (hl9 : l.stackTraces = false) (hLP : lw_st LP) (F : lw_Fm p R s m args c D tys cO cD A) (X : lw_X b Ln xs s A i) (L : lw_H D A s w H locs) (I : lw_I lw_E (lw_LA LP am ax ao ad qx qo qd) tys cO cD qx qo qd sh w st cx cy fs) (hl : lv_has ls 9 (lw_lv b ax am ao ad i)) (hcs : cells + 100 ≤ R.cells ∧ slots + 1000 ≤ R.slots)
    (k : ∀ (u : en_H × va_W) (H1 : Heap) (locs1 : List Loc) (ls1 : Array Slot) (st' : Nat) (cx' cy' : Int32) (fs' : List Value), lw_I lw_E (lw_LA LP am ax ao ad qx qo qd) tys cO cD qx qo qd u.1 u.2 st' cx' cy' fs' → lw_H D A s u.2 H1 locs1 → lv_has ls1 9 (lw_lv b ax am ao ad i) → W p l e R s m args below meth c H1 locs1 (cells + 100) (slots + 1000) Q (F0 m 2329 ls1 [])) :
    W p l e R s m args below meth c H locs cells slots Q (F0 m 1585 ls []) := by
  have hx := F.hx
  have hb := F.hb
  have h0 : ls[0]? = some (.val (.ref b)) := lv_at hl 0 rfl
  have h5 : ls[5]? = some (.val (.int (nI i))) := lv_at hl 5 rfl
  refine lv_aload_n hx hb (show decode cL_law 1585 = .ok (.aload_n 1, 1) from by decide +kernel) rfl (lv_at hl 1 rfl) ?_
  refine lw_ld (k := 1) (n := 1) hx hb X L.hS (by decide) h0 h5 (by decide) (by decide +kernel) ?_
  refine lv_aload_n hx hb (show decode cL_law 1592 = .ok (.aload_n 3, 1) from by decide +kernel) rfl (lv_at hl 3 rfl) ?_
  obtain ⟨-, -, em, ex, eo, ed⟩ := I.hl
  rw [← ex, ← eo]
  refine lx_strokes hl9 (xs (i + 1)) (lw_LA_st hLP) F L I hl.1 ⟨by omega, by omega⟩ (fun u1 r1 H1 locs1 fs1 I1 L1 => ?_)
  refine lv_istore (lv' := [(6, .int r1), (0, .ref b), (1, .ref ax), (2, .ref am), (3, .ref ao), (4, .ref ad), (5, .int (nI i))]) hx hb (show decode cL_law 1596 = .ok (.istore 6, 2) from by decide +kernel) hl (by decide) rfl (fun ls hl => ?_)
  have h0 : ls[0]? = some (.val (.ref b)) := lv_at hl 1 rfl
  have h5 : ls[5]? = some (.val (.int (nI i))) := lv_at hl 6 rfl
  refine lv_aload_n hx hb (show decode cL_law 1598 = .ok (.aload_n 2, 1) from by decide +kernel) rfl (lv_at hl 3 rfl) ?_
  refine lw_ld (k := 1) (n := 1) hx hb X L1.hS (by decide) h0 h5 (by decide) (by decide +kernel) ?_
  obtain ⟨-, -, em, ex, eo, ed⟩ := I1.hl
  rw [← em]
  refine lm_X7_strokes hl9 (xs (i + 1)) (lw_LA_st hLP) F L1 I1 hl.1 ⟨by omega, by omega⟩ (fun u2 res2 H2 locs2 st2 cx2 cy2 fs2 hr2 I2 L2 => ?_)
  obtain ⟨v2, rfl⟩ := hr2
  show W _ _ _ _ _ _ _ _ _ _ _ _ _ _ _ (F0 m 1608 ls [.int v2])
  refine lv_istore (lv' := [(7, .int v2), (6, .int r1), (0, .ref b), (1, .ref ax), (2, .ref am), (3, .ref ao), (4, .ref ad), (5, .int (nI i))]) hx hb (show decode cL_law 1608 = .ok (.istore 7, 2) from by decide +kernel) hl (by decide) rfl (fun ls hl => ?_)
  have h0 : ls[0]? = some (.val (.ref b)) := lv_at hl 2 rfl
  have h5 : ls[5]? = some (.val (.int (nI i))) := lv_at hl 7 rfl
  refine lv_goto (tgt := 2329) hx hb (show decode cL_law 1610 = .ok (.goto 719, 3) from by decide +kernel) (by decide) ?_
  refine W.widen (k := cells + 100) (n := slots + 1000) (by omega) (by omega) ?_
  exact k _ _ _ _ _ _ _ _ I2 L2 (lv_sub hl [2, 3, 4, 5, 6, 7] rfl)
set_option maxHeartbeats 4000000 in
theorem lc_32 (hl9 : l.stackTraces = false) (hLP : lw_st LP) (F : lw_Fm p R s m args c D tys cO cD A) (X : lw_X b Ln xs s A i) (L : lw_H D A s w H locs) (I : lw_I lw_E (lw_LA LP am ax ao ad qx qo qd) tys cO cD qx qo qd sh w st cx cy fs) (hl : lv_has ls 9 (lw_lv b ax am ao ad i)) (hcs : cells + 100 ≤ R.cells ∧ slots + 1000 ≤ R.slots)
    (k : ∀ (u : en_H × va_W) (H1 : Heap) (locs1 : List Loc) (ls1 : Array Slot) (st' : Nat) (cx' cy' : Int32) (fs' : List Value), lw_I lw_E (lw_LA LP am ax ao ad qx qo qd) tys cO cD qx qo qd u.1 u.2 st' cx' cy' fs' → lw_H D A s u.2 H1 locs1 → lv_has ls1 9 (lw_lv b ax am ao ad i) → W p l e R s m args below meth c H1 locs1 (cells + 100) (slots + 1000) Q (F0 m 2329 ls1 [])) :
    W p l e R s m args below meth c H locs cells slots Q (F0 m 1613 ls []) := by
  have hx := F.hx
  have hb := F.hb
  have h0 : ls[0]? = some (.val (.ref b)) := lv_at hl 0 rfl
  have h5 : ls[5]? = some (.val (.int (nI i))) := lv_at hl 5 rfl
  refine lv_aload_n hx hb (show decode cL_law 1613 = .ok (.aload_n 1, 1) from by decide +kernel) rfl (lv_at hl 1 rfl) ?_
  refine lw_ld (k := 1) (n := 1) hx hb X L.hS (by decide) h0 h5 (by decide) (by decide +kernel) ?_
  refine lv_aload_n hx hb (show decode cL_law 1620 = .ok (.aload_n 3, 1) from by decide +kernel) rfl (lv_at hl 3 rfl) ?_
  obtain ⟨-, -, em, ex, eo, ed⟩ := I.hl
  rw [← ex, ← eo]
  refine lx_penalties hl9 (xs (i + 1)) (lw_LA_st hLP) F L I hl.1 ⟨by omega, by omega⟩ (fun u1 r1 H1 locs1 fs1 I1 L1 => ?_)
  refine lv_istore (lv' := [(6, .int r1), (0, .ref b), (1, .ref ax), (2, .ref am), (3, .ref ao), (4, .ref ad), (5, .int (nI i))]) hx hb (show decode cL_law 1624 = .ok (.istore 6, 2) from by decide +kernel) hl (by decide) rfl (fun ls hl => ?_)
  have h0 : ls[0]? = some (.val (.ref b)) := lv_at hl 1 rfl
  have h5 : ls[5]? = some (.val (.int (nI i))) := lv_at hl 6 rfl
  refine lv_aload_n hx hb (show decode cL_law 1626 = .ok (.aload_n 2, 1) from by decide +kernel) rfl (lv_at hl 3 rfl) ?_
  refine lw_ld (k := 1) (n := 1) hx hb X L1.hS (by decide) h0 h5 (by decide) (by decide +kernel) ?_
  obtain ⟨-, -, em, ex, eo, ed⟩ := I1.hl
  rw [← em]
  refine lm_X7_penalties hl9 (xs (i + 1)) (lw_LA_st hLP) F L1 I1 hl.1 ⟨by omega, by omega⟩ (fun u2 res2 H2 locs2 st2 cx2 cy2 fs2 hr2 I2 L2 => ?_)
  obtain ⟨v2, rfl⟩ := hr2
  show W _ _ _ _ _ _ _ _ _ _ _ _ _ _ _ (F0 m 1636 ls [.int v2])
  refine lv_istore (lv' := [(7, .int v2), (6, .int r1), (0, .ref b), (1, .ref ax), (2, .ref am), (3, .ref ao), (4, .ref ad), (5, .int (nI i))]) hx hb (show decode cL_law 1636 = .ok (.istore 7, 2) from by decide +kernel) hl (by decide) rfl (fun ls hl => ?_)
  have h0 : ls[0]? = some (.val (.ref b)) := lv_at hl 2 rfl
  have h5 : ls[5]? = some (.val (.int (nI i))) := lv_at hl 7 rfl
  refine lv_goto (tgt := 2329) hx hb (show decode cL_law 1638 = .ok (.goto 691, 3) from by decide +kernel) (by decide) ?_
  refine W.widen (k := cells + 100) (n := slots + 1000) (by omega) (by omega) ?_
  exact k _ _ _ _ _ _ _ _ I2 L2 (lv_sub hl [2, 3, 4, 5, 6, 7] rfl)
set_option maxHeartbeats 4000000 in
theorem lc_33 (hl9 : l.stackTraces = false) (hLP : lw_st LP) (F : lw_Fm p R s m args c D tys cO cD A) (X : lw_X b Ln xs s A i) (L : lw_H D A s w H locs) (I : lw_I lw_E (lw_LA LP am ax ao ad qx qo qd) tys cO cD qx qo qd sh w st cx cy fs) (hl : lv_has ls 9 (lw_lv b ax am ao ad i)) (hcs : cells + 100 ≤ R.cells ∧ slots + 1000 ≤ R.slots)
    (k : ∀ (u : en_H × va_W) (H1 : Heap) (locs1 : List Loc) (ls1 : Array Slot) (st' : Nat) (cx' cy' : Int32) (fs' : List Value), lw_I lw_E (lw_LA LP am ax ao ad qx qo qd) tys cO cD qx qo qd u.1 u.2 st' cx' cy' fs' → lw_H D A s u.2 H1 locs1 → lv_has ls1 9 (lw_lv b ax am ao ad i) → W p l e R s m args below meth c H1 locs1 (cells + 100) (slots + 1000) Q (F0 m 2329 ls1 [])) :
    W p l e R s m args below meth c H locs cells slots Q (F0 m 1641 ls []) := by
  have hx := F.hx
  have hb := F.hb
  have h0 : ls[0]? = some (.val (.ref b)) := lv_at hl 0 rfl
  have h5 : ls[5]? = some (.val (.int (nI i))) := lv_at hl 5 rfl
  refine lv_aload_n hx hb (show decode cL_law 1641 = .ok (.aload_n 1, 1) from by decide +kernel) rfl (lv_at hl 1 rfl) ?_
  refine lw_ld (k := 1) (n := 1) hx hb X L.hS (by decide) h0 h5 (by decide) (by decide +kernel) ?_
  refine lv_aload_n hx hb (show decode cL_law 1648 = .ok (.aload_n 3, 1) from by decide +kernel) rfl (lv_at hl 3 rfl) ?_
  obtain ⟨-, -, em, ex, eo, ed⟩ := I.hl
  rw [← ex, ← eo]
  refine lx_isOut hl9 (xs (i + 1)) (lw_LA_st hLP) F L I hl.1 ⟨by omega, by omega⟩ (fun u1 r1 H1 locs1 fs1 I1 L1 => ?_)
  refine lv_istore (lv' := [(6, .int r1), (0, .ref b), (1, .ref ax), (2, .ref am), (3, .ref ao), (4, .ref ad), (5, .int (nI i))]) hx hb (show decode cL_law 1652 = .ok (.istore 6, 2) from by decide +kernel) hl (by decide) rfl (fun ls hl => ?_)
  have h0 : ls[0]? = some (.val (.ref b)) := lv_at hl 1 rfl
  have h5 : ls[5]? = some (.val (.int (nI i))) := lv_at hl 6 rfl
  refine lv_aload_n hx hb (show decode cL_law 1654 = .ok (.aload_n 2, 1) from by decide +kernel) rfl (lv_at hl 3 rfl) ?_
  refine lw_ld (k := 1) (n := 1) hx hb X L1.hS (by decide) h0 h5 (by decide) (by decide +kernel) ?_
  obtain ⟨-, -, em, ex, eo, ed⟩ := I1.hl
  rw [← em]
  refine lm_X7_isOut hl9 (xs (i + 1)) (lw_LA_st hLP) F L1 I1 hl.1 ⟨by omega, by omega⟩ (fun u2 res2 H2 locs2 st2 cx2 cy2 fs2 hr2 I2 L2 => ?_)
  obtain ⟨v2, rfl⟩ := hr2
  show W _ _ _ _ _ _ _ _ _ _ _ _ _ _ _ (F0 m 1664 ls [.int v2])
  refine lv_istore (lv' := [(7, .int v2), (6, .int r1), (0, .ref b), (1, .ref ax), (2, .ref am), (3, .ref ao), (4, .ref ad), (5, .int (nI i))]) hx hb (show decode cL_law 1664 = .ok (.istore 7, 2) from by decide +kernel) hl (by decide) rfl (fun ls hl => ?_)
  have h0 : ls[0]? = some (.val (.ref b)) := lv_at hl 2 rfl
  have h5 : ls[5]? = some (.val (.int (nI i))) := lv_at hl 7 rfl
  refine lv_goto (tgt := 2329) hx hb (show decode cL_law 1666 = .ok (.goto 663, 3) from by decide +kernel) (by decide) ?_
  refine W.widen (k := cells + 100) (n := slots + 1000) (by omega) (by omega) ?_
  exact k _ _ _ _ _ _ _ _ I2 L2 (lv_sub hl [2, 3, 4, 5, 6, 7] rfl)
set_option maxHeartbeats 4000000 in
theorem lc_34 (hl9 : l.stackTraces = false) (hLP : lw_st LP) (F : lw_Fm p R s m args c D tys cO cD A) (X : lw_X b Ln xs s A i) (L : lw_H D A s w H locs) (I : lw_I lw_E (lw_LA LP am ax ao ad qx qo qd) tys cO cD qx qo qd sh w st cx cy fs) (hl : lv_has ls 9 (lw_lv b ax am ao ad i)) (hcs : cells + 100 ≤ R.cells ∧ slots + 1000 ≤ R.slots)
    (k : ∀ (u : en_H × va_W) (H1 : Heap) (locs1 : List Loc) (ls1 : Array Slot) (st' : Nat) (cx' cy' : Int32) (fs' : List Value), lw_I lw_E (lw_LA LP am ax ao ad qx qo qd) tys cO cD qx qo qd u.1 u.2 st' cx' cy' fs' → lw_H D A s u.2 H1 locs1 → lv_has ls1 9 (lw_lv b ax am ao ad i) → W p l e R s m args below meth c H1 locs1 (cells + 100) (slots + 1000) Q (F0 m 2329 ls1 [])) :
    W p l e R s m args below meth c H locs cells slots Q (F0 m 1669 ls []) := by
  have hx := F.hx
  have hb := F.hb
  have h0 : ls[0]? = some (.val (.ref b)) := lv_at hl 0 rfl
  have h5 : ls[5]? = some (.val (.int (nI i))) := lv_at hl 5 rfl
  refine lv_aload_n hx hb (show decode cL_law 1669 = .ok (.aload_n 1, 1) from by decide +kernel) rfl (lv_at hl 1 rfl) ?_
  refine lw_ld (k := 1) (n := 1) hx hb X L.hS (by decide) h0 h5 (by decide) (by decide +kernel) ?_
  refine lw_ld (k := 2) (n := 2) hx hb X L.hS (by decide) h0 h5 (by decide) (by decide +kernel) ?_
  refine lv_aload_n hx hb (show decode cL_law 1682 = .ok (.aload_n 3, 1) from by decide +kernel) rfl (lv_at hl 3 rfl) ?_
  obtain ⟨-, -, em, ex, eo, ed⟩ := I.hl
  rw [← ex, ← eo]
  refine lx_score hl9 (xs (i + 1)) (xs (i + 2)) (lw_LA_st hLP) F L I hl.1 ⟨by omega, by omega⟩ (fun u1 r1 H1 locs1 fs1 I1 L1 => ?_)
  refine lv_istore (lv' := [(6, .int r1), (0, .ref b), (1, .ref ax), (2, .ref am), (3, .ref ao), (4, .ref ad), (5, .int (nI i))]) hx hb (show decode cL_law 1686 = .ok (.istore 6, 2) from by decide +kernel) hl (by decide) rfl (fun ls hl => ?_)
  have h0 : ls[0]? = some (.val (.ref b)) := lv_at hl 1 rfl
  have h5 : ls[5]? = some (.val (.int (nI i))) := lv_at hl 6 rfl
  refine lv_aload_n hx hb (show decode cL_law 1688 = .ok (.aload_n 2, 1) from by decide +kernel) rfl (lv_at hl 3 rfl) ?_
  refine lw_ld (k := 1) (n := 1) hx hb X L1.hS (by decide) h0 h5 (by decide) (by decide +kernel) ?_
  refine lw_ld (k := 2) (n := 2) hx hb X L1.hS (by decide) h0 h5 (by decide) (by decide +kernel) ?_
  obtain ⟨-, -, em, ex, eo, ed⟩ := I1.hl
  rw [← em]
  refine lm_X7_score hl9 (xs (i + 1)) (xs (i + 2)) (lw_LA_st hLP) F L1 I1 hl.1 ⟨by omega, by omega⟩ (fun u2 res2 H2 locs2 st2 cx2 cy2 fs2 hr2 I2 L2 => ?_)
  obtain ⟨v2, rfl⟩ := hr2
  show W _ _ _ _ _ _ _ _ _ _ _ _ _ _ _ (F0 m 1704 ls [.int v2])
  refine lv_istore (lv' := [(7, .int v2), (6, .int r1), (0, .ref b), (1, .ref ax), (2, .ref am), (3, .ref ao), (4, .ref ad), (5, .int (nI i))]) hx hb (show decode cL_law 1704 = .ok (.istore 7, 2) from by decide +kernel) hl (by decide) rfl (fun ls hl => ?_)
  have h0 : ls[0]? = some (.val (.ref b)) := lv_at hl 2 rfl
  have h5 : ls[5]? = some (.val (.int (nI i))) := lv_at hl 7 rfl
  refine lv_goto (tgt := 2329) hx hb (show decode cL_law 1706 = .ok (.goto 623, 3) from by decide +kernel) (by decide) ?_
  refine W.widen (k := cells + 100) (n := slots + 1000) (by omega) (by omega) ?_
  exact k _ _ _ _ _ _ _ _ I2 L2 (lv_sub hl [2, 3, 4, 5, 6, 7] rfl)
set_option maxHeartbeats 4000000 in
theorem lc_35 (hl9 : l.stackTraces = false) (hLP : lw_st LP) (F : lw_Fm p R s m args c D tys cO cD A) (X : lw_X b Ln xs s A i) (L : lw_H D A s w H locs) (I : lw_I lw_E (lw_LA LP am ax ao ad qx qo qd) tys cO cD qx qo qd sh w st cx cy fs) (hl : lv_has ls 9 (lw_lv b ax am ao ad i)) (hcs : cells + 100 ≤ R.cells ∧ slots + 1000 ≤ R.slots)
    (k : ∀ (u : en_H × va_W) (H1 : Heap) (locs1 : List Loc) (ls1 : Array Slot) (st' : Nat) (cx' cy' : Int32) (fs' : List Value), lw_I lw_E (lw_LA LP am ax ao ad qx qo qd) tys cO cD qx qo qd u.1 u.2 st' cx' cy' fs' → lw_H D A s u.2 H1 locs1 → lv_has ls1 9 (lw_lv b ax am ao ad i) → W p l e R s m args below meth c H1 locs1 (cells + 100) (slots + 1000) Q (F0 m 2329 ls1 [])) :
    W p l e R s m args below meth c H locs cells slots Q (F0 m 1709 ls []) := by
  have hx := F.hx
  have hb := F.hb
  have h0 : ls[0]? = some (.val (.ref b)) := lv_at hl 0 rfl
  have h5 : ls[5]? = some (.val (.int (nI i))) := lv_at hl 5 rfl
  refine lv_aload_n hx hb (show decode cL_law 1709 = .ok (.aload_n 1, 1) from by decide +kernel) rfl (lv_at hl 1 rfl) ?_
  refine lv_aload_n hx hb (show decode cL_law 1710 = .ok (.aload_n 3, 1) from by decide +kernel) rfl (lv_at hl 3 rfl) ?_
  obtain ⟨-, -, em, ex, eo, ed⟩ := I.hl
  rw [← ex, ← eo]
  refine lx_up hl9 (lw_LA_st hLP) F L I hl.1 ⟨by omega, by omega⟩ (fun u1 r1 H1 locs1 fs1 I1 L1 => ?_)
  refine lv_istore (lv' := [(6, .int r1), (0, .ref b), (1, .ref ax), (2, .ref am), (3, .ref ao), (4, .ref ad), (5, .int (nI i))]) hx hb (show decode cL_law 1714 = .ok (.istore 6, 2) from by decide +kernel) hl (by decide) rfl (fun ls hl => ?_)
  have h0 : ls[0]? = some (.val (.ref b)) := lv_at hl 1 rfl
  have h5 : ls[5]? = some (.val (.int (nI i))) := lv_at hl 6 rfl
  refine lv_aload_n hx hb (show decode cL_law 1716 = .ok (.aload_n 2, 1) from by decide +kernel) rfl (lv_at hl 3 rfl) ?_
  obtain ⟨-, -, em, ex, eo, ed⟩ := I1.hl
  rw [← em]
  refine lm_X7_up hl9 (lw_LA_st hLP) F L1 I1 hl.1 ⟨by omega, by omega⟩ (fun u2 res2 H2 locs2 st2 cx2 cy2 fs2 hr2 I2 L2 => ?_)
  obtain ⟨v2, rfl⟩ := hr2
  show W _ _ _ _ _ _ _ _ _ _ _ _ _ _ _ (F0 m 1720 ls [.int v2])
  refine lv_istore (lv' := [(7, .int v2), (6, .int r1), (0, .ref b), (1, .ref ax), (2, .ref am), (3, .ref ao), (4, .ref ad), (5, .int (nI i))]) hx hb (show decode cL_law 1720 = .ok (.istore 7, 2) from by decide +kernel) hl (by decide) rfl (fun ls hl => ?_)
  have h0 : ls[0]? = some (.val (.ref b)) := lv_at hl 2 rfl
  have h5 : ls[5]? = some (.val (.int (nI i))) := lv_at hl 7 rfl
  refine lv_goto (tgt := 2329) hx hb (show decode cL_law 1722 = .ok (.goto 607, 3) from by decide +kernel) (by decide) ?_
  refine W.widen (k := cells + 100) (n := slots + 1000) (by omega) (by omega) ?_
  exact k _ _ _ _ _ _ _ _ I2 L2 (lv_sub hl [2, 3, 4, 5, 6, 7] rfl)
set_option maxHeartbeats 4000000 in
theorem lc_36 (hl9 : l.stackTraces = false) (hLP : lw_st LP) (F : lw_Fm p R s m args c D tys cO cD A) (X : lw_X b Ln xs s A i) (L : lw_H D A s w H locs) (I : lw_I lw_E (lw_LA LP am ax ao ad qx qo qd) tys cO cD qx qo qd sh w st cx cy fs) (hl : lv_has ls 9 (lw_lv b ax am ao ad i)) (hcs : cells + 100 ≤ R.cells ∧ slots + 1000 ≤ R.slots)
    (k : ∀ (u : en_H × va_W) (H1 : Heap) (locs1 : List Loc) (ls1 : Array Slot) (st' : Nat) (cx' cy' : Int32) (fs' : List Value), lw_I lw_E (lw_LA LP am ax ao ad qx qo qd) tys cO cD qx qo qd u.1 u.2 st' cx' cy' fs' → lw_H D A s u.2 H1 locs1 → lv_has ls1 9 (lw_lv b ax am ao ad i) → W p l e R s m args below meth c H1 locs1 (cells + 100) (slots + 1000) Q (F0 m 2329 ls1 [])) :
    W p l e R s m args below meth c H locs cells slots Q (F0 m 1725 ls []) := by
  have hx := F.hx
  have hb := F.hb
  have h0 : ls[0]? = some (.val (.ref b)) := lv_at hl 0 rfl
  have h5 : ls[5]? = some (.val (.int (nI i))) := lv_at hl 5 rfl
  refine lv_aload_n hx hb (show decode cL_law 1725 = .ok (.aload_n 1, 1) from by decide +kernel) rfl (lv_at hl 1 rfl) ?_
  refine lv_aload_n hx hb (show decode cL_law 1726 = .ok (.aload_n 3, 1) from by decide +kernel) rfl (lv_at hl 3 rfl) ?_
  obtain ⟨-, -, em, ex, eo, ed⟩ := I.hl
  rw [← ex, ← eo]
  refine lx_isMatchOver hl9 (lw_LA_st hLP) F L I hl.1 ⟨by omega, by omega⟩ (fun u1 r1 H1 locs1 fs1 I1 L1 => ?_)
  refine lv_istore (lv' := [(6, .int r1), (0, .ref b), (1, .ref ax), (2, .ref am), (3, .ref ao), (4, .ref ad), (5, .int (nI i))]) hx hb (show decode cL_law 1730 = .ok (.istore 6, 2) from by decide +kernel) hl (by decide) rfl (fun ls hl => ?_)
  have h0 : ls[0]? = some (.val (.ref b)) := lv_at hl 1 rfl
  have h5 : ls[5]? = some (.val (.int (nI i))) := lv_at hl 6 rfl
  refine lv_aload_n hx hb (show decode cL_law 1732 = .ok (.aload_n 2, 1) from by decide +kernel) rfl (lv_at hl 3 rfl) ?_
  obtain ⟨-, -, em, ex, eo, ed⟩ := I1.hl
  rw [← em]
  refine lm_X7_isMatchOver hl9 (lw_LA_st hLP) F L1 I1 hl.1 ⟨by omega, by omega⟩ (fun u2 res2 H2 locs2 st2 cx2 cy2 fs2 hr2 I2 L2 => ?_)
  obtain ⟨v2, rfl⟩ := hr2
  show W _ _ _ _ _ _ _ _ _ _ _ _ _ _ _ (F0 m 1736 ls [.int v2])
  refine lv_istore (lv' := [(7, .int v2), (6, .int r1), (0, .ref b), (1, .ref ax), (2, .ref am), (3, .ref ao), (4, .ref ad), (5, .int (nI i))]) hx hb (show decode cL_law 1736 = .ok (.istore 7, 2) from by decide +kernel) hl (by decide) rfl (fun ls hl => ?_)
  have h0 : ls[0]? = some (.val (.ref b)) := lv_at hl 2 rfl
  have h5 : ls[5]? = some (.val (.int (nI i))) := lv_at hl 7 rfl
  refine lv_goto (tgt := 2329) hx hb (show decode cL_law 1738 = .ok (.goto 591, 3) from by decide +kernel) (by decide) ?_
  refine W.widen (k := cells + 100) (n := slots + 1000) (by omega) (by omega) ?_
  exact k _ _ _ _ _ _ _ _ I2 L2 (lv_sub hl [2, 3, 4, 5, 6, 7] rfl)
set_option maxHeartbeats 4000000 in
theorem lc_37 (hl9 : l.stackTraces = false) (hLP : lw_st LP) (F : lw_Fm p R s m args c D tys cO cD A) (X : lw_X b Ln xs s A i) (L : lw_H D A s w H locs) (I : lw_I lw_E (lw_LA LP am ax ao ad qx qo qd) tys cO cD qx qo qd sh w st cx cy fs) (hl : lv_has ls 9 (lw_lv b ax am ao ad i)) (hcs : cells + 100 ≤ R.cells ∧ slots + 1000 ≤ R.slots)
    (k : ∀ (u : en_H × va_W) (H1 : Heap) (locs1 : List Loc) (ls1 : Array Slot) (st' : Nat) (cx' cy' : Int32) (fs' : List Value), lw_I lw_E (lw_LA LP am ax ao ad qx qo qd) tys cO cD qx qo qd u.1 u.2 st' cx' cy' fs' → lw_H D A s u.2 H1 locs1 → lv_has ls1 9 (lw_lv b ax am ao ad i) → W p l e R s m args below meth c H1 locs1 (cells + 100) (slots + 1000) Q (F0 m 2329 ls1 [])) :
    W p l e R s m args below meth c H locs cells slots Q (F0 m 1741 ls []) := by
  have hx := F.hx
  have hb := F.hb
  have h0 : ls[0]? = some (.val (.ref b)) := lv_at hl 0 rfl
  have h5 : ls[5]? = some (.val (.int (nI i))) := lv_at hl 5 rfl
  refine lv_aload_n hx hb (show decode cL_law 1741 = .ok (.aload_n 1, 1) from by decide +kernel) rfl (lv_at hl 1 rfl) ?_
  refine lw_ld (k := 1) (n := 1) hx hb X L.hS (by decide) h0 h5 (by decide) (by decide +kernel) ?_
  refine lw_ld (k := 2) (n := 2) hx hb X L.hS (by decide) h0 h5 (by decide) (by decide +kernel) ?_
  refine lw_ld (k := 3) (n := 3) hx hb X L.hS (by decide) h0 h5 (by decide) (by decide +kernel) ?_
  refine lv_aload_n hx hb (show decode cL_law 1760 = .ok (.aload_n 3, 1) from by decide +kernel) rfl (lv_at hl 3 rfl) ?_
  obtain ⟨-, -, em, ex, eo, ed⟩ := I.hl
  rw [← ex, ← eo]
  refine lx_write hl9 (xs (i + 1)) (xs (i + 2)) (xs (i + 3)) (lw_LA_st hLP) F L I hl.1 ⟨by omega, by omega⟩ (fun u1 r1 H1 locs1 fs1 I1 L1 => ?_)
  refine lv_istore (lv' := [(6, .int r1), (0, .ref b), (1, .ref ax), (2, .ref am), (3, .ref ao), (4, .ref ad), (5, .int (nI i))]) hx hb (show decode cL_law 1764 = .ok (.istore 6, 2) from by decide +kernel) hl (by decide) rfl (fun ls hl => ?_)
  have h0 : ls[0]? = some (.val (.ref b)) := lv_at hl 1 rfl
  have h5 : ls[5]? = some (.val (.int (nI i))) := lv_at hl 6 rfl
  refine lv_aload_n hx hb (show decode cL_law 1766 = .ok (.aload_n 2, 1) from by decide +kernel) rfl (lv_at hl 3 rfl) ?_
  refine lw_ld (k := 1) (n := 1) hx hb X L1.hS (by decide) h0 h5 (by decide) (by decide +kernel) ?_
  refine lw_ld (k := 2) (n := 2) hx hb X L1.hS (by decide) h0 h5 (by decide) (by decide +kernel) ?_
  refine lw_ld (k := 3) (n := 3) hx hb X L1.hS (by decide) h0 h5 (by decide) (by decide +kernel) ?_
  obtain ⟨-, -, em, ex, eo, ed⟩ := I1.hl
  rw [← em]
  refine lm_X7_write hl9 (xs (i + 1)) (xs (i + 2)) (xs (i + 3)) (lw_LA_st hLP) F L1 I1 hl.1 ⟨by omega, by omega⟩ (fun u2 res2 H2 locs2 st2 cx2 cy2 fs2 hr2 I2 L2 => ?_)
  obtain ⟨v2, rfl⟩ := hr2
  show W _ _ _ _ _ _ _ _ _ _ _ _ _ _ _ (F0 m 1788 ls [.int v2])
  refine lv_istore (lv' := [(7, .int v2), (6, .int r1), (0, .ref b), (1, .ref ax), (2, .ref am), (3, .ref ao), (4, .ref ad), (5, .int (nI i))]) hx hb (show decode cL_law 1788 = .ok (.istore 7, 2) from by decide +kernel) hl (by decide) rfl (fun ls hl => ?_)
  have h0 : ls[0]? = some (.val (.ref b)) := lv_at hl 2 rfl
  have h5 : ls[5]? = some (.val (.int (nI i))) := lv_at hl 7 rfl
  refine lv_goto (tgt := 2329) hx hb (show decode cL_law 1790 = .ok (.goto 539, 3) from by decide +kernel) (by decide) ?_
  refine W.widen (k := cells + 100) (n := slots + 1000) (by omega) (by omega) ?_
  exact k _ _ _ _ _ _ _ _ I2 L2 (lv_sub hl [2, 3, 4, 5, 6, 7] rfl)
set_option maxHeartbeats 4000000 in
theorem lc_38 (hl9 : l.stackTraces = false) (hLP : lw_st LP) (F : lw_Fm p R s m args c D tys cO cD A) (X : lw_X b Ln xs s A i) (L : lw_H D A s w H locs) (I : lw_I lw_E (lw_LA LP am ax ao ad qx qo qd) tys cO cD qx qo qd sh w st cx cy fs) (hl : lv_has ls 9 (lw_lv b ax am ao ad i)) (hcs : cells + 100 ≤ R.cells ∧ slots + 1000 ≤ R.slots)
    (k : ∀ (u : en_H × va_W) (H1 : Heap) (locs1 : List Loc) (ls1 : Array Slot) (st' : Nat) (cx' cy' : Int32) (fs' : List Value), lw_I lw_E (lw_LA LP am ax ao ad qx qo qd) tys cO cD qx qo qd u.1 u.2 st' cx' cy' fs' → lw_H D A s u.2 H1 locs1 → lv_has ls1 9 (lw_lv b ax am ao ad i) → W p l e R s m args below meth c H1 locs1 (cells + 100) (slots + 1000) Q (F0 m 2329 ls1 [])) :
    W p l e R s m args below meth c H locs cells slots Q (F0 m 1793 ls []) := by
  have hx := F.hx
  have hb := F.hb
  have h0 : ls[0]? = some (.val (.ref b)) := lv_at hl 0 rfl
  have h5 : ls[5]? = some (.val (.int (nI i))) := lv_at hl 5 rfl
  refine lv_aload_n hx hb (show decode cL_law 1793 = .ok (.aload_n 1, 1) from by decide +kernel) rfl (lv_at hl 1 rfl) ?_
  refine lw_ld (k := 1) (n := 1) hx hb X L.hS (by decide) h0 h5 (by decide) (by decide +kernel) ?_
  refine lv_aload_n hx hb (show decode cL_law 1800 = .ok (.aload_n 3, 1) from by decide +kernel) rfl (lv_at hl 3 rfl) ?_
  obtain ⟨-, -, em, ex, eo, ed⟩ := I.hl
  rw [← ex, ← eo]
  refine lx_sign hl9 (xs (i + 1)) (lw_LA_st hLP) F L I hl.1 ⟨by omega, by omega⟩ (fun u1 r1 H1 locs1 fs1 I1 L1 => ?_)
  refine lv_istore (lv' := [(6, .int r1), (0, .ref b), (1, .ref ax), (2, .ref am), (3, .ref ao), (4, .ref ad), (5, .int (nI i))]) hx hb (show decode cL_law 1804 = .ok (.istore 6, 2) from by decide +kernel) hl (by decide) rfl (fun ls hl => ?_)
  have h0 : ls[0]? = some (.val (.ref b)) := lv_at hl 1 rfl
  have h5 : ls[5]? = some (.val (.int (nI i))) := lv_at hl 6 rfl
  refine lv_aload_n hx hb (show decode cL_law 1806 = .ok (.aload_n 2, 1) from by decide +kernel) rfl (lv_at hl 3 rfl) ?_
  refine lw_ld (k := 1) (n := 1) hx hb X L1.hS (by decide) h0 h5 (by decide) (by decide +kernel) ?_
  obtain ⟨-, -, em, ex, eo, ed⟩ := I1.hl
  rw [← em]
  refine lm_X7_sign hl9 (xs (i + 1)) (lw_LA_st hLP) F L1 I1 hl.1 ⟨by omega, by omega⟩ (fun u2 res2 H2 locs2 st2 cx2 cy2 fs2 hr2 I2 L2 => ?_)
  obtain ⟨v2, rfl⟩ := hr2
  show W _ _ _ _ _ _ _ _ _ _ _ _ _ _ _ (F0 m 1816 ls [.int v2])
  refine lv_istore (lv' := [(7, .int v2), (6, .int r1), (0, .ref b), (1, .ref ax), (2, .ref am), (3, .ref ao), (4, .ref ad), (5, .int (nI i))]) hx hb (show decode cL_law 1816 = .ok (.istore 7, 2) from by decide +kernel) hl (by decide) rfl (fun ls hl => ?_)
  have h0 : ls[0]? = some (.val (.ref b)) := lv_at hl 2 rfl
  have h5 : ls[5]? = some (.val (.int (nI i))) := lv_at hl 7 rfl
  refine lv_goto (tgt := 2329) hx hb (show decode cL_law 1818 = .ok (.goto 511, 3) from by decide +kernel) (by decide) ?_
  refine W.widen (k := cells + 100) (n := slots + 1000) (by omega) (by omega) ?_
  exact k _ _ _ _ _ _ _ _ I2 L2 (lv_sub hl [2, 3, 4, 5, 6, 7] rfl)
set_option maxHeartbeats 4000000 in
theorem lc_39 (hl9 : l.stackTraces = false) (hLP : lw_st LP) (F : lw_Fm p R s m args c D tys cO cD A) (X : lw_X b Ln xs s A i) (L : lw_H D A s w H locs) (I : lw_I lw_E (lw_LA LP am ax ao ad qx qo qd) tys cO cD qx qo qd sh w st cx cy fs) (hl : lv_has ls 9 (lw_lv b ax am ao ad i)) (hcs : cells + 100 ≤ R.cells ∧ slots + 1000 ≤ R.slots)
    (k : ∀ (u : en_H × va_W) (H1 : Heap) (locs1 : List Loc) (ls1 : Array Slot) (st' : Nat) (cx' cy' : Int32) (fs' : List Value), lw_I lw_E (lw_LA LP am ax ao ad qx qo qd) tys cO cD qx qo qd u.1 u.2 st' cx' cy' fs' → lw_H D A s u.2 H1 locs1 → lv_has ls1 9 (lw_lv b ax am ao ad i) → W p l e R s m args below meth c H1 locs1 (cells + 100) (slots + 1000) Q (F0 m 2329 ls1 [])) :
    W p l e R s m args below meth c H locs cells slots Q (F0 m 1821 ls []) := by
  have hx := F.hx
  have hb := F.hb
  have h0 : ls[0]? = some (.val (.ref b)) := lv_at hl 0 rfl
  have h5 : ls[5]? = some (.val (.int (nI i))) := lv_at hl 5 rfl
  refine lv_aload_n hx hb (show decode cL_law 1821 = .ok (.aload_n 1, 1) from by decide +kernel) rfl (lv_at hl 1 rfl) ?_
  refine lw_ld (k := 1) (n := 1) hx hb X L.hS (by decide) h0 h5 (by decide) (by decide +kernel) ?_
  refine lv_aload_n hx hb (show decode cL_law 1828 = .ok (.aload_n 3, 1) from by decide +kernel) rfl (lv_at hl 3 rfl) ?_
  obtain ⟨-, -, em, ex, eo, ed⟩ := I.hl
  rw [← ex, ← eo]
  refine lx_total hl9 (xs (i + 1)) (lw_LA_st hLP) F L I hl.1 ⟨by omega, by omega⟩ (fun u1 r1 H1 locs1 fs1 I1 L1 => ?_)
  refine lv_istore (lv' := [(6, .int r1), (0, .ref b), (1, .ref ax), (2, .ref am), (3, .ref ao), (4, .ref ad), (5, .int (nI i))]) hx hb (show decode cL_law 1832 = .ok (.istore 6, 2) from by decide +kernel) hl (by decide) rfl (fun ls hl => ?_)
  have h0 : ls[0]? = some (.val (.ref b)) := lv_at hl 1 rfl
  have h5 : ls[5]? = some (.val (.int (nI i))) := lv_at hl 6 rfl
  refine lv_aload_n hx hb (show decode cL_law 1834 = .ok (.aload_n 2, 1) from by decide +kernel) rfl (lv_at hl 3 rfl) ?_
  refine lw_ld (k := 1) (n := 1) hx hb X L1.hS (by decide) h0 h5 (by decide) (by decide +kernel) ?_
  obtain ⟨-, -, em, ex, eo, ed⟩ := I1.hl
  rw [← em]
  refine lm_X7_total hl9 (xs (i + 1)) (lw_LA_st hLP) F L1 I1 hl.1 ⟨by omega, by omega⟩ (fun u2 res2 H2 locs2 st2 cx2 cy2 fs2 hr2 I2 L2 => ?_)
  obtain ⟨v2, rfl⟩ := hr2
  show W _ _ _ _ _ _ _ _ _ _ _ _ _ _ _ (F0 m 1844 ls [.int v2])
  refine lv_istore (lv' := [(7, .int v2), (6, .int r1), (0, .ref b), (1, .ref ax), (2, .ref am), (3, .ref ao), (4, .ref ad), (5, .int (nI i))]) hx hb (show decode cL_law 1844 = .ok (.istore 7, 2) from by decide +kernel) hl (by decide) rfl (fun ls hl => ?_)
  have h0 : ls[0]? = some (.val (.ref b)) := lv_at hl 2 rfl
  have h5 : ls[5]? = some (.val (.int (nI i))) := lv_at hl 7 rfl
  refine lv_goto (tgt := 2329) hx hb (show decode cL_law 1846 = .ok (.goto 483, 3) from by decide +kernel) (by decide) ?_
  refine W.widen (k := cells + 100) (n := slots + 1000) (by omega) (by omega) ?_
  exact k _ _ _ _ _ _ _ _ I2 L2 (lv_sub hl [2, 3, 4, 5, 6, 7] rfl)
set_option maxHeartbeats 4000000 in
theorem lc_40 (hl9 : l.stackTraces = false) (hLP : lw_st LP) (F : lw_Fm p R s m args c D tys cO cD A) (X : lw_X b Ln xs s A i) (L : lw_H D A s w H locs) (I : lw_I lw_E (lw_LA LP am ax ao ad qx qo qd) tys cO cD qx qo qd sh w st cx cy fs) (hl : lv_has ls 9 (lw_lv b ax am ao ad i)) (hcs : cells + 100 ≤ R.cells ∧ slots + 1000 ≤ R.slots)
    (k : ∀ (u : en_H × va_W) (H1 : Heap) (locs1 : List Loc) (ls1 : Array Slot) (st' : Nat) (cx' cy' : Int32) (fs' : List Value), lw_I lw_E (lw_LA LP am ax ao ad qx qo qd) tys cO cD qx qo qd u.1 u.2 st' cx' cy' fs' → lw_H D A s u.2 H1 locs1 → lv_has ls1 9 (lw_lv b ax am ao ad i) → W p l e R s m args below meth c H1 locs1 (cells + 100) (slots + 1000) Q (F0 m 2329 ls1 [])) :
    W p l e R s m args below meth c H locs cells slots Q (F0 m 1849 ls []) := by
  have hx := F.hx
  have hb := F.hb
  have h0 : ls[0]? = some (.val (.ref b)) := lv_at hl 0 rfl
  have h5 : ls[5]? = some (.val (.int (nI i))) := lv_at hl 5 rfl
  refine lv_aload_n hx hb (show decode cL_law 1849 = .ok (.aload_n 1, 1) from by decide +kernel) rfl (lv_at hl 1 rfl) ?_
  refine lw_ld (k := 1) (n := 1) hx hb X L.hS (by decide) h0 h5 (by decide) (by decide +kernel) ?_
  refine lv_aload_n hx hb (show decode cL_law 1856 = .ok (.aload_n 3, 1) from by decide +kernel) rfl (lv_at hl 3 rfl) ?_
  obtain ⟨-, -, em, ex, eo, ed⟩ := I.hl
  rw [← ex, ← eo]
  refine lx_stableford hl9 (xs (i + 1)) (lw_LA_st hLP) F L I hl.1 ⟨by omega, by omega⟩ (fun u1 r1 H1 locs1 fs1 I1 L1 => ?_)
  refine lv_istore (lv' := [(6, .int r1), (0, .ref b), (1, .ref ax), (2, .ref am), (3, .ref ao), (4, .ref ad), (5, .int (nI i))]) hx hb (show decode cL_law 1860 = .ok (.istore 6, 2) from by decide +kernel) hl (by decide) rfl (fun ls hl => ?_)
  have h0 : ls[0]? = some (.val (.ref b)) := lv_at hl 1 rfl
  have h5 : ls[5]? = some (.val (.int (nI i))) := lv_at hl 6 rfl
  refine lv_aload_n hx hb (show decode cL_law 1862 = .ok (.aload_n 2, 1) from by decide +kernel) rfl (lv_at hl 3 rfl) ?_
  refine lw_ld (k := 1) (n := 1) hx hb X L1.hS (by decide) h0 h5 (by decide) (by decide +kernel) ?_
  obtain ⟨-, -, em, ex, eo, ed⟩ := I1.hl
  rw [← em]
  refine lm_X7_stableford hl9 (xs (i + 1)) (lw_LA_st hLP) F L1 I1 hl.1 ⟨by omega, by omega⟩ (fun u2 res2 H2 locs2 st2 cx2 cy2 fs2 hr2 I2 L2 => ?_)
  obtain ⟨v2, rfl⟩ := hr2
  show W _ _ _ _ _ _ _ _ _ _ _ _ _ _ _ (F0 m 1872 ls [.int v2])
  refine lv_istore (lv' := [(7, .int v2), (6, .int r1), (0, .ref b), (1, .ref ax), (2, .ref am), (3, .ref ao), (4, .ref ad), (5, .int (nI i))]) hx hb (show decode cL_law 1872 = .ok (.istore 7, 2) from by decide +kernel) hl (by decide) rfl (fun ls hl => ?_)
  have h0 : ls[0]? = some (.val (.ref b)) := lv_at hl 2 rfl
  have h5 : ls[5]? = some (.val (.int (nI i))) := lv_at hl 7 rfl
  refine lv_goto (tgt := 2329) hx hb (show decode cL_law 1874 = .ok (.goto 455, 3) from by decide +kernel) (by decide) ?_
  refine W.widen (k := cells + 100) (n := slots + 1000) (by omega) (by omega) ?_
  exact k _ _ _ _ _ _ _ _ I2 L2 (lv_sub hl [2, 3, 4, 5, 6, 7] rfl)
set_option maxHeartbeats 4000000 in
theorem lc_41 (hl9 : l.stackTraces = false) (hLP : lw_st LP) (F : lw_Fm p R s m args c D tys cO cD A) (X : lw_X b Ln xs s A i) (L : lw_H D A s w H locs) (I : lw_I lw_E (lw_LA LP am ax ao ad qx qo qd) tys cO cD qx qo qd sh w st cx cy fs) (hl : lv_has ls 9 (lw_lv b ax am ao ad i)) (hcs : cells + 100 ≤ R.cells ∧ slots + 1000 ≤ R.slots)
    (k : ∀ (u : en_H × va_W) (H1 : Heap) (locs1 : List Loc) (ls1 : Array Slot) (st' : Nat) (cx' cy' : Int32) (fs' : List Value), lw_I lw_E (lw_LA LP am ax ao ad qx qo qd) tys cO cD qx qo qd u.1 u.2 st' cx' cy' fs' → lw_H D A s u.2 H1 locs1 → lv_has ls1 9 (lw_lv b ax am ao ad i) → W p l e R s m args below meth c H1 locs1 (cells + 100) (slots + 1000) Q (F0 m 2329 ls1 [])) :
    W p l e R s m args below meth c H locs cells slots Q (F0 m 1877 ls []) := by
  have hx := F.hx
  have hb := F.hb
  have h0 : ls[0]? = some (.val (.ref b)) := lv_at hl 0 rfl
  have h5 : ls[5]? = some (.val (.int (nI i))) := lv_at hl 5 rfl
  refine lv_aload_n hx hb (show decode cL_law 1877 = .ok (.aload_n 1, 1) from by decide +kernel) rfl (lv_at hl 1 rfl) ?_
  refine lw_ld (k := 1) (n := 1) hx hb X L.hS (by decide) h0 h5 (by decide) (by decide +kernel) ?_
  refine lv_aload_n hx hb (show decode cL_law 1884 = .ok (.aload_n 3, 1) from by decide +kernel) rfl (lv_at hl 3 rfl) ?_
  obtain ⟨-, -, em, ex, eo, ed⟩ := I.hl
  rw [← ex, ← eo]
  refine lx_parPlay hl9 (xs (i + 1)) (lw_LA_st hLP) F L I hl.1 ⟨by omega, by omega⟩ (fun u1 r1 H1 locs1 fs1 I1 L1 => ?_)
  refine lv_istore (lv' := [(6, .int r1), (0, .ref b), (1, .ref ax), (2, .ref am), (3, .ref ao), (4, .ref ad), (5, .int (nI i))]) hx hb (show decode cL_law 1888 = .ok (.istore 6, 2) from by decide +kernel) hl (by decide) rfl (fun ls hl => ?_)
  have h0 : ls[0]? = some (.val (.ref b)) := lv_at hl 1 rfl
  have h5 : ls[5]? = some (.val (.int (nI i))) := lv_at hl 6 rfl
  refine lv_aload_n hx hb (show decode cL_law 1890 = .ok (.aload_n 2, 1) from by decide +kernel) rfl (lv_at hl 3 rfl) ?_
  refine lw_ld (k := 1) (n := 1) hx hb X L1.hS (by decide) h0 h5 (by decide) (by decide +kernel) ?_
  obtain ⟨-, -, em, ex, eo, ed⟩ := I1.hl
  rw [← em]
  refine lm_X7_parPlay hl9 (xs (i + 1)) (lw_LA_st hLP) F L1 I1 hl.1 ⟨by omega, by omega⟩ (fun u2 res2 H2 locs2 st2 cx2 cy2 fs2 hr2 I2 L2 => ?_)
  obtain ⟨v2, rfl⟩ := hr2
  show W _ _ _ _ _ _ _ _ _ _ _ _ _ _ _ (F0 m 1900 ls [.int v2])
  refine lv_istore (lv' := [(7, .int v2), (6, .int r1), (0, .ref b), (1, .ref ax), (2, .ref am), (3, .ref ao), (4, .ref ad), (5, .int (nI i))]) hx hb (show decode cL_law 1900 = .ok (.istore 7, 2) from by decide +kernel) hl (by decide) rfl (fun ls hl => ?_)
  have h0 : ls[0]? = some (.val (.ref b)) := lv_at hl 2 rfl
  have h5 : ls[5]? = some (.val (.int (nI i))) := lv_at hl 7 rfl
  refine lv_goto (tgt := 2329) hx hb (show decode cL_law 1902 = .ok (.goto 427, 3) from by decide +kernel) (by decide) ?_
  refine W.widen (k := cells + 100) (n := slots + 1000) (by omega) (by omega) ?_
  exact k _ _ _ _ _ _ _ _ I2 L2 (lv_sub hl [2, 3, 4, 5, 6, 7] rfl)
end
