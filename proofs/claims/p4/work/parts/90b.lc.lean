section
variable {p : Program} {l : Launch} {e : Env} {R : Room} {s : State} {m : MethodId} {args : Array Value} {below : List Frame} {meth : Method} {c : Code} {Q : State → Prop}
variable {D : va_G} {tys : List (ClassId × FieldType)} {cO cD : ClassId} {A : Nat → Prop} {sh : en_H} {w : va_W} {H : Heap} {locs : List Loc} {ls : Array Slot} {cells slots qx qo qd : Nat} {LP : en_H → va_W → Prop} {am ax ao ad b Ln i st : Nat} {xs : Nat → Int32} {cx cy : Int32} {fs : List Value}
set_option maxHeartbeats 4000000 in
theorem lc_19 (hl9 : l.stackTraces = false) (hLP : lw_st LP) (F : lw_Fm p R s m args c D tys cO cD A) (X : lw_X b Ln xs s A i) (L : lw_H D A s w H locs) (I : lw_I lw_E (lw_LA LP am ax ao ad qx qo qd) tys cO cD qx qo qd sh w st cx cy fs) (hl : lv_has ls 9 (lw_lv b ax am ao ad i)) (hcs : cells + 100 ≤ R.cells ∧ slots + 1000 ≤ R.slots)
    (k : ∀ (u : en_H × va_W) (H1 : Heap) (locs1 : List Loc) (ls1 : Array Slot) (st' : Nat) (cx' cy' : Int32) (fs' : List Value), lw_I lw_E (lw_LA LP am ax ao ad qx qo qd) tys cO cD qx qo qd u.1 u.2 st' cx' cy' fs' → lw_H D A s u.2 H1 locs1 → lv_has ls1 9 (lw_lv b ax am ao ad i) → W p l e R s m args below meth c H1 locs1 (cells + 100) (slots + 1000) Q (F0 m 2357 ls1 [])) :
    W p l e R s m args below meth c H locs cells slots Q (F0 m 1133 ls []) := by
  have hx := F.hx
  have hb := F.hb
  have h0 : ls[0]? = some (.val (.ref b)) := lv_at hl 0 rfl
  have h5 : ls[5]? = some (.val (.int (nI i))) := lv_at hl 5 rfl
  refine lv_aload_n hx hb (show decode cL_law 1133 = .ok (.aload_n 1, 1) from by decide +kernel) rfl (lv_at hl 1 rfl) ?_
  refine lw_ld (k := 1) (n := 1) hx hb X L.hS (by decide) h0 h5 (by decide) (by decide +kernel) ?_
  refine lw_ld (k := 2) (n := 2) hx hb X L.hS (by decide) h0 h5 (by decide) (by decide +kernel) ?_
  refine lw_ld (k := 3) (n := 3) hx hb X L.hS (by decide) h0 h5 (by decide) (by decide +kernel) ?_
  refine lv_aload_n hx hb (show decode cL_law 1152 = .ok (.aload_n 3, 1) from by decide +kernel) rfl (lv_at hl 3 rfl) ?_
  obtain ⟨-, -, em, ex, eo, ed⟩ := I.hl
  rw [← ex, ← eo]
  refine lx_free hl9 (xs (i + 1)) (xs (i + 2)) (xs (i + 3)) (lw_LA_st hLP) F L I hl.1 ⟨by omega, by omega⟩ (fun u1 r1 H1 locs1 fs1 I1 L1 => ?_)
  refine lv_istore (lv' := [(6, .int r1), (0, .ref b), (1, .ref ax), (2, .ref am), (3, .ref ao), (4, .ref ad), (5, .int (nI i))]) hx hb (show decode cL_law 1156 = .ok (.istore 6, 2) from by decide +kernel) hl (by decide) rfl (fun ls hl => ?_)
  have h0 : ls[0]? = some (.val (.ref b)) := lv_at hl 1 rfl
  have h5 : ls[5]? = some (.val (.int (nI i))) := lv_at hl 6 rfl
  refine lv_aload_n hx hb (show decode cL_law 1158 = .ok (.aload_n 2, 1) from by decide +kernel) rfl (lv_at hl 3 rfl) ?_
  refine lw_ld (k := 1) (n := 1) hx hb X L1.hS (by decide) h0 h5 (by decide) (by decide +kernel) ?_
  refine lw_ld (k := 2) (n := 2) hx hb X L1.hS (by decide) h0 h5 (by decide) (by decide +kernel) ?_
  refine lw_ld (k := 3) (n := 3) hx hb X L1.hS (by decide) h0 h5 (by decide) (by decide +kernel) ?_
  obtain ⟨-, -, em, ex, eo, ed⟩ := I1.hl
  rw [← em]
  refine lm_X7_free hl9 (xs (i + 1)) (xs (i + 2)) (xs (i + 3)) (lw_LA_st hLP) F L1 I1 hl.1 ⟨by omega, by omega⟩ (fun u2 res2 H2 locs2 st2 cx2 cy2 fs2 hr2 I2 L2 => ?_)
  obtain ⟨v2, rfl⟩ := hr2
  show W _ _ _ _ _ _ _ _ _ _ _ _ _ _ _ (F0 m 1180 ls [.int v2])
  refine lv_istore (lv' := [(7, .int v2), (6, .int r1), (0, .ref b), (1, .ref ax), (2, .ref am), (3, .ref ao), (4, .ref ad), (5, .int (nI i))]) hx hb (show decode cL_law 1180 = .ok (.istore 7, 2) from by decide +kernel) hl (by decide) rfl (fun ls hl => ?_)
  have h0 : ls[0]? = some (.val (.ref b)) := lv_at hl 2 rfl
  have h5 : ls[5]? = some (.val (.int (nI i))) := lv_at hl 7 rfl
  refine lv_goto (tgt := 2357) hx hb (show decode cL_law 1182 = .ok (.goto 1175, 3) from by decide +kernel) (by decide) ?_
  refine W.widen (k := cells + 100) (n := slots + 1000) (by omega) (by omega) ?_
  exact k _ _ _ _ _ _ _ _ I2 L2 (lv_sub hl [2, 3, 4, 5, 6, 7] rfl)
set_option maxHeartbeats 4000000 in
theorem lc_20 (hl9 : l.stackTraces = false) (hLP : lw_st LP) (F : lw_Fm p R s m args c D tys cO cD A) (X : lw_X b Ln xs s A i) (L : lw_H D A s w H locs) (I : lw_I lw_E (lw_LA LP am ax ao ad qx qo qd) tys cO cD qx qo qd sh w st cx cy fs) (hl : lv_has ls 9 (lw_lv b ax am ao ad i)) (hcs : cells + 100 ≤ R.cells ∧ slots + 1000 ≤ R.slots)
    (k : ∀ (u : en_H × va_W) (H1 : Heap) (locs1 : List Loc) (ls1 : Array Slot) (st' : Nat) (cx' cy' : Int32) (fs' : List Value), lw_I lw_E (lw_LA LP am ax ao ad qx qo qd) tys cO cD qx qo qd u.1 u.2 st' cx' cy' fs' → lw_H D A s u.2 H1 locs1 → lv_has ls1 9 (lw_lv b ax am ao ad i) → W p l e R s m args below meth c H1 locs1 (cells + 100) (slots + 1000) Q (F0 m 2357 ls1 [])) :
    W p l e R s m args below meth c H locs cells slots Q (F0 m 1185 ls []) := by
  have hx := F.hx
  have hb := F.hb
  have h0 : ls[0]? = some (.val (.ref b)) := lv_at hl 0 rfl
  have h5 : ls[5]? = some (.val (.int (nI i))) := lv_at hl 5 rfl
  refine lv_aload_n hx hb (show decode cL_law 1185 = .ok (.aload_n 1, 1) from by decide +kernel) rfl (lv_at hl 1 rfl) ?_
  refine lw_ld (k := 1) (n := 1) hx hb X L.hS (by decide) h0 h5 (by decide) (by decide +kernel) ?_
  refine lw_ld (k := 2) (n := 2) hx hb X L.hS (by decide) h0 h5 (by decide) (by decide +kernel) ?_
  refine lw_ld (k := 3) (n := 3) hx hb X L.hS (by decide) h0 h5 (by decide) (by decide +kernel) ?_
  refine lv_aload_n hx hb (show decode cL_law 1204 = .ok (.aload_n 3, 1) from by decide +kernel) rfl (lv_at hl 3 rfl) ?_
  obtain ⟨-, -, em, ex, eo, ed⟩ := I.hl
  rw [← ex, ← eo]
  refine lx_wrongPlace hl9 (xs (i + 1)) (xs (i + 2)) (xs (i + 3)) (lw_LA_st hLP) F L I hl.1 ⟨by omega, by omega⟩ (fun u1 r1 H1 locs1 fs1 I1 L1 => ?_)
  refine lv_istore (lv' := [(6, .int r1), (0, .ref b), (1, .ref ax), (2, .ref am), (3, .ref ao), (4, .ref ad), (5, .int (nI i))]) hx hb (show decode cL_law 1208 = .ok (.istore 6, 2) from by decide +kernel) hl (by decide) rfl (fun ls hl => ?_)
  have h0 : ls[0]? = some (.val (.ref b)) := lv_at hl 1 rfl
  have h5 : ls[5]? = some (.val (.int (nI i))) := lv_at hl 6 rfl
  refine lv_aload_n hx hb (show decode cL_law 1210 = .ok (.aload_n 2, 1) from by decide +kernel) rfl (lv_at hl 3 rfl) ?_
  refine lw_ld (k := 1) (n := 1) hx hb X L1.hS (by decide) h0 h5 (by decide) (by decide +kernel) ?_
  refine lw_ld (k := 2) (n := 2) hx hb X L1.hS (by decide) h0 h5 (by decide) (by decide +kernel) ?_
  refine lw_ld (k := 3) (n := 3) hx hb X L1.hS (by decide) h0 h5 (by decide) (by decide +kernel) ?_
  obtain ⟨-, -, em, ex, eo, ed⟩ := I1.hl
  rw [← em]
  refine lm_X7_wrongPlace hl9 (xs (i + 1)) (xs (i + 2)) (xs (i + 3)) (lw_LA_st hLP) F L1 I1 hl.1 ⟨by omega, by omega⟩ (fun u2 res2 H2 locs2 st2 cx2 cy2 fs2 hr2 I2 L2 => ?_)
  obtain ⟨v2, rfl⟩ := hr2
  show W _ _ _ _ _ _ _ _ _ _ _ _ _ _ _ (F0 m 1232 ls [.int v2])
  refine lv_istore (lv' := [(7, .int v2), (6, .int r1), (0, .ref b), (1, .ref ax), (2, .ref am), (3, .ref ao), (4, .ref ad), (5, .int (nI i))]) hx hb (show decode cL_law 1232 = .ok (.istore 7, 2) from by decide +kernel) hl (by decide) rfl (fun ls hl => ?_)
  have h0 : ls[0]? = some (.val (.ref b)) := lv_at hl 2 rfl
  have h5 : ls[5]? = some (.val (.int (nI i))) := lv_at hl 7 rfl
  refine lv_goto (tgt := 2357) hx hb (show decode cL_law 1234 = .ok (.goto 1123, 3) from by decide +kernel) (by decide) ?_
  refine W.widen (k := cells + 100) (n := slots + 1000) (by omega) (by omega) ?_
  exact k _ _ _ _ _ _ _ _ I2 L2 (lv_sub hl [2, 3, 4, 5, 6, 7] rfl)
set_option maxHeartbeats 4000000 in
theorem lc_21 (hl9 : l.stackTraces = false) (hLP : lw_st LP) (F : lw_Fm p R s m args c D tys cO cD A) (X : lw_X b Ln xs s A i) (L : lw_H D A s w H locs) (I : lw_I lw_E (lw_LA LP am ax ao ad qx qo qd) tys cO cD qx qo qd sh w st cx cy fs) (hl : lv_has ls 9 (lw_lv b ax am ao ad i)) (hcs : cells + 100 ≤ R.cells ∧ slots + 1000 ≤ R.slots)
    (k : ∀ (u : en_H × va_W) (H1 : Heap) (locs1 : List Loc) (ls1 : Array Slot) (st' : Nat) (cx' cy' : Int32) (fs' : List Value), lw_I lw_E (lw_LA LP am ax ao ad qx qo qd) tys cO cD qx qo qd u.1 u.2 st' cx' cy' fs' → lw_H D A s u.2 H1 locs1 → lv_has ls1 9 (lw_lv b ax am ao ad i) → W p l e R s m args below meth c H1 locs1 (cells + 100) (slots + 1000) Q (F0 m 2357 ls1 [])) :
    W p l e R s m args below meth c H locs cells slots Q (F0 m 1237 ls []) := by
  have hx := F.hx
  have hb := F.hb
  have h0 : ls[0]? = some (.val (.ref b)) := lv_at hl 0 rfl
  have h5 : ls[5]? = some (.val (.int (nI i))) := lv_at hl 5 rfl
  refine lv_aload_n hx hb (show decode cL_law 1237 = .ok (.aload_n 1, 1) from by decide +kernel) rfl (lv_at hl 1 rfl) ?_
  refine lw_ld (k := 1) (n := 1) hx hb X L.hS (by decide) h0 h5 (by decide) (by decide +kernel) ?_
  refine lv_aload_n hx hb (show decode cL_law 1244 = .ok (.aload_n 3, 1) from by decide +kernel) rfl (lv_at hl 3 rfl) ?_
  obtain ⟨-, -, em, ex, eo, ed⟩ := I.hl
  rw [← ex, ← eo]
  refine lx_correct hl9 (xs (i + 1)) (lw_LA_st hLP) F L I hl.1 ⟨by omega, by omega⟩ (fun u1 r1 H1 locs1 fs1 I1 L1 => ?_)
  refine lv_istore (lv' := [(6, .int r1), (0, .ref b), (1, .ref ax), (2, .ref am), (3, .ref ao), (4, .ref ad), (5, .int (nI i))]) hx hb (show decode cL_law 1248 = .ok (.istore 6, 2) from by decide +kernel) hl (by decide) rfl (fun ls hl => ?_)
  have h0 : ls[0]? = some (.val (.ref b)) := lv_at hl 1 rfl
  have h5 : ls[5]? = some (.val (.int (nI i))) := lv_at hl 6 rfl
  refine lv_aload_n hx hb (show decode cL_law 1250 = .ok (.aload_n 2, 1) from by decide +kernel) rfl (lv_at hl 3 rfl) ?_
  refine lw_ld (k := 1) (n := 1) hx hb X L1.hS (by decide) h0 h5 (by decide) (by decide +kernel) ?_
  obtain ⟨-, -, em, ex, eo, ed⟩ := I1.hl
  rw [← em]
  refine lm_X7_correct hl9 (xs (i + 1)) (lw_LA_st hLP) F L1 I1 hl.1 ⟨by omega, by omega⟩ (fun u2 res2 H2 locs2 st2 cx2 cy2 fs2 hr2 I2 L2 => ?_)
  obtain ⟨v2, rfl⟩ := hr2
  show W _ _ _ _ _ _ _ _ _ _ _ _ _ _ _ (F0 m 1260 ls [.int v2])
  refine lv_istore (lv' := [(7, .int v2), (6, .int r1), (0, .ref b), (1, .ref ax), (2, .ref am), (3, .ref ao), (4, .ref ad), (5, .int (nI i))]) hx hb (show decode cL_law 1260 = .ok (.istore 7, 2) from by decide +kernel) hl (by decide) rfl (fun ls hl => ?_)
  have h0 : ls[0]? = some (.val (.ref b)) := lv_at hl 2 rfl
  have h5 : ls[5]? = some (.val (.int (nI i))) := lv_at hl 7 rfl
  refine lv_goto (tgt := 2357) hx hb (show decode cL_law 1262 = .ok (.goto 1095, 3) from by decide +kernel) (by decide) ?_
  refine W.widen (k := cells + 100) (n := slots + 1000) (by omega) (by omega) ?_
  exact k _ _ _ _ _ _ _ _ I2 L2 (lv_sub hl [2, 3, 4, 5, 6, 7] rfl)
set_option maxHeartbeats 4000000 in
theorem lc_22 (hl9 : l.stackTraces = false) (hLP : lw_st LP) (F : lw_Fm p R s m args c D tys cO cD A) (X : lw_X b Ln xs s A i) (L : lw_H D A s w H locs) (I : lw_I lw_E (lw_LA LP am ax ao ad qx qo qd) tys cO cD qx qo qd sh w st cx cy fs) (hl : lv_has ls 9 (lw_lv b ax am ao ad i)) (hcs : cells + 100 ≤ R.cells ∧ slots + 1000 ≤ R.slots)
    (k : ∀ (u : en_H × va_W) (H1 : Heap) (locs1 : List Loc) (ls1 : Array Slot) (st' : Nat) (cx' cy' : Int32) (fs' : List Value), lw_I lw_E (lw_LA LP am ax ao ad qx qo qd) tys cO cD qx qo qd u.1 u.2 st' cx' cy' fs' → lw_H D A s u.2 H1 locs1 → lv_has ls1 9 (lw_lv b ax am ao ad i) → W p l e R s m args below meth c H1 locs1 (cells + 100) (slots + 1000) Q (F0 m 2357 ls1 [])) :
    W p l e R s m args below meth c H locs cells slots Q (F0 m 1265 ls []) := by
  have hx := F.hx
  have hb := F.hb
  have h0 : ls[0]? = some (.val (.ref b)) := lv_at hl 0 rfl
  have h5 : ls[5]? = some (.val (.int (nI i))) := lv_at hl 5 rfl
  refine lv_aload_n hx hb (show decode cL_law 1265 = .ok (.aload_n 1, 1) from by decide +kernel) rfl (lv_at hl 1 rfl) ?_
  refine lw_ld (k := 1) (n := 1) hx hb X L.hS (by decide) h0 h5 (by decide) (by decide +kernel) ?_
  refine lw_ld (k := 2) (n := 2) hx hb X L.hS (by decide) h0 h5 (by decide) (by decide +kernel) ?_
  refine lv_i2c hx hb (show decode cL_law 1278 = .ok (.i2c, 1) from by decide +kernel) rfl ?_
  refine lw_ld (k := 3) (n := 3) hx hb X L.hS (by decide) h0 h5 (by decide) (by decide +kernel) ?_
  refine lw_ld (k := 4) (n := 4) hx hb X L.hS (by decide) h0 h5 (by decide) (by decide +kernel) ?_
  refine lv_aload_n hx hb (show decode cL_law 1291 = .ok (.aload_n 3, 1) from by decide +kernel) rfl (lv_at hl 3 rfl) ?_
  obtain ⟨-, -, em, ex, eo, ed⟩ := I.hl
  rw [← ex, ← eo]
  refine lx_move hl9 (xs (i + 1)) (((xs (i + 2))).toUInt32 % 65536).toInt32 (xs (i + 3)) (xs (i + 4)) (lw_c16 _) (lw_LA_st hLP) F L I hl.1 ⟨by omega, by omega⟩ (fun u1 r1 H1 locs1 fs1 I1 L1 => ?_)
  refine lv_istore (lv' := [(6, .int r1), (0, .ref b), (1, .ref ax), (2, .ref am), (3, .ref ao), (4, .ref ad), (5, .int (nI i))]) hx hb (show decode cL_law 1295 = .ok (.istore 6, 2) from by decide +kernel) hl (by decide) rfl (fun ls hl => ?_)
  have h0 : ls[0]? = some (.val (.ref b)) := lv_at hl 1 rfl
  have h5 : ls[5]? = some (.val (.int (nI i))) := lv_at hl 6 rfl
  refine lv_aload_n hx hb (show decode cL_law 1297 = .ok (.aload_n 2, 1) from by decide +kernel) rfl (lv_at hl 3 rfl) ?_
  refine lw_ld (k := 1) (n := 1) hx hb X L1.hS (by decide) h0 h5 (by decide) (by decide +kernel) ?_
  refine lw_ld (k := 2) (n := 2) hx hb X L1.hS (by decide) h0 h5 (by decide) (by decide +kernel) ?_
  refine lv_i2c hx hb (show decode cL_law 1310 = .ok (.i2c, 1) from by decide +kernel) rfl ?_
  refine lw_ld (k := 3) (n := 3) hx hb X L1.hS (by decide) h0 h5 (by decide) (by decide +kernel) ?_
  refine lw_ld (k := 4) (n := 4) hx hb X L1.hS (by decide) h0 h5 (by decide) (by decide +kernel) ?_
  obtain ⟨-, -, em, ex, eo, ed⟩ := I1.hl
  rw [← em]
  refine lm_X7_move hl9 (xs (i + 1)) (((xs (i + 2))).toUInt32 % 65536).toInt32 (xs (i + 3)) (xs (i + 4)) (lw_c16 _) (lw_LA_st hLP) F L1 I1 hl.1 ⟨by omega, by omega⟩ (fun u2 res2 H2 locs2 st2 cx2 cy2 fs2 hr2 I2 L2 => ?_)
  obtain ⟨v2, rfl⟩ := hr2
  show W _ _ _ _ _ _ _ _ _ _ _ _ _ _ _ (F0 m 1326 ls [.int v2])
  refine lv_istore (lv' := [(7, .int v2), (6, .int r1), (0, .ref b), (1, .ref ax), (2, .ref am), (3, .ref ao), (4, .ref ad), (5, .int (nI i))]) hx hb (show decode cL_law 1326 = .ok (.istore 7, 2) from by decide +kernel) hl (by decide) rfl (fun ls hl => ?_)
  have h0 : ls[0]? = some (.val (.ref b)) := lv_at hl 2 rfl
  have h5 : ls[5]? = some (.val (.int (nI i))) := lv_at hl 7 rfl
  refine lv_goto (tgt := 2357) hx hb (show decode cL_law 1328 = .ok (.goto 1029, 3) from by decide +kernel) (by decide) ?_
  refine W.widen (k := cells + 100) (n := slots + 1000) (by omega) (by omega) ?_
  exact k _ _ _ _ _ _ _ _ I2 L2 (lv_sub hl [2, 3, 4, 5, 6, 7] rfl)
set_option maxHeartbeats 4000000 in
theorem lc_23 (hl9 : l.stackTraces = false) (hLP : lw_st LP) (F : lw_Fm p R s m args c D tys cO cD A) (X : lw_X b Ln xs s A i) (L : lw_H D A s w H locs) (I : lw_I lw_E (lw_LA LP am ax ao ad qx qo qd) tys cO cD qx qo qd sh w st cx cy fs) (hl : lv_has ls 9 (lw_lv b ax am ao ad i)) (hcs : cells + 100 ≤ R.cells ∧ slots + 1000 ≤ R.slots)
    (k : ∀ (u : en_H × va_W) (H1 : Heap) (locs1 : List Loc) (ls1 : Array Slot) (st' : Nat) (cx' cy' : Int32) (fs' : List Value), lw_I lw_E (lw_LA LP am ax ao ad qx qo qd) tys cO cD qx qo qd u.1 u.2 st' cx' cy' fs' → lw_H D A s u.2 H1 locs1 → lv_has ls1 9 (lw_lv b ax am ao ad i) → W p l e R s m args below meth c H1 locs1 (cells + 100) (slots + 1000) Q (F0 m 2357 ls1 [])) :
    W p l e R s m args below meth c H locs cells slots Q (F0 m 1331 ls []) := by
  have hx := F.hx
  have hb := F.hb
  have h0 : ls[0]? = some (.val (.ref b)) := lv_at hl 0 rfl
  have h5 : ls[5]? = some (.val (.int (nI i))) := lv_at hl 5 rfl
  refine lv_aload_n hx hb (show decode cL_law 1331 = .ok (.aload_n 1, 1) from by decide +kernel) rfl (lv_at hl 1 rfl) ?_
  refine lw_ld (k := 1) (n := 1) hx hb X L.hS (by decide) h0 h5 (by decide) (by decide +kernel) ?_
  refine lw_ld (k := 2) (n := 2) hx hb X L.hS (by decide) h0 h5 (by decide) (by decide +kernel) ?_
  refine lv_aload_n hx hb (show decode cL_law 1344 = .ok (.aload_n 3, 1) from by decide +kernel) rfl (lv_at hl 3 rfl) ?_
  obtain ⟨-, -, em, ex, eo, ed⟩ := I.hl
  rw [← ex, ← eo]
  refine lx_wrongBall hl9 (xs (i + 1)) (xs (i + 2)) (lw_LA_st hLP) F L I hl.1 ⟨by omega, by omega⟩ (fun u1 r1 H1 locs1 fs1 I1 L1 => ?_)
  refine lv_istore (lv' := [(6, .int r1), (0, .ref b), (1, .ref ax), (2, .ref am), (3, .ref ao), (4, .ref ad), (5, .int (nI i))]) hx hb (show decode cL_law 1348 = .ok (.istore 6, 2) from by decide +kernel) hl (by decide) rfl (fun ls hl => ?_)
  have h0 : ls[0]? = some (.val (.ref b)) := lv_at hl 1 rfl
  have h5 : ls[5]? = some (.val (.int (nI i))) := lv_at hl 6 rfl
  refine lv_aload_n hx hb (show decode cL_law 1350 = .ok (.aload_n 2, 1) from by decide +kernel) rfl (lv_at hl 3 rfl) ?_
  refine lw_ld (k := 1) (n := 1) hx hb X L1.hS (by decide) h0 h5 (by decide) (by decide +kernel) ?_
  refine lw_ld (k := 2) (n := 2) hx hb X L1.hS (by decide) h0 h5 (by decide) (by decide +kernel) ?_
  obtain ⟨-, -, em, ex, eo, ed⟩ := I1.hl
  rw [← em]
  refine lm_X7_wrongBall hl9 (xs (i + 1)) (xs (i + 2)) (lw_LA_st hLP) F L1 I1 hl.1 ⟨by omega, by omega⟩ (fun u2 res2 H2 locs2 st2 cx2 cy2 fs2 hr2 I2 L2 => ?_)
  obtain ⟨v2, rfl⟩ := hr2
  show W _ _ _ _ _ _ _ _ _ _ _ _ _ _ _ (F0 m 1366 ls [.int v2])
  refine lv_istore (lv' := [(7, .int v2), (6, .int r1), (0, .ref b), (1, .ref ax), (2, .ref am), (3, .ref ao), (4, .ref ad), (5, .int (nI i))]) hx hb (show decode cL_law 1366 = .ok (.istore 7, 2) from by decide +kernel) hl (by decide) rfl (fun ls hl => ?_)
  have h0 : ls[0]? = some (.val (.ref b)) := lv_at hl 2 rfl
  have h5 : ls[5]? = some (.val (.int (nI i))) := lv_at hl 7 rfl
  refine lv_goto (tgt := 2357) hx hb (show decode cL_law 1368 = .ok (.goto 989, 3) from by decide +kernel) (by decide) ?_
  refine W.widen (k := cells + 100) (n := slots + 1000) (by omega) (by omega) ?_
  exact k _ _ _ _ _ _ _ _ I2 L2 (lv_sub hl [2, 3, 4, 5, 6, 7] rfl)
set_option maxHeartbeats 4000000 in
theorem lc_24 (hl9 : l.stackTraces = false) (hLP : lw_st LP) (F : lw_Fm p R s m args c D tys cO cD A) (X : lw_X b Ln xs s A i) (L : lw_H D A s w H locs) (I : lw_I lw_E (lw_LA LP am ax ao ad qx qo qd) tys cO cD qx qo qd sh w st cx cy fs) (hl : lv_has ls 9 (lw_lv b ax am ao ad i)) (hcs : cells + 100 ≤ R.cells ∧ slots + 1000 ≤ R.slots)
    (k : ∀ (u : en_H × va_W) (H1 : Heap) (locs1 : List Loc) (ls1 : Array Slot) (st' : Nat) (cx' cy' : Int32) (fs' : List Value), lw_I lw_E (lw_LA LP am ax ao ad qx qo qd) tys cO cD qx qo qd u.1 u.2 st' cx' cy' fs' → lw_H D A s u.2 H1 locs1 → lv_has ls1 9 (lw_lv b ax am ao ad i) → W p l e R s m args below meth c H1 locs1 (cells + 100) (slots + 1000) Q (F0 m 2357 ls1 [])) :
    W p l e R s m args below meth c H locs cells slots Q (F0 m 1371 ls []) := by
  have hx := F.hx
  have hb := F.hb
  have h0 : ls[0]? = some (.val (.ref b)) := lv_at hl 0 rfl
  have h5 : ls[5]? = some (.val (.int (nI i))) := lv_at hl 5 rfl
  refine lv_aload_n hx hb (show decode cL_law 1371 = .ok (.aload_n 1, 1) from by decide +kernel) rfl (lv_at hl 1 rfl) ?_
  refine lw_ld (k := 1) (n := 1) hx hb X L.hS (by decide) h0 h5 (by decide) (by decide +kernel) ?_
  refine lv_aload_n hx hb (show decode cL_law 1378 = .ok (.aload_n 3, 1) from by decide +kernel) rfl (lv_at hl 3 rfl) ?_
  obtain ⟨-, -, em, ex, eo, ed⟩ := I.hl
  rw [← ex, ← eo]
  refine lx_pickUp hl9 (xs (i + 1)) (lw_LA_st hLP) F L I hl.1 ⟨by omega, by omega⟩ (fun u1 r1 H1 locs1 fs1 I1 L1 => ?_)
  refine lv_istore (lv' := [(6, .int r1), (0, .ref b), (1, .ref ax), (2, .ref am), (3, .ref ao), (4, .ref ad), (5, .int (nI i))]) hx hb (show decode cL_law 1382 = .ok (.istore 6, 2) from by decide +kernel) hl (by decide) rfl (fun ls hl => ?_)
  have h0 : ls[0]? = some (.val (.ref b)) := lv_at hl 1 rfl
  have h5 : ls[5]? = some (.val (.int (nI i))) := lv_at hl 6 rfl
  refine lv_aload_n hx hb (show decode cL_law 1384 = .ok (.aload_n 2, 1) from by decide +kernel) rfl (lv_at hl 3 rfl) ?_
  refine lw_ld (k := 1) (n := 1) hx hb X L1.hS (by decide) h0 h5 (by decide) (by decide +kernel) ?_
  obtain ⟨-, -, em, ex, eo, ed⟩ := I1.hl
  rw [← em]
  refine lm_X7_pickUp hl9 (xs (i + 1)) (lw_LA_st hLP) F L1 I1 hl.1 ⟨by omega, by omega⟩ (fun u2 res2 H2 locs2 st2 cx2 cy2 fs2 hr2 I2 L2 => ?_)
  obtain ⟨v2, rfl⟩ := hr2
  show W _ _ _ _ _ _ _ _ _ _ _ _ _ _ _ (F0 m 1394 ls [.int v2])
  refine lv_istore (lv' := [(7, .int v2), (6, .int r1), (0, .ref b), (1, .ref ax), (2, .ref am), (3, .ref ao), (4, .ref ad), (5, .int (nI i))]) hx hb (show decode cL_law 1394 = .ok (.istore 7, 2) from by decide +kernel) hl (by decide) rfl (fun ls hl => ?_)
  have h0 : ls[0]? = some (.val (.ref b)) := lv_at hl 2 rfl
  have h5 : ls[5]? = some (.val (.int (nI i))) := lv_at hl 7 rfl
  refine lv_goto (tgt := 2357) hx hb (show decode cL_law 1396 = .ok (.goto 961, 3) from by decide +kernel) (by decide) ?_
  refine W.widen (k := cells + 100) (n := slots + 1000) (by omega) (by omega) ?_
  exact k _ _ _ _ _ _ _ _ I2 L2 (lv_sub hl [2, 3, 4, 5, 6, 7] rfl)
set_option maxHeartbeats 4000000 in
theorem lc_25 (hl9 : l.stackTraces = false) (hLP : lw_st LP) (F : lw_Fm p R s m args c D tys cO cD A) (X : lw_X b Ln xs s A i) (L : lw_H D A s w H locs) (I : lw_I lw_E (lw_LA LP am ax ao ad qx qo qd) tys cO cD qx qo qd sh w st cx cy fs) (hl : lv_has ls 9 (lw_lv b ax am ao ad i)) (hcs : cells + 100 ≤ R.cells ∧ slots + 1000 ≤ R.slots)
    (k : ∀ (u : en_H × va_W) (H1 : Heap) (locs1 : List Loc) (ls1 : Array Slot) (st' : Nat) (cx' cy' : Int32) (fs' : List Value), lw_I lw_E (lw_LA LP am ax ao ad qx qo qd) tys cO cD qx qo qd u.1 u.2 st' cx' cy' fs' → lw_H D A s u.2 H1 locs1 → lv_has ls1 9 (lw_lv b ax am ao ad i) → W p l e R s m args below meth c H1 locs1 (cells + 100) (slots + 1000) Q (F0 m 2357 ls1 [])) :
    W p l e R s m args below meth c H locs cells slots Q (F0 m 1399 ls []) := by
  have hx := F.hx
  have hb := F.hb
  have h0 : ls[0]? = some (.val (.ref b)) := lv_at hl 0 rfl
  have h5 : ls[5]? = some (.val (.int (nI i))) := lv_at hl 5 rfl
  refine lv_aload_n hx hb (show decode cL_law 1399 = .ok (.aload_n 1, 1) from by decide +kernel) rfl (lv_at hl 1 rfl) ?_
  refine lw_ld (k := 1) (n := 1) hx hb X L.hS (by decide) h0 h5 (by decide) (by decide +kernel) ?_
  refine lw_tv hx hb (by decide +kernel) ?_
  refine lv_aload_n hx hb (show decode cL_law 1414 = .ok (.aload_n 3, 1) from by decide +kernel) rfl (lv_at hl 3 rfl) ?_
  obtain ⟨-, -, em, ex, eo, ed⟩ := I.hl
  rw [← ex, ← eo]
  refine lx_suspend hl9 (lw_bv (xs (i + 1))) (lw_bv_b _) (lw_LA_st hLP) F L I hl.1 ⟨by omega, by omega⟩ (fun u1 r1 H1 locs1 fs1 I1 L1 => ?_)
  refine lv_istore (lv' := [(6, .int r1), (0, .ref b), (1, .ref ax), (2, .ref am), (3, .ref ao), (4, .ref ad), (5, .int (nI i))]) hx hb (show decode cL_law 1418 = .ok (.istore 6, 2) from by decide +kernel) hl (by decide) rfl (fun ls hl => ?_)
  have h0 : ls[0]? = some (.val (.ref b)) := lv_at hl 1 rfl
  have h5 : ls[5]? = some (.val (.int (nI i))) := lv_at hl 6 rfl
  refine lv_aload_n hx hb (show decode cL_law 1420 = .ok (.aload_n 2, 1) from by decide +kernel) rfl (lv_at hl 3 rfl) ?_
  refine lw_ld (k := 1) (n := 1) hx hb X L1.hS (by decide) h0 h5 (by decide) (by decide +kernel) ?_
  refine lw_tv hx hb (by decide +kernel) ?_
  obtain ⟨-, -, em, ex, eo, ed⟩ := I1.hl
  rw [← em]
  refine lm_X7_suspend hl9 (lw_bv (xs (i + 1))) (lw_bv_b _) (lw_LA_st hLP) F L1 I1 hl.1 ⟨by omega, by omega⟩ (fun u2 res2 H2 locs2 st2 cx2 cy2 fs2 hr2 I2 L2 => ?_)
  obtain ⟨v2, rfl⟩ := hr2
  show W _ _ _ _ _ _ _ _ _ _ _ _ _ _ _ (F0 m 1438 ls [.int v2])
  refine lv_istore (lv' := [(7, .int v2), (6, .int r1), (0, .ref b), (1, .ref ax), (2, .ref am), (3, .ref ao), (4, .ref ad), (5, .int (nI i))]) hx hb (show decode cL_law 1438 = .ok (.istore 7, 2) from by decide +kernel) hl (by decide) rfl (fun ls hl => ?_)
  have h0 : ls[0]? = some (.val (.ref b)) := lv_at hl 2 rfl
  have h5 : ls[5]? = some (.val (.int (nI i))) := lv_at hl 7 rfl
  refine lv_goto (tgt := 2357) hx hb (show decode cL_law 1440 = .ok (.goto 917, 3) from by decide +kernel) (by decide) ?_
  refine W.widen (k := cells + 100) (n := slots + 1000) (by omega) (by omega) ?_
  exact k _ _ _ _ _ _ _ _ I2 L2 (lv_sub hl [2, 3, 4, 5, 6, 7] rfl)
set_option maxHeartbeats 4000000 in
theorem lc_26 (hl9 : l.stackTraces = false) (hLP : lw_st LP) (F : lw_Fm p R s m args c D tys cO cD A) (X : lw_X b Ln xs s A i) (L : lw_H D A s w H locs) (I : lw_I lw_E (lw_LA LP am ax ao ad qx qo qd) tys cO cD qx qo qd sh w st cx cy fs) (hl : lv_has ls 9 (lw_lv b ax am ao ad i)) (hcs : cells + 100 ≤ R.cells ∧ slots + 1000 ≤ R.slots)
    (k : ∀ (u : en_H × va_W) (H1 : Heap) (locs1 : List Loc) (ls1 : Array Slot) (st' : Nat) (cx' cy' : Int32) (fs' : List Value), lw_I lw_E (lw_LA LP am ax ao ad qx qo qd) tys cO cD qx qo qd u.1 u.2 st' cx' cy' fs' → lw_H D A s u.2 H1 locs1 → lv_has ls1 9 (lw_lv b ax am ao ad i) → W p l e R s m args below meth c H1 locs1 (cells + 100) (slots + 1000) Q (F0 m 2357 ls1 [])) :
    W p l e R s m args below meth c H locs cells slots Q (F0 m 1443 ls []) := by
  have hx := F.hx
  have hb := F.hb
  have h0 : ls[0]? = some (.val (.ref b)) := lv_at hl 0 rfl
  have h5 : ls[5]? = some (.val (.int (nI i))) := lv_at hl 5 rfl
  refine lv_aload_n hx hb (show decode cL_law 1443 = .ok (.aload_n 1, 1) from by decide +kernel) rfl (lv_at hl 1 rfl) ?_
  refine lw_ld (k := 1) (n := 1) hx hb X L.hS (by decide) h0 h5 (by decide) (by decide +kernel) ?_
  refine lv_aload_n hx hb (show decode cL_law 1450 = .ok (.aload_n 3, 1) from by decide +kernel) rfl (lv_at hl 3 rfl) ?_
  obtain ⟨-, -, em, ex, eo, ed⟩ := I.hl
  rw [← ex, ← eo]
  refine lx_cancel hl9 (xs (i + 1)) (lw_LA_st hLP) F L I hl.1 ⟨by omega, by omega⟩ (fun u1 r1 H1 locs1 fs1 I1 L1 => ?_)
  refine lv_istore (lv' := [(6, .int r1), (0, .ref b), (1, .ref ax), (2, .ref am), (3, .ref ao), (4, .ref ad), (5, .int (nI i))]) hx hb (show decode cL_law 1454 = .ok (.istore 6, 2) from by decide +kernel) hl (by decide) rfl (fun ls hl => ?_)
  have h0 : ls[0]? = some (.val (.ref b)) := lv_at hl 1 rfl
  have h5 : ls[5]? = some (.val (.int (nI i))) := lv_at hl 6 rfl
  refine lv_aload_n hx hb (show decode cL_law 1456 = .ok (.aload_n 2, 1) from by decide +kernel) rfl (lv_at hl 3 rfl) ?_
  refine lw_ld (k := 1) (n := 1) hx hb X L1.hS (by decide) h0 h5 (by decide) (by decide +kernel) ?_
  obtain ⟨-, -, em, ex, eo, ed⟩ := I1.hl
  rw [← em]
  refine lm_X7_cancel hl9 (xs (i + 1)) (lw_LA_st hLP) F L1 I1 hl.1 ⟨by omega, by omega⟩ (fun u2 res2 H2 locs2 st2 cx2 cy2 fs2 hr2 I2 L2 => ?_)
  obtain ⟨v2, rfl⟩ := hr2
  show W _ _ _ _ _ _ _ _ _ _ _ _ _ _ _ (F0 m 1466 ls [.int v2])
  refine lv_istore (lv' := [(7, .int v2), (6, .int r1), (0, .ref b), (1, .ref ax), (2, .ref am), (3, .ref ao), (4, .ref ad), (5, .int (nI i))]) hx hb (show decode cL_law 1466 = .ok (.istore 7, 2) from by decide +kernel) hl (by decide) rfl (fun ls hl => ?_)
  have h0 : ls[0]? = some (.val (.ref b)) := lv_at hl 2 rfl
  have h5 : ls[5]? = some (.val (.int (nI i))) := lv_at hl 7 rfl
  refine lv_goto (tgt := 2357) hx hb (show decode cL_law 1468 = .ok (.goto 889, 3) from by decide +kernel) (by decide) ?_
  refine W.widen (k := cells + 100) (n := slots + 1000) (by omega) (by omega) ?_
  exact k _ _ _ _ _ _ _ _ I2 L2 (lv_sub hl [2, 3, 4, 5, 6, 7] rfl)
set_option maxHeartbeats 4000000 in
theorem lc_27 (hl9 : l.stackTraces = false) (hLP : lw_st LP) (F : lw_Fm p R s m args c D tys cO cD A) (X : lw_X b Ln xs s A i) (L : lw_H D A s w H locs) (I : lw_I lw_E (lw_LA LP am ax ao ad qx qo qd) tys cO cD qx qo qd sh w st cx cy fs) (hl : lv_has ls 9 (lw_lv b ax am ao ad i)) (hcs : cells + 100 ≤ R.cells ∧ slots + 1000 ≤ R.slots)
    (k : ∀ (u : en_H × va_W) (H1 : Heap) (locs1 : List Loc) (ls1 : Array Slot) (st' : Nat) (cx' cy' : Int32) (fs' : List Value), lw_I lw_E (lw_LA LP am ax ao ad qx qo qd) tys cO cD qx qo qd u.1 u.2 st' cx' cy' fs' → lw_H D A s u.2 H1 locs1 → lv_has ls1 9 (lw_lv b ax am ao ad i) → W p l e R s m args below meth c H1 locs1 (cells + 100) (slots + 1000) Q (F0 m 2357 ls1 [])) :
    W p l e R s m args below meth c H locs cells slots Q (F0 m 1471 ls []) := by
  have hx := F.hx
  have hb := F.hb
  have h0 : ls[0]? = some (.val (.ref b)) := lv_at hl 0 rfl
  have h5 : ls[5]? = some (.val (.int (nI i))) := lv_at hl 5 rfl
  refine lv_aload_n hx hb (show decode cL_law 1471 = .ok (.aload_n 1, 1) from by decide +kernel) rfl (lv_at hl 1 rfl) ?_
  refine lw_ld (k := 1) (n := 1) hx hb X L.hS (by decide) h0 h5 (by decide) (by decide +kernel) ?_
  refine lw_ld (k := 2) (n := 2) hx hb X L.hS (by decide) h0 h5 (by decide) (by decide +kernel) ?_
  refine lv_i2c hx hb (show decode cL_law 1484 = .ok (.i2c, 1) from by decide +kernel) rfl ?_
  refine lv_aload_n hx hb (show decode cL_law 1485 = .ok (.aload_n 3, 1) from by decide +kernel) rfl (lv_at hl 3 rfl) ?_
  obtain ⟨-, -, em, ex, eo, ed⟩ := I.hl
  rw [← ex, ← eo]
  refine lx_concede hl9 (xs (i + 1)) (((xs (i + 2))).toUInt32 % 65536).toInt32 (lw_c16 _) (lw_LA_st hLP) F L I hl.1 ⟨by omega, by omega⟩ (fun u1 r1 H1 locs1 fs1 I1 L1 => ?_)
  refine lv_istore (lv' := [(6, .int r1), (0, .ref b), (1, .ref ax), (2, .ref am), (3, .ref ao), (4, .ref ad), (5, .int (nI i))]) hx hb (show decode cL_law 1489 = .ok (.istore 6, 2) from by decide +kernel) hl (by decide) rfl (fun ls hl => ?_)
  have h0 : ls[0]? = some (.val (.ref b)) := lv_at hl 1 rfl
  have h5 : ls[5]? = some (.val (.int (nI i))) := lv_at hl 6 rfl
  refine lv_aload_n hx hb (show decode cL_law 1491 = .ok (.aload_n 2, 1) from by decide +kernel) rfl (lv_at hl 3 rfl) ?_
  refine lw_ld (k := 1) (n := 1) hx hb X L1.hS (by decide) h0 h5 (by decide) (by decide +kernel) ?_
  refine lw_ld (k := 2) (n := 2) hx hb X L1.hS (by decide) h0 h5 (by decide) (by decide +kernel) ?_
  refine lv_i2c hx hb (show decode cL_law 1504 = .ok (.i2c, 1) from by decide +kernel) rfl ?_
  obtain ⟨-, -, em, ex, eo, ed⟩ := I1.hl
  rw [← em]
  refine lm_X7_concede hl9 (xs (i + 1)) (((xs (i + 2))).toUInt32 % 65536).toInt32 (lw_c16 _) (lw_LA_st hLP) F L1 I1 hl.1 ⟨by omega, by omega⟩ (fun u2 res2 H2 locs2 st2 cx2 cy2 fs2 hr2 I2 L2 => ?_)
  obtain ⟨v2, rfl⟩ := hr2
  show W _ _ _ _ _ _ _ _ _ _ _ _ _ _ _ (F0 m 1508 ls [.int v2])
  refine lv_istore (lv' := [(7, .int v2), (6, .int r1), (0, .ref b), (1, .ref ax), (2, .ref am), (3, .ref ao), (4, .ref ad), (5, .int (nI i))]) hx hb (show decode cL_law 1508 = .ok (.istore 7, 2) from by decide +kernel) hl (by decide) rfl (fun ls hl => ?_)
  have h0 : ls[0]? = some (.val (.ref b)) := lv_at hl 2 rfl
  have h5 : ls[5]? = some (.val (.int (nI i))) := lv_at hl 7 rfl
  refine lv_goto (tgt := 2357) hx hb (show decode cL_law 1510 = .ok (.goto 847, 3) from by decide +kernel) (by decide) ?_
  refine W.widen (k := cells + 100) (n := slots + 1000) (by omega) (by omega) ?_
  exact k _ _ _ _ _ _ _ _ I2 L2 (lv_sub hl [2, 3, 4, 5, 6, 7] rfl)
set_option maxHeartbeats 4000000 in
theorem lc_29 (hl9 : l.stackTraces = false) (hLP : lw_st LP) (F : lw_Fm p R s m args c D tys cO cD A) (X : lw_X b Ln xs s A i) (L : lw_H D A s w H locs) (I : lw_I lw_E (lw_LA LP am ax ao ad qx qo qd) tys cO cD qx qo qd sh w st cx cy fs) (hl : lv_has ls 9 (lw_lv b ax am ao ad i)) (hcs : cells + 100 ≤ R.cells ∧ slots + 1000 ≤ R.slots)
    (k : ∀ (u : en_H × va_W) (H1 : Heap) (locs1 : List Loc) (ls1 : Array Slot) (st' : Nat) (cx' cy' : Int32) (fs' : List Value), lw_I lw_E (lw_LA LP am ax ao ad qx qo qd) tys cO cD qx qo qd u.1 u.2 st' cx' cy' fs' → lw_H D A s u.2 H1 locs1 → lv_has ls1 9 (lw_lv b ax am ao ad i) → W p l e R s m args below meth c H1 locs1 (cells + 100) (slots + 1000) Q (F0 m 2357 ls1 [])) :
    W p l e R s m args below meth c H locs cells slots Q (F0 m 1529 ls []) := by
  have hx := F.hx
  have hb := F.hb
  have h0 : ls[0]? = some (.val (.ref b)) := lv_at hl 0 rfl
  have h5 : ls[5]? = some (.val (.int (nI i))) := lv_at hl 5 rfl
  refine lv_aload_n hx hb (show decode cL_law 1529 = .ok (.aload_n 1, 1) from by decide +kernel) rfl (lv_at hl 1 rfl) ?_
  refine lw_ld (k := 1) (n := 1) hx hb X L.hS (by decide) h0 h5 (by decide) (by decide +kernel) ?_
  refine lv_aload_n hx hb (show decode cL_law 1536 = .ok (.aload_n 3, 1) from by decide +kernel) rfl (lv_at hl 3 rfl) ?_
  obtain ⟨-, -, em, ex, eo, ed⟩ := I.hl
  rw [← ex, ← eo]
  refine lx_state hl9 (xs (i + 1)) (lw_LA_st hLP) F L I hl.1 ⟨by omega, by omega⟩ (fun u1 r1 H1 locs1 fs1 I1 L1 => ?_)
  refine lv_istore (lv' := [(6, .int r1), (0, .ref b), (1, .ref ax), (2, .ref am), (3, .ref ao), (4, .ref ad), (5, .int (nI i))]) hx hb (show decode cL_law 1540 = .ok (.istore 6, 2) from by decide +kernel) hl (by decide) rfl (fun ls hl => ?_)
  have h0 : ls[0]? = some (.val (.ref b)) := lv_at hl 1 rfl
  have h5 : ls[5]? = some (.val (.int (nI i))) := lv_at hl 6 rfl
  refine lv_aload_n hx hb (show decode cL_law 1542 = .ok (.aload_n 2, 1) from by decide +kernel) rfl (lv_at hl 3 rfl) ?_
  refine lw_ld (k := 1) (n := 1) hx hb X L1.hS (by decide) h0 h5 (by decide) (by decide +kernel) ?_
  obtain ⟨-, -, em, ex, eo, ed⟩ := I1.hl
  rw [← em]
  refine lm_X7_state hl9 (xs (i + 1)) (lw_LA_st hLP) F L1 I1 hl.1 ⟨by omega, by omega⟩ (fun u2 res2 H2 locs2 st2 cx2 cy2 fs2 hr2 I2 L2 => ?_)
  obtain ⟨v2, rfl⟩ := hr2
  show W _ _ _ _ _ _ _ _ _ _ _ _ _ _ _ (F0 m 1552 ls [.int v2])
  refine lv_istore (lv' := [(7, .int v2), (6, .int r1), (0, .ref b), (1, .ref ax), (2, .ref am), (3, .ref ao), (4, .ref ad), (5, .int (nI i))]) hx hb (show decode cL_law 1552 = .ok (.istore 7, 2) from by decide +kernel) hl (by decide) rfl (fun ls hl => ?_)
  have h0 : ls[0]? = some (.val (.ref b)) := lv_at hl 2 rfl
  have h5 : ls[5]? = some (.val (.int (nI i))) := lv_at hl 7 rfl
  refine lv_goto (tgt := 2357) hx hb (show decode cL_law 1554 = .ok (.goto 803, 3) from by decide +kernel) (by decide) ?_
  refine W.widen (k := cells + 100) (n := slots + 1000) (by omega) (by omega) ?_
  exact k _ _ _ _ _ _ _ _ I2 L2 (lv_sub hl [2, 3, 4, 5, 6, 7] rfl)
set_option maxHeartbeats 4000000 in
theorem lc_30 (hl9 : l.stackTraces = false) (hLP : lw_st LP) (F : lw_Fm p R s m args c D tys cO cD A) (X : lw_X b Ln xs s A i) (L : lw_H D A s w H locs) (I : lw_I lw_E (lw_LA LP am ax ao ad qx qo qd) tys cO cD qx qo qd sh w st cx cy fs) (hl : lv_has ls 9 (lw_lv b ax am ao ad i)) (hcs : cells + 100 ≤ R.cells ∧ slots + 1000 ≤ R.slots)
    (k : ∀ (u : en_H × va_W) (H1 : Heap) (locs1 : List Loc) (ls1 : Array Slot) (st' : Nat) (cx' cy' : Int32) (fs' : List Value), lw_I lw_E (lw_LA LP am ax ao ad qx qo qd) tys cO cD qx qo qd u.1 u.2 st' cx' cy' fs' → lw_H D A s u.2 H1 locs1 → lv_has ls1 9 (lw_lv b ax am ao ad i) → W p l e R s m args below meth c H1 locs1 (cells + 100) (slots + 1000) Q (F0 m 2357 ls1 [])) :
    W p l e R s m args below meth c H locs cells slots Q (F0 m 1557 ls []) := by
  have hx := F.hx
  have hb := F.hb
  have h0 : ls[0]? = some (.val (.ref b)) := lv_at hl 0 rfl
  have h5 : ls[5]? = some (.val (.int (nI i))) := lv_at hl 5 rfl
  refine lv_aload_n hx hb (show decode cL_law 1557 = .ok (.aload_n 1, 1) from by decide +kernel) rfl (lv_at hl 1 rfl) ?_
  refine lw_ld (k := 1) (n := 1) hx hb X L.hS (by decide) h0 h5 (by decide) (by decide +kernel) ?_
  refine lw_ld (k := 2) (n := 2) hx hb X L.hS (by decide) h0 h5 (by decide) (by decide +kernel) ?_
  refine lw_tv hx hb (by decide +kernel) ?_
  refine lv_aload_n hx hb (show decode cL_law 1578 = .ok (.aload_n 3, 1) from by decide +kernel) rfl (lv_at hl 3 rfl) ?_
  obtain ⟨-, -, em, ex, eo, ed⟩ := I.hl
  rw [← ex, ← eo]
  refine lx_lie hl9 (xs (i + 1)) (lw_bv (xs (i + 2))) (lw_bv_b _) (lw_LA_st hLP) F L I hl.1 ⟨by omega, by omega⟩ (fun u1 r1 H1 locs1 fs1 I1 L1 => ?_)
  refine lv_istore (lv' := [(6, .int r1), (0, .ref b), (1, .ref ax), (2, .ref am), (3, .ref ao), (4, .ref ad), (5, .int (nI i))]) hx hb (show decode cL_law 1582 = .ok (.istore 6, 2) from by decide +kernel) hl (by decide) rfl (fun ls hl => ?_)
  have h0 : ls[0]? = some (.val (.ref b)) := lv_at hl 1 rfl
  have h5 : ls[5]? = some (.val (.int (nI i))) := lv_at hl 6 rfl
  refine lv_aload_n hx hb (show decode cL_law 1584 = .ok (.aload_n 2, 1) from by decide +kernel) rfl (lv_at hl 3 rfl) ?_
  refine lw_ld (k := 1) (n := 1) hx hb X L1.hS (by decide) h0 h5 (by decide) (by decide +kernel) ?_
  refine lw_ld (k := 2) (n := 2) hx hb X L1.hS (by decide) h0 h5 (by decide) (by decide +kernel) ?_
  refine lw_tv hx hb (by decide +kernel) ?_
  obtain ⟨-, -, em, ex, eo, ed⟩ := I1.hl
  rw [← em]
  refine lm_X7_lie hl9 (xs (i + 1)) (lw_bv (xs (i + 2))) (lw_bv_b _) (lw_LA_st hLP) F L1 I1 hl.1 ⟨by omega, by omega⟩ (fun u2 res2 H2 locs2 st2 cx2 cy2 fs2 hr2 I2 L2 => ?_)
  obtain ⟨v2, rfl⟩ := hr2
  show W _ _ _ _ _ _ _ _ _ _ _ _ _ _ _ (F0 m 1608 ls [.int v2])
  refine lv_istore (lv' := [(7, .int v2), (6, .int r1), (0, .ref b), (1, .ref ax), (2, .ref am), (3, .ref ao), (4, .ref ad), (5, .int (nI i))]) hx hb (show decode cL_law 1608 = .ok (.istore 7, 2) from by decide +kernel) hl (by decide) rfl (fun ls hl => ?_)
  have h0 : ls[0]? = some (.val (.ref b)) := lv_at hl 2 rfl
  have h5 : ls[5]? = some (.val (.int (nI i))) := lv_at hl 7 rfl
  refine lv_goto (tgt := 2357) hx hb (show decode cL_law 1610 = .ok (.goto 747, 3) from by decide +kernel) (by decide) ?_
  refine W.widen (k := cells + 100) (n := slots + 1000) (by omega) (by omega) ?_
  exact k _ _ _ _ _ _ _ _ I2 L2 (lv_sub hl [2, 3, 4, 5, 6, 7] rfl)
set_option maxHeartbeats 4000000 in
theorem lc_31 (hl9 : l.stackTraces = false) (hLP : lw_st LP) (F : lw_Fm p R s m args c D tys cO cD A) (X : lw_X b Ln xs s A i) (L : lw_H D A s w H locs) (I : lw_I lw_E (lw_LA LP am ax ao ad qx qo qd) tys cO cD qx qo qd sh w st cx cy fs) (hl : lv_has ls 9 (lw_lv b ax am ao ad i)) (hcs : cells + 100 ≤ R.cells ∧ slots + 1000 ≤ R.slots)
    (k : ∀ (u : en_H × va_W) (H1 : Heap) (locs1 : List Loc) (ls1 : Array Slot) (st' : Nat) (cx' cy' : Int32) (fs' : List Value), lw_I lw_E (lw_LA LP am ax ao ad qx qo qd) tys cO cD qx qo qd u.1 u.2 st' cx' cy' fs' → lw_H D A s u.2 H1 locs1 → lv_has ls1 9 (lw_lv b ax am ao ad i) → W p l e R s m args below meth c H1 locs1 (cells + 100) (slots + 1000) Q (F0 m 2357 ls1 [])) :
    W p l e R s m args below meth c H locs cells slots Q (F0 m 1613 ls []) := by
  have hx := F.hx
  have hb := F.hb
  have h0 : ls[0]? = some (.val (.ref b)) := lv_at hl 0 rfl
  have h5 : ls[5]? = some (.val (.int (nI i))) := lv_at hl 5 rfl
  refine lv_aload_n hx hb (show decode cL_law 1613 = .ok (.aload_n 1, 1) from by decide +kernel) rfl (lv_at hl 1 rfl) ?_
  refine lw_ld (k := 1) (n := 1) hx hb X L.hS (by decide) h0 h5 (by decide) (by decide +kernel) ?_
  refine lv_aload_n hx hb (show decode cL_law 1620 = .ok (.aload_n 3, 1) from by decide +kernel) rfl (lv_at hl 3 rfl) ?_
  obtain ⟨-, -, em, ex, eo, ed⟩ := I.hl
  rw [← ex, ← eo]
  refine lx_strokes hl9 (xs (i + 1)) (lw_LA_st hLP) F L I hl.1 ⟨by omega, by omega⟩ (fun u1 r1 H1 locs1 fs1 I1 L1 => ?_)
  refine lv_istore (lv' := [(6, .int r1), (0, .ref b), (1, .ref ax), (2, .ref am), (3, .ref ao), (4, .ref ad), (5, .int (nI i))]) hx hb (show decode cL_law 1624 = .ok (.istore 6, 2) from by decide +kernel) hl (by decide) rfl (fun ls hl => ?_)
  have h0 : ls[0]? = some (.val (.ref b)) := lv_at hl 1 rfl
  have h5 : ls[5]? = some (.val (.int (nI i))) := lv_at hl 6 rfl
  refine lv_aload_n hx hb (show decode cL_law 1626 = .ok (.aload_n 2, 1) from by decide +kernel) rfl (lv_at hl 3 rfl) ?_
  refine lw_ld (k := 1) (n := 1) hx hb X L1.hS (by decide) h0 h5 (by decide) (by decide +kernel) ?_
  obtain ⟨-, -, em, ex, eo, ed⟩ := I1.hl
  rw [← em]
  refine lm_X7_strokes hl9 (xs (i + 1)) (lw_LA_st hLP) F L1 I1 hl.1 ⟨by omega, by omega⟩ (fun u2 res2 H2 locs2 st2 cx2 cy2 fs2 hr2 I2 L2 => ?_)
  obtain ⟨v2, rfl⟩ := hr2
  show W _ _ _ _ _ _ _ _ _ _ _ _ _ _ _ (F0 m 1636 ls [.int v2])
  refine lv_istore (lv' := [(7, .int v2), (6, .int r1), (0, .ref b), (1, .ref ax), (2, .ref am), (3, .ref ao), (4, .ref ad), (5, .int (nI i))]) hx hb (show decode cL_law 1636 = .ok (.istore 7, 2) from by decide +kernel) hl (by decide) rfl (fun ls hl => ?_)
  have h0 : ls[0]? = some (.val (.ref b)) := lv_at hl 2 rfl
  have h5 : ls[5]? = some (.val (.int (nI i))) := lv_at hl 7 rfl
  refine lv_goto (tgt := 2357) hx hb (show decode cL_law 1638 = .ok (.goto 719, 3) from by decide +kernel) (by decide) ?_
  refine W.widen (k := cells + 100) (n := slots + 1000) (by omega) (by omega) ?_
  exact k _ _ _ _ _ _ _ _ I2 L2 (lv_sub hl [2, 3, 4, 5, 6, 7] rfl)
set_option maxHeartbeats 4000000 in
theorem lc_32 (hl9 : l.stackTraces = false) (hLP : lw_st LP) (F : lw_Fm p R s m args c D tys cO cD A) (X : lw_X b Ln xs s A i) (L : lw_H D A s w H locs) (I : lw_I lw_E (lw_LA LP am ax ao ad qx qo qd) tys cO cD qx qo qd sh w st cx cy fs) (hl : lv_has ls 9 (lw_lv b ax am ao ad i)) (hcs : cells + 100 ≤ R.cells ∧ slots + 1000 ≤ R.slots)
    (k : ∀ (u : en_H × va_W) (H1 : Heap) (locs1 : List Loc) (ls1 : Array Slot) (st' : Nat) (cx' cy' : Int32) (fs' : List Value), lw_I lw_E (lw_LA LP am ax ao ad qx qo qd) tys cO cD qx qo qd u.1 u.2 st' cx' cy' fs' → lw_H D A s u.2 H1 locs1 → lv_has ls1 9 (lw_lv b ax am ao ad i) → W p l e R s m args below meth c H1 locs1 (cells + 100) (slots + 1000) Q (F0 m 2357 ls1 [])) :
    W p l e R s m args below meth c H locs cells slots Q (F0 m 1641 ls []) := by
  have hx := F.hx
  have hb := F.hb
  have h0 : ls[0]? = some (.val (.ref b)) := lv_at hl 0 rfl
  have h5 : ls[5]? = some (.val (.int (nI i))) := lv_at hl 5 rfl
  refine lv_aload_n hx hb (show decode cL_law 1641 = .ok (.aload_n 1, 1) from by decide +kernel) rfl (lv_at hl 1 rfl) ?_
  refine lw_ld (k := 1) (n := 1) hx hb X L.hS (by decide) h0 h5 (by decide) (by decide +kernel) ?_
  refine lv_aload_n hx hb (show decode cL_law 1648 = .ok (.aload_n 3, 1) from by decide +kernel) rfl (lv_at hl 3 rfl) ?_
  obtain ⟨-, -, em, ex, eo, ed⟩ := I.hl
  rw [← ex, ← eo]
  refine lx_penalties hl9 (xs (i + 1)) (lw_LA_st hLP) F L I hl.1 ⟨by omega, by omega⟩ (fun u1 r1 H1 locs1 fs1 I1 L1 => ?_)
  refine lv_istore (lv' := [(6, .int r1), (0, .ref b), (1, .ref ax), (2, .ref am), (3, .ref ao), (4, .ref ad), (5, .int (nI i))]) hx hb (show decode cL_law 1652 = .ok (.istore 6, 2) from by decide +kernel) hl (by decide) rfl (fun ls hl => ?_)
  have h0 : ls[0]? = some (.val (.ref b)) := lv_at hl 1 rfl
  have h5 : ls[5]? = some (.val (.int (nI i))) := lv_at hl 6 rfl
  refine lv_aload_n hx hb (show decode cL_law 1654 = .ok (.aload_n 2, 1) from by decide +kernel) rfl (lv_at hl 3 rfl) ?_
  refine lw_ld (k := 1) (n := 1) hx hb X L1.hS (by decide) h0 h5 (by decide) (by decide +kernel) ?_
  obtain ⟨-, -, em, ex, eo, ed⟩ := I1.hl
  rw [← em]
  refine lm_X7_penalties hl9 (xs (i + 1)) (lw_LA_st hLP) F L1 I1 hl.1 ⟨by omega, by omega⟩ (fun u2 res2 H2 locs2 st2 cx2 cy2 fs2 hr2 I2 L2 => ?_)
  obtain ⟨v2, rfl⟩ := hr2
  show W _ _ _ _ _ _ _ _ _ _ _ _ _ _ _ (F0 m 1664 ls [.int v2])
  refine lv_istore (lv' := [(7, .int v2), (6, .int r1), (0, .ref b), (1, .ref ax), (2, .ref am), (3, .ref ao), (4, .ref ad), (5, .int (nI i))]) hx hb (show decode cL_law 1664 = .ok (.istore 7, 2) from by decide +kernel) hl (by decide) rfl (fun ls hl => ?_)
  have h0 : ls[0]? = some (.val (.ref b)) := lv_at hl 2 rfl
  have h5 : ls[5]? = some (.val (.int (nI i))) := lv_at hl 7 rfl
  refine lv_goto (tgt := 2357) hx hb (show decode cL_law 1666 = .ok (.goto 691, 3) from by decide +kernel) (by decide) ?_
  refine W.widen (k := cells + 100) (n := slots + 1000) (by omega) (by omega) ?_
  exact k _ _ _ _ _ _ _ _ I2 L2 (lv_sub hl [2, 3, 4, 5, 6, 7] rfl)
set_option maxHeartbeats 4000000 in
theorem lc_33 (hl9 : l.stackTraces = false) (hLP : lw_st LP) (F : lw_Fm p R s m args c D tys cO cD A) (X : lw_X b Ln xs s A i) (L : lw_H D A s w H locs) (I : lw_I lw_E (lw_LA LP am ax ao ad qx qo qd) tys cO cD qx qo qd sh w st cx cy fs) (hl : lv_has ls 9 (lw_lv b ax am ao ad i)) (hcs : cells + 100 ≤ R.cells ∧ slots + 1000 ≤ R.slots)
    (k : ∀ (u : en_H × va_W) (H1 : Heap) (locs1 : List Loc) (ls1 : Array Slot) (st' : Nat) (cx' cy' : Int32) (fs' : List Value), lw_I lw_E (lw_LA LP am ax ao ad qx qo qd) tys cO cD qx qo qd u.1 u.2 st' cx' cy' fs' → lw_H D A s u.2 H1 locs1 → lv_has ls1 9 (lw_lv b ax am ao ad i) → W p l e R s m args below meth c H1 locs1 (cells + 100) (slots + 1000) Q (F0 m 2357 ls1 [])) :
    W p l e R s m args below meth c H locs cells slots Q (F0 m 1669 ls []) := by
  have hx := F.hx
  have hb := F.hb
  have h0 : ls[0]? = some (.val (.ref b)) := lv_at hl 0 rfl
  have h5 : ls[5]? = some (.val (.int (nI i))) := lv_at hl 5 rfl
  refine lv_aload_n hx hb (show decode cL_law 1669 = .ok (.aload_n 1, 1) from by decide +kernel) rfl (lv_at hl 1 rfl) ?_
  refine lw_ld (k := 1) (n := 1) hx hb X L.hS (by decide) h0 h5 (by decide) (by decide +kernel) ?_
  refine lv_aload_n hx hb (show decode cL_law 1676 = .ok (.aload_n 3, 1) from by decide +kernel) rfl (lv_at hl 3 rfl) ?_
  obtain ⟨-, -, em, ex, eo, ed⟩ := I.hl
  rw [← ex, ← eo]
  refine lx_isOut hl9 (xs (i + 1)) (lw_LA_st hLP) F L I hl.1 ⟨by omega, by omega⟩ (fun u1 r1 H1 locs1 fs1 I1 L1 => ?_)
  refine lv_istore (lv' := [(6, .int r1), (0, .ref b), (1, .ref ax), (2, .ref am), (3, .ref ao), (4, .ref ad), (5, .int (nI i))]) hx hb (show decode cL_law 1680 = .ok (.istore 6, 2) from by decide +kernel) hl (by decide) rfl (fun ls hl => ?_)
  have h0 : ls[0]? = some (.val (.ref b)) := lv_at hl 1 rfl
  have h5 : ls[5]? = some (.val (.int (nI i))) := lv_at hl 6 rfl
  refine lv_aload_n hx hb (show decode cL_law 1682 = .ok (.aload_n 2, 1) from by decide +kernel) rfl (lv_at hl 3 rfl) ?_
  refine lw_ld (k := 1) (n := 1) hx hb X L1.hS (by decide) h0 h5 (by decide) (by decide +kernel) ?_
  obtain ⟨-, -, em, ex, eo, ed⟩ := I1.hl
  rw [← em]
  refine lm_X7_isOut hl9 (xs (i + 1)) (lw_LA_st hLP) F L1 I1 hl.1 ⟨by omega, by omega⟩ (fun u2 res2 H2 locs2 st2 cx2 cy2 fs2 hr2 I2 L2 => ?_)
  obtain ⟨v2, rfl⟩ := hr2
  show W _ _ _ _ _ _ _ _ _ _ _ _ _ _ _ (F0 m 1692 ls [.int v2])
  refine lv_istore (lv' := [(7, .int v2), (6, .int r1), (0, .ref b), (1, .ref ax), (2, .ref am), (3, .ref ao), (4, .ref ad), (5, .int (nI i))]) hx hb (show decode cL_law 1692 = .ok (.istore 7, 2) from by decide +kernel) hl (by decide) rfl (fun ls hl => ?_)
  have h0 : ls[0]? = some (.val (.ref b)) := lv_at hl 2 rfl
  have h5 : ls[5]? = some (.val (.int (nI i))) := lv_at hl 7 rfl
  refine lv_goto (tgt := 2357) hx hb (show decode cL_law 1694 = .ok (.goto 663, 3) from by decide +kernel) (by decide) ?_
  refine W.widen (k := cells + 100) (n := slots + 1000) (by omega) (by omega) ?_
  exact k _ _ _ _ _ _ _ _ I2 L2 (lv_sub hl [2, 3, 4, 5, 6, 7] rfl)
end
