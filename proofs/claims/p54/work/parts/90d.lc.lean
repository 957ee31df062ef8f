section
variable {p : Program} {l : Launch} {e : Env} {R : Room} {s : State} {m : MethodId} {args : Array Value} {below : List Frame} {meth : Method} {c : Code} {Q : State → Prop}
variable {D : va_G} {tys : List (ClassId × FieldType)} {cO cD : ClassId} {A : Nat → Prop} {sh : en_H} {w : va_W} {H : Heap} {locs : List Loc} {ls : Array Slot} {cells slots qx qo qd : Nat} {LP : en_H → va_W → Prop} {am ax ao ad b Ln i st : Nat} {xs : Nat → Int32} {cx cy : Int32} {fs : List Value}
set_option maxHeartbeats 4000000 in
theorem lc_47 (hl9 : l.stackTraces = false) (hLP : lw_st LP) (F : lw_Fm p R s m args c D tys cO cD A) (X : lw_X b Ln xs s A i) (L : lw_H D A s w H locs) (I : lw_I lw_E (lw_LA LP am ax ao ad qx qo qd) tys cO cD qx qo qd sh w st cx cy fs) (hl : lv_has ls 9 (lw_lv b ax am ao ad i)) (hcs : cells + 100 ≤ R.cells ∧ slots + 1000 ≤ R.slots)
    (k : ∀ (u : en_H × va_W) (H1 : Heap) (locs1 : List Loc) (ls1 : Array Slot) (st' : Nat) (cx' cy' : Int32) (fs' : List Value), lw_I lw_E (lw_LA LP am ax ao ad qx qo qd) tys cO cD qx qo qd u.1 u.2 st' cx' cy' fs' → lw_H D A s u.2 H1 locs1 → lv_has ls1 9 (lw_lv b ax am ao ad i) → W p l e R s m args below meth c H1 locs1 (cells + 100) (slots + 1000) Q (F0 m 2330 ls1 [])) :
    W p l e R s m args below meth c H locs cells slots Q (F0 m 2069 ls []) := by
  have hx := F.hx
  have hb := F.hb
  have h0 : ls[0]? = some (.val (.ref b)) := lv_at hl 0 rfl
  have h5 : ls[5]? = some (.val (.int (nI i))) := lv_at hl 5 rfl
  refine lv_aload_n hx hb (show decode cL_law 2069 = .ok (.aload_n 1, 1) from by decide +kernel) rfl (lv_at hl 1 rfl) ?_
  refine lw_ld (k := 1) (n := 1) hx hb X L.hS (by decide) h0 h5 (by decide) (by decide +kernel) ?_
  refine lv_aload_n hx hb (show decode cL_law 2076 = .ok (.aload_n 3, 1) from by decide +kernel) rfl (lv_at hl 3 rfl) ?_
  obtain ⟨-, -, em, ex, eo, ed⟩ := I.hl
  rw [← ex, ← eo]
  refine lx_conditions hl9 (xs (i + 1)) (lw_LA_st hLP) F L I hl.1 ⟨by omega, by omega⟩ (fun u1 r1 H1 locs1 fs1 I1 L1 => ?_)
  refine lv_istore (lv' := [(6, .int r1), (0, .ref b), (1, .ref ax), (2, .ref am), (3, .ref ao), (4, .ref ad), (5, .int (nI i))]) hx hb (show decode cL_law 2080 = .ok (.istore 6, 2) from by decide +kernel) hl (by decide) rfl (fun ls hl => ?_)
  have h0 : ls[0]? = some (.val (.ref b)) := lv_at hl 1 rfl
  have h5 : ls[5]? = some (.val (.int (nI i))) := lv_at hl 6 rfl
  refine lv_aload_n hx hb (show decode cL_law 2082 = .ok (.aload_n 2, 1) from by decide +kernel) rfl (lv_at hl 3 rfl) ?_
  refine lw_ld (k := 1) (n := 1) hx hb X L1.hS (by decide) h0 h5 (by decide) (by decide +kernel) ?_
  obtain ⟨-, -, em, ex, eo, ed⟩ := I1.hl
  rw [← em]
  refine lm_X7_conditions hl9 (xs (i + 1)) (lw_LA_st hLP) F L1 I1 hl.1 ⟨by omega, by omega⟩ (fun u2 res2 H2 locs2 st2 cx2 cy2 fs2 hr2 I2 L2 => ?_)
  obtain ⟨v2, rfl⟩ := hr2
  show W _ _ _ _ _ _ _ _ _ _ _ _ _ _ _ (F0 m 2092 ls [.int v2])
  refine lv_istore (lv' := [(7, .int v2), (6, .int r1), (0, .ref b), (1, .ref ax), (2, .ref am), (3, .ref ao), (4, .ref ad), (5, .int (nI i))]) hx hb (show decode cL_law 2092 = .ok (.istore 7, 2) from by decide +kernel) hl (by decide) rfl (fun ls hl => ?_)
  have h0 : ls[0]? = some (.val (.ref b)) := lv_at hl 2 rfl
  have h5 : ls[5]? = some (.val (.int (nI i))) := lv_at hl 7 rfl
  refine lv_goto (tgt := 2330) hx hb (show decode cL_law 2094 = .ok (.goto 236, 3) from by decide +kernel) (by decide) ?_
  refine W.widen (k := cells + 100) (n := slots + 1000) (by omega) (by omega) ?_
  exact k _ _ _ _ _ _ _ _ I2 L2 (lv_sub hl [2, 3, 4, 5, 6, 7] rfl)
set_option maxHeartbeats 4000000 in
theorem lc_53 (hl9 : l.stackTraces = false) (hLP : lw_st LP) (F : lw_Fm p R s m args c D tys cO cD A) (X : lw_X b Ln xs s A i) (L : lw_H D A s w H locs) (I : lw_I lw_E (lw_LA LP am ax ao ad qx qo qd) tys cO cD qx qo qd sh w st cx cy fs) (hl : lv_has ls 9 (lw_lv b ax am ao ad i)) (hcs : cells + 100 ≤ R.cells ∧ slots + 1000 ≤ R.slots)
    (k : ∀ (u : en_H × va_W) (H1 : Heap) (locs1 : List Loc) (ls1 : Array Slot) (st' : Nat) (cx' cy' : Int32) (fs' : List Value), lw_I lw_E (lw_LA LP am ax ao ad qx qo qd) tys cO cD qx qo qd u.1 u.2 st' cx' cy' fs' → lw_H D A s u.2 H1 locs1 → lv_has ls1 9 (lw_lv b ax am ao ad i) → W p l e R s m args below meth c H1 locs1 (cells + 100) (slots + 1000) Q (F0 m 2330 ls1 [])) :
    W p l e R s m args below meth c H locs cells slots Q (F0 m 2259 ls []) := by
  have hx := F.hx
  have hb := F.hb
  have h0 : ls[0]? = some (.val (.ref b)) := lv_at hl 0 rfl
  have h5 : ls[5]? = some (.val (.int (nI i))) := lv_at hl 5 rfl
  refine lv_aload_n hx hb (show decode cL_law 2259 = .ok (.aload_n 1, 1) from by decide +kernel) rfl (lv_at hl 1 rfl) ?_
  refine lw_ld (k := 1) (n := 1) hx hb X L.hS (by decide) h0 h5 (by decide) (by decide +kernel) ?_
  refine lv_aload hx hb (show decode cL_law 2266 = .ok (.aload 4, 2) from by decide +kernel) (lv_at hl 4 rfl) ?_
  obtain ⟨-, -, em, ex, eo, ed⟩ := I.hl
  rw [← ex, ← ed]
  refine lx_penaltyShare hl9 (xs (i + 1)) (lw_LA_st hLP) F L I hl.1 ⟨by omega, by omega⟩ (fun u1 r1 H1 locs1 fs1 I1 L1 => ?_)
  refine lv_istore (lv' := [(6, .int r1), (0, .ref b), (1, .ref ax), (2, .ref am), (3, .ref ao), (4, .ref ad), (5, .int (nI i))]) hx hb (show decode cL_law 2271 = .ok (.istore 6, 2) from by decide +kernel) hl (by decide) rfl (fun ls hl => ?_)
  have h0 : ls[0]? = some (.val (.ref b)) := lv_at hl 1 rfl
  have h5 : ls[5]? = some (.val (.int (nI i))) := lv_at hl 6 rfl
  refine lv_aload_n hx hb (show decode cL_law 2273 = .ok (.aload_n 2, 1) from by decide +kernel) rfl (lv_at hl 3 rfl) ?_
  refine lw_ld (k := 1) (n := 1) hx hb X L1.hS (by decide) h0 h5 (by decide) (by decide +kernel) ?_
  obtain ⟨-, -, em, ex, eo, ed⟩ := I1.hl
  rw [← em]
  refine lm_X7_penaltyShare hl9 (xs (i + 1)) (lw_LA_st hLP) F L1 I1 hl.1 ⟨by omega, by omega⟩ (fun u2 res2 H2 locs2 st2 cx2 cy2 fs2 hr2 I2 L2 => ?_)
  obtain ⟨v2, rfl⟩ := hr2
  show W _ _ _ _ _ _ _ _ _ _ _ _ _ _ _ (F0 m 2283 ls [.float v2])
  refine lv_fstore (lv' := [(7, .float v2), (6, .int r1), (0, .ref b), (1, .ref ax), (2, .ref am), (3, .ref ao), (4, .ref ad), (5, .int (nI i))]) hx hb (show decode cL_law 2283 = .ok (.fstore 7, 2) from by decide +kernel) hl (by decide) rfl (fun ls hl => ?_)
  have h0 : ls[0]? = some (.val (.ref b)) := lv_at hl 2 rfl
  have h5 : ls[5]? = some (.val (.int (nI i))) := lv_at hl 7 rfl
  refine lv_goto (tgt := 2330) hx hb (show decode cL_law 2285 = .ok (.goto 45, 3) from by decide +kernel) (by decide) ?_
  refine W.widen (k := cells + 100) (n := slots + 1000) (by omega) (by omega) ?_
  exact k _ _ _ _ _ _ _ _ I2 L2 (lv_sub hl [2, 3, 4, 5, 6, 7] rfl)
set_option maxHeartbeats 4000000 in
theorem lc_54 (hl9 : l.stackTraces = false) (hLP : lw_st LP) (F : lw_Fm p R s m args c D tys cO cD A) (X : lw_X b Ln xs s A i) (L : lw_H D A s w H locs) (I : lw_I lw_E (lw_LA LP am ax ao ad qx qo qd) tys cO cD qx qo qd sh w st cx cy fs) (hl : lv_has ls 9 (lw_lv b ax am ao ad i)) (hcs : cells + 100 ≤ R.cells ∧ slots + 1000 ≤ R.slots)
    (k : ∀ (u : en_H × va_W) (H1 : Heap) (locs1 : List Loc) (ls1 : Array Slot) (st' : Nat) (cx' cy' : Int32) (fs' : List Value), lw_I lw_E (lw_LA LP am ax ao ad qx qo qd) tys cO cD qx qo qd u.1 u.2 st' cx' cy' fs' → lw_H D A s u.2 H1 locs1 → lv_has ls1 9 (lw_lv b ax am ao ad i) → W p l e R s m args below meth c H1 locs1 (cells + 100) (slots + 1000) Q (F0 m 2330 ls1 [])) :
    W p l e R s m args below meth c H locs cells slots Q (F0 m 2288 ls []) := by
  have hx := F.hx
  have hb := F.hb
  have h0 : ls[0]? = some (.val (.ref b)) := lv_at hl 0 rfl
  have h5 : ls[5]? = some (.val (.int (nI i))) := lv_at hl 5 rfl
  refine lv_aload_n hx hb (show decode cL_law 2288 = .ok (.aload_n 1, 1) from by decide +kernel) rfl (lv_at hl 1 rfl) ?_
  refine lw_ld (k := 1) (n := 1) hx hb X L.hS (by decide) h0 h5 (by decide) (by decide +kernel) ?_
  refine lv_aload hx hb (show decode cL_law 2295 = .ok (.aload 4, 2) from by decide +kernel) (lv_at hl 4 rfl) ?_
  obtain ⟨-, -, em, ex, eo, ed⟩ := I.hl
  rw [← ex, ← ed]
  refine lx_meanScore hl9 (xs (i + 1)) (lw_LA_st hLP) F L I hl.1 ⟨by omega, by omega⟩ (fun u1 r1 H1 locs1 fs1 I1 L1 => ?_)
  refine lv_istore (lv' := [(6, .int r1), (0, .ref b), (1, .ref ax), (2, .ref am), (3, .ref ao), (4, .ref ad), (5, .int (nI i))]) hx hb (show decode cL_law 2300 = .ok (.istore 6, 2) from by decide +kernel) hl (by decide) rfl (fun ls hl => ?_)
  have h0 : ls[0]? = some (.val (.ref b)) := lv_at hl 1 rfl
  have h5 : ls[5]? = some (.val (.int (nI i))) := lv_at hl 6 rfl
  refine lv_aload_n hx hb (show decode cL_law 2302 = .ok (.aload_n 2, 1) from by decide +kernel) rfl (lv_at hl 3 rfl) ?_
  refine lw_ld (k := 1) (n := 1) hx hb X L1.hS (by decide) h0 h5 (by decide) (by decide +kernel) ?_
  obtain ⟨-, -, em, ex, eo, ed⟩ := I1.hl
  rw [← em]
  refine lm_X7_meanScore hl9 (xs (i + 1)) (lw_LA_st hLP) F L1 I1 hl.1 ⟨by omega, by omega⟩ (fun u2 res2 H2 locs2 st2 cx2 cy2 fs2 hr2 I2 L2 => ?_)
  obtain ⟨v2, rfl⟩ := hr2
  show W _ _ _ _ _ _ _ _ _ _ _ _ _ _ _ (F0 m 2312 ls [.double v2])
  refine lv_dstore (lv' := [(7, .double v2), (6, .int r1), (0, .ref b), (1, .ref ax), (2, .ref am), (3, .ref ao), (4, .ref ad), (5, .int (nI i))]) hx hb (show decode cL_law 2312 = .ok (.dstore 7, 2) from by decide +kernel) hl (by decide) rfl (fun ls hl => ?_)
  have h0 : ls[0]? = some (.val (.ref b)) := lv_at hl 2 rfl
  have h5 : ls[5]? = some (.val (.int (nI i))) := lv_at hl 7 rfl
  refine lv_goto (tgt := 2330) hx hb (show decode cL_law 2314 = .ok (.goto 16, 3) from by decide +kernel) (by decide) ?_
  refine W.widen (k := cells + 100) (n := slots + 1000) (by omega) (by omega) ?_
  exact k _ _ _ _ _ _ _ _ I2 L2 (lv_sub hl [2, 3, 4, 5, 6, 7] rfl)
set_option maxHeartbeats 4000000 in
theorem lc_55 (hl9 : l.stackTraces = false) (hLP : lw_st LP) (F : lw_Fm p R s m args c D tys cO cD A) (X : lw_X b Ln xs s A i) (L : lw_H D A s w H locs) (I : lw_I lw_E (lw_LA LP am ax ao ad qx qo qd) tys cO cD qx qo qd sh w st cx cy fs) (hl : lv_has ls 9 (lw_lv b ax am ao ad i)) (hcs : cells + 100 ≤ R.cells ∧ slots + 1000 ≤ R.slots)
    (k : ∀ (u : en_H × va_W) (H1 : Heap) (locs1 : List Loc) (ls1 : Array Slot) (st' : Nat) (cx' cy' : Int32) (fs' : List Value), lw_I lw_E (lw_LA LP am ax ao ad qx qo qd) tys cO cD qx qo qd u.1 u.2 st' cx' cy' fs' → lw_H D A s u.2 H1 locs1 → lv_has ls1 9 (lw_lv b ax am ao ad i) → W p l e R s m args below meth c H1 locs1 (cells + 100) (slots + 1000) Q (F0 m 2330 ls1 [])) :
    W p l e R s m args below meth c H locs cells slots Q (F0 m 2317 ls []) := by
  have hx := F.hx
  have hb := F.hb
  have h0 : ls[0]? = some (.val (.ref b)) := lv_at hl 0 rfl
  have h5 : ls[5]? = some (.val (.int (nI i))) := lv_at hl 5 rfl
  refine lv_aload_n hx hb (show decode cL_law 2317 = .ok (.aload_n 1, 1) from by decide +kernel) rfl (lv_at hl 1 rfl) ?_
  obtain ⟨-, -, em, ex, eo, ed⟩ := I.hl
  rw [← ex]
  refine lx_isSound hl9 (lw_LA_st hLP) F L I hl.1 ⟨by omega, by omega⟩ (fun u1 res1 H1 locs1 fs1 hr1 I1 L1 => ?_)
  obtain ⟨v1, rfl⟩ := hr1
  show W _ _ _ _ _ _ _ _ _ _ _ _ _ _ _ (F0 m 2321 ls [.int v1])
  refine lv_pop hx hb (show decode cL_law 2321 = .ok (.pop, 1) from by decide +kernel) rfl ?_
  refine lv_aload_n hx hb (show decode cL_law 2322 = .ok (.aload_n 2, 1) from by decide +kernel) rfl (lv_at hl 2 rfl) ?_
  obtain ⟨-, -, em, ex, eo, ed⟩ := I1.hl
  rw [← em]
  refine lm_X7_isSound hl9 (lw_LA_st hLP) F L1 I1 hl.1 ⟨by omega, by omega⟩ (fun u2 res2 H2 locs2 st2 cx2 cy2 fs2 hr2 I2 L2 => ?_)
  obtain ⟨v2, rfl⟩ := hr2
  show W _ _ _ _ _ _ _ _ _ _ _ _ _ _ _ (F0 m 2326 ls [.int v2])
  refine lv_pop hx hb (show decode cL_law 2326 = .ok (.pop, 1) from by decide +kernel) rfl ?_
  refine lv_goto (tgt := 2330) hx hb (show decode cL_law 2327 = .ok (.goto 3, 3) from by decide +kernel) (by decide) ?_
  refine W.widen (k := cells + 100) (n := slots + 1000) (by omega) (by omega) ?_
  exact k _ _ _ _ _ _ _ _ I2 L2 (lv_sub hl [0, 1, 2, 3, 4, 5] rfl)
end
