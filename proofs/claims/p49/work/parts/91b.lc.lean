section
variable {p : Program} {l : Launch} {e : Env} {R : Room} {s : State} {m : MethodId} {args : Array Value} {below : List Frame} {meth : Method} {c : Code} {Q : State → Prop}
variable {D : va_G} {tys : List (ClassId × FieldType)} {cO cD : ClassId} {A : Nat → Prop} {sh : en_H} {w : va_W} {H : Heap} {locs : List Loc} {ls : Array Slot} {cells slots qx qo qd : Nat} {LP : en_H → va_W → Prop} {am ax ao ad b Ln i st : Nat} {xs : Nat → Int32} {cx cy : Int32} {fs : List Value}
set_option maxHeartbeats 4000000 in
theorem lc_47 (hl9 : l.stackTraces = false) (hLP : lw_st LP) (F : lw_Fm p R s m args c D tys cO cD A) (X : lw_X b Ln xs s A i) (L : lw_H D A s w H locs) (I : lw_I lw_E (lw_LA LP am ax ao ad qx qo qd) tys cO cD qx qo qd sh w st cx cy fs) (hl : lv_has ls 9 (lw_lv b ax am ao ad i)) (hcs : cells + 100 ≤ R.cells ∧ slots + 1000 ≤ R.slots)
    (k : ∀ (u : en_H × va_W) (H1 : Heap) (locs1 : List Loc) (ls1 : Array Slot) (st' : Nat) (cx' cy' : Int32) (fs' : List Value), lw_I lw_E (lw_LA LP am ax ao ad qx qo qd) tys cO cD qx qo qd u.1 u.2 st' cx' cy' fs' → lw_H D A s u.2 H1 locs1 → lv_has ls1 9 (lw_lv b ax am ao ad i) → W p l e R s m args below meth c H1 locs1 (cells + 100) (slots + 1000) Q (F0 m 2357 ls1 [])) :
    W p l e R s m args below meth c H locs cells slots Q (F0 m 2069 ls []) := by
  have hx := F.hx
  have hb := F.hb
  have h0 : ls[0]? = some (.val (.ref b)) := lv_at hl 0 rfl
  have h5 : ls[5]? = some (.val (.int (nI i))) := lv_at hl 5 rfl
  refine lv_aload_n hx hb (show decode cL_law 2069 = .ok (.aload_n 1, 1) from by decide +kernel) rfl (lv_at hl 1 rfl) ?_
  refine lw_ld (k := 1) (n := 1) hx hb X L.hS (by decide) h0 h5 (by decide) (by decide +kernel) ?_
  refine lv_aload_n hx hb (show decode cL_law 2076 = .ok (.aload_n 3, 1) from by decide +kernel) rfl (lv_at hl 3 rfl) ?_
  generalize ea : xs (i + 1) = a1
  have hc9 := And.intro (en_lo a1) (en_hi a1)
  obtain ⟨fx, v, v9, hwx, f7, f19, ev, hv⟩ := I.hed
  subst ev
  obtain ⟨-, -, em, ex, eo, ed⟩ := I.hl
  rw [← ex, ← eo]
  have hz : (-1 ≤ a1.toInt ∧ a1.toInt ≤ -1) ∨ (0 ≤ a1.toInt ∧ a1.toInt ≤ 0) ∨ (1 ≤ a1.toInt ∧ a1.toInt ≤ 1) ∨ (2 ≤ a1.toInt ∧ a1.toInt ≤ 2) ∨ (3 ≤ a1.toInt ∧ a1.toInt ≤ 3) ∨ (-2147483648 ≤ a1.toInt ∧ a1.toInt ≤ -2) ∨ (4 ≤ a1.toInt ∧ a1.toInt ≤ 2147483647) := by omega
  rcases hv with rfl | rfl | rfl | rfl | rfl
  · rcases hz with hb1 | hb1 | hb1 | hb1 | hb1 | hb1 | hb1
    · refine le_x_0_m1 hl9 (lw_LA_st hLP) F L I hl.1 ⟨by omega, by omega⟩ a1 hb1 ⟨fx, hwx, f7, f19⟩ (fun u1 H1 locs1 fs1 I1 L1 hg => ?_)
      obtain ⟨g9, hg9, hg0⟩ := hg
      refine lv_istore (lv' := [(6, .int 0), (0, .ref b), (1, .ref ax), (2, .ref am), (3, .ref ao), (4, .ref ad), (5, .int (nI i))]) hx hb (show decode cL_law 2080 = .ok (.istore 6, 2) from by decide +kernel) hl (by decide) rfl (fun ls hl => ?_)
      have h0 : ls[0]? = some (.val (.ref b)) := lv_at hl 1 rfl
      have h5 : ls[5]? = some (.val (.int (nI i))) := lv_at hl 6 rfl
      refine lv_aload_n hx hb (show decode cL_law 2082 = .ok (.aload_n 2, 1) from by decide +kernel) rfl (lv_at hl 3 rfl) ?_
      refine lw_ld (k := 1) (n := 1) hx hb X L1.hS (by decide) h0 h5 (by decide) (by decide +kernel) ?_
      rw [ea]
      obtain ⟨-, -, em, ex, eo, ed⟩ := I1.hl
      rw [← em]
      obtain ⟨fx1, v1, v2, hwx1, f71, f191, ev1, ev2⟩ := I1.hed
      subst ev1
      subst ev2
      refine le_m_0_m1 hl9 (lw_LA_st hLP) F L1 I1 hl.1 ⟨by omega, by omega⟩ a1 hb1 ⟨fx1, hwx1, f71, f191⟩ hg9 (fun u2 b9 H2 locs2 fs2 I2 L2 hg9 f30 => ?_)
      refine lv_istore (lv' := [(7, .int (-1)), (6, .int 0), (0, .ref b), (1, .ref ax), (2, .ref am), (3, .ref ao), (4, .ref ad), (5, .int (nI i))]) hx hb (show decode cL_law 2092 = .ok (.istore 7, 2) from by decide +kernel) hl (by decide) rfl (fun ls hl => ?_)
      refine lv_aload_n hx hb (show decode cL_law 2094 = .ok (.aload_n 2, 1) from by decide +kernel) rfl (lv_at hl 4 rfl) ?_
      obtain ⟨-, -, em, ex, eo, ed⟩ := I2.hl
      rw [← em]
      refine le_t hl9 (lw_LA_st hLP) F L2 I2 hl.1 ⟨by omega, by omega⟩ hg9 f30 (fun u3 H3 locs3 fs3 I3 L3 hg9 => ?_)
      refine lv_iload hx hb (show decode cL_law 2098 = .ok (.iload 6, 2) from by decide +kernel) (lv_at hl 1 rfl) ?_
      refine lv_icmp_eq (tgt := 2105) hx hb (show decode cL_law 2100 = .ok (.if_icmp .eq 5, 3) from by decide +kernel) (by decide) (fun _ => ?_) (fun h => absurd (by decide) h)
      refine lv_iload hx hb (show decode cL_law 2105 = .ok (.iload 6, 2) from by decide +kernel) (lv_at hl 1 rfl) ?_
      refine lv_if_ne (tgt := 2122) hx hb (show decode cL_law 2107 = .ok (.ifCond .ne 15, 3) from by decide +kernel) (by decide) (fun h => absurd rfl h) (fun _ => ?_)
      refine lv_aload_n hx hb (show decode cL_law 2110 = .ok (.aload_n 3, 1) from by decide +kernel) rfl (lv_at hl 5 rfl) ?_
      obtain ⟨-, -, em, ex, eo, ed⟩ := I3.hl
      rw [← eo]
      refine lv_iconst (v := 0) hx hb (show decode cL_law 2111 = .ok (.iconst 0, 1) from by decide +kernel) (by decide) ?_
      refine va_lald hx hb F.hK L3.hP qo 7 hg9 (wr_ty F.hTY) (vp_in_nI (n := 0) (by decide) (by decide)) (show decode cL_law 2112 = .ok (.laload, 1) from by decide +kernel) ?_
      refine lv_iload hx hb (show decode cL_law 2113 = .ok (.iload 7, 2) from by decide +kernel) (lv_at hl 0 rfl) ?_
      refine lv_i2l hx hb (show decode cL_law 2115 = .ok (.i2l, 1) from by decide +kernel) rfl ?_
      refine W.lcmp hx hb (show decode cL_law 2116 = .ok (.lcmp, 1) from by decide +kernel) ?_
      rw [show Int32.toNatClampNeg 0 = 0 from by decide, hg0, show lg_cmp (((-1) : Int32).toInt64) (((-1) : Int32).toInt64) = 0 from by decide]
      refine lv_if_eq (tgt := 2122) hx hb (show decode cL_law 2117 = .ok (.ifCond .eq 5, 3) from by decide +kernel) (by decide) (fun _ => ?_) (fun h => absurd rfl h)
      refine lv_goto (tgt := 2357) hx hb (show decode cL_law 2122 = .ok (.goto 235, 3) from by decide +kernel) (by decide) ?_
      refine W.widen (k := cells + 100) (n := slots + 1000) (by omega) (by omega) ?_
      exact k _ _ _ _ _ _ _ _ I3 L3 (lv_sub hl [2, 3, 4, 5, 6, 7] rfl)
    · refine le_x_1_m1 hl9 (lw_LA_st hLP) F L I hl.1 ⟨by omega, by omega⟩ a1 hb1 ⟨fx, hwx, f7, f19⟩ (fun u1 H1 locs1 fs1 I1 L1 hg => ?_)
      obtain ⟨g9, hg9, hg0⟩ := hg
      refine lv_istore (lv' := [(6, .int 0), (0, .ref b), (1, .ref ax), (2, .ref am), (3, .ref ao), (4, .ref ad), (5, .int (nI i))]) hx hb (show decode cL_law 2080 = .ok (.istore 6, 2) from by decide +kernel) hl (by decide) rfl (fun ls hl => ?_)
      have h0 : ls[0]? = some (.val (.ref b)) := lv_at hl 1 rfl
      have h5 : ls[5]? = some (.val (.int (nI i))) := lv_at hl 6 rfl
      refine lv_aload_n hx hb (show decode cL_law 2082 = .ok (.aload_n 2, 1) from by decide +kernel) rfl (lv_at hl 3 rfl) ?_
      refine lw_ld (k := 1) (n := 1) hx hb X L1.hS (by decide) h0 h5 (by decide) (by decide +kernel) ?_
      rw [ea]
      obtain ⟨-, -, em, ex, eo, ed⟩ := I1.hl
      rw [← em]
      obtain ⟨fx1, v1, v2, hwx1, f71, f191, ev1, ev2⟩ := I1.hed
      subst ev1
      subst ev2
      refine le_m_1_m1 hl9 (lw_LA_st hLP) F L1 I1 hl.1 ⟨by omega, by omega⟩ a1 hb1 ⟨fx1, hwx1, f71, f191⟩ hg9 (fun u2 b9 H2 locs2 fs2 I2 L2 hg9 f30 => ?_)
      refine lv_istore (lv' := [(7, .int (-1)), (6, .int 0), (0, .ref b), (1, .ref ax), (2, .ref am), (3, .ref ao), (4, .ref ad), (5, .int (nI i))]) hx hb (show decode cL_law 2092 = .ok (.istore 7, 2) from by decide +kernel) hl (by decide) rfl (fun ls hl => ?_)
      refine lv_aload_n hx hb (show decode cL_law 2094 = .ok (.aload_n 2, 1) from by decide +kernel) rfl (lv_at hl 4 rfl) ?_
      obtain ⟨-, -, em, ex, eo, ed⟩ := I2.hl
      rw [← em]
      refine le_t hl9 (lw_LA_st hLP) F L2 I2 hl.1 ⟨by omega, by omega⟩ hg9 f30 (fun u3 H3 locs3 fs3 I3 L3 hg9 => ?_)
      refine lv_iload hx hb (show decode cL_law 2098 = .ok (.iload 6, 2) from by decide +kernel) (lv_at hl 1 rfl) ?_
      refine lv_icmp_eq (tgt := 2105) hx hb (show decode cL_law 2100 = .ok (.if_icmp .eq 5, 3) from by decide +kernel) (by decide) (fun _ => ?_) (fun h => absurd (by decide) h)
      refine lv_iload hx hb (show decode cL_law 2105 = .ok (.iload 6, 2) from by decide +kernel) (lv_at hl 1 rfl) ?_
      refine lv_if_ne (tgt := 2122) hx hb (show decode cL_law 2107 = .ok (.ifCond .ne 15, 3) from by decide +kernel) (by decide) (fun h => absurd rfl h) (fun _ => ?_)
      refine lv_aload_n hx hb (show decode cL_law 2110 = .ok (.aload_n 3, 1) from by decide +kernel) rfl (lv_at hl 5 rfl) ?_
      obtain ⟨-, -, em, ex, eo, ed⟩ := I3.hl
      rw [← eo]
      refine lv_iconst (v := 0) hx hb (show decode cL_law 2111 = .ok (.iconst 0, 1) from by decide +kernel) (by decide) ?_
      refine va_lald hx hb F.hK L3.hP qo 7 hg9 (wr_ty F.hTY) (vp_in_nI (n := 0) (by decide) (by decide)) (show decode cL_law 2112 = .ok (.laload, 1) from by decide +kernel) ?_
      refine lv_iload hx hb (show decode cL_law 2113 = .ok (.iload 7, 2) from by decide +kernel) (lv_at hl 0 rfl) ?_
      refine lv_i2l hx hb (show decode cL_law 2115 = .ok (.i2l, 1) from by decide +kernel) rfl ?_
      refine W.lcmp hx hb (show decode cL_law 2116 = .ok (.lcmp, 1) from by decide +kernel) ?_
      rw [show Int32.toNatClampNeg 0 = 0 from by decide, hg0, show lg_cmp (((-1) : Int32).toInt64) (((-1) : Int32).toInt64) = 0 from by decide]
      refine lv_if_eq (tgt := 2122) hx hb (show decode cL_law 2117 = .ok (.ifCond .eq 5, 3) from by decide +kernel) (by decide) (fun _ => ?_) (fun h => absurd rfl h)
      refine lv_goto (tgt := 2357) hx hb (show decode cL_law 2122 = .ok (.goto 235, 3) from by decide +kernel) (by decide) ?_
      refine W.widen (k := cells + 100) (n := slots + 1000) (by omega) (by omega) ?_
      exact k _ _ _ _ _ _ _ _ I3 L3 (lv_sub hl [2, 3, 4, 5, 6, 7] rfl)
    · refine le_x_2_m1 hl9 (lw_LA_st hLP) F L I hl.1 ⟨by omega, by omega⟩ a1 hb1 ⟨fx, hwx, f7, f19⟩ (fun u1 H1 locs1 fs1 I1 L1 hg => ?_)
      obtain ⟨g9, hg9, hg0⟩ := hg
      refine lv_istore (lv' := [(6, .int 0), (0, .ref b), (1, .ref ax), (2, .ref am), (3, .ref ao), (4, .ref ad), (5, .int (nI i))]) hx hb (show decode cL_law 2080 = .ok (.istore 6, 2) from by decide +kernel) hl (by decide) rfl (fun ls hl => ?_)
      have h0 : ls[0]? = some (.val (.ref b)) := lv_at hl 1 rfl
      have h5 : ls[5]? = some (.val (.int (nI i))) := lv_at hl 6 rfl
      refine lv_aload_n hx hb (show decode cL_law 2082 = .ok (.aload_n 2, 1) from by decide +kernel) rfl (lv_at hl 3 rfl) ?_
      refine lw_ld (k := 1) (n := 1) hx hb X L1.hS (by decide) h0 h5 (by decide) (by decide +kernel) ?_
      rw [ea]
      obtain ⟨-, -, em, ex, eo, ed⟩ := I1.hl
      rw [← em]
      obtain ⟨fx1, v1, v2, hwx1, f71, f191, ev1, ev2⟩ := I1.hed
      subst ev1
      subst ev2
      refine le_m_2_m1 hl9 (lw_LA_st hLP) F L1 I1 hl.1 ⟨by omega, by omega⟩ a1 hb1 ⟨fx1, hwx1, f71, f191⟩ hg9 (fun u2 b9 H2 locs2 fs2 I2 L2 hg9 f30 => ?_)
      refine lv_istore (lv' := [(7, .int (-1)), (6, .int 0), (0, .ref b), (1, .ref ax), (2, .ref am), (3, .ref ao), (4, .ref ad), (5, .int (nI i))]) hx hb (show decode cL_law 2092 = .ok (.istore 7, 2) from by decide +kernel) hl (by decide) rfl (fun ls hl => ?_)
      refine lv_aload_n hx hb (show decode cL_law 2094 = .ok (.aload_n 2, 1) from by decide +kernel) rfl (lv_at hl 4 rfl) ?_
      obtain ⟨-, -, em, ex, eo, ed⟩ := I2.hl
      rw [← em]
      refine le_t hl9 (lw_LA_st hLP) F L2 I2 hl.1 ⟨by omega, by omega⟩ hg9 f30 (fun u3 H3 locs3 fs3 I3 L3 hg9 => ?_)
      refine lv_iload hx hb (show decode cL_law 2098 = .ok (.iload 6, 2) from by decide +kernel) (lv_at hl 1 rfl) ?_
      refine lv_icmp_eq (tgt := 2105) hx hb (show decode cL_law 2100 = .ok (.if_icmp .eq 5, 3) from by decide +kernel) (by decide) (fun _ => ?_) (fun h => absurd (by decide) h)
      refine lv_iload hx hb (show decode cL_law 2105 = .ok (.iload 6, 2) from by decide +kernel) (lv_at hl 1 rfl) ?_
      refine lv_if_ne (tgt := 2122) hx hb (show decode cL_law 2107 = .ok (.ifCond .ne 15, 3) from by decide +kernel) (by decide) (fun h => absurd rfl h) (fun _ => ?_)
      refine lv_aload_n hx hb (show decode cL_law 2110 = .ok (.aload_n 3, 1) from by decide +kernel) rfl (lv_at hl 5 rfl) ?_
      obtain ⟨-, -, em, ex, eo, ed⟩ := I3.hl
      rw [← eo]
      refine lv_iconst (v := 0) hx hb (show decode cL_law 2111 = .ok (.iconst 0, 1) from by decide +kernel) (by decide) ?_
      refine va_lald hx hb F.hK L3.hP qo 7 hg9 (wr_ty F.hTY) (vp_in_nI (n := 0) (by decide) (by decide)) (show decode cL_law 2112 = .ok (.laload, 1) from by decide +kernel) ?_
      refine lv_iload hx hb (show decode cL_law 2113 = .ok (.iload 7, 2) from by decide +kernel) (lv_at hl 0 rfl) ?_
      refine lv_i2l hx hb (show decode cL_law 2115 = .ok (.i2l, 1) from by decide +kernel) rfl ?_
      refine W.lcmp hx hb (show decode cL_law 2116 = .ok (.lcmp, 1) from by decide +kernel) ?_
      rw [show Int32.toNatClampNeg 0 = 0 from by decide, hg0, show lg_cmp (((-1) : Int32).toInt64) (((-1) : Int32).toInt64) = 0 from by decide]
      refine lv_if_eq (tgt := 2122) hx hb (show decode cL_law 2117 = .ok (.ifCond .eq 5, 3) from by decide +kernel) (by decide) (fun _ => ?_) (fun h => absurd rfl h)
      refine lv_goto (tgt := 2357) hx hb (show decode cL_law 2122 = .ok (.goto 235, 3) from by decide +kernel) (by decide) ?_
      refine W.widen (k := cells + 100) (n := slots + 1000) (by omega) (by omega) ?_
      exact k _ _ _ _ _ _ _ _ I3 L3 (lv_sub hl [2, 3, 4, 5, 6, 7] rfl)
    · refine le_x_3_m1 hl9 (lw_LA_st hLP) F L I hl.1 ⟨by omega, by omega⟩ a1 hb1 ⟨fx, hwx, f7, f19⟩ (fun u1 H1 locs1 fs1 I1 L1 hg => ?_)
      obtain ⟨g9, hg9, hg0⟩ := hg
      refine lv_istore (lv' := [(6, .int 0), (0, .ref b), (1, .ref ax), (2, .ref am), (3, .ref ao), (4, .ref ad), (5, .int (nI i))]) hx hb (show decode cL_law 2080 = .ok (.istore 6, 2) from by decide +kernel) hl (by decide) rfl (fun ls hl => ?_)
      have h0 : ls[0]? = some (.val (.ref b)) := lv_at hl 1 rfl
      have h5 : ls[5]? = some (.val (.int (nI i))) := lv_at hl 6 rfl
      refine lv_aload_n hx hb (show decode cL_law 2082 = .ok (.aload_n 2, 1) from by decide +kernel) rfl (lv_at hl 3 rfl) ?_
      refine lw_ld (k := 1) (n := 1) hx hb X L1.hS (by decide) h0 h5 (by decide) (by decide +kernel) ?_
      rw [ea]
      obtain ⟨-, -, em, ex, eo, ed⟩ := I1.hl
      rw [← em]
      obtain ⟨fx1, v1, v2, hwx1, f71, f191, ev1, ev2⟩ := I1.hed
      subst ev1
      subst ev2
      refine le_m_3_m1 hl9 (lw_LA_st hLP) F L1 I1 hl.1 ⟨by omega, by omega⟩ a1 hb1 ⟨fx1, hwx1, f71, f191⟩ hg9 (fun u2 b9 H2 locs2 fs2 I2 L2 hg9 f30 => ?_)
      refine lv_istore (lv' := [(7, .int (-1)), (6, .int 0), (0, .ref b), (1, .ref ax), (2, .ref am), (3, .ref ao), (4, .ref ad), (5, .int (nI i))]) hx hb (show decode cL_law 2092 = .ok (.istore 7, 2) from by decide +kernel) hl (by decide) rfl (fun ls hl => ?_)
      refine lv_aload_n hx hb (show decode cL_law 2094 = .ok (.aload_n 2, 1) from by decide +kernel) rfl (lv_at hl 4 rfl) ?_
      obtain ⟨-, -, em, ex, eo, ed⟩ := I2.hl
      rw [← em]
      refine le_t hl9 (lw_LA_st hLP) F L2 I2 hl.1 ⟨by omega, by omega⟩ hg9 f30 (fun u3 H3 locs3 fs3 I3 L3 hg9 => ?_)
      refine lv_iload hx hb (show decode cL_law 2098 = .ok (.iload 6, 2) from by decide +kernel) (lv_at hl 1 rfl) ?_
      refine lv_icmp_eq (tgt := 2105) hx hb (show decode cL_law 2100 = .ok (.if_icmp .eq 5, 3) from by decide +kernel) (by decide) (fun _ => ?_) (fun h => absurd (by decide) h)
      refine lv_iload hx hb (show decode cL_law 2105 = .ok (.iload 6, 2) from by decide +kernel) (lv_at hl 1 rfl) ?_
      refine lv_if_ne (tgt := 2122) hx hb (show decode cL_law 2107 = .ok (.ifCond .ne 15, 3) from by decide +kernel) (by decide) (fun h => absurd rfl h) (fun _ => ?_)
      refine lv_aload_n hx hb (show decode cL_law 2110 = .ok (.aload_n 3, 1) from by decide +kernel) rfl (lv_at hl 5 rfl) ?_
      obtain ⟨-, -, em, ex, eo, ed⟩ := I3.hl
      rw [← eo]
      refine lv_iconst (v := 0) hx hb (show decode cL_law 2111 = .ok (.iconst 0, 1) from by decide +kernel) (by decide) ?_
      refine va_lald hx hb F.hK L3.hP qo 7 hg9 (wr_ty F.hTY) (vp_in_nI (n := 0) (by decide) (by decide)) (show decode cL_law 2112 = .ok (.laload, 1) from by decide +kernel) ?_
      refine lv_iload hx hb (show decode cL_law 2113 = .ok (.iload 7, 2) from by decide +kernel) (lv_at hl 0 rfl) ?_
      refine lv_i2l hx hb (show decode cL_law 2115 = .ok (.i2l, 1) from by decide +kernel) rfl ?_
      refine W.lcmp hx hb (show decode cL_law 2116 = .ok (.lcmp, 1) from by decide +kernel) ?_
      rw [show Int32.toNatClampNeg 0 = 0 from by decide, hg0, show lg_cmp (((-1) : Int32).toInt64) (((-1) : Int32).toInt64) = 0 from by decide]
      refine lv_if_eq (tgt := 2122) hx hb (show decode cL_law 2117 = .ok (.ifCond .eq 5, 3) from by decide +kernel) (by decide) (fun _ => ?_) (fun h => absurd rfl h)
      refine lv_goto (tgt := 2357) hx hb (show decode cL_law 2122 = .ok (.goto 235, 3) from by decide +kernel) (by decide) ?_
      refine W.widen (k := cells + 100) (n := slots + 1000) (by omega) (by omega) ?_
      exact k _ _ _ _ _ _ _ _ I3 L3 (lv_sub hl [2, 3, 4, 5, 6, 7] rfl)
    · refine le_x_4_m1 hl9 (lw_LA_st hLP) F L I hl.1 ⟨by omega, by omega⟩ a1 hb1 ⟨fx, hwx, f7, f19⟩ (fun u1 H1 locs1 fs1 I1 L1 hg => ?_)
      obtain ⟨g9, hg9, hg0⟩ := hg
      refine lv_istore (lv' := [(6, .int 0), (0, .ref b), (1, .ref ax), (2, .ref am), (3, .ref ao), (4, .ref ad), (5, .int (nI i))]) hx hb (show decode cL_law 2080 = .ok (.istore 6, 2) from by decide +kernel) hl (by decide) rfl (fun ls hl => ?_)
      have h0 : ls[0]? = some (.val (.ref b)) := lv_at hl 1 rfl
      have h5 : ls[5]? = some (.val (.int (nI i))) := lv_at hl 6 rfl
      refine lv_aload_n hx hb (show decode cL_law 2082 = .ok (.aload_n 2, 1) from by decide +kernel) rfl (lv_at hl 3 rfl) ?_
      refine lw_ld (k := 1) (n := 1) hx hb X L1.hS (by decide) h0 h5 (by decide) (by decide +kernel) ?_
      rw [ea]
      obtain ⟨-, -, em, ex, eo, ed⟩ := I1.hl
      rw [← em]
      obtain ⟨fx1, v1, v2, hwx1, f71, f191, ev1, ev2⟩ := I1.hed
      subst ev1
      subst ev2
      refine le_m_4_m1 hl9 (lw_LA_st hLP) F L1 I1 hl.1 ⟨by omega, by omega⟩ a1 hb1 ⟨fx1, hwx1, f71, f191⟩ hg9 (fun u2 b9 H2 locs2 fs2 I2 L2 hg9 f30 => ?_)
      refine lv_istore (lv' := [(7, .int (-1)), (6, .int 0), (0, .ref b), (1, .ref ax), (2, .ref am), (3, .ref ao), (4, .ref ad), (5, .int (nI i))]) hx hb (show decode cL_law 2092 = .ok (.istore 7, 2) from by decide +kernel) hl (by decide) rfl (fun ls hl => ?_)
      refine lv_aload_n hx hb (show decode cL_law 2094 = .ok (.aload_n 2, 1) from by decide +kernel) rfl (lv_at hl 4 rfl) ?_
      obtain ⟨-, -, em, ex, eo, ed⟩ := I2.hl
      rw [← em]
      refine le_t hl9 (lw_LA_st hLP) F L2 I2 hl.1 ⟨by omega, by omega⟩ hg9 f30 (fun u3 H3 locs3 fs3 I3 L3 hg9 => ?_)
      refine lv_iload hx hb (show decode cL_law 2098 = .ok (.iload 6, 2) from by decide +kernel) (lv_at hl 1 rfl) ?_
      refine lv_icmp_eq (tgt := 2105) hx hb (show decode cL_law 2100 = .ok (.if_icmp .eq 5, 3) from by decide +kernel) (by decide) (fun _ => ?_) (fun h => absurd (by decide) h)
      refine lv_iload hx hb (show decode cL_law 2105 = .ok (.iload 6, 2) from by decide +kernel) (lv_at hl 1 rfl) ?_
      refine lv_if_ne (tgt := 2122) hx hb (show decode cL_law 2107 = .ok (.ifCond .ne 15, 3) from by decide +kernel) (by decide) (fun h => absurd rfl h) (fun _ => ?_)
      refine lv_aload_n hx hb (show decode cL_law 2110 = .ok (.aload_n 3, 1) from by decide +kernel) rfl (lv_at hl 5 rfl) ?_
      obtain ⟨-, -, em, ex, eo, ed⟩ := I3.hl
      rw [← eo]
      refine lv_iconst (v := 0) hx hb (show decode cL_law 2111 = .ok (.iconst 0, 1) from by decide +kernel) (by decide) ?_
      refine va_lald hx hb F.hK L3.hP qo 7 hg9 (wr_ty F.hTY) (vp_in_nI (n := 0) (by decide) (by decide)) (show decode cL_law 2112 = .ok (.laload, 1) from by decide +kernel) ?_
      refine lv_iload hx hb (show decode cL_law 2113 = .ok (.iload 7, 2) from by decide +kernel) (lv_at hl 0 rfl) ?_
      refine lv_i2l hx hb (show decode cL_law 2115 = .ok (.i2l, 1) from by decide +kernel) rfl ?_
      refine W.lcmp hx hb (show decode cL_law 2116 = .ok (.lcmp, 1) from by decide +kernel) ?_
      rw [show Int32.toNatClampNeg 0 = 0 from by decide, hg0, show lg_cmp (((-1) : Int32).toInt64) (((-1) : Int32).toInt64) = 0 from by decide]
      refine lv_if_eq (tgt := 2122) hx hb (show decode cL_law 2117 = .ok (.ifCond .eq 5, 3) from by decide +kernel) (by decide) (fun _ => ?_) (fun h => absurd rfl h)
      refine lv_goto (tgt := 2357) hx hb (show decode cL_law 2122 = .ok (.goto 235, 3) from by decide +kernel) (by decide) ?_
      refine W.widen (k := cells + 100) (n := slots + 1000) (by omega) (by omega) ?_
      exact k _ _ _ _ _ _ _ _ I3 L3 (lv_sub hl [2, 3, 4, 5, 6, 7] rfl)
    · refine le_x_5_m1 hl9 (lw_LA_st hLP) F L I hl.1 ⟨by omega, by omega⟩ a1 hb1 ⟨fx, hwx, f7, f19⟩ (fun u1 H1 locs1 fs1 I1 L1 => ?_)
      obtain ⟨g9, hg9⟩ := I1.hwo
      refine lv_istore (lv' := [(6, .int 1), (0, .ref b), (1, .ref ax), (2, .ref am), (3, .ref ao), (4, .ref ad), (5, .int (nI i))]) hx hb (show decode cL_law 2080 = .ok (.istore 6, 2) from by decide +kernel) hl (by decide) rfl (fun ls hl => ?_)
      have h0 : ls[0]? = some (.val (.ref b)) := lv_at hl 1 rfl
      have h5 : ls[5]? = some (.val (.int (nI i))) := lv_at hl 6 rfl
      refine lv_aload_n hx hb (show decode cL_law 2082 = .ok (.aload_n 2, 1) from by decide +kernel) rfl (lv_at hl 3 rfl) ?_
      refine lw_ld (k := 1) (n := 1) hx hb X L1.hS (by decide) h0 h5 (by decide) (by decide +kernel) ?_
      rw [ea]
      obtain ⟨-, -, em, ex, eo, ed⟩ := I1.hl
      rw [← em]
      obtain ⟨fx1, v1, v2, hwx1, f71, f191, ev1, ev2⟩ := I1.hed
      subst ev1
      subst ev2
      refine le_m_5_m1 hl9 (lw_LA_st hLP) F L1 I1 hl.1 ⟨by omega, by omega⟩ a1 hb1 ⟨fx1, hwx1, f71, f191⟩ hg9 (fun u2 b9 H2 locs2 fs2 I2 L2 hg9 f30 => ?_)
      refine lv_istore (lv' := [(7, .int b9), (6, .int 1), (0, .ref b), (1, .ref ax), (2, .ref am), (3, .ref ao), (4, .ref ad), (5, .int (nI i))]) hx hb (show decode cL_law 2092 = .ok (.istore 7, 2) from by decide +kernel) hl (by decide) rfl (fun ls hl => ?_)
      refine lv_aload_n hx hb (show decode cL_law 2094 = .ok (.aload_n 2, 1) from by decide +kernel) rfl (lv_at hl 4 rfl) ?_
      obtain ⟨-, -, em, ex, eo, ed⟩ := I2.hl
      rw [← em]
      refine le_t hl9 (lw_LA_st hLP) F L2 I2 hl.1 ⟨by omega, by omega⟩ hg9 f30 (fun u3 H3 locs3 fs3 I3 L3 hg9 => ?_)
      refine lv_iload hx hb (show decode cL_law 2098 = .ok (.iload 6, 2) from by decide +kernel) (lv_at hl 1 rfl) ?_
      refine lv_icmp_eq (tgt := 2105) hx hb (show decode cL_law 2100 = .ok (.if_icmp .eq 5, 3) from by decide +kernel) (by decide) (fun _ => ?_) (fun h => absurd (by decide) h)
      refine lv_iload hx hb (show decode cL_law 2105 = .ok (.iload 6, 2) from by decide +kernel) (lv_at hl 1 rfl) ?_
      refine lv_if_ne (tgt := 2122) hx hb (show decode cL_law 2107 = .ok (.ifCond .ne 15, 3) from by decide +kernel) (by decide) (fun _ => ?_) (fun h => absurd h (by decide))
      refine lv_goto (tgt := 2357) hx hb (show decode cL_law 2122 = .ok (.goto 235, 3) from by decide +kernel) (by decide) ?_
      refine W.widen (k := cells + 100) (n := slots + 1000) (by omega) (by omega) ?_
      exact k _ _ _ _ _ _ _ _ I3 L3 (lv_sub hl [2, 3, 4, 5, 6, 7] rfl)
    · refine le_x_6_m1 hl9 (lw_LA_st hLP) F L I hl.1 ⟨by omega, by omega⟩ a1 hb1 ⟨fx, hwx, f7, f19⟩ (fun u1 H1 locs1 fs1 I1 L1 => ?_)
      obtain ⟨g9, hg9⟩ := I1.hwo
      refine lv_istore (lv' := [(6, .int 1), (0, .ref b), (1, .ref ax), (2, .ref am), (3, .ref ao), (4, .ref ad), (5, .int (nI i))]) hx hb (show decode cL_law 2080 = .ok (.istore 6, 2) from by decide +kernel) hl (by decide) rfl (fun ls hl => ?_)
      have h0 : ls[0]? = some (.val (.ref b)) := lv_at hl 1 rfl
      have h5 : ls[5]? = some (.val (.int (nI i))) := lv_at hl 6 rfl
      refine lv_aload_n hx hb (show decode cL_law 2082 = .ok (.aload_n 2, 1) from by decide +kernel) rfl (lv_at hl 3 rfl) ?_
      refine lw_ld (k := 1) (n := 1) hx hb X L1.hS (by decide) h0 h5 (by decide) (by decide +kernel) ?_
      rw [ea]
      obtain ⟨-, -, em, ex, eo, ed⟩ := I1.hl
      rw [← em]
      obtain ⟨fx1, v1, v2, hwx1, f71, f191, ev1, ev2⟩ := I1.hed
      subst ev1
      subst ev2
      refine le_m_6_m1 hl9 (lw_LA_st hLP) F L1 I1 hl.1 ⟨by omega, by omega⟩ a1 hb1 ⟨fx1, hwx1, f71, f191⟩ hg9 (fun u2 b9 H2 locs2 fs2 I2 L2 hg9 f30 => ?_)
      refine lv_istore (lv' := [(7, .int b9), (6, .int 1), (0, .ref b), (1, .ref ax), (2, .ref am), (3, .ref ao), (4, .ref ad), (5, .int (nI i))]) hx hb (show decode cL_law 2092 = .ok (.istore 7, 2) from by decide +kernel) hl (by decide) rfl (fun ls hl => ?_)
      refine lv_aload_n hx hb (show decode cL_law 2094 = .ok (.aload_n 2, 1) from by decide +kernel) rfl (lv_at hl 4 rfl) ?_
      obtain ⟨-, -, em, ex, eo, ed⟩ := I2.hl
      rw [← em]
      refine le_t hl9 (lw_LA_st hLP) F L2 I2 hl.1 ⟨by omega, by omega⟩ hg9 f30 (fun u3 H3 locs3 fs3 I3 L3 hg9 => ?_)
      refine lv_iload hx hb (show decode cL_law 2098 = .ok (.iload 6, 2) from by decide +kernel) (lv_at hl 1 rfl) ?_
      refine lv_icmp_eq (tgt := 2105) hx hb (show decode cL_law 2100 = .ok (.if_icmp .eq 5, 3) from by decide +kernel) (by decide) (fun _ => ?_) (fun h => absurd (by decide) h)
      refine lv_iload hx hb (show decode cL_law 2105 = .ok (.iload 6, 2) from by decide +kernel) (lv_at hl 1 rfl) ?_
      refine lv_if_ne (tgt := 2122) hx hb (show decode cL_law 2107 = .ok (.ifCond .ne 15, 3) from by decide +kernel) (by decide) (fun _ => ?_) (fun h => absurd h (by decide))
      refine lv_goto (tgt := 2357) hx hb (show decode cL_law 2122 = .ok (.goto 235, 3) from by decide +kernel) (by decide) ?_
      refine W.widen (k := cells + 100) (n := slots + 1000) (by omega) (by omega) ?_
      exact k _ _ _ _ _ _ _ _ I3 L3 (lv_sub hl [2, 3, 4, 5, 6, 7] rfl)
  · rcases hz with hb1 | hb1 | hb1 | hb1 | hb1 | hb1 | hb1
    · refine le_x_0_0 hl9 (lw_LA_st hLP) F L I hl.1 ⟨by omega, by omega⟩ a1 hb1 ⟨fx, hwx, f7, f19⟩ (fun u1 H1 locs1 fs1 I1 L1 hg => ?_)
      obtain ⟨g9, hg9, hg0⟩ := hg
      refine lv_istore (lv' := [(6, .int 0), (0, .ref b), (1, .ref ax), (2, .ref am), (3, .ref ao), (4, .ref ad), (5, .int (nI i))]) hx hb (show decode cL_law 2080 = .ok (.istore 6, 2) from by decide +kernel) hl (by decide) rfl (fun ls hl => ?_)
      have h0 : ls[0]? = some (.val (.ref b)) := lv_at hl 1 rfl
      have h5 : ls[5]? = some (.val (.int (nI i))) := lv_at hl 6 rfl
      refine lv_aload_n hx hb (show decode cL_law 2082 = .ok (.aload_n 2, 1) from by decide +kernel) rfl (lv_at hl 3 rfl) ?_
      refine lw_ld (k := 1) (n := 1) hx hb X L1.hS (by decide) h0 h5 (by decide) (by decide +kernel) ?_
      rw [ea]
      obtain ⟨-, -, em, ex, eo, ed⟩ := I1.hl
      rw [← em]
      obtain ⟨fx1, v1, v2, hwx1, f71, f191, ev1, ev2⟩ := I1.hed
      subst ev1
      subst ev2
      refine le_m_0_0 hl9 (lw_LA_st hLP) F L1 I1 hl.1 ⟨by omega, by omega⟩ a1 hb1 ⟨fx1, hwx1, f71, f191⟩ hg9 (fun u2 b9 H2 locs2 fs2 I2 L2 hg9 f30 => ?_)
      refine lv_istore (lv' := [(7, .int 0), (6, .int 0), (0, .ref b), (1, .ref ax), (2, .ref am), (3, .ref ao), (4, .ref ad), (5, .int (nI i))]) hx hb (show decode cL_law 2092 = .ok (.istore 7, 2) from by decide +kernel) hl (by decide) rfl (fun ls hl => ?_)
      refine lv_aload_n hx hb (show decode cL_law 2094 = .ok (.aload_n 2, 1) from by decide +kernel) rfl (lv_at hl 4 rfl) ?_
      obtain ⟨-, -, em, ex, eo, ed⟩ := I2.hl
      rw [← em]
      refine le_t hl9 (lw_LA_st hLP) F L2 I2 hl.1 ⟨by omega, by omega⟩ hg9 f30 (fun u3 H3 locs3 fs3 I3 L3 hg9 => ?_)
      refine lv_iload hx hb (show decode cL_law 2098 = .ok (.iload 6, 2) from by decide +kernel) (lv_at hl 1 rfl) ?_
      refine lv_icmp_eq (tgt := 2105) hx hb (show decode cL_law 2100 = .ok (.if_icmp .eq 5, 3) from by decide +kernel) (by decide) (fun _ => ?_) (fun h => absurd (by decide) h)
      refine lv_iload hx hb (show decode cL_law 2105 = .ok (.iload 6, 2) from by decide +kernel) (lv_at hl 1 rfl) ?_
      refine lv_if_ne (tgt := 2122) hx hb (show decode cL_law 2107 = .ok (.ifCond .ne 15, 3) from by decide +kernel) (by decide) (fun h => absurd rfl h) (fun _ => ?_)
      refine lv_aload_n hx hb (show decode cL_law 2110 = .ok (.aload_n 3, 1) from by decide +kernel) rfl (lv_at hl 5 rfl) ?_
      obtain ⟨-, -, em, ex, eo, ed⟩ := I3.hl
      rw [← eo]
      refine lv_iconst (v := 0) hx hb (show decode cL_law 2111 = .ok (.iconst 0, 1) from by decide +kernel) (by decide) ?_
      refine va_lald hx hb F.hK L3.hP qo 7 hg9 (wr_ty F.hTY) (vp_in_nI (n := 0) (by decide) (by decide)) (show decode cL_law 2112 = .ok (.laload, 1) from by decide +kernel) ?_
      refine lv_iload hx hb (show decode cL_law 2113 = .ok (.iload 7, 2) from by decide +kernel) (lv_at hl 0 rfl) ?_
      refine lv_i2l hx hb (show decode cL_law 2115 = .ok (.i2l, 1) from by decide +kernel) rfl ?_
      refine W.lcmp hx hb (show decode cL_law 2116 = .ok (.lcmp, 1) from by decide +kernel) ?_
      rw [show Int32.toNatClampNeg 0 = 0 from by decide, hg0, show lg_cmp ((0 : Int32).toInt64) ((0 : Int32).toInt64) = 0 from by decide]
      refine lv_if_eq (tgt := 2122) hx hb (show decode cL_law 2117 = .ok (.ifCond .eq 5, 3) from by decide +kernel) (by decide) (fun _ => ?_) (fun h => absurd rfl h)
      refine lv_goto (tgt := 2357) hx hb (show decode cL_law 2122 = .ok (.goto 235, 3) from by decide +kernel) (by decide) ?_
      refine W.widen (k := cells + 100) (n := slots + 1000) (by omega) (by omega) ?_
      exact k _ _ _ _ _ _ _ _ I3 L3 (lv_sub hl [2, 3, 4, 5, 6, 7] rfl)
    · refine le_x_1_0 hl9 (lw_LA_st hLP) F L I hl.1 ⟨by omega, by omega⟩ a1 hb1 ⟨fx, hwx, f7, f19⟩ (fun u1 H1 locs1 fs1 I1 L1 hg => ?_)
      obtain ⟨g9, hg9, hg0⟩ := hg
      refine lv_istore (lv' := [(6, .int 0), (0, .ref b), (1, .ref ax), (2, .ref am), (3, .ref ao), (4, .ref ad), (5, .int (nI i))]) hx hb (show decode cL_law 2080 = .ok (.istore 6, 2) from by decide +kernel) hl (by decide) rfl (fun ls hl => ?_)
      have h0 : ls[0]? = some (.val (.ref b)) := lv_at hl 1 rfl
      have h5 : ls[5]? = some (.val (.int (nI i))) := lv_at hl 6 rfl
      refine lv_aload_n hx hb (show decode cL_law 2082 = .ok (.aload_n 2, 1) from by decide +kernel) rfl (lv_at hl 3 rfl) ?_
      refine lw_ld (k := 1) (n := 1) hx hb X L1.hS (by decide) h0 h5 (by decide) (by decide +kernel) ?_
      rw [ea]
      obtain ⟨-, -, em, ex, eo, ed⟩ := I1.hl
      rw [← em]
      obtain ⟨fx1, v1, v2, hwx1, f71, f191, ev1, ev2⟩ := I1.hed
      subst ev1
      subst ev2
      refine le_m_1_0 hl9 (lw_LA_st hLP) F L1 I1 hl.1 ⟨by omega, by omega⟩ a1 hb1 ⟨fx1, hwx1, f71, f191⟩ hg9 (fun u2 b9 H2 locs2 fs2 I2 L2 hg9 f30 => ?_)
      refine lv_istore (lv' := [(7, .int 0), (6, .int 0), (0, .ref b), (1, .ref ax), (2, .ref am), (3, .ref ao), (4, .ref ad), (5, .int (nI i))]) hx hb (show decode cL_law 2092 = .ok (.istore 7, 2) from by decide +kernel) hl (by decide) rfl (fun ls hl => ?_)
      refine lv_aload_n hx hb (show decode cL_law 2094 = .ok (.aload_n 2, 1) from by decide +kernel) rfl (lv_at hl 4 rfl) ?_
      obtain ⟨-, -, em, ex, eo, ed⟩ := I2.hl
      rw [← em]
      refine le_t hl9 (lw_LA_st hLP) F L2 I2 hl.1 ⟨by omega, by omega⟩ hg9 f30 (fun u3 H3 locs3 fs3 I3 L3 hg9 => ?_)
      refine lv_iload hx hb (show decode cL_law 2098 = .ok (.iload 6, 2) from by decide +kernel) (lv_at hl 1 rfl) ?_
      refine lv_icmp_eq (tgt := 2105) hx hb (show decode cL_law 2100 = .ok (.if_icmp .eq 5, 3) from by decide +kernel) (by decide) (fun _ => ?_) (fun h => absurd (by decide) h)
      refine lv_iload hx hb (show decode cL_law 2105 = .ok (.iload 6, 2) from by decide +kernel) (lv_at hl 1 rfl) ?_
      refine lv_if_ne (tgt := 2122) hx hb (show decode cL_law 2107 = .ok (.ifCond .ne 15, 3) from by decide +kernel) (by decide) (fun h => absurd rfl h) (fun _ => ?_)
      refine lv_aload_n hx hb (show decode cL_law 2110 = .ok (.aload_n 3, 1) from by decide +kernel) rfl (lv_at hl 5 rfl) ?_
      obtain ⟨-, -, em, ex, eo, ed⟩ := I3.hl
      rw [← eo]
      refine lv_iconst (v := 0) hx hb (show decode cL_law 2111 = .ok (.iconst 0, 1) from by decide +kernel) (by decide) ?_
      refine va_lald hx hb F.hK L3.hP qo 7 hg9 (wr_ty F.hTY) (vp_in_nI (n := 0) (by decide) (by decide)) (show decode cL_law 2112 = .ok (.laload, 1) from by decide +kernel) ?_
      refine lv_iload hx hb (show decode cL_law 2113 = .ok (.iload 7, 2) from by decide +kernel) (lv_at hl 0 rfl) ?_
      refine lv_i2l hx hb (show decode cL_law 2115 = .ok (.i2l, 1) from by decide +kernel) rfl ?_
      refine W.lcmp hx hb (show decode cL_law 2116 = .ok (.lcmp, 1) from by decide +kernel) ?_
      rw [show Int32.toNatClampNeg 0 = 0 from by decide, hg0, show lg_cmp ((0 : Int32).toInt64) ((0 : Int32).toInt64) = 0 from by decide]
      refine lv_if_eq (tgt := 2122) hx hb (show decode cL_law 2117 = .ok (.ifCond .eq 5, 3) from by decide +kernel) (by decide) (fun _ => ?_) (fun h => absurd rfl h)
      refine lv_goto (tgt := 2357) hx hb (show decode cL_law 2122 = .ok (.goto 235, 3) from by decide +kernel) (by decide) ?_
      refine W.widen (k := cells + 100) (n := slots + 1000) (by omega) (by omega) ?_
      exact k _ _ _ _ _ _ _ _ I3 L3 (lv_sub hl [2, 3, 4, 5, 6, 7] rfl)
    · refine le_x_2_0 hl9 (lw_LA_st hLP) F L I hl.1 ⟨by omega, by omega⟩ a1 hb1 ⟨fx, hwx, f7, f19⟩ (fun u1 H1 locs1 fs1 I1 L1 hg => ?_)
      obtain ⟨g9, hg9, hg0⟩ := hg
      refine lv_istore (lv' := [(6, .int 0), (0, .ref b), (1, .ref ax), (2, .ref am), (3, .ref ao), (4, .ref ad), (5, .int (nI i))]) hx hb (show decode cL_law 2080 = .ok (.istore 6, 2) from by decide +kernel) hl (by decide) rfl (fun ls hl => ?_)
      have h0 : ls[0]? = some (.val (.ref b)) := lv_at hl 1 rfl
      have h5 : ls[5]? = some (.val (.int (nI i))) := lv_at hl 6 rfl
      refine lv_aload_n hx hb (show decode cL_law 2082 = .ok (.aload_n 2, 1) from by decide +kernel) rfl (lv_at hl 3 rfl) ?_
      refine lw_ld (k := 1) (n := 1) hx hb X L1.hS (by decide) h0 h5 (by decide) (by decide +kernel) ?_
      rw [ea]
      obtain ⟨-, -, em, ex, eo, ed⟩ := I1.hl
      rw [← em]
      obtain ⟨fx1, v1, v2, hwx1, f71, f191, ev1, ev2⟩ := I1.hed
      subst ev1
      subst ev2
      refine le_m_2_0 hl9 (lw_LA_st hLP) F L1 I1 hl.1 ⟨by omega, by omega⟩ a1 hb1 ⟨fx1, hwx1, f71, f191⟩ hg9 (fun u2 b9 H2 locs2 fs2 I2 L2 hg9 f30 => ?_)
      refine lv_istore (lv' := [(7, .int 0), (6, .int 0), (0, .ref b), (1, .ref ax), (2, .ref am), (3, .ref ao), (4, .ref ad), (5, .int (nI i))]) hx hb (show decode cL_law 2092 = .ok (.istore 7, 2) from by decide +kernel) hl (by decide) rfl (fun ls hl => ?_)
      refine lv_aload_n hx hb (show decode cL_law 2094 = .ok (.aload_n 2, 1) from by decide +kernel) rfl (lv_at hl 4 rfl) ?_
      obtain ⟨-, -, em, ex, eo, ed⟩ := I2.hl
      rw [← em]
      refine le_t hl9 (lw_LA_st hLP) F L2 I2 hl.1 ⟨by omega, by omega⟩ hg9 f30 (fun u3 H3 locs3 fs3 I3 L3 hg9 => ?_)
      refine lv_iload hx hb (show decode cL_law 2098 = .ok (.iload 6, 2) from by decide +kernel) (lv_at hl 1 rfl) ?_
      refine lv_icmp_eq (tgt := 2105) hx hb (show decode cL_law 2100 = .ok (.if_icmp .eq 5, 3) from by decide +kernel) (by decide) (fun _ => ?_) (fun h => absurd (by decide) h)
      refine lv_iload hx hb (show decode cL_law 2105 = .ok (.iload 6, 2) from by decide +kernel) (lv_at hl 1 rfl) ?_
      refine lv_if_ne (tgt := 2122) hx hb (show decode cL_law 2107 = .ok (.ifCond .ne 15, 3) from by decide +kernel) (by decide) (fun h => absurd rfl h) (fun _ => ?_)
      refine lv_aload_n hx hb (show decode cL_law 2110 = .ok (.aload_n 3, 1) from by decide +kernel) rfl (lv_at hl 5 rfl) ?_
      obtain ⟨-, -, em, ex, eo, ed⟩ := I3.hl
      rw [← eo]
      refine lv_iconst (v := 0) hx hb (show decode cL_law 2111 = .ok (.iconst 0, 1) from by decide +kernel) (by decide) ?_
      refine va_lald hx hb F.hK L3.hP qo 7 hg9 (wr_ty F.hTY) (vp_in_nI (n := 0) (by decide) (by decide)) (show decode cL_law 2112 = .ok (.laload, 1) from by decide +kernel) ?_
      refine lv_iload hx hb (show decode cL_law 2113 = .ok (.iload 7, 2) from by decide +kernel) (lv_at hl 0 rfl) ?_
      refine lv_i2l hx hb (show decode cL_law 2115 = .ok (.i2l, 1) from by decide +kernel) rfl ?_
      refine W.lcmp hx hb (show decode cL_law 2116 = .ok (.lcmp, 1) from by decide +kernel) ?_
      rw [show Int32.toNatClampNeg 0 = 0 from by decide, hg0, show lg_cmp ((0 : Int32).toInt64) ((0 : Int32).toInt64) = 0 from by decide]
      refine lv_if_eq (tgt := 2122) hx hb (show decode cL_law 2117 = .ok (.ifCond .eq 5, 3) from by decide +kernel) (by decide) (fun _ => ?_) (fun h => absurd rfl h)
      refine lv_goto (tgt := 2357) hx hb (show decode cL_law 2122 = .ok (.goto 235, 3) from by decide +kernel) (by decide) ?_
      refine W.widen (k := cells + 100) (n := slots + 1000) (by omega) (by omega) ?_
      exact k _ _ _ _ _ _ _ _ I3 L3 (lv_sub hl [2, 3, 4, 5, 6, 7] rfl)
    · refine le_x_3_0 hl9 (lw_LA_st hLP) F L I hl.1 ⟨by omega, by omega⟩ a1 hb1 ⟨fx, hwx, f7, f19⟩ (fun u1 H1 locs1 fs1 I1 L1 hg => ?_)
      obtain ⟨g9, hg9, hg0⟩ := hg
      refine lv_istore (lv' := [(6, .int 0), (0, .ref b), (1, .ref ax), (2, .ref am), (3, .ref ao), (4, .ref ad), (5, .int (nI i))]) hx hb (show decode cL_law 2080 = .ok (.istore 6, 2) from by decide +kernel) hl (by decide) rfl (fun ls hl => ?_)
      have h0 : ls[0]? = some (.val (.ref b)) := lv_at hl 1 rfl
      have h5 : ls[5]? = some (.val (.int (nI i))) := lv_at hl 6 rfl
      refine lv_aload_n hx hb (show decode cL_law 2082 = .ok (.aload_n 2, 1) from by decide +kernel) rfl (lv_at hl 3 rfl) ?_
      refine lw_ld (k := 1) (n := 1) hx hb X L1.hS (by decide) h0 h5 (by decide) (by decide +kernel) ?_
      rw [ea]
      obtain ⟨-, -, em, ex, eo, ed⟩ := I1.hl
      rw [← em]
      obtain ⟨fx1, v1, v2, hwx1, f71, f191, ev1, ev2⟩ := I1.hed
      subst ev1
      subst ev2
      refine le_m_3_0 hl9 (lw_LA_st hLP) F L1 I1 hl.1 ⟨by omega, by omega⟩ a1 hb1 ⟨fx1, hwx1, f71, f191⟩ hg9 (fun u2 b9 H2 locs2 fs2 I2 L2 hg9 f30 => ?_)
      refine lv_istore (lv' := [(7, .int 0), (6, .int 0), (0, .ref b), (1, .ref ax), (2, .ref am), (3, .ref ao), (4, .ref ad), (5, .int (nI i))]) hx hb (show decode cL_law 2092 = .ok (.istore 7, 2) from by decide +kernel) hl (by decide) rfl (fun ls hl => ?_)
      refine lv_aload_n hx hb (show decode cL_law 2094 = .ok (.aload_n 2, 1) from by decide +kernel) rfl (lv_at hl 4 rfl) ?_
      obtain ⟨-, -, em, ex, eo, ed⟩ := I2.hl
      rw [← em]
      refine le_t hl9 (lw_LA_st hLP) F L2 I2 hl.1 ⟨by omega, by omega⟩ hg9 f30 (fun u3 H3 locs3 fs3 I3 L3 hg9 => ?_)
      refine lv_iload hx hb (show decode cL_law 2098 = .ok (.iload 6, 2) from by decide +kernel) (lv_at hl 1 rfl) ?_
      refine lv_icmp_eq (tgt := 2105) hx hb (show decode cL_law 2100 = .ok (.if_icmp .eq 5, 3) from by decide +kernel) (by decide) (fun _ => ?_) (fun h => absurd (by decide) h)
      refine lv_iload hx hb (show decode cL_law 2105 = .ok (.iload 6, 2) from by decide +kernel) (lv_at hl 1 rfl) ?_
      refine lv_if_ne (tgt := 2122) hx hb (show decode cL_law 2107 = .ok (.ifCond .ne 15, 3) from by decide +kernel) (by decide) (fun h => absurd rfl h) (fun _ => ?_)
      refine lv_aload_n hx hb (show decode cL_law 2110 = .ok (.aload_n 3, 1) from by decide +kernel) rfl (lv_at hl 5 rfl) ?_
      obtain ⟨-, -, em, ex, eo, ed⟩ := I3.hl
      rw [← eo]
      refine lv_iconst (v := 0) hx hb (show decode cL_law 2111 = .ok (.iconst 0, 1) from by decide +kernel) (by decide) ?_
      refine va_lald hx hb F.hK L3.hP qo 7 hg9 (wr_ty F.hTY) (vp_in_nI (n := 0) (by decide) (by decide)) (show decode cL_law 2112 = .ok (.laload, 1) from by decide +kernel) ?_
      refine lv_iload hx hb (show decode cL_law 2113 = .ok (.iload 7, 2) from by decide +kernel) (lv_at hl 0 rfl) ?_
      refine lv_i2l hx hb (show decode cL_law 2115 = .ok (.i2l, 1) from by decide +kernel) rfl ?_
      refine W.lcmp hx hb (show decode cL_law 2116 = .ok (.lcmp, 1) from by decide +kernel) ?_
      rw [show Int32.toNatClampNeg 0 = 0 from by decide, hg0, show lg_cmp ((0 : Int32).toInt64) ((0 : Int32).toInt64) = 0 from by decide]
      refine lv_if_eq (tgt := 2122) hx hb (show decode cL_law 2117 = .ok (.ifCond .eq 5, 3) from by decide +kernel) (by decide) (fun _ => ?_) (fun h => absurd rfl h)
      refine lv_goto (tgt := 2357) hx hb (show decode cL_law 2122 = .ok (.goto 235, 3) from by decide +kernel) (by decide) ?_
      refine W.widen (k := cells + 100) (n := slots + 1000) (by omega) (by omega) ?_
      exact k _ _ _ _ _ _ _ _ I3 L3 (lv_sub hl [2, 3, 4, 5, 6, 7] rfl)
    · refine le_x_4_0 hl9 (lw_LA_st hLP) F L I hl.1 ⟨by omega, by omega⟩ a1 hb1 ⟨fx, hwx, f7, f19⟩ (fun u1 H1 locs1 fs1 I1 L1 hg => ?_)
      obtain ⟨g9, hg9, hg0⟩ := hg
      refine lv_istore (lv' := [(6, .int 0), (0, .ref b), (1, .ref ax), (2, .ref am), (3, .ref ao), (4, .ref ad), (5, .int (nI i))]) hx hb (show decode cL_law 2080 = .ok (.istore 6, 2) from by decide +kernel) hl (by decide) rfl (fun ls hl => ?_)
      have h0 : ls[0]? = some (.val (.ref b)) := lv_at hl 1 rfl
      have h5 : ls[5]? = some (.val (.int (nI i))) := lv_at hl 6 rfl
      refine lv_aload_n hx hb (show decode cL_law 2082 = .ok (.aload_n 2, 1) from by decide +kernel) rfl (lv_at hl 3 rfl) ?_
      refine lw_ld (k := 1) (n := 1) hx hb X L1.hS (by decide) h0 h5 (by decide) (by decide +kernel) ?_
      rw [ea]
      obtain ⟨-, -, em, ex, eo, ed⟩ := I1.hl
      rw [← em]
      obtain ⟨fx1, v1, v2, hwx1, f71, f191, ev1, ev2⟩ := I1.hed
      subst ev1
      subst ev2
      refine le_m_4_0 hl9 (lw_LA_st hLP) F L1 I1 hl.1 ⟨by omega, by omega⟩ a1 hb1 ⟨fx1, hwx1, f71, f191⟩ hg9 (fun u2 b9 H2 locs2 fs2 I2 L2 hg9 f30 => ?_)
      refine lv_istore (lv' := [(7, .int 0), (6, .int 0), (0, .ref b), (1, .ref ax), (2, .ref am), (3, .ref ao), (4, .ref ad), (5, .int (nI i))]) hx hb (show decode cL_law 2092 = .ok (.istore 7, 2) from by decide +kernel) hl (by decide) rfl (fun ls hl => ?_)
      refine lv_aload_n hx hb (show decode cL_law 2094 = .ok (.aload_n 2, 1) from by decide +kernel) rfl (lv_at hl 4 rfl) ?_
      obtain ⟨-, -, em, ex, eo, ed⟩ := I2.hl
      rw [← em]
      refine le_t hl9 (lw_LA_st hLP) F L2 I2 hl.1 ⟨by omega, by omega⟩ hg9 f30 (fun u3 H3 locs3 fs3 I3 L3 hg9 => ?_)
      refine lv_iload hx hb (show decode cL_law 2098 = .ok (.iload 6, 2) from by decide +kernel) (lv_at hl 1 rfl) ?_
      refine lv_icmp_eq (tgt := 2105) hx hb (show decode cL_law 2100 = .ok (.if_icmp .eq 5, 3) from by decide +kernel) (by decide) (fun _ => ?_) (fun h => absurd (by decide) h)
      refine lv_iload hx hb (show decode cL_law 2105 = .ok (.iload 6, 2) from by decide +kernel) (lv_at hl 1 rfl) ?_
      refine lv_if_ne (tgt := 2122) hx hb (show decode cL_law 2107 = .ok (.ifCond .ne 15, 3) from by decide +kernel) (by decide) (fun h => absurd rfl h) (fun _ => ?_)
      refine lv_aload_n hx hb (show decode cL_law 2110 = .ok (.aload_n 3, 1) from by decide +kernel) rfl (lv_at hl 5 rfl) ?_
      obtain ⟨-, -, em, ex, eo, ed⟩ := I3.hl
      rw [← eo]
      refine lv_iconst (v := 0) hx hb (show decode cL_law 2111 = .ok (.iconst 0, 1) from by decide +kernel) (by decide) ?_
      refine va_lald hx hb F.hK L3.hP qo 7 hg9 (wr_ty F.hTY) (vp_in_nI (n := 0) (by decide) (by decide)) (show decode cL_law 2112 = .ok (.laload, 1) from by decide +kernel) ?_
      refine lv_iload hx hb (show decode cL_law 2113 = .ok (.iload 7, 2) from by decide +kernel) (lv_at hl 0 rfl) ?_
      refine lv_i2l hx hb (show decode cL_law 2115 = .ok (.i2l, 1) from by decide +kernel) rfl ?_
      refine W.lcmp hx hb (show decode cL_law 2116 = .ok (.lcmp, 1) from by decide +kernel) ?_
      rw [show Int32.toNatClampNeg 0 = 0 from by decide, hg0, show lg_cmp ((0 : Int32).toInt64) ((0 : Int32).toInt64) = 0 from by decide]
      refine lv_if_eq (tgt := 2122) hx hb (show decode cL_law 2117 = .ok (.ifCond .eq 5, 3) from by decide +kernel) (by decide) (fun _ => ?_) (fun h => absurd rfl h)
      refine lv_goto (tgt := 2357) hx hb (show decode cL_law 2122 = .ok (.goto 235, 3) from by decide +kernel) (by decide) ?_
      refine W.widen (k := cells + 100) (n := slots + 1000) (by omega) (by omega) ?_
      exact k _ _ _ _ _ _ _ _ I3 L3 (lv_sub hl [2, 3, 4, 5, 6, 7] rfl)
    · refine le_x_5_0 hl9 (lw_LA_st hLP) F L I hl.1 ⟨by omega, by omega⟩ a1 hb1 ⟨fx, hwx, f7, f19⟩ (fun u1 H1 locs1 fs1 I1 L1 => ?_)
      obtain ⟨g9, hg9⟩ := I1.hwo
      refine lv_istore (lv' := [(6, .int 1), (0, .ref b), (1, .ref ax), (2, .ref am), (3, .ref ao), (4, .ref ad), (5, .int (nI i))]) hx hb (show decode cL_law 2080 = .ok (.istore 6, 2) from by decide +kernel) hl (by decide) rfl (fun ls hl => ?_)
      have h0 : ls[0]? = some (.val (.ref b)) := lv_at hl 1 rfl
      have h5 : ls[5]? = some (.val (.int (nI i))) := lv_at hl 6 rfl
      refine lv_aload_n hx hb (show decode cL_law 2082 = .ok (.aload_n 2, 1) from by decide +kernel) rfl (lv_at hl 3 rfl) ?_
      refine lw_ld (k := 1) (n := 1) hx hb X L1.hS (by decide) h0 h5 (by decide) (by decide +kernel) ?_
      rw [ea]
      obtain ⟨-, -, em, ex, eo, ed⟩ := I1.hl
      rw [← em]
      obtain ⟨fx1, v1, v2, hwx1, f71, f191, ev1, ev2⟩ := I1.hed
      subst ev1
      subst ev2
      refine le_m_5_0 hl9 (lw_LA_st hLP) F L1 I1 hl.1 ⟨by omega, by omega⟩ a1 hb1 ⟨fx1, hwx1, f71, f191⟩ hg9 (fun u2 b9 H2 locs2 fs2 I2 L2 hg9 f30 => ?_)
      refine lv_istore (lv' := [(7, .int b9), (6, .int 1), (0, .ref b), (1, .ref ax), (2, .ref am), (3, .ref ao), (4, .ref ad), (5, .int (nI i))]) hx hb (show decode cL_law 2092 = .ok (.istore 7, 2) from by decide +kernel) hl (by decide) rfl (fun ls hl => ?_)
      refine lv_aload_n hx hb (show decode cL_law 2094 = .ok (.aload_n 2, 1) from by decide +kernel) rfl (lv_at hl 4 rfl) ?_
      obtain ⟨-, -, em, ex, eo, ed⟩ := I2.hl
      rw [← em]
      refine le_t hl9 (lw_LA_st hLP) F L2 I2 hl.1 ⟨by omega, by omega⟩ hg9 f30 (fun u3 H3 locs3 fs3 I3 L3 hg9 => ?_)
      refine lv_iload hx hb (show decode cL_law 2098 = .ok (.iload 6, 2) from by decide +kernel) (lv_at hl 1 rfl) ?_
      refine lv_icmp_eq (tgt := 2105) hx hb (show decode cL_law 2100 = .ok (.if_icmp .eq 5, 3) from by decide +kernel) (by decide) (fun _ => ?_) (fun h => absurd (by decide) h)
      refine lv_iload hx hb (show decode cL_law 2105 = .ok (.iload 6, 2) from by decide +kernel) (lv_at hl 1 rfl) ?_
      refine lv_if_ne (tgt := 2122) hx hb (show decode cL_law 2107 = .ok (.ifCond .ne 15, 3) from by decide +kernel) (by decide) (fun _ => ?_) (fun h => absurd h (by decide))
      refine lv_goto (tgt := 2357) hx hb (show decode cL_law 2122 = .ok (.goto 235, 3) from by decide +kernel) (by decide) ?_
      refine W.widen (k := cells + 100) (n := slots + 1000) (by omega) (by omega) ?_
      exact k _ _ _ _ _ _ _ _ I3 L3 (lv_sub hl [2, 3, 4, 5, 6, 7] rfl)
    · refine le_x_6_0 hl9 (lw_LA_st hLP) F L I hl.1 ⟨by omega, by omega⟩ a1 hb1 ⟨fx, hwx, f7, f19⟩ (fun u1 H1 locs1 fs1 I1 L1 => ?_)
      obtain ⟨g9, hg9⟩ := I1.hwo
      refine lv_istore (lv' := [(6, .int 1), (0, .ref b), (1, .ref ax), (2, .ref am), (3, .ref ao), (4, .ref ad), (5, .int (nI i))]) hx hb (show decode cL_law 2080 = .ok (.istore 6, 2) from by decide +kernel) hl (by decide) rfl (fun ls hl => ?_)
      have h0 : ls[0]? = some (.val (.ref b)) := lv_at hl 1 rfl
      have h5 : ls[5]? = some (.val (.int (nI i))) := lv_at hl 6 rfl
      refine lv_aload_n hx hb (show decode cL_law 2082 = .ok (.aload_n 2, 1) from by decide +kernel) rfl (lv_at hl 3 rfl) ?_
      refine lw_ld (k := 1) (n := 1) hx hb X L1.hS (by decide) h0 h5 (by decide) (by decide +kernel) ?_
      rw [ea]
      obtain ⟨-, -, em, ex, eo, ed⟩ := I1.hl
      rw [← em]
      obtain ⟨fx1, v1, v2, hwx1, f71, f191, ev1, ev2⟩ := I1.hed
      subst ev1
      subst ev2
      refine le_m_6_0 hl9 (lw_LA_st hLP) F L1 I1 hl.1 ⟨by omega, by omega⟩ a1 hb1 ⟨fx1, hwx1, f71, f191⟩ hg9 (fun u2 b9 H2 locs2 fs2 I2 L2 hg9 f30 => ?_)
      refine lv_istore (lv' := [(7, .int b9), (6, .int 1), (0, .ref b), (1, .ref ax), (2, .ref am), (3, .ref ao), (4, .ref ad), (5, .int (nI i))]) hx hb (show decode cL_law 2092 = .ok (.istore 7, 2) from by decide +kernel) hl (by decide) rfl (fun ls hl => ?_)
      refine lv_aload_n hx hb (show decode cL_law 2094 = .ok (.aload_n 2, 1) from by decide +kernel) rfl (lv_at hl 4 rfl) ?_
      obtain ⟨-, -, em, ex, eo, ed⟩ := I2.hl
      rw [← em]
      refine le_t hl9 (lw_LA_st hLP) F L2 I2 hl.1 ⟨by omega, by omega⟩ hg9 f30 (fun u3 H3 locs3 fs3 I3 L3 hg9 => ?_)
      refine lv_iload hx hb (show decode cL_law 2098 = .ok (.iload 6, 2) from by decide +kernel) (lv_at hl 1 rfl) ?_
      refine lv_icmp_eq (tgt := 2105) hx hb (show decode cL_law 2100 = .ok (.if_icmp .eq 5, 3) from by decide +kernel) (by decide) (fun _ => ?_) (fun h => absurd (by decide) h)
      refine lv_iload hx hb (show decode cL_law 2105 = .ok (.iload 6, 2) from by decide +kernel) (lv_at hl 1 rfl) ?_
      refine lv_if_ne (tgt := 2122) hx hb (show decode cL_law 2107 = .ok (.ifCond .ne 15, 3) from by decide +kernel) (by decide) (fun _ => ?_) (fun h => absurd h (by decide))
      refine lv_goto (tgt := 2357) hx hb (show decode cL_law 2122 = .ok (.goto 235, 3) from by decide +kernel) (by decide) ?_
      refine W.widen (k := cells + 100) (n := slots + 1000) (by omega) (by omega) ?_
      exact k _ _ _ _ _ _ _ _ I3 L3 (lv_sub hl [2, 3, 4, 5, 6, 7] rfl)
  · rcases hz with hb1 | hb1 | hb1 | hb1 | hb1 | hb1 | hb1
    · refine le_x_0_1 hl9 (lw_LA_st hLP) F L I hl.1 ⟨by omega, by omega⟩ a1 hb1 ⟨fx, hwx, f7, f19⟩ (fun u1 H1 locs1 fs1 I1 L1 hg => ?_)
      obtain ⟨g9, hg9, hg0⟩ := hg
      refine lv_istore (lv' := [(6, .int 0), (0, .ref b), (1, .ref ax), (2, .ref am), (3, .ref ao), (4, .ref ad), (5, .int (nI i))]) hx hb (show decode cL_law 2080 = .ok (.istore 6, 2) from by decide +kernel) hl (by decide) rfl (fun ls hl => ?_)
      have h0 : ls[0]? = some (.val (.ref b)) := lv_at hl 1 rfl
      have h5 : ls[5]? = some (.val (.int (nI i))) := lv_at hl 6 rfl
      refine lv_aload_n hx hb (show decode cL_law 2082 = .ok (.aload_n 2, 1) from by decide +kernel) rfl (lv_at hl 3 rfl) ?_
      refine lw_ld (k := 1) (n := 1) hx hb X L1.hS (by decide) h0 h5 (by decide) (by decide +kernel) ?_
      rw [ea]
      obtain ⟨-, -, em, ex, eo, ed⟩ := I1.hl
      rw [← em]
      obtain ⟨fx1, v1, v2, hwx1, f71, f191, ev1, ev2⟩ := I1.hed
      subst ev1
      subst ev2
      refine le_m_0_1 hl9 (lw_LA_st hLP) F L1 I1 hl.1 ⟨by omega, by omega⟩ a1 hb1 ⟨fx1, hwx1, f71, f191⟩ hg9 (fun u2 b9 H2 locs2 fs2 I2 L2 hg9 f30 => ?_)
      refine lv_istore (lv' := [(7, .int 1), (6, .int 0), (0, .ref b), (1, .ref ax), (2, .ref am), (3, .ref ao), (4, .ref ad), (5, .int (nI i))]) hx hb (show decode cL_law 2092 = .ok (.istore 7, 2) from by decide +kernel) hl (by decide) rfl (fun ls hl => ?_)
      refine lv_aload_n hx hb (show decode cL_law 2094 = .ok (.aload_n 2, 1) from by decide +kernel) rfl (lv_at hl 4 rfl) ?_
      obtain ⟨-, -, em, ex, eo, ed⟩ := I2.hl
      rw [← em]
      refine le_t hl9 (lw_LA_st hLP) F L2 I2 hl.1 ⟨by omega, by omega⟩ hg9 f30 (fun u3 H3 locs3 fs3 I3 L3 hg9 => ?_)
      refine lv_iload hx hb (show decode cL_law 2098 = .ok (.iload 6, 2) from by decide +kernel) (lv_at hl 1 rfl) ?_
      refine lv_icmp_eq (tgt := 2105) hx hb (show decode cL_law 2100 = .ok (.if_icmp .eq 5, 3) from by decide +kernel) (by decide) (fun _ => ?_) (fun h => absurd (by decide) h)
      refine lv_iload hx hb (show decode cL_law 2105 = .ok (.iload 6, 2) from by decide +kernel) (lv_at hl 1 rfl) ?_
      refine lv_if_ne (tgt := 2122) hx hb (show decode cL_law 2107 = .ok (.ifCond .ne 15, 3) from by decide +kernel) (by decide) (fun h => absurd rfl h) (fun _ => ?_)
      refine lv_aload_n hx hb (show decode cL_law 2110 = .ok (.aload_n 3, 1) from by decide +kernel) rfl (lv_at hl 5 rfl) ?_
      obtain ⟨-, -, em, ex, eo, ed⟩ := I3.hl
      rw [← eo]
      refine lv_iconst (v := 0) hx hb (show decode cL_law 2111 = .ok (.iconst 0, 1) from by decide +kernel) (by decide) ?_
      refine va_lald hx hb F.hK L3.hP qo 7 hg9 (wr_ty F.hTY) (vp_in_nI (n := 0) (by decide) (by decide)) (show decode cL_law 2112 = .ok (.laload, 1) from by decide +kernel) ?_
      refine lv_iload hx hb (show decode cL_law 2113 = .ok (.iload 7, 2) from by decide +kernel) (lv_at hl 0 rfl) ?_
      refine lv_i2l hx hb (show decode cL_law 2115 = .ok (.i2l, 1) from by decide +kernel) rfl ?_
      refine W.lcmp hx hb (show decode cL_law 2116 = .ok (.lcmp, 1) from by decide +kernel) ?_
      rw [show Int32.toNatClampNeg 0 = 0 from by decide, hg0, show lg_cmp ((1 : Int32).toInt64) ((1 : Int32).toInt64) = 0 from by decide]
      refine lv_if_eq (tgt := 2122) hx hb (show decode cL_law 2117 = .ok (.ifCond .eq 5, 3) from by decide +kernel) (by decide) (fun _ => ?_) (fun h => absurd rfl h)
      refine lv_goto (tgt := 2357) hx hb (show decode cL_law 2122 = .ok (.goto 235, 3) from by decide +kernel) (by decide) ?_
      refine W.widen (k := cells + 100) (n := slots + 1000) (by omega) (by omega) ?_
      exact k _ _ _ _ _ _ _ _ I3 L3 (lv_sub hl [2, 3, 4, 5, 6, 7] rfl)
    · refine le_x_1_1 hl9 (lw_LA_st hLP) F L I hl.1 ⟨by omega, by omega⟩ a1 hb1 ⟨fx, hwx, f7, f19⟩ (fun u1 H1 locs1 fs1 I1 L1 hg => ?_)
      obtain ⟨g9, hg9, hg0⟩ := hg
      refine lv_istore (lv' := [(6, .int 0), (0, .ref b), (1, .ref ax), (2, .ref am), (3, .ref ao), (4, .ref ad), (5, .int (nI i))]) hx hb (show decode cL_law 2080 = .ok (.istore 6, 2) from by decide +kernel) hl (by decide) rfl (fun ls hl => ?_)
      have h0 : ls[0]? = some (.val (.ref b)) := lv_at hl 1 rfl
      have h5 : ls[5]? = some (.val (.int (nI i))) := lv_at hl 6 rfl
      refine lv_aload_n hx hb (show decode cL_law 2082 = .ok (.aload_n 2, 1) from by decide +kernel) rfl (lv_at hl 3 rfl) ?_
      refine lw_ld (k := 1) (n := 1) hx hb X L1.hS (by decide) h0 h5 (by decide) (by decide +kernel) ?_
      rw [ea]
      obtain ⟨-, -, em, ex, eo, ed⟩ := I1.hl
      rw [← em]
      obtain ⟨fx1, v1, v2, hwx1, f71, f191, ev1, ev2⟩ := I1.hed
      subst ev1
      subst ev2
      refine le_m_1_1 hl9 (lw_LA_st hLP) F L1 I1 hl.1 ⟨by omega, by omega⟩ a1 hb1 ⟨fx1, hwx1, f71, f191⟩ hg9 (fun u2 b9 H2 locs2 fs2 I2 L2 hg9 f30 => ?_)
      refine lv_istore (lv' := [(7, .int 1), (6, .int 0), (0, .ref b), (1, .ref ax), (2, .ref am), (3, .ref ao), (4, .ref ad), (5, .int (nI i))]) hx hb (show decode cL_law 2092 = .ok (.istore 7, 2) from by decide +kernel) hl (by decide) rfl (fun ls hl => ?_)
      refine lv_aload_n hx hb (show decode cL_law 2094 = .ok (.aload_n 2, 1) from by decide +kernel) rfl (lv_at hl 4 rfl) ?_
      obtain ⟨-, -, em, ex, eo, ed⟩ := I2.hl
      rw [← em]
      refine le_t hl9 (lw_LA_st hLP) F L2 I2 hl.1 ⟨by omega, by omega⟩ hg9 f30 (fun u3 H3 locs3 fs3 I3 L3 hg9 => ?_)
      refine lv_iload hx hb (show decode cL_law 2098 = .ok (.iload 6, 2) from by decide +kernel) (lv_at hl 1 rfl) ?_
      refine lv_icmp_eq (tgt := 2105) hx hb (show decode cL_law 2100 = .ok (.if_icmp .eq 5, 3) from by decide +kernel) (by decide) (fun _ => ?_) (fun h => absurd (by decide) h)
      refine lv_iload hx hb (show decode cL_law 2105 = .ok (.iload 6, 2) from by decide +kernel) (lv_at hl 1 rfl) ?_
      refine lv_if_ne (tgt := 2122) hx hb (show decode cL_law 2107 = .ok (.ifCond .ne 15, 3) from by decide +kernel) (by decide) (fun h => absurd rfl h) (fun _ => ?_)
      refine lv_aload_n hx hb (show decode cL_law 2110 = .ok (.aload_n 3, 1) from by decide +kernel) rfl (lv_at hl 5 rfl) ?_
      obtain ⟨-, -, em, ex, eo, ed⟩ := I3.hl
      rw [← eo]
      refine lv_iconst (v := 0) hx hb (show decode cL_law 2111 = .ok (.iconst 0, 1) from by decide +kernel) (by decide) ?_
      refine va_lald hx hb F.hK L3.hP qo 7 hg9 (wr_ty F.hTY) (vp_in_nI (n := 0) (by decide) (by decide)) (show decode cL_law 2112 = .ok (.laload, 1) from by decide +kernel) ?_
      refine lv_iload hx hb (show decode cL_law 2113 = .ok (.iload 7, 2) from by decide +kernel) (lv_at hl 0 rfl) ?_
      refine lv_i2l hx hb (show decode cL_law 2115 = .ok (.i2l, 1) from by decide +kernel) rfl ?_
      refine W.lcmp hx hb (show decode cL_law 2116 = .ok (.lcmp, 1) from by decide +kernel) ?_
      rw [show Int32.toNatClampNeg 0 = 0 from by decide, hg0, show lg_cmp ((1 : Int32).toInt64) ((1 : Int32).toInt64) = 0 from by decide]
      refine lv_if_eq (tgt := 2122) hx hb (show decode cL_law 2117 = .ok (.ifCond .eq 5, 3) from by decide +kernel) (by decide) (fun _ => ?_) (fun h => absurd rfl h)
      refine lv_goto (tgt := 2357) hx hb (show decode cL_law 2122 = .ok (.goto 235, 3) from by decide +kernel) (by decide) ?_
      refine W.widen (k := cells + 100) (n := slots + 1000) (by omega) (by omega) ?_
      exact k _ _ _ _ _ _ _ _ I3 L3 (lv_sub hl [2, 3, 4, 5, 6, 7] rfl)
    · refine le_x_2_1 hl9 (lw_LA_st hLP) F L I hl.1 ⟨by omega, by omega⟩ a1 hb1 ⟨fx, hwx, f7, f19⟩ (fun u1 H1 locs1 fs1 I1 L1 hg => ?_)
      obtain ⟨g9, hg9, hg0⟩ := hg
      refine lv_istore (lv' := [(6, .int 0), (0, .ref b), (1, .ref ax), (2, .ref am), (3, .ref ao), (4, .ref ad), (5, .int (nI i))]) hx hb (show decode cL_law 2080 = .ok (.istore 6, 2) from by decide +kernel) hl (by decide) rfl (fun ls hl => ?_)
      have h0 : ls[0]? = some (.val (.ref b)) := lv_at hl 1 rfl
      have h5 : ls[5]? = some (.val (.int (nI i))) := lv_at hl 6 rfl
      refine lv_aload_n hx hb (show decode cL_law 2082 = .ok (.aload_n 2, 1) from by decide +kernel) rfl (lv_at hl 3 rfl) ?_
      refine lw_ld (k := 1) (n := 1) hx hb X L1.hS (by decide) h0 h5 (by decide) (by decide +kernel) ?_
      rw [ea]
      obtain ⟨-, -, em, ex, eo, ed⟩ := I1.hl
      rw [← em]
      obtain ⟨fx1, v1, v2, hwx1, f71, f191, ev1, ev2⟩ := I1.hed
      subst ev1
      subst ev2
      refine le_m_2_1 hl9 (lw_LA_st hLP) F L1 I1 hl.1 ⟨by omega, by omega⟩ a1 hb1 ⟨fx1, hwx1, f71, f191⟩ hg9 (fun u2 b9 H2 locs2 fs2 I2 L2 hg9 f30 => ?_)
      refine lv_istore (lv' := [(7, .int 1), (6, .int 0), (0, .ref b), (1, .ref ax), (2, .ref am), (3, .ref ao), (4, .ref ad), (5, .int (nI i))]) hx hb (show decode cL_law 2092 = .ok (.istore 7, 2) from by decide +kernel) hl (by decide) rfl (fun ls hl => ?_)
      refine lv_aload_n hx hb (show decode cL_law 2094 = .ok (.aload_n 2, 1) from by decide +kernel) rfl (lv_at hl 4 rfl) ?_
      obtain ⟨-, -, em, ex, eo, ed⟩ := I2.hl
      rw [← em]
      refine le_t hl9 (lw_LA_st hLP) F L2 I2 hl.1 ⟨by omega, by omega⟩ hg9 f30 (fun u3 H3 locs3 fs3 I3 L3 hg9 => ?_)
      refine lv_iload hx hb (show decode cL_law 2098 = .ok (.iload 6, 2) from by decide +kernel) (lv_at hl 1 rfl) ?_
      refine lv_icmp_eq (tgt := 2105) hx hb (show decode cL_law 2100 = .ok (.if_icmp .eq 5, 3) from by decide +kernel) (by decide) (fun _ => ?_) (fun h => absurd (by decide) h)
      refine lv_iload hx hb (show decode cL_law 2105 = .ok (.iload 6, 2) from by decide +kernel) (lv_at hl 1 rfl) ?_
      refine lv_if_ne (tgt := 2122) hx hb (show decode cL_law 2107 = .ok (.ifCond .ne 15, 3) from by decide +kernel) (by decide) (fun h => absurd rfl h) (fun _ => ?_)
      refine lv_aload_n hx hb (show decode cL_law 2110 = .ok (.aload_n 3, 1) from by decide +kernel) rfl (lv_at hl 5 rfl) ?_
      obtain ⟨-, -, em, ex, eo, ed⟩ := I3.hl
      rw [← eo]
      refine lv_iconst (v := 0) hx hb (show decode cL_law 2111 = .ok (.iconst 0, 1) from by decide +kernel) (by decide) ?_
      refine va_lald hx hb F.hK L3.hP qo 7 hg9 (wr_ty F.hTY) (vp_in_nI (n := 0) (by decide) (by decide)) (show decode cL_law 2112 = .ok (.laload, 1) from by decide +kernel) ?_
      refine lv_iload hx hb (show decode cL_law 2113 = .ok (.iload 7, 2) from by decide +kernel) (lv_at hl 0 rfl) ?_
      refine lv_i2l hx hb (show decode cL_law 2115 = .ok (.i2l, 1) from by decide +kernel) rfl ?_
      refine W.lcmp hx hb (show decode cL_law 2116 = .ok (.lcmp, 1) from by decide +kernel) ?_
      rw [show Int32.toNatClampNeg 0 = 0 from by decide, hg0, show lg_cmp ((1 : Int32).toInt64) ((1 : Int32).toInt64) = 0 from by decide]
      refine lv_if_eq (tgt := 2122) hx hb (show decode cL_law 2117 = .ok (.ifCond .eq 5, 3) from by decide +kernel) (by decide) (fun _ => ?_) (fun h => absurd rfl h)
      refine lv_goto (tgt := 2357) hx hb (show decode cL_law 2122 = .ok (.goto 235, 3) from by decide +kernel) (by decide) ?_
      refine W.widen (k := cells + 100) (n := slots + 1000) (by omega) (by omega) ?_
      exact k _ _ _ _ _ _ _ _ I3 L3 (lv_sub hl [2, 3, 4, 5, 6, 7] rfl)
    · refine le_x_3_1 hl9 (lw_LA_st hLP) F L I hl.1 ⟨by omega, by omega⟩ a1 hb1 ⟨fx, hwx, f7, f19⟩ (fun u1 H1 locs1 fs1 I1 L1 hg => ?_)
      obtain ⟨g9, hg9, hg0⟩ := hg
      refine lv_istore (lv' := [(6, .int 0), (0, .ref b), (1, .ref ax), (2, .ref am), (3, .ref ao), (4, .ref ad), (5, .int (nI i))]) hx hb (show decode cL_law 2080 = .ok (.istore 6, 2) from by decide +kernel) hl (by decide) rfl (fun ls hl => ?_)
      have h0 : ls[0]? = some (.val (.ref b)) := lv_at hl 1 rfl
      have h5 : ls[5]? = some (.val (.int (nI i))) := lv_at hl 6 rfl
      refine lv_aload_n hx hb (show decode cL_law 2082 = .ok (.aload_n 2, 1) from by decide +kernel) rfl (lv_at hl 3 rfl) ?_
      refine lw_ld (k := 1) (n := 1) hx hb X L1.hS (by decide) h0 h5 (by decide) (by decide +kernel) ?_
      rw [ea]
      obtain ⟨-, -, em, ex, eo, ed⟩ := I1.hl
      rw [← em]
      obtain ⟨fx1, v1, v2, hwx1, f71, f191, ev1, ev2⟩ := I1.hed
      subst ev1
      subst ev2
      refine le_m_3_1 hl9 (lw_LA_st hLP) F L1 I1 hl.1 ⟨by omega, by omega⟩ a1 hb1 ⟨fx1, hwx1, f71, f191⟩ hg9 (fun u2 b9 H2 locs2 fs2 I2 L2 hg9 f30 => ?_)
      refine lv_istore (lv' := [(7, .int 1), (6, .int 0), (0, .ref b), (1, .ref ax), (2, .ref am), (3, .ref ao), (4, .ref ad), (5, .int (nI i))]) hx hb (show decode cL_law 2092 = .ok (.istore 7, 2) from by decide +kernel) hl (by decide) rfl (fun ls hl => ?_)
      refine lv_aload_n hx hb (show decode cL_law 2094 = .ok (.aload_n 2, 1) from by decide +kernel) rfl (lv_at hl 4 rfl) ?_
      obtain ⟨-, -, em, ex, eo, ed⟩ := I2.hl
      rw [← em]
      refine le_t hl9 (lw_LA_st hLP) F L2 I2 hl.1 ⟨by omega, by omega⟩ hg9 f30 (fun u3 H3 locs3 fs3 I3 L3 hg9 => ?_)
      refine lv_iload hx hb (show decode cL_law 2098 = .ok (.iload 6, 2) from by decide +kernel) (lv_at hl 1 rfl) ?_
      refine lv_icmp_eq (tgt := 2105) hx hb (show decode cL_law 2100 = .ok (.if_icmp .eq 5, 3) from by decide +kernel) (by decide) (fun _ => ?_) (fun h => absurd (by decide) h)
      refine lv_iload hx hb (show decode cL_law 2105 = .ok (.iload 6, 2) from by decide +kernel) (lv_at hl 1 rfl) ?_
      refine lv_if_ne (tgt := 2122) hx hb (show decode cL_law 2107 = .ok (.ifCond .ne 15, 3) from by decide +kernel) (by decide) (fun h => absurd rfl h) (fun _ => ?_)
      refine lv_aload_n hx hb (show decode cL_law 2110 = .ok (.aload_n 3, 1) from by decide +kernel) rfl (lv_at hl 5 rfl) ?_
      obtain ⟨-, -, em, ex, eo, ed⟩ := I3.hl
      rw [← eo]
      refine lv_iconst (v := 0) hx hb (show decode cL_law 2111 = .ok (.iconst 0, 1) from by decide +kernel) (by decide) ?_
      refine va_lald hx hb F.hK L3.hP qo 7 hg9 (wr_ty F.hTY) (vp_in_nI (n := 0) (by decide) (by decide)) (show decode cL_law 2112 = .ok (.laload, 1) from by decide +kernel) ?_
      refine lv_iload hx hb (show decode cL_law 2113 = .ok (.iload 7, 2) from by decide +kernel) (lv_at hl 0 rfl) ?_
      refine lv_i2l hx hb (show decode cL_law 2115 = .ok (.i2l, 1) from by decide +kernel) rfl ?_
      refine W.lcmp hx hb (show decode cL_law 2116 = .ok (.lcmp, 1) from by decide +kernel) ?_
      rw [show Int32.toNatClampNeg 0 = 0 from by decide, hg0, show lg_cmp ((1 : Int32).toInt64) ((1 : Int32).toInt64) = 0 from by decide]
      refine lv_if_eq (tgt := 2122) hx hb (show decode cL_law 2117 = .ok (.ifCond .eq 5, 3) from by decide +kernel) (by decide) (fun _ => ?_) (fun h => absurd rfl h)
      refine lv_goto (tgt := 2357) hx hb (show decode cL_law 2122 = .ok (.goto 235, 3) from by decide +kernel) (by decide) ?_
      refine W.widen (k := cells + 100) (n := slots + 1000) (by omega) (by omega) ?_
      exact k _ _ _ _ _ _ _ _ I3 L3 (lv_sub hl [2, 3, 4, 5, 6, 7] rfl)
    · refine le_x_4_1 hl9 (lw_LA_st hLP) F L I hl.1 ⟨by omega, by omega⟩ a1 hb1 ⟨fx, hwx, f7, f19⟩ (fun u1 H1 locs1 fs1 I1 L1 hg => ?_)
      obtain ⟨g9, hg9, hg0⟩ := hg
      refine lv_istore (lv' := [(6, .int 0), (0, .ref b), (1, .ref ax), (2, .ref am), (3, .ref ao), (4, .ref ad), (5, .int (nI i))]) hx hb (show decode cL_law 2080 = .ok (.istore 6, 2) from by decide +kernel) hl (by decide) rfl (fun ls hl => ?_)
      have h0 : ls[0]? = some (.val (.ref b)) := lv_at hl 1 rfl
      have h5 : ls[5]? = some (.val (.int (nI i))) := lv_at hl 6 rfl
      refine lv_aload_n hx hb (show decode cL_law 2082 = .ok (.aload_n 2, 1) from by decide +kernel) rfl (lv_at hl 3 rfl) ?_
      refine lw_ld (k := 1) (n := 1) hx hb X L1.hS (by decide) h0 h5 (by decide) (by decide +kernel) ?_
      rw [ea]
      obtain ⟨-, -, em, ex, eo, ed⟩ := I1.hl
      rw [← em]
      obtain ⟨fx1, v1, v2, hwx1, f71, f191, ev1, ev2⟩ := I1.hed
      subst ev1
      subst ev2
      refine le_m_4_1 hl9 (lw_LA_st hLP) F L1 I1 hl.1 ⟨by omega, by omega⟩ a1 hb1 ⟨fx1, hwx1, f71, f191⟩ hg9 (fun u2 b9 H2 locs2 fs2 I2 L2 hg9 f30 => ?_)
      refine lv_istore (lv' := [(7, .int 1), (6, .int 0), (0, .ref b), (1, .ref ax), (2, .ref am), (3, .ref ao), (4, .ref ad), (5, .int (nI i))]) hx hb (show decode cL_law 2092 = .ok (.istore 7, 2) from by decide +kernel) hl (by decide) rfl (fun ls hl => ?_)
      refine lv_aload_n hx hb (show decode cL_law 2094 = .ok (.aload_n 2, 1) from by decide +kernel) rfl (lv_at hl 4 rfl) ?_
      obtain ⟨-, -, em, ex, eo, ed⟩ := I2.hl
      rw [← em]
      refine le_t hl9 (lw_LA_st hLP) F L2 I2 hl.1 ⟨by omega, by omega⟩ hg9 f30 (fun u3 H3 locs3 fs3 I3 L3 hg9 => ?_)
      refine lv_iload hx hb (show decode cL_law 2098 = .ok (.iload 6, 2) from by decide +kernel) (lv_at hl 1 rfl) ?_
      refine lv_icmp_eq (tgt := 2105) hx hb (show decode cL_law 2100 = .ok (.if_icmp .eq 5, 3) from by decide +kernel) (by decide) (fun _ => ?_) (fun h => absurd (by decide) h)
      refine lv_iload hx hb (show decode cL_law 2105 = .ok (.iload 6, 2) from by decide +kernel) (lv_at hl 1 rfl) ?_
      refine lv_if_ne (tgt := 2122) hx hb (show decode cL_law 2107 = .ok (.ifCond .ne 15, 3) from by decide +kernel) (by decide) (fun h => absurd rfl h) (fun _ => ?_)
      refine lv_aload_n hx hb (show decode cL_law 2110 = .ok (.aload_n 3, 1) from by decide +kernel) rfl (lv_at hl 5 rfl) ?_
      obtain ⟨-, -, em, ex, eo, ed⟩ := I3.hl
      rw [← eo]
      refine lv_iconst (v := 0) hx hb (show decode cL_law 2111 = .ok (.iconst 0, 1) from by decide +kernel) (by decide) ?_
      refine va_lald hx hb F.hK L3.hP qo 7 hg9 (wr_ty F.hTY) (vp_in_nI (n := 0) (by decide) (by decide)) (show decode cL_law 2112 = .ok (.laload, 1) from by decide +kernel) ?_
      refine lv_iload hx hb (show decode cL_law 2113 = .ok (.iload 7, 2) from by decide +kernel) (lv_at hl 0 rfl) ?_
      refine lv_i2l hx hb (show decode cL_law 2115 = .ok (.i2l, 1) from by decide +kernel) rfl ?_
      refine W.lcmp hx hb (show decode cL_law 2116 = .ok (.lcmp, 1) from by decide +kernel) ?_
      rw [show Int32.toNatClampNeg 0 = 0 from by decide, hg0, show lg_cmp ((1 : Int32).toInt64) ((1 : Int32).toInt64) = 0 from by decide]
      refine lv_if_eq (tgt := 2122) hx hb (show decode cL_law 2117 = .ok (.ifCond .eq 5, 3) from by decide +kernel) (by decide) (fun _ => ?_) (fun h => absurd rfl h)
      refine lv_goto (tgt := 2357) hx hb (show decode cL_law 2122 = .ok (.goto 235, 3) from by decide +kernel) (by decide) ?_
      refine W.widen (k := cells + 100) (n := slots + 1000) (by omega) (by omega) ?_
      exact k _ _ _ _ _ _ _ _ I3 L3 (lv_sub hl [2, 3, 4, 5, 6, 7] rfl)
    · refine le_x_5_1 hl9 (lw_LA_st hLP) F L I hl.1 ⟨by omega, by omega⟩ a1 hb1 ⟨fx, hwx, f7, f19⟩ (fun u1 H1 locs1 fs1 I1 L1 => ?_)
      obtain ⟨g9, hg9⟩ := I1.hwo
      refine lv_istore (lv' := [(6, .int 1), (0, .ref b), (1, .ref ax), (2, .ref am), (3, .ref ao), (4, .ref ad), (5, .int (nI i))]) hx hb (show decode cL_law 2080 = .ok (.istore 6, 2) from by decide +kernel) hl (by decide) rfl (fun ls hl => ?_)
      have h0 : ls[0]? = some (.val (.ref b)) := lv_at hl 1 rfl
      have h5 : ls[5]? = some (.val (.int (nI i))) := lv_at hl 6 rfl
      refine lv_aload_n hx hb (show decode cL_law 2082 = .ok (.aload_n 2, 1) from by decide +kernel) rfl (lv_at hl 3 rfl) ?_
      refine lw_ld (k := 1) (n := 1) hx hb X L1.hS (by decide) h0 h5 (by decide) (by decide +kernel) ?_
      rw [ea]
      obtain ⟨-, -, em, ex, eo, ed⟩ := I1.hl
      rw [← em]
      obtain ⟨fx1, v1, v2, hwx1, f71, f191, ev1, ev2⟩ := I1.hed
      subst ev1
      subst ev2
      refine le_m_5_1 hl9 (lw_LA_st hLP) F L1 I1 hl.1 ⟨by omega, by omega⟩ a1 hb1 ⟨fx1, hwx1, f71, f191⟩ hg9 (fun u2 b9 H2 locs2 fs2 I2 L2 hg9 f30 => ?_)
      refine lv_istore (lv' := [(7, .int b9), (6, .int 1), (0, .ref b), (1, .ref ax), (2, .ref am), (3, .ref ao), (4, .ref ad), (5, .int (nI i))]) hx hb (show decode cL_law 2092 = .ok (.istore 7, 2) from by decide +kernel) hl (by decide) rfl (fun ls hl => ?_)
      refine lv_aload_n hx hb (show decode cL_law 2094 = .ok (.aload_n 2, 1) from by decide +kernel) rfl (lv_at hl 4 rfl) ?_
      obtain ⟨-, -, em, ex, eo, ed⟩ := I2.hl
      rw [← em]
      refine le_t hl9 (lw_LA_st hLP) F L2 I2 hl.1 ⟨by omega, by omega⟩ hg9 f30 (fun u3 H3 locs3 fs3 I3 L3 hg9 => ?_)
      refine lv_iload hx hb (show decode cL_law 2098 = .ok (.iload 6, 2) from by decide +kernel) (lv_at hl 1 rfl) ?_
      refine lv_icmp_eq (tgt := 2105) hx hb (show decode cL_law 2100 = .ok (.if_icmp .eq 5, 3) from by decide +kernel) (by decide) (fun _ => ?_) (fun h => absurd (by decide) h)
      refine lv_iload hx hb (show decode cL_law 2105 = .ok (.iload 6, 2) from by decide +kernel) (lv_at hl 1 rfl) ?_
      refine lv_if_ne (tgt := 2122) hx hb (show decode cL_law 2107 = .ok (.ifCond .ne 15, 3) from by decide +kernel) (by decide) (fun _ => ?_) (fun h => absurd h (by decide))
      refine lv_goto (tgt := 2357) hx hb (show decode cL_law 2122 = .ok (.goto 235, 3) from by decide +kernel) (by decide) ?_
      refine W.widen (k := cells + 100) (n := slots + 1000) (by omega) (by omega) ?_
      exact k _ _ _ _ _ _ _ _ I3 L3 (lv_sub hl [2, 3, 4, 5, 6, 7] rfl)
    · refine le_x_6_1 hl9 (lw_LA_st hLP) F L I hl.1 ⟨by omega, by omega⟩ a1 hb1 ⟨fx, hwx, f7, f19⟩ (fun u1 H1 locs1 fs1 I1 L1 => ?_)
      obtain ⟨g9, hg9⟩ := I1.hwo
      refine lv_istore (lv' := [(6, .int 1), (0, .ref b), (1, .ref ax), (2, .ref am), (3, .ref ao), (4, .ref ad), (5, .int (nI i))]) hx hb (show decode cL_law 2080 = .ok (.istore 6, 2) from by decide +kernel) hl (by decide) rfl (fun ls hl => ?_)
      have h0 : ls[0]? = some (.val (.ref b)) := lv_at hl 1 rfl
      have h5 : ls[5]? = some (.val (.int (nI i))) := lv_at hl 6 rfl
      refine lv_aload_n hx hb (show decode cL_law 2082 = .ok (.aload_n 2, 1) from by decide +kernel) rfl (lv_at hl 3 rfl) ?_
      refine lw_ld (k := 1) (n := 1) hx hb X L1.hS (by decide) h0 h5 (by decide) (by decide +kernel) ?_
      rw [ea]
      obtain ⟨-, -, em, ex, eo, ed⟩ := I1.hl
      rw [← em]
      obtain ⟨fx1, v1, v2, hwx1, f71, f191, ev1, ev2⟩ := I1.hed
      subst ev1
      subst ev2
      refine le_m_6_1 hl9 (lw_LA_st hLP) F L1 I1 hl.1 ⟨by omega, by omega⟩ a1 hb1 ⟨fx1, hwx1, f71, f191⟩ hg9 (fun u2 b9 H2 locs2 fs2 I2 L2 hg9 f30 => ?_)
      refine lv_istore (lv' := [(7, .int b9), (6, .int 1), (0, .ref b), (1, .ref ax), (2, .ref am), (3, .ref ao), (4, .ref ad), (5, .int (nI i))]) hx hb (show decode cL_law 2092 = .ok (.istore 7, 2) from by decide +kernel) hl (by decide) rfl (fun ls hl => ?_)
      refine lv_aload_n hx hb (show decode cL_law 2094 = .ok (.aload_n 2, 1) from by decide +kernel) rfl (lv_at hl 4 rfl) ?_
      obtain ⟨-, -, em, ex, eo, ed⟩ := I2.hl
      rw [← em]
      refine le_t hl9 (lw_LA_st hLP) F L2 I2 hl.1 ⟨by omega, by omega⟩ hg9 f30 (fun u3 H3 locs3 fs3 I3 L3 hg9 => ?_)
      refine lv_iload hx hb (show decode cL_law 2098 = .ok (.iload 6, 2) from by decide +kernel) (lv_at hl 1 rfl) ?_
      refine lv_icmp_eq (tgt := 2105) hx hb (show decode cL_law 2100 = .ok (.if_icmp .eq 5, 3) from by decide +kernel) (by decide) (fun _ => ?_) (fun h => absurd (by decide) h)
      refine lv_iload hx hb (show decode cL_law 2105 = .ok (.iload 6, 2) from by decide +kernel) (lv_at hl 1 rfl) ?_
      refine lv_if_ne (tgt := 2122) hx hb (show decode cL_law 2107 = .ok (.ifCond .ne 15, 3) from by decide +kernel) (by decide) (fun _ => ?_) (fun h => absurd h (by decide))
      refine lv_goto (tgt := 2357) hx hb (show decode cL_law 2122 = .ok (.goto 235, 3) from by decide +kernel) (by decide) ?_
      refine W.widen (k := cells + 100) (n := slots + 1000) (by omega) (by omega) ?_
      exact k _ _ _ _ _ _ _ _ I3 L3 (lv_sub hl [2, 3, 4, 5, 6, 7] rfl)
  · rcases hz with hb1 | hb1 | hb1 | hb1 | hb1 | hb1 | hb1
    · refine le_x_0_2 hl9 (lw_LA_st hLP) F L I hl.1 ⟨by omega, by omega⟩ a1 hb1 ⟨fx, hwx, f7, f19⟩ (fun u1 H1 locs1 fs1 I1 L1 hg => ?_)
      obtain ⟨g9, hg9, hg0⟩ := hg
      refine lv_istore (lv' := [(6, .int 0), (0, .ref b), (1, .ref ax), (2, .ref am), (3, .ref ao), (4, .ref ad), (5, .int (nI i))]) hx hb (show decode cL_law 2080 = .ok (.istore 6, 2) from by decide +kernel) hl (by decide) rfl (fun ls hl => ?_)
      have h0 : ls[0]? = some (.val (.ref b)) := lv_at hl 1 rfl
      have h5 : ls[5]? = some (.val (.int (nI i))) := lv_at hl 6 rfl
      refine lv_aload_n hx hb (show decode cL_law 2082 = .ok (.aload_n 2, 1) from by decide +kernel) rfl (lv_at hl 3 rfl) ?_
      refine lw_ld (k := 1) (n := 1) hx hb X L1.hS (by decide) h0 h5 (by decide) (by decide +kernel) ?_
      rw [ea]
      obtain ⟨-, -, em, ex, eo, ed⟩ := I1.hl
      rw [← em]
      obtain ⟨fx1, v1, v2, hwx1, f71, f191, ev1, ev2⟩ := I1.hed
      subst ev1
      subst ev2
      refine le_m_0_2 hl9 (lw_LA_st hLP) F L1 I1 hl.1 ⟨by omega, by omega⟩ a1 hb1 ⟨fx1, hwx1, f71, f191⟩ hg9 (fun u2 b9 H2 locs2 fs2 I2 L2 hg9 f30 => ?_)
      refine lv_istore (lv' := [(7, .int 2), (6, .int 0), (0, .ref b), (1, .ref ax), (2, .ref am), (3, .ref ao), (4, .ref ad), (5, .int (nI i))]) hx hb (show decode cL_law 2092 = .ok (.istore 7, 2) from by decide +kernel) hl (by decide) rfl (fun ls hl => ?_)
      refine lv_aload_n hx hb (show decode cL_law 2094 = .ok (.aload_n 2, 1) from by decide +kernel) rfl (lv_at hl 4 rfl) ?_
      obtain ⟨-, -, em, ex, eo, ed⟩ := I2.hl
      rw [← em]
      refine le_t hl9 (lw_LA_st hLP) F L2 I2 hl.1 ⟨by omega, by omega⟩ hg9 f30 (fun u3 H3 locs3 fs3 I3 L3 hg9 => ?_)
      refine lv_iload hx hb (show decode cL_law 2098 = .ok (.iload 6, 2) from by decide +kernel) (lv_at hl 1 rfl) ?_
      refine lv_icmp_eq (tgt := 2105) hx hb (show decode cL_law 2100 = .ok (.if_icmp .eq 5, 3) from by decide +kernel) (by decide) (fun _ => ?_) (fun h => absurd (by decide) h)
      refine lv_iload hx hb (show decode cL_law 2105 = .ok (.iload 6, 2) from by decide +kernel) (lv_at hl 1 rfl) ?_
      refine lv_if_ne (tgt := 2122) hx hb (show decode cL_law 2107 = .ok (.ifCond .ne 15, 3) from by decide +kernel) (by decide) (fun h => absurd rfl h) (fun _ => ?_)
      refine lv_aload_n hx hb (show decode cL_law 2110 = .ok (.aload_n 3, 1) from by decide +kernel) rfl (lv_at hl 5 rfl) ?_
      obtain ⟨-, -, em, ex, eo, ed⟩ := I3.hl
      rw [← eo]
      refine lv_iconst (v := 0) hx hb (show decode cL_law 2111 = .ok (.iconst 0, 1) from by decide +kernel) (by decide) ?_
      refine va_lald hx hb F.hK L3.hP qo 7 hg9 (wr_ty F.hTY) (vp_in_nI (n := 0) (by decide) (by decide)) (show decode cL_law 2112 = .ok (.laload, 1) from by decide +kernel) ?_
      refine lv_iload hx hb (show decode cL_law 2113 = .ok (.iload 7, 2) from by decide +kernel) (lv_at hl 0 rfl) ?_
      refine lv_i2l hx hb (show decode cL_law 2115 = .ok (.i2l, 1) from by decide +kernel) rfl ?_
      refine W.lcmp hx hb (show decode cL_law 2116 = .ok (.lcmp, 1) from by decide +kernel) ?_
      rw [show Int32.toNatClampNeg 0 = 0 from by decide, hg0, show lg_cmp ((2 : Int32).toInt64) ((2 : Int32).toInt64) = 0 from by decide]
      refine lv_if_eq (tgt := 2122) hx hb (show decode cL_law 2117 = .ok (.ifCond .eq 5, 3) from by decide +kernel) (by decide) (fun _ => ?_) (fun h => absurd rfl h)
      refine lv_goto (tgt := 2357) hx hb (show decode cL_law 2122 = .ok (.goto 235, 3) from by decide +kernel) (by decide) ?_
      refine W.widen (k := cells + 100) (n := slots + 1000) (by omega) (by omega) ?_
      exact k _ _ _ _ _ _ _ _ I3 L3 (lv_sub hl [2, 3, 4, 5, 6, 7] rfl)
    · refine le_x_1_2 hl9 (lw_LA_st hLP) F L I hl.1 ⟨by omega, by omega⟩ a1 hb1 ⟨fx, hwx, f7, f19⟩ (fun u1 H1 locs1 fs1 I1 L1 hg => ?_)
      obtain ⟨g9, hg9, hg0⟩ := hg
      refine lv_istore (lv' := [(6, .int 0), (0, .ref b), (1, .ref ax), (2, .ref am), (3, .ref ao), (4, .ref ad), (5, .int (nI i))]) hx hb (show decode cL_law 2080 = .ok (.istore 6, 2) from by decide +kernel) hl (by decide) rfl (fun ls hl => ?_)
      have h0 : ls[0]? = some (.val (.ref b)) := lv_at hl 1 rfl
      have h5 : ls[5]? = some (.val (.int (nI i))) := lv_at hl 6 rfl
      refine lv_aload_n hx hb (show decode cL_law 2082 = .ok (.aload_n 2, 1) from by decide +kernel) rfl (lv_at hl 3 rfl) ?_
      refine lw_ld (k := 1) (n := 1) hx hb X L1.hS (by decide) h0 h5 (by decide) (by decide +kernel) ?_
      rw [ea]
      obtain ⟨-, -, em, ex, eo, ed⟩ := I1.hl
      rw [← em]
      obtain ⟨fx1, v1, v2, hwx1, f71, f191, ev1, ev2⟩ := I1.hed
      subst ev1
      subst ev2
      refine le_m_1_2 hl9 (lw_LA_st hLP) F L1 I1 hl.1 ⟨by omega, by omega⟩ a1 hb1 ⟨fx1, hwx1, f71, f191⟩ hg9 (fun u2 b9 H2 locs2 fs2 I2 L2 hg9 f30 => ?_)
      refine lv_istore (lv' := [(7, .int 2), (6, .int 0), (0, .ref b), (1, .ref ax), (2, .ref am), (3, .ref ao), (4, .ref ad), (5, .int (nI i))]) hx hb (show decode cL_law 2092 = .ok (.istore 7, 2) from by decide +kernel) hl (by decide) rfl (fun ls hl => ?_)
      refine lv_aload_n hx hb (show decode cL_law 2094 = .ok (.aload_n 2, 1) from by decide +kernel) rfl (lv_at hl 4 rfl) ?_
      obtain ⟨-, -, em, ex, eo, ed⟩ := I2.hl
      rw [← em]
      refine le_t hl9 (lw_LA_st hLP) F L2 I2 hl.1 ⟨by omega, by omega⟩ hg9 f30 (fun u3 H3 locs3 fs3 I3 L3 hg9 => ?_)
      refine lv_iload hx hb (show decode cL_law 2098 = .ok (.iload 6, 2) from by decide +kernel) (lv_at hl 1 rfl) ?_
      refine lv_icmp_eq (tgt := 2105) hx hb (show decode cL_law 2100 = .ok (.if_icmp .eq 5, 3) from by decide +kernel) (by decide) (fun _ => ?_) (fun h => absurd (by decide) h)
      refine lv_iload hx hb (show decode cL_law 2105 = .ok (.iload 6, 2) from by decide +kernel) (lv_at hl 1 rfl) ?_
      refine lv_if_ne (tgt := 2122) hx hb (show decode cL_law 2107 = .ok (.ifCond .ne 15, 3) from by decide +kernel) (by decide) (fun h => absurd rfl h) (fun _ => ?_)
      refine lv_aload_n hx hb (show decode cL_law 2110 = .ok (.aload_n 3, 1) from by decide +kernel) rfl (lv_at hl 5 rfl) ?_
      obtain ⟨-, -, em, ex, eo, ed⟩ := I3.hl
      rw [← eo]
      refine lv_iconst (v := 0) hx hb (show decode cL_law 2111 = .ok (.iconst 0, 1) from by decide +kernel) (by decide) ?_
      refine va_lald hx hb F.hK L3.hP qo 7 hg9 (wr_ty F.hTY) (vp_in_nI (n := 0) (by decide) (by decide)) (show decode cL_law 2112 = .ok (.laload, 1) from by decide +kernel) ?_
      refine lv_iload hx hb (show decode cL_law 2113 = .ok (.iload 7, 2) from by decide +kernel) (lv_at hl 0 rfl) ?_
      refine lv_i2l hx hb (show decode cL_law 2115 = .ok (.i2l, 1) from by decide +kernel) rfl ?_
      refine W.lcmp hx hb (show decode cL_law 2116 = .ok (.lcmp, 1) from by decide +kernel) ?_
      rw [show Int32.toNatClampNeg 0 = 0 from by decide, hg0, show lg_cmp ((2 : Int32).toInt64) ((2 : Int32).toInt64) = 0 from by decide]
      refine lv_if_eq (tgt := 2122) hx hb (show decode cL_law 2117 = .ok (.ifCond .eq 5, 3) from by decide +kernel) (by decide) (fun _ => ?_) (fun h => absurd rfl h)
      refine lv_goto (tgt := 2357) hx hb (show decode cL_law 2122 = .ok (.goto 235, 3) from by decide +kernel) (by decide) ?_
      refine W.widen (k := cells + 100) (n := slots + 1000) (by omega) (by omega) ?_
      exact k _ _ _ _ _ _ _ _ I3 L3 (lv_sub hl [2, 3, 4, 5, 6, 7] rfl)
    · refine le_x_2_2 hl9 (lw_LA_st hLP) F L I hl.1 ⟨by omega, by omega⟩ a1 hb1 ⟨fx, hwx, f7, f19⟩ (fun u1 H1 locs1 fs1 I1 L1 hg => ?_)
      obtain ⟨g9, hg9, hg0⟩ := hg
      refine lv_istore (lv' := [(6, .int 0), (0, .ref b), (1, .ref ax), (2, .ref am), (3, .ref ao), (4, .ref ad), (5, .int (nI i))]) hx hb (show decode cL_law 2080 = .ok (.istore 6, 2) from by decide +kernel) hl (by decide) rfl (fun ls hl => ?_)
      have h0 : ls[0]? = some (.val (.ref b)) := lv_at hl 1 rfl
      have h5 : ls[5]? = some (.val (.int (nI i))) := lv_at hl 6 rfl
      refine lv_aload_n hx hb (show decode cL_law 2082 = .ok (.aload_n 2, 1) from by decide +kernel) rfl (lv_at hl 3 rfl) ?_
      refine lw_ld (k := 1) (n := 1) hx hb X L1.hS (by decide) h0 h5 (by decide) (by decide +kernel) ?_
      rw [ea]
      obtain ⟨-, -, em, ex, eo, ed⟩ := I1.hl
      rw [← em]
      obtain ⟨fx1, v1, v2, hwx1, f71, f191, ev1, ev2⟩ := I1.hed
      subst ev1
      subst ev2
      refine le_m_2_2 hl9 (lw_LA_st hLP) F L1 I1 hl.1 ⟨by omega, by omega⟩ a1 hb1 ⟨fx1, hwx1, f71, f191⟩ hg9 (fun u2 b9 H2 locs2 fs2 I2 L2 hg9 f30 => ?_)
      refine lv_istore (lv' := [(7, .int 2), (6, .int 0), (0, .ref b), (1, .ref ax), (2, .ref am), (3, .ref ao), (4, .ref ad), (5, .int (nI i))]) hx hb (show decode cL_law 2092 = .ok (.istore 7, 2) from by decide +kernel) hl (by decide) rfl (fun ls hl => ?_)
      refine lv_aload_n hx hb (show decode cL_law 2094 = .ok (.aload_n 2, 1) from by decide +kernel) rfl (lv_at hl 4 rfl) ?_
      obtain ⟨-, -, em, ex, eo, ed⟩ := I2.hl
      rw [← em]
      refine le_t hl9 (lw_LA_st hLP) F L2 I2 hl.1 ⟨by omega, by omega⟩ hg9 f30 (fun u3 H3 locs3 fs3 I3 L3 hg9 => ?_)
      refine lv_iload hx hb (show decode cL_law 2098 = .ok (.iload 6, 2) from by decide +kernel) (lv_at hl 1 rfl) ?_
      refine lv_icmp_eq (tgt := 2105) hx hb (show decode cL_law 2100 = .ok (.if_icmp .eq 5, 3) from by decide +kernel) (by decide) (fun _ => ?_) (fun h => absurd (by decide) h)
      refine lv_iload hx hb (show decode cL_law 2105 = .ok (.iload 6, 2) from by decide +kernel) (lv_at hl 1 rfl) ?_
      refine lv_if_ne (tgt := 2122) hx hb (show decode cL_law 2107 = .ok (.ifCond .ne 15, 3) from by decide +kernel) (by decide) (fun h => absurd rfl h) (fun _ => ?_)
      refine lv_aload_n hx hb (show decode cL_law 2110 = .ok (.aload_n 3, 1) from by decide +kernel) rfl (lv_at hl 5 rfl) ?_
      obtain ⟨-, -, em, ex, eo, ed⟩ := I3.hl
      rw [← eo]
      refine lv_iconst (v := 0) hx hb (show decode cL_law 2111 = .ok (.iconst 0, 1) from by decide +kernel) (by decide) ?_
      refine va_lald hx hb F.hK L3.hP qo 7 hg9 (wr_ty F.hTY) (vp_in_nI (n := 0) (by decide) (by decide)) (show decode cL_law 2112 = .ok (.laload, 1) from by decide +kernel) ?_
      refine lv_iload hx hb (show decode cL_law 2113 = .ok (.iload 7, 2) from by decide +kernel) (lv_at hl 0 rfl) ?_
      refine lv_i2l hx hb (show decode cL_law 2115 = .ok (.i2l, 1) from by decide +kernel) rfl ?_
      refine W.lcmp hx hb (show decode cL_law 2116 = .ok (.lcmp, 1) from by decide +kernel) ?_
      rw [show Int32.toNatClampNeg 0 = 0 from by decide, hg0, show lg_cmp ((2 : Int32).toInt64) ((2 : Int32).toInt64) = 0 from by decide]
      refine lv_if_eq (tgt := 2122) hx hb (show decode cL_law 2117 = .ok (.ifCond .eq 5, 3) from by decide +kernel) (by decide) (fun _ => ?_) (fun h => absurd rfl h)
      refine lv_goto (tgt := 2357) hx hb (show decode cL_law 2122 = .ok (.goto 235, 3) from by decide +kernel) (by decide) ?_
      refine W.widen (k := cells + 100) (n := slots + 1000) (by omega) (by omega) ?_
      exact k _ _ _ _ _ _ _ _ I3 L3 (lv_sub hl [2, 3, 4, 5, 6, 7] rfl)
    · refine le_x_3_2 hl9 (lw_LA_st hLP) F L I hl.1 ⟨by omega, by omega⟩ a1 hb1 ⟨fx, hwx, f7, f19⟩ (fun u1 H1 locs1 fs1 I1 L1 hg => ?_)
      obtain ⟨g9, hg9, hg0⟩ := hg
      refine lv_istore (lv' := [(6, .int 0), (0, .ref b), (1, .ref ax), (2, .ref am), (3, .ref ao), (4, .ref ad), (5, .int (nI i))]) hx hb (show decode cL_law 2080 = .ok (.istore 6, 2) from by decide +kernel) hl (by decide) rfl (fun ls hl => ?_)
      have h0 : ls[0]? = some (.val (.ref b)) := lv_at hl 1 rfl
      have h5 : ls[5]? = some (.val (.int (nI i))) := lv_at hl 6 rfl
      refine lv_aload_n hx hb (show decode cL_law 2082 = .ok (.aload_n 2, 1) from by decide +kernel) rfl (lv_at hl 3 rfl) ?_
      refine lw_ld (k := 1) (n := 1) hx hb X L1.hS (by decide) h0 h5 (by decide) (by decide +kernel) ?_
      rw [ea]
      obtain ⟨-, -, em, ex, eo, ed⟩ := I1.hl
      rw [← em]
      obtain ⟨fx1, v1, v2, hwx1, f71, f191, ev1, ev2⟩ := I1.hed
      subst ev1
      subst ev2
      refine le_m_3_2 hl9 (lw_LA_st hLP) F L1 I1 hl.1 ⟨by omega, by omega⟩ a1 hb1 ⟨fx1, hwx1, f71, f191⟩ hg9 (fun u2 b9 H2 locs2 fs2 I2 L2 hg9 f30 => ?_)
      refine lv_istore (lv' := [(7, .int 2), (6, .int 0), (0, .ref b), (1, .ref ax), (2, .ref am), (3, .ref ao), (4, .ref ad), (5, .int (nI i))]) hx hb (show decode cL_law 2092 = .ok (.istore 7, 2) from by decide +kernel) hl (by decide) rfl (fun ls hl => ?_)
      refine lv_aload_n hx hb (show decode cL_law 2094 = .ok (.aload_n 2, 1) from by decide +kernel) rfl (lv_at hl 4 rfl) ?_
      obtain ⟨-, -, em, ex, eo, ed⟩ := I2.hl
      rw [← em]
      refine le_t hl9 (lw_LA_st hLP) F L2 I2 hl.1 ⟨by omega, by omega⟩ hg9 f30 (fun u3 H3 locs3 fs3 I3 L3 hg9 => ?_)
      refine lv_iload hx hb (show decode cL_law 2098 = .ok (.iload 6, 2) from by decide +kernel) (lv_at hl 1 rfl) ?_
      refine lv_icmp_eq (tgt := 2105) hx hb (show decode cL_law 2100 = .ok (.if_icmp .eq 5, 3) from by decide +kernel) (by decide) (fun _ => ?_) (fun h => absurd (by decide) h)
      refine lv_iload hx hb (show decode cL_law 2105 = .ok (.iload 6, 2) from by decide +kernel) (lv_at hl 1 rfl) ?_
      refine lv_if_ne (tgt := 2122) hx hb (show decode cL_law 2107 = .ok (.ifCond .ne 15, 3) from by decide +kernel) (by decide) (fun h => absurd rfl h) (fun _ => ?_)
      refine lv_aload_n hx hb (show decode cL_law 2110 = .ok (.aload_n 3, 1) from by decide +kernel) rfl (lv_at hl 5 rfl) ?_
      obtain ⟨-, -, em, ex, eo, ed⟩ := I3.hl
      rw [← eo]
      refine lv_iconst (v := 0) hx hb (show decode cL_law 2111 = .ok (.iconst 0, 1) from by decide +kernel) (by decide) ?_
      refine va_lald hx hb F.hK L3.hP qo 7 hg9 (wr_ty F.hTY) (vp_in_nI (n := 0) (by decide) (by decide)) (show decode cL_law 2112 = .ok (.laload, 1) from by decide +kernel) ?_
      refine lv_iload hx hb (show decode cL_law 2113 = .ok (.iload 7, 2) from by decide +kernel) (lv_at hl 0 rfl) ?_
      refine lv_i2l hx hb (show decode cL_law 2115 = .ok (.i2l, 1) from by decide +kernel) rfl ?_
      refine W.lcmp hx hb (show decode cL_law 2116 = .ok (.lcmp, 1) from by decide +kernel) ?_
      rw [show Int32.toNatClampNeg 0 = 0 from by decide, hg0, show lg_cmp ((2 : Int32).toInt64) ((2 : Int32).toInt64) = 0 from by decide]
      refine lv_if_eq (tgt := 2122) hx hb (show decode cL_law 2117 = .ok (.ifCond .eq 5, 3) from by decide +kernel) (by decide) (fun _ => ?_) (fun h => absurd rfl h)
      refine lv_goto (tgt := 2357) hx hb (show decode cL_law 2122 = .ok (.goto 235, 3) from by decide +kernel) (by decide) ?_
      refine W.widen (k := cells + 100) (n := slots + 1000) (by omega) (by omega) ?_
      exact k _ _ _ _ _ _ _ _ I3 L3 (lv_sub hl [2, 3, 4, 5, 6, 7] rfl)
    · refine le_x_4_2 hl9 (lw_LA_st hLP) F L I hl.1 ⟨by omega, by omega⟩ a1 hb1 ⟨fx, hwx, f7, f19⟩ (fun u1 H1 locs1 fs1 I1 L1 hg => ?_)
      obtain ⟨g9, hg9, hg0⟩ := hg
      refine lv_istore (lv' := [(6, .int 0), (0, .ref b), (1, .ref ax), (2, .ref am), (3, .ref ao), (4, .ref ad), (5, .int (nI i))]) hx hb (show decode cL_law 2080 = .ok (.istore 6, 2) from by decide +kernel) hl (by decide) rfl (fun ls hl => ?_)
      have h0 : ls[0]? = some (.val (.ref b)) := lv_at hl 1 rfl
      have h5 : ls[5]? = some (.val (.int (nI i))) := lv_at hl 6 rfl
      refine lv_aload_n hx hb (show decode cL_law 2082 = .ok (.aload_n 2, 1) from by decide +kernel) rfl (lv_at hl 3 rfl) ?_
      refine lw_ld (k := 1) (n := 1) hx hb X L1.hS (by decide) h0 h5 (by decide) (by decide +kernel) ?_
      rw [ea]
      obtain ⟨-, -, em, ex, eo, ed⟩ := I1.hl
      rw [← em]
      obtain ⟨fx1, v1, v2, hwx1, f71, f191, ev1, ev2⟩ := I1.hed
      subst ev1
      subst ev2
      refine le_m_4_2 hl9 (lw_LA_st hLP) F L1 I1 hl.1 ⟨by omega, by omega⟩ a1 hb1 ⟨fx1, hwx1, f71, f191⟩ hg9 (fun u2 b9 H2 locs2 fs2 I2 L2 hg9 f30 => ?_)
      refine lv_istore (lv' := [(7, .int 2), (6, .int 0), (0, .ref b), (1, .ref ax), (2, .ref am), (3, .ref ao), (4, .ref ad), (5, .int (nI i))]) hx hb (show decode cL_law 2092 = .ok (.istore 7, 2) from by decide +kernel) hl (by decide) rfl (fun ls hl => ?_)
      refine lv_aload_n hx hb (show decode cL_law 2094 = .ok (.aload_n 2, 1) from by decide +kernel) rfl (lv_at hl 4 rfl) ?_
      obtain ⟨-, -, em, ex, eo, ed⟩ := I2.hl
      rw [← em]
      refine le_t hl9 (lw_LA_st hLP) F L2 I2 hl.1 ⟨by omega, by omega⟩ hg9 f30 (fun u3 H3 locs3 fs3 I3 L3 hg9 => ?_)
      refine lv_iload hx hb (show decode cL_law 2098 = .ok (.iload 6, 2) from by decide +kernel) (lv_at hl 1 rfl) ?_
      refine lv_icmp_eq (tgt := 2105) hx hb (show decode cL_law 2100 = .ok (.if_icmp .eq 5, 3) from by decide +kernel) (by decide) (fun _ => ?_) (fun h => absurd (by decide) h)
      refine lv_iload hx hb (show decode cL_law 2105 = .ok (.iload 6, 2) from by decide +kernel) (lv_at hl 1 rfl) ?_
      refine lv_if_ne (tgt := 2122) hx hb (show decode cL_law 2107 = .ok (.ifCond .ne 15, 3) from by decide +kernel) (by decide) (fun h => absurd rfl h) (fun _ => ?_)
      refine lv_aload_n hx hb (show decode cL_law 2110 = .ok (.aload_n 3, 1) from by decide +kernel) rfl (lv_at hl 5 rfl) ?_
      obtain ⟨-, -, em, ex, eo, ed⟩ := I3.hl
      rw [← eo]
      refine lv_iconst (v := 0) hx hb (show decode cL_law 2111 = .ok (.iconst 0, 1) from by decide +kernel) (by decide) ?_
      refine va_lald hx hb F.hK L3.hP qo 7 hg9 (wr_ty F.hTY) (vp_in_nI (n := 0) (by decide) (by decide)) (show decode cL_law 2112 = .ok (.laload, 1) from by decide +kernel) ?_
      refine lv_iload hx hb (show decode cL_law 2113 = .ok (.iload 7, 2) from by decide +kernel) (lv_at hl 0 rfl) ?_
      refine lv_i2l hx hb (show decode cL_law 2115 = .ok (.i2l, 1) from by decide +kernel) rfl ?_
      refine W.lcmp hx hb (show decode cL_law 2116 = .ok (.lcmp, 1) from by decide +kernel) ?_
      rw [show Int32.toNatClampNeg 0 = 0 from by decide, hg0, show lg_cmp ((2 : Int32).toInt64) ((2 : Int32).toInt64) = 0 from by decide]
      refine lv_if_eq (tgt := 2122) hx hb (show decode cL_law 2117 = .ok (.ifCond .eq 5, 3) from by decide +kernel) (by decide) (fun _ => ?_) (fun h => absurd rfl h)
      refine lv_goto (tgt := 2357) hx hb (show decode cL_law 2122 = .ok (.goto 235, 3) from by decide +kernel) (by decide) ?_
      refine W.widen (k := cells + 100) (n := slots + 1000) (by omega) (by omega) ?_
      exact k _ _ _ _ _ _ _ _ I3 L3 (lv_sub hl [2, 3, 4, 5, 6, 7] rfl)
    · refine le_x_5_2 hl9 (lw_LA_st hLP) F L I hl.1 ⟨by omega, by omega⟩ a1 hb1 ⟨fx, hwx, f7, f19⟩ (fun u1 H1 locs1 fs1 I1 L1 => ?_)
      obtain ⟨g9, hg9⟩ := I1.hwo
      refine lv_istore (lv' := [(6, .int 1), (0, .ref b), (1, .ref ax), (2, .ref am), (3, .ref ao), (4, .ref ad), (5, .int (nI i))]) hx hb (show decode cL_law 2080 = .ok (.istore 6, 2) from by decide +kernel) hl (by decide) rfl (fun ls hl => ?_)
      have h0 : ls[0]? = some (.val (.ref b)) := lv_at hl 1 rfl
      have h5 : ls[5]? = some (.val (.int (nI i))) := lv_at hl 6 rfl
      refine lv_aload_n hx hb (show decode cL_law 2082 = .ok (.aload_n 2, 1) from by decide +kernel) rfl (lv_at hl 3 rfl) ?_
      refine lw_ld (k := 1) (n := 1) hx hb X L1.hS (by decide) h0 h5 (by decide) (by decide +kernel) ?_
      rw [ea]
      obtain ⟨-, -, em, ex, eo, ed⟩ := I1.hl
      rw [← em]
      obtain ⟨fx1, v1, v2, hwx1, f71, f191, ev1, ev2⟩ := I1.hed
      subst ev1
      subst ev2
      refine le_m_5_2 hl9 (lw_LA_st hLP) F L1 I1 hl.1 ⟨by omega, by omega⟩ a1 hb1 ⟨fx1, hwx1, f71, f191⟩ hg9 (fun u2 b9 H2 locs2 fs2 I2 L2 hg9 f30 => ?_)
      refine lv_istore (lv' := [(7, .int b9), (6, .int 1), (0, .ref b), (1, .ref ax), (2, .ref am), (3, .ref ao), (4, .ref ad), (5, .int (nI i))]) hx hb (show decode cL_law 2092 = .ok (.istore 7, 2) from by decide +kernel) hl (by decide) rfl (fun ls hl => ?_)
      refine lv_aload_n hx hb (show decode cL_law 2094 = .ok (.aload_n 2, 1) from by decide +kernel) rfl (lv_at hl 4 rfl) ?_
      obtain ⟨-, -, em, ex, eo, ed⟩ := I2.hl
      rw [← em]
      refine le_t hl9 (lw_LA_st hLP) F L2 I2 hl.1 ⟨by omega, by omega⟩ hg9 f30 (fun u3 H3 locs3 fs3 I3 L3 hg9 => ?_)
      refine lv_iload hx hb (show decode cL_law 2098 = .ok (.iload 6, 2) from by decide +kernel) (lv_at hl 1 rfl) ?_
      refine lv_icmp_eq (tgt := 2105) hx hb (show decode cL_law 2100 = .ok (.if_icmp .eq 5, 3) from by decide +kernel) (by decide) (fun _ => ?_) (fun h => absurd (by decide) h)
      refine lv_iload hx hb (show decode cL_law 2105 = .ok (.iload 6, 2) from by decide +kernel) (lv_at hl 1 rfl) ?_
      refine lv_if_ne (tgt := 2122) hx hb (show decode cL_law 2107 = .ok (.ifCond .ne 15, 3) from by decide +kernel) (by decide) (fun _ => ?_) (fun h => absurd h (by decide))
      refine lv_goto (tgt := 2357) hx hb (show decode cL_law 2122 = .ok (.goto 235, 3) from by decide +kernel) (by decide) ?_
      refine W.widen (k := cells + 100) (n := slots + 1000) (by omega) (by omega) ?_
      exact k _ _ _ _ _ _ _ _ I3 L3 (lv_sub hl [2, 3, 4, 5, 6, 7] rfl)
    · refine le_x_6_2 hl9 (lw_LA_st hLP) F L I hl.1 ⟨by omega, by omega⟩ a1 hb1 ⟨fx, hwx, f7, f19⟩ (fun u1 H1 locs1 fs1 I1 L1 => ?_)
      obtain ⟨g9, hg9⟩ := I1.hwo
      refine lv_istore (lv' := [(6, .int 1), (0, .ref b), (1, .ref ax), (2, .ref am), (3, .ref ao), (4, .ref ad), (5, .int (nI i))]) hx hb (show decode cL_law 2080 = .ok (.istore 6, 2) from by decide +kernel) hl (by decide) rfl (fun ls hl => ?_)
      have h0 : ls[0]? = some (.val (.ref b)) := lv_at hl 1 rfl
      have h5 : ls[5]? = some (.val (.int (nI i))) := lv_at hl 6 rfl
      refine lv_aload_n hx hb (show decode cL_law 2082 = .ok (.aload_n 2, 1) from by decide +kernel) rfl (lv_at hl 3 rfl) ?_
      refine lw_ld (k := 1) (n := 1) hx hb X L1.hS (by decide) h0 h5 (by decide) (by decide +kernel) ?_
      rw [ea]
      obtain ⟨-, -, em, ex, eo, ed⟩ := I1.hl
      rw [← em]
      obtain ⟨fx1, v1, v2, hwx1, f71, f191, ev1, ev2⟩ := I1.hed
      subst ev1
      subst ev2
      refine le_m_6_2 hl9 (lw_LA_st hLP) F L1 I1 hl.1 ⟨by omega, by omega⟩ a1 hb1 ⟨fx1, hwx1, f71, f191⟩ hg9 (fun u2 b9 H2 locs2 fs2 I2 L2 hg9 f30 => ?_)
      refine lv_istore (lv' := [(7, .int b9), (6, .int 1), (0, .ref b), (1, .ref ax), (2, .ref am), (3, .ref ao), (4, .ref ad), (5, .int (nI i))]) hx hb (show decode cL_law 2092 = .ok (.istore 7, 2) from by decide +kernel) hl (by decide) rfl (fun ls hl => ?_)
      refine lv_aload_n hx hb (show decode cL_law 2094 = .ok (.aload_n 2, 1) from by decide +kernel) rfl (lv_at hl 4 rfl) ?_
      obtain ⟨-, -, em, ex, eo, ed⟩ := I2.hl
      rw [← em]
      refine le_t hl9 (lw_LA_st hLP) F L2 I2 hl.1 ⟨by omega, by omega⟩ hg9 f30 (fun u3 H3 locs3 fs3 I3 L3 hg9 => ?_)
      refine lv_iload hx hb (show decode cL_law 2098 = .ok (.iload 6, 2) from by decide +kernel) (lv_at hl 1 rfl) ?_
      refine lv_icmp_eq (tgt := 2105) hx hb (show decode cL_law 2100 = .ok (.if_icmp .eq 5, 3) from by decide +kernel) (by decide) (fun _ => ?_) (fun h => absurd (by decide) h)
      refine lv_iload hx hb (show decode cL_law 2105 = .ok (.iload 6, 2) from by decide +kernel) (lv_at hl 1 rfl) ?_
      refine lv_if_ne (tgt := 2122) hx hb (show decode cL_law 2107 = .ok (.ifCond .ne 15, 3) from by decide +kernel) (by decide) (fun _ => ?_) (fun h => absurd h (by decide))
      refine lv_goto (tgt := 2357) hx hb (show decode cL_law 2122 = .ok (.goto 235, 3) from by decide +kernel) (by decide) ?_
      refine W.widen (k := cells + 100) (n := slots + 1000) (by omega) (by omega) ?_
      exact k _ _ _ _ _ _ _ _ I3 L3 (lv_sub hl [2, 3, 4, 5, 6, 7] rfl)
  · rcases hz with hb1 | hb1 | hb1 | hb1 | hb1 | hb1 | hb1
    · refine le_x_0_3 hl9 (lw_LA_st hLP) F L I hl.1 ⟨by omega, by omega⟩ a1 hb1 ⟨fx, hwx, f7, f19⟩ (fun u1 H1 locs1 fs1 I1 L1 hg => ?_)
      obtain ⟨g9, hg9, hg0⟩ := hg
      refine lv_istore (lv' := [(6, .int 0), (0, .ref b), (1, .ref ax), (2, .ref am), (3, .ref ao), (4, .ref ad), (5, .int (nI i))]) hx hb (show decode cL_law 2080 = .ok (.istore 6, 2) from by decide +kernel) hl (by decide) rfl (fun ls hl => ?_)
      have h0 : ls[0]? = some (.val (.ref b)) := lv_at hl 1 rfl
      have h5 : ls[5]? = some (.val (.int (nI i))) := lv_at hl 6 rfl
      refine lv_aload_n hx hb (show decode cL_law 2082 = .ok (.aload_n 2, 1) from by decide +kernel) rfl (lv_at hl 3 rfl) ?_
      refine lw_ld (k := 1) (n := 1) hx hb X L1.hS (by decide) h0 h5 (by decide) (by decide +kernel) ?_
      rw [ea]
      obtain ⟨-, -, em, ex, eo, ed⟩ := I1.hl
      rw [← em]
      obtain ⟨fx1, v1, v2, hwx1, f71, f191, ev1, ev2⟩ := I1.hed
      subst ev1
      subst ev2
      refine le_m_0_3 hl9 (lw_LA_st hLP) F L1 I1 hl.1 ⟨by omega, by omega⟩ a1 hb1 ⟨fx1, hwx1, f71, f191⟩ hg9 (fun u2 b9 H2 locs2 fs2 I2 L2 hg9 f30 => ?_)
      refine lv_istore (lv' := [(7, .int 3), (6, .int 0), (0, .ref b), (1, .ref ax), (2, .ref am), (3, .ref ao), (4, .ref ad), (5, .int (nI i))]) hx hb (show decode cL_law 2092 = .ok (.istore 7, 2) from by decide +kernel) hl (by decide) rfl (fun ls hl => ?_)
      refine lv_aload_n hx hb (show decode cL_law 2094 = .ok (.aload_n 2, 1) from by decide +kernel) rfl (lv_at hl 4 rfl) ?_
      obtain ⟨-, -, em, ex, eo, ed⟩ := I2.hl
      rw [← em]
      refine le_t hl9 (lw_LA_st hLP) F L2 I2 hl.1 ⟨by omega, by omega⟩ hg9 f30 (fun u3 H3 locs3 fs3 I3 L3 hg9 => ?_)
      refine lv_iload hx hb (show decode cL_law 2098 = .ok (.iload 6, 2) from by decide +kernel) (lv_at hl 1 rfl) ?_
      refine lv_icmp_eq (tgt := 2105) hx hb (show decode cL_law 2100 = .ok (.if_icmp .eq 5, 3) from by decide +kernel) (by decide) (fun _ => ?_) (fun h => absurd (by decide) h)
      refine lv_iload hx hb (show decode cL_law 2105 = .ok (.iload 6, 2) from by decide +kernel) (lv_at hl 1 rfl) ?_
      refine lv_if_ne (tgt := 2122) hx hb (show decode cL_law 2107 = .ok (.ifCond .ne 15, 3) from by decide +kernel) (by decide) (fun h => absurd rfl h) (fun _ => ?_)
      refine lv_aload_n hx hb (show decode cL_law 2110 = .ok (.aload_n 3, 1) from by decide +kernel) rfl (lv_at hl 5 rfl) ?_
      obtain ⟨-, -, em, ex, eo, ed⟩ := I3.hl
      rw [← eo]
      refine lv_iconst (v := 0) hx hb (show decode cL_law 2111 = .ok (.iconst 0, 1) from by decide +kernel) (by decide) ?_
      refine va_lald hx hb F.hK L3.hP qo 7 hg9 (wr_ty F.hTY) (vp_in_nI (n := 0) (by decide) (by decide)) (show decode cL_law 2112 = .ok (.laload, 1) from by decide +kernel) ?_
      refine lv_iload hx hb (show decode cL_law 2113 = .ok (.iload 7, 2) from by decide +kernel) (lv_at hl 0 rfl) ?_
      refine lv_i2l hx hb (show decode cL_law 2115 = .ok (.i2l, 1) from by decide +kernel) rfl ?_
      refine W.lcmp hx hb (show decode cL_law 2116 = .ok (.lcmp, 1) from by decide +kernel) ?_
      rw [show Int32.toNatClampNeg 0 = 0 from by decide, hg0, show lg_cmp ((3 : Int32).toInt64) ((3 : Int32).toInt64) = 0 from by decide]
      refine lv_if_eq (tgt := 2122) hx hb (show decode cL_law 2117 = .ok (.ifCond .eq 5, 3) from by decide +kernel) (by decide) (fun _ => ?_) (fun h => absurd rfl h)
      refine lv_goto (tgt := 2357) hx hb (show decode cL_law 2122 = .ok (.goto 235, 3) from by decide +kernel) (by decide) ?_
      refine W.widen (k := cells + 100) (n := slots + 1000) (by omega) (by omega) ?_
      exact k _ _ _ _ _ _ _ _ I3 L3 (lv_sub hl [2, 3, 4, 5, 6, 7] rfl)
    · refine le_x_1_3 hl9 (lw_LA_st hLP) F L I hl.1 ⟨by omega, by omega⟩ a1 hb1 ⟨fx, hwx, f7, f19⟩ (fun u1 H1 locs1 fs1 I1 L1 hg => ?_)
      obtain ⟨g9, hg9, hg0⟩ := hg
      refine lv_istore (lv' := [(6, .int 0), (0, .ref b), (1, .ref ax), (2, .ref am), (3, .ref ao), (4, .ref ad), (5, .int (nI i))]) hx hb (show decode cL_law 2080 = .ok (.istore 6, 2) from by decide +kernel) hl (by decide) rfl (fun ls hl => ?_)
      have h0 : ls[0]? = some (.val (.ref b)) := lv_at hl 1 rfl
      have h5 : ls[5]? = some (.val (.int (nI i))) := lv_at hl 6 rfl
      refine lv_aload_n hx hb (show decode cL_law 2082 = .ok (.aload_n 2, 1) from by decide +kernel) rfl (lv_at hl 3 rfl) ?_
      refine lw_ld (k := 1) (n := 1) hx hb X L1.hS (by decide) h0 h5 (by decide) (by decide +kernel) ?_
      rw [ea]
      obtain ⟨-, -, em, ex, eo, ed⟩ := I1.hl
      rw [← em]
      obtain ⟨fx1, v1, v2, hwx1, f71, f191, ev1, ev2⟩ := I1.hed
      subst ev1
      subst ev2
      refine le_m_1_3 hl9 (lw_LA_st hLP) F L1 I1 hl.1 ⟨by omega, by omega⟩ a1 hb1 ⟨fx1, hwx1, f71, f191⟩ hg9 (fun u2 b9 H2 locs2 fs2 I2 L2 hg9 f30 => ?_)
      refine lv_istore (lv' := [(7, .int 3), (6, .int 0), (0, .ref b), (1, .ref ax), (2, .ref am), (3, .ref ao), (4, .ref ad), (5, .int (nI i))]) hx hb (show decode cL_law 2092 = .ok (.istore 7, 2) from by decide +kernel) hl (by decide) rfl (fun ls hl => ?_)
      refine lv_aload_n hx hb (show decode cL_law 2094 = .ok (.aload_n 2, 1) from by decide +kernel) rfl (lv_at hl 4 rfl) ?_
      obtain ⟨-, -, em, ex, eo, ed⟩ := I2.hl
      rw [← em]
      refine le_t hl9 (lw_LA_st hLP) F L2 I2 hl.1 ⟨by omega, by omega⟩ hg9 f30 (fun u3 H3 locs3 fs3 I3 L3 hg9 => ?_)
      refine lv_iload hx hb (show decode cL_law 2098 = .ok (.iload 6, 2) from by decide +kernel) (lv_at hl 1 rfl) ?_
      refine lv_icmp_eq (tgt := 2105) hx hb (show decode cL_law 2100 = .ok (.if_icmp .eq 5, 3) from by decide +kernel) (by decide) (fun _ => ?_) (fun h => absurd (by decide) h)
      refine lv_iload hx hb (show decode cL_law 2105 = .ok (.iload 6, 2) from by decide +kernel) (lv_at hl 1 rfl) ?_
      refine lv_if_ne (tgt := 2122) hx hb (show decode cL_law 2107 = .ok (.ifCond .ne 15, 3) from by decide +kernel) (by decide) (fun h => absurd rfl h) (fun _ => ?_)
      refine lv_aload_n hx hb (show decode cL_law 2110 = .ok (.aload_n 3, 1) from by decide +kernel) rfl (lv_at hl 5 rfl) ?_
      obtain ⟨-, -, em, ex, eo, ed⟩ := I3.hl
      rw [← eo]
      refine lv_iconst (v := 0) hx hb (show decode cL_law 2111 = .ok (.iconst 0, 1) from by decide +kernel) (by decide) ?_
      refine va_lald hx hb F.hK L3.hP qo 7 hg9 (wr_ty F.hTY) (vp_in_nI (n := 0) (by decide) (by decide)) (show decode cL_law 2112 = .ok (.laload, 1) from by decide +kernel) ?_
      refine lv_iload hx hb (show decode cL_law 2113 = .ok (.iload 7, 2) from by decide +kernel) (lv_at hl 0 rfl) ?_
      refine lv_i2l hx hb (show decode cL_law 2115 = .ok (.i2l, 1) from by decide +kernel) rfl ?_
      refine W.lcmp hx hb (show decode cL_law 2116 = .ok (.lcmp, 1) from by decide +kernel) ?_
      rw [show Int32.toNatClampNeg 0 = 0 from by decide, hg0, show lg_cmp ((3 : Int32).toInt64) ((3 : Int32).toInt64) = 0 from by decide]
      refine lv_if_eq (tgt := 2122) hx hb (show decode cL_law 2117 = .ok (.ifCond .eq 5, 3) from by decide +kernel) (by decide) (fun _ => ?_) (fun h => absurd rfl h)
      refine lv_goto (tgt := 2357) hx hb (show decode cL_law 2122 = .ok (.goto 235, 3) from by decide +kernel) (by decide) ?_
      refine W.widen (k := cells + 100) (n := slots + 1000) (by omega) (by omega) ?_
      exact k _ _ _ _ _ _ _ _ I3 L3 (lv_sub hl [2, 3, 4, 5, 6, 7] rfl)
    · refine le_x_2_3 hl9 (lw_LA_st hLP) F L I hl.1 ⟨by omega, by omega⟩ a1 hb1 ⟨fx, hwx, f7, f19⟩ (fun u1 H1 locs1 fs1 I1 L1 hg => ?_)
      obtain ⟨g9, hg9, hg0⟩ := hg
      refine lv_istore (lv' := [(6, .int 0), (0, .ref b), (1, .ref ax), (2, .ref am), (3, .ref ao), (4, .ref ad), (5, .int (nI i))]) hx hb (show decode cL_law 2080 = .ok (.istore 6, 2) from by decide +kernel) hl (by decide) rfl (fun ls hl => ?_)
      have h0 : ls[0]? = some (.val (.ref b)) := lv_at hl 1 rfl
      have h5 : ls[5]? = some (.val (.int (nI i))) := lv_at hl 6 rfl
      refine lv_aload_n hx hb (show decode cL_law 2082 = .ok (.aload_n 2, 1) from by decide +kernel) rfl (lv_at hl 3 rfl) ?_
      refine lw_ld (k := 1) (n := 1) hx hb X L1.hS (by decide) h0 h5 (by decide) (by decide +kernel) ?_
      rw [ea]
      obtain ⟨-, -, em, ex, eo, ed⟩ := I1.hl
      rw [← em]
      obtain ⟨fx1, v1, v2, hwx1, f71, f191, ev1, ev2⟩ := I1.hed
      subst ev1
      subst ev2
      refine le_m_2_3 hl9 (lw_LA_st hLP) F L1 I1 hl.1 ⟨by omega, by omega⟩ a1 hb1 ⟨fx1, hwx1, f71, f191⟩ hg9 (fun u2 b9 H2 locs2 fs2 I2 L2 hg9 f30 => ?_)
      refine lv_istore (lv' := [(7, .int 3), (6, .int 0), (0, .ref b), (1, .ref ax), (2, .ref am), (3, .ref ao), (4, .ref ad), (5, .int (nI i))]) hx hb (show decode cL_law 2092 = .ok (.istore 7, 2) from by decide +kernel) hl (by decide) rfl (fun ls hl => ?_)
      refine lv_aload_n hx hb (show decode cL_law 2094 = .ok (.aload_n 2, 1) from by decide +kernel) rfl (lv_at hl 4 rfl) ?_
      obtain ⟨-, -, em, ex, eo, ed⟩ := I2.hl
      rw [← em]
      refine le_t hl9 (lw_LA_st hLP) F L2 I2 hl.1 ⟨by omega, by omega⟩ hg9 f30 (fun u3 H3 locs3 fs3 I3 L3 hg9 => ?_)
      refine lv_iload hx hb (show decode cL_law 2098 = .ok (.iload 6, 2) from by decide +kernel) (lv_at hl 1 rfl) ?_
      refine lv_icmp_eq (tgt := 2105) hx hb (show decode cL_law 2100 = .ok (.if_icmp .eq 5, 3) from by decide +kernel) (by decide) (fun _ => ?_) (fun h => absurd (by decide) h)
      refine lv_iload hx hb (show decode cL_law 2105 = .ok (.iload 6, 2) from by decide +kernel) (lv_at hl 1 rfl) ?_
      refine lv_if_ne (tgt := 2122) hx hb (show decode cL_law 2107 = .ok (.ifCond .ne 15, 3) from by decide +kernel) (by decide) (fun h => absurd rfl h) (fun _ => ?_)
      refine lv_aload_n hx hb (show decode cL_law 2110 = .ok (.aload_n 3, 1) from by decide +kernel) rfl (lv_at hl 5 rfl) ?_
      obtain ⟨-, -, em, ex, eo, ed⟩ := I3.hl
      rw [← eo]
      refine lv_iconst (v := 0) hx hb (show decode cL_law 2111 = .ok (.iconst 0, 1) from by decide +kernel) (by decide) ?_
      refine va_lald hx hb F.hK L3.hP qo 7 hg9 (wr_ty F.hTY) (vp_in_nI (n := 0) (by decide) (by decide)) (show decode cL_law 2112 = .ok (.laload, 1) from by decide +kernel) ?_
      refine lv_iload hx hb (show decode cL_law 2113 = .ok (.iload 7, 2) from by decide +kernel) (lv_at hl 0 rfl) ?_
      refine lv_i2l hx hb (show decode cL_law 2115 = .ok (.i2l, 1) from by decide +kernel) rfl ?_
      refine W.lcmp hx hb (show decode cL_law 2116 = .ok (.lcmp, 1) from by decide +kernel) ?_
      rw [show Int32.toNatClampNeg 0 = 0 from by decide, hg0, show lg_cmp ((3 : Int32).toInt64) ((3 : Int32).toInt64) = 0 from by decide]
      refine lv_if_eq (tgt := 2122) hx hb (show decode cL_law 2117 = .ok (.ifCond .eq 5, 3) from by decide +kernel) (by decide) (fun _ => ?_) (fun h => absurd rfl h)
      refine lv_goto (tgt := 2357) hx hb (show decode cL_law 2122 = .ok (.goto 235, 3) from by decide +kernel) (by decide) ?_
      refine W.widen (k := cells + 100) (n := slots + 1000) (by omega) (by omega) ?_
      exact k _ _ _ _ _ _ _ _ I3 L3 (lv_sub hl [2, 3, 4, 5, 6, 7] rfl)
    · refine le_x_3_3 hl9 (lw_LA_st hLP) F L I hl.1 ⟨by omega, by omega⟩ a1 hb1 ⟨fx, hwx, f7, f19⟩ (fun u1 H1 locs1 fs1 I1 L1 hg => ?_)
      obtain ⟨g9, hg9, hg0⟩ := hg
      refine lv_istore (lv' := [(6, .int 0), (0, .ref b), (1, .ref ax), (2, .ref am), (3, .ref ao), (4, .ref ad), (5, .int (nI i))]) hx hb (show decode cL_law 2080 = .ok (.istore 6, 2) from by decide +kernel) hl (by decide) rfl (fun ls hl => ?_)
      have h0 : ls[0]? = some (.val (.ref b)) := lv_at hl 1 rfl
      have h5 : ls[5]? = some (.val (.int (nI i))) := lv_at hl 6 rfl
      refine lv_aload_n hx hb (show decode cL_law 2082 = .ok (.aload_n 2, 1) from by decide +kernel) rfl (lv_at hl 3 rfl) ?_
      refine lw_ld (k := 1) (n := 1) hx hb X L1.hS (by decide) h0 h5 (by decide) (by decide +kernel) ?_
      rw [ea]
      obtain ⟨-, -, em, ex, eo, ed⟩ := I1.hl
      rw [← em]
      obtain ⟨fx1, v1, v2, hwx1, f71, f191, ev1, ev2⟩ := I1.hed
      subst ev1
      subst ev2
      refine le_m_3_3 hl9 (lw_LA_st hLP) F L1 I1 hl.1 ⟨by omega, by omega⟩ a1 hb1 ⟨fx1, hwx1, f71, f191⟩ hg9 (fun u2 b9 H2 locs2 fs2 I2 L2 hg9 f30 => ?_)
      refine lv_istore (lv' := [(7, .int 3), (6, .int 0), (0, .ref b), (1, .ref ax), (2, .ref am), (3, .ref ao), (4, .ref ad), (5, .int (nI i))]) hx hb (show decode cL_law 2092 = .ok (.istore 7, 2) from by decide +kernel) hl (by decide) rfl (fun ls hl => ?_)
      refine lv_aload_n hx hb (show decode cL_law 2094 = .ok (.aload_n 2, 1) from by decide +kernel) rfl (lv_at hl 4 rfl) ?_
      obtain ⟨-, -, em, ex, eo, ed⟩ := I2.hl
      rw [← em]
      refine le_t hl9 (lw_LA_st hLP) F L2 I2 hl.1 ⟨by omega, by omega⟩ hg9 f30 (fun u3 H3 locs3 fs3 I3 L3 hg9 => ?_)
      refine lv_iload hx hb (show decode cL_law 2098 = .ok (.iload 6, 2) from by decide +kernel) (lv_at hl 1 rfl) ?_
      refine lv_icmp_eq (tgt := 2105) hx hb (show decode cL_law 2100 = .ok (.if_icmp .eq 5, 3) from by decide +kernel) (by decide) (fun _ => ?_) (fun h => absurd (by decide) h)
      refine lv_iload hx hb (show decode cL_law 2105 = .ok (.iload 6, 2) from by decide +kernel) (lv_at hl 1 rfl) ?_
      refine lv_if_ne (tgt := 2122) hx hb (show decode cL_law 2107 = .ok (.ifCond .ne 15, 3) from by decide +kernel) (by decide) (fun h => absurd rfl h) (fun _ => ?_)
      refine lv_aload_n hx hb (show decode cL_law 2110 = .ok (.aload_n 3, 1) from by decide +kernel) rfl (lv_at hl 5 rfl) ?_
      obtain ⟨-, -, em, ex, eo, ed⟩ := I3.hl
      rw [← eo]
      refine lv_iconst (v := 0) hx hb (show decode cL_law 2111 = .ok (.iconst 0, 1) from by decide +kernel) (by decide) ?_
      refine va_lald hx hb F.hK L3.hP qo 7 hg9 (wr_ty F.hTY) (vp_in_nI (n := 0) (by decide) (by decide)) (show decode cL_law 2112 = .ok (.laload, 1) from by decide +kernel) ?_
      refine lv_iload hx hb (show decode cL_law 2113 = .ok (.iload 7, 2) from by decide +kernel) (lv_at hl 0 rfl) ?_
      refine lv_i2l hx hb (show decode cL_law 2115 = .ok (.i2l, 1) from by decide +kernel) rfl ?_
      refine W.lcmp hx hb (show decode cL_law 2116 = .ok (.lcmp, 1) from by decide +kernel) ?_
      rw [show Int32.toNatClampNeg 0 = 0 from by decide, hg0, show lg_cmp ((3 : Int32).toInt64) ((3 : Int32).toInt64) = 0 from by decide]
      refine lv_if_eq (tgt := 2122) hx hb (show decode cL_law 2117 = .ok (.ifCond .eq 5, 3) from by decide +kernel) (by decide) (fun _ => ?_) (fun h => absurd rfl h)
      refine lv_goto (tgt := 2357) hx hb (show decode cL_law 2122 = .ok (.goto 235, 3) from by decide +kernel) (by decide) ?_
      refine W.widen (k := cells + 100) (n := slots + 1000) (by omega) (by omega) ?_
      exact k _ _ _ _ _ _ _ _ I3 L3 (lv_sub hl [2, 3, 4, 5, 6, 7] rfl)
    · refine le_x_4_3 hl9 (lw_LA_st hLP) F L I hl.1 ⟨by omega, by omega⟩ a1 hb1 ⟨fx, hwx, f7, f19⟩ (fun u1 H1 locs1 fs1 I1 L1 hg => ?_)
      obtain ⟨g9, hg9, hg0⟩ := hg
      refine lv_istore (lv' := [(6, .int 0), (0, .ref b), (1, .ref ax), (2, .ref am), (3, .ref ao), (4, .ref ad), (5, .int (nI i))]) hx hb (show decode cL_law 2080 = .ok (.istore 6, 2) from by decide +kernel) hl (by decide) rfl (fun ls hl => ?_)
      have h0 : ls[0]? = some (.val (.ref b)) := lv_at hl 1 rfl
      have h5 : ls[5]? = some (.val (.int (nI i))) := lv_at hl 6 rfl
      refine lv_aload_n hx hb (show decode cL_law 2082 = .ok (.aload_n 2, 1) from by decide +kernel) rfl (lv_at hl 3 rfl) ?_
      refine lw_ld (k := 1) (n := 1) hx hb X L1.hS (by decide) h0 h5 (by decide) (by decide +kernel) ?_
      rw [ea]
      obtain ⟨-, -, em, ex, eo, ed⟩ := I1.hl
      rw [← em]
      obtain ⟨fx1, v1, v2, hwx1, f71, f191, ev1, ev2⟩ := I1.hed
      subst ev1
      subst ev2
      refine le_m_4_3 hl9 (lw_LA_st hLP) F L1 I1 hl.1 ⟨by omega, by omega⟩ a1 hb1 ⟨fx1, hwx1, f71, f191⟩ hg9 (fun u2 b9 H2 locs2 fs2 I2 L2 hg9 f30 => ?_)
      refine lv_istore (lv' := [(7, .int 3), (6, .int 0), (0, .ref b), (1, .ref ax), (2, .ref am), (3, .ref ao), (4, .ref ad), (5, .int (nI i))]) hx hb (show decode cL_law 2092 = .ok (.istore 7, 2) from by decide +kernel) hl (by decide) rfl (fun ls hl => ?_)
      refine lv_aload_n hx hb (show decode cL_law 2094 = .ok (.aload_n 2, 1) from by decide +kernel) rfl (lv_at hl 4 rfl) ?_
      obtain ⟨-, -, em, ex, eo, ed⟩ := I2.hl
      rw [← em]
      refine le_t hl9 (lw_LA_st hLP) F L2 I2 hl.1 ⟨by omega, by omega⟩ hg9 f30 (fun u3 H3 locs3 fs3 I3 L3 hg9 => ?_)
      refine lv_iload hx hb (show decode cL_law 2098 = .ok (.iload 6, 2) from by decide +kernel) (lv_at hl 1 rfl) ?_
      refine lv_icmp_eq (tgt := 2105) hx hb (show decode cL_law 2100 = .ok (.if_icmp .eq 5, 3) from by decide +kernel) (by decide) (fun _ => ?_) (fun h => absurd (by decide) h)
      refine lv_iload hx hb (show decode cL_law 2105 = .ok (.iload 6, 2) from by decide +kernel) (lv_at hl 1 rfl) ?_
      refine lv_if_ne (tgt := 2122) hx hb (show decode cL_law 2107 = .ok (.ifCond .ne 15, 3) from by decide +kernel) (by decide) (fun h => absurd rfl h) (fun _ => ?_)
      refine lv_aload_n hx hb (show decode cL_law 2110 = .ok (.aload_n 3, 1) from by decide +kernel) rfl (lv_at hl 5 rfl) ?_
      obtain ⟨-, -, em, ex, eo, ed⟩ := I3.hl
      rw [← eo]
      refine lv_iconst (v := 0) hx hb (show decode cL_law 2111 = .ok (.iconst 0, 1) from by decide +kernel) (by decide) ?_
      refine va_lald hx hb F.hK L3.hP qo 7 hg9 (wr_ty F.hTY) (vp_in_nI (n := 0) (by decide) (by decide)) (show decode cL_law 2112 = .ok (.laload, 1) from by decide +kernel) ?_
      refine lv_iload hx hb (show decode cL_law 2113 = .ok (.iload 7, 2) from by decide +kernel) (lv_at hl 0 rfl) ?_
      refine lv_i2l hx hb (show decode cL_law 2115 = .ok (.i2l, 1) from by decide +kernel) rfl ?_
      refine W.lcmp hx hb (show decode cL_law 2116 = .ok (.lcmp, 1) from by decide +kernel) ?_
      rw [show Int32.toNatClampNeg 0 = 0 from by decide, hg0, show lg_cmp ((3 : Int32).toInt64) ((3 : Int32).toInt64) = 0 from by decide]
      refine lv_if_eq (tgt := 2122) hx hb (show decode cL_law 2117 = .ok (.ifCond .eq 5, 3) from by decide +kernel) (by decide) (fun _ => ?_) (fun h => absurd rfl h)
      refine lv_goto (tgt := 2357) hx hb (show decode cL_law 2122 = .ok (.goto 235, 3) from by decide +kernel) (by decide) ?_
      refine W.widen (k := cells + 100) (n := slots + 1000) (by omega) (by omega) ?_
      exact k _ _ _ _ _ _ _ _ I3 L3 (lv_sub hl [2, 3, 4, 5, 6, 7] rfl)
    · refine le_x_5_3 hl9 (lw_LA_st hLP) F L I hl.1 ⟨by omega, by omega⟩ a1 hb1 ⟨fx, hwx, f7, f19⟩ (fun u1 H1 locs1 fs1 I1 L1 => ?_)
      obtain ⟨g9, hg9⟩ := I1.hwo
      refine lv_istore (lv' := [(6, .int 1), (0, .ref b), (1, .ref ax), (2, .ref am), (3, .ref ao), (4, .ref ad), (5, .int (nI i))]) hx hb (show decode cL_law 2080 = .ok (.istore 6, 2) from by decide +kernel) hl (by decide) rfl (fun ls hl => ?_)
      have h0 : ls[0]? = some (.val (.ref b)) := lv_at hl 1 rfl
      have h5 : ls[5]? = some (.val (.int (nI i))) := lv_at hl 6 rfl
      refine lv_aload_n hx hb (show decode cL_law 2082 = .ok (.aload_n 2, 1) from by decide +kernel) rfl (lv_at hl 3 rfl) ?_
      refine lw_ld (k := 1) (n := 1) hx hb X L1.hS (by decide) h0 h5 (by decide) (by decide +kernel) ?_
      rw [ea]
      obtain ⟨-, -, em, ex, eo, ed⟩ := I1.hl
      rw [← em]
      obtain ⟨fx1, v1, v2, hwx1, f71, f191, ev1, ev2⟩ := I1.hed
      subst ev1
      subst ev2
      refine le_m_5_3 hl9 (lw_LA_st hLP) F L1 I1 hl.1 ⟨by omega, by omega⟩ a1 hb1 ⟨fx1, hwx1, f71, f191⟩ hg9 (fun u2 b9 H2 locs2 fs2 I2 L2 hg9 f30 => ?_)
      refine lv_istore (lv' := [(7, .int b9), (6, .int 1), (0, .ref b), (1, .ref ax), (2, .ref am), (3, .ref ao), (4, .ref ad), (5, .int (nI i))]) hx hb (show decode cL_law 2092 = .ok (.istore 7, 2) from by decide +kernel) hl (by decide) rfl (fun ls hl => ?_)
      refine lv_aload_n hx hb (show decode cL_law 2094 = .ok (.aload_n 2, 1) from by decide +kernel) rfl (lv_at hl 4 rfl) ?_
      obtain ⟨-, -, em, ex, eo, ed⟩ := I2.hl
      rw [← em]
      refine le_t hl9 (lw_LA_st hLP) F L2 I2 hl.1 ⟨by omega, by omega⟩ hg9 f30 (fun u3 H3 locs3 fs3 I3 L3 hg9 => ?_)
      refine lv_iload hx hb (show decode cL_law 2098 = .ok (.iload 6, 2) from by decide +kernel) (lv_at hl 1 rfl) ?_
      refine lv_icmp_eq (tgt := 2105) hx hb (show decode cL_law 2100 = .ok (.if_icmp .eq 5, 3) from by decide +kernel) (by decide) (fun _ => ?_) (fun h => absurd (by decide) h)
      refine lv_iload hx hb (show decode cL_law 2105 = .ok (.iload 6, 2) from by decide +kernel) (lv_at hl 1 rfl) ?_
      refine lv_if_ne (tgt := 2122) hx hb (show decode cL_law 2107 = .ok (.ifCond .ne 15, 3) from by decide +kernel) (by decide) (fun _ => ?_) (fun h => absurd h (by decide))
      refine lv_goto (tgt := 2357) hx hb (show decode cL_law 2122 = .ok (.goto 235, 3) from by decide +kernel) (by decide) ?_
      refine W.widen (k := cells + 100) (n := slots + 1000) (by omega) (by omega) ?_
      exact k _ _ _ _ _ _ _ _ I3 L3 (lv_sub hl [2, 3, 4, 5, 6, 7] rfl)
    · refine le_x_6_3 hl9 (lw_LA_st hLP) F L I hl.1 ⟨by omega, by omega⟩ a1 hb1 ⟨fx, hwx, f7, f19⟩ (fun u1 H1 locs1 fs1 I1 L1 => ?_)
      obtain ⟨g9, hg9⟩ := I1.hwo
      refine lv_istore (lv' := [(6, .int 1), (0, .ref b), (1, .ref ax), (2, .ref am), (3, .ref ao), (4, .ref ad), (5, .int (nI i))]) hx hb (show decode cL_law 2080 = .ok (.istore 6, 2) from by decide +kernel) hl (by decide) rfl (fun ls hl => ?_)
      have h0 : ls[0]? = some (.val (.ref b)) := lv_at hl 1 rfl
      have h5 : ls[5]? = some (.val (.int (nI i))) := lv_at hl 6 rfl
      refine lv_aload_n hx hb (show decode cL_law 2082 = .ok (.aload_n 2, 1) from by decide +kernel) rfl (lv_at hl 3 rfl) ?_
      refine lw_ld (k := 1) (n := 1) hx hb X L1.hS (by decide) h0 h5 (by decide) (by decide +kernel) ?_
      rw [ea]
      obtain ⟨-, -, em, ex, eo, ed⟩ := I1.hl
      rw [← em]
      obtain ⟨fx1, v1, v2, hwx1, f71, f191, ev1, ev2⟩ := I1.hed
      subst ev1
      subst ev2
      refine le_m_6_3 hl9 (lw_LA_st hLP) F L1 I1 hl.1 ⟨by omega, by omega⟩ a1 hb1 ⟨fx1, hwx1, f71, f191⟩ hg9 (fun u2 b9 H2 locs2 fs2 I2 L2 hg9 f30 => ?_)
      refine lv_istore (lv' := [(7, .int b9), (6, .int 1), (0, .ref b), (1, .ref ax), (2, .ref am), (3, .ref ao), (4, .ref ad), (5, .int (nI i))]) hx hb (show decode cL_law 2092 = .ok (.istore 7, 2) from by decide +kernel) hl (by decide) rfl (fun ls hl => ?_)
      refine lv_aload_n hx hb (show decode cL_law 2094 = .ok (.aload_n 2, 1) from by decide +kernel) rfl (lv_at hl 4 rfl) ?_
      obtain ⟨-, -, em, ex, eo, ed⟩ := I2.hl
      rw [← em]
      refine le_t hl9 (lw_LA_st hLP) F L2 I2 hl.1 ⟨by omega, by omega⟩ hg9 f30 (fun u3 H3 locs3 fs3 I3 L3 hg9 => ?_)
      refine lv_iload hx hb (show decode cL_law 2098 = .ok (.iload 6, 2) from by decide +kernel) (lv_at hl 1 rfl) ?_
      refine lv_icmp_eq (tgt := 2105) hx hb (show decode cL_law 2100 = .ok (.if_icmp .eq 5, 3) from by decide +kernel) (by decide) (fun _ => ?_) (fun h => absurd (by decide) h)
      refine lv_iload hx hb (show decode cL_law 2105 = .ok (.iload 6, 2) from by decide +kernel) (lv_at hl 1 rfl) ?_
      refine lv_if_ne (tgt := 2122) hx hb (show decode cL_law 2107 = .ok (.ifCond .ne 15, 3) from by decide +kernel) (by decide) (fun _ => ?_) (fun h => absurd h (by decide))
      refine lv_goto (tgt := 2357) hx hb (show decode cL_law 2122 = .ok (.goto 235, 3) from by decide +kernel) (by decide) ?_
      refine W.widen (k := cells + 100) (n := slots + 1000) (by omega) (by omega) ?_
      exact k _ _ _ _ _ _ _ _ I3 L3 (lv_sub hl [2, 3, 4, 5, 6, 7] rfl)
end
