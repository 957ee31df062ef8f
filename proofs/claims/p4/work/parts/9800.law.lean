theorem dlw_28 : decode cL_law 28 = .ok (.iload 5, 2) := by decide +kernel
theorem dlw_30 : decode cL_law 30 = .ok (.aload_n 0, 1) := by decide +kernel
theorem dlw_31 : decode cL_law 31 = .ok (.arraylength, 1) := by decide +kernel
theorem dlw_32 : decode cL_law 32 = .ok (.bipush 7, 2) := by decide +kernel
theorem dlw_34 : decode cL_law 34 = .ok (.isub, 1) := by decide +kernel
theorem dlw_35 : decode cL_law 35 = .ok (.if_icmp .gt 2328, 3) := by decide +kernel
theorem dlw_38 : decode cL_law 38 = .ok (.aload_n 0, 1) := by decide +kernel
theorem dlw_39 : decode cL_law 39 = .ok (.iload 5, 2) := by decide +kernel
theorem dlw_41 : decode cL_law 41 = .ok (.iaload, 1) := by decide +kernel
theorem dlw_42 : decode cL_law 42 = .ok (.bipush 63, 2) := by decide +kernel
theorem dlw_44 : decode cL_law 44 = .ok (.iand, 1) := by decide +kernel
theorem dlw_45 : decode cL_law 45 = .ok (.tableswitch 2312 0 55 #[239, 329, 421, 501, 517, 557, 597, 622, 652, 682, 698, 714, 766, 832, 884, 912, 940, 980, 1032, 1088, 1140, 1192, 1220, 1286, 1326, 1354, 1398, 1426, 1468, 1484, 1512, 1568, 1596, 1624, 1652, 1692, 1708, 1724, 1776, 1804, 1832, 1860, 1888, 1928, 1956, 1984, 2024, 2052, 2080, 2132, 2172, 2200, 2228, 2241, 2270, 2299], 239) := by decide +kernel
theorem dlw_2357 : decode cL_law 2357 = .ok (.iinc 5 7, 3) := by decide +kernel
theorem dlw_2360 : decode cL_law 2360 = .ok (.goto (-2332), 3) := by decide +kernel
theorem dlw_2363 : decode cL_law 2363 = .ok (.iconst 1, 1) := by decide +kernel
theorem dlw_2364 : decode cL_law 2364 = .ok (.ireturn, 1) := by decide +kernel
/-! the law's table and its loop -/
theorem lw_cmp {a i : Nat} (ha : a < 2147483648) (hi : i < 2147483648) : (nI a - 7 < nI i) ↔ a < i + 7 := by
  have e1 : (nI a).toInt = (a : Int) := nI_toInt (by omega)
  have e2 : (nI i).toInt = (i : Int) := nI_toInt (by omega)
  have e3 : (nI a - 7).toInt = (a : Int) - 7 := by
    rw [Int32.toInt_sub, e1, show (7 : Int32).toInt = 7 from rfl]
    exact en_b32 (by omega) (by omega)
  rw [Int32.lt_iff_toInt_lt, e3, e2]
  omega
section
variable {p : Program} {l : Launch} {e : Env} {R : Room} {s : State} {m : MethodId} {args : Array Value} {below : List Frame} {meth : Method} {c : Code} {Q : State → Prop}
variable {D : va_G} {tys : List (ClassId × FieldType)} {cO cD : ClassId} {A : Nat → Prop} {sh : en_H} {w : va_W} {H : Heap} {locs : List Loc} {ls : Array Slot} {cells slots qx qo qd : Nat} {cL : ClassId} {e0 ca : Nat} {af : Nat → Nat} {am ax ao ad b Ln i st : Nat} {xs : Nat → Int32} {cx cy : Int32} {fs : List Value}
set_option maxHeartbeats 4000000 in
set_option maxRecDepth 100000 in
theorem lw_table (hl9 : l.stackTraces = false) (G : lw_G cL e0 ca af D tys cO cD A s) (F : lw_Fm p R s m args c D tys cO cD A) (X : lw_X b Ln xs s A i) (L : lw_H D A s w H locs) (I : lw_I lw_E (lw_LA (lw_LR tys cL e0 af qx qo qd) am ax ao ad qx qo qd) tys cO cD qx qo qd sh w st cx cy fs) (hl : lv_has ls 9 (lw_lv b ax am ao ad i)) (hcs : cells + 100 ≤ R.cells ∧ slots + 1000 ≤ R.slots)
    (k : ∀ (u : en_H × va_W) (H1 : Heap) (locs1 : List Loc) (ls1 : Array Slot) (st' : Nat) (cx' cy' : Int32) (fs' : List Value), lw_I lw_E (lw_LA (lw_LR tys cL e0 af qx qo qd) am ax ao ad qx qo qd) tys cO cD qx qo qd u.1 u.2 st' cx' cy' fs' → lw_H D A s u.2 H1 locs1 → lv_has ls1 9 (lw_lv b ax am ao ad i) → W p l e R s m args below meth c H1 locs1 (cells + 100) (slots + 1000) Q (F0 m 2357 ls1 [])) (j : Nat) :
    W p l e R s m args below meth c H locs cells slots Q (F0 m 45 ls [.int (nI (j % 64))]) := by
  have hx := F.hx
  have hb := F.hb
  have hj : j % 64 < 64 := Nat.mod_lt _ (by decide)
  generalize j % 64 = j at hj ⊢
  match j, hj with
  | 0, _ => exact lv_tableIn (off := 239) (tgt := 284) hx hb dlw_45 (by decide) (by decide) (by decide) (by decide) (lc_0 hl9 F X L I hl hcs k)
  | 1, _ => exact lv_tableIn (off := 329) (tgt := 374) hx hb dlw_45 (by decide) (by decide) (by decide) (by decide) (lc_1 hl9 F X L I hl hcs k)
  | 2, _ => exact lv_tableIn (off := 421) (tgt := 466) hx hb dlw_45 (by decide) (by decide) (by decide) (by decide) (lc_2 hl9 F X L I hl hcs k)
  | 3, _ => exact lv_tableIn (off := 501) (tgt := 546) hx hb dlw_45 (by decide) (by decide) (by decide) (by decide) (lc_3 hl9 F X L I hl hcs k)
  | 4, _ => exact lv_tableIn (off := 517) (tgt := 562) hx hb dlw_45 (by decide) (by decide) (by decide) (by decide) (lc_4 hl9 lw_LR_st F X L I hl hcs k)
  | 5, _ => exact lv_tableIn (off := 557) (tgt := 602) hx hb dlw_45 (by decide) (by decide) (by decide) (by decide) (lc_5 hl9 lw_LR_st F X L I hl hcs k)
  | 6, _ => exact lv_tableIn (off := 597) (tgt := 642) hx hb dlw_45 (by decide) (by decide) (by decide) (by decide) (lc_6 hl9 lw_LR_st F X L I hl hcs k)
  | 7, _ => exact lv_tableIn (off := 622) (tgt := 667) hx hb dlw_45 (by decide) (by decide) (by decide) (by decide) (lc_7 hl9 lw_LR_st F X L I hl hcs k)
  | 8, _ => exact lv_tableIn (off := 652) (tgt := 697) hx hb dlw_45 (by decide) (by decide) (by decide) (by decide) (lc_8 hl9 F X L I hl hcs k)
  | 9, _ => exact lv_tableIn (off := 682) (tgt := 727) hx hb dlw_45 (by decide) (by decide) (by decide) (by decide) (lc_9 hl9 lw_LR_st F X L I hl hcs k)
  | 10, _ => exact lv_tableIn (off := 698) (tgt := 743) hx hb dlw_45 (by decide) (by decide) (by decide) (by decide) (lc_10 hl9 lw_LR_st F X L I hl hcs k)
  | 11, _ => exact lv_tableIn (off := 714) (tgt := 759) hx hb dlw_45 (by decide) (by decide) (by decide) (by decide) (lc_11 hl9 lw_LR_st F X L I hl hcs k)
  | 12, _ => exact lv_tableIn (off := 766) (tgt := 811) hx hb dlw_45 (by decide) (by decide) (by decide) (by decide) (lc_12 hl9 lw_LR_st F X L I hl hcs k)
  | 13, _ => exact lv_tableIn (off := 832) (tgt := 877) hx hb dlw_45 (by decide) (by decide) (by decide) (by decide) (lc_13 hl9 lw_LR_st F X L I hl hcs k)
  | 14, _ => exact lv_tableIn (off := 884) (tgt := 929) hx hb dlw_45 (by decide) (by decide) (by decide) (by decide) (lc_14 hl9 lw_LR_st F X L I hl hcs k)
  | 15, _ => exact lv_tableIn (off := 912) (tgt := 957) hx hb dlw_45 (by decide) (by decide) (by decide) (by decide) (lc_15 hl9 lw_LR_st F X L I hl hcs k)
  | 16, _ => exact lv_tableIn (off := 940) (tgt := 985) hx hb dlw_45 (by decide) (by decide) (by decide) (by decide) (lc_16 hl9 lw_LR_st F X L I hl hcs k)
  | 17, _ => exact lv_tableIn (off := 980) (tgt := 1025) hx hb dlw_45 (by decide) (by decide) (by decide) (by decide) (lc_17 hl9 lw_LR_st F X L I hl hcs k)
  | 18, _ => exact lv_tableIn (off := 1032) (tgt := 1077) hx hb dlw_45 (by decide) (by decide) (by decide) (by decide) (lc_18 hl9 lw_LR_st F X L I hl hcs k)
  | 19, _ => exact lv_tableIn (off := 1088) (tgt := 1133) hx hb dlw_45 (by decide) (by decide) (by decide) (by decide) (lc_19 hl9 lw_LR_st F X L I hl hcs k)
  | 20, _ => exact lv_tableIn (off := 1140) (tgt := 1185) hx hb dlw_45 (by decide) (by decide) (by decide) (by decide) (lc_20 hl9 lw_LR_st F X L I hl hcs k)
  | 21, _ => exact lv_tableIn (off := 1192) (tgt := 1237) hx hb dlw_45 (by decide) (by decide) (by decide) (by decide) (lc_21 hl9 lw_LR_st F X L I hl hcs k)
  | 22, _ => exact lv_tableIn (off := 1220) (tgt := 1265) hx hb dlw_45 (by decide) (by decide) (by decide) (by decide) (lc_22 hl9 lw_LR_st F X L I hl hcs k)
  | 23, _ => exact lv_tableIn (off := 1286) (tgt := 1331) hx hb dlw_45 (by decide) (by decide) (by decide) (by decide) (lc_23 hl9 lw_LR_st F X L I hl hcs k)
  | 24, _ => exact lv_tableIn (off := 1326) (tgt := 1371) hx hb dlw_45 (by decide) (by decide) (by decide) (by decide) (lc_24 hl9 lw_LR_st F X L I hl hcs k)
  | 25, _ => exact lv_tableIn (off := 1354) (tgt := 1399) hx hb dlw_45 (by decide) (by decide) (by decide) (by decide) (lc_25 hl9 lw_LR_st F X L I hl hcs k)
  | 26, _ => exact lv_tableIn (off := 1398) (tgt := 1443) hx hb dlw_45 (by decide) (by decide) (by decide) (by decide) (lc_26 hl9 lw_LR_st F X L I hl hcs k)
  | 27, _ => exact lv_tableIn (off := 1426) (tgt := 1471) hx hb dlw_45 (by decide) (by decide) (by decide) (by decide) (lc_27 hl9 lw_LR_st F X L I hl hcs k)
  | 28, _ => exact lv_tableIn (off := 1468) (tgt := 1513) hx hb dlw_45 (by decide) (by decide) (by decide) (by decide) (lc_28 hl9 F X L I hl hcs k)
  | 29, _ => exact lv_tableIn (off := 1484) (tgt := 1529) hx hb dlw_45 (by decide) (by decide) (by decide) (by decide) (lc_29 hl9 lw_LR_st F X L I hl hcs k)
  | 30, _ => exact lv_tableIn (off := 1512) (tgt := 1557) hx hb dlw_45 (by decide) (by decide) (by decide) (by decide) (lc_30 hl9 lw_LR_st F X L I hl hcs k)
  | 31, _ => exact lv_tableIn (off := 1568) (tgt := 1613) hx hb dlw_45 (by decide) (by decide) (by decide) (by decide) (lc_31 hl9 lw_LR_st F X L I hl hcs k)
  | 32, _ => exact lv_tableIn (off := 1596) (tgt := 1641) hx hb dlw_45 (by decide) (by decide) (by decide) (by decide) (lc_32 hl9 lw_LR_st F X L I hl hcs k)
  | 33, _ => exact lv_tableIn (off := 1624) (tgt := 1669) hx hb dlw_45 (by decide) (by decide) (by decide) (by decide) (lc_33 hl9 lw_LR_st F X L I hl hcs k)
  | 34, _ => exact lv_tableIn (off := 1652) (tgt := 1697) hx hb dlw_45 (by decide) (by decide) (by decide) (by decide) (lc_34 hl9 lw_LR_st F X L I hl hcs k)
  | 35, _ => exact lv_tableIn (off := 1692) (tgt := 1737) hx hb dlw_45 (by decide) (by decide) (by decide) (by decide) (lc_35 hl9 lw_LR_st F X L I hl hcs k)
  | 36, _ => exact lv_tableIn (off := 1708) (tgt := 1753) hx hb dlw_45 (by decide) (by decide) (by decide) (by decide) (lc_36 hl9 lw_LR_st F X L I hl hcs k)
  | 37, _ => exact lv_tableIn (off := 1724) (tgt := 1769) hx hb dlw_45 (by decide) (by decide) (by decide) (by decide) (lc_37 hl9 lw_LR_st F X L I hl hcs k)
  | 38, _ => exact lv_tableIn (off := 1776) (tgt := 1821) hx hb dlw_45 (by decide) (by decide) (by decide) (by decide) (lc_38 hl9 lw_LR_st F X L I hl hcs k)
  | 39, _ => exact lv_tableIn (off := 1804) (tgt := 1849) hx hb dlw_45 (by decide) (by decide) (by decide) (by decide) (lc_39 hl9 lw_LR_st F X L I hl hcs k)
  | 40, _ => exact lv_tableIn (off := 1832) (tgt := 1877) hx hb dlw_45 (by decide) (by decide) (by decide) (by decide) (lc_40 hl9 lw_LR_st F X L I hl hcs k)
  | 41, _ => exact lv_tableIn (off := 1860) (tgt := 1905) hx hb dlw_45 (by decide) (by decide) (by decide) (by decide) (lc_41 hl9 lw_LR_st F X L I hl hcs k)
  | 42, _ => exact lv_tableIn (off := 1888) (tgt := 1933) hx hb dlw_45 (by decide) (by decide) (by decide) (by decide) (lc_42 hl9 lw_LR_st F X L I hl hcs k)
  | 43, _ => exact lv_tableIn (off := 1928) (tgt := 1973) hx hb dlw_45 (by decide) (by decide) (by decide) (by decide) (lc_43 hl9 lw_LR_st F X L I hl hcs k)
  | 44, _ => exact lv_tableIn (off := 1956) (tgt := 2001) hx hb dlw_45 (by decide) (by decide) (by decide) (by decide) (lc_44 hl9 lw_LR_st F X L I hl hcs k)
  | 45, _ => exact lv_tableIn (off := 1984) (tgt := 2029) hx hb dlw_45 (by decide) (by decide) (by decide) (by decide) (lc_45 hl9 lw_LR_st F X L I hl hcs k)
  | 46, _ => exact lv_tableIn (off := 2024) (tgt := 2069) hx hb dlw_45 (by decide) (by decide) (by decide) (by decide) (lc_46 hl9 lw_LR_st F X L I hl hcs k)
  | 47, _ => exact lv_tableIn (off := 2052) (tgt := 2097) hx hb dlw_45 (by decide) (by decide) (by decide) (by decide) (lc_47 hl9 lw_LR_st F X L I hl hcs k)
  | 48, _ => exact lv_tableIn (off := 2080) (tgt := 2125) hx hb dlw_45 (by decide) (by decide) (by decide) (by decide) (lc_48 hl9 lw_LR_st G F X L I hl hcs k)
  | 49, _ => exact lv_tableIn (off := 2132) (tgt := 2177) hx hb dlw_45 (by decide) (by decide) (by decide) (by decide) (lc_49 hl9 lw_LR_st G F X L I hl hcs k)
  | 50, _ => exact lv_tableIn (off := 2172) (tgt := 2217) hx hb dlw_45 (by decide) (by decide) (by decide) (by decide) (lc_50 hl9 lw_LR_st G F X L I hl hcs k)
  | 51, _ => exact lv_tableIn (off := 2200) (tgt := 2245) hx hb dlw_45 (by decide) (by decide) (by decide) (by decide) (lc_51 hl9 lw_LR_st G F X L I hl hcs k)
  | 52, _ => exact lv_tableIn (off := 2228) (tgt := 2273) hx hb dlw_45 (by decide) (by decide) (by decide) (by decide) (lc_52 hl9 lw_LR_st F X L I hl hcs k)
  | 53, _ => exact lv_tableIn (off := 2241) (tgt := 2286) hx hb dlw_45 (by decide) (by decide) (by decide) (by decide) (lc_53 hl9 lw_LR_st F X L I hl hcs k)
  | 54, _ => exact lv_tableIn (off := 2270) (tgt := 2315) hx hb dlw_45 (by decide) (by decide) (by decide) (by decide) (lc_54 hl9 lw_LR_st F X L I hl hcs k)
  | 55, _ => exact lv_tableIn (off := 2299) (tgt := 2344) hx hb dlw_45 (by decide) (by decide) (by decide) (by decide) (lc_55 hl9 lw_LR_st F X L I hl hcs k)
  | n + 56, hn =>
    refine lv_tableOut (tgt := 2357) hx hb dlw_45 (Or.inr ?_) (by decide) ?_
    · have h5 : ∀ k : Nat, k < 8 → (55 : Int) < (nI (k + 56)).toInt := by decide
      exact h5 n (by omega)
    · refine W.widen (k := cells + 100) (n := slots + 1000) (by omega) (by omega) ?_
      exact k (sh, w) H locs ls st cx cy fs I L hl
set_option maxRecDepth 100000 in
/-- round after round -/
theorem lw_loop {C1 S1 : Nat} (hl9 : l.stackTraces = false) (G : lw_G cL e0 ca af D tys cO cD A s) (F : lw_Fm p R s m args c D tys cO cD A) (hX : va_X b Ln xs s s.heap) (hbl : b < s.heap.size) (hbA : ¬ A b) (hL : Ln < 1000000) (hC : C1 ≤ R.cells) (hS1 : S1 ≤ R.slots)
    (kk : ∀ (H : Heap) (locs : List Loc) (ls : Array Slot) (cells slots : Nat), cells ≤ C1 → slots ≤ S1 → va_S A s.heap H locs → W p l e R s m args below meth c H locs cells slots Q (F0 m 2363 ls [])) :
    ∀ (n i cells slots st : Nat) (cx cy : Int32) (fs : List Value) (u : en_H × va_W) (H : Heap) (locs : List Loc) (ls : Array Slot), Ln < i + 7 * n + 7 → i ≤ Ln → cells + 100 * n ≤ C1 → slots + 1000 * n ≤ S1 → lw_I lw_E (lw_LA (lw_LR tys cL e0 af qx qo qd) am ax ao ad qx qo qd) tys cO cD qx qo qd u.1 u.2 st cx cy fs → lw_H D A s u.2 H locs → lv_has ls 9 (lw_lv b ax am ao ad i) → W p l e R s m args below meth c H locs cells slots Q (F0 m 28 ls []) := by
  have hx := F.hx
  have hb := F.hb
  intro n
  induction n with
  | zero =>
    intro i cells slots st cx cy fs u H locs ls h1 h2 h3 h4 I L hl
    refine lv_iload hx hb dlw_28 (lv_at hl 5 rfl) ?_
    refine lv_aload_n hx hb dlw_30 rfl (lv_at hl 0 rfl) ?_
    refine va_slen hx hb hX hbl hbA L.hS dlw_31 ?_
    refine lv_bipush (v := 7) hx hb dlw_32 (by decide) ?_
    refine lv_isub hx hb dlw_34 ?_
    refine lv_icmp_gt (tgt := 2363) hx hb dlw_35 (by decide) (fun _ => ?_) (fun c9 => absurd ((lw_cmp (a := Ln) (i := i) (by omega) (by omega)).mpr (by omega)) c9)
    exact kk H locs ls cells slots (by omega) (by omega) L.hS
  | succ n ih =>
    intro i cells slots st cx cy fs u H locs ls h1 h2 h3 h4 I L hl
    refine lv_iload hx hb dlw_28 (lv_at hl 5 rfl) ?_
    refine lv_aload_n hx hb dlw_30 rfl (lv_at hl 0 rfl) ?_
    refine va_slen hx hb hX hbl hbA L.hS dlw_31 ?_
    refine lv_bipush (v := 7) hx hb dlw_32 (by decide) ?_
    refine lv_isub hx hb dlw_34 ?_
    refine lv_icmp_gt (tgt := 2363) hx hb dlw_35 (by decide) (fun _ => ?_) (fun c9 => ?_)
    · exact kk H locs ls cells slots (by omega) (by omega) L.hS
    · have h7 : ¬ Ln < i + 7 := fun h => c9 ((lw_cmp (a := Ln) (i := i) (by omega) (by omega)).mpr h)
      refine lv_aload_n hx hb dlw_38 rfl (lv_at hl 0 rfl) ?_
      refine lv_iload hx hb dlw_39 (lv_at hl 5 rfl) ?_
      refine va_sld hx hb hX hbl hbA L.hS (vp_in_nI (n := i) (by omega) (by omega)) dlw_41 ?_
      refine lv_bipush (v := 63) hx hb dlw_42 (by decide) ?_
      refine lv_iand hx hb dlw_44 ?_
      rw [pk_and _ (m := 63) 6 (by decide)]
      refine lw_table hl9 G F (i := i) ⟨hX, hbl, hbA, by omega, by omega⟩ L I hl ⟨by omega, by omega⟩ (fun u1 H1 locs1 ls1 st' cx' cy' fs' I1 L1 hl1 => ?_) _
      refine lv_iinc (v := nI (i + 7)) (lv' := [(5, .int (nI (i + 7))), (0, .ref b), (1, .ref ax), (2, .ref am), (3, .ref ao), (4, .ref ad)]) hx hb dlw_2357 hl1 (k := 5) rfl (lw_nI i 7) (by decide) rfl (fun ls2 hl2 => ?_)
      refine lv_goto (tgt := 28) hx hb dlw_2360 (by decide) ?_
      exact ih (i + 7) _ _ st' cx' cy' fs' u1 H1 locs1 ls2 (by omega) (by omega) (by omega) (by omega) I1 L1 (lv_sub hl2 [1, 2, 3, 4, 5, 0] rfl)
end
