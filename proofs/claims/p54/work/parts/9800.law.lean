theorem dlw_28 : decode cL_law 28 = .ok (.iload 5, 2) := by decide +kernel
theorem dlw_30 : decode cL_law 30 = .ok (.aload_n 0, 1) := by decide +kernel
theorem dlw_31 : decode cL_law 31 = .ok (.arraylength, 1) := by decide +kernel
theorem dlw_32 : decode cL_law 32 = .ok (.bipush 7, 2) := by decide +kernel
theorem dlw_34 : decode cL_law 34 = .ok (.isub, 1) := by decide +kernel
theorem dlw_35 : decode cL_law 35 = .ok (.if_icmp .gt 2301, 3) := by decide +kernel
theorem dlw_38 : decode cL_law 38 = .ok (.aload_n 0, 1) := by decide +kernel
theorem dlw_39 : decode cL_law 39 = .ok (.iload 5, 2) := by decide +kernel
theorem dlw_41 : decode cL_law 41 = .ok (.iaload, 1) := by decide +kernel
theorem dlw_42 : decode cL_law 42 = .ok (.bipush 63, 2) := by decide +kernel
theorem dlw_44 : decode cL_law 44 = .ok (.iand, 1) := by decide +kernel
theorem dlw_45 : decode cL_law 45 = .ok (.tableswitch 2285 0 55 #[239, 329, 421, 473, 489, 529, 569, 594, 624, 654, 670, 686, 738, 804, 856, 884, 912, 952, 1004, 1060, 1112, 1164, 1192, 1258, 1298, 1326, 1370, 1398, 1440, 1456, 1484, 1540, 1568, 1596, 1624, 1664, 1680, 1696, 1748, 1776, 1804, 1832, 1860, 1900, 1928, 1956, 1996, 2024, 2052, 2104, 2144, 2172, 2200, 2214, 2243, 2272], 239) := by decide +kernel
theorem dlw_2330 : decode cL_law 2330 = .ok (.iinc 5 7, 3) := by decide +kernel
theorem dlw_2333 : decode cL_law 2333 = .ok (.goto (-2305), 3) := by decide +kernel
theorem dlw_2336 : decode cL_law 2336 = .ok (.iconst 1, 1) := by decide +kernel
theorem dlw_2337 : decode cL_law 2337 = .ok (.ireturn, 1) := by decide +kernel
/-! the law's table and its loop -/
theorem lw_cmp {a i : Nat} (ha : a < 2147483648) (hi : i < 2147483648) : (nI a - 7 < nI i) ↔ a < i + 7 := by
  have e1 : (nI a).toInt = (a : Int) := nI_toInt (by omega)
  have e2 : (nI i).toInt = (i : Int) := nI_toInt (by omega)
  have e3 : (nI a - 7).toInt = (a : Int) - 7 := by
    rw [Int32.toInt_sub, e1, show (7 : Int32).toInt = 7 from rfl]
    exact en_b32 (by omega) (by omega)
  rw [Int32.lt_iff_toInt_lt, e3, e2]
  omega
section
variable {p : Program} {l : Launch} {e : Env} {R : Room} {s : State} {m : MethodId} {args : Array Value} {below : List Frame} {meth : Method} {c : Code} {Q : State → Prop}
variable {D : va_G} {tys : List (ClassId × FieldType)} {cO cD : ClassId} {A : Nat → Prop} {sh : en_H} {w : va_W} {H : Heap} {locs : List Loc} {ls : Array Slot} {cells slots qx qo qd : Nat} {cL : ClassId} {e0 ca : Nat} {af : Nat → Nat} {am ax ao ad b Ln i st : Nat} {xs : Nat → Int32} {cx cy : Int32} {fs : List Value}
set_option maxHeartbeats 4000000 in
set_option maxRecDepth 100000 in
theorem lw_table (hl9 : l.stackTraces = false) (G : lw_G cL e0 ca af D tys cO cD A s) (F : lw_Fm p R s m args c D tys cO cD A) (X : lw_X b Ln xs s A i) (L : lw_H D A s w H locs) (I : lw_I lw_E (lw_LA (lw_LR tys cL e0 af qx qo qd) am ax ao ad qx qo qd) tys cO cD qx qo qd sh w st cx cy fs) (hl : lv_has ls 9 (lw_lv b ax am ao ad i)) (hcs : cells + 100 ≤ R.cells ∧ slots + 1000 ≤ R.slots)
    (k : ∀ (u : en_H × va_W) (H1 : Heap) (locs1 : List Loc) (ls1 : Array Slot) (st' : Nat) (cx' cy' : Int32) (fs' : List Value), lw_I lw_E (lw_LA (lw_LR tys cL e0 af qx qo qd) am ax ao ad qx qo qd) tys cO cD qx qo qd u.1 u.2 st' cx' cy' fs' → lw_H D A s u.2 H1 locs1 → lv_has ls1 9 (lw_lv b ax am ao ad i) → W p l e R s m args below meth c H1 locs1 (cells + 100) (slots + 1000) Q (F0 m 2330 ls1 [])) (j : Nat) :
    W p l e R s m args below meth c H locs cells slots Q (F0 m 45 ls [.int (nI (j % 64))]) := by
  have hx := F.hx
  have hb := F.hb
  have hj : j % 64 < 64 := Nat.mod_lt _ (by decide)
  generalize j % 64 = j at hj ⊢
  match j, hj with
  | 0, _ => exact lv_tableIn (off := 239) (tgt := 284) hx hb dlw_45 (by decide) (by decide) (by decide) (by decide) (lc_0 hl9 F X L I hl hcs k)
  | 1, _ => exact lv_tableIn (off := 329) (tgt := 374) hx hb dlw_45 (by decide) (by decide) (by decide) (by decide) (lc_1 hl9 F X L I hl hcs k)
  | 2, _ => exact lv_tableIn (off := 421) (tgt := 466) hx hb dlw_45 (by decide) (by decide) (by decide) (by decide) (lc_2 hl9 lw_LR_st F X L I hl hcs k)
  | 3, _ => exact lv_tableIn (off := 473) (tgt := 518) hx hb dlw_45 (by decide) (by decide) (by decide) (by decide) (lc_3 hl9 F X L I hl hcs k)
  | 4, _ => exact lv_tableIn (off := 489) (tgt := 534) hx hb dlw_45 (by decide) (by decide) (by decide) (by decide) (lc_4 hl9 lw_LR_st F X L I hl hcs k)
  | 5, _ => exact lv_tableIn (off := 529) (tgt := 574) hx hb dlw_45 (by decide) (by decide) (by decide) (by decide) (lc_5 hl9 lw_LR_st F X L I hl hcs k)
  | 6, _ => exact lv_tableIn (off := 569) (tgt := 614) hx hb dlw_45 (by decide) (by decide) (by decide) (by decide) (lc_6 hl9 lw_LR_st F X L I hl hcs k)
  | 7, _ => exact lv_tableIn (off := 594) (tgt := 639) hx hb dlw_45 (by decide) (by decide) (by decide) (by decide) (lc_7 hl9 lw_LR_st F X L I hl hcs k)
  | 8, _ => exact lv_tableIn (off := 624) (tgt := 669) hx hb dlw_45 (by decide) (by decide) (by decide) (by decide) (lc_8 hl9 F X L I hl hcs k)
  | 9, _ => exact lv_tableIn (off := 654) (tgt := 699) hx hb dlw_45 (by decide) (by decide) (by decide) (by decide) (lc_9 hl9 lw_LR_st F X L I hl hcs k)
  | 10, _ => exact lv_tableIn (off := 670) (tgt := 715) hx hb dlw_45 (by decide) (by decide) (by decide) (by decide) (lc_10 hl9 lw_LR_st F X L I hl hcs k)
  | 11, _ => exact lv_tableIn (off := 686) (tgt := 731) hx hb dlw_45 (by decide) (by decide) (by decide) (by decide) (lc_11 hl9 lw_LR_st F X L I hl hcs k)
  | 12, _ => exact lv_tableIn (off := 738) (tgt := 783) hx hb dlw_45 (by decide) (by decide) (by decide) (by decide) (lc_12 hl9 lw_LR_st F X L I hl hcs k)
  | 13, _ => exact lv_tableIn (off := 804) (tgt := 849) hx hb dlw_45 (by decide) (by decide) (by decide) (by decide) (lc_13 hl9 lw_LR_st F X L I hl hcs k)
  | 14, _ => exact lv_tableIn (off := 856) (tgt := 901) hx hb dlw_45 (by decide) (by decide) (by decide) (by decide) (lc_14 hl9 lw_LR_st F X L I hl hcs k)
  | 15, _ => exact lv_tableIn (off := 884) (tgt := 929) hx hb dlw_45 (by decide) (by decide) (by decide) (by decide) (lc_15 hl9 lw_LR_st F X L I hl hcs k)
  | 16, _ => exact lv_tableIn (off := 912) (tgt := 957) hx hb dlw_45 (by decide) (by decide) (by decide) (by decide) (lc_16 hl9 lw_LR_st F X L I hl hcs k)
  | 17, _ => exact lv_tableIn (off := 952) (tgt := 997) hx hb dlw_45 (by decide) (by decide) (by decide) (by decide) (lc_17 hl9 lw_LR_st F X L I hl hcs k)
  | 18, _ => exact lv_tableIn (off := 1004) (tgt := 1049) hx hb dlw_45 (by decide) (by decide) (by decide) (by decide) (lc_18 hl9 lw_LR_st F X L I hl hcs k)
  | 19, _ => exact lv_tableIn (off := 1060) (tgt := 1105) hx hb dlw_45 (by decide) (by decide) (by decide) (by decide) (lc_19 hl9 lw_LR_st F X L I hl hcs k)
  | 20, _ => exact lv_tableIn (off := 1112) (tgt := 1157) hx hb dlw_45 (by decide) (by decide) (by decide) (by decide) (lc_20 hl9 lw_LR_st F X L I hl hcs k)
  | 21, _ => exact lv_tableIn (off := 1164) (tgt := 1209) hx hb dlw_45 (by decide) (by decide) (by decide) (by decide) (lc_21 hl9 lw_LR_st F X L I hl hcs k)
  | 22, _ => exact lv_tableIn (off := 1192) (tgt := 1237) hx hb dlw_45 (by decide) (by decide) (by decide) (by decide) (lc_22 hl9 lw_LR_st F X L I hl hcs k)
  | 23, _ => exact lv_tableIn (off := 1258) (tgt := 1303) hx hb dlw_45 (by decide) (by decide) (by decide) (by decide) (lc_23 hl9 lw_LR_st F X L I hl hcs k)
  | 24, _ => exact lv_tableIn (off := 1298) (tgt := 1343) hx hb dlw_45 (by decide) (by decide) (by decide) (by decide) (lc_24 hl9 lw_LR_st F X L I hl hcs k)
  | 25, _ => exact lv_tableIn (off := 1326) (tgt := 1371) hx hb dlw_45 (by decide) (by decide) (by decide) (by decide) (lc_25 hl9 lw_LR_st F X L I hl hcs k)
  | 26, _ => exact lv_tableIn (off := 1370) (tgt := 1415) hx hb dlw_45 (by decide) (by decide) (by decide) (by decide) (lc_26 hl9 lw_LR_st F X L I hl hcs k)
  | 27, _ => exact lv_tableIn (off := 1398) (tgt := 1443) hx hb dlw_45 (by decide) (by decide) (by decide) (by decide) (lc_27 hl9 lw_LR_st F X L I hl hcs k)
  | 28, _ => exact lv_tableIn (off := 1440) (tgt := 1485) hx hb dlw_45 (by decide) (by decide) (by decide) (by decide) (lc_28 hl9 F X L I hl hcs k)
  | 29, _ => exact lv_tableIn (off := 1456) (tgt := 1501) hx hb dlw_45 (by decide) (by decide) (by decide) (by decide) (lc_29 hl9 lw_LR_st F X L I hl hcs k)
  | 30, _ => exact lv_tableIn (off := 1484) (tgt := 1529) hx hb dlw_45 (by decide) (by decide) (by decide) (by decide) (lc_30 hl9 lw_LR_st F X L I hl hcs k)
  | 31, _ => exact lv_tableIn (off := 1540) (tgt := 1585) hx hb dlw_45 (by decide) (by decide) (by decide) (by decide) (lc_31 hl9 lw_LR_st F X L I hl hcs k)
  | 32, _ => exact lv_tableIn (off := 1568) (tgt := 1613) hx hb dlw_45 (by decide) (by decide) (by decide) (by decide) (lc_32 hl9 lw_LR_st F X L I hl hcs k)
  | 33, _ => exact lv_tableIn (off := 1596) (tgt := 1641) hx hb dlw_45 (by decide) (by decide) (by decide) (by decide) (lc_33 hl9 lw_LR_st F X L I hl hcs k)
  | 34, _ => exact lv_tableIn (off := 1624) (tgt := 1669) hx hb dlw_45 (by decide) (by decide) (by decide) (by decide) (lc_34 hl9 lw_LR_st F X L I hl hcs k)
  | 35, _ => exact lv_tableIn (off := 1664) (tgt := 1709) hx hb dlw_45 (by decide) (by decide) (by decide) (by decide) (lc_35 hl9 lw_LR_st F X L I hl hcs k)
  | 36, _ => exact lv_tableIn (off := 1680) (tgt := 1725) hx hb dlw_45 (by decide) (by decide) (by decide) (by decide) (lc_36 hl9 lw_LR_st F X L I hl hcs k)
  | 37, _ => exact lv_tableIn (off := 1696) (tgt := 1741) hx hb dlw_45 (by decide) (by decide) (by decide) (by decide) (lc_37 hl9 lw_LR_st F X L I hl hcs k)
  | 38, _ => exact lv_tableIn (off := 1748) (tgt := 1793) hx hb dlw_45 (by decide) (by decide) (by decide) (by decide) (lc_38 hl9 lw_LR_st F X L I hl hcs k)
  | 39, _ => exact lv_tableIn (off := 1776) (tgt := 1821) hx hb dlw_45 (by decide) (by decide) (by decide) (by decide) (lc_39 hl9 lw_LR_st F X L I hl hcs k)
  | 40, _ => exact lv_tableIn (off := 1804) (tgt := 1849) hx hb dlw_45 (by decide) (by decide) (by decide) (by decide) (lc_40 hl9 lw_LR_st F X L I hl hcs k)
  | 41, _ => exact lv_tableIn (off := 1832) (tgt := 1877) hx hb dlw_45 (by decide) (by decide) (by decide) (by decide) (lc_41 hl9 lw_LR_st F X L I hl hcs k)
  | 42, _ => exact lv_tableIn (off := 1860) (tgt := 1905) hx hb dlw_45 (by decide) (by decide) (by decide) (by decide) (lc_42 hl9 lw_LR_st F X L I hl hcs k)
  | 43, _ => exact lv_tableIn (off := 1900) (tgt := 1945) hx hb dlw_45 (by decide) (by decide) (by decide) (by decide) (lc_43 hl9 lw_LR_st F X L I hl hcs k)
  | 44, _ => exact lv_tableIn (off := 1928) (tgt := 1973) hx hb dlw_45 (by decide) (by decide) (by decide) (by decide) (lc_44 hl9 lw_LR_st F X L I hl hcs k)
  | 45, _ => exact lv_tableIn (off := 1956) (tgt := 2001) hx hb dlw_45 (by decide) (by decide) (by decide) (by decide) (lc_45 hl9 lw_LR_st F X L I hl hcs k)
  | 46, _ => exact lv_tableIn (off := 1996) (tgt := 2041) hx hb dlw_45 (by decide) (by decide) (by decide) (by decide) (lc_46 hl9 lw_LR_st F X L I hl hcs k)
  | 47, _ => exact lv_tableIn (off := 2024) (tgt := 2069) hx hb dlw_45 (by decide) (by decide) (by decide) (by decide) (lc_47 hl9 lw_LR_st F X L I hl hcs k)
  | 48, _ => exact lv_tableIn (off := 2052) (tgt := 2097) hx hb dlw_45 (by decide) (by decide) (by decide) (by decide) (lc_48 hl9 lw_LR_st G F X L I hl hcs k)
  | 49, _ => exact lv_tableIn (off := 2104) (tgt := 2149) hx hb dlw_45 (by decide) (by decide) (by decide) (by decide) (lc_49 hl9 lw_LR_st G F X L I hl hcs k)
  | 50, _ => exact lv_tableIn (off := 2144) (tgt := 2189) hx hb dlw_45 (by decide) (by decide) (by decide) (by decide) (lc_50 hl9 lw_LR_st G F X L I hl hcs k)
  | 51, _ => exact lv_tableIn (off := 2172) (tgt := 2217) hx hb dlw_45 (by decide) (by decide) (by decide) (by decide) (lc_51 hl9 lw_LR_st G F X L I hl hcs k)
  | 52, _ => exact lv_tableIn (off := 2200) (tgt := 2245) hx hb dlw_45 (by decide) (by decide) (by decide) (by decide) (lc_52 hl9 F X L I hl hcs k)
  | 53, _ => exact lv_tableIn (off := 2214) (tgt := 2259) hx hb dlw_45 (by decide) (by decide) (by decide) (by decide) (lc_53 hl9 lw_LR_st F X L I hl hcs k)
  | 54, _ => exact lv_tableIn (off := 2243) (tgt := 2288) hx hb dlw_45 (by decide) (by decide) (by decide) (by decide) (lc_54 hl9 lw_LR_st F X L I hl hcs k)
  | 55, _ => exact lv_tableIn (off := 2272) (tgt := 2317) hx hb dlw_45 (by decide) (by decide) (by decide) (by decide) (lc_55 hl9 lw_LR_st F X L I hl hcs k)
  | n + 56, hn =>
    refine lv_tableOut (tgt := 2330) hx hb dlw_45 (Or.inr ?_) (by decide) ?_
    · have h5 : ∀ k : Nat, k < 8 → (55 : Int) < (nI (k + 56)).toInt := by decide
      exact h5 n (by omega)
    · refine W.widen (k := cells + 100) (n := slots + 1000) (by omega) (by omega) ?_
      exact k (sh, w) H locs ls st cx cy fs I L hl
set_option maxRecDepth 100000 in
/-- round after round -/
theorem lw_loop {C1 S1 : Nat} (hl9 : l.stackTraces = false) (G : lw_G cL e0 ca af D tys cO cD A s) (F : lw_Fm p R s m args c D tys cO cD A) (hX : va_X b Ln xs s s.heap) (hbl : b < s.heap.size) (hbA : ¬ A b) (hL : Ln < 1000000) (hC : C1 ≤ R.cells) (hS1 : S1 ≤ R.slots)
    (kk : ∀ (H : Heap) (locs : List Loc) (ls : Array Slot) (cells slots : Nat), cells ≤ C1 → slots ≤ S1 → va_S A s.heap H locs → W p l e R s m args below meth c H locs cells slots Q (F0 m 2336 ls [])) :
    ∀ (n i cells slots st : Nat) (cx cy : Int32) (fs : List Value) (u : en_H × va_W) (H : Heap) (locs : List Loc) (ls : Array Slot), Ln < i + 7 * n + 7 → i ≤ Ln → cells + 100 * n ≤ C1 → slots + 1000 * n ≤ S1 → lw_I lw_E (lw_LA (lw_LR tys cL e0 af qx qo qd) am ax ao ad qx qo qd) tys cO cD qx qo qd u.1 u.2 st cx cy fs → lw_H D A s u.2 H locs → lv_has ls 9 (lw_lv b ax am ao ad i) → W p l e R s m args below meth c H locs cells slots Q (F0 m 28 ls []) := by
  have hx := F.hx
  have hb := F.hb
  intro n
  induction n with
  | zero =>
    intro i cells slots st cx cy fs u H locs ls h1 h2 h3 h4 I L hl
    refine lv_iload hx hb dlw_28 (lv_at hl 5 rfl) ?_
    refine lv_aload_n hx hb dlw_30 rfl (lv_at hl 0 rfl) ?_
    refine va_slen hx hb hX hbl hbA L.hS dlw_31 ?_
    refine lv_bipush (v := 7) hx hb dlw_32 (by decide) ?_
    refine lv_isub hx hb dlw_34 ?_
    refine lv_icmp_gt (tgt := 2336) hx hb dlw_35 (by decide) (fun _ => ?_) (fun c9 => absurd ((lw_cmp (a := Ln) (i := i) (by omega) (by omega)).mpr (by omega)) c9)
    exact kk H locs ls cells slots (by omega) (by omega) L.hS
  | succ n ih =>
    intro i cells slots st cx cy fs u H locs ls h1 h2 h3 h4 I L hl
    refine lv_iload hx hb dlw_28 (lv_at hl 5 rfl) ?_
    refine lv_aload_n hx hb dlw_30 rfl (lv_at hl 0 rfl) ?_
    refine va_slen hx hb hX hbl hbA L.hS dlw_31 ?_
    refine lv_bipush (v := 7) hx hb dlw_32 (by decide) ?_
    refine lv_isub hx hb dlw_34 ?_
    refine lv_icmp_gt (tgt := 2336) hx hb dlw_35 (by decide) (fun _ => ?_) (fun c9 => ?_)
    · exact kk H locs ls cells slots (by omega) (by omega) L.hS
    · have h7 : ¬ Ln < i + 7 := fun h => c9 ((lw_cmp (a := Ln) (i := i) (by omega) (by omega)).mpr h)
      refine lv_aload_n hx hb dlw_38 rfl (lv_at hl 0 rfl) ?_
      refine lv_iload hx hb dlw_39 (lv_at hl 5 rfl) ?_
      refine va_sld hx hb hX hbl hbA L.hS (vp_in_nI (n := i) (by omega) (by omega)) dlw_41 ?_
      refine lv_bipush (v := 63) hx hb dlw_42 (by decide) ?_
      refine lv_iand hx hb dlw_44 ?_
      rw [pk_and _ (m := 63) 6 (by decide)]
      refine lw_table hl9 G F (i := i) ⟨hX, hbl, hbA, by omega, by omega⟩ L I hl ⟨by omega, by omega⟩ (fun u1 H1 locs1 ls1 st' cx' cy' fs' I1 L1 hl1 => ?_) _
      refine lv_iinc (v := nI (i + 7)) (lv' := [(5, .int (nI (i + 7))), (0, .ref b), (1, .ref ax), (2, .ref am), (3, .ref ao), (4, .ref ad)]) hx hb dlw_2330 hl1 (k := 5) rfl (lw_nI i 7) (by decide) rfl (fun ls2 hl2 => ?_)
      refine lv_goto (tgt := 28) hx hb dlw_2333 (by decide) ?_
      exact ih (i + 7) _ _ st' cx' cy' fs' u1 H1 locs1 ls2 (by omega) (by omega) (by omega) (by omega) I1 L1 (lv_sub hl2 [1, 2, 3, 4, 5, 0] rfl)
end
