/-! the sum of the cells' kinds -/
def kx_ci (g : Nat → Int32) (s : Int64) : Nat → Int64
  | 0 => s
  | k + 1 => 31 * kx_ci g s k + (g k).toInt64
def kx_co (c : Nat → Nat → Int32) : Nat → Int64
  | 0 => 7
  | h + 1 => kx_ci (c h) (kx_co c h) 600
theorem kx_ci_s {g : Nat → Int32} {s : Int64} {k : Nat} : kx_ci g s (k + 1) = 31 * kx_ci g s k + (g k).toInt64 := by rw [kx_ci]
theorem kx_ci_0 {g : Nat → Int32} {s : Int64} : kx_ci g s 0 = s := by rw [kx_ci]
theorem kx_co_s {c : Nat → Nat → Int32} {h : Nat} : kx_co c (h + 1) = kx_ci (c h) (kx_co c h) 600 := by rw [kx_co]
theorem kx_co_0 {c : Nat → Nat → Int32} : kx_co c 0 = 7 := by rw [kx_co]
theorem kx_ci_e {f g : Nat → Int32} {s : Int64} (k : Nat) (h : ∀ i, i < k → f i = g i) : kx_ci f s k = kx_ci g s k := by
  induction k with
  | zero => rw [kx_ci_0, kx_ci_0]
  | succ k ih => rw [kx_ci_s, kx_ci_s, ih fun i hi => h i (by omega), h k (by omega)]
theorem kx_co_e {c d : Nat → Nat → Int32} (n : Nat) (h : ∀ j, j < n → ∀ i, i < 600 → c j i = d j i) : kx_co c n = kx_co d n := by
  induction n with
  | zero => rw [kx_co_0, kx_co_0]
  | succ n ih => rw [kx_co_s, kx_co_s, ih fun j hj => h j (by omega), kx_ci_e 600 (h n (by omega))]
theorem dk_X3_kindOf_0 : decode cX3_kindOf 0 = .ok (.iload_n 1, 1) := by decide +kernel
theorem dk_X3_kindOf_1 : decode cX3_kindOf 1 = .ok (.ifCond .lt 19, 3) := by decide +kernel
theorem dk_X3_kindOf_4 : decode cX3_kindOf 4 = .ok (.iload_n 1, 1) := by decide +kernel
theorem dk_X3_kindOf_5 : decode cX3_kindOf 5 = .ok (.sipush 600, 3) := by decide +kernel
theorem dk_X3_kindOf_8 : decode cX3_kindOf 8 = .ok (.if_icmp .ge 12, 3) := by decide +kernel
theorem dk_X3_kindOf_11 : decode cX3_kindOf 11 = .ok (.aload_n 0, 1) := by decide +kernel
theorem dk_X3_kindOf_12 : decode cX3_kindOf 12 = .ok (.getfield 9, 3) := by decide +kernel
theorem dk_X3_kindOf_15 : decode cX3_kindOf 15 = .ok (.iload_n 1, 1) := by decide +kernel
theorem dk_X3_kindOf_16 : decode cX3_kindOf 16 = .ok (.caload, 1) := by decide +kernel
theorem dk_X3_kindOf_17 : decode cX3_kindOf 17 = .ok (.goto 5, 3) := by decide +kernel
theorem dk_X3_kindOf_22 : decode cX3_kindOf 22 = .ok (.ireturn, 1) := by decide +kernel
theorem dk_X6_checksum_0 : decode cX6_checksum 0 = .ok (.ldc2_w 550, 3) := by decide +kernel
theorem dk_X6_checksum_3 : decode cX6_checksum 3 = .ok (.lstore_n 1, 1) := by decide +kernel
theorem dk_X6_checksum_4 : decode cX6_checksum 4 = .ok (.iconst 0, 1) := by decide +kernel
theorem dk_X6_checksum_5 : decode cX6_checksum 5 = .ok (.istore_n 3, 1) := by decide +kernel
theorem dk_X6_checksum_6 : decode cX6_checksum 6 = .ok (.iload_n 3, 1) := by decide +kernel
theorem dk_X6_checksum_7 : decode cX6_checksum 7 = .ok (.aload_n 0, 1) := by decide +kernel
theorem dk_X6_checksum_8 : decode cX6_checksum 8 = .ok (.getfield 62, 3) := by decide +kernel
theorem dk_X6_checksum_11 : decode cX6_checksum 11 = .ok (.if_icmp .ge 49, 3) := by decide +kernel
theorem dk_X6_checksum_14 : decode cX6_checksum 14 = .ok (.aload_n 0, 1) := by decide +kernel
theorem dk_X6_checksum_15 : decode cX6_checksum 15 = .ok (.getfield 11, 3) := by decide +kernel
theorem dk_X6_checksum_18 : decode cX6_checksum 18 = .ok (.iload_n 3, 1) := by decide +kernel
theorem dk_X6_checksum_19 : decode cX6_checksum 19 = .ok (.aaload, 1) := by decide +kernel
theorem dk_X6_checksum_20 : decode cX6_checksum 20 = .ok (.astore 4, 2) := by decide +kernel
theorem dk_X6_checksum_22 : decode cX6_checksum 22 = .ok (.iconst 0, 1) := by decide +kernel
theorem dk_X6_checksum_23 : decode cX6_checksum 23 = .ok (.istore 5, 2) := by decide +kernel
theorem dk_X6_checksum_25 : decode cX6_checksum 25 = .ok (.iload 5, 2) := by decide +kernel
theorem dk_X6_checksum_27 : decode cX6_checksum 27 = .ok (.sipush 600, 3) := by decide +kernel
theorem dk_X6_checksum_30 : decode cX6_checksum 30 = .ok (.if_icmp .ge 24, 3) := by decide +kernel
theorem dk_X6_checksum_33 : decode cX6_checksum 33 = .ok (.ldc2_w 552, 3) := by decide +kernel
theorem dk_X6_checksum_36 : decode cX6_checksum 36 = .ok (.lload_n 1, 1) := by decide +kernel
theorem dk_X6_checksum_37 : decode cX6_checksum 37 = .ok (.lmul, 1) := by decide +kernel
theorem dk_X6_checksum_38 : decode cX6_checksum 38 = .ok (.aload 4, 2) := by decide +kernel
theorem dk_X6_checksum_40 : decode cX6_checksum 40 = .ok (.iload 5, 2) := by decide +kernel
theorem dk_X6_checksum_42 : decode cX6_checksum 42 = .ok (.invokevirtual 118, 3) := by decide +kernel
theorem dk_X6_checksum_45 : decode cX6_checksum 45 = .ok (.i2l, 1) := by decide +kernel
theorem dk_X6_checksum_46 : decode cX6_checksum 46 = .ok (.ladd, 1) := by decide +kernel
theorem dk_X6_checksum_47 : decode cX6_checksum 47 = .ok (.lstore_n 1, 1) := by decide +kernel
theorem dk_X6_checksum_48 : decode cX6_checksum 48 = .ok (.iinc 5 1, 3) := by decide +kernel
theorem dk_X6_checksum_51 : decode cX6_checksum 51 = .ok (.goto (-26), 3) := by decide +kernel
theorem dk_X6_checksum_54 : decode cX6_checksum 54 = .ok (.iinc 3 1, 3) := by decide +kernel
theorem dk_X6_checksum_57 : decode cX6_checksum 57 = .ok (.goto (-51), 3) := by decide +kernel
theorem dk_X6_checksum_60 : decode cX6_checksum 60 = .ok (.lload_n 1, 1) := by decide +kernel
theorem dk_X6_checksum_61 : decode cX6_checksum 61 = .ok (.lreturn, 1) := by decide +kernel
theorem dk_X7_checksum_0 : decode cX7_checksum 0 = .ok (.aload_n 0, 1) := by decide +kernel
theorem dk_X7_checksum_1 : decode cX7_checksum 1 = .ok (.iconst 0, 1) := by decide +kernel
theorem dk_X7_checksum_2 : decode cX7_checksum 2 = .ok (.putfield 79, 3) := by decide +kernel
theorem dk_X7_checksum_5 : decode cX7_checksum 5 = .ok (.ldc2_w 331, 3) := by decide +kernel
theorem dk_X7_checksum_8 : decode cX7_checksum 8 = .ok (.lstore_n 1, 1) := by decide +kernel
theorem dk_X7_checksum_9 : decode cX7_checksum 9 = .ok (.iconst 0, 1) := by decide +kernel
theorem dk_X7_checksum_10 : decode cX7_checksum 10 = .ok (.istore_n 3, 1) := by decide +kernel
theorem dk_X7_checksum_11 : decode cX7_checksum 11 = .ok (.iload_n 3, 1) := by decide +kernel
theorem dk_X7_checksum_12 : decode cX7_checksum 12 = .ok (.aload_n 0, 1) := by decide +kernel
theorem dk_X7_checksum_13 : decode cX7_checksum 13 = .ok (.getfield 86, 3) := by decide +kernel
theorem dk_X7_checksum_16 : decode cX7_checksum 16 = .ok (.if_icmp .ge 43, 3) := by decide +kernel
theorem dk_X7_checksum_19 : decode cX7_checksum 19 = .ok (.iconst 0, 1) := by decide +kernel
theorem dk_X7_checksum_20 : decode cX7_checksum 20 = .ok (.istore 4, 2) := by decide +kernel
theorem dk_X7_checksum_22 : decode cX7_checksum 22 = .ok (.iload 4, 2) := by decide +kernel
theorem dk_X7_checksum_24 : decode cX7_checksum 24 = .ok (.sipush 600, 3) := by decide +kernel
theorem dk_X7_checksum_27 : decode cX7_checksum 27 = .ok (.if_icmp .ge 26, 3) := by decide +kernel
theorem dk_X7_checksum_30 : decode cX7_checksum 30 = .ok (.ldc2_w 333, 3) := by decide +kernel
theorem dk_X7_checksum_33 : decode cX7_checksum 33 = .ok (.lload_n 1, 1) := by decide +kernel
theorem dk_X7_checksum_34 : decode cX7_checksum 34 = .ok (.lmul, 1) := by decide +kernel
theorem dk_X7_checksum_35 : decode cX7_checksum 35 = .ok (.aload_n 0, 1) := by decide +kernel
theorem dk_X7_checksum_36 : decode cX7_checksum 36 = .ok (.getfield 16, 3) := by decide +kernel
theorem dk_X7_checksum_39 : decode cX7_checksum 39 = .ok (.iload_n 3, 1) := by decide +kernel
theorem dk_X7_checksum_40 : decode cX7_checksum 40 = .ok (.aaload, 1) := by decide +kernel
theorem dk_X7_checksum_41 : decode cX7_checksum 41 = .ok (.iload 4, 2) := by decide +kernel
theorem dk_X7_checksum_43 : decode cX7_checksum 43 = .ok (.caload, 1) := by decide +kernel
theorem dk_X7_checksum_44 : decode cX7_checksum 44 = .ok (.i2l, 1) := by decide +kernel
theorem dk_X7_checksum_45 : decode cX7_checksum 45 = .ok (.ladd, 1) := by decide +kernel
theorem dk_X7_checksum_46 : decode cX7_checksum 46 = .ok (.lstore_n 1, 1) := by decide +kernel
theorem dk_X7_checksum_47 : decode cX7_checksum 47 = .ok (.iinc 4 1, 3) := by decide +kernel
theorem dk_X7_checksum_50 : decode cX7_checksum 50 = .ok (.goto (-28), 3) := by decide +kernel
theorem dk_X7_checksum_53 : decode cX7_checksum 53 = .ok (.iinc 3 1, 3) := by decide +kernel
theorem dk_X7_checksum_56 : decode cX7_checksum 56 = .ok (.goto (-45), 3) := by decide +kernel
theorem dk_X7_checksum_59 : decode cX7_checksum 59 = .ok (.lload_n 1, 1) := by decide +kernel
theorem dk_X7_checksum_60 : decode cX7_checksum 60 = .ok (.lreturn, 1) := by decide +kernel
set_option maxHeartbeats 4000000 in
theorem kx_X3_kindOf {l : Launch} (hl9 : l.stackTraces = false) (D : va_G) {tys : List (ClassId × FieldType)} {sh : en_H} {w : va_W} {sz : Nat} (hD0 : va_D (va_A w sz) w) {fx : List Value} {hc pc : Nat} {bg : Int32} {ix ar : Nat → Int32} {ck : Nat → Nat → Int32} {h k : Nat} (hX : kx_X tys sh w fx hc pc bg ix ar ck) (hh : h < 9) (hk : k < 600) (hb0 : 0 ≤ (ck h k).toInt ∧ (ck h k).toInt ≤ 65535) : kx_C l yX3_kindOf cX3_kindOf 2 (some .char) 0 0 0 0 [.ref (sh.2 (68 + 2 * h)), .int (nI k)] D tys w sz (fun res w1 => w1 = w ∧ res = some (.int (ck h k))) (fun _ => False) := by
  refine vx_ofW (cc := cX3_kindOf) (maxL := 2) (ret := (some .char)) (by decide +kernel) rfl ?_
  intro p e s m args below meth c s₁ B9 hml hne hv
  obtain ⟨rfl, hsz, hP, hK, hT⟩ := hv
  subst hsz
  have hx := B9.exec
  have hb := B9.bytes
  have hr := B9.returns
  have hlocks := B9.notSynchronized
  have hts0 := atoms_spec (ws := Cond.code yX3_kindOf cX3_kindOf 2 (some .char) :: en_cw) B9.pre
  have hts : ∀ z ∈ en_cw, z.before _ s = true := fun z hz => hts0 z (List.mem_cons_of_mem _ hz)
  have hown : s.vm.findClass RX3 = some m.cls := findClass_of_methodNamed B9.named
  have G : kx_G p s m ([.ref (sh.2 (68 + 2 * h)), .int (nI k)] : List Value).toArray c cX3_kindOf RX3 D tys (va_A w s.heap.size) := ⟨hx, hb, hts, hown, hK, hT, fun q h => Or.inr h⟩
  have L : kx_H D (va_A w s.heap.size) s w s.heap [] := ⟨hP, ⟨hD0.1, fun j z hz => Or.inl ⟨j, z.2, hz⟩⟩, va_S.rf⟩
  have hl := lv_entry ([.ref (sh.2 (68 + 2 * h)), .int (nI k)] : List Value) (n := 2) (Nat.le_of_ble_eq_true rfl)
  rw [lg_entry_eq]
  generalize (lg_sl ([.ref (sh.2 (68 + 2 * h)), .int (nI k)] : List Value) ++ List.replicate (2 - (lg_sl ([.ref (sh.2 (68 + 2 * h)), .int (nI k)] : List Value)).length) Slot.unset).toArray = ls at hl ⊢
  have hl : lv_has ls 2 [(0, .ref (sh.2 (68 + 2 * h))), (1, .int (nI k))] := hl
  obtain ⟨p9, c9, t9, hob⟩ := hX.2.2.1 h hh
  obtain ⟨cX, g0, ht1, hw0, hg0⟩ := hX.2.2.2 h hh
  refine lv_iload_n hx hb dk_X3_kindOf_0 rfl (lv_at hl 1 rfl) ?_
  have k2 : (nI k).toInt = (((k) : Nat) : Int) := kx_nI (by omega)
  have k3 : (0 : Int32).toInt = 0 := by decide
  refine lv_if_lt (tgt := 20) hx hb dk_X3_kindOf_1 (by decide) (fun c1 => ?_) (fun c1 => ?_)
  · skip
    have tc1 : ((nI k) : Int32).toInt < (0 : Int32).toInt := Int32.lt_iff_toInt_lt.mp c1
    exfalso
    omega
  · skip
    have tc1 : ¬ ((nI k) : Int32).toInt < (0 : Int32).toInt := fun h => c1 (Int32.lt_iff_toInt_lt.mpr h)
    refine lv_iload_n hx hb dk_X3_kindOf_4 rfl (lv_at hl 1 rfl) ?_
    refine lv_sipush (v := 600) hx hb dk_X3_kindOf_5 (by decide) ?_
    have k5 : (nI k).toInt = (((k) : Nat) : Int) := kx_nI (by omega)
    have k6 : (600 : Int32).toInt = 600 := by decide
    refine lv_icmp_ge (tgt := 20) hx hb dk_X3_kindOf_8 (by decide) (fun c4 => ?_) (fun c4 => ?_)
    · skip
      have tc4 : (600 : Int32).toInt ≤ ((nI k) : Int32).toInt := Int32.le_iff_toInt_le.mp c4
      exfalso
      omega
    · skip
      have tc4 : ¬ (600 : Int32).toInt ≤ ((nI k) : Int32).toInt := fun h => c4 (Int32.le_iff_toInt_le.mpr h)
      refine lv_aload_n hx hb dk_X3_kindOf_11 rfl (lv_at hl 0 rfl) ?_
      refine kx_get (v := .ref (sh.2 (69 + 2 * h))) G L (en_FTX3_ok (9, 9, 0) (by decide)) hob rfl dk_X3_kindOf_12 ?_
      refine lv_iload_n hx hb dk_X3_kindOf_15 rfl (lv_at hl 1 rfl) ?_
      refine kx_cald G L hw0 ht1 hk (by decide) dk_X3_kindOf_16 ?_
      refine lv_topi (fun y7 ey7 => ?_)
      obtain rfl : y7 = (ck h k) := ey7.trans (hg0 k hk)
      refine lv_goto (tgt := 22) hx hb dk_X3_kindOf_17 (by decide) ?_
      exact vx_ret (W.widen (Nat.le_of_ble_eq_true rfl) (Nat.le_of_ble_eq_true rfl) (W.zret (v := (ck h k)) (ty := .char) hx hb hr ((en_fit (ty := 1) hb0.1 hb0.2).1) (fun T9 hT9 _ => ⟨⟨(ck h k), w, rfl, ⟨rfl, rfl⟩, by rw [hT9]; exact L.1, L.2.1⟩, L.2.2.F hT9⟩) L.2.2.2.2 dk_X3_kindOf_22 hlocks))
set_option maxHeartbeats 4000000 in
theorem kx_X6_checksum {l : Launch} (hl9 : l.stackTraces = false) (D : va_G) {tys : List (ClassId × FieldType)} {sh : en_H} {w : va_W} {sz : Nat} (hD0 : va_D (va_A w sz) w) {fx : List Value} {hc pc : Nat} {bg : Int32} {ix ar : Nat → Int32} {ck : Nat → Nat → Int32} (hX : kx_X tys sh w fx hc pc bg ix ar ck) (hcb : ∀ j, j < 9 → ∀ i, i < 600 → 0 ≤ (ck j i).toInt ∧ (ck j i).toInt ≤ 65535) : kx_C l yX6_checksum cX6_checksum 6 (some .long) 1 0 0 1 [.ref (sh.2 66)] D tys w sz (fun res w1 => w1 = w ∧ res = some (.long (kx_co ck hc))) (fun _ => False) := by
  refine vx_ofW (cc := cX6_checksum) (maxL := 6) (ret := (some .long)) (by decide +kernel) rfl ?_
  intro p e s m args below meth c s₁ B9 hml hne hv
  obtain ⟨rfl, hsz, hP, hK, hT⟩ := hv
  subst hsz
  have hx := B9.exec
  have hb := B9.bytes
  have hr := B9.returns
  have hlocks := B9.notSynchronized
  have hts0 := atoms_spec (ws := Cond.code yX6_checksum cX6_checksum 6 (some .long) :: en_cw) B9.pre
  have hts : ∀ z ∈ en_cw, z.before _ s = true := fun z hz => hts0 z (List.mem_cons_of_mem _ hz)
  have hown : s.vm.findClass RX6 = some m.cls := findClass_of_methodNamed B9.named
  have G : kx_G p s m ([.ref (sh.2 66)] : List Value).toArray c cX6_checksum RX6 D tys (va_A w s.heap.size) := ⟨hx, hb, hts, hown, hK, hT, fun q h => Or.inr h⟩
  have L : kx_H D (va_A w s.heap.size) s w s.heap [] := ⟨hP, ⟨hD0.1, fun j z hz => Or.inl ⟨j, z.2, hz⟩⟩, va_S.rf⟩
  have hl := lv_entry ([.ref (sh.2 66)] : List Value) (n := 6) (Nat.le_of_ble_eq_true rfl)
  rw [lg_entry_eq]
  generalize (lg_sl ([.ref (sh.2 66)] : List Value) ++ List.replicate (6 - (lg_sl ([.ref (sh.2 66)] : List Value)).length) Slot.unset).toArray = ls at hl ⊢
  have hl : lv_has ls 6 [(0, .ref (sh.2 66))] := hl
  have fX := hX.1
  have hc9 : hc ≤ 9 := fX.2.2.2.2.2.2.1
  obtain ⟨cH, fH, ht3, hw67, hf67⟩ := hX.2.1
  refine lv_ldc2 (index := 550) (v := 7) hx hb hown (hts _ (en_LLX6_ok (550, 7) (by decide))) dk_X6_checksum_0 ?_
  refine lv_lstore_n (lv' := [(1, .long (7 : Int64)), (0, .ref (sh.2 66))]) hx hb dk_X6_checksum_3 rfl hl (by decide) rfl (fun ls hl => ?_)
  refine lv_iconst (v := 0) hx hb dk_X6_checksum_4 (by decide) ?_
  refine lv_istore_n (lv' := [(3, .int 0), (1, .long (7 : Int64)), (0, .ref (sh.2 66))]) hx hb dk_X6_checksum_5 rfl hl (by decide) rfl (fun ls hl => ?_)
  have outer : ∀ (d h : Nat), h + d = hc → ∀ (v : Int64), v = kx_co ck h → ∀ (H : Heap) (locs : List Loc), kx_H D (va_A w s.heap.size) s w H locs → ∀ (ls : Array Slot), lv_has ls 6 [(3, .int (nI h)), (1, .long v), (0, .ref (sh.2 66))] → W p l e (headSpec (Cond.code yX6_checksum cX6_checksum 6 (some .long) :: en_cw) (en_rm 1 (0, 0))).room s m ([.ref (sh.2 66)] : List Value).toArray below meth c H locs (0) (0) (vx_MQ below (kx_Q 1 D (fun res w1 => w1 = w ∧ res = some (.long (kx_co ck hc))) (va_A w s.heap.size)) (kx_XC D w (fun _ => False) (va_A w s.heap.size)) ([.ref (sh.2 66)] : List Value).toArray s 0 0 (va_A w s.heap.size)) (F0 m 6 ls []) := by
    intro d
    induction d with
    | zero =>
      intro h hk v hv H locs L ls hl
      refine lv_iload_n hx hb dk_X6_checksum_6 rfl (lv_at hl 0 rfl) ?_
      refine lv_aload_n hx hb dk_X6_checksum_7 rfl (lv_at hl 2 rfl) ?_
      refine kx_get (v := .int (nI hc)) G L (en_FTX6_ok (62, 12, 4) (by decide)) fX.1 fX.2.2.2.1 dk_X6_checksum_8 ?_
      refine lv_icmp_ge (tgt := 60) hx hb dk_X6_checksum_11 (by decide) (fun _ => ?_) (fun c9 => absurd (nI_le (a := hc) (b := h) (by omega) (by omega)) c9)
      have e9 : h = hc := by omega
      rw [e9] at hv
      refine lv_lload_n hx hb dk_X6_checksum_60 rfl (lv_at hl 1 rfl) ?_
      exact vx_ret (W.widen (Nat.le_of_ble_eq_true rfl) (Nat.le_of_ble_eq_true rfl) (W.lret (v := v) hx hb hr (fun T9 hT9 _ => ⟨⟨v, w, rfl, ⟨rfl, by rw [hv]⟩, by rw [hT9]; exact L.1, L.2.1⟩, L.2.2.F hT9⟩) L.2.2.2.2 dk_X6_checksum_61 hlocks))
    | succ d ih =>
      intro h hk v hv H locs L ls hl
      refine lv_iload_n hx hb dk_X6_checksum_6 rfl (lv_at hl 0 rfl) ?_
      refine lv_aload_n hx hb dk_X6_checksum_7 rfl (lv_at hl 2 rfl) ?_
      refine kx_get (v := .int (nI hc)) G L (en_FTX6_ok (62, 12, 4) (by decide)) fX.1 fX.2.2.2.1 dk_X6_checksum_8 ?_
      refine lv_icmp_ge (tgt := 60) hx hb dk_X6_checksum_11 (by decide) (fun c9 => absurd c9 (nI_ge (a := h) (b := hc) (by omega) (by omega))) (fun _ => ?_)
      have hh : h < 9 := by omega
      refine lv_aload_n hx hb dk_X6_checksum_14 rfl (lv_at hl 2 rfl) ?_
      refine kx_get (v := .ref (sh.2 67)) G L (en_FTX6_ok (11, 12, 0) (by decide)) fX.1 fX.2.2.1 dk_X6_checksum_15 ?_
      refine lv_iload_n hx hb dk_X6_checksum_18 rfl (lv_at hl 0 rfl) ?_
      refine kx_aald G L hw67 ht3 hh (by decide) (hf67 h hh) dk_X6_checksum_19 ?_
      refine lv_astore (lv' := [(4, .ref (sh.2 (68 + 2 * h))), (3, .int (nI h)), (1, .long v), (0, .ref (sh.2 66))]) hx hb dk_X6_checksum_20 hl (by decide) rfl (fun ls hl => ?_)
      refine lv_iconst (v := 0) hx hb dk_X6_checksum_22 (by decide) ?_
      refine lv_istore (lv' := [(5, .int 0), (4, .ref (sh.2 (68 + 2 * h))), (3, .int (nI h)), (1, .long v), (0, .ref (sh.2 66))]) hx hb dk_X6_checksum_23 hl (by decide) rfl (fun ls hl => ?_)
      have inner : ∀ (d k : Nat), k + d = 600 → ∀ (v : Int64), v = kx_ci (ck h) (kx_co ck h) k → ∀ (H : Heap) (locs : List Loc), kx_H D (va_A w s.heap.size) s w H locs → ∀ (ls : Array Slot), lv_has ls 6 [(5, .int (nI k)), (1, .long v), (4, .ref (sh.2 (68 + 2 * h))), (3, .int (nI h)), (0, .ref (sh.2 66))] → W p l e (headSpec (Cond.code yX6_checksum cX6_checksum 6 (some .long) :: en_cw) (en_rm 1 (0, 0))).room s m ([.ref (sh.2 66)] : List Value).toArray below meth c H locs (0) (0) (vx_MQ below (kx_Q 1 D (fun res w1 => w1 = w ∧ res = some (.long (kx_co ck hc))) (va_A w s.heap.size)) (kx_XC D w (fun _ => False) (va_A w s.heap.size)) ([.ref (sh.2 66)] : List Value).toArray s 0 0 (va_A w s.heap.size)) (F0 m 25 ls []) := by
        intro d2
        induction d2 with
        | zero =>
          intro k hk2 v hv2 H locs L ls hl
          refine lv_iload hx hb dk_X6_checksum_25 (lv_at hl 0 rfl) ?_
          refine lv_sipush (v := 600) hx hb dk_X6_checksum_27 (by decide) ?_
          have e9 : k = 600 := by omega
          rw [e9] at hv2
          refine lv_icmp_ge (tgt := 54) hx hb dk_X6_checksum_30 (by decide) (fun _ => ?_) (fun c9 => absurd (nI_le (a := 600) (b := k) (by omega) (by omega)) c9)
          refine lv_iinc (v := (nI (h + 1))) (lv' := [(3, .int (nI (h + 1))), (5, .int (nI k)), (1, .long v), (4, .ref (sh.2 (68 + 2 * h))), (0, .ref (sh.2 66))]) hx hb dk_X6_checksum_54 hl (k := 3) rfl (kx_inc (by omega)) (by decide) rfl (fun ls hl => ?_)
          refine lv_goto (tgt := 6) hx hb dk_X6_checksum_57 (by decide) ?_
          exact ih (h + 1) (by omega) v (by rw [kx_co_s]; exact hv2) H locs L ls (lv_sub hl [0, 2, 4] rfl)
        | succ d2 ih2 =>
          intro k hk2 v hv2 H locs L ls hl
          refine lv_iload hx hb dk_X6_checksum_25 (lv_at hl 0 rfl) ?_
          refine lv_sipush (v := 600) hx hb dk_X6_checksum_27 (by decide) ?_
          refine lv_icmp_ge (tgt := 54) hx hb dk_X6_checksum_30 (by decide) (fun c9 => absurd c9 (nI_ge (a := k) (b := 600) (by omega) (by omega))) (fun _ => ?_)
          refine lv_ldc2 (index := 552) (v := 31) hx hb hown (hts _ (en_LLX6_ok (552, 31) (by decide))) dk_X6_checksum_33 ?_
          refine lv_lload_n hx hb dk_X6_checksum_36 rfl (lv_at hl 1 rfl) ?_
          refine lv_lmul hx hb dk_X6_checksum_37 ?_
          refine lv_aload hx hb dk_X6_checksum_38 (lv_at hl 2 rfl) ?_
          refine lv_iload hx hb dk_X6_checksum_40 (lv_at hl 0 rfl) ?_
          obtain ⟨p9, c9, t9, hob⟩ := hX.2.2.1 h hh
          have hb0 := hcb h hh k (by omega)
          refine kx_cV (As := [.int (nI k)]) (rest := [.long ((31 : Int64) * v)]) (q := (68 + 2 * h)) (ci := 9) G L (kx_X3_kindOf hl9 D (kx_D1 L) hX hh (by omega) hb0) gc_RX6_118v hob rfl rfl rfl (hml.trans hl.1.symm) ⟨Nat.le_of_ble_eq_true rfl, Nat.le_of_ble_eq_true rfl⟩ ⟨Nat.le_of_ble_eq_true rfl, Nat.le_of_ble_eq_true rfl⟩ (Nat.le_of_ble_eq_true rfl) dk_X6_checksum_42 (fun _ _ _ _ _ h9 => h9.elim) (fun res w1 H locs hrv hq1 L => ?_)
          obtain ⟨ew1, hq1⟩ := hq1
          have ew1 := ew1.symm
          subst ew1
          obtain rfl := hq1
          refine lv_i2l hx hb dk_X6_checksum_45 rfl ?_
          refine lv_ladd hx hb dk_X6_checksum_46 ?_
          refine lv_lstore_n (lv' := [(1, .long (((31 : Int64) * v) + ((ck h k) : Int32).toInt64)), (5, .int (nI k)), (4, .ref (sh.2 (68 + 2 * h))), (3, .int (nI h)), (0, .ref (sh.2 66))]) hx hb dk_X6_checksum_47 rfl hl (by decide) rfl (fun ls hl => ?_)
          refine lv_iinc (v := (nI (k + 1))) (lv' := [(5, .int (nI (k + 1))), (1, .long (((31 : Int64) * v) + ((ck h k) : Int32).toInt64)), (4, .ref (sh.2 (68 + 2 * h))), (3, .int (nI h)), (0, .ref (sh.2 66))]) hx hb dk_X6_checksum_48 hl (k := 1) rfl (kx_inc (by omega)) (by decide) rfl (fun ls hl => ?_)
          refine lv_goto (tgt := 25) hx hb dk_X6_checksum_51 (by decide) ?_
          exact ih2 (k + 1) (by omega) _ (by rw [hv2, kx_ci_s]) H locs L ls (lv_sub hl [0, 1, 2, 3, 4] rfl)
      exact inner 600 0 (by omega) v (by rw [kx_ci_0]; exact hv) H locs L ls (lv_sub hl [0, 3, 1, 2, 4] rfl)
  exact outer hc 0 (by omega) 7 (by rw [kx_co_0]) _ _ L ls (lv_sub hl [0, 1, 2] rfl)
set_option maxHeartbeats 4000000 in
theorem kx_X7_checksum {l : Launch} (hl9 : l.stackTraces = false) (D : va_G) {tys : List (ClassId × FieldType)} {sh : en_H} {w : va_W} {sz : Nat} (hD0 : va_D (va_A w sz) w) {fs : List Value} {hc pc : Nat} {bg : Int32} {rr mk : Nat → Nat → Int32} (hM : kx_M tys sh w fs hc pc bg rr mk) : kx_C l yX7_checksum cX7_checksum 5 (some .long) 0 0 0 1 [.ref (sh.2 0)] D tys w sz (fun res w1 => res = some (.long (kx_co mk hc)) ∧ ∃ fs1 : List Value, kx_T sh w w1 fs fs1 0) (fun _ => False) := by
  refine vx_ofW (cc := cX7_checksum) (maxL := 5) (ret := (some .long)) (by decide +kernel) rfl ?_
  intro p e s m args below meth c s₁ B9 hml hne hv
  obtain ⟨rfl, hsz, hP, hK, hT⟩ := hv
  subst hsz
  have hx := B9.exec
  have hb := B9.bytes
  have hr := B9.returns
  have hlocks := B9.notSynchronized
  have hts0 := atoms_spec (ws := Cond.code yX7_checksum cX7_checksum 5 (some .long) :: en_cw) B9.pre
  have hts : ∀ z ∈ en_cw, z.before _ s = true := fun z hz => hts0 z (List.mem_cons_of_mem _ hz)
  have hown : s.vm.findClass RX7 = some m.cls := findClass_of_methodNamed B9.named
  have G : kx_G p s m ([.ref (sh.2 0)] : List Value).toArray c cX7_checksum RX7 D tys (va_A w s.heap.size) := ⟨hx, hb, hts, hown, hK, hT, fun q h => Or.inr h⟩
  have L : kx_H D (va_A w s.heap.size) s w s.heap [] := ⟨hP, ⟨hD0.1, fun j z hz => Or.inl ⟨j, z.2, hz⟩⟩, va_S.rf⟩
  have hl := lv_entry ([.ref (sh.2 0)] : List Value) (n := 5) (Nat.le_of_ble_eq_true rfl)
  rw [lg_entry_eq]
  generalize (lg_sl ([.ref (sh.2 0)] : List Value) ++ List.replicate (5 - (lg_sl ([.ref (sh.2 0)] : List Value)).length) Slot.unset).toArray = ls at hl ⊢
  have hl : lv_has ls 5 [(0, .ref (sh.2 0))] := hl
  have fM := hM.1
  have hc9 : hc ≤ 9 := fM.2.2.2.2.2.2.2.1
  have h30 : 30 < fs.length := by rw [fM.2.1]; decide
  refine lv_aload_n hx hb dk_X7_checksum_0 rfl (lv_at hl 0 rfl) ?_
  refine lv_iconst (v := 0) hx hb dk_X7_checksum_1 (by decide) ?_
  refine kx_put (x := 0) G L (en_PTX7_ok (79, 13, 30, 0) (by decide)) fM.1 h30 (en_lo _) (en_hi _) dk_X7_checksum_2 (fun w1 H locs e1 n1 o1 L => ?_)
  have hT : kx_T sh w w1 fs (fs.set 30 (.int 0)) 0 := ⟨e1, List.length_set, List.getElem?_set_self h30, fun j hj => List.getElem?_set_ne (Ne.symm hj), n1, o1⟩
  have hMb := hM.t hT
  have fb := hMb.1
  obtain ⟨cR2, fK, ht6, hw27, hf27⟩ := hMb.2.2.1
  refine lv_ldc2 (index := 331) (v := 7) hx hb hown (hts _ (en_LLX7_ok (331, 7) (by decide))) dk_X7_checksum_5 ?_
  refine lv_lstore_n (lv' := [(1, .long (7 : Int64)), (0, .ref (sh.2 0))]) hx hb dk_X7_checksum_8 rfl hl (by decide) rfl (fun ls hl => ?_)
  refine lv_iconst (v := 0) hx hb dk_X7_checksum_9 (by decide) ?_
  refine lv_istore_n (lv' := [(3, .int 0), (1, .long (7 : Int64)), (0, .ref (sh.2 0))]) hx hb dk_X7_checksum_10 rfl hl (by decide) rfl (fun ls hl => ?_)
  have outer : ∀ (d h : Nat), h + d = hc → ∀ (v : Int64), v = kx_co mk h → ∀ (ls : Array Slot), lv_has ls 5 [(3, .int (nI h)), (1, .long v), (0, .ref (sh.2 0))] → W p l e (headSpec (Cond.code yX7_checksum cX7_checksum 5 (some .long) :: en_cw) (en_rm 0 (0, 0))).room s m ([.ref (sh.2 0)] : List Value).toArray below meth c H locs (0) (0) (vx_MQ below (kx_Q 1 D (fun res w1 => res = some (.long (kx_co mk hc)) ∧ ∃ fs1 : List Value, kx_T sh w w1 fs fs1 0) (va_A w s.heap.size)) (kx_XC D w (fun _ => False) (va_A w s.heap.size)) ([.ref (sh.2 0)] : List Value).toArray s 0 0 (va_A w s.heap.size)) (F0 m 11 ls []) := by
    intro d
    induction d with
    | zero =>
      intro h hk v hv ls hl
      refine lv_iload_n hx hb dk_X7_checksum_11 rfl (lv_at hl 0 rfl) ?_
      refine lv_aload_n hx hb dk_X7_checksum_12 rfl (lv_at hl 2 rfl) ?_
      refine kx_get (v := .int (nI hc)) G L (en_FTX7_ok (86, 13, 16) (by decide)) fb.1 fb.2.2.2.2.1 dk_X7_checksum_13 ?_
      refine lv_icmp_ge (tgt := 59) hx hb dk_X7_checksum_16 (by decide) (fun _ => ?_) (fun c9 => absurd (nI_le (a := hc) (b := h) (by omega) (by omega)) c9)
      have e9 : h = hc := by omega
      rw [e9] at hv
      refine lv_lload_n hx hb dk_X7_checksum_59 rfl (lv_at hl 1 rfl) ?_
      exact vx_ret (W.widen (Nat.le_of_ble_eq_true rfl) (Nat.le_of_ble_eq_true rfl) (W.lret (v := v) hx hb hr (fun T9 hT9 _ => ⟨⟨v, w1, rfl, ⟨by rw [hv], _, hT⟩, by rw [hT9]; exact L.1, L.2.1⟩, L.2.2.F hT9⟩) L.2.2.2.2 dk_X7_checksum_60 hlocks))
    | succ d ih =>
      intro h hk v hv ls hl
      refine lv_iload_n hx hb dk_X7_checksum_11 rfl (lv_at hl 0 rfl) ?_
      refine lv_aload_n hx hb dk_X7_checksum_12 rfl (lv_at hl 2 rfl) ?_
      refine kx_get (v := .int (nI hc)) G L (en_FTX7_ok (86, 13, 16) (by decide)) fb.1 fb.2.2.2.2.1 dk_X7_checksum_13 ?_
      refine lv_icmp_ge (tgt := 59) hx hb dk_X7_checksum_16 (by decide) (fun c9 => absurd c9 (nI_ge (a := h) (b := hc) (by omega) (by omega))) (fun _ => ?_)
      have hh : h < 9 := by omega
      obtain ⟨cX8, gk, htX8, hwk, hk9⟩ := hMb.2.2.2.2 h hh
      refine lv_iconst (v := 0) hx hb dk_X7_checksum_19 (by decide) ?_
      refine lv_istore (lv' := [(4, .int 0), (3, .int (nI h)), (1, .long v), (0, .ref (sh.2 0))]) hx hb dk_X7_checksum_20 hl (by decide) rfl (fun ls hl => ?_)
      have inner : ∀ (d k : Nat), k + d = 600 → ∀ (v : Int64), v = kx_ci (mk h) (kx_co mk h) k → ∀ (ls : Array Slot), lv_has ls 5 [(4, .int (nI k)), (1, .long v), (3, .int (nI h)), (0, .ref (sh.2 0))] → W p l e (headSpec (Cond.code yX7_checksum cX7_checksum 5 (some .long) :: en_cw) (en_rm 0 (0, 0))).room s m ([.ref (sh.2 0)] : List Value).toArray below meth c H locs (0) (0) (vx_MQ below (kx_Q 1 D (fun res w1 => res = some (.long (kx_co mk hc)) ∧ ∃ fs1 : List Value, kx_T sh w w1 fs fs1 0) (va_A w s.heap.size)) (kx_XC D w (fun _ => False) (va_A w s.heap.size)) ([.ref (sh.2 0)] : List Value).toArray s 0 0 (va_A w s.heap.size)) (F0 m 22 ls []) := by
        intro d2
        induction d2 with
        | zero =>
          intro k hk2 v hv2 ls hl
          refine lv_iload hx hb dk_X7_checksum_22 (lv_at hl 0 rfl) ?_
          refine lv_sipush (v := 600) hx hb dk_X7_checksum_24 (by decide) ?_
          have e9 : k = 600 := by omega
          rw [e9] at hv2
          refine lv_icmp_ge (tgt := 53) hx hb dk_X7_checksum_27 (by decide) (fun _ => ?_) (fun c9 => absurd (nI_le (a := 600) (b := k) (by omega) (by omega)) c9)
          refine lv_iinc (v := (nI (h + 1))) (lv' := [(3, .int (nI (h + 1))), (4, .int (nI k)), (1, .long v), (0, .ref (sh.2 0))]) hx hb dk_X7_checksum_53 hl (k := 2) rfl (kx_inc (by omega)) (by decide) rfl (fun ls hl => ?_)
          refine lv_goto (tgt := 11) hx hb dk_X7_checksum_56 (by decide) ?_
          exact ih (h + 1) (by omega) v (by rw [kx_co_s]; exact hv2) ls (lv_sub hl [0, 2, 3] rfl)
        | succ d2 ih2 =>
          intro k hk2 v hv2 ls hl
          refine lv_iload hx hb dk_X7_checksum_22 (lv_at hl 0 rfl) ?_
          refine lv_sipush (v := 600) hx hb dk_X7_checksum_24 (by decide) ?_
          refine lv_icmp_ge (tgt := 53) hx hb dk_X7_checksum_27 (by decide) (fun c9 => absurd c9 (nI_ge (a := k) (b := 600) (by omega) (by omega))) (fun _ => ?_)
          refine lv_ldc2 (index := 333) (v := 31) hx hb hown (hts _ (en_LLX7_ok (333, 31) (by decide))) dk_X7_checksum_30 ?_
          refine lv_lload_n hx hb dk_X7_checksum_33 rfl (lv_at hl 1 rfl) ?_
          refine lv_lmul hx hb dk_X7_checksum_34 ?_
          refine lv_aload_n hx hb dk_X7_checksum_35 rfl (lv_at hl 3 rfl) ?_
          refine kx_get (v := .ref (sh.2 27)) G L (en_FTX7_ok (16, 13, 1) (by decide)) fb.1 fb.2.2.2.1 dk_X7_checksum_36 ?_
          refine lv_iload_n hx hb dk_X7_checksum_39 rfl (lv_at hl 2 rfl) ?_
          refine kx_aaldA G L hw27 ht6 hh (by decide) (hf27 h hh) dk_X7_checksum_40 ?_
          refine lv_iload hx hb dk_X7_checksum_41 (lv_at hl 0 rfl) ?_
          refine kx_cald G L hwk htX8 (show k < 600 by omega) (by decide) dk_X7_checksum_43 ?_
          refine lv_topi (fun y2 ey2 => ?_)
          obtain rfl : y2 = (mk h k) := ey2.trans (hk9 k (by omega))
          refine lv_i2l hx hb dk_X7_checksum_44 rfl ?_
          refine lv_ladd hx hb dk_X7_checksum_45 ?_
          refine lv_lstore_n (lv' := [(1, .long (((31 : Int64) * v) + ((mk h k) : Int32).toInt64)), (4, .int (nI k)), (3, .int (nI h)), (0, .ref (sh.2 0))]) hx hb dk_X7_checksum_46 rfl hl (by decide) rfl (fun ls hl => ?_)
          refine lv_iinc (v := (nI (k + 1))) (lv' := [(4, .int (nI (k + 1))), (1, .long (((31 : Int64) * v) + ((mk h k) : Int32).toInt64)), (3, .int (nI h)), (0, .ref (sh.2 0))]) hx hb dk_X7_checksum_47 hl (k := 1) rfl (kx_inc (by omega)) (by decide) rfl (fun ls hl => ?_)
          refine lv_goto (tgt := 22) hx hb dk_X7_checksum_50 (by decide) ?_
          exact ih2 (k + 1) (by omega) _ (by rw [hv2, kx_ci_s]) ls (lv_sub hl [0, 1, 2, 3] rfl)
      exact inner 600 0 (by omega) v (by rw [kx_ci_0]; exact hv) ls (lv_sub hl [0, 2, 1, 3] rfl)
  exact outer hc 0 (by omega) 7 (by rw [kx_co_0]) ls (lv_sub hl [0, 1, 2] rfl)
