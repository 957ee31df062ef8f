theorem dk_X7_isCell_0 : decode cX7_isCell 0 = .ok (.iload_n 0, 1) := by decide +kernel
theorem dk_X7_isCell_1 : decode cX7_isCell 1 = .ok (.iconst 0, 1) := by decide +kernel
theorem dk_X7_isCell_2 : decode cX7_isCell 2 = .ok (.bipush 29, 2) := by decide +kernel
theorem dk_X7_isCell_4 : decode cX7_isCell 4 = .ok (.invokestatic 82, 3) := by decide +kernel
theorem dk_X7_isCell_7 : decode cX7_isCell 7 = .ok (.ifCond .eq 17, 3) := by decide +kernel
theorem dk_X7_isCell_10 : decode cX7_isCell 10 = .ok (.iload_n 1, 1) := by decide +kernel
theorem dk_X7_isCell_11 : decode cX7_isCell 11 = .ok (.iconst 0, 1) := by decide +kernel
theorem dk_X7_isCell_12 : decode cX7_isCell 12 = .ok (.bipush 19, 2) := by decide +kernel
theorem dk_X7_isCell_14 : decode cX7_isCell 14 = .ok (.invokestatic 82, 3) := by decide +kernel
theorem dk_X7_isCell_17 : decode cX7_isCell 17 = .ok (.ifCond .eq 7, 3) := by decide +kernel
theorem dk_X7_isCell_20 : decode cX7_isCell 20 = .ok (.iconst 1, 1) := by decide +kernel
theorem dk_X7_isCell_21 : decode cX7_isCell 21 = .ok (.goto 4, 3) := by decide +kernel
theorem dk_X7_isCell_24 : decode cX7_isCell 24 = .ok (.iconst 0, 1) := by decide +kernel
theorem dk_X7_isCell_25 : decode cX7_isCell 25 = .ok (.ireturn, 1) := by decide +kernel
theorem dk_X7_isIn_0 : decode cX7_isIn 0 = .ok (.iload_n 0, 1) := by decide +kernel
theorem dk_X7_isIn_1 : decode cX7_isIn 1 = .ok (.iload_n 1, 1) := by decide +kernel
theorem dk_X7_isIn_2 : decode cX7_isIn 2 = .ok (.if_icmp .lt 12, 3) := by decide +kernel
theorem dk_X7_isIn_5 : decode cX7_isIn 5 = .ok (.iload_n 0, 1) := by decide +kernel
theorem dk_X7_isIn_6 : decode cX7_isIn 6 = .ok (.iload_n 2, 1) := by decide +kernel
theorem dk_X7_isIn_7 : decode cX7_isIn 7 = .ok (.if_icmp .gt 7, 3) := by decide +kernel
theorem dk_X7_isIn_10 : decode cX7_isIn 10 = .ok (.iconst 1, 1) := by decide +kernel
theorem dk_X7_isIn_11 : decode cX7_isIn 11 = .ok (.goto 4, 3) := by decide +kernel
theorem dk_X7_isIn_14 : decode cX7_isIn 14 = .ok (.iconst 0, 1) := by decide +kernel
theorem dk_X7_isIn_15 : decode cX7_isIn 15 = .ok (.ireturn, 1) := by decide +kernel
theorem dk_X7_isNoHole_0 : decode cX7_isNoHole 0 = .ok (.iload_n 1, 1) := by decide +kernel
theorem dk_X7_isNoHole_1 : decode cX7_isNoHole 1 = .ok (.iconst 0, 1) := by decide +kernel
theorem dk_X7_isNoHole_2 : decode cX7_isNoHole 2 = .ok (.aload_n 0, 1) := by decide +kernel
theorem dk_X7_isNoHole_3 : decode cX7_isNoHole 3 = .ok (.getfield 86, 3) := by decide +kernel
theorem dk_X7_isNoHole_6 : decode cX7_isNoHole 6 = .ok (.iconst 1, 1) := by decide +kernel
theorem dk_X7_isNoHole_7 : decode cX7_isNoHole 7 = .ok (.isub, 1) := by decide +kernel
theorem dk_X7_isNoHole_8 : decode cX7_isNoHole 8 = .ok (.invokestatic 82, 3) := by decide +kernel
theorem dk_X7_isNoHole_11 : decode cX7_isNoHole 11 = .ok (.ifCond .ne 7, 3) := by decide +kernel
theorem dk_X7_isNoHole_14 : decode cX7_isNoHole 14 = .ok (.iconst 1, 1) := by decide +kernel
theorem dk_X7_isNoHole_15 : decode cX7_isNoHole 15 = .ok (.goto 4, 3) := by decide +kernel
theorem dk_X7_isNoHole_18 : decode cX7_isNoHole 18 = .ok (.iconst 0, 1) := by decide +kernel
theorem dk_X7_isNoHole_19 : decode cX7_isNoHole 19 = .ok (.ireturn, 1) := by decide +kernel
theorem dk_X7_isThrown_0 : decode cX7_isThrown 0 = .ok (.aload_n 0, 1) := by decide +kernel
theorem dk_X7_isThrown_1 : decode cX7_isThrown 1 = .ok (.iload_n 1, 1) := by decide +kernel
theorem dk_X7_isThrown_2 : decode cX7_isThrown 2 = .ok (.ifCond .eq 7, 3) := by decide +kernel
theorem dk_X7_isThrown_5 : decode cX7_isThrown 5 = .ok (.iload_n 2, 1) := by decide +kernel
theorem dk_X7_isThrown_6 : decode cX7_isThrown 6 = .ok (.goto 4, 3) := by decide +kernel
theorem dk_X7_isThrown_9 : decode cX7_isThrown 9 = .ok (.iconst 0, 1) := by decide +kernel
theorem dk_X7_isThrown_10 : decode cX7_isThrown 10 = .ok (.putfield 79, 3) := by decide +kernel
theorem dk_X7_isThrown_13 : decode cX7_isThrown 13 = .ok (.iload_n 1, 1) := by decide +kernel
theorem dk_X7_isThrown_14 : decode cX7_isThrown 14 = .ok (.ireturn, 1) := by decide +kernel
set_option maxHeartbeats 4000000 in
theorem kx_X7_isIn {l : Launch} (hl9 : l.stackTraces = false) (D : va_G) {tys : List (ClassId × FieldType)} {w : va_W} {sz : Nat} (hD0 : va_D (va_A w sz) w) {a1 lo hi : Int32} : kx_C l yX7_isIn cX7_isIn 3 (some .boolean) 0 0 0 0 [.int a1, .int lo, .int hi] D tys w sz (fun res w1 => w1 = w ∧ ((res = some (.int 1) ∧ lo.toInt ≤ a1.toInt ∧ a1.toInt ≤ hi.toInt) ∨ (res = some (.int 0) ∧ ¬ (lo.toInt ≤ a1.toInt ∧ a1.toInt ≤ hi.toInt)))) (fun _ => False) := by
  refine vx_ofW (cc := cX7_isIn) (maxL := 3) (ret := (some .boolean)) (by decide +kernel) rfl ?_
  intro p e s m args below meth c s₁ B9 hml hne hv
  obtain ⟨rfl, hsz, hP, hK, hT⟩ := hv
  subst hsz
  have hx := B9.exec
  have hb := B9.bytes
  have hr := B9.returns
  have hlocks := B9.notSynchronized
  have hts0 := atoms_spec (ws := Cond.code yX7_isIn cX7_isIn 3 (some .boolean) :: en_cw) B9.pre
  have hts : ∀ z ∈ en_cw, z.before _ s = true := fun z hz => hts0 z (List.mem_cons_of_mem _ hz)
  have hown : s.vm.findClass RX7 = some m.cls := findClass_of_methodNamed B9.named
  have G : kx_G p s m ([.int a1, .int lo, .int hi] : List Value).toArray c cX7_isIn RX7 D tys (va_A w s.heap.size) := ⟨hx, hb, hts, hown, hK, hT, fun q h => Or.inr h⟩
  have L : kx_H D (va_A w s.heap.size) s w s.heap [] := ⟨hP, ⟨hD0.1, fun j z hz => Or.inl ⟨j, z.2, hz⟩⟩, va_S.rf⟩
  have hl := lv_entry ([.int a1, .int lo, .int hi] : List Value) (n := 3) (Nat.le_of_ble_eq_true rfl)
  rw [lg_entry_eq]
  generalize (lg_sl ([.int a1, .int lo, .int hi] : List Value) ++ List.replicate (3 - (lg_sl ([.int a1, .int lo, .int hi] : List Value)).length) Slot.unset).toArray = ls at hl ⊢
  have hl : lv_has ls 3 [(0, .int a1), (1, .int lo), (2, .int hi)] := hl
  refine lv_iload_n hx hb dk_X7_isIn_0 rfl (lv_at hl 0 rfl) ?_
  refine lv_iload_n hx hb dk_X7_isIn_1 rfl (lv_at hl 1 rfl) ?_
  refine lv_icmp_lt (tgt := 14) hx hb dk_X7_isIn_2 (by decide) (fun c1 => ?_) (fun c1 => ?_)
  · skip
    have tc1 : (a1 : Int32).toInt < (lo : Int32).toInt := Int32.lt_iff_toInt_lt.mp c1
    refine lv_iconst (v := 0) hx hb dk_X7_isIn_14 (by decide) ?_
    exact vx_ret (W.widen (Nat.le_of_ble_eq_true rfl) (Nat.le_of_ble_eq_true rfl) (W.zret (v := 0) (ty := .boolean) hx hb hr (by decide) (fun T9 hT9 _ => ⟨⟨0, w, rfl, ⟨rfl, Or.inr ⟨rfl, by omega⟩⟩, by rw [hT9]; exact L.1, L.2.1⟩, L.2.2.F hT9⟩) L.2.2.2.2 dk_X7_isIn_15 hlocks))
  · skip
    have tc1 : ¬ (a1 : Int32).toInt < (lo : Int32).toInt := fun h => c1 (Int32.lt_iff_toInt_lt.mpr h)
    refine lv_iload_n hx hb dk_X7_isIn_5 rfl (lv_at hl 0 rfl) ?_
    refine lv_iload_n hx hb dk_X7_isIn_6 rfl (lv_at hl 2 rfl) ?_
    refine lv_icmp_gt (tgt := 14) hx hb dk_X7_isIn_7 (by decide) (fun c2 => ?_) (fun c2 => ?_)
    · skip
      have tc2 : (hi : Int32).toInt < (a1 : Int32).toInt := Int32.lt_iff_toInt_lt.mp c2
      refine lv_iconst (v := 0) hx hb dk_X7_isIn_14 (by decide) ?_
      exact vx_ret (W.widen (Nat.le_of_ble_eq_true rfl) (Nat.le_of_ble_eq_true rfl) (W.zret (v := 0) (ty := .boolean) hx hb hr (by decide) (fun T9 hT9 _ => ⟨⟨0, w, rfl, ⟨rfl, Or.inr ⟨rfl, by omega⟩⟩, by rw [hT9]; exact L.1, L.2.1⟩, L.2.2.F hT9⟩) L.2.2.2.2 dk_X7_isIn_15 hlocks))
    · skip
      have tc2 : ¬ (hi : Int32).toInt < (a1 : Int32).toInt := fun h => c2 (Int32.lt_iff_toInt_lt.mpr h)
      refine lv_iconst (v := 1) hx hb dk_X7_isIn_10 (by decide) ?_
      refine lv_goto (tgt := 15) hx hb dk_X7_isIn_11 (by decide) ?_
      exact vx_ret (W.widen (Nat.le_of_ble_eq_true rfl) (Nat.le_of_ble_eq_true rfl) (W.zret (v := 1) (ty := .boolean) hx hb hr (by decide) (fun T9 hT9 _ => ⟨⟨1, w, rfl, ⟨rfl, Or.inl ⟨rfl, by omega, by omega⟩⟩, by rw [hT9]; exact L.1, L.2.1⟩, L.2.2.F hT9⟩) L.2.2.2.2 dk_X7_isIn_15 hlocks))
set_option maxHeartbeats 4000000 in
theorem kx_X7_isCell {l : Launch} (hl9 : l.stackTraces = false) (D : va_G) {tys : List (ClassId × FieldType)} {w : va_W} {sz : Nat} (hD0 : va_D (va_A w sz) w) {a1 a2 : Int32} : kx_C l yX7_isCell cX7_isCell 2 (some .boolean) 1 0 0 0 [.int a1, .int a2] D tys w sz (fun res w1 => w1 = w ∧ ((res = some (.int 1) ∧ en_ce a1 a2) ∨ (res = some (.int 0) ∧ ¬ en_ce a1 a2))) (fun _ => False) := by
  refine vx_ofW (cc := cX7_isCell) (maxL := 2) (ret := (some .boolean)) (by decide +kernel) rfl ?_
  intro p e s m args below meth c s₁ B9 hml hne hv
  obtain ⟨rfl, hsz, hP, hK, hT⟩ := hv
  subst hsz
  have hx := B9.exec
  have hb := B9.bytes
  have hr := B9.returns
  have hlocks := B9.notSynchronized
  have hts0 := atoms_spec (ws := Cond.code yX7_isCell cX7_isCell 2 (some .boolean) :: en_cw) B9.pre
  have hts : ∀ z ∈ en_cw, z.before _ s = true := fun z hz => hts0 z (List.mem_cons_of_mem _ hz)
  have hown : s.vm.findClass RX7 = some m.cls := findClass_of_methodNamed B9.named
  have G : kx_G p s m ([.int a1, .int a2] : List Value).toArray c cX7_isCell RX7 D tys (va_A w s.heap.size) := ⟨hx, hb, hts, hown, hK, hT, fun q h => Or.inr h⟩
  have L : kx_H D (va_A w s.heap.size) s w s.heap [] := ⟨hP, ⟨hD0.1, fun j z hz => Or.inl ⟨j, z.2, hz⟩⟩, va_S.rf⟩
  have hl := lv_entry ([.int a1, .int a2] : List Value) (n := 2) (Nat.le_of_ble_eq_true rfl)
  rw [lg_entry_eq]
  generalize (lg_sl ([.int a1, .int a2] : List Value) ++ List.replicate (2 - (lg_sl ([.int a1, .int a2] : List Value)).length) Slot.unset).toArray = ls at hl ⊢
  have hl : lv_has ls 2 [(0, .int a1), (1, .int a2)] := hl
  have k1 : (0 : Int32).toInt = 0 := by decide
  have k2 : (29 : Int32).toInt = 29 := by decide
  have k3 : (19 : Int32).toInt = 19 := by decide
  refine lv_iload_n hx hb dk_X7_isCell_0 rfl (lv_at hl 0 rfl) ?_
  refine lv_iconst (v := 0) hx hb dk_X7_isCell_1 (by decide) ?_
  refine lv_bipush (v := 29) hx hb dk_X7_isCell_2 (by decide) ?_
  refine kx_cS (As := [.int a1, .int 0, .int 29]) (rest := []) G L (kx_X7_isIn hl9 D (kx_D1 L)) gc_RX7_82s rfl (hml.trans hl.1.symm) ⟨Nat.le_of_ble_eq_true rfl, Nat.le_of_ble_eq_true rfl⟩ ⟨Nat.le_of_ble_eq_true rfl, Nat.le_of_ble_eq_true rfl⟩ (Nat.le_of_ble_eq_true rfl) dk_X7_isCell_4 (fun _ _ _ _ _ h9 => h9.elim) (fun res w4 H locs hrv hq4 L => ?_)
  obtain ⟨ew4, hq4⟩ := hq4
  have ew4 := ew4.symm
  subst ew4
  rcases hq4 with ⟨rfl, cA⟩ | ⟨rfl, cA⟩
  · skip
    refine lv_if_eq (tgt := 24) hx hb dk_X7_isCell_7 (by decide) (fun c9 => absurd c9 (by decide)) (fun _ => ?_)
    refine lv_iload_n hx hb dk_X7_isCell_10 rfl (lv_at hl 1 rfl) ?_
    refine lv_iconst (v := 0) hx hb dk_X7_isCell_11 (by decide) ?_
    refine lv_bipush (v := 19) hx hb dk_X7_isCell_12 (by decide) ?_
    refine kx_cS (As := [.int a2, .int 0, .int 19]) (rest := []) G L (kx_X7_isIn hl9 D (kx_D1 L)) gc_RX7_82s rfl (hml.trans hl.1.symm) ⟨Nat.le_of_ble_eq_true rfl, Nat.le_of_ble_eq_true rfl⟩ ⟨Nat.le_of_ble_eq_true rfl, Nat.le_of_ble_eq_true rfl⟩ (Nat.le_of_ble_eq_true rfl) dk_X7_isCell_14 (fun _ _ _ _ _ h9 => h9.elim) (fun res w5 H locs hrv hq5 L => ?_)
    obtain ⟨ew5, hq5⟩ := hq5
    have ew5 := ew5.symm
    subst ew5
    rcases hq5 with ⟨rfl, cB⟩ | ⟨rfl, cB⟩
    · skip
      refine lv_if_eq (tgt := 24) hx hb dk_X7_isCell_17 (by decide) (fun c9 => absurd c9 (by decide)) (fun _ => ?_)
      refine lv_iconst (v := 1) hx hb dk_X7_isCell_20 (by decide) ?_
      refine lv_goto (tgt := 25) hx hb dk_X7_isCell_21 (by decide) ?_
      exact vx_ret (W.widen (Nat.le_of_ble_eq_true rfl) (Nat.le_of_ble_eq_true rfl) (W.zret (v := 1) (ty := .boolean) hx hb hr (by decide) (fun T9 hT9 _ => ⟨⟨1, w, rfl, ⟨rfl, Or.inl ⟨rfl, by unfold en_ce; omega⟩⟩, by rw [hT9]; exact L.1, L.2.1⟩, L.2.2.F hT9⟩) L.2.2.2.2 dk_X7_isCell_25 hlocks))
    · skip
      refine lv_if_eq (tgt := 24) hx hb dk_X7_isCell_17 (by decide) (fun _ => ?_) (fun c9 => absurd (by decide) c9)
      refine lv_iconst (v := 0) hx hb dk_X7_isCell_24 (by decide) ?_
      exact vx_ret (W.widen (Nat.le_of_ble_eq_true rfl) (Nat.le_of_ble_eq_true rfl) (W.zret (v := 0) (ty := .boolean) hx hb hr (by decide) (fun T9 hT9 _ => ⟨⟨0, w, rfl, ⟨rfl, Or.inr ⟨rfl, by unfold en_ce; omega⟩⟩, by rw [hT9]; exact L.1, L.2.1⟩, L.2.2.F hT9⟩) L.2.2.2.2 dk_X7_isCell_25 hlocks))
  · skip
    refine lv_if_eq (tgt := 24) hx hb dk_X7_isCell_7 (by decide) (fun _ => ?_) (fun c9 => absurd (by decide) c9)
    refine lv_iconst (v := 0) hx hb dk_X7_isCell_24 (by decide) ?_
    exact vx_ret (W.widen (Nat.le_of_ble_eq_true rfl) (Nat.le_of_ble_eq_true rfl) (W.zret (v := 0) (ty := .boolean) hx hb hr (by decide) (fun T9 hT9 _ => ⟨⟨0, w, rfl, ⟨rfl, Or.inr ⟨rfl, by unfold en_ce; omega⟩⟩, by rw [hT9]; exact L.1, L.2.1⟩, L.2.2.F hT9⟩) L.2.2.2.2 dk_X7_isCell_25 hlocks))
set_option maxHeartbeats 4000000 in
theorem kx_X7_isThrown {l : Launch} (hl9 : l.stackTraces = false) (D : va_G) {tys : List (ClassId × FieldType)} {sh : en_H} {w : va_W} {sz : Nat} (hD0 : va_D (va_A w sz) w) {fs : List Value} {c9 k9 : Int32} (hw : w[0]? = some (sh.2 0, .inr (13, fs))) (h30 : 30 < fs.length) (hc : c9 = 0 ∨ c9 = 1) : kx_C l yX7_isThrown cX7_isThrown 3 (some .boolean) 0 0 0 0 [.ref (sh.2 0), .int c9, .int k9] D tys w sz (fun res w1 => res = some (.int c9) ∧ ∃ (fs1 : List Value) (t : Int32), kx_T sh w w1 fs fs1 t ∧ (c9 = 0 → t = 0) ∧ (c9 = 1 → t = k9)) (fun _ => False) := by
  refine vx_ofW (cc := cX7_isThrown) (maxL := 3) (ret := (some .boolean)) (by decide +kernel) rfl ?_
  intro p e s m args below meth c s₁ B9 hml hne hv
  obtain ⟨rfl, hsz, hP, hK, hT⟩ := hv
  subst hsz
  have hx := B9.exec
  have hb := B9.bytes
  have hr := B9.returns
  have hlocks := B9.notSynchronized
  have hts0 := atoms_spec (ws := Cond.code yX7_isThrown cX7_isThrown 3 (some .boolean) :: en_cw) B9.pre
  have hts : ∀ z ∈ en_cw, z.before _ s = true := fun z hz => hts0 z (List.mem_cons_of_mem _ hz)
  have hown : s.vm.findClass RX7 = some m.cls := findClass_of_methodNamed B9.named
  have G : kx_G p s m ([.ref (sh.2 0), .int c9, .int k9] : List Value).toArray c cX7_isThrown RX7 D tys (va_A w s.heap.size) := ⟨hx, hb, hts, hown, hK, hT, fun q h => Or.inr h⟩
  have L : kx_H D (va_A w s.heap.size) s w s.heap [] := ⟨hP, ⟨hD0.1, fun j z hz => Or.inl ⟨j, z.2, hz⟩⟩, va_S.rf⟩
  have hl := lv_entry ([.ref (sh.2 0), .int c9, .int k9] : List Value) (n := 3) (Nat.le_of_ble_eq_true rfl)
  rw [lg_entry_eq]
  generalize (lg_sl ([.ref (sh.2 0), .int c9, .int k9] : List Value) ++ List.replicate (3 - (lg_sl ([.ref (sh.2 0), .int c9, .int k9] : List Value)).length) Slot.unset).toArray = ls at hl ⊢
  have hl : lv_has ls 3 [(0, .ref (sh.2 0)), (1, .int c9), (2, .int k9)] := hl
  rcases hc with rfl | rfl
  · skip
    refine lv_aload_n hx hb dk_X7_isThrown_0 rfl (lv_at hl 0 rfl) ?_
    refine lv_iload_n hx hb dk_X7_isThrown_1 rfl (lv_at hl 1 rfl) ?_
    refine lv_if_eq (tgt := 9) hx hb dk_X7_isThrown_2 (by decide) (fun _ => ?_) (fun c9 => absurd (by decide) c9)
    refine lv_iconst (v := 0) hx hb dk_X7_isThrown_9 (by decide) ?_
    refine kx_put (x := 0) G L (en_PTX7_ok (79, 13, 30, 0) (by decide)) hw h30 (en_lo _) (en_hi _) dk_X7_isThrown_10 (fun w1 H locs e1 n1 o1 L => ?_)
    refine lv_iload_n hx hb dk_X7_isThrown_13 rfl (lv_at hl 1 rfl) ?_
    exact vx_ret (W.widen (Nat.le_of_ble_eq_true rfl) (Nat.le_of_ble_eq_true rfl) (W.zret (v := 0) (ty := .boolean) hx hb hr (by decide) (fun T9 hT9 _ => ⟨⟨0, w1, rfl, ⟨rfl, _, _, ⟨e1, List.length_set, List.getElem?_set_self h30, fun j hj => List.getElem?_set_ne (Ne.symm hj), n1, o1⟩, fun _ => rfl, fun h => absurd h (by decide)⟩, by rw [hT9]; exact L.1, L.2.1⟩, L.2.2.F hT9⟩) L.2.2.2.2 dk_X7_isThrown_14 hlocks))
  · skip
    refine lv_aload_n hx hb dk_X7_isThrown_0 rfl (lv_at hl 0 rfl) ?_
    refine lv_iload_n hx hb dk_X7_isThrown_1 rfl (lv_at hl 1 rfl) ?_
    refine lv_if_eq (tgt := 9) hx hb dk_X7_isThrown_2 (by decide) (fun c9 => absurd c9 (by decide)) (fun _ => ?_)
    refine lv_iload_n hx hb dk_X7_isThrown_5 rfl (lv_at hl 2 rfl) ?_
    refine lv_goto (tgt := 10) hx hb dk_X7_isThrown_6 (by decide) ?_
    refine kx_put (x := k9) G L (en_PTX7_ok (79, 13, 30, 0) (by decide)) hw h30 (en_lo _) (en_hi _) dk_X7_isThrown_10 (fun w2 H locs e2 n2 o2 L => ?_)
    refine lv_iload_n hx hb dk_X7_isThrown_13 rfl (lv_at hl 1 rfl) ?_
    exact vx_ret (W.widen (Nat.le_of_ble_eq_true rfl) (Nat.le_of_ble_eq_true rfl) (W.zret (v := 1) (ty := .boolean) hx hb hr (by decide) (fun T9 hT9 _ => ⟨⟨1, w2, rfl, ⟨rfl, _, _, ⟨e2, List.length_set, List.getElem?_set_self h30, fun j hj => List.getElem?_set_ne (Ne.symm hj), n2, o2⟩, fun h => absurd h (by decide), fun _ => rfl⟩, by rw [hT9]; exact L.1, L.2.1⟩, L.2.2.F hT9⟩) L.2.2.2.2 dk_X7_isThrown_14 hlocks))
set_option maxHeartbeats 4000000 in
theorem kx_X7_isNoHole {l : Launch} (hl9 : l.stackTraces = false) (D : va_G) {tys : List (ClassId × FieldType)} {sh : en_H} {w : va_W} {sz : Nat} (hD0 : va_D (va_A w sz) w) {fs : List Value} {hc pc : Nat} {bg : Int32} {rr mk : Nat → Nat → Int32} {a1 : Int32} (hM : kx_M tys sh w fs hc pc bg rr mk) : kx_C l yX7_isNoHole cX7_isNoHole 2 (some .boolean) 1 0 0 0 [.ref (sh.2 0), .int a1] D tys w sz (fun res w1 => w1 = w ∧ ((res = some (.int 1) ∧ ¬ (0 ≤ a1.toInt ∧ a1.toInt < (hc : Int))) ∨ (res = some (.int 0) ∧ (0 ≤ a1.toInt ∧ a1.toInt < (hc : Int))))) (fun _ => False) := by
  refine vx_ofW (cc := cX7_isNoHole) (maxL := 2) (ret := (some .boolean)) (by decide +kernel) rfl ?_
  intro p e s m args below meth c s₁ B9 hml hne hv
  obtain ⟨rfl, hsz, hP, hK, hT⟩ := hv
  subst hsz
  have hx := B9.exec
  have hb := B9.bytes
  have hr := B9.returns
  have hlocks := B9.notSynchronized
  have hts0 := atoms_spec (ws := Cond.code yX7_isNoHole cX7_isNoHole 2 (some .boolean) :: en_cw) B9.pre
  have hts : ∀ z ∈ en_cw, z.before _ s = true := fun z hz => hts0 z (List.mem_cons_of_mem _ hz)
  have hown : s.vm.findClass RX7 = some m.cls := findClass_of_methodNamed B9.named
  have G : kx_G p s m ([.ref (sh.2 0), .int a1] : List Value).toArray c cX7_isNoHole RX7 D tys (va_A w s.heap.size) := ⟨hx, hb, hts, hown, hK, hT, fun q h => Or.inr h⟩
  have L : kx_H D (va_A w s.heap.size) s w s.heap [] := ⟨hP, ⟨hD0.1, fun j z hz => Or.inl ⟨j, z.2, hz⟩⟩, va_S.rf⟩
  have hl := lv_entry ([.ref (sh.2 0), .int a1] : List Value) (n := 2) (Nat.le_of_ble_eq_true rfl)
  rw [lg_entry_eq]
  generalize (lg_sl ([.ref (sh.2 0), .int a1] : List Value) ++ List.replicate (2 - (lg_sl ([.ref (sh.2 0), .int a1] : List Value)).length) Slot.unset).toArray = ls at hl ⊢
  have hl : lv_has ls 2 [(0, .ref (sh.2 0)), (1, .int a1)] := hl
  have fM := hM.1
  have hc9 : hc ≤ 9 := fM.2.2.2.2.2.2.2.1
  have ks : (nI hc - 1).toInt = (hc : Int) - 1 := kx_sub1 (by omega)
  have k1 : (0 : Int32).toInt = 0 := by decide
  refine lv_iload_n hx hb dk_X7_isNoHole_0 rfl (lv_at hl 1 rfl) ?_
  refine lv_iconst (v := 0) hx hb dk_X7_isNoHole_1 (by decide) ?_
  refine lv_aload_n hx hb dk_X7_isNoHole_2 rfl (lv_at hl 0 rfl) ?_
  refine kx_get (v := .int (nI hc)) G L (en_FTX7_ok (86, 13, 16) (by decide)) fM.1 fM.2.2.2.2.1 dk_X7_isNoHole_3 ?_
  refine lv_iconst (v := 1) hx hb dk_X7_isNoHole_6 (by decide) ?_
  refine lv_isub hx hb dk_X7_isNoHole_7 ?_
  refine kx_cS (As := [.int a1, .int 0, .int ((nI hc) - 1)]) (rest := []) G L (kx_X7_isIn hl9 D (kx_D1 L)) gc_RX7_82s rfl (hml.trans hl.1.symm) ⟨Nat.le_of_ble_eq_true rfl, Nat.le_of_ble_eq_true rfl⟩ ⟨Nat.le_of_ble_eq_true rfl, Nat.le_of_ble_eq_true rfl⟩ (Nat.le_of_ble_eq_true rfl) dk_X7_isNoHole_8 (fun _ _ _ _ _ h9 => h9.elim) (fun res w2 H locs hrv hq2 L => ?_)
  obtain ⟨ew2, hq2⟩ := hq2
  have ew2 := ew2.symm
  subst ew2
  rcases hq2 with ⟨rfl, c0⟩ | ⟨rfl, c0⟩
  · skip
    refine lv_if_ne (tgt := 18) hx hb dk_X7_isNoHole_11 (by decide) (fun _ => ?_) (fun c9 => absurd c9 (by decide))
    refine lv_iconst (v := 0) hx hb dk_X7_isNoHole_18 (by decide) ?_
    exact vx_ret (W.widen (Nat.le_of_ble_eq_true rfl) (Nat.le_of_ble_eq_true rfl) (W.zret (v := 0) (ty := .boolean) hx hb hr (by decide) (fun T9 hT9 _ => ⟨⟨0, w, rfl, ⟨rfl, Or.inr ⟨rfl, by omega⟩⟩, by rw [hT9]; exact L.1, L.2.1⟩, L.2.2.F hT9⟩) L.2.2.2.2 dk_X7_isNoHole_19 hlocks))
  · skip
    refine lv_if_ne (tgt := 18) hx hb dk_X7_isNoHole_11 (by decide) (fun c9 => absurd (by decide) c9) (fun _ => ?_)
    refine lv_iconst (v := 1) hx hb dk_X7_isNoHole_14 (by decide) ?_
    refine lv_goto (tgt := 19) hx hb dk_X7_isNoHole_15 (by decide) ?_
    exact vx_ret (W.widen (Nat.le_of_ble_eq_true rfl) (Nat.le_of_ble_eq_true rfl) (W.zret (v := 1) (ty := .boolean) hx hb hr (by decide) (fun T9 hT9 _ => ⟨⟨1, w, rfl, ⟨rfl, Or.inl ⟨rfl, by omega⟩⟩, by rw [hT9]; exact L.1, L.2.1⟩, L.2.2.F hT9⟩) L.2.2.2.2 dk_X7_isNoHole_19 hlocks))
