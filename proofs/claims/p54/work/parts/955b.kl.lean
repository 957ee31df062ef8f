def kx_L_hole (tys : List (ClassId × FieldType)) (sh : en_H) (w w1 : va_W) (cO : ClassId) (fx : List Value) (hc pc : Nat) (bg : Int32) (ix ar : Nat → Int32) (ck : Nat → Nat → Int32) (a1 : Int32) (a2 : Int32) (a3 : Int32) (a4 : Int32) (a5 : Int32) (a6 : Int32) (r : Int32) : Prop := (r = 1 ∧ ¬ kx_hg a1 a2 a3 a4 a5 a6 ∧ w1 = w) ∨ (r = 2 ∧ kx_hg a1 a2 a3 a4 a5 a6 ∧ ¬ (bg = 0 ∧ hc < 9) ∧ w1 = w) ∨ (r = 3 ∧ kx_hg a1 a2 a3 a4 a5 a6 ∧ (bg = 0 ∧ hc < 9) ∧ (∃ j, j < hc ∧ ix j = a2) ∧ w1 = w) ∨ (r = 0 ∧ kx_hg a1 a2 a3 a4 a5 a6 ∧ (bg = 0 ∧ hc < 9) ∧ (∀ j, j < hc → ¬ ix j = a2) ∧ ∃ (fx1 : List Value) (g : Nat → Int64), kx_X tys sh w1 fx1 (hc + 1) pc bg (va_up ix hc a2) ar ck ∧ w1[138]? = some (sh.2 138, .inl (cO, 1, .inr (.inl g))) ∧ g 0 = (nI hc).toInt64 ∧ w1.length = w.length ∧ (∀ j, j ≠ 66 → j ≠ 68 + 2 * hc → j ≠ 138 → w1[j]? = w[j]?) ∧ ∀ j, j ≠ 4 → fx1[j]? = fx[j]?)
def kx_L_area (tys : List (ClassId × FieldType)) (sh : en_H) (w w1 : va_W) (cO : ClassId) (fx : List Value) (hc pc : Nat) (bg : Int32) (ix ar : Nat → Int32) (ck : Nat → Nat → Int32) (a1 : Int32) (a2 : Int32) (a3 : Int32) (a4 : Int32) (a5 : Int32) (a6 : Int32) (r : Int32) : Prop := (r = 1 ∧ ¬ (0 ≤ a1.toInt ∧ a1.toInt < (hc : Int)) ∧ w1 = w) ∨ (r = 2 ∧ (0 ≤ a1.toInt ∧ a1.toInt < (hc : Int)) ∧ ¬ kx_ag a2 a3 a4 a5 a6 ∧ w1 = w) ∨ (r = 3 ∧ (0 ≤ a1.toInt ∧ a1.toInt < (hc : Int)) ∧ kx_ag a2 a3 a4 a5 a6 ∧ ¬ (bg = 0 ∧ (ar a1.toInt.toNat).toInt < 12) ∧ w1 = w) ∨ (r = 0 ∧ (0 ≤ a1.toInt ∧ a1.toInt < (hc : Int)) ∧ kx_ag a2 a3 a4 a5 a6 ∧ (bg = 0 ∧ (ar a1.toInt.toNat).toInt < 12) ∧ ∃ g : Nat → Int64, kx_X tys sh w1 fx hc pc bg ix (va_up ar a1.toInt.toNat (ar a1.toInt.toNat + 1)) (kx_ck ck a1.toInt.toNat a2 a3 a4 a5 a6) ∧ w1[138]? = some (sh.2 138, .inl (cO, 1, .inr (.inl g))) ∧ g 0 = (ar a1.toInt.toNat + 1).toInt64 ∧ w1.length = w.length ∧ ∀ j, j ≠ 68 + 2 * a1.toInt.toNat → j ≠ 69 + 2 * a1.toInt.toNat → j ≠ 138 → w1[j]? = w[j]?)
def kx_L_player (tys : List (ClassId × FieldType)) (sh : en_H) (w w1 : va_W) (cO : ClassId) (fx : List Value) (hc pc : Nat) (bg : Int32) (ix ar : Nat → Int32) (ck : Nat → Nat → Int32) (r : Int32) : Prop := (r = 1 ∧ ¬ (bg = 0 ∧ pc < 6) ∧ w1 = w) ∨ (r = 0 ∧ (bg = 0 ∧ pc < 6) ∧ ∃ (fx1 : List Value) (g : Nat → Int64), kx_X tys sh w1 fx1 hc (pc + 1) bg ix ar ck ∧ w1[138]? = some (sh.2 138, .inl (cO, 1, .inr (.inl g))) ∧ g 0 = (nI pc).toInt64 ∧ w1.length = w.length ∧ (∀ j, j ≠ 66 → j ≠ 138 → w1[j]? = w[j]?) ∧ ∀ j, j ≠ 5 → fx1[j]? = fx[j]?)
set_option maxHeartbeats 4000000 in
set_option maxRecDepth 100000 in
theorem wk_hole {l : Launch} (hl9 : l.stackTraces = false) (D : va_G) (tys : List (ClassId × FieldType)) (cO cD : ClassId) (sh : en_H) (w : va_W) (sz : Nat) (g0 : Nat → Int64) {fx : List Value} {hc pc : Nat} {bg : Int32} {ix ar : Nat → Int32} {ck : Nat → Nat → Int32} (a1 : Int32) (a2 : Int32) (a3 : Int32) (a4 : Int32) (a5 : Int32) (a6 : Int32) (hX : kx_X tys sh w fx hc pc bg ix ar ck) (hD0 : va_D (va_A w sz) w) (hwo : w[138]? = some (sh.2 138, .inl (cO, 1, .inr (.inl g0)))) (hTY : tys.map Prod.snd = en_TY0) : Met l yL_hole (Cond.codeWith yL_hole cL_hole 9 (some .int) [(0, 18, 21, 13), (0, 18, 25, 15), (0, 18, 29, 17)] :: en_cw) (en_rm 2 (1, 6)) (va_Pc ([.ref (sh.2 66), .int a1, .int a2, .int a3, .int a4, .int a5, .int a6, .ref (sh.2 138)] : List Value) (en_B D vwCl (tys ++ [(cO, .long), (cD, .double)]) w sz)) (va_Qi (fun (r : Int32) (u : en_H × va_W) => u.1 = sh ∧ kx_L_hole tys sh w u.2 cO fx hc pc bg ix ar ck a1 a2 a3 a4 a5 a6 r) (en_Bw D vwCl (va_A w sz)) (va_A w sz)) 1 6 (va_A w sz) := by
  refine va_MetW (cc := cL_hole) (maxL := 9) (ret := some .int) (hh := [(0, 18, 21, 13), (0, 18, 25, 15), (0, 18, 29, 17)]) (by decide +kernel) rfl ?_
  intro p e s m args below meth c s₁ B hml hv
  obtain ⟨rfl, hsz, hP, hK, hT⟩ := hv
  subst hsz
  have hx := B.exec
  have hb := B.bytes
  have hr := B.returns
  have hts0 := atoms_spec (ws := Cond.codeWith yL_hole cL_hole 9 (some .int) [(0, 18, 21, 13), (0, 18, 25, 15), (0, 18, 29, 17)] :: en_cw) B.pre
  have hts : ∀ z ∈ en_cw, z.before _ s = true := fun z hz => hts0 z (List.mem_cons_of_mem _ hz)
  have hown : s.vm.findClass RL = some m.cls := findClass_of_methodNamed B.named
  have htab := vx_table (x := yL_hole) B (hts0 _ List.mem_cons_self)
  have hA : ∀ q : Nat, s.heap.size ≤ q → va_A w s.heap.size q := fun q h => Or.inr h
  have hK0 : va_K D vwCl tys s := hK.pre
  have G : kx_G p s m ([.ref (sh.2 66), .int a1, .int a2, .int a3, .int a4, .int a5, .int a6, .ref (sh.2 138)] : List Value).toArray c cL_hole RL D tys (va_A w s.heap.size) := ⟨hx, hb, hts, hown, hK0, hT, hA⟩
  have L : kx_H D (va_A w s.heap.size) s w s.heap [] := ⟨hP, hD0, va_S.rf⟩
  have hTt : (tys ++ [(cO, .long), (cD, .double)])[7]? = some (cO, .long) := wr_ty hTY
  have hl := lv_entry ([.ref (sh.2 66), .int a1, .int a2, .int a3, .int a4, .int a5, .int a6, .ref (sh.2 138)] : List Value) (n := 9) (Nat.le_of_ble_eq_true rfl)
  rw [lg_entry_eq]
  generalize (lg_sl ([.ref (sh.2 66), .int a1, .int a2, .int a3, .int a4, .int a5, .int a6, .ref (sh.2 138)] : List Value) ++ List.replicate (9 - (lg_sl ([.ref (sh.2 66), .int a1, .int a2, .int a3, .int a4, .int a5, .int a6, .ref (sh.2 138)] : List Value)).length) Slot.unset).toArray = ls at hl ⊢
  have hl : lv_has ls 9 [(0, .ref (sh.2 66)), (1, .int a1), (2, .int a2), (3, .int a3), (4, .int a4), (5, .int a5), (6, .int a6), (7, .ref (sh.2 138))] := hl
  have hc9 : hc ≤ 9 := hX.1.2.2.2.2.2.2.1
  refine lv_aload hx hb dw_hole_0 (lv_at hl 7 rfl) ?_
  refine lv_iconst (v := 0) hx hb dw_hole_2 (by decide) ?_
  refine lv_aload_n hx hb dw_hole_3 rfl (lv_at hl 0 rfl) ?_
  refine lv_iload_n hx hb dw_hole_4 rfl (lv_at hl 1 rfl) ?_
  refine lv_iload_n hx hb dw_hole_5 rfl (lv_at hl 2 rfl) ?_
  refine lv_iload_n hx hb dw_hole_6 rfl (lv_at hl 3 rfl) ?_
  refine lv_iload hx hb dw_hole_7 (lv_at hl 4 rfl) ?_
  refine lv_iload hx hb dw_hole_9 (lv_at hl 5 rfl) ?_
  refine lv_iload hx hb dw_hole_11 (lv_at hl 6 rfl) ?_
  refine kx_cV (As := [.int a1, .int a2, .int a3, .int a4, .int a5, .int a6]) (rest := [.int 0, .ref (sh.2 138)]) (q := 66) (ci := 12) G L (kx_X6_hole hl9 D (kx_D1 L) hX) gw_X6_hole hX.1.1 rfl rfl rfl (hml.trans hl.1.symm) ⟨Nat.le_of_ble_eq_true rfl, Nat.le_of_ble_eq_true rfl⟩ ⟨Nat.le_of_ble_eq_true rfl, Nat.le_of_ble_eq_true rfl⟩ (Nat.le_of_ble_eq_true rfl) dw_hole_13 (fun E ce q9 H1 locs1 hX9 L9 hcell hvm hcl => ?_) (fun res w1 H locs hrv hq L => ?_)
  · rcases hX9 with ⟨rfl, x1⟩ | ⟨rfl, x1, x2⟩ | ⟨rfl, x1, x2, x3⟩
    · skip
      refine vx_catch (E := "java/lang/IllegalArgumentException") (name := "java/lang/IllegalArgumentException") hown [] ⟨0, 18, 21, 13⟩ [⟨0, 18, 25, 15⟩, ⟨0, 18, 29, 17⟩] (htab.trans rfl) wr_nil (by decide) (by decide) (hts (.classLink RL 13 "java/lang/IllegalArgumentException") cwl498) (va_Nw.use rfl (hT.1 (Cond.castable "java/lang/IllegalArgumentException" "java/lang/IllegalArgumentException") (tf_cast (53, "java/lang/IllegalArgumentException") (by decide +kernel)))) hcell hvm hcl ?_
      refine lv_astore (lv' := (8, .ref q9) :: [(0, .ref (sh.2 66)), (1, .int a1), (2, .int a2), (3, .int a3), (4, .int a4), (5, .int a5), (6, .int a6), (7, .ref (sh.2 138))]) hx hb dw_hole_21 hl (by decide) rfl (fun ls hl => ?_)
      refine lv_iconst (v := 1) hx hb dw_hole_23 (by decide) ?_
      exact W.widen (Nat.le_of_ble_eq_true rfl) (Nat.le_of_ble_eq_true rfl) (W.iret (v := 1) hx hb hr (fun t ht hW9 => ⟨⟨1, (sh, w), rfl, ⟨rfl, Or.inl ⟨rfl, x1, rfl⟩⟩, by rw [ht]; exact L9.1, L9.2.1⟩, L9.2.2.F ht⟩) L9.2.2.2.2 dw_hole_24)
    · skip
      refine vx_catch (E := "java/lang/IllegalStateException") (name := "java/lang/IllegalStateException") hown [⟨0, 18, 21, 13⟩] ⟨0, 18, 25, 15⟩ [⟨0, 18, 29, 17⟩] (htab.trans rfl) (wr_cons (Or.inr ⟨by decide, "java/lang/IllegalArgumentException", (hts (.classLink RL 13 "java/lang/IllegalArgumentException") cwl498), hT.2.2.2.2.1 _ (by decide +kernel) _ (by decide +kernel) (by decide)⟩) wr_nil) (by decide) (by decide) (hts (.classLink RL 15 "java/lang/IllegalStateException") cwl499) (va_Nw.use rfl (hT.1 (Cond.castable "java/lang/IllegalStateException" "java/lang/IllegalStateException") (tf_cast (69, "java/lang/IllegalStateException") (by decide +kernel)))) hcell hvm hcl ?_
      refine lv_astore (lv' := (8, .ref q9) :: [(0, .ref (sh.2 66)), (1, .int a1), (2, .int a2), (3, .int a3), (4, .int a4), (5, .int a5), (6, .int a6), (7, .ref (sh.2 138))]) hx hb dw_hole_25 hl (by decide) rfl (fun ls hl => ?_)
      refine lv_iconst (v := 2) hx hb dw_hole_27 (by decide) ?_
      exact W.widen (Nat.le_of_ble_eq_true rfl) (Nat.le_of_ble_eq_true rfl) (W.iret (v := 2) hx hb hr (fun t ht hW9 => ⟨⟨2, (sh, w), rfl, ⟨rfl, Or.inr (Or.inl ⟨rfl, x1, x2, rfl⟩)⟩, by rw [ht]; exact L9.1, L9.2.1⟩, L9.2.2.F ht⟩) L9.2.2.2.2 dw_hole_28)
    · skip
      refine vx_catch (E := "java/lang/UnsupportedOperationException") (name := "java/lang/UnsupportedOperationException") hown [⟨0, 18, 21, 13⟩, ⟨0, 18, 25, 15⟩] ⟨0, 18, 29, 17⟩ [] (htab.trans rfl) (wr_cons (Or.inr ⟨by decide, "java/lang/IllegalArgumentException", (hts (.classLink RL 13 "java/lang/IllegalArgumentException") cwl498), hT.2.2.2.2.1 _ (by decide +kernel) _ (by decide +kernel) (by decide)⟩) (wr_cons (Or.inr ⟨by decide, "java/lang/IllegalStateException", (hts (.classLink RL 15 "java/lang/IllegalStateException") cwl499), hT.2.2.2.2.1 _ (by decide +kernel) _ (by decide +kernel) (by decide)⟩) wr_nil)) (by decide) (by decide) (hts (.classLink RL 17 "java/lang/UnsupportedOperationException") cwl500) (va_Nw.use rfl (hT.1 (Cond.castable "java/lang/UnsupportedOperationException" "java/lang/UnsupportedOperationException") (tf_cast (78, "java/lang/UnsupportedOperationException") (by decide +kernel)))) hcell hvm hcl ?_
      refine lv_astore (lv' := (8, .ref q9) :: [(0, .ref (sh.2 66)), (1, .int a1), (2, .int a2), (3, .int a3), (4, .int a4), (5, .int a5), (6, .int a6), (7, .ref (sh.2 138))]) hx hb dw_hole_29 hl (by decide) rfl (fun ls hl => ?_)
      refine lv_iconst (v := 3) hx hb dw_hole_31 (by decide) ?_
      exact W.widen (Nat.le_of_ble_eq_true rfl) (Nat.le_of_ble_eq_true rfl) (W.iret (v := 3) hx hb hr (fun t ht hW9 => ⟨⟨3, (sh, w), rfl, ⟨rfl, Or.inr (Or.inr (Or.inl ⟨rfl, x1, x2, x3, rfl⟩))⟩, by rw [ht]; exact L9.1, L9.2.1⟩, L9.2.2.F ht⟩) L9.2.2.2.2 dw_hole_32)
  · obtain ⟨er, h1, h2, h3, h4, fx1, hX1, hlen, hoth, hfx⟩ := hq
    subst er
    refine lv_i2l hx hb dw_hole_16 rfl ?_
    have hku : w1[138]? = some (sh.2 138, .inl (cO, 1, .inr (.inl g0))) := (hoth 138 (by omega) (by omega)).trans hwo
    refine va_last hx hb hK L.1 L.2.1 L.2.2 138 7 hku hTt (vp_in_nI (n := 0) (by decide) (by decide)) dw_hole_17 (fun H2 locs2 hP2 hD2 hS2 => ?_)
    obtain ⟨w2, ew, e2, n2, o2⟩ := kx_set hku (.inl (cO, 1, .inr (.inl (vp_updL g0 (0 : Int32).toNatClampNeg ((nI hc) : Int32).toInt64))))
    rw [← ew] at hP2 hD2
    have hg0 : vp_updL g0 (0 : Int32).toNatClampNeg ((nI hc) : Int32).toInt64 0 = ((nI hc) : Int32).toInt64 := by unfold vp_updL; rw [if_pos (by decide)]
    refine lv_goto (tgt := 33) hx hb dw_hole_18 (by decide) ?_
    refine lv_iconst (v := 0) hx hb dw_hole_33 (by decide) ?_
    exact W.widen (Nat.le_of_ble_eq_true rfl) (Nat.le_of_ble_eq_true rfl) (W.iret (v := 0) hx hb hr (fun t ht hW9 => ⟨⟨0, (sh, w2), rfl, ⟨rfl, Or.inr (Or.inr (Or.inr ⟨rfl, h1, ⟨h2, h3⟩, h4, fx1, _, hX1.of (fun j j1 j2 => o2 j (by omega)), e2, hg0, n2.trans hlen, fun j j1 j2 j3 => (o2 j j3).trans (hoth j j1 j2), hfx⟩))⟩, by rw [ht]; exact hP2, hD2⟩, hS2.F ht⟩) hS2.2.2 dw_hole_34)
set_option maxHeartbeats 4000000 in
set_option maxRecDepth 100000 in
theorem wk_area {l : Launch} (hl9 : l.stackTraces = false) (D : va_G) (tys : List (ClassId × FieldType)) (cO cD : ClassId) (sh : en_H) (w : va_W) (sz : Nat) (g0 : Nat → Int64) {fx : List Value} {hc pc : Nat} {bg : Int32} {ix ar : Nat → Int32} {ck : Nat → Nat → Int32} (a1 : Int32) (a2 : Int32) (a3 : Int32) (a4 : Int32) (a5 : Int32) (a6 : Int32) (hb2 : 0 ≤ a2.toInt ∧ a2.toInt ≤ 65535) (hX : kx_X tys sh w fx hc pc bg ix ar ck) (hD0 : va_D (va_A w sz) w) (hwo : w[138]? = some (sh.2 138, .inl (cO, 1, .inr (.inl g0)))) (hTY : tys.map Prod.snd = en_TY0) : Met l yL_area (Cond.codeWith yL_area cL_area 9 (some .int) [(0, 18, 21, 23), (0, 18, 25, 13), (0, 18, 29, 15)] :: en_cw) (en_rm 3 (2, 12)) (va_Pc ([.ref (sh.2 66), .int a1, .int a2, .int a3, .int a4, .int a5, .int a6, .ref (sh.2 138)] : List Value) (en_B D vwCl (tys ++ [(cO, .long), (cD, .double)]) w sz)) (va_Qi (fun (r : Int32) (u : en_H × va_W) => u.1 = sh ∧ kx_L_area tys sh w u.2 cO fx hc pc bg ix ar ck a1 a2 a3 a4 a5 a6 r) (en_Bw D vwCl (va_A w sz)) (va_A w sz)) 2 12 (va_A w sz) := by
  refine va_MetW (cc := cL_area) (maxL := 9) (ret := some .int) (hh := [(0, 18, 21, 23), (0, 18, 25, 13), (0, 18, 29, 15)]) (by decide +kernel) rfl ?_
  intro p e s m args below meth c s₁ B hml hv
  obtain ⟨rfl, hsz, hP, hK, hT⟩ := hv
  subst hsz
  have hx := B.exec
  have hb := B.bytes
  have hr := B.returns
  have hts0 := atoms_spec (ws := Cond.codeWith yL_area cL_area 9 (some .int) [(0, 18, 21, 23), (0, 18, 25, 13), (0, 18, 29, 15)] :: en_cw) B.pre
  have hts : ∀ z ∈ en_cw, z.before _ s = true := fun z hz => hts0 z (List.mem_cons_of_mem _ hz)
  have hown : s.vm.findClass RL = some m.cls := findClass_of_methodNamed B.named
  have htab := vx_table (x := yL_area) B (hts0 _ List.mem_cons_self)
  have hA : ∀ q : Nat, s.heap.size ≤ q → va_A w s.heap.size q := fun q h => Or.inr h
  have hK0 : va_K D vwCl tys s := hK.pre
  have G : kx_G p s m ([.ref (sh.2 66), .int a1, .int a2, .int a3, .int a4, .int a5, .int a6, .ref (sh.2 138)] : List Value).toArray c cL_area RL D tys (va_A w s.heap.size) := ⟨hx, hb, hts, hown, hK0, hT, hA⟩
  have L : kx_H D (va_A w s.heap.size) s w s.heap [] := ⟨hP, hD0, va_S.rf⟩
  have hTt : (tys ++ [(cO, .long), (cD, .double)])[7]? = some (cO, .long) := wr_ty hTY
  have hl := lv_entry ([.ref (sh.2 66), .int a1, .int a2, .int a3, .int a4, .int a5, .int a6, .ref (sh.2 138)] : List Value) (n := 9) (Nat.le_of_ble_eq_true rfl)
  rw [lg_entry_eq]
  generalize (lg_sl ([.ref (sh.2 66), .int a1, .int a2, .int a3, .int a4, .int a5, .int a6, .ref (sh.2 138)] : List Value) ++ List.replicate (9 - (lg_sl ([.ref (sh.2 66), .int a1, .int a2, .int a3, .int a4, .int a5, .int a6, .ref (sh.2 138)] : List Value)).length) Slot.unset).toArray = ls at hl ⊢
  have hl : lv_has ls 9 [(0, .ref (sh.2 66)), (1, .int a1), (2, .int a2), (3, .int a3), (4, .int a4), (5, .int a5), (6, .int a6), (7, .ref (sh.2 138))] := hl
  have hc9 : hc ≤ 9 := hX.1.2.2.2.2.2.2.1
  refine lv_aload hx hb dw_area_0 (lv_at hl 7 rfl) ?_
  refine lv_iconst (v := 0) hx hb dw_area_2 (by decide) ?_
  refine lv_aload_n hx hb dw_area_3 rfl (lv_at hl 0 rfl) ?_
  refine lv_iload_n hx hb dw_area_4 rfl (lv_at hl 1 rfl) ?_
  refine lv_iload_n hx hb dw_area_5 rfl (lv_at hl 2 rfl) ?_
  refine lv_iload_n hx hb dw_area_6 rfl (lv_at hl 3 rfl) ?_
  refine lv_iload hx hb dw_area_7 (lv_at hl 4 rfl) ?_
  refine lv_iload hx hb dw_area_9 (lv_at hl 5 rfl) ?_
  refine lv_iload hx hb dw_area_11 (lv_at hl 6 rfl) ?_
  refine kx_cV (As := [.int a1, .int a2, .int a3, .int a4, .int a5, .int a6]) (rest := [.int 0, .ref (sh.2 138)]) (q := 66) (ci := 12) G L (kx_X6_area hl9 D (kx_D1 L) hX hb2.1 hb2.2) gw_X6_area hX.1.1 rfl rfl rfl (hml.trans hl.1.symm) ⟨Nat.le_of_ble_eq_true rfl, Nat.le_of_ble_eq_true rfl⟩ ⟨Nat.le_of_ble_eq_true rfl, Nat.le_of_ble_eq_true rfl⟩ (Nat.le_of_ble_eq_true rfl) dw_area_13 (fun E ce q9 H1 locs1 hX9 L9 hcell hvm hcl => ?_) (fun res w1 H locs hrv hq L => ?_)
  · rcases hX9 with ⟨rfl, x1⟩ | ⟨rfl, x1, x2⟩ | ⟨rfl, x1, x2, x3⟩
    · skip
      refine vx_catch (E := "java/lang/IndexOutOfBoundsException") (name := "java/lang/IndexOutOfBoundsException") hown [] ⟨0, 18, 21, 23⟩ [⟨0, 18, 25, 13⟩, ⟨0, 18, 29, 15⟩] (htab.trans rfl) wr_nil (by decide) (by decide) (hts (.classLink RL 23 "java/lang/IndexOutOfBoundsException") cwl619) (va_Nw.use rfl (hT.1 (Cond.castable "java/lang/IndexOutOfBoundsException" "java/lang/IndexOutOfBoundsException") (tf_cast (539, "java/lang/IndexOutOfBoundsException") (by decide +kernel)))) hcell hvm hcl ?_
      refine lv_astore (lv' := (8, .ref q9) :: [(0, .ref (sh.2 66)), (1, .int a1), (2, .int a2), (3, .int a3), (4, .int a4), (5, .int a5), (6, .int a6), (7, .ref (sh.2 138))]) hx hb dw_area_21 hl (by decide) rfl (fun ls hl => ?_)
      refine lv_iconst (v := 1) hx hb dw_area_23 (by decide) ?_
      exact W.widen (Nat.le_of_ble_eq_true rfl) (Nat.le_of_ble_eq_true rfl) (W.iret (v := 1) hx hb hr (fun t ht hW9 => ⟨⟨1, (sh, w), rfl, ⟨rfl, Or.inl ⟨rfl, x1, rfl⟩⟩, by rw [ht]; exact L9.1, L9.2.1⟩, L9.2.2.F ht⟩) L9.2.2.2.2 dw_area_24)
    · skip
      refine vx_catch (E := "java/lang/IllegalArgumentException") (name := "java/lang/IllegalArgumentException") hown [⟨0, 18, 21, 23⟩] ⟨0, 18, 25, 13⟩ [⟨0, 18, 29, 15⟩] (htab.trans rfl) (wr_cons (Or.inr ⟨by decide, "java/lang/IndexOutOfBoundsException", (hts (.classLink RL 23 "java/lang/IndexOutOfBoundsException") cwl619), hT.2.2.2.2.1 _ (by decide +kernel) _ (by decide +kernel) (by decide)⟩) wr_nil) (by decide) (by decide) (hts (.classLink RL 13 "java/lang/IllegalArgumentException") cwl498) (va_Nw.use rfl (hT.1 (Cond.castable "java/lang/IllegalArgumentException" "java/lang/IllegalArgumentException") (tf_cast (53, "java/lang/IllegalArgumentException") (by decide +kernel)))) hcell hvm hcl ?_
      refine lv_astore (lv' := (8, .ref q9) :: [(0, .ref (sh.2 66)), (1, .int a1), (2, .int a2), (3, .int a3), (4, .int a4), (5, .int a5), (6, .int a6), (7, .ref (sh.2 138))]) hx hb dw_area_25 hl (by decide) rfl (fun ls hl => ?_)
      refine lv_iconst (v := 2) hx hb dw_area_27 (by decide) ?_
      exact W.widen (Nat.le_of_ble_eq_true rfl) (Nat.le_of_ble_eq_true rfl) (W.iret (v := 2) hx hb hr (fun t ht hW9 => ⟨⟨2, (sh, w), rfl, ⟨rfl, Or.inr (Or.inl ⟨rfl, x1, x2, rfl⟩)⟩, by rw [ht]; exact L9.1, L9.2.1⟩, L9.2.2.F ht⟩) L9.2.2.2.2 dw_area_28)
    · skip
      refine vx_catch (E := "java/lang/IllegalStateException") (name := "java/lang/IllegalStateException") hown [⟨0, 18, 21, 23⟩, ⟨0, 18, 25, 13⟩] ⟨0, 18, 29, 15⟩ [] (htab.trans rfl) (wr_cons (Or.inr ⟨by decide, "java/lang/IndexOutOfBoundsException", (hts (.classLink RL 23 "java/lang/IndexOutOfBoundsException") cwl619), hT.2.2.2.2.1 _ (by decide +kernel) _ (by decide +kernel) (by decide)⟩) (wr_cons (Or.inr ⟨by decide, "java/lang/IllegalArgumentException", (hts (.classLink RL 13 "java/lang/IllegalArgumentException") cwl498), hT.2.2.2.2.1 _ (by decide +kernel) _ (by decide +kernel) (by decide)⟩) wr_nil)) (by decide) (by decide) (hts (.classLink RL 15 "java/lang/IllegalStateException") cwl499) (va_Nw.use rfl (hT.1 (Cond.castable "java/lang/IllegalStateException" "java/lang/IllegalStateException") (tf_cast (69, "java/lang/IllegalStateException") (by decide +kernel)))) hcell hvm hcl ?_
      refine lv_astore (lv' := (8, .ref q9) :: [(0, .ref (sh.2 66)), (1, .int a1), (2, .int a2), (3, .int a3), (4, .int a4), (5, .int a5), (6, .int a6), (7, .ref (sh.2 138))]) hx hb dw_area_29 hl (by decide) rfl (fun ls hl => ?_)
      refine lv_iconst (v := 3) hx hb dw_area_31 (by decide) ?_
      exact W.widen (Nat.le_of_ble_eq_true rfl) (Nat.le_of_ble_eq_true rfl) (W.iret (v := 3) hx hb hr (fun t ht hW9 => ⟨⟨3, (sh, w), rfl, ⟨rfl, Or.inr (Or.inr (Or.inl ⟨rfl, x1, x2, x3, rfl⟩))⟩, by rw [ht]; exact L9.1, L9.2.1⟩, L9.2.2.F ht⟩) L9.2.2.2.2 dw_area_32)
  · obtain ⟨er, h1, h2, h3, hX1, hlen, hoth⟩ := hq
    subst er
    refine lv_i2l hx hb dw_area_16 rfl ?_
    have hku : w1[138]? = some (sh.2 138, .inl (cO, 1, .inr (.inl g0))) := (hoth 138 (by omega) (by omega)).trans hwo
    refine va_last hx hb hK L.1 L.2.1 L.2.2 138 7 hku hTt (vp_in_nI (n := 0) (by decide) (by decide)) dw_area_17 (fun H2 locs2 hP2 hD2 hS2 => ?_)
    obtain ⟨w2, ew, e2, n2, o2⟩ := kx_set hku (.inl (cO, 1, .inr (.inl (vp_updL g0 (0 : Int32).toNatClampNeg ((ar a1.toInt.toNat + 1) : Int32).toInt64))))
    rw [← ew] at hP2 hD2
    have hg0 : vp_updL g0 (0 : Int32).toNatClampNeg ((ar a1.toInt.toNat + 1) : Int32).toInt64 0 = ((ar a1.toInt.toNat + 1) : Int32).toInt64 := by unfold vp_updL; rw [if_pos (by decide)]
    refine lv_goto (tgt := 33) hx hb dw_area_18 (by decide) ?_
    refine lv_iconst (v := 0) hx hb dw_area_33 (by decide) ?_
    exact W.widen (Nat.le_of_ble_eq_true rfl) (Nat.le_of_ble_eq_true rfl) (W.iret (v := 0) hx hb hr (fun t ht hW9 => ⟨⟨0, (sh, w2), rfl, ⟨rfl, Or.inr (Or.inr (Or.inr ⟨rfl, h1, h2, h3, _, hX1.of (fun j j1 j2 => o2 j (by omega)), e2, hg0, n2.trans hlen, fun j j1 j2 j3 => (o2 j j3).trans (hoth j j1 j2)⟩))⟩, by rw [ht]; exact hP2, hD2⟩, hS2.F ht⟩) hS2.2.2 dw_area_34)
set_option maxHeartbeats 4000000 in
set_option maxRecDepth 100000 in
theorem wk_player {l : Launch} (hl9 : l.stackTraces = false) (D : va_G) (tys : List (ClassId × FieldType)) (cO cD : ClassId) (sh : en_H) (w : va_W) (sz : Nat) (g0 : Nat → Int64) {fx : List Value} {hc pc : Nat} {bg : Int32} {ix ar : Nat → Int32} {ck : Nat → Nat → Int32} (hX : kx_X tys sh w fx hc pc bg ix ar ck) (hD0 : va_D (va_A w sz) w) (hwo : w[138]? = some (sh.2 138, .inl (cO, 1, .inr (.inl g0)))) (hTY : tys.map Prod.snd = en_TY0) : Met l yL_player (Cond.codeWith yL_player cL_player 3 (some .int) [(0, 8, 11, 15)] :: en_cw) (en_rm 1 (1, 6)) (va_Pc ([.ref (sh.2 66), .ref (sh.2 138)] : List Value) (en_B D vwCl (tys ++ [(cO, .long), (cD, .double)]) w sz)) (va_Qi (fun (r : Int32) (u : en_H × va_W) => u.1 = sh ∧ kx_L_player tys sh w u.2 cO fx hc pc bg ix ar ck r) (en_Bw D vwCl (va_A w sz)) (va_A w sz)) 1 6 (va_A w sz) := by
  refine va_MetW (cc := cL_player) (maxL := 3) (ret := some .int) (hh := [(0, 8, 11, 15)]) (by decide +kernel) rfl ?_
  intro p e s m args below meth c s₁ B hml hv
  obtain ⟨rfl, hsz, hP, hK, hT⟩ := hv
  subst hsz
  have hx := B.exec
  have hb := B.bytes
  have hr := B.returns
  have hts0 := atoms_spec (ws := Cond.codeWith yL_player cL_player 3 (some .int) [(0, 8, 11, 15)] :: en_cw) B.pre
  have hts : ∀ z ∈ en_cw, z.before _ s = true := fun z hz => hts0 z (List.mem_cons_of_mem _ hz)
  have hown : s.vm.findClass RL = some m.cls := findClass_of_methodNamed B.named
  have htab := vx_table (x := yL_player) B (hts0 _ List.mem_cons_self)
  have hA : ∀ q : Nat, s.heap.size ≤ q → va_A w s.heap.size q := fun q h => Or.inr h
  have hK0 : va_K D vwCl tys s := hK.pre
  have G : kx_G p s m ([.ref (sh.2 66), .ref (sh.2 138)] : List Value).toArray c cL_player RL D tys (va_A w s.heap.size) := ⟨hx, hb, hts, hown, hK0, hT, hA⟩
  have L : kx_H D (va_A w s.heap.size) s w s.heap [] := ⟨hP, hD0, va_S.rf⟩
  have hTt : (tys ++ [(cO, .long), (cD, .double)])[7]? = some (cO, .long) := wr_ty hTY
  have hl := lv_entry ([.ref (sh.2 66), .ref (sh.2 138)] : List Value) (n := 3) (Nat.le_of_ble_eq_true rfl)
  rw [lg_entry_eq]
  generalize (lg_sl ([.ref (sh.2 66), .ref (sh.2 138)] : List Value) ++ List.replicate (3 - (lg_sl ([.ref (sh.2 66), .ref (sh.2 138)] : List Value)).length) Slot.unset).toArray = ls at hl ⊢
  have hl : lv_has ls 3 [(0, .ref (sh.2 66)), (1, .ref (sh.2 138))] := hl
  have hc9 : hc ≤ 9 := hX.1.2.2.2.2.2.2.1
  refine lv_aload_n hx hb dw_player_0 rfl (lv_at hl 1 rfl) ?_
  refine lv_iconst (v := 0) hx hb dw_player_1 (by decide) ?_
  refine lv_aload_n hx hb dw_player_2 rfl (lv_at hl 0 rfl) ?_
  refine kx_cV (As := []) (rest := [.int 0, .ref (sh.2 138)]) (q := 66) (ci := 12) G L (kx_X6_player hl9 D (kx_D1 L) hX) gw_X6_player hX.1.1 rfl rfl rfl (hml.trans hl.1.symm) ⟨Nat.le_of_ble_eq_true rfl, Nat.le_of_ble_eq_true rfl⟩ ⟨Nat.le_of_ble_eq_true rfl, Nat.le_of_ble_eq_true rfl⟩ (Nat.le_of_ble_eq_true rfl) dw_player_3 (fun E ce q9 H1 locs1 hX9 L9 hcell hvm hcl => ?_) (fun res w1 H locs hrv hq L => ?_)
  · obtain ⟨rfl, x1⟩ := hX9
    refine vx_catch (E := "java/lang/IllegalStateException") (name := "java/lang/IllegalStateException") hown [] ⟨0, 8, 11, 15⟩ [] (htab.trans rfl) wr_nil (by decide) (by decide) (hts (.classLink RL 15 "java/lang/IllegalStateException") cwl499) (va_Nw.use rfl (hT.1 (Cond.castable "java/lang/IllegalStateException" "java/lang/IllegalStateException") (tf_cast (69, "java/lang/IllegalStateException") (by decide +kernel)))) hcell hvm hcl ?_
    refine lv_astore_n (lv' := (2, .ref q9) :: [(0, .ref (sh.2 66)), (1, .ref (sh.2 138))]) hx hb dw_player_11 rfl hl (by decide) rfl (fun ls hl => ?_)
    refine lv_iconst (v := 1) hx hb dw_player_12 (by decide) ?_
    exact W.widen (Nat.le_of_ble_eq_true rfl) (Nat.le_of_ble_eq_true rfl) (W.iret (v := 1) hx hb hr (fun t ht hW9 => ⟨⟨1, (sh, w), rfl, ⟨rfl, Or.inl ⟨rfl, x1, rfl⟩⟩, by rw [ht]; exact L9.1, L9.2.1⟩, L9.2.2.F ht⟩) L9.2.2.2.2 dw_player_13)
  · obtain ⟨er, h1, h2, fx1, hX1, hlen, hoth, hfx⟩ := hq
    subst er
    refine lv_i2l hx hb dw_player_6 rfl ?_
    have hku : w1[138]? = some (sh.2 138, .inl (cO, 1, .inr (.inl g0))) := (hoth 138 (by omega)).trans hwo
    refine va_last hx hb hK L.1 L.2.1 L.2.2 138 7 hku hTt (vp_in_nI (n := 0) (by decide) (by decide)) dw_player_7 (fun H2 locs2 hP2 hD2 hS2 => ?_)
    obtain ⟨w2, ew, e2, n2, o2⟩ := kx_set hku (.inl (cO, 1, .inr (.inl (vp_updL g0 (0 : Int32).toNatClampNeg ((nI pc) : Int32).toInt64))))
    rw [← ew] at hP2 hD2
    have hg0 : vp_updL g0 (0 : Int32).toNatClampNeg ((nI pc) : Int32).toInt64 0 = ((nI pc) : Int32).toInt64 := by unfold vp_updL; rw [if_pos (by decide)]
    refine lv_goto (tgt := 14) hx hb dw_player_8 (by decide) ?_
    refine lv_iconst (v := 0) hx hb dw_player_14 (by decide) ?_
    exact W.widen (Nat.le_of_ble_eq_true rfl) (Nat.le_of_ble_eq_true rfl) (W.iret (v := 0) hx hb hr (fun t ht hW9 => ⟨⟨0, (sh, w2), rfl, ⟨rfl, Or.inr ⟨rfl, ⟨h1, h2⟩, fx1, _, hX1.of (fun j j1 j2 => o2 j (by omega)), e2, hg0, n2.trans hlen, fun j j1 j2 => (o2 j j2).trans (hoth j j1), hfx⟩⟩, by rw [ht]; exact hP2, hD2⟩, hS2.F ht⟩) hS2.2.2 dw_player_15)
