def ks_L_post (tys : List (ClassId × FieldType)) (sh : en_H) (w w1 : va_W) (cO : ClassId) : Prop := w1 = w ∨ ∃ (pj : Nat) (g : Nat → Int64), pj < 6 ∧ ks_G tys sh w w1 pj ∧ w1[138]? = some (sh.2 138, .inl (cO, 1, .inr (.inl g)))
set_option maxHeartbeats 4000000 in
set_option maxRecDepth 100000 in
theorem wk_post {l : Launch} (hl9 : l.stackTraces = false) (D : va_G) (tys : List (ClassId × FieldType)) (cO cD : ClassId) (sh : en_H) (w : va_W) (sz : Nat) (g0 : Nat → Int64) {dt : ks_D} (a1 : Int32) (a2 : Int32) (a3 : Int32) (hX : ks_X tys sh w dt) (hD0 : va_D (va_A w sz) w) (hwo : w[138]? = some (sh.2 138, .inl (cO, 1, .inr (.inl g0)))) (hTY : tys.map Prod.snd = en_TY0) : Met l yL_post (Cond.codeWith yL_post cL_post 6 (some .int) [(0, 12, 15, 23), (0, 12, 19, 13), (0, 12, 23, 17)] :: en_cw) (en_rm 5 (2, 12)) (va_Pc ([.ref (sh.2 66), .int a1, .int a2, .int a3, .ref (sh.2 138)] : List Value) (en_B D vwCl (tys ++ [(cO, .long), (cD, .double)]) w sz)) (va_Qi (fun (r : Int32) (u : en_H × va_W) => u.1 = sh ∧ ks_L_post tys sh w u.2 cO) (en_Bw D vwCl (va_A w sz)) (va_A w sz)) 2 12 (va_A w sz) := by
  refine va_MetW (cc := cL_post) (maxL := 6) (ret := some .int) (hh := [(0, 12, 15, 23), (0, 12, 19, 13), (0, 12, 23, 17)]) (by decide +kernel) rfl ?_
  intro p e s m args below meth c s₁ B hml hv
  obtain ⟨rfl, hsz, hP, hK, hT⟩ := hv
  subst hsz
  have hx := B.exec
  have hb := B.bytes
  have hr := B.returns
  have hts0 := atoms_spec (ws := Cond.codeWith yL_post cL_post 6 (some .int) [(0, 12, 15, 23), (0, 12, 19, 13), (0, 12, 23, 17)] :: en_cw) B.pre
  have hts : ∀ z ∈ en_cw, z.before _ s = true := fun z hz => hts0 z (List.mem_cons_of_mem _ hz)
  have hown : s.vm.findClass RL = some m.cls := findClass_of_methodNamed B.named
  have htab := vx_table (x := yL_post) B (hts0 _ List.mem_cons_self)
  have hA : ∀ q : Nat, s.heap.size ≤ q → va_A w s.heap.size q := fun q h => Or.inr h
  have hK0 : va_K D vwCl tys s := hK.pre
  have G : kx_G p s m ([.ref (sh.2 66), .int a1, .int a2, .int a3, .ref (sh.2 138)] : List Value).toArray c cL_post RL D tys (va_A w s.heap.size) := ⟨hx, hb, hts, hown, hK0, hT, hA⟩
  have L : kx_H D (va_A w s.heap.size) s w s.heap [] := ⟨hP, hD0, va_S.rf⟩
  have hTt : (tys ++ [(cO, .long), (cD, .double)])[7]? = some (cO, .long) := wr_ty hTY
  have hl := lv_entry ([.ref (sh.2 66), .int a1, .int a2, .int a3, .ref (sh.2 138)] : List Value) (n := 6) (Nat.le_of_ble_eq_true rfl)
  rw [lg_entry_eq]
  generalize (lg_sl ([.ref (sh.2 66), .int a1, .int a2, .int a3, .ref (sh.2 138)] : List Value) ++ List.replicate (6 - (lg_sl ([.ref (sh.2 66), .int a1, .int a2, .int a3, .ref (sh.2 138)] : List Value)).length) Slot.unset).toArray = ls at hl ⊢
  have hl : lv_has ls 6 [(0, .ref (sh.2 66)), (1, .int a1), (2, .int a2), (3, .int a3), (4, .ref (sh.2 138))] := hl
  refine lv_aload hx hb dw_post_0 (lv_at hl 4 rfl) ?_
  refine lv_iconst (v := 0) hx hb dw_post_2 (by decide) ?_
  refine lv_aload_n hx hb dw_post_3 rfl (lv_at hl 0 rfl) ?_
  refine lv_iload_n hx hb dw_post_4 rfl (lv_at hl 1 rfl) ?_
  refine lv_iload_n hx hb dw_post_5 rfl (lv_at hl 2 rfl) ?_
  refine lv_iload_n hx hb dw_post_6 rfl (lv_at hl 3 rfl) ?_
  refine kx_cV (As := [.int a1, .int a2, .int a3]) (rest := [.int 0, .ref (sh.2 138)]) (q := 66) (ci := 12) G L (kx_X6_post hl9 D (kx_D1 L) hX) gw_X6_post hX.o rfl rfl rfl (hml.trans hl.1.symm) ⟨Nat.le_of_ble_eq_true rfl, Nat.le_of_ble_eq_true rfl⟩ ⟨Nat.le_of_ble_eq_true rfl, Nat.le_of_ble_eq_true rfl⟩ (Nat.le_of_ble_eq_true rfl) dw_post_7 (fun E ce q9 H1 locs1 hX9 L9 hcell hvm hcl => ?_) (fun res w1 H locs hrv hq L => ?_)
  · rcases hX9 with rfl | rfl | rfl
    · skip
      refine vx_catch (E := "java/lang/IndexOutOfBoundsException") (name := "java/lang/IndexOutOfBoundsException") hown [] ⟨0, 12, 15, 23⟩ [⟨0, 12, 19, 13⟩, ⟨0, 12, 23, 17⟩] (htab.trans rfl) wr_nil (by decide) (by decide) (hts (.classLink RL 23 "java/lang/IndexOutOfBoundsException") cwl619) (va_Nw.use rfl (hT.1 (Cond.castable "java/lang/IndexOutOfBoundsException" "java/lang/IndexOutOfBoundsException") (tf_cast (539, "java/lang/IndexOutOfBoundsException") (by decide +kernel)))) hcell hvm hcl ?_
      refine lv_astore (lv' := (5, .ref q9) :: [(0, .ref (sh.2 66)), (1, .int a1), (2, .int a2), (3, .int a3), (4, .ref (sh.2 138))]) hx hb dw_post_15 hl (by decide) rfl (fun ls hl => ?_)
      refine lv_iconst (v := 1) hx hb dw_post_17 (by decide) ?_
      exact W.widen (Nat.le_of_ble_eq_true rfl) (Nat.le_of_ble_eq_true rfl) (W.iret (v := 1) hx hb hr (fun t ht hW9 => ⟨⟨1, (sh, w), rfl, ⟨rfl, Or.inl rfl⟩, by rw [ht]; exact L9.1, L9.2.1⟩, L9.2.2.F ht⟩) L9.2.2.2.2 dw_post_18)
    · skip
      refine vx_catch (E := "java/lang/IllegalArgumentException") (name := "java/lang/IllegalArgumentException") hown [⟨0, 12, 15, 23⟩] ⟨0, 12, 19, 13⟩ [⟨0, 12, 23, 17⟩] (htab.trans rfl) (wr_cons (Or.inr ⟨by decide, "java/lang/IndexOutOfBoundsException", (hts (.classLink RL 23 "java/lang/IndexOutOfBoundsException") cwl619), hT.2.2.2.2.1 _ (by decide +kernel) _ (by decide +kernel) (by decide)⟩) wr_nil) (by decide) (by decide) (hts (.classLink RL 13 "java/lang/IllegalArgumentException") cwl498) (va_Nw.use rfl (hT.1 (Cond.castable "java/lang/IllegalArgumentException" "java/lang/IllegalArgumentException") (tf_cast (53, "java/lang/IllegalArgumentException") (by decide +kernel)))) hcell hvm hcl ?_
      refine lv_astore (lv' := (5, .ref q9) :: [(0, .ref (sh.2 66)), (1, .int a1), (2, .int a2), (3, .int a3), (4, .ref (sh.2 138))]) hx hb dw_post_19 hl (by decide) rfl (fun ls hl => ?_)
      refine lv_iconst (v := 2) hx hb dw_post_21 (by decide) ?_
      exact W.widen (Nat.le_of_ble_eq_true rfl) (Nat.le_of_ble_eq_true rfl) (W.iret (v := 2) hx hb hr (fun t ht hW9 => ⟨⟨2, (sh, w), rfl, ⟨rfl, Or.inl rfl⟩, by rw [ht]; exact L9.1, L9.2.1⟩, L9.2.2.F ht⟩) L9.2.2.2.2 dw_post_22)
    · skip
      refine vx_catch (E := "java/lang/UnsupportedOperationException") (name := "java/lang/UnsupportedOperationException") hown [⟨0, 12, 15, 23⟩, ⟨0, 12, 19, 13⟩] ⟨0, 12, 23, 17⟩ [] (htab.trans rfl) (wr_cons (Or.inr ⟨by decide, "java/lang/IndexOutOfBoundsException", (hts (.classLink RL 23 "java/lang/IndexOutOfBoundsException") cwl619), hT.2.2.2.2.1 _ (by decide +kernel) _ (by decide +kernel) (by decide)⟩) (wr_cons (Or.inr ⟨by decide, "java/lang/IllegalArgumentException", (hts (.classLink RL 13 "java/lang/IllegalArgumentException") cwl498), hT.2.2.2.2.1 _ (by decide +kernel) _ (by decide +kernel) (by decide)⟩) wr_nil)) (by decide) (by decide) (hts (.classLink RL 17 "java/lang/UnsupportedOperationException") cwl500) (va_Nw.use rfl (hT.1 (Cond.castable "java/lang/UnsupportedOperationException" "java/lang/UnsupportedOperationException") (tf_cast (78, "java/lang/UnsupportedOperationException") (by decide +kernel)))) hcell hvm hcl ?_
      refine lv_astore (lv' := (5, .ref q9) :: [(0, .ref (sh.2 66)), (1, .int a1), (2, .int a2), (3, .int a3), (4, .ref (sh.2 138))]) hx hb dw_post_23 hl (by decide) rfl (fun ls hl => ?_)
      refine lv_iconst (v := 3) hx hb dw_post_25 (by decide) ?_
      exact W.widen (Nat.le_of_ble_eq_true rfl) (Nat.le_of_ble_eq_true rfl) (W.iret (v := 3) hx hb hr (fun t ht hW9 => ⟨⟨3, (sh, w), rfl, ⟨rfl, Or.inl rfl⟩, by rw [ht]; exact L9.1, L9.2.1⟩, L9.2.2.F ht⟩) L9.2.2.2.2 dw_post_26)
  · obtain ⟨rr, pj, er, hp6, hF⟩ := hq
    subst er
    refine lv_i2l hx hb dw_post_10 rfl ?_
    have hku : w1[138]? = some (sh.2 138, .inl (cO, 1, .inr (.inl g0))) := (hF.2.2.2 138 (by omega) (by omega) (by omega)).trans hwo
    refine va_last hx hb hK L.1 L.2.1 L.2.2 138 7 hku hTt (vp_in_nI (n := 0) (by decide) (by decide)) dw_post_11 (fun H2 locs2 hP2 hD2 hS2 => ?_)
    obtain ⟨w2, ew, e2, n2, o2⟩ := kx_set hku (.inl (cO, 1, .inr (.inl (vp_updL g0 (0 : Int32).toNatClampNeg (rr : Int32).toInt64))))
    rw [← ew] at hP2 hD2
    have hg0 : vp_updL g0 (0 : Int32).toNatClampNeg (rr : Int32).toInt64 0 = (rr : Int32).toInt64 := by unfold vp_updL; rw [if_pos (by decide)]
    refine lv_goto (tgt := 27) hx hb dw_post_12 (by decide) ?_
    refine lv_iconst (v := 0) hx hb dw_post_27 (by decide) ?_
    exact W.widen (Nat.le_of_ble_eq_true rfl) (Nat.le_of_ble_eq_true rfl) (W.iret (v := 0) hx hb hr (fun t ht hW9 => ⟨⟨0, (sh, w2), rfl, ⟨rfl, Or.inr ⟨pj, _, hp6, hF.g hp6 n2 o2, e2⟩⟩, by rw [ht]; exact hP2, hD2⟩, hS2.F ht⟩) hS2.2.2 dw_post_28)
