/-! edition, exactly: class and reference side by side -/
def lw_mdE (md : List (Nat × Nat)) : Bool := md.all fun z => z != (21, 0) && (z.1 != 39 && (decide (z.1 < 49) || decide (56 ≤ z.1)))
theorem lw_mdE_ok {md : List (Nat × Nat)} (h : lw_mdE md = true) : ∀ z ∈ md, z ≠ (21, 0) ∧ (z.1 ≠ 39 ∧ z.1 < 49 ∨ 56 ≤ z.1) := fun z hz => by
  have h9 := List.all_eq_true.mp h z hz
  simp only [Bool.and_eq_true, Bool.or_eq_true, bne_iff_ne, decide_eq_true_eq] at h9
  refine ⟨h9.1, ?_⟩
  rcases h9.2.2 with h | h
  · exact Or.inl ⟨h9.2.1, h⟩
  · exact Or.inr h
section
variable {p : Program} {l : Launch} {e : Env} {R : Room} {s : State} {m : MethodId} {args : Array Value} {below : List Frame} {meth : Method} {c : Code} {Q : State → Prop}
variable {D : va_G} {tys : List (ClassId × FieldType)} {cO cD : ClassId} {A : Nat → Prop} {sh : en_H} {w : va_W} {H : Heap} {locs : List Loc} {ls : Array Slot} {pc cells slots qx qo qd : Nat} {E E' : Int32 → Int32 → Prop} {LP : en_H → va_W → Prop} {st : Nat} {cx cy : Int32} {fs : List Value} {tk : List Nat} {md : List (Nat × Nat)} {u : en_H × va_W}
theorem lw_IqE {st' : Nat} {cx' cy' : Int32} {fs' : List Value} {PP : Int32 → Int32 → Prop} {KT : List en_D} (hLP : lw_st LP) (I : lw_I E LP tys cO cD qx qo qd sh w st cx cy fs) (h : en_Px tys PP KT tk md sh w u) (hm : lw_mdE md = true) (hst : st' ≤ 4) (hwo' : ∃ g, u.2[qo]? = some (u.1.2 qo, .inl (cO, 1, .inr (.inl g)))) (hwd' : ∃ g, u.2[qd]? = some (u.1.2 qd, .inl (cD, 1, .inr (.inr (.inr (.inl g)))))) (hed' : ∃ (fx : List Value) (v v9 : Int32), u.2[qx]? = some (u.1.2 qx, .inr (12, fx)) ∧ fx[8]? = some (.int v) ∧ fs'[29]? = some (.int v9) ∧ E' v v9) (hS : lw_S tys st' cx' cy' u.1 u.2 fs') : lw_I E' LP tys cO cD qx qo qd u.1 u.2 st' cx' cy' fs' := by
  have hm := lw_mdE_ok hm
  have hg := h.1
  exact ⟨lw_ag hg I.h20, ⟨lw_ag hg I.h28, lw_ag hg I.h26⟩, fun q hq => I.h27 q (lw_new hg (by decide) hq), fun j hj => lw_ag hg (I.h27b j hj), lw_spg hg I.hsp, lw_crg h (fun hz => (hm _ hz).1 rfl) I.hsp I.hcr, fun q hq => I.h28u q (lw_new hg (by decide) hq), lw_ag hg I.hx, lw_ag hg I.ho, lw_ag hg I.hd, fun a b => (I.hO a b).gr hg, hst, hwo', hwd', hed', hLP tk md sh u.1 w u.2 hg h.2.2 (fun z hz => (hm z hz).2) I.hl, hS⟩
/-- a quiet call, but for the editions -/
theorem lw_IqqE (hLP : lw_st LP) (I : lw_I E LP tys cO cD qx qo qd sh w st cx cy fs) (h : en_Px tys (en_Pc cx cy) en_KT tk md sh w u) (hm : lw_mdE md = true) (hq : lw_qt st md tk = true) (hA : (20, 4) ∉ md ∧ (28, 0) ∉ md) (hL : (20, 28) ∉ md) {fs' : List Value} (g1 : u.2[0]? = some (u.1.2 0, .inr (13, fs'))) (hwo' : ∃ g, u.2[qo]? = some (u.1.2 qo, .inl (cO, 1, .inr (.inl g)))) (hwd' : ∃ g, u.2[qd]? = some (u.1.2 qd, .inl (cD, 1, .inr (.inr (.inr (.inl g)))))) (hed' : ∃ (fx : List Value) (v v9 : Int32), u.2[qx]? = some (u.1.2 qx, .inr (12, fx)) ∧ fx[8]? = some (.int v) ∧ fs'[29]? = some (.int v9) ∧ E' v v9) : lw_I E' LP tys cO cD qx qo qd u.1 u.2 st cx cy fs' := by
  obtain ⟨fs8, f1, f2⟩ := lw_fs I.h20 I.hs.2.1 h
  have e9 : fs8 = fs' := (Prod.mk.inj (Sum.inr.inj (Prod.mk.inj (Option.some.inj (f1.symm.trans g1))).2)).2
  subst e9
  refine lw_IqE hLP I h hm I.hst hwo' hwd' hed' (lw_q I.h20 I.hlen (I.hO cx cy) I.hs h hq g1 fun h3 => ?_)
  exact lw_ahq I.h28 I.h20 I.hs.2.1 h g1 hA (I.hs.2.2.2.2 h3).2.2 (fun h9 => (f2 28 hL).trans h9) (lw_w18 I)
/-- the class's edition stays where a call leaves it -/
theorem lw_kx {PP : Int32 → Int32 → Prop} {KT : List en_D} {fx : List Value} {v : Int32} (I : lw_I E LP tys cO cD qx qo qd sh w st cx cy fs) (h : en_Px tys PP KT tk md sh w u) (hm : (0, 8) ∉ md) (hwx : w[qx]? = some (sh.2 qx, .inr (12, fx))) (f7 : fx[8]? = some (.int v)) : ∃ fx', u.2[qx]? = some (u.1.2 qx, .inr (12, fx')) ∧ fx'[8]? = some (.int v) := by
  obtain ⟨e9, b1, b2⟩ := h.2.2 qx 0 _ I.hx hwx
  rcases e9 with x | ⟨ci, fx'⟩
  · exact b2.elim
  obtain ⟨c1, c2, c3⟩ := b2
  have c1 : ci = 12 := c1
  subst c1
  exact ⟨fx', by rw [(h.1.at I.hx).2]; exact b1, (c3 8 hm).trans f7⟩
theorem lw_wcE {P9 : Int32 → en_H × va_W → Prop} {lv' mc ms ix n mxl : Nat} {hh : List (Nat × Nat × Nat × Nat)} {As : List Value} {y : MethodName} {cy : ByteArray} (F : lw_Fm p R s m args c D tys cO cD A) (L : lw_H D A s w H locs)
    (hM : Met l y (Cond.codeWith y cy mxl (some .int) hh :: en_cw) (en_rm lv' (mc, ms)) (va_Pc As (en_B D vwCl (tys ++ [(cO, .long), (cD, .double)]) w H.size)) (va_Qi (fun (r : Int32) (u : en_H × va_W) => P9 r u) (en_Bw D vwCl (va_A w H.size)) (va_A w H.size)) mc ms (va_A w H.size))
    (hG : GoodIn en_cw (va_wsS RL ix y (Cond.codeWith y cy mxl (some .int) hh :: en_cw)) ∧ (y.cls ≠ "java/lang/invoke/MethodHandle" ∧ y.cls ≠ "java/lang/invoke/VarHandle" ∧ (parseMethodDescriptor y.desc).map (fun d => d.parameters.length) = some n)) (hAl : As.length = n) (hmx : mxl ≤ 41) (hlv : lv' ≤ 40) (hcs : cells + mc ≤ R.cells ∧ slots + ms ≤ R.slots) (hls : ls.size = 9) (hdg : decode cL_law pc = .ok (.invokestatic ix, 3))
    (k : ∀ (u : en_H × va_W) (r9 : Int32) (H1 : Heap) (locs1 : List Loc), P9 r9 u → lw_H D A s u.2 H1 locs1 → W p l e R s m args below meth c H1 locs1 (cells + mc) (slots + ms) Q (F0 m (pc + 3) ls [.int r9])) :
    W p l e R s m args below meth c H locs cells slots Q (F0 m pc ls (As.reverse ++ [])) := by
  have hAA := lw_AA F L
  refine va_calli (a := As.toArray) (vx_runSW (As := As) (rest := []) ⟨F.hx, F.hb, rfl, F.hown, F.hts⟩ hM (vx_cwSW n F.hts hG.1 rfl rfl rfl hG.2 ⟨?_, ?_⟩) ⟨fun a U g mk q => ⟨q.1, q.2.blind⟩, fun U hU hW => ⟨rfl, by rw [hU], by rw [hU]; exact L.hP, va_K.moved hW.alike F.hK, tf.go F.hT L.hS hW hU hAA⟩⟩ rfl hAl (F.hml.trans hls.symm).symm rfl (lv_room (by decide)) hdg hcs) L.hS (fun q _ h => hAA q h) hAA (fun r u t H1 locs1 ht hvm hw hB _ _ hS1 => k u r H1 locs1 hw ⟨by rw [← ht]; exact hB.1, ⟨hB.2.1, fun j q hq => hAA _ (hB.2.2 j q hq)⟩, hS1⟩)
  · show 40 + lv' + 1 ≤ R.frames
    have := F.hR.1; omega
  · show 8 + (mxl + 11) + (400 + 60 * lv') ≤ R.locals
    have := F.hR.2; omega
theorem lw_exact {fs : List Value} {j : Nat} {z : Int} {n : Int32} (h : lw_b fs (j, z, z)) (hn : n.toInt = z) : fs[j]? = some (.int n) := by
  obtain ⟨x, h1, h2, h3⟩ := h
  have h2 : z ≤ x.toInt := h2
  have h3 : x.toInt ≤ z := h3
  have e : x = n := Int32.toInt_inj.mp (by omega)
  rw [← e]
  exact h1
end
theorem cwl1304 : Cond.methodLink RL 361 yL_conditions ∈ en_cw := cw_at 1304 (by decide +kernel) (by decide +kernel)
theorem cwl1305 : Cond.static yL_conditions ∈ en_cw := cw_at 1305 (by decide +kernel) (by decide +kernel)
theorem cwl1306 : Cond.codeWith yL_conditions cL_conditions 4 (some .int) [(0, 9, 12, 13)] ∈ en_cw := cw_at 1306 (by decide +kernel) (by decide +kernel)
theorem cwl1947 : Cond.methodLink RL 363 yX7_conditions ∈ en_cw := cw_at 1947 (by decide +kernel) (by decide +kernel)
theorem cwl1948 : Cond.instanceMethod yX7_conditions ∈ en_cw := cw_at 1948 (by decide +kernel) (by decide +kernel)
theorem cwl1949 : Cond.selects RX7 yX7_conditions yX7_conditions ∈ en_cw := cw_at 1949 (by decide +kernel) (by decide +kernel)
theorem cwl1950 : Cond.code yX7_conditions cX7_conditions 3 (some .int) ∈ en_cw := cw_at 1950 (by decide +kernel) (by decide +kernel)
theorem dlw_2077 : decode cL_law 2077 = .ok (.invokestatic 361, 3) := by decide +kernel
theorem dlw_2089 : decode cL_law 2089 = .ok (.invokevirtual 363, 3) := by decide +kernel
theorem gx_conditions : GoodIn en_cw (va_wsS RL 361 yL_conditions (Cond.codeWith yL_conditions cL_conditions 4 (some .int) [(0, 9, 12, 13)] :: en_cw)) ∧ (yL_conditions.cls ≠ "java/lang/invoke/MethodHandle" ∧ yL_conditions.cls ≠ "java/lang/invoke/VarHandle" ∧ (parseMethodDescriptor yL_conditions.desc).map (fun d => d.parameters.length) = some 3) := ⟨cw_g (cw_c cwl1304 (cw_c cwl1305 (cw_c cwl74 (cw_c cwl1306 fun _ h => h)))), by decide, by decide, by decide +kernel⟩
theorem gm_X7_conditions : en_CV en_cw RL 363 yX7_conditions RX7 cX7_conditions 3 (some .int) 1 := en_gv cwl1947 cwl1948 cwl1949 cwl82 cwl1950 ⟨rfl, by decide, by decide, by decide +kernel⟩
