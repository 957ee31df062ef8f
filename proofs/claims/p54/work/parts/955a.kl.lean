theorem cwl495 : Cond.methodLink RL 205 yL_hole ∈ en_cw := cw_at 495 (by decide +kernel) (by decide +kernel)
theorem cwl496 : Cond.static yL_hole ∈ en_cw := cw_at 496 (by decide +kernel) (by decide +kernel)
theorem cwl497 : Cond.codeWith yL_hole cL_hole 9 (some .int) [(0, 18, 21, 13), (0, 18, 25, 15), (0, 18, 29, 17)] ∈ en_cw := cw_at 497 (by decide +kernel) (by decide +kernel)
theorem cwl616 : Cond.methodLink RL 211 yL_area ∈ en_cw := cw_at 616 (by decide +kernel) (by decide +kernel)
theorem cwl617 : Cond.static yL_area ∈ en_cw := cw_at 617 (by decide +kernel) (by decide +kernel)
theorem cwl618 : Cond.codeWith yL_area cL_area 9 (some .int) [(0, 18, 21, 23), (0, 18, 25, 13), (0, 18, 29, 15)] ∈ en_cw := cw_at 618 (by decide +kernel) (by decide +kernel)
theorem cwl684 : Cond.methodLink RL 219 yL_player ∈ en_cw := cw_at 684 (by decide +kernel) (by decide +kernel)
theorem cwl685 : Cond.static yL_player ∈ en_cw := cw_at 685 (by decide +kernel) (by decide +kernel)
theorem cwl686 : Cond.codeWith yL_player cL_player 3 (some .int) [(0, 8, 11, 15)] ∈ en_cw := cw_at 686 (by decide +kernel) (by decide +kernel)
theorem cwl721 : Cond.methodLink RL 238 yL_begin ∈ en_cw := cw_at 721 (by decide +kernel) (by decide +kernel)
theorem cwl722 : Cond.static yL_begin ∈ en_cw := cw_at 722 (by decide +kernel) (by decide +kernel)
theorem cwl723 : Cond.codeWith yL_begin cL_begin 4 (some .int) [(0, 9, 12, 13), (0, 9, 15, 17)] ∈ en_cw := cw_at 723 (by decide +kernel) (by decide +kernel)
theorem cwl1082 : Cond.methodLink RL 304 yL_nextHole ∈ en_cw := cw_at 1082 (by decide +kernel) (by decide +kernel)
theorem cwl1083 : Cond.static yL_nextHole ∈ en_cw := cw_at 1083 (by decide +kernel) (by decide +kernel)
theorem cwl1084 : Cond.codeWith yL_nextHole cL_nextHole 3 (some .int) [(0, 8, 11, 15), (0, 8, 14, 17)] ∈ en_cw := cw_at 1084 (by decide +kernel) (by decide +kernel)
theorem cwl1592 : Cond.methodLink RL 210 yX7_hole ∈ en_cw := cw_at 1592 (by decide +kernel) (by decide +kernel)
theorem cwl1593 : Cond.instanceMethod yX7_hole ∈ en_cw := cw_at 1593 (by decide +kernel) (by decide +kernel)
theorem cwl1594 : Cond.selects RX7 yX7_hole yX7_hole ∈ en_cw := cw_at 1594 (by decide +kernel) (by decide +kernel)
theorem cwl1595 : Cond.code yX7_hole cX7_hole 11 (some .int) ∈ en_cw := cw_at 1595 (by decide +kernel) (by decide +kernel)
theorem cwl1607 : Cond.methodLink RL 214 yX7_area ∈ en_cw := cw_at 1607 (by decide +kernel) (by decide +kernel)
theorem cwl1608 : Cond.instanceMethod yX7_area ∈ en_cw := cw_at 1608 (by decide +kernel) (by decide +kernel)
theorem cwl1609 : Cond.selects RX7 yX7_area yX7_area ∈ en_cw := cw_at 1609 (by decide +kernel) (by decide +kernel)
theorem cwl1610 : Cond.code yX7_area cX7_area 10 (some .int) ∈ en_cw := cw_at 1610 (by decide +kernel) (by decide +kernel)
theorem cwl1622 : Cond.methodLink RL 222 yX7_player ∈ en_cw := cw_at 1622 (by decide +kernel) (by decide +kernel)
theorem cwl1623 : Cond.instanceMethod yX7_player ∈ en_cw := cw_at 1623 (by decide +kernel) (by decide +kernel)
theorem cwl1624 : Cond.selects RX7 yX7_player yX7_player ∈ en_cw := cw_at 1624 (by decide +kernel) (by decide +kernel)
theorem cwl1625 : Cond.code yX7_player cX7_player 1 (some .int) ∈ en_cw := cw_at 1625 (by decide +kernel) (by decide +kernel)
theorem cwl1650 : Cond.methodLink RL 240 yX7_begin ∈ en_cw := cw_at 1650 (by decide +kernel) (by decide +kernel)
theorem cwl1651 : Cond.instanceMethod yX7_begin ∈ en_cw := cw_at 1651 (by decide +kernel) (by decide +kernel)
theorem cwl1652 : Cond.selects RX7 yX7_begin yX7_begin ∈ en_cw := cw_at 1652 (by decide +kernel) (by decide +kernel)
theorem cwl1653 : Cond.code yX7_begin cX7_begin 4 (some .int) ∈ en_cw := cw_at 1653 (by decide +kernel) (by decide +kernel)
section
variable {p : Program} {l : Launch} {e : Env} {R : Room} {s : State} {m : MethodId} {args : Array Value} {below : List Frame} {meth : Method} {c : Code} {Q : State → Prop}
variable {D : va_G} {tys : List (ClassId × FieldType)} {cO cD : ClassId} {A : Nat → Prop} {sh : en_H} {w : va_W} {H : Heap} {locs : List Loc} {ls : Array Slot} {pc cells slots qx qo qd : Nat} {E E' : Int32 → Int32 → Prop} {LP : en_H → va_W → Prop} {st : Nat} {cx cy : Int32} {fs : List Value} {tk : List Nat} {md : List (Nat × Nat)} {u : en_H × va_W}
theorem lw_wcE {P9 : Int32 → en_H × va_W → Prop} {lv' mc ms ix n mxl : Nat} {hh : List (Nat × Nat × Nat × Nat)} {As : List Value} {y : MethodName} {cy : ByteArray} (F : lw_Fm p R s m args c D tys cO cD A) (L : lw_H D A s w H locs)
    (hM : Met l y (Cond.codeWith y cy mxl (some .int) hh :: en_cw) (en_rm lv' (mc, ms)) (va_Pc As (en_B D vwCl (tys ++ [(cO, .long), (cD, .double)]) w H.size)) (va_Qi (fun (r : Int32) (u : en_H × va_W) => P9 r u) (en_Bw D vwCl (va_A w H.size)) (va_A w H.size)) mc ms (va_A w H.size))
    (hG : GoodIn en_cw (va_wsS RL ix y (Cond.codeWith y cy mxl (some .int) hh :: en_cw)) ∧ (y.cls ≠ "java/lang/invoke/MethodHandle" ∧ y.cls ≠ "java/lang/invoke/VarHandle" ∧ (parseMethodDescriptor y.desc).map (fun d => d.parameters.length) = some n)) (hAl : As.length = n) (hmx : mxl ≤ 41) (hlv : lv' ≤ 40) (hcs : cells + mc ≤ R.cells ∧ slots + ms ≤ R.slots) (hls : ls.size = 9) (hdg : decode cL_law pc = .ok (.invokestatic ix, 3))
    (k : ∀ (u : en_H × va_W) (r9 : Int32) (H1 : Heap) (locs1 : List Loc), P9 r9 u → lw_H D A s u.2 H1 locs1 → W p l e R s m args below meth c H1 locs1 (cells + mc) (slots + ms) Q (F0 m (pc + 3) ls [.int r9])) :
    W p l e R s m args below meth c H locs cells slots Q (F0 m pc ls (As.reverse ++ [])) := by
  have hAA := lw_AA F L
  refine va_calli (a := As.toArray) (vx_runSW (As := As) (rest := []) ⟨F.hx, F.hb, rfl, F.hown, F.hts⟩ hM (vx_cwSW n F.hts hG.1 rfl rfl rfl hG.2 ⟨?_, ?_⟩) ⟨fun a U g mk q => ⟨q.1, q.2.blind⟩, fun U hU hW => ⟨rfl, by rw [hU], by rw [hU]; exact L.hP, va_K.moved hW.alike F.hK, tf.go F.hT L.hS hW hU hAA⟩⟩ rfl hAl (F.hml.trans hls.symm).symm rfl (lv_room (by decide)) hdg hcs) L.hS (fun q _ h => hAA q h) hAA (fun r u t H1 locs1 ht hvm hw hB _ _ hS1 => k u r H1 locs1 hw ⟨by rw [← ht]; exact hB.1, ⟨hB.2.1, fun j q hq => hAA _ (hB.2.2 j q hq)⟩, hS1⟩)
  · show 40 + lv' + 1 ≤ R.frames
    have := F.hR.1; omega
  · show 8 + (mxl + 11) + (400 + 60 * lv') ≤ R.locals
    have := F.hR.2; omega
theorem lw_exact {fs : List Value} {j : Nat} {z : Int} {n : Int32} (h : lw_b fs (j, z, z)) (hn : n.toInt = z) : fs[j]? = some (.int n) := by
  obtain ⟨x, h1, h2, h3⟩ := h
  have h2 : z ≤ x.toInt := h2
  have h3 : x.toInt ≤ z := h3
  have e : x = n := Int32.toInt_inj.mp (by omega)
  rw [← e]
  exact h1
end
/-! class and reference side by side, out of the law: what an exact contract leaves of the invariant -/
section
variable {tys : List (ClassId × FieldType)} {cO cD : ClassId} {A : Nat → Prop} {sh sh' : en_H} {w w1 : va_W} {qx qo qd : Nat} {E : Int32 → Int32 → Prop} {LP LP' : en_H → va_W → Prop} {st : Nat} {cx cy : Int32} {fs fs1 fx fx1 : List Value} {tk : List Nat} {md : List (Nat × Nat)} {PP : Int32 → Int32 → Prop} {KT : List en_D}
variable {hc hc1 pc pc1 : Nat} {bg bg1 : Int32} {ix ix1 ar ar1 : Nat → Int32} {ck ck1 rr rr1 mk mk1 : Nat → Nat → Int32}
theorem lw_I.lp (I : lw_I E LP tys cO cD qx qo qd sh w st cx cy fs) (h : LP' sh w) : lw_I E LP' tys cO cD qx qo qd sh w st cx cy fs := ⟨I.h20, ⟨I.h28, I.h26⟩, I.h27, I.h27b, I.hsp, I.hcr, I.h28u, I.hx, I.ho, I.hd, I.hO, I.hst, I.hwo, I.hwd, I.hed, h, I.hs⟩
/-- cell by cell: what changes, and that it keeps its kind -/
def kx_Ch (PP : Int32 → Int32 → Prop) (KT : List en_D) (tk : List Nat) (md : List (Nat × Nat)) (tys : List (ClassId × FieldType)) (sh : en_H) (w w1 : va_W) : Prop := ∀ (q j : Nat) (e : va_E), sh.1[q]? = some j → w[q]? = some (sh.2 q, e) → ∃ e1 : va_E, w1[q]? = some (sh.2 q, e1) ∧ en_Fc md j e e1 ∧ (j ∈ tk → ∀ kd, KT[j]? = some kd → en_C PP sh tys kd e → en_C PP sh tys kd e1)
theorem kx_Ch.F (h : kx_Ch PP KT tk md tys sh w w1) : en_F md sh w w1 := fun q k e0 hq h0 => by
  obtain ⟨e1, a, b, -⟩ := h q k e0 hq h0
  exact ⟨e1, a, b⟩
theorem kx_Ch.px (h : kx_Ch PP KT tk md tys sh w w1) (hW : en_W PP KT tk sh tys (fun _ => False) w) (hl : w1.length = w.length) : en_Px tys PP KT tk md sh w (sh, w1) := ⟨en_Gr.rf, ⟨hl.trans hW.1, fun q k hq => by
  obtain ⟨e, a, b⟩ := hW.2 q k hq
  obtain ⟨e1, a1, -, c1⟩ := h q k e hq a
  refine ⟨e1, a1, fun hk hx => ?_⟩
  obtain ⟨kd, d1, d2⟩ := b hk hx
  exact ⟨kd, d1, c1 hk kd d1 d2⟩⟩, h.F⟩
theorem kx_Ch.pxx {k a : Nat} {e1 : va_E} {kd : en_D} (h : kx_Ch PP KT tk md tys sh w w1) (hW : en_W PP KT tk sh tys (fun _ => False) w) (hl : w1.length = w.length + 1) (hn : w1[w.length]? = some (a, e1)) (hk : k ∈ tk) (h20 : en_nk k) (hkd : KT[k]? = some kd) (hc : en_C PP (en_shx sh k a) tys kd e1) : en_Px tys PP KT tk md sh w (en_shx sh k a, w1) := by
  have hg : en_Gr tk sh (en_shx sh k a) := en_shx_gr hk h20
  refine ⟨hg, ⟨by show w1.length = (sh.1 ++ [k]).length; rw [List.length_append, hl, hW.1]; rfl, fun q k' hq => ?_⟩, h.F⟩
  have hq : (sh.1 ++ [k])[q]? = some k' := hq
  rcases Nat.lt_or_ge q sh.1.length with hlt | hge
  · rw [List.getElem?_append_left hlt] at hq
    obtain ⟨e, g1, g2⟩ := hW.2 q k' hq
    obtain ⟨e2, a2, -, c2⟩ := h q k' e hq g1
    refine ⟨e2, ?_, fun b1 b2 => ?_⟩
    · show w1[q]? = some ((en_shx sh k a).2 q, e2)
      rw [(hg.at hq).2]
      exact a2
    · obtain ⟨kd', k1, k2⟩ := g2 b1 b2
      exact ⟨kd', k1, (c2 b1 kd' k1 k2).gr hg⟩
  · have h1 : q < (sh.1 ++ [k]).length := (List.getElem?_eq_some_iff.mp hq).1
    have h2 : q = sh.1.length := by rw [List.length_append] at h1; simp only [List.length_cons, List.length_nil] at h1; omega
    subst h2
    rw [List.getElem?_append_right (Nat.le_refl _), Nat.sub_self] at hq
    have ek : k = k' := Option.some.inj hq
    subst ek
    refine ⟨e1, ?_, fun _ _ => ⟨kd, hkd, hc⟩⟩
    show w1[sh.1.length]? = some ((if sh.1.length = sh.1.length then a else sh.2 _), e1)
    rw [if_pos rfl, ← hW.1]
    exact hn
theorem kx_top {x : Int32} : en_V sh (.inl (-2147483648, 2147483647, 0, 0)) (.int x) := ⟨x, rfl, en_lo x, en_hi x⟩
/-- an object with other fields -/
theorem kx_Co {c c' : Nat} {ts : List en_A} (hc : en_C PP sh tys (.inl (c, ts)) (.inr (c', fs))) (hl : fs1.length = fs.length) (h : ∀ (j : Nat) (t : en_A) (v : Value), ts[j]? = some t → fs1[j]? = some v → fs1[j]? = fs[j]? ∨ en_V sh t v) : en_C PP sh tys (.inl (c, ts)) (.inr (c', fs1)) := ⟨hc.1, hl.trans hc.2.1, fun j t v ht hv => by
  rcases h j t v ht hv with h9 | h9
  · exact hc.2.2 j t v ht (h9.symm.trans hv)
  · exact h9⟩
theorem kx_C5 {kd : en_D} {r : Nat} {p i c t a p' i' c' t' a' : Int32} (hkd : en_KT[5]? = some kd) (h : en_C PP sh tys kd (.inr (9, [.ref r, .int p, .int i, .int c, .int t, .int a]))) : en_C PP sh tys kd (.inr (9, [.ref r, .int p', .int i', .int c', .int t', .int a'])) := by
  obtain ⟨ts, t0, t1, t2, t3, t4, t5⟩ : ∃ ts : List en_A, en_KT[5]? = some (.inl (9, ts)) ∧ ts[1]? = some (.inl (-2147483648, 2147483647, 0, 0)) ∧ ts[2]? = some (.inl (-2147483648, 2147483647, 0, 0)) ∧ ts[3]? = some (.inl (-2147483648, 2147483647, 0, 0)) ∧ ts[4]? = some (.inl (-2147483648, 2147483647, 0, 0)) ∧ ts[5]? = some (.inl (-2147483648, 2147483647, 0, 0)) := ⟨_, rfl, rfl, rfl, rfl, rfl, rfl⟩
  have ek := Option.some.inj (t0.symm.trans hkd)
  subst ek
  refine kx_Co h rfl (fun j t9 v ht hv => ?_)
  match j, ht, hv with
  | 0, _, _ => exact Or.inl rfl
  | 1, ht, hv =>
    have e1 := Option.some.inj (t1.symm.trans ht)
    have e2 : Value.int p' = v := Option.some.inj hv
    subst e1
    subst e2
    exact Or.inr kx_top
  | 2, ht, hv =>
    have e1 := Option.some.inj (t2.symm.trans ht)
    have e2 : Value.int i' = v := Option.some.inj hv
    subst e1
    subst e2
    exact Or.inr kx_top
  | 3, ht, hv =>
    have e1 := Option.some.inj (t3.symm.trans ht)
    have e2 : Value.int c' = v := Option.some.inj hv
    subst e1
    subst e2
    exact Or.inr kx_top
  | 4, ht, hv =>
    have e1 := Option.some.inj (t4.symm.trans ht)
    have e2 : Value.int t' = v := Option.some.inj hv
    subst e1
    subst e2
    exact Or.inr kx_top
  | 5, ht, hv =>
    have e1 := Option.some.inj (t5.symm.trans ht)
    have e2 : Value.int a' = v := Option.some.inj hv
    subst e1
    subst e2
    exact Or.inr kx_top
  | n + 6, _, _ => exact Or.inl rfl
/-- a row of chars -/
theorem kx_Cc {k t0 n : Nat} {cX cX' : ClassId} {g g1 : Nat → Int32} {kd : en_D} (hKT : KT[k]? = some (.inr (t0, n, .inl (.inl (0, 65535, 0, 0))))) (hkd : KT[k]? = some kd) (hX : tys[t0]? = some (cX, .char)) (hc : en_C PP sh tys kd (.inl (cX', n, .inl g))) (hg : ∀ i, i < n → g1 i = g i ∨ (0 ≤ (g1 i).toInt ∧ (g1 i).toInt ≤ 65535)) : en_C PP sh tys kd (.inl (cX, n, .inl g1)) := by
  have ek := Option.some.inj (hKT.symm.trans hkd)
  subst ek
  obtain ⟨h1, h2, h3⟩ := hc
  refine ⟨by rw [hX]; rfl, rfl, fun j hj => ?_⟩
  rcases hg j hj with h | h
  · rw [h]
    exact h3 j hj
  · exact h
/-- behind a call of the class that tells a hole, an area, a player -/
theorem kx_xpx {h : Nat} {g : Nat → Int64} (I : lw_I E LP tys cO cD 66 138 139 sh w st cx cy fs) (hs : kx_sh sh) (hX : kx_X tys sh w fx hc pc bg ix ar ck) (hX1 : kx_X tys sh w1 fx1 hc1 pc1 bg1 ix1 ar1 ck1) (hh : h < 9) (hb : ∀ i, i < 600 → ck1 h i = ck h i ∨ (0 ≤ (ck1 h i).toInt ∧ (ck1 h i).toInt ≤ 65535)) (hO1 : w1[138]? = some (sh.2 138, .inl (cO, 1, .inr (.inl g)))) (hl : w1.length = w.length) (ho : ∀ j, j ≠ 66 → j ≠ 68 + 2 * h → j ≠ 69 + 2 * h → j ≠ 138 → w1[j]? = w[j]?) (hf : ∀ j, j ≠ 4 → j ≠ 5 → fx1[j]? = fx[j]?) : en_Px tys (en_Pc cx cy) en_KT [0, 5, 6] [(0, 4), (0, 5), (5, 1), (5, 2), (5, 3), (5, 4), (5, 5), (6, 0), (56, 0)] sh w (sh, w1) := by
  refine kx_Ch.px (fun q j e hq he => ?_) (lw_pre I.hs.1 (by decide) (Or.inr (by decide))) hl
  have lfx : fx1.length = fx.length := hX1.1.2.1.trans hX.1.2.1.symm
  by_cases h66 : q = 66
  · subst h66
    have ej : 0 = j := Option.some.inj (hs.1.2.2.2.1.symm.trans hq)
    subst ej
    have ee := (Prod.mk.inj (Option.some.inj (he.symm.trans hX.1.1))).2
    subst ee
    refine ⟨_, hX1.1.1, ⟨rfl, lfx, fun j hj => hf j (fun e9 => hj (by subst e9; decide)) (fun e9 => hj (by subst e9; decide))⟩, fun _ kd hkd hc9 => ?_⟩
    obtain ⟨ts, t1, t2, t3⟩ : ∃ ts : List en_A, en_KT[0]? = some (.inl (12, ts)) ∧ ts[4]? = some (.inl (0, 9, 0, 0)) ∧ ts[5]? = some (.inl (0, 6, 0, 0)) := ⟨_, rfl, rfl, rfl⟩
    have ek := Option.some.inj (t1.symm.trans hkd)
    subst ek
    have a9 := hX1.1.2.2.2.2.2.2.1
    have a6 := hX1.1.2.2.2.2.2.2.2.1
    refine kx_Co hc9 lfx (fun j t v ht hv => ?_)
    by_cases e4 : j = 4
    · subst e4
      have et := Option.some.inj (t2.symm.trans ht)
      subst et
      have ev := Option.some.inj (hX1.1.2.2.2.1.symm.trans hv)
      subst ev
      have n9 : (nI hc1).toInt = (hc1 : Int) := kx_nI (by omega)
      exact Or.inr ⟨nI hc1, rfl, show (0 : Int) ≤ (nI hc1).toInt by omega, show (nI hc1).toInt ≤ (9 : Int) by omega⟩
    · by_cases e5 : j = 5
      · subst e5
        have et := Option.some.inj (t3.symm.trans ht)
        subst et
        have ev := Option.some.inj (hX1.1.2.2.2.2.1.symm.trans hv)
        subst ev
        have n9 : (nI pc1).toInt = (pc1 : Int) := kx_nI (by omega)
        exact Or.inr ⟨nI pc1, rfl, show (0 : Int) ≤ (nI pc1).toInt by omega, show (nI pc1).toInt ≤ (6 : Int) by omega⟩
      · exact Or.inl (hf j e4 e5)
  by_cases h68 : q = 68 + 2 * h
  · subst h68
    have ej : 5 = j := Option.some.inj ((hs.2 h hh).2.2.1.symm.trans hq)
    subst ej
    obtain ⟨p0, c0, t0, x0⟩ := hX.2.2.1 h hh
    obtain ⟨p1, c1, t1, x1⟩ := hX1.2.2.1 h hh
    have ee := (Prod.mk.inj (Option.some.inj (he.symm.trans x0))).2
    subst ee
    refine ⟨_, x1, ⟨rfl, rfl, fun j hj => ?_⟩, fun _ kd hkd hc9 => kx_C5 hkd hc9⟩
    match j, hj with
    | 0, _ => rfl
    | 1, hj => exact absurd (by decide) hj
    | 2, hj => exact absurd (by decide) hj
    | 3, hj => exact absurd (by decide) hj
    | 4, hj => exact absurd (by decide) hj
    | 5, hj => exact absurd (by decide) hj
    | n + 6, _ => rfl
  by_cases h69 : q = 69 + 2 * h
  · subst h69
    have ej : 6 = j := Option.some.inj ((hs.2 h hh).2.2.2.symm.trans hq)
    subst ej
    obtain ⟨cX, g0, y1, y2, y3⟩ := hX.2.2.2 h hh
    obtain ⟨cX1, g1, z1, z2, z3⟩ := hX1.2.2.2 h hh
    have eX := (Prod.mk.inj (Option.some.inj (y1.symm.trans z1))).1
    subst eX
    have ee := (Prod.mk.inj (Option.some.inj (he.symm.trans y2))).2
    subst ee
    refine ⟨_, z2, ⟨rfl, rfl, fun h9 => absurd (by decide) h9⟩, fun _ kd hkd hc9 => kx_Cc (KT := en_KT) (k := 6) (t0 := 1) rfl hkd y1 hc9 fun i hi => ?_⟩
    rw [z3 i hi, y3 i hi]
    exact hb i hi
  by_cases h138 : q = 138
  · subst h138
    have ej : 56 = j := Option.some.inj (I.ho.symm.trans hq)
    subst ej
    obtain ⟨g0, w0⟩ := I.hwo
    have ee := (Prod.mk.inj (Option.some.inj (he.symm.trans w0))).2
    subst ee
    exact ⟨_, hO1, ⟨rfl, rfl, fun h9 => absurd (by decide) h9⟩, fun h9 => absurd h9 (by decide)⟩
  · exact ⟨e, (ho q h66 h68 h69 h138).trans he, en_Fc.rf e, fun _ _ _ h => h⟩
theorem kx_fs0 {fs' : List Value} (I : lw_I E LP tys cO cD qx qo qd sh w st cx cy fs) (I1 : lw_I E LP' tys cO cD qx qo qd sh' w1 st cx cy fs') (h2 : sh'.2 0 = sh.2 0) (h : w1[0]? = some (sh.2 0, .inr (13, fs1))) : fs' = fs1 := by
  have h9 := I1.hs.2.1
  rw [h2] at h9
  exact (Prod.mk.inj (Sum.inr.inj (Prod.mk.inj (Option.some.inj (h9.symm.trans h))).2)).2
theorem kx_xI {h : Nat} {g : Nat → Int64} (hLP : lw_stw [] LP) (I : lw_I E LP tys cO cD 66 138 139 sh w st cx cy fs) (hs : kx_sh sh) (hX : kx_X tys sh w fx hc pc bg ix ar ck) (hX1 : kx_X tys sh w1 fx1 hc1 pc1 bg1 ix1 ar1 ck1) (hh : h < 9) (hb : ∀ i, i < 600 → ck1 h i = ck h i ∨ (0 ≤ (ck1 h i).toInt ∧ (ck1 h i).toInt ≤ 65535)) (hO1 : w1[138]? = some (sh.2 138, .inl (cO, 1, .inr (.inl g)))) (hl : w1.length = w.length) (ho : ∀ j, j ≠ 66 → j ≠ 68 + 2 * h → j ≠ 69 + 2 * h → j ≠ 138 → w1[j]? = w[j]?) (hf : ∀ j, j ≠ 4 → j ≠ 5 → fx1[j]? = fx[j]?) : lw_I E LP tys cO cD 66 138 139 sh w1 st cx cy fs := by
  have hpx := kx_xpx I hs hX hX1 hh hb hO1 hl ho hf
  obtain ⟨fs', I1⟩ := lw_Iqq (wt := []) (u := (sh, w1)) hLP I hpx (by decide) (lw_qall I.hst (by decide +kernel)) (by decide) (by decide) ⟨g, hO1⟩ (lw_Id I hpx (by decide))
  have e : fs' = fs := kx_fs0 I I1 rfl ((ho 0 (by omega) (by omega) (by omega) (by omega)).trans I.hs.2.1)
  rw [e] at I1
  exact I1
/-! the reference's -/
theorem kx_C20 {kd : en_D} (hkd : en_KT[20]? = some kd) (hc : en_C PP sh tys kd (.inr (13, fs))) (hl : fs1.length = fs.length) (hf : ∀ j, j ≠ 16 → j ≠ 17 → j ≠ 30 → fs1[j]? = fs[j]?) (h16 : fs1[16]? = fs[16]? ∨ ∃ k, k ≤ 9 ∧ fs1[16]? = some (.int (nI k))) (h17 : fs1[17]? = fs[17]? ∨ ∃ k, k ≤ 6 ∧ fs1[17]? = some (.int (nI k))) (h30 : ∃ t, fs1[30]? = some (.int t)) : en_C PP sh tys kd (.inr (13, fs1)) := by
  obtain ⟨ts, t0, t1, t2, t3⟩ : ∃ ts : List en_A, en_KT[20]? = some (.inl (13, ts)) ∧ ts[16]? = some (.inl (0, 9, 0, 0)) ∧ ts[17]? = some (.inl (0, 6, 0, 0)) ∧ ts[30]? = some (.inl (-2147483648, 2147483647, 0, 0)) := ⟨_, rfl, rfl, rfl, rfl⟩
  have ek := Option.some.inj (t0.symm.trans hkd)
  subst ek
  refine kx_Co hc hl (fun j t v ht hv => ?_)
  by_cases e16 : j = 16
  · subst e16
    rcases h16 with h | ⟨k, hk, h⟩
    · exact Or.inl h
    · have et := Option.some.inj (t1.symm.trans ht)
      subst et
      have ev := Option.some.inj (h.symm.trans hv)
      subst ev
      have n9 : (nI k).toInt = (k : Int) := kx_nI (by omega)
      exact Or.inr ⟨nI k, rfl, show (0 : Int) ≤ (nI k).toInt by omega, show (nI k).toInt ≤ (9 : Int) by omega⟩
  by_cases e17 : j = 17
  · subst e17
    rcases h17 with h | ⟨k, hk, h⟩
    · exact Or.inl h
    · have et := Option.some.inj (t2.symm.trans ht)
      subst et
      have ev := Option.some.inj (h.symm.trans hv)
      subst ev
      have n9 : (nI k).toInt = (k : Int) := kx_nI (by omega)
      exact Or.inr ⟨nI k, rfl, show (0 : Int) ≤ (nI k).toInt by omega, show (nI k).toInt ≤ (6 : Int) by omega⟩
  by_cases e30 : j = 30
  · subst e30
    obtain ⟨x, h⟩ := h30
    have et := Option.some.inj (t3.symm.trans ht)
    subst et
    have ev := Option.some.inj (h.symm.trans hv)
    subst ev
    exact Or.inr kx_top
  · exact Or.inl (hf j e16 e17 e30)
/-- a call that leaves all but the reference's own fields, and grows perhaps by a row of chars -/
theorem kx_Ch0 (I : lw_I E LP tys cO cD qx qo qd sh w st cx cy fs) (h20 : w1[0]? = some (sh.2 0, .inr (13, fs1))) (hl : fs1.length = fs.length) (hm : ∀ j, (20, j) ∉ md → fs1[j]? = fs[j]?) (hf : ∀ j, j ≠ 16 → j ≠ 17 → j ≠ 30 → fs1[j]? = fs[j]?) (h16 : fs1[16]? = fs[16]? ∨ ∃ k, k ≤ 9 ∧ fs1[16]? = some (.int (nI k))) (h17 : fs1[17]? = fs[17]? ∨ ∃ k, k ≤ 6 ∧ fs1[17]? = some (.int (nI k))) (h30 : ∃ t, fs1[30]? = some (.int t)) (ho : ∀ j, j < w.length → j ≠ 0 → w1[j]? = w[j]?) : kx_Ch (en_Pc cx cy) en_KT tk md tys sh w w1 := fun q j e hq he => by
  by_cases h0 : q = 0
  · subst h0
    have ej : 20 = j := Option.some.inj (I.h20.symm.trans hq)
    subst ej
    have ee := (Prod.mk.inj (Option.some.inj (he.symm.trans I.hs.2.1))).2
    subst ee
    exact ⟨_, h20, ⟨rfl, hl, hm⟩, fun _ kd hkd hc9 => kx_C20 hkd hc9 hl hf h16 h17 h30⟩
  · exact ⟨e, (ho q (List.getElem?_eq_some_iff.mp he).1 h0).trans he, en_Fc.rf e, fun _ _ _ h => h⟩
theorem kx_tI (hLP : lw_stw [] LP) (I : lw_I E LP tys cO cD qx qo qd sh w st cx cy fs) {t : Int32} (h : kx_T sh w w1 fs fs1 t) : lw_I E LP tys cO cD qx qo qd sh w1 st cx cy fs1 := by
  obtain ⟨g1, g2, g3, g4, g5, g6⟩ := h
  have hpx := kx_Ch.px (kx_Ch0 (md := [(20, 30)]) (tk := [20]) I g1 g2 (fun j hj => g4 j (fun e => hj (by subst e; decide))) (fun j _ _ h => g4 j h) (Or.inl (g4 16 (by decide))) (Or.inl (g4 17 (by decide))) ⟨t, g3⟩ (fun j _ h => g6 j h)) (lw_pre I.hs.1 (by decide) (Or.inr (by decide))) g5
  obtain ⟨fs', I1⟩ := lw_Iqq (wt := []) (u := (sh, w1)) hLP I hpx (by decide) (lw_qall I.hst (by decide +kernel)) (by decide) (by decide) (lw_Io I hpx (by decide)) (lw_Id I hpx (by decide))
  have e : fs' = fs1 := kx_fs0 I I1 rfl g1
  rw [e] at I1
  exact I1
/-- a player told: not begun -/
theorem kx_pI (hLP : lw_stw [] LP) (I : lw_I E LP tys cO cD qx qo qd sh w 0 cx cy fs) {t : Int32} (g1 : w1[0]? = some (sh.2 0, .inr (13, fs1))) (g2 : fs1.length = fs.length) (g3 : fs1[30]? = some (.int t)) (g4 : ∀ j, j ≠ 17 → j ≠ 30 → fs1[j]? = fs[j]?) {k : Nat} (hk : k ≤ 6) (g17 : fs1[17]? = some (.int (nI k))) (g5 : w1.length = w.length) (g6 : ∀ j, j ≠ 0 → w1[j]? = w[j]?) : lw_I E LP tys cO cD qx qo qd sh w1 0 cx cy fs1 := by
  have hpx := kx_Ch.px (kx_Ch0 (md := [(20, 17), (20, 30)]) (tk := [20]) I g1 g2 (fun j hj => g4 j (fun e => hj (by subst e; decide)) (fun e => hj (by subst e; decide))) (fun j _ h h' => g4 j h h') (Or.inl (g4 16 (by decide) (by decide))) (Or.inr ⟨k, hk, g17⟩) ⟨t, g3⟩ (fun j _ h => g6 j h)) (lw_pre I.hs.1 (by decide) (Or.inr (by decide))) g5
  obtain ⟨fs', I1⟩ := lw_Iqq (wt := []) (u := (sh, w1)) hLP I hpx (by decide) (by decide +kernel) (by decide) (by decide) (lw_Io I hpx (by decide)) (lw_Id I hpx (by decide))
  have e : fs' = fs1 := kx_fs0 I I1 rfl g1
  rw [e] at I1
  exact I1
theorem kx_lit_c {j : Nat} (hj : j < 9) : (0 : Int) ≤ (kx_lit j).toInt ∧ (kx_lit j).toInt ≤ 65535 := by
  match j, hj with
  | 0, _ => decide
  | 1, _ => decide
  | 2, _ => decide
  | 3, _ => decide
  | 4, _ => decide
  | 5, _ => decide
  | 6, _ => decide
  | 7, _ => decide
  | 8, _ => decide
/-- the reference's literal of kinds is made -/
theorem kx_C43 {a : Nat} {cX : ClassId} {g : Nat → Int32} (hX : tys[1]? = some (cX, .char)) (hg : ∀ j, j < 9 → g j = kx_lit j) : en_C PP (en_shx sh 43 a) tys (.inr (1, 9, .inl (.inl (0, 65535, 0, 0)))) (.inl (cX, 9, .inl g)) := ⟨by rw [hX]; rfl, rfl, fun j hj => by rw [hg j hj]; exact kx_lit_c hj⟩
/-- an area that isn't told -/
theorem kx_aI (hLP : lw_stw [] LP) (I : lw_I E LP tys cO cD qx qo qd sh w st cx cy fs) {t : Int32} {r9 : Nat} {cX : ClassId} {g : Nat → Int32} (hn : w1.length = w.length + 1) (htX : tys[1]? = some (cX, .char)) (hr : w1[w.length]? = some (r9, .inl (cX, 9, .inl g))) (hg : ∀ j, j < 9 → g j = kx_lit j) (g1 : w1[0]? = some (sh.2 0, .inr (13, fs1))) (g2 : fs1.length = fs.length) (g3 : fs1[30]? = some (.int t)) (g4 : ∀ j, j ≠ 30 → fs1[j]? = fs[j]?) (g6 : ∀ j, j < w.length → j ≠ 0 → w1[j]? = w[j]?) : lw_I E LP tys cO cD qx qo qd (en_shx sh 43 r9) w1 st cx cy fs1 := by
  have hpx := kx_Ch.pxx (k := 43) (kd := .inr (1, 9, .inl (.inl (0, 65535, 0, 0)))) (kx_Ch0 (md := [(20, 30)]) (tk := [20, 43]) I g1 g2 (fun j hj => g4 j (fun e => hj (by subst e; decide))) (fun j _ _ h => g4 j h) (Or.inl (g4 16 (by decide))) (Or.inl (g4 17 (by decide))) ⟨t, g3⟩ g6) (lw_pre I.hs.1 (by decide) (Or.inr (by decide))) hn hr (by decide) (by decide) rfl (kx_C43 htX hg)
  obtain ⟨fs', I1⟩ := lw_Iqq (wt := []) (u := (en_shx sh 43 r9, w1)) hLP I hpx (by decide) (lw_qall I.hst (by decide +kernel)) (by decide) (by decide) (lw_Io I hpx (by decide)) (lw_Id I hpx (by decide))
  have e : fs' = fs1 := kx_fs0 I I1 (hpx.1.at I.h20).2 g1
  rw [e] at I1
  exact I1
/-- cup and tee of told holes, said of the rows -/
theorem kx_cup (I : lw_I E LP tys cO cD qx qo qd sh w st cx cy fs) (hM : kx_M tys sh w fs hc pc bg rr mk) : ∀ j, j < hc → ¬ (rr j 2 = rr j 4 ∧ rr j 3 = rr j 5) := fun j hj => by
  have h9 := hM.1.2.2.2.2.2.2.2.1
  have n9 : (nI hc).toInt = (hc : Int) := kx_nI (by omega)
  obtain ⟨cA, cB, f, g, a1, a2, a3, a4, a5, -⟩ := lw_cup (k := j) I (by omega) hM.1.2.2.2.2.1 (by omega)
  obtain ⟨cI, gg, x1, x2, x3⟩ := hM.2.2.2.1 j (by omega)
  have ee := Option.some.inj (a4.symm.trans x2)
  simp only [Prod.mk.injEq, Sum.inl.injEq, true_and] at ee
  obtain ⟨-, rfl⟩ := ee
  rw [← x3 2 (by decide), ← x3 3 (by decide), ← x3 4 (by decide), ← x3 5 (by decide)]
  rcases a5 with h | h
  · exact fun z => h z.1
  · exact fun z => h z.2
/-- a row's bounds -/
def kx_rb (r : Nat → Int32) : Prop := (0 ≤ (r 2).toInt ∧ (r 2).toInt ≤ 29) ∧ (0 ≤ (r 3).toInt ∧ (r 3).toInt ≤ 19) ∧ (0 ≤ (r 4).toInt ∧ (r 4).toInt ≤ 29) ∧ (0 ≤ (r 5).toInt ∧ (r 5).toInt ≤ 19)
theorem kx_C22 {kd : en_D} {cI : ClassId} {g : Nat → Int32} (hI : tys[0]? = some (cI, .int)) (hkd : en_KT[22]? = some kd) (hr : kx_rb g) : en_C PP sh tys kd (.inl (cI, 7, .inl g)) := by
  have ek := Option.some.inj ((show en_KT[22]? = some (.inr (0, 7, .inr ([(-2147483648, 2147483647), (-2147483648, 2147483647), (0, 29), (0, 19), (0, 29), (0, 19), (-2147483648, 2147483647)], []))) from rfl).symm.trans hkd)
  subst ek
  obtain ⟨r2, r3, r4, r5⟩ := hr
  refine ⟨by rw [hI]; rfl, rfl, rfl, fun j r hj => ?_, fun m hm => absurd hm List.not_mem_nil⟩
  match j, hj with
  | 0, hj => have e := Option.some.inj hj; subst e; exact ⟨en_lo _, en_hi _⟩
  | 1, hj => have e := Option.some.inj hj; subst e; exact ⟨en_lo _, en_hi _⟩
  | 2, hj => have e := Option.some.inj hj; subst e; exact r2
  | 3, hj => have e := Option.some.inj hj; subst e; exact r3
  | 4, hj => have e := Option.some.inj hj; subst e; exact r4
  | 5, hj => have e := Option.some.inj hj; subst e; exact r5
  | 6, hj => have e := Option.some.inj hj; subst e; exact ⟨en_lo _, en_hi _⟩
  | n + 7, hj => simp at hj
theorem kx_rbo {h : Nat} (I : lw_I E LP tys cO cD qx qo qd sh w st cx cy fs) (hs : kx_sh sh) (hM : kx_M tys sh w fs hc pc bg rr mk) (hh : h < 9) : kx_rb (rr h) := by
  obtain ⟨e9, a9, b9⟩ := I.hs.1.2 (2 + h) 22 (hs.2 h hh).1
  obtain ⟨kd, c1, c2⟩ := b9 (by decide) (fun z => z)
  rw [lw_KT_eq st 22 (by decide) (by decide)] at c1
  have ek := Option.some.inj (c1.symm.trans (show en_KT[22]? = some (.inr (0, 7, .inr ([(-2147483648, 2147483647), (-2147483648, 2147483647), (0, 29), (0, 19), (0, 29), (0, 19), (-2147483648, 2147483647)], []))) from rfl))
  subst ek
  obtain ⟨cI, g, x1, x2, x3⟩ := hM.2.2.2.1 h hh
  have ee := (Prod.mk.inj (Option.some.inj (a9.symm.trans x2))).2
  subst ee
  obtain ⟨-, -, -, hb, -⟩ := c2
  unfold kx_rb
  rw [← x3 2 (by decide), ← x3 3 (by decide), ← x3 4 (by decide), ← x3 5 (by decide)]
  exact ⟨hb 2 _ rfl, hb 3 _ rfl, hb 4 _ rfl, hb 5 _ rfl⟩
/-- behind a hole or an area told: not begun -/
theorem kx_gI {h k a : Nat} {e1 : va_E} {kd : en_D} {t : Int32} (hLP : lw_stw [] LP) (I : lw_I E LP tys cO cD qx qo qd sh w 0 cx cy fs) (hs : kx_sh sh) (hM : kx_M tys sh w fs hc pc bg rr mk) (hM1 : kx_M tys sh w1 fs1 hc1 pc bg1 rr1 mk1) (hh : h < 9) (hr : kx_rb (rr1 h)) (hmk : ∀ i, i < 600 → mk1 h i = mk h i ∨ (0 ≤ (mk1 h i).toInt ∧ (mk1 h i).toInt ≤ 65535)) (hcup : ∀ j, j < hc1 → ¬ (rr1 j 2 = rr1 j 4 ∧ rr1 j 3 = rr1 j 5)) (g3 : fs1[30]? = some (.int t)) (g4 : ∀ j, j ≠ 16 → j ≠ 30 → fs1[j]? = fs[j]?) (hn : w1.length = w.length + 1) (hnr : w1[w.length]? = some (a, e1)) (hk : k ∈ lw_TK) (h43 : en_nk k) (hkd : (lw_KT 0)[k]? = some kd) (hc9 : en_C (en_Pc cx cy) (en_shx sh k a) tys kd e1) (ho : ∀ j, j < w.length → j ≠ 0 → j ≠ 2 + h → j ≠ 28 + h → w1[j]? = w[j]?) : lw_I E LP tys cO cD qx qo qd (en_shx sh k a) w1 0 cx cy fs1 := by
  have hl : fs1.length = fs.length := hM1.1.2.1.trans hM.1.2.1.symm
  have h9 := hM1.1.2.2.2.2.2.2.2.1
  have hpx : en_Px tys (en_Pc cx cy) (lw_KT 0) lw_TK [(20, 16), (20, 30), (22, 0), (24, 0)] sh w (en_shx sh k a, w1) := by
    refine kx_Ch.pxx (fun q j e hq he => ?_) I.hs.1 hn hnr hk h43 hkd hc9
    by_cases h0 : q = 0
    · subst h0
      have ej : 20 = j := Option.some.inj (I.h20.symm.trans hq)
      subst ej
      have ee := (Prod.mk.inj (Option.some.inj (he.symm.trans I.hs.2.1))).2
      subst ee
      exact ⟨_, hM1.1.1, ⟨rfl, hl, fun j hj => g4 j (fun e => hj (by subst e; decide)) (fun e => hj (by subst e; decide))⟩, fun _ kd hkd hc8 => kx_C20 (by rw [lw_KT_eq 0 20 (by decide) (by decide)] at hkd; exact hkd) hc8 hl (fun j a _ b => g4 j a b) (Or.inr ⟨hc1, h9, hM1.1.2.2.2.2.1⟩) (Or.inl (g4 17 (by decide) (by decide))) ⟨t, g3⟩⟩
    by_cases h2 : q = 2 + h
    · subst h2
      have ej : 22 = j := Option.some.inj ((hs.2 h hh).1.symm.trans hq)
      subst ej
      obtain ⟨cI, g0, y1, y2, y3⟩ := hM.2.2.2.1 h hh
      obtain ⟨cI1, g1, z1, z2, z3⟩ := hM1.2.2.2.1 h hh
      have eX := (Prod.mk.inj (Option.some.inj (y1.symm.trans z1))).1
      subst eX
      have ee := (Prod.mk.inj (Option.some.inj (he.symm.trans y2))).2
      subst ee
      refine ⟨_, z2, ⟨rfl, rfl, fun h9 => absurd (by decide) h9⟩, fun _ kd hkd _ => kx_C22 y1 (by rw [lw_KT_eq 0 22 (by decide) (by decide)] at hkd; exact hkd) ?_⟩
      unfold kx_rb
      rw [z3 2 (by decide), z3 3 (by decide), z3 4 (by decide), z3 5 (by decide)]
      exact hr
    by_cases h28 : q = 28 + h
    · subst h28
      have ej : 24 = j := Option.some.inj ((hs.2 h hh).2.1.symm.trans hq)
      subst ej
      obtain ⟨cX, g0, y1, y2, y3⟩ := hM.2.2.2.2 h hh
      obtain ⟨cX1, g1, z1, z2, z3⟩ := hM1.2.2.2.2 h hh
      have eX := (Prod.mk.inj (Option.some.inj (y1.symm.trans z1))).1
      subst eX
      have ee := (Prod.mk.inj (Option.some.inj (he.symm.trans y2))).2
      subst ee
      refine ⟨_, z2, ⟨rfl, rfl, fun h9 => absurd (by decide) h9⟩, fun _ kd hkd hc8 => kx_Cc (KT := lw_KT 0) (k := 24) (t0 := 1) rfl hkd y1 hc8 fun i hi => ?_⟩
      rw [z3 i hi, y3 i hi]
      exact hmk i hi
    · exact ⟨e, (ho q (List.getElem?_eq_some_iff.mp he).1 h0 h2 h28).trans he, en_Fc.rf e, fun _ _ _ h => h⟩
  have g1 : w1[0]? = some ((en_shx sh k a).2 0, .inr (13, fs1)) := by
    rw [(hpx.1.at I.h20).2]
    exact hM1.1.1
  have hlen := I.hlen
  have hwl := I.hs.1.1
  have hO1 : en_O1 w1 := by
    obtain ⟨m0, cM, fs9, hn9, o1, o2, o3, o4⟩ := I.hs.2.2.2.1
    have ee := Option.some.inj (o1.symm.trans I.hs.2.1)
    simp only [Prod.mk.injEq, Sum.inr.injEq] at ee
    obtain ⟨rfl, rfl, rfl⟩ := ee
    obtain ⟨cR, f, b1, b2, b3⟩ := hM1.2.1
    refine ⟨_, 13, fs1, nI hc1, hM1.1.1, hM1.1.2.2.2.2.1, fun j hj hj9 => ?_, fun j hj => ?_⟩
    · rw [nI_clamp (by omega)] at hj
      obtain ⟨cI, g, x1, x2, x3⟩ := hM1.2.2.2.1 j hj9
      refine ⟨g, ⟨_, cR, 9, f, _, cI, 7, hM1.1.2.2.1, b2, b3 j hj9, x2⟩, ?_⟩
      rw [x3 2 (by decide), x3 3 (by decide), x3 4 (by decide), x3 5 (by decide)]
      exact hcup j hj
    · obtain ⟨b, a9, cA, n, f9, x, b1, b2, b3, b4⟩ := o4 j hj
      exact ⟨b, a9, cA, n, f9, x, (g4 3 (by decide) (by decide)).trans b1, (ho 11 (by omega) (by decide) (by omega) (by omega)).trans b2, b3, (ho (12 + j) (by omega) (by omega) (by omega) (by omega)).trans b4⟩
  refine lw_Iq (wt := []) (u := (en_shx sh k a, w1)) hLP I hpx (by decide) g1 (by decide) (lw_Io I hpx (by decide)) (lw_Id I hpx (by decide)) ⟨hpx.2.1, g1, fun b hb => ?_, hO1, fun h3 => absurd h3 (by decide)⟩
  have hb4 : b ∈ [(22, (0 : Int), (0 : Int)), (21, 0, 0), (20, 0, 0), (16, 0, 9)] := hb
  simp only [List.mem_cons, List.not_mem_nil, or_false] at hb4
  rcases hb4 with rfl | rfl | rfl | rfl
  · exact lw_bk (I.hs.2.2.1 (22, 0, 0) (by decide)) (g4 22 (by decide) (by decide)) (by decide) (by decide)
  · exact lw_bk (I.hs.2.2.1 (21, 0, 0) (by decide)) (g4 21 (by decide) (by decide)) (by decide) (by decide)
  · exact lw_bk (I.hs.2.2.1 (20, 0, 0) (by decide)) (g4 20 (by decide) (by decide)) (by decide) (by decide)
  · have n9 : (nI hc1).toInt = (hc1 : Int) := kx_nI (by omega)
    exact ⟨nI hc1, hM1.1.2.2.2.2.1, show (0 : Int) ≤ (nI hc1).toInt by omega, show (nI hc1).toInt ≤ (9 : Int) by omega⟩
/-- over a longer world -/
theorem kx_X.g (g : en_Gr tk sh sh') (hs : kx_sh sh) (h : kx_X tys sh w fx hc pc bg ix ar ck) : kx_X tys sh' w fx hc pc bg ix ar ck := by
  obtain ⟨fx', a, b, c⟩ := h.st (md := []) en_F.rf g hs (fun _ _ h => absurd h List.not_mem_nil)
  have e : fx' = fx := by
    have h9 := h.1.1
    rw [(g.at hs.1.2.2.2.1).2] at a
    exact (Prod.mk.inj (Sum.inr.inj (Prod.mk.inj (Option.some.inj (a.symm.trans h9))).2)).2
  subst e
  exact c bg h.1.2.2.2.2.2.1 h.1.2.2.2.2.2.2.2.2
theorem kx_M.g (g : en_Gr tk sh sh') (hs : kx_sh sh) (h : kx_M tys sh w fs hc pc bg rr mk) : kx_M tys sh' w fs hc pc bg rr mk := by
  obtain ⟨fs', a, b, c⟩ := h.st (md := []) en_F.rf g hs (fun _ _ h => absurd h List.not_mem_nil)
  have e : fs' = fs := by
    have h9 := h.1.1
    rw [(g.at hs.1.1).2] at a
    exact (Prod.mk.inj (Sum.inr.inj (Prod.mk.inj (Option.some.inj (a.symm.trans h9))).2)).2
  subst e
  exact c bg h.1.2.2.2.2.2.2.1 h.1.2.2.2.2.2.2.2.2.2
/-- whether a round was begun, by the state -/
theorem kx_bg0 (I : lw_I E LP tys cO cD qx qo qd sh w st cx cy fs) (hM : kx_M tys sh w fs hc pc bg rr mk) : bg = 0 → st = 0 := fun hb => by
  refine Classical.byContradiction fun hn => ?_
  obtain ⟨x, f21, l21, -⟩ := lw_b21 (by omega) I.hst I.hs.2.2.1
  have e : x = bg := Value.int.inj (Option.some.inj (f21.symm.trans hM.1.2.2.2.2.2.2.1))
  rw [e, hb] at l21
  exact absurd l21 (by decide)
theorem kx_st0 (I : lw_I E LP tys cO cD qx qo qd sh w 0 cx cy fs) (hM : kx_M tys sh w fs hc pc bg rr mk) : bg = 0 := by
  obtain ⟨x, f21, l21, u21⟩ := I.hs.2.2.1 (21, 0, 0) (by decide)
  have e : x = bg := Value.int.inj (Option.some.inj (f21.symm.trans hM.1.2.2.2.2.2.2.1))
  have l21 : (0 : Int) ≤ x.toInt := l21
  have u21 : x.toInt ≤ (0 : Int) := u21
  rw [← e]
  exact Int32.toInt_inj.mp (by rw [show (0 : Int32).toInt = 0 from rfl]; omega)
end
