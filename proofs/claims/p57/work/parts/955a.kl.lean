theorem cwl1312 : Cond.methodLink RL 364 yL_post ∈ en_cw := cw_at 1312 (by decide +kernel) (by decide +kernel)
theorem cwl1313 : Cond.static yL_post ∈ en_cw := cw_at 1313 (by decide +kernel) (by decide +kernel)
theorem cwl1314 : Cond.codeWith yL_post cL_post 6 (some .int) [(0, 12, 15, 23), (0, 12, 19, 13), (0, 12, 23, 17)] ∈ en_cw := cw_at 1314 (by decide +kernel) (by decide +kernel)
section
variable {p : Program} {l : Launch} {e : Env} {R : Room} {s : State} {m : MethodId} {args : Array Value} {below : List Frame} {meth : Method} {c : Code} {Q : State → Prop}
variable {D : va_G} {tys : List (ClassId × FieldType)} {cO cD : ClassId} {A : Nat → Prop} {sh : en_H} {w : va_W} {H : Heap} {locs : List Loc} {ls : Array Slot} {pc cells slots qx qo qd : Nat} {E E' : Int32 → Int32 → Prop} {LP : en_H → va_W → Prop} {st : Nat} {cx cy : Int32} {fs : List Value} {tk : List Nat} {md : List (Nat × Nat)} {u : en_H × va_W}
theorem lw_wcE {P9 : Int32 → en_H × va_W → Prop} {lv' mc ms ix n mxl : Nat} {hh : List (Nat × Nat × Nat × Nat)} {As : List Value} {y : MethodName} {cy : ByteArray} (F : lw_Fm p R s m args c D tys cO cD A) (L : lw_H D A s w H locs)
    (hM : Met l y (Cond.codeWith y cy mxl (some .int) hh :: en_cw) (en_rm lv' (mc, ms)) (va_Pc As (en_B D vwCl (tys ++ [(cO, .long), (cD, .double)]) w H.size)) (va_Qi (fun (r : Int32) (u : en_H × va_W) => P9 r u) (en_Bw D vwCl (va_A w H.size)) (va_A w H.size)) mc ms (va_A w H.size))
    (hG : GoodIn en_cw (va_wsS RL ix y (Cond.codeWith y cy mxl (some .int) hh :: en_cw)) ∧ (y.cls ≠ "java/lang/invoke/MethodHandle" ∧ y.cls ≠ "java/lang/invoke/VarHandle" ∧ (parseMethodDescriptor y.desc).map (fun d => d.parameters.length) = some n)) (hAl : As.length = n) (hmx : mxl ≤ 41) (hlv : lv' ≤ 40) (hcs : cells + mc ≤ R.cells ∧ slots + ms ≤ R.slots) (hls : ls.size = 9) (hdg : decode cL_law pc = .ok (.invokestatic ix, 3))
    (k : ∀ (u : en_H × va_W) (r9 : Int32) (H1 : Heap) (locs1 : List Loc), P9 r9 u → lw_H D A s u.2 H1 locs1 → W p l e R s m args below meth c H1 locs1 (cells + mc) (slots + ms) Q (F0 m (pc + 3) ls [.int r9])) :
    W p l e R s m args below meth c H locs cells slots Q (F0 m pc ls (As.reverse ++ [])) := by
  have hAA := lw_AA F L
  refine va_calli (a := As.toArray) (vx_runSW (As := As) (rest := []) ⟨F.hx, F.hb, rfl, F.hown, F.hts⟩ hM (vx_cwSW n F.hts hG.1 rfl rfl rfl hG.2 ⟨?_, ?_⟩) ⟨fun a U g mk q => ⟨q.1, q.2.blind⟩, fun U hU hW => ⟨rfl, by rw [hU], by rw [hU]; exact L.hP, va_K.moved hW.alike F.hK, tf.go F.hT L.hS hW hU hAA⟩⟩ rfl hAl (F.hml.trans hls.symm).symm rfl (lv_room (by decide)) hdg hcs) L.hS (fun q _ h => hAA q h) hAA (fun r u t H1 locs1 ht hvm hw hB _ _ hS1 => k u r H1 locs1 hw ⟨by rw [← ht]; exact hB.1, ⟨hB.2.1, fun j q hq => hAA _ (hB.2.2 j q hq)⟩, hS1⟩)
  · show 40 + lv' + 1 ≤ R.frames
    have := F.hR.1; omega
  · show 8 + (mxl + 11) + (400 + 60 * lv') ≤ R.locals
    have := F.hR.2; omega
theorem lw_exact {fs : List Value} {j : Nat} {z : Int} {n : Int32} (h : lw_b fs (j, z, z)) (hn : n.toInt = z) : fs[j]? = some (.int n) := by
  obtain ⟨x, h1, h2, h3⟩ := h
  have h2 : z ≤ x.toInt := h2
  have h3 : x.toInt ≤ z := h3
  have e : x = n := Int32.toInt_inj.mp (by omega)
  rw [← e]
  exact h1
end
section
variable {tys : List (ClassId × FieldType)} {cO cD : ClassId} {A : Nat → Prop} {sh sh' : en_H} {w w1 : va_W} {qx qo qd : Nat} {E : Int32 → Int32 → Prop} {LP LP' : en_H → va_W → Prop} {st : Nat} {cx cy : Int32} {fs fs1 fx fx1 : List Value} {tk : List Nat} {md : List (Nat × Nat)} {PP : Int32 → Int32 → Prop} {KT : List en_D}
variable {hc hc1 pc pc1 : Nat} {bg bg1 : Int32} {ix ix1 ar ar1 : Nat → Int32} {ck ck1 rr rr1 mk mk1 : Nat → Nat → Int32}
theorem lw_I.lp (I : lw_I E LP tys cO cD qx qo qd sh w st cx cy fs) (h : LP' sh w) : lw_I E LP' tys cO cD qx qo qd sh w st cx cy fs := ⟨I.h20, ⟨I.h28, I.h26⟩, I.h27, I.h27b, I.hsp, I.hcr, I.h28u, I.hx, I.ho, I.hd, I.hO, I.hst, I.hwo, I.hwd, I.hed, h, I.hs⟩
def kx_Ch (PP : Int32 → Int32 → Prop) (KT : List en_D) (tk : List Nat) (md : List (Nat × Nat)) (tys : List (ClassId × FieldType)) (sh : en_H) (w w1 : va_W) : Prop := ∀ (q j : Nat) (e : va_E), sh.1[q]? = some j → w[q]? = some (sh.2 q, e) → ∃ e1 : va_E, w1[q]? = some (sh.2 q, e1) ∧ en_Fc md j e e1 ∧ (j ∈ tk → ∀ kd, KT[j]? = some kd → en_C PP sh tys kd e → en_C PP sh tys kd e1)
theorem kx_Ch.F (h : kx_Ch PP KT tk md tys sh w w1) : en_F md sh w w1 := fun q k e0 hq h0 => by
  obtain ⟨e1, a, b, -⟩ := h q k e0 hq h0
  exact ⟨e1, a, b⟩
theorem kx_Ch.px (h : kx_Ch PP KT tk md tys sh w w1) (hW : en_W PP KT tk sh tys (fun _ => False) w) (hl : w1.length = w.length) : en_Px tys PP KT tk md sh w (sh, w1) := ⟨en_Gr.rf, ⟨hl.trans hW.1, fun q k hq => by
  obtain ⟨e, a, b⟩ := hW.2 q k hq
  obtain ⟨e1, a1, -, c1⟩ := h q k e hq a
  refine ⟨e1, a1, fun hk hx => ?_⟩
  obtain ⟨kd, d1, d2⟩ := b hk hx
  exact ⟨kd, d1, c1 hk kd d1 d2⟩⟩, h.F⟩
theorem kx_top {x : Int32} : en_V sh (.inl (-2147483648, 2147483647, 0, 0)) (.int x) := ⟨x, rfl, en_lo x, en_hi x⟩
theorem kx_Co {c c' : Nat} {ts : List en_A} (hc : en_C PP sh tys (.inl (c, ts)) (.inr (c', fs))) (hl : fs1.length = fs.length) (h : ∀ (j : Nat) (t : en_A) (v : Value), ts[j]? = some t → fs1[j]? = some v → fs1[j]? = fs[j]? ∨ en_V sh t v) : en_C PP sh tys (.inl (c, ts)) (.inr (c', fs1)) := ⟨hc.1, hl.trans hc.2.1, fun j t v ht hv => by
  rcases h j t v ht hv with h9 | h9
  · exact hc.2.2 j t v ht (h9.symm.trans hv)
  · exact h9⟩
theorem kx_fs0 {fs' : List Value} (I : lw_I E LP tys cO cD qx qo qd sh w st cx cy fs) (I1 : lw_I E LP' tys cO cD qx qo qd sh' w1 st cx cy fs') (h2 : sh'.2 0 = sh.2 0) (h : w1[0]? = some (sh.2 0, .inr (13, fs1))) : fs' = fs1 := by
  have h9 := I1.hs.2.1
  rw [h2] at h9
  exact (Prod.mk.inj (Sum.inr.inj (Prod.mk.inj (Option.some.inj (h9.symm.trans h))).2)).2
theorem kx_C20 {kd : en_D} (hkd : en_KT[20]? = some kd) (hc : en_C PP sh tys kd (.inr (13, fs))) (hl : fs1.length = fs.length) (hf : ∀ j, j ≠ 16 → j ≠ 17 → j ≠ 30 → fs1[j]? = fs[j]?) (h16 : fs1[16]? = fs[16]? ∨ ∃ k, k ≤ 9 ∧ fs1[16]? = some (.int (nI k))) (h17 : fs1[17]? = fs[17]? ∨ ∃ k, k ≤ 6 ∧ fs1[17]? = some (.int (nI k))) (h30 : ∃ t, fs1[30]? = some (.int t)) : en_C PP sh tys kd (.inr (13, fs1)) := by
  obtain ⟨ts, t0, t1, t2, t3⟩ : ∃ ts : List en_A, en_KT[20]? = some (.inl (13, ts)) ∧ ts[16]? = some (.inl (0, 9, 0, 0)) ∧ ts[17]? = some (.inl (0, 6, 0, 0)) ∧ ts[30]? = some (.inl (-2147483648, 2147483647, 0, 0)) := ⟨_, rfl, rfl, rfl, rfl⟩
  have ek := Option.some.inj (t0.symm.trans hkd)
  subst ek
  refine kx_Co hc hl (fun j t v ht hv => ?_)
  by_cases e16 : j = 16
  · subst e16
    rcases h16 with h | ⟨k, hk, h⟩
    · exact Or.inl h
    · have et := Option.some.inj (t1.symm.trans ht)
      subst et
      have ev := Option.some.inj (h.symm.trans hv)
      subst ev
      have n9 : (nI k).toInt = (k : Int) := kx_nI (by omega)
      exact Or.inr ⟨nI k, rfl, show (0 : Int) ≤ (nI k).toInt by omega, show (nI k).toInt ≤ (9 : Int) by omega⟩
  by_cases e17 : j = 17
  · subst e17
    rcases h17 with h | ⟨k, hk, h⟩
    · exact Or.inl h
    · have et := Option.some.inj (t2.symm.trans ht)
      subst et
      have ev := Option.some.inj (h.symm.trans hv)
      subst ev
      have n9 : (nI k).toInt = (k : Int) := kx_nI (by omega)
      exact Or.inr ⟨nI k, rfl, show (0 : Int) ≤ (nI k).toInt by omega, show (nI k).toInt ≤ (6 : Int) by omega⟩
  by_cases e30 : j = 30
  · subst e30
    obtain ⟨x, h⟩ := h30
    have et := Option.some.inj (t3.symm.trans ht)
    subst et
    have ev := Option.some.inj (h.symm.trans hv)
    subst ev
    exact Or.inr kx_top
  · exact Or.inl (hf j e16 e17 e30)
theorem kx_Ch0 (I : lw_I E LP tys cO cD qx qo qd sh w st cx cy fs) (h20 : w1[0]? = some (sh.2 0, .inr (13, fs1))) (hl : fs1.length = fs.length) (hm : ∀ j, (20, j) ∉ md → fs1[j]? = fs[j]?) (hf : ∀ j, j ≠ 16 → j ≠ 17 → j ≠ 30 → fs1[j]? = fs[j]?) (h16 : fs1[16]? = fs[16]? ∨ ∃ k, k ≤ 9 ∧ fs1[16]? = some (.int (nI k))) (h17 : fs1[17]? = fs[17]? ∨ ∃ k, k ≤ 6 ∧ fs1[17]? = some (.int (nI k))) (h30 : ∃ t, fs1[30]? = some (.int t)) (ho : ∀ j, j < w.length → j ≠ 0 → w1[j]? = w[j]?) : kx_Ch (en_Pc cx cy) en_KT tk md tys sh w w1 := fun q j e hq he => by
  by_cases h0 : q = 0
  · subst h0
    have ej : 20 = j := Option.some.inj (I.h20.symm.trans hq)
    subst ej
    have ee := (Prod.mk.inj (Option.some.inj (he.symm.trans I.hs.2.1))).2
    subst ee
    exact ⟨_, h20, ⟨rfl, hl, hm⟩, fun _ kd hkd hc9 => kx_C20 hkd hc9 hl hf h16 h17 h30⟩
  · exact ⟨e, (ho q (List.getElem?_eq_some_iff.mp he).1 h0).trans he, en_Fc.rf e, fun _ _ _ h => h⟩
theorem kx_tI (hLP : lw_stw [] LP) (I : lw_I E LP tys cO cD qx qo qd sh w st cx cy fs) {t : Int32} (h : kx_T sh w w1 fs fs1 t) : lw_I E LP tys cO cD qx qo qd sh w1 st cx cy fs1 := by
  obtain ⟨g1, g2, g3, g4, g5, g6⟩ := h
  have hpx := kx_Ch.px (kx_Ch0 (md := [(20, 30)]) (tk := [20]) I g1 g2 (fun j hj => g4 j (fun e => hj (by subst e; decide))) (fun j _ _ h => g4 j h) (Or.inl (g4 16 (by decide))) (Or.inl (g4 17 (by decide))) ⟨t, g3⟩ (fun j _ h => g6 j h)) (lw_pre I.hs.1 (by decide) (Or.inr (by decide))) g5
  obtain ⟨fs', I1⟩ := lw_Iqq (wt := []) (u := (sh, w1)) hLP I hpx (by decide) (lw_qall I.hst (by decide +kernel)) (by decide) (by decide) (lw_Io I hpx (by decide)) (lw_Id I hpx (by decide))
  have e : fs' = fs1 := kx_fs0 I I1 rfl g1
  rw [e] at I1
  exact I1
end
/-! out of the law: the class's cells, and what post leaves of the invariant -/
section
variable {tys : List (ClassId × FieldType)} {cO cD : ClassId} {sh : en_H} {w w1 : va_W} {qx qo qd : Nat} {E : Int32 → Int32 → Prop} {LP LP' : en_H → va_W → Prop} {st : Nat} {cx cy : Int32} {fs : List Value} {PP : Int32 → Int32 → Prop}
theorem ks_kd (I : lw_I E LP tys cO cD qx qo qd sh w st cx cy fs) {q k : Nat} {kd : en_D} (hq : sh.1[q]? = some k) (hk : k ∈ lw_TK) (h9 : (lw_KT st)[k]? = en_KT[k]?) (hkd : en_KT[k]? = some kd) : ∃ e : va_E, w[q]? = some (sh.2 q, e) ∧ en_C (en_Pc cx cy) sh tys kd e := by
  obtain ⟨e, a9, b9⟩ := I.hs.1.2 q k hq
  obtain ⟨kd1, c1, c2⟩ := b9 hk (fun z => z)
  rw [h9] at c1
  have ek := Option.some.inj (hkd.symm.trans c1)
  subst ek
  exact ⟨e, a9, c2⟩
theorem ks_ob {ci : Nat} {ts : List en_A} {e : va_E} (h : en_C PP sh tys (.inl (ci, ts)) e) : ∃ vs : List Value, e = .inr (ci, vs) ∧ vs.length = ts.length ∧ ∀ (j : Nat) (t : en_A) (v : Value), ts[j]? = some t → vs[j]? = some v → en_V sh t v := by
  rcases e with ⟨cA, n, f | f | f | f | f⟩ | ⟨co, vs⟩ <;> first | exact h.elim | skip
  obtain ⟨h1, h2, h3⟩ := h
  have h1 : co = ci := h1
  subst h1
  exact ⟨vs, rfl, h2, h3⟩
theorem ks_ar {t0 len : Nat} {i : en_I} {e : va_E} (h : en_C PP sh tys (.inr (t0, len, .inl (.inl i))) e) : ∃ (cA : ClassId) (f : Nat → Int32), e = .inl (cA, len, .inl f) ∧ (tys[t0]?).map Prod.fst = some cA ∧ ∀ j, j < len → i.1 ≤ (f j).toInt ∧ (f j).toInt ≤ i.2.1 := by
  rcases e with ⟨cA, n, f | f | f | f | f⟩ | ⟨co, vs⟩ <;> first | exact h.elim | skip
  obtain ⟨h1, h2, h3⟩ := h
  have h2 : n = len := h2
  subst h2
  exact ⟨cA, f, rfl, h1, h3⟩
theorem ks_int {ts : List en_A} {vs : List Value} (hl : vs.length = ts.length) (h : ∀ (j : Nat) (t : en_A) (v : Value), ts[j]? = some t → vs[j]? = some v → en_V sh t v) {j : Nat} {i : en_I} (ht : ts[j]? = some (.inl i)) : ∃ x : Int32, vs[j]? = some (.int x) ∧ i.1 ≤ x.toInt ∧ x.toInt ≤ i.2.1 := by
  have h1 : j < vs.length := by rw [hl]; exact (List.getElem?_eq_some_iff.mp ht).1
  have hv := List.getElem?_eq_getElem h1
  obtain ⟨x, q1, q2, q3⟩ := h j _ _ ht hv
  exact ⟨x, by rw [hv, q1], q2, q3⟩
theorem ks_ref {ts : List en_A} {vs : List Value} (hl : vs.length = ts.length) (h : ∀ (j : Nat) (t : en_A) (v : Value), ts[j]? = some t → vs[j]? = some v → en_V sh t v) {j k : Nat} (ht : ts[j]? = some (.inr (.inl k))) : ∃ a : Nat, vs[j]? = some (.ref a) := by
  have h1 : j < vs.length := by rw [hl]; exact (List.getElem?_eq_some_iff.mp ht).1
  have hv := List.getElem?_eq_getElem h1
  obtain ⟨q, q1, q2⟩ := h j _ _ ht hv
  exact ⟨sh.2 q, by rw [hv, q2]⟩
theorem ks_ty (hTY : tys.map Prod.snd = en_TY0) {i : Nat} {t : FieldType} (h : en_TY0[i]? = some t) : ∃ c : ClassId, tys[i]? = some (c, t) := by
  rw [← hTY, List.getElem?_map] at h
  obtain ⟨⟨c, t9⟩, h1, h2⟩ := Option.map_eq_some_iff.mp h
  have h2 : t9 = t := h2
  subst h2
  exact ⟨c, h1⟩
theorem ks_tc (hTY : tys.map Prod.snd = en_TY0) {i : Nat} {t : FieldType} {c : ClassId} (h : en_TY0[i]? = some t) (h1 : (tys[i]?).map Prod.fst = some c) : tys[i]? = some (c, t) := by
  obtain ⟨c9, h2⟩ := ks_ty hTY h
  rw [h2] at h1
  have e : c9 = c := Option.some.inj h1
  subst e
  exact h2
def ks_gf (w : va_W) (q j : Nat) : Int32 := match w[q]? with
  | some (_, .inr (_, vs)) => (match vs[j]? with
    | some (.int x) => x
    | _ => 0)
  | _ => 0
theorem ks_gf_e {q j a ci : Nat} {vs : List Value} {x : Int32} (h1 : w[q]? = some (a, .inr (ci, vs))) (h2 : vs[j]? = some (.int x)) : ks_gf w q j = x := by simp only [ks_gf, h1, h2]
def ks_ga (w : va_W) (q : Nat) : Nat → Int32 := match w[q]? with
  | some (_, .inl (_, _, .inl g)) => g
  | _ => fun _ => 0
theorem ks_ga_e {q a n : Nat} {cA : ClassId} {g : Nat → Int32} (h1 : w[q]? = some (a, .inl (cA, n, .inl g))) : ks_ga w q = g := by simp only [ks_ga, h1]
theorem ks_l4 {vs : List Value} {a b c d : Value} (hl : vs.length = 4) (h0 : vs[0]? = some a) (h1 : vs[1]? = some b) (h2 : vs[2]? = some c) (h3 : vs[3]? = some d) : vs = [a, b, c, d] := by
  refine List.ext_getElem? fun i => ?_
  match i with
  | 0 => exact h0
  | 1 => exact h1
  | 2 => exact h2
  | 3 => exact h3
  | n + 4 => rw [List.getElem?_eq_none (by omega)]; rfl
theorem ks_l6 {vs : List Value} {a b c d e f : Value} (hl : vs.length = 6) (h0 : vs[0]? = some a) (h1 : vs[1]? = some b) (h2 : vs[2]? = some c) (h3 : vs[3]? = some d) (h4 : vs[4]? = some e) (h5 : vs[5]? = some f) : vs = [a, b, c, d, e, f] := by
  refine List.ext_getElem? fun i => ?_
  match i with
  | 0 => exact h0
  | 1 => exact h1
  | 2 => exact h2
  | 3 => exact h3
  | 4 => exact h4
  | 5 => exact h5
  | n + 6 => rw [List.getElem?_eq_none (by omega)]; rfl
theorem ks_inj {q ci ci' : Nat} {vs vs' : List Value} {a a' : Nat} (h : w[q]? = some (a, .inr (ci, vs))) (h' : w[q]? = some (a', .inr (ci', vs'))) : vs = vs' := (Prod.mk.inj (Sum.inr.inj (Prod.mk.inj (Option.some.inj (h.symm.trans h'))).2)).2
/-- an object whose row is known, by its kind -/
theorem ks_row9 (I : lw_I E LP tys cO cD qx qo qd sh w st cx cy fs) {q k ci a ci' : Nat} {ts : List en_A} {vs : List Value} (hq : sh.1[q]? = some k) (hk : k ∈ lw_TK) (h9 : (lw_KT st)[k]? = en_KT[k]?) (hkd : en_KT[k]? = some (.inl (ci, ts))) (hw : w[q]? = some (a, .inr (ci', vs))) : vs.length = ts.length ∧ ∀ (j : Nat) (t : en_A) (v : Value), ts[j]? = some t → vs[j]? = some v → en_V sh t v := by
  obtain ⟨e, a1, a2⟩ := ks_kd I hq hk h9 hkd
  obtain ⟨vs1, e1, e2, e3⟩ := ks_ob a2
  rw [e1] at a1
  have ev := ks_inj hw a1
  subst ev
  exact ⟨e2, e3⟩
theorem ks_mk (I : lw_I E LP tys cO cD 66 qo qd sh w st cx cy fs) (hR : kx_R tys sh w) (hTY : tys.map Prod.snd = en_TY0) : ∃ dt : ks_D, ks_X tys sh w dt := by
  obtain ⟨⟨⟨s66, s67, s86⟩, s9, s6⟩, ⟨fx, o, f0, f1⟩, ha, pa, hh, hp⟩ := hR
  obtain ⟨ts, t1, tl, T4, T5, T8, T10, T11, T13⟩ : ∃ ts : List en_A, en_KT[0]? = some (.inl (12, ts)) ∧ ts.length = 14 ∧ ts[4]? = some (.inl (0, 9, 0, 0)) ∧ ts[5]? = some (.inl (0, 6, 0, 0)) ∧ ts[8]? = some (.inl (-1, 3, 0, 0)) ∧ ts[10]? = some (.inl (0, 1, 0, 0)) ∧ ts[11]? = some (.inl (0, 1, 0, 0)) ∧ ts[13]? = some (.inl (0, 8, 0, 0)) := ⟨_, rfl, rfl, rfl, rfl, rfl, rfl, rfl, rfl⟩
  obtain ⟨d1, d2⟩ := ks_row9 I s66 (by decide) (lw_KT_eq st 0 (by decide) (by decide)) t1 o
  obtain ⟨x4, y4, l4, u4⟩ := ks_int d1 d2 T4
  obtain ⟨x5, y5, l5, u5⟩ := ks_int d1 d2 T5
  obtain ⟨x8, y8, l8, u8⟩ := ks_int d1 d2 T8
  obtain ⟨x10, y10, -, -⟩ := ks_int d1 d2 T10
  obtain ⟨x11, y11, -, -⟩ := ks_int d1 d2 T11
  obtain ⟨x13, y13, l13, u13⟩ := ks_int d1 d2 T13
  have l4 : (0 : Int) ≤ x4.toInt := l4
  have u4 : x4.toInt ≤ (9 : Int) := u4
  have l5 : (0 : Int) ≤ x5.toInt := l5
  have u5 : x5.toInt ≤ (6 : Int) := u5
  have l13 : (0 : Int) ≤ x13.toInt := l13
  have u13 : x13.toInt ≤ (8 : Int) := u13
  refine ⟨(fx, x4.toInt.toNat, x5.toInt.toNat, x13.toInt.toNat, x10, x11, x8, fun j => ks_gf w (68 + 2 * j) 1, fun j => ks_gf w (68 + 2 * j) 2, fun j => ks_gf w (68 + 2 * j) 3, fun j => ks_gf w (87 + 8 * j) 3, fun j => ks_gf w (88 + 8 * j) 1, fun j => ks_ga w (92 + 8 * j)), o, d1.trans tl, f0, f1, y4.trans (congrArg (fun z => some (Value.int z)) (kx_cN l4)), y5.trans (congrArg (fun z => some (Value.int z)) (kx_cN l5)), y8, y10, y11, y13.trans (congrArg (fun z => some (Value.int z)) (kx_cN l13)), ?_, ?_, ?_, l8, u8, ha, pa, fun j hj => ?_, fun j hj => ?_, fun j hj => ?_, fun j hj => ?_, fun j hj => ?_, fun j hj => ?_, fun j hj => (hp j hj).2.2⟩
  · show x4.toInt.toNat ≤ 9
    omega
  · show x5.toInt.toNat ≤ 6
    omega
  · show x13.toInt.toNat < 9
    omega
  · obtain ⟨vs, x1, x2⟩ := hh j hj
    obtain ⟨ts, t1, tl, T1, T2, T3, T4, T5⟩ : ∃ ts : List en_A, en_KT[5]? = some (.inl (9, ts)) ∧ ts.length = 6 ∧ ts[1]? = some (.inl (-2147483648, 2147483647, 0, 0)) ∧ ts[2]? = some (.inl (-2147483648, 2147483647, 0, 0)) ∧ ts[3]? = some (.inl (-2147483648, 2147483647, 0, 0)) ∧ ts[4]? = some (.inl (-2147483648, 2147483647, 0, 0)) ∧ ts[5]? = some (.inl (-2147483648, 2147483647, 0, 0)) := ⟨_, rfl, rfl, rfl, rfl, rfl, rfl, rfl⟩
    obtain ⟨d1, d2⟩ := ks_row9 I (s9 j hj).1 (by decide) (lw_KT_eq st 5 (by decide) (by decide)) t1 x1
    obtain ⟨y1, z1, -, -⟩ := ks_int d1 d2 T1
    obtain ⟨y2, z2, -, -⟩ := ks_int d1 d2 T2
    obtain ⟨y3, z3, -, -⟩ := ks_int d1 d2 T3
    obtain ⟨y4, z4, -, -⟩ := ks_int d1 d2 T4
    obtain ⟨y5, z5, -, -⟩ := ks_int d1 d2 T5
    have ev := ks_l6 (d1.trans tl) x2 z1 z2 z3 z4 z5
    refine ⟨y4, y5, ?_⟩
    show w[68 + 2 * j]? = some (sh.2 (68 + 2 * j), .inr (9, [.ref (sh.2 (69 + 2 * j)), .int (ks_gf w (68 + 2 * j) 1), .int (ks_gf w (68 + 2 * j) 2), .int (ks_gf w (68 + 2 * j) 3), .int y4, .int y5]))
    rw [ks_gf_e x1 z1, ks_gf_e x1 z2, ks_gf_e x1 z3, x1, ev]
  · obtain ⟨e, a1, a2⟩ := ks_kd I (s9 j hj).2 (by decide) (lw_KT_eq st 6 (by decide) (by decide)) (show en_KT[6]? = some (.inr (1, 600, .inl (.inl (0, 65535, 0, 0)))) from rfl)
    obtain ⟨cA, g, e1, e2, e3⟩ := ks_ar a2
    rw [e1] at a1
    exact ⟨cA, g, ks_tc hTY rfl e2, a1, e3⟩
  · obtain ⟨⟨vs, x1, x2, x3, x4⟩, -, -⟩ := hp j hj
    obtain ⟨ts, t1, tl, T3⟩ : ∃ ts : List en_A, en_KT[7]? = some (.inl (11, ts)) ∧ ts.length = 4 ∧ ts[3]? = some (.inl (0, 36, 0, 0)) := ⟨_, rfl, rfl, rfl⟩
    obtain ⟨d1, d2⟩ := ks_row9 I (s6 j hj).1 (by decide) (lw_KT_eq st 7 (by decide) (by decide)) t1 x1
    obtain ⟨y3, z3, -, -⟩ := ks_int d1 d2 T3
    have ev := ks_l4 (d1.trans tl) x2 x3 x4 z3
    show w[87 + 8 * j]? = some (sh.2 (87 + 8 * j), .inr (11, [.ref (sh.2 (88 + 8 * j)), .ref (sh.2 (89 + 8 * j)), .ref (sh.2 (93 + 8 * j)), .int (ks_gf w (87 + 8 * j) 3)]))
    rw [ks_gf_e x1 z3, x1, ev]
  · obtain ⟨ts, t1, tl, T0, T1, T2, T9⟩ : ∃ ts : List en_A, en_KT[8]? = some (.inl (6, ts)) ∧ ts.length = 16 ∧ ts[0]? = some (.inl (0, 65535, 0, 0)) ∧ ts[1]? = some (.inl (-2147483648, 2147483647, 0, 0)) ∧ ts[2]? = some (.inl (0, 1, 0, 0)) ∧ ts[9]? = some (.inl (0, 1, 0, 0)) := ⟨_, rfl, rfl, rfl, rfl, rfl, rfl⟩
    obtain ⟨e, a1, a2⟩ := ks_kd I (s6 j hj).2.1 (by decide) (lw_KT_eq st 8 (by decide) (by decide)) t1
    obtain ⟨vs, e1, d1, d2⟩ := ks_ob a2
    rw [e1] at a1
    obtain ⟨y0, z0, -, -⟩ := ks_int d1 d2 T0
    obtain ⟨y1, z1, -, -⟩ := ks_int d1 d2 T1
    obtain ⟨y2, z2, -, -⟩ := ks_int d1 d2 T2
    obtain ⟨y9, z9, -, -⟩ := ks_int d1 d2 T9
    refine ⟨vs, y0, y2, y9, a1, d1.trans tl, z0, ?_, z2, z9⟩
    show vs[1]? = some (.int (ks_gf w (88 + 8 * j) 1))
    rw [ks_gf_e a1 z1]
    exact z1
  · obtain ⟨-, ⟨vs, x1, x2⟩, -⟩ := hp j hj
    obtain ⟨ts, t1, tl, T0, T1, T3, T4, T5⟩ : ∃ ts : List en_A, en_KT[9]? = some (.inl (7, ts)) ∧ ts.length = 6 ∧ ts[0]? = some (.inr (.inl 10)) ∧ ts[1]? = some (.inr (.inl 10)) ∧ ts[3]? = some (.inl (0, 1, 0, 0)) ∧ ts[4]? = some (.inl (0, 1, 0, 0)) ∧ ts[5]? = some (.inl (0, 1, 0, 0)) := ⟨_, rfl, rfl, rfl, rfl, rfl, rfl, rfl⟩
    obtain ⟨d1, d2⟩ := ks_row9 I (s6 j hj).2.2.1 (by decide) (lw_KT_eq st 9 (by decide) (by decide)) t1 x1
    obtain ⟨r0, z0⟩ := ks_ref d1 d2 T0
    obtain ⟨r1, z1⟩ := ks_ref d1 d2 T1
    obtain ⟨y3, z3, -, -⟩ := ks_int d1 d2 T3
    obtain ⟨y4, z4, -, -⟩ := ks_int d1 d2 T4
    obtain ⟨y5, z5, -, -⟩ := ks_int d1 d2 T5
    have ev := ks_l6 (d1.trans tl) z0 z1 x2 z3 z4 z5
    exact ⟨r0, r1, y3, y4, y5, by rw [x1, ev]⟩
  · obtain ⟨e, a1, a2⟩ := ks_kd I (s6 j hj).2.2.2.1 (by decide) (lw_KT_eq st 10 (by decide) (by decide)) (show en_KT[10]? = some (.inr (0, 9, .inl (.inl (-2147483648, 2147483647, 0, 0)))) from rfl)
    obtain ⟨cA, g, e1, e2, -⟩ := ks_ar a2
    rw [e1] at a1
    refine ⟨cA, ks_tc hTY rfl e2, ?_⟩
    show w[92 + 8 * j]? = some (sh.2 (92 + 8 * j), .inl (cA, 9, .inl (ks_ga w (92 + 8 * j))))
    rw [ks_ga_e a1]
    exact a1
theorem ks_ml (I : lw_I E LP tys cO cD qx qo qd sh w st cx cy fs) : 30 < fs.length := by
  obtain ⟨ts, t1, tl⟩ : ∃ ts : List en_A, en_KT[20]? = some (.inl (13, ts)) ∧ ts.length = 31 := ⟨_, rfl, rfl⟩
  obtain ⟨d1, -⟩ := ks_row9 I I.h20 (by decide) (lw_KT_eq st 20 (by decide) (by decide)) t1 I.hs.2.1
  omega
theorem ks_Rof (h : kx_R tys sh w) (ho : ∀ j, 66 ≤ j → w1[j]? = w[j]?) : kx_R tys sh w1 := by
  obtain ⟨hs, ⟨fx, a1, a2⟩, ⟨cH, f, b1, b2, b3⟩, ⟨cP, f2, c1, c2, c3⟩, hh, hp⟩ := h
  refine ⟨hs, ⟨fx, (ho 66 (by decide)).trans a1, a2⟩, ⟨cH, f, b1, (ho 67 (by decide)).trans b2, b3⟩, ⟨cP, f2, c1, (ho 86 (by decide)).trans c2, c3⟩, fun j hj => ?_, fun j hj => ?_⟩
  · obtain ⟨vs, x1, x2⟩ := hh j hj
    exact ⟨vs, (ho _ (by omega)).trans x1, x2⟩
  · obtain ⟨⟨vs, x1, x2⟩, ⟨us, y1, y2⟩, cI, gg, n, ix, lo, t0, z1, z2, z3⟩ := hp j hj
    exact ⟨⟨vs, (ho _ (by omega)).trans x1, x2⟩, ⟨us, (ho _ (by omega)).trans y1, y2⟩, cI, gg, n, ix, lo, t0, (ho _ (by omega)).trans z1, (ho _ (by omega)).trans z2, z3⟩
/-- post, its answer stored -/
def ks_G (tys : List (ClassId × FieldType)) (sh : en_H) (w w1 : va_W) (pj : Nat) : Prop := (∃ (r0 r1 : Nat) (b3 b4 b5 : Int32), w[89 + 8 * pj]? = some (sh.2 (89 + 8 * pj), .inr (7, [.ref r0, .ref r1, .ref (sh.2 (92 + 8 * pj)), .int b3, .int b4, .int b5])) ∧ w1[89 + 8 * pj]? = some (sh.2 (89 + 8 * pj), .inr (7, [.ref r0, .ref r1, .ref (sh.2 (92 + 8 * pj)), .int b3, .int b4, .int 1]))) ∧ ks_fo tys sh w1 pj ∧ w1.length = w.length ∧ ∀ j, j ≠ 89 + 8 * pj → j ≠ 93 + 8 * pj → j ≠ 94 + 8 * pj → j ≠ 138 → w1[j]? = w[j]?
theorem ks_F.g {w2 : va_W} {pj : Nat} (h : ks_F tys sh w w1 pj) (hp6 : pj < 6) (n2 : w2.length = w1.length) (o2 : ∀ j, j ≠ 138 → w2[j]? = w1[j]?) : ks_G tys sh w w2 pj := by
  obtain ⟨⟨r0, r1, b3, b4, b5, c1, c2⟩, ⟨cI, g, n, ix, lo, t0, f1, f2, f3⟩, hl, ho⟩ := h
  exact ⟨⟨r0, r1, b3, b4, b5, c1, (o2 _ (by omega)).trans c2⟩, ⟨cI, g, n, ix, lo, t0, (o2 _ (by omega)).trans f1, (o2 _ (by omega)).trans f2, f3⟩, n2.trans hl, fun j a b c d => (o2 j d).trans (ho j a b c)⟩
theorem ks_px {pj : Nat} {g : Nat → Int64} (I : lw_I E LP tys cO cD 66 138 139 sh w st cx cy fs) (hR : kx_R tys sh w) (hp6 : pj < 6) (hG : ks_G tys sh w w1 pj) (hO1 : w1[138]? = some (sh.2 138, .inl (cO, 1, .inr (.inl g)))) : en_Px tys (en_Pc cx cy) en_KT [9, 11, 12] [(9, 5), (11, 1), (11, 2), (11, 3), (12, 0), (56, 0)] sh w (sh, w1) := by
  obtain ⟨⟨r0, r1, b3, b4, b5, c1, c2⟩, ⟨cI, gg, n, ix, lo, t0, f1, f2, hn, -⟩, hl, ho⟩ := hG
  obtain ⟨q1, q2, q3, q4, q5, q6⟩ := hR.1.2.2 pj hp6
  obtain ⟨-, -, cI0, g0, n0, ix0, lo0, u0, u1, u2, -⟩ := hR.2.2.2.2.2 pj hp6
  refine kx_Ch.px (fun q j e hq he => ?_) (lw_pre I.hs.1 (by decide) (Or.inr (by decide))) hl
  by_cases h89 : q = 89 + 8 * pj
  · subst h89
    have ej : 9 = j := Option.some.inj (q3.symm.trans hq)
    subst ej
    have ee := (Prod.mk.inj (Option.some.inj (he.symm.trans c1))).2
    subst ee
    refine ⟨_, c2, ⟨rfl, rfl, fun j hj => ?_⟩, fun _ kd hkd hc9 => ?_⟩
    · match j, hj with
      | 0, _ => rfl
      | 1, _ => rfl
      | 2, _ => rfl
      | 3, _ => rfl
      | 4, _ => rfl
      | 5, hj => exact absurd (by decide) hj
      | n + 6, _ => rfl
    · obtain ⟨ts, t1, t2⟩ : ∃ ts : List en_A, en_KT[9]? = some (.inl (7, ts)) ∧ ts[5]? = some (.inl (0, 1, 0, 0)) := ⟨_, rfl, rfl⟩
      have ek := Option.some.inj (t1.symm.trans hkd)
      subst ek
      refine kx_Co hc9 rfl (fun j t v ht hv => ?_)
      by_cases e5 : j = 5
      · subst e5
        have et := Option.some.inj (t2.symm.trans ht)
        subst et
        have ev : Value.int 1 = v := Option.some.inj hv
        subst ev
        exact Or.inr ⟨1, rfl, show (0 : Int) ≤ (1 : Int32).toInt by decide, show (1 : Int32).toInt ≤ (1 : Int) by decide⟩
      · refine Or.inl ?_
        match j, e5 with
        | 0, _ => rfl
        | 1, _ => rfl
        | 2, _ => rfl
        | 3, _ => rfl
        | 4, _ => rfl
        | 5, h => exact absurd rfl h
        | n + 6, _ => rfl
  by_cases h93 : q = 93 + 8 * pj
  · subst h93
    have ej : 11 = j := Option.some.inj (q5.symm.trans hq)
    subst ej
    have ee := (Prod.mk.inj (Option.some.inj (he.symm.trans u1))).2
    subst ee
    refine ⟨_, f1, ⟨rfl, rfl, fun j hj => ?_⟩, fun _ kd hkd hc9 => ?_⟩
    · match j, hj with
      | 0, _ => rfl
      | 1, hj => exact absurd (by decide) hj
      | 2, hj => exact absurd (by decide) hj
      | 3, hj => exact absurd (by decide) hj
      | n + 4, _ => rfl
    · obtain ⟨ts, t1, t2, t3, t4⟩ : ∃ ts : List en_A, en_KT[11]? = some (.inl (8, ts)) ∧ ts[1]? = some (.inl (0, 20, 0, 0)) ∧ ts[2]? = some (.inl (-2147483648, 2147483647, 0, 0)) ∧ ts[3]? = some (.inl (-2147483648, 2147483647, 0, 0)) := ⟨_, rfl, rfl, rfl, rfl⟩
      have ek := Option.some.inj (t1.symm.trans hkd)
      subst ek
      refine kx_Co hc9 rfl (fun j t v ht hv => ?_)
      match j, ht, hv with
      | 0, _, _ => exact Or.inl rfl
      | 1, ht, hv =>
        have et := Option.some.inj (t2.symm.trans ht)
        subst et
        have ev : Value.int (nI n) = v := Option.some.inj hv
        subst ev
        have n9 : (nI n).toInt = (n : Int) := kx_nI (by omega)
        exact Or.inr ⟨nI n, rfl, show (0 : Int) ≤ (nI n).toInt by omega, show (nI n).toInt ≤ (20 : Int) by omega⟩
      | 2, ht, hv =>
        have et := Option.some.inj (t3.symm.trans ht)
        subst et
        have ev : Value.int ix = v := Option.some.inj hv
        subst ev
        exact Or.inr kx_top
      | 3, ht, hv =>
        have et := Option.some.inj (t4.symm.trans ht)
        subst et
        have ev : Value.int lo = v := Option.some.inj hv
        subst ev
        exact Or.inr kx_top
      | n9 + 4, _, _ => exact Or.inl rfl
  by_cases h94 : q = 94 + 8 * pj
  · subst h94
    have ej : 12 = j := Option.some.inj (q6.symm.trans hq)
    subst ej
    have eX := (Prod.mk.inj (Option.some.inj (u0.symm.trans t0))).1
    subst eX
    have ee := (Prod.mk.inj (Option.some.inj (he.symm.trans u2))).2
    subst ee
    refine ⟨_, f2, ⟨rfl, rfl, fun h9 => absurd (by decide) h9⟩, fun _ kd hkd _ => ?_⟩
    have ek := Option.some.inj ((show en_KT[12]? = some (.inr (0, 20, .inl (.inl (-2147483648, 2147483647, 0, 0)))) from rfl).symm.trans hkd)
    subst ek
    exact ⟨by rw [t0]; rfl, rfl, fun i _ => ⟨en_lo _, en_hi _⟩⟩
  by_cases h138 : q = 138
  · subst h138
    have ej : 56 = j := Option.some.inj (I.ho.symm.trans hq)
    subst ej
    obtain ⟨g0, w0⟩ := I.hwo
    have ee := (Prod.mk.inj (Option.some.inj (he.symm.trans w0))).2
    subst ee
    exact ⟨_, hO1, ⟨rfl, rfl, fun h9 => absurd (by decide) h9⟩, fun h9 => absurd h9 (by decide)⟩
  · exact ⟨e, (ho q h89 h93 h94 h138).trans he, en_Fc.rf e, fun _ _ _ h => h⟩
theorem ks_pI {pj : Nat} {g : Nat → Int64} (hLP : lw_stw [] LP) (I : lw_I E LP tys cO cD 66 138 139 sh w st cx cy fs) (hR : kx_R tys sh w) (hp6 : pj < 6) (hG : ks_G tys sh w w1 pj) (hO1 : w1[138]? = some (sh.2 138, .inl (cO, 1, .inr (.inl g)))) : lw_I E LP tys cO cD 66 138 139 sh w1 st cx cy fs := by
  have hpx := ks_px I hR hp6 hG hO1
  obtain ⟨fs', I1⟩ := lw_Iqq (wt := []) (u := (sh, w1)) hLP I hpx (by decide) (lw_qall I.hst (by decide +kernel)) (by decide) (by decide) ⟨g, hO1⟩ (lw_Id I hpx (by decide))
  have e : fs' = fs := kx_fs0 I I1 rfl ((hG.2.2.2 0 (by omega) (by omega) (by omega) (by omega)).trans I.hs.2.1)
  rw [e] at I1
  exact I1
theorem ks_Rp {pj : Nat} (h : kx_R tys sh w) (hp6 : pj < 6) (hG : ks_G tys sh w w1 pj) : kx_R tys sh w1 := by
  obtain ⟨hs, ⟨fx, a1, a2⟩, ⟨cH, f, b1, b2, b3⟩, ⟨cP, f2, c1, c2, c3⟩, hh, hp⟩ := h
  obtain ⟨⟨r0, r1, b4, b5, b6, d1, d2⟩, hfo, hl, ho⟩ := hG
  refine ⟨hs, ⟨fx, (ho 66 (by omega) (by omega) (by omega) (by omega)).trans a1, a2⟩, ⟨cH, f, b1, (ho 67 (by omega) (by omega) (by omega) (by omega)).trans b2, b3⟩, ⟨cP, f2, c1, (ho 86 (by omega) (by omega) (by omega) (by omega)).trans c2, c3⟩, fun j hj => ?_, fun j hj => ?_⟩
  · obtain ⟨vs, x1, x2⟩ := hh j hj
    exact ⟨vs, (ho _ (by omega) (by omega) (by omega) (by omega)).trans x1, x2⟩
  · obtain ⟨⟨vs, x1, x2⟩, ⟨us, y1, y2⟩, cI, gg, n, ix, lo, t0, z1, z2, z3⟩ := hp j hj
    refine ⟨⟨vs, (ho _ (by omega) (by omega) (by omega) (by omega)).trans x1, x2⟩, ?_, ?_⟩
    · by_cases e : j = pj
      · subst e
        exact ⟨_, d2, rfl⟩
      · exact ⟨us, (ho _ (by omega) (by omega) (by omega) (by omega)).trans y1, y2⟩
    · by_cases e : j = pj
      · subst e
        exact hfo
      · exact ⟨cI, gg, n, ix, lo, t0, (ho _ (by omega) (by omega) (by omega) (by omega)).trans z1, (ho _ (by omega) (by omega) (by omega) (by omega)).trans z2, z3⟩
end
