/-! the lists in the law's invariant -/
/-- a place of kind 54, made: an array of a list, a box, an iterator -/
def lw_k54 (sh : en_H) (w : va_W) (q : Nat) : Prop := sh.1[q]? = some 54 ∧ ∃ e, w[q]? = some (sh.2 q, e)
def lw_qa (sh : en_H) (w : va_W) (j q : Nat) : Prop := q = 21 + j ∨ (sh.1[q]? = some 54 ∧ q ≠ 20 ∧ ∃ x, w[q]? = some (sh.2 q, .inl x))
/-- the six lists -/
def lw_LL (cL : ClassId) (e0 : Nat) (af : Nat → Nat) (sh : en_H) (w : va_W) : Prop :=
  (sh.1[19]? = some 39 ∧ sh.1[20]? = some 54 ∧ (∀ q, sh.1[q]? = some 39 → q = 19) ∧ (∀ j, j < 6 → sh.1[21 + j]? = some 49) ∧ ∃ (mc : Int32) (gD : Nat → Option Nat), w[19]? = some (sh.2 19, .inr (5, [.int mc, .ref (sh.2 20), .int 6])) ∧ w[20]? = some (sh.2 20, .inl (cL, 10, .inr (.inr (.inr (.inr gD))))) ∧ ∀ j, j < 6 → gD j = some (sh.2 (21 + j))) ∧
  ∃ qa n : Nat → Nat, (∀ j, j < 6 → li_L w (21 + j) (qa j) (sh.2 (21 + j)) e0 cL (af, lw_k54 sh w) (n j) ∧ n j ≤ 20 ∧ lw_qa sh w j (qa j)) ∧ ∀ i j, i < 6 → j < 6 → i ≠ j → qa i ≠ qa j
theorem lw_Fcr {md : List (Nat × Nat)} {k : Nat} {e0 e : va_E} (h : en_Fc md k e0 e) (hm : ∀ z ∈ md, z.1 ≠ k) : e = e0 := by
  rcases e0 with x0 | o0 <;> rcases e with x | o <;> first | exact h.elim | skip
  · rw [h.2.2 fun hz => hm _ hz rfl]
  · obtain ⟨a, b⟩ := o
    obtain ⟨a0, b0⟩ := o0
    obtain ⟨h1, -, h3⟩ := h
    have e1 : a = a0 := h1
    have e2 : b = b0 := List.ext_getElem? fun j => h3 j fun hz => hm _ hz rfl
    rw [e1, e2]
theorem lw_Fat {md : List (Nat × Nat)} {k q : Nat} {e : va_E} {sh : en_H} {w w' : va_W} (h : en_F md sh w w') (hq : sh.1[q]? = some k) (hm : ∀ z ∈ md, z.1 ≠ k) (hw : w[q]? = some (sh.2 q, e)) : w'[q]? = some (sh.2 q, e) := by
  obtain ⟨e1, a, b⟩ := h q k e hq hw
  rw [a, lw_Fcr b hm]
theorem li_L.adm {w : va_W} {q qa la e0 n : Nat} {cL : ClassId} {ad ad' : li_ad} (h : li_L w q qa la e0 cL ad n) (h1 : ad'.1 = ad.1) (h2 : ∀ z x, ad.2 z → w[z]? = some x → ad'.2 z) : li_L w q qa la e0 cL ad' n := by
  obtain ⟨f, hS, hE⟩ := h
  refine ⟨f, hS, fun k hk => ?_⟩
  obtain ⟨y, a, b⟩ := hE k hk
  refine ⟨y, a, ?_⟩
  rcases b with ⟨qb, v, c, d⟩ | ⟨k9, c, d⟩
  · exact Or.inl ⟨qb, v, h2 qb _ c d, d⟩
  · exact Or.inr ⟨k9, c, by rw [d, h1]⟩
theorem lw_LL_st {wt : List (Nat × Nat)} {cL : ClassId} {e0 : Nat} {af : Nat → Nat} : lw_stw wt (lw_LL cL e0 af) := fun tk md sh sh' w w' hg hF hm ⟨⟨h1, h2, h3, h4, mc, gD, h5, h6, h7⟩, qa, n, h8, h9⟩ => by
  have k39 : ∀ z ∈ md, z.1 ≠ 39 := fun z hz => by rcases (hm z hz).1 with h | h <;> omega
  have k49 : ∀ z ∈ md, z.1 ≠ 49 := fun z hz => by rcases (hm z hz).1 with h | h <;> omega
  have k54 : ∀ z ∈ md, z.1 ≠ 54 := fun z hz => by rcases (hm z hz).1 with h | h <;> omega
  have F54 : ∀ q e, sh.1[q]? = some 54 → w[q]? = some (sh.2 q, e) → sh'.1[q]? = some 54 ∧ w'[q]? = some (sh'.2 q, e) := fun q e hq hw => ⟨(hg.at hq).1, by rw [(hg.at hq).2]; exact lw_Fat hF hq k54 hw⟩
  refine ⟨⟨(hg.at h1).1, (hg.at h2).1, fun q hq => h3 q (lw_new hg (by decide) hq), fun j hj => (hg.at (h4 j hj)).1, mc, gD, ?_, ?_, fun j hj => ?_⟩, qa, n, fun j hj => ?_, h9⟩
  · rw [(hg.at h1).2, (hg.at h2).2]
    exact lw_Fat hF h1 k39 h5
  · rw [(hg.at h2).2]
    exact lw_Fat hF h2 k54 h6
  · rw [(hg.at (h4 j hj)).2]
    exact h7 j hj
  · obtain ⟨⟨f, ⟨mc9, ra, a1, a2⟩, hE⟩, a3, a4⟩ := h8 j hj
    refine ⟨⟨f, ⟨mc9, ra, ?_, ?_⟩, fun k hk => ?_⟩, a3, ?_⟩
    · rw [(hg.at (h4 j hj)).2]
      exact lw_Fat hF (h4 j hj) k49 a1
    · rcases a2 with a2 | ⟨N, b1, b2⟩
      · exact Or.inl a2
      · refine Or.inr ⟨N, ?_, b2⟩
        rcases a4 with e | ⟨c1, -, x, c3⟩
        · rw [e] at b1
          rw [a1] at b1
          cases b1
        · have e9 := Option.some.inj (c3.symm.trans b1)
          rw [← (Prod.mk.inj e9).1, ← (Prod.mk.inj e9).2]
          exact lw_Fat hF c1 k54 c3
    · obtain ⟨y, c1, c2⟩ := hE k hk
      refine ⟨y, c1, ?_⟩
      rcases c2 with ⟨qb, v, ⟨d1, e9, d2⟩, d3⟩ | c2
      · obtain ⟨e1, e2⟩ := F54 qb e9 d1 d2
        have ey : y = sh'.2 qb := by rw [(hg.at d1).2]; exact (Prod.mk.inj (Option.some.inj (d3.symm.trans d2))).1
        have ee : e9 = .inr (2, [.int v]) := ((Prod.mk.inj (Option.some.inj (d3.symm.trans d2))).2).symm
        exact Or.inl ⟨qb, v, ⟨e1, e9, e2⟩, by rw [e2, ee, ey]⟩
      · exact Or.inr c2
    · rcases a4 with e | ⟨c1, c2, x, c3⟩
      · exact Or.inl e
      · obtain ⟨e1, e2⟩ := F54 _ _ c1 c3
        exact Or.inr ⟨e1, c2, x, e2⟩
theorem lw_ty {tys : List (ClassId × FieldType)} (h : tys.map Prod.snd = en_TY0) {t : Nat} {ty : FieldType} (ht : en_TY0[t]? = some ty) : ∃ c, tys[t]? = some (c, ty) := by
  rw [← h, List.getElem?_map] at ht
  obtain ⟨x, h1, h2⟩ := Option.map_eq_some_iff.mp ht
  exact ⟨x.1, by rw [h1, ← h2]⟩
def lw_k20 : List en_A := match (en_KT[20]? : Option en_D) with | some (Sum.inl k) => k.2 | _ => []
section
variable {tys : List (ClassId × FieldType)} {cO cD cL : ClassId} {sh : en_H} {w w1 : va_W} {qx qo qd : Nat} {E : Int32 → Int32 → Prop} {LP : en_H → va_W → Prop} {st : Nat} {cx cy : Int32} {fs fs1 : List Value}
theorem lw_cell (I : lw_I E LP tys cO cD qx qo qd sh w st cx cy fs) {q k : Nat} (hq : sh.1[q]? = some k) (hk : k < 49 ∧ k ≠ 39 ∧ k ≠ 46) : ∃ e kd, w[q]? = some (sh.2 q, e) ∧ (lw_KT st)[k]? = some kd ∧ en_C (en_Pc cx cy) sh tys kd e := by
  obtain ⟨e, a, b⟩ := I.hs.1.2 q k hq
  obtain ⟨kd, c, d⟩ := b (lw_mTK hk) (fun h => h)
  exact ⟨e, kd, a, c, d⟩
theorem lw_m20 (I : lw_I E LP tys cO cD qx qo qd sh w st cx cy fs) : fs.length = 31 ∧ ∀ (j : Nat) (t : en_A) (v : Value), lw_k20[j]? = some t → fs[j]? = some v → en_V sh t v := by
  obtain ⟨e, kd, a, b, c⟩ := lw_cell I I.h20 (by decide)
  have e1 : kd = .inl (13, lw_k20) := Option.some.inj (b.symm.trans ((lw_KT_eq st 20 (by decide) (by decide)).trans rfl))
  have e2 : e = .inr (13, fs) := (Prod.mk.inj (Option.some.inj (a.symm.trans I.hs.2.1))).2
  subst e1
  subst e2
  exact ⟨c.2.1, c.2.2⟩
theorem lw_fr (I : lw_I E LP tys cO cD qx qo qd sh w st cx cy fs) {j k : Nat} (h : lw_k20[j]? = some (.inr (.inl k))) (hj : j < 31) : ∃ q, sh.1[q]? = some k ∧ fs[j]? = some (.ref (sh.2 q)) := by
  obtain ⟨h1, h2⟩ := lw_m20 I
  have h3 := List.getElem?_eq_getElem (show j < fs.length by omega)
  obtain ⟨q, a, b⟩ := h2 j _ _ h h3
  exact ⟨q, a, by rw [h3, b]⟩
theorem lw_fi (I : lw_I E LP tys cO cD qx qo qd sh w st cx cy fs) {j : Nat} {i : en_I} (h : lw_k20[j]? = some (.inl i)) (hj : j < 31) : ∃ x : Int32, fs[j]? = some (.int x) ∧ i.1 ≤ x.toInt ∧ x.toInt ≤ i.2.1 := by
  obtain ⟨h1, h2⟩ := lw_m20 I
  have h3 := List.getElem?_eq_getElem (show j < fs.length by omega)
  obtain ⟨x, a, b⟩ := h2 j _ _ h h3
  exact ⟨x, by rw [h3, a], b⟩
theorem lw_ai (I : lw_I E LP tys cO cD qx qo qd sh w st cx cy fs) {q k t0 len : Nat} {i : en_I} {cA : ClassId} {ty : FieldType} (hq : sh.1[q]? = some k) (hk : k < 49 ∧ k ≠ 39 ∧ k ≠ 46) (h : (lw_KT st)[k]? = some (.inr (t0, len, .inl (.inl i)))) (ht : tys[t0]? = some (cA, ty)) : ∃ g, w[q]? = some (sh.2 q, .inl (cA, len, .inl g)) ∧ ∀ j, j < len → i.1 ≤ (g j).toInt ∧ (g j).toInt ≤ i.2.1 := by
  obtain ⟨e, kd, a, b, c⟩ := lw_cell I hq hk
  have e1 := Option.some.inj (b.symm.trans h)
  subst e1
  rcases e with ⟨cA9, n, f | f | f | f | f⟩ | o <;> first | exact c.elim | skip
  obtain ⟨c1, c2, c3⟩ := c
  rw [ht] at c1
  have e2 : cA = cA9 := Option.some.inj c1
  subst e2
  subst c2
  exact ⟨f, a, c3⟩
theorem lw_av (I : lw_I E LP tys cO cD qx qo qd sh w st cx cy fs) {q k t0 len : Nat} {v : en_V8} {cA : ClassId} {ty : FieldType} (hq : sh.1[q]? = some k) (hk : k < 49 ∧ k ≠ 39 ∧ k ≠ 46) (h : (lw_KT st)[k]? = some (.inr (t0, len, .inr v))) (ht : tys[t0]? = some (cA, ty)) : ∃ g, w[q]? = some (sh.2 q, .inl (cA, len, .inl g)) := by
  obtain ⟨e, kd, a, b, c⟩ := lw_cell I hq hk
  have e1 := Option.some.inj (b.symm.trans h)
  subst e1
  rcases e with ⟨cA9, n, f | f | f | f | f⟩ | o <;> first | exact c.elim | skip
  obtain ⟨c1, c2, -⟩ := c
  rw [ht] at c1
  have e2 : cA = cA9 := Option.some.inj c1
  subst e2
  subst c2
  exact ⟨f, a⟩
theorem lw_ar (I : lw_I E LP tys cO cD qx qo qd sh w st cx cy fs) {q k t0 len k2 : Nat} {cA : ClassId} {ty : FieldType} (hq : sh.1[q]? = some k) (hk : k < 49 ∧ k ≠ 39 ∧ k ≠ 46) (h : (lw_KT st)[k]? = some (.inr (t0, len, .inl (.inr (.inl k2))))) (ht : tys[t0]? = some (cA, ty)) : ∃ g, w[q]? = some (sh.2 q, .inl (cA, len, .inr (.inr (.inr (.inr g))))) ∧ ∀ j, j < len → ∃ q2, sh.1[q2]? = some k2 ∧ g j = some (sh.2 q2) := by
  obtain ⟨e, kd, a, b, c⟩ := lw_cell I hq hk
  have e1 := Option.some.inj (b.symm.trans h)
  subst e1
  rcases e with ⟨cA9, n, f | f | f | f | f⟩ | o <;> first | exact c.elim | skip
  obtain ⟨c1, c2, c3⟩ := c
  rw [ht] at c1
  have e2 : cA = cA9 := Option.some.inj c1
  subst e2
  subst c2
  exact ⟨f, a, c3⟩
end
def lw_BB (pIx pLo pP : Nat) (qa : Nat → Nat) : List Nat := [0, pIx, pLo, pP] ++ ((List.range 6).map (fun j => 21 + j) ++ (List.range 6).map qa)
theorem lw_BB_m {pIx pLo pP : Nat} {qa : Nat → Nat} {z : Nat} : z ∈ lw_BB pIx pLo pP qa ↔ (z = 0 ∨ z = pIx ∨ z = pLo ∨ z = pP) ∨ (∃ j, j < 6 ∧ z = 21 + j) ∨ ∃ j, j < 6 ∧ z = qa j := by
  unfold lw_BB
  rw [List.mem_append, List.mem_append, List.mem_map, List.mem_map]
  constructor
  · rintro (h | ⟨j, hj, e⟩ | ⟨j, hj, e⟩)
    · exact Or.inl (by simpa using h)
    · exact Or.inr (Or.inl ⟨j, List.mem_range.mp hj, e.symm⟩)
    · exact Or.inr (Or.inr ⟨j, List.mem_range.mp hj, e.symm⟩)
  · rintro (h | ⟨j, hj, e⟩ | ⟨j, hj, e⟩)
    · exact Or.inl (by simpa using h)
    · exact Or.inr (Or.inl ⟨j, List.mem_range.mpr hj, e.symm⟩)
    · exact Or.inr (Or.inr ⟨j, List.mem_range.mpr hj, e.symm⟩)
/-- what the lists' methods ask -/
def lw_PO (tys : List (ClassId × FieldType)) (cL : ClassId) (e0 : Nat) (af : Nat → Nat) (sh : en_H) (w : va_W) (fs : List Value) (cI cZ cR : ClassId) (nh : Nat) (xp x29 : Int32) (pHc pWr pS pO pP pIx pLo : Nat) (qa nn : Nat → Nat) : Prop :=
  (tys[0]? = some (cI, .int) ∧ tys[2]? = some (cZ, .boolean) ∧ tys[5]? = some (cR, .array .int)) ∧
  (sh.1[pP]? = some 37 ∧ sh.1[pIx]? = some 40 ∧ sh.1[pLo]? = some 41) ∧ ((∀ j, j < 6 → lw_qa sh w j (qa j)) ∧ ∀ i j, i < 6 → j < 6 → i ≠ j → qa i ≠ qa j) ∧
  po_fs fs nh xp x29 (sh.2 1) (sh.2 pHc) (sh.2 pWr) (sh.2 pS) (sh.2 pO) (sh.2 pP) (sh.2 pIx) (sh.2 pLo) (sh.2 19) ∧
  po_c w w.length (lw_BB pIx pLo pP qa) cL cI cZ cR nh (sh.2 1) (sh.2 pHc) (sh.2 pWr) (sh.2 pS) (sh.2 pO) (sh.2 pP) (sh.2 pIx) (sh.2 pLo) (sh.2 19) pHc pWr pS pO pP pIx pLo (fun j => sh.2 (21 + j)) ∧
  (0 ≤ xp.toInt ∧ xp.toInt ≤ 6) ∧ nh ≤ 9 ∧ po_B w.length (lw_BB pIx pLo pP qa) pHc pWr pS pO ∧ (∀ z ∈ [0, pIx, pLo, pP], z ∈ lw_BB pIx pLo pP qa ∧ z < w.length) ∧ (pIx ≠ pLo ∧ pIx ≠ pP ∧ pLo ≠ pP ∧ pIx ≠ 0 ∧ pLo ≠ 0 ∧ pP ≠ 0) ∧
  po_L w (lw_BB pIx pLo pP qa) e0 cL (af, fun q => lw_k54 sh w q ∨ w.length ≤ q) (fun j => sh.2 (21 + j)) qa nn ∧ (∀ j, j < 6 → ∀ z ∈ [0, pIx, pLo, pP], z ∉ [21 + j, qa j]) ∧ ∀ j, j < 6 → qa j < w.length
theorem lw_k2 {sh : en_H} {p q a b : Nat} (h : sh.1[p]? = some a) (g : sh.1[q]? = some b) (hab : a ≠ b) : p ≠ q := fun e => by
  rw [e] at h
  exact hab (Option.some.inj (h.symm.trans g))
section
variable {tys : List (ClassId × FieldType)} {cO cD cL : ClassId} {sh : en_H} {w w1 : va_W} {qx qo qd : Nat} {E : Int32 → Int32 → Prop} {LP : en_H → va_W → Prop} {st : Nat} {cx cy : Int32} {fs fs1 : List Value} {e0 : Nat} {af : Nat → Nat}
theorem lw_po (hTY : tys.map Prod.snd = en_TY0) (I : lw_I E LP tys cO cD qx qo qd sh w st cx cy fs) (hLL : lw_LL cL e0 af sh w) : ∃ (cI cZ cR : ClassId) (nh : Nat) (xp x29 : Int32) (pHc pWr pS pO pP pIx pLo : Nat) (qa nn : Nat → Nat), lw_PO tys cL e0 af sh w fs cI cZ cR nh xp x29 pHc pWr pS pO pP pIx pLo qa nn := by
  obtain ⟨⟨h19, h20, h39, h49, mcD, gD, hD1, hD2, hD3⟩, qa, nn, hq, hqne⟩ := hLL
  obtain ⟨cI, ht0⟩ := lw_ty hTY (t := 0) rfl
  obtain ⟨cZ, ht2⟩ := lw_ty hTY (t := 2) rfl
  obtain ⟨cR, ht5⟩ := lw_ty hTY (t := 5) rfl
  have hlen := (lw_m20 I).1
  obtain ⟨xh, f16, b16⟩ := lw_fi I (j := 16) (i := (0, 9, 0, 0)) rfl (by decide)
  obtain ⟨xp, f17, b17⟩ := lw_fi I (j := 17) (i := (0, 6, 0, 0)) rfl (by decide)
  obtain ⟨x29, f29, -⟩ := lw_fi I (j := 29) rfl (by decide)
  obtain ⟨qC, kC, f0⟩ := lw_fr I (j := 0) (k := 21) rfl (by decide)
  obtain ⟨pHc, kHc, f2⟩ := lw_fr I (j := 2) (k := 25) rfl (by decide)
  obtain ⟨pWr, kWr, f7⟩ := lw_fr I (j := 7) (k := 33) rfl (by decide)
  obtain ⟨pS, kS, f8⟩ := lw_fr I (j := 8) (k := 35) rfl (by decide)
  obtain ⟨pO, kO, f9⟩ := lw_fr I (j := 9) (k := 36) rfl (by decide)
  obtain ⟨pP, kP, f10⟩ := lw_fr I (j := 10) (k := 37) rfl (by decide)
  obtain ⟨qD, kD, f12⟩ := lw_fr I (j := 12) (k := 39) rfl (by decide)
  obtain ⟨pIx, kIx, f13⟩ := lw_fr I (j := 13) (k := 40) rfl (by decide)
  obtain ⟨pLo, kLo, f14⟩ := lw_fr I (j := 14) (k := 41) rfl (by decide)
  have eC : qC = 1 := I.hsp.2.2.2.1 qC kC
  subst eC
  have eD : qD = 19 := h39 qD kD
  subst eD
  have b16 : (0 : Int) ≤ xh.toInt ∧ xh.toInt ≤ 9 := b16
  have b17 : (0 : Int) ≤ xp.toInt ∧ xp.toInt ≤ 6 := b17
  have exh : xh = nI xh.toInt.toNat := by
    apply Int32.toInt_inj.mp
    rw [nI_toInt (by omega)]
    omega
  have hwl : w.length = sh.1.length := I.hs.1.1
  have hlt : ∀ {q k : Nat}, sh.1[q]? = some k → q < w.length := fun h => by rw [hwl]; exact (List.getElem?_eq_some_iff.mp h).1
  have hqk : ∀ j, j < 6 → ∃ k, sh.1[qa j]? = some k ∧ (k = 49 ∨ (k = 54 ∧ qa j ≠ 20)) := fun j hj => by
    rcases (hq j hj).2.2 with e | ⟨a, b, -⟩
    · exact ⟨49, by rw [e]; exact h49 j hj, Or.inl rfl⟩
    · exact ⟨54, a, Or.inr ⟨rfl, b⟩⟩
  have hBk : ∀ z, z ∈ lw_BB pIx pLo pP qa → ∃ k, sh.1[z]? = some k ∧ (k = 20 ∨ k = 40 ∨ k = 41 ∨ k = 37 ∨ k = 49 ∨ (k = 54 ∧ z ≠ 20)) := fun z hz => by
    rcases lw_BB_m.mp hz with (rfl | rfl | rfl | rfl) | ⟨j, hj, rfl⟩ | ⟨j, hj, rfl⟩
    · exact ⟨20, I.h20, by simp⟩
    · exact ⟨40, kIx, by simp⟩
    · exact ⟨41, kLo, by simp⟩
    · exact ⟨37, kP, by simp⟩
    · exact ⟨49, h49 j hj, by simp⟩
    · obtain ⟨k, a, b⟩ := hqk j hj
      exact ⟨k, a, by rcases b with b | b <;> simp [b]⟩
  have hok : ∀ {q k : Nat}, sh.1[q]? = some k → ¬ (k = 20 ∨ k = 40 ∨ k = 41 ∨ k = 37 ∨ k = 49 ∨ k = 54) → po_ok w.length (lw_BB pIx pLo pP qa) q := fun {q k} h hk => ⟨hlt h, fun hm => by
    obtain ⟨k9, a, b⟩ := hBk q hm
    have e := Option.some.inj (h.symm.trans a)
    subst e
    apply hk
    rcases b with b | b | b | b | b | b
    · exact Or.inl b
    · exact Or.inr (Or.inl b)
    · exact Or.inr (Or.inr (Or.inl b))
    · exact Or.inr (Or.inr (Or.inr (Or.inl b)))
    · exact Or.inr (Or.inr (Or.inr (Or.inr (Or.inl b))))
    · exact Or.inr (Or.inr (Or.inr (Or.inr (Or.inr b.1))))⟩
  have hok20 : po_ok w.length (lw_BB pIx pLo pP qa) 20 := ⟨hlt h20, fun hm => by
    obtain ⟨k9, a, b⟩ := hBk 20 hm
    have e := Option.some.inj (h20.symm.trans a)
    subst e
    rcases b with b | b | b | b | b | b
    · exact absurd b (by decide)
    · exact absurd b (by decide)
    · exact absurd b (by decide)
    · exact absurd b (by decide)
    · exact absurd b (by decide)
    · exact b.2 rfl⟩
  refine ⟨cI, cZ, cR, xh.toInt.toNat, xp, x29, pHc, pWr, pS, pO, pP, pIx, pLo, qa, nn, ⟨ht0, ht2, ht5⟩, ⟨kP, kIx, kLo⟩, ⟨fun j hj => (hq j hj).2.2, hqne⟩, ⟨hlen, ⟨by rw [← exh]; exact f16, f17, f29⟩, f0, f2, f7, f8, f9, f10, f13, f14, f12⟩, ⟨?_, ?_, ?_, ?_, ?_, ?_, ?_, ?_, mcD, _, gD, hD1, hD2, hD3⟩, b17, by omega, ?_, ?_, ?_, ?_, ?_, ?_⟩
  · obtain ⟨g, a, b⟩ := lw_ar I kC (by decide) ((lw_KT_eq st 21 (by decide) (by decide)).trans rfl) ht5
    refine ⟨g, a, fun i hi => ?_⟩
    obtain ⟨q2, c, d⟩ := b i hi
    obtain ⟨gR, e⟩ := lw_av I c (by decide) ((lw_KT_eq st 22 (by decide) (by decide)).trans rfl) ht0
    exact ⟨_, q2, gR, d, e, hok c (by decide)⟩
  · obtain ⟨g, a, b⟩ := lw_ar I kWr (by decide) ((lw_KT_eq st 33 (by decide) (by decide)).trans rfl) ht5
    refine ⟨g, a, fun i hi => ?_⟩
    obtain ⟨q2, c, d⟩ := b i hi
    obtain ⟨gR, e, -⟩ := lw_ai I c (by decide) ((lw_KT_eq st 34 (by decide) (by decide)).trans rfl) ht0
    exact ⟨_, q2, gR, d, e, hok c (by decide)⟩
  · obtain ⟨g, a, -⟩ := lw_ai I kHc (by decide) ((lw_KT_eq st 25 (by decide) (by decide)).trans rfl) ht0
    exact ⟨g, a, trivial⟩
  · by_cases h0 : st = 0
    · subst h0
      obtain ⟨g, a, b⟩ := lw_ai I kS (by decide) (show (lw_KT 0)[35]? = some (.inr (2, 6, .inl (.inl (0, 0, 0, 0)))) from rfl) ht2
      refine ⟨g, a, fun j hj hn => absurd ?_ hn⟩
      have h9 := b j hj
      apply Int32.toInt_inj.mp
      have e1 : (0 : Int) ≤ (g j).toInt := h9.1
      have e2 : (g j).toInt ≤ 0 := h9.2
      rw [show (0 : Int32).toInt = 0 from rfl]
      omega
    · obtain ⟨g, a, -⟩ := lw_ai I kS (by decide) ((lw_KT35 st h0).trans rfl) ht2
      refine ⟨g, a, fun j hj hn => ?_⟩
      have hb : (16, 1, 9) ∈ lw_B st := by
        rcases lw_stc I.hst with rfl | rfl | rfl | rfl | rfl
        · exact absurd rfl h0
        · decide
        · decide
        · decide
        · decide
      obtain ⟨x, c1, c2, c3⟩ := I.hs.2.2.1 _ hb
      have e9 : x = xh := Value.int.inj (Option.some.inj (c1.symm.trans f16))
      subst e9
      have c2 : (1 : Int) ≤ x.toInt := c2
      omega
  · obtain ⟨g, a, -⟩ := lw_ai I kO (by decide) ((lw_KT_eq st 36 (by decide) (by decide)).trans rfl) ht2
    exact ⟨g, a, trivial⟩
  · obtain ⟨g, a, b⟩ := lw_ai I kP (by decide) ((lw_KT_eq st 37 (by decide) (by decide)).trans rfl) ht2
    exact ⟨g, a, b⟩
  · obtain ⟨g, a, -⟩ := lw_ai I kIx (by decide) ((lw_KT_eq st 40 (by decide) (by decide)).trans rfl) ht0
    exact ⟨g, a, trivial⟩
  · obtain ⟨g, a, -⟩ := lw_ai I kLo (by decide) ((lw_KT_eq st 41 (by decide) (by decide)).trans rfl) ht0
    exact ⟨g, a, trivial⟩
  · intro p hp
    rcases hp with rfl | rfl | rfl | rfl | rfl | rfl | rfl
    · exact hok kC (by decide)
    · exact hok h19 (by decide)
    · exact hok20
    · exact hok kHc (by decide)
    · exact hok kWr (by decide)
    · exact hok kS (by decide)
    · exact hok kO (by decide)
  · intro z hz
    have hz' : z = 0 ∨ z = pIx ∨ z = pLo ∨ z = pP := by simpa using hz
    have hm := lw_BB_m (qa := qa).mpr (Or.inl hz')
    obtain ⟨k, a, -⟩ := hBk z hm
    exact ⟨hm, hlt a⟩
  · exact ⟨lw_k2 kIx kLo (by decide), lw_k2 kIx kP (by decide), lw_k2 kLo kP (by decide), lw_k2 kIx I.h20 (by decide), lw_k2 kLo I.h20 (by decide), lw_k2 kP I.h20 (by decide)⟩
  · intro j hj
    obtain ⟨a1, a2, a3⟩ := hq j hj
    refine ⟨a1.adm rfl (fun z x hz _ => Or.inl hz), a2, ?_, ⟨lw_BB_m.mpr (Or.inr (Or.inl ⟨j, hj, rfl⟩)), lw_BB_m.mpr (Or.inr (Or.inr ⟨j, hj, rfl⟩))⟩, ?_⟩
    · rcases a3 with e | ⟨-, -, x, c⟩
      · rw [e]
        exact a1.nb
      · exact li_nba c
    · obtain ⟨k, c, d⟩ := hqk j hj
      exact lw_k2 c I.h20 (by rcases d with d | d <;> omega)
  · intro j hj z hz hm
    have hz' : z = 0 ∨ z = pIx ∨ z = pLo ∨ z = pP := by simpa using hz
    have hk : ∃ k, sh.1[z]? = some k ∧ (k = 20 ∨ k = 40 ∨ k = 41 ∨ k = 37) := by
      rcases hz' with rfl | rfl | rfl | rfl
      · exact ⟨20, I.h20, by simp⟩
      · exact ⟨40, kIx, by simp⟩
      · exact ⟨41, kLo, by simp⟩
      · exact ⟨37, kP, by simp⟩
    obtain ⟨k, a, b⟩ := hk
    have hm' : z = 21 + j ∨ z = qa j := by simpa using hm
    rcases hm' with e | e
    · rw [e] at a
      have := Option.some.inj (a.symm.trans (h49 j hj))
      omega
    · rw [e] at a
      obtain ⟨k9, c, d⟩ := hqk j hj
      have := Option.some.inj (a.symm.trans c)
      omega
  · intro j hj
    obtain ⟨k, c, -⟩ := hqk j hj
    exact hlt c
end

/-- the lists, and class and reference side by side -/
def lw_LR (tys : List (ClassId × FieldType)) (cL : ClassId) (e0 : Nat) (af : Nat → Nat) (qx qo qd : Nat) (sh : en_H) (w : va_W) : Prop := lw_LL cL e0 af sh w ∧ kx_R tys sh w ∧ qx = 66 ∧ qo = 138 ∧ qd = 139
theorem lw_LR_st {tys : List (ClassId × FieldType)} {cL : ClassId} {e0 qx qo qd : Nat} {af : Nat → Nat} : lw_st (lw_LR tys cL e0 af qx qo qd) := fun tk md sh sh' w w' hg hF hm ⟨h1, h2, h3⟩ => ⟨lw_LL_st tk md sh sh' w w' hg hF hm h1, h2.st hF hg fun z hz => (hm z hz).2, h3⟩
