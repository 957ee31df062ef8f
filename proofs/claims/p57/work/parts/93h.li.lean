/-! post: what it reads -/
def po_ok (L : Nat) (B : List Nat) (p : Nat) : Prop := p < L ∧ p ∉ B
def po_row (w : va_W) (L : Nat) (B : List Nat) (cR cI : ClassId) (p a n k : Nat) : Prop := ∃ g : Nat → Option Nat, w[p]? = some (a, .inl (cR, n, .inr (.inr (.inr (.inr g))))) ∧ ∀ i, i < n → ∃ (rw9 q9 : Nat) (gR : Nat → Int32), g i = some rw9 ∧ w[q9]? = some (rw9, .inl (cI, k, .inl gR)) ∧ po_ok L B q9
def po_arr (w : va_W) (cI : ClassId) (p a : Nat) (P : (Nat → Int32) → Prop) : Prop := ∃ g : Nat → Int32, w[p]? = some (a, .inl (cI, 6, .inl g)) ∧ P g
def po_out (w : va_W) (cL : ClassId) (aD : Nat) (la : Nat → Nat) : Prop := ∃ (mc : Int32) (aD2 : Nat) (gD : Nat → Option Nat), w[19]? = some (aD, .inr (5, [.int mc, .ref aD2, .int 6])) ∧ w[20]? = some (aD2, .inl (cL, 10, .inr (.inr (.inr (.inr gD))))) ∧ ∀ j, j < 6 → gD j = some (la j)
/-- the fields -/
def po_fs (fs : List Value) (nh : Nat) (xp x29 : Int32) (aC aHc aWr aS aO aP aIx aLo aD : Nat) : Prop := fs.length = 31 ∧ (fs[16]? = some (.int (nI nh)) ∧ fs[17]? = some (.int xp) ∧ fs[29]? = some (.int x29)) ∧ (fs[0]? = some (.ref aC) ∧ fs[2]? = some (.ref aHc) ∧ fs[7]? = some (.ref aWr) ∧ fs[8]? = some (.ref aS) ∧ fs[9]? = some (.ref aO) ∧ fs[10]? = some (.ref aP) ∧ fs[13]? = some (.ref aIx) ∧ fs[14]? = some (.ref aLo) ∧ fs[12]? = some (.ref aD))
/-- the cells -/
def po_c (w : va_W) (L : Nat) (B : List Nat) (cL cI cZ cR : ClassId) (nh : Nat) (aC aHc aWr aS aO aP aIx aLo aD pHc pWr pS pO pP pIx pLo : Nat) (la : Nat → Nat) : Prop := po_row w L B cR cI 1 aC 9 7 ∧ po_row w L B cR cI pWr aWr 6 9 ∧ po_arr w cI pHc aHc (fun _ => True) ∧ po_arr w cZ pS aS (fun g => ∀ j, j < 6 → ¬ g j = 0 → 1 ≤ nh) ∧ po_arr w cZ pO aO (fun _ => True) ∧ po_arr w cZ pP aP (fun g => ∀ j, j < 6 → 0 ≤ (g j).toInt ∧ (g j).toInt ≤ 1) ∧ po_arr w cI pIx aIx (fun _ => True) ∧ po_arr w cI pLo aLo (fun _ => True) ∧ po_out w cL aD la
def po_B (L : Nat) (B : List Nat) (pHc pWr pS pO : Nat) : Prop := ∀ p, p = 1 ∨ p = 19 ∨ p = 20 ∨ p = pHc ∨ p = pWr ∨ p = pS ∨ p = pO → po_ok L B p
section
variable {w w1 : va_W} {L : Nat} {B qs : List Nat} {cL cI cZ cR : ClassId} {nh : Nat} {xp x29 : Int32} {aC aHc aWr aS aO aP aIx aLo aD pHc pWr pS pO pP pIx pLo : Nat} {la : Nat → Nat} {fs fs1 : List Value}
theorem po_fs.st (h : po_fs fs nh xp x29 aC aHc aWr aS aO aP aIx aLo aD) (h1 : ∀ j, j ≠ 30 → fs1[j]? = fs[j]?) (h2 : fs1.length = fs.length) : po_fs fs1 nh xp x29 aC aHc aWr aS aO aP aIx aLo aD := by
  obtain ⟨a0, ⟨a1, a2, a3⟩, b1, b2, b3, b4, b5, b6, b7, b8, b9⟩ := h
  exact ⟨h2.trans a0, ⟨(h1 16 (by decide)).trans a1, (h1 17 (by decide)).trans a2, (h1 29 (by decide)).trans a3⟩, (h1 0 (by decide)).trans b1, (h1 2 (by decide)).trans b2, (h1 7 (by decide)).trans b3, (h1 8 (by decide)).trans b4, (h1 9 (by decide)).trans b5, (h1 10 (by decide)).trans b6, (h1 13 (by decide)).trans b7, (h1 14 (by decide)).trans b8, (h1 12 (by decide)).trans b9⟩
theorem po_row.st {p a n k : Nat} (h : po_row w L B cR cI p a n k) (hR : li_R w w1 qs) (hq : ∀ p, po_ok L B p → p ∉ qs) (hp : po_ok L B p) : po_row w1 L B cR cI p a n k := by
  obtain ⟨g, h1, h2⟩ := h
  refine ⟨g, hR.at h1 (hq p hp), fun i hi => ?_⟩
  obtain ⟨rw9, q9, gR, a1, a2, a3⟩ := h2 i hi
  exact ⟨rw9, q9, gR, a1, hR.at a2 (hq q9 a3), a3⟩
theorem po_arr.st {P : (Nat → Int32) → Prop} {p a : Nat} (h : po_arr w cI p a P) (hR : li_R w w1 qs) (hp : p ∉ qs) : po_arr w1 cI p a P := by
  obtain ⟨g, h1, h2⟩ := h
  exact ⟨g, hR.at h1 hp, h2⟩
theorem po_c.st (h : po_c w L B cL cI cZ cR nh aC aHc aWr aS aO aP aIx aLo aD pHc pWr pS pO pP pIx pLo la) (hB : po_B L B pHc pWr pS pO) (hR : li_R w w1 qs) (hq : ∀ p, po_ok L B p → p ∉ qs) (hI : pP ∉ qs ∧ pIx ∉ qs ∧ pLo ∉ qs) : po_c w1 L B cL cI cZ cR nh aC aHc aWr aS aO aP aIx aLo aD pHc pWr pS pO pP pIx pLo la := by
  obtain ⟨c1, c2, c3, c4, c5, c6, c7, c8, mc, aD2, gD, d1, d2, d3⟩ := h
  exact ⟨c1.st hR hq (hB 1 (by simp)), c2.st hR hq (hB pWr (by simp)), c3.st hR (hq _ (hB pHc (by simp))), c4.st hR (hq _ (hB pS (by simp))), c5.st hR (hq _ (hB pO (by simp))), c6.st hR hI.1, c7.st hR hI.2.1, c8.st hR hI.2.2, mc, aD2, gD, hR.at d1 (hq _ (hB 19 (by simp))), hR.at d2 (hq _ (hB 20 (by simp))), d3⟩
/-- a number of an array changed -/
theorem po_arr.up {P : (Nat → Int32) → Prop} {p a i : Nat} {x : Int32} {g : Nat → Int32} (h1 : w1[p]? = some (a, .inl (cI, 6, .inl (va_up g i x)))) (h : P (va_up g i x)) : po_arr w1 cI p a P := ⟨_, h1, h⟩
end
theorem li_R.qb {w w2 w3 : va_W} {q qa qb : Nat} (h : li_R w w2 [q, qa]) (g : li_R w2 w3 [q, qb]) (hqb : qb = qa ∨ w.length ≤ qb) : li_R w w3 [q, qa] := ⟨Nat.le_trans h.1 g.1, fun j hj hn => (g.2.1 j (Nat.lt_of_lt_of_le hj h.1) (by simp at hn ⊢; omega)).trans (h.2.1 j hj hn), fun j x hx => by
  obtain ⟨x1, a, b⟩ := h.2.2 j x hx
  obtain ⟨x2, c, d⟩ := g.2.2 j x1 a
  exact ⟨x2, c, d.1.trans b.1, b.2.tr d.2⟩⟩
/-- what post leaves -/
def po_Q (w : va_W) (am : Nat) (fs : List Value) (pIx pLo pP e0 : Nat) (cL : ClassId) (ad : li_ad) (la qa : Nat → Nat) (C : va_W → Prop) (w1 : va_W) : Prop := (∃ fs1, w1[0]? = some (am, .inr (13, fs1)) ∧ (∀ j, j ≠ 30 → fs1[j]? = fs[j]?) ∧ fs1.length = fs.length ∧ ∃ t, fs1[30]? = some (.int t)) ∧ C w1 ∧ ∃ j0 qb m' : Nat, j0 < 6 ∧ m' ≤ 20 ∧ li_L w1 (21 + j0) qb (la j0) e0 cL ad m' ∧ (qb = qa j0 ∨ w.length ≤ qb) ∧ li_R w w1 [0, pIx, pLo, pP, 21 + j0, qa j0]
/-- the lists before -/
def po_L (w : va_W) (B : List Nat) (e0 : Nat) (cL : ClassId) (ad : li_ad) (la qa nn : Nat → Nat) : Prop := ∀ j, j < 6 → li_L w (21 + j) (qa j) (la j) e0 cL ad (nn j) ∧ nn j ≤ 20 ∧ li_nb w (qa j) ∧ (21 + j ∈ B ∧ qa j ∈ B) ∧ qa j ≠ 0
theorem po_nb0 {w : va_W} {am : Nat} {fs : List Value} (hm : w[0]? = some (am, .inr (13, fs))) : ∀ z ∈ [0], li_nb w z := fun z hz => by
  rw [List.mem_singleton.mp hz]
  intro y v h9
  have e := (Prod.mk.inj (Option.some.inj (hm.symm.trans h9))).2
  have e1 := (Prod.mk.inj (Sum.inr.inj e)).1
  exact absurd e1 (by decide)
/-- thrown: nothing else has changed -/
theorem po_ret {w w1 : va_W} {B : List Nat} {am pIx pLo pP e0 : Nat} {fs fs1 : List Value} {cL : ClassId} {ad : li_ad} {la qa nn : Nat → Nat} {C : va_W → Prop} (hm : w[0]? = some (am, .inr (13, fs))) (hLs : po_L w B e0 cL ad la qa nn) (hR : li_R w w1 [0]) (hm1 : w1[0]? = some (am, .inr (13, fs1))) (h1 : ∀ j, j ≠ 30 → fs1[j]? = fs[j]?) (h2 : fs1.length = fs.length) (h3 : ∃ t, fs1[30]? = some (.int t)) (hC : C w1) : po_Q w am fs pIx pLo pP e0 cL ad la qa C w1 := by
  obtain ⟨a1, a2, a3, a4, a5⟩ := hLs 0 (by decide)
  exact ⟨⟨fs1, hm1, h1, h2, h3⟩, hC, 0, qa 0, nn 0, by decide, a2, a1.st hR (po_nb0 hm) (by simp) (by simp; exact a5), Or.inl rfl, hR.mono (by simp)⟩
