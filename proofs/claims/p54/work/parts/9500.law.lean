/-! the invariant behind a method of the lists -/
def lw_mdL : List (Nat × Nat) := [(20, 30), (40, 0), (41, 0), (37, 0), (49, 0), (49, 1), (49, 2), (54, 0)]
/-- the shape, grown by what was made -/
def lw_shG (sh : en_H) (w w1 : va_W) : en_H := (sh.1 ++ List.replicate (w1.length - w.length) 54, fun q => if q < w.length then sh.2 q else ((w1[q]?).map Prod.fst).getD 0)
theorem lw_shG_g {sh : en_H} {w w1 : va_W} (h : w.length = sh.1.length) : en_Gr [54] sh (lw_shG sh w w1) := ⟨⟨_, rfl, fun k hk => by rw [List.eq_of_mem_replicate hk]; exact ⟨by simp, by decide⟩⟩, fun q hq => if_pos (by rw [h]; exact hq)⟩
theorem lw_shG_n {sh : en_H} {w w1 : va_W} (h : w.length = sh.1.length) {q : Nat} {x : Nat × va_E} (hq : w.length ≤ q) (hx : w1[q]? = some x) : (lw_shG sh w w1).1[q]? = some 54 ∧ (lw_shG sh w w1).2 q = x.1 := by
  have hlt := (List.getElem?_eq_some_iff.mp hx).1
  constructor
  · show (sh.1 ++ List.replicate (w1.length - w.length) 54)[q]? = some 54
    rw [List.getElem?_append_right (by omega), List.getElem?_replicate, if_pos (by omega)]
  · show (if q < w.length then sh.2 q else ((w1[q]?).map Prod.fst).getD 0) = x.1
    rw [if_neg (by omega), hx]
    rfl
section
variable {tys : List (ClassId × FieldType)} {cO cD cL : ClassId} {sh : en_H} {w w1 : va_W} {qx qo qd : Nat} {E : Int32 → Int32 → Prop} {st : Nat} {cx cy : Int32} {fs fs1 : List Value} {e0 am ax ao ad : Nat} {af : Nat → Nat}
variable {cI cZ cR : ClassId} {nh : Nat} {xp x29 : Int32} {pHc pWr pS pO pP pIx pLo : Nat} {qa nn : Nat → Nat}
theorem lw_bkL (I : lw_I E (lw_LA (lw_LR tys cL e0 af qx qo qd) am ax ao ad qx qo qd) tys cO cD qx qo qd sh w st cx cy fs) (hPO : lw_PO tys cL e0 af sh w fs cI cZ cR nh xp x29 pHc pWr pS pO pP pIx pLo qa nn) (hQ : po_Q w (sh.2 0) fs pIx pLo pP e0 cL (af, fun q => lw_k54 sh w q ∨ w.length ≤ q) (fun j => sh.2 (21 + j)) qa (fun w1 => po_c w1 w.length (lw_BB pIx pLo pP qa) cL cI cZ cR nh (sh.2 1) (sh.2 pHc) (sh.2 pWr) (sh.2 pS) (sh.2 pO) (sh.2 pP) (sh.2 pIx) (sh.2 pLo) (sh.2 19) pHc pWr pS pO pP pIx pLo (fun j => sh.2 (21 + j))) w1) : ∃ (sh' : en_H) (fs1 : List Value), lw_I E (lw_LA (lw_LR tys cL e0 af qx qo qd) am ax ao ad qx qo qd) tys cO cD qx qo qd sh' w1 st cx cy fs1 := by
  obtain ⟨⟨fs1, m1, m2, m3, t30, m4⟩, hC, j0, qb, m', hj0, hm', hL', hqb, hR⟩ := hQ
  obtain ⟨⟨ht0, ht2, ht5⟩, ⟨kP, kIx, kLo⟩, ⟨hqa, hqne⟩, hf, hc, -, -, -, -, -, hLs, -, hqw⟩ := hPO
  obtain ⟨⟨⟨⟨h19, h20, h39, h49, -⟩, -⟩, hRR, hq3⟩, hLA⟩ := I.hl
  have hwl : w.length = sh.1.length := I.hs.1.1
  have hlt : ∀ {q k : Nat}, sh.1[q]? = some k → q < w.length := fun h => by rw [hwl]; exact (List.getElem?_eq_some_iff.mp h).1
  have hle := hR.1
  generalize hw9 : w1.take w.length = w'
  have hw' : ∀ q, q < w.length → w'[q]? = w1[q]? := fun q hq => by rw [← hw9, List.getElem?_take, if_pos hq]
  have hwl' : w'.length = w.length := by rw [← hw9, List.length_take]; omega
  have hqk : sh.1[qa j0]? = some 49 ∧ qa j0 = 21 + j0 ∨ sh.1[qa j0]? = some 54 := by
    rcases hqa j0 hj0 with e | ⟨a, -, -⟩
    · exact Or.inl ⟨by rw [e]; exact h49 j0 hj0, e⟩
    · exact Or.inr a
  have hnq : ∀ q k, sh.1[q]? = some k → k ≠ 20 → k ≠ 49 → k ≠ 54 → q ≠ pIx → q ≠ pLo → q ≠ pP → q ∉ [0, pIx, pLo, pP, 21 + j0, qa j0] := fun q k h a b c d1 d2 d3 hm => by
    have hm' : q = 0 ∨ q = pIx ∨ q = pLo ∨ q = pP ∨ q = 21 + j0 ∨ q = qa j0 := by simpa using hm
    rcases hm' with e | e | e | e | e | e
    · exact lw_k2 h I.h20 a e
    · exact d1 e
    · exact d2 e
    · exact d3 e
    · exact lw_k2 h (h49 j0 hj0) b e
    · rcases hqk with ⟨x, -⟩ | x
      · exact lw_k2 h x b e
      · exact lw_k2 h x c e
  have hnqk : ∀ q k, sh.1[q]? = some k → k ≠ 20 → k ≠ 49 → k ≠ 54 → k ≠ 40 → k ≠ 41 → k ≠ 37 → q ∉ [0, pIx, pLo, pP, 21 + j0, qa j0] := fun q k h a b c d1 d2 d3 => hnq q k h a b c (lw_k2 h kIx d1) (lw_k2 h kLo d2) (lw_k2 h kP d3)
  have e20 : ∀ q, sh.1[q]? = some 20 → q = 0 := (I.hO cx cy).2.2
  obtain ⟨-, -, -, -, -, ⟨gP, gP1, gP2⟩, ⟨gIx, gIx1, -⟩, ⟨gLo, gLo1, -⟩, -⟩ := hc
  obtain ⟨-, -, -, -, -, ⟨dP, dP1, dP2⟩, ⟨dIx, dIx1, -⟩, ⟨dLo, dLo1, -⟩, -⟩ := hC
  have hsame : ∀ q e, w[q]? = some (sh.2 q, e) → q ∉ [0, pIx, pLo, pP, 21 + j0, qa j0] → w1[q]? = some (sh.2 q, e) := fun q e h hn => hR.at h hn
  have hex : ∀ q e, w[q]? = some (sh.2 q, e) → ∃ e1, w1[q]? = some (sh.2 q, e1) ∧ li_sh e e1 := fun q e h => by
    obtain ⟨⟨a1, e1⟩, b1, b2, b3⟩ := hR.2.2 q _ h
    have b2 : a1 = sh.2 q := b2
    subst b2
    exact ⟨e1, b1, b3⟩
  have hpx : en_Px tys (en_Pc cx cy) en_KT [20, 37, 40, 41] lw_mdL sh w (sh, w') := by
    refine ⟨en_Gr.rf, ⟨hwl'.trans hwl, fun q k hq => ?_⟩, fun q k e hq hw => ?_⟩
    · obtain ⟨e, a, -⟩ := I.hs.1.2 q k hq
      obtain ⟨e1, b1, b3⟩ := hex q e a
      refine ⟨e1, by rw [hw' q (hlt hq)]; exact b1, fun hk _ => ?_⟩
      have unch : k < 49 ∧ k ≠ 39 ∧ k ≠ 46 → k ≠ 27 → k ≠ 35 → q ∉ [0, pIx, pLo, pP, 21 + j0, qa j0] → ∃ kd, en_KT[k]? = some kd ∧ en_C (en_Pc cx cy) sh tys kd e1 := fun h1 h2 h3 h4 => by
        obtain ⟨e9, kd, c1, c2, c3⟩ := lw_cell I hq h1
        have ee : e1 = e9 := (Prod.mk.inj (Option.some.inj (b1.symm.trans (hsame q e9 c1 h4)))).2
        rw [ee]
        exact ⟨kd, (lw_KT_eq st k h2 h3).symm.trans c2, c3⟩
      have hk' : k = 20 ∨ k = 37 ∨ k = 40 ∨ k = 41 := by simpa using hk
      rcases hk' with rfl | rfl | rfl | rfl
      · have e9 := e20 q hq
        subst e9
        have ee : e1 = .inr (13, fs1) := (Prod.mk.inj (Option.some.inj (b1.symm.trans m1))).2
        subst ee
        refine ⟨.inl (13, lw_k20), rfl, rfl, m3.trans (lw_m20 I).1, fun j t v h1 h2 => ?_⟩
        by_cases e30 : j = 30
        · subst e30
          have et : t = .inl ((-2147483648), 2147483647, 0, 0) := Option.some.inj (h1.symm.trans rfl)
          have ev : v = .int t30 := Option.some.inj (h2.symm.trans m4)
          rw [et, ev]
          exact ⟨t30, rfl, en_lo t30, en_hi t30⟩
        · exact (lw_m20 I).2 j t v h1 (by rw [← m2 j e30]; exact h2)
      · by_cases e9 : q = pP
        · subst e9
          have ee := (Prod.mk.inj (Option.some.inj (b1.symm.trans dP1))).2
          rw [ee]
          exact ⟨_, rfl, by rw [ht2]; rfl, rfl, dP2⟩
        · exact unch (by decide) (by decide) (by decide) (hnq q 37 hq (by decide) (by decide) (by decide) (lw_k2 hq kIx (by decide)) (lw_k2 hq kLo (by decide)) e9)
      · by_cases e9 : q = pIx
        · subst e9
          have ee := (Prod.mk.inj (Option.some.inj (b1.symm.trans dIx1))).2
          rw [ee]
          exact ⟨_, rfl, by rw [ht0]; rfl, rfl, fun j _ => ⟨en_lo _, en_hi _⟩⟩
        · exact unch (by decide) (by decide) (by decide) (hnq q 40 hq (by decide) (by decide) (by decide) e9 (lw_k2 hq kLo (by decide)) (lw_k2 hq kP (by decide)))
      · by_cases e9 : q = pLo
        · subst e9
          have ee := (Prod.mk.inj (Option.some.inj (b1.symm.trans dLo1))).2
          rw [ee]
          exact ⟨_, rfl, by rw [ht0]; rfl, rfl, fun j _ => ⟨en_lo _, en_hi _⟩⟩
        · exact unch (by decide) (by decide) (by decide) (hnq q 41 hq (by decide) (by decide) (by decide) (lw_k2 hq kIx (by decide)) e9 (lw_k2 hq kP (by decide)))
    · obtain ⟨e1, b1, b3⟩ := hex q e hw
      refine ⟨e1, by show w'[q]? = _; rw [hw' q (hlt hq)]; exact b1, ?_⟩
      have harr : ∀ x, e = .inl x → (k, 0) ∈ lw_mdL → en_Fc lw_mdL k e e1 := fun x hx hm => by
        subst hx
        rcases e1 with x1 | o1
        · exact ⟨b3.1, b3.2, fun h => absurd hm h⟩
        · exact b3.elim
      by_cases hm : q ∈ [0, pIx, pLo, pP, 21 + j0, qa j0]
      · have hm' : q = 0 ∨ q = pIx ∨ q = pLo ∨ q = pP ∨ q = 21 + j0 ∨ q = qa j0 := by simpa using hm
        have h21 : q = 21 + j0 → en_Fc lw_mdL k e e1 := fun e9 => by
          subst e9
          have ek : k = 49 := Option.some.inj (hq.symm.trans (h49 j0 hj0))
          subst ek
          obtain ⟨f, ⟨mc, ra, a1, -⟩, -⟩ := (hLs j0 hj0).1
          have ee := (Prod.mk.inj (Option.some.inj (hw.symm.trans a1))).2
          subst ee
          rcases e1 with x1 | o1
          · exact b3.elim
          refine ⟨b3.1, b3.2, fun j hj => ?_⟩
          have hl9 : o1.2.length = 3 := b3.2
          match j, hj with
          | 0, hj => exact absurd (by decide) hj
          | 1, hj => exact absurd (by decide) hj
          | 2, hj => exact absurd (by decide) hj
          | n + 3, _ => rw [List.getElem?_eq_none (by omega), List.getElem?_eq_none (Nat.le_add_left 3 n)]
        rcases hm' with e9 | e9 | e9 | e9 | e9 | e9
        · subst e9
          have ek : k = 20 := Option.some.inj (hq.symm.trans I.h20)
          subst ek
          have ee := (Prod.mk.inj (Option.some.inj (hw.symm.trans I.hs.2.1))).2
          have ee1 := (Prod.mk.inj (Option.some.inj (b1.symm.trans m1))).2
          subst ee
          subst ee1
          exact ⟨rfl, m3, fun j hj => m2 j fun e => hj (by rw [e]; decide)⟩
        · subst e9
          have ek : k = 40 := Option.some.inj (hq.symm.trans kIx)
          subst ek
          exact harr _ (Prod.mk.inj (Option.some.inj (hw.symm.trans gIx1))).2 (by decide)
        · subst e9
          have ek : k = 41 := Option.some.inj (hq.symm.trans kLo)
          subst ek
          exact harr _ (Prod.mk.inj (Option.some.inj (hw.symm.trans gLo1))).2 (by decide)
        · subst e9
          have ek : k = 37 := Option.some.inj (hq.symm.trans kP)
          subst ek
          exact harr _ (Prod.mk.inj (Option.some.inj (hw.symm.trans gP1))).2 (by decide)
        · exact h21 e9
        · rcases hqa j0 hj0 with e8 | ⟨a, -, x, c⟩
          · exact h21 (e9.trans e8)
          · subst e9
            have ek : k = 54 := Option.some.inj (hq.symm.trans a)
            subst ek
            exact harr _ (Prod.mk.inj (Option.some.inj (hw.symm.trans c))).2 (by decide)
      · have ee := (Prod.mk.inj (Option.some.inj (b1.symm.trans (hsame q e hw hm)))).2
        rw [ee]
        exact en_Fc.rf e
  have hm9 : w'[0]? = some (sh.2 0, .inr (13, fs1)) := by rw [hw' 0 (hlt I.h20)]; exact m1
  have hqt : lw_qt st lw_mdL [20, 37, 40, 41] = true := by
    rcases lw_stc I.hst with rfl | rfl | rfl | rfl | rfl <;> decide
  have S : lw_S tys st cx cy sh w' fs1 := lw_q I.h20 I.hlen (I.hO cx cy) I.hs hpx hqt hm9 (fun h3 => lw_ahq I.h28 I.h20 I.hs.2.1 hpx hm9 ⟨by decide, by decide⟩ (I.hs.2.2.2.2 h3).2.2 (fun h => (m2 28 (by decide)).trans h) (lw_w18 I))
  have g := lw_shG_g (sh := sh) (w := w) (w1 := w1) hwl
  have hnew := fun {q : Nat} {x : Nat × va_E} (h1 : w.length ≤ q) (h2 : w1[q]? = some x) => lw_shG_n (sh := sh) hwl h1 h2
  generalize hsh' : lw_shG sh w w1 = sh' at g hnew
  have hl1 : sh'.1.length = w1.length := by rw [← hsh']; show (sh.1 ++ List.replicate (w1.length - w.length) 54).length = _; rw [List.length_append, List.length_replicate]; omega
  have hF1 : en_F [] sh w' w1 := fun q k e hq hw => ⟨e, by rw [← hw' q (hlt hq)]; exact hw, en_Fc.rf e⟩
  have hat : ∀ q k e, sh.1[q]? = some k → w1[q]? = some (sh.2 q, e) → w1[q]? = some (sh'.2 q, e) := fun q k e hq hw => by rw [(g.at hq).2]; exact hw
  have hkeep : ∀ q k e, sh.1[q]? = some k → k ≠ 20 → k ≠ 49 → k ≠ 54 → k ≠ 40 → k ≠ 41 → k ≠ 37 → w[q]? = some (sh.2 q, e) → w1[q]? = some (sh'.2 q, e) := fun q k e h a b c d1 d2 d3 hw => hat q k e h (hsame q e hw (hnqk q k h a b c d1 d2 d3))
  have hS : lw_S tys st cx cy sh' w1 fs1 := by
    refine ⟨⟨hl1.symm, fun q k hq => ?_⟩, by rw [(g.at I.h20).2]; exact m1, S.2.2.1, ((I.hO cx cy).1 1 [] [] sh w' w1 en_Gr.rf (fun z hz => absurd hz List.not_mem_nil) hF1 ⟨lw_ad S.1 I.h20 I.hlen, S.2.2.2.1⟩).2, fun h3 => ?_⟩
    · by_cases hq9 : q < w.length
      · have hq' : sh.1[q]? = some k := by
          have hlt2 : q < sh.1.length := by omega
          have h9 := (g.at (List.getElem?_eq_getElem hlt2)).1
          rw [List.getElem?_eq_getElem hlt2, ← Option.some.inj (hq.symm.trans h9)]
        obtain ⟨e, a, b⟩ := S.1.2 q k hq'
        refine ⟨e, hat q k e hq' (by rw [← hw' q hq9]; exact a), fun hk hx => ?_⟩
        obtain ⟨kd, c, d⟩ := b hk hx
        exact ⟨kd, c, d.gr g⟩
      · have hlt2 : q < w1.length := by rw [← hl1]; exact (List.getElem?_eq_some_iff.mp hq).1
        have h9 := List.getElem?_eq_getElem hlt2
        obtain ⟨a, b⟩ := hnew (Nat.not_lt.mp hq9) h9
        refine ⟨(w1[q]).2, by rw [b]; exact h9, fun hk => ?_⟩
        have ek := Option.some.inj (hq.symm.trans a)
        subst ek
        exact absurd (lw_lTK hk) (by decide)
    · obtain ⟨c1, c2, c3⟩ := S.2.2.2.2 h3
      refine ⟨c1, ((I.hO cx cy).1 0 [] [] sh w' w1 en_Gr.rf (fun z hz => absurd hz List.not_mem_nil) hF1 ⟨lw_ad S.1 I.h20 I.hlen, c2⟩).2, ?_⟩
      rcases c3 with ⟨a, cA, n, g9, a1, a2, a3⟩ | c3
      · exact Or.inl ⟨a, cA, n, g9, a1, by rw [← hw' 18 (hlt I.h28)]; exact a2, a3⟩
      · exact Or.inr c3
  refine ⟨sh', fs1, lw_ag g I.h20, ⟨lw_ag g I.h28, lw_ag g I.h26⟩, fun q hq => I.h27 q (lw_new g (by decide) hq), fun j hj => lw_ag g (I.h27b j hj), lw_spg g I.hsp, ?_, fun q hq => I.h28u q (lw_new g (by decide) hq), lw_ag g I.hx, lw_ag g I.ho, lw_ag g I.hd, fun a b => (I.hO a b).gr g, I.hst, ?_, ?_, ?_, ⟨⟨?_, (hRR.st hpx.2.2 (en_Gr.rf (tk := [])) (by decide)).st hF1 g (fun z hz => absurd hz List.not_mem_nil), hq3⟩, ?_⟩, hS⟩
  · obtain ⟨cA, f, h1, h2⟩ := I.hcr
    exact ⟨cA, f, hkeep 1 21 _ I.hsp.2.2.2.2 (by decide) (by decide) (by decide) (by decide) (by decide) (by decide) h1, fun j hj => by rw [(g.at (I.hsp.1 j hj)).2]; exact h2 j hj⟩
  · obtain ⟨g9, h⟩ := I.hwo
    exact ⟨g9, hkeep qo 56 _ I.ho (by decide) (by decide) (by decide) (by decide) (by decide) (by decide) h⟩
  · obtain ⟨g9, h⟩ := I.hwd
    exact ⟨g9, hkeep qd 57 _ I.hd (by decide) (by decide) (by decide) (by decide) (by decide) (by decide) h⟩
  · obtain ⟨fx, v, v9, h1, h2, h3, h4⟩ := I.hed
    exact ⟨fx, v, v9, hkeep qx 0 _ I.hx (by decide) (by decide) (by decide) (by decide) (by decide) (by decide) h1, trivial, trivial, h4⟩
  · obtain ⟨⟨⟨⟨-, -, -, -, mcD, gD, hD1, hD2, hD3⟩, -⟩, -, -⟩, -⟩ := I.hl
    have hn20 : (20 : Nat) ∉ [0, pIx, pLo, pP, 21 + j0, qa j0] := fun hm => by
      have hm' : 20 = 0 ∨ 20 = pIx ∨ 20 = pLo ∨ 20 = pP ∨ 20 = 21 + j0 ∨ 20 = qa j0 := by simpa using hm
      rcases hm' with e | e | e | e | e | e
      · omega
      · exact lw_k2 h20 kIx (by decide) e
      · exact lw_k2 h20 kLo (by decide) e
      · exact lw_k2 h20 kP (by decide) e
      · omega
      · rcases hqa j0 hj0 with e8 | ⟨-, b, -⟩
        · omega
        · exact b e.symm
    have had : ∀ z x, (lw_k54 sh w z ∨ w.length ≤ z) → w1[z]? = some x → lw_k54 sh' w1 z := fun z x h hx => by
      rcases h with ⟨a, e, b⟩ | h
      · obtain ⟨e1, c1, -⟩ := hex z e b
        exact ⟨(g.at a).1, e1, hat z 54 e1 a c1⟩
      · obtain ⟨a, b⟩ := hnew h hx
        exact ⟨a, x.2, by rw [b]; exact hx⟩
    have hnb : ∀ z ∈ [0, pIx, pLo, pP, 21 + j0, qa j0], li_nb w z := fun z hz => by
      have hm' : z = 0 ∨ z = pIx ∨ z = pLo ∨ z = pP ∨ z = 21 + j0 ∨ z = qa j0 := by simpa using hz
      rcases hm' with rfl | rfl | rfl | rfl | rfl | rfl
      · exact po_nb0 I.hs.2.1 _ (by simp)
      · exact li_nba gIx1
      · exact li_nba gLo1
      · exact li_nba gP1
      · exact (hLs j0 hj0).1.nb
      · exact (hLs j0 hj0).2.2.1
    have hq21 : ∀ i, i < 6 → i ≠ j0 → 21 + i ∉ [0, pIx, pLo, pP, 21 + j0, qa j0] ∧ qa i ∉ [0, pIx, pLo, pP, 21 + j0, qa j0] := fun i hi hne => by
      have ki : sh.1[qa i]? = some 49 ∧ qa i = 21 + i ∨ sh.1[qa i]? = some 54 := by
        rcases hqa i hi with e | ⟨a, -, -⟩
        · exact Or.inl ⟨by rw [e]; exact h49 i hi, e⟩
        · exact Or.inr a
      constructor
      · intro hm
        have hm' : 21 + i = 0 ∨ 21 + i = pIx ∨ 21 + i = pLo ∨ 21 + i = pP ∨ 21 + i = 21 + j0 ∨ 21 + i = qa j0 := by simpa using hm
        rcases hm' with e | e | e | e | e | e
        · omega
        · exact lw_k2 (h49 i hi) kIx (by decide) e
        · exact lw_k2 (h49 i hi) kLo (by decide) e
        · exact lw_k2 (h49 i hi) kP (by decide) e
        · omega
        · rcases hqk with ⟨-, x⟩ | x
          · omega
          · exact lw_k2 (h49 i hi) x (by decide) e
      · intro hm
        have hm' : qa i = 0 ∨ qa i = pIx ∨ qa i = pLo ∨ qa i = pP ∨ qa i = 21 + j0 ∨ qa i = qa j0 := by simpa using hm
        have hk2 : ∀ {q k : Nat}, sh.1[q]? = some k → k ≠ 49 → k ≠ 54 → qa i ≠ q := fun h h1 h2 => by
          rcases ki with ⟨x, -⟩ | x
          · exact lw_k2 x h h1.symm
          · exact lw_k2 x h h2.symm
        rcases hm' with e | e | e | e | e | e
        · exact hk2 I.h20 (by decide) (by decide) e
        · exact hk2 kIx (by decide) (by decide) e
        · exact hk2 kLo (by decide) (by decide) e
        · exact hk2 kP (by decide) (by decide) e
        · rcases ki with ⟨-, x⟩ | x
          · omega
          · exact lw_k2 x (h49 j0 hj0) (by decide) e
        · exact hqne i j0 hi hj0 hne e
    have hqaR : ∀ i, i < 6 → lw_qa sh' w1 i (qa i) := fun i hi => by
      rcases hqa i hi with e | ⟨a, b, x, c⟩
      · exact Or.inl e
      · obtain ⟨e1, c1, c2⟩ := hex _ _ c
        rcases e1 with x1 | o1
        · exact Or.inr ⟨(g.at a).1, b, x1, hat _ 54 _ a c1⟩
        · exact c2.elim
    refine ⟨⟨lw_ag g h19, lw_ag g h20, fun q hq => h39 q (lw_new g (by decide) hq), fun j hj => lw_ag g (h49 j hj), mcD, gD, ?_, ?_, fun j hj => ?_⟩, ?_⟩
    · rw [(g.at h20).2]
      exact hkeep 19 39 _ h19 (by decide) (by decide) (by decide) (by decide) (by decide) (by decide) hD1
    · exact hat 20 54 _ h20 (hsame 20 _ hD2 hn20)
    · rw [(g.at (h49 j hj)).2]
      exact hD3 j hj
    · -- the list that changed
      have hnewq : ∃ qc, li_L w1 (21 + j0) qc (sh.2 (21 + j0)) e0 cL (af, lw_k54 sh' w1) m' ∧ lw_qa sh' w1 j0 qc ∧ (qc = 21 + j0 ∨ qc = qa j0 ∨ w.length ≤ qc) := by
        have hL2 := hL'.adm (ad' := (af, lw_k54 sh' w1)) rfl had
        obtain ⟨f, ⟨mc, ra, a1, a2⟩, hE⟩ := hL2
        rcases a2 with a2 | ⟨N, b1, b2⟩
        · exact ⟨21 + j0, ⟨f, ⟨mc, ra, a1, Or.inl a2⟩, hE⟩, Or.inl rfl, Or.inl rfl⟩
        · refine ⟨qb, ⟨f, ⟨mc, ra, a1, Or.inr ⟨N, b1, b2⟩⟩, hE⟩, ?_, Or.inr hqb⟩
          rcases hqb with e | h
          · rcases hqaR j0 hj0 with e8 | h9
            · rw [e, e8, a1] at b1
              cases b1
            · rw [e]
              exact Or.inr h9
          · obtain ⟨a, b⟩ := hnew h b1
            exact Or.inr ⟨a, fun e => by have := hlt h20; omega, _, by rw [b]; exact b1⟩
      obtain ⟨qc, c1, c2, c3⟩ := hnewq
      refine ⟨fun j => if j = j0 then qc else qa j, fun j => if j = j0 then m' else nn j, fun j hj => ?_, fun i j hi hj hne => ?_⟩
      · show li_L w1 (21 + j) (if j = j0 then qc else qa j) (sh'.2 (21 + j)) e0 cL (af, lw_k54 sh' w1) (if j = j0 then m' else nn j) ∧ (if j = j0 then m' else nn j) ≤ 20 ∧ lw_qa sh' w1 j (if j = j0 then qc else qa j)
        rw [(g.at (h49 j hj)).2]
        by_cases e : j = j0
        · subst e
          rw [if_pos rfl, if_pos rfl]
          exact ⟨c1, hm', c2⟩
        · rw [if_neg e, if_neg e]
          obtain ⟨d1, d2⟩ := hq21 j hj e
          exact ⟨((hLs j hj).1.st hR hnb d1 d2).adm rfl had, (hLs j hj).2.1, hqaR j hj⟩
      · show (if i = j0 then qc else qa i) ≠ (if j = j0 then qc else qa j)
        have hc9 : ∀ i, i < 6 → i ≠ j0 → qc ≠ qa i := fun i hi hne e => by
          rcases c3 with e9 | e9 | e9
          · rcases hqa i hi with e8 | ⟨a, -, -⟩
            · omega
            · rw [← e, e9] at a
              exact absurd (Option.some.inj (a.symm.trans (h49 j0 hj0))) (by decide)
          · exact hqne j0 i hj0 hi (Ne.symm hne) (e9.symm.trans e)
          · have := hqw i hi
            omega
        by_cases e1 : i = j0
        · by_cases e2 : j = j0
          · exact absurd (e1.trans e2.symm) hne
          · rw [if_pos e1, if_neg e2]
            exact hc9 j hj e2
        · by_cases e2 : j = j0
          · rw [if_neg e1, if_pos e2]
            exact Ne.symm (hc9 i hi e1)
          · rw [if_neg e1, if_neg e2]
            exact hqne i j hi hj hne
  · obtain ⟨⟨l0, l1, l2, l3⟩, h2, h3, h4, h5⟩ := hLA
    exact ⟨⟨Nat.lt_of_lt_of_le l0 g.len, Nat.lt_of_lt_of_le l1 g.len, Nat.lt_of_lt_of_le l2 g.len, Nat.lt_of_lt_of_le l3 g.len⟩, (g.2 _ l0).trans h2, (g.2 _ l1).trans h3, (g.2 _ l2).trans h4, (g.2 _ l3).trans h5⟩
end
