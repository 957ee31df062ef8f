/-! Omega is stable -/
def lw_om (sh : en_H) : Prop := sh.1[0]? = some 20 ∧ sh.1[1]? = some 21 ∧ (∀ j, j < 9 → sh.1[2 + j]? = some 22 ∨ sh.1[2 + j]? = some 48) ∧ sh.1[11]? = some 26 ∧ (∀ j, j < 6 → sh.1[12 + j]? = some 27) ∧ sh.1[18]? = some 28 ∧ ∀ q, sh.1[q]? = some 20 → q = 0
theorem lw_Om {cx cy : Int32} {sh : en_H} (h : lw_om sh) : en_Om en_om0 sh (en_Of cx cy) := by
  obtain ⟨h0, h1, hr, h11, hb, h18, hu⟩ := h
  have hlen : 19 ≤ sh.1.length := (List.getElem?_eq_some_iff.mp h18).1
  refine ⟨fun a md tk sh' ws ws' hg hmd hF hΩ => ?_, fun a tk tk' sh1 sh2 ws g1 g2 hΩ => ?_, hu⟩
  · have nm : ∀ z, (a, z) ∈ en_om0 → z ∉ md := fun z hz hm => hmd z hm hz
    have lab : ∀ (q k : Nat), sh.1[q]? = some k → sh'.1[q]? = some k := fun q k hq => (hg.at hq).1
    by_cases ha : 3 ≤ a
    · match a, ha with
      | n + 3, _ => exact True.intro
    have had : en_ad sh' ws := by
      match a, ha with
      | 0, _ => exact hΩ.1
      | 1, _ => exact hΩ.1
      | 2, _ => exact hΩ.1
      | n + 3, ha => exact absurd (Nat.le_add_left 3 n) ha
    have stp : ∀ (q k r : Nat) (e0 : va_E), q < 19 → sh.1[q]? = some k → ws[q]? = some (r, e0) → ∃ e, ws'[q]? = some (r, e) ∧ en_Fc md k e0 e := fun q k r e0 hq hk hw => by
      obtain ⟨e9, h9⟩ := had q hq
      have er : r = sh'.2 q := (Prod.mk.inj (Option.some.inj (hw.symm.trans h9))).1
      subst er
      exact hF q k e0 (lab q k hk) hw
    have had' : en_ad sh' ws' := fun q hq => by
      obtain ⟨e9, h9⟩ := had q hq
      obtain ⟨e, a1, -⟩ := stp q _ _ e9 hq (List.getElem?_eq_getElem (show q < sh.1.length by omega)) h9
      exact ⟨e, a1⟩
    have obj : ∀ (m0 cM : Nat) (fs : List Value), ws[0]? = some (m0, .inr (cM, fs)) → ∃ fs', ws'[0]? = some (m0, .inr (cM, fs')) ∧ ∀ j, (20, j) ∉ md → fs'[j]? = fs[j]? := fun m0 cM fs hw => by
      obtain ⟨e, a1, a2⟩ := stp 0 20 _ _ (by decide) h0 hw
      rcases e with x | ⟨ci, fs'⟩
      · exact a2.elim
      · obtain ⟨b1, -, b3⟩ := a2
        have b1 : ci = cM := b1
        subst b1
        exact ⟨fs', a1, b3⟩
    have arr : ∀ (q k r : Nat) (x : ClassId × vp_A), q < 19 → sh.1[q]? = some k → (k, 0) ∉ md → ws[q]? = some (r, .inl x) → ws'[q]? = some (r, .inl x) := fun q k r x hq hk hm hw => by
      obtain ⟨e, a1, a2⟩ := stp q k r _ hq hk hw
      rcases e with x' | o
      · rw [a1, a2.2.2 hm]
      · exact a2.elim
    have crow : ∀ (fs fs' : List Value) (h : Nat) (g : Nat → Int32), fs'[0]? = fs[0]? → (21, 0) ∉ md → (22, 0) ∉ md → (48, 0) ∉ md → h < 9 → en_cr ws fs h g → en_cr ws' fs' h g := fun fs fs' h g e m1 m2 m3 hh hc => by
      obtain ⟨a, cA, n, f, b, cB, n2, c1, c2, c3, c4⟩ := hc
      refine ⟨a, cA, n, f, b, cB, n2, e.trans c1, arr 1 21 _ _ (by decide) h1 m1 c2, c3, ?_⟩
      rcases hr h hh with hk | hk
      · exact arr (2 + h) 22 _ _ (by omega) hk m2 c4
      · exact arr (2 + h) 48 _ _ (by omega) hk m3 c4
    have brow : ∀ (fs fs' : List Value) (j b : Nat), fs'[3]? = fs[3]? → (26, 0) ∉ md → j < 6 → en_br ws fs j b → en_br ws' fs' j b := fun fs fs' j b e m1 hj hc => by
      obtain ⟨a, cA, n, f, x, c1, c2, c3, c4⟩ := hc
      obtain ⟨e9, a1, a2⟩ := stp (12 + j) 27 _ _ (by omega) (hb j hj) c4
      rcases e9 with x' | o
      · exact ⟨a, cA, n, f, x', e.trans c1, arr 11 26 _ _ (by decide) h11 m1 c2, c3, a1⟩
      · exact a2.elim
    match a, ha with
    | 0, _ =>
      obtain ⟨-, m0, cM, fs, h, g, o1, o2, o3, o4, o5, o6⟩ := hΩ
      obtain ⟨fs', p1, p2⟩ := obj _ _ _ o1
      exact ⟨had', m0, cM, fs', h, g, p1, (p2 25 (nm (20, 25) (by decide))).trans o2, crow fs fs' _ g (p2 0 (nm (20, 0) (by decide))) (nm (21, 0) (by decide)) (nm (22, 0) (by decide)) (nm (48, 0) (by decide)) o6 o3, o4, o5, o6⟩
    | 1, _ =>
      obtain ⟨-, m0, cM, fs, hn, o1, o2, o3, o4⟩ := hΩ
      obtain ⟨fs', p1, p2⟩ := obj _ _ _ o1
      refine ⟨had', m0, cM, fs', hn, p1, (p2 16 (nm (20, 16) (by decide))).trans o2, fun h h8 h9 => ?_, fun j hj => ?_⟩
      · obtain ⟨g, g1, g2⟩ := o3 h h8 h9
        exact ⟨g, crow fs fs' _ g (p2 0 (nm (20, 0) (by decide))) (nm (21, 0) (by decide)) (nm (22, 0) (by decide)) (nm (48, 0) (by decide)) h9 g1, g2⟩
      · obtain ⟨b, hb9⟩ := o4 j hj
        exact ⟨b, brow fs fs' j b (p2 3 (nm (20, 3) (by decide))) (nm (26, 0) (by decide)) hj hb9⟩
    | 2, _ =>
      obtain ⟨-, cx9, cy9, ⟨m1, cM1, fs1, h, g, q1, q2, q3, q4, q5, q6⟩, m0, cM, fs, o1, o2, o3⟩ := hΩ
      have ee := Option.some.inj (q1.symm.trans o1)
      simp only [Prod.mk.injEq, Sum.inr.injEq] at ee
      obtain ⟨rfl, rfl, rfl⟩ := ee
      obtain ⟨fs', p1, p2⟩ := obj _ _ _ o1
      refine ⟨had', cx9, cy9, ⟨m1, cM1, fs', h, g, p1, (p2 25 (nm (20, 25) (by decide))).trans q2, crow fs1 fs' _ g (p2 0 (nm (20, 0) (by decide))) (nm (21, 0) (by decide)) (nm (22, 0) (by decide)) (nm (48, 0) (by decide)) q6 q3, q4, q5, q6⟩, m1, cM1, fs', p1, fun j hj => ?_, ?_⟩
      · obtain ⟨b, cB, n, g9, b1, b2, b3⟩ := o2 j hj
        exact ⟨b, cB, n, g9, brow fs1 fs' j b (p2 3 (nm (20, 3) (by decide))) (nm (26, 0) (by decide)) hj b1, arr (12 + j) 27 _ _ (by omega) (hb j hj) (nm (27, 0) (by decide)) b2, b3⟩
      · rcases o3 with h9 | ⟨a9, cA, n, g9, g1, g2, g3⟩
        · exact Or.inl ((p2 28 (nm (20, 28) (by decide))).trans h9)
        · exact Or.inr ⟨a9, cA, n, g9, (p2 4 (nm (20, 4) (by decide))).trans g1, arr 18 28 _ _ (by decide) h18 (nm (28, 0) (by decide)) g2, g3⟩
    | n + 3, ha => exact absurd (Nat.le_add_left 3 n) ha
  · have hl1 : 19 ≤ sh1.1.length := Nat.le_trans hlen g1.len
    have key : en_ad sh1 ws → en_ad sh2 ws := fun had q hq => by
      obtain ⟨e, h9⟩ := had q hq
      exact ⟨e, by rw [g2.2 q (by omega)]; exact h9⟩
    match a, hΩ with
    | 0, hΩ => exact ⟨key hΩ.1, hΩ.2⟩
    | 1, hΩ => exact ⟨key hΩ.1, hΩ.2⟩
    | 2, hΩ => exact ⟨key hΩ.1, hΩ.2⟩
    | n + 3, _ => exact True.intro
/-- of the shape with one row apart -/
theorem lw_omr {sh : en_H} {k : Nat} (h : lw_om sh) (hs : lw_sp sh) : lw_om (lw_rl k sh) := by
  obtain ⟨h0, h1, hr, h11, hb, h18, hu⟩ := h
  have at9 : ∀ (q x : Nat), ¬ (2 ≤ q ∧ q < 11) → sh.1[q]? = some x → (lw_rl k sh).1[q]? = some x := fun q x hq hx => by
    rw [lw_rlat, hx]
    show some (if 2 ≤ q ∧ q < 11 ∧ q ≠ 2 + k then 48 else x) = some x
    rw [if_neg fun z => hq ⟨z.1, z.2.1⟩]
  refine ⟨at9 0 _ (by omega) h0, at9 1 _ (by omega) h1, fun j hj => ?_, at9 11 _ (by omega) h11, fun j hj => at9 _ _ (by omega) (hb j hj), at9 18 _ (by omega) h18, fun q hq => ?_⟩
  · rw [lw_rlat, hs.1 j hj]
    show some (if 2 ≤ 2 + j ∧ 2 + j < 11 ∧ 2 + j ≠ 2 + k then 48 else 22) = some 22 ∨ some (if 2 ≤ 2 + j ∧ 2 + j < 11 ∧ 2 + j ≠ 2 + k then 48 else 22) = some 48
    split
    · exact Or.inr rfl
    · exact Or.inl rfl
  · rw [lw_rlat] at hq
    obtain ⟨x, x1, x2⟩ := Option.map_eq_some_iff.mp hq
    split at x2
    · cases x2
    · subst x2
      exact hu q x1
