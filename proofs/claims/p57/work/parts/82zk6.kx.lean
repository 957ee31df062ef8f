/-! what lasts between the calls: the class's refs, and forms that are lawful -/
def kx_sh (sh : en_H) : Prop := (sh.1[66]? = some 0 ∧ sh.1[67]? = some 1 ∧ sh.1[86]? = some 2) ∧ (∀ j, j < 9 → sh.1[68 + 2 * j]? = some 5 ∧ sh.1[69 + 2 * j]? = some 6) ∧ ∀ j, j < 6 → sh.1[87 + 8 * j]? = some 7 ∧ sh.1[88 + 8 * j]? = some 8 ∧ sh.1[89 + 8 * j]? = some 9 ∧ sh.1[92 + 8 * j]? = some 10 ∧ sh.1[93 + 8 * j]? = some 11 ∧ sh.1[94 + 8 * j]? = some 12
theorem kx_sh.gr {tk : List Nat} {sh sh' : en_H} (g : en_Gr tk sh sh') (h : kx_sh sh) : kx_sh sh' := by
  obtain ⟨⟨a, b, c⟩, d, e⟩ := h
  refine ⟨⟨(g.at a).1, (g.at b).1, (g.at c).1⟩, fun j hj => ?_, fun j hj => ?_⟩
  · obtain ⟨d1, d2⟩ := d j hj
    exact ⟨(g.at d1).1, (g.at d2).1⟩
  · obtain ⟨e1, e2, e3, e4, e5, e6⟩ := e j hj
    exact ⟨(g.at e1).1, (g.at e2).1, (g.at e3).1, (g.at e4).1, (g.at e5).1, (g.at e6).1⟩
/-- a form's row and array, lawful -/
def ks_fo (tys : List (ClassId × FieldType)) (sh : en_H) (w : va_W) (j : Nat) : Prop := ∃ (cI : ClassId) (g : Nat → Int32) (n : Nat) (ix lo : Int32), tys[0]? = some (cI, .int) ∧ w[93 + 8 * j]? = some (sh.2 (93 + 8 * j), .inr (8, [.ref (sh.2 (94 + 8 * j)), .int (nI n), .int ix, .int lo])) ∧ w[94 + 8 * j]? = some (sh.2 (94 + 8 * j), .inl (cI, 20, .inl g)) ∧ n ≤ 20 ∧ ks_ok g n ix lo
def kx_R (tys : List (ClassId × FieldType)) (sh : en_H) (w : va_W) : Prop := kx_sh sh ∧ (∃ fx : List Value, w[66]? = some (sh.2 66, .inr (12, fx)) ∧ fx[0]? = some (.ref (sh.2 67)) ∧ fx[1]? = some (.ref (sh.2 86))) ∧ (∃ (cH : ClassId) (f : Nat → Option Nat), tys[3]? = some (cH, .object "FairwayChancery$Hole") ∧ w[67]? = some (sh.2 67, .inl (cH, 9, .inr (.inr (.inr (.inr f))))) ∧ ∀ j, j < 9 → f j = some (sh.2 (68 + 2 * j))) ∧ (∃ (cP : ClassId) (f : Nat → Option Nat), tys[4]? = some (cP, .object "FairwayChancery$Player") ∧ w[86]? = some (sh.2 86, .inl (cP, 6, .inr (.inr (.inr (.inr f))))) ∧ ∀ j, j < 6 → f j = some (sh.2 (87 + 8 * j))) ∧ (∀ j, j < 9 → ∃ vs : List Value, w[68 + 2 * j]? = some (sh.2 (68 + 2 * j), .inr (9, vs)) ∧ vs[0]? = some (.ref (sh.2 (69 + 2 * j)))) ∧ ∀ j, j < 6 → (∃ vs : List Value, w[87 + 8 * j]? = some (sh.2 (87 + 8 * j), .inr (11, vs)) ∧ vs[0]? = some (.ref (sh.2 (88 + 8 * j))) ∧ vs[1]? = some (.ref (sh.2 (89 + 8 * j))) ∧ vs[2]? = some (.ref (sh.2 (93 + 8 * j)))) ∧ (∃ vs : List Value, w[89 + 8 * j]? = some (sh.2 (89 + 8 * j), .inr (7, vs)) ∧ vs[2]? = some (.ref (sh.2 (92 + 8 * j)))) ∧ ks_fo tys sh w j
/-- the fields that say it -/
def lw_wt : List (Nat × Nat) := [(0, 0), (0, 1), (1, 0), (2, 0), (5, 0), (7, 0), (7, 1), (7, 2), (9, 2), (11, 0), (11, 1), (11, 2), (11, 3), (12, 0)]
section
variable {tys : List (ClassId × FieldType)} {tk : List Nat} {md : List (Nat × Nat)} {sh sh' : en_H} {w w' : va_W} {fs : List Value}
theorem kx_Fo {q k ci : Nat} (hF : en_F md sh w w') (hq : sh.1[q]? = some k) (hw : w[q]? = some (sh.2 q, .inr (ci, fs))) : ∃ fs', w'[q]? = some (sh.2 q, .inr (ci, fs')) ∧ fs'.length = fs.length ∧ ∀ j, (k, j) ∉ md → fs'[j]? = fs[j]? := by
  obtain ⟨e, h1, h2⟩ := hF q k _ hq hw
  rcases e with x | ⟨ci', fs'⟩
  · exact h2.elim
  · obtain ⟨h3, h4, h5⟩ := h2
    have h3 : ci' = ci := h3
    subst h3
    exact ⟨fs', h1, h4, h5⟩
theorem kx_Fa {q k : Nat} {x : ClassId × vp_A} (hF : en_F md sh w w') (hq : sh.1[q]? = some k) (hm : (k, 0) ∉ md) (hw : w[q]? = some (sh.2 q, .inl x)) : w'[q]? = some (sh.2 q, .inl x) := by
  obtain ⟨e, h1, h2⟩ := hF q k _ hq hw
  rcases e with x' | o
  · rw [h1, h2.2.2 hm]
  · exact h2.elim
theorem kx_R.st (hF : en_F md sh w w') (g : en_Gr tk sh sh') (hm : ∀ z ∈ md, z ∉ lw_wt) (h : kx_R tys sh w) : kx_R tys sh' w' := by
  obtain ⟨hs, ⟨fx, a1, a2, a3⟩, ⟨cH, f, b1, b2, b3⟩, ⟨cP, f2, c1, c2, c3⟩, hh, hp⟩ := h
  have hn : ∀ z ∈ lw_wt, z ∉ md := fun z hz hm9 => hm z hm9 hz
  obtain ⟨⟨s66, s67, s86⟩, s9, s6⟩ := id hs
  have gr : ∀ {q k : Nat}, sh.1[q]? = some k → sh'.2 q = sh.2 q := fun hq => (g.at hq).2
  refine ⟨hs.gr g, ?_, ?_, ?_, fun j hj => ?_, fun j hj => ⟨?_, ?_, ?_⟩⟩
  · obtain ⟨fx', e1, -, e3⟩ := kx_Fo hF s66 a1
    exact ⟨fx', by rw [gr s66]; exact e1, (e3 0 (hn _ (by decide))).trans (by rw [gr s67]; exact a2), (e3 1 (hn _ (by decide))).trans (by rw [gr s86]; exact a3)⟩
  · exact ⟨cH, f, b1, by rw [gr s67]; exact kx_Fa hF s67 (hn _ (by decide)) b2, fun j hj => by rw [gr (s9 j hj).1]; exact b3 j hj⟩
  · exact ⟨cP, f2, c1, by rw [gr s86]; exact kx_Fa hF s86 (hn _ (by decide)) c2, fun j hj => by rw [gr (s6 j hj).1]; exact c3 j hj⟩
  · obtain ⟨vs, x1, x2⟩ := hh j hj
    obtain ⟨vs', e1, -, e3⟩ := kx_Fo hF (s9 j hj).1 x1
    exact ⟨vs', by rw [gr (s9 j hj).1]; exact e1, (e3 0 (hn (5, 0) (by decide))).trans (by rw [gr (s9 j hj).2]; exact x2)⟩
  · obtain ⟨⟨vs, x1, x2, x3, x4⟩, -, -⟩ := hp j hj
    obtain ⟨q1, q2, q3, q4, q5, q6⟩ := s6 j hj
    obtain ⟨vs', e1, -, e3⟩ := kx_Fo hF q1 x1
    exact ⟨vs', by rw [gr q1]; exact e1, (e3 0 (hn (7, 0) (by decide))).trans (by rw [gr q2]; exact x2), (e3 1 (hn (7, 1) (by decide))).trans (by rw [gr q3]; exact x3), (e3 2 (hn (7, 2) (by decide))).trans (by rw [gr q5]; exact x4)⟩
  · obtain ⟨-, ⟨vs, x1, x2⟩, -⟩ := hp j hj
    obtain ⟨q1, q2, q3, q4, q5, q6⟩ := s6 j hj
    obtain ⟨vs', e1, -, e3⟩ := kx_Fo hF q3 x1
    exact ⟨vs', by rw [gr q3]; exact e1, (e3 2 (hn (9, 2) (by decide))).trans (by rw [gr q4]; exact x2)⟩
  · obtain ⟨-, -, cI, gg, n, ix, lo, t0, x1, x2, x3, x4⟩ := hp j hj
    obtain ⟨q1, q2, q3, q4, q5, q6⟩ := s6 j hj
    obtain ⟨fo, e1, e2, e3⟩ := kx_Fo hF q5 x1
    have eo : fo = [.ref (sh.2 (94 + 8 * j)), .int (nI n), .int ix, .int lo] := List.ext_getElem? fun i => by
      rcases Nat.lt_or_ge i 4 with hi | hi
      · refine e3 i (hn (11, i) ?_)
        match i, hi with
        | 0, _ => decide
        | 1, _ => decide
        | 2, _ => decide
        | 3, _ => decide
        | n + 4, h => exact absurd h (by omega)
      · have e2 : fo.length = 4 := e2
        rw [List.getElem?_eq_none (by omega), List.getElem?_eq_none hi]
    subst eo
    exact ⟨cI, gg, n, ix, lo, t0, by rw [gr q5, gr q6]; exact e1, by rw [gr q6]; exact kx_Fa hF q6 (hn (12, 0) (by decide)) x2, x3, x4⟩
end
