/-! the class and the reference side by side: what is alike between the calls -/
/-- the kinds of the places -/
def kx_sh (sh : en_H) : Prop := (sh.1[0]? = some 20 ∧ sh.1[1]? = some 21 ∧ sh.1[27]? = some 23 ∧ sh.1[66]? = some 0 ∧ sh.1[67]? = some 1) ∧ ∀ j, j < 9 → sh.1[2 + j]? = some 22 ∧ sh.1[28 + j]? = some 24 ∧ sh.1[68 + 2 * j]? = some 5 ∧ sh.1[69 + 2 * j]? = some 6
theorem kx_sh.gr {tk : List Nat} {sh sh' : en_H} (g : en_Gr tk sh sh') (h : kx_sh sh) : kx_sh sh' := by
  obtain ⟨⟨a, b, c, d, e⟩, f⟩ := h
  refine ⟨⟨(g.at a).1, (g.at b).1, (g.at c).1, (g.at d).1, (g.at e).1⟩, fun j hj => ?_⟩
  obtain ⟨f1, f2, f3, f4⟩ := f j hj
  exact ⟨(g.at f1).1, (g.at f2).1, (g.at f3).1, (g.at f4).1⟩
/-- what the calls agree on: of each hole told its index, its areas and its cells' kinds; holes not told are bare -/
def kx_lk (hc : Nat) (ix ar : Nat → Int32) (ck rr mk : Nat → Nat → Int32) : Prop := (∀ j, j < 9 → 0 ≤ (ar j).toInt ∧ (ar j).toInt ≤ 12) ∧ (∀ j, j < hc → ix j = rr j 1 ∧ ar j = rr j 6 ∧ ∀ i, i < 600 → ck j i = mk j i) ∧ ∀ j, hc ≤ j → j < 9 → ar j = 0 ∧ ∀ i, i < 600 → ck j i = 46
def kx_R (tys : List (ClassId × FieldType)) (sh : en_H) (w : va_W) : Prop := kx_sh sh ∧ ∃ (fx fs : List Value) (hc pc : Nat) (bg : Int32) (ix ar : Nat → Int32) (ck rr mk : Nat → Nat → Int32), kx_X tys sh w fx hc pc bg ix ar ck ∧ kx_M tys sh w fs hc pc bg rr mk ∧ kx_lk hc ix ar ck rr mk ∧ (bg = 0 → fx[11]? = some (.int 0))
/-- the fields that say it: the class's, the reference's -/
def kx_wX : List (Nat × Nat) := [(0, 0), (0, 4), (0, 5), (1, 0), (5, 0), (5, 1), (5, 2), (5, 3), (5, 4), (5, 5), (6, 0)]
def kx_wM : List (Nat × Nat) := [(20, 0), (20, 1), (20, 16), (20, 17), (21, 0), (22, 0), (23, 0), (24, 0)]
def lw_wt : List (Nat × Nat) := kx_wX ++ (kx_wM ++ [(0, 10), (0, 11), (20, 21)])
section
variable {tys : List (ClassId × FieldType)} {tk : List Nat} {md : List (Nat × Nat)} {sh sh' : en_H} {w w' : va_W} {fx fs : List Value} {hc pc : Nat} {bg bg' : Int32} {ix ar : Nat → Int32} {ck rr mk : Nat → Nat → Int32}
theorem kx_Fo {q k ci : Nat} (hF : en_F md sh w w') (hq : sh.1[q]? = some k) (hw : w[q]? = some (sh.2 q, .inr (ci, fs))) : ∃ fs', w'[q]? = some (sh.2 q, .inr (ci, fs')) ∧ fs'.length = fs.length ∧ ∀ j, (k, j) ∉ md → fs'[j]? = fs[j]? := by
  obtain ⟨e, h1, h2⟩ := hF q k _ hq hw
  rcases e with x | ⟨ci', fs'⟩
  · exact h2.elim
  · obtain ⟨h3, h4, h5⟩ := h2
    have h3 : ci' = ci := h3
    subst h3
    exact ⟨fs', h1, h4, h5⟩
theorem kx_Fa {q k : Nat} {x : ClassId × vp_A} (hF : en_F md sh w w') (hq : sh.1[q]? = some k) (hm : (k, 0) ∉ md) (hw : w[q]? = some (sh.2 q, .inl x)) : w'[q]? = some (sh.2 q, .inl x) := by
  obtain ⟨e, h1, h2⟩ := hF q k _ hq hw
  rcases e with x' | o
  · rw [h1, h2.2.2 hm]
  · exact h2.elim
theorem kx_X.st (hF : en_F md sh w w') (g : en_Gr tk sh sh') (hs : kx_sh sh) (hm : ∀ z ∈ kx_wX, z ∉ md) (h : kx_X tys sh w fx hc pc bg ix ar ck) : ∃ fx', w'[66]? = some (sh'.2 66, .inr (12, fx')) ∧ (∀ j, (0, j) ∉ md → fx'[j]? = fx[j]?) ∧ ∀ bg' : Int32, fx'[10]? = some (.int bg') → (bg' = 0 ∨ bg' = 1) → kx_X tys sh' w' fx' hc pc bg' ix ar ck := by
  obtain ⟨⟨a1, a2, a3, a4, a5, a6, a7, a8, a9⟩, ⟨cH, f, b1, b2, b3⟩, c0, d⟩ := h
  obtain ⟨⟨s0, s1, s27, s66, s67⟩, sj⟩ := hs
  have gr : ∀ {q k : Nat}, sh.1[q]? = some k → sh'.2 q = sh.2 q := fun hq => (g.at hq).2
  obtain ⟨fx', e1, e2, e3⟩ := kx_Fo hF s66 a1
  refine ⟨fx', by rw [gr s66]; exact e1, e3, fun bg' h10 hb => ⟨⟨by rw [gr s66]; exact e1, e2.trans a2, (e3 0 (hm _ (by decide))).trans (by rw [gr s67]; exact a3), (e3 4 (hm _ (by decide))).trans a4, (e3 5 (hm _ (by decide))).trans a5, h10, a7, a8, hb⟩, ⟨cH, f, b1, by rw [gr s67]; exact kx_Fa hF s67 (hm _ (by decide)) b2, fun j hj => by rw [gr (sj j hj).2.2.1]; exact b3 j hj⟩, fun j hj => ?_, fun j hj => ?_⟩⟩
  · obtain ⟨p, c, t, x⟩ := c0 j hj
    obtain ⟨fo, o1, o2, o3⟩ := kx_Fo hF (sj j hj).2.2.1 x
    have eo : fo = [.ref (sh.2 (69 + 2 * j)), .int p, .int (ix j), .int c, .int t, .int (ar j)] := List.ext_getElem? fun i => by
      rcases Nat.lt_or_ge i 6 with hi | hi
      · refine o3 i (hm (5, i) ?_)
        match i, hi with
        | 0, _ => decide
        | 1, _ => decide
        | 2, _ => decide
        | 3, _ => decide
        | 4, _ => decide
        | 5, _ => decide
        | n + 6, h => exact absurd h (by omega)
      · have o2 : fo.length = 6 := o2
        rw [List.getElem?_eq_none (by omega), List.getElem?_eq_none hi]
    subst eo
    exact ⟨p, c, t, by rw [gr (sj j hj).2.2.1, gr (sj j hj).2.2.2]; exact o1⟩
  · obtain ⟨cX, gg, x1, x2, x3⟩ := d j hj
    exact ⟨cX, gg, x1, by rw [gr (sj j hj).2.2.2]; exact kx_Fa hF (sj j hj).2.2.2 (hm _ (by decide)) x2, x3⟩
theorem kx_M.st (hF : en_F md sh w w') (g : en_Gr tk sh sh') (hs : kx_sh sh) (hm : ∀ z ∈ kx_wM, z ∉ md) (h : kx_M tys sh w fs hc pc bg rr mk) : ∃ fs', w'[0]? = some (sh'.2 0, .inr (13, fs')) ∧ (∀ j, (20, j) ∉ md → fs'[j]? = fs[j]?) ∧ ∀ bg' : Int32, fs'[21]? = some (.int bg') → (bg' = 0 ∨ bg' = 1) → kx_M tys sh' w' fs' hc pc bg' rr mk := by
  obtain ⟨⟨a1, a2, a3, a4, a5, a6, a7, a8, a9, a10⟩, ⟨cR, f, b1, b2, b3⟩, ⟨cR2, f2, c1, c2, c3⟩, d, e⟩ := h
  obtain ⟨⟨s0, s1, s27, s66, s67⟩, sj⟩ := hs
  have gr : ∀ {q k : Nat}, sh.1[q]? = some k → sh'.2 q = sh.2 q := fun hq => (g.at hq).2
  obtain ⟨fs', e1, e2, e3⟩ := kx_Fo hF s0 a1
  refine ⟨fs', by rw [gr s0]; exact e1, e3, fun bg' h21 hb => ⟨⟨by rw [gr s0]; exact e1, e2.trans a2, (e3 0 (hm _ (by decide))).trans (by rw [gr s1]; exact a3), (e3 1 (hm _ (by decide))).trans (by rw [gr s27]; exact a4), (e3 16 (hm _ (by decide))).trans a5, (e3 17 (hm _ (by decide))).trans a6, h21, a8, a9, hb⟩, ⟨cR, f, b1, by rw [gr s1]; exact kx_Fa hF s1 (hm _ (by decide)) b2, fun j hj => by rw [gr (sj j hj).1]; exact b3 j hj⟩, ⟨cR2, f2, c1, by rw [gr s27]; exact kx_Fa hF s27 (hm _ (by decide)) c2, fun j hj => by rw [gr (sj j hj).2.1]; exact c3 j hj⟩, fun j hj => ?_, fun j hj => ?_⟩⟩
  · obtain ⟨cI, gg, x1, x2, x3⟩ := d j hj
    exact ⟨cI, gg, x1, by rw [gr (sj j hj).1]; exact kx_Fa hF (sj j hj).1 (hm _ (by decide)) x2, x3⟩
  · obtain ⟨cI, gg, x1, x2, x3⟩ := e j hj
    exact ⟨cI, gg, x1, by rw [gr (sj j hj).2.1]; exact kx_Fa hF (sj j hj).2.1 (hm _ (by decide)) x2, x3⟩
theorem kx_R.st (hF : en_F md sh w w') (g : en_Gr tk sh sh') (hm : ∀ z ∈ md, z ∉ lw_wt) (h : kx_R tys sh w) : kx_R tys sh' w' := by
  obtain ⟨hs, fx, fs, hc, pc, bg, ix, ar, ck, rr, mk, hX, hM, hl, ho⟩ := h
  have hn : ∀ z ∈ lw_wt, z ∉ md := fun z hz hm9 => hm z hm9 hz
  obtain ⟨fx', -, x2, x3⟩ := hX.st hF g hs fun z hz => hn z (List.mem_append_left _ hz)
  obtain ⟨fs', -, y2, y3⟩ := hM.st hF g hs fun z hz => hn z (List.mem_append_right _ (List.mem_append_left _ hz))
  exact ⟨hs.gr g, fx', fs', hc, pc, bg, ix, ar, ck, rr, mk, x3 bg ((x2 10 (hn _ (by decide))).trans hX.1.2.2.2.2.2.1) hX.1.2.2.2.2.2.2.2.2, y3 bg ((y2 21 (hn _ (by decide))).trans hM.1.2.2.2.2.2.2.1) hM.1.2.2.2.2.2.2.2.2.2, hl, fun hb => (x2 11 (hn _ (by decide))).trans (ho hb)⟩
end
/-! pure: what the two do, side by side -/
theorem kx_lk.hole {hc : Nat} {ix ar : Nat → Int32} {ck rr mk : Nat → Nat → Int32} {a1 a2 a3 a4 a5 a6 : Int32} (h : kx_lk hc ix ar ck rr mk) (hlt : hc < 9) : kx_lk (hc + 1) (va_up ix hc a2) ar ck (kx_rw rr hc (kx_row a1 a2 a3 a4 a5 a6)) (kx_rw mk hc fun _ => 46) := by
  obtain ⟨h0, h1, h2⟩ := h
  refine ⟨h0, fun j hj => ?_, fun j hj h9 => h2 j (by omega) h9⟩
  by_cases e : j = hc
  · subst e
    obtain ⟨b1, b2⟩ := h2 j (Nat.le_refl j) hlt
    refine ⟨?_, ?_, fun i hi => ?_⟩
    · rw [va_up_self]
      unfold kx_rw
      rw [if_pos rfl]
      rfl
    · unfold kx_rw
      rw [if_pos rfl]
      exact b1
    · unfold kx_rw
      rw [if_pos rfl]
      exact b2 i hi
  · obtain ⟨b1, b2, b3⟩ := h1 j (by omega)
    unfold kx_rw
    rw [va_up_ne _ _ e, if_neg e, if_neg e]
    refine ⟨b1, b2, fun i hi => ?_⟩
    rw [if_neg e]
    exact b3 i hi
theorem kx_lk.area {hc h : Nat} {ix ar : Nat → Int32} {ck rr mk : Nat → Nat → Int32} {a2 a3 a4 a5 a6 : Int32} (hk : kx_lk hc ix ar ck rr mk) (hh : h < hc) (hlt : (ar h).toInt < 12) (h9 : h < 9) : kx_lk hc ix (va_up ar h (ar h + 1)) (kx_ck ck h a2 a3 a4 a5 a6) (kx_ra rr h) (kx_ck mk h a2 a3 a4 a5 a6) := by
  obtain ⟨h0, h1, h2⟩ := hk
  refine ⟨fun j hj => ?_, fun j hj => ?_, fun j hj h8 => ?_⟩
  · by_cases e : j = h
    · subst e
      rw [va_up_self, Int32.toInt_add, show (1 : Int32).toInt = 1 from rfl]
      obtain ⟨b1, b2⟩ := h0 j hj
      rw [en_b32 (by omega) (by omega)]
      omega
    · rw [va_up_ne _ _ e]
      exact h0 j hj
  · obtain ⟨b1, b2, b3⟩ := h1 j hj
    by_cases e : j = h
    · subst e
      refine ⟨?_, ?_, fun i hi => ?_⟩
      · unfold kx_ra
        rw [if_neg fun h => absurd h.2 (by decide)]
        exact b1
      · unfold kx_ra
        rw [va_up_self, if_pos ⟨rfl, rfl⟩, b2]
      · unfold kx_ck kx_pt
        rw [if_pos rfl, if_pos rfl]
        split
        · rfl
        · exact b3 i hi
    · unfold kx_ra kx_ck
      rw [va_up_ne _ _ e, if_neg fun h => e h.1, if_neg fun h => e h.1]
      refine ⟨b1, b2, fun i hi => ?_⟩
      rw [if_neg e, if_neg e]
      exact b3 i hi
  · have e : j ≠ h := by omega
    obtain ⟨b1, b2⟩ := h2 j hj h8
    unfold kx_ck
    rw [va_up_ne _ _ e]
    refine ⟨b1, fun i hi => ?_⟩
    rw [if_neg e]
    exact b2 i hi
