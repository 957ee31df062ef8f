/-! the engine: what is known -/
def en_int (env : List en_A) (i : Nat) : Bool := match en_eff env i with
  | some _ => true
  | none => false
def en_dis (env : List en_A) (i : Nat) (lo hi : Int) : Bool := match en_eff env i with
  | some r => decide (r.2 < lo) || decide (hi < r.1)
  | none => false
/-- no cell -/
def en_oc (env : List en_A) (b c : Nat) : Bool := (en_dis env b 0 29 || en_dis env c 0 19) && (en_int env b && en_int env c)
def en_has (env : List en_A) (fa : List en_X) : en_X → Bool
  | (3, a, b, c, lo, hi) => fa.contains (3, a, b, c, lo, hi) || ((fa.contains (2, b, c, 0, 0, 0) && en_int env a) || (en_dis env a lo hi && (en_int env b && en_int env c)))
  | (10, a, b, c, lo, hi) => fa.contains (10, a, b, c, lo, hi) || (((fa.contains (2, b, c, 0, 0, 0) || fa.contains (11, b, c, 0, 0, 0)) && en_int env a) || ((en_dis env a lo hi && (en_int env b && en_int env c)) || (en_int env a && en_oc env b c)))
  | (11, b, c, d, lo, hi) => fa.contains (11, b, c, d, lo, hi) || (fa.contains (2, b, c, 0, 0, 0) || en_oc env b c)
  | (16, a, b, c, lo, hi) => fa.contains (16, a, b, c, lo, hi) || ((en_int env a && en_int env b) && (a == b || en_dis env b 0 0))
  | f => fa.contains f
theorem en_int_ok {sh : en_H} {env : List en_A} {ρ : List Value} {i : Nat} (he : en_E sh env ρ) (h : en_int env i = true) : ∃ x : Int32, ρ[i]? = some (.int x) := by
  unfold en_int at h
  split at h
  · next r hr =>
    obtain ⟨x, h1, -⟩ := en_eff_ok he hr
    exact ⟨x, h1⟩
  · cases h
theorem en_dis_ok {sh : en_H} {env : List en_A} {ρ : List Value} {i : Nat} {lo hi : Int} (he : en_E sh env ρ) (h : en_dis env i lo hi = true) : ∃ x : Int32, ρ[i]? = some (.int x) ∧ ¬ (lo ≤ x.toInt ∧ x.toInt ≤ hi) := by
  unfold en_dis at h
  split at h
  · next r hr =>
    obtain ⟨x, h1, h2, h3⟩ := en_eff_ok he hr
    refine ⟨x, h1, fun hh => ?_⟩
    simp only [Bool.or_eq_true, decide_eq_true_eq] at h
    omega
  · cases h
theorem en_oc_ok {sh : en_H} {env : List en_A} {ρ : List Value} {b c : Nat} (he : en_E sh env ρ) (h : en_oc env b c = true) : ∃ x y : Int32, ρ[b]? = some (.int x) ∧ ρ[c]? = some (.int y) ∧ ¬ en_ce x y := by
  simp only [en_oc, Bool.and_eq_true, Bool.or_eq_true] at h
  obtain ⟨h1, h2, h3⟩ := h
  obtain ⟨x, hx⟩ := en_int_ok he h2
  obtain ⟨y, hy⟩ := en_int_ok he h3
  refine ⟨x, y, hx, hy, fun hc => ?_⟩
  rcases h1 with h1 | h1
  · obtain ⟨x', g1, g2⟩ := en_dis_ok he h1
    have e : x' = x := Value.int.inj (Option.some.inj (g1.symm.trans hx))
    subst e
    exact g2 ⟨hc.1, hc.2.1⟩
  · obtain ⟨x', g1, g2⟩ := en_dis_ok he h1
    have e : x' = y := Value.int.inj (Option.some.inj (g1.symm.trans hy))
    subst e
    exact g2 ⟨hc.2.2.1, hc.2.2.2⟩
theorem en_has_ok {PP : Int32 → Int32 → Prop} {Ω : Nat → en_H → va_W → Prop} {ws : va_W} {sh : en_H} {env : List en_A} {ρ : List Value} {fa : List en_X} (he : en_E sh env ρ) (hfa : ∀ f ∈ fa, en_fs PP Ω sh ws ρ f) {f : en_X} (h : en_has env fa f = true) : en_fs PP Ω sh ws ρ f := by
  have hdef : ∀ g, fa.contains g = true → en_fs PP Ω sh ws ρ g := fun g hg => hfa g (List.contains_iff_mem.mp hg)
  obtain ⟨tag, a, b, c, lo, hi⟩ := f
  match tag with
  | 0 => exact hdef _ h
  | 1 => exact hdef _ h
  | 2 => exact hdef _ h
  | 3 =>
    simp only [en_has, Bool.or_eq_true, Bool.and_eq_true] at h
    rcases h with h | ⟨h, h0⟩ | ⟨h, h1, h2⟩
    · exact hdef _ h
    · obtain ⟨y, z, p1, p2, p3⟩ := hdef _ h
      obtain ⟨x, p0⟩ := en_int_ok he h0
      exact ⟨x, y, z, p0, p1, p2, fun _ _ => p3⟩
    · obtain ⟨y, p1⟩ := en_int_ok he h1
      obtain ⟨z, p2⟩ := en_int_ok he h2
      obtain ⟨x, q1, q2⟩ := en_dis_ok he h
      exact ⟨x, y, z, q1, p1, p2, fun a1 a2 => absurd ⟨a1, a2⟩ q2⟩
  | 4 => exact hdef _ h
  | 5 => exact hdef _ h
  | 6 => exact hdef _ h
  | 7 => exact hdef _ h
  | 8 => exact hdef _ h
  | 9 => exact hdef _ h
  | 10 =>
    simp only [en_has, Bool.or_eq_true, Bool.and_eq_true] at h
    rcases h with h | ⟨h | h, h0⟩ | ⟨h, h1, h2⟩ | ⟨h0, h⟩
    · exact hdef _ h
    · obtain ⟨y, z, p1, p2, p3⟩ := hdef _ h
      obtain ⟨x, p0⟩ := en_int_ok he h0
      exact ⟨x, y, z, p0, p1, p2, fun _ _ _ => p3⟩
    · obtain ⟨y, z, p1, p2, p3⟩ := hdef _ h
      obtain ⟨x, p0⟩ := en_int_ok he h0
      exact ⟨x, y, z, p0, p1, p2, fun _ _ => p3⟩
    · obtain ⟨y, p1⟩ := en_int_ok he h1
      obtain ⟨z, p2⟩ := en_int_ok he h2
      obtain ⟨x, q1, q2⟩ := en_dis_ok he h
      exact ⟨x, y, z, q1, p1, p2, fun a1 a2 => absurd ⟨a1, a2⟩ q2⟩
    · obtain ⟨x, p0⟩ := en_int_ok he h0
      obtain ⟨y, z, p1, p2, p3⟩ := en_oc_ok he h
      exact ⟨x, y, z, p0, p1, p2, fun _ _ hc => absurd hc p3⟩
  | 11 =>
    simp only [en_has, Bool.or_eq_true] at h
    rcases h with h | h | h
    · exact hdef _ h
    · obtain ⟨y, z, p1, p2, p3⟩ := hdef _ h
      exact ⟨y, z, p1, p2, fun _ => p3⟩
    · obtain ⟨y, z, p1, p2, p3⟩ := en_oc_ok he h
      exact ⟨y, z, p1, p2, fun hc => absurd hc p3⟩
  | 12 => exact hdef _ h
  | 13 => exact hdef _ h
  | 14 => exact hdef _ h
  | 15 => exact hdef _ h
  | 16 =>
    simp only [en_has, Bool.or_eq_true, Bool.and_eq_true, beq_iff_eq] at h
    rcases h with h | ⟨⟨h1, h2⟩, h⟩
    · exact hdef _ h
    · obtain ⟨x, p1⟩ := en_int_ok he h1
      obtain ⟨y, p2⟩ := en_int_ok he h2
      refine ⟨x, y, p1, p2, fun hx hy => ?_⟩
      rcases h with h | h
      · subst h
        have e : x = y := Value.int.inj (Option.some.inj (p1.symm.trans p2))
        exact hx (e.trans hy)
      · obtain ⟨y', q1, q2⟩ := en_dis_ok he h
        have e : y' = y := Value.int.inj (Option.some.inj (q1.symm.trans p2))
        subst e
        subst hy
        exact q2 (by decide)
  | _ + 17 => exact hdef _ h
