/-! the ball ahead, told by a contract's out -/
def lw_sy (fa : List en_X) (a j : Nat) : Nat := match fa.find? (fun f => f.1 == 1 && (f.2.1 == a && f.2.2.1 == j)) with
  | some f => f.2.2.2.1
  | none => 1000
def lw_vs (fa : List en_X) (a : Nat) : List Nat := (List.range 24).map (lw_sy fa a)
def lw_pl (env : List en_A) : Bool := env.all fun a => match a with
  | .inl r => r.2.2.1 == 0
  | _ => true
theorem lw_pl_ok {PP : Int32 → Int32 → Prop} {Ω : Nat → en_H → va_W → Prop} {sh : en_H} {w : va_W} {o : en_Pt} {ρ : List Value} (h : lw_pl o.1 = true) (hPa : en_Pa PP Ω sh w o ρ) : en_E sh o.1 ρ := ⟨hPa.1, fun i a hi => by
  obtain ⟨v, h1, h2⟩ := hPa.2.1 i a hi
  refine ⟨v, h1, h2, fun lo hi' b o9 e => ?_⟩
  subst e
  have h9 := List.all_eq_true.mp h _ (List.mem_of_getElem? hi)
  simp at h9⟩
def lw_fit (o : en_Pt) : Bool := lw_pl o.1 && o.2.any fun f => f.1 == 0 && (f.2.1 == 0 && (f.2.2.1 == 4 && ((List.range 24).all (fun j => o.2.contains (1, f.2.2.2.1, j, lw_sy o.2 f.2.2.2.1 j, 0, 0)) && (en_clk o.1 en_V27.1 (lw_vs o.2 f.2.2.2.1) && en_V27.2.all (en_cli o.1 o.2 (lw_vs o.2 f.2.2.2.1))))))
theorem lw_fit_ok {PP : Int32 → Int32 → Prop} {Ω : Nat → en_H → va_W → Prop} {sh : en_H} {w : va_W} {A : Nat → Prop} {o : en_Pt} {ρ fs : List Value} (h : lw_fit o = true) (hD : va_D A w) (hw : w[0]? = some (sh.2 0, .inr (13, fs))) (h0 : ρ[0]? = some (.ref (sh.2 0))) (hPa : en_Pa PP Ω sh w o ρ) : ∃ (a q n : Nat) (cA : ClassId) (g : Nat → Int32), fs[4]? = some (.ref a) ∧ w[q]? = some (a, .inl (cA, n, .inl g)) ∧ en_Inv PP en_V27 g := by
  unfold lw_fit at h
  simp only [Bool.and_eq_true] at h
  obtain ⟨hpl, h⟩ := h
  have hE := lw_pl_ok hpl hPa
  obtain ⟨f, hf, h9⟩ := List.any_eq_true.mp h
  obtain ⟨tag, a, b, c, lo, hi⟩ := f
  simp only [Bool.and_eq_true, beq_iff_eq] at h9
  obtain ⟨rfl, rfl, rfl, hc, hk, hi9⟩ := h9
  obtain ⟨q, r9, ci, fs9, v9, b1, b2, b3, b4⟩ := hPa.2.2 _ hf
  have er : r9 = sh.2 0 := Value.ref.inj (Option.some.inj (b1.symm.trans h0))
  subst er
  have eq : q = 0 := hD.1 q 0 _ _ b2 hw rfl
  subst eq
  have e9 : fs9 = fs := (Prod.mk.inj (Sum.inr.inj (Prod.mk.inj (Option.some.inj (b2.symm.trans hw))).2)).2
  subst e9
  have hrow : ∀ j, j < 24 → en_fs PP Ω sh w ρ (1, c, j, lw_sy o.2 c j, 0, 0) := fun j hj => hPa.2.2 _ (List.contains_iff_mem.mp (List.all_eq_true.mp hc j (List.mem_range.mpr hj)))
  obtain ⟨q0, r0, n0, cA0, g, d1, d2, d3, d4⟩ := hrow 0 (by decide)
  have ev : v9 = .ref r0 := Option.some.inj (b4.symm.trans d1)
  subst ev
  have hg : ∀ j, j < 24 → ρ[lw_sy o.2 c j]? = some (.int (g j)) := fun j hj => by
    obtain ⟨q1, r1, n1, cA1, g1, f1, f2, f3, f4⟩ := hrow j hj
    have er : r1 = r0 := Value.ref.inj (Option.some.inj (f1.symm.trans d1))
    subst er
    have eq : q1 = q0 := hD.1 q1 q0 _ _ f2 d2 rfl
    subst eq
    have e9 := Option.some.inj (f2.symm.trans d2)
    simp only [Prod.mk.injEq, Sum.inl.injEq, true_and] at e9
    obtain ⟨-, -, rfl⟩ := e9
    exact f4
  have hvs : ∀ (j cx : Nat), (lw_vs o.2 c)[j]? = some cx → ρ[cx]? = some (Value.int (g j)) := fun j cx hj => by
    unfold lw_vs at hj
    rw [List.getElem?_map] at hj
    obtain ⟨j', h1, h2⟩ := Option.map_eq_some_iff.mp hj
    have h3 : j < 24 := by
      have := (List.getElem?_eq_some_iff.mp h1).1
      rw [List.length_range] at this
      exact this
    rw [List.getElem?_range h3] at h1
    have e := Option.some.inj h1
    subst e
    rw [← h2]
    exact hg j h3
  refine ⟨r0, q0, n0, cA0, g, b3, d2, fun j r hr => ?_, fun m hm a1 a2 => ?_⟩
  · have hj : j < (lw_vs o.2 c).length := by rw [← en_clk_len _ _ hk]; exact (List.getElem?_eq_some_iff.mp hr).1
    have hc9 : (lw_vs o.2 c)[j]? = some (lw_vs o.2 c)[j] := List.getElem?_eq_getElem hj
    obtain ⟨x, x1, x2, x3⟩ := en_clk_ok hE _ _ hk j r _ hr hc9
    have ex : x = g j := Value.int.inj (Option.some.inj (x1.symm.trans (hvs j _ hc9)))
    subst ex
    exact ⟨x2, x3⟩
  · have hm2 := List.all_eq_true.mp hi9 m hm
    unfold en_cli at hm2
    split at hm2
    · next fo hop =>
      obtain ⟨a', b', c', p1, p2, p3, p4⟩ := en_opi_ok hop
      subst p4
      have va := hvs _ _ p1
      have vb := hvs _ _ p2
      have vc := hvs _ _ p3
      have h99 := en_has_ok hE hPa.2.2 hm2
      by_cases ht : 100 ≤ m.2.2.2.1
      · rw [if_pos ht] at h99
        obtain ⟨x, y, z, r1, r2, r3, r4⟩ := h99
        have e1 : x = g m.1 := Value.int.inj (Option.some.inj (r1.symm.trans va))
        have e2 : y = g (m.2.2.2.1 % 100) := Value.int.inj (Option.some.inj (r2.symm.trans vb))
        have e3 : z = g m.2.2.2.2 := Value.int.inj (Option.some.inj (r3.symm.trans vc))
        intro hc9
        rw [← e1] at a1 a2
        rw [← e2, ← e3] at hc9 ⊢
        exact r4 a1 a2 (hc9 ht)
      · rw [if_neg ht] at h99
        obtain ⟨x, y, z, r1, r2, r3, r4⟩ := h99
        have e1 : x = g m.1 := Value.int.inj (Option.some.inj (r1.symm.trans va))
        have e2 : y = g (m.2.2.2.1 % 100) := Value.int.inj (Option.some.inj (r2.symm.trans vb))
        have e3 : z = g m.2.2.2.2 := Value.int.inj (Option.some.inj (r3.symm.trans vc))
        intro _
        rw [← e1] at a1 a2
        rw [← e2, ← e3]
        exact r4 a1 a2
    · cases hm2
section
variable {tys : List (ClassId × FieldType)} {cO cD : ClassId} {A : Nat → Prop} {sh : en_H} {w : va_W} {qx qo qd : Nat} {E : Int32 → Int32 → Prop} {LP : en_H → va_W → Prop} {st : Nat} {cx cy : Int32} {fs fs' : List Value} {tk : List Nat} {md : List (Nat × Nat)} {u : en_H × va_W}
/-- the way to the ball ahead -/
theorem lw_to28 (I : lw_I E LP tys cO cD qx qo qd sh w st cx cy fs) {v : Value} (hv : fs[4]? = some v) : v = .ref (sh.2 18) := by
  obtain ⟨e, a, b⟩ := I.hs.1.2 0 20 I.h20
  obtain ⟨kd, c1, c2⟩ := b (by decide) (fun z => z)
  have e9 : e = .inr (13, fs) := (Prod.mk.inj (Option.some.inj (a.symm.trans I.hs.2.1))).2
  subst e9
  rw [lw_KT_eq st 20 (by decide) (by decide)] at c1
  obtain ⟨ts, h1, h2⟩ : ∃ ts, en_KT[20]? = some (.inl (13, ts)) ∧ ts[4]? = some (.inr (.inl 28)) := ⟨_, rfl, rfl⟩
  have e := Option.some.inj (h1.symm.trans c1)
  subst e
  obtain ⟨q, q1, q2⟩ := c2.2.2 4 _ v h2 hv
  rw [I.h28u q q1] at q2
  exact q2
/-- told by an out: the ball ahead fits, or there's no last stroke -/
def lw_ot (o : en_Pt) : Bool := lw_l28 o || lw_fit o
theorem lw_aho {κ : en_K} {ρ : List Value} {res : Option Value} (I : lw_I E LP tys cO cD qx qo qd sh w st cx cy fs) (ha : κ.2.2.1.all lw_ot = true) (h4 : (20, 4) ∉ κ.2.2.2.1) (hD : va_D A u.2) (hw' : u.2[0]? = some (u.1.2 0, .inr (13, fs'))) (h : en_Po tys (en_Pc cx cy) (en_Of cx cy) en_KT κ sh w ρ res u) (hn : 0 < κ.1) (h0 : ρ[0]? = some (.ref (sh.2 0))) : lw_ah cx cy fs' u.2 := by
  obtain ⟨hpx, o, ho, ρ', h1, h2, -⟩ := h
  have h0' : ρ'[0]? = some (.ref (u.1.2 0)) := by
    rw [h2 0 hn, (hpx.1.at I.h20).2]
    exact h0
  have h9 := List.all_eq_true.mp ha o ho
  unfold lw_ot at h9
  simp only [Bool.or_eq_true] at h9
  rcases h9 with h9 | h9
  · exact Or.inr (lw_l28_ok h9 hD hw' h0' h1)
  · obtain ⟨a, q, n, cA, g, g1, g2, g3⟩ := lw_fit_ok h9 hD hw' h0' h1
    obtain ⟨fs9, f1, f2⟩ := lw_fs I.h20 I.hs.2.1 hpx
    have e9 : fs9 = fs' := (Prod.mk.inj (Sum.inr.inj (Prod.mk.inj (Option.some.inj (f1.symm.trans hw'))).2)).2
    subst e9
    have ea := lw_to28 I ((f2 4 h4).symm.trans g1)
    have ea := Value.ref.inj ea
    subst ea
    obtain ⟨e8, a1, -⟩ := hpx.2.2 18 28 _ I.h28 (show w[18]? = some (sh.2 18, (w[18]?.getD (0, .inr (0, []))).2) from by
      obtain ⟨e7, z1, -⟩ := I.hs.1.2 18 28 I.h28
      rw [z1]
      rfl)
    have eq : q = 18 := hD.1 q 18 _ _ g2 a1 rfl
    subst eq
    exact Or.inl ⟨_, cA, n, g, g1, g2, g3⟩
theorem lw_ah24 (I : lw_I E LP tys cO cD qx qo qd sh w st cx cy fs) (hA : ∃ (a : Nat) (cA : ClassId) (n : Nat) (g : Nat → Int32), fs[4]? = some (.ref a) ∧ w[18]? = some (a, .inl (cA, n, .inl g)) ∧ en_Inv (en_Pc cx cy) en_V27 g) : ∃ (a : Nat) (cA : ClassId) (g : Nat → Int32), fs[4]? = some (.ref (sh.2 18)) ∧ w[18]? = some (sh.2 18, .inl (cA, 24, .inl g)) ∧ en_Inv (en_Pc cx cy) en_V27 g := by
  obtain ⟨a, cA, n, g, a1, a2, a3⟩ := hA
  have e := Value.ref.inj (lw_to28 I a1)
  subst e
  obtain ⟨e9, b1, b2⟩ := I.hs.1.2 18 28 I.h28
  obtain ⟨kd, c1, c2⟩ := b2 (by decide) (fun z => z)
  have ee : e9 = .inl (cA, n, .inl g) := (Prod.mk.inj (Option.some.inj (b1.symm.trans a2))).2
  subst ee
  rw [lw_KT_eq st 28 (by decide) (by decide)] at c1
  have ek := Option.some.inj (c1.symm.trans (show en_KT[28]? = some (.inr (0, 24, .inl (.inl (-2147483648, 2147483647, 0, 0)))) from rfl))
  subst ek
  obtain ⟨-, en, -⟩ := c2
  have en : n = 24 := en
  subst en
  exact ⟨0, cA, g, a1, a2, a3⟩
end
